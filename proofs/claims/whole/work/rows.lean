section
-- ===== PART A: goes FIRST, ahead of the names: the tables' words, and 'selects' of the private methods out of them =====
/-- a private method of a class that the tables say can be made, by its rows of tables_1 -/
def lw_okq (q : MethodName × Nat) : Prop := (q.1.cls ≠ "java/lang/invoke/MethodHandle" ∧ q.1.cls ≠ "java/lang/invoke/VarHandle") ∧ Cond.instantiable q.1.cls q.2 ∈ tables_1 ∧ Cond.privateMethod q.1 ∈ tables_1 ∧ Cond.instanceMethod q.1 ∈ tables_1
theorem lw_p0 : lw_okq (⟨"ShotBoard", "isPerson", "(I)Z"⟩, 7) := ⟨⟨by decide +kernel, by decide +kernel⟩, List.mem_of_getElem? (i := 14) (by decide +kernel), List.mem_of_getElem? (i := 232) (by decide +kernel), List.mem_of_getElem? (i := 233) (by decide +kernel)⟩
theorem lw_p1 : lw_okq (⟨"ShotBoard", "isWho", "(I)Z"⟩, 7) := ⟨⟨by decide +kernel, by decide +kernel⟩, List.mem_of_getElem? (i := 14) (by decide +kernel), List.mem_of_getElem? (i := 283) (by decide +kernel), List.mem_of_getElem? (i := 284) (by decide +kernel)⟩
theorem lw_p2 : lw_okq (⟨"ShotBoard$Script", "speakersOfLastTwo", "()I"⟩, 3) := ⟨⟨by decide +kernel, by decide +kernel⟩, List.mem_of_getElem? (i := 73) (by decide +kernel), List.mem_of_getElem? (i := 294) (by decide +kernel), List.mem_of_getElem? (i := 295) (by decide +kernel)⟩
theorem lw_p3 : lw_okq (⟨"ShotBoard", "isCamera", "(I)Z"⟩, 7) := ⟨⟨by decide +kernel, by decide +kernel⟩, List.mem_of_getElem? (i := 14) (by decide +kernel), List.mem_of_getElem? (i := 351) (by decide +kernel), List.mem_of_getElem? (i := 352) (by decide +kernel)⟩
theorem lw_p4 : lw_okq (⟨"ShotBoard", "isBoard", "(I)Z"⟩, 7) := ⟨⟨by decide +kernel, by decide +kernel⟩, List.mem_of_getElem? (i := 14) (by decide +kernel), List.mem_of_getElem? (i := 373) (by decide +kernel), List.mem_of_getElem? (i := 374) (by decide +kernel)⟩
theorem lw_p5 : lw_okq (⟨"ShotBoard$Judge", "faultAt", "(ILShotBoard$Board;I)I"⟩, 1) := ⟨⟨by decide +kernel, by decide +kernel⟩, List.mem_of_getElem? (i := 137) (by decide +kernel), List.mem_of_getElem? (i := 385) (by decide +kernel), List.mem_of_getElem? (i := 386) (by decide +kernel)⟩
theorem lw_p6 : lw_okq (⟨"ShotBoard$Judge", "someoneChangesSide", "(ILShotBoard$Board;I)Z"⟩, 1) := ⟨⟨by decide +kernel, by decide +kernel⟩, List.mem_of_getElem? (i := 137) (by decide +kernel), List.mem_of_getElem? (i := 394) (by decide +kernel), List.mem_of_getElem? (i := 395) (by decide +kernel)⟩
theorem lw_p7 : lw_okq (⟨"ShotBoard$Planner", "search", "()I"⟩, 11) := ⟨⟨by decide +kernel, by decide +kernel⟩, List.mem_of_getElem? (i := 147) (by decide +kernel), List.mem_of_getElem? (i := 440) (by decide +kernel), List.mem_of_getElem? (i := 441) (by decide +kernel)⟩
theorem lw_p8 : lw_okq (⟨"ShotBoard$Planner", "canFilm", "(I)Z"⟩, 11) := ⟨⟨by decide +kernel, by decide +kernel⟩, List.mem_of_getElem? (i := 147) (by decide +kernel), List.mem_of_getElem? (i := 444) (by decide +kernel), List.mem_of_getElem? (i := 445) (by decide +kernel)⟩
theorem lw_p9 : lw_okq (⟨"ShotBoard$Planner", "firstFor", "(III)I"⟩, 11) := ⟨⟨by decide +kernel, by decide +kernel⟩, List.mem_of_getElem? (i := 147) (by decide +kernel), List.mem_of_getElem? (i := 448) (by decide +kernel), List.mem_of_getElem? (i := 449) (by decide +kernel)⟩
theorem lw_p10 : lw_okq (⟨"ShotBoard$Planner", "fits", "(III)Z"⟩, 11) := ⟨⟨by decide +kernel, by decide +kernel⟩, List.mem_of_getElem? (i := 147) (by decide +kernel), List.mem_of_getElem? (i := 452) (by decide +kernel), List.mem_of_getElem? (i := 453) (by decide +kernel)⟩
theorem lw_p11 : lw_okq (⟨"ShotBoard$Planner", "sideAfter", "(III)I"⟩, 11) := ⟨⟨by decide +kernel, by decide +kernel⟩, List.mem_of_getElem? (i := 147) (by decide +kernel), List.mem_of_getElem? (i := 456) (by decide +kernel), List.mem_of_getElem? (i := 457) (by decide +kernel)⟩
theorem lw_p12 : lw_okq (⟨"ShotBoard$Planner", "writeRow", "()V"⟩, 11) := ⟨⟨by decide +kernel, by decide +kernel⟩, List.mem_of_getElem? (i := 147) (by decide +kernel), List.mem_of_getElem? (i := 466) (by decide +kernel), List.mem_of_getElem? (i := 467) (by decide +kernel)⟩
theorem lw_p13 : lw_okq (⟨"ShotBoard$Planner", "writeSequence", "()V"⟩, 11) := ⟨⟨by decide +kernel, by decide +kernel⟩, List.mem_of_getElem? (i := 147) (by decide +kernel), List.mem_of_getElem? (i := 471) (by decide +kernel), List.mem_of_getElem? (i := 472) (by decide +kernel)⟩
theorem lw_p14 : lw_okq (⟨"ShotBoard$Planner", "leastOf", "(II)I"⟩, 11) := ⟨⟨by decide +kernel, by decide +kernel⟩, List.mem_of_getElem? (i := 147) (by decide +kernel), List.mem_of_getElem? (i := 475) (by decide +kernel), List.mem_of_getElem? (i := 476) (by decide +kernel)⟩
theorem lw_p15 : lw_okq (⟨"ShotBoard", "crossingsOfTold", "(I)I"⟩, 7) := ⟨⟨by decide +kernel, by decide +kernel⟩, List.mem_of_getElem? (i := 14) (by decide +kernel), List.mem_of_getElem? (i := 499) (by decide +kernel), List.mem_of_getElem? (i := 500) (by decide +kernel)⟩
def lw_privs_1 : List (MethodName × Nat) := [(⟨"ShotBoard", "isPerson", "(I)Z"⟩, 7), (⟨"ShotBoard", "isWho", "(I)Z"⟩, 7), (⟨"ShotBoard$Script", "speakersOfLastTwo", "()I"⟩, 3), (⟨"ShotBoard", "isCamera", "(I)Z"⟩, 7), (⟨"ShotBoard", "isBoard", "(I)Z"⟩, 7), (⟨"ShotBoard$Judge", "faultAt", "(ILShotBoard$Board;I)I"⟩, 1), (⟨"ShotBoard$Judge", "someoneChangesSide", "(ILShotBoard$Board;I)Z"⟩, 1), (⟨"ShotBoard$Planner", "search", "()I"⟩, 11), (⟨"ShotBoard$Planner", "canFilm", "(I)Z"⟩, 11), (⟨"ShotBoard$Planner", "firstFor", "(III)I"⟩, 11), (⟨"ShotBoard$Planner", "fits", "(III)Z"⟩, 11), (⟨"ShotBoard$Planner", "sideAfter", "(III)I"⟩, 11), (⟨"ShotBoard$Planner", "writeRow", "()V"⟩, 11), (⟨"ShotBoard$Planner", "writeSequence", "()V"⟩, 11), (⟨"ShotBoard$Planner", "leastOf", "(II)I"⟩, 11), (⟨"ShotBoard", "crossingsOfTold", "(I)I"⟩, 7)]
theorem lw_r1 : ∀ q ∈ lw_privs_1, lw_okq q := List.forall_mem_cons.mpr ⟨lw_p0, List.forall_mem_cons.mpr ⟨lw_p1, List.forall_mem_cons.mpr ⟨lw_p2, List.forall_mem_cons.mpr ⟨lw_p3, List.forall_mem_cons.mpr ⟨lw_p4, List.forall_mem_cons.mpr ⟨lw_p5, List.forall_mem_cons.mpr ⟨lw_p6, List.forall_mem_cons.mpr ⟨lw_p7, List.forall_mem_cons.mpr ⟨lw_p8, List.forall_mem_cons.mpr ⟨lw_p9, List.forall_mem_cons.mpr ⟨lw_p10, List.forall_mem_cons.mpr ⟨lw_p11, List.forall_mem_cons.mpr ⟨lw_p12, List.forall_mem_cons.mpr ⟨lw_p13, List.forall_mem_cons.mpr ⟨lw_p14, List.forall_mem_cons.mpr ⟨lw_p15, fun _ h => absurd h List.not_mem_nil⟩⟩⟩⟩⟩⟩⟩⟩⟩⟩⟩⟩⟩⟩⟩⟩
theorem lw_p16 : lw_okq (⟨"ShotBoardModel", "isPerson", "(I)Z"⟩, 26) := ⟨⟨by decide +kernel, by decide +kernel⟩, List.mem_of_getElem? (i := 520) (by decide +kernel), List.mem_of_getElem? (i := 616) (by decide +kernel), List.mem_of_getElem? (i := 617) (by decide +kernel)⟩
theorem lw_p17 : lw_okq (⟨"ShotBoardModel", "placeOf", "(II)I"⟩, 26) := ⟨⟨by decide +kernel, by decide +kernel⟩, List.mem_of_getElem? (i := 520) (by decide +kernel), List.mem_of_getElem? (i := 654) (by decide +kernel), List.mem_of_getElem? (i := 655) (by decide +kernel)⟩
theorem lw_p18 : lw_okq (⟨"ShotBoardModel", "isHidden", "(III)Z"⟩, 26) := ⟨⟨by decide +kernel, by decide +kernel⟩, List.mem_of_getElem? (i := 520) (by decide +kernel), List.mem_of_getElem? (i := 662) (by decide +kernel), List.mem_of_getElem? (i := 663) (by decide +kernel)⟩
theorem lw_p19 : lw_okq (⟨"ShotBoardModel", "isCamera", "(I)Z"⟩, 26) := ⟨⟨by decide +kernel, by decide +kernel⟩, List.mem_of_getElem? (i := 520) (by decide +kernel), List.mem_of_getElem? (i := 688) (by decide +kernel), List.mem_of_getElem? (i := 689) (by decide +kernel)⟩
theorem lw_p20 : lw_okq (⟨"ShotBoardModel", "isBefore", "(IIII)Z"⟩, 26) := ⟨⟨by decide +kernel, by decide +kernel⟩, List.mem_of_getElem? (i := 520) (by decide +kernel), List.mem_of_getElem? (i := 692) (by decide +kernel), List.mem_of_getElem? (i := 693) (by decide +kernel)⟩
theorem lw_p21 : lw_okq (⟨"ShotBoardModel", "sizeOf", "(III)I"⟩, 26) := ⟨⟨by decide +kernel, by decide +kernel⟩, List.mem_of_getElem? (i := 520) (by decide +kernel), List.mem_of_getElem? (i := 700) (by decide +kernel), List.mem_of_getElem? (i := 701) (by decide +kernel)⟩
theorem lw_p22 : lw_okq (⟨"ShotBoardModel", "isBoard", "(I)Z"⟩, 26) := ⟨⟨by decide +kernel, by decide +kernel⟩, List.mem_of_getElem? (i := 520) (by decide +kernel), List.mem_of_getElem? (i := 712) (by decide +kernel), List.mem_of_getElem? (i := 713) (by decide +kernel)⟩
theorem lw_p23 : lw_okq (⟨"ShotBoardModel", "whyNot", "(II)I"⟩, 26) := ⟨⟨by decide +kernel, by decide +kernel⟩, List.mem_of_getElem? (i := 520) (by decide +kernel), List.mem_of_getElem? (i := 716) (by decide +kernel), List.mem_of_getElem? (i := 717) (by decide +kernel)⟩
theorem lw_p24 : lw_okq (⟨"ShotBoardModel", "fails", "(III)I"⟩, 26) := ⟨⟨by decide +kernel, by decide +kernel⟩, List.mem_of_getElem? (i := 520) (by decide +kernel), List.mem_of_getElem? (i := 720) (by decide +kernel), List.mem_of_getElem? (i := 721) (by decide +kernel)⟩
theorem lw_p25 : lw_okq (⟨"ShotBoardModel", "other", "(I)I"⟩, 26) := ⟨⟨by decide +kernel, by decide +kernel⟩, List.mem_of_getElem? (i := 520) (by decide +kernel), List.mem_of_getElem? (i := 732) (by decide +kernel), List.mem_of_getElem? (i := 733) (by decide +kernel)⟩
theorem lw_p26 : lw_okq (⟨"ShotBoardModel", "sideOf", "(IIII)I"⟩, 26) := ⟨⟨by decide +kernel, by decide +kernel⟩, List.mem_of_getElem? (i := 520) (by decide +kernel), List.mem_of_getElem? (i := 736) (by decide +kernel), List.mem_of_getElem? (i := 737) (by decide +kernel)⟩
theorem lw_p27 : lw_okq (⟨"ShotBoardModel", "lengthOf", "(I)I"⟩, 26) := ⟨⟨by decide +kernel, by decide +kernel⟩, List.mem_of_getElem? (i := 520) (by decide +kernel), List.mem_of_getElem? (i := 744) (by decide +kernel), List.mem_of_getElem? (i := 745) (by decide +kernel)⟩
theorem lw_p28 : lw_okq (⟨"ShotBoardModel", "finds", "()I"⟩, 26) := ⟨⟨by decide +kernel, by decide +kernel⟩, List.mem_of_getElem? (i := 520) (by decide +kernel), List.mem_of_getElem? (i := 752) (by decide +kernel), List.mem_of_getElem? (i := 753) (by decide +kernel)⟩
theorem lw_p29 : lw_okq (⟨"ShotBoardModel", "plans", "(I)Z"⟩, 26) := ⟨⟨by decide +kernel, by decide +kernel⟩, List.mem_of_getElem? (i := 520) (by decide +kernel), List.mem_of_getElem? (i := 759) (by decide +kernel), List.mem_of_getElem? (i := 760) (by decide +kernel)⟩
theorem lw_p30 : lw_okq (⟨"ShotBoardModel", "goes", "(IIII)Z"⟩, 26) := ⟨⟨by decide +kernel, by decide +kernel⟩, List.mem_of_getElem? (i := 520) (by decide +kernel), List.mem_of_getElem? (i := 763) (by decide +kernel), List.mem_of_getElem? (i := 764) (by decide +kernel)⟩
theorem lw_p31 : lw_okq (⟨"ShotBoardModel", "twoAhead", "(I)I"⟩, 26) := ⟨⟨by decide +kernel, by decide +kernel⟩, List.mem_of_getElem? (i := 520) (by decide +kernel), List.mem_of_getElem? (i := 767) (by decide +kernel), List.mem_of_getElem? (i := 768) (by decide +kernel)⟩
def lw_privs_2 : List (MethodName × Nat) := [(⟨"ShotBoardModel", "isPerson", "(I)Z"⟩, 26), (⟨"ShotBoardModel", "placeOf", "(II)I"⟩, 26), (⟨"ShotBoardModel", "isHidden", "(III)Z"⟩, 26), (⟨"ShotBoardModel", "isCamera", "(I)Z"⟩, 26), (⟨"ShotBoardModel", "isBefore", "(IIII)Z"⟩, 26), (⟨"ShotBoardModel", "sizeOf", "(III)I"⟩, 26), (⟨"ShotBoardModel", "isBoard", "(I)Z"⟩, 26), (⟨"ShotBoardModel", "whyNot", "(II)I"⟩, 26), (⟨"ShotBoardModel", "fails", "(III)I"⟩, 26), (⟨"ShotBoardModel", "other", "(I)I"⟩, 26), (⟨"ShotBoardModel", "sideOf", "(IIII)I"⟩, 26), (⟨"ShotBoardModel", "lengthOf", "(I)I"⟩, 26), (⟨"ShotBoardModel", "finds", "()I"⟩, 26), (⟨"ShotBoardModel", "plans", "(I)Z"⟩, 26), (⟨"ShotBoardModel", "goes", "(IIII)Z"⟩, 26), (⟨"ShotBoardModel", "twoAhead", "(I)I"⟩, 26)]
theorem lw_r2 : ∀ q ∈ lw_privs_2, lw_okq q := List.forall_mem_cons.mpr ⟨lw_p16, List.forall_mem_cons.mpr ⟨lw_p17, List.forall_mem_cons.mpr ⟨lw_p18, List.forall_mem_cons.mpr ⟨lw_p19, List.forall_mem_cons.mpr ⟨lw_p20, List.forall_mem_cons.mpr ⟨lw_p21, List.forall_mem_cons.mpr ⟨lw_p22, List.forall_mem_cons.mpr ⟨lw_p23, List.forall_mem_cons.mpr ⟨lw_p24, List.forall_mem_cons.mpr ⟨lw_p25, List.forall_mem_cons.mpr ⟨lw_p26, List.forall_mem_cons.mpr ⟨lw_p27, List.forall_mem_cons.mpr ⟨lw_p28, List.forall_mem_cons.mpr ⟨lw_p29, List.forall_mem_cons.mpr ⟨lw_p30, List.forall_mem_cons.mpr ⟨lw_p31, fun _ h => absurd h List.not_mem_nil⟩⟩⟩⟩⟩⟩⟩⟩⟩⟩⟩⟩⟩⟩⟩⟩
theorem lw_p32 : lw_okq (⟨"ShotBoardModel", "crosses", "(IIII)Z"⟩, 26) := ⟨⟨by decide +kernel, by decide +kernel⟩, List.mem_of_getElem? (i := 520) (by decide +kernel), List.mem_of_getElem? (i := 771) (by decide +kernel), List.mem_of_getElem? (i := 772) (by decide +kernel)⟩
theorem lw_p33 : lw_okq (⟨"ShotBoardModel", "changes", "(II)I"⟩, 26) := ⟨⟨by decide +kernel, by decide +kernel⟩, List.mem_of_getElem? (i := 520) (by decide +kernel), List.mem_of_getElem? (i := 787) (by decide +kernel), List.mem_of_getElem? (i := 788) (by decide +kernel)⟩
theorem lw_p34 : lw_okq (⟨"ShotBoardModel", "all", "()I"⟩, 26) := ⟨⟨by decide +kernel, by decide +kernel⟩, List.mem_of_getElem? (i := 520) (by decide +kernel), List.mem_of_getElem? (i := 803) (by decide +kernel), List.mem_of_getElem? (i := 804) (by decide +kernel)⟩
def lw_privs_3 : List (MethodName × Nat) := [(⟨"ShotBoardModel", "crosses", "(IIII)Z"⟩, 26), (⟨"ShotBoardModel", "changes", "(II)I"⟩, 26), (⟨"ShotBoardModel", "all", "()I"⟩, 26)]
theorem lw_r3 : ∀ q ∈ lw_privs_3, lw_okq q := List.forall_mem_cons.mpr ⟨lw_p32, List.forall_mem_cons.mpr ⟨lw_p33, List.forall_mem_cons.mpr ⟨lw_p34, fun _ h => absurd h List.not_mem_nil⟩⟩⟩
def lw_privs : List (MethodName × Nat) := lw_privs_1 ++ (lw_privs_2 ++ (lw_privs_3))
def lw_tbl : List Cond := k2_sels lw_privs ++ tables_1
theorem lw_privs_ok : ∀ q ∈ lw_privs, lw_okq q := by
  show ∀ q ∈ lw_privs_1 ++ (lw_privs_2 ++ (lw_privs_3)), lw_okq q
  exact List.forall_mem_append.mpr ⟨lw_r1, List.forall_mem_append.mpr ⟨lw_r2, lw_r3⟩⟩
-- ===== end of PART A; then your names; then what follows =====
end
section
/-! ===== BEGIN words of one list among another's, by their places ===== -/
theorem goodIn_r {big : List Cond} (ws : List Cond) (ps : List Nat) (hp : ws = ps.filterMap (fun i => big[i]?)) (h : ws.all goodWord = true) : GoodIn big ws := by
  intro w hw
  have h1 := List.all_eq_true.mp h w hw
  rw [hp] at hw
  obtain ⟨i, -, hi⟩ := List.mem_filterMap.mp hw
  have hm : w ∈ big := by first | exact List.mem_of_getElem? hi | exact List.getElem?_mem hi
  exact ⟨hm, good_of_word h1⟩
theorem goodIn_app {big a b : List Cond} (ha : GoodIn big a) (hb : GoodIn big b) : GoodIn big (a ++ b) := fun w h => (List.mem_append.mp h).elim (ha w) (hb w)
theorem goodIn_ca {big a b : List Cond} {c : Cond} (ha : GoodIn big (c :: a)) (hb : GoodIn big b) : GoodIn big (c :: (a ++ b)) := fun w h => (List.mem_cons.mp h).elim (fun e => ha w (List.mem_cons.mpr (Or.inl e))) (fun h => (List.mem_append.mp h).elim (fun h => ha w (List.mem_cons.mpr (Or.inr h))) (hb w))
theorem goodIn_sub {big ws : List Cond} (hm : ∀ w ∈ ws, w ∈ big) (h : ws.all goodWord = true) : GoodIn big ws := fun w hw => ⟨hm w hw, good_of_word (List.all_eq_true.mp h w hw)⟩
/-! ===== END ===== -/

/-! ===== BEGIN printed: names, fields, word lists, decode rows ===== -/
def RX0 : String := "ShotBoard$Board"
def TX0 : u_T := fun k => match k with
  | 0 => ("ShotBoard$Board", "kind", "I", false)
  | 1 => ("ShotBoard$Board", "main", "I", false)
  | 2 => ("ShotBoard$Board", "mask", "I", false)
  | 3 => ("ShotBoard$Board", "sizes", "I", false)
  | 4 => ("ShotBoard$Board", "first", "I", false)
  | 5 => ("ShotBoard$Board", "last", "I", false)
  | 6 => ("ShotBoard$Board", "words", "I", false)
  | _ => ("ShotBoard$Board", "cutsOnPair", "Z", false)
def tyX0 : Nat → FieldType := fun k => match k with
  | 0 => .int
  | 1 => .int
  | 2 => .int
  | 3 => .int
  | 4 => .int
  | 5 => .int
  | 6 => .int
  | _ => .boolean
abbrev wsX00 : List Cond := u_ws RX0 TX0 8
theorem nmX0 : ∀ a, a < 8 → ∀ b, b < 8 → a ≠ b → (TX0 a).2.1 ≠ (TX0 b).2.1 := by decide +kernel
theorem tyX0_ok : ∀ k, k < 8 → parseFieldDescriptor (TX0 k).2.2.1 = some (tyX0 k) := by decide +kernel
abbrev cX0_init : ByteArray := prog_2_method_1_code
def yX0_init : MethodName := ⟨RX0, "<init>", "()V"⟩
abbrev cX0_mustShow : ByteArray := prog_2_method_2_code
def yX0_mustShow : MethodName := ⟨RX0, "mustShow", "(I)Z"⟩
abbrev cX0_partner : ByteArray := prog_2_method_3_code
def yX0_partner : MethodName := ⟨RX0, "partner", "()I"⟩
abbrev cX0_speakers : ByteArray := prog_2_method_4_code
def yX0_speakers : MethodName := ⟨RX0, "speakers", "()I"⟩
def RX1 : String := "ShotBoard$Judge"
def TX1 : u_T := fun k => match k with
  | _ => ("ShotBoard$Judge", "stage", "LShotBoard$Stage;", true)
def tyX1 : Nat → FieldType := fun k => match k with
  | _ => .object "ShotBoard$Stage"
abbrev wsX10 : List Cond := u_ws RX1 TX1 1
theorem nmX1 : ∀ a, a < 1 → ∀ b, b < 1 → a ≠ b → (TX1 a).2.1 ≠ (TX1 b).2.1 := by decide +kernel
theorem tyX1_ok : ∀ k, k < 1 → parseFieldDescriptor (TX1 k).2.2.1 = some (tyX1 k) := by decide +kernel
abbrev cX1_init : ByteArray := prog_3_method_1_code
def yX1_init : MethodName := ⟨RX1, "<init>", "(LShotBoard$Stage;)V"⟩
abbrev cX1_fault : ByteArray := prog_3_method_2_code
def yX1_fault : MethodName := ⟨RX1, "fault", "(ILShotBoard$Board;)I"⟩
abbrev cX1_faultAt : ByteArray := prog_3_method_3_code
def yX1_faultAt : MethodName := ⟨RX1, "faultAt", "(ILShotBoard$Board;I)I"⟩
abbrev cX1_someoneChangesSide : ByteArray := prog_3_method_4_code
def yX1_someoneChangesSide : MethodName := ⟨RX1, "someoneChangesSide", "(ILShotBoard$Board;I)Z"⟩
abbrev cX1_sideOfMain : ByteArray := prog_3_method_5_code
def yX1_sideOfMain : MethodName := ⟨RX1, "sideOfMain", "(ILShotBoard$Board;)I"⟩
abbrev cX1_sideOfLesser : ByteArray := prog_3_method_6_code
def yX1_sideOfLesser : MethodName := ⟨RX1, "sideOfLesser", "(ILShotBoard$Board;)I"⟩
def RX2 : String := "ShotBoard$Plane"
def TX2 : u_T := fun k => match k with
  | _ => ("", "", "", false)
def tyX2 : Nat → FieldType := fun k => match k with
  | _ => .int
abbrev wsX20 : List Cond := u_ws RX2 TX2 0
theorem nmX2 : ∀ a, a < 0 → ∀ b, b < 0 → a ≠ b → (TX2 a).2.1 ≠ (TX2 b).2.1 := by decide +kernel
theorem tyX2_ok : ∀ k, k < 0 → parseFieldDescriptor (TX2 k).2.2.1 = some (tyX2 k) := by decide +kernel
abbrev cX2_cross : ByteArray := prog_4_method_2_code
def yX2_cross : MethodName := ⟨RX2, "cross", "(III)I"⟩
abbrev cX2_dot : ByteArray := prog_4_method_3_code
def yX2_dot : MethodName := ⟨RX2, "dot", "(III)I"⟩
abbrev cX2_isBetween : ByteArray := prog_4_method_4_code
def yX2_isBetween : MethodName := ⟨RX2, "isBetween", "(III)Z"⟩
abbrev cX2_meet : ByteArray := prog_4_method_5_code
def yX2_meet : MethodName := ⟨RX2, "meet", "(IIII)Z"⟩
abbrev cX2_inCone : ByteArray := prog_4_method_6_code
def yX2_inCone : MethodName := ⟨RX2, "inCone", "(III)Z"⟩
abbrev cX2_sizeSeen : ByteArray := prog_4_method_7_code
def yX2_sizeSeen : MethodName := ⟨RX2, "sizeSeen", "(II)I"⟩
def RX3 : String := "ShotBoard$Planner"
def TX3 : u_T := fun k => match k with
  | 0 => ("ShotBoard$Planner", "judge", "LShotBoard$Judge;", true)
  | 1 => ("ShotBoard$Planner", "rig", "LShotBoard$Rig;", true)
  | 2 => ("ShotBoard$Planner", "script", "LShotBoard$Script;", true)
  | 3 => ("ShotBoard$Planner", "givers", "[I", true)
  | 4 => ("ShotBoard$Planner", "sides", "[I", true)
  | 5 => ("ShotBoard$Planner", "canGoOn", "[Z", true)
  | 6 => ("ShotBoard$Planner", "row", "[I", true)
  | 7 => ("ShotBoard$Planner", "sequence", "[I", true)
  | 8 => ("ShotBoard$Planner", "used", "I", false)
  | 9 => ("ShotBoard$Planner", "chosen", "I", false)
  | _ => ("ShotBoard$Planner", "known", "Z", false)
def tyX3 : Nat → FieldType := fun k => match k with
  | 0 => .object "ShotBoard$Judge"
  | 1 => .object "ShotBoard$Rig"
  | 2 => .object "ShotBoard$Script"
  | 3 => .array .int
  | 4 => .array .int
  | 5 => .array .boolean
  | 6 => .array .int
  | 7 => .array .int
  | 8 => .int
  | 9 => .int
  | _ => .boolean
abbrev wsX30 : List Cond := u_ws RX3 TX3 11
theorem nmX3 : ∀ a, a < 11 → ∀ b, b < 11 → a ≠ b → (TX3 a).2.1 ≠ (TX3 b).2.1 := by decide +kernel
theorem tyX3_ok : ∀ k, k < 11 → parseFieldDescriptor (TX3 k).2.2.1 = some (tyX3 k) := by decide +kernel
abbrev cX3_init : ByteArray := prog_5_method_1_code
def yX3_init : MethodName := ⟨RX3, "<init>", "(LShotBoard$Judge;LShotBoard$Rig;LShotBoard$Script;)V"⟩
abbrev cX3_forget : ByteArray := prog_5_method_2_code
def yX3_forget : MethodName := ⟨RX3, "forget", "()V"⟩
abbrev cX3_refresh : ByteArray := prog_5_method_3_code
def yX3_refresh : MethodName := ⟨RX3, "refresh", "()V"⟩
abbrev cX3_search : ByteArray := prog_5_method_4_code
def yX3_search : MethodName := ⟨RX3, "search", "()I"⟩
abbrev cX3_canFilm : ByteArray := prog_5_method_5_code
def yX3_canFilm : MethodName := ⟨RX3, "canFilm", "(I)Z"⟩
abbrev cX3_firstFor : ByteArray := prog_5_method_6_code
def yX3_firstFor : MethodName := ⟨RX3, "firstFor", "(III)I"⟩
abbrev cX3_fits : ByteArray := prog_5_method_7_code
def yX3_fits : MethodName := ⟨RX3, "fits", "(III)Z"⟩
abbrev cX3_sideAfter : ByteArray := prog_5_method_8_code
def yX3_sideAfter : MethodName := ⟨RX3, "sideAfter", "(III)I"⟩
abbrev cX3_writeRow : ByteArray := prog_5_method_9_code
def yX3_writeRow : MethodName := ⟨RX3, "writeRow", "()V"⟩
abbrev cX3_writeSequence : ByteArray := prog_5_method_10_code
def yX3_writeSequence : MethodName := ⟨RX3, "writeSequence", "()V"⟩
abbrev cX3_leastOf : ByteArray := prog_5_method_11_code
def yX3_leastOf : MethodName := ⟨RX3, "leastOf", "(II)I"⟩
abbrev cX3_turns : ByteArray := prog_5_method_12_code
def yX3_turns : MethodName := ⟨RX3, "turns", "()I"⟩
def RX4 : String := "ShotBoard$Rig"
def TX4 : u_T := fun k => match k with
  | 0 => ("ShotBoard$Rig", "places", "[I", true)
  | 1 => ("ShotBoard$Rig", "lights", "[I", true)
  | _ => ("ShotBoard$Rig", "cameras", "I", false)
def tyX4 : Nat → FieldType := fun k => match k with
  | 0 => .array .int
  | 1 => .array .int
  | _ => .int
abbrev wsX40 : List Cond := u_ws RX4 TX4 3
theorem nmX4 : ∀ a, a < 3 → ∀ b, b < 3 → a ≠ b → (TX4 a).2.1 ≠ (TX4 b).2.1 := by decide +kernel
theorem tyX4_ok : ∀ k, k < 3 → parseFieldDescriptor (TX4 k).2.2.1 = some (tyX4 k) := by decide +kernel
abbrev cX4_init : ByteArray := prog_6_method_1_code
def yX4_init : MethodName := ⟨RX4, "<init>", "()V"⟩
abbrev cX4_add : ByteArray := prog_6_method_2_code
def yX4_add : MethodName := ⟨RX4, "add", "(II)I"⟩
def RX5 : String := "ShotBoard$Script"
def TX5 : u_T := fun k => match k with
  | 0 => ("ShotBoard$Script", "rows", "[LShotBoard$Board;", true)
  | 1 => ("ShotBoard$Script", "boards", "I", false)
  | _ => ("ShotBoard$Script", "wordsPerTick", "I", false)
def tyX5 : Nat → FieldType := fun k => match k with
  | 0 => .array (.object "ShotBoard$Board")
  | 1 => .int
  | _ => .int
abbrev wsX50 : List Cond := u_ws RX5 TX5 3
theorem nmX5 : ∀ a, a < 3 → ∀ b, b < 3 → a ≠ b → (TX5 a).2.1 ≠ (TX5 b).2.1 := by decide +kernel
theorem tyX5_ok : ∀ k, k < 3 → parseFieldDescriptor (TX5 k).2.2.1 = some (tyX5 k) := by decide +kernel
abbrev cX5_init : ByteArray := prog_7_method_1_code
def yX5_init : MethodName := ⟨RX5, "<init>", "()V"⟩
abbrev cX5_add : ByteArray := prog_7_method_2_code
def yX5_add : MethodName := ⟨RX5, "add", "(IIII)I"⟩
abbrev cX5_speakersOfLastTwo : ByteArray := prog_7_method_3_code
def yX5_speakersOfLastTwo : MethodName := ⟨RX5, "speakersOfLastTwo", "()I"⟩
abbrev cX5_lengthOf : ByteArray := prog_7_method_4_code
def yX5_lengthOf : MethodName := ⟨RX5, "lengthOf", "(I)I"⟩
def RX6 : String := "ShotBoard$Stage"
def TX6 : u_T := fun k => match k with
  | 0 => ("ShotBoard$Stage", "placeAt", "[I", true)
  | 1 => ("ShotBoard$Stage", "stepTicks", "[J", true)
  | 2 => ("ShotBoard$Stage", "wallFrom", "[I", true)
  | 3 => ("ShotBoard$Stage", "wallTo", "[I", true)
  | 4 => ("ShotBoard$Stage", "persons", "I", false)
  | _ => ("ShotBoard$Stage", "walls", "I", false)
def tyX6 : Nat → FieldType := fun k => match k with
  | 0 => .array .int
  | 1 => .array .long
  | 2 => .array .int
  | 3 => .array .int
  | 4 => .int
  | _ => .int
abbrev wsX60 : List Cond := u_ws RX6 TX6 6
theorem nmX6 : ∀ a, a < 6 → ∀ b, b < 6 → a ≠ b → (TX6 a).2.1 ≠ (TX6 b).2.1 := by decide +kernel
theorem tyX6_ok : ∀ k, k < 6 → parseFieldDescriptor (TX6 k).2.2.1 = some (tyX6 k) := by decide +kernel
abbrev cX6_init : ByteArray := prog_8_method_1_code
def yX6_init : MethodName := ⟨RX6, "<init>", "()V"⟩
abbrev cX6_placeOf : ByteArray := prog_8_method_2_code
def yX6_placeOf : MethodName := ⟨RX6, "placeOf", "(II)I"⟩
abbrev cX6_hasStep : ByteArray := prog_8_method_3_code
def yX6_hasStep : MethodName := ⟨RX6, "hasStep", "(II)Z"⟩
abbrev cX6_someoneStepsAt : ByteArray := prog_8_method_4_code
def yX6_someoneStepsAt : MethodName := ⟨RX6, "someoneStepsAt", "(I)Z"⟩
abbrev cX6_stepsOf : ByteArray := prog_8_method_5_code
def yX6_stepsOf : MethodName := ⟨RX6, "stepsOf", "(I)I"⟩
abbrev cX6_addPerson : ByteArray := prog_8_method_6_code
def yX6_addPerson : MethodName := ⟨RX6, "addPerson", "(I)I"⟩
abbrev cX6_addStep : ByteArray := prog_8_method_7_code
def yX6_addStep : MethodName := ⟨RX6, "addStep", "(III)I"⟩
abbrev cX6_addWall : ByteArray := prog_8_method_8_code
def yX6_addWall : MethodName := ⟨RX6, "addWall", "(II)I"⟩
abbrev cX6_hides : ByteArray := prog_8_method_9_code
def yX6_hides : MethodName := ⟨RX6, "hides", "(III)Z"⟩
def RX7 : String := "ShotBoard"
def TX7 : u_T := fun k => match k with
  | 0 => ("ShotBoard", "stage", "LShotBoard$Stage;", true)
  | 1 => ("ShotBoard", "rig", "LShotBoard$Rig;", true)
  | 2 => ("ShotBoard", "script", "LShotBoard$Script;", true)
  | 3 => ("ShotBoard", "judge", "LShotBoard$Judge;", true)
  | 4 => ("ShotBoard", "planner", "LShotBoard$Planner;", true)
  | 5 => ("ShotBoard", "told", "[I", true)
  | _ => ("ShotBoard", "toldCount", "I", false)
def tyX7 : Nat → FieldType := fun k => match k with
  | 0 => .object "ShotBoard$Stage"
  | 1 => .object "ShotBoard$Rig"
  | 2 => .object "ShotBoard$Script"
  | 3 => .object "ShotBoard$Judge"
  | 4 => .object "ShotBoard$Planner"
  | 5 => .array .int
  | _ => .int
abbrev wsX70 : List Cond := u_ws RX7 TX7 7
theorem nmX7 : ∀ a, a < 7 → ∀ b, b < 7 → a ≠ b → (TX7 a).2.1 ≠ (TX7 b).2.1 := by decide +kernel
theorem tyX7_ok : ∀ k, k < 7 → parseFieldDescriptor (TX7 k).2.2.1 = some (tyX7 k) := by decide +kernel
abbrev cX7_init : ByteArray := prog_1_method_1_code
def yX7_init : MethodName := ⟨RX7, "<init>", "()V"⟩
abbrev cX7_person : ByteArray := prog_1_method_2_code
def yX7_person : MethodName := ⟨RX7, "person", "(I)I"⟩
abbrev cX7_step : ByteArray := prog_1_method_3_code
def yX7_step : MethodName := ⟨RX7, "step", "(III)I"⟩
abbrev cX7_wall : ByteArray := prog_1_method_4_code
def yX7_wall : MethodName := ⟨RX7, "wall", "(II)I"⟩
abbrev cX7_open : ByteArray := prog_1_method_5_code
def yX7_open : MethodName := ⟨RX7, "open", "()I"⟩
abbrev cX7_camera : ByteArray := prog_1_method_6_code
def yX7_camera : MethodName := ⟨RX7, "camera", "(II)I"⟩
abbrev cX7_board : ByteArray := prog_1_method_7_code
def yX7_board : MethodName := ⟨RX7, "board", "(IIII)I"⟩
abbrev cX7_drop : ByteArray := prog_1_method_8_code
def yX7_drop : MethodName := ⟨RX7, "drop", "()I"⟩
abbrev cX7_rate : ByteArray := prog_1_method_9_code
def yX7_rate : MethodName := ⟨RX7, "rate", "(I)I"⟩
abbrev cX7_where : ByteArray := prog_1_method_10_code
def yX7_where : MethodName := ⟨RX7, "where", "(II)I"⟩
abbrev cX7_hidden : ByteArray := prog_1_method_11_code
def yX7_hidden : MethodName := ⟨RX7, "hidden", "(III)I"⟩
abbrev cX7_sees : ByteArray := prog_1_method_12_code
def yX7_sees : MethodName := ⟨RX7, "sees", "(IIII)I"⟩
abbrev cX7_size : ByteArray := prog_1_method_13_code
def yX7_size : MethodName := ⟨RX7, "size", "(III)I"⟩
abbrev cX7_views : ByteArray := prog_1_method_14_code
def yX7_views : MethodName := ⟨RX7, "views", "(II)I"⟩
abbrev cX7_gives : ByteArray := prog_1_method_15_code
def yX7_gives : MethodName := ⟨RX7, "gives", "(II)I"⟩
abbrev cX7_why : ByteArray := prog_1_method_16_code
def yX7_why : MethodName := ⟨RX7, "why", "(II)I"⟩
abbrev cX7_side : ByteArray := prog_1_method_17_code
def yX7_side : MethodName := ⟨RX7, "side", "(II)I"⟩
abbrev cX7_length : ByteArray := prog_1_method_18_code
def yX7_length : MethodName := ⟨RX7, "length", "(I)I"⟩
abbrev cX7_fewest : ByteArray := prog_1_method_19_code
def yX7_fewest : MethodName := ⟨RX7, "fewest", "()I"⟩
abbrev cX7_plan : ByteArray := prog_1_method_20_code
def yX7_plan : MethodName := ⟨RX7, "plan", "(I)I"⟩
abbrev cX7_swings : ByteArray := prog_1_method_21_code
def yX7_swings : MethodName := ⟨RX7, "swings", "()I"⟩
abbrev cX7_order : ByteArray := prog_1_method_22_code
def yX7_order : MethodName := ⟨RX7, "order", "(I)I"⟩
abbrev cX7_crossings : ByteArray := prog_1_method_23_code
def yX7_crossings : MethodName := ⟨RX7, "crossings", "()I"⟩
abbrev cX7_list : ByteArray := prog_1_method_24_code
def yX7_list : MethodName := ⟨RX7, "list", "(I)I"⟩
abbrev cX7_run : ByteArray := prog_1_method_25_code
def yX7_run : MethodName := ⟨RX7, "run", "()I"⟩
abbrev cX7_frame : ByteArray := prog_1_method_26_code
def yX7_frame : MethodName := ⟨RX7, "frame", "(I)I"⟩
abbrev cX7_count : ByteArray := prog_1_method_27_code
def yX7_count : MethodName := ⟨RX7, "count", "(I)I"⟩
abbrev cX7_crossingsOfTold : ByteArray := prog_1_method_28_code
def yX7_crossingsOfTold : MethodName := ⟨RX7, "crossingsOfTold", "(I)I"⟩
abbrev cX7_isPlace : ByteArray := prog_1_method_29_code
def yX7_isPlace : MethodName := ⟨RX7, "isPlace", "(I)Z"⟩
abbrev cX7_isTick : ByteArray := prog_1_method_30_code
def yX7_isTick : MethodName := ⟨RX7, "isTick", "(I)Z"⟩
abbrev cX7_isSpan : ByteArray := prog_1_method_31_code
def yX7_isSpan : MethodName := ⟨RX7, "isSpan", "(I)Z"⟩
abbrev cX7_isPerson : ByteArray := prog_1_method_32_code
def yX7_isPerson : MethodName := ⟨RX7, "isPerson", "(I)Z"⟩
abbrev cX7_isCamera : ByteArray := prog_1_method_33_code
def yX7_isCamera : MethodName := ⟨RX7, "isCamera", "(I)Z"⟩
abbrev cX7_isBoard : ByteArray := prog_1_method_34_code
def yX7_isBoard : MethodName := ⟨RX7, "isBoard", "(I)Z"⟩
abbrev cX7_isWho : ByteArray := prog_1_method_35_code
def yX7_isWho : MethodName := ⟨RX7, "isWho", "(I)Z"⟩
def RX8 : String := "ShotBoardModel"
def TX8 : u_T := fun k => match k with
  | 0 => ("ShotBoardModel", "persons", "I", false)
  | 1 => ("ShotBoardModel", "at", "[I", true)
  | 2 => ("ShotBoardModel", "steps", "[I", true)
  | 3 => ("ShotBoardModel", "stepTick", "[I", true)
  | 4 => ("ShotBoardModel", "stepPlace", "[I", true)
  | 5 => ("ShotBoardModel", "walls", "I", false)
  | 6 => ("ShotBoardModel", "wallFrom", "[I", true)
  | 7 => ("ShotBoardModel", "wallTo", "[I", true)
  | 8 => ("ShotBoardModel", "cameras", "I", false)
  | 9 => ("ShotBoardModel", "eye", "[I", true)
  | 10 => ("ShotBoardModel", "light", "[I", true)
  | 11 => ("ShotBoardModel", "boards", "I", false)
  | 12 => ("ShotBoardModel", "kind", "[I", true)
  | 13 => ("ShotBoardModel", "main", "[I", true)
  | 14 => ("ShotBoardModel", "must", "[I", true)
  | 15 => ("ShotBoardModel", "sizes", "[I", true)
  | 16 => ("ShotBoardModel", "from", "[I", true)
  | 17 => ("ShotBoardModel", "to", "[I", true)
  | 18 => ("ShotBoardModel", "words", "[I", true)
  | 19 => ("ShotBoardModel", "rate", "I", false)
  | 20 => ("ShotBoardModel", "listed", "I", false)
  | 21 => ("ShotBoardModel", "list", "[I", true)
  | 22 => ("ShotBoardModel", "giving", "[Z", true)
  | 23 => ("ShotBoardModel", "canGo", "[Z", true)
  | 24 => ("ShotBoardModel", "row", "[I", true)
  | _ => ("ShotBoardModel", "fewestSet", "I", false)
def tyX8 : Nat → FieldType := fun k => match k with
  | 0 => .int
  | 1 => .array .int
  | 2 => .array .int
  | 3 => .array .int
  | 4 => .array .int
  | 5 => .int
  | 6 => .array .int
  | 7 => .array .int
  | 8 => .int
  | 9 => .array .int
  | 10 => .array .int
  | 11 => .int
  | 12 => .array .int
  | 13 => .array .int
  | 14 => .array .int
  | 15 => .array .int
  | 16 => .array .int
  | 17 => .array .int
  | 18 => .array .int
  | 19 => .int
  | 20 => .int
  | 21 => .array .int
  | 22 => .array .boolean
  | 23 => .array .boolean
  | 24 => .array .int
  | _ => .int
abbrev wsX80 : List Cond := u_ws RX8 TX8 26
theorem nmX8 : ∀ a, a < 26 → ∀ b, b < 26 → a ≠ b → (TX8 a).2.1 ≠ (TX8 b).2.1 := by decide +kernel
theorem tyX8_ok : ∀ k, k < 26 → parseFieldDescriptor (TX8 k).2.2.1 = some (tyX8 k) := by decide +kernel
abbrev cX8_init : ByteArray := prog_10_method_1_code
def yX8_init : MethodName := ⟨RX8, "<init>", "()V"⟩
abbrev cX8_in : ByteArray := prog_10_method_2_code
def yX8_in : MethodName := ⟨RX8, "in", "(III)Z"⟩
abbrev cX8_isPlace : ByteArray := prog_10_method_3_code
def yX8_isPlace : MethodName := ⟨RX8, "isPlace", "(I)Z"⟩
abbrev cX8_isPerson : ByteArray := prog_10_method_4_code
def yX8_isPerson : MethodName := ⟨RX8, "isPerson", "(I)Z"⟩
abbrev cX8_isCamera : ByteArray := prog_10_method_5_code
def yX8_isCamera : MethodName := ⟨RX8, "isCamera", "(I)Z"⟩
abbrev cX8_isBoard : ByteArray := prog_10_method_6_code
def yX8_isBoard : MethodName := ⟨RX8, "isBoard", "(I)Z"⟩
abbrev cX8_isTick : ByteArray := prog_10_method_7_code
def yX8_isTick : MethodName := ⟨RX8, "isTick", "(I)Z"⟩
abbrev cX8_person : ByteArray := prog_10_method_8_code
def yX8_person : MethodName := ⟨RX8, "person", "(I)I"⟩
abbrev cX8_step : ByteArray := prog_10_method_9_code
def yX8_step : MethodName := ⟨RX8, "step", "(III)I"⟩
abbrev cX8_wall : ByteArray := prog_10_method_10_code
def yX8_wall : MethodName := ⟨RX8, "wall", "(II)I"⟩
abbrev cX8_open : ByteArray := prog_10_method_11_code
def yX8_open : MethodName := ⟨RX8, "open", "()I"⟩
abbrev cX8_camera : ByteArray := prog_10_method_12_code
def yX8_camera : MethodName := ⟨RX8, "camera", "(II)I"⟩
abbrev cX8_board : ByteArray := prog_10_method_13_code
def yX8_board : MethodName := ⟨RX8, "board", "(IIII)I"⟩
abbrev cX8_drop : ByteArray := prog_10_method_14_code
def yX8_drop : MethodName := ⟨RX8, "drop", "()I"⟩
abbrev cX8_rate : ByteArray := prog_10_method_15_code
def yX8_rate : MethodName := ⟨RX8, "rate", "(I)I"⟩
abbrev cX8_placeOf : ByteArray := prog_10_method_16_code
def yX8_placeOf : MethodName := ⟨RX8, "placeOf", "(II)I"⟩
abbrev cX8_where : ByteArray := prog_10_method_17_code
def yX8_where : MethodName := ⟨RX8, "where", "(II)I"⟩
abbrev cX8_x : ByteArray := prog_10_method_18_code
def yX8_x : MethodName := ⟨RX8, "x", "(I)I"⟩
abbrev cX8_y : ByteArray := prog_10_method_19_code
def yX8_y : MethodName := ⟨RX8, "y", "(I)I"⟩
abbrev cX8_turn : ByteArray := prog_10_method_20_code
def yX8_turn : MethodName := ⟨RX8, "turn", "(III)I"⟩
abbrev cX8_isBetween : ByteArray := prog_10_method_21_code
def yX8_isBetween : MethodName := ⟨RX8, "isBetween", "(III)Z"⟩
abbrev cX8_isOn : ByteArray := prog_10_method_22_code
def yX8_isOn : MethodName := ⟨RX8, "isOn", "(III)Z"⟩
abbrev cX8_meet : ByteArray := prog_10_method_23_code
def yX8_meet : MethodName := ⟨RX8, "meet", "(IIII)Z"⟩
abbrev cX8_isHidden : ByteArray := prog_10_method_24_code
def yX8_isHidden : MethodName := ⟨RX8, "isHidden", "(III)Z"⟩
abbrev cX8_hidden : ByteArray := prog_10_method_25_code
def yX8_hidden : MethodName := ⟨RX8, "hidden", "(III)I"⟩
abbrev cX8_isBefore : ByteArray := prog_10_method_26_code
def yX8_isBefore : MethodName := ⟨RX8, "isBefore", "(IIII)Z"⟩
abbrev cX8_sees : ByteArray := prog_10_method_27_code
def yX8_sees : MethodName := ⟨RX8, "sees", "(IIII)I"⟩
abbrev cX8_sizeOf : ByteArray := prog_10_method_28_code
def yX8_sizeOf : MethodName := ⟨RX8, "sizeOf", "(III)I"⟩
abbrev cX8_size : ByteArray := prog_10_method_29_code
def yX8_size : MethodName := ⟨RX8, "size", "(III)I"⟩
abbrev cX8_views : ByteArray := prog_10_method_30_code
def yX8_views : MethodName := ⟨RX8, "views", "(II)I"⟩
abbrev cX8_fails : ByteArray := prog_10_method_31_code
def yX8_fails : MethodName := ⟨RX8, "fails", "(III)I"⟩
abbrev cX8_whyNot : ByteArray := prog_10_method_32_code
def yX8_whyNot : MethodName := ⟨RX8, "whyNot", "(II)I"⟩
abbrev cX8_gives : ByteArray := prog_10_method_33_code
def yX8_gives : MethodName := ⟨RX8, "gives", "(II)I"⟩
abbrev cX8_why : ByteArray := prog_10_method_34_code
def yX8_why : MethodName := ⟨RX8, "why", "(II)I"⟩
abbrev cX8_other : ByteArray := prog_10_method_35_code
def yX8_other : MethodName := ⟨RX8, "other", "(I)I"⟩
abbrev cX8_sideOf : ByteArray := prog_10_method_36_code
def yX8_sideOf : MethodName := ⟨RX8, "sideOf", "(IIII)I"⟩
abbrev cX8_side : ByteArray := prog_10_method_37_code
def yX8_side : MethodName := ⟨RX8, "side", "(II)I"⟩
abbrev cX8_lengthOf : ByteArray := prog_10_method_38_code
def yX8_lengthOf : MethodName := ⟨RX8, "lengthOf", "(I)I"⟩
abbrev cX8_length : ByteArray := prog_10_method_39_code
def yX8_length : MethodName := ⟨RX8, "length", "(I)I"⟩
abbrev cX8_twoAhead : ByteArray := prog_10_method_40_code
def yX8_twoAhead : MethodName := ⟨RX8, "twoAhead", "(I)I"⟩
abbrev cX8_crosses : ByteArray := prog_10_method_41_code
def yX8_crosses : MethodName := ⟨RX8, "crosses", "(IIII)Z"⟩
abbrev cX8_goes : ByteArray := prog_10_method_42_code
def yX8_goes : MethodName := ⟨RX8, "goes", "(IIII)Z"⟩
abbrev cX8_plans : ByteArray := prog_10_method_43_code
def yX8_plans : MethodName := ⟨RX8, "plans", "(I)Z"⟩
abbrev cX8_bits : ByteArray := prog_10_method_44_code
def yX8_bits : MethodName := ⟨RX8, "bits", "(I)I"⟩
abbrev cX8_finds : ByteArray := prog_10_method_45_code
def yX8_finds : MethodName := ⟨RX8, "finds", "()I"⟩
abbrev cX8_fewest : ByteArray := prog_10_method_46_code
def yX8_fewest : MethodName := ⟨RX8, "fewest", "()I"⟩
abbrev cX8_plan : ByteArray := prog_10_method_47_code
def yX8_plan : MethodName := ⟨RX8, "plan", "(I)I"⟩
abbrev cX8_swings : ByteArray := prog_10_method_48_code
def yX8_swings : MethodName := ⟨RX8, "swings", "()I"⟩
abbrev cX8_changes : ByteArray := prog_10_method_49_code
def yX8_changes : MethodName := ⟨RX8, "changes", "(II)I"⟩
abbrev cX8_order : ByteArray := prog_10_method_50_code
def yX8_order : MethodName := ⟨RX8, "order", "(I)I"⟩
abbrev cX8_crossings : ByteArray := prog_10_method_51_code
def yX8_crossings : MethodName := ⟨RX8, "crossings", "()I"⟩
abbrev cX8_list : ByteArray := prog_10_method_52_code
def yX8_list : MethodName := ⟨RX8, "list", "(I)I"⟩
abbrev cX8_all : ByteArray := prog_10_method_53_code
def yX8_all : MethodName := ⟨RX8, "all", "()I"⟩
abbrev cX8_run : ByteArray := prog_10_method_54_code
def yX8_run : MethodName := ⟨RX8, "run", "()I"⟩
abbrev cX8_frame : ByteArray := prog_10_method_55_code
def yX8_frame : MethodName := ⟨RX8, "frame", "(I)I"⟩
abbrev cX8_count : ByteArray := prog_10_method_56_code
def yX8_count : MethodName := ⟨RX8, "count", "(I)I"⟩
def RJ6 : String := "java/lang/Integer"
def TJ6 : u_T := fun k => match k with
  | _ => ("", "", "", false)
def tyJ6 : Nat → FieldType := fun k => match k with
  | _ => .int
abbrev wsJ60 : List Cond := u_ws RJ6 TJ6 0
theorem nmJ6 : ∀ a, a < 0 → ∀ b, b < 0 → a ≠ b → (TJ6 a).2.1 ≠ (TJ6 b).2.1 := by decide +kernel
theorem tyJ6_ok : ∀ k, k < 0 → parseFieldDescriptor (TJ6 k).2.2.1 = some (tyJ6 k) := by decide +kernel
abbrev cJ6_bitCount_0f7a4 : ByteArray := prog_11_method_49_code
def yJ6_bitCount_0f7a4 : MethodName := ⟨RJ6, "bitCount", "(I)I"⟩
abbrev cJ6_signum_0f7a4 : ByteArray := prog_11_method_56_code
def yJ6_signum_0f7a4 : MethodName := ⟨RJ6, "signum", "(I)I"⟩
def RJ13 : String := "java/lang/Long"
def TJ13 : u_T := fun k => match k with
  | _ => ("", "", "", false)
def tyJ13 : Nat → FieldType := fun k => match k with
  | _ => .int
abbrev wsJ130 : List Cond := u_ws RJ13 TJ13 0
theorem nmJ13 : ∀ a, a < 0 → ∀ b, b < 0 → a ≠ b → (TJ13 a).2.1 ≠ (TJ13 b).2.1 := by decide +kernel
theorem tyJ13_ok : ∀ k, k < 0 → parseFieldDescriptor (TJ13 k).2.2.1 = some (tyJ13 k) := by decide +kernel
abbrev cJ13_bitCount_95d88 : ByteArray := prog_12_method_50_code
def yJ13_bitCount_95d88 : MethodName := ⟨RJ13, "bitCount", "(J)I"⟩
def RJ9 : String := "java/lang/Math"
def TJ9 : u_T := fun k => match k with
  | _ => ("", "", "", false)
def tyJ9 : Nat → FieldType := fun k => match k with
  | _ => .int
abbrev wsJ90 : List Cond := u_ws RJ9 TJ9 0
theorem nmJ9 : ∀ a, a < 0 → ∀ b, b < 0 → a ≠ b → (TJ9 a).2.1 ≠ (TJ9 b).2.1 := by decide +kernel
theorem tyJ9_ok : ∀ k, k < 0 → parseFieldDescriptor (TJ9 k).2.2.1 = some (tyJ9 k) := by decide +kernel
abbrev cJ9_max_7cf53 : ByteArray := prog_13_method_65_code
def yJ9_max_7cf53 : MethodName := ⟨RJ9, "max", "(II)I"⟩
def RL : String := "ShotBoardLaw"
abbrev cL_law : ByteArray := code
def yL_law : MethodName := ⟨RL, "law", "([I)Z"⟩
def wsX0_init : List Cond := .code yX0_init cX0_init 1 none :: ([.methodLink RX0 3 objectInit, .instanceMethod objectInit, .code objectInit ⟨#[0xb1]⟩ 1 none])
def wsX0_mustShow : List Cond := .code yX0_mustShow cX0_mustShow 2 (some .boolean) :: ([.fieldLink RX0 9 "ShotBoard$Board" "mask" "I"] ++ wsX00)
def wsX0_partner : List Cond := .code yX0_partner cX0_partner 2 (some .int) :: ([.fieldLink RX0 15 "ShotBoard$Board" "main" "I", .methodLink RX0 18 yX0_mustShow, .instanceMethod yX0_mustShow, .selects RX0 yX0_mustShow yX0_mustShow, .initialized RX0, .code yX0_mustShow cX0_mustShow 2 (some .boolean), .fieldLink RX0 9 "ShotBoard$Board" "mask" "I"] ++ wsX00)
def wsX0_speakers : List Cond := .code yX0_speakers cX0_speakers 1 (some .int) :: ([.fieldLink RX0 15 "ShotBoard$Board" "main" "I", .methodLink RX0 22 yX0_partner, .instanceMethod yX0_partner, .selects RX0 yX0_partner yX0_partner, .initialized RX0, .code yX0_partner cX0_partner 2 (some .int), .methodLink RX0 18 yX0_mustShow, .instanceMethod yX0_mustShow, .selects RX0 yX0_mustShow yX0_mustShow, .code yX0_mustShow cX0_mustShow 2 (some .boolean), .fieldLink RX0 9 "ShotBoard$Board" "mask" "I"] ++ wsX00)
def wsX1_init : List Cond := .code yX1_init cX1_init 2 none :: ([.methodLink RX1 3 objectInit, .instanceMethod objectInit, .code objectInit ⟨#[0xb1]⟩ 1 none, .fieldLink RX1 9 "ShotBoard$Judge" "stage" "LShotBoard$Stage;"] ++ wsX10)
def wsX6_hasStep : List Cond := .code yX6_hasStep cX6_hasStep 3 (some .boolean) :: ([.fieldLink RX6 15 "ShotBoard$Stage" "stepTicks" "[J"] ++ wsX60)
def wsX6_someoneStepsAt : List Cond := .code yX6_someoneStepsAt cX6_someoneStepsAt 3 (some .boolean) :: ([.fieldLink RX6 25 "ShotBoard$Stage" "persons" "I", .methodLink RX6 29 yX6_hasStep, .instanceMethod yX6_hasStep, .selects RX6 yX6_hasStep yX6_hasStep, .initialized RX6, .code yX6_hasStep cX6_hasStep 3 (some .boolean), .fieldLink RX6 15 "ShotBoard$Stage" "stepTicks" "[J"] ++ wsX60)
def wsX6_placeOf : List Cond := .code yX6_placeOf cX6_placeOf 3 (some .int) :: ([.fieldLink RX6 9 "ShotBoard$Stage" "placeAt" "[I"] ++ wsX60)
def wsX2_cross : List Cond := .code yX2_cross cX2_cross 5 (some .int) :: ([])
def wsX2_dot : List Cond := .code yX2_dot cX2_dot 5 (some .int) :: ([])
def wsX2_meet : List Cond := .code yX2_meet cX2_meet 6 (some .boolean) :: ([.methodLink RX2 7 yX2_cross, .static yX2_cross, .initialized RX2, .code yX2_cross cX2_cross 5 (some .int), .methodLink RX2 13 yX2_dot, .static yX2_dot, .code yX2_dot cX2_dot 5 (some .int)])
def wsX2_isBetween : List Cond := .code yX2_isBetween cX2_isBetween 3 (some .boolean) :: ([.methodLink RX2 7 yX2_cross, .static yX2_cross, .initialized RX2, .code yX2_cross cX2_cross 5 (some .int), .methodLink RX2 13 yX2_dot, .static yX2_dot, .code yX2_dot cX2_dot 5 (some .int)])
def wsX6_hides : List Cond := .code yX6_hides cX6_hides 6 (some .boolean) :: ([.fieldLink RX6 43 "ShotBoard$Stage" "walls" "I", .fieldLink RX6 19 "ShotBoard$Stage" "wallFrom" "[I", .fieldLink RX6 22 "ShotBoard$Stage" "wallTo" "[I", .fieldLink RX6 25 "ShotBoard$Stage" "persons" "I", .methodLink RX6 46 yX6_placeOf, .instanceMethod yX6_placeOf, .selects RX6 yX6_placeOf yX6_placeOf, .initialized RX6, .code yX6_placeOf cX6_placeOf 3 (some .int), .fieldLink RX6 9 "ShotBoard$Stage" "placeAt" "[I", .methodLink RX6 50 yX2_meet, .static yX2_meet, .initialized RX2, .code yX2_meet cX2_meet 6 (some .boolean), .methodLink RX2 7 yX2_cross, .static yX2_cross, .code yX2_cross cX2_cross 5 (some .int), .methodLink RX2 13 yX2_dot, .static yX2_dot, .code yX2_dot cX2_dot 5 (some .int), .methodLink RX6 56 yX2_isBetween, .static yX2_isBetween, .code yX2_isBetween cX2_isBetween 3 (some .boolean)] ++ wsX60)
def wsX2_inCone : List Cond := .code yX2_inCone cX2_inCone 4 (some .boolean) :: ([.methodLink RX2 13 yX2_dot, .static yX2_dot, .initialized RX2, .code yX2_dot cX2_dot 5 (some .int)])
def wsX2_sizeSeen : List Cond := .code yX2_sizeSeen cX2_sizeSeen 3 (some .int) :: ([.methodLink RX2 13 yX2_dot, .static yX2_dot, .initialized RX2, .code yX2_dot cX2_dot 5 (some .int)])
def wsX1_someoneChangesSide : List Cond := .code yX1_someoneChangesSide cX1_someoneChangesSide 9 (some .boolean) :: ([.fieldLink RX1 9 "ShotBoard$Judge" "stage" "LShotBoard$Stage;", .fieldLink RX1 44 "ShotBoard$Board" "main" "I", .fieldLink RX1 34 "ShotBoard$Stage" "persons" "I", .methodLink RX1 47 yX6_placeOf, .instanceMethod yX6_placeOf, .selects RX6 yX6_placeOf yX6_placeOf, .initialized RX6, .code yX6_placeOf cX6_placeOf 3 (some .int), .fieldLink RX6 9 "ShotBoard$Stage" "placeAt" "[I", .methodLink RX1 37 yX0_mustShow, .instanceMethod yX0_mustShow, .selects RX0 yX0_mustShow yX0_mustShow, .initialized RX0, .code yX0_mustShow cX0_mustShow 2 (some .boolean), .fieldLink RX0 9 "ShotBoard$Board" "mask" "I", .methodLink RX1 69 yX2_cross, .static yX2_cross, .initialized RX2, .code yX2_cross cX2_cross 5 (some .int)] ++ wsX10 ++ wsX00 ++ wsX60)
def wsX1_faultAt_r1 : List Cond := [Cond.fieldLink RX1 9 "ShotBoard$Judge" "stage" "LShotBoard$Stage;", Cond.fieldLink RX1 34 "ShotBoard$Stage" "persons" "I", Cond.fieldLink RX1 44 "ShotBoard$Board" "main" "I", Cond.fieldLink RX1 56 "ShotBoard$Board" "sizes" "I", Cond.fieldLink RX1 62 "ShotBoard$Board" "kind" "I", Cond.fieldLink RX1 15 "ShotBoard$Board" "first" "I", Cond.methodLink RX1 37 yX0_mustShow, Cond.instanceMethod yX0_mustShow, Cond.selects RX0 yX0_mustShow yX0_mustShow, Cond.initialized RX0, Cond.code yX0_mustShow cX0_mustShow 2 (some .boolean), Cond.fieldLink RX0 9 "ShotBoard$Board" "mask" "I", Cond.methodLink RX1 40 yX6_hides, Cond.instanceMethod yX6_hides, Cond.selects RX6 yX6_hides yX6_hides, Cond.initialized RX6, Cond.code yX6_hides cX6_hides 6 (some .boolean), Cond.fieldLink RX6 43 "ShotBoard$Stage" "walls" "I", Cond.fieldLink RX6 19 "ShotBoard$Stage" "wallFrom" "[I", Cond.fieldLink RX6 22 "ShotBoard$Stage" "wallTo" "[I", Cond.fieldLink RX6 25 "ShotBoard$Stage" "persons" "I", Cond.methodLink RX6 46 yX6_placeOf, Cond.instanceMethod yX6_placeOf, Cond.selects RX6 yX6_placeOf yX6_placeOf]
def wsX1_faultAt_r2 : List Cond := [Cond.code yX6_placeOf cX6_placeOf 3 (some .int), Cond.fieldLink RX6 9 "ShotBoard$Stage" "placeAt" "[I", Cond.methodLink RX6 50 yX2_meet, Cond.static yX2_meet, Cond.initialized RX2, Cond.code yX2_meet cX2_meet 6 (some .boolean), Cond.methodLink RX2 7 yX2_cross, Cond.static yX2_cross, Cond.code yX2_cross cX2_cross 5 (some .int), Cond.methodLink RX2 13 yX2_dot, Cond.static yX2_dot, Cond.code yX2_dot cX2_dot 5 (some .int), Cond.methodLink RX6 56 yX2_isBetween, Cond.static yX2_isBetween, Cond.code yX2_isBetween cX2_isBetween 3 (some .boolean), Cond.methodLink RX1 47 yX6_placeOf, Cond.methodLink RX1 51 yX2_inCone, Cond.static yX2_inCone, Cond.code yX2_inCone cX2_inCone 4 (some .boolean), Cond.methodLink RX1 59 yX2_sizeSeen, Cond.static yX2_sizeSeen, Cond.code yX2_sizeSeen cX2_sizeSeen 3 (some .int), Cond.methodLink RX1 65 yX1_someoneChangesSide, Cond.instanceMethod yX1_someoneChangesSide]
def wsX1_faultAt_r3 : List Cond := [Cond.selects RX1 yX1_someoneChangesSide yX1_someoneChangesSide, Cond.initialized RX1, Cond.code yX1_someoneChangesSide cX1_someoneChangesSide 9 (some .boolean), Cond.methodLink RX1 69 yX2_cross]
def wsX1_faultAt : List Cond := .code yX1_faultAt cX1_faultAt 6 (some .int) :: ((wsX1_faultAt_r1 ++ (wsX1_faultAt_r2 ++ wsX1_faultAt_r3)) ++ wsX10 ++ wsX60 ++ wsX00)
def wsX1_fault_r1 : List Cond := [Cond.fieldLink RX1 15 "ShotBoard$Board" "first" "I", Cond.fieldLink RX1 21 "ShotBoard$Board" "last" "I", Cond.fieldLink RX1 9 "ShotBoard$Judge" "stage" "LShotBoard$Stage;", Cond.methodLink RX1 24 yX6_someoneStepsAt, Cond.instanceMethod yX6_someoneStepsAt, Cond.selects RX6 yX6_someoneStepsAt yX6_someoneStepsAt, Cond.initialized RX6, Cond.code yX6_someoneStepsAt cX6_someoneStepsAt 3 (some .boolean), Cond.fieldLink RX6 25 "ShotBoard$Stage" "persons" "I", Cond.methodLink RX6 29 yX6_hasStep, Cond.instanceMethod yX6_hasStep, Cond.selects RX6 yX6_hasStep yX6_hasStep, Cond.code yX6_hasStep cX6_hasStep 3 (some .boolean), Cond.fieldLink RX6 15 "ShotBoard$Stage" "stepTicks" "[J", Cond.methodLink RX1 30 yX1_faultAt, Cond.instanceMethod yX1_faultAt, Cond.selects RX1 yX1_faultAt yX1_faultAt, Cond.initialized RX1, Cond.code yX1_faultAt cX1_faultAt 6 (some .int), Cond.fieldLink RX1 34 "ShotBoard$Stage" "persons" "I", Cond.fieldLink RX1 44 "ShotBoard$Board" "main" "I", Cond.fieldLink RX1 56 "ShotBoard$Board" "sizes" "I", Cond.fieldLink RX1 62 "ShotBoard$Board" "kind" "I", Cond.methodLink RX1 37 yX0_mustShow]
def wsX1_fault_r2 : List Cond := [Cond.instanceMethod yX0_mustShow, Cond.selects RX0 yX0_mustShow yX0_mustShow, Cond.initialized RX0, Cond.code yX0_mustShow cX0_mustShow 2 (some .boolean), Cond.fieldLink RX0 9 "ShotBoard$Board" "mask" "I", Cond.methodLink RX1 40 yX6_hides, Cond.instanceMethod yX6_hides, Cond.selects RX6 yX6_hides yX6_hides, Cond.code yX6_hides cX6_hides 6 (some .boolean), Cond.fieldLink RX6 43 "ShotBoard$Stage" "walls" "I", Cond.fieldLink RX6 19 "ShotBoard$Stage" "wallFrom" "[I", Cond.fieldLink RX6 22 "ShotBoard$Stage" "wallTo" "[I", Cond.methodLink RX6 46 yX6_placeOf, Cond.instanceMethod yX6_placeOf, Cond.selects RX6 yX6_placeOf yX6_placeOf, Cond.code yX6_placeOf cX6_placeOf 3 (some .int), Cond.fieldLink RX6 9 "ShotBoard$Stage" "placeAt" "[I", Cond.methodLink RX6 50 yX2_meet, Cond.static yX2_meet, Cond.initialized RX2, Cond.code yX2_meet cX2_meet 6 (some .boolean), Cond.methodLink RX2 7 yX2_cross, Cond.static yX2_cross, Cond.code yX2_cross cX2_cross 5 (some .int)]
def wsX1_fault_r3 : List Cond := [Cond.methodLink RX2 13 yX2_dot, Cond.static yX2_dot, Cond.code yX2_dot cX2_dot 5 (some .int), Cond.methodLink RX6 56 yX2_isBetween, Cond.static yX2_isBetween, Cond.code yX2_isBetween cX2_isBetween 3 (some .boolean), Cond.methodLink RX1 47 yX6_placeOf, Cond.methodLink RX1 51 yX2_inCone, Cond.static yX2_inCone, Cond.code yX2_inCone cX2_inCone 4 (some .boolean), Cond.methodLink RX1 59 yX2_sizeSeen, Cond.static yX2_sizeSeen, Cond.code yX2_sizeSeen cX2_sizeSeen 3 (some .int), Cond.methodLink RX1 65 yX1_someoneChangesSide, Cond.instanceMethod yX1_someoneChangesSide, Cond.selects RX1 yX1_someoneChangesSide yX1_someoneChangesSide, Cond.code yX1_someoneChangesSide cX1_someoneChangesSide 9 (some .boolean), Cond.methodLink RX1 69 yX2_cross]
def wsX1_fault : List Cond := .code yX1_fault cX1_fault 6 (some .int) :: ((wsX1_fault_r1 ++ (wsX1_fault_r2 ++ wsX1_fault_r3)) ++ wsX00 ++ wsX10 ++ wsX60)
def wsJ6_signum_0f7a4 : List Cond := .code yJ6_signum_0f7a4 cJ6_signum_0f7a4 1 (some .int) :: ([])
def wsX1_sideOfMain_r1 : List Cond := [Cond.fieldLink RX1 9 "ShotBoard$Judge" "stage" "LShotBoard$Stage;", Cond.fieldLink RX1 44 "ShotBoard$Board" "main" "I", Cond.fieldLink RX1 15 "ShotBoard$Board" "first" "I", Cond.methodLink RX1 47 yX6_placeOf, Cond.instanceMethod yX6_placeOf, Cond.selects RX6 yX6_placeOf yX6_placeOf, Cond.initialized RX6, Cond.code yX6_placeOf cX6_placeOf 3 (some .int), Cond.fieldLink RX6 9 "ShotBoard$Stage" "placeAt" "[I", Cond.methodLink RX1 73 yX0_partner, Cond.instanceMethod yX0_partner, Cond.selects RX0 yX0_partner yX0_partner, Cond.initialized RX0, Cond.code yX0_partner cX0_partner 2 (some .int), Cond.fieldLink RX0 15 "ShotBoard$Board" "main" "I", Cond.methodLink RX0 18 yX0_mustShow, Cond.instanceMethod yX0_mustShow, Cond.selects RX0 yX0_mustShow yX0_mustShow, Cond.code yX0_mustShow cX0_mustShow 2 (some .boolean), Cond.fieldLink RX0 9 "ShotBoard$Board" "mask" "I", Cond.methodLink RX1 69 yX2_cross, Cond.static yX2_cross, Cond.initialized RX2, Cond.code yX2_cross cX2_cross 5 (some .int)]
def wsX1_sideOfMain_r2 : List Cond := [Cond.methodLink RX1 77 yJ6_signum_0f7a4, Cond.static yJ6_signum_0f7a4, Cond.initialized RJ6, Cond.code yJ6_signum_0f7a4 cJ6_signum_0f7a4 1 (some .int)]
def wsX1_sideOfMain : List Cond := .code yX1_sideOfMain cX1_sideOfMain 5 (some .int) :: ((wsX1_sideOfMain_r1 ++ wsX1_sideOfMain_r2) ++ wsX10 ++ wsX00 ++ wsX60)
def wsX1_sideOfLesser_r1 : List Cond := [Cond.fieldLink RX1 44 "ShotBoard$Board" "main" "I", Cond.methodLink RX1 83 yX1_sideOfMain, Cond.instanceMethod yX1_sideOfMain, Cond.selects RX1 yX1_sideOfMain yX1_sideOfMain, Cond.initialized RX1, Cond.code yX1_sideOfMain cX1_sideOfMain 5 (some .int), Cond.fieldLink RX1 9 "ShotBoard$Judge" "stage" "LShotBoard$Stage;", Cond.fieldLink RX1 15 "ShotBoard$Board" "first" "I", Cond.methodLink RX1 47 yX6_placeOf, Cond.instanceMethod yX6_placeOf, Cond.selects RX6 yX6_placeOf yX6_placeOf, Cond.initialized RX6, Cond.code yX6_placeOf cX6_placeOf 3 (some .int), Cond.fieldLink RX6 9 "ShotBoard$Stage" "placeAt" "[I", Cond.methodLink RX1 73 yX0_partner, Cond.instanceMethod yX0_partner, Cond.selects RX0 yX0_partner yX0_partner, Cond.initialized RX0, Cond.code yX0_partner cX0_partner 2 (some .int), Cond.fieldLink RX0 15 "ShotBoard$Board" "main" "I", Cond.methodLink RX0 18 yX0_mustShow, Cond.instanceMethod yX0_mustShow, Cond.selects RX0 yX0_mustShow yX0_mustShow, Cond.code yX0_mustShow cX0_mustShow 2 (some .boolean)]
def wsX1_sideOfLesser_r2 : List Cond := [Cond.fieldLink RX0 9 "ShotBoard$Board" "mask" "I", Cond.methodLink RX1 69 yX2_cross, Cond.static yX2_cross, Cond.initialized RX2, Cond.code yX2_cross cX2_cross 5 (some .int), Cond.methodLink RX1 77 yJ6_signum_0f7a4, Cond.static yJ6_signum_0f7a4, Cond.initialized RJ6, Cond.code yJ6_signum_0f7a4 cJ6_signum_0f7a4 1 (some .int)]
def wsX1_sideOfLesser : List Cond := .code yX1_sideOfLesser cX1_sideOfLesser 4 (some .int) :: ((wsX1_sideOfLesser_r1 ++ wsX1_sideOfLesser_r2) ++ wsX00 ++ wsX10 ++ wsX60)
def wsX3_init : List Cond := .code yX3_init cX3_init 4 none :: ([.methodLink RX3 3 objectInit, .instanceMethod objectInit, .code objectInit ⟨#[0xb1]⟩ 1 none, .arrayClass .int, .fieldLink RX3 9 "ShotBoard$Planner" "givers" "[I", .fieldLink RX3 15 "ShotBoard$Planner" "sides" "[I", .arrayClass .boolean, .fieldLink RX3 18 "ShotBoard$Planner" "canGoOn" "[Z", .fieldLink RX3 22 "ShotBoard$Planner" "row" "[I", .fieldLink RX3 25 "ShotBoard$Planner" "sequence" "[I", .fieldLink RX3 28 "ShotBoard$Planner" "judge" "LShotBoard$Judge;", .fieldLink RX3 32 "ShotBoard$Planner" "rig" "LShotBoard$Rig;", .fieldLink RX3 36 "ShotBoard$Planner" "script" "LShotBoard$Script;"] ++ wsX30)
def wsX3_forget : List Cond := .code yX3_forget cX3_forget 1 none :: ([.fieldLink RX3 40 "ShotBoard$Planner" "known" "Z"] ++ wsX30)
def wsX3_sideAfter : List Cond := .code yX3_sideAfter cX3_sideAfter 4 (some .int) :: ([.fieldLink RX3 36 "ShotBoard$Planner" "script" "LShotBoard$Script;", .fieldLink RX3 50 "ShotBoard$Script" "rows" "[LShotBoard$Board;", .fieldLink RX3 68 "ShotBoard$Board" "kind" "I", .fieldLink RX3 15 "ShotBoard$Planner" "sides" "[I"] ++ wsX30 ++ wsX50 ++ wsX00)
def wsX3_fits : List Cond := .code yX3_fits cX3_fits 6 (some .boolean) :: ([.fieldLink RX3 15 "ShotBoard$Planner" "sides" "[I", .fieldLink RX3 36 "ShotBoard$Planner" "script" "LShotBoard$Script;", .fieldLink RX3 50 "ShotBoard$Script" "rows" "[LShotBoard$Board;", .fieldLink RX3 110 "ShotBoard$Board" "cutsOnPair" "Z", .fieldLink RX3 18 "ShotBoard$Planner" "canGoOn" "[Z", .methodLink RX3 113 yX3_sideAfter, .instanceMethod yX3_sideAfter, .selects RX3 yX3_sideAfter yX3_sideAfter, .initialized RX3, .code yX3_sideAfter cX3_sideAfter 4 (some .int), .fieldLink RX3 68 "ShotBoard$Board" "kind" "I"] ++ wsX30 ++ wsX50 ++ wsX00)
def wsX3_firstFor : List Cond := .code yX3_firstFor cX3_firstFor 5 (some .int) :: ([.fieldLink RX3 32 "ShotBoard$Planner" "rig" "LShotBoard$Rig;", .fieldLink RX3 54 "ShotBoard$Rig" "cameras" "I", .fieldLink RX3 9 "ShotBoard$Planner" "givers" "[I", .methodLink RX3 106 yX3_fits, .instanceMethod yX3_fits, .selects RX3 yX3_fits yX3_fits, .initialized RX3, .code yX3_fits cX3_fits 6 (some .boolean), .fieldLink RX3 15 "ShotBoard$Planner" "sides" "[I", .fieldLink RX3 36 "ShotBoard$Planner" "script" "LShotBoard$Script;", .fieldLink RX3 50 "ShotBoard$Script" "rows" "[LShotBoard$Board;", .fieldLink RX3 110 "ShotBoard$Board" "cutsOnPair" "Z", .fieldLink RX3 18 "ShotBoard$Planner" "canGoOn" "[Z", .methodLink RX3 113 yX3_sideAfter, .instanceMethod yX3_sideAfter, .selects RX3 yX3_sideAfter yX3_sideAfter, .code yX3_sideAfter cX3_sideAfter 4 (some .int), .fieldLink RX3 68 "ShotBoard$Board" "kind" "I"] ++ wsX30 ++ wsX40 ++ wsX50 ++ wsX00)
def wsX3_canFilm : List Cond := .code yX3_canFilm cX3_canFilm 5 (some .boolean) :: ([.fieldLink RX3 36 "ShotBoard$Planner" "script" "LShotBoard$Script;", .fieldLink RX3 44 "ShotBoard$Script" "boards" "I", .fieldLink RX3 18 "ShotBoard$Planner" "canGoOn" "[Z", .methodLink RX3 102 yX3_firstFor, .instanceMethod yX3_firstFor, .selects RX3 yX3_firstFor yX3_firstFor, .initialized RX3, .code yX3_firstFor cX3_firstFor 5 (some .int), .fieldLink RX3 32 "ShotBoard$Planner" "rig" "LShotBoard$Rig;", .fieldLink RX3 54 "ShotBoard$Rig" "cameras" "I", .fieldLink RX3 9 "ShotBoard$Planner" "givers" "[I", .methodLink RX3 106 yX3_fits, .instanceMethod yX3_fits, .selects RX3 yX3_fits yX3_fits, .code yX3_fits cX3_fits 6 (some .boolean), .fieldLink RX3 15 "ShotBoard$Planner" "sides" "[I", .fieldLink RX3 50 "ShotBoard$Script" "rows" "[LShotBoard$Board;", .fieldLink RX3 110 "ShotBoard$Board" "cutsOnPair" "Z", .methodLink RX3 113 yX3_sideAfter, .instanceMethod yX3_sideAfter, .selects RX3 yX3_sideAfter yX3_sideAfter, .code yX3_sideAfter cX3_sideAfter 4 (some .int), .fieldLink RX3 68 "ShotBoard$Board" "kind" "I"] ++ wsX30 ++ wsX50 ++ wsX40 ++ wsX00)
def wsJ6_bitCount_0f7a4 : List Cond := .code yJ6_bitCount_0f7a4 cJ6_bitCount_0f7a4 1 (some .int) :: ([.constant RJ6 265 (1431655765), .constant RJ6 266 (858993459), .constant RJ6 267 (252645135)])
def wsX3_search_r1 : List Cond := [Cond.fieldLink RX3 32 "ShotBoard$Planner" "rig" "LShotBoard$Rig;", Cond.fieldLink RX3 54 "ShotBoard$Rig" "cameras" "I", Cond.fieldLink RX3 99 "ShotBoard$Planner" "chosen" "I", Cond.methodLink RX3 89 yX3_canFilm, Cond.instanceMethod yX3_canFilm, Cond.selects RX3 yX3_canFilm yX3_canFilm, Cond.initialized RX3, Cond.code yX3_canFilm cX3_canFilm 5 (some .boolean), Cond.fieldLink RX3 36 "ShotBoard$Planner" "script" "LShotBoard$Script;", Cond.fieldLink RX3 44 "ShotBoard$Script" "boards" "I", Cond.fieldLink RX3 18 "ShotBoard$Planner" "canGoOn" "[Z", Cond.methodLink RX3 102 yX3_firstFor, Cond.instanceMethod yX3_firstFor, Cond.selects RX3 yX3_firstFor yX3_firstFor, Cond.code yX3_firstFor cX3_firstFor 5 (some .int), Cond.fieldLink RX3 9 "ShotBoard$Planner" "givers" "[I", Cond.methodLink RX3 106 yX3_fits, Cond.instanceMethod yX3_fits, Cond.selects RX3 yX3_fits yX3_fits, Cond.code yX3_fits cX3_fits 6 (some .boolean), Cond.fieldLink RX3 15 "ShotBoard$Planner" "sides" "[I", Cond.fieldLink RX3 50 "ShotBoard$Script" "rows" "[LShotBoard$Board;", Cond.fieldLink RX3 110 "ShotBoard$Board" "cutsOnPair" "Z", Cond.methodLink RX3 113 yX3_sideAfter]
def wsX3_search_r2 : List Cond := [Cond.instanceMethod yX3_sideAfter, Cond.selects RX3 yX3_sideAfter yX3_sideAfter, Cond.code yX3_sideAfter cX3_sideAfter 4 (some .int), Cond.fieldLink RX3 68 "ShotBoard$Board" "kind" "I", Cond.methodLink RX3 93 yJ6_bitCount_0f7a4, Cond.static yJ6_bitCount_0f7a4, Cond.initialized RJ6, Cond.code yJ6_bitCount_0f7a4 cJ6_bitCount_0f7a4 1 (some .int), Cond.constant RJ6 265 (1431655765), Cond.constant RJ6 266 (858993459), Cond.constant RJ6 267 (252645135)]
def wsX3_search : List Cond := .code yX3_search cX3_search 4 (some .int) :: ((wsX3_search_r1 ++ wsX3_search_r2) ++ wsX30 ++ wsX40 ++ wsX50 ++ wsX00)
def wsX3_writeRow_r1 : List Cond := [Cond.fieldLink RX3 36 "ShotBoard$Planner" "script" "LShotBoard$Script;", Cond.fieldLink RX3 44 "ShotBoard$Script" "boards" "I", Cond.fieldLink RX3 99 "ShotBoard$Planner" "chosen" "I", Cond.methodLink RX3 116 Lib.Math.max.name, Cond.static Lib.Math.max.name, Cond.initialized "java/lang/Math", Cond.code Lib.Math.max.name Lib.Math.max.code 2 (some .int), Cond.fieldLink RX3 22 "ShotBoard$Planner" "row" "[I", Cond.methodLink RX3 102 yX3_firstFor, Cond.instanceMethod yX3_firstFor, Cond.selects RX3 yX3_firstFor yX3_firstFor, Cond.initialized RX3, Cond.code yX3_firstFor cX3_firstFor 5 (some .int), Cond.fieldLink RX3 32 "ShotBoard$Planner" "rig" "LShotBoard$Rig;", Cond.fieldLink RX3 54 "ShotBoard$Rig" "cameras" "I", Cond.fieldLink RX3 9 "ShotBoard$Planner" "givers" "[I", Cond.methodLink RX3 106 yX3_fits, Cond.instanceMethod yX3_fits, Cond.selects RX3 yX3_fits yX3_fits, Cond.code yX3_fits cX3_fits 6 (some .boolean), Cond.fieldLink RX3 15 "ShotBoard$Planner" "sides" "[I", Cond.fieldLink RX3 50 "ShotBoard$Script" "rows" "[LShotBoard$Board;", Cond.fieldLink RX3 110 "ShotBoard$Board" "cutsOnPair" "Z", Cond.fieldLink RX3 18 "ShotBoard$Planner" "canGoOn" "[Z"]
def wsX3_writeRow_r2 : List Cond := [Cond.methodLink RX3 113 yX3_sideAfter, Cond.instanceMethod yX3_sideAfter, Cond.selects RX3 yX3_sideAfter yX3_sideAfter, Cond.code yX3_sideAfter cX3_sideAfter 4 (some .int), Cond.fieldLink RX3 68 "ShotBoard$Board" "kind" "I"]
def wsX3_writeRow : List Cond := .code yX3_writeRow cX3_writeRow 4 none :: ((wsX3_writeRow_r1 ++ wsX3_writeRow_r2) ++ wsX30 ++ wsX50 ++ wsX40 ++ wsX00)
def wsX3_leastOf : List Cond := .code yX3_leastOf cX3_leastOf 4 (some .int) :: ([.fieldLink RX3 32 "ShotBoard$Planner" "rig" "LShotBoard$Rig;", .fieldLink RX3 54 "ShotBoard$Rig" "cameras" "I", .fieldLink RX3 125 "ShotBoard$Rig" "lights" "[I"] ++ wsX30 ++ wsX40)
def wsX3_writeSequence : List Cond := .code yX3_writeSequence cX3_writeSequence 5 none :: ([.fieldLink RX3 99 "ShotBoard$Planner" "chosen" "I", .fieldLink RX3 80 "ShotBoard$Planner" "used" "I", .methodLink RX3 116 Lib.Math.max.name, .static Lib.Math.max.name, .initialized "java/lang/Math", .code Lib.Math.max.name Lib.Math.max.code 2 (some .int), .fieldLink RX3 25 "ShotBoard$Planner" "sequence" "[I", .fieldLink RX3 32 "ShotBoard$Planner" "rig" "LShotBoard$Rig;", .fieldLink RX3 125 "ShotBoard$Rig" "lights" "[I", .methodLink RX3 122 yX3_leastOf, .instanceMethod yX3_leastOf, .selects RX3 yX3_leastOf yX3_leastOf, .initialized RX3, .code yX3_leastOf cX3_leastOf 4 (some .int), .fieldLink RX3 54 "ShotBoard$Rig" "cameras" "I"] ++ wsX30 ++ wsX40)
def wsX3_refresh_r1 : List Cond := [Cond.fieldLink RX3 40 "ShotBoard$Planner" "known" "Z", Cond.fieldLink RX3 36 "ShotBoard$Planner" "script" "LShotBoard$Script;", Cond.fieldLink RX3 44 "ShotBoard$Script" "boards" "I", Cond.fieldLink RX3 50 "ShotBoard$Script" "rows" "[LShotBoard$Board;", Cond.fieldLink RX3 9 "ShotBoard$Planner" "givers" "[I", Cond.fieldLink RX3 32 "ShotBoard$Planner" "rig" "LShotBoard$Rig;", Cond.fieldLink RX3 54 "ShotBoard$Rig" "cameras" "I", Cond.fieldLink RX3 59 "ShotBoard$Rig" "places" "[I", Cond.fieldLink RX3 28 "ShotBoard$Planner" "judge" "LShotBoard$Judge;", Cond.fieldLink RX3 15 "ShotBoard$Planner" "sides" "[I", Cond.fieldLink RX3 68 "ShotBoard$Board" "kind" "I", Cond.fieldLink RX3 80 "ShotBoard$Planner" "used" "I", Cond.methodLink RX3 62 yX1_fault, Cond.instanceMethod yX1_fault, Cond.selects RX1 yX1_fault yX1_fault, Cond.initialized RX1, Cond.code yX1_fault cX1_fault 6 (some .int), Cond.fieldLink RX1 15 "ShotBoard$Board" "first" "I", Cond.fieldLink RX1 21 "ShotBoard$Board" "last" "I", Cond.fieldLink RX1 9 "ShotBoard$Judge" "stage" "LShotBoard$Stage;", Cond.methodLink RX1 24 yX6_someoneStepsAt, Cond.instanceMethod yX6_someoneStepsAt, Cond.selects RX6 yX6_someoneStepsAt yX6_someoneStepsAt, Cond.initialized RX6]
def wsX3_refresh_r2 : List Cond := [Cond.code yX6_someoneStepsAt cX6_someoneStepsAt 3 (some .boolean), Cond.fieldLink RX6 25 "ShotBoard$Stage" "persons" "I", Cond.methodLink RX6 29 yX6_hasStep, Cond.instanceMethod yX6_hasStep, Cond.selects RX6 yX6_hasStep yX6_hasStep, Cond.code yX6_hasStep cX6_hasStep 3 (some .boolean), Cond.fieldLink RX6 15 "ShotBoard$Stage" "stepTicks" "[J", Cond.methodLink RX1 30 yX1_faultAt, Cond.instanceMethod yX1_faultAt, Cond.selects RX1 yX1_faultAt yX1_faultAt, Cond.code yX1_faultAt cX1_faultAt 6 (some .int), Cond.fieldLink RX1 34 "ShotBoard$Stage" "persons" "I", Cond.fieldLink RX1 44 "ShotBoard$Board" "main" "I", Cond.fieldLink RX1 56 "ShotBoard$Board" "sizes" "I", Cond.fieldLink RX1 62 "ShotBoard$Board" "kind" "I", Cond.methodLink RX1 37 yX0_mustShow, Cond.instanceMethod yX0_mustShow, Cond.selects RX0 yX0_mustShow yX0_mustShow, Cond.initialized RX0, Cond.code yX0_mustShow cX0_mustShow 2 (some .boolean), Cond.fieldLink RX0 9 "ShotBoard$Board" "mask" "I", Cond.methodLink RX1 40 yX6_hides, Cond.instanceMethod yX6_hides, Cond.selects RX6 yX6_hides yX6_hides]
def wsX3_refresh_r3 : List Cond := [Cond.code yX6_hides cX6_hides 6 (some .boolean), Cond.fieldLink RX6 43 "ShotBoard$Stage" "walls" "I", Cond.fieldLink RX6 19 "ShotBoard$Stage" "wallFrom" "[I", Cond.fieldLink RX6 22 "ShotBoard$Stage" "wallTo" "[I", Cond.methodLink RX6 46 yX6_placeOf, Cond.instanceMethod yX6_placeOf, Cond.selects RX6 yX6_placeOf yX6_placeOf, Cond.code yX6_placeOf cX6_placeOf 3 (some .int), Cond.fieldLink RX6 9 "ShotBoard$Stage" "placeAt" "[I", Cond.methodLink RX6 50 yX2_meet, Cond.static yX2_meet, Cond.initialized RX2, Cond.code yX2_meet cX2_meet 6 (some .boolean), Cond.methodLink RX2 7 yX2_cross, Cond.static yX2_cross, Cond.code yX2_cross cX2_cross 5 (some .int), Cond.methodLink RX2 13 yX2_dot, Cond.static yX2_dot, Cond.code yX2_dot cX2_dot 5 (some .int), Cond.methodLink RX6 56 yX2_isBetween, Cond.static yX2_isBetween, Cond.code yX2_isBetween cX2_isBetween 3 (some .boolean), Cond.methodLink RX1 47 yX6_placeOf, Cond.methodLink RX1 51 yX2_inCone]
def wsX3_refresh_r4 : List Cond := [Cond.static yX2_inCone, Cond.code yX2_inCone cX2_inCone 4 (some .boolean), Cond.methodLink RX1 59 yX2_sizeSeen, Cond.static yX2_sizeSeen, Cond.code yX2_sizeSeen cX2_sizeSeen 3 (some .int), Cond.methodLink RX1 65 yX1_someoneChangesSide, Cond.instanceMethod yX1_someoneChangesSide, Cond.selects RX1 yX1_someoneChangesSide yX1_someoneChangesSide, Cond.code yX1_someoneChangesSide cX1_someoneChangesSide 9 (some .boolean), Cond.methodLink RX1 69 yX2_cross, Cond.methodLink RX3 73 yX1_sideOfLesser, Cond.instanceMethod yX1_sideOfLesser, Cond.selects RX1 yX1_sideOfLesser yX1_sideOfLesser, Cond.code yX1_sideOfLesser cX1_sideOfLesser 4 (some .int), Cond.methodLink RX1 83 yX1_sideOfMain, Cond.instanceMethod yX1_sideOfMain, Cond.selects RX1 yX1_sideOfMain yX1_sideOfMain, Cond.code yX1_sideOfMain cX1_sideOfMain 5 (some .int), Cond.methodLink RX1 73 yX0_partner, Cond.instanceMethod yX0_partner, Cond.selects RX0 yX0_partner yX0_partner, Cond.code yX0_partner cX0_partner 2 (some .int), Cond.fieldLink RX0 15 "ShotBoard$Board" "main" "I", Cond.methodLink RX0 18 yX0_mustShow]
def wsX3_refresh_r5 : List Cond := [Cond.methodLink RX1 77 yJ6_signum_0f7a4, Cond.static yJ6_signum_0f7a4, Cond.initialized RJ6, Cond.code yJ6_signum_0f7a4 cJ6_signum_0f7a4 1 (some .int), Cond.methodLink RX3 76 yX3_search, Cond.instanceMethod yX3_search, Cond.selects RX3 yX3_search yX3_search, Cond.initialized RX3, Cond.code yX3_search cX3_search 4 (some .int), Cond.fieldLink RX3 99 "ShotBoard$Planner" "chosen" "I", Cond.methodLink RX3 89 yX3_canFilm, Cond.instanceMethod yX3_canFilm, Cond.selects RX3 yX3_canFilm yX3_canFilm, Cond.code yX3_canFilm cX3_canFilm 5 (some .boolean), Cond.fieldLink RX3 18 "ShotBoard$Planner" "canGoOn" "[Z", Cond.methodLink RX3 102 yX3_firstFor, Cond.instanceMethod yX3_firstFor, Cond.selects RX3 yX3_firstFor yX3_firstFor, Cond.code yX3_firstFor cX3_firstFor 5 (some .int), Cond.methodLink RX3 106 yX3_fits, Cond.instanceMethod yX3_fits, Cond.selects RX3 yX3_fits yX3_fits, Cond.code yX3_fits cX3_fits 6 (some .boolean), Cond.fieldLink RX3 110 "ShotBoard$Board" "cutsOnPair" "Z"]
def wsX3_refresh_r6 : List Cond := [Cond.methodLink RX3 113 yX3_sideAfter, Cond.instanceMethod yX3_sideAfter, Cond.selects RX3 yX3_sideAfter yX3_sideAfter, Cond.code yX3_sideAfter cX3_sideAfter 4 (some .int), Cond.methodLink RX3 93 yJ6_bitCount_0f7a4, Cond.static yJ6_bitCount_0f7a4, Cond.code yJ6_bitCount_0f7a4 cJ6_bitCount_0f7a4 1 (some .int), Cond.constant RJ6 265 (1431655765), Cond.constant RJ6 266 (858993459), Cond.constant RJ6 267 (252645135), Cond.methodLink RX3 83 yX3_writeRow, Cond.instanceMethod yX3_writeRow, Cond.selects RX3 yX3_writeRow yX3_writeRow, Cond.code yX3_writeRow cX3_writeRow 4 none, Cond.methodLink RX3 116 Lib.Math.max.name, Cond.static Lib.Math.max.name, Cond.initialized "java/lang/Math", Cond.code Lib.Math.max.name Lib.Math.max.code 2 (some .int), Cond.fieldLink RX3 22 "ShotBoard$Planner" "row" "[I", Cond.methodLink RX3 86 yX3_writeSequence, Cond.instanceMethod yX3_writeSequence, Cond.selects RX3 yX3_writeSequence yX3_writeSequence, Cond.code yX3_writeSequence cX3_writeSequence 5 none, Cond.fieldLink RX3 25 "ShotBoard$Planner" "sequence" "[I"]
def wsX3_refresh_r7 : List Cond := [Cond.fieldLink RX3 125 "ShotBoard$Rig" "lights" "[I", Cond.methodLink RX3 122 yX3_leastOf, Cond.instanceMethod yX3_leastOf, Cond.selects RX3 yX3_leastOf yX3_leastOf, Cond.code yX3_leastOf cX3_leastOf 4 (some .int)]
def wsX3_refresh : List Cond := .code yX3_refresh cX3_refresh 5 none :: ((wsX3_refresh_r1 ++ (wsX3_refresh_r2 ++ (wsX3_refresh_r3 ++ (wsX3_refresh_r4 ++ (wsX3_refresh_r5 ++ (wsX3_refresh_r6 ++ wsX3_refresh_r7)))))) ++ wsX30 ++ wsX50 ++ wsX40 ++ wsX00 ++ wsX10 ++ wsX60)
def wsX3_turns : List Cond := .code yX3_turns cX3_turns 3 (some .int) :: ([.fieldLink RX3 36 "ShotBoard$Planner" "script" "LShotBoard$Script;", .fieldLink RX3 44 "ShotBoard$Script" "boards" "I", .fieldLink RX3 32 "ShotBoard$Planner" "rig" "LShotBoard$Rig;", .fieldLink RX3 125 "ShotBoard$Rig" "lights" "[I", .fieldLink RX3 22 "ShotBoard$Planner" "row" "[I"] ++ wsX30 ++ wsX50 ++ wsX40)
def wsX4_init : List Cond := .code yX4_init cX4_init 1 none :: ([.methodLink RX4 3 objectInit, .instanceMethod objectInit, .code objectInit ⟨#[0xb1]⟩ 1 none, .arrayClass .int, .fieldLink RX4 9 "ShotBoard$Rig" "places" "[I", .fieldLink RX4 15 "ShotBoard$Rig" "lights" "[I"] ++ wsX40)
def wsX4_add : List Cond := .code yX4_add cX4_add 3 (some .int) :: ([.fieldLink RX4 9 "ShotBoard$Rig" "places" "[I", .fieldLink RX4 18 "ShotBoard$Rig" "cameras" "I", .fieldLink RX4 15 "ShotBoard$Rig" "lights" "[I"] ++ wsX40)
def wsX5_init : List Cond := .code yX5_init cX5_init 2 none :: ([.methodLink RX5 3 objectInit, .instanceMethod objectInit, .code objectInit ⟨#[0xb1]⟩ 1 none, .classLink RX5 9 RX0, .fieldLink RX5 11 "ShotBoard$Script" "rows" "[LShotBoard$Board;", .fieldLink RX5 17 "ShotBoard$Script" "wordsPerTick" "I", .instantiable RX0 8, .initialized RX0, .instanceMethod yX0_init, .code yX0_init cX0_init 1 none, .methodLink RX0 3 objectInit] ++ wsX50 ++ wsX00)
def wsX5_speakersOfLastTwo : List Cond := .code yX5_speakersOfLastTwo cX5_speakersOfLastTwo 2 (some .int) :: ([.fieldLink RX5 22 "ShotBoard$Script" "boards" "I", .fieldLink RX5 11 "ShotBoard$Script" "rows" "[LShotBoard$Board;", .fieldLink RX5 25 "ShotBoard$Board" "kind" "I", .methodLink RX5 50 yX0_speakers, .instanceMethod yX0_speakers, .selects RX0 yX0_speakers yX0_speakers, .initialized RX0, .code yX0_speakers cX0_speakers 1 (some .int), .fieldLink RX0 15 "ShotBoard$Board" "main" "I", .methodLink RX0 22 yX0_partner, .instanceMethod yX0_partner, .selects RX0 yX0_partner yX0_partner, .code yX0_partner cX0_partner 2 (some .int), .methodLink RX0 18 yX0_mustShow, .instanceMethod yX0_mustShow, .selects RX0 yX0_mustShow yX0_mustShow, .code yX0_mustShow cX0_mustShow 2 (some .boolean), .fieldLink RX0 9 "ShotBoard$Board" "mask" "I"] ++ wsX50 ++ wsX00)
def wsX5_add_r1 : List Cond := [Cond.fieldLink RX5 11 "ShotBoard$Script" "rows" "[LShotBoard$Board;", Cond.fieldLink RX5 22 "ShotBoard$Script" "boards" "I", Cond.fieldLink RX5 25 "ShotBoard$Board" "kind" "I", Cond.fieldLink RX5 28 "ShotBoard$Board" "main" "I", Cond.fieldLink RX5 31 "ShotBoard$Board" "mask" "I", Cond.fieldLink RX5 34 "ShotBoard$Board" "sizes" "I", Cond.fieldLink RX5 37 "ShotBoard$Board" "first" "I", Cond.fieldLink RX5 40 "ShotBoard$Board" "last" "I", Cond.fieldLink RX5 43 "ShotBoard$Board" "words" "I", Cond.fieldLink RX5 53 "ShotBoard$Board" "cutsOnPair" "Z", Cond.methodLink RX5 46 yX5_speakersOfLastTwo, Cond.instanceMethod yX5_speakersOfLastTwo, Cond.selects RX5 yX5_speakersOfLastTwo yX5_speakersOfLastTwo, Cond.initialized RX5, Cond.code yX5_speakersOfLastTwo cX5_speakersOfLastTwo 2 (some .int), Cond.methodLink RX5 50 yX0_speakers, Cond.instanceMethod yX0_speakers, Cond.selects RX0 yX0_speakers yX0_speakers, Cond.initialized RX0, Cond.code yX0_speakers cX0_speakers 1 (some .int), Cond.fieldLink RX0 15 "ShotBoard$Board" "main" "I", Cond.methodLink RX0 22 yX0_partner, Cond.instanceMethod yX0_partner, Cond.selects RX0 yX0_partner yX0_partner]
def wsX5_add_r2 : List Cond := [Cond.code yX0_partner cX0_partner 2 (some .int), Cond.methodLink RX0 18 yX0_mustShow, Cond.instanceMethod yX0_mustShow, Cond.selects RX0 yX0_mustShow yX0_mustShow, Cond.code yX0_mustShow cX0_mustShow 2 (some .boolean), Cond.fieldLink RX0 9 "ShotBoard$Board" "mask" "I"]
def wsX5_add : List Cond := .code yX5_add cX5_add 6 (some .int) :: ((wsX5_add_r1 ++ wsX5_add_r2) ++ wsX50 ++ wsX00)
def wsX5_lengthOf : List Cond := .code yX5_lengthOf cX5_lengthOf 4 (some .int) :: ([.fieldLink RX5 11 "ShotBoard$Script" "rows" "[LShotBoard$Board;", .fieldLink RX5 43 "ShotBoard$Board" "words" "I", .fieldLink RX5 17 "ShotBoard$Script" "wordsPerTick" "I", .fieldLink RX5 40 "ShotBoard$Board" "last" "I", .fieldLink RX5 37 "ShotBoard$Board" "first" "I", .methodLink RX5 57 Lib.Math.max.name, .static Lib.Math.max.name, .initialized "java/lang/Math", .code Lib.Math.max.name Lib.Math.max.code 2 (some .int)] ++ wsX50 ++ wsX00)
def wsX6_init : List Cond := .code yX6_init cX6_init 1 none :: ([.methodLink RX6 3 objectInit, .instanceMethod objectInit, .code objectInit ⟨#[0xb1]⟩ 1 none, .arrayClass .int, .fieldLink RX6 9 "ShotBoard$Stage" "placeAt" "[I", .arrayClass .long, .fieldLink RX6 15 "ShotBoard$Stage" "stepTicks" "[J", .fieldLink RX6 19 "ShotBoard$Stage" "wallFrom" "[I", .fieldLink RX6 22 "ShotBoard$Stage" "wallTo" "[I"] ++ wsX60)
def wsJ13_bitCount_95d88 : List Cond := .code yJ13_bitCount_95d88 cJ13_bitCount_95d88 2 (some .int) :: ([.constantLong RJ13 314 (6148914691236517205), .constantLong RJ13 316 (3689348814741910323), .constantLong RJ13 318 (1085102592571150095)])
def wsX6_stepsOf : List Cond := .code yX6_stepsOf cX6_stepsOf 2 (some .int) :: ([.fieldLink RX6 15 "ShotBoard$Stage" "stepTicks" "[J", .methodLink RX6 33 yJ13_bitCount_95d88, .static yJ13_bitCount_95d88, .initialized RJ13, .code yJ13_bitCount_95d88 cJ13_bitCount_95d88 2 (some .int), .constantLong RJ13 314 (6148914691236517205), .constantLong RJ13 316 (3689348814741910323), .constantLong RJ13 318 (1085102592571150095)] ++ wsX60)
def wsX6_addPerson : List Cond := .code yX6_addPerson cX6_addPerson 3 (some .int) :: ([.fieldLink RX6 9 "ShotBoard$Stage" "placeAt" "[I", .fieldLink RX6 25 "ShotBoard$Stage" "persons" "I"] ++ wsX60)
def wsX6_addStep : List Cond := .code yX6_addStep cX6_addStep 5 (some .int) :: ([.fieldLink RX6 15 "ShotBoard$Stage" "stepTicks" "[J", .fieldLink RX6 9 "ShotBoard$Stage" "placeAt" "[I", .methodLink RX6 29 yX6_hasStep, .instanceMethod yX6_hasStep, .selects RX6 yX6_hasStep yX6_hasStep, .initialized RX6, .code yX6_hasStep cX6_hasStep 3 (some .boolean), .methodLink RX6 39 yX6_stepsOf, .instanceMethod yX6_stepsOf, .selects RX6 yX6_stepsOf yX6_stepsOf, .code yX6_stepsOf cX6_stepsOf 2 (some .int), .methodLink RX6 33 yJ13_bitCount_95d88, .static yJ13_bitCount_95d88, .initialized RJ13, .code yJ13_bitCount_95d88 cJ13_bitCount_95d88 2 (some .int), .constantLong RJ13 314 (6148914691236517205), .constantLong RJ13 316 (3689348814741910323), .constantLong RJ13 318 (1085102592571150095)] ++ wsX60)
def wsX6_addWall : List Cond := .code yX6_addWall cX6_addWall 3 (some .int) :: ([.fieldLink RX6 19 "ShotBoard$Stage" "wallFrom" "[I", .fieldLink RX6 43 "ShotBoard$Stage" "walls" "I", .fieldLink RX6 22 "ShotBoard$Stage" "wallTo" "[I"] ++ wsX60)
def wsX7_init_r1 : List Cond := [Cond.methodLink RX7 1 objectInit, Cond.instanceMethod objectInit, Cond.code objectInit ⟨#[0xb1]⟩ 1 none, Cond.classLink RX7 7 RX6, Cond.instantiable RX6 6, Cond.initialized RX6, Cond.fieldLink RX7 10 "ShotBoard" "stage" "LShotBoard$Stage;", Cond.classLink RX7 16 RX4, Cond.instantiable RX4 3, Cond.initialized RX4, Cond.fieldLink RX7 19 "ShotBoard" "rig" "LShotBoard$Rig;", Cond.classLink RX7 23 RX5, Cond.instantiable RX5 3, Cond.initialized RX5, Cond.fieldLink RX7 26 "ShotBoard" "script" "LShotBoard$Script;", Cond.classLink RX7 30 RX1, Cond.instantiable RX1 1, Cond.initialized RX1, Cond.fieldLink RX7 35 "ShotBoard" "judge" "LShotBoard$Judge;", Cond.classLink RX7 39 RX3, Cond.instantiable RX3 11, Cond.initialized RX3, Cond.fieldLink RX7 44 "ShotBoard" "planner" "LShotBoard$Planner;", Cond.arrayClass .int]
def wsX7_init_r2 : List Cond := [Cond.fieldLink RX7 48 "ShotBoard" "told" "[I", Cond.instanceMethod yX6_init, Cond.code yX6_init cX6_init 1 none, Cond.methodLink RX6 3 objectInit, Cond.fieldLink RX6 9 "ShotBoard$Stage" "placeAt" "[I", Cond.arrayClass .long, Cond.fieldLink RX6 15 "ShotBoard$Stage" "stepTicks" "[J", Cond.fieldLink RX6 19 "ShotBoard$Stage" "wallFrom" "[I", Cond.fieldLink RX6 22 "ShotBoard$Stage" "wallTo" "[I", Cond.instanceMethod yX4_init, Cond.code yX4_init cX4_init 1 none, Cond.methodLink RX4 3 objectInit, Cond.fieldLink RX4 9 "ShotBoard$Rig" "places" "[I", Cond.fieldLink RX4 15 "ShotBoard$Rig" "lights" "[I", Cond.methodLink RX7 25 yX5_init, Cond.instanceMethod yX5_init, Cond.code yX5_init cX5_init 2 none, Cond.methodLink RX5 3 objectInit, Cond.classLink RX5 9 RX0, Cond.fieldLink RX5 11 "ShotBoard$Script" "rows" "[LShotBoard$Board;", Cond.fieldLink RX5 17 "ShotBoard$Script" "wordsPerTick" "I", Cond.instantiable RX0 8, Cond.initialized RX0, Cond.instanceMethod yX0_init]
def wsX7_init_r3 : List Cond := [Cond.code yX0_init cX0_init 1 none, Cond.methodLink RX0 3 objectInit, Cond.methodLink RX7 32 yX1_init, Cond.instanceMethod yX1_init, Cond.code yX1_init cX1_init 2 none, Cond.methodLink RX1 3 objectInit, Cond.fieldLink RX1 9 "ShotBoard$Judge" "stage" "LShotBoard$Stage;", Cond.methodLink RX7 41 yX3_init, Cond.instanceMethod yX3_init, Cond.code yX3_init cX3_init 4 none, Cond.methodLink RX3 3 objectInit, Cond.fieldLink RX3 9 "ShotBoard$Planner" "givers" "[I", Cond.fieldLink RX3 15 "ShotBoard$Planner" "sides" "[I", Cond.arrayClass .boolean, Cond.fieldLink RX3 18 "ShotBoard$Planner" "canGoOn" "[Z", Cond.fieldLink RX3 22 "ShotBoard$Planner" "row" "[I", Cond.fieldLink RX3 25 "ShotBoard$Planner" "sequence" "[I", Cond.fieldLink RX3 28 "ShotBoard$Planner" "judge" "LShotBoard$Judge;", Cond.fieldLink RX3 32 "ShotBoard$Planner" "rig" "LShotBoard$Rig;", Cond.fieldLink RX3 36 "ShotBoard$Planner" "script" "LShotBoard$Script;"]
def wsX7_init : List Cond := .code yX7_init cX7_init 1 none :: ((wsX7_init_r1 ++ (wsX7_init_r2 ++ wsX7_init_r3)) ++ wsX60 ++ wsX70 ++ wsX40 ++ wsX50 ++ wsX10 ++ wsX30 ++ wsX00)
def wsX7_isPlace : List Cond := .code yX7_isPlace cX7_isPlace 1 (some .boolean) :: ([])
def wsX7_person : List Cond := .code yX7_person cX7_person 2 (some .int) :: ([.fieldLink RX7 10 "ShotBoard" "stage" "LShotBoard$Stage;", .fieldLink RX7 56 "ShotBoard$Stage" "persons" "I", .fieldLink RX7 44 "ShotBoard" "planner" "LShotBoard$Planner;", .methodLink RX7 52 yX7_isPlace, .static yX7_isPlace, .initialized RX7, .code yX7_isPlace cX7_isPlace 1 (some .boolean), .methodLink RX7 60 yX3_forget, .instanceMethod yX3_forget, .selects RX3 yX3_forget yX3_forget, .initialized RX3, .code yX3_forget cX3_forget 1 none, .fieldLink RX3 40 "ShotBoard$Planner" "known" "Z", .methodLink RX7 63 yX6_addPerson, .instanceMethod yX6_addPerson, .selects RX6 yX6_addPerson yX6_addPerson, .initialized RX6, .code yX6_addPerson cX6_addPerson 3 (some .int), .fieldLink RX6 9 "ShotBoard$Stage" "placeAt" "[I", .fieldLink RX6 25 "ShotBoard$Stage" "persons" "I"] ++ wsX70 ++ wsX60 ++ wsX30)
def wsX7_isPerson : List Cond := .code yX7_isPerson cX7_isPerson 2 (some .boolean) :: ([.fieldLink RX7 10 "ShotBoard" "stage" "LShotBoard$Stage;", .fieldLink RX7 56 "ShotBoard$Stage" "persons" "I"] ++ wsX70 ++ wsX60)
def wsX7_isTick : List Cond := .code yX7_isTick cX7_isTick 1 (some .boolean) :: ([])
def wsX7_step_r1 : List Cond := [Cond.fieldLink RX7 10 "ShotBoard" "stage" "LShotBoard$Stage;", Cond.fieldLink RX7 44 "ShotBoard" "planner" "LShotBoard$Planner;", Cond.methodLink RX7 67 yX7_isPerson, Cond.instanceMethod yX7_isPerson, Cond.selects RX7 yX7_isPerson yX7_isPerson, Cond.initialized RX7, Cond.code yX7_isPerson cX7_isPerson 2 (some .boolean), Cond.fieldLink RX7 56 "ShotBoard$Stage" "persons" "I", Cond.methodLink RX7 70 yX7_isTick, Cond.static yX7_isTick, Cond.code yX7_isTick cX7_isTick 1 (some .boolean), Cond.methodLink RX7 52 yX7_isPlace, Cond.static yX7_isPlace, Cond.code yX7_isPlace cX7_isPlace 1 (some .boolean), Cond.methodLink RX7 73 yX6_hasStep, Cond.instanceMethod yX6_hasStep, Cond.selects RX6 yX6_hasStep yX6_hasStep, Cond.initialized RX6, Cond.code yX6_hasStep cX6_hasStep 3 (some .boolean), Cond.fieldLink RX6 15 "ShotBoard$Stage" "stepTicks" "[J", Cond.methodLink RX7 77 yX6_stepsOf, Cond.instanceMethod yX6_stepsOf, Cond.selects RX6 yX6_stepsOf yX6_stepsOf, Cond.code yX6_stepsOf cX6_stepsOf 2 (some .int)]
def wsX7_step_r2 : List Cond := [Cond.methodLink RX6 33 yJ13_bitCount_95d88, Cond.static yJ13_bitCount_95d88, Cond.initialized RJ13, Cond.code yJ13_bitCount_95d88 cJ13_bitCount_95d88 2 (some .int), Cond.constantLong RJ13 314 (6148914691236517205), Cond.constantLong RJ13 316 (3689348814741910323), Cond.constantLong RJ13 318 (1085102592571150095), Cond.methodLink RX7 60 yX3_forget, Cond.instanceMethod yX3_forget, Cond.selects RX3 yX3_forget yX3_forget, Cond.initialized RX3, Cond.code yX3_forget cX3_forget 1 none, Cond.fieldLink RX3 40 "ShotBoard$Planner" "known" "Z", Cond.methodLink RX7 80 yX6_addStep, Cond.instanceMethod yX6_addStep, Cond.selects RX6 yX6_addStep yX6_addStep, Cond.code yX6_addStep cX6_addStep 5 (some .int), Cond.fieldLink RX6 9 "ShotBoard$Stage" "placeAt" "[I", Cond.methodLink RX6 29 yX6_hasStep, Cond.methodLink RX6 39 yX6_stepsOf]
def wsX7_step : List Cond := .code yX7_step cX7_step 4 (some .int) :: ((wsX7_step_r1 ++ wsX7_step_r2) ++ wsX70 ++ wsX60 ++ wsX30)
def wsX7_wall : List Cond := .code yX7_wall cX7_wall 3 (some .int) :: ([.fieldLink RX7 10 "ShotBoard" "stage" "LShotBoard$Stage;", .fieldLink RX7 84 "ShotBoard$Stage" "walls" "I", .fieldLink RX7 44 "ShotBoard" "planner" "LShotBoard$Planner;", .methodLink RX7 52 yX7_isPlace, .static yX7_isPlace, .initialized RX7, .code yX7_isPlace cX7_isPlace 1 (some .boolean), .methodLink RX7 60 yX3_forget, .instanceMethod yX3_forget, .selects RX3 yX3_forget yX3_forget, .initialized RX3, .code yX3_forget cX3_forget 1 none, .fieldLink RX3 40 "ShotBoard$Planner" "known" "Z", .methodLink RX7 87 yX6_addWall, .instanceMethod yX6_addWall, .selects RX6 yX6_addWall yX6_addWall, .initialized RX6, .code yX6_addWall cX6_addWall 3 (some .int), .fieldLink RX6 19 "ShotBoard$Stage" "wallFrom" "[I", .fieldLink RX6 43 "ShotBoard$Stage" "walls" "I", .fieldLink RX6 22 "ShotBoard$Stage" "wallTo" "[I"] ++ wsX70 ++ wsX60 ++ wsX30)
def wsX7_open : List Cond := .code yX7_open cX7_open 1 (some .int) :: ([.fieldLink RX7 10 "ShotBoard" "stage" "LShotBoard$Stage;", .fieldLink RX7 84 "ShotBoard$Stage" "walls" "I", .fieldLink RX7 44 "ShotBoard" "planner" "LShotBoard$Planner;", .methodLink RX7 60 yX3_forget, .instanceMethod yX3_forget, .selects RX3 yX3_forget yX3_forget, .initialized RX3, .code yX3_forget cX3_forget 1 none, .fieldLink RX3 40 "ShotBoard$Planner" "known" "Z"] ++ wsX70 ++ wsX60 ++ wsX30)
def wsX7_camera : List Cond := .code yX7_camera cX7_camera 3 (some .int) :: ([.fieldLink RX7 19 "ShotBoard" "rig" "LShotBoard$Rig;", .fieldLink RX7 91 "ShotBoard$Rig" "cameras" "I", .fieldLink RX7 44 "ShotBoard" "planner" "LShotBoard$Planner;", .methodLink RX7 52 yX7_isPlace, .static yX7_isPlace, .initialized RX7, .code yX7_isPlace cX7_isPlace 1 (some .boolean), .methodLink RX7 60 yX3_forget, .instanceMethod yX3_forget, .selects RX3 yX3_forget yX3_forget, .initialized RX3, .code yX3_forget cX3_forget 1 none, .fieldLink RX3 40 "ShotBoard$Planner" "known" "Z", .methodLink RX7 94 yX4_add, .instanceMethod yX4_add, .selects RX4 yX4_add yX4_add, .initialized RX4, .code yX4_add cX4_add 3 (some .int), .fieldLink RX4 9 "ShotBoard$Rig" "places" "[I", .fieldLink RX4 18 "ShotBoard$Rig" "cameras" "I", .fieldLink RX4 15 "ShotBoard$Rig" "lights" "[I"] ++ wsX70 ++ wsX40 ++ wsX30)
def wsX7_isWho : List Cond := .code yX7_isWho cX7_isWho 4 (some .boolean) :: ([.fieldLink RX7 10 "ShotBoard" "stage" "LShotBoard$Stage;", .fieldLink RX7 56 "ShotBoard$Stage" "persons" "I", .methodLink RX7 67 yX7_isPerson, .instanceMethod yX7_isPerson, .selects RX7 yX7_isPerson yX7_isPerson, .initialized RX7, .code yX7_isPerson cX7_isPerson 2 (some .boolean)] ++ wsX70 ++ wsX60)
def wsX7_isSpan : List Cond := .code yX7_isSpan cX7_isSpan 1 (some .boolean) :: ([.methodLink RX7 70 yX7_isTick, .static yX7_isTick, .initialized RX7, .code yX7_isTick cX7_isTick 1 (some .boolean)])
def wsX7_board_r1 : List Cond := [Cond.fieldLink RX7 26 "ShotBoard" "script" "LShotBoard$Script;", Cond.fieldLink RX7 103 "ShotBoard$Script" "boards" "I", Cond.fieldLink RX7 44 "ShotBoard" "planner" "LShotBoard$Planner;", Cond.methodLink RX7 97 yX7_isWho, Cond.instanceMethod yX7_isWho, Cond.selects RX7 yX7_isWho yX7_isWho, Cond.initialized RX7, Cond.code yX7_isWho cX7_isWho 4 (some .boolean), Cond.fieldLink RX7 10 "ShotBoard" "stage" "LShotBoard$Stage;", Cond.fieldLink RX7 56 "ShotBoard$Stage" "persons" "I", Cond.methodLink RX7 67 yX7_isPerson, Cond.instanceMethod yX7_isPerson, Cond.selects RX7 yX7_isPerson yX7_isPerson, Cond.code yX7_isPerson cX7_isPerson 2 (some .boolean), Cond.methodLink RX7 100 yX7_isSpan, Cond.static yX7_isSpan, Cond.code yX7_isSpan cX7_isSpan 1 (some .boolean), Cond.methodLink RX7 70 yX7_isTick, Cond.static yX7_isTick, Cond.code yX7_isTick cX7_isTick 1 (some .boolean), Cond.methodLink RX7 60 yX3_forget, Cond.instanceMethod yX3_forget, Cond.selects RX3 yX3_forget yX3_forget, Cond.initialized RX3]
def wsX7_board_r2 : List Cond := [Cond.code yX3_forget cX3_forget 1 none, Cond.fieldLink RX3 40 "ShotBoard$Planner" "known" "Z", Cond.methodLink RX7 106 yX5_add, Cond.instanceMethod yX5_add, Cond.selects RX5 yX5_add yX5_add, Cond.initialized RX5, Cond.code yX5_add cX5_add 6 (some .int), Cond.fieldLink RX5 11 "ShotBoard$Script" "rows" "[LShotBoard$Board;", Cond.fieldLink RX5 22 "ShotBoard$Script" "boards" "I", Cond.fieldLink RX5 25 "ShotBoard$Board" "kind" "I", Cond.fieldLink RX5 28 "ShotBoard$Board" "main" "I", Cond.fieldLink RX5 31 "ShotBoard$Board" "mask" "I", Cond.fieldLink RX5 34 "ShotBoard$Board" "sizes" "I", Cond.fieldLink RX5 37 "ShotBoard$Board" "first" "I", Cond.fieldLink RX5 40 "ShotBoard$Board" "last" "I", Cond.fieldLink RX5 43 "ShotBoard$Board" "words" "I", Cond.fieldLink RX5 53 "ShotBoard$Board" "cutsOnPair" "Z", Cond.methodLink RX5 46 yX5_speakersOfLastTwo, Cond.instanceMethod yX5_speakersOfLastTwo, Cond.selects RX5 yX5_speakersOfLastTwo yX5_speakersOfLastTwo, Cond.code yX5_speakersOfLastTwo cX5_speakersOfLastTwo 2 (some .int), Cond.methodLink RX5 50 yX0_speakers, Cond.instanceMethod yX0_speakers, Cond.selects RX0 yX0_speakers yX0_speakers]
def wsX7_board_r3 : List Cond := [Cond.initialized RX0, Cond.code yX0_speakers cX0_speakers 1 (some .int), Cond.fieldLink RX0 15 "ShotBoard$Board" "main" "I", Cond.methodLink RX0 22 yX0_partner, Cond.instanceMethod yX0_partner, Cond.selects RX0 yX0_partner yX0_partner, Cond.code yX0_partner cX0_partner 2 (some .int), Cond.methodLink RX0 18 yX0_mustShow, Cond.instanceMethod yX0_mustShow, Cond.selects RX0 yX0_mustShow yX0_mustShow, Cond.code yX0_mustShow cX0_mustShow 2 (some .boolean), Cond.fieldLink RX0 9 "ShotBoard$Board" "mask" "I"]
def wsX7_board : List Cond := .code yX7_board cX7_board 5 (some .int) :: ((wsX7_board_r1 ++ (wsX7_board_r2 ++ wsX7_board_r3)) ++ wsX70 ++ wsX50 ++ wsX60 ++ wsX30 ++ wsX00)
def wsX7_drop : List Cond := .code yX7_drop cX7_drop 1 (some .int) :: ([.fieldLink RX7 26 "ShotBoard" "script" "LShotBoard$Script;", .fieldLink RX7 103 "ShotBoard$Script" "boards" "I", .fieldLink RX7 44 "ShotBoard" "planner" "LShotBoard$Planner;", .methodLink RX7 60 yX3_forget, .instanceMethod yX3_forget, .selects RX3 yX3_forget yX3_forget, .initialized RX3, .code yX3_forget cX3_forget 1 none, .fieldLink RX3 40 "ShotBoard$Planner" "known" "Z"] ++ wsX70 ++ wsX50 ++ wsX30)
def wsX7_rate : List Cond := .code yX7_rate cX7_rate 3 (some .int) :: ([.fieldLink RX7 26 "ShotBoard" "script" "LShotBoard$Script;", .fieldLink RX7 109 "ShotBoard$Script" "wordsPerTick" "I"] ++ wsX70 ++ wsX50)
def wsX7_where : List Cond := .code yX7_where cX7_where 3 (some .int) :: ([.fieldLink RX7 10 "ShotBoard" "stage" "LShotBoard$Stage;", .methodLink RX7 67 yX7_isPerson, .instanceMethod yX7_isPerson, .selects RX7 yX7_isPerson yX7_isPerson, .initialized RX7, .code yX7_isPerson cX7_isPerson 2 (some .boolean), .fieldLink RX7 56 "ShotBoard$Stage" "persons" "I", .methodLink RX7 70 yX7_isTick, .static yX7_isTick, .code yX7_isTick cX7_isTick 1 (some .boolean), .methodLink RX7 112 yX6_placeOf, .instanceMethod yX6_placeOf, .selects RX6 yX6_placeOf yX6_placeOf, .initialized RX6, .code yX6_placeOf cX6_placeOf 3 (some .int), .fieldLink RX6 9 "ShotBoard$Stage" "placeAt" "[I"] ++ wsX70 ++ wsX60)
def wsX7_hidden_r1 : List Cond := [Cond.fieldLink RX7 10 "ShotBoard" "stage" "LShotBoard$Stage;", Cond.methodLink RX7 67 yX7_isPerson, Cond.instanceMethod yX7_isPerson, Cond.selects RX7 yX7_isPerson yX7_isPerson, Cond.initialized RX7, Cond.code yX7_isPerson cX7_isPerson 2 (some .boolean), Cond.fieldLink RX7 56 "ShotBoard$Stage" "persons" "I", Cond.methodLink RX7 70 yX7_isTick, Cond.static yX7_isTick, Cond.code yX7_isTick cX7_isTick 1 (some .boolean), Cond.methodLink RX7 52 yX7_isPlace, Cond.static yX7_isPlace, Cond.code yX7_isPlace cX7_isPlace 1 (some .boolean), Cond.methodLink RX7 115 yX6_hides, Cond.instanceMethod yX6_hides, Cond.selects RX6 yX6_hides yX6_hides, Cond.initialized RX6, Cond.code yX6_hides cX6_hides 6 (some .boolean), Cond.fieldLink RX6 43 "ShotBoard$Stage" "walls" "I", Cond.fieldLink RX6 19 "ShotBoard$Stage" "wallFrom" "[I", Cond.fieldLink RX6 22 "ShotBoard$Stage" "wallTo" "[I", Cond.fieldLink RX6 25 "ShotBoard$Stage" "persons" "I", Cond.methodLink RX6 46 yX6_placeOf, Cond.instanceMethod yX6_placeOf]
def wsX7_hidden_r2 : List Cond := [Cond.selects RX6 yX6_placeOf yX6_placeOf, Cond.code yX6_placeOf cX6_placeOf 3 (some .int), Cond.fieldLink RX6 9 "ShotBoard$Stage" "placeAt" "[I", Cond.methodLink RX6 50 yX2_meet, Cond.static yX2_meet, Cond.initialized RX2, Cond.code yX2_meet cX2_meet 6 (some .boolean), Cond.methodLink RX2 7 yX2_cross, Cond.static yX2_cross, Cond.code yX2_cross cX2_cross 5 (some .int), Cond.methodLink RX2 13 yX2_dot, Cond.static yX2_dot, Cond.code yX2_dot cX2_dot 5 (some .int), Cond.methodLink RX6 56 yX2_isBetween, Cond.static yX2_isBetween, Cond.code yX2_isBetween cX2_isBetween 3 (some .boolean)]
def wsX7_hidden : List Cond := .code yX7_hidden cX7_hidden 4 (some .int) :: ((wsX7_hidden_r1 ++ wsX7_hidden_r2) ++ wsX70 ++ wsX60)
def wsX7_isCamera : List Cond := .code yX7_isCamera cX7_isCamera 2 (some .boolean) :: ([.fieldLink RX7 19 "ShotBoard" "rig" "LShotBoard$Rig;", .fieldLink RX7 91 "ShotBoard$Rig" "cameras" "I"] ++ wsX70 ++ wsX40)
def wsX7_sees_r1 : List Cond := [Cond.fieldLink RX7 19 "ShotBoard" "rig" "LShotBoard$Rig;", Cond.fieldLink RX7 122 "ShotBoard$Rig" "places" "[I", Cond.fieldLink RX7 10 "ShotBoard" "stage" "LShotBoard$Stage;", Cond.methodLink RX7 119 yX7_isCamera, Cond.instanceMethod yX7_isCamera, Cond.selects RX7 yX7_isCamera yX7_isCamera, Cond.initialized RX7, Cond.code yX7_isCamera cX7_isCamera 2 (some .boolean), Cond.fieldLink RX7 91 "ShotBoard$Rig" "cameras" "I", Cond.methodLink RX7 67 yX7_isPerson, Cond.instanceMethod yX7_isPerson, Cond.selects RX7 yX7_isPerson yX7_isPerson, Cond.code yX7_isPerson cX7_isPerson 2 (some .boolean), Cond.fieldLink RX7 56 "ShotBoard$Stage" "persons" "I", Cond.methodLink RX7 70 yX7_isTick, Cond.static yX7_isTick, Cond.code yX7_isTick cX7_isTick 1 (some .boolean), Cond.methodLink RX7 112 yX6_placeOf, Cond.instanceMethod yX6_placeOf, Cond.selects RX6 yX6_placeOf yX6_placeOf, Cond.initialized RX6, Cond.code yX6_placeOf cX6_placeOf 3 (some .int), Cond.fieldLink RX6 9 "ShotBoard$Stage" "placeAt" "[I", Cond.methodLink RX7 125 yX2_inCone]
def wsX7_sees_r2 : List Cond := [Cond.static yX2_inCone, Cond.initialized RX2, Cond.code yX2_inCone cX2_inCone 4 (some .boolean), Cond.methodLink RX2 13 yX2_dot, Cond.static yX2_dot, Cond.code yX2_dot cX2_dot 5 (some .int), Cond.methodLink RX7 115 yX6_hides, Cond.instanceMethod yX6_hides, Cond.selects RX6 yX6_hides yX6_hides, Cond.code yX6_hides cX6_hides 6 (some .boolean), Cond.fieldLink RX6 43 "ShotBoard$Stage" "walls" "I", Cond.fieldLink RX6 19 "ShotBoard$Stage" "wallFrom" "[I", Cond.fieldLink RX6 22 "ShotBoard$Stage" "wallTo" "[I", Cond.fieldLink RX6 25 "ShotBoard$Stage" "persons" "I", Cond.methodLink RX6 46 yX6_placeOf, Cond.methodLink RX6 50 yX2_meet, Cond.static yX2_meet, Cond.code yX2_meet cX2_meet 6 (some .boolean), Cond.methodLink RX2 7 yX2_cross, Cond.static yX2_cross, Cond.code yX2_cross cX2_cross 5 (some .int), Cond.methodLink RX6 56 yX2_isBetween, Cond.static yX2_isBetween, Cond.code yX2_isBetween cX2_isBetween 3 (some .boolean)]
def wsX7_sees : List Cond := .code yX7_sees cX7_sees 7 (some .int) :: ((wsX7_sees_r1 ++ wsX7_sees_r2) ++ wsX70 ++ wsX40 ++ wsX60)
def wsX7_size_r1 : List Cond := [Cond.fieldLink RX7 19 "ShotBoard" "rig" "LShotBoard$Rig;", Cond.fieldLink RX7 122 "ShotBoard$Rig" "places" "[I", Cond.fieldLink RX7 10 "ShotBoard" "stage" "LShotBoard$Stage;", Cond.methodLink RX7 119 yX7_isCamera, Cond.instanceMethod yX7_isCamera, Cond.selects RX7 yX7_isCamera yX7_isCamera, Cond.initialized RX7, Cond.code yX7_isCamera cX7_isCamera 2 (some .boolean), Cond.fieldLink RX7 91 "ShotBoard$Rig" "cameras" "I", Cond.methodLink RX7 67 yX7_isPerson, Cond.instanceMethod yX7_isPerson, Cond.selects RX7 yX7_isPerson yX7_isPerson, Cond.code yX7_isPerson cX7_isPerson 2 (some .boolean), Cond.fieldLink RX7 56 "ShotBoard$Stage" "persons" "I", Cond.methodLink RX7 70 yX7_isTick, Cond.static yX7_isTick, Cond.code yX7_isTick cX7_isTick 1 (some .boolean), Cond.methodLink RX7 112 yX6_placeOf, Cond.instanceMethod yX6_placeOf, Cond.selects RX6 yX6_placeOf yX6_placeOf, Cond.initialized RX6, Cond.code yX6_placeOf cX6_placeOf 3 (some .int), Cond.fieldLink RX6 9 "ShotBoard$Stage" "placeAt" "[I", Cond.methodLink RX7 130 yX2_sizeSeen]
def wsX7_size_r2 : List Cond := [Cond.static yX2_sizeSeen, Cond.initialized RX2, Cond.code yX2_sizeSeen cX2_sizeSeen 3 (some .int), Cond.methodLink RX2 13 yX2_dot, Cond.static yX2_dot, Cond.code yX2_dot cX2_dot 5 (some .int)]
def wsX7_size : List Cond := .code yX7_size cX7_size 4 (some .int) :: ((wsX7_size_r1 ++ wsX7_size_r2) ++ wsX70 ++ wsX40 ++ wsX60)
def wsX7_views_r1 : List Cond := [Cond.fieldLink RX7 10 "ShotBoard" "stage" "LShotBoard$Stage;", Cond.methodLink RX7 67 yX7_isPerson, Cond.instanceMethod yX7_isPerson, Cond.selects RX7 yX7_isPerson yX7_isPerson, Cond.initialized RX7, Cond.code yX7_isPerson cX7_isPerson 2 (some .boolean), Cond.fieldLink RX7 56 "ShotBoard$Stage" "persons" "I", Cond.methodLink RX7 70 yX7_isTick, Cond.static yX7_isTick, Cond.code yX7_isTick cX7_isTick 1 (some .boolean), Cond.methodLink RX7 115 yX6_hides, Cond.instanceMethod yX6_hides, Cond.selects RX6 yX6_hides yX6_hides, Cond.initialized RX6, Cond.code yX6_hides cX6_hides 6 (some .boolean), Cond.fieldLink RX6 43 "ShotBoard$Stage" "walls" "I", Cond.fieldLink RX6 19 "ShotBoard$Stage" "wallFrom" "[I", Cond.fieldLink RX6 22 "ShotBoard$Stage" "wallTo" "[I", Cond.fieldLink RX6 25 "ShotBoard$Stage" "persons" "I", Cond.methodLink RX6 46 yX6_placeOf, Cond.instanceMethod yX6_placeOf, Cond.selects RX6 yX6_placeOf yX6_placeOf, Cond.code yX6_placeOf cX6_placeOf 3 (some .int), Cond.fieldLink RX6 9 "ShotBoard$Stage" "placeAt" "[I"]
def wsX7_views_r2 : List Cond := [Cond.methodLink RX6 50 yX2_meet, Cond.static yX2_meet, Cond.initialized RX2, Cond.code yX2_meet cX2_meet 6 (some .boolean), Cond.methodLink RX2 7 yX2_cross, Cond.static yX2_cross, Cond.code yX2_cross cX2_cross 5 (some .int), Cond.methodLink RX2 13 yX2_dot, Cond.static yX2_dot, Cond.code yX2_dot cX2_dot 5 (some .int), Cond.methodLink RX6 56 yX2_isBetween, Cond.static yX2_isBetween, Cond.code yX2_isBetween cX2_isBetween 3 (some .boolean)]
def wsX7_views : List Cond := .code yX7_views cX7_views 6 (some .int) :: ((wsX7_views_r1 ++ wsX7_views_r2) ++ wsX70 ++ wsX60)
def wsX7_isBoard : List Cond := .code yX7_isBoard cX7_isBoard 2 (some .boolean) :: ([.fieldLink RX7 26 "ShotBoard" "script" "LShotBoard$Script;", .fieldLink RX7 103 "ShotBoard$Script" "boards" "I"] ++ wsX70 ++ wsX50)
def wsX7_gives_r1 : List Cond := [Cond.fieldLink RX7 35 "ShotBoard" "judge" "LShotBoard$Judge;", Cond.fieldLink RX7 19 "ShotBoard" "rig" "LShotBoard$Rig;", Cond.fieldLink RX7 122 "ShotBoard$Rig" "places" "[I", Cond.fieldLink RX7 26 "ShotBoard" "script" "LShotBoard$Script;", Cond.fieldLink RX7 136 "ShotBoard$Script" "rows" "[LShotBoard$Board;", Cond.methodLink RX7 119 yX7_isCamera, Cond.instanceMethod yX7_isCamera, Cond.selects RX7 yX7_isCamera yX7_isCamera, Cond.initialized RX7, Cond.code yX7_isCamera cX7_isCamera 2 (some .boolean), Cond.fieldLink RX7 91 "ShotBoard$Rig" "cameras" "I", Cond.methodLink RX7 133 yX7_isBoard, Cond.instanceMethod yX7_isBoard, Cond.selects RX7 yX7_isBoard yX7_isBoard, Cond.code yX7_isBoard cX7_isBoard 2 (some .boolean), Cond.fieldLink RX7 103 "ShotBoard$Script" "boards" "I", Cond.methodLink RX7 140 yX1_fault, Cond.instanceMethod yX1_fault, Cond.selects RX1 yX1_fault yX1_fault, Cond.initialized RX1, Cond.code yX1_fault cX1_fault 6 (some .int), Cond.fieldLink RX1 15 "ShotBoard$Board" "first" "I", Cond.fieldLink RX1 21 "ShotBoard$Board" "last" "I", Cond.fieldLink RX1 9 "ShotBoard$Judge" "stage" "LShotBoard$Stage;"]
def wsX7_gives_r2 : List Cond := [Cond.methodLink RX1 24 yX6_someoneStepsAt, Cond.instanceMethod yX6_someoneStepsAt, Cond.selects RX6 yX6_someoneStepsAt yX6_someoneStepsAt, Cond.initialized RX6, Cond.code yX6_someoneStepsAt cX6_someoneStepsAt 3 (some .boolean), Cond.fieldLink RX6 25 "ShotBoard$Stage" "persons" "I", Cond.methodLink RX6 29 yX6_hasStep, Cond.instanceMethod yX6_hasStep, Cond.selects RX6 yX6_hasStep yX6_hasStep, Cond.code yX6_hasStep cX6_hasStep 3 (some .boolean), Cond.fieldLink RX6 15 "ShotBoard$Stage" "stepTicks" "[J", Cond.methodLink RX1 30 yX1_faultAt, Cond.instanceMethod yX1_faultAt, Cond.selects RX1 yX1_faultAt yX1_faultAt, Cond.code yX1_faultAt cX1_faultAt 6 (some .int), Cond.fieldLink RX1 34 "ShotBoard$Stage" "persons" "I", Cond.fieldLink RX1 44 "ShotBoard$Board" "main" "I", Cond.fieldLink RX1 56 "ShotBoard$Board" "sizes" "I", Cond.fieldLink RX1 62 "ShotBoard$Board" "kind" "I", Cond.methodLink RX1 37 yX0_mustShow, Cond.instanceMethod yX0_mustShow, Cond.selects RX0 yX0_mustShow yX0_mustShow, Cond.initialized RX0, Cond.code yX0_mustShow cX0_mustShow 2 (some .boolean)]
def wsX7_gives_r3 : List Cond := [Cond.fieldLink RX0 9 "ShotBoard$Board" "mask" "I", Cond.methodLink RX1 40 yX6_hides, Cond.instanceMethod yX6_hides, Cond.selects RX6 yX6_hides yX6_hides, Cond.code yX6_hides cX6_hides 6 (some .boolean), Cond.fieldLink RX6 43 "ShotBoard$Stage" "walls" "I", Cond.fieldLink RX6 19 "ShotBoard$Stage" "wallFrom" "[I", Cond.fieldLink RX6 22 "ShotBoard$Stage" "wallTo" "[I", Cond.methodLink RX6 46 yX6_placeOf, Cond.instanceMethod yX6_placeOf, Cond.selects RX6 yX6_placeOf yX6_placeOf, Cond.code yX6_placeOf cX6_placeOf 3 (some .int), Cond.fieldLink RX6 9 "ShotBoard$Stage" "placeAt" "[I", Cond.methodLink RX6 50 yX2_meet, Cond.static yX2_meet, Cond.initialized RX2, Cond.code yX2_meet cX2_meet 6 (some .boolean), Cond.methodLink RX2 7 yX2_cross, Cond.static yX2_cross, Cond.code yX2_cross cX2_cross 5 (some .int), Cond.methodLink RX2 13 yX2_dot, Cond.static yX2_dot, Cond.code yX2_dot cX2_dot 5 (some .int), Cond.methodLink RX6 56 yX2_isBetween]
def wsX7_gives_r4 : List Cond := [Cond.static yX2_isBetween, Cond.code yX2_isBetween cX2_isBetween 3 (some .boolean), Cond.methodLink RX1 47 yX6_placeOf, Cond.methodLink RX1 51 yX2_inCone, Cond.static yX2_inCone, Cond.code yX2_inCone cX2_inCone 4 (some .boolean), Cond.methodLink RX1 59 yX2_sizeSeen, Cond.static yX2_sizeSeen, Cond.code yX2_sizeSeen cX2_sizeSeen 3 (some .int), Cond.methodLink RX1 65 yX1_someoneChangesSide, Cond.instanceMethod yX1_someoneChangesSide, Cond.selects RX1 yX1_someoneChangesSide yX1_someoneChangesSide, Cond.code yX1_someoneChangesSide cX1_someoneChangesSide 9 (some .boolean), Cond.methodLink RX1 69 yX2_cross]
def wsX7_gives : List Cond := .code yX7_gives cX7_gives 3 (some .int) :: ((wsX7_gives_r1 ++ (wsX7_gives_r2 ++ (wsX7_gives_r3 ++ wsX7_gives_r4))) ++ wsX70 ++ wsX40 ++ wsX50 ++ wsX00 ++ wsX10 ++ wsX60)
def wsX7_why_r1 : List Cond := [Cond.fieldLink RX7 35 "ShotBoard" "judge" "LShotBoard$Judge;", Cond.fieldLink RX7 19 "ShotBoard" "rig" "LShotBoard$Rig;", Cond.fieldLink RX7 122 "ShotBoard$Rig" "places" "[I", Cond.fieldLink RX7 26 "ShotBoard" "script" "LShotBoard$Script;", Cond.fieldLink RX7 136 "ShotBoard$Script" "rows" "[LShotBoard$Board;", Cond.methodLink RX7 119 yX7_isCamera, Cond.instanceMethod yX7_isCamera, Cond.selects RX7 yX7_isCamera yX7_isCamera, Cond.initialized RX7, Cond.code yX7_isCamera cX7_isCamera 2 (some .boolean), Cond.fieldLink RX7 91 "ShotBoard$Rig" "cameras" "I", Cond.methodLink RX7 133 yX7_isBoard, Cond.instanceMethod yX7_isBoard, Cond.selects RX7 yX7_isBoard yX7_isBoard, Cond.code yX7_isBoard cX7_isBoard 2 (some .boolean), Cond.fieldLink RX7 103 "ShotBoard$Script" "boards" "I", Cond.methodLink RX7 140 yX1_fault, Cond.instanceMethod yX1_fault, Cond.selects RX1 yX1_fault yX1_fault, Cond.initialized RX1, Cond.code yX1_fault cX1_fault 6 (some .int), Cond.fieldLink RX1 15 "ShotBoard$Board" "first" "I", Cond.fieldLink RX1 21 "ShotBoard$Board" "last" "I", Cond.fieldLink RX1 9 "ShotBoard$Judge" "stage" "LShotBoard$Stage;"]
def wsX7_why_r2 : List Cond := [Cond.methodLink RX1 24 yX6_someoneStepsAt, Cond.instanceMethod yX6_someoneStepsAt, Cond.selects RX6 yX6_someoneStepsAt yX6_someoneStepsAt, Cond.initialized RX6, Cond.code yX6_someoneStepsAt cX6_someoneStepsAt 3 (some .boolean), Cond.fieldLink RX6 25 "ShotBoard$Stage" "persons" "I", Cond.methodLink RX6 29 yX6_hasStep, Cond.instanceMethod yX6_hasStep, Cond.selects RX6 yX6_hasStep yX6_hasStep, Cond.code yX6_hasStep cX6_hasStep 3 (some .boolean), Cond.fieldLink RX6 15 "ShotBoard$Stage" "stepTicks" "[J", Cond.methodLink RX1 30 yX1_faultAt, Cond.instanceMethod yX1_faultAt, Cond.selects RX1 yX1_faultAt yX1_faultAt, Cond.code yX1_faultAt cX1_faultAt 6 (some .int), Cond.fieldLink RX1 34 "ShotBoard$Stage" "persons" "I", Cond.fieldLink RX1 44 "ShotBoard$Board" "main" "I", Cond.fieldLink RX1 56 "ShotBoard$Board" "sizes" "I", Cond.fieldLink RX1 62 "ShotBoard$Board" "kind" "I", Cond.methodLink RX1 37 yX0_mustShow, Cond.instanceMethod yX0_mustShow, Cond.selects RX0 yX0_mustShow yX0_mustShow, Cond.initialized RX0, Cond.code yX0_mustShow cX0_mustShow 2 (some .boolean)]
def wsX7_why_r3 : List Cond := [Cond.fieldLink RX0 9 "ShotBoard$Board" "mask" "I", Cond.methodLink RX1 40 yX6_hides, Cond.instanceMethod yX6_hides, Cond.selects RX6 yX6_hides yX6_hides, Cond.code yX6_hides cX6_hides 6 (some .boolean), Cond.fieldLink RX6 43 "ShotBoard$Stage" "walls" "I", Cond.fieldLink RX6 19 "ShotBoard$Stage" "wallFrom" "[I", Cond.fieldLink RX6 22 "ShotBoard$Stage" "wallTo" "[I", Cond.methodLink RX6 46 yX6_placeOf, Cond.instanceMethod yX6_placeOf, Cond.selects RX6 yX6_placeOf yX6_placeOf, Cond.code yX6_placeOf cX6_placeOf 3 (some .int), Cond.fieldLink RX6 9 "ShotBoard$Stage" "placeAt" "[I", Cond.methodLink RX6 50 yX2_meet, Cond.static yX2_meet, Cond.initialized RX2, Cond.code yX2_meet cX2_meet 6 (some .boolean), Cond.methodLink RX2 7 yX2_cross, Cond.static yX2_cross, Cond.code yX2_cross cX2_cross 5 (some .int), Cond.methodLink RX2 13 yX2_dot, Cond.static yX2_dot, Cond.code yX2_dot cX2_dot 5 (some .int), Cond.methodLink RX6 56 yX2_isBetween]
def wsX7_why_r4 : List Cond := [Cond.static yX2_isBetween, Cond.code yX2_isBetween cX2_isBetween 3 (some .boolean), Cond.methodLink RX1 47 yX6_placeOf, Cond.methodLink RX1 51 yX2_inCone, Cond.static yX2_inCone, Cond.code yX2_inCone cX2_inCone 4 (some .boolean), Cond.methodLink RX1 59 yX2_sizeSeen, Cond.static yX2_sizeSeen, Cond.code yX2_sizeSeen cX2_sizeSeen 3 (some .int), Cond.methodLink RX1 65 yX1_someoneChangesSide, Cond.instanceMethod yX1_someoneChangesSide, Cond.selects RX1 yX1_someoneChangesSide yX1_someoneChangesSide, Cond.code yX1_someoneChangesSide cX1_someoneChangesSide 9 (some .boolean), Cond.methodLink RX1 69 yX2_cross]
def wsX7_why : List Cond := .code yX7_why cX7_why 3 (some .int) :: ((wsX7_why_r1 ++ (wsX7_why_r2 ++ (wsX7_why_r3 ++ wsX7_why_r4))) ++ wsX70 ++ wsX40 ++ wsX50 ++ wsX00 ++ wsX10 ++ wsX60)
def wsX7_side_r1 : List Cond := [Cond.fieldLink RX7 26 "ShotBoard" "script" "LShotBoard$Script;", Cond.fieldLink RX7 136 "ShotBoard$Script" "rows" "[LShotBoard$Board;", Cond.fieldLink RX7 144 "ShotBoard$Board" "kind" "I", Cond.fieldLink RX7 35 "ShotBoard" "judge" "LShotBoard$Judge;", Cond.fieldLink RX7 19 "ShotBoard" "rig" "LShotBoard$Rig;", Cond.fieldLink RX7 122 "ShotBoard$Rig" "places" "[I", Cond.methodLink RX7 119 yX7_isCamera, Cond.instanceMethod yX7_isCamera, Cond.selects RX7 yX7_isCamera yX7_isCamera, Cond.initialized RX7, Cond.code yX7_isCamera cX7_isCamera 2 (some .boolean), Cond.fieldLink RX7 91 "ShotBoard$Rig" "cameras" "I", Cond.methodLink RX7 133 yX7_isBoard, Cond.instanceMethod yX7_isBoard, Cond.selects RX7 yX7_isBoard yX7_isBoard, Cond.code yX7_isBoard cX7_isBoard 2 (some .boolean), Cond.fieldLink RX7 103 "ShotBoard$Script" "boards" "I", Cond.methodLink RX7 149 yX1_sideOfMain, Cond.instanceMethod yX1_sideOfMain, Cond.selects RX1 yX1_sideOfMain yX1_sideOfMain, Cond.initialized RX1, Cond.code yX1_sideOfMain cX1_sideOfMain 5 (some .int), Cond.fieldLink RX1 9 "ShotBoard$Judge" "stage" "LShotBoard$Stage;", Cond.fieldLink RX1 44 "ShotBoard$Board" "main" "I"]
def wsX7_side_r2 : List Cond := [Cond.fieldLink RX1 15 "ShotBoard$Board" "first" "I", Cond.methodLink RX1 47 yX6_placeOf, Cond.instanceMethod yX6_placeOf, Cond.selects RX6 yX6_placeOf yX6_placeOf, Cond.initialized RX6, Cond.code yX6_placeOf cX6_placeOf 3 (some .int), Cond.fieldLink RX6 9 "ShotBoard$Stage" "placeAt" "[I", Cond.methodLink RX1 73 yX0_partner, Cond.instanceMethod yX0_partner, Cond.selects RX0 yX0_partner yX0_partner, Cond.initialized RX0, Cond.code yX0_partner cX0_partner 2 (some .int), Cond.fieldLink RX0 15 "ShotBoard$Board" "main" "I", Cond.methodLink RX0 18 yX0_mustShow, Cond.instanceMethod yX0_mustShow, Cond.selects RX0 yX0_mustShow yX0_mustShow, Cond.code yX0_mustShow cX0_mustShow 2 (some .boolean), Cond.fieldLink RX0 9 "ShotBoard$Board" "mask" "I", Cond.methodLink RX1 69 yX2_cross, Cond.static yX2_cross, Cond.initialized RX2, Cond.code yX2_cross cX2_cross 5 (some .int), Cond.methodLink RX1 77 yJ6_signum_0f7a4, Cond.static yJ6_signum_0f7a4]
def wsX7_side_r3 : List Cond := [Cond.initialized RJ6, Cond.code yJ6_signum_0f7a4 cJ6_signum_0f7a4 1 (some .int)]
def wsX7_side : List Cond := .code yX7_side cX7_side 3 (some .int) :: ((wsX7_side_r1 ++ (wsX7_side_r2 ++ wsX7_side_r3)) ++ wsX70 ++ wsX50 ++ wsX00 ++ wsX40 ++ wsX10 ++ wsX60)
def wsX7_length : List Cond := .code yX7_length cX7_length 2 (some .int) :: ([.fieldLink RX7 26 "ShotBoard" "script" "LShotBoard$Script;", .methodLink RX7 133 yX7_isBoard, .instanceMethod yX7_isBoard, .selects RX7 yX7_isBoard yX7_isBoard, .initialized RX7, .code yX7_isBoard cX7_isBoard 2 (some .boolean), .fieldLink RX7 103 "ShotBoard$Script" "boards" "I", .methodLink RX7 152 yX5_lengthOf, .instanceMethod yX5_lengthOf, .selects RX5 yX5_lengthOf yX5_lengthOf, .initialized RX5, .code yX5_lengthOf cX5_lengthOf 4 (some .int), .fieldLink RX5 11 "ShotBoard$Script" "rows" "[LShotBoard$Board;", .fieldLink RX5 43 "ShotBoard$Board" "words" "I", .fieldLink RX5 17 "ShotBoard$Script" "wordsPerTick" "I", .fieldLink RX5 40 "ShotBoard$Board" "last" "I", .fieldLink RX5 37 "ShotBoard$Board" "first" "I", .methodLink RX5 57 Lib.Math.max.name, .static Lib.Math.max.name, .initialized "java/lang/Math", .code Lib.Math.max.name Lib.Math.max.code 2 (some .int)] ++ wsX70 ++ wsX50 ++ wsX00)
def wsX7_fewest_r1 : List Cond := [Cond.fieldLink RX7 44 "ShotBoard" "planner" "LShotBoard$Planner;", Cond.fieldLink RX7 158 "ShotBoard$Planner" "used" "I", Cond.methodLink RX7 155 yX3_refresh, Cond.instanceMethod yX3_refresh, Cond.selects RX3 yX3_refresh yX3_refresh, Cond.initialized RX3, Cond.code yX3_refresh cX3_refresh 5 none, Cond.fieldLink RX3 40 "ShotBoard$Planner" "known" "Z", Cond.fieldLink RX3 36 "ShotBoard$Planner" "script" "LShotBoard$Script;", Cond.fieldLink RX3 44 "ShotBoard$Script" "boards" "I", Cond.fieldLink RX3 50 "ShotBoard$Script" "rows" "[LShotBoard$Board;", Cond.fieldLink RX3 9 "ShotBoard$Planner" "givers" "[I", Cond.fieldLink RX3 32 "ShotBoard$Planner" "rig" "LShotBoard$Rig;", Cond.fieldLink RX3 54 "ShotBoard$Rig" "cameras" "I", Cond.fieldLink RX3 59 "ShotBoard$Rig" "places" "[I", Cond.fieldLink RX3 28 "ShotBoard$Planner" "judge" "LShotBoard$Judge;", Cond.fieldLink RX3 15 "ShotBoard$Planner" "sides" "[I", Cond.fieldLink RX3 68 "ShotBoard$Board" "kind" "I", Cond.fieldLink RX3 80 "ShotBoard$Planner" "used" "I", Cond.methodLink RX3 62 yX1_fault, Cond.instanceMethod yX1_fault, Cond.selects RX1 yX1_fault yX1_fault, Cond.initialized RX1, Cond.code yX1_fault cX1_fault 6 (some .int)]
def wsX7_fewest_r2 : List Cond := [Cond.fieldLink RX1 15 "ShotBoard$Board" "first" "I", Cond.fieldLink RX1 21 "ShotBoard$Board" "last" "I", Cond.fieldLink RX1 9 "ShotBoard$Judge" "stage" "LShotBoard$Stage;", Cond.methodLink RX1 24 yX6_someoneStepsAt, Cond.instanceMethod yX6_someoneStepsAt, Cond.selects RX6 yX6_someoneStepsAt yX6_someoneStepsAt, Cond.initialized RX6, Cond.code yX6_someoneStepsAt cX6_someoneStepsAt 3 (some .boolean), Cond.fieldLink RX6 25 "ShotBoard$Stage" "persons" "I", Cond.methodLink RX6 29 yX6_hasStep, Cond.instanceMethod yX6_hasStep, Cond.selects RX6 yX6_hasStep yX6_hasStep, Cond.code yX6_hasStep cX6_hasStep 3 (some .boolean), Cond.fieldLink RX6 15 "ShotBoard$Stage" "stepTicks" "[J", Cond.methodLink RX1 30 yX1_faultAt, Cond.instanceMethod yX1_faultAt, Cond.selects RX1 yX1_faultAt yX1_faultAt, Cond.code yX1_faultAt cX1_faultAt 6 (some .int), Cond.fieldLink RX1 34 "ShotBoard$Stage" "persons" "I", Cond.fieldLink RX1 44 "ShotBoard$Board" "main" "I", Cond.fieldLink RX1 56 "ShotBoard$Board" "sizes" "I", Cond.fieldLink RX1 62 "ShotBoard$Board" "kind" "I", Cond.methodLink RX1 37 yX0_mustShow, Cond.instanceMethod yX0_mustShow]
def wsX7_fewest_r3 : List Cond := [Cond.selects RX0 yX0_mustShow yX0_mustShow, Cond.initialized RX0, Cond.code yX0_mustShow cX0_mustShow 2 (some .boolean), Cond.fieldLink RX0 9 "ShotBoard$Board" "mask" "I", Cond.methodLink RX1 40 yX6_hides, Cond.instanceMethod yX6_hides, Cond.selects RX6 yX6_hides yX6_hides, Cond.code yX6_hides cX6_hides 6 (some .boolean), Cond.fieldLink RX6 43 "ShotBoard$Stage" "walls" "I", Cond.fieldLink RX6 19 "ShotBoard$Stage" "wallFrom" "[I", Cond.fieldLink RX6 22 "ShotBoard$Stage" "wallTo" "[I", Cond.methodLink RX6 46 yX6_placeOf, Cond.instanceMethod yX6_placeOf, Cond.selects RX6 yX6_placeOf yX6_placeOf, Cond.code yX6_placeOf cX6_placeOf 3 (some .int), Cond.fieldLink RX6 9 "ShotBoard$Stage" "placeAt" "[I", Cond.methodLink RX6 50 yX2_meet, Cond.static yX2_meet, Cond.initialized RX2, Cond.code yX2_meet cX2_meet 6 (some .boolean), Cond.methodLink RX2 7 yX2_cross, Cond.static yX2_cross, Cond.code yX2_cross cX2_cross 5 (some .int), Cond.methodLink RX2 13 yX2_dot]
def wsX7_fewest_r4 : List Cond := [Cond.static yX2_dot, Cond.code yX2_dot cX2_dot 5 (some .int), Cond.methodLink RX6 56 yX2_isBetween, Cond.static yX2_isBetween, Cond.code yX2_isBetween cX2_isBetween 3 (some .boolean), Cond.methodLink RX1 47 yX6_placeOf, Cond.methodLink RX1 51 yX2_inCone, Cond.static yX2_inCone, Cond.code yX2_inCone cX2_inCone 4 (some .boolean), Cond.methodLink RX1 59 yX2_sizeSeen, Cond.static yX2_sizeSeen, Cond.code yX2_sizeSeen cX2_sizeSeen 3 (some .int), Cond.methodLink RX1 65 yX1_someoneChangesSide, Cond.instanceMethod yX1_someoneChangesSide, Cond.selects RX1 yX1_someoneChangesSide yX1_someoneChangesSide, Cond.code yX1_someoneChangesSide cX1_someoneChangesSide 9 (some .boolean), Cond.methodLink RX1 69 yX2_cross, Cond.methodLink RX3 73 yX1_sideOfLesser, Cond.instanceMethod yX1_sideOfLesser, Cond.selects RX1 yX1_sideOfLesser yX1_sideOfLesser, Cond.code yX1_sideOfLesser cX1_sideOfLesser 4 (some .int), Cond.methodLink RX1 83 yX1_sideOfMain, Cond.instanceMethod yX1_sideOfMain, Cond.selects RX1 yX1_sideOfMain yX1_sideOfMain]
def wsX7_fewest_r5 : List Cond := [Cond.code yX1_sideOfMain cX1_sideOfMain 5 (some .int), Cond.methodLink RX1 73 yX0_partner, Cond.instanceMethod yX0_partner, Cond.selects RX0 yX0_partner yX0_partner, Cond.code yX0_partner cX0_partner 2 (some .int), Cond.fieldLink RX0 15 "ShotBoard$Board" "main" "I", Cond.methodLink RX0 18 yX0_mustShow, Cond.methodLink RX1 77 yJ6_signum_0f7a4, Cond.static yJ6_signum_0f7a4, Cond.initialized RJ6, Cond.code yJ6_signum_0f7a4 cJ6_signum_0f7a4 1 (some .int), Cond.methodLink RX3 76 yX3_search, Cond.instanceMethod yX3_search, Cond.selects RX3 yX3_search yX3_search, Cond.code yX3_search cX3_search 4 (some .int), Cond.fieldLink RX3 99 "ShotBoard$Planner" "chosen" "I", Cond.methodLink RX3 89 yX3_canFilm, Cond.instanceMethod yX3_canFilm, Cond.selects RX3 yX3_canFilm yX3_canFilm, Cond.code yX3_canFilm cX3_canFilm 5 (some .boolean), Cond.fieldLink RX3 18 "ShotBoard$Planner" "canGoOn" "[Z", Cond.methodLink RX3 102 yX3_firstFor, Cond.instanceMethod yX3_firstFor, Cond.selects RX3 yX3_firstFor yX3_firstFor]
def wsX7_fewest_r6 : List Cond := [Cond.code yX3_firstFor cX3_firstFor 5 (some .int), Cond.methodLink RX3 106 yX3_fits, Cond.instanceMethod yX3_fits, Cond.selects RX3 yX3_fits yX3_fits, Cond.code yX3_fits cX3_fits 6 (some .boolean), Cond.fieldLink RX3 110 "ShotBoard$Board" "cutsOnPair" "Z", Cond.methodLink RX3 113 yX3_sideAfter, Cond.instanceMethod yX3_sideAfter, Cond.selects RX3 yX3_sideAfter yX3_sideAfter, Cond.code yX3_sideAfter cX3_sideAfter 4 (some .int), Cond.methodLink RX3 93 yJ6_bitCount_0f7a4, Cond.static yJ6_bitCount_0f7a4, Cond.code yJ6_bitCount_0f7a4 cJ6_bitCount_0f7a4 1 (some .int), Cond.constant RJ6 265 (1431655765), Cond.constant RJ6 266 (858993459), Cond.constant RJ6 267 (252645135), Cond.methodLink RX3 83 yX3_writeRow, Cond.instanceMethod yX3_writeRow, Cond.selects RX3 yX3_writeRow yX3_writeRow, Cond.code yX3_writeRow cX3_writeRow 4 none, Cond.methodLink RX3 116 Lib.Math.max.name, Cond.static Lib.Math.max.name, Cond.initialized "java/lang/Math", Cond.code Lib.Math.max.name Lib.Math.max.code 2 (some .int)]
def wsX7_fewest_r7 : List Cond := [Cond.fieldLink RX3 22 "ShotBoard$Planner" "row" "[I", Cond.methodLink RX3 86 yX3_writeSequence, Cond.instanceMethod yX3_writeSequence, Cond.selects RX3 yX3_writeSequence yX3_writeSequence, Cond.code yX3_writeSequence cX3_writeSequence 5 none, Cond.fieldLink RX3 25 "ShotBoard$Planner" "sequence" "[I", Cond.fieldLink RX3 125 "ShotBoard$Rig" "lights" "[I", Cond.methodLink RX3 122 yX3_leastOf, Cond.instanceMethod yX3_leastOf, Cond.selects RX3 yX3_leastOf yX3_leastOf, Cond.code yX3_leastOf cX3_leastOf 4 (some .int)]
def wsX7_fewest : List Cond := .code yX7_fewest cX7_fewest 1 (some .int) :: ((wsX7_fewest_r1 ++ (wsX7_fewest_r2 ++ (wsX7_fewest_r3 ++ (wsX7_fewest_r4 ++ (wsX7_fewest_r5 ++ (wsX7_fewest_r6 ++ wsX7_fewest_r7)))))) ++ wsX70 ++ wsX30 ++ wsX50 ++ wsX40 ++ wsX00 ++ wsX10 ++ wsX60)
def wsX7_plan_r1 : List Cond := [Cond.fieldLink RX7 44 "ShotBoard" "planner" "LShotBoard$Planner;", Cond.fieldLink RX7 158 "ShotBoard$Planner" "used" "I", Cond.fieldLink RX7 161 "ShotBoard$Planner" "row" "[I", Cond.methodLink RX7 133 yX7_isBoard, Cond.instanceMethod yX7_isBoard, Cond.selects RX7 yX7_isBoard yX7_isBoard, Cond.initialized RX7, Cond.code yX7_isBoard cX7_isBoard 2 (some .boolean), Cond.fieldLink RX7 26 "ShotBoard" "script" "LShotBoard$Script;", Cond.fieldLink RX7 103 "ShotBoard$Script" "boards" "I", Cond.methodLink RX7 155 yX3_refresh, Cond.instanceMethod yX3_refresh, Cond.selects RX3 yX3_refresh yX3_refresh, Cond.initialized RX3, Cond.code yX3_refresh cX3_refresh 5 none, Cond.fieldLink RX3 40 "ShotBoard$Planner" "known" "Z", Cond.fieldLink RX3 36 "ShotBoard$Planner" "script" "LShotBoard$Script;", Cond.fieldLink RX3 44 "ShotBoard$Script" "boards" "I", Cond.fieldLink RX3 50 "ShotBoard$Script" "rows" "[LShotBoard$Board;", Cond.fieldLink RX3 9 "ShotBoard$Planner" "givers" "[I", Cond.fieldLink RX3 32 "ShotBoard$Planner" "rig" "LShotBoard$Rig;", Cond.fieldLink RX3 54 "ShotBoard$Rig" "cameras" "I", Cond.fieldLink RX3 59 "ShotBoard$Rig" "places" "[I", Cond.fieldLink RX3 28 "ShotBoard$Planner" "judge" "LShotBoard$Judge;"]
def wsX7_plan_r2 : List Cond := [Cond.fieldLink RX3 15 "ShotBoard$Planner" "sides" "[I", Cond.fieldLink RX3 68 "ShotBoard$Board" "kind" "I", Cond.fieldLink RX3 80 "ShotBoard$Planner" "used" "I", Cond.methodLink RX3 62 yX1_fault, Cond.instanceMethod yX1_fault, Cond.selects RX1 yX1_fault yX1_fault, Cond.initialized RX1, Cond.code yX1_fault cX1_fault 6 (some .int), Cond.fieldLink RX1 15 "ShotBoard$Board" "first" "I", Cond.fieldLink RX1 21 "ShotBoard$Board" "last" "I", Cond.fieldLink RX1 9 "ShotBoard$Judge" "stage" "LShotBoard$Stage;", Cond.methodLink RX1 24 yX6_someoneStepsAt, Cond.instanceMethod yX6_someoneStepsAt, Cond.selects RX6 yX6_someoneStepsAt yX6_someoneStepsAt, Cond.initialized RX6, Cond.code yX6_someoneStepsAt cX6_someoneStepsAt 3 (some .boolean), Cond.fieldLink RX6 25 "ShotBoard$Stage" "persons" "I", Cond.methodLink RX6 29 yX6_hasStep, Cond.instanceMethod yX6_hasStep, Cond.selects RX6 yX6_hasStep yX6_hasStep, Cond.code yX6_hasStep cX6_hasStep 3 (some .boolean), Cond.fieldLink RX6 15 "ShotBoard$Stage" "stepTicks" "[J", Cond.methodLink RX1 30 yX1_faultAt, Cond.instanceMethod yX1_faultAt]
def wsX7_plan_r3 : List Cond := [Cond.selects RX1 yX1_faultAt yX1_faultAt, Cond.code yX1_faultAt cX1_faultAt 6 (some .int), Cond.fieldLink RX1 34 "ShotBoard$Stage" "persons" "I", Cond.fieldLink RX1 44 "ShotBoard$Board" "main" "I", Cond.fieldLink RX1 56 "ShotBoard$Board" "sizes" "I", Cond.fieldLink RX1 62 "ShotBoard$Board" "kind" "I", Cond.methodLink RX1 37 yX0_mustShow, Cond.instanceMethod yX0_mustShow, Cond.selects RX0 yX0_mustShow yX0_mustShow, Cond.initialized RX0, Cond.code yX0_mustShow cX0_mustShow 2 (some .boolean), Cond.fieldLink RX0 9 "ShotBoard$Board" "mask" "I", Cond.methodLink RX1 40 yX6_hides, Cond.instanceMethod yX6_hides, Cond.selects RX6 yX6_hides yX6_hides, Cond.code yX6_hides cX6_hides 6 (some .boolean), Cond.fieldLink RX6 43 "ShotBoard$Stage" "walls" "I", Cond.fieldLink RX6 19 "ShotBoard$Stage" "wallFrom" "[I", Cond.fieldLink RX6 22 "ShotBoard$Stage" "wallTo" "[I", Cond.methodLink RX6 46 yX6_placeOf, Cond.instanceMethod yX6_placeOf, Cond.selects RX6 yX6_placeOf yX6_placeOf, Cond.code yX6_placeOf cX6_placeOf 3 (some .int), Cond.fieldLink RX6 9 "ShotBoard$Stage" "placeAt" "[I"]
def wsX7_plan_r4 : List Cond := [Cond.methodLink RX6 50 yX2_meet, Cond.static yX2_meet, Cond.initialized RX2, Cond.code yX2_meet cX2_meet 6 (some .boolean), Cond.methodLink RX2 7 yX2_cross, Cond.static yX2_cross, Cond.code yX2_cross cX2_cross 5 (some .int), Cond.methodLink RX2 13 yX2_dot, Cond.static yX2_dot, Cond.code yX2_dot cX2_dot 5 (some .int), Cond.methodLink RX6 56 yX2_isBetween, Cond.static yX2_isBetween, Cond.code yX2_isBetween cX2_isBetween 3 (some .boolean), Cond.methodLink RX1 47 yX6_placeOf, Cond.methodLink RX1 51 yX2_inCone, Cond.static yX2_inCone, Cond.code yX2_inCone cX2_inCone 4 (some .boolean), Cond.methodLink RX1 59 yX2_sizeSeen, Cond.static yX2_sizeSeen, Cond.code yX2_sizeSeen cX2_sizeSeen 3 (some .int), Cond.methodLink RX1 65 yX1_someoneChangesSide, Cond.instanceMethod yX1_someoneChangesSide, Cond.selects RX1 yX1_someoneChangesSide yX1_someoneChangesSide, Cond.code yX1_someoneChangesSide cX1_someoneChangesSide 9 (some .boolean)]
def wsX7_plan_r5 : List Cond := [Cond.methodLink RX1 69 yX2_cross, Cond.methodLink RX3 73 yX1_sideOfLesser, Cond.instanceMethod yX1_sideOfLesser, Cond.selects RX1 yX1_sideOfLesser yX1_sideOfLesser, Cond.code yX1_sideOfLesser cX1_sideOfLesser 4 (some .int), Cond.methodLink RX1 83 yX1_sideOfMain, Cond.instanceMethod yX1_sideOfMain, Cond.selects RX1 yX1_sideOfMain yX1_sideOfMain, Cond.code yX1_sideOfMain cX1_sideOfMain 5 (some .int), Cond.methodLink RX1 73 yX0_partner, Cond.instanceMethod yX0_partner, Cond.selects RX0 yX0_partner yX0_partner, Cond.code yX0_partner cX0_partner 2 (some .int), Cond.fieldLink RX0 15 "ShotBoard$Board" "main" "I", Cond.methodLink RX0 18 yX0_mustShow, Cond.methodLink RX1 77 yJ6_signum_0f7a4, Cond.static yJ6_signum_0f7a4, Cond.initialized RJ6, Cond.code yJ6_signum_0f7a4 cJ6_signum_0f7a4 1 (some .int), Cond.methodLink RX3 76 yX3_search, Cond.instanceMethod yX3_search, Cond.selects RX3 yX3_search yX3_search, Cond.code yX3_search cX3_search 4 (some .int), Cond.fieldLink RX3 99 "ShotBoard$Planner" "chosen" "I"]
def wsX7_plan_r6 : List Cond := [Cond.methodLink RX3 89 yX3_canFilm, Cond.instanceMethod yX3_canFilm, Cond.selects RX3 yX3_canFilm yX3_canFilm, Cond.code yX3_canFilm cX3_canFilm 5 (some .boolean), Cond.fieldLink RX3 18 "ShotBoard$Planner" "canGoOn" "[Z", Cond.methodLink RX3 102 yX3_firstFor, Cond.instanceMethod yX3_firstFor, Cond.selects RX3 yX3_firstFor yX3_firstFor, Cond.code yX3_firstFor cX3_firstFor 5 (some .int), Cond.methodLink RX3 106 yX3_fits, Cond.instanceMethod yX3_fits, Cond.selects RX3 yX3_fits yX3_fits, Cond.code yX3_fits cX3_fits 6 (some .boolean), Cond.fieldLink RX3 110 "ShotBoard$Board" "cutsOnPair" "Z", Cond.methodLink RX3 113 yX3_sideAfter, Cond.instanceMethod yX3_sideAfter, Cond.selects RX3 yX3_sideAfter yX3_sideAfter, Cond.code yX3_sideAfter cX3_sideAfter 4 (some .int), Cond.methodLink RX3 93 yJ6_bitCount_0f7a4, Cond.static yJ6_bitCount_0f7a4, Cond.code yJ6_bitCount_0f7a4 cJ6_bitCount_0f7a4 1 (some .int), Cond.constant RJ6 265 (1431655765), Cond.constant RJ6 266 (858993459), Cond.constant RJ6 267 (252645135)]
def wsX7_plan_r7 : List Cond := [Cond.methodLink RX3 83 yX3_writeRow, Cond.instanceMethod yX3_writeRow, Cond.selects RX3 yX3_writeRow yX3_writeRow, Cond.code yX3_writeRow cX3_writeRow 4 none, Cond.methodLink RX3 116 Lib.Math.max.name, Cond.static Lib.Math.max.name, Cond.initialized "java/lang/Math", Cond.code Lib.Math.max.name Lib.Math.max.code 2 (some .int), Cond.fieldLink RX3 22 "ShotBoard$Planner" "row" "[I", Cond.methodLink RX3 86 yX3_writeSequence, Cond.instanceMethod yX3_writeSequence, Cond.selects RX3 yX3_writeSequence yX3_writeSequence, Cond.code yX3_writeSequence cX3_writeSequence 5 none, Cond.fieldLink RX3 25 "ShotBoard$Planner" "sequence" "[I", Cond.fieldLink RX3 125 "ShotBoard$Rig" "lights" "[I", Cond.methodLink RX3 122 yX3_leastOf, Cond.instanceMethod yX3_leastOf, Cond.selects RX3 yX3_leastOf yX3_leastOf, Cond.code yX3_leastOf cX3_leastOf 4 (some .int)]
def wsX7_plan : List Cond := .code yX7_plan cX7_plan 2 (some .int) :: ((wsX7_plan_r1 ++ (wsX7_plan_r2 ++ (wsX7_plan_r3 ++ (wsX7_plan_r4 ++ (wsX7_plan_r5 ++ (wsX7_plan_r6 ++ wsX7_plan_r7)))))) ++ wsX70 ++ wsX30 ++ wsX50 ++ wsX40 ++ wsX00 ++ wsX10 ++ wsX60)
def wsX7_swings_r1 : List Cond := [Cond.fieldLink RX7 44 "ShotBoard" "planner" "LShotBoard$Planner;", Cond.fieldLink RX7 158 "ShotBoard$Planner" "used" "I", Cond.methodLink RX7 155 yX3_refresh, Cond.instanceMethod yX3_refresh, Cond.selects RX3 yX3_refresh yX3_refresh, Cond.initialized RX3, Cond.code yX3_refresh cX3_refresh 5 none, Cond.fieldLink RX3 40 "ShotBoard$Planner" "known" "Z", Cond.fieldLink RX3 36 "ShotBoard$Planner" "script" "LShotBoard$Script;", Cond.fieldLink RX3 44 "ShotBoard$Script" "boards" "I", Cond.fieldLink RX3 50 "ShotBoard$Script" "rows" "[LShotBoard$Board;", Cond.fieldLink RX3 9 "ShotBoard$Planner" "givers" "[I", Cond.fieldLink RX3 32 "ShotBoard$Planner" "rig" "LShotBoard$Rig;", Cond.fieldLink RX3 54 "ShotBoard$Rig" "cameras" "I", Cond.fieldLink RX3 59 "ShotBoard$Rig" "places" "[I", Cond.fieldLink RX3 28 "ShotBoard$Planner" "judge" "LShotBoard$Judge;", Cond.fieldLink RX3 15 "ShotBoard$Planner" "sides" "[I", Cond.fieldLink RX3 68 "ShotBoard$Board" "kind" "I", Cond.fieldLink RX3 80 "ShotBoard$Planner" "used" "I", Cond.methodLink RX3 62 yX1_fault, Cond.instanceMethod yX1_fault, Cond.selects RX1 yX1_fault yX1_fault, Cond.initialized RX1, Cond.code yX1_fault cX1_fault 6 (some .int)]
def wsX7_swings_r2 : List Cond := [Cond.fieldLink RX1 15 "ShotBoard$Board" "first" "I", Cond.fieldLink RX1 21 "ShotBoard$Board" "last" "I", Cond.fieldLink RX1 9 "ShotBoard$Judge" "stage" "LShotBoard$Stage;", Cond.methodLink RX1 24 yX6_someoneStepsAt, Cond.instanceMethod yX6_someoneStepsAt, Cond.selects RX6 yX6_someoneStepsAt yX6_someoneStepsAt, Cond.initialized RX6, Cond.code yX6_someoneStepsAt cX6_someoneStepsAt 3 (some .boolean), Cond.fieldLink RX6 25 "ShotBoard$Stage" "persons" "I", Cond.methodLink RX6 29 yX6_hasStep, Cond.instanceMethod yX6_hasStep, Cond.selects RX6 yX6_hasStep yX6_hasStep, Cond.code yX6_hasStep cX6_hasStep 3 (some .boolean), Cond.fieldLink RX6 15 "ShotBoard$Stage" "stepTicks" "[J", Cond.methodLink RX1 30 yX1_faultAt, Cond.instanceMethod yX1_faultAt, Cond.selects RX1 yX1_faultAt yX1_faultAt, Cond.code yX1_faultAt cX1_faultAt 6 (some .int), Cond.fieldLink RX1 34 "ShotBoard$Stage" "persons" "I", Cond.fieldLink RX1 44 "ShotBoard$Board" "main" "I", Cond.fieldLink RX1 56 "ShotBoard$Board" "sizes" "I", Cond.fieldLink RX1 62 "ShotBoard$Board" "kind" "I", Cond.methodLink RX1 37 yX0_mustShow, Cond.instanceMethod yX0_mustShow]
def wsX7_swings_r3 : List Cond := [Cond.selects RX0 yX0_mustShow yX0_mustShow, Cond.initialized RX0, Cond.code yX0_mustShow cX0_mustShow 2 (some .boolean), Cond.fieldLink RX0 9 "ShotBoard$Board" "mask" "I", Cond.methodLink RX1 40 yX6_hides, Cond.instanceMethod yX6_hides, Cond.selects RX6 yX6_hides yX6_hides, Cond.code yX6_hides cX6_hides 6 (some .boolean), Cond.fieldLink RX6 43 "ShotBoard$Stage" "walls" "I", Cond.fieldLink RX6 19 "ShotBoard$Stage" "wallFrom" "[I", Cond.fieldLink RX6 22 "ShotBoard$Stage" "wallTo" "[I", Cond.methodLink RX6 46 yX6_placeOf, Cond.instanceMethod yX6_placeOf, Cond.selects RX6 yX6_placeOf yX6_placeOf, Cond.code yX6_placeOf cX6_placeOf 3 (some .int), Cond.fieldLink RX6 9 "ShotBoard$Stage" "placeAt" "[I", Cond.methodLink RX6 50 yX2_meet, Cond.static yX2_meet, Cond.initialized RX2, Cond.code yX2_meet cX2_meet 6 (some .boolean), Cond.methodLink RX2 7 yX2_cross, Cond.static yX2_cross, Cond.code yX2_cross cX2_cross 5 (some .int), Cond.methodLink RX2 13 yX2_dot]
def wsX7_swings_r4 : List Cond := [Cond.static yX2_dot, Cond.code yX2_dot cX2_dot 5 (some .int), Cond.methodLink RX6 56 yX2_isBetween, Cond.static yX2_isBetween, Cond.code yX2_isBetween cX2_isBetween 3 (some .boolean), Cond.methodLink RX1 47 yX6_placeOf, Cond.methodLink RX1 51 yX2_inCone, Cond.static yX2_inCone, Cond.code yX2_inCone cX2_inCone 4 (some .boolean), Cond.methodLink RX1 59 yX2_sizeSeen, Cond.static yX2_sizeSeen, Cond.code yX2_sizeSeen cX2_sizeSeen 3 (some .int), Cond.methodLink RX1 65 yX1_someoneChangesSide, Cond.instanceMethod yX1_someoneChangesSide, Cond.selects RX1 yX1_someoneChangesSide yX1_someoneChangesSide, Cond.code yX1_someoneChangesSide cX1_someoneChangesSide 9 (some .boolean), Cond.methodLink RX1 69 yX2_cross, Cond.methodLink RX3 73 yX1_sideOfLesser, Cond.instanceMethod yX1_sideOfLesser, Cond.selects RX1 yX1_sideOfLesser yX1_sideOfLesser, Cond.code yX1_sideOfLesser cX1_sideOfLesser 4 (some .int), Cond.methodLink RX1 83 yX1_sideOfMain, Cond.instanceMethod yX1_sideOfMain, Cond.selects RX1 yX1_sideOfMain yX1_sideOfMain]
def wsX7_swings_r5 : List Cond := [Cond.code yX1_sideOfMain cX1_sideOfMain 5 (some .int), Cond.methodLink RX1 73 yX0_partner, Cond.instanceMethod yX0_partner, Cond.selects RX0 yX0_partner yX0_partner, Cond.code yX0_partner cX0_partner 2 (some .int), Cond.fieldLink RX0 15 "ShotBoard$Board" "main" "I", Cond.methodLink RX0 18 yX0_mustShow, Cond.methodLink RX1 77 yJ6_signum_0f7a4, Cond.static yJ6_signum_0f7a4, Cond.initialized RJ6, Cond.code yJ6_signum_0f7a4 cJ6_signum_0f7a4 1 (some .int), Cond.methodLink RX3 76 yX3_search, Cond.instanceMethod yX3_search, Cond.selects RX3 yX3_search yX3_search, Cond.code yX3_search cX3_search 4 (some .int), Cond.fieldLink RX3 99 "ShotBoard$Planner" "chosen" "I", Cond.methodLink RX3 89 yX3_canFilm, Cond.instanceMethod yX3_canFilm, Cond.selects RX3 yX3_canFilm yX3_canFilm, Cond.code yX3_canFilm cX3_canFilm 5 (some .boolean), Cond.fieldLink RX3 18 "ShotBoard$Planner" "canGoOn" "[Z", Cond.methodLink RX3 102 yX3_firstFor, Cond.instanceMethod yX3_firstFor, Cond.selects RX3 yX3_firstFor yX3_firstFor]
def wsX7_swings_r6 : List Cond := [Cond.code yX3_firstFor cX3_firstFor 5 (some .int), Cond.methodLink RX3 106 yX3_fits, Cond.instanceMethod yX3_fits, Cond.selects RX3 yX3_fits yX3_fits, Cond.code yX3_fits cX3_fits 6 (some .boolean), Cond.fieldLink RX3 110 "ShotBoard$Board" "cutsOnPair" "Z", Cond.methodLink RX3 113 yX3_sideAfter, Cond.instanceMethod yX3_sideAfter, Cond.selects RX3 yX3_sideAfter yX3_sideAfter, Cond.code yX3_sideAfter cX3_sideAfter 4 (some .int), Cond.methodLink RX3 93 yJ6_bitCount_0f7a4, Cond.static yJ6_bitCount_0f7a4, Cond.code yJ6_bitCount_0f7a4 cJ6_bitCount_0f7a4 1 (some .int), Cond.constant RJ6 265 (1431655765), Cond.constant RJ6 266 (858993459), Cond.constant RJ6 267 (252645135), Cond.methodLink RX3 83 yX3_writeRow, Cond.instanceMethod yX3_writeRow, Cond.selects RX3 yX3_writeRow yX3_writeRow, Cond.code yX3_writeRow cX3_writeRow 4 none, Cond.methodLink RX3 116 Lib.Math.max.name, Cond.static Lib.Math.max.name, Cond.initialized "java/lang/Math", Cond.code Lib.Math.max.name Lib.Math.max.code 2 (some .int)]
def wsX7_swings_r7 : List Cond := [Cond.fieldLink RX3 22 "ShotBoard$Planner" "row" "[I", Cond.methodLink RX3 86 yX3_writeSequence, Cond.instanceMethod yX3_writeSequence, Cond.selects RX3 yX3_writeSequence yX3_writeSequence, Cond.code yX3_writeSequence cX3_writeSequence 5 none, Cond.fieldLink RX3 25 "ShotBoard$Planner" "sequence" "[I", Cond.fieldLink RX3 125 "ShotBoard$Rig" "lights" "[I", Cond.methodLink RX3 122 yX3_leastOf, Cond.instanceMethod yX3_leastOf, Cond.selects RX3 yX3_leastOf yX3_leastOf, Cond.code yX3_leastOf cX3_leastOf 4 (some .int), Cond.methodLink RX7 164 yX3_turns, Cond.instanceMethod yX3_turns, Cond.selects RX3 yX3_turns yX3_turns, Cond.code yX3_turns cX3_turns 3 (some .int)]
def wsX7_swings : List Cond := .code yX7_swings cX7_swings 1 (some .int) :: ((wsX7_swings_r1 ++ (wsX7_swings_r2 ++ (wsX7_swings_r3 ++ (wsX7_swings_r4 ++ (wsX7_swings_r5 ++ (wsX7_swings_r6 ++ wsX7_swings_r7)))))) ++ wsX70 ++ wsX30 ++ wsX50 ++ wsX40 ++ wsX00 ++ wsX10 ++ wsX60)
def wsX7_order_r1 : List Cond := [Cond.fieldLink RX7 44 "ShotBoard" "planner" "LShotBoard$Planner;", Cond.fieldLink RX7 158 "ShotBoard$Planner" "used" "I", Cond.fieldLink RX7 168 "ShotBoard$Planner" "sequence" "[I", Cond.methodLink RX7 155 yX3_refresh, Cond.instanceMethod yX3_refresh, Cond.selects RX3 yX3_refresh yX3_refresh, Cond.initialized RX3, Cond.code yX3_refresh cX3_refresh 5 none, Cond.fieldLink RX3 40 "ShotBoard$Planner" "known" "Z", Cond.fieldLink RX3 36 "ShotBoard$Planner" "script" "LShotBoard$Script;", Cond.fieldLink RX3 44 "ShotBoard$Script" "boards" "I", Cond.fieldLink RX3 50 "ShotBoard$Script" "rows" "[LShotBoard$Board;", Cond.fieldLink RX3 9 "ShotBoard$Planner" "givers" "[I", Cond.fieldLink RX3 32 "ShotBoard$Planner" "rig" "LShotBoard$Rig;", Cond.fieldLink RX3 54 "ShotBoard$Rig" "cameras" "I", Cond.fieldLink RX3 59 "ShotBoard$Rig" "places" "[I", Cond.fieldLink RX3 28 "ShotBoard$Planner" "judge" "LShotBoard$Judge;", Cond.fieldLink RX3 15 "ShotBoard$Planner" "sides" "[I", Cond.fieldLink RX3 68 "ShotBoard$Board" "kind" "I", Cond.fieldLink RX3 80 "ShotBoard$Planner" "used" "I", Cond.methodLink RX3 62 yX1_fault, Cond.instanceMethod yX1_fault, Cond.selects RX1 yX1_fault yX1_fault, Cond.initialized RX1]
def wsX7_order_r2 : List Cond := [Cond.code yX1_fault cX1_fault 6 (some .int), Cond.fieldLink RX1 15 "ShotBoard$Board" "first" "I", Cond.fieldLink RX1 21 "ShotBoard$Board" "last" "I", Cond.fieldLink RX1 9 "ShotBoard$Judge" "stage" "LShotBoard$Stage;", Cond.methodLink RX1 24 yX6_someoneStepsAt, Cond.instanceMethod yX6_someoneStepsAt, Cond.selects RX6 yX6_someoneStepsAt yX6_someoneStepsAt, Cond.initialized RX6, Cond.code yX6_someoneStepsAt cX6_someoneStepsAt 3 (some .boolean), Cond.fieldLink RX6 25 "ShotBoard$Stage" "persons" "I", Cond.methodLink RX6 29 yX6_hasStep, Cond.instanceMethod yX6_hasStep, Cond.selects RX6 yX6_hasStep yX6_hasStep, Cond.code yX6_hasStep cX6_hasStep 3 (some .boolean), Cond.fieldLink RX6 15 "ShotBoard$Stage" "stepTicks" "[J", Cond.methodLink RX1 30 yX1_faultAt, Cond.instanceMethod yX1_faultAt, Cond.selects RX1 yX1_faultAt yX1_faultAt, Cond.code yX1_faultAt cX1_faultAt 6 (some .int), Cond.fieldLink RX1 34 "ShotBoard$Stage" "persons" "I", Cond.fieldLink RX1 44 "ShotBoard$Board" "main" "I", Cond.fieldLink RX1 56 "ShotBoard$Board" "sizes" "I", Cond.fieldLink RX1 62 "ShotBoard$Board" "kind" "I", Cond.methodLink RX1 37 yX0_mustShow]
def wsX7_order_r3 : List Cond := [Cond.instanceMethod yX0_mustShow, Cond.selects RX0 yX0_mustShow yX0_mustShow, Cond.initialized RX0, Cond.code yX0_mustShow cX0_mustShow 2 (some .boolean), Cond.fieldLink RX0 9 "ShotBoard$Board" "mask" "I", Cond.methodLink RX1 40 yX6_hides, Cond.instanceMethod yX6_hides, Cond.selects RX6 yX6_hides yX6_hides, Cond.code yX6_hides cX6_hides 6 (some .boolean), Cond.fieldLink RX6 43 "ShotBoard$Stage" "walls" "I", Cond.fieldLink RX6 19 "ShotBoard$Stage" "wallFrom" "[I", Cond.fieldLink RX6 22 "ShotBoard$Stage" "wallTo" "[I", Cond.methodLink RX6 46 yX6_placeOf, Cond.instanceMethod yX6_placeOf, Cond.selects RX6 yX6_placeOf yX6_placeOf, Cond.code yX6_placeOf cX6_placeOf 3 (some .int), Cond.fieldLink RX6 9 "ShotBoard$Stage" "placeAt" "[I", Cond.methodLink RX6 50 yX2_meet, Cond.static yX2_meet, Cond.initialized RX2, Cond.code yX2_meet cX2_meet 6 (some .boolean), Cond.methodLink RX2 7 yX2_cross, Cond.static yX2_cross, Cond.code yX2_cross cX2_cross 5 (some .int)]
def wsX7_order_r4 : List Cond := [Cond.methodLink RX2 13 yX2_dot, Cond.static yX2_dot, Cond.code yX2_dot cX2_dot 5 (some .int), Cond.methodLink RX6 56 yX2_isBetween, Cond.static yX2_isBetween, Cond.code yX2_isBetween cX2_isBetween 3 (some .boolean), Cond.methodLink RX1 47 yX6_placeOf, Cond.methodLink RX1 51 yX2_inCone, Cond.static yX2_inCone, Cond.code yX2_inCone cX2_inCone 4 (some .boolean), Cond.methodLink RX1 59 yX2_sizeSeen, Cond.static yX2_sizeSeen, Cond.code yX2_sizeSeen cX2_sizeSeen 3 (some .int), Cond.methodLink RX1 65 yX1_someoneChangesSide, Cond.instanceMethod yX1_someoneChangesSide, Cond.selects RX1 yX1_someoneChangesSide yX1_someoneChangesSide, Cond.code yX1_someoneChangesSide cX1_someoneChangesSide 9 (some .boolean), Cond.methodLink RX1 69 yX2_cross, Cond.methodLink RX3 73 yX1_sideOfLesser, Cond.instanceMethod yX1_sideOfLesser, Cond.selects RX1 yX1_sideOfLesser yX1_sideOfLesser, Cond.code yX1_sideOfLesser cX1_sideOfLesser 4 (some .int), Cond.methodLink RX1 83 yX1_sideOfMain, Cond.instanceMethod yX1_sideOfMain]
def wsX7_order_r5 : List Cond := [Cond.selects RX1 yX1_sideOfMain yX1_sideOfMain, Cond.code yX1_sideOfMain cX1_sideOfMain 5 (some .int), Cond.methodLink RX1 73 yX0_partner, Cond.instanceMethod yX0_partner, Cond.selects RX0 yX0_partner yX0_partner, Cond.code yX0_partner cX0_partner 2 (some .int), Cond.fieldLink RX0 15 "ShotBoard$Board" "main" "I", Cond.methodLink RX0 18 yX0_mustShow, Cond.methodLink RX1 77 yJ6_signum_0f7a4, Cond.static yJ6_signum_0f7a4, Cond.initialized RJ6, Cond.code yJ6_signum_0f7a4 cJ6_signum_0f7a4 1 (some .int), Cond.methodLink RX3 76 yX3_search, Cond.instanceMethod yX3_search, Cond.selects RX3 yX3_search yX3_search, Cond.code yX3_search cX3_search 4 (some .int), Cond.fieldLink RX3 99 "ShotBoard$Planner" "chosen" "I", Cond.methodLink RX3 89 yX3_canFilm, Cond.instanceMethod yX3_canFilm, Cond.selects RX3 yX3_canFilm yX3_canFilm, Cond.code yX3_canFilm cX3_canFilm 5 (some .boolean), Cond.fieldLink RX3 18 "ShotBoard$Planner" "canGoOn" "[Z", Cond.methodLink RX3 102 yX3_firstFor, Cond.instanceMethod yX3_firstFor]
def wsX7_order_r6 : List Cond := [Cond.selects RX3 yX3_firstFor yX3_firstFor, Cond.code yX3_firstFor cX3_firstFor 5 (some .int), Cond.methodLink RX3 106 yX3_fits, Cond.instanceMethod yX3_fits, Cond.selects RX3 yX3_fits yX3_fits, Cond.code yX3_fits cX3_fits 6 (some .boolean), Cond.fieldLink RX3 110 "ShotBoard$Board" "cutsOnPair" "Z", Cond.methodLink RX3 113 yX3_sideAfter, Cond.instanceMethod yX3_sideAfter, Cond.selects RX3 yX3_sideAfter yX3_sideAfter, Cond.code yX3_sideAfter cX3_sideAfter 4 (some .int), Cond.methodLink RX3 93 yJ6_bitCount_0f7a4, Cond.static yJ6_bitCount_0f7a4, Cond.code yJ6_bitCount_0f7a4 cJ6_bitCount_0f7a4 1 (some .int), Cond.constant RJ6 265 (1431655765), Cond.constant RJ6 266 (858993459), Cond.constant RJ6 267 (252645135), Cond.methodLink RX3 83 yX3_writeRow, Cond.instanceMethod yX3_writeRow, Cond.selects RX3 yX3_writeRow yX3_writeRow, Cond.code yX3_writeRow cX3_writeRow 4 none, Cond.methodLink RX3 116 Lib.Math.max.name, Cond.static Lib.Math.max.name, Cond.initialized "java/lang/Math"]
def wsX7_order_r7 : List Cond := [Cond.code Lib.Math.max.name Lib.Math.max.code 2 (some .int), Cond.fieldLink RX3 22 "ShotBoard$Planner" "row" "[I", Cond.methodLink RX3 86 yX3_writeSequence, Cond.instanceMethod yX3_writeSequence, Cond.selects RX3 yX3_writeSequence yX3_writeSequence, Cond.code yX3_writeSequence cX3_writeSequence 5 none, Cond.fieldLink RX3 25 "ShotBoard$Planner" "sequence" "[I", Cond.fieldLink RX3 125 "ShotBoard$Rig" "lights" "[I", Cond.methodLink RX3 122 yX3_leastOf, Cond.instanceMethod yX3_leastOf, Cond.selects RX3 yX3_leastOf yX3_leastOf, Cond.code yX3_leastOf cX3_leastOf 4 (some .int)]
def wsX7_order : List Cond := .code yX7_order cX7_order 2 (some .int) :: ((wsX7_order_r1 ++ (wsX7_order_r2 ++ (wsX7_order_r3 ++ (wsX7_order_r4 ++ (wsX7_order_r5 ++ (wsX7_order_r6 ++ wsX7_order_r7)))))) ++ wsX70 ++ wsX30 ++ wsX50 ++ wsX40 ++ wsX00 ++ wsX10 ++ wsX60)
def wsX7_crossingsOfTold_r1 : List Cond := [Cond.fieldLink RX7 26 "ShotBoard" "script" "LShotBoard$Script;", Cond.fieldLink RX7 136 "ShotBoard$Script" "rows" "[LShotBoard$Board;", Cond.fieldLink RX7 144 "ShotBoard$Board" "kind" "I", Cond.fieldLink RX7 35 "ShotBoard" "judge" "LShotBoard$Judge;", Cond.fieldLink RX7 19 "ShotBoard" "rig" "LShotBoard$Rig;", Cond.fieldLink RX7 122 "ShotBoard$Rig" "places" "[I", Cond.fieldLink RX7 48 "ShotBoard" "told" "[I", Cond.fieldLink RX7 180 "ShotBoard$Board" "cutsOnPair" "Z", Cond.methodLink RX7 177 yX1_sideOfLesser, Cond.instanceMethod yX1_sideOfLesser, Cond.selects RX1 yX1_sideOfLesser yX1_sideOfLesser, Cond.initialized RX1, Cond.code yX1_sideOfLesser cX1_sideOfLesser 4 (some .int), Cond.fieldLink RX1 44 "ShotBoard$Board" "main" "I", Cond.methodLink RX1 83 yX1_sideOfMain, Cond.instanceMethod yX1_sideOfMain, Cond.selects RX1 yX1_sideOfMain yX1_sideOfMain, Cond.code yX1_sideOfMain cX1_sideOfMain 5 (some .int), Cond.fieldLink RX1 9 "ShotBoard$Judge" "stage" "LShotBoard$Stage;", Cond.fieldLink RX1 15 "ShotBoard$Board" "first" "I", Cond.methodLink RX1 47 yX6_placeOf, Cond.instanceMethod yX6_placeOf, Cond.selects RX6 yX6_placeOf yX6_placeOf, Cond.initialized RX6]
def wsX7_crossingsOfTold_r2 : List Cond := [Cond.code yX6_placeOf cX6_placeOf 3 (some .int), Cond.fieldLink RX6 9 "ShotBoard$Stage" "placeAt" "[I", Cond.methodLink RX1 73 yX0_partner, Cond.instanceMethod yX0_partner, Cond.selects RX0 yX0_partner yX0_partner, Cond.initialized RX0, Cond.code yX0_partner cX0_partner 2 (some .int), Cond.fieldLink RX0 15 "ShotBoard$Board" "main" "I", Cond.methodLink RX0 18 yX0_mustShow, Cond.instanceMethod yX0_mustShow, Cond.selects RX0 yX0_mustShow yX0_mustShow, Cond.code yX0_mustShow cX0_mustShow 2 (some .boolean), Cond.fieldLink RX0 9 "ShotBoard$Board" "mask" "I", Cond.methodLink RX1 69 yX2_cross, Cond.static yX2_cross, Cond.initialized RX2, Cond.code yX2_cross cX2_cross 5 (some .int), Cond.methodLink RX1 77 yJ6_signum_0f7a4, Cond.static yJ6_signum_0f7a4, Cond.initialized RJ6, Cond.code yJ6_signum_0f7a4 cJ6_signum_0f7a4 1 (some .int)]
def wsX7_crossingsOfTold : List Cond := .code yX7_crossingsOfTold cX7_crossingsOfTold 7 (some .int) :: ((wsX7_crossingsOfTold_r1 ++ wsX7_crossingsOfTold_r2) ++ wsX70 ++ wsX50 ++ wsX00 ++ wsX40 ++ wsX10 ++ wsX60)
def wsX7_crossings_r1 : List Cond := [Cond.fieldLink RX7 171 "ShotBoard" "toldCount" "I", Cond.fieldLink RX7 26 "ShotBoard" "script" "LShotBoard$Script;", Cond.fieldLink RX7 103 "ShotBoard$Script" "boards" "I", Cond.fieldLink RX7 35 "ShotBoard" "judge" "LShotBoard$Judge;", Cond.fieldLink RX7 19 "ShotBoard" "rig" "LShotBoard$Rig;", Cond.fieldLink RX7 122 "ShotBoard$Rig" "places" "[I", Cond.fieldLink RX7 48 "ShotBoard" "told" "[I", Cond.fieldLink RX7 136 "ShotBoard$Script" "rows" "[LShotBoard$Board;", Cond.methodLink RX7 140 yX1_fault, Cond.instanceMethod yX1_fault, Cond.selects RX1 yX1_fault yX1_fault, Cond.initialized RX1, Cond.code yX1_fault cX1_fault 6 (some .int), Cond.fieldLink RX1 15 "ShotBoard$Board" "first" "I", Cond.fieldLink RX1 21 "ShotBoard$Board" "last" "I", Cond.fieldLink RX1 9 "ShotBoard$Judge" "stage" "LShotBoard$Stage;", Cond.methodLink RX1 24 yX6_someoneStepsAt, Cond.instanceMethod yX6_someoneStepsAt, Cond.selects RX6 yX6_someoneStepsAt yX6_someoneStepsAt, Cond.initialized RX6, Cond.code yX6_someoneStepsAt cX6_someoneStepsAt 3 (some .boolean), Cond.fieldLink RX6 25 "ShotBoard$Stage" "persons" "I", Cond.methodLink RX6 29 yX6_hasStep, Cond.instanceMethod yX6_hasStep]
def wsX7_crossings_r2 : List Cond := [Cond.selects RX6 yX6_hasStep yX6_hasStep, Cond.code yX6_hasStep cX6_hasStep 3 (some .boolean), Cond.fieldLink RX6 15 "ShotBoard$Stage" "stepTicks" "[J", Cond.methodLink RX1 30 yX1_faultAt, Cond.instanceMethod yX1_faultAt, Cond.selects RX1 yX1_faultAt yX1_faultAt, Cond.code yX1_faultAt cX1_faultAt 6 (some .int), Cond.fieldLink RX1 34 "ShotBoard$Stage" "persons" "I", Cond.fieldLink RX1 44 "ShotBoard$Board" "main" "I", Cond.fieldLink RX1 56 "ShotBoard$Board" "sizes" "I", Cond.fieldLink RX1 62 "ShotBoard$Board" "kind" "I", Cond.methodLink RX1 37 yX0_mustShow, Cond.instanceMethod yX0_mustShow, Cond.selects RX0 yX0_mustShow yX0_mustShow, Cond.initialized RX0, Cond.code yX0_mustShow cX0_mustShow 2 (some .boolean), Cond.fieldLink RX0 9 "ShotBoard$Board" "mask" "I", Cond.methodLink RX1 40 yX6_hides, Cond.instanceMethod yX6_hides, Cond.selects RX6 yX6_hides yX6_hides, Cond.code yX6_hides cX6_hides 6 (some .boolean), Cond.fieldLink RX6 43 "ShotBoard$Stage" "walls" "I", Cond.fieldLink RX6 19 "ShotBoard$Stage" "wallFrom" "[I", Cond.fieldLink RX6 22 "ShotBoard$Stage" "wallTo" "[I"]
def wsX7_crossings_r3 : List Cond := [Cond.methodLink RX6 46 yX6_placeOf, Cond.instanceMethod yX6_placeOf, Cond.selects RX6 yX6_placeOf yX6_placeOf, Cond.code yX6_placeOf cX6_placeOf 3 (some .int), Cond.fieldLink RX6 9 "ShotBoard$Stage" "placeAt" "[I", Cond.methodLink RX6 50 yX2_meet, Cond.static yX2_meet, Cond.initialized RX2, Cond.code yX2_meet cX2_meet 6 (some .boolean), Cond.methodLink RX2 7 yX2_cross, Cond.static yX2_cross, Cond.code yX2_cross cX2_cross 5 (some .int), Cond.methodLink RX2 13 yX2_dot, Cond.static yX2_dot, Cond.code yX2_dot cX2_dot 5 (some .int), Cond.methodLink RX6 56 yX2_isBetween, Cond.static yX2_isBetween, Cond.code yX2_isBetween cX2_isBetween 3 (some .boolean), Cond.methodLink RX1 47 yX6_placeOf, Cond.methodLink RX1 51 yX2_inCone, Cond.static yX2_inCone, Cond.code yX2_inCone cX2_inCone 4 (some .boolean), Cond.methodLink RX1 59 yX2_sizeSeen, Cond.static yX2_sizeSeen]
def wsX7_crossings_r4 : List Cond := [Cond.code yX2_sizeSeen cX2_sizeSeen 3 (some .int), Cond.methodLink RX1 65 yX1_someoneChangesSide, Cond.instanceMethod yX1_someoneChangesSide, Cond.selects RX1 yX1_someoneChangesSide yX1_someoneChangesSide, Cond.code yX1_someoneChangesSide cX1_someoneChangesSide 9 (some .boolean), Cond.methodLink RX1 69 yX2_cross, Cond.methodLink RX7 174 yX7_crossingsOfTold, Cond.instanceMethod yX7_crossingsOfTold, Cond.selects RX7 yX7_crossingsOfTold yX7_crossingsOfTold, Cond.initialized RX7, Cond.code yX7_crossingsOfTold cX7_crossingsOfTold 7 (some .int), Cond.fieldLink RX7 144 "ShotBoard$Board" "kind" "I", Cond.fieldLink RX7 180 "ShotBoard$Board" "cutsOnPair" "Z", Cond.methodLink RX7 177 yX1_sideOfLesser, Cond.instanceMethod yX1_sideOfLesser, Cond.selects RX1 yX1_sideOfLesser yX1_sideOfLesser, Cond.code yX1_sideOfLesser cX1_sideOfLesser 4 (some .int), Cond.methodLink RX1 83 yX1_sideOfMain, Cond.instanceMethod yX1_sideOfMain, Cond.selects RX1 yX1_sideOfMain yX1_sideOfMain, Cond.code yX1_sideOfMain cX1_sideOfMain 5 (some .int), Cond.methodLink RX1 73 yX0_partner, Cond.instanceMethod yX0_partner, Cond.selects RX0 yX0_partner yX0_partner]
def wsX7_crossings_r5 : List Cond := [Cond.code yX0_partner cX0_partner 2 (some .int), Cond.fieldLink RX0 15 "ShotBoard$Board" "main" "I", Cond.methodLink RX0 18 yX0_mustShow, Cond.methodLink RX1 77 yJ6_signum_0f7a4, Cond.static yJ6_signum_0f7a4, Cond.initialized RJ6, Cond.code yJ6_signum_0f7a4 cJ6_signum_0f7a4 1 (some .int)]
def wsX7_crossings : List Cond := .code yX7_crossings cX7_crossings 3 (some .int) :: ((wsX7_crossings_r1 ++ (wsX7_crossings_r2 ++ (wsX7_crossings_r3 ++ (wsX7_crossings_r4 ++ wsX7_crossings_r5)))) ++ wsX70 ++ wsX50 ++ wsX40 ++ wsX00 ++ wsX10 ++ wsX60)
def wsX7_list : List Cond := .code yX7_list cX7_list 2 (some .int) :: ([.fieldLink RX7 171 "ShotBoard" "toldCount" "I", .fieldLink RX7 48 "ShotBoard" "told" "[I", .methodLink RX7 119 yX7_isCamera, .instanceMethod yX7_isCamera, .selects RX7 yX7_isCamera yX7_isCamera, .initialized RX7, .code yX7_isCamera cX7_isCamera 2 (some .boolean), .fieldLink RX7 19 "ShotBoard" "rig" "LShotBoard$Rig;", .fieldLink RX7 91 "ShotBoard$Rig" "cameras" "I"] ++ wsX70 ++ wsX40)
def wsX7_run : List Cond := .code yX7_run cX7_run 3 (some .int) :: ([.fieldLink RX7 26 "ShotBoard" "script" "LShotBoard$Script;", .fieldLink RX7 103 "ShotBoard$Script" "boards" "I", .methodLink RX7 152 yX5_lengthOf, .instanceMethod yX5_lengthOf, .selects RX5 yX5_lengthOf yX5_lengthOf, .initialized RX5, .code yX5_lengthOf cX5_lengthOf 4 (some .int), .fieldLink RX5 11 "ShotBoard$Script" "rows" "[LShotBoard$Board;", .fieldLink RX5 43 "ShotBoard$Board" "words" "I", .fieldLink RX5 17 "ShotBoard$Script" "wordsPerTick" "I", .fieldLink RX5 40 "ShotBoard$Board" "last" "I", .fieldLink RX5 37 "ShotBoard$Board" "first" "I", .methodLink RX5 57 Lib.Math.max.name, .static Lib.Math.max.name, .initialized "java/lang/Math", .code Lib.Math.max.name Lib.Math.max.code 2 (some .int)] ++ wsX70 ++ wsX50 ++ wsX00)
def wsX7_frame : List Cond := .code yX7_frame cX7_frame 5 (some .int) :: ([.fieldLink RX7 26 "ShotBoard" "script" "LShotBoard$Script;", .fieldLink RX7 103 "ShotBoard$Script" "boards" "I", .methodLink RX7 152 yX5_lengthOf, .instanceMethod yX5_lengthOf, .selects RX5 yX5_lengthOf yX5_lengthOf, .initialized RX5, .code yX5_lengthOf cX5_lengthOf 4 (some .int), .fieldLink RX5 11 "ShotBoard$Script" "rows" "[LShotBoard$Board;", .fieldLink RX5 43 "ShotBoard$Board" "words" "I", .fieldLink RX5 17 "ShotBoard$Script" "wordsPerTick" "I", .fieldLink RX5 40 "ShotBoard$Board" "last" "I", .fieldLink RX5 37 "ShotBoard$Board" "first" "I", .methodLink RX5 57 Lib.Math.max.name, .static Lib.Math.max.name, .initialized "java/lang/Math", .code Lib.Math.max.name Lib.Math.max.code 2 (some .int)] ++ wsX70 ++ wsX50 ++ wsX00)
def wsX7_count : List Cond := .code yX7_count cX7_count 2 (some .int) :: ([.fieldLink RX7 10 "ShotBoard" "stage" "LShotBoard$Stage;", .fieldLink RX7 56 "ShotBoard$Stage" "persons" "I", .fieldLink RX7 84 "ShotBoard$Stage" "walls" "I", .fieldLink RX7 19 "ShotBoard" "rig" "LShotBoard$Rig;", .fieldLink RX7 91 "ShotBoard$Rig" "cameras" "I", .fieldLink RX7 26 "ShotBoard" "script" "LShotBoard$Script;", .fieldLink RX7 103 "ShotBoard$Script" "boards" "I", .fieldLink RX7 171 "ShotBoard" "toldCount" "I"] ++ wsX70 ++ wsX60 ++ wsX40 ++ wsX50)
def wsX8_init_r1 : List Cond := [Cond.methodLink RX8 1 objectInit, Cond.instanceMethod objectInit, Cond.code objectInit ⟨#[0xb1]⟩ 1 none, Cond.arrayClass .int, Cond.fieldLink RX8 7 "ShotBoardModel" "at" "[I", Cond.fieldLink RX8 13 "ShotBoardModel" "steps" "[I", Cond.fieldLink RX8 16 "ShotBoardModel" "stepTick" "[I", Cond.fieldLink RX8 19 "ShotBoardModel" "stepPlace" "[I", Cond.fieldLink RX8 22 "ShotBoardModel" "wallFrom" "[I", Cond.fieldLink RX8 25 "ShotBoardModel" "wallTo" "[I", Cond.fieldLink RX8 28 "ShotBoardModel" "eye" "[I", Cond.fieldLink RX8 31 "ShotBoardModel" "light" "[I", Cond.fieldLink RX8 34 "ShotBoardModel" "kind" "[I", Cond.fieldLink RX8 37 "ShotBoardModel" "main" "[I", Cond.fieldLink RX8 40 "ShotBoardModel" "must" "[I", Cond.fieldLink RX8 43 "ShotBoardModel" "sizes" "[I", Cond.fieldLink RX8 46 "ShotBoardModel" "from" "[I", Cond.fieldLink RX8 49 "ShotBoardModel" "to" "[I", Cond.fieldLink RX8 52 "ShotBoardModel" "words" "[I", Cond.fieldLink RX8 55 "ShotBoardModel" "rate" "I", Cond.fieldLink RX8 59 "ShotBoardModel" "list" "[I", Cond.arrayClass .boolean, Cond.fieldLink RX8 62 "ShotBoardModel" "giving" "[Z", Cond.fieldLink RX8 66 "ShotBoardModel" "canGo" "[Z"]
def wsX8_init_r2 : List Cond := [Cond.fieldLink RX8 69 "ShotBoardModel" "row" "[I"]
def wsX8_init : List Cond := .code yX8_init cX8_init 1 none :: ((wsX8_init_r1 ++ wsX8_init_r2) ++ wsX80)
def wsX8_in : List Cond := .code yX8_in cX8_in 3 (some .boolean) :: ([])
def wsX8_isPlace : List Cond := .code yX8_isPlace cX8_isPlace 1 (some .boolean) :: ([])
def wsX8_isPerson : List Cond := .code yX8_isPerson cX8_isPerson 2 (some .boolean) :: ([.fieldLink RX8 72 "ShotBoardModel" "persons" "I", .methodLink RX8 75 yX8_in, .static yX8_in, .initialized RX8, .code yX8_in cX8_in 3 (some .boolean)] ++ wsX80)
def wsX8_isCamera : List Cond := .code yX8_isCamera cX8_isCamera 2 (some .boolean) :: ([.fieldLink RX8 79 "ShotBoardModel" "cameras" "I", .methodLink RX8 75 yX8_in, .static yX8_in, .initialized RX8, .code yX8_in cX8_in 3 (some .boolean)] ++ wsX80)
def wsX8_isBoard : List Cond := .code yX8_isBoard cX8_isBoard 2 (some .boolean) :: ([.fieldLink RX8 82 "ShotBoardModel" "boards" "I", .methodLink RX8 75 yX8_in, .static yX8_in, .initialized RX8, .code yX8_in cX8_in 3 (some .boolean)] ++ wsX80)
def wsX8_isTick : List Cond := .code yX8_isTick cX8_isTick 1 (some .boolean) :: ([.methodLink RX8 75 yX8_in, .static yX8_in, .initialized RX8, .code yX8_in cX8_in 3 (some .boolean)])
def wsX8_person : List Cond := .code yX8_person cX8_person 2 (some .int) :: ([.fieldLink RX8 72 "ShotBoardModel" "persons" "I", .fieldLink RX8 7 "ShotBoardModel" "at" "[I", .methodLink RX8 85 yX8_isPlace, .static yX8_isPlace, .initialized RX8, .code yX8_isPlace cX8_isPlace 1 (some .boolean)] ++ wsX80)
def wsX8_step : List Cond := .code yX8_step cX8_step 5 (some .int) :: ([.fieldLink RX8 13 "ShotBoardModel" "steps" "[I", .fieldLink RX8 16 "ShotBoardModel" "stepTick" "[I", .fieldLink RX8 19 "ShotBoardModel" "stepPlace" "[I", .methodLink RX8 89 yX8_isPerson, .instanceMethod yX8_isPerson, .selects RX8 yX8_isPerson yX8_isPerson, .initialized RX8, .code yX8_isPerson cX8_isPerson 2 (some .boolean), .fieldLink RX8 72 "ShotBoardModel" "persons" "I", .methodLink RX8 75 yX8_in, .static yX8_in, .code yX8_in cX8_in 3 (some .boolean), .methodLink RX8 85 yX8_isPlace, .static yX8_isPlace, .code yX8_isPlace cX8_isPlace 1 (some .boolean)] ++ wsX80)
def wsX8_wall : List Cond := .code yX8_wall cX8_wall 3 (some .int) :: ([.fieldLink RX8 92 "ShotBoardModel" "walls" "I", .fieldLink RX8 22 "ShotBoardModel" "wallFrom" "[I", .fieldLink RX8 25 "ShotBoardModel" "wallTo" "[I", .methodLink RX8 85 yX8_isPlace, .static yX8_isPlace, .initialized RX8, .code yX8_isPlace cX8_isPlace 1 (some .boolean)] ++ wsX80)
def wsX8_open : List Cond := .code yX8_open cX8_open 1 (some .int) :: ([.fieldLink RX8 92 "ShotBoardModel" "walls" "I"] ++ wsX80)
def wsX8_camera : List Cond := .code yX8_camera cX8_camera 3 (some .int) :: ([.fieldLink RX8 79 "ShotBoardModel" "cameras" "I", .fieldLink RX8 28 "ShotBoardModel" "eye" "[I", .fieldLink RX8 31 "ShotBoardModel" "light" "[I", .methodLink RX8 85 yX8_isPlace, .static yX8_isPlace, .initialized RX8, .code yX8_isPlace cX8_isPlace 1 (some .boolean), .methodLink RX8 75 yX8_in, .static yX8_in, .code yX8_in cX8_in 3 (some .boolean)] ++ wsX80)
def wsX8_board : List Cond := .code yX8_board cX8_board 9 (some .int) :: ([.fieldLink RX8 72 "ShotBoardModel" "persons" "I", .fieldLink RX8 82 "ShotBoardModel" "boards" "I", .fieldLink RX8 34 "ShotBoardModel" "kind" "[I", .fieldLink RX8 37 "ShotBoardModel" "main" "[I", .fieldLink RX8 40 "ShotBoardModel" "must" "[I", .fieldLink RX8 43 "ShotBoardModel" "sizes" "[I", .fieldLink RX8 46 "ShotBoardModel" "from" "[I", .fieldLink RX8 49 "ShotBoardModel" "to" "[I", .fieldLink RX8 52 "ShotBoardModel" "words" "[I", .methodLink RX8 75 yX8_in, .static yX8_in, .initialized RX8, .code yX8_in cX8_in 3 (some .boolean), .methodLink RX8 89 yX8_isPerson, .instanceMethod yX8_isPerson, .selects RX8 yX8_isPerson yX8_isPerson, .code yX8_isPerson cX8_isPerson 2 (some .boolean), .methodLink RX8 95 yX8_isTick, .static yX8_isTick, .code yX8_isTick cX8_isTick 1 (some .boolean)] ++ wsX80)
def wsX8_drop : List Cond := .code yX8_drop cX8_drop 1 (some .int) :: ([.fieldLink RX8 82 "ShotBoardModel" "boards" "I"] ++ wsX80)
def wsX8_rate : List Cond := .code yX8_rate cX8_rate 3 (some .int) :: ([.fieldLink RX8 55 "ShotBoardModel" "rate" "I", .methodLink RX8 75 yX8_in, .static yX8_in, .initialized RX8, .code yX8_in cX8_in 3 (some .boolean)] ++ wsX80)
def wsX8_placeOf : List Cond := .code yX8_placeOf cX8_placeOf 6 (some .int) :: ([.fieldLink RX8 7 "ShotBoardModel" "at" "[I", .fieldLink RX8 13 "ShotBoardModel" "steps" "[I", .fieldLink RX8 16 "ShotBoardModel" "stepTick" "[I", .fieldLink RX8 19 "ShotBoardModel" "stepPlace" "[I"] ++ wsX80)
def wsX8_where : List Cond := .code yX8_where cX8_where 3 (some .int) :: ([.methodLink RX8 89 yX8_isPerson, .instanceMethod yX8_isPerson, .selects RX8 yX8_isPerson yX8_isPerson, .initialized RX8, .code yX8_isPerson cX8_isPerson 2 (some .boolean), .fieldLink RX8 72 "ShotBoardModel" "persons" "I", .methodLink RX8 75 yX8_in, .static yX8_in, .code yX8_in cX8_in 3 (some .boolean), .methodLink RX8 95 yX8_isTick, .static yX8_isTick, .code yX8_isTick cX8_isTick 1 (some .boolean), .methodLink RX8 98 yX8_placeOf, .instanceMethod yX8_placeOf, .selects RX8 yX8_placeOf yX8_placeOf, .code yX8_placeOf cX8_placeOf 6 (some .int), .fieldLink RX8 7 "ShotBoardModel" "at" "[I", .fieldLink RX8 13 "ShotBoardModel" "steps" "[I", .fieldLink RX8 16 "ShotBoardModel" "stepTick" "[I", .fieldLink RX8 19 "ShotBoardModel" "stepPlace" "[I"] ++ wsX80)
def wsX8_x : List Cond := .code yX8_x cX8_x 1 (some .int) :: ([])
def wsX8_y : List Cond := .code yX8_y cX8_y 1 (some .int) :: ([])
def wsX8_turn : List Cond := .code yX8_turn cX8_turn 4 (some .int) :: ([.methodLink RX8 102 yX8_x, .static yX8_x, .initialized RX8, .code yX8_x cX8_x 1 (some .int), .methodLink RX8 106 yX8_y, .static yX8_y, .code yX8_y cX8_y 1 (some .int)])
def wsX8_isBetween : List Cond := .code yX8_isBetween cX8_isBetween 3 (some .boolean) :: ([.methodLink RX8 75 yX8_in, .static yX8_in, .initialized RX8, .code yX8_in cX8_in 3 (some .boolean)])
def wsX8_isOn : List Cond := .code yX8_isOn cX8_isOn 3 (some .boolean) :: ([.methodLink RX8 109 yX8_turn, .static yX8_turn, .initialized RX8, .code yX8_turn cX8_turn 4 (some .int), .methodLink RX8 102 yX8_x, .static yX8_x, .code yX8_x cX8_x 1 (some .int), .methodLink RX8 106 yX8_y, .static yX8_y, .code yX8_y cX8_y 1 (some .int), .methodLink RX8 113 yX8_isBetween, .static yX8_isBetween, .code yX8_isBetween cX8_isBetween 3 (some .boolean), .methodLink RX8 75 yX8_in, .static yX8_in, .code yX8_in cX8_in 3 (some .boolean)])
def wsX8_meet : List Cond := .code yX8_meet cX8_meet 5 (some .boolean) :: ([.methodLink RX8 109 yX8_turn, .static yX8_turn, .initialized RX8, .code yX8_turn cX8_turn 4 (some .int), .methodLink RX8 102 yX8_x, .static yX8_x, .code yX8_x cX8_x 1 (some .int), .methodLink RX8 106 yX8_y, .static yX8_y, .code yX8_y cX8_y 1 (some .int), .methodLink RX8 116 yX8_isOn, .static yX8_isOn, .code yX8_isOn cX8_isOn 3 (some .boolean), .methodLink RX8 113 yX8_isBetween, .static yX8_isBetween, .code yX8_isBetween cX8_isBetween 3 (some .boolean), .methodLink RX8 75 yX8_in, .static yX8_in, .code yX8_in cX8_in 3 (some .boolean)])
def wsX8_isHidden_r1 : List Cond := [Cond.fieldLink RX8 92 "ShotBoardModel" "walls" "I", Cond.fieldLink RX8 22 "ShotBoardModel" "wallFrom" "[I", Cond.fieldLink RX8 25 "ShotBoardModel" "wallTo" "[I", Cond.fieldLink RX8 72 "ShotBoardModel" "persons" "I", Cond.methodLink RX8 98 yX8_placeOf, Cond.instanceMethod yX8_placeOf, Cond.selects RX8 yX8_placeOf yX8_placeOf, Cond.initialized RX8, Cond.code yX8_placeOf cX8_placeOf 6 (some .int), Cond.fieldLink RX8 7 "ShotBoardModel" "at" "[I", Cond.fieldLink RX8 13 "ShotBoardModel" "steps" "[I", Cond.fieldLink RX8 16 "ShotBoardModel" "stepTick" "[I", Cond.fieldLink RX8 19 "ShotBoardModel" "stepPlace" "[I", Cond.methodLink RX8 119 yX8_meet, Cond.static yX8_meet, Cond.code yX8_meet cX8_meet 5 (some .boolean), Cond.methodLink RX8 109 yX8_turn, Cond.static yX8_turn, Cond.code yX8_turn cX8_turn 4 (some .int), Cond.methodLink RX8 102 yX8_x, Cond.static yX8_x, Cond.code yX8_x cX8_x 1 (some .int), Cond.methodLink RX8 106 yX8_y, Cond.static yX8_y]
def wsX8_isHidden_r2 : List Cond := [Cond.code yX8_y cX8_y 1 (some .int), Cond.methodLink RX8 116 yX8_isOn, Cond.static yX8_isOn, Cond.code yX8_isOn cX8_isOn 3 (some .boolean), Cond.methodLink RX8 113 yX8_isBetween, Cond.static yX8_isBetween, Cond.code yX8_isBetween cX8_isBetween 3 (some .boolean), Cond.methodLink RX8 75 yX8_in, Cond.static yX8_in, Cond.code yX8_in cX8_in 3 (some .boolean)]
def wsX8_isHidden : List Cond := .code yX8_isHidden cX8_isHidden 7 (some .boolean) :: ((wsX8_isHidden_r1 ++ wsX8_isHidden_r2) ++ wsX80)
def wsX8_hidden_r1 : List Cond := [Cond.methodLink RX8 89 yX8_isPerson, Cond.instanceMethod yX8_isPerson, Cond.selects RX8 yX8_isPerson yX8_isPerson, Cond.initialized RX8, Cond.code yX8_isPerson cX8_isPerson 2 (some .boolean), Cond.fieldLink RX8 72 "ShotBoardModel" "persons" "I", Cond.methodLink RX8 75 yX8_in, Cond.static yX8_in, Cond.code yX8_in cX8_in 3 (some .boolean), Cond.methodLink RX8 95 yX8_isTick, Cond.static yX8_isTick, Cond.code yX8_isTick cX8_isTick 1 (some .boolean), Cond.methodLink RX8 85 yX8_isPlace, Cond.static yX8_isPlace, Cond.code yX8_isPlace cX8_isPlace 1 (some .boolean), Cond.methodLink RX8 123 yX8_isHidden, Cond.instanceMethod yX8_isHidden, Cond.selects RX8 yX8_isHidden yX8_isHidden, Cond.code yX8_isHidden cX8_isHidden 7 (some .boolean), Cond.fieldLink RX8 92 "ShotBoardModel" "walls" "I", Cond.fieldLink RX8 22 "ShotBoardModel" "wallFrom" "[I", Cond.fieldLink RX8 25 "ShotBoardModel" "wallTo" "[I", Cond.methodLink RX8 98 yX8_placeOf, Cond.instanceMethod yX8_placeOf]
def wsX8_hidden_r2 : List Cond := [Cond.selects RX8 yX8_placeOf yX8_placeOf, Cond.code yX8_placeOf cX8_placeOf 6 (some .int), Cond.fieldLink RX8 7 "ShotBoardModel" "at" "[I", Cond.fieldLink RX8 13 "ShotBoardModel" "steps" "[I", Cond.fieldLink RX8 16 "ShotBoardModel" "stepTick" "[I", Cond.fieldLink RX8 19 "ShotBoardModel" "stepPlace" "[I", Cond.methodLink RX8 119 yX8_meet, Cond.static yX8_meet, Cond.code yX8_meet cX8_meet 5 (some .boolean), Cond.methodLink RX8 109 yX8_turn, Cond.static yX8_turn, Cond.code yX8_turn cX8_turn 4 (some .int), Cond.methodLink RX8 102 yX8_x, Cond.static yX8_x, Cond.code yX8_x cX8_x 1 (some .int), Cond.methodLink RX8 106 yX8_y, Cond.static yX8_y, Cond.code yX8_y cX8_y 1 (some .int), Cond.methodLink RX8 116 yX8_isOn, Cond.static yX8_isOn, Cond.code yX8_isOn cX8_isOn 3 (some .boolean), Cond.methodLink RX8 113 yX8_isBetween, Cond.static yX8_isBetween, Cond.code yX8_isBetween cX8_isBetween 3 (some .boolean)]
def wsX8_hidden : List Cond := .code yX8_hidden cX8_hidden 4 (some .int) :: ((wsX8_hidden_r1 ++ wsX8_hidden_r2) ++ wsX80)
def wsX8_isBefore : List Cond := .code yX8_isBefore cX8_isBefore 12 (some .boolean) :: ([.fieldLink RX8 28 "ShotBoardModel" "eye" "[I", .methodLink RX8 98 yX8_placeOf, .instanceMethod yX8_placeOf, .selects RX8 yX8_placeOf yX8_placeOf, .initialized RX8, .code yX8_placeOf cX8_placeOf 6 (some .int), .fieldLink RX8 7 "ShotBoardModel" "at" "[I", .fieldLink RX8 13 "ShotBoardModel" "steps" "[I", .fieldLink RX8 16 "ShotBoardModel" "stepTick" "[I", .fieldLink RX8 19 "ShotBoardModel" "stepPlace" "[I", .methodLink RX8 102 yX8_x, .static yX8_x, .code yX8_x cX8_x 1 (some .int), .methodLink RX8 106 yX8_y, .static yX8_y, .code yX8_y cX8_y 1 (some .int)] ++ wsX80)
def wsX8_sees_r1 : List Cond := [Cond.fieldLink RX8 28 "ShotBoardModel" "eye" "[I", Cond.methodLink RX8 126 yX8_isCamera, Cond.instanceMethod yX8_isCamera, Cond.selects RX8 yX8_isCamera yX8_isCamera, Cond.initialized RX8, Cond.code yX8_isCamera cX8_isCamera 2 (some .boolean), Cond.fieldLink RX8 79 "ShotBoardModel" "cameras" "I", Cond.methodLink RX8 75 yX8_in, Cond.static yX8_in, Cond.code yX8_in cX8_in 3 (some .boolean), Cond.methodLink RX8 89 yX8_isPerson, Cond.instanceMethod yX8_isPerson, Cond.selects RX8 yX8_isPerson yX8_isPerson, Cond.code yX8_isPerson cX8_isPerson 2 (some .boolean), Cond.fieldLink RX8 72 "ShotBoardModel" "persons" "I", Cond.methodLink RX8 95 yX8_isTick, Cond.static yX8_isTick, Cond.code yX8_isTick cX8_isTick 1 (some .boolean), Cond.methodLink RX8 123 yX8_isHidden, Cond.instanceMethod yX8_isHidden, Cond.selects RX8 yX8_isHidden yX8_isHidden, Cond.code yX8_isHidden cX8_isHidden 7 (some .boolean), Cond.fieldLink RX8 92 "ShotBoardModel" "walls" "I", Cond.fieldLink RX8 22 "ShotBoardModel" "wallFrom" "[I"]
def wsX8_sees_r2 : List Cond := [Cond.fieldLink RX8 25 "ShotBoardModel" "wallTo" "[I", Cond.methodLink RX8 98 yX8_placeOf, Cond.instanceMethod yX8_placeOf, Cond.selects RX8 yX8_placeOf yX8_placeOf, Cond.code yX8_placeOf cX8_placeOf 6 (some .int), Cond.fieldLink RX8 7 "ShotBoardModel" "at" "[I", Cond.fieldLink RX8 13 "ShotBoardModel" "steps" "[I", Cond.fieldLink RX8 16 "ShotBoardModel" "stepTick" "[I", Cond.fieldLink RX8 19 "ShotBoardModel" "stepPlace" "[I", Cond.methodLink RX8 119 yX8_meet, Cond.static yX8_meet, Cond.code yX8_meet cX8_meet 5 (some .boolean), Cond.methodLink RX8 109 yX8_turn, Cond.static yX8_turn, Cond.code yX8_turn cX8_turn 4 (some .int), Cond.methodLink RX8 102 yX8_x, Cond.static yX8_x, Cond.code yX8_x cX8_x 1 (some .int), Cond.methodLink RX8 106 yX8_y, Cond.static yX8_y, Cond.code yX8_y cX8_y 1 (some .int), Cond.methodLink RX8 116 yX8_isOn, Cond.static yX8_isOn, Cond.code yX8_isOn cX8_isOn 3 (some .boolean)]
def wsX8_sees_r3 : List Cond := [Cond.methodLink RX8 113 yX8_isBetween, Cond.static yX8_isBetween, Cond.code yX8_isBetween cX8_isBetween 3 (some .boolean), Cond.methodLink RX8 129 yX8_isBefore, Cond.instanceMethod yX8_isBefore, Cond.selects RX8 yX8_isBefore yX8_isBefore, Cond.code yX8_isBefore cX8_isBefore 12 (some .boolean)]
def wsX8_sees : List Cond := .code yX8_sees cX8_sees 5 (some .int) :: ((wsX8_sees_r1 ++ (wsX8_sees_r2 ++ wsX8_sees_r3)) ++ wsX80)
def wsX8_sizeOf : List Cond := .code yX8_sizeOf cX8_sizeOf 7 (some .int) :: ([.fieldLink RX8 28 "ShotBoardModel" "eye" "[I", .methodLink RX8 98 yX8_placeOf, .instanceMethod yX8_placeOf, .selects RX8 yX8_placeOf yX8_placeOf, .initialized RX8, .code yX8_placeOf cX8_placeOf 6 (some .int), .fieldLink RX8 7 "ShotBoardModel" "at" "[I", .fieldLink RX8 13 "ShotBoardModel" "steps" "[I", .fieldLink RX8 16 "ShotBoardModel" "stepTick" "[I", .fieldLink RX8 19 "ShotBoardModel" "stepPlace" "[I", .methodLink RX8 102 yX8_x, .static yX8_x, .code yX8_x cX8_x 1 (some .int), .methodLink RX8 106 yX8_y, .static yX8_y, .code yX8_y cX8_y 1 (some .int)] ++ wsX80)
def wsX8_size_r1 : List Cond := [Cond.methodLink RX8 126 yX8_isCamera, Cond.instanceMethod yX8_isCamera, Cond.selects RX8 yX8_isCamera yX8_isCamera, Cond.initialized RX8, Cond.code yX8_isCamera cX8_isCamera 2 (some .boolean), Cond.fieldLink RX8 79 "ShotBoardModel" "cameras" "I", Cond.methodLink RX8 75 yX8_in, Cond.static yX8_in, Cond.code yX8_in cX8_in 3 (some .boolean), Cond.methodLink RX8 89 yX8_isPerson, Cond.instanceMethod yX8_isPerson, Cond.selects RX8 yX8_isPerson yX8_isPerson, Cond.code yX8_isPerson cX8_isPerson 2 (some .boolean), Cond.fieldLink RX8 72 "ShotBoardModel" "persons" "I", Cond.methodLink RX8 95 yX8_isTick, Cond.static yX8_isTick, Cond.code yX8_isTick cX8_isTick 1 (some .boolean), Cond.methodLink RX8 132 yX8_sizeOf, Cond.instanceMethod yX8_sizeOf, Cond.selects RX8 yX8_sizeOf yX8_sizeOf, Cond.code yX8_sizeOf cX8_sizeOf 7 (some .int), Cond.fieldLink RX8 28 "ShotBoardModel" "eye" "[I", Cond.methodLink RX8 98 yX8_placeOf, Cond.instanceMethod yX8_placeOf]
def wsX8_size_r2 : List Cond := [Cond.selects RX8 yX8_placeOf yX8_placeOf, Cond.code yX8_placeOf cX8_placeOf 6 (some .int), Cond.fieldLink RX8 7 "ShotBoardModel" "at" "[I", Cond.fieldLink RX8 13 "ShotBoardModel" "steps" "[I", Cond.fieldLink RX8 16 "ShotBoardModel" "stepTick" "[I", Cond.fieldLink RX8 19 "ShotBoardModel" "stepPlace" "[I", Cond.methodLink RX8 102 yX8_x, Cond.static yX8_x, Cond.code yX8_x cX8_x 1 (some .int), Cond.methodLink RX8 106 yX8_y, Cond.static yX8_y, Cond.code yX8_y cX8_y 1 (some .int)]
def wsX8_size : List Cond := .code yX8_size cX8_size 4 (some .int) :: ((wsX8_size_r1 ++ wsX8_size_r2) ++ wsX80)
def wsX8_views_r1 : List Cond := [Cond.methodLink RX8 89 yX8_isPerson, Cond.instanceMethod yX8_isPerson, Cond.selects RX8 yX8_isPerson yX8_isPerson, Cond.initialized RX8, Cond.code yX8_isPerson cX8_isPerson 2 (some .boolean), Cond.fieldLink RX8 72 "ShotBoardModel" "persons" "I", Cond.methodLink RX8 75 yX8_in, Cond.static yX8_in, Cond.code yX8_in cX8_in 3 (some .boolean), Cond.methodLink RX8 95 yX8_isTick, Cond.static yX8_isTick, Cond.code yX8_isTick cX8_isTick 1 (some .boolean), Cond.methodLink RX8 123 yX8_isHidden, Cond.instanceMethod yX8_isHidden, Cond.selects RX8 yX8_isHidden yX8_isHidden, Cond.code yX8_isHidden cX8_isHidden 7 (some .boolean), Cond.fieldLink RX8 92 "ShotBoardModel" "walls" "I", Cond.fieldLink RX8 22 "ShotBoardModel" "wallFrom" "[I", Cond.fieldLink RX8 25 "ShotBoardModel" "wallTo" "[I", Cond.methodLink RX8 98 yX8_placeOf, Cond.instanceMethod yX8_placeOf, Cond.selects RX8 yX8_placeOf yX8_placeOf, Cond.code yX8_placeOf cX8_placeOf 6 (some .int), Cond.fieldLink RX8 7 "ShotBoardModel" "at" "[I"]
def wsX8_views_r2 : List Cond := [Cond.fieldLink RX8 13 "ShotBoardModel" "steps" "[I", Cond.fieldLink RX8 16 "ShotBoardModel" "stepTick" "[I", Cond.fieldLink RX8 19 "ShotBoardModel" "stepPlace" "[I", Cond.methodLink RX8 119 yX8_meet, Cond.static yX8_meet, Cond.code yX8_meet cX8_meet 5 (some .boolean), Cond.methodLink RX8 109 yX8_turn, Cond.static yX8_turn, Cond.code yX8_turn cX8_turn 4 (some .int), Cond.methodLink RX8 102 yX8_x, Cond.static yX8_x, Cond.code yX8_x cX8_x 1 (some .int), Cond.methodLink RX8 106 yX8_y, Cond.static yX8_y, Cond.code yX8_y cX8_y 1 (some .int), Cond.methodLink RX8 116 yX8_isOn, Cond.static yX8_isOn, Cond.code yX8_isOn cX8_isOn 3 (some .boolean), Cond.methodLink RX8 113 yX8_isBetween, Cond.static yX8_isBetween, Cond.code yX8_isBetween cX8_isBetween 3 (some .boolean)]
def wsX8_views : List Cond := .code yX8_views cX8_views 6 (some .int) :: ((wsX8_views_r1 ++ wsX8_views_r2) ++ wsX80)
def wsX8_fails_r1 : List Cond := [Cond.fieldLink RX8 37 "ShotBoardModel" "main" "[I", Cond.fieldLink RX8 72 "ShotBoardModel" "persons" "I", Cond.fieldLink RX8 40 "ShotBoardModel" "must" "[I", Cond.fieldLink RX8 28 "ShotBoardModel" "eye" "[I", Cond.fieldLink RX8 43 "ShotBoardModel" "sizes" "[I", Cond.fieldLink RX8 34 "ShotBoardModel" "kind" "[I", Cond.fieldLink RX8 46 "ShotBoardModel" "from" "[I", Cond.methodLink RX8 123 yX8_isHidden, Cond.instanceMethod yX8_isHidden, Cond.selects RX8 yX8_isHidden yX8_isHidden, Cond.initialized RX8, Cond.code yX8_isHidden cX8_isHidden 7 (some .boolean), Cond.fieldLink RX8 92 "ShotBoardModel" "walls" "I", Cond.fieldLink RX8 22 "ShotBoardModel" "wallFrom" "[I", Cond.fieldLink RX8 25 "ShotBoardModel" "wallTo" "[I", Cond.methodLink RX8 98 yX8_placeOf, Cond.instanceMethod yX8_placeOf, Cond.selects RX8 yX8_placeOf yX8_placeOf, Cond.code yX8_placeOf cX8_placeOf 6 (some .int), Cond.fieldLink RX8 7 "ShotBoardModel" "at" "[I", Cond.fieldLink RX8 13 "ShotBoardModel" "steps" "[I", Cond.fieldLink RX8 16 "ShotBoardModel" "stepTick" "[I", Cond.fieldLink RX8 19 "ShotBoardModel" "stepPlace" "[I", Cond.methodLink RX8 119 yX8_meet]
def wsX8_fails_r2 : List Cond := [Cond.static yX8_meet, Cond.code yX8_meet cX8_meet 5 (some .boolean), Cond.methodLink RX8 109 yX8_turn, Cond.static yX8_turn, Cond.code yX8_turn cX8_turn 4 (some .int), Cond.methodLink RX8 102 yX8_x, Cond.static yX8_x, Cond.code yX8_x cX8_x 1 (some .int), Cond.methodLink RX8 106 yX8_y, Cond.static yX8_y, Cond.code yX8_y cX8_y 1 (some .int), Cond.methodLink RX8 116 yX8_isOn, Cond.static yX8_isOn, Cond.code yX8_isOn cX8_isOn 3 (some .boolean), Cond.methodLink RX8 113 yX8_isBetween, Cond.static yX8_isBetween, Cond.code yX8_isBetween cX8_isBetween 3 (some .boolean), Cond.methodLink RX8 75 yX8_in, Cond.static yX8_in, Cond.code yX8_in cX8_in 3 (some .boolean), Cond.methodLink RX8 129 yX8_isBefore, Cond.instanceMethod yX8_isBefore, Cond.selects RX8 yX8_isBefore yX8_isBefore, Cond.code yX8_isBefore cX8_isBefore 12 (some .boolean)]
def wsX8_fails_r3 : List Cond := [Cond.methodLink RX8 132 yX8_sizeOf, Cond.instanceMethod yX8_sizeOf, Cond.selects RX8 yX8_sizeOf yX8_sizeOf, Cond.code yX8_sizeOf cX8_sizeOf 7 (some .int)]
def wsX8_fails : List Cond := .code yX8_fails cX8_fails 7 (some .int) :: ((wsX8_fails_r1 ++ (wsX8_fails_r2 ++ wsX8_fails_r3)) ++ wsX80)
def wsX8_whyNot_r1 : List Cond := [Cond.fieldLink RX8 46 "ShotBoardModel" "from" "[I", Cond.fieldLink RX8 49 "ShotBoardModel" "to" "[I", Cond.methodLink RX8 135 yX8_fails, Cond.instanceMethod yX8_fails, Cond.selects RX8 yX8_fails yX8_fails, Cond.initialized RX8, Cond.code yX8_fails cX8_fails 7 (some .int), Cond.fieldLink RX8 37 "ShotBoardModel" "main" "[I", Cond.fieldLink RX8 72 "ShotBoardModel" "persons" "I", Cond.fieldLink RX8 40 "ShotBoardModel" "must" "[I", Cond.fieldLink RX8 28 "ShotBoardModel" "eye" "[I", Cond.fieldLink RX8 43 "ShotBoardModel" "sizes" "[I", Cond.fieldLink RX8 34 "ShotBoardModel" "kind" "[I", Cond.methodLink RX8 123 yX8_isHidden, Cond.instanceMethod yX8_isHidden, Cond.selects RX8 yX8_isHidden yX8_isHidden, Cond.code yX8_isHidden cX8_isHidden 7 (some .boolean), Cond.fieldLink RX8 92 "ShotBoardModel" "walls" "I", Cond.fieldLink RX8 22 "ShotBoardModel" "wallFrom" "[I", Cond.fieldLink RX8 25 "ShotBoardModel" "wallTo" "[I", Cond.methodLink RX8 98 yX8_placeOf, Cond.instanceMethod yX8_placeOf, Cond.selects RX8 yX8_placeOf yX8_placeOf, Cond.code yX8_placeOf cX8_placeOf 6 (some .int)]
def wsX8_whyNot_r2 : List Cond := [Cond.fieldLink RX8 7 "ShotBoardModel" "at" "[I", Cond.fieldLink RX8 13 "ShotBoardModel" "steps" "[I", Cond.fieldLink RX8 16 "ShotBoardModel" "stepTick" "[I", Cond.fieldLink RX8 19 "ShotBoardModel" "stepPlace" "[I", Cond.methodLink RX8 119 yX8_meet, Cond.static yX8_meet, Cond.code yX8_meet cX8_meet 5 (some .boolean), Cond.methodLink RX8 109 yX8_turn, Cond.static yX8_turn, Cond.code yX8_turn cX8_turn 4 (some .int), Cond.methodLink RX8 102 yX8_x, Cond.static yX8_x, Cond.code yX8_x cX8_x 1 (some .int), Cond.methodLink RX8 106 yX8_y, Cond.static yX8_y, Cond.code yX8_y cX8_y 1 (some .int), Cond.methodLink RX8 116 yX8_isOn, Cond.static yX8_isOn, Cond.code yX8_isOn cX8_isOn 3 (some .boolean), Cond.methodLink RX8 113 yX8_isBetween, Cond.static yX8_isBetween, Cond.code yX8_isBetween cX8_isBetween 3 (some .boolean), Cond.methodLink RX8 75 yX8_in, Cond.static yX8_in]
def wsX8_whyNot_r3 : List Cond := [Cond.code yX8_in cX8_in 3 (some .boolean), Cond.methodLink RX8 129 yX8_isBefore, Cond.instanceMethod yX8_isBefore, Cond.selects RX8 yX8_isBefore yX8_isBefore, Cond.code yX8_isBefore cX8_isBefore 12 (some .boolean), Cond.methodLink RX8 132 yX8_sizeOf, Cond.instanceMethod yX8_sizeOf, Cond.selects RX8 yX8_sizeOf yX8_sizeOf, Cond.code yX8_sizeOf cX8_sizeOf 7 (some .int)]
def wsX8_whyNot : List Cond := .code yX8_whyNot cX8_whyNot 5 (some .int) :: ((wsX8_whyNot_r1 ++ (wsX8_whyNot_r2 ++ wsX8_whyNot_r3)) ++ wsX80)
def wsX8_gives_r1 : List Cond := [Cond.methodLink RX8 126 yX8_isCamera, Cond.instanceMethod yX8_isCamera, Cond.selects RX8 yX8_isCamera yX8_isCamera, Cond.initialized RX8, Cond.code yX8_isCamera cX8_isCamera 2 (some .boolean), Cond.fieldLink RX8 79 "ShotBoardModel" "cameras" "I", Cond.methodLink RX8 75 yX8_in, Cond.static yX8_in, Cond.code yX8_in cX8_in 3 (some .boolean), Cond.methodLink RX8 138 yX8_isBoard, Cond.instanceMethod yX8_isBoard, Cond.selects RX8 yX8_isBoard yX8_isBoard, Cond.code yX8_isBoard cX8_isBoard 2 (some .boolean), Cond.fieldLink RX8 82 "ShotBoardModel" "boards" "I", Cond.methodLink RX8 141 yX8_whyNot, Cond.instanceMethod yX8_whyNot, Cond.selects RX8 yX8_whyNot yX8_whyNot, Cond.code yX8_whyNot cX8_whyNot 5 (some .int), Cond.fieldLink RX8 46 "ShotBoardModel" "from" "[I", Cond.fieldLink RX8 49 "ShotBoardModel" "to" "[I", Cond.methodLink RX8 135 yX8_fails, Cond.instanceMethod yX8_fails, Cond.selects RX8 yX8_fails yX8_fails, Cond.code yX8_fails cX8_fails 7 (some .int)]
def wsX8_gives_r2 : List Cond := [Cond.fieldLink RX8 37 "ShotBoardModel" "main" "[I", Cond.fieldLink RX8 72 "ShotBoardModel" "persons" "I", Cond.fieldLink RX8 40 "ShotBoardModel" "must" "[I", Cond.fieldLink RX8 28 "ShotBoardModel" "eye" "[I", Cond.fieldLink RX8 43 "ShotBoardModel" "sizes" "[I", Cond.fieldLink RX8 34 "ShotBoardModel" "kind" "[I", Cond.methodLink RX8 123 yX8_isHidden, Cond.instanceMethod yX8_isHidden, Cond.selects RX8 yX8_isHidden yX8_isHidden, Cond.code yX8_isHidden cX8_isHidden 7 (some .boolean), Cond.fieldLink RX8 92 "ShotBoardModel" "walls" "I", Cond.fieldLink RX8 22 "ShotBoardModel" "wallFrom" "[I", Cond.fieldLink RX8 25 "ShotBoardModel" "wallTo" "[I", Cond.methodLink RX8 98 yX8_placeOf, Cond.instanceMethod yX8_placeOf, Cond.selects RX8 yX8_placeOf yX8_placeOf, Cond.code yX8_placeOf cX8_placeOf 6 (some .int), Cond.fieldLink RX8 7 "ShotBoardModel" "at" "[I", Cond.fieldLink RX8 13 "ShotBoardModel" "steps" "[I", Cond.fieldLink RX8 16 "ShotBoardModel" "stepTick" "[I", Cond.fieldLink RX8 19 "ShotBoardModel" "stepPlace" "[I", Cond.methodLink RX8 119 yX8_meet, Cond.static yX8_meet, Cond.code yX8_meet cX8_meet 5 (some .boolean)]
def wsX8_gives_r3 : List Cond := [Cond.methodLink RX8 109 yX8_turn, Cond.static yX8_turn, Cond.code yX8_turn cX8_turn 4 (some .int), Cond.methodLink RX8 102 yX8_x, Cond.static yX8_x, Cond.code yX8_x cX8_x 1 (some .int), Cond.methodLink RX8 106 yX8_y, Cond.static yX8_y, Cond.code yX8_y cX8_y 1 (some .int), Cond.methodLink RX8 116 yX8_isOn, Cond.static yX8_isOn, Cond.code yX8_isOn cX8_isOn 3 (some .boolean), Cond.methodLink RX8 113 yX8_isBetween, Cond.static yX8_isBetween, Cond.code yX8_isBetween cX8_isBetween 3 (some .boolean), Cond.methodLink RX8 129 yX8_isBefore, Cond.instanceMethod yX8_isBefore, Cond.selects RX8 yX8_isBefore yX8_isBefore, Cond.code yX8_isBefore cX8_isBefore 12 (some .boolean), Cond.methodLink RX8 132 yX8_sizeOf, Cond.instanceMethod yX8_sizeOf, Cond.selects RX8 yX8_sizeOf yX8_sizeOf, Cond.code yX8_sizeOf cX8_sizeOf 7 (some .int)]
def wsX8_gives : List Cond := .code yX8_gives cX8_gives 3 (some .int) :: ((wsX8_gives_r1 ++ (wsX8_gives_r2 ++ wsX8_gives_r3)) ++ wsX80)
def wsX8_why_r1 : List Cond := [Cond.methodLink RX8 126 yX8_isCamera, Cond.instanceMethod yX8_isCamera, Cond.selects RX8 yX8_isCamera yX8_isCamera, Cond.initialized RX8, Cond.code yX8_isCamera cX8_isCamera 2 (some .boolean), Cond.fieldLink RX8 79 "ShotBoardModel" "cameras" "I", Cond.methodLink RX8 75 yX8_in, Cond.static yX8_in, Cond.code yX8_in cX8_in 3 (some .boolean), Cond.methodLink RX8 138 yX8_isBoard, Cond.instanceMethod yX8_isBoard, Cond.selects RX8 yX8_isBoard yX8_isBoard, Cond.code yX8_isBoard cX8_isBoard 2 (some .boolean), Cond.fieldLink RX8 82 "ShotBoardModel" "boards" "I", Cond.methodLink RX8 141 yX8_whyNot, Cond.instanceMethod yX8_whyNot, Cond.selects RX8 yX8_whyNot yX8_whyNot, Cond.code yX8_whyNot cX8_whyNot 5 (some .int), Cond.fieldLink RX8 46 "ShotBoardModel" "from" "[I", Cond.fieldLink RX8 49 "ShotBoardModel" "to" "[I", Cond.methodLink RX8 135 yX8_fails, Cond.instanceMethod yX8_fails, Cond.selects RX8 yX8_fails yX8_fails, Cond.code yX8_fails cX8_fails 7 (some .int)]
def wsX8_why_r2 : List Cond := [Cond.fieldLink RX8 37 "ShotBoardModel" "main" "[I", Cond.fieldLink RX8 72 "ShotBoardModel" "persons" "I", Cond.fieldLink RX8 40 "ShotBoardModel" "must" "[I", Cond.fieldLink RX8 28 "ShotBoardModel" "eye" "[I", Cond.fieldLink RX8 43 "ShotBoardModel" "sizes" "[I", Cond.fieldLink RX8 34 "ShotBoardModel" "kind" "[I", Cond.methodLink RX8 123 yX8_isHidden, Cond.instanceMethod yX8_isHidden, Cond.selects RX8 yX8_isHidden yX8_isHidden, Cond.code yX8_isHidden cX8_isHidden 7 (some .boolean), Cond.fieldLink RX8 92 "ShotBoardModel" "walls" "I", Cond.fieldLink RX8 22 "ShotBoardModel" "wallFrom" "[I", Cond.fieldLink RX8 25 "ShotBoardModel" "wallTo" "[I", Cond.methodLink RX8 98 yX8_placeOf, Cond.instanceMethod yX8_placeOf, Cond.selects RX8 yX8_placeOf yX8_placeOf, Cond.code yX8_placeOf cX8_placeOf 6 (some .int), Cond.fieldLink RX8 7 "ShotBoardModel" "at" "[I", Cond.fieldLink RX8 13 "ShotBoardModel" "steps" "[I", Cond.fieldLink RX8 16 "ShotBoardModel" "stepTick" "[I", Cond.fieldLink RX8 19 "ShotBoardModel" "stepPlace" "[I", Cond.methodLink RX8 119 yX8_meet, Cond.static yX8_meet, Cond.code yX8_meet cX8_meet 5 (some .boolean)]
def wsX8_why_r3 : List Cond := [Cond.methodLink RX8 109 yX8_turn, Cond.static yX8_turn, Cond.code yX8_turn cX8_turn 4 (some .int), Cond.methodLink RX8 102 yX8_x, Cond.static yX8_x, Cond.code yX8_x cX8_x 1 (some .int), Cond.methodLink RX8 106 yX8_y, Cond.static yX8_y, Cond.code yX8_y cX8_y 1 (some .int), Cond.methodLink RX8 116 yX8_isOn, Cond.static yX8_isOn, Cond.code yX8_isOn cX8_isOn 3 (some .boolean), Cond.methodLink RX8 113 yX8_isBetween, Cond.static yX8_isBetween, Cond.code yX8_isBetween cX8_isBetween 3 (some .boolean), Cond.methodLink RX8 129 yX8_isBefore, Cond.instanceMethod yX8_isBefore, Cond.selects RX8 yX8_isBefore yX8_isBefore, Cond.code yX8_isBefore cX8_isBefore 12 (some .boolean), Cond.methodLink RX8 132 yX8_sizeOf, Cond.instanceMethod yX8_sizeOf, Cond.selects RX8 yX8_sizeOf yX8_sizeOf, Cond.code yX8_sizeOf cX8_sizeOf 7 (some .int)]
def wsX8_why : List Cond := .code yX8_why cX8_why 3 (some .int) :: ((wsX8_why_r1 ++ (wsX8_why_r2 ++ wsX8_why_r3)) ++ wsX80)
def wsX8_other : List Cond := .code yX8_other cX8_other 3 (some .int) :: ([.fieldLink RX8 37 "ShotBoardModel" "main" "[I", .fieldLink RX8 40 "ShotBoardModel" "must" "[I"] ++ wsX80)
def wsX8_sideOf : List Cond := .code yX8_sideOf cX8_sideOf 5 (some .int) :: ([.fieldLink RX8 46 "ShotBoardModel" "from" "[I", .fieldLink RX8 28 "ShotBoardModel" "eye" "[I", .methodLink RX8 98 yX8_placeOf, .instanceMethod yX8_placeOf, .selects RX8 yX8_placeOf yX8_placeOf, .initialized RX8, .code yX8_placeOf cX8_placeOf 6 (some .int), .fieldLink RX8 7 "ShotBoardModel" "at" "[I", .fieldLink RX8 13 "ShotBoardModel" "steps" "[I", .fieldLink RX8 16 "ShotBoardModel" "stepTick" "[I", .fieldLink RX8 19 "ShotBoardModel" "stepPlace" "[I", .methodLink RX8 109 yX8_turn, .static yX8_turn, .code yX8_turn cX8_turn 4 (some .int), .methodLink RX8 102 yX8_x, .static yX8_x, .code yX8_x cX8_x 1 (some .int), .methodLink RX8 106 yX8_y, .static yX8_y, .code yX8_y cX8_y 1 (some .int)] ++ wsX80)
def wsX8_side_r1 : List Cond := [Cond.fieldLink RX8 34 "ShotBoardModel" "kind" "[I", Cond.fieldLink RX8 37 "ShotBoardModel" "main" "[I", Cond.methodLink RX8 126 yX8_isCamera, Cond.instanceMethod yX8_isCamera, Cond.selects RX8 yX8_isCamera yX8_isCamera, Cond.initialized RX8, Cond.code yX8_isCamera cX8_isCamera 2 (some .boolean), Cond.fieldLink RX8 79 "ShotBoardModel" "cameras" "I", Cond.methodLink RX8 75 yX8_in, Cond.static yX8_in, Cond.code yX8_in cX8_in 3 (some .boolean), Cond.methodLink RX8 138 yX8_isBoard, Cond.instanceMethod yX8_isBoard, Cond.selects RX8 yX8_isBoard yX8_isBoard, Cond.code yX8_isBoard cX8_isBoard 2 (some .boolean), Cond.fieldLink RX8 82 "ShotBoardModel" "boards" "I", Cond.methodLink RX8 144 yX8_other, Cond.instanceMethod yX8_other, Cond.selects RX8 yX8_other yX8_other, Cond.code yX8_other cX8_other 3 (some .int), Cond.fieldLink RX8 40 "ShotBoardModel" "must" "[I", Cond.methodLink RX8 147 yX8_sideOf, Cond.instanceMethod yX8_sideOf, Cond.selects RX8 yX8_sideOf yX8_sideOf]
def wsX8_side_r2 : List Cond := [Cond.code yX8_sideOf cX8_sideOf 5 (some .int), Cond.fieldLink RX8 46 "ShotBoardModel" "from" "[I", Cond.fieldLink RX8 28 "ShotBoardModel" "eye" "[I", Cond.methodLink RX8 98 yX8_placeOf, Cond.instanceMethod yX8_placeOf, Cond.selects RX8 yX8_placeOf yX8_placeOf, Cond.code yX8_placeOf cX8_placeOf 6 (some .int), Cond.fieldLink RX8 7 "ShotBoardModel" "at" "[I", Cond.fieldLink RX8 13 "ShotBoardModel" "steps" "[I", Cond.fieldLink RX8 16 "ShotBoardModel" "stepTick" "[I", Cond.fieldLink RX8 19 "ShotBoardModel" "stepPlace" "[I", Cond.methodLink RX8 109 yX8_turn, Cond.static yX8_turn, Cond.code yX8_turn cX8_turn 4 (some .int), Cond.methodLink RX8 102 yX8_x, Cond.static yX8_x, Cond.code yX8_x cX8_x 1 (some .int), Cond.methodLink RX8 106 yX8_y, Cond.static yX8_y, Cond.code yX8_y cX8_y 1 (some .int)]
def wsX8_side : List Cond := .code yX8_side cX8_side 3 (some .int) :: ((wsX8_side_r1 ++ wsX8_side_r2) ++ wsX80)
def wsX8_lengthOf : List Cond := .code yX8_lengthOf cX8_lengthOf 4 (some .int) :: ([.fieldLink RX8 49 "ShotBoardModel" "to" "[I", .fieldLink RX8 46 "ShotBoardModel" "from" "[I", .fieldLink RX8 52 "ShotBoardModel" "words" "[I", .fieldLink RX8 55 "ShotBoardModel" "rate" "I"] ++ wsX80)
def wsX8_length : List Cond := .code yX8_length cX8_length 2 (some .int) :: ([.methodLink RX8 138 yX8_isBoard, .instanceMethod yX8_isBoard, .selects RX8 yX8_isBoard yX8_isBoard, .initialized RX8, .code yX8_isBoard cX8_isBoard 2 (some .boolean), .fieldLink RX8 82 "ShotBoardModel" "boards" "I", .methodLink RX8 75 yX8_in, .static yX8_in, .code yX8_in cX8_in 3 (some .boolean), .methodLink RX8 151 yX8_lengthOf, .instanceMethod yX8_lengthOf, .selects RX8 yX8_lengthOf yX8_lengthOf, .code yX8_lengthOf cX8_lengthOf 4 (some .int), .fieldLink RX8 49 "ShotBoardModel" "to" "[I", .fieldLink RX8 46 "ShotBoardModel" "from" "[I", .fieldLink RX8 52 "ShotBoardModel" "words" "[I", .fieldLink RX8 55 "ShotBoardModel" "rate" "I"] ++ wsX80)
def wsX8_twoAhead : List Cond := .code yX8_twoAhead cX8_twoAhead 3 (some .int) :: ([.fieldLink RX8 34 "ShotBoardModel" "kind" "[I"] ++ wsX80)
def wsX8_crosses_r1 : List Cond := [Cond.fieldLink RX8 37 "ShotBoardModel" "main" "[I", Cond.methodLink RX8 144 yX8_other, Cond.instanceMethod yX8_other, Cond.selects RX8 yX8_other yX8_other, Cond.initialized RX8, Cond.code yX8_other cX8_other 3 (some .int), Cond.fieldLink RX8 40 "ShotBoardModel" "must" "[I", Cond.methodLink RX8 147 yX8_sideOf, Cond.instanceMethod yX8_sideOf, Cond.selects RX8 yX8_sideOf yX8_sideOf, Cond.code yX8_sideOf cX8_sideOf 5 (some .int), Cond.fieldLink RX8 46 "ShotBoardModel" "from" "[I", Cond.fieldLink RX8 28 "ShotBoardModel" "eye" "[I", Cond.methodLink RX8 98 yX8_placeOf, Cond.instanceMethod yX8_placeOf, Cond.selects RX8 yX8_placeOf yX8_placeOf, Cond.code yX8_placeOf cX8_placeOf 6 (some .int), Cond.fieldLink RX8 7 "ShotBoardModel" "at" "[I", Cond.fieldLink RX8 13 "ShotBoardModel" "steps" "[I", Cond.fieldLink RX8 16 "ShotBoardModel" "stepTick" "[I", Cond.fieldLink RX8 19 "ShotBoardModel" "stepPlace" "[I", Cond.methodLink RX8 109 yX8_turn, Cond.static yX8_turn, Cond.code yX8_turn cX8_turn 4 (some .int)]
def wsX8_crosses_r2 : List Cond := [Cond.methodLink RX8 102 yX8_x, Cond.static yX8_x, Cond.code yX8_x cX8_x 1 (some .int), Cond.methodLink RX8 106 yX8_y, Cond.static yX8_y, Cond.code yX8_y cX8_y 1 (some .int)]
def wsX8_crosses : List Cond := .code yX8_crosses cX8_crosses 9 (some .boolean) :: ((wsX8_crosses_r1 ++ wsX8_crosses_r2) ++ wsX80)
def wsX8_goes_r1 : List Cond := [Cond.fieldLink RX8 62 "ShotBoardModel" "giving" "[Z", Cond.fieldLink RX8 34 "ShotBoardModel" "kind" "[I", Cond.fieldLink RX8 66 "ShotBoardModel" "canGo" "[Z", Cond.methodLink RX8 154 yX8_twoAhead, Cond.instanceMethod yX8_twoAhead, Cond.selects RX8 yX8_twoAhead yX8_twoAhead, Cond.initialized RX8, Cond.code yX8_twoAhead cX8_twoAhead 3 (some .int), Cond.methodLink RX8 157 yX8_crosses, Cond.instanceMethod yX8_crosses, Cond.selects RX8 yX8_crosses yX8_crosses, Cond.code yX8_crosses cX8_crosses 9 (some .boolean), Cond.fieldLink RX8 37 "ShotBoardModel" "main" "[I", Cond.methodLink RX8 144 yX8_other, Cond.instanceMethod yX8_other, Cond.selects RX8 yX8_other yX8_other, Cond.code yX8_other cX8_other 3 (some .int), Cond.fieldLink RX8 40 "ShotBoardModel" "must" "[I", Cond.methodLink RX8 147 yX8_sideOf, Cond.instanceMethod yX8_sideOf, Cond.selects RX8 yX8_sideOf yX8_sideOf, Cond.code yX8_sideOf cX8_sideOf 5 (some .int), Cond.fieldLink RX8 46 "ShotBoardModel" "from" "[I", Cond.fieldLink RX8 28 "ShotBoardModel" "eye" "[I"]
def wsX8_goes_r2 : List Cond := [Cond.methodLink RX8 98 yX8_placeOf, Cond.instanceMethod yX8_placeOf, Cond.selects RX8 yX8_placeOf yX8_placeOf, Cond.code yX8_placeOf cX8_placeOf 6 (some .int), Cond.fieldLink RX8 7 "ShotBoardModel" "at" "[I", Cond.fieldLink RX8 13 "ShotBoardModel" "steps" "[I", Cond.fieldLink RX8 16 "ShotBoardModel" "stepTick" "[I", Cond.fieldLink RX8 19 "ShotBoardModel" "stepPlace" "[I", Cond.methodLink RX8 109 yX8_turn, Cond.static yX8_turn, Cond.code yX8_turn cX8_turn 4 (some .int), Cond.methodLink RX8 102 yX8_x, Cond.static yX8_x, Cond.code yX8_x cX8_x 1 (some .int), Cond.methodLink RX8 106 yX8_y, Cond.static yX8_y, Cond.code yX8_y cX8_y 1 (some .int)]
def wsX8_goes : List Cond := .code yX8_goes cX8_goes 6 (some .boolean) :: ((wsX8_goes_r1 ++ wsX8_goes_r2) ++ wsX80)
def wsX8_plans_r1 : List Cond := [Cond.fieldLink RX8 82 "ShotBoardModel" "boards" "I", Cond.fieldLink RX8 66 "ShotBoardModel" "canGo" "[Z", Cond.fieldLink RX8 79 "ShotBoardModel" "cameras" "I", Cond.fieldLink RX8 69 "ShotBoardModel" "row" "[I", Cond.fieldLink RX8 34 "ShotBoardModel" "kind" "[I", Cond.methodLink RX8 160 yX8_goes, Cond.instanceMethod yX8_goes, Cond.selects RX8 yX8_goes yX8_goes, Cond.initialized RX8, Cond.code yX8_goes cX8_goes 6 (some .boolean), Cond.fieldLink RX8 62 "ShotBoardModel" "giving" "[Z", Cond.methodLink RX8 154 yX8_twoAhead, Cond.instanceMethod yX8_twoAhead, Cond.selects RX8 yX8_twoAhead yX8_twoAhead, Cond.code yX8_twoAhead cX8_twoAhead 3 (some .int), Cond.methodLink RX8 157 yX8_crosses, Cond.instanceMethod yX8_crosses, Cond.selects RX8 yX8_crosses yX8_crosses, Cond.code yX8_crosses cX8_crosses 9 (some .boolean), Cond.fieldLink RX8 37 "ShotBoardModel" "main" "[I", Cond.methodLink RX8 144 yX8_other, Cond.instanceMethod yX8_other, Cond.selects RX8 yX8_other yX8_other, Cond.code yX8_other cX8_other 3 (some .int)]
def wsX8_plans_r2 : List Cond := [Cond.fieldLink RX8 40 "ShotBoardModel" "must" "[I", Cond.methodLink RX8 147 yX8_sideOf, Cond.instanceMethod yX8_sideOf, Cond.selects RX8 yX8_sideOf yX8_sideOf, Cond.code yX8_sideOf cX8_sideOf 5 (some .int), Cond.fieldLink RX8 46 "ShotBoardModel" "from" "[I", Cond.fieldLink RX8 28 "ShotBoardModel" "eye" "[I", Cond.methodLink RX8 98 yX8_placeOf, Cond.instanceMethod yX8_placeOf, Cond.selects RX8 yX8_placeOf yX8_placeOf, Cond.code yX8_placeOf cX8_placeOf 6 (some .int), Cond.fieldLink RX8 7 "ShotBoardModel" "at" "[I", Cond.fieldLink RX8 13 "ShotBoardModel" "steps" "[I", Cond.fieldLink RX8 16 "ShotBoardModel" "stepTick" "[I", Cond.fieldLink RX8 19 "ShotBoardModel" "stepPlace" "[I", Cond.methodLink RX8 109 yX8_turn, Cond.static yX8_turn, Cond.code yX8_turn cX8_turn 4 (some .int), Cond.methodLink RX8 102 yX8_x, Cond.static yX8_x, Cond.code yX8_x cX8_x 1 (some .int), Cond.methodLink RX8 106 yX8_y, Cond.static yX8_y, Cond.code yX8_y cX8_y 1 (some .int)]
def wsX8_plans : List Cond := .code yX8_plans cX8_plans 5 (some .boolean) :: ((wsX8_plans_r1 ++ wsX8_plans_r2) ++ wsX80)
def wsX8_bits : List Cond := .code yX8_bits cX8_bits 3 (some .int) :: ([])
def wsX8_finds_r1 : List Cond := [Cond.fieldLink RX8 79 "ShotBoardModel" "cameras" "I", Cond.fieldLink RX8 82 "ShotBoardModel" "boards" "I", Cond.fieldLink RX8 62 "ShotBoardModel" "giving" "[Z", Cond.fieldLink RX8 169 "ShotBoardModel" "fewestSet" "I", Cond.methodLink RX8 141 yX8_whyNot, Cond.instanceMethod yX8_whyNot, Cond.selects RX8 yX8_whyNot yX8_whyNot, Cond.initialized RX8, Cond.code yX8_whyNot cX8_whyNot 5 (some .int), Cond.fieldLink RX8 46 "ShotBoardModel" "from" "[I", Cond.fieldLink RX8 49 "ShotBoardModel" "to" "[I", Cond.methodLink RX8 135 yX8_fails, Cond.instanceMethod yX8_fails, Cond.selects RX8 yX8_fails yX8_fails, Cond.code yX8_fails cX8_fails 7 (some .int), Cond.fieldLink RX8 37 "ShotBoardModel" "main" "[I", Cond.fieldLink RX8 72 "ShotBoardModel" "persons" "I", Cond.fieldLink RX8 40 "ShotBoardModel" "must" "[I", Cond.fieldLink RX8 28 "ShotBoardModel" "eye" "[I", Cond.fieldLink RX8 43 "ShotBoardModel" "sizes" "[I", Cond.fieldLink RX8 34 "ShotBoardModel" "kind" "[I", Cond.methodLink RX8 123 yX8_isHidden, Cond.instanceMethod yX8_isHidden, Cond.selects RX8 yX8_isHidden yX8_isHidden]
def wsX8_finds_r2 : List Cond := [Cond.code yX8_isHidden cX8_isHidden 7 (some .boolean), Cond.fieldLink RX8 92 "ShotBoardModel" "walls" "I", Cond.fieldLink RX8 22 "ShotBoardModel" "wallFrom" "[I", Cond.fieldLink RX8 25 "ShotBoardModel" "wallTo" "[I", Cond.methodLink RX8 98 yX8_placeOf, Cond.instanceMethod yX8_placeOf, Cond.selects RX8 yX8_placeOf yX8_placeOf, Cond.code yX8_placeOf cX8_placeOf 6 (some .int), Cond.fieldLink RX8 7 "ShotBoardModel" "at" "[I", Cond.fieldLink RX8 13 "ShotBoardModel" "steps" "[I", Cond.fieldLink RX8 16 "ShotBoardModel" "stepTick" "[I", Cond.fieldLink RX8 19 "ShotBoardModel" "stepPlace" "[I", Cond.methodLink RX8 119 yX8_meet, Cond.static yX8_meet, Cond.code yX8_meet cX8_meet 5 (some .boolean), Cond.methodLink RX8 109 yX8_turn, Cond.static yX8_turn, Cond.code yX8_turn cX8_turn 4 (some .int), Cond.methodLink RX8 102 yX8_x, Cond.static yX8_x, Cond.code yX8_x cX8_x 1 (some .int), Cond.methodLink RX8 106 yX8_y, Cond.static yX8_y, Cond.code yX8_y cX8_y 1 (some .int)]
def wsX8_finds_r3 : List Cond := [Cond.methodLink RX8 116 yX8_isOn, Cond.static yX8_isOn, Cond.code yX8_isOn cX8_isOn 3 (some .boolean), Cond.methodLink RX8 113 yX8_isBetween, Cond.static yX8_isBetween, Cond.code yX8_isBetween cX8_isBetween 3 (some .boolean), Cond.methodLink RX8 75 yX8_in, Cond.static yX8_in, Cond.code yX8_in cX8_in 3 (some .boolean), Cond.methodLink RX8 129 yX8_isBefore, Cond.instanceMethod yX8_isBefore, Cond.selects RX8 yX8_isBefore yX8_isBefore, Cond.code yX8_isBefore cX8_isBefore 12 (some .boolean), Cond.methodLink RX8 132 yX8_sizeOf, Cond.instanceMethod yX8_sizeOf, Cond.selects RX8 yX8_sizeOf yX8_sizeOf, Cond.code yX8_sizeOf cX8_sizeOf 7 (some .int), Cond.methodLink RX8 163 yX8_bits, Cond.static yX8_bits, Cond.code yX8_bits cX8_bits 3 (some .int), Cond.methodLink RX8 166 yX8_plans, Cond.instanceMethod yX8_plans, Cond.selects RX8 yX8_plans yX8_plans, Cond.code yX8_plans cX8_plans 5 (some .boolean)]
def wsX8_finds_r4 : List Cond := [Cond.fieldLink RX8 66 "ShotBoardModel" "canGo" "[Z", Cond.fieldLink RX8 69 "ShotBoardModel" "row" "[I", Cond.methodLink RX8 160 yX8_goes, Cond.instanceMethod yX8_goes, Cond.selects RX8 yX8_goes yX8_goes, Cond.code yX8_goes cX8_goes 6 (some .boolean), Cond.methodLink RX8 154 yX8_twoAhead, Cond.instanceMethod yX8_twoAhead, Cond.selects RX8 yX8_twoAhead yX8_twoAhead, Cond.code yX8_twoAhead cX8_twoAhead 3 (some .int), Cond.methodLink RX8 157 yX8_crosses, Cond.instanceMethod yX8_crosses, Cond.selects RX8 yX8_crosses yX8_crosses, Cond.code yX8_crosses cX8_crosses 9 (some .boolean), Cond.methodLink RX8 144 yX8_other, Cond.instanceMethod yX8_other, Cond.selects RX8 yX8_other yX8_other, Cond.code yX8_other cX8_other 3 (some .int), Cond.methodLink RX8 147 yX8_sideOf, Cond.instanceMethod yX8_sideOf, Cond.selects RX8 yX8_sideOf yX8_sideOf, Cond.code yX8_sideOf cX8_sideOf 5 (some .int)]
def wsX8_finds : List Cond := .code yX8_finds cX8_finds 3 (some .int) :: ((wsX8_finds_r1 ++ (wsX8_finds_r2 ++ (wsX8_finds_r3 ++ wsX8_finds_r4))) ++ wsX80)
def wsX8_fewest_r1 : List Cond := [Cond.methodLink RX8 172 yX8_finds, Cond.instanceMethod yX8_finds, Cond.selects RX8 yX8_finds yX8_finds, Cond.initialized RX8, Cond.code yX8_finds cX8_finds 3 (some .int), Cond.fieldLink RX8 79 "ShotBoardModel" "cameras" "I", Cond.fieldLink RX8 82 "ShotBoardModel" "boards" "I", Cond.fieldLink RX8 62 "ShotBoardModel" "giving" "[Z", Cond.fieldLink RX8 169 "ShotBoardModel" "fewestSet" "I", Cond.methodLink RX8 141 yX8_whyNot, Cond.instanceMethod yX8_whyNot, Cond.selects RX8 yX8_whyNot yX8_whyNot, Cond.code yX8_whyNot cX8_whyNot 5 (some .int), Cond.fieldLink RX8 46 "ShotBoardModel" "from" "[I", Cond.fieldLink RX8 49 "ShotBoardModel" "to" "[I", Cond.methodLink RX8 135 yX8_fails, Cond.instanceMethod yX8_fails, Cond.selects RX8 yX8_fails yX8_fails, Cond.code yX8_fails cX8_fails 7 (some .int), Cond.fieldLink RX8 37 "ShotBoardModel" "main" "[I", Cond.fieldLink RX8 72 "ShotBoardModel" "persons" "I", Cond.fieldLink RX8 40 "ShotBoardModel" "must" "[I", Cond.fieldLink RX8 28 "ShotBoardModel" "eye" "[I", Cond.fieldLink RX8 43 "ShotBoardModel" "sizes" "[I"]
def wsX8_fewest_r2 : List Cond := [Cond.fieldLink RX8 34 "ShotBoardModel" "kind" "[I", Cond.methodLink RX8 123 yX8_isHidden, Cond.instanceMethod yX8_isHidden, Cond.selects RX8 yX8_isHidden yX8_isHidden, Cond.code yX8_isHidden cX8_isHidden 7 (some .boolean), Cond.fieldLink RX8 92 "ShotBoardModel" "walls" "I", Cond.fieldLink RX8 22 "ShotBoardModel" "wallFrom" "[I", Cond.fieldLink RX8 25 "ShotBoardModel" "wallTo" "[I", Cond.methodLink RX8 98 yX8_placeOf, Cond.instanceMethod yX8_placeOf, Cond.selects RX8 yX8_placeOf yX8_placeOf, Cond.code yX8_placeOf cX8_placeOf 6 (some .int), Cond.fieldLink RX8 7 "ShotBoardModel" "at" "[I", Cond.fieldLink RX8 13 "ShotBoardModel" "steps" "[I", Cond.fieldLink RX8 16 "ShotBoardModel" "stepTick" "[I", Cond.fieldLink RX8 19 "ShotBoardModel" "stepPlace" "[I", Cond.methodLink RX8 119 yX8_meet, Cond.static yX8_meet, Cond.code yX8_meet cX8_meet 5 (some .boolean), Cond.methodLink RX8 109 yX8_turn, Cond.static yX8_turn, Cond.code yX8_turn cX8_turn 4 (some .int), Cond.methodLink RX8 102 yX8_x, Cond.static yX8_x]
def wsX8_fewest_r3 : List Cond := [Cond.code yX8_x cX8_x 1 (some .int), Cond.methodLink RX8 106 yX8_y, Cond.static yX8_y, Cond.code yX8_y cX8_y 1 (some .int), Cond.methodLink RX8 116 yX8_isOn, Cond.static yX8_isOn, Cond.code yX8_isOn cX8_isOn 3 (some .boolean), Cond.methodLink RX8 113 yX8_isBetween, Cond.static yX8_isBetween, Cond.code yX8_isBetween cX8_isBetween 3 (some .boolean), Cond.methodLink RX8 75 yX8_in, Cond.static yX8_in, Cond.code yX8_in cX8_in 3 (some .boolean), Cond.methodLink RX8 129 yX8_isBefore, Cond.instanceMethod yX8_isBefore, Cond.selects RX8 yX8_isBefore yX8_isBefore, Cond.code yX8_isBefore cX8_isBefore 12 (some .boolean), Cond.methodLink RX8 132 yX8_sizeOf, Cond.instanceMethod yX8_sizeOf, Cond.selects RX8 yX8_sizeOf yX8_sizeOf, Cond.code yX8_sizeOf cX8_sizeOf 7 (some .int), Cond.methodLink RX8 163 yX8_bits, Cond.static yX8_bits, Cond.code yX8_bits cX8_bits 3 (some .int)]
def wsX8_fewest_r4 : List Cond := [Cond.methodLink RX8 166 yX8_plans, Cond.instanceMethod yX8_plans, Cond.selects RX8 yX8_plans yX8_plans, Cond.code yX8_plans cX8_plans 5 (some .boolean), Cond.fieldLink RX8 66 "ShotBoardModel" "canGo" "[Z", Cond.fieldLink RX8 69 "ShotBoardModel" "row" "[I", Cond.methodLink RX8 160 yX8_goes, Cond.instanceMethod yX8_goes, Cond.selects RX8 yX8_goes yX8_goes, Cond.code yX8_goes cX8_goes 6 (some .boolean), Cond.methodLink RX8 154 yX8_twoAhead, Cond.instanceMethod yX8_twoAhead, Cond.selects RX8 yX8_twoAhead yX8_twoAhead, Cond.code yX8_twoAhead cX8_twoAhead 3 (some .int), Cond.methodLink RX8 157 yX8_crosses, Cond.instanceMethod yX8_crosses, Cond.selects RX8 yX8_crosses yX8_crosses, Cond.code yX8_crosses cX8_crosses 9 (some .boolean), Cond.methodLink RX8 144 yX8_other, Cond.instanceMethod yX8_other, Cond.selects RX8 yX8_other yX8_other, Cond.code yX8_other cX8_other 3 (some .int), Cond.methodLink RX8 147 yX8_sideOf, Cond.instanceMethod yX8_sideOf]
def wsX8_fewest_r5 : List Cond := [Cond.selects RX8 yX8_sideOf yX8_sideOf, Cond.code yX8_sideOf cX8_sideOf 5 (some .int)]
def wsX8_fewest : List Cond := .code yX8_fewest cX8_fewest 1 (some .int) :: ((wsX8_fewest_r1 ++ (wsX8_fewest_r2 ++ (wsX8_fewest_r3 ++ (wsX8_fewest_r4 ++ wsX8_fewest_r5)))) ++ wsX80)
def wsX8_plan_r1 : List Cond := [Cond.fieldLink RX8 69 "ShotBoardModel" "row" "[I", Cond.methodLink RX8 138 yX8_isBoard, Cond.instanceMethod yX8_isBoard, Cond.selects RX8 yX8_isBoard yX8_isBoard, Cond.initialized RX8, Cond.code yX8_isBoard cX8_isBoard 2 (some .boolean), Cond.fieldLink RX8 82 "ShotBoardModel" "boards" "I", Cond.methodLink RX8 75 yX8_in, Cond.static yX8_in, Cond.code yX8_in cX8_in 3 (some .boolean), Cond.methodLink RX8 172 yX8_finds, Cond.instanceMethod yX8_finds, Cond.selects RX8 yX8_finds yX8_finds, Cond.code yX8_finds cX8_finds 3 (some .int), Cond.fieldLink RX8 79 "ShotBoardModel" "cameras" "I", Cond.fieldLink RX8 62 "ShotBoardModel" "giving" "[Z", Cond.fieldLink RX8 169 "ShotBoardModel" "fewestSet" "I", Cond.methodLink RX8 141 yX8_whyNot, Cond.instanceMethod yX8_whyNot, Cond.selects RX8 yX8_whyNot yX8_whyNot, Cond.code yX8_whyNot cX8_whyNot 5 (some .int), Cond.fieldLink RX8 46 "ShotBoardModel" "from" "[I", Cond.fieldLink RX8 49 "ShotBoardModel" "to" "[I", Cond.methodLink RX8 135 yX8_fails]
def wsX8_plan_r2 : List Cond := [Cond.instanceMethod yX8_fails, Cond.selects RX8 yX8_fails yX8_fails, Cond.code yX8_fails cX8_fails 7 (some .int), Cond.fieldLink RX8 37 "ShotBoardModel" "main" "[I", Cond.fieldLink RX8 72 "ShotBoardModel" "persons" "I", Cond.fieldLink RX8 40 "ShotBoardModel" "must" "[I", Cond.fieldLink RX8 28 "ShotBoardModel" "eye" "[I", Cond.fieldLink RX8 43 "ShotBoardModel" "sizes" "[I", Cond.fieldLink RX8 34 "ShotBoardModel" "kind" "[I", Cond.methodLink RX8 123 yX8_isHidden, Cond.instanceMethod yX8_isHidden, Cond.selects RX8 yX8_isHidden yX8_isHidden, Cond.code yX8_isHidden cX8_isHidden 7 (some .boolean), Cond.fieldLink RX8 92 "ShotBoardModel" "walls" "I", Cond.fieldLink RX8 22 "ShotBoardModel" "wallFrom" "[I", Cond.fieldLink RX8 25 "ShotBoardModel" "wallTo" "[I", Cond.methodLink RX8 98 yX8_placeOf, Cond.instanceMethod yX8_placeOf, Cond.selects RX8 yX8_placeOf yX8_placeOf, Cond.code yX8_placeOf cX8_placeOf 6 (some .int), Cond.fieldLink RX8 7 "ShotBoardModel" "at" "[I", Cond.fieldLink RX8 13 "ShotBoardModel" "steps" "[I", Cond.fieldLink RX8 16 "ShotBoardModel" "stepTick" "[I", Cond.fieldLink RX8 19 "ShotBoardModel" "stepPlace" "[I"]
def wsX8_plan_r3 : List Cond := [Cond.methodLink RX8 119 yX8_meet, Cond.static yX8_meet, Cond.code yX8_meet cX8_meet 5 (some .boolean), Cond.methodLink RX8 109 yX8_turn, Cond.static yX8_turn, Cond.code yX8_turn cX8_turn 4 (some .int), Cond.methodLink RX8 102 yX8_x, Cond.static yX8_x, Cond.code yX8_x cX8_x 1 (some .int), Cond.methodLink RX8 106 yX8_y, Cond.static yX8_y, Cond.code yX8_y cX8_y 1 (some .int), Cond.methodLink RX8 116 yX8_isOn, Cond.static yX8_isOn, Cond.code yX8_isOn cX8_isOn 3 (some .boolean), Cond.methodLink RX8 113 yX8_isBetween, Cond.static yX8_isBetween, Cond.code yX8_isBetween cX8_isBetween 3 (some .boolean), Cond.methodLink RX8 129 yX8_isBefore, Cond.instanceMethod yX8_isBefore, Cond.selects RX8 yX8_isBefore yX8_isBefore, Cond.code yX8_isBefore cX8_isBefore 12 (some .boolean), Cond.methodLink RX8 132 yX8_sizeOf, Cond.instanceMethod yX8_sizeOf]
def wsX8_plan_r4 : List Cond := [Cond.selects RX8 yX8_sizeOf yX8_sizeOf, Cond.code yX8_sizeOf cX8_sizeOf 7 (some .int), Cond.methodLink RX8 163 yX8_bits, Cond.static yX8_bits, Cond.code yX8_bits cX8_bits 3 (some .int), Cond.methodLink RX8 166 yX8_plans, Cond.instanceMethod yX8_plans, Cond.selects RX8 yX8_plans yX8_plans, Cond.code yX8_plans cX8_plans 5 (some .boolean), Cond.fieldLink RX8 66 "ShotBoardModel" "canGo" "[Z", Cond.methodLink RX8 160 yX8_goes, Cond.instanceMethod yX8_goes, Cond.selects RX8 yX8_goes yX8_goes, Cond.code yX8_goes cX8_goes 6 (some .boolean), Cond.methodLink RX8 154 yX8_twoAhead, Cond.instanceMethod yX8_twoAhead, Cond.selects RX8 yX8_twoAhead yX8_twoAhead, Cond.code yX8_twoAhead cX8_twoAhead 3 (some .int), Cond.methodLink RX8 157 yX8_crosses, Cond.instanceMethod yX8_crosses, Cond.selects RX8 yX8_crosses yX8_crosses, Cond.code yX8_crosses cX8_crosses 9 (some .boolean), Cond.methodLink RX8 144 yX8_other, Cond.instanceMethod yX8_other]
def wsX8_plan_r5 : List Cond := [Cond.selects RX8 yX8_other yX8_other, Cond.code yX8_other cX8_other 3 (some .int), Cond.methodLink RX8 147 yX8_sideOf, Cond.instanceMethod yX8_sideOf, Cond.selects RX8 yX8_sideOf yX8_sideOf, Cond.code yX8_sideOf cX8_sideOf 5 (some .int)]
def wsX8_plan : List Cond := .code yX8_plan cX8_plan 2 (some .int) :: ((wsX8_plan_r1 ++ (wsX8_plan_r2 ++ (wsX8_plan_r3 ++ (wsX8_plan_r4 ++ wsX8_plan_r5)))) ++ wsX80)
def wsX8_swings_r1 : List Cond := [Cond.fieldLink RX8 82 "ShotBoardModel" "boards" "I", Cond.fieldLink RX8 31 "ShotBoardModel" "light" "[I", Cond.fieldLink RX8 69 "ShotBoardModel" "row" "[I", Cond.methodLink RX8 172 yX8_finds, Cond.instanceMethod yX8_finds, Cond.selects RX8 yX8_finds yX8_finds, Cond.initialized RX8, Cond.code yX8_finds cX8_finds 3 (some .int), Cond.fieldLink RX8 79 "ShotBoardModel" "cameras" "I", Cond.fieldLink RX8 62 "ShotBoardModel" "giving" "[Z", Cond.fieldLink RX8 169 "ShotBoardModel" "fewestSet" "I", Cond.methodLink RX8 141 yX8_whyNot, Cond.instanceMethod yX8_whyNot, Cond.selects RX8 yX8_whyNot yX8_whyNot, Cond.code yX8_whyNot cX8_whyNot 5 (some .int), Cond.fieldLink RX8 46 "ShotBoardModel" "from" "[I", Cond.fieldLink RX8 49 "ShotBoardModel" "to" "[I", Cond.methodLink RX8 135 yX8_fails, Cond.instanceMethod yX8_fails, Cond.selects RX8 yX8_fails yX8_fails, Cond.code yX8_fails cX8_fails 7 (some .int), Cond.fieldLink RX8 37 "ShotBoardModel" "main" "[I", Cond.fieldLink RX8 72 "ShotBoardModel" "persons" "I", Cond.fieldLink RX8 40 "ShotBoardModel" "must" "[I"]
def wsX8_swings_r2 : List Cond := [Cond.fieldLink RX8 28 "ShotBoardModel" "eye" "[I", Cond.fieldLink RX8 43 "ShotBoardModel" "sizes" "[I", Cond.fieldLink RX8 34 "ShotBoardModel" "kind" "[I", Cond.methodLink RX8 123 yX8_isHidden, Cond.instanceMethod yX8_isHidden, Cond.selects RX8 yX8_isHidden yX8_isHidden, Cond.code yX8_isHidden cX8_isHidden 7 (some .boolean), Cond.fieldLink RX8 92 "ShotBoardModel" "walls" "I", Cond.fieldLink RX8 22 "ShotBoardModel" "wallFrom" "[I", Cond.fieldLink RX8 25 "ShotBoardModel" "wallTo" "[I", Cond.methodLink RX8 98 yX8_placeOf, Cond.instanceMethod yX8_placeOf, Cond.selects RX8 yX8_placeOf yX8_placeOf, Cond.code yX8_placeOf cX8_placeOf 6 (some .int), Cond.fieldLink RX8 7 "ShotBoardModel" "at" "[I", Cond.fieldLink RX8 13 "ShotBoardModel" "steps" "[I", Cond.fieldLink RX8 16 "ShotBoardModel" "stepTick" "[I", Cond.fieldLink RX8 19 "ShotBoardModel" "stepPlace" "[I", Cond.methodLink RX8 119 yX8_meet, Cond.static yX8_meet, Cond.code yX8_meet cX8_meet 5 (some .boolean), Cond.methodLink RX8 109 yX8_turn, Cond.static yX8_turn, Cond.code yX8_turn cX8_turn 4 (some .int)]
def wsX8_swings_r3 : List Cond := [Cond.methodLink RX8 102 yX8_x, Cond.static yX8_x, Cond.code yX8_x cX8_x 1 (some .int), Cond.methodLink RX8 106 yX8_y, Cond.static yX8_y, Cond.code yX8_y cX8_y 1 (some .int), Cond.methodLink RX8 116 yX8_isOn, Cond.static yX8_isOn, Cond.code yX8_isOn cX8_isOn 3 (some .boolean), Cond.methodLink RX8 113 yX8_isBetween, Cond.static yX8_isBetween, Cond.code yX8_isBetween cX8_isBetween 3 (some .boolean), Cond.methodLink RX8 75 yX8_in, Cond.static yX8_in, Cond.code yX8_in cX8_in 3 (some .boolean), Cond.methodLink RX8 129 yX8_isBefore, Cond.instanceMethod yX8_isBefore, Cond.selects RX8 yX8_isBefore yX8_isBefore, Cond.code yX8_isBefore cX8_isBefore 12 (some .boolean), Cond.methodLink RX8 132 yX8_sizeOf, Cond.instanceMethod yX8_sizeOf, Cond.selects RX8 yX8_sizeOf yX8_sizeOf, Cond.code yX8_sizeOf cX8_sizeOf 7 (some .int), Cond.methodLink RX8 163 yX8_bits]
def wsX8_swings_r4 : List Cond := [Cond.static yX8_bits, Cond.code yX8_bits cX8_bits 3 (some .int), Cond.methodLink RX8 166 yX8_plans, Cond.instanceMethod yX8_plans, Cond.selects RX8 yX8_plans yX8_plans, Cond.code yX8_plans cX8_plans 5 (some .boolean), Cond.fieldLink RX8 66 "ShotBoardModel" "canGo" "[Z", Cond.methodLink RX8 160 yX8_goes, Cond.instanceMethod yX8_goes, Cond.selects RX8 yX8_goes yX8_goes, Cond.code yX8_goes cX8_goes 6 (some .boolean), Cond.methodLink RX8 154 yX8_twoAhead, Cond.instanceMethod yX8_twoAhead, Cond.selects RX8 yX8_twoAhead yX8_twoAhead, Cond.code yX8_twoAhead cX8_twoAhead 3 (some .int), Cond.methodLink RX8 157 yX8_crosses, Cond.instanceMethod yX8_crosses, Cond.selects RX8 yX8_crosses yX8_crosses, Cond.code yX8_crosses cX8_crosses 9 (some .boolean), Cond.methodLink RX8 144 yX8_other, Cond.instanceMethod yX8_other, Cond.selects RX8 yX8_other yX8_other, Cond.code yX8_other cX8_other 3 (some .int), Cond.methodLink RX8 147 yX8_sideOf]
def wsX8_swings_r5 : List Cond := [Cond.instanceMethod yX8_sideOf, Cond.selects RX8 yX8_sideOf yX8_sideOf, Cond.code yX8_sideOf cX8_sideOf 5 (some .int)]
def wsX8_swings : List Cond := .code yX8_swings cX8_swings 3 (some .int) :: ((wsX8_swings_r1 ++ (wsX8_swings_r2 ++ (wsX8_swings_r3 ++ (wsX8_swings_r4 ++ wsX8_swings_r5)))) ++ wsX80)
def wsX8_changes : List Cond := .code yX8_changes cX8_changes 8 (some .int) :: ([.fieldLink RX8 79 "ShotBoardModel" "cameras" "I", .fieldLink RX8 31 "ShotBoardModel" "light" "[I"] ++ wsX80)
def wsX8_order_r1 : List Cond := [Cond.fieldLink RX8 169 "ShotBoardModel" "fewestSet" "I", Cond.fieldLink RX8 31 "ShotBoardModel" "light" "[I", Cond.methodLink RX8 172 yX8_finds, Cond.instanceMethod yX8_finds, Cond.selects RX8 yX8_finds yX8_finds, Cond.initialized RX8, Cond.code yX8_finds cX8_finds 3 (some .int), Cond.fieldLink RX8 79 "ShotBoardModel" "cameras" "I", Cond.fieldLink RX8 82 "ShotBoardModel" "boards" "I", Cond.fieldLink RX8 62 "ShotBoardModel" "giving" "[Z", Cond.methodLink RX8 141 yX8_whyNot, Cond.instanceMethod yX8_whyNot, Cond.selects RX8 yX8_whyNot yX8_whyNot, Cond.code yX8_whyNot cX8_whyNot 5 (some .int), Cond.fieldLink RX8 46 "ShotBoardModel" "from" "[I", Cond.fieldLink RX8 49 "ShotBoardModel" "to" "[I", Cond.methodLink RX8 135 yX8_fails, Cond.instanceMethod yX8_fails, Cond.selects RX8 yX8_fails yX8_fails, Cond.code yX8_fails cX8_fails 7 (some .int), Cond.fieldLink RX8 37 "ShotBoardModel" "main" "[I", Cond.fieldLink RX8 72 "ShotBoardModel" "persons" "I", Cond.fieldLink RX8 40 "ShotBoardModel" "must" "[I", Cond.fieldLink RX8 28 "ShotBoardModel" "eye" "[I"]
def wsX8_order_r2 : List Cond := [Cond.fieldLink RX8 43 "ShotBoardModel" "sizes" "[I", Cond.fieldLink RX8 34 "ShotBoardModel" "kind" "[I", Cond.methodLink RX8 123 yX8_isHidden, Cond.instanceMethod yX8_isHidden, Cond.selects RX8 yX8_isHidden yX8_isHidden, Cond.code yX8_isHidden cX8_isHidden 7 (some .boolean), Cond.fieldLink RX8 92 "ShotBoardModel" "walls" "I", Cond.fieldLink RX8 22 "ShotBoardModel" "wallFrom" "[I", Cond.fieldLink RX8 25 "ShotBoardModel" "wallTo" "[I", Cond.methodLink RX8 98 yX8_placeOf, Cond.instanceMethod yX8_placeOf, Cond.selects RX8 yX8_placeOf yX8_placeOf, Cond.code yX8_placeOf cX8_placeOf 6 (some .int), Cond.fieldLink RX8 7 "ShotBoardModel" "at" "[I", Cond.fieldLink RX8 13 "ShotBoardModel" "steps" "[I", Cond.fieldLink RX8 16 "ShotBoardModel" "stepTick" "[I", Cond.fieldLink RX8 19 "ShotBoardModel" "stepPlace" "[I", Cond.methodLink RX8 119 yX8_meet, Cond.static yX8_meet, Cond.code yX8_meet cX8_meet 5 (some .boolean), Cond.methodLink RX8 109 yX8_turn, Cond.static yX8_turn, Cond.code yX8_turn cX8_turn 4 (some .int), Cond.methodLink RX8 102 yX8_x]
def wsX8_order_r3 : List Cond := [Cond.static yX8_x, Cond.code yX8_x cX8_x 1 (some .int), Cond.methodLink RX8 106 yX8_y, Cond.static yX8_y, Cond.code yX8_y cX8_y 1 (some .int), Cond.methodLink RX8 116 yX8_isOn, Cond.static yX8_isOn, Cond.code yX8_isOn cX8_isOn 3 (some .boolean), Cond.methodLink RX8 113 yX8_isBetween, Cond.static yX8_isBetween, Cond.code yX8_isBetween cX8_isBetween 3 (some .boolean), Cond.methodLink RX8 75 yX8_in, Cond.static yX8_in, Cond.code yX8_in cX8_in 3 (some .boolean), Cond.methodLink RX8 129 yX8_isBefore, Cond.instanceMethod yX8_isBefore, Cond.selects RX8 yX8_isBefore yX8_isBefore, Cond.code yX8_isBefore cX8_isBefore 12 (some .boolean), Cond.methodLink RX8 132 yX8_sizeOf, Cond.instanceMethod yX8_sizeOf, Cond.selects RX8 yX8_sizeOf yX8_sizeOf, Cond.code yX8_sizeOf cX8_sizeOf 7 (some .int), Cond.methodLink RX8 163 yX8_bits, Cond.static yX8_bits]
def wsX8_order_r4 : List Cond := [Cond.code yX8_bits cX8_bits 3 (some .int), Cond.methodLink RX8 166 yX8_plans, Cond.instanceMethod yX8_plans, Cond.selects RX8 yX8_plans yX8_plans, Cond.code yX8_plans cX8_plans 5 (some .boolean), Cond.fieldLink RX8 66 "ShotBoardModel" "canGo" "[Z", Cond.fieldLink RX8 69 "ShotBoardModel" "row" "[I", Cond.methodLink RX8 160 yX8_goes, Cond.instanceMethod yX8_goes, Cond.selects RX8 yX8_goes yX8_goes, Cond.code yX8_goes cX8_goes 6 (some .boolean), Cond.methodLink RX8 154 yX8_twoAhead, Cond.instanceMethod yX8_twoAhead, Cond.selects RX8 yX8_twoAhead yX8_twoAhead, Cond.code yX8_twoAhead cX8_twoAhead 3 (some .int), Cond.methodLink RX8 157 yX8_crosses, Cond.instanceMethod yX8_crosses, Cond.selects RX8 yX8_crosses yX8_crosses, Cond.code yX8_crosses cX8_crosses 9 (some .boolean), Cond.methodLink RX8 144 yX8_other, Cond.instanceMethod yX8_other, Cond.selects RX8 yX8_other yX8_other, Cond.code yX8_other cX8_other 3 (some .int), Cond.methodLink RX8 147 yX8_sideOf]
def wsX8_order_r5 : List Cond := [Cond.instanceMethod yX8_sideOf, Cond.selects RX8 yX8_sideOf yX8_sideOf, Cond.code yX8_sideOf cX8_sideOf 5 (some .int), Cond.methodLink RX8 176 yX8_changes, Cond.instanceMethod yX8_changes, Cond.selects RX8 yX8_changes yX8_changes, Cond.code yX8_changes cX8_changes 8 (some .int)]
def wsX8_order : List Cond := .code yX8_order cX8_order 8 (some .int) :: ((wsX8_order_r1 ++ (wsX8_order_r2 ++ (wsX8_order_r3 ++ (wsX8_order_r4 ++ wsX8_order_r5)))) ++ wsX80)
def wsX8_crossings_r1 : List Cond := [Cond.fieldLink RX8 179 "ShotBoardModel" "listed" "I", Cond.fieldLink RX8 82 "ShotBoardModel" "boards" "I", Cond.fieldLink RX8 59 "ShotBoardModel" "list" "[I", Cond.fieldLink RX8 34 "ShotBoardModel" "kind" "[I", Cond.methodLink RX8 141 yX8_whyNot, Cond.instanceMethod yX8_whyNot, Cond.selects RX8 yX8_whyNot yX8_whyNot, Cond.initialized RX8, Cond.code yX8_whyNot cX8_whyNot 5 (some .int), Cond.fieldLink RX8 46 "ShotBoardModel" "from" "[I", Cond.fieldLink RX8 49 "ShotBoardModel" "to" "[I", Cond.methodLink RX8 135 yX8_fails, Cond.instanceMethod yX8_fails, Cond.selects RX8 yX8_fails yX8_fails, Cond.code yX8_fails cX8_fails 7 (some .int), Cond.fieldLink RX8 37 "ShotBoardModel" "main" "[I", Cond.fieldLink RX8 72 "ShotBoardModel" "persons" "I", Cond.fieldLink RX8 40 "ShotBoardModel" "must" "[I", Cond.fieldLink RX8 28 "ShotBoardModel" "eye" "[I", Cond.fieldLink RX8 43 "ShotBoardModel" "sizes" "[I", Cond.methodLink RX8 123 yX8_isHidden, Cond.instanceMethod yX8_isHidden, Cond.selects RX8 yX8_isHidden yX8_isHidden, Cond.code yX8_isHidden cX8_isHidden 7 (some .boolean)]
def wsX8_crossings_r2 : List Cond := [Cond.fieldLink RX8 92 "ShotBoardModel" "walls" "I", Cond.fieldLink RX8 22 "ShotBoardModel" "wallFrom" "[I", Cond.fieldLink RX8 25 "ShotBoardModel" "wallTo" "[I", Cond.methodLink RX8 98 yX8_placeOf, Cond.instanceMethod yX8_placeOf, Cond.selects RX8 yX8_placeOf yX8_placeOf, Cond.code yX8_placeOf cX8_placeOf 6 (some .int), Cond.fieldLink RX8 7 "ShotBoardModel" "at" "[I", Cond.fieldLink RX8 13 "ShotBoardModel" "steps" "[I", Cond.fieldLink RX8 16 "ShotBoardModel" "stepTick" "[I", Cond.fieldLink RX8 19 "ShotBoardModel" "stepPlace" "[I", Cond.methodLink RX8 119 yX8_meet, Cond.static yX8_meet, Cond.code yX8_meet cX8_meet 5 (some .boolean), Cond.methodLink RX8 109 yX8_turn, Cond.static yX8_turn, Cond.code yX8_turn cX8_turn 4 (some .int), Cond.methodLink RX8 102 yX8_x, Cond.static yX8_x, Cond.code yX8_x cX8_x 1 (some .int), Cond.methodLink RX8 106 yX8_y, Cond.static yX8_y, Cond.code yX8_y cX8_y 1 (some .int), Cond.methodLink RX8 116 yX8_isOn]
def wsX8_crossings_r3 : List Cond := [Cond.static yX8_isOn, Cond.code yX8_isOn cX8_isOn 3 (some .boolean), Cond.methodLink RX8 113 yX8_isBetween, Cond.static yX8_isBetween, Cond.code yX8_isBetween cX8_isBetween 3 (some .boolean), Cond.methodLink RX8 75 yX8_in, Cond.static yX8_in, Cond.code yX8_in cX8_in 3 (some .boolean), Cond.methodLink RX8 129 yX8_isBefore, Cond.instanceMethod yX8_isBefore, Cond.selects RX8 yX8_isBefore yX8_isBefore, Cond.code yX8_isBefore cX8_isBefore 12 (some .boolean), Cond.methodLink RX8 132 yX8_sizeOf, Cond.instanceMethod yX8_sizeOf, Cond.selects RX8 yX8_sizeOf yX8_sizeOf, Cond.code yX8_sizeOf cX8_sizeOf 7 (some .int), Cond.methodLink RX8 154 yX8_twoAhead, Cond.instanceMethod yX8_twoAhead, Cond.selects RX8 yX8_twoAhead yX8_twoAhead, Cond.code yX8_twoAhead cX8_twoAhead 3 (some .int), Cond.methodLink RX8 157 yX8_crosses, Cond.instanceMethod yX8_crosses, Cond.selects RX8 yX8_crosses yX8_crosses, Cond.code yX8_crosses cX8_crosses 9 (some .boolean)]
def wsX8_crossings_r4 : List Cond := [Cond.methodLink RX8 144 yX8_other, Cond.instanceMethod yX8_other, Cond.selects RX8 yX8_other yX8_other, Cond.code yX8_other cX8_other 3 (some .int), Cond.methodLink RX8 147 yX8_sideOf, Cond.instanceMethod yX8_sideOf, Cond.selects RX8 yX8_sideOf yX8_sideOf, Cond.code yX8_sideOf cX8_sideOf 5 (some .int)]
def wsX8_crossings : List Cond := .code yX8_crossings cX8_crossings 5 (some .int) :: ((wsX8_crossings_r1 ++ (wsX8_crossings_r2 ++ (wsX8_crossings_r3 ++ wsX8_crossings_r4))) ++ wsX80)
def wsX8_list : List Cond := .code yX8_list cX8_list 2 (some .int) :: ([.fieldLink RX8 179 "ShotBoardModel" "listed" "I", .fieldLink RX8 59 "ShotBoardModel" "list" "[I", .methodLink RX8 126 yX8_isCamera, .instanceMethod yX8_isCamera, .selects RX8 yX8_isCamera yX8_isCamera, .initialized RX8, .code yX8_isCamera cX8_isCamera 2 (some .boolean), .fieldLink RX8 79 "ShotBoardModel" "cameras" "I", .methodLink RX8 75 yX8_in, .static yX8_in, .code yX8_in cX8_in 3 (some .boolean)] ++ wsX80)
def wsX8_all : List Cond := .code yX8_all cX8_all 3 (some .int) :: ([.fieldLink RX8 82 "ShotBoardModel" "boards" "I", .methodLink RX8 151 yX8_lengthOf, .instanceMethod yX8_lengthOf, .selects RX8 yX8_lengthOf yX8_lengthOf, .initialized RX8, .code yX8_lengthOf cX8_lengthOf 4 (some .int), .fieldLink RX8 49 "ShotBoardModel" "to" "[I", .fieldLink RX8 46 "ShotBoardModel" "from" "[I", .fieldLink RX8 52 "ShotBoardModel" "words" "[I", .fieldLink RX8 55 "ShotBoardModel" "rate" "I"] ++ wsX80)
def wsX8_run : List Cond := .code yX8_run cX8_run 1 (some .int) :: ([.methodLink RX8 182 yX8_all, .instanceMethod yX8_all, .selects RX8 yX8_all yX8_all, .initialized RX8, .code yX8_all cX8_all 3 (some .int), .fieldLink RX8 82 "ShotBoardModel" "boards" "I", .methodLink RX8 151 yX8_lengthOf, .instanceMethod yX8_lengthOf, .selects RX8 yX8_lengthOf yX8_lengthOf, .code yX8_lengthOf cX8_lengthOf 4 (some .int), .fieldLink RX8 49 "ShotBoardModel" "to" "[I", .fieldLink RX8 46 "ShotBoardModel" "from" "[I", .fieldLink RX8 52 "ShotBoardModel" "words" "[I", .fieldLink RX8 55 "ShotBoardModel" "rate" "I"] ++ wsX80)
def wsX8_frame : List Cond := .code yX8_frame cX8_frame 4 (some .int) :: ([.methodLink RX8 182 yX8_all, .instanceMethod yX8_all, .selects RX8 yX8_all yX8_all, .initialized RX8, .code yX8_all cX8_all 3 (some .int), .fieldLink RX8 82 "ShotBoardModel" "boards" "I", .methodLink RX8 151 yX8_lengthOf, .instanceMethod yX8_lengthOf, .selects RX8 yX8_lengthOf yX8_lengthOf, .code yX8_lengthOf cX8_lengthOf 4 (some .int), .fieldLink RX8 49 "ShotBoardModel" "to" "[I", .fieldLink RX8 46 "ShotBoardModel" "from" "[I", .fieldLink RX8 52 "ShotBoardModel" "words" "[I", .fieldLink RX8 55 "ShotBoardModel" "rate" "I", .methodLink RX8 75 yX8_in, .static yX8_in, .code yX8_in cX8_in 3 (some .boolean)] ++ wsX80)
def wsX8_count : List Cond := .code yX8_count cX8_count 2 (some .int) :: ([.fieldLink RX8 72 "ShotBoardModel" "persons" "I", .fieldLink RX8 92 "ShotBoardModel" "walls" "I", .fieldLink RX8 79 "ShotBoardModel" "cameras" "I", .fieldLink RX8 82 "ShotBoardModel" "boards" "I", .fieldLink RX8 179 "ShotBoardModel" "listed" "I"] ++ wsX80)
def wsJ9_max_7cf53 : List Cond := .code yJ9_max_7cf53 cJ9_max_7cf53 2 (some .int) :: ([])
abbrev vwCl : List vw_C := [(RX0, TX0, 8), (RX1, TX1, 1), (RX3, TX3, 11), (RX4, TX4, 3), (RX5, TX5, 3), (RX6, TX6, 6), (RX7, TX7, 7), (RX8, TX8, 26)]
/-! ===== END printed: names ===== -/
end
section
theorem dX0_init_0 : decode cX0_init 0 = .ok (.aload_n 0, 1) := by decide +kernel
theorem dX0_init_1 : decode cX0_init 1 = .ok (.invokespecial 3, 3) := by decide +kernel
theorem dX0_init_4 : decode cX0_init 4 = .ok (.return_, 1) := by decide +kernel
theorem dX0_mustShow_0 : decode cX0_mustShow 0 = .ok (.aload_n 0, 1) := by decide +kernel
theorem dX0_mustShow_1 : decode cX0_mustShow 1 = .ok (.getfield 9, 3) := by decide +kernel
theorem dX0_mustShow_4 : decode cX0_mustShow 4 = .ok (.iload_n 1, 1) := by decide +kernel
theorem dX0_mustShow_5 : decode cX0_mustShow 5 = .ok (.ishr, 1) := by decide +kernel
theorem dX0_mustShow_6 : decode cX0_mustShow 6 = .ok (.iconst 1, 1) := by decide +kernel
theorem dX0_mustShow_7 : decode cX0_mustShow 7 = .ok (.iand, 1) := by decide +kernel
theorem dX0_mustShow_8 : decode cX0_mustShow 8 = .ok (.ifCond .eq 7, 3) := by decide +kernel
theorem dX0_mustShow_11 : decode cX0_mustShow 11 = .ok (.iconst 1, 1) := by decide +kernel
theorem dX0_mustShow_12 : decode cX0_mustShow 12 = .ok (.goto 4, 3) := by decide +kernel
theorem dX0_mustShow_15 : decode cX0_mustShow 15 = .ok (.iconst 0, 1) := by decide +kernel
theorem dX0_mustShow_16 : decode cX0_mustShow 16 = .ok (.ireturn, 1) := by decide +kernel
theorem dX0_partner_0 : decode cX0_partner 0 = .ok (.iconst 0, 1) := by decide +kernel
theorem dX0_partner_1 : decode cX0_partner 1 = .ok (.istore_n 1, 1) := by decide +kernel
theorem dX0_partner_2 : decode cX0_partner 2 = .ok (.iload_n 1, 1) := by decide +kernel
theorem dX0_partner_3 : decode cX0_partner 3 = .ok (.bipush 6, 2) := by decide +kernel
theorem dX0_partner_5 : decode cX0_partner 5 = .ok (.if_icmp .ge 27, 3) := by decide +kernel
theorem dX0_partner_8 : decode cX0_partner 8 = .ok (.iload_n 1, 1) := by decide +kernel
theorem dX0_partner_9 : decode cX0_partner 9 = .ok (.aload_n 0, 1) := by decide +kernel
theorem dX0_partner_10 : decode cX0_partner 10 = .ok (.getfield 15, 3) := by decide +kernel
theorem dX0_partner_13 : decode cX0_partner 13 = .ok (.if_icmp .eq 13, 3) := by decide +kernel
theorem dX0_partner_16 : decode cX0_partner 16 = .ok (.aload_n 0, 1) := by decide +kernel
theorem dX0_partner_17 : decode cX0_partner 17 = .ok (.iload_n 1, 1) := by decide +kernel
theorem dX0_partner_18 : decode cX0_partner 18 = .ok (.invokevirtual 18, 3) := by decide +kernel
theorem dX0_partner_21 : decode cX0_partner 21 = .ok (.ifCond .eq 5, 3) := by decide +kernel
theorem dX0_partner_24 : decode cX0_partner 24 = .ok (.iload_n 1, 1) := by decide +kernel
theorem dX0_partner_25 : decode cX0_partner 25 = .ok (.ireturn, 1) := by decide +kernel
theorem dX0_partner_26 : decode cX0_partner 26 = .ok (.iinc 1 1, 3) := by decide +kernel
theorem dX0_partner_29 : decode cX0_partner 29 = .ok (.goto (-27), 3) := by decide +kernel
theorem dX0_partner_32 : decode cX0_partner 32 = .ok (.aload_n 0, 1) := by decide +kernel
theorem dX0_partner_33 : decode cX0_partner 33 = .ok (.getfield 15, 3) := by decide +kernel
theorem dX0_partner_36 : decode cX0_partner 36 = .ok (.ireturn, 1) := by decide +kernel
theorem dX0_speakers_0 : decode cX0_speakers 0 = .ok (.iconst 1, 1) := by decide +kernel
theorem dX0_speakers_1 : decode cX0_speakers 1 = .ok (.aload_n 0, 1) := by decide +kernel
theorem dX0_speakers_2 : decode cX0_speakers 2 = .ok (.getfield 15, 3) := by decide +kernel
theorem dX0_speakers_5 : decode cX0_speakers 5 = .ok (.ishl, 1) := by decide +kernel
theorem dX0_speakers_6 : decode cX0_speakers 6 = .ok (.iconst 1, 1) := by decide +kernel
theorem dX0_speakers_7 : decode cX0_speakers 7 = .ok (.aload_n 0, 1) := by decide +kernel
theorem dX0_speakers_8 : decode cX0_speakers 8 = .ok (.invokevirtual 22, 3) := by decide +kernel
theorem dX0_speakers_11 : decode cX0_speakers 11 = .ok (.ishl, 1) := by decide +kernel
theorem dX0_speakers_12 : decode cX0_speakers 12 = .ok (.ior, 1) := by decide +kernel
theorem dX0_speakers_13 : decode cX0_speakers 13 = .ok (.ireturn, 1) := by decide +kernel
theorem dX1_init_0 : decode cX1_init 0 = .ok (.aload_n 0, 1) := by decide +kernel
theorem dX1_init_1 : decode cX1_init 1 = .ok (.invokespecial 3, 3) := by decide +kernel
theorem dX1_init_4 : decode cX1_init 4 = .ok (.aload_n 0, 1) := by decide +kernel
theorem dX1_init_5 : decode cX1_init 5 = .ok (.aload_n 1, 1) := by decide +kernel
theorem dX1_init_6 : decode cX1_init 6 = .ok (.putfield 9, 3) := by decide +kernel
theorem dX1_init_9 : decode cX1_init 9 = .ok (.return_, 1) := by decide +kernel
theorem dX1_fault_0 : decode cX1_fault 0 = .ok (.aload_n 2, 1) := by decide +kernel
theorem dX1_fault_1 : decode cX1_fault 1 = .ok (.getfield 15, 3) := by decide +kernel
theorem dX1_fault_4 : decode cX1_fault 4 = .ok (.istore_n 3, 1) := by decide +kernel
theorem dX1_fault_5 : decode cX1_fault 5 = .ok (.iload_n 3, 1) := by decide +kernel
theorem dX1_fault_6 : decode cX1_fault 6 = .ok (.aload_n 2, 1) := by decide +kernel
theorem dX1_fault_7 : decode cX1_fault 7 = .ok (.getfield 21, 3) := by decide +kernel
theorem dX1_fault_10 : decode cX1_fault 10 = .ok (.if_icmp .gt 66, 3) := by decide +kernel
theorem dX1_fault_13 : decode cX1_fault 13 = .ok (.iload_n 3, 1) := by decide +kernel
theorem dX1_fault_14 : decode cX1_fault 14 = .ok (.aload_n 2, 1) := by decide +kernel
theorem dX1_fault_15 : decode cX1_fault 15 = .ok (.getfield 15, 3) := by decide +kernel
theorem dX1_fault_18 : decode cX1_fault 18 = .ok (.if_icmp .eq 14, 3) := by decide +kernel
theorem dX1_fault_21 : decode cX1_fault 21 = .ok (.aload_n 0, 1) := by decide +kernel
theorem dX1_fault_22 : decode cX1_fault 22 = .ok (.getfield 9, 3) := by decide +kernel
theorem dX1_fault_25 : decode cX1_fault 25 = .ok (.iload_n 3, 1) := by decide +kernel
theorem dX1_fault_26 : decode cX1_fault 26 = .ok (.invokevirtual 24, 3) := by decide +kernel
theorem dX1_fault_29 : decode cX1_fault 29 = .ok (.ifCond .eq 7, 3) := by decide +kernel
theorem dX1_fault_32 : decode cX1_fault 32 = .ok (.iconst 1, 1) := by decide +kernel
theorem dX1_fault_33 : decode cX1_fault 33 = .ok (.goto 4, 3) := by decide +kernel
theorem dX1_fault_36 : decode cX1_fault 36 = .ok (.iconst 0, 1) := by decide +kernel
theorem dX1_fault_37 : decode cX1_fault 37 = .ok (.istore 4, 2) := by decide +kernel
theorem dX1_fault_39 : decode cX1_fault 39 = .ok (.iload 4, 2) := by decide +kernel
theorem dX1_fault_41 : decode cX1_fault 41 = .ok (.ifCond .eq 13, 3) := by decide +kernel
theorem dX1_fault_44 : decode cX1_fault 44 = .ok (.aload_n 0, 1) := by decide +kernel
theorem dX1_fault_45 : decode cX1_fault 45 = .ok (.iload_n 1, 1) := by decide +kernel
theorem dX1_fault_46 : decode cX1_fault 46 = .ok (.aload_n 2, 1) := by decide +kernel
theorem dX1_fault_47 : decode cX1_fault 47 = .ok (.iload_n 3, 1) := by decide +kernel
theorem dX1_fault_48 : decode cX1_fault 48 = .ok (.invokevirtual 30, 3) := by decide +kernel
theorem dX1_fault_51 : decode cX1_fault 51 = .ok (.goto 4, 3) := by decide +kernel
theorem dX1_fault_54 : decode cX1_fault 54 = .ok (.iconst 0, 1) := by decide +kernel
theorem dX1_fault_55 : decode cX1_fault 55 = .ok (.istore 5, 2) := by decide +kernel
theorem dX1_fault_57 : decode cX1_fault 57 = .ok (.iload 5, 2) := by decide +kernel
theorem dX1_fault_59 : decode cX1_fault 59 = .ok (.ifCond .eq 11, 3) := by decide +kernel
theorem dX1_fault_62 : decode cX1_fault 62 = .ok (.bipush 100, 2) := by decide +kernel
theorem dX1_fault_64 : decode cX1_fault 64 = .ok (.iload_n 3, 1) := by decide +kernel
theorem dX1_fault_65 : decode cX1_fault 65 = .ok (.imul, 1) := by decide +kernel
theorem dX1_fault_66 : decode cX1_fault 66 = .ok (.iload 5, 2) := by decide +kernel
theorem dX1_fault_68 : decode cX1_fault 68 = .ok (.iadd, 1) := by decide +kernel
theorem dX1_fault_69 : decode cX1_fault 69 = .ok (.ireturn, 1) := by decide +kernel
theorem dX1_fault_70 : decode cX1_fault 70 = .ok (.iinc 3 1, 3) := by decide +kernel
theorem dX1_fault_73 : decode cX1_fault 73 = .ok (.goto (-68), 3) := by decide +kernel
theorem dX1_fault_76 : decode cX1_fault 76 = .ok (.iconst 0, 1) := by decide +kernel
theorem dX1_fault_77 : decode cX1_fault 77 = .ok (.ireturn, 1) := by decide +kernel
theorem dX1_faultAt_0 : decode cX1_faultAt 0 = .ok (.iconst 0, 1) := by decide +kernel
theorem dX1_faultAt_1 : decode cX1_faultAt 1 = .ok (.istore 4, 2) := by decide +kernel
theorem dX1_faultAt_3 : decode cX1_faultAt 3 = .ok (.iload 4, 2) := by decide +kernel
theorem dX1_faultAt_5 : decode cX1_faultAt 5 = .ok (.aload_n 0, 1) := by decide +kernel
theorem dX1_faultAt_6 : decode cX1_faultAt 6 = .ok (.getfield 9, 3) := by decide +kernel
theorem dX1_faultAt_9 : decode cX1_faultAt 9 = .ok (.getfield 34, 3) := by decide +kernel
theorem dX1_faultAt_12 : decode cX1_faultAt 12 = .ok (.if_icmp .ge 38, 3) := by decide +kernel
theorem dX1_faultAt_15 : decode cX1_faultAt 15 = .ok (.aload_n 2, 1) := by decide +kernel
theorem dX1_faultAt_16 : decode cX1_faultAt 16 = .ok (.iload 4, 2) := by decide +kernel
theorem dX1_faultAt_18 : decode cX1_faultAt 18 = .ok (.invokevirtual 37, 3) := by decide +kernel
theorem dX1_faultAt_21 : decode cX1_faultAt 21 = .ok (.ifCond .eq 23, 3) := by decide +kernel
theorem dX1_faultAt_24 : decode cX1_faultAt 24 = .ok (.aload_n 0, 1) := by decide +kernel
theorem dX1_faultAt_25 : decode cX1_faultAt 25 = .ok (.getfield 9, 3) := by decide +kernel
theorem dX1_faultAt_28 : decode cX1_faultAt 28 = .ok (.iload 4, 2) := by decide +kernel
theorem dX1_faultAt_30 : decode cX1_faultAt 30 = .ok (.iload_n 3, 1) := by decide +kernel
theorem dX1_faultAt_31 : decode cX1_faultAt 31 = .ok (.iload_n 1, 1) := by decide +kernel
theorem dX1_faultAt_32 : decode cX1_faultAt 32 = .ok (.invokevirtual 40, 3) := by decide +kernel
theorem dX1_faultAt_35 : decode cX1_faultAt 35 = .ok (.ifCond .eq 9, 3) := by decide +kernel
theorem dX1_faultAt_38 : decode cX1_faultAt 38 = .ok (.bipush 10, 2) := by decide +kernel
theorem dX1_faultAt_40 : decode cX1_faultAt 40 = .ok (.iload 4, 2) := by decide +kernel
theorem dX1_faultAt_42 : decode cX1_faultAt 42 = .ok (.iadd, 1) := by decide +kernel
theorem dX1_faultAt_43 : decode cX1_faultAt 43 = .ok (.ireturn, 1) := by decide +kernel
theorem dX1_faultAt_44 : decode cX1_faultAt 44 = .ok (.iinc 4 1, 3) := by decide +kernel
theorem dX1_faultAt_47 : decode cX1_faultAt 47 = .ok (.goto (-44), 3) := by decide +kernel
theorem dX1_faultAt_50 : decode cX1_faultAt 50 = .ok (.aload_n 0, 1) := by decide +kernel
theorem dX1_faultAt_51 : decode cX1_faultAt 51 = .ok (.getfield 9, 3) := by decide +kernel
theorem dX1_faultAt_54 : decode cX1_faultAt 54 = .ok (.aload_n 2, 1) := by decide +kernel
theorem dX1_faultAt_55 : decode cX1_faultAt 55 = .ok (.getfield 44, 3) := by decide +kernel
theorem dX1_faultAt_58 : decode cX1_faultAt 58 = .ok (.iload_n 3, 1) := by decide +kernel
theorem dX1_faultAt_59 : decode cX1_faultAt 59 = .ok (.invokevirtual 47, 3) := by decide +kernel
theorem dX1_faultAt_62 : decode cX1_faultAt 62 = .ok (.istore 4, 2) := by decide +kernel
theorem dX1_faultAt_64 : decode cX1_faultAt 64 = .ok (.iconst 0, 1) := by decide +kernel
theorem dX1_faultAt_65 : decode cX1_faultAt 65 = .ok (.istore 5, 2) := by decide +kernel
theorem dX1_faultAt_67 : decode cX1_faultAt 67 = .ok (.iload 5, 2) := by decide +kernel
theorem dX1_faultAt_69 : decode cX1_faultAt 69 = .ok (.aload_n 0, 1) := by decide +kernel
theorem dX1_faultAt_70 : decode cX1_faultAt 70 = .ok (.getfield 9, 3) := by decide +kernel
theorem dX1_faultAt_73 : decode cX1_faultAt 73 = .ok (.getfield 34, 3) := by decide +kernel
theorem dX1_faultAt_76 : decode cX1_faultAt 76 = .ok (.if_icmp .ge 43, 3) := by decide +kernel
theorem dX1_faultAt_79 : decode cX1_faultAt 79 = .ok (.aload_n 2, 1) := by decide +kernel
theorem dX1_faultAt_80 : decode cX1_faultAt 80 = .ok (.iload 5, 2) := by decide +kernel
theorem dX1_faultAt_82 : decode cX1_faultAt 82 = .ok (.invokevirtual 37, 3) := by decide +kernel
theorem dX1_faultAt_85 : decode cX1_faultAt 85 = .ok (.ifCond .eq 28, 3) := by decide +kernel
theorem dX1_faultAt_88 : decode cX1_faultAt 88 = .ok (.iload_n 1, 1) := by decide +kernel
theorem dX1_faultAt_89 : decode cX1_faultAt 89 = .ok (.iload 4, 2) := by decide +kernel
theorem dX1_faultAt_91 : decode cX1_faultAt 91 = .ok (.aload_n 0, 1) := by decide +kernel
theorem dX1_faultAt_92 : decode cX1_faultAt 92 = .ok (.getfield 9, 3) := by decide +kernel
theorem dX1_faultAt_95 : decode cX1_faultAt 95 = .ok (.iload 5, 2) := by decide +kernel
theorem dX1_faultAt_97 : decode cX1_faultAt 97 = .ok (.iload_n 3, 1) := by decide +kernel
theorem dX1_faultAt_98 : decode cX1_faultAt 98 = .ok (.invokevirtual 47, 3) := by decide +kernel
theorem dX1_faultAt_101 : decode cX1_faultAt 101 = .ok (.invokestatic 51, 3) := by decide +kernel
theorem dX1_faultAt_104 : decode cX1_faultAt 104 = .ok (.ifCond .ne 9, 3) := by decide +kernel
theorem dX1_faultAt_107 : decode cX1_faultAt 107 = .ok (.bipush 20, 2) := by decide +kernel
theorem dX1_faultAt_109 : decode cX1_faultAt 109 = .ok (.iload 5, 2) := by decide +kernel
theorem dX1_faultAt_111 : decode cX1_faultAt 111 = .ok (.iadd, 1) := by decide +kernel
theorem dX1_faultAt_112 : decode cX1_faultAt 112 = .ok (.ireturn, 1) := by decide +kernel
theorem dX1_faultAt_113 : decode cX1_faultAt 113 = .ok (.iinc 5 1, 3) := by decide +kernel
theorem dX1_faultAt_116 : decode cX1_faultAt 116 = .ok (.goto (-49), 3) := by decide +kernel
theorem dX1_faultAt_119 : decode cX1_faultAt 119 = .ok (.aload_n 2, 1) := by decide +kernel
theorem dX1_faultAt_120 : decode cX1_faultAt 120 = .ok (.getfield 56, 3) := by decide +kernel
theorem dX1_faultAt_123 : decode cX1_faultAt 123 = .ok (.iload_n 1, 1) := by decide +kernel
theorem dX1_faultAt_124 : decode cX1_faultAt 124 = .ok (.iload 4, 2) := by decide +kernel
theorem dX1_faultAt_126 : decode cX1_faultAt 126 = .ok (.invokestatic 59, 3) := by decide +kernel
theorem dX1_faultAt_129 : decode cX1_faultAt 129 = .ok (.ishr, 1) := by decide +kernel
theorem dX1_faultAt_130 : decode cX1_faultAt 130 = .ok (.iconst 1, 1) := by decide +kernel
theorem dX1_faultAt_131 : decode cX1_faultAt 131 = .ok (.iand, 1) := by decide +kernel
theorem dX1_faultAt_132 : decode cX1_faultAt 132 = .ok (.ifCond .ne 6, 3) := by decide +kernel
theorem dX1_faultAt_135 : decode cX1_faultAt 135 = .ok (.bipush 30, 2) := by decide +kernel
theorem dX1_faultAt_137 : decode cX1_faultAt 137 = .ok (.ireturn, 1) := by decide +kernel
theorem dX1_faultAt_138 : decode cX1_faultAt 138 = .ok (.aload_n 2, 1) := by decide +kernel
theorem dX1_faultAt_139 : decode cX1_faultAt 139 = .ok (.getfield 62, 3) := by decide +kernel
theorem dX1_faultAt_142 : decode cX1_faultAt 142 = .ok (.iconst 2, 1) := by decide +kernel
theorem dX1_faultAt_143 : decode cX1_faultAt 143 = .ok (.if_icmp .ne 15, 3) := by decide +kernel
theorem dX1_faultAt_146 : decode cX1_faultAt 146 = .ok (.iload_n 3, 1) := by decide +kernel
theorem dX1_faultAt_147 : decode cX1_faultAt 147 = .ok (.aload_n 2, 1) := by decide +kernel
theorem dX1_faultAt_148 : decode cX1_faultAt 148 = .ok (.getfield 15, 3) := by decide +kernel
theorem dX1_faultAt_151 : decode cX1_faultAt 151 = .ok (.if_icmp .le 7, 3) := by decide +kernel
theorem dX1_faultAt_154 : decode cX1_faultAt 154 = .ok (.iconst 1, 1) := by decide +kernel
theorem dX1_faultAt_155 : decode cX1_faultAt 155 = .ok (.goto 4, 3) := by decide +kernel
theorem dX1_faultAt_158 : decode cX1_faultAt 158 = .ok (.iconst 0, 1) := by decide +kernel
theorem dX1_faultAt_159 : decode cX1_faultAt 159 = .ok (.istore 5, 2) := by decide +kernel
theorem dX1_faultAt_161 : decode cX1_faultAt 161 = .ok (.iload 5, 2) := by decide +kernel
theorem dX1_faultAt_163 : decode cX1_faultAt 163 = .ok (.ifCond .eq 18, 3) := by decide +kernel
theorem dX1_faultAt_166 : decode cX1_faultAt 166 = .ok (.aload_n 0, 1) := by decide +kernel
theorem dX1_faultAt_167 : decode cX1_faultAt 167 = .ok (.iload_n 1, 1) := by decide +kernel
theorem dX1_faultAt_168 : decode cX1_faultAt 168 = .ok (.aload_n 2, 1) := by decide +kernel
theorem dX1_faultAt_169 : decode cX1_faultAt 169 = .ok (.iload_n 3, 1) := by decide +kernel
theorem dX1_faultAt_170 : decode cX1_faultAt 170 = .ok (.invokevirtual 65, 3) := by decide +kernel
theorem dX1_faultAt_173 : decode cX1_faultAt 173 = .ok (.ifCond .eq 8, 3) := by decide +kernel
theorem dX1_faultAt_176 : decode cX1_faultAt 176 = .ok (.bipush 40, 2) := by decide +kernel
theorem dX1_faultAt_178 : decode cX1_faultAt 178 = .ok (.goto 4, 3) := by decide +kernel
theorem dX1_faultAt_181 : decode cX1_faultAt 181 = .ok (.iconst 0, 1) := by decide +kernel
theorem dX1_faultAt_182 : decode cX1_faultAt 182 = .ok (.ireturn, 1) := by decide +kernel
theorem dX1_someoneChangesSide_0 : decode cX1_someoneChangesSide 0 = .ok (.aload_n 0, 1) := by decide +kernel
theorem dX1_someoneChangesSide_1 : decode cX1_someoneChangesSide 1 = .ok (.getfield 9, 3) := by decide +kernel
theorem dX1_someoneChangesSide_4 : decode cX1_someoneChangesSide 4 = .ok (.aload_n 2, 1) := by decide +kernel
theorem dX1_someoneChangesSide_5 : decode cX1_someoneChangesSide 5 = .ok (.getfield 44, 3) := by decide +kernel
theorem dX1_someoneChangesSide_8 : decode cX1_someoneChangesSide 8 = .ok (.iload_n 3, 1) := by decide +kernel
theorem dX1_someoneChangesSide_9 : decode cX1_someoneChangesSide 9 = .ok (.iconst 1, 1) := by decide +kernel
theorem dX1_someoneChangesSide_10 : decode cX1_someoneChangesSide 10 = .ok (.isub, 1) := by decide +kernel
theorem dX1_someoneChangesSide_11 : decode cX1_someoneChangesSide 11 = .ok (.invokevirtual 47, 3) := by decide +kernel
theorem dX1_someoneChangesSide_14 : decode cX1_someoneChangesSide 14 = .ok (.istore 4, 2) := by decide +kernel
theorem dX1_someoneChangesSide_16 : decode cX1_someoneChangesSide 16 = .ok (.aload_n 0, 1) := by decide +kernel
theorem dX1_someoneChangesSide_17 : decode cX1_someoneChangesSide 17 = .ok (.getfield 9, 3) := by decide +kernel
theorem dX1_someoneChangesSide_20 : decode cX1_someoneChangesSide 20 = .ok (.aload_n 2, 1) := by decide +kernel
theorem dX1_someoneChangesSide_21 : decode cX1_someoneChangesSide 21 = .ok (.getfield 44, 3) := by decide +kernel
theorem dX1_someoneChangesSide_24 : decode cX1_someoneChangesSide 24 = .ok (.iload_n 3, 1) := by decide +kernel
theorem dX1_someoneChangesSide_25 : decode cX1_someoneChangesSide 25 = .ok (.invokevirtual 47, 3) := by decide +kernel
theorem dX1_someoneChangesSide_28 : decode cX1_someoneChangesSide 28 = .ok (.istore 5, 2) := by decide +kernel
theorem dX1_someoneChangesSide_30 : decode cX1_someoneChangesSide 30 = .ok (.iconst 0, 1) := by decide +kernel
theorem dX1_someoneChangesSide_31 : decode cX1_someoneChangesSide 31 = .ok (.istore 6, 2) := by decide +kernel
theorem dX1_someoneChangesSide_33 : decode cX1_someoneChangesSide 33 = .ok (.iload 6, 2) := by decide +kernel
theorem dX1_someoneChangesSide_35 : decode cX1_someoneChangesSide 35 = .ok (.aload_n 0, 1) := by decide +kernel
theorem dX1_someoneChangesSide_36 : decode cX1_someoneChangesSide 36 = .ok (.getfield 9, 3) := by decide +kernel
theorem dX1_someoneChangesSide_39 : decode cX1_someoneChangesSide 39 = .ok (.getfield 34, 3) := by decide +kernel
theorem dX1_someoneChangesSide_42 : decode cX1_someoneChangesSide 42 = .ok (.if_icmp .ge 66, 3) := by decide +kernel
theorem dX1_someoneChangesSide_45 : decode cX1_someoneChangesSide 45 = .ok (.aload_n 2, 1) := by decide +kernel
theorem dX1_someoneChangesSide_46 : decode cX1_someoneChangesSide 46 = .ok (.iload 6, 2) := by decide +kernel
theorem dX1_someoneChangesSide_48 : decode cX1_someoneChangesSide 48 = .ok (.invokevirtual 37, 3) := by decide +kernel
theorem dX1_someoneChangesSide_51 : decode cX1_someoneChangesSide 51 = .ok (.ifCond .eq 51, 3) := by decide +kernel
theorem dX1_someoneChangesSide_54 : decode cX1_someoneChangesSide 54 = .ok (.iload_n 1, 1) := by decide +kernel
theorem dX1_someoneChangesSide_55 : decode cX1_someoneChangesSide 55 = .ok (.iload 4, 2) := by decide +kernel
theorem dX1_someoneChangesSide_57 : decode cX1_someoneChangesSide 57 = .ok (.aload_n 0, 1) := by decide +kernel
theorem dX1_someoneChangesSide_58 : decode cX1_someoneChangesSide 58 = .ok (.getfield 9, 3) := by decide +kernel
theorem dX1_someoneChangesSide_61 : decode cX1_someoneChangesSide 61 = .ok (.iload 6, 2) := by decide +kernel
theorem dX1_someoneChangesSide_63 : decode cX1_someoneChangesSide 63 = .ok (.iload_n 3, 1) := by decide +kernel
theorem dX1_someoneChangesSide_64 : decode cX1_someoneChangesSide 64 = .ok (.iconst 1, 1) := by decide +kernel
theorem dX1_someoneChangesSide_65 : decode cX1_someoneChangesSide 65 = .ok (.isub, 1) := by decide +kernel
theorem dX1_someoneChangesSide_66 : decode cX1_someoneChangesSide 66 = .ok (.invokevirtual 47, 3) := by decide +kernel
theorem dX1_someoneChangesSide_69 : decode cX1_someoneChangesSide 69 = .ok (.invokestatic 69, 3) := by decide +kernel
theorem dX1_someoneChangesSide_72 : decode cX1_someoneChangesSide 72 = .ok (.istore 7, 2) := by decide +kernel
theorem dX1_someoneChangesSide_74 : decode cX1_someoneChangesSide 74 = .ok (.iload_n 1, 1) := by decide +kernel
theorem dX1_someoneChangesSide_75 : decode cX1_someoneChangesSide 75 = .ok (.iload 5, 2) := by decide +kernel
theorem dX1_someoneChangesSide_77 : decode cX1_someoneChangesSide 77 = .ok (.aload_n 0, 1) := by decide +kernel
theorem dX1_someoneChangesSide_78 : decode cX1_someoneChangesSide 78 = .ok (.getfield 9, 3) := by decide +kernel
theorem dX1_someoneChangesSide_81 : decode cX1_someoneChangesSide 81 = .ok (.iload 6, 2) := by decide +kernel
theorem dX1_someoneChangesSide_83 : decode cX1_someoneChangesSide 83 = .ok (.iload_n 3, 1) := by decide +kernel
theorem dX1_someoneChangesSide_84 : decode cX1_someoneChangesSide 84 = .ok (.invokevirtual 47, 3) := by decide +kernel
theorem dX1_someoneChangesSide_87 : decode cX1_someoneChangesSide 87 = .ok (.invokestatic 69, 3) := by decide +kernel
theorem dX1_someoneChangesSide_90 : decode cX1_someoneChangesSide 90 = .ok (.istore 8, 2) := by decide +kernel
theorem dX1_someoneChangesSide_92 : decode cX1_someoneChangesSide 92 = .ok (.iload 7, 2) := by decide +kernel
theorem dX1_someoneChangesSide_94 : decode cX1_someoneChangesSide 94 = .ok (.iload 8, 2) := by decide +kernel
theorem dX1_someoneChangesSide_96 : decode cX1_someoneChangesSide 96 = .ok (.imul, 1) := by decide +kernel
theorem dX1_someoneChangesSide_97 : decode cX1_someoneChangesSide 97 = .ok (.ifCond .ge 5, 3) := by decide +kernel
theorem dX1_someoneChangesSide_100 : decode cX1_someoneChangesSide 100 = .ok (.iconst 1, 1) := by decide +kernel
theorem dX1_someoneChangesSide_101 : decode cX1_someoneChangesSide 101 = .ok (.ireturn, 1) := by decide +kernel
theorem dX1_someoneChangesSide_102 : decode cX1_someoneChangesSide 102 = .ok (.iinc 6 1, 3) := by decide +kernel
theorem dX1_someoneChangesSide_105 : decode cX1_someoneChangesSide 105 = .ok (.goto (-72), 3) := by decide +kernel
theorem dX1_someoneChangesSide_108 : decode cX1_someoneChangesSide 108 = .ok (.iconst 0, 1) := by decide +kernel
theorem dX1_someoneChangesSide_109 : decode cX1_someoneChangesSide 109 = .ok (.ireturn, 1) := by decide +kernel
theorem dX1_sideOfMain_0 : decode cX1_sideOfMain 0 = .ok (.aload_n 0, 1) := by decide +kernel
theorem dX1_sideOfMain_1 : decode cX1_sideOfMain 1 = .ok (.getfield 9, 3) := by decide +kernel
theorem dX1_sideOfMain_4 : decode cX1_sideOfMain 4 = .ok (.aload_n 2, 1) := by decide +kernel
theorem dX1_sideOfMain_5 : decode cX1_sideOfMain 5 = .ok (.getfield 44, 3) := by decide +kernel
theorem dX1_sideOfMain_8 : decode cX1_sideOfMain 8 = .ok (.aload_n 2, 1) := by decide +kernel
theorem dX1_sideOfMain_9 : decode cX1_sideOfMain 9 = .ok (.getfield 15, 3) := by decide +kernel
theorem dX1_sideOfMain_12 : decode cX1_sideOfMain 12 = .ok (.invokevirtual 47, 3) := by decide +kernel
theorem dX1_sideOfMain_15 : decode cX1_sideOfMain 15 = .ok (.istore_n 3, 1) := by decide +kernel
theorem dX1_sideOfMain_16 : decode cX1_sideOfMain 16 = .ok (.aload_n 0, 1) := by decide +kernel
theorem dX1_sideOfMain_17 : decode cX1_sideOfMain 17 = .ok (.getfield 9, 3) := by decide +kernel
theorem dX1_sideOfMain_20 : decode cX1_sideOfMain 20 = .ok (.aload_n 2, 1) := by decide +kernel
theorem dX1_sideOfMain_21 : decode cX1_sideOfMain 21 = .ok (.invokevirtual 73, 3) := by decide +kernel
theorem dX1_sideOfMain_24 : decode cX1_sideOfMain 24 = .ok (.aload_n 2, 1) := by decide +kernel
theorem dX1_sideOfMain_25 : decode cX1_sideOfMain 25 = .ok (.getfield 15, 3) := by decide +kernel
theorem dX1_sideOfMain_28 : decode cX1_sideOfMain 28 = .ok (.invokevirtual 47, 3) := by decide +kernel
theorem dX1_sideOfMain_31 : decode cX1_sideOfMain 31 = .ok (.istore 4, 2) := by decide +kernel
theorem dX1_sideOfMain_33 : decode cX1_sideOfMain 33 = .ok (.iload_n 3, 1) := by decide +kernel
theorem dX1_sideOfMain_34 : decode cX1_sideOfMain 34 = .ok (.iload 4, 2) := by decide +kernel
theorem dX1_sideOfMain_36 : decode cX1_sideOfMain 36 = .ok (.iload_n 1, 1) := by decide +kernel
theorem dX1_sideOfMain_37 : decode cX1_sideOfMain 37 = .ok (.invokestatic 69, 3) := by decide +kernel
theorem dX1_sideOfMain_40 : decode cX1_sideOfMain 40 = .ok (.invokestatic 77, 3) := by decide +kernel
theorem dX1_sideOfMain_43 : decode cX1_sideOfMain 43 = .ok (.ireturn, 1) := by decide +kernel
theorem dX1_sideOfLesser_0 : decode cX1_sideOfLesser 0 = .ok (.aload_n 0, 1) := by decide +kernel
theorem dX1_sideOfLesser_1 : decode cX1_sideOfLesser 1 = .ok (.iload_n 1, 1) := by decide +kernel
theorem dX1_sideOfLesser_2 : decode cX1_sideOfLesser 2 = .ok (.aload_n 2, 1) := by decide +kernel
theorem dX1_sideOfLesser_3 : decode cX1_sideOfLesser 3 = .ok (.invokevirtual 83, 3) := by decide +kernel
theorem dX1_sideOfLesser_6 : decode cX1_sideOfLesser 6 = .ok (.istore_n 3, 1) := by decide +kernel
theorem dX1_sideOfLesser_7 : decode cX1_sideOfLesser 7 = .ok (.aload_n 2, 1) := by decide +kernel
theorem dX1_sideOfLesser_8 : decode cX1_sideOfLesser 8 = .ok (.getfield 44, 3) := by decide +kernel
theorem dX1_sideOfLesser_11 : decode cX1_sideOfLesser 11 = .ok (.aload_n 2, 1) := by decide +kernel
theorem dX1_sideOfLesser_12 : decode cX1_sideOfLesser 12 = .ok (.invokevirtual 73, 3) := by decide +kernel
theorem dX1_sideOfLesser_15 : decode cX1_sideOfLesser 15 = .ok (.if_icmp .ge 7, 3) := by decide +kernel
theorem dX1_sideOfLesser_18 : decode cX1_sideOfLesser 18 = .ok (.iload_n 3, 1) := by decide +kernel
theorem dX1_sideOfLesser_19 : decode cX1_sideOfLesser 19 = .ok (.goto 5, 3) := by decide +kernel
theorem dX1_sideOfLesser_22 : decode cX1_sideOfLesser 22 = .ok (.iload_n 3, 1) := by decide +kernel
theorem dX1_sideOfLesser_23 : decode cX1_sideOfLesser 23 = .ok (.ineg, 1) := by decide +kernel
theorem dX1_sideOfLesser_24 : decode cX1_sideOfLesser 24 = .ok (.ireturn, 1) := by decide +kernel
theorem dX2_cross_0 : decode cX2_cross 0 = .ok (.iload_n 0, 1) := by decide +kernel
theorem dX2_cross_1 : decode cX2_cross 1 = .ok (.bipush 100, 2) := by decide +kernel
theorem dX2_cross_3 : decode cX2_cross 3 = .ok (.idiv, 1) := by decide +kernel
theorem dX2_cross_4 : decode cX2_cross 4 = .ok (.istore_n 3, 1) := by decide +kernel
theorem dX2_cross_5 : decode cX2_cross 5 = .ok (.iload_n 0, 1) := by decide +kernel
theorem dX2_cross_6 : decode cX2_cross 6 = .ok (.bipush 100, 2) := by decide +kernel
theorem dX2_cross_8 : decode cX2_cross 8 = .ok (.irem, 1) := by decide +kernel
theorem dX2_cross_9 : decode cX2_cross 9 = .ok (.istore 4, 2) := by decide +kernel
theorem dX2_cross_11 : decode cX2_cross 11 = .ok (.iload_n 1, 1) := by decide +kernel
theorem dX2_cross_12 : decode cX2_cross 12 = .ok (.bipush 100, 2) := by decide +kernel
theorem dX2_cross_14 : decode cX2_cross 14 = .ok (.idiv, 1) := by decide +kernel
theorem dX2_cross_15 : decode cX2_cross 15 = .ok (.iload_n 3, 1) := by decide +kernel
theorem dX2_cross_16 : decode cX2_cross 16 = .ok (.isub, 1) := by decide +kernel
theorem dX2_cross_17 : decode cX2_cross 17 = .ok (.iload_n 2, 1) := by decide +kernel
theorem dX2_cross_18 : decode cX2_cross 18 = .ok (.bipush 100, 2) := by decide +kernel
theorem dX2_cross_20 : decode cX2_cross 20 = .ok (.irem, 1) := by decide +kernel
theorem dX2_cross_21 : decode cX2_cross 21 = .ok (.iload 4, 2) := by decide +kernel
theorem dX2_cross_23 : decode cX2_cross 23 = .ok (.isub, 1) := by decide +kernel
theorem dX2_cross_24 : decode cX2_cross 24 = .ok (.imul, 1) := by decide +kernel
theorem dX2_cross_25 : decode cX2_cross 25 = .ok (.iload_n 1, 1) := by decide +kernel
theorem dX2_cross_26 : decode cX2_cross 26 = .ok (.bipush 100, 2) := by decide +kernel
theorem dX2_cross_28 : decode cX2_cross 28 = .ok (.irem, 1) := by decide +kernel
theorem dX2_cross_29 : decode cX2_cross 29 = .ok (.iload 4, 2) := by decide +kernel
theorem dX2_cross_31 : decode cX2_cross 31 = .ok (.isub, 1) := by decide +kernel
theorem dX2_cross_32 : decode cX2_cross 32 = .ok (.iload_n 2, 1) := by decide +kernel
theorem dX2_cross_33 : decode cX2_cross 33 = .ok (.bipush 100, 2) := by decide +kernel
theorem dX2_cross_35 : decode cX2_cross 35 = .ok (.idiv, 1) := by decide +kernel
theorem dX2_cross_36 : decode cX2_cross 36 = .ok (.iload_n 3, 1) := by decide +kernel
theorem dX2_cross_37 : decode cX2_cross 37 = .ok (.isub, 1) := by decide +kernel
theorem dX2_cross_38 : decode cX2_cross 38 = .ok (.imul, 1) := by decide +kernel
theorem dX2_cross_39 : decode cX2_cross 39 = .ok (.isub, 1) := by decide +kernel
theorem dX2_cross_40 : decode cX2_cross 40 = .ok (.ireturn, 1) := by decide +kernel
theorem dX2_dot_0 : decode cX2_dot 0 = .ok (.iload_n 0, 1) := by decide +kernel
theorem dX2_dot_1 : decode cX2_dot 1 = .ok (.bipush 100, 2) := by decide +kernel
theorem dX2_dot_3 : decode cX2_dot 3 = .ok (.idiv, 1) := by decide +kernel
theorem dX2_dot_4 : decode cX2_dot 4 = .ok (.istore_n 3, 1) := by decide +kernel
theorem dX2_dot_5 : decode cX2_dot 5 = .ok (.iload_n 0, 1) := by decide +kernel
theorem dX2_dot_6 : decode cX2_dot 6 = .ok (.bipush 100, 2) := by decide +kernel
theorem dX2_dot_8 : decode cX2_dot 8 = .ok (.irem, 1) := by decide +kernel
theorem dX2_dot_9 : decode cX2_dot 9 = .ok (.istore 4, 2) := by decide +kernel
theorem dX2_dot_11 : decode cX2_dot 11 = .ok (.iload_n 1, 1) := by decide +kernel
theorem dX2_dot_12 : decode cX2_dot 12 = .ok (.bipush 100, 2) := by decide +kernel
theorem dX2_dot_14 : decode cX2_dot 14 = .ok (.idiv, 1) := by decide +kernel
theorem dX2_dot_15 : decode cX2_dot 15 = .ok (.iload_n 3, 1) := by decide +kernel
theorem dX2_dot_16 : decode cX2_dot 16 = .ok (.isub, 1) := by decide +kernel
theorem dX2_dot_17 : decode cX2_dot 17 = .ok (.iload_n 2, 1) := by decide +kernel
theorem dX2_dot_18 : decode cX2_dot 18 = .ok (.bipush 100, 2) := by decide +kernel
theorem dX2_dot_20 : decode cX2_dot 20 = .ok (.idiv, 1) := by decide +kernel
theorem dX2_dot_21 : decode cX2_dot 21 = .ok (.iload_n 3, 1) := by decide +kernel
theorem dX2_dot_22 : decode cX2_dot 22 = .ok (.isub, 1) := by decide +kernel
theorem dX2_dot_23 : decode cX2_dot 23 = .ok (.imul, 1) := by decide +kernel
theorem dX2_dot_24 : decode cX2_dot 24 = .ok (.iload_n 1, 1) := by decide +kernel
theorem dX2_dot_25 : decode cX2_dot 25 = .ok (.bipush 100, 2) := by decide +kernel
theorem dX2_dot_27 : decode cX2_dot 27 = .ok (.irem, 1) := by decide +kernel
theorem dX2_dot_28 : decode cX2_dot 28 = .ok (.iload 4, 2) := by decide +kernel
theorem dX2_dot_30 : decode cX2_dot 30 = .ok (.isub, 1) := by decide +kernel
theorem dX2_dot_31 : decode cX2_dot 31 = .ok (.iload_n 2, 1) := by decide +kernel
theorem dX2_dot_32 : decode cX2_dot 32 = .ok (.bipush 100, 2) := by decide +kernel
theorem dX2_dot_34 : decode cX2_dot 34 = .ok (.irem, 1) := by decide +kernel
theorem dX2_dot_35 : decode cX2_dot 35 = .ok (.iload 4, 2) := by decide +kernel
theorem dX2_dot_37 : decode cX2_dot 37 = .ok (.isub, 1) := by decide +kernel
theorem dX2_dot_38 : decode cX2_dot 38 = .ok (.imul, 1) := by decide +kernel
theorem dX2_dot_39 : decode cX2_dot 39 = .ok (.iadd, 1) := by decide +kernel
theorem dX2_dot_40 : decode cX2_dot 40 = .ok (.ireturn, 1) := by decide +kernel
theorem dX2_isBetween_0 : decode cX2_isBetween 0 = .ok (.iload_n 0, 1) := by decide +kernel
theorem dX2_isBetween_1 : decode cX2_isBetween 1 = .ok (.iload_n 1, 1) := by decide +kernel
theorem dX2_isBetween_2 : decode cX2_isBetween 2 = .ok (.iload_n 2, 1) := by decide +kernel
theorem dX2_isBetween_3 : decode cX2_isBetween 3 = .ok (.invokestatic 7, 3) := by decide +kernel
theorem dX2_isBetween_6 : decode cX2_isBetween 6 = .ok (.ifCond .ne 16, 3) := by decide +kernel
theorem dX2_isBetween_9 : decode cX2_isBetween 9 = .ok (.iload_n 0, 1) := by decide +kernel
theorem dX2_isBetween_10 : decode cX2_isBetween 10 = .ok (.iload_n 1, 1) := by decide +kernel
theorem dX2_isBetween_11 : decode cX2_isBetween 11 = .ok (.iload_n 2, 1) := by decide +kernel
theorem dX2_isBetween_12 : decode cX2_isBetween 12 = .ok (.invokestatic 13, 3) := by decide +kernel
theorem dX2_isBetween_15 : decode cX2_isBetween 15 = .ok (.ifCond .ge 7, 3) := by decide +kernel
theorem dX2_isBetween_18 : decode cX2_isBetween 18 = .ok (.iconst 1, 1) := by decide +kernel
theorem dX2_isBetween_19 : decode cX2_isBetween 19 = .ok (.goto 4, 3) := by decide +kernel
theorem dX2_isBetween_22 : decode cX2_isBetween 22 = .ok (.iconst 0, 1) := by decide +kernel
theorem dX2_isBetween_23 : decode cX2_isBetween 23 = .ok (.ireturn, 1) := by decide +kernel
theorem dX2_meet_0 : decode cX2_meet 0 = .ok (.iload_n 0, 1) := by decide +kernel
theorem dX2_meet_1 : decode cX2_meet 1 = .ok (.iload_n 1, 1) := by decide +kernel
theorem dX2_meet_2 : decode cX2_meet 2 = .ok (.iload_n 2, 1) := by decide +kernel
theorem dX2_meet_3 : decode cX2_meet 3 = .ok (.invokestatic 7, 3) := by decide +kernel
theorem dX2_meet_6 : decode cX2_meet 6 = .ok (.istore 4, 2) := by decide +kernel
theorem dX2_meet_8 : decode cX2_meet 8 = .ok (.iload_n 0, 1) := by decide +kernel
theorem dX2_meet_9 : decode cX2_meet 9 = .ok (.iload_n 1, 1) := by decide +kernel
theorem dX2_meet_10 : decode cX2_meet 10 = .ok (.iload_n 3, 1) := by decide +kernel
theorem dX2_meet_11 : decode cX2_meet 11 = .ok (.invokestatic 7, 3) := by decide +kernel
theorem dX2_meet_14 : decode cX2_meet 14 = .ok (.istore 5, 2) := by decide +kernel
theorem dX2_meet_16 : decode cX2_meet 16 = .ok (.iload 4, 2) := by decide +kernel
theorem dX2_meet_18 : decode cX2_meet 18 = .ok (.iload 5, 2) := by decide +kernel
theorem dX2_meet_20 : decode cX2_meet 20 = .ok (.imul, 1) := by decide +kernel
theorem dX2_meet_21 : decode cX2_meet 21 = .ok (.ifCond .gt 19, 3) := by decide +kernel
theorem dX2_meet_24 : decode cX2_meet 24 = .ok (.iload_n 2, 1) := by decide +kernel
theorem dX2_meet_25 : decode cX2_meet 25 = .ok (.iload_n 3, 1) := by decide +kernel
theorem dX2_meet_26 : decode cX2_meet 26 = .ok (.iload_n 0, 1) := by decide +kernel
theorem dX2_meet_27 : decode cX2_meet 27 = .ok (.invokestatic 7, 3) := by decide +kernel
theorem dX2_meet_30 : decode cX2_meet 30 = .ok (.iload_n 2, 1) := by decide +kernel
theorem dX2_meet_31 : decode cX2_meet 31 = .ok (.iload_n 3, 1) := by decide +kernel
theorem dX2_meet_32 : decode cX2_meet 32 = .ok (.iload_n 1, 1) := by decide +kernel
theorem dX2_meet_33 : decode cX2_meet 33 = .ok (.invokestatic 7, 3) := by decide +kernel
theorem dX2_meet_36 : decode cX2_meet 36 = .ok (.imul, 1) := by decide +kernel
theorem dX2_meet_37 : decode cX2_meet 37 = .ok (.ifCond .le 5, 3) := by decide +kernel
theorem dX2_meet_40 : decode cX2_meet 40 = .ok (.iconst 0, 1) := by decide +kernel
theorem dX2_meet_41 : decode cX2_meet 41 = .ok (.ireturn, 1) := by decide +kernel
theorem dX2_meet_42 : decode cX2_meet 42 = .ok (.iload 4, 2) := by decide +kernel
theorem dX2_meet_44 : decode cX2_meet 44 = .ok (.ifCond .ne 8, 3) := by decide +kernel
theorem dX2_meet_47 : decode cX2_meet 47 = .ok (.iload 5, 2) := by decide +kernel
theorem dX2_meet_49 : decode cX2_meet 49 = .ok (.ifCond .eq 5, 3) := by decide +kernel
theorem dX2_meet_52 : decode cX2_meet 52 = .ok (.iconst 1, 1) := by decide +kernel
theorem dX2_meet_53 : decode cX2_meet 53 = .ok (.ireturn, 1) := by decide +kernel
theorem dX2_meet_54 : decode cX2_meet 54 = .ok (.iload_n 2, 1) := by decide +kernel
theorem dX2_meet_55 : decode cX2_meet 55 = .ok (.iload_n 0, 1) := by decide +kernel
theorem dX2_meet_56 : decode cX2_meet 56 = .ok (.iload_n 1, 1) := by decide +kernel
theorem dX2_meet_57 : decode cX2_meet 57 = .ok (.invokestatic 13, 3) := by decide +kernel
theorem dX2_meet_60 : decode cX2_meet 60 = .ok (.ifCond .le 21, 3) := by decide +kernel
theorem dX2_meet_63 : decode cX2_meet 63 = .ok (.iload_n 3, 1) := by decide +kernel
theorem dX2_meet_64 : decode cX2_meet 64 = .ok (.iload_n 0, 1) := by decide +kernel
theorem dX2_meet_65 : decode cX2_meet 65 = .ok (.iload_n 1, 1) := by decide +kernel
theorem dX2_meet_66 : decode cX2_meet 66 = .ok (.invokestatic 13, 3) := by decide +kernel
theorem dX2_meet_69 : decode cX2_meet 69 = .ok (.ifCond .le 12, 3) := by decide +kernel
theorem dX2_meet_72 : decode cX2_meet 72 = .ok (.iload_n 0, 1) := by decide +kernel
theorem dX2_meet_73 : decode cX2_meet 73 = .ok (.iload_n 2, 1) := by decide +kernel
theorem dX2_meet_74 : decode cX2_meet 74 = .ok (.iload_n 3, 1) := by decide +kernel
theorem dX2_meet_75 : decode cX2_meet 75 = .ok (.invokestatic 13, 3) := by decide +kernel
theorem dX2_meet_78 : decode cX2_meet 78 = .ok (.ifCond .gt 7, 3) := by decide +kernel
theorem dX2_meet_81 : decode cX2_meet 81 = .ok (.iconst 1, 1) := by decide +kernel
theorem dX2_meet_82 : decode cX2_meet 82 = .ok (.goto 4, 3) := by decide +kernel
theorem dX2_meet_85 : decode cX2_meet 85 = .ok (.iconst 0, 1) := by decide +kernel
theorem dX2_meet_86 : decode cX2_meet 86 = .ok (.ireturn, 1) := by decide +kernel
theorem dX2_inCone_0 : decode cX2_inCone 0 = .ok (.iload_n 0, 1) := by decide +kernel
theorem dX2_inCone_1 : decode cX2_inCone 1 = .ok (.iload_n 1, 1) := by decide +kernel
theorem dX2_inCone_2 : decode cX2_inCone 2 = .ok (.iload_n 2, 1) := by decide +kernel
theorem dX2_inCone_3 : decode cX2_inCone 3 = .ok (.invokestatic 13, 3) := by decide +kernel
theorem dX2_inCone_6 : decode cX2_inCone 6 = .ok (.istore_n 3, 1) := by decide +kernel
theorem dX2_inCone_7 : decode cX2_inCone 7 = .ok (.iload_n 3, 1) := by decide +kernel
theorem dX2_inCone_8 : decode cX2_inCone 8 = .ok (.ifCond .le 28, 3) := by decide +kernel
theorem dX2_inCone_11 : decode cX2_inCone 11 = .ok (.iconst 2, 1) := by decide +kernel
theorem dX2_inCone_12 : decode cX2_inCone 12 = .ok (.iload_n 3, 1) := by decide +kernel
theorem dX2_inCone_13 : decode cX2_inCone 13 = .ok (.imul, 1) := by decide +kernel
theorem dX2_inCone_14 : decode cX2_inCone 14 = .ok (.iload_n 3, 1) := by decide +kernel
theorem dX2_inCone_15 : decode cX2_inCone 15 = .ok (.imul, 1) := by decide +kernel
theorem dX2_inCone_16 : decode cX2_inCone 16 = .ok (.iload_n 0, 1) := by decide +kernel
theorem dX2_inCone_17 : decode cX2_inCone 17 = .ok (.iload_n 1, 1) := by decide +kernel
theorem dX2_inCone_18 : decode cX2_inCone 18 = .ok (.iload_n 1, 1) := by decide +kernel
theorem dX2_inCone_19 : decode cX2_inCone 19 = .ok (.invokestatic 13, 3) := by decide +kernel
theorem dX2_inCone_22 : decode cX2_inCone 22 = .ok (.iload_n 0, 1) := by decide +kernel
theorem dX2_inCone_23 : decode cX2_inCone 23 = .ok (.iload_n 2, 1) := by decide +kernel
theorem dX2_inCone_24 : decode cX2_inCone 24 = .ok (.iload_n 2, 1) := by decide +kernel
theorem dX2_inCone_25 : decode cX2_inCone 25 = .ok (.invokestatic 13, 3) := by decide +kernel
theorem dX2_inCone_28 : decode cX2_inCone 28 = .ok (.imul, 1) := by decide +kernel
theorem dX2_inCone_29 : decode cX2_inCone 29 = .ok (.if_icmp .lt 7, 3) := by decide +kernel
theorem dX2_inCone_32 : decode cX2_inCone 32 = .ok (.iconst 1, 1) := by decide +kernel
theorem dX2_inCone_33 : decode cX2_inCone 33 = .ok (.goto 4, 3) := by decide +kernel
theorem dX2_inCone_36 : decode cX2_inCone 36 = .ok (.iconst 0, 1) := by decide +kernel
theorem dX2_inCone_37 : decode cX2_inCone 37 = .ok (.ireturn, 1) := by decide +kernel
theorem dX2_sizeSeen_0 : decode cX2_sizeSeen 0 = .ok (.iload_n 0, 1) := by decide +kernel
theorem dX2_sizeSeen_1 : decode cX2_sizeSeen 1 = .ok (.iload_n 1, 1) := by decide +kernel
theorem dX2_sizeSeen_2 : decode cX2_sizeSeen 2 = .ok (.iload_n 1, 1) := by decide +kernel
theorem dX2_sizeSeen_3 : decode cX2_sizeSeen 3 = .ok (.invokestatic 13, 3) := by decide +kernel
theorem dX2_sizeSeen_6 : decode cX2_sizeSeen 6 = .ok (.istore_n 2, 1) := by decide +kernel
theorem dX2_sizeSeen_7 : decode cX2_sizeSeen 7 = .ok (.iload_n 2, 1) := by decide +kernel
theorem dX2_sizeSeen_8 : decode cX2_sizeSeen 8 = .ok (.bipush 16, 2) := by decide +kernel
theorem dX2_sizeSeen_10 : decode cX2_sizeSeen 10 = .ok (.if_icmp .gt 7, 3) := by decide +kernel
theorem dX2_sizeSeen_13 : decode cX2_sizeSeen 13 = .ok (.iconst 0, 1) := by decide +kernel
theorem dX2_sizeSeen_14 : decode cX2_sizeSeen 14 = .ok (.goto 14, 3) := by decide +kernel
theorem dX2_sizeSeen_17 : decode cX2_sizeSeen 17 = .ok (.iload_n 2, 1) := by decide +kernel
theorem dX2_sizeSeen_18 : decode cX2_sizeSeen 18 = .ok (.bipush 100, 2) := by decide +kernel
theorem dX2_sizeSeen_20 : decode cX2_sizeSeen 20 = .ok (.if_icmp .gt 7, 3) := by decide +kernel
theorem dX2_sizeSeen_23 : decode cX2_sizeSeen 23 = .ok (.iconst 1, 1) := by decide +kernel
theorem dX2_sizeSeen_24 : decode cX2_sizeSeen 24 = .ok (.goto 4, 3) := by decide +kernel
theorem dX2_sizeSeen_27 : decode cX2_sizeSeen 27 = .ok (.iconst 2, 1) := by decide +kernel
theorem dX2_sizeSeen_28 : decode cX2_sizeSeen 28 = .ok (.ireturn, 1) := by decide +kernel
theorem dX3_init_0 : decode cX3_init 0 = .ok (.aload_n 0, 1) := by decide +kernel
theorem dX3_init_1 : decode cX3_init 1 = .ok (.invokespecial 3, 3) := by decide +kernel
theorem dX3_init_4 : decode cX3_init 4 = .ok (.aload_n 0, 1) := by decide +kernel
theorem dX3_init_5 : decode cX3_init 5 = .ok (.bipush 8, 2) := by decide +kernel
theorem dX3_init_7 : decode cX3_init 7 = .ok (.newarray .int, 2) := by decide +kernel
theorem dX3_init_9 : decode cX3_init 9 = .ok (.putfield 9, 3) := by decide +kernel
theorem dX3_init_12 : decode cX3_init 12 = .ok (.aload_n 0, 1) := by decide +kernel
theorem dX3_init_13 : decode cX3_init 13 = .ok (.bipush 80, 2) := by decide +kernel
theorem dX3_init_15 : decode cX3_init 15 = .ok (.newarray .int, 2) := by decide +kernel
theorem dX3_init_17 : decode cX3_init 17 = .ok (.putfield 15, 3) := by decide +kernel
theorem dX3_init_20 : decode cX3_init 20 = .ok (.aload_n 0, 1) := by decide +kernel
theorem dX3_init_21 : decode cX3_init 21 = .ok (.bipush 27, 2) := by decide +kernel
theorem dX3_init_23 : decode cX3_init 23 = .ok (.newarray .boolean, 2) := by decide +kernel
theorem dX3_init_25 : decode cX3_init 25 = .ok (.putfield 18, 3) := by decide +kernel
theorem dX3_init_28 : decode cX3_init 28 = .ok (.aload_n 0, 1) := by decide +kernel
theorem dX3_init_29 : decode cX3_init 29 = .ok (.bipush 8, 2) := by decide +kernel
theorem dX3_init_31 : decode cX3_init 31 = .ok (.newarray .int, 2) := by decide +kernel
theorem dX3_init_33 : decode cX3_init 33 = .ok (.putfield 22, 3) := by decide +kernel
theorem dX3_init_36 : decode cX3_init 36 = .ok (.aload_n 0, 1) := by decide +kernel
theorem dX3_init_37 : decode cX3_init 37 = .ok (.bipush 10, 2) := by decide +kernel
theorem dX3_init_39 : decode cX3_init 39 = .ok (.newarray .int, 2) := by decide +kernel
theorem dX3_init_41 : decode cX3_init 41 = .ok (.putfield 25, 3) := by decide +kernel
theorem dX3_init_44 : decode cX3_init 44 = .ok (.aload_n 0, 1) := by decide +kernel
theorem dX3_init_45 : decode cX3_init 45 = .ok (.aload_n 1, 1) := by decide +kernel
theorem dX3_init_46 : decode cX3_init 46 = .ok (.putfield 28, 3) := by decide +kernel
theorem dX3_init_49 : decode cX3_init 49 = .ok (.aload_n 0, 1) := by decide +kernel
theorem dX3_init_50 : decode cX3_init 50 = .ok (.aload_n 2, 1) := by decide +kernel
theorem dX3_init_51 : decode cX3_init 51 = .ok (.putfield 32, 3) := by decide +kernel
theorem dX3_init_54 : decode cX3_init 54 = .ok (.aload_n 0, 1) := by decide +kernel
theorem dX3_init_55 : decode cX3_init 55 = .ok (.aload_n 3, 1) := by decide +kernel
theorem dX3_init_56 : decode cX3_init 56 = .ok (.putfield 36, 3) := by decide +kernel
theorem dX3_init_59 : decode cX3_init 59 = .ok (.return_, 1) := by decide +kernel
theorem dX3_forget_0 : decode cX3_forget 0 = .ok (.aload_n 0, 1) := by decide +kernel
theorem dX3_forget_1 : decode cX3_forget 1 = .ok (.iconst 0, 1) := by decide +kernel
theorem dX3_forget_2 : decode cX3_forget 2 = .ok (.putfield 40, 3) := by decide +kernel
theorem dX3_forget_5 : decode cX3_forget 5 = .ok (.return_, 1) := by decide +kernel
theorem dX3_refresh_0 : decode cX3_refresh 0 = .ok (.aload_n 0, 1) := by decide +kernel
theorem dX3_refresh_1 : decode cX3_refresh 1 = .ok (.getfield 40, 3) := by decide +kernel
theorem dX3_refresh_4 : decode cX3_refresh 4 = .ok (.ifCond .eq 4, 3) := by decide +kernel
theorem dX3_refresh_7 : decode cX3_refresh 7 = .ok (.return_, 1) := by decide +kernel
theorem dX3_refresh_8 : decode cX3_refresh 8 = .ok (.aload_n 0, 1) := by decide +kernel
theorem dX3_refresh_9 : decode cX3_refresh 9 = .ok (.iconst 1, 1) := by decide +kernel
theorem dX3_refresh_10 : decode cX3_refresh 10 = .ok (.putfield 40, 3) := by decide +kernel
theorem dX3_refresh_13 : decode cX3_refresh 13 = .ok (.iconst 0, 1) := by decide +kernel
theorem dX3_refresh_14 : decode cX3_refresh 14 = .ok (.istore_n 1, 1) := by decide +kernel
theorem dX3_refresh_15 : decode cX3_refresh 15 = .ok (.iload_n 1, 1) := by decide +kernel
theorem dX3_refresh_16 : decode cX3_refresh 16 = .ok (.aload_n 0, 1) := by decide +kernel
theorem dX3_refresh_17 : decode cX3_refresh 17 = .ok (.getfield 36, 3) := by decide +kernel
theorem dX3_refresh_20 : decode cX3_refresh 20 = .ok (.getfield 44, 3) := by decide +kernel
theorem dX3_refresh_23 : decode cX3_refresh 23 = .ok (.if_icmp .ge 118, 3) := by decide +kernel
theorem dX3_refresh_26 : decode cX3_refresh 26 = .ok (.aload_n 0, 1) := by decide +kernel
theorem dX3_refresh_27 : decode cX3_refresh 27 = .ok (.getfield 36, 3) := by decide +kernel
theorem dX3_refresh_30 : decode cX3_refresh 30 = .ok (.getfield 50, 3) := by decide +kernel
theorem dX3_refresh_33 : decode cX3_refresh 33 = .ok (.iload_n 1, 1) := by decide +kernel
theorem dX3_refresh_34 : decode cX3_refresh 34 = .ok (.aaload, 1) := by decide +kernel
theorem dX3_refresh_35 : decode cX3_refresh 35 = .ok (.astore_n 2, 1) := by decide +kernel
theorem dX3_refresh_36 : decode cX3_refresh 36 = .ok (.aload_n 0, 1) := by decide +kernel
theorem dX3_refresh_37 : decode cX3_refresh 37 = .ok (.getfield 9, 3) := by decide +kernel
theorem dX3_refresh_40 : decode cX3_refresh 40 = .ok (.iload_n 1, 1) := by decide +kernel
theorem dX3_refresh_41 : decode cX3_refresh 41 = .ok (.iconst 0, 1) := by decide +kernel
theorem dX3_refresh_42 : decode cX3_refresh 42 = .ok (.iastore, 1) := by decide +kernel
theorem dX3_refresh_43 : decode cX3_refresh 43 = .ok (.iconst 0, 1) := by decide +kernel
theorem dX3_refresh_44 : decode cX3_refresh 44 = .ok (.istore_n 3, 1) := by decide +kernel
theorem dX3_refresh_45 : decode cX3_refresh 45 = .ok (.iload_n 3, 1) := by decide +kernel
theorem dX3_refresh_46 : decode cX3_refresh 46 = .ok (.aload_n 0, 1) := by decide +kernel
theorem dX3_refresh_47 : decode cX3_refresh 47 = .ok (.getfield 32, 3) := by decide +kernel
theorem dX3_refresh_50 : decode cX3_refresh 50 = .ok (.getfield 54, 3) := by decide +kernel
theorem dX3_refresh_53 : decode cX3_refresh 53 = .ok (.if_icmp .ge 82, 3) := by decide +kernel
theorem dX3_refresh_56 : decode cX3_refresh 56 = .ok (.aload_n 0, 1) := by decide +kernel
theorem dX3_refresh_57 : decode cX3_refresh 57 = .ok (.getfield 32, 3) := by decide +kernel
theorem dX3_refresh_60 : decode cX3_refresh 60 = .ok (.getfield 59, 3) := by decide +kernel
theorem dX3_refresh_63 : decode cX3_refresh 63 = .ok (.iload_n 3, 1) := by decide +kernel
theorem dX3_refresh_64 : decode cX3_refresh 64 = .ok (.iaload, 1) := by decide +kernel
theorem dX3_refresh_65 : decode cX3_refresh 65 = .ok (.istore 4, 2) := by decide +kernel
theorem dX3_refresh_67 : decode cX3_refresh 67 = .ok (.aload_n 0, 1) := by decide +kernel
theorem dX3_refresh_68 : decode cX3_refresh 68 = .ok (.getfield 9, 3) := by decide +kernel
theorem dX3_refresh_71 : decode cX3_refresh 71 = .ok (.iload_n 1, 1) := by decide +kernel
theorem dX3_refresh_72 : decode cX3_refresh 72 = .ok (.dup2, 1) := by decide +kernel
theorem dX3_refresh_73 : decode cX3_refresh 73 = .ok (.iaload, 1) := by decide +kernel
theorem dX3_refresh_74 : decode cX3_refresh 74 = .ok (.aload_n 0, 1) := by decide +kernel
theorem dX3_refresh_75 : decode cX3_refresh 75 = .ok (.getfield 28, 3) := by decide +kernel
theorem dX3_refresh_78 : decode cX3_refresh 78 = .ok (.iload 4, 2) := by decide +kernel
theorem dX3_refresh_80 : decode cX3_refresh 80 = .ok (.aload_n 2, 1) := by decide +kernel
theorem dX3_refresh_81 : decode cX3_refresh 81 = .ok (.invokevirtual 62, 3) := by decide +kernel
theorem dX3_refresh_84 : decode cX3_refresh 84 = .ok (.ifCond .ne 9, 3) := by decide +kernel
theorem dX3_refresh_87 : decode cX3_refresh 87 = .ok (.iconst 1, 1) := by decide +kernel
theorem dX3_refresh_88 : decode cX3_refresh 88 = .ok (.iload_n 3, 1) := by decide +kernel
theorem dX3_refresh_89 : decode cX3_refresh 89 = .ok (.ishl, 1) := by decide +kernel
theorem dX3_refresh_90 : decode cX3_refresh 90 = .ok (.goto 4, 3) := by decide +kernel
theorem dX3_refresh_93 : decode cX3_refresh 93 = .ok (.iconst 0, 1) := by decide +kernel
theorem dX3_refresh_94 : decode cX3_refresh 94 = .ok (.ior, 1) := by decide +kernel
theorem dX3_refresh_95 : decode cX3_refresh 95 = .ok (.iastore, 1) := by decide +kernel
theorem dX3_refresh_96 : decode cX3_refresh 96 = .ok (.aload_n 0, 1) := by decide +kernel
theorem dX3_refresh_97 : decode cX3_refresh 97 = .ok (.getfield 15, 3) := by decide +kernel
theorem dX3_refresh_100 : decode cX3_refresh 100 = .ok (.iload_n 1, 1) := by decide +kernel
theorem dX3_refresh_101 : decode cX3_refresh 101 = .ok (.bipush 10, 2) := by decide +kernel
theorem dX3_refresh_103 : decode cX3_refresh 103 = .ok (.imul, 1) := by decide +kernel
theorem dX3_refresh_104 : decode cX3_refresh 104 = .ok (.iload_n 3, 1) := by decide +kernel
theorem dX3_refresh_105 : decode cX3_refresh 105 = .ok (.iadd, 1) := by decide +kernel
theorem dX3_refresh_106 : decode cX3_refresh 106 = .ok (.aload_n 2, 1) := by decide +kernel
theorem dX3_refresh_107 : decode cX3_refresh 107 = .ok (.getfield 68, 3) := by decide +kernel
theorem dX3_refresh_110 : decode cX3_refresh 110 = .ok (.iconst 1, 1) := by decide +kernel
theorem dX3_refresh_111 : decode cX3_refresh 111 = .ok (.if_icmp .ne 16, 3) := by decide +kernel
theorem dX3_refresh_114 : decode cX3_refresh 114 = .ok (.aload_n 0, 1) := by decide +kernel
theorem dX3_refresh_115 : decode cX3_refresh 115 = .ok (.getfield 28, 3) := by decide +kernel
theorem dX3_refresh_118 : decode cX3_refresh 118 = .ok (.iload 4, 2) := by decide +kernel
theorem dX3_refresh_120 : decode cX3_refresh 120 = .ok (.aload_n 2, 1) := by decide +kernel
theorem dX3_refresh_121 : decode cX3_refresh 121 = .ok (.invokevirtual 73, 3) := by decide +kernel
theorem dX3_refresh_124 : decode cX3_refresh 124 = .ok (.goto 4, 3) := by decide +kernel
theorem dX3_refresh_127 : decode cX3_refresh 127 = .ok (.iconst 0, 1) := by decide +kernel
theorem dX3_refresh_128 : decode cX3_refresh 128 = .ok (.iastore, 1) := by decide +kernel
theorem dX3_refresh_129 : decode cX3_refresh 129 = .ok (.iinc 3 1, 3) := by decide +kernel
theorem dX3_refresh_132 : decode cX3_refresh 132 = .ok (.goto (-87), 3) := by decide +kernel
theorem dX3_refresh_135 : decode cX3_refresh 135 = .ok (.iinc 1 1, 3) := by decide +kernel
theorem dX3_refresh_138 : decode cX3_refresh 138 = .ok (.goto (-123), 3) := by decide +kernel
theorem dX3_refresh_141 : decode cX3_refresh 141 = .ok (.aload_n 0, 1) := by decide +kernel
theorem dX3_refresh_142 : decode cX3_refresh 142 = .ok (.aload_n 0, 1) := by decide +kernel
theorem dX3_refresh_143 : decode cX3_refresh 143 = .ok (.invokevirtual 76, 3) := by decide +kernel
theorem dX3_refresh_146 : decode cX3_refresh 146 = .ok (.putfield 80, 3) := by decide +kernel
theorem dX3_refresh_149 : decode cX3_refresh 149 = .ok (.aload_n 0, 1) := by decide +kernel
theorem dX3_refresh_150 : decode cX3_refresh 150 = .ok (.getfield 80, 3) := by decide +kernel
theorem dX3_refresh_153 : decode cX3_refresh 153 = .ok (.ifCond .lt 11, 3) := by decide +kernel
theorem dX3_refresh_156 : decode cX3_refresh 156 = .ok (.aload_n 0, 1) := by decide +kernel
theorem dX3_refresh_157 : decode cX3_refresh 157 = .ok (.invokevirtual 83, 3) := by decide +kernel
theorem dX3_refresh_160 : decode cX3_refresh 160 = .ok (.aload_n 0, 1) := by decide +kernel
theorem dX3_refresh_161 : decode cX3_refresh 161 = .ok (.invokevirtual 86, 3) := by decide +kernel
theorem dX3_refresh_164 : decode cX3_refresh 164 = .ok (.return_, 1) := by decide +kernel
theorem dX3_search_0 : decode cX3_search 0 = .ok (.iconst 1, 1) := by decide +kernel
theorem dX3_search_1 : decode cX3_search 1 = .ok (.aload_n 0, 1) := by decide +kernel
theorem dX3_search_2 : decode cX3_search 2 = .ok (.getfield 32, 3) := by decide +kernel
theorem dX3_search_5 : decode cX3_search 5 = .ok (.getfield 54, 3) := by decide +kernel
theorem dX3_search_8 : decode cX3_search 8 = .ok (.ishl, 1) := by decide +kernel
theorem dX3_search_9 : decode cX3_search 9 = .ok (.iconst 1, 1) := by decide +kernel
theorem dX3_search_10 : decode cX3_search 10 = .ok (.isub, 1) := by decide +kernel
theorem dX3_search_11 : decode cX3_search 11 = .ok (.istore_n 1, 1) := by decide +kernel
theorem dX3_search_12 : decode cX3_search 12 = .ok (.aload_n 0, 1) := by decide +kernel
theorem dX3_search_13 : decode cX3_search 13 = .ok (.iload_n 1, 1) := by decide +kernel
theorem dX3_search_14 : decode cX3_search 14 = .ok (.invokevirtual 89, 3) := by decide +kernel
theorem dX3_search_17 : decode cX3_search 17 = .ok (.ifCond .ne 6, 3) := by decide +kernel
theorem dX3_search_20 : decode cX3_search 20 = .ok (.bipush (-5), 2) := by decide +kernel
theorem dX3_search_22 : decode cX3_search 22 = .ok (.ireturn, 1) := by decide +kernel
theorem dX3_search_23 : decode cX3_search 23 = .ok (.iconst 0, 1) := by decide +kernel
theorem dX3_search_24 : decode cX3_search 24 = .ok (.istore_n 2, 1) := by decide +kernel
theorem dX3_search_25 : decode cX3_search 25 = .ok (.iload_n 2, 1) := by decide +kernel
theorem dX3_search_26 : decode cX3_search 26 = .ok (.aload_n 0, 1) := by decide +kernel
theorem dX3_search_27 : decode cX3_search 27 = .ok (.getfield 32, 3) := by decide +kernel
theorem dX3_search_30 : decode cX3_search 30 = .ok (.getfield 54, 3) := by decide +kernel
theorem dX3_search_33 : decode cX3_search 33 = .ok (.if_icmp .gt 45, 3) := by decide +kernel
theorem dX3_search_36 : decode cX3_search 36 = .ok (.iconst 0, 1) := by decide +kernel
theorem dX3_search_37 : decode cX3_search 37 = .ok (.istore_n 3, 1) := by decide +kernel
theorem dX3_search_38 : decode cX3_search 38 = .ok (.iload_n 3, 1) := by decide +kernel
theorem dX3_search_39 : decode cX3_search 39 = .ok (.iload_n 1, 1) := by decide +kernel
theorem dX3_search_40 : decode cX3_search 40 = .ok (.if_icmp .gt 32, 3) := by decide +kernel
theorem dX3_search_43 : decode cX3_search 43 = .ok (.iload_n 3, 1) := by decide +kernel
theorem dX3_search_44 : decode cX3_search 44 = .ok (.invokestatic 93, 3) := by decide +kernel
theorem dX3_search_47 : decode cX3_search 47 = .ok (.iload_n 2, 1) := by decide +kernel
theorem dX3_search_48 : decode cX3_search 48 = .ok (.if_icmp .ne 18, 3) := by decide +kernel
theorem dX3_search_51 : decode cX3_search 51 = .ok (.aload_n 0, 1) := by decide +kernel
theorem dX3_search_52 : decode cX3_search 52 = .ok (.iload_n 3, 1) := by decide +kernel
theorem dX3_search_53 : decode cX3_search 53 = .ok (.invokevirtual 89, 3) := by decide +kernel
theorem dX3_search_56 : decode cX3_search 56 = .ok (.ifCond .eq 10, 3) := by decide +kernel
theorem dX3_search_59 : decode cX3_search 59 = .ok (.aload_n 0, 1) := by decide +kernel
theorem dX3_search_60 : decode cX3_search 60 = .ok (.iload_n 3, 1) := by decide +kernel
theorem dX3_search_61 : decode cX3_search 61 = .ok (.putfield 99, 3) := by decide +kernel
theorem dX3_search_64 : decode cX3_search 64 = .ok (.iload_n 2, 1) := by decide +kernel
theorem dX3_search_65 : decode cX3_search 65 = .ok (.ireturn, 1) := by decide +kernel
theorem dX3_search_66 : decode cX3_search 66 = .ok (.iinc 3 1, 3) := by decide +kernel
theorem dX3_search_69 : decode cX3_search 69 = .ok (.goto (-31), 3) := by decide +kernel
theorem dX3_search_72 : decode cX3_search 72 = .ok (.iinc 2 1, 3) := by decide +kernel
theorem dX3_search_75 : decode cX3_search 75 = .ok (.goto (-50), 3) := by decide +kernel
theorem dX3_search_78 : decode cX3_search 78 = .ok (.bipush (-5), 2) := by decide +kernel
theorem dX3_search_80 : decode cX3_search 80 = .ok (.ireturn, 1) := by decide +kernel
theorem dX3_canFilm_0 : decode cX3_canFilm 0 = .ok (.aload_n 0, 1) := by decide +kernel
theorem dX3_canFilm_1 : decode cX3_canFilm 1 = .ok (.getfield 36, 3) := by decide +kernel
theorem dX3_canFilm_4 : decode cX3_canFilm 4 = .ok (.getfield 44, 3) := by decide +kernel
theorem dX3_canFilm_7 : decode cX3_canFilm 7 = .ok (.iconst 3, 1) := by decide +kernel
theorem dX3_canFilm_8 : decode cX3_canFilm 8 = .ok (.imul, 1) := by decide +kernel
theorem dX3_canFilm_9 : decode cX3_canFilm 9 = .ok (.istore_n 2, 1) := by decide +kernel
theorem dX3_canFilm_10 : decode cX3_canFilm 10 = .ok (.aload_n 0, 1) := by decide +kernel
theorem dX3_canFilm_11 : decode cX3_canFilm 11 = .ok (.getfield 18, 3) := by decide +kernel
theorem dX3_canFilm_14 : decode cX3_canFilm 14 = .ok (.iload_n 2, 1) := by decide +kernel
theorem dX3_canFilm_15 : decode cX3_canFilm 15 = .ok (.iconst 1, 1) := by decide +kernel
theorem dX3_canFilm_16 : decode cX3_canFilm 16 = .ok (.bastore, 1) := by decide +kernel
theorem dX3_canFilm_17 : decode cX3_canFilm 17 = .ok (.aload_n 0, 1) := by decide +kernel
theorem dX3_canFilm_18 : decode cX3_canFilm 18 = .ok (.getfield 18, 3) := by decide +kernel
theorem dX3_canFilm_21 : decode cX3_canFilm 21 = .ok (.iload_n 2, 1) := by decide +kernel
theorem dX3_canFilm_22 : decode cX3_canFilm 22 = .ok (.iconst 1, 1) := by decide +kernel
theorem dX3_canFilm_23 : decode cX3_canFilm 23 = .ok (.iadd, 1) := by decide +kernel
theorem dX3_canFilm_24 : decode cX3_canFilm 24 = .ok (.iconst 1, 1) := by decide +kernel
theorem dX3_canFilm_25 : decode cX3_canFilm 25 = .ok (.bastore, 1) := by decide +kernel
theorem dX3_canFilm_26 : decode cX3_canFilm 26 = .ok (.aload_n 0, 1) := by decide +kernel
theorem dX3_canFilm_27 : decode cX3_canFilm 27 = .ok (.getfield 18, 3) := by decide +kernel
theorem dX3_canFilm_30 : decode cX3_canFilm 30 = .ok (.iload_n 2, 1) := by decide +kernel
theorem dX3_canFilm_31 : decode cX3_canFilm 31 = .ok (.iconst 2, 1) := by decide +kernel
theorem dX3_canFilm_32 : decode cX3_canFilm 32 = .ok (.iadd, 1) := by decide +kernel
theorem dX3_canFilm_33 : decode cX3_canFilm 33 = .ok (.iconst 1, 1) := by decide +kernel
theorem dX3_canFilm_34 : decode cX3_canFilm 34 = .ok (.bastore, 1) := by decide +kernel
theorem dX3_canFilm_35 : decode cX3_canFilm 35 = .ok (.aload_n 0, 1) := by decide +kernel
theorem dX3_canFilm_36 : decode cX3_canFilm 36 = .ok (.getfield 36, 3) := by decide +kernel
theorem dX3_canFilm_39 : decode cX3_canFilm 39 = .ok (.getfield 44, 3) := by decide +kernel
theorem dX3_canFilm_42 : decode cX3_canFilm 42 = .ok (.iconst 1, 1) := by decide +kernel
theorem dX3_canFilm_43 : decode cX3_canFilm 43 = .ok (.isub, 1) := by decide +kernel
theorem dX3_canFilm_44 : decode cX3_canFilm 44 = .ok (.istore_n 3, 1) := by decide +kernel
theorem dX3_canFilm_45 : decode cX3_canFilm 45 = .ok (.iload_n 3, 1) := by decide +kernel
theorem dX3_canFilm_46 : decode cX3_canFilm 46 = .ok (.ifCond .lt 53, 3) := by decide +kernel
theorem dX3_canFilm_49 : decode cX3_canFilm 49 = .ok (.iconst (-1), 1) := by decide +kernel
theorem dX3_canFilm_50 : decode cX3_canFilm 50 = .ok (.istore 4, 2) := by decide +kernel
theorem dX3_canFilm_52 : decode cX3_canFilm 52 = .ok (.iload 4, 2) := by decide +kernel
theorem dX3_canFilm_54 : decode cX3_canFilm 54 = .ok (.iconst 1, 1) := by decide +kernel
theorem dX3_canFilm_55 : decode cX3_canFilm 55 = .ok (.if_icmp .gt 38, 3) := by decide +kernel
theorem dX3_canFilm_58 : decode cX3_canFilm 58 = .ok (.aload_n 0, 1) := by decide +kernel
theorem dX3_canFilm_59 : decode cX3_canFilm 59 = .ok (.getfield 18, 3) := by decide +kernel
theorem dX3_canFilm_62 : decode cX3_canFilm 62 = .ok (.iload_n 3, 1) := by decide +kernel
theorem dX3_canFilm_63 : decode cX3_canFilm 63 = .ok (.iconst 3, 1) := by decide +kernel
theorem dX3_canFilm_64 : decode cX3_canFilm 64 = .ok (.imul, 1) := by decide +kernel
theorem dX3_canFilm_65 : decode cX3_canFilm 65 = .ok (.iload 4, 2) := by decide +kernel
theorem dX3_canFilm_67 : decode cX3_canFilm 67 = .ok (.iadd, 1) := by decide +kernel
theorem dX3_canFilm_68 : decode cX3_canFilm 68 = .ok (.iconst 1, 1) := by decide +kernel
theorem dX3_canFilm_69 : decode cX3_canFilm 69 = .ok (.iadd, 1) := by decide +kernel
theorem dX3_canFilm_70 : decode cX3_canFilm 70 = .ok (.aload_n 0, 1) := by decide +kernel
theorem dX3_canFilm_71 : decode cX3_canFilm 71 = .ok (.iload_n 3, 1) := by decide +kernel
theorem dX3_canFilm_72 : decode cX3_canFilm 72 = .ok (.iload 4, 2) := by decide +kernel
theorem dX3_canFilm_74 : decode cX3_canFilm 74 = .ok (.iload_n 1, 1) := by decide +kernel
theorem dX3_canFilm_75 : decode cX3_canFilm 75 = .ok (.invokevirtual 102, 3) := by decide +kernel
theorem dX3_canFilm_78 : decode cX3_canFilm 78 = .ok (.ifCond .lt 7, 3) := by decide +kernel
theorem dX3_canFilm_81 : decode cX3_canFilm 81 = .ok (.iconst 1, 1) := by decide +kernel
theorem dX3_canFilm_82 : decode cX3_canFilm 82 = .ok (.goto 4, 3) := by decide +kernel
theorem dX3_canFilm_85 : decode cX3_canFilm 85 = .ok (.iconst 0, 1) := by decide +kernel
theorem dX3_canFilm_86 : decode cX3_canFilm 86 = .ok (.bastore, 1) := by decide +kernel
theorem dX3_canFilm_87 : decode cX3_canFilm 87 = .ok (.iinc 4 1, 3) := by decide +kernel
theorem dX3_canFilm_90 : decode cX3_canFilm 90 = .ok (.goto (-38), 3) := by decide +kernel
theorem dX3_canFilm_93 : decode cX3_canFilm 93 = .ok (.iinc 3 (-1), 3) := by decide +kernel
theorem dX3_canFilm_96 : decode cX3_canFilm 96 = .ok (.goto (-51), 3) := by decide +kernel
theorem dX3_canFilm_99 : decode cX3_canFilm 99 = .ok (.aload_n 0, 1) := by decide +kernel
theorem dX3_canFilm_100 : decode cX3_canFilm 100 = .ok (.getfield 18, 3) := by decide +kernel
theorem dX3_canFilm_103 : decode cX3_canFilm 103 = .ok (.iconst 1, 1) := by decide +kernel
theorem dX3_canFilm_104 : decode cX3_canFilm 104 = .ok (.baload, 1) := by decide +kernel
theorem dX3_canFilm_105 : decode cX3_canFilm 105 = .ok (.ireturn, 1) := by decide +kernel
theorem dX3_firstFor_0 : decode cX3_firstFor 0 = .ok (.iconst 0, 1) := by decide +kernel
theorem dX3_firstFor_1 : decode cX3_firstFor 1 = .ok (.istore 4, 2) := by decide +kernel
theorem dX3_firstFor_3 : decode cX3_firstFor 3 = .ok (.iload 4, 2) := by decide +kernel
theorem dX3_firstFor_5 : decode cX3_firstFor 5 = .ok (.aload_n 0, 1) := by decide +kernel
theorem dX3_firstFor_6 : decode cX3_firstFor 6 = .ok (.getfield 32, 3) := by decide +kernel
theorem dX3_firstFor_9 : decode cX3_firstFor 9 = .ok (.getfield 54, 3) := by decide +kernel
theorem dX3_firstFor_12 : decode cX3_firstFor 12 = .ok (.if_icmp .ge 39, 3) := by decide +kernel
theorem dX3_firstFor_15 : decode cX3_firstFor 15 = .ok (.iload_n 3, 1) := by decide +kernel
theorem dX3_firstFor_16 : decode cX3_firstFor 16 = .ok (.aload_n 0, 1) := by decide +kernel
theorem dX3_firstFor_17 : decode cX3_firstFor 17 = .ok (.getfield 9, 3) := by decide +kernel
theorem dX3_firstFor_20 : decode cX3_firstFor 20 = .ok (.iload_n 1, 1) := by decide +kernel
theorem dX3_firstFor_21 : decode cX3_firstFor 21 = .ok (.iaload, 1) := by decide +kernel
theorem dX3_firstFor_22 : decode cX3_firstFor 22 = .ok (.iand, 1) := by decide +kernel
theorem dX3_firstFor_23 : decode cX3_firstFor 23 = .ok (.iconst 1, 1) := by decide +kernel
theorem dX3_firstFor_24 : decode cX3_firstFor 24 = .ok (.iload 4, 2) := by decide +kernel
theorem dX3_firstFor_26 : decode cX3_firstFor 26 = .ok (.ishl, 1) := by decide +kernel
theorem dX3_firstFor_27 : decode cX3_firstFor 27 = .ok (.iand, 1) := by decide +kernel
theorem dX3_firstFor_28 : decode cX3_firstFor 28 = .ok (.ifCond .eq 17, 3) := by decide +kernel
theorem dX3_firstFor_31 : decode cX3_firstFor 31 = .ok (.aload_n 0, 1) := by decide +kernel
theorem dX3_firstFor_32 : decode cX3_firstFor 32 = .ok (.iload_n 1, 1) := by decide +kernel
theorem dX3_firstFor_33 : decode cX3_firstFor 33 = .ok (.iload_n 2, 1) := by decide +kernel
theorem dX3_firstFor_34 : decode cX3_firstFor 34 = .ok (.iload 4, 2) := by decide +kernel
theorem dX3_firstFor_36 : decode cX3_firstFor 36 = .ok (.invokevirtual 106, 3) := by decide +kernel
theorem dX3_firstFor_39 : decode cX3_firstFor 39 = .ok (.ifCond .eq 6, 3) := by decide +kernel
theorem dX3_firstFor_42 : decode cX3_firstFor 42 = .ok (.iload 4, 2) := by decide +kernel
theorem dX3_firstFor_44 : decode cX3_firstFor 44 = .ok (.ireturn, 1) := by decide +kernel
theorem dX3_firstFor_45 : decode cX3_firstFor 45 = .ok (.iinc 4 1, 3) := by decide +kernel
theorem dX3_firstFor_48 : decode cX3_firstFor 48 = .ok (.goto (-45), 3) := by decide +kernel
theorem dX3_firstFor_51 : decode cX3_firstFor 51 = .ok (.iconst (-1), 1) := by decide +kernel
theorem dX3_firstFor_52 : decode cX3_firstFor 52 = .ok (.ireturn, 1) := by decide +kernel
theorem dX3_fits_0 : decode cX3_fits 0 = .ok (.aload_n 0, 1) := by decide +kernel
theorem dX3_fits_1 : decode cX3_fits 1 = .ok (.getfield 15, 3) := by decide +kernel
theorem dX3_fits_4 : decode cX3_fits 4 = .ok (.iload_n 1, 1) := by decide +kernel
theorem dX3_fits_5 : decode cX3_fits 5 = .ok (.bipush 10, 2) := by decide +kernel
theorem dX3_fits_7 : decode cX3_fits 7 = .ok (.imul, 1) := by decide +kernel
theorem dX3_fits_8 : decode cX3_fits 8 = .ok (.iload_n 3, 1) := by decide +kernel
theorem dX3_fits_9 : decode cX3_fits 9 = .ok (.iadd, 1) := by decide +kernel
theorem dX3_fits_10 : decode cX3_fits 10 = .ok (.iaload, 1) := by decide +kernel
theorem dX3_fits_11 : decode cX3_fits 11 = .ok (.istore 4, 2) := by decide +kernel
theorem dX3_fits_13 : decode cX3_fits 13 = .ok (.aload_n 0, 1) := by decide +kernel
theorem dX3_fits_14 : decode cX3_fits 14 = .ok (.getfield 36, 3) := by decide +kernel
theorem dX3_fits_17 : decode cX3_fits 17 = .ok (.getfield 50, 3) := by decide +kernel
theorem dX3_fits_20 : decode cX3_fits 20 = .ok (.iload_n 1, 1) := by decide +kernel
theorem dX3_fits_21 : decode cX3_fits 21 = .ok (.aaload, 1) := by decide +kernel
theorem dX3_fits_22 : decode cX3_fits 22 = .ok (.getfield 110, 3) := by decide +kernel
theorem dX3_fits_25 : decode cX3_fits 25 = .ok (.ifCond .eq 14, 3) := by decide +kernel
theorem dX3_fits_28 : decode cX3_fits 28 = .ok (.iload_n 2, 1) := by decide +kernel
theorem dX3_fits_29 : decode cX3_fits 29 = .ok (.iload 4, 2) := by decide +kernel
theorem dX3_fits_31 : decode cX3_fits 31 = .ok (.imul, 1) := by decide +kernel
theorem dX3_fits_32 : decode cX3_fits 32 = .ok (.ifCond .ge 7, 3) := by decide +kernel
theorem dX3_fits_35 : decode cX3_fits 35 = .ok (.iconst 1, 1) := by decide +kernel
theorem dX3_fits_36 : decode cX3_fits 36 = .ok (.goto 4, 3) := by decide +kernel
theorem dX3_fits_39 : decode cX3_fits 39 = .ok (.iconst 0, 1) := by decide +kernel
theorem dX3_fits_40 : decode cX3_fits 40 = .ok (.istore 5, 2) := by decide +kernel
theorem dX3_fits_42 : decode cX3_fits 42 = .ok (.iload 5, 2) := by decide +kernel
theorem dX3_fits_44 : decode cX3_fits 44 = .ok (.ifCond .ne 30, 3) := by decide +kernel
theorem dX3_fits_47 : decode cX3_fits 47 = .ok (.aload_n 0, 1) := by decide +kernel
theorem dX3_fits_48 : decode cX3_fits 48 = .ok (.getfield 18, 3) := by decide +kernel
theorem dX3_fits_51 : decode cX3_fits 51 = .ok (.iload_n 1, 1) := by decide +kernel
theorem dX3_fits_52 : decode cX3_fits 52 = .ok (.iconst 1, 1) := by decide +kernel
theorem dX3_fits_53 : decode cX3_fits 53 = .ok (.iadd, 1) := by decide +kernel
theorem dX3_fits_54 : decode cX3_fits 54 = .ok (.iconst 3, 1) := by decide +kernel
theorem dX3_fits_55 : decode cX3_fits 55 = .ok (.imul, 1) := by decide +kernel
theorem dX3_fits_56 : decode cX3_fits 56 = .ok (.iconst 1, 1) := by decide +kernel
theorem dX3_fits_57 : decode cX3_fits 57 = .ok (.iadd, 1) := by decide +kernel
theorem dX3_fits_58 : decode cX3_fits 58 = .ok (.aload_n 0, 1) := by decide +kernel
theorem dX3_fits_59 : decode cX3_fits 59 = .ok (.iload_n 1, 1) := by decide +kernel
theorem dX3_fits_60 : decode cX3_fits 60 = .ok (.iload_n 2, 1) := by decide +kernel
theorem dX3_fits_61 : decode cX3_fits 61 = .ok (.iload_n 3, 1) := by decide +kernel
theorem dX3_fits_62 : decode cX3_fits 62 = .ok (.invokevirtual 113, 3) := by decide +kernel
theorem dX3_fits_65 : decode cX3_fits 65 = .ok (.iadd, 1) := by decide +kernel
theorem dX3_fits_66 : decode cX3_fits 66 = .ok (.baload, 1) := by decide +kernel
theorem dX3_fits_67 : decode cX3_fits 67 = .ok (.ifCond .eq 7, 3) := by decide +kernel
theorem dX3_fits_70 : decode cX3_fits 70 = .ok (.iconst 1, 1) := by decide +kernel
theorem dX3_fits_71 : decode cX3_fits 71 = .ok (.goto 4, 3) := by decide +kernel
theorem dX3_fits_74 : decode cX3_fits 74 = .ok (.iconst 0, 1) := by decide +kernel
theorem dX3_fits_75 : decode cX3_fits 75 = .ok (.ireturn, 1) := by decide +kernel
theorem dX3_sideAfter_0 : decode cX3_sideAfter 0 = .ok (.aload_n 0, 1) := by decide +kernel
theorem dX3_sideAfter_1 : decode cX3_sideAfter 1 = .ok (.getfield 36, 3) := by decide +kernel
theorem dX3_sideAfter_4 : decode cX3_sideAfter 4 = .ok (.getfield 50, 3) := by decide +kernel
theorem dX3_sideAfter_7 : decode cX3_sideAfter 7 = .ok (.iload_n 1, 1) := by decide +kernel
theorem dX3_sideAfter_8 : decode cX3_sideAfter 8 = .ok (.aaload, 1) := by decide +kernel
theorem dX3_sideAfter_9 : decode cX3_sideAfter 9 = .ok (.getfield 68, 3) := by decide +kernel
theorem dX3_sideAfter_12 : decode cX3_sideAfter 12 = .ok (.iconst 1, 1) := by decide +kernel
theorem dX3_sideAfter_13 : decode cX3_sideAfter 13 = .ok (.if_icmp .ne 17, 3) := by decide +kernel
theorem dX3_sideAfter_16 : decode cX3_sideAfter 16 = .ok (.aload_n 0, 1) := by decide +kernel
theorem dX3_sideAfter_17 : decode cX3_sideAfter 17 = .ok (.getfield 15, 3) := by decide +kernel
theorem dX3_sideAfter_20 : decode cX3_sideAfter 20 = .ok (.iload_n 1, 1) := by decide +kernel
theorem dX3_sideAfter_21 : decode cX3_sideAfter 21 = .ok (.bipush 10, 2) := by decide +kernel
theorem dX3_sideAfter_23 : decode cX3_sideAfter 23 = .ok (.imul, 1) := by decide +kernel
theorem dX3_sideAfter_24 : decode cX3_sideAfter 24 = .ok (.iload_n 3, 1) := by decide +kernel
theorem dX3_sideAfter_25 : decode cX3_sideAfter 25 = .ok (.iadd, 1) := by decide +kernel
theorem dX3_sideAfter_26 : decode cX3_sideAfter 26 = .ok (.iaload, 1) := by decide +kernel
theorem dX3_sideAfter_27 : decode cX3_sideAfter 27 = .ok (.goto 4, 3) := by decide +kernel
theorem dX3_sideAfter_30 : decode cX3_sideAfter 30 = .ok (.iload_n 2, 1) := by decide +kernel
theorem dX3_sideAfter_31 : decode cX3_sideAfter 31 = .ok (.ireturn, 1) := by decide +kernel
theorem dX3_writeRow_0 : decode cX3_writeRow 0 = .ok (.iconst 0, 1) := by decide +kernel
theorem dX3_writeRow_1 : decode cX3_writeRow 1 = .ok (.istore_n 1, 1) := by decide +kernel
theorem dX3_writeRow_2 : decode cX3_writeRow 2 = .ok (.iconst 0, 1) := by decide +kernel
theorem dX3_writeRow_3 : decode cX3_writeRow 3 = .ok (.istore_n 2, 1) := by decide +kernel
theorem dX3_writeRow_4 : decode cX3_writeRow 4 = .ok (.iload_n 2, 1) := by decide +kernel
theorem dX3_writeRow_5 : decode cX3_writeRow 5 = .ok (.aload_n 0, 1) := by decide +kernel
theorem dX3_writeRow_6 : decode cX3_writeRow 6 = .ok (.getfield 36, 3) := by decide +kernel
theorem dX3_writeRow_9 : decode cX3_writeRow 9 = .ok (.getfield 44, 3) := by decide +kernel
theorem dX3_writeRow_12 : decode cX3_writeRow 12 = .ok (.if_icmp .ge 39, 3) := by decide +kernel
theorem dX3_writeRow_15 : decode cX3_writeRow 15 = .ok (.iconst 0, 1) := by decide +kernel
theorem dX3_writeRow_16 : decode cX3_writeRow 16 = .ok (.aload_n 0, 1) := by decide +kernel
theorem dX3_writeRow_17 : decode cX3_writeRow 17 = .ok (.iload_n 2, 1) := by decide +kernel
theorem dX3_writeRow_18 : decode cX3_writeRow 18 = .ok (.iload_n 1, 1) := by decide +kernel
theorem dX3_writeRow_19 : decode cX3_writeRow 19 = .ok (.aload_n 0, 1) := by decide +kernel
theorem dX3_writeRow_20 : decode cX3_writeRow 20 = .ok (.getfield 99, 3) := by decide +kernel
theorem dX3_writeRow_23 : decode cX3_writeRow 23 = .ok (.invokevirtual 102, 3) := by decide +kernel
theorem dX3_writeRow_26 : decode cX3_writeRow 26 = .ok (.invokestatic 116, 3) := by decide +kernel
theorem dX3_writeRow_29 : decode cX3_writeRow 29 = .ok (.istore_n 3, 1) := by decide +kernel
theorem dX3_writeRow_30 : decode cX3_writeRow 30 = .ok (.aload_n 0, 1) := by decide +kernel
theorem dX3_writeRow_31 : decode cX3_writeRow 31 = .ok (.getfield 22, 3) := by decide +kernel
theorem dX3_writeRow_34 : decode cX3_writeRow 34 = .ok (.iload_n 2, 1) := by decide +kernel
theorem dX3_writeRow_35 : decode cX3_writeRow 35 = .ok (.iload_n 3, 1) := by decide +kernel
theorem dX3_writeRow_36 : decode cX3_writeRow 36 = .ok (.iastore, 1) := by decide +kernel
theorem dX3_writeRow_37 : decode cX3_writeRow 37 = .ok (.aload_n 0, 1) := by decide +kernel
theorem dX3_writeRow_38 : decode cX3_writeRow 38 = .ok (.iload_n 2, 1) := by decide +kernel
theorem dX3_writeRow_39 : decode cX3_writeRow 39 = .ok (.iload_n 1, 1) := by decide +kernel
theorem dX3_writeRow_40 : decode cX3_writeRow 40 = .ok (.iload_n 3, 1) := by decide +kernel
theorem dX3_writeRow_41 : decode cX3_writeRow 41 = .ok (.invokevirtual 113, 3) := by decide +kernel
theorem dX3_writeRow_44 : decode cX3_writeRow 44 = .ok (.istore_n 1, 1) := by decide +kernel
theorem dX3_writeRow_45 : decode cX3_writeRow 45 = .ok (.iinc 2 1, 3) := by decide +kernel
theorem dX3_writeRow_48 : decode cX3_writeRow 48 = .ok (.goto (-44), 3) := by decide +kernel
theorem dX3_writeRow_51 : decode cX3_writeRow 51 = .ok (.return_, 1) := by decide +kernel
theorem dX3_writeSequence_0 : decode cX3_writeSequence 0 = .ok (.aload_n 0, 1) := by decide +kernel
theorem dX3_writeSequence_1 : decode cX3_writeSequence 1 = .ok (.getfield 99, 3) := by decide +kernel
theorem dX3_writeSequence_4 : decode cX3_writeSequence 4 = .ok (.istore_n 1, 1) := by decide +kernel
theorem dX3_writeSequence_5 : decode cX3_writeSequence 5 = .ok (.iconst (-1), 1) := by decide +kernel
theorem dX3_writeSequence_6 : decode cX3_writeSequence 6 = .ok (.istore_n 2, 1) := by decide +kernel
theorem dX3_writeSequence_7 : decode cX3_writeSequence 7 = .ok (.iconst 0, 1) := by decide +kernel
theorem dX3_writeSequence_8 : decode cX3_writeSequence 8 = .ok (.istore_n 3, 1) := by decide +kernel
theorem dX3_writeSequence_9 : decode cX3_writeSequence 9 = .ok (.iload_n 3, 1) := by decide +kernel
theorem dX3_writeSequence_10 : decode cX3_writeSequence 10 = .ok (.aload_n 0, 1) := by decide +kernel
theorem dX3_writeSequence_11 : decode cX3_writeSequence 11 = .ok (.getfield 80, 3) := by decide +kernel
theorem dX3_writeSequence_14 : decode cX3_writeSequence 14 = .ok (.if_icmp .ge 62, 3) := by decide +kernel
theorem dX3_writeSequence_17 : decode cX3_writeSequence 17 = .ok (.aload_n 0, 1) := by decide +kernel
theorem dX3_writeSequence_18 : decode cX3_writeSequence 18 = .ok (.iload_n 1, 1) := by decide +kernel
theorem dX3_writeSequence_19 : decode cX3_writeSequence 19 = .ok (.iload_n 2, 1) := by decide +kernel
theorem dX3_writeSequence_20 : decode cX3_writeSequence 20 = .ok (.invokevirtual 122, 3) := by decide +kernel
theorem dX3_writeSequence_23 : decode cX3_writeSequence 23 = .ok (.istore 4, 2) := by decide +kernel
theorem dX3_writeSequence_25 : decode cX3_writeSequence 25 = .ok (.iload 4, 2) := by decide +kernel
theorem dX3_writeSequence_27 : decode cX3_writeSequence 27 = .ok (.ifCond .ge 15, 3) := by decide +kernel
theorem dX3_writeSequence_30 : decode cX3_writeSequence 30 = .ok (.iconst 0, 1) := by decide +kernel
theorem dX3_writeSequence_31 : decode cX3_writeSequence 31 = .ok (.aload_n 0, 1) := by decide +kernel
theorem dX3_writeSequence_32 : decode cX3_writeSequence 32 = .ok (.iload_n 1, 1) := by decide +kernel
theorem dX3_writeSequence_33 : decode cX3_writeSequence 33 = .ok (.iconst (-1), 1) := by decide +kernel
theorem dX3_writeSequence_34 : decode cX3_writeSequence 34 = .ok (.invokevirtual 122, 3) := by decide +kernel
theorem dX3_writeSequence_37 : decode cX3_writeSequence 37 = .ok (.invokestatic 116, 3) := by decide +kernel
theorem dX3_writeSequence_40 : decode cX3_writeSequence 40 = .ok (.istore 4, 2) := by decide +kernel
theorem dX3_writeSequence_42 : decode cX3_writeSequence 42 = .ok (.aload_n 0, 1) := by decide +kernel
theorem dX3_writeSequence_43 : decode cX3_writeSequence 43 = .ok (.getfield 25, 3) := by decide +kernel
theorem dX3_writeSequence_46 : decode cX3_writeSequence 46 = .ok (.iload_n 3, 1) := by decide +kernel
theorem dX3_writeSequence_47 : decode cX3_writeSequence 47 = .ok (.iload 4, 2) := by decide +kernel
theorem dX3_writeSequence_49 : decode cX3_writeSequence 49 = .ok (.iastore, 1) := by decide +kernel
theorem dX3_writeSequence_50 : decode cX3_writeSequence 50 = .ok (.aload_n 0, 1) := by decide +kernel
theorem dX3_writeSequence_51 : decode cX3_writeSequence 51 = .ok (.getfield 32, 3) := by decide +kernel
theorem dX3_writeSequence_54 : decode cX3_writeSequence 54 = .ok (.getfield 125, 3) := by decide +kernel
theorem dX3_writeSequence_57 : decode cX3_writeSequence 57 = .ok (.iload 4, 2) := by decide +kernel
theorem dX3_writeSequence_59 : decode cX3_writeSequence 59 = .ok (.iaload, 1) := by decide +kernel
theorem dX3_writeSequence_60 : decode cX3_writeSequence 60 = .ok (.istore_n 2, 1) := by decide +kernel
theorem dX3_writeSequence_61 : decode cX3_writeSequence 61 = .ok (.iload_n 1, 1) := by decide +kernel
theorem dX3_writeSequence_62 : decode cX3_writeSequence 62 = .ok (.iconst 1, 1) := by decide +kernel
theorem dX3_writeSequence_63 : decode cX3_writeSequence 63 = .ok (.iload 4, 2) := by decide +kernel
theorem dX3_writeSequence_65 : decode cX3_writeSequence 65 = .ok (.ishl, 1) := by decide +kernel
theorem dX3_writeSequence_66 : decode cX3_writeSequence 66 = .ok (.iconst (-1), 1) := by decide +kernel
theorem dX3_writeSequence_67 : decode cX3_writeSequence 67 = .ok (.ixor, 1) := by decide +kernel
theorem dX3_writeSequence_68 : decode cX3_writeSequence 68 = .ok (.iand, 1) := by decide +kernel
theorem dX3_writeSequence_69 : decode cX3_writeSequence 69 = .ok (.istore_n 1, 1) := by decide +kernel
theorem dX3_writeSequence_70 : decode cX3_writeSequence 70 = .ok (.iinc 3 1, 3) := by decide +kernel
theorem dX3_writeSequence_73 : decode cX3_writeSequence 73 = .ok (.goto (-64), 3) := by decide +kernel
theorem dX3_writeSequence_76 : decode cX3_writeSequence 76 = .ok (.return_, 1) := by decide +kernel
theorem dX3_leastOf_0 : decode cX3_leastOf 0 = .ok (.iconst 0, 1) := by decide +kernel
theorem dX3_leastOf_1 : decode cX3_leastOf 1 = .ok (.istore_n 3, 1) := by decide +kernel
theorem dX3_leastOf_2 : decode cX3_leastOf 2 = .ok (.iload_n 3, 1) := by decide +kernel
theorem dX3_leastOf_3 : decode cX3_leastOf 3 = .ok (.aload_n 0, 1) := by decide +kernel
theorem dX3_leastOf_4 : decode cX3_leastOf 4 = .ok (.getfield 32, 3) := by decide +kernel
theorem dX3_leastOf_7 : decode cX3_leastOf 7 = .ok (.getfield 54, 3) := by decide +kernel
theorem dX3_leastOf_10 : decode cX3_leastOf 10 = .ok (.if_icmp .ge 36, 3) := by decide +kernel
theorem dX3_leastOf_13 : decode cX3_leastOf 13 = .ok (.iload_n 1, 1) := by decide +kernel
theorem dX3_leastOf_14 : decode cX3_leastOf 14 = .ok (.iload_n 3, 1) := by decide +kernel
theorem dX3_leastOf_15 : decode cX3_leastOf 15 = .ok (.ishr, 1) := by decide +kernel
theorem dX3_leastOf_16 : decode cX3_leastOf 16 = .ok (.iconst 1, 1) := by decide +kernel
theorem dX3_leastOf_17 : decode cX3_leastOf 17 = .ok (.iand, 1) := by decide +kernel
theorem dX3_leastOf_18 : decode cX3_leastOf 18 = .ok (.ifCond .eq 22, 3) := by decide +kernel
theorem dX3_leastOf_21 : decode cX3_leastOf 21 = .ok (.iload_n 2, 1) := by decide +kernel
theorem dX3_leastOf_22 : decode cX3_leastOf 22 = .ok (.ifCond .lt 16, 3) := by decide +kernel
theorem dX3_leastOf_25 : decode cX3_leastOf 25 = .ok (.aload_n 0, 1) := by decide +kernel
theorem dX3_leastOf_26 : decode cX3_leastOf 26 = .ok (.getfield 32, 3) := by decide +kernel
theorem dX3_leastOf_29 : decode cX3_leastOf 29 = .ok (.getfield 125, 3) := by decide +kernel
theorem dX3_leastOf_32 : decode cX3_leastOf 32 = .ok (.iload_n 3, 1) := by decide +kernel
theorem dX3_leastOf_33 : decode cX3_leastOf 33 = .ok (.iaload, 1) := by decide +kernel
theorem dX3_leastOf_34 : decode cX3_leastOf 34 = .ok (.iload_n 2, 1) := by decide +kernel
theorem dX3_leastOf_35 : decode cX3_leastOf 35 = .ok (.if_icmp .ne 5, 3) := by decide +kernel
theorem dX3_leastOf_38 : decode cX3_leastOf 38 = .ok (.iload_n 3, 1) := by decide +kernel
theorem dX3_leastOf_39 : decode cX3_leastOf 39 = .ok (.ireturn, 1) := by decide +kernel
theorem dX3_leastOf_40 : decode cX3_leastOf 40 = .ok (.iinc 3 1, 3) := by decide +kernel
theorem dX3_leastOf_43 : decode cX3_leastOf 43 = .ok (.goto (-41), 3) := by decide +kernel
theorem dX3_leastOf_46 : decode cX3_leastOf 46 = .ok (.iconst (-1), 1) := by decide +kernel
theorem dX3_leastOf_47 : decode cX3_leastOf 47 = .ok (.ireturn, 1) := by decide +kernel
theorem dX3_turns_0 : decode cX3_turns 0 = .ok (.iconst 0, 1) := by decide +kernel
theorem dX3_turns_1 : decode cX3_turns 1 = .ok (.istore_n 1, 1) := by decide +kernel
theorem dX3_turns_2 : decode cX3_turns 2 = .ok (.iconst 1, 1) := by decide +kernel
theorem dX3_turns_3 : decode cX3_turns 3 = .ok (.istore_n 2, 1) := by decide +kernel
theorem dX3_turns_4 : decode cX3_turns 4 = .ok (.iload_n 2, 1) := by decide +kernel
theorem dX3_turns_5 : decode cX3_turns 5 = .ok (.aload_n 0, 1) := by decide +kernel
theorem dX3_turns_6 : decode cX3_turns 6 = .ok (.getfield 36, 3) := by decide +kernel
theorem dX3_turns_9 : decode cX3_turns 9 = .ok (.getfield 44, 3) := by decide +kernel
theorem dX3_turns_12 : decode cX3_turns 12 = .ok (.if_icmp .ge 45, 3) := by decide +kernel
theorem dX3_turns_15 : decode cX3_turns 15 = .ok (.aload_n 0, 1) := by decide +kernel
theorem dX3_turns_16 : decode cX3_turns 16 = .ok (.getfield 32, 3) := by decide +kernel
theorem dX3_turns_19 : decode cX3_turns 19 = .ok (.getfield 125, 3) := by decide +kernel
theorem dX3_turns_22 : decode cX3_turns 22 = .ok (.aload_n 0, 1) := by decide +kernel
theorem dX3_turns_23 : decode cX3_turns 23 = .ok (.getfield 22, 3) := by decide +kernel
theorem dX3_turns_26 : decode cX3_turns 26 = .ok (.iload_n 2, 1) := by decide +kernel
theorem dX3_turns_27 : decode cX3_turns 27 = .ok (.iaload, 1) := by decide +kernel
theorem dX3_turns_28 : decode cX3_turns 28 = .ok (.iaload, 1) := by decide +kernel
theorem dX3_turns_29 : decode cX3_turns 29 = .ok (.aload_n 0, 1) := by decide +kernel
theorem dX3_turns_30 : decode cX3_turns 30 = .ok (.getfield 32, 3) := by decide +kernel
theorem dX3_turns_33 : decode cX3_turns 33 = .ok (.getfield 125, 3) := by decide +kernel
theorem dX3_turns_36 : decode cX3_turns 36 = .ok (.aload_n 0, 1) := by decide +kernel
theorem dX3_turns_37 : decode cX3_turns 37 = .ok (.getfield 22, 3) := by decide +kernel
theorem dX3_turns_40 : decode cX3_turns 40 = .ok (.iload_n 2, 1) := by decide +kernel
theorem dX3_turns_41 : decode cX3_turns 41 = .ok (.iconst 1, 1) := by decide +kernel
theorem dX3_turns_42 : decode cX3_turns 42 = .ok (.isub, 1) := by decide +kernel
theorem dX3_turns_43 : decode cX3_turns 43 = .ok (.iaload, 1) := by decide +kernel
theorem dX3_turns_44 : decode cX3_turns 44 = .ok (.iaload, 1) := by decide +kernel
theorem dX3_turns_45 : decode cX3_turns 45 = .ok (.if_icmp .eq 6, 3) := by decide +kernel
theorem dX3_turns_48 : decode cX3_turns 48 = .ok (.iinc 1 1, 3) := by decide +kernel
theorem dX3_turns_51 : decode cX3_turns 51 = .ok (.iinc 2 1, 3) := by decide +kernel
theorem dX3_turns_54 : decode cX3_turns 54 = .ok (.goto (-50), 3) := by decide +kernel
theorem dX3_turns_57 : decode cX3_turns 57 = .ok (.iload_n 1, 1) := by decide +kernel
theorem dX3_turns_58 : decode cX3_turns 58 = .ok (.ireturn, 1) := by decide +kernel
theorem dX4_init_0 : decode cX4_init 0 = .ok (.aload_n 0, 1) := by decide +kernel
theorem dX4_init_1 : decode cX4_init 1 = .ok (.invokespecial 3, 3) := by decide +kernel
theorem dX4_init_4 : decode cX4_init 4 = .ok (.aload_n 0, 1) := by decide +kernel
theorem dX4_init_5 : decode cX4_init 5 = .ok (.bipush 10, 2) := by decide +kernel
theorem dX4_init_7 : decode cX4_init 7 = .ok (.newarray .int, 2) := by decide +kernel
theorem dX4_init_9 : decode cX4_init 9 = .ok (.putfield 9, 3) := by decide +kernel
theorem dX4_init_12 : decode cX4_init 12 = .ok (.aload_n 0, 1) := by decide +kernel
theorem dX4_init_13 : decode cX4_init 13 = .ok (.bipush 10, 2) := by decide +kernel
theorem dX4_init_15 : decode cX4_init 15 = .ok (.newarray .int, 2) := by decide +kernel
theorem dX4_init_17 : decode cX4_init 17 = .ok (.putfield 15, 3) := by decide +kernel
theorem dX4_init_20 : decode cX4_init 20 = .ok (.return_, 1) := by decide +kernel
theorem dX4_add_0 : decode cX4_add 0 = .ok (.aload_n 0, 1) := by decide +kernel
theorem dX4_add_1 : decode cX4_add 1 = .ok (.getfield 9, 3) := by decide +kernel
theorem dX4_add_4 : decode cX4_add 4 = .ok (.aload_n 0, 1) := by decide +kernel
theorem dX4_add_5 : decode cX4_add 5 = .ok (.getfield 18, 3) := by decide +kernel
theorem dX4_add_8 : decode cX4_add 8 = .ok (.iload_n 1, 1) := by decide +kernel
theorem dX4_add_9 : decode cX4_add 9 = .ok (.iastore, 1) := by decide +kernel
theorem dX4_add_10 : decode cX4_add 10 = .ok (.aload_n 0, 1) := by decide +kernel
theorem dX4_add_11 : decode cX4_add 11 = .ok (.getfield 15, 3) := by decide +kernel
theorem dX4_add_14 : decode cX4_add 14 = .ok (.aload_n 0, 1) := by decide +kernel
theorem dX4_add_15 : decode cX4_add 15 = .ok (.getfield 18, 3) := by decide +kernel
theorem dX4_add_18 : decode cX4_add 18 = .ok (.iload_n 2, 1) := by decide +kernel
theorem dX4_add_19 : decode cX4_add 19 = .ok (.iastore, 1) := by decide +kernel
theorem dX4_add_20 : decode cX4_add 20 = .ok (.aload_n 0, 1) := by decide +kernel
theorem dX4_add_21 : decode cX4_add 21 = .ok (.dup, 1) := by decide +kernel
theorem dX4_add_22 : decode cX4_add 22 = .ok (.getfield 18, 3) := by decide +kernel
theorem dX4_add_25 : decode cX4_add 25 = .ok (.iconst 1, 1) := by decide +kernel
theorem dX4_add_26 : decode cX4_add 26 = .ok (.iadd, 1) := by decide +kernel
theorem dX4_add_27 : decode cX4_add 27 = .ok (.putfield 18, 3) := by decide +kernel
theorem dX4_add_30 : decode cX4_add 30 = .ok (.aload_n 0, 1) := by decide +kernel
theorem dX4_add_31 : decode cX4_add 31 = .ok (.getfield 18, 3) := by decide +kernel
theorem dX4_add_34 : decode cX4_add 34 = .ok (.iconst 1, 1) := by decide +kernel
theorem dX4_add_35 : decode cX4_add 35 = .ok (.isub, 1) := by decide +kernel
theorem dX4_add_36 : decode cX4_add 36 = .ok (.ireturn, 1) := by decide +kernel
theorem dX5_init_0 : decode cX5_init 0 = .ok (.aload_n 0, 1) := by decide +kernel
theorem dX5_init_1 : decode cX5_init 1 = .ok (.invokespecial 3, 3) := by decide +kernel
theorem dX5_init_4 : decode cX5_init 4 = .ok (.aload_n 0, 1) := by decide +kernel
theorem dX5_init_5 : decode cX5_init 5 = .ok (.bipush 8, 2) := by decide +kernel
theorem dX5_init_7 : decode cX5_init 7 = .ok (.anewarray 9, 3) := by decide +kernel
theorem dX5_init_10 : decode cX5_init 10 = .ok (.putfield 11, 3) := by decide +kernel
theorem dX5_init_13 : decode cX5_init 13 = .ok (.aload_n 0, 1) := by decide +kernel
theorem dX5_init_14 : decode cX5_init 14 = .ok (.iconst 3, 1) := by decide +kernel
theorem dX5_init_15 : decode cX5_init 15 = .ok (.putfield 17, 3) := by decide +kernel
theorem dX5_init_18 : decode cX5_init 18 = .ok (.iconst 0, 1) := by decide +kernel
theorem dX5_init_19 : decode cX5_init 19 = .ok (.istore_n 1, 1) := by decide +kernel
theorem dX5_init_20 : decode cX5_init 20 = .ok (.iload_n 1, 1) := by decide +kernel
theorem dX5_init_21 : decode cX5_init 21 = .ok (.bipush 8, 2) := by decide +kernel
theorem dX5_init_23 : decode cX5_init 23 = .ok (.if_icmp .ge 22, 3) := by decide +kernel
theorem dX5_init_26 : decode cX5_init 26 = .ok (.aload_n 0, 1) := by decide +kernel
theorem dX5_init_27 : decode cX5_init 27 = .ok (.getfield 11, 3) := by decide +kernel
theorem dX5_init_30 : decode cX5_init 30 = .ok (.iload_n 1, 1) := by decide +kernel
theorem dX5_init_31 : decode cX5_init 31 = .ok (.new 9, 3) := by decide +kernel
theorem dX5_init_34 : decode cX5_init 34 = .ok (.dup, 1) := by decide +kernel
theorem dX5_init_35 : decode cX5_init 35 = .ok (.invokespecial 21, 3) := by decide +kernel
theorem dX5_init_38 : decode cX5_init 38 = .ok (.aastore, 1) := by decide +kernel
theorem dX5_init_39 : decode cX5_init 39 = .ok (.iinc 1 1, 3) := by decide +kernel
theorem dX5_init_42 : decode cX5_init 42 = .ok (.goto (-22), 3) := by decide +kernel
theorem dX5_init_45 : decode cX5_init 45 = .ok (.return_, 1) := by decide +kernel
theorem dX5_add_0 : decode cX5_add 0 = .ok (.aload_n 0, 1) := by decide +kernel
theorem dX5_add_1 : decode cX5_add 1 = .ok (.getfield 11, 3) := by decide +kernel
theorem dX5_add_4 : decode cX5_add 4 = .ok (.aload_n 0, 1) := by decide +kernel
theorem dX5_add_5 : decode cX5_add 5 = .ok (.getfield 22, 3) := by decide +kernel
theorem dX5_add_8 : decode cX5_add 8 = .ok (.aaload, 1) := by decide +kernel
theorem dX5_add_9 : decode cX5_add 9 = .ok (.astore 5, 2) := by decide +kernel
theorem dX5_add_11 : decode cX5_add 11 = .ok (.aload 5, 2) := by decide +kernel
theorem dX5_add_13 : decode cX5_add 13 = .ok (.iload_n 1, 1) := by decide +kernel
theorem dX5_add_14 : decode cX5_add 14 = .ok (.sipush 1000, 3) := by decide +kernel
theorem dX5_add_17 : decode cX5_add 17 = .ok (.idiv, 1) := by decide +kernel
theorem dX5_add_18 : decode cX5_add 18 = .ok (.putfield 25, 3) := by decide +kernel
theorem dX5_add_21 : decode cX5_add 21 = .ok (.aload 5, 2) := by decide +kernel
theorem dX5_add_23 : decode cX5_add 23 = .ok (.iload_n 1, 1) := by decide +kernel
theorem dX5_add_24 : decode cX5_add 24 = .ok (.bipush 100, 2) := by decide +kernel
theorem dX5_add_26 : decode cX5_add 26 = .ok (.idiv, 1) := by decide +kernel
theorem dX5_add_27 : decode cX5_add 27 = .ok (.bipush 10, 2) := by decide +kernel
theorem dX5_add_29 : decode cX5_add 29 = .ok (.irem, 1) := by decide +kernel
theorem dX5_add_30 : decode cX5_add 30 = .ok (.putfield 28, 3) := by decide +kernel
theorem dX5_add_33 : decode cX5_add 33 = .ok (.aload 5, 2) := by decide +kernel
theorem dX5_add_35 : decode cX5_add 35 = .ok (.iload_n 1, 1) := by decide +kernel
theorem dX5_add_36 : decode cX5_add 36 = .ok (.bipush 100, 2) := by decide +kernel
theorem dX5_add_38 : decode cX5_add 38 = .ok (.irem, 1) := by decide +kernel
theorem dX5_add_39 : decode cX5_add 39 = .ok (.iconst 1, 1) := by decide +kernel
theorem dX5_add_40 : decode cX5_add 40 = .ok (.aload 5, 2) := by decide +kernel
theorem dX5_add_42 : decode cX5_add 42 = .ok (.getfield 28, 3) := by decide +kernel
theorem dX5_add_45 : decode cX5_add 45 = .ok (.ishl, 1) := by decide +kernel
theorem dX5_add_46 : decode cX5_add 46 = .ok (.ior, 1) := by decide +kernel
theorem dX5_add_47 : decode cX5_add 47 = .ok (.putfield 31, 3) := by decide +kernel
theorem dX5_add_50 : decode cX5_add 50 = .ok (.aload 5, 2) := by decide +kernel
theorem dX5_add_52 : decode cX5_add 52 = .ok (.iload_n 2, 1) := by decide +kernel
theorem dX5_add_53 : decode cX5_add 53 = .ok (.putfield 34, 3) := by decide +kernel
theorem dX5_add_56 : decode cX5_add 56 = .ok (.aload 5, 2) := by decide +kernel
theorem dX5_add_58 : decode cX5_add 58 = .ok (.iload_n 3, 1) := by decide +kernel
theorem dX5_add_59 : decode cX5_add 59 = .ok (.bipush 100, 2) := by decide +kernel
theorem dX5_add_61 : decode cX5_add 61 = .ok (.idiv, 1) := by decide +kernel
theorem dX5_add_62 : decode cX5_add 62 = .ok (.putfield 37, 3) := by decide +kernel
theorem dX5_add_65 : decode cX5_add 65 = .ok (.aload 5, 2) := by decide +kernel
theorem dX5_add_67 : decode cX5_add 67 = .ok (.iload_n 3, 1) := by decide +kernel
theorem dX5_add_68 : decode cX5_add 68 = .ok (.bipush 100, 2) := by decide +kernel
theorem dX5_add_70 : decode cX5_add 70 = .ok (.irem, 1) := by decide +kernel
theorem dX5_add_71 : decode cX5_add 71 = .ok (.putfield 40, 3) := by decide +kernel
theorem dX5_add_74 : decode cX5_add 74 = .ok (.aload 5, 2) := by decide +kernel
theorem dX5_add_76 : decode cX5_add 76 = .ok (.iload 4, 2) := by decide +kernel
theorem dX5_add_78 : decode cX5_add 78 = .ok (.putfield 43, 3) := by decide +kernel
theorem dX5_add_81 : decode cX5_add 81 = .ok (.aload 5, 2) := by decide +kernel
theorem dX5_add_83 : decode cX5_add 83 = .ok (.aload 5, 2) := by decide +kernel
theorem dX5_add_85 : decode cX5_add 85 = .ok (.getfield 25, 3) := by decide +kernel
theorem dX5_add_88 : decode cX5_add 88 = .ok (.iconst 1, 1) := by decide +kernel
theorem dX5_add_89 : decode cX5_add 89 = .ok (.if_icmp .ne 19, 3) := by decide +kernel
theorem dX5_add_92 : decode cX5_add 92 = .ok (.aload_n 0, 1) := by decide +kernel
theorem dX5_add_93 : decode cX5_add 93 = .ok (.invokevirtual 46, 3) := by decide +kernel
theorem dX5_add_96 : decode cX5_add 96 = .ok (.aload 5, 2) := by decide +kernel
theorem dX5_add_98 : decode cX5_add 98 = .ok (.invokevirtual 50, 3) := by decide +kernel
theorem dX5_add_101 : decode cX5_add 101 = .ok (.if_icmp .ne 7, 3) := by decide +kernel
theorem dX5_add_104 : decode cX5_add 104 = .ok (.iconst 1, 1) := by decide +kernel
theorem dX5_add_105 : decode cX5_add 105 = .ok (.goto 4, 3) := by decide +kernel
theorem dX5_add_108 : decode cX5_add 108 = .ok (.iconst 0, 1) := by decide +kernel
theorem dX5_add_109 : decode cX5_add 109 = .ok (.putfield 53, 3) := by decide +kernel
theorem dX5_add_112 : decode cX5_add 112 = .ok (.aload_n 0, 1) := by decide +kernel
theorem dX5_add_113 : decode cX5_add 113 = .ok (.dup, 1) := by decide +kernel
theorem dX5_add_114 : decode cX5_add 114 = .ok (.getfield 22, 3) := by decide +kernel
theorem dX5_add_117 : decode cX5_add 117 = .ok (.iconst 1, 1) := by decide +kernel
theorem dX5_add_118 : decode cX5_add 118 = .ok (.iadd, 1) := by decide +kernel
theorem dX5_add_119 : decode cX5_add 119 = .ok (.putfield 22, 3) := by decide +kernel
theorem dX5_add_122 : decode cX5_add 122 = .ok (.aload_n 0, 1) := by decide +kernel
theorem dX5_add_123 : decode cX5_add 123 = .ok (.getfield 22, 3) := by decide +kernel
theorem dX5_add_126 : decode cX5_add 126 = .ok (.iconst 1, 1) := by decide +kernel
end
section
theorem dX5_add_127 : decode cX5_add 127 = .ok (.isub, 1) := by decide +kernel
theorem dX5_add_128 : decode cX5_add 128 = .ok (.ireturn, 1) := by decide +kernel
theorem dX5_speakersOfLastTwo_0 : decode cX5_speakersOfLastTwo 0 = .ok (.aload_n 0, 1) := by decide +kernel
theorem dX5_speakersOfLastTwo_1 : decode cX5_speakersOfLastTwo 1 = .ok (.getfield 22, 3) := by decide +kernel
theorem dX5_speakersOfLastTwo_4 : decode cX5_speakersOfLastTwo 4 = .ok (.iconst 1, 1) := by decide +kernel
theorem dX5_speakersOfLastTwo_5 : decode cX5_speakersOfLastTwo 5 = .ok (.isub, 1) := by decide +kernel
theorem dX5_speakersOfLastTwo_6 : decode cX5_speakersOfLastTwo 6 = .ok (.istore_n 1, 1) := by decide +kernel
theorem dX5_speakersOfLastTwo_7 : decode cX5_speakersOfLastTwo 7 = .ok (.iload_n 1, 1) := by decide +kernel
theorem dX5_speakersOfLastTwo_8 : decode cX5_speakersOfLastTwo 8 = .ok (.ifCond .lt 32, 3) := by decide +kernel
theorem dX5_speakersOfLastTwo_11 : decode cX5_speakersOfLastTwo 11 = .ok (.aload_n 0, 1) := by decide +kernel
theorem dX5_speakersOfLastTwo_12 : decode cX5_speakersOfLastTwo 12 = .ok (.getfield 11, 3) := by decide +kernel
theorem dX5_speakersOfLastTwo_15 : decode cX5_speakersOfLastTwo 15 = .ok (.iload_n 1, 1) := by decide +kernel
theorem dX5_speakersOfLastTwo_16 : decode cX5_speakersOfLastTwo 16 = .ok (.aaload, 1) := by decide +kernel
theorem dX5_speakersOfLastTwo_17 : decode cX5_speakersOfLastTwo 17 = .ok (.getfield 25, 3) := by decide +kernel
theorem dX5_speakersOfLastTwo_20 : decode cX5_speakersOfLastTwo 20 = .ok (.iconst 1, 1) := by decide +kernel
theorem dX5_speakersOfLastTwo_21 : decode cX5_speakersOfLastTwo 21 = .ok (.if_icmp .ne 13, 3) := by decide +kernel
theorem dX5_speakersOfLastTwo_24 : decode cX5_speakersOfLastTwo 24 = .ok (.aload_n 0, 1) := by decide +kernel
theorem dX5_speakersOfLastTwo_25 : decode cX5_speakersOfLastTwo 25 = .ok (.getfield 11, 3) := by decide +kernel
theorem dX5_speakersOfLastTwo_28 : decode cX5_speakersOfLastTwo 28 = .ok (.iload_n 1, 1) := by decide +kernel
theorem dX5_speakersOfLastTwo_29 : decode cX5_speakersOfLastTwo 29 = .ok (.aaload, 1) := by decide +kernel
theorem dX5_speakersOfLastTwo_30 : decode cX5_speakersOfLastTwo 30 = .ok (.invokevirtual 50, 3) := by decide +kernel
theorem dX5_speakersOfLastTwo_33 : decode cX5_speakersOfLastTwo 33 = .ok (.ireturn, 1) := by decide +kernel
theorem dX5_speakersOfLastTwo_34 : decode cX5_speakersOfLastTwo 34 = .ok (.iinc 1 (-1), 3) := by decide +kernel
theorem dX5_speakersOfLastTwo_37 : decode cX5_speakersOfLastTwo 37 = .ok (.goto (-30), 3) := by decide +kernel
theorem dX5_speakersOfLastTwo_40 : decode cX5_speakersOfLastTwo 40 = .ok (.iconst 0, 1) := by decide +kernel
theorem dX5_speakersOfLastTwo_41 : decode cX5_speakersOfLastTwo 41 = .ok (.ireturn, 1) := by decide +kernel
theorem dX5_lengthOf_0 : decode cX5_lengthOf 0 = .ok (.aload_n 0, 1) := by decide +kernel
theorem dX5_lengthOf_1 : decode cX5_lengthOf 1 = .ok (.getfield 11, 3) := by decide +kernel
theorem dX5_lengthOf_4 : decode cX5_lengthOf 4 = .ok (.iload_n 1, 1) := by decide +kernel
theorem dX5_lengthOf_5 : decode cX5_lengthOf 5 = .ok (.aaload, 1) := by decide +kernel
theorem dX5_lengthOf_6 : decode cX5_lengthOf 6 = .ok (.astore_n 2, 1) := by decide +kernel
theorem dX5_lengthOf_7 : decode cX5_lengthOf 7 = .ok (.aload_n 2, 1) := by decide +kernel
theorem dX5_lengthOf_8 : decode cX5_lengthOf 8 = .ok (.getfield 43, 3) := by decide +kernel
theorem dX5_lengthOf_11 : decode cX5_lengthOf 11 = .ok (.aload_n 0, 1) := by decide +kernel
theorem dX5_lengthOf_12 : decode cX5_lengthOf 12 = .ok (.getfield 17, 3) := by decide +kernel
theorem dX5_lengthOf_15 : decode cX5_lengthOf 15 = .ok (.iadd, 1) := by decide +kernel
theorem dX5_lengthOf_16 : decode cX5_lengthOf 16 = .ok (.iconst 1, 1) := by decide +kernel
theorem dX5_lengthOf_17 : decode cX5_lengthOf 17 = .ok (.isub, 1) := by decide +kernel
theorem dX5_lengthOf_18 : decode cX5_lengthOf 18 = .ok (.aload_n 0, 1) := by decide +kernel
theorem dX5_lengthOf_19 : decode cX5_lengthOf 19 = .ok (.getfield 17, 3) := by decide +kernel
theorem dX5_lengthOf_22 : decode cX5_lengthOf 22 = .ok (.idiv, 1) := by decide +kernel
theorem dX5_lengthOf_23 : decode cX5_lengthOf 23 = .ok (.istore_n 3, 1) := by decide +kernel
theorem dX5_lengthOf_24 : decode cX5_lengthOf 24 = .ok (.aload_n 2, 1) := by decide +kernel
theorem dX5_lengthOf_25 : decode cX5_lengthOf 25 = .ok (.getfield 40, 3) := by decide +kernel
theorem dX5_lengthOf_28 : decode cX5_lengthOf 28 = .ok (.aload_n 2, 1) := by decide +kernel
theorem dX5_lengthOf_29 : decode cX5_lengthOf 29 = .ok (.getfield 37, 3) := by decide +kernel
theorem dX5_lengthOf_32 : decode cX5_lengthOf 32 = .ok (.isub, 1) := by decide +kernel
theorem dX5_lengthOf_33 : decode cX5_lengthOf 33 = .ok (.iconst 1, 1) := by decide +kernel
theorem dX5_lengthOf_34 : decode cX5_lengthOf 34 = .ok (.iadd, 1) := by decide +kernel
theorem dX5_lengthOf_35 : decode cX5_lengthOf 35 = .ok (.iload_n 3, 1) := by decide +kernel
theorem dX5_lengthOf_36 : decode cX5_lengthOf 36 = .ok (.invokestatic 57, 3) := by decide +kernel
theorem dX5_lengthOf_39 : decode cX5_lengthOf 39 = .ok (.ireturn, 1) := by decide +kernel
theorem dX6_init_0 : decode cX6_init 0 = .ok (.aload_n 0, 1) := by decide +kernel
theorem dX6_init_1 : decode cX6_init 1 = .ok (.invokespecial 3, 3) := by decide +kernel
theorem dX6_init_4 : decode cX6_init 4 = .ok (.aload_n 0, 1) := by decide +kernel
theorem dX6_init_5 : decode cX6_init 5 = .ok (.sipush 360, 3) := by decide +kernel
theorem dX6_init_8 : decode cX6_init 8 = .ok (.newarray .int, 2) := by decide +kernel
theorem dX6_init_10 : decode cX6_init 10 = .ok (.putfield 9, 3) := by decide +kernel
theorem dX6_init_13 : decode cX6_init 13 = .ok (.aload_n 0, 1) := by decide +kernel
theorem dX6_init_14 : decode cX6_init 14 = .ok (.bipush 6, 2) := by decide +kernel
theorem dX6_init_16 : decode cX6_init 16 = .ok (.newarray .long, 2) := by decide +kernel
theorem dX6_init_18 : decode cX6_init 18 = .ok (.putfield 15, 3) := by decide +kernel
theorem dX6_init_21 : decode cX6_init 21 = .ok (.aload_n 0, 1) := by decide +kernel
theorem dX6_init_22 : decode cX6_init 22 = .ok (.bipush 12, 2) := by decide +kernel
theorem dX6_init_24 : decode cX6_init 24 = .ok (.newarray .int, 2) := by decide +kernel
theorem dX6_init_26 : decode cX6_init 26 = .ok (.putfield 19, 3) := by decide +kernel
theorem dX6_init_29 : decode cX6_init 29 = .ok (.aload_n 0, 1) := by decide +kernel
theorem dX6_init_30 : decode cX6_init 30 = .ok (.bipush 12, 2) := by decide +kernel
theorem dX6_init_32 : decode cX6_init 32 = .ok (.newarray .int, 2) := by decide +kernel
theorem dX6_init_34 : decode cX6_init 34 = .ok (.putfield 22, 3) := by decide +kernel
theorem dX6_init_37 : decode cX6_init 37 = .ok (.return_, 1) := by decide +kernel
theorem dX6_placeOf_0 : decode cX6_placeOf 0 = .ok (.aload_n 0, 1) := by decide +kernel
theorem dX6_placeOf_1 : decode cX6_placeOf 1 = .ok (.getfield 9, 3) := by decide +kernel
theorem dX6_placeOf_4 : decode cX6_placeOf 4 = .ok (.iload_n 1, 1) := by decide +kernel
theorem dX6_placeOf_5 : decode cX6_placeOf 5 = .ok (.bipush 60, 2) := by decide +kernel
theorem dX6_placeOf_7 : decode cX6_placeOf 7 = .ok (.imul, 1) := by decide +kernel
theorem dX6_placeOf_8 : decode cX6_placeOf 8 = .ok (.iload_n 2, 1) := by decide +kernel
theorem dX6_placeOf_9 : decode cX6_placeOf 9 = .ok (.iadd, 1) := by decide +kernel
theorem dX6_placeOf_10 : decode cX6_placeOf 10 = .ok (.iaload, 1) := by decide +kernel
theorem dX6_placeOf_11 : decode cX6_placeOf 11 = .ok (.ireturn, 1) := by decide +kernel
theorem dX6_hasStep_0 : decode cX6_hasStep 0 = .ok (.aload_n 0, 1) := by decide +kernel
theorem dX6_hasStep_1 : decode cX6_hasStep 1 = .ok (.getfield 15, 3) := by decide +kernel
theorem dX6_hasStep_4 : decode cX6_hasStep 4 = .ok (.iload_n 1, 1) := by decide +kernel
theorem dX6_hasStep_5 : decode cX6_hasStep 5 = .ok (.laload, 1) := by decide +kernel
theorem dX6_hasStep_6 : decode cX6_hasStep 6 = .ok (.iload_n 2, 1) := by decide +kernel
theorem dX6_hasStep_7 : decode cX6_hasStep 7 = .ok (.lshr, 1) := by decide +kernel
theorem dX6_hasStep_8 : decode cX6_hasStep 8 = .ok (.lconst 1, 1) := by decide +kernel
theorem dX6_hasStep_9 : decode cX6_hasStep 9 = .ok (.land, 1) := by decide +kernel
theorem dX6_hasStep_10 : decode cX6_hasStep 10 = .ok (.lconst 0, 1) := by decide +kernel
theorem dX6_hasStep_11 : decode cX6_hasStep 11 = .ok (.lcmp, 1) := by decide +kernel
theorem dX6_hasStep_12 : decode cX6_hasStep 12 = .ok (.ifCond .eq 7, 3) := by decide +kernel
theorem dX6_hasStep_15 : decode cX6_hasStep 15 = .ok (.iconst 1, 1) := by decide +kernel
theorem dX6_hasStep_16 : decode cX6_hasStep 16 = .ok (.goto 4, 3) := by decide +kernel
theorem dX6_hasStep_19 : decode cX6_hasStep 19 = .ok (.iconst 0, 1) := by decide +kernel
theorem dX6_hasStep_20 : decode cX6_hasStep 20 = .ok (.ireturn, 1) := by decide +kernel
theorem dX6_someoneStepsAt_0 : decode cX6_someoneStepsAt 0 = .ok (.iconst 0, 1) := by decide +kernel
theorem dX6_someoneStepsAt_1 : decode cX6_someoneStepsAt 1 = .ok (.istore_n 2, 1) := by decide +kernel
theorem dX6_someoneStepsAt_2 : decode cX6_someoneStepsAt 2 = .ok (.iload_n 2, 1) := by decide +kernel
theorem dX6_someoneStepsAt_3 : decode cX6_someoneStepsAt 3 = .ok (.aload_n 0, 1) := by decide +kernel
theorem dX6_someoneStepsAt_4 : decode cX6_someoneStepsAt 4 = .ok (.getfield 25, 3) := by decide +kernel
theorem dX6_someoneStepsAt_7 : decode cX6_someoneStepsAt 7 = .ok (.if_icmp .ge 20, 3) := by decide +kernel
theorem dX6_someoneStepsAt_10 : decode cX6_someoneStepsAt 10 = .ok (.aload_n 0, 1) := by decide +kernel
theorem dX6_someoneStepsAt_11 : decode cX6_someoneStepsAt 11 = .ok (.iload_n 2, 1) := by decide +kernel
theorem dX6_someoneStepsAt_12 : decode cX6_someoneStepsAt 12 = .ok (.iload_n 1, 1) := by decide +kernel
theorem dX6_someoneStepsAt_13 : decode cX6_someoneStepsAt 13 = .ok (.invokevirtual 29, 3) := by decide +kernel
theorem dX6_someoneStepsAt_16 : decode cX6_someoneStepsAt 16 = .ok (.ifCond .eq 5, 3) := by decide +kernel
theorem dX6_someoneStepsAt_19 : decode cX6_someoneStepsAt 19 = .ok (.iconst 1, 1) := by decide +kernel
theorem dX6_someoneStepsAt_20 : decode cX6_someoneStepsAt 20 = .ok (.ireturn, 1) := by decide +kernel
theorem dX6_someoneStepsAt_21 : decode cX6_someoneStepsAt 21 = .ok (.iinc 2 1, 3) := by decide +kernel
theorem dX6_someoneStepsAt_24 : decode cX6_someoneStepsAt 24 = .ok (.goto (-22), 3) := by decide +kernel
theorem dX6_someoneStepsAt_27 : decode cX6_someoneStepsAt 27 = .ok (.iconst 0, 1) := by decide +kernel
theorem dX6_someoneStepsAt_28 : decode cX6_someoneStepsAt 28 = .ok (.ireturn, 1) := by decide +kernel
theorem dX6_stepsOf_0 : decode cX6_stepsOf 0 = .ok (.aload_n 0, 1) := by decide +kernel
theorem dX6_stepsOf_1 : decode cX6_stepsOf 1 = .ok (.getfield 15, 3) := by decide +kernel
theorem dX6_stepsOf_4 : decode cX6_stepsOf 4 = .ok (.iload_n 1, 1) := by decide +kernel
theorem dX6_stepsOf_5 : decode cX6_stepsOf 5 = .ok (.laload, 1) := by decide +kernel
theorem dX6_stepsOf_6 : decode cX6_stepsOf 6 = .ok (.invokestatic 33, 3) := by decide +kernel
theorem dX6_stepsOf_9 : decode cX6_stepsOf 9 = .ok (.ireturn, 1) := by decide +kernel
theorem dX6_addPerson_0 : decode cX6_addPerson 0 = .ok (.iconst 0, 1) := by decide +kernel
theorem dX6_addPerson_1 : decode cX6_addPerson 1 = .ok (.istore_n 2, 1) := by decide +kernel
theorem dX6_addPerson_2 : decode cX6_addPerson 2 = .ok (.iload_n 2, 1) := by decide +kernel
theorem dX6_addPerson_3 : decode cX6_addPerson 3 = .ok (.bipush 60, 2) := by decide +kernel
theorem dX6_addPerson_5 : decode cX6_addPerson 5 = .ok (.if_icmp .ge 24, 3) := by decide +kernel
theorem dX6_addPerson_8 : decode cX6_addPerson 8 = .ok (.aload_n 0, 1) := by decide +kernel
theorem dX6_addPerson_9 : decode cX6_addPerson 9 = .ok (.getfield 9, 3) := by decide +kernel
theorem dX6_addPerson_12 : decode cX6_addPerson 12 = .ok (.aload_n 0, 1) := by decide +kernel
theorem dX6_addPerson_13 : decode cX6_addPerson 13 = .ok (.getfield 25, 3) := by decide +kernel
theorem dX6_addPerson_16 : decode cX6_addPerson 16 = .ok (.bipush 60, 2) := by decide +kernel
theorem dX6_addPerson_18 : decode cX6_addPerson 18 = .ok (.imul, 1) := by decide +kernel
theorem dX6_addPerson_19 : decode cX6_addPerson 19 = .ok (.iload_n 2, 1) := by decide +kernel
theorem dX6_addPerson_20 : decode cX6_addPerson 20 = .ok (.iadd, 1) := by decide +kernel
theorem dX6_addPerson_21 : decode cX6_addPerson 21 = .ok (.iload_n 1, 1) := by decide +kernel
theorem dX6_addPerson_22 : decode cX6_addPerson 22 = .ok (.iastore, 1) := by decide +kernel
theorem dX6_addPerson_23 : decode cX6_addPerson 23 = .ok (.iinc 2 1, 3) := by decide +kernel
theorem dX6_addPerson_26 : decode cX6_addPerson 26 = .ok (.goto (-24), 3) := by decide +kernel
theorem dX6_addPerson_29 : decode cX6_addPerson 29 = .ok (.aload_n 0, 1) := by decide +kernel
theorem dX6_addPerson_30 : decode cX6_addPerson 30 = .ok (.dup, 1) := by decide +kernel
theorem dX6_addPerson_31 : decode cX6_addPerson 31 = .ok (.getfield 25, 3) := by decide +kernel
theorem dX6_addPerson_34 : decode cX6_addPerson 34 = .ok (.iconst 1, 1) := by decide +kernel
theorem dX6_addPerson_35 : decode cX6_addPerson 35 = .ok (.iadd, 1) := by decide +kernel
theorem dX6_addPerson_36 : decode cX6_addPerson 36 = .ok (.putfield 25, 3) := by decide +kernel
theorem dX6_addPerson_39 : decode cX6_addPerson 39 = .ok (.aload_n 0, 1) := by decide +kernel
theorem dX6_addPerson_40 : decode cX6_addPerson 40 = .ok (.getfield 25, 3) := by decide +kernel
theorem dX6_addPerson_43 : decode cX6_addPerson 43 = .ok (.iconst 1, 1) := by decide +kernel
theorem dX6_addPerson_44 : decode cX6_addPerson 44 = .ok (.isub, 1) := by decide +kernel
theorem dX6_addPerson_45 : decode cX6_addPerson 45 = .ok (.ireturn, 1) := by decide +kernel
theorem dX6_addStep_0 : decode cX6_addStep 0 = .ok (.aload_n 0, 1) := by decide +kernel
theorem dX6_addStep_1 : decode cX6_addStep 1 = .ok (.getfield 15, 3) := by decide +kernel
theorem dX6_addStep_4 : decode cX6_addStep 4 = .ok (.iload_n 1, 1) := by decide +kernel
theorem dX6_addStep_5 : decode cX6_addStep 5 = .ok (.dup2, 1) := by decide +kernel
theorem dX6_addStep_6 : decode cX6_addStep 6 = .ok (.laload, 1) := by decide +kernel
theorem dX6_addStep_7 : decode cX6_addStep 7 = .ok (.lconst 1, 1) := by decide +kernel
theorem dX6_addStep_8 : decode cX6_addStep 8 = .ok (.iload_n 2, 1) := by decide +kernel
theorem dX6_addStep_9 : decode cX6_addStep 9 = .ok (.lshl, 1) := by decide +kernel
theorem dX6_addStep_10 : decode cX6_addStep 10 = .ok (.lor, 1) := by decide +kernel
theorem dX6_addStep_11 : decode cX6_addStep 11 = .ok (.lastore, 1) := by decide +kernel
theorem dX6_addStep_12 : decode cX6_addStep 12 = .ok (.aload_n 0, 1) := by decide +kernel
theorem dX6_addStep_13 : decode cX6_addStep 13 = .ok (.getfield 9, 3) := by decide +kernel
theorem dX6_addStep_16 : decode cX6_addStep 16 = .ok (.iload_n 1, 1) := by decide +kernel
theorem dX6_addStep_17 : decode cX6_addStep 17 = .ok (.bipush 60, 2) := by decide +kernel
theorem dX6_addStep_19 : decode cX6_addStep 19 = .ok (.imul, 1) := by decide +kernel
theorem dX6_addStep_20 : decode cX6_addStep 20 = .ok (.iload_n 2, 1) := by decide +kernel
theorem dX6_addStep_21 : decode cX6_addStep 21 = .ok (.iadd, 1) := by decide +kernel
theorem dX6_addStep_22 : decode cX6_addStep 22 = .ok (.iload_n 3, 1) := by decide +kernel
theorem dX6_addStep_23 : decode cX6_addStep 23 = .ok (.iastore, 1) := by decide +kernel
theorem dX6_addStep_24 : decode cX6_addStep 24 = .ok (.iload_n 2, 1) := by decide +kernel
theorem dX6_addStep_25 : decode cX6_addStep 25 = .ok (.iconst 1, 1) := by decide +kernel
theorem dX6_addStep_26 : decode cX6_addStep 26 = .ok (.iadd, 1) := by decide +kernel
theorem dX6_addStep_27 : decode cX6_addStep 27 = .ok (.istore 4, 2) := by decide +kernel
theorem dX6_addStep_29 : decode cX6_addStep 29 = .ok (.iload 4, 2) := by decide +kernel
theorem dX6_addStep_31 : decode cX6_addStep 31 = .ok (.bipush 60, 2) := by decide +kernel
theorem dX6_addStep_33 : decode cX6_addStep 33 = .ok (.if_icmp .ge 32, 3) := by decide +kernel
theorem dX6_addStep_36 : decode cX6_addStep 36 = .ok (.aload_n 0, 1) := by decide +kernel
theorem dX6_addStep_37 : decode cX6_addStep 37 = .ok (.iload_n 1, 1) := by decide +kernel
theorem dX6_addStep_38 : decode cX6_addStep 38 = .ok (.iload 4, 2) := by decide +kernel
theorem dX6_addStep_40 : decode cX6_addStep 40 = .ok (.invokevirtual 29, 3) := by decide +kernel
theorem dX6_addStep_43 : decode cX6_addStep 43 = .ok (.ifCond .ne 22, 3) := by decide +kernel
theorem dX6_addStep_46 : decode cX6_addStep 46 = .ok (.aload_n 0, 1) := by decide +kernel
theorem dX6_addStep_47 : decode cX6_addStep 47 = .ok (.getfield 9, 3) := by decide +kernel
theorem dX6_addStep_50 : decode cX6_addStep 50 = .ok (.iload_n 1, 1) := by decide +kernel
theorem dX6_addStep_51 : decode cX6_addStep 51 = .ok (.bipush 60, 2) := by decide +kernel
theorem dX6_addStep_53 : decode cX6_addStep 53 = .ok (.imul, 1) := by decide +kernel
theorem dX6_addStep_54 : decode cX6_addStep 54 = .ok (.iload 4, 2) := by decide +kernel
theorem dX6_addStep_56 : decode cX6_addStep 56 = .ok (.iadd, 1) := by decide +kernel
theorem dX6_addStep_57 : decode cX6_addStep 57 = .ok (.iload_n 3, 1) := by decide +kernel
theorem dX6_addStep_58 : decode cX6_addStep 58 = .ok (.iastore, 1) := by decide +kernel
theorem dX6_addStep_59 : decode cX6_addStep 59 = .ok (.iinc 4 1, 3) := by decide +kernel
theorem dX6_addStep_62 : decode cX6_addStep 62 = .ok (.goto (-33), 3) := by decide +kernel
theorem dX6_addStep_65 : decode cX6_addStep 65 = .ok (.aload_n 0, 1) := by decide +kernel
theorem dX6_addStep_66 : decode cX6_addStep 66 = .ok (.iload_n 1, 1) := by decide +kernel
theorem dX6_addStep_67 : decode cX6_addStep 67 = .ok (.invokevirtual 39, 3) := by decide +kernel
theorem dX6_addStep_70 : decode cX6_addStep 70 = .ok (.ireturn, 1) := by decide +kernel
theorem dX6_addWall_0 : decode cX6_addWall 0 = .ok (.aload_n 0, 1) := by decide +kernel
theorem dX6_addWall_1 : decode cX6_addWall 1 = .ok (.getfield 19, 3) := by decide +kernel
theorem dX6_addWall_4 : decode cX6_addWall 4 = .ok (.aload_n 0, 1) := by decide +kernel
theorem dX6_addWall_5 : decode cX6_addWall 5 = .ok (.getfield 43, 3) := by decide +kernel
theorem dX6_addWall_8 : decode cX6_addWall 8 = .ok (.iload_n 1, 1) := by decide +kernel
theorem dX6_addWall_9 : decode cX6_addWall 9 = .ok (.iastore, 1) := by decide +kernel
theorem dX6_addWall_10 : decode cX6_addWall 10 = .ok (.aload_n 0, 1) := by decide +kernel
theorem dX6_addWall_11 : decode cX6_addWall 11 = .ok (.getfield 22, 3) := by decide +kernel
theorem dX6_addWall_14 : decode cX6_addWall 14 = .ok (.aload_n 0, 1) := by decide +kernel
theorem dX6_addWall_15 : decode cX6_addWall 15 = .ok (.getfield 43, 3) := by decide +kernel
theorem dX6_addWall_18 : decode cX6_addWall 18 = .ok (.iload_n 2, 1) := by decide +kernel
theorem dX6_addWall_19 : decode cX6_addWall 19 = .ok (.iastore, 1) := by decide +kernel
theorem dX6_addWall_20 : decode cX6_addWall 20 = .ok (.aload_n 0, 1) := by decide +kernel
theorem dX6_addWall_21 : decode cX6_addWall 21 = .ok (.dup, 1) := by decide +kernel
theorem dX6_addWall_22 : decode cX6_addWall 22 = .ok (.getfield 43, 3) := by decide +kernel
theorem dX6_addWall_25 : decode cX6_addWall 25 = .ok (.iconst 1, 1) := by decide +kernel
theorem dX6_addWall_26 : decode cX6_addWall 26 = .ok (.iadd, 1) := by decide +kernel
theorem dX6_addWall_27 : decode cX6_addWall 27 = .ok (.putfield 43, 3) := by decide +kernel
theorem dX6_addWall_30 : decode cX6_addWall 30 = .ok (.aload_n 0, 1) := by decide +kernel
theorem dX6_addWall_31 : decode cX6_addWall 31 = .ok (.getfield 43, 3) := by decide +kernel
theorem dX6_addWall_34 : decode cX6_addWall 34 = .ok (.iconst 1, 1) := by decide +kernel
theorem dX6_addWall_35 : decode cX6_addWall 35 = .ok (.isub, 1) := by decide +kernel
theorem dX6_addWall_36 : decode cX6_addWall 36 = .ok (.ireturn, 1) := by decide +kernel
theorem dX6_hides_0 : decode cX6_hides 0 = .ok (.aload_n 0, 1) := by decide +kernel
theorem dX6_hides_1 : decode cX6_hides 1 = .ok (.iload_n 1, 1) := by decide +kernel
theorem dX6_hides_2 : decode cX6_hides 2 = .ok (.iload_n 2, 1) := by decide +kernel
theorem dX6_hides_3 : decode cX6_hides 3 = .ok (.invokevirtual 46, 3) := by decide +kernel
theorem dX6_hides_6 : decode cX6_hides 6 = .ok (.istore 4, 2) := by decide +kernel
theorem dX6_hides_8 : decode cX6_hides 8 = .ok (.iload_n 3, 1) := by decide +kernel
theorem dX6_hides_9 : decode cX6_hides 9 = .ok (.iload 4, 2) := by decide +kernel
theorem dX6_hides_11 : decode cX6_hides 11 = .ok (.if_icmp .ne 5, 3) := by decide +kernel
theorem dX6_hides_14 : decode cX6_hides 14 = .ok (.iconst 1, 1) := by decide +kernel
theorem dX6_hides_15 : decode cX6_hides 15 = .ok (.ireturn, 1) := by decide +kernel
theorem dX6_hides_16 : decode cX6_hides 16 = .ok (.iconst 0, 1) := by decide +kernel
theorem dX6_hides_17 : decode cX6_hides 17 = .ok (.istore 5, 2) := by decide +kernel
theorem dX6_hides_19 : decode cX6_hides 19 = .ok (.iload 5, 2) := by decide +kernel
theorem dX6_hides_21 : decode cX6_hides 21 = .ok (.aload_n 0, 1) := by decide +kernel
theorem dX6_hides_22 : decode cX6_hides 22 = .ok (.getfield 43, 3) := by decide +kernel
theorem dX6_hides_25 : decode cX6_hides 25 = .ok (.if_icmp .ge 34, 3) := by decide +kernel
theorem dX6_hides_28 : decode cX6_hides 28 = .ok (.iload_n 3, 1) := by decide +kernel
theorem dX6_hides_29 : decode cX6_hides 29 = .ok (.iload 4, 2) := by decide +kernel
theorem dX6_hides_31 : decode cX6_hides 31 = .ok (.aload_n 0, 1) := by decide +kernel
theorem dX6_hides_32 : decode cX6_hides 32 = .ok (.getfield 19, 3) := by decide +kernel
theorem dX6_hides_35 : decode cX6_hides 35 = .ok (.iload 5, 2) := by decide +kernel
theorem dX6_hides_37 : decode cX6_hides 37 = .ok (.iaload, 1) := by decide +kernel
theorem dX6_hides_38 : decode cX6_hides 38 = .ok (.aload_n 0, 1) := by decide +kernel
theorem dX6_hides_39 : decode cX6_hides 39 = .ok (.getfield 22, 3) := by decide +kernel
theorem dX6_hides_42 : decode cX6_hides 42 = .ok (.iload 5, 2) := by decide +kernel
theorem dX6_hides_44 : decode cX6_hides 44 = .ok (.iaload, 1) := by decide +kernel
theorem dX6_hides_45 : decode cX6_hides 45 = .ok (.invokestatic 50, 3) := by decide +kernel
theorem dX6_hides_48 : decode cX6_hides 48 = .ok (.ifCond .eq 5, 3) := by decide +kernel
theorem dX6_hides_51 : decode cX6_hides 51 = .ok (.iconst 1, 1) := by decide +kernel
theorem dX6_hides_52 : decode cX6_hides 52 = .ok (.ireturn, 1) := by decide +kernel
theorem dX6_hides_53 : decode cX6_hides 53 = .ok (.iinc 5 1, 3) := by decide +kernel
theorem dX6_hides_56 : decode cX6_hides 56 = .ok (.goto (-37), 3) := by decide +kernel
theorem dX6_hides_59 : decode cX6_hides 59 = .ok (.iconst 0, 1) := by decide +kernel
theorem dX6_hides_60 : decode cX6_hides 60 = .ok (.istore 5, 2) := by decide +kernel
theorem dX6_hides_62 : decode cX6_hides 62 = .ok (.iload 5, 2) := by decide +kernel
theorem dX6_hides_64 : decode cX6_hides 64 = .ok (.aload_n 0, 1) := by decide +kernel
theorem dX6_hides_65 : decode cX6_hides 65 = .ok (.getfield 25, 3) := by decide +kernel
theorem dX6_hides_68 : decode cX6_hides 68 = .ok (.if_icmp .ge 27, 3) := by decide +kernel
theorem dX6_hides_71 : decode cX6_hides 71 = .ok (.aload_n 0, 1) := by decide +kernel
theorem dX6_hides_72 : decode cX6_hides 72 = .ok (.iload 5, 2) := by decide +kernel
theorem dX6_hides_74 : decode cX6_hides 74 = .ok (.iload_n 2, 1) := by decide +kernel
theorem dX6_hides_75 : decode cX6_hides 75 = .ok (.invokevirtual 46, 3) := by decide +kernel
theorem dX6_hides_78 : decode cX6_hides 78 = .ok (.iload_n 3, 1) := by decide +kernel
theorem dX6_hides_79 : decode cX6_hides 79 = .ok (.iload 4, 2) := by decide +kernel
theorem dX6_hides_81 : decode cX6_hides 81 = .ok (.invokestatic 56, 3) := by decide +kernel
theorem dX6_hides_84 : decode cX6_hides 84 = .ok (.ifCond .eq 5, 3) := by decide +kernel
theorem dX6_hides_87 : decode cX6_hides 87 = .ok (.iconst 1, 1) := by decide +kernel
theorem dX6_hides_88 : decode cX6_hides 88 = .ok (.ireturn, 1) := by decide +kernel
theorem dX6_hides_89 : decode cX6_hides 89 = .ok (.iinc 5 1, 3) := by decide +kernel
theorem dX6_hides_92 : decode cX6_hides 92 = .ok (.goto (-30), 3) := by decide +kernel
theorem dX6_hides_95 : decode cX6_hides 95 = .ok (.iconst 0, 1) := by decide +kernel
theorem dX6_hides_96 : decode cX6_hides 96 = .ok (.ireturn, 1) := by decide +kernel
theorem dX7_init_0 : decode cX7_init 0 = .ok (.aload_n 0, 1) := by decide +kernel
theorem dX7_init_1 : decode cX7_init 1 = .ok (.invokespecial 1, 3) := by decide +kernel
theorem dX7_init_4 : decode cX7_init 4 = .ok (.aload_n 0, 1) := by decide +kernel
theorem dX7_init_5 : decode cX7_init 5 = .ok (.new 7, 3) := by decide +kernel
theorem dX7_init_8 : decode cX7_init 8 = .ok (.dup, 1) := by decide +kernel
theorem dX7_init_9 : decode cX7_init 9 = .ok (.invokespecial 9, 3) := by decide +kernel
theorem dX7_init_12 : decode cX7_init 12 = .ok (.putfield 10, 3) := by decide +kernel
theorem dX7_init_15 : decode cX7_init 15 = .ok (.aload_n 0, 1) := by decide +kernel
theorem dX7_init_16 : decode cX7_init 16 = .ok (.new 16, 3) := by decide +kernel
theorem dX7_init_19 : decode cX7_init 19 = .ok (.dup, 1) := by decide +kernel
theorem dX7_init_20 : decode cX7_init 20 = .ok (.invokespecial 18, 3) := by decide +kernel
theorem dX7_init_23 : decode cX7_init 23 = .ok (.putfield 19, 3) := by decide +kernel
theorem dX7_init_26 : decode cX7_init 26 = .ok (.aload_n 0, 1) := by decide +kernel
theorem dX7_init_27 : decode cX7_init 27 = .ok (.new 23, 3) := by decide +kernel
theorem dX7_init_30 : decode cX7_init 30 = .ok (.dup, 1) := by decide +kernel
theorem dX7_init_31 : decode cX7_init 31 = .ok (.invokespecial 25, 3) := by decide +kernel
theorem dX7_init_34 : decode cX7_init 34 = .ok (.putfield 26, 3) := by decide +kernel
theorem dX7_init_37 : decode cX7_init 37 = .ok (.aload_n 0, 1) := by decide +kernel
theorem dX7_init_38 : decode cX7_init 38 = .ok (.new 30, 3) := by decide +kernel
theorem dX7_init_41 : decode cX7_init 41 = .ok (.dup, 1) := by decide +kernel
theorem dX7_init_42 : decode cX7_init 42 = .ok (.aload_n 0, 1) := by decide +kernel
theorem dX7_init_43 : decode cX7_init 43 = .ok (.getfield 10, 3) := by decide +kernel
theorem dX7_init_46 : decode cX7_init 46 = .ok (.invokespecial 32, 3) := by decide +kernel
theorem dX7_init_49 : decode cX7_init 49 = .ok (.putfield 35, 3) := by decide +kernel
theorem dX7_init_52 : decode cX7_init 52 = .ok (.aload_n 0, 1) := by decide +kernel
theorem dX7_init_53 : decode cX7_init 53 = .ok (.new 39, 3) := by decide +kernel
theorem dX7_init_56 : decode cX7_init 56 = .ok (.dup, 1) := by decide +kernel
theorem dX7_init_57 : decode cX7_init 57 = .ok (.aload_n 0, 1) := by decide +kernel
theorem dX7_init_58 : decode cX7_init 58 = .ok (.getfield 35, 3) := by decide +kernel
theorem dX7_init_61 : decode cX7_init 61 = .ok (.aload_n 0, 1) := by decide +kernel
theorem dX7_init_62 : decode cX7_init 62 = .ok (.getfield 19, 3) := by decide +kernel
theorem dX7_init_65 : decode cX7_init 65 = .ok (.aload_n 0, 1) := by decide +kernel
theorem dX7_init_66 : decode cX7_init 66 = .ok (.getfield 26, 3) := by decide +kernel
theorem dX7_init_69 : decode cX7_init 69 = .ok (.invokespecial 41, 3) := by decide +kernel
theorem dX7_init_72 : decode cX7_init 72 = .ok (.putfield 44, 3) := by decide +kernel
theorem dX7_init_75 : decode cX7_init 75 = .ok (.aload_n 0, 1) := by decide +kernel
theorem dX7_init_76 : decode cX7_init 76 = .ok (.bipush 8, 2) := by decide +kernel
theorem dX7_init_78 : decode cX7_init 78 = .ok (.newarray .int, 2) := by decide +kernel
theorem dX7_init_80 : decode cX7_init 80 = .ok (.putfield 48, 3) := by decide +kernel
theorem dX7_init_83 : decode cX7_init 83 = .ok (.return_, 1) := by decide +kernel
theorem dX7_person_0 : decode cX7_person 0 = .ok (.iload_n 1, 1) := by decide +kernel
theorem dX7_person_1 : decode cX7_person 1 = .ok (.invokestatic 52, 3) := by decide +kernel
theorem dX7_person_4 : decode cX7_person 4 = .ok (.ifCond .ne 5, 3) := by decide +kernel
theorem dX7_person_7 : decode cX7_person 7 = .ok (.iconst (-1), 1) := by decide +kernel
theorem dX7_person_8 : decode cX7_person 8 = .ok (.ireturn, 1) := by decide +kernel
theorem dX7_person_9 : decode cX7_person 9 = .ok (.aload_n 0, 1) := by decide +kernel
theorem dX7_person_10 : decode cX7_person 10 = .ok (.getfield 10, 3) := by decide +kernel
theorem dX7_person_13 : decode cX7_person 13 = .ok (.getfield 56, 3) := by decide +kernel
theorem dX7_person_16 : decode cX7_person 16 = .ok (.bipush 6, 2) := by decide +kernel
theorem dX7_person_18 : decode cX7_person 18 = .ok (.if_icmp .lt 6, 3) := by decide +kernel
theorem dX7_person_21 : decode cX7_person 21 = .ok (.bipush (-2), 2) := by decide +kernel
theorem dX7_person_23 : decode cX7_person 23 = .ok (.ireturn, 1) := by decide +kernel
theorem dX7_person_24 : decode cX7_person 24 = .ok (.aload_n 0, 1) := by decide +kernel
theorem dX7_person_25 : decode cX7_person 25 = .ok (.getfield 44, 3) := by decide +kernel
theorem dX7_person_28 : decode cX7_person 28 = .ok (.invokevirtual 60, 3) := by decide +kernel
theorem dX7_person_31 : decode cX7_person 31 = .ok (.aload_n 0, 1) := by decide +kernel
theorem dX7_person_32 : decode cX7_person 32 = .ok (.getfield 10, 3) := by decide +kernel
theorem dX7_person_35 : decode cX7_person 35 = .ok (.iload_n 1, 1) := by decide +kernel
theorem dX7_person_36 : decode cX7_person 36 = .ok (.invokevirtual 63, 3) := by decide +kernel
theorem dX7_person_39 : decode cX7_person 39 = .ok (.ireturn, 1) := by decide +kernel
theorem dX7_step_0 : decode cX7_step 0 = .ok (.aload_n 0, 1) := by decide +kernel
theorem dX7_step_1 : decode cX7_step 1 = .ok (.iload_n 1, 1) := by decide +kernel
theorem dX7_step_2 : decode cX7_step 2 = .ok (.invokevirtual 67, 3) := by decide +kernel
theorem dX7_step_5 : decode cX7_step 5 = .ok (.ifCond .eq 21, 3) := by decide +kernel
theorem dX7_step_8 : decode cX7_step 8 = .ok (.iload_n 2, 1) := by decide +kernel
theorem dX7_step_9 : decode cX7_step 9 = .ok (.invokestatic 70, 3) := by decide +kernel
theorem dX7_step_12 : decode cX7_step 12 = .ok (.ifCond .eq 14, 3) := by decide +kernel
theorem dX7_step_15 : decode cX7_step 15 = .ok (.iload_n 2, 1) := by decide +kernel
theorem dX7_step_16 : decode cX7_step 16 = .ok (.ifCond .eq 10, 3) := by decide +kernel
theorem dX7_step_19 : decode cX7_step 19 = .ok (.iload_n 3, 1) := by decide +kernel
theorem dX7_step_20 : decode cX7_step 20 = .ok (.invokestatic 52, 3) := by decide +kernel
theorem dX7_step_23 : decode cX7_step 23 = .ok (.ifCond .ne 5, 3) := by decide +kernel
theorem dX7_step_26 : decode cX7_step 26 = .ok (.iconst (-1), 1) := by decide +kernel
theorem dX7_step_27 : decode cX7_step 27 = .ok (.ireturn, 1) := by decide +kernel
theorem dX7_step_28 : decode cX7_step 28 = .ok (.aload_n 0, 1) := by decide +kernel
theorem dX7_step_29 : decode cX7_step 29 = .ok (.getfield 10, 3) := by decide +kernel
theorem dX7_step_32 : decode cX7_step 32 = .ok (.iload_n 1, 1) := by decide +kernel
theorem dX7_step_33 : decode cX7_step 33 = .ok (.iload_n 2, 1) := by decide +kernel
theorem dX7_step_34 : decode cX7_step 34 = .ok (.invokevirtual 73, 3) := by decide +kernel
theorem dX7_step_37 : decode cX7_step 37 = .ok (.ifCond .ne 19, 3) := by decide +kernel
theorem dX7_step_40 : decode cX7_step 40 = .ok (.aload_n 0, 1) := by decide +kernel
theorem dX7_step_41 : decode cX7_step 41 = .ok (.getfield 10, 3) := by decide +kernel
theorem dX7_step_44 : decode cX7_step 44 = .ok (.iload_n 1, 1) := by decide +kernel
theorem dX7_step_45 : decode cX7_step 45 = .ok (.invokevirtual 77, 3) := by decide +kernel
theorem dX7_step_48 : decode cX7_step 48 = .ok (.bipush 12, 2) := by decide +kernel
theorem dX7_step_50 : decode cX7_step 50 = .ok (.if_icmp .lt 6, 3) := by decide +kernel
theorem dX7_step_53 : decode cX7_step 53 = .ok (.bipush (-2), 2) := by decide +kernel
theorem dX7_step_55 : decode cX7_step 55 = .ok (.ireturn, 1) := by decide +kernel
theorem dX7_step_56 : decode cX7_step 56 = .ok (.aload_n 0, 1) := by decide +kernel
theorem dX7_step_57 : decode cX7_step 57 = .ok (.getfield 44, 3) := by decide +kernel
theorem dX7_step_60 : decode cX7_step 60 = .ok (.invokevirtual 60, 3) := by decide +kernel
theorem dX7_step_63 : decode cX7_step 63 = .ok (.aload_n 0, 1) := by decide +kernel
theorem dX7_step_64 : decode cX7_step 64 = .ok (.getfield 10, 3) := by decide +kernel
theorem dX7_step_67 : decode cX7_step 67 = .ok (.iload_n 1, 1) := by decide +kernel
theorem dX7_step_68 : decode cX7_step 68 = .ok (.iload_n 2, 1) := by decide +kernel
theorem dX7_step_69 : decode cX7_step 69 = .ok (.iload_n 3, 1) := by decide +kernel
theorem dX7_step_70 : decode cX7_step 70 = .ok (.invokevirtual 80, 3) := by decide +kernel
theorem dX7_step_73 : decode cX7_step 73 = .ok (.ireturn, 1) := by decide +kernel
theorem dX7_wall_0 : decode cX7_wall 0 = .ok (.iload_n 1, 1) := by decide +kernel
theorem dX7_wall_1 : decode cX7_wall 1 = .ok (.invokestatic 52, 3) := by decide +kernel
theorem dX7_wall_4 : decode cX7_wall 4 = .ok (.ifCond .eq 15, 3) := by decide +kernel
theorem dX7_wall_7 : decode cX7_wall 7 = .ok (.iload_n 2, 1) := by decide +kernel
theorem dX7_wall_8 : decode cX7_wall 8 = .ok (.invokestatic 52, 3) := by decide +kernel
theorem dX7_wall_11 : decode cX7_wall 11 = .ok (.ifCond .eq 8, 3) := by decide +kernel
theorem dX7_wall_14 : decode cX7_wall 14 = .ok (.iload_n 1, 1) := by decide +kernel
theorem dX7_wall_15 : decode cX7_wall 15 = .ok (.iload_n 2, 1) := by decide +kernel
theorem dX7_wall_16 : decode cX7_wall 16 = .ok (.if_icmp .ne 5, 3) := by decide +kernel
theorem dX7_wall_19 : decode cX7_wall 19 = .ok (.iconst (-1), 1) := by decide +kernel
theorem dX7_wall_20 : decode cX7_wall 20 = .ok (.ireturn, 1) := by decide +kernel
theorem dX7_wall_21 : decode cX7_wall 21 = .ok (.aload_n 0, 1) := by decide +kernel
theorem dX7_wall_22 : decode cX7_wall 22 = .ok (.getfield 10, 3) := by decide +kernel
theorem dX7_wall_25 : decode cX7_wall 25 = .ok (.getfield 84, 3) := by decide +kernel
theorem dX7_wall_28 : decode cX7_wall 28 = .ok (.bipush 12, 2) := by decide +kernel
theorem dX7_wall_30 : decode cX7_wall 30 = .ok (.if_icmp .lt 6, 3) := by decide +kernel
theorem dX7_wall_33 : decode cX7_wall 33 = .ok (.bipush (-2), 2) := by decide +kernel
theorem dX7_wall_35 : decode cX7_wall 35 = .ok (.ireturn, 1) := by decide +kernel
theorem dX7_wall_36 : decode cX7_wall 36 = .ok (.aload_n 0, 1) := by decide +kernel
theorem dX7_wall_37 : decode cX7_wall 37 = .ok (.getfield 44, 3) := by decide +kernel
theorem dX7_wall_40 : decode cX7_wall 40 = .ok (.invokevirtual 60, 3) := by decide +kernel
theorem dX7_wall_43 : decode cX7_wall 43 = .ok (.aload_n 0, 1) := by decide +kernel
theorem dX7_wall_44 : decode cX7_wall 44 = .ok (.getfield 10, 3) := by decide +kernel
theorem dX7_wall_47 : decode cX7_wall 47 = .ok (.iload_n 1, 1) := by decide +kernel
theorem dX7_wall_48 : decode cX7_wall 48 = .ok (.iload_n 2, 1) := by decide +kernel
theorem dX7_wall_49 : decode cX7_wall 49 = .ok (.invokevirtual 87, 3) := by decide +kernel
theorem dX7_wall_52 : decode cX7_wall 52 = .ok (.ireturn, 1) := by decide +kernel
theorem dX7_open_0 : decode cX7_open 0 = .ok (.aload_n 0, 1) := by decide +kernel
theorem dX7_open_1 : decode cX7_open 1 = .ok (.getfield 10, 3) := by decide +kernel
theorem dX7_open_4 : decode cX7_open 4 = .ok (.getfield 84, 3) := by decide +kernel
theorem dX7_open_7 : decode cX7_open 7 = .ok (.ifCond .ne 6, 3) := by decide +kernel
theorem dX7_open_10 : decode cX7_open 10 = .ok (.bipush (-3), 2) := by decide +kernel
theorem dX7_open_12 : decode cX7_open 12 = .ok (.ireturn, 1) := by decide +kernel
theorem dX7_open_13 : decode cX7_open 13 = .ok (.aload_n 0, 1) := by decide +kernel
theorem dX7_open_14 : decode cX7_open 14 = .ok (.getfield 44, 3) := by decide +kernel
theorem dX7_open_17 : decode cX7_open 17 = .ok (.invokevirtual 60, 3) := by decide +kernel
theorem dX7_open_20 : decode cX7_open 20 = .ok (.aload_n 0, 1) := by decide +kernel
theorem dX7_open_21 : decode cX7_open 21 = .ok (.getfield 10, 3) := by decide +kernel
theorem dX7_open_24 : decode cX7_open 24 = .ok (.dup, 1) := by decide +kernel
theorem dX7_open_25 : decode cX7_open 25 = .ok (.getfield 84, 3) := by decide +kernel
theorem dX7_open_28 : decode cX7_open 28 = .ok (.iconst 1, 1) := by decide +kernel
theorem dX7_open_29 : decode cX7_open 29 = .ok (.isub, 1) := by decide +kernel
theorem dX7_open_30 : decode cX7_open 30 = .ok (.putfield 84, 3) := by decide +kernel
theorem dX7_open_33 : decode cX7_open 33 = .ok (.aload_n 0, 1) := by decide +kernel
theorem dX7_open_34 : decode cX7_open 34 = .ok (.getfield 10, 3) := by decide +kernel
theorem dX7_open_37 : decode cX7_open 37 = .ok (.getfield 84, 3) := by decide +kernel
theorem dX7_open_40 : decode cX7_open 40 = .ok (.ireturn, 1) := by decide +kernel
theorem dX7_camera_0 : decode cX7_camera 0 = .ok (.iload_n 1, 1) := by decide +kernel
theorem dX7_camera_1 : decode cX7_camera 1 = .ok (.invokestatic 52, 3) := by decide +kernel
theorem dX7_camera_4 : decode cX7_camera 4 = .ok (.ifCond .eq 12, 3) := by decide +kernel
theorem dX7_camera_7 : decode cX7_camera 7 = .ok (.iload_n 2, 1) := by decide +kernel
theorem dX7_camera_8 : decode cX7_camera 8 = .ok (.ifCond .lt 8, 3) := by decide +kernel
theorem dX7_camera_11 : decode cX7_camera 11 = .ok (.iload_n 2, 1) := by decide +kernel
theorem dX7_camera_12 : decode cX7_camera 12 = .ok (.iconst 4, 1) := by decide +kernel
theorem dX7_camera_13 : decode cX7_camera 13 = .ok (.if_icmp .lt 5, 3) := by decide +kernel
theorem dX7_camera_16 : decode cX7_camera 16 = .ok (.iconst (-1), 1) := by decide +kernel
theorem dX7_camera_17 : decode cX7_camera 17 = .ok (.ireturn, 1) := by decide +kernel
theorem dX7_camera_18 : decode cX7_camera 18 = .ok (.aload_n 0, 1) := by decide +kernel
theorem dX7_camera_19 : decode cX7_camera 19 = .ok (.getfield 19, 3) := by decide +kernel
theorem dX7_camera_22 : decode cX7_camera 22 = .ok (.getfield 91, 3) := by decide +kernel
theorem dX7_camera_25 : decode cX7_camera 25 = .ok (.bipush 10, 2) := by decide +kernel
theorem dX7_camera_27 : decode cX7_camera 27 = .ok (.if_icmp .lt 6, 3) := by decide +kernel
theorem dX7_camera_30 : decode cX7_camera 30 = .ok (.bipush (-2), 2) := by decide +kernel
theorem dX7_camera_32 : decode cX7_camera 32 = .ok (.ireturn, 1) := by decide +kernel
theorem dX7_camera_33 : decode cX7_camera 33 = .ok (.aload_n 0, 1) := by decide +kernel
theorem dX7_camera_34 : decode cX7_camera 34 = .ok (.getfield 44, 3) := by decide +kernel
theorem dX7_camera_37 : decode cX7_camera 37 = .ok (.invokevirtual 60, 3) := by decide +kernel
theorem dX7_camera_40 : decode cX7_camera 40 = .ok (.aload_n 0, 1) := by decide +kernel
theorem dX7_camera_41 : decode cX7_camera 41 = .ok (.getfield 19, 3) := by decide +kernel
theorem dX7_camera_44 : decode cX7_camera 44 = .ok (.iload_n 1, 1) := by decide +kernel
theorem dX7_camera_45 : decode cX7_camera 45 = .ok (.iload_n 2, 1) := by decide +kernel
theorem dX7_camera_46 : decode cX7_camera 46 = .ok (.invokevirtual 94, 3) := by decide +kernel
theorem dX7_camera_49 : decode cX7_camera 49 = .ok (.ireturn, 1) := by decide +kernel
theorem dX7_board_0 : decode cX7_board 0 = .ok (.aload_n 0, 1) := by decide +kernel
theorem dX7_board_1 : decode cX7_board 1 = .ok (.iload_n 1, 1) := by decide +kernel
theorem dX7_board_2 : decode cX7_board 2 = .ok (.invokevirtual 97, 3) := by decide +kernel
theorem dX7_board_5 : decode cX7_board 5 = .ok (.ifCond .eq 34, 3) := by decide +kernel
theorem dX7_board_8 : decode cX7_board 8 = .ok (.iload_n 3, 1) := by decide +kernel
theorem dX7_board_9 : decode cX7_board 9 = .ok (.invokestatic 100, 3) := by decide +kernel
theorem dX7_board_12 : decode cX7_board 12 = .ok (.ifCond .eq 27, 3) := by decide +kernel
theorem dX7_board_15 : decode cX7_board 15 = .ok (.iload_n 2, 1) := by decide +kernel
theorem dX7_board_16 : decode cX7_board 16 = .ok (.iconst 1, 1) := by decide +kernel
theorem dX7_board_17 : decode cX7_board 17 = .ok (.if_icmp .lt 22, 3) := by decide +kernel
theorem dX7_board_20 : decode cX7_board 20 = .ok (.iload_n 2, 1) := by decide +kernel
theorem dX7_board_21 : decode cX7_board 21 = .ok (.bipush 7, 2) := by decide +kernel
theorem dX7_board_23 : decode cX7_board 23 = .ok (.if_icmp .gt 16, 3) := by decide +kernel
theorem dX7_board_26 : decode cX7_board 26 = .ok (.iload 4, 2) := by decide +kernel
theorem dX7_board_28 : decode cX7_board 28 = .ok (.ifCond .lt 11, 3) := by decide +kernel
theorem dX7_board_31 : decode cX7_board 31 = .ok (.iload 4, 2) := by decide +kernel
theorem dX7_board_33 : decode cX7_board 33 = .ok (.sipush 200, 3) := by decide +kernel
theorem dX7_board_36 : decode cX7_board 36 = .ok (.if_icmp .le 5, 3) := by decide +kernel
theorem dX7_board_39 : decode cX7_board 39 = .ok (.iconst (-1), 1) := by decide +kernel
theorem dX7_board_40 : decode cX7_board 40 = .ok (.ireturn, 1) := by decide +kernel
theorem dX7_board_41 : decode cX7_board 41 = .ok (.aload_n 0, 1) := by decide +kernel
theorem dX7_board_42 : decode cX7_board 42 = .ok (.getfield 26, 3) := by decide +kernel
theorem dX7_board_45 : decode cX7_board 45 = .ok (.getfield 103, 3) := by decide +kernel
theorem dX7_board_48 : decode cX7_board 48 = .ok (.bipush 8, 2) := by decide +kernel
theorem dX7_board_50 : decode cX7_board 50 = .ok (.if_icmp .lt 6, 3) := by decide +kernel
theorem dX7_board_53 : decode cX7_board 53 = .ok (.bipush (-2), 2) := by decide +kernel
theorem dX7_board_55 : decode cX7_board 55 = .ok (.ireturn, 1) := by decide +kernel
theorem dX7_board_56 : decode cX7_board 56 = .ok (.aload_n 0, 1) := by decide +kernel
theorem dX7_board_57 : decode cX7_board 57 = .ok (.getfield 44, 3) := by decide +kernel
theorem dX7_board_60 : decode cX7_board 60 = .ok (.invokevirtual 60, 3) := by decide +kernel
theorem dX7_board_63 : decode cX7_board 63 = .ok (.aload_n 0, 1) := by decide +kernel
theorem dX7_board_64 : decode cX7_board 64 = .ok (.getfield 26, 3) := by decide +kernel
theorem dX7_board_67 : decode cX7_board 67 = .ok (.iload_n 1, 1) := by decide +kernel
theorem dX7_board_68 : decode cX7_board 68 = .ok (.iload_n 2, 1) := by decide +kernel
theorem dX7_board_69 : decode cX7_board 69 = .ok (.iload_n 3, 1) := by decide +kernel
theorem dX7_board_70 : decode cX7_board 70 = .ok (.iload 4, 2) := by decide +kernel
theorem dX7_board_72 : decode cX7_board 72 = .ok (.invokevirtual 106, 3) := by decide +kernel
theorem dX7_board_75 : decode cX7_board 75 = .ok (.ireturn, 1) := by decide +kernel
theorem dX7_drop_0 : decode cX7_drop 0 = .ok (.aload_n 0, 1) := by decide +kernel
theorem dX7_drop_1 : decode cX7_drop 1 = .ok (.getfield 26, 3) := by decide +kernel
theorem dX7_drop_4 : decode cX7_drop 4 = .ok (.getfield 103, 3) := by decide +kernel
theorem dX7_drop_7 : decode cX7_drop 7 = .ok (.ifCond .ne 6, 3) := by decide +kernel
theorem dX7_drop_10 : decode cX7_drop 10 = .ok (.bipush (-3), 2) := by decide +kernel
theorem dX7_drop_12 : decode cX7_drop 12 = .ok (.ireturn, 1) := by decide +kernel
theorem dX7_drop_13 : decode cX7_drop 13 = .ok (.aload_n 0, 1) := by decide +kernel
theorem dX7_drop_14 : decode cX7_drop 14 = .ok (.getfield 44, 3) := by decide +kernel
theorem dX7_drop_17 : decode cX7_drop 17 = .ok (.invokevirtual 60, 3) := by decide +kernel
theorem dX7_drop_20 : decode cX7_drop 20 = .ok (.aload_n 0, 1) := by decide +kernel
theorem dX7_drop_21 : decode cX7_drop 21 = .ok (.getfield 26, 3) := by decide +kernel
theorem dX7_drop_24 : decode cX7_drop 24 = .ok (.dup, 1) := by decide +kernel
theorem dX7_drop_25 : decode cX7_drop 25 = .ok (.getfield 103, 3) := by decide +kernel
theorem dX7_drop_28 : decode cX7_drop 28 = .ok (.iconst 1, 1) := by decide +kernel
theorem dX7_drop_29 : decode cX7_drop 29 = .ok (.isub, 1) := by decide +kernel
theorem dX7_drop_30 : decode cX7_drop 30 = .ok (.putfield 103, 3) := by decide +kernel
theorem dX7_drop_33 : decode cX7_drop 33 = .ok (.aload_n 0, 1) := by decide +kernel
theorem dX7_drop_34 : decode cX7_drop 34 = .ok (.getfield 26, 3) := by decide +kernel
theorem dX7_drop_37 : decode cX7_drop 37 = .ok (.getfield 103, 3) := by decide +kernel
theorem dX7_drop_40 : decode cX7_drop 40 = .ok (.ireturn, 1) := by decide +kernel
theorem dX7_rate_0 : decode cX7_rate 0 = .ok (.iload_n 1, 1) := by decide +kernel
theorem dX7_rate_1 : decode cX7_rate 1 = .ok (.iconst 1, 1) := by decide +kernel
theorem dX7_rate_2 : decode cX7_rate 2 = .ok (.if_icmp .lt 9, 3) := by decide +kernel
theorem dX7_rate_5 : decode cX7_rate 5 = .ok (.iload_n 1, 1) := by decide +kernel
theorem dX7_rate_6 : decode cX7_rate 6 = .ok (.bipush 20, 2) := by decide +kernel
theorem dX7_rate_8 : decode cX7_rate 8 = .ok (.if_icmp .le 5, 3) := by decide +kernel
theorem dX7_rate_11 : decode cX7_rate 11 = .ok (.iconst (-1), 1) := by decide +kernel
theorem dX7_rate_12 : decode cX7_rate 12 = .ok (.ireturn, 1) := by decide +kernel
theorem dX7_rate_13 : decode cX7_rate 13 = .ok (.aload_n 0, 1) := by decide +kernel
theorem dX7_rate_14 : decode cX7_rate 14 = .ok (.getfield 26, 3) := by decide +kernel
theorem dX7_rate_17 : decode cX7_rate 17 = .ok (.getfield 109, 3) := by decide +kernel
theorem dX7_rate_20 : decode cX7_rate 20 = .ok (.istore_n 2, 1) := by decide +kernel
theorem dX7_rate_21 : decode cX7_rate 21 = .ok (.aload_n 0, 1) := by decide +kernel
theorem dX7_rate_22 : decode cX7_rate 22 = .ok (.getfield 26, 3) := by decide +kernel
theorem dX7_rate_25 : decode cX7_rate 25 = .ok (.iload_n 1, 1) := by decide +kernel
theorem dX7_rate_26 : decode cX7_rate 26 = .ok (.putfield 109, 3) := by decide +kernel
theorem dX7_rate_29 : decode cX7_rate 29 = .ok (.iload_n 2, 1) := by decide +kernel
theorem dX7_rate_30 : decode cX7_rate 30 = .ok (.ireturn, 1) := by decide +kernel
theorem dX7_where_0 : decode cX7_where 0 = .ok (.aload_n 0, 1) := by decide +kernel
theorem dX7_where_1 : decode cX7_where 1 = .ok (.iload_n 1, 1) := by decide +kernel
theorem dX7_where_2 : decode cX7_where 2 = .ok (.invokevirtual 67, 3) := by decide +kernel
theorem dX7_where_5 : decode cX7_where 5 = .ok (.ifCond .eq 10, 3) := by decide +kernel
theorem dX7_where_8 : decode cX7_where 8 = .ok (.iload_n 2, 1) := by decide +kernel
theorem dX7_where_9 : decode cX7_where 9 = .ok (.invokestatic 70, 3) := by decide +kernel
theorem dX7_where_12 : decode cX7_where 12 = .ok (.ifCond .ne 5, 3) := by decide +kernel
theorem dX7_where_15 : decode cX7_where 15 = .ok (.iconst (-1), 1) := by decide +kernel
theorem dX7_where_16 : decode cX7_where 16 = .ok (.ireturn, 1) := by decide +kernel
theorem dX7_where_17 : decode cX7_where 17 = .ok (.aload_n 0, 1) := by decide +kernel
theorem dX7_where_18 : decode cX7_where 18 = .ok (.getfield 10, 3) := by decide +kernel
theorem dX7_where_21 : decode cX7_where 21 = .ok (.iload_n 1, 1) := by decide +kernel
theorem dX7_where_22 : decode cX7_where 22 = .ok (.iload_n 2, 1) := by decide +kernel
theorem dX7_where_23 : decode cX7_where 23 = .ok (.invokevirtual 112, 3) := by decide +kernel
theorem dX7_where_26 : decode cX7_where 26 = .ok (.ireturn, 1) := by decide +kernel
theorem dX7_hidden_0 : decode cX7_hidden 0 = .ok (.aload_n 0, 1) := by decide +kernel
theorem dX7_hidden_1 : decode cX7_hidden 1 = .ok (.iload_n 1, 1) := by decide +kernel
theorem dX7_hidden_2 : decode cX7_hidden 2 = .ok (.invokevirtual 67, 3) := by decide +kernel
theorem dX7_hidden_5 : decode cX7_hidden 5 = .ok (.ifCond .eq 17, 3) := by decide +kernel
theorem dX7_hidden_8 : decode cX7_hidden 8 = .ok (.iload_n 2, 1) := by decide +kernel
theorem dX7_hidden_9 : decode cX7_hidden 9 = .ok (.invokestatic 70, 3) := by decide +kernel
theorem dX7_hidden_12 : decode cX7_hidden 12 = .ok (.ifCond .eq 10, 3) := by decide +kernel
theorem dX7_hidden_15 : decode cX7_hidden 15 = .ok (.iload_n 3, 1) := by decide +kernel
theorem dX7_hidden_16 : decode cX7_hidden 16 = .ok (.invokestatic 52, 3) := by decide +kernel
theorem dX7_hidden_19 : decode cX7_hidden 19 = .ok (.ifCond .ne 5, 3) := by decide +kernel
theorem dX7_hidden_22 : decode cX7_hidden 22 = .ok (.iconst (-1), 1) := by decide +kernel
theorem dX7_hidden_23 : decode cX7_hidden 23 = .ok (.ireturn, 1) := by decide +kernel
theorem dX7_hidden_24 : decode cX7_hidden 24 = .ok (.aload_n 0, 1) := by decide +kernel
theorem dX7_hidden_25 : decode cX7_hidden 25 = .ok (.getfield 10, 3) := by decide +kernel
theorem dX7_hidden_28 : decode cX7_hidden 28 = .ok (.iload_n 1, 1) := by decide +kernel
theorem dX7_hidden_29 : decode cX7_hidden 29 = .ok (.iload_n 2, 1) := by decide +kernel
theorem dX7_hidden_30 : decode cX7_hidden 30 = .ok (.iload_n 3, 1) := by decide +kernel
theorem dX7_hidden_31 : decode cX7_hidden 31 = .ok (.invokevirtual 115, 3) := by decide +kernel
theorem dX7_hidden_34 : decode cX7_hidden 34 = .ok (.ifCond .eq 7, 3) := by decide +kernel
theorem dX7_hidden_37 : decode cX7_hidden 37 = .ok (.iconst 1, 1) := by decide +kernel
theorem dX7_hidden_38 : decode cX7_hidden 38 = .ok (.goto 4, 3) := by decide +kernel
theorem dX7_hidden_41 : decode cX7_hidden 41 = .ok (.iconst 0, 1) := by decide +kernel
theorem dX7_hidden_42 : decode cX7_hidden 42 = .ok (.ireturn, 1) := by decide +kernel
theorem dX7_sees_0 : decode cX7_sees 0 = .ok (.aload_n 0, 1) := by decide +kernel
theorem dX7_sees_1 : decode cX7_sees 1 = .ok (.iload_n 1, 1) := by decide +kernel
theorem dX7_sees_2 : decode cX7_sees 2 = .ok (.invokevirtual 119, 3) := by decide +kernel
theorem dX7_sees_5 : decode cX7_sees 5 = .ok (.ifCond .eq 27, 3) := by decide +kernel
theorem dX7_sees_8 : decode cX7_sees 8 = .ok (.aload_n 0, 1) := by decide +kernel
theorem dX7_sees_9 : decode cX7_sees 9 = .ok (.iload_n 2, 1) := by decide +kernel
theorem dX7_sees_10 : decode cX7_sees 10 = .ok (.invokevirtual 67, 3) := by decide +kernel
theorem dX7_sees_13 : decode cX7_sees 13 = .ok (.ifCond .eq 19, 3) := by decide +kernel
theorem dX7_sees_16 : decode cX7_sees 16 = .ok (.aload_n 0, 1) := by decide +kernel
theorem dX7_sees_17 : decode cX7_sees 17 = .ok (.iload_n 3, 1) := by decide +kernel
theorem dX7_sees_18 : decode cX7_sees 18 = .ok (.invokevirtual 67, 3) := by decide +kernel
theorem dX7_sees_21 : decode cX7_sees 21 = .ok (.ifCond .eq 11, 3) := by decide +kernel
theorem dX7_sees_24 : decode cX7_sees 24 = .ok (.iload 4, 2) := by decide +kernel
theorem dX7_sees_26 : decode cX7_sees 26 = .ok (.invokestatic 70, 3) := by decide +kernel
theorem dX7_sees_29 : decode cX7_sees 29 = .ok (.ifCond .ne 5, 3) := by decide +kernel
theorem dX7_sees_32 : decode cX7_sees 32 = .ok (.iconst (-1), 1) := by decide +kernel
theorem dX7_sees_33 : decode cX7_sees 33 = .ok (.ireturn, 1) := by decide +kernel
theorem dX7_sees_34 : decode cX7_sees 34 = .ok (.aload_n 0, 1) := by decide +kernel
theorem dX7_sees_35 : decode cX7_sees 35 = .ok (.getfield 19, 3) := by decide +kernel
theorem dX7_sees_38 : decode cX7_sees 38 = .ok (.getfield 122, 3) := by decide +kernel
theorem dX7_sees_41 : decode cX7_sees 41 = .ok (.iload_n 1, 1) := by decide +kernel
theorem dX7_sees_42 : decode cX7_sees 42 = .ok (.iaload, 1) := by decide +kernel
theorem dX7_sees_43 : decode cX7_sees 43 = .ok (.istore 5, 2) := by decide +kernel
theorem dX7_sees_45 : decode cX7_sees 45 = .ok (.iload 5, 2) := by decide +kernel
theorem dX7_sees_47 : decode cX7_sees 47 = .ok (.aload_n 0, 1) := by decide +kernel
theorem dX7_sees_48 : decode cX7_sees 48 = .ok (.getfield 10, 3) := by decide +kernel
theorem dX7_sees_51 : decode cX7_sees 51 = .ok (.iload_n 2, 1) := by decide +kernel
theorem dX7_sees_52 : decode cX7_sees 52 = .ok (.iload 4, 2) := by decide +kernel
theorem dX7_sees_54 : decode cX7_sees 54 = .ok (.invokevirtual 112, 3) := by decide +kernel
theorem dX7_sees_57 : decode cX7_sees 57 = .ok (.aload_n 0, 1) := by decide +kernel
theorem dX7_sees_58 : decode cX7_sees 58 = .ok (.getfield 10, 3) := by decide +kernel
theorem dX7_sees_61 : decode cX7_sees 61 = .ok (.iload_n 3, 1) := by decide +kernel
theorem dX7_sees_62 : decode cX7_sees 62 = .ok (.iload 4, 2) := by decide +kernel
theorem dX7_sees_64 : decode cX7_sees 64 = .ok (.invokevirtual 112, 3) := by decide +kernel
theorem dX7_sees_67 : decode cX7_sees 67 = .ok (.invokestatic 125, 3) := by decide +kernel
theorem dX7_sees_70 : decode cX7_sees 70 = .ok (.istore 6, 2) := by decide +kernel
theorem dX7_sees_72 : decode cX7_sees 72 = .ok (.iload 6, 2) := by decide +kernel
theorem dX7_sees_74 : decode cX7_sees 74 = .ok (.ifCond .eq 22, 3) := by decide +kernel
theorem dX7_sees_77 : decode cX7_sees 77 = .ok (.aload_n 0, 1) := by decide +kernel
theorem dX7_sees_78 : decode cX7_sees 78 = .ok (.getfield 10, 3) := by decide +kernel
theorem dX7_sees_81 : decode cX7_sees 81 = .ok (.iload_n 3, 1) := by decide +kernel
theorem dX7_sees_82 : decode cX7_sees 82 = .ok (.iload 4, 2) := by decide +kernel
theorem dX7_sees_84 : decode cX7_sees 84 = .ok (.iload 5, 2) := by decide +kernel
theorem dX7_sees_86 : decode cX7_sees 86 = .ok (.invokevirtual 115, 3) := by decide +kernel
theorem dX7_sees_89 : decode cX7_sees 89 = .ok (.ifCond .ne 7, 3) := by decide +kernel
theorem dX7_sees_92 : decode cX7_sees 92 = .ok (.iconst 1, 1) := by decide +kernel
theorem dX7_sees_93 : decode cX7_sees 93 = .ok (.goto 4, 3) := by decide +kernel
theorem dX7_sees_96 : decode cX7_sees 96 = .ok (.iconst 0, 1) := by decide +kernel
theorem dX7_sees_97 : decode cX7_sees 97 = .ok (.ireturn, 1) := by decide +kernel
theorem dX7_size_0 : decode cX7_size 0 = .ok (.aload_n 0, 1) := by decide +kernel
theorem dX7_size_1 : decode cX7_size 1 = .ok (.iload_n 1, 1) := by decide +kernel
theorem dX7_size_2 : decode cX7_size 2 = .ok (.invokevirtual 119, 3) := by decide +kernel
theorem dX7_size_5 : decode cX7_size 5 = .ok (.ifCond .eq 18, 3) := by decide +kernel
theorem dX7_size_8 : decode cX7_size 8 = .ok (.aload_n 0, 1) := by decide +kernel
theorem dX7_size_9 : decode cX7_size 9 = .ok (.iload_n 2, 1) := by decide +kernel
theorem dX7_size_10 : decode cX7_size 10 = .ok (.invokevirtual 67, 3) := by decide +kernel
theorem dX7_size_13 : decode cX7_size 13 = .ok (.ifCond .eq 10, 3) := by decide +kernel
theorem dX7_size_16 : decode cX7_size 16 = .ok (.iload_n 3, 1) := by decide +kernel
theorem dX7_size_17 : decode cX7_size 17 = .ok (.invokestatic 70, 3) := by decide +kernel
theorem dX7_size_20 : decode cX7_size 20 = .ok (.ifCond .ne 5, 3) := by decide +kernel
theorem dX7_size_23 : decode cX7_size 23 = .ok (.iconst (-1), 1) := by decide +kernel
theorem dX7_size_24 : decode cX7_size 24 = .ok (.ireturn, 1) := by decide +kernel
theorem dX7_size_25 : decode cX7_size 25 = .ok (.aload_n 0, 1) := by decide +kernel
theorem dX7_size_26 : decode cX7_size 26 = .ok (.getfield 19, 3) := by decide +kernel
theorem dX7_size_29 : decode cX7_size 29 = .ok (.getfield 122, 3) := by decide +kernel
theorem dX7_size_32 : decode cX7_size 32 = .ok (.iload_n 1, 1) := by decide +kernel
theorem dX7_size_33 : decode cX7_size 33 = .ok (.iaload, 1) := by decide +kernel
theorem dX7_size_34 : decode cX7_size 34 = .ok (.aload_n 0, 1) := by decide +kernel
theorem dX7_size_35 : decode cX7_size 35 = .ok (.getfield 10, 3) := by decide +kernel
theorem dX7_size_38 : decode cX7_size 38 = .ok (.iload_n 2, 1) := by decide +kernel
theorem dX7_size_39 : decode cX7_size 39 = .ok (.iload_n 3, 1) := by decide +kernel
theorem dX7_size_40 : decode cX7_size 40 = .ok (.invokevirtual 112, 3) := by decide +kernel
theorem dX7_size_43 : decode cX7_size 43 = .ok (.invokestatic 130, 3) := by decide +kernel
theorem dX7_size_46 : decode cX7_size 46 = .ok (.ireturn, 1) := by decide +kernel
theorem dX7_views_0 : decode cX7_views 0 = .ok (.aload_n 0, 1) := by decide +kernel
theorem dX7_views_1 : decode cX7_views 1 = .ok (.iload_n 1, 1) := by decide +kernel
theorem dX7_views_2 : decode cX7_views 2 = .ok (.invokevirtual 67, 3) := by decide +kernel
theorem dX7_views_5 : decode cX7_views 5 = .ok (.ifCond .eq 10, 3) := by decide +kernel
theorem dX7_views_8 : decode cX7_views 8 = .ok (.iload_n 2, 1) := by decide +kernel
theorem dX7_views_9 : decode cX7_views 9 = .ok (.invokestatic 70, 3) := by decide +kernel
theorem dX7_views_12 : decode cX7_views 12 = .ok (.ifCond .ne 5, 3) := by decide +kernel
theorem dX7_views_15 : decode cX7_views 15 = .ok (.iconst (-1), 1) := by decide +kernel
theorem dX7_views_16 : decode cX7_views 16 = .ok (.ireturn, 1) := by decide +kernel
theorem dX7_views_17 : decode cX7_views 17 = .ok (.iconst 0, 1) := by decide +kernel
theorem dX7_views_18 : decode cX7_views 18 = .ok (.istore_n 3, 1) := by decide +kernel
theorem dX7_views_19 : decode cX7_views 19 = .ok (.iconst 0, 1) := by decide +kernel
theorem dX7_views_20 : decode cX7_views 20 = .ok (.istore 4, 2) := by decide +kernel
theorem dX7_views_22 : decode cX7_views 22 = .ok (.iload 4, 2) := by decide +kernel
theorem dX7_views_24 : decode cX7_views 24 = .ok (.bipush 32, 2) := by decide +kernel
theorem dX7_views_26 : decode cX7_views 26 = .ok (.if_icmp .ge 48, 3) := by decide +kernel
theorem dX7_views_29 : decode cX7_views 29 = .ok (.iconst 0, 1) := by decide +kernel
theorem dX7_views_30 : decode cX7_views 30 = .ok (.istore 5, 2) := by decide +kernel
theorem dX7_views_32 : decode cX7_views 32 = .ok (.iload 5, 2) := by decide +kernel
theorem dX7_views_34 : decode cX7_views 34 = .ok (.bipush 32, 2) := by decide +kernel
theorem dX7_views_36 : decode cX7_views 36 = .ok (.if_icmp .ge 32, 3) := by decide +kernel
theorem dX7_views_39 : decode cX7_views 39 = .ok (.aload_n 0, 1) := by decide +kernel
theorem dX7_views_40 : decode cX7_views 40 = .ok (.getfield 10, 3) := by decide +kernel
theorem dX7_views_43 : decode cX7_views 43 = .ok (.iload_n 1, 1) := by decide +kernel
theorem dX7_views_44 : decode cX7_views 44 = .ok (.iload_n 2, 1) := by decide +kernel
theorem dX7_views_45 : decode cX7_views 45 = .ok (.bipush 100, 2) := by decide +kernel
theorem dX7_views_47 : decode cX7_views 47 = .ok (.iload 4, 2) := by decide +kernel
theorem dX7_views_49 : decode cX7_views 49 = .ok (.imul, 1) := by decide +kernel
theorem dX7_views_50 : decode cX7_views 50 = .ok (.iload 5, 2) := by decide +kernel
theorem dX7_views_52 : decode cX7_views 52 = .ok (.iadd, 1) := by decide +kernel
theorem dX7_views_53 : decode cX7_views 53 = .ok (.invokevirtual 115, 3) := by decide +kernel
theorem dX7_views_56 : decode cX7_views 56 = .ok (.ifCond .ne 6, 3) := by decide +kernel
theorem dX7_views_59 : decode cX7_views 59 = .ok (.iinc 3 1, 3) := by decide +kernel
theorem dX7_views_62 : decode cX7_views 62 = .ok (.iinc 5 1, 3) := by decide +kernel
theorem dX7_views_65 : decode cX7_views 65 = .ok (.goto (-33), 3) := by decide +kernel
theorem dX7_views_68 : decode cX7_views 68 = .ok (.iinc 4 1, 3) := by decide +kernel
theorem dX7_views_71 : decode cX7_views 71 = .ok (.goto (-49), 3) := by decide +kernel
theorem dX7_views_74 : decode cX7_views 74 = .ok (.iload_n 3, 1) := by decide +kernel
theorem dX7_views_75 : decode cX7_views 75 = .ok (.ireturn, 1) := by decide +kernel
theorem dX7_gives_0 : decode cX7_gives 0 = .ok (.aload_n 0, 1) := by decide +kernel
theorem dX7_gives_1 : decode cX7_gives 1 = .ok (.iload_n 1, 1) := by decide +kernel
theorem dX7_gives_2 : decode cX7_gives 2 = .ok (.invokevirtual 119, 3) := by decide +kernel
theorem dX7_gives_5 : decode cX7_gives 5 = .ok (.ifCond .eq 11, 3) := by decide +kernel
theorem dX7_gives_8 : decode cX7_gives 8 = .ok (.aload_n 0, 1) := by decide +kernel
theorem dX7_gives_9 : decode cX7_gives 9 = .ok (.iload_n 2, 1) := by decide +kernel
theorem dX7_gives_10 : decode cX7_gives 10 = .ok (.invokevirtual 133, 3) := by decide +kernel
theorem dX7_gives_13 : decode cX7_gives 13 = .ok (.ifCond .ne 5, 3) := by decide +kernel
theorem dX7_gives_16 : decode cX7_gives 16 = .ok (.iconst (-1), 1) := by decide +kernel
theorem dX7_gives_17 : decode cX7_gives 17 = .ok (.ireturn, 1) := by decide +kernel
theorem dX7_gives_18 : decode cX7_gives 18 = .ok (.aload_n 0, 1) := by decide +kernel
theorem dX7_gives_19 : decode cX7_gives 19 = .ok (.getfield 35, 3) := by decide +kernel
theorem dX7_gives_22 : decode cX7_gives 22 = .ok (.aload_n 0, 1) := by decide +kernel
theorem dX7_gives_23 : decode cX7_gives 23 = .ok (.getfield 19, 3) := by decide +kernel
theorem dX7_gives_26 : decode cX7_gives 26 = .ok (.getfield 122, 3) := by decide +kernel
theorem dX7_gives_29 : decode cX7_gives 29 = .ok (.iload_n 1, 1) := by decide +kernel
theorem dX7_gives_30 : decode cX7_gives 30 = .ok (.iaload, 1) := by decide +kernel
theorem dX7_gives_31 : decode cX7_gives 31 = .ok (.aload_n 0, 1) := by decide +kernel
theorem dX7_gives_32 : decode cX7_gives 32 = .ok (.getfield 26, 3) := by decide +kernel
theorem dX7_gives_35 : decode cX7_gives 35 = .ok (.getfield 136, 3) := by decide +kernel
theorem dX7_gives_38 : decode cX7_gives 38 = .ok (.iload_n 2, 1) := by decide +kernel
theorem dX7_gives_39 : decode cX7_gives 39 = .ok (.aaload, 1) := by decide +kernel
theorem dX7_gives_40 : decode cX7_gives 40 = .ok (.invokevirtual 140, 3) := by decide +kernel
theorem dX7_gives_43 : decode cX7_gives 43 = .ok (.ifCond .ne 7, 3) := by decide +kernel
theorem dX7_gives_46 : decode cX7_gives 46 = .ok (.iconst 1, 1) := by decide +kernel
theorem dX7_gives_47 : decode cX7_gives 47 = .ok (.goto 4, 3) := by decide +kernel
theorem dX7_gives_50 : decode cX7_gives 50 = .ok (.iconst 0, 1) := by decide +kernel
theorem dX7_gives_51 : decode cX7_gives 51 = .ok (.ireturn, 1) := by decide +kernel
theorem dX7_why_0 : decode cX7_why 0 = .ok (.aload_n 0, 1) := by decide +kernel
theorem dX7_why_1 : decode cX7_why 1 = .ok (.iload_n 1, 1) := by decide +kernel
theorem dX7_why_2 : decode cX7_why 2 = .ok (.invokevirtual 119, 3) := by decide +kernel
theorem dX7_why_5 : decode cX7_why 5 = .ok (.ifCond .eq 11, 3) := by decide +kernel
theorem dX7_why_8 : decode cX7_why 8 = .ok (.aload_n 0, 1) := by decide +kernel
theorem dX7_why_9 : decode cX7_why 9 = .ok (.iload_n 2, 1) := by decide +kernel
theorem dX7_why_10 : decode cX7_why 10 = .ok (.invokevirtual 133, 3) := by decide +kernel
theorem dX7_why_13 : decode cX7_why 13 = .ok (.ifCond .ne 5, 3) := by decide +kernel
theorem dX7_why_16 : decode cX7_why 16 = .ok (.iconst (-1), 1) := by decide +kernel
theorem dX7_why_17 : decode cX7_why 17 = .ok (.ireturn, 1) := by decide +kernel
theorem dX7_why_18 : decode cX7_why 18 = .ok (.aload_n 0, 1) := by decide +kernel
theorem dX7_why_19 : decode cX7_why 19 = .ok (.getfield 35, 3) := by decide +kernel
theorem dX7_why_22 : decode cX7_why 22 = .ok (.aload_n 0, 1) := by decide +kernel
theorem dX7_why_23 : decode cX7_why 23 = .ok (.getfield 19, 3) := by decide +kernel
theorem dX7_why_26 : decode cX7_why 26 = .ok (.getfield 122, 3) := by decide +kernel
theorem dX7_why_29 : decode cX7_why 29 = .ok (.iload_n 1, 1) := by decide +kernel
theorem dX7_why_30 : decode cX7_why 30 = .ok (.iaload, 1) := by decide +kernel
theorem dX7_why_31 : decode cX7_why 31 = .ok (.aload_n 0, 1) := by decide +kernel
theorem dX7_why_32 : decode cX7_why 32 = .ok (.getfield 26, 3) := by decide +kernel
theorem dX7_why_35 : decode cX7_why 35 = .ok (.getfield 136, 3) := by decide +kernel
theorem dX7_why_38 : decode cX7_why 38 = .ok (.iload_n 2, 1) := by decide +kernel
theorem dX7_why_39 : decode cX7_why 39 = .ok (.aaload, 1) := by decide +kernel
theorem dX7_why_40 : decode cX7_why 40 = .ok (.invokevirtual 140, 3) := by decide +kernel
theorem dX7_why_43 : decode cX7_why 43 = .ok (.ireturn, 1) := by decide +kernel
theorem dX7_side_0 : decode cX7_side 0 = .ok (.aload_n 0, 1) := by decide +kernel
theorem dX7_side_1 : decode cX7_side 1 = .ok (.iload_n 1, 1) := by decide +kernel
theorem dX7_side_2 : decode cX7_side 2 = .ok (.invokevirtual 119, 3) := by decide +kernel
theorem dX7_side_5 : decode cX7_side 5 = .ok (.ifCond .eq 27, 3) := by decide +kernel
theorem dX7_side_8 : decode cX7_side 8 = .ok (.aload_n 0, 1) := by decide +kernel
theorem dX7_side_9 : decode cX7_side 9 = .ok (.iload_n 2, 1) := by decide +kernel
theorem dX7_side_10 : decode cX7_side 10 = .ok (.invokevirtual 133, 3) := by decide +kernel
theorem dX7_side_13 : decode cX7_side 13 = .ok (.ifCond .eq 19, 3) := by decide +kernel
theorem dX7_side_16 : decode cX7_side 16 = .ok (.aload_n 0, 1) := by decide +kernel
theorem dX7_side_17 : decode cX7_side 17 = .ok (.getfield 26, 3) := by decide +kernel
theorem dX7_side_20 : decode cX7_side 20 = .ok (.getfield 136, 3) := by decide +kernel
theorem dX7_side_23 : decode cX7_side 23 = .ok (.iload_n 2, 1) := by decide +kernel
theorem dX7_side_24 : decode cX7_side 24 = .ok (.aaload, 1) := by decide +kernel
theorem dX7_side_25 : decode cX7_side 25 = .ok (.getfield 144, 3) := by decide +kernel
theorem dX7_side_28 : decode cX7_side 28 = .ok (.iconst 1, 1) := by decide +kernel
theorem dX7_side_29 : decode cX7_side 29 = .ok (.if_icmp .eq 6, 3) := by decide +kernel
theorem dX7_side_32 : decode cX7_side 32 = .ok (.bipush (-9), 2) := by decide +kernel
theorem dX7_side_34 : decode cX7_side 34 = .ok (.ireturn, 1) := by decide +kernel
theorem dX7_side_35 : decode cX7_side 35 = .ok (.aload_n 0, 1) := by decide +kernel
theorem dX7_side_36 : decode cX7_side 36 = .ok (.getfield 35, 3) := by decide +kernel
theorem dX7_side_39 : decode cX7_side 39 = .ok (.aload_n 0, 1) := by decide +kernel
theorem dX7_side_40 : decode cX7_side 40 = .ok (.getfield 19, 3) := by decide +kernel
theorem dX7_side_43 : decode cX7_side 43 = .ok (.getfield 122, 3) := by decide +kernel
theorem dX7_side_46 : decode cX7_side 46 = .ok (.iload_n 1, 1) := by decide +kernel
theorem dX7_side_47 : decode cX7_side 47 = .ok (.iaload, 1) := by decide +kernel
theorem dX7_side_48 : decode cX7_side 48 = .ok (.aload_n 0, 1) := by decide +kernel
theorem dX7_side_49 : decode cX7_side 49 = .ok (.getfield 26, 3) := by decide +kernel
theorem dX7_side_52 : decode cX7_side 52 = .ok (.getfield 136, 3) := by decide +kernel
theorem dX7_side_55 : decode cX7_side 55 = .ok (.iload_n 2, 1) := by decide +kernel
theorem dX7_side_56 : decode cX7_side 56 = .ok (.aaload, 1) := by decide +kernel
theorem dX7_side_57 : decode cX7_side 57 = .ok (.invokevirtual 149, 3) := by decide +kernel
theorem dX7_side_60 : decode cX7_side 60 = .ok (.ireturn, 1) := by decide +kernel
theorem dX7_length_0 : decode cX7_length 0 = .ok (.aload_n 0, 1) := by decide +kernel
theorem dX7_length_1 : decode cX7_length 1 = .ok (.iload_n 1, 1) := by decide +kernel
theorem dX7_length_2 : decode cX7_length 2 = .ok (.invokevirtual 133, 3) := by decide +kernel
theorem dX7_length_5 : decode cX7_length 5 = .ok (.ifCond .ne 5, 3) := by decide +kernel
theorem dX7_length_8 : decode cX7_length 8 = .ok (.iconst (-1), 1) := by decide +kernel
theorem dX7_length_9 : decode cX7_length 9 = .ok (.ireturn, 1) := by decide +kernel
theorem dX7_length_10 : decode cX7_length 10 = .ok (.aload_n 0, 1) := by decide +kernel
theorem dX7_length_11 : decode cX7_length 11 = .ok (.getfield 26, 3) := by decide +kernel
theorem dX7_length_14 : decode cX7_length 14 = .ok (.iload_n 1, 1) := by decide +kernel
theorem dX7_length_15 : decode cX7_length 15 = .ok (.invokevirtual 152, 3) := by decide +kernel
theorem dX7_length_18 : decode cX7_length 18 = .ok (.ireturn, 1) := by decide +kernel
theorem dX7_fewest_0 : decode cX7_fewest 0 = .ok (.aload_n 0, 1) := by decide +kernel
theorem dX7_fewest_1 : decode cX7_fewest 1 = .ok (.getfield 44, 3) := by decide +kernel
theorem dX7_fewest_4 : decode cX7_fewest 4 = .ok (.invokevirtual 155, 3) := by decide +kernel
theorem dX7_fewest_7 : decode cX7_fewest 7 = .ok (.aload_n 0, 1) := by decide +kernel
theorem dX7_fewest_8 : decode cX7_fewest 8 = .ok (.getfield 44, 3) := by decide +kernel
theorem dX7_fewest_11 : decode cX7_fewest 11 = .ok (.getfield 158, 3) := by decide +kernel
theorem dX7_fewest_14 : decode cX7_fewest 14 = .ok (.ireturn, 1) := by decide +kernel
theorem dX7_plan_0 : decode cX7_plan 0 = .ok (.aload_n 0, 1) := by decide +kernel
theorem dX7_plan_1 : decode cX7_plan 1 = .ok (.iload_n 1, 1) := by decide +kernel
theorem dX7_plan_2 : decode cX7_plan 2 = .ok (.invokevirtual 133, 3) := by decide +kernel
theorem dX7_plan_5 : decode cX7_plan 5 = .ok (.ifCond .ne 5, 3) := by decide +kernel
theorem dX7_plan_8 : decode cX7_plan 8 = .ok (.iconst (-1), 1) := by decide +kernel
theorem dX7_plan_9 : decode cX7_plan 9 = .ok (.ireturn, 1) := by decide +kernel
theorem dX7_plan_10 : decode cX7_plan 10 = .ok (.aload_n 0, 1) := by decide +kernel
theorem dX7_plan_11 : decode cX7_plan 11 = .ok (.getfield 44, 3) := by decide +kernel
theorem dX7_plan_14 : decode cX7_plan 14 = .ok (.invokevirtual 155, 3) := by decide +kernel
theorem dX7_plan_17 : decode cX7_plan 17 = .ok (.aload_n 0, 1) := by decide +kernel
theorem dX7_plan_18 : decode cX7_plan 18 = .ok (.getfield 44, 3) := by decide +kernel
theorem dX7_plan_21 : decode cX7_plan 21 = .ok (.getfield 158, 3) := by decide +kernel
theorem dX7_plan_24 : decode cX7_plan 24 = .ok (.ifCond .ge 8, 3) := by decide +kernel
theorem dX7_plan_27 : decode cX7_plan 27 = .ok (.bipush (-5), 2) := by decide +kernel
theorem dX7_plan_29 : decode cX7_plan 29 = .ok (.goto 12, 3) := by decide +kernel
theorem dX7_plan_32 : decode cX7_plan 32 = .ok (.aload_n 0, 1) := by decide +kernel
theorem dX7_plan_33 : decode cX7_plan 33 = .ok (.getfield 44, 3) := by decide +kernel
theorem dX7_plan_36 : decode cX7_plan 36 = .ok (.getfield 161, 3) := by decide +kernel
theorem dX7_plan_39 : decode cX7_plan 39 = .ok (.iload_n 1, 1) := by decide +kernel
theorem dX7_plan_40 : decode cX7_plan 40 = .ok (.iaload, 1) := by decide +kernel
theorem dX7_plan_41 : decode cX7_plan 41 = .ok (.ireturn, 1) := by decide +kernel
theorem dX7_swings_0 : decode cX7_swings 0 = .ok (.aload_n 0, 1) := by decide +kernel
theorem dX7_swings_1 : decode cX7_swings 1 = .ok (.getfield 44, 3) := by decide +kernel
theorem dX7_swings_4 : decode cX7_swings 4 = .ok (.invokevirtual 155, 3) := by decide +kernel
theorem dX7_swings_7 : decode cX7_swings 7 = .ok (.aload_n 0, 1) := by decide +kernel
theorem dX7_swings_8 : decode cX7_swings 8 = .ok (.getfield 44, 3) := by decide +kernel
theorem dX7_swings_11 : decode cX7_swings 11 = .ok (.getfield 158, 3) := by decide +kernel
theorem dX7_swings_14 : decode cX7_swings 14 = .ok (.ifCond .ge 8, 3) := by decide +kernel
theorem dX7_swings_17 : decode cX7_swings 17 = .ok (.bipush (-5), 2) := by decide +kernel
theorem dX7_swings_19 : decode cX7_swings 19 = .ok (.goto 10, 3) := by decide +kernel
theorem dX7_swings_22 : decode cX7_swings 22 = .ok (.aload_n 0, 1) := by decide +kernel
theorem dX7_swings_23 : decode cX7_swings 23 = .ok (.getfield 44, 3) := by decide +kernel
theorem dX7_swings_26 : decode cX7_swings 26 = .ok (.invokevirtual 164, 3) := by decide +kernel
theorem dX7_swings_29 : decode cX7_swings 29 = .ok (.ireturn, 1) := by decide +kernel
theorem dX7_order_0 : decode cX7_order 0 = .ok (.aload_n 0, 1) := by decide +kernel
theorem dX7_order_1 : decode cX7_order 1 = .ok (.getfield 44, 3) := by decide +kernel
theorem dX7_order_4 : decode cX7_order 4 = .ok (.invokevirtual 155, 3) := by decide +kernel
theorem dX7_order_7 : decode cX7_order 7 = .ok (.iload_n 1, 1) := by decide +kernel
theorem dX7_order_8 : decode cX7_order 8 = .ok (.ifCond .lt 14, 3) := by decide +kernel
theorem dX7_order_11 : decode cX7_order 11 = .ok (.iload_n 1, 1) := by decide +kernel
theorem dX7_order_12 : decode cX7_order 12 = .ok (.aload_n 0, 1) := by decide +kernel
theorem dX7_order_13 : decode cX7_order 13 = .ok (.getfield 44, 3) := by decide +kernel
theorem dX7_order_16 : decode cX7_order 16 = .ok (.getfield 158, 3) := by decide +kernel
theorem dX7_order_19 : decode cX7_order 19 = .ok (.if_icmp .lt 7, 3) := by decide +kernel
theorem dX7_order_22 : decode cX7_order 22 = .ok (.iconst (-1), 1) := by decide +kernel
theorem dX7_order_23 : decode cX7_order 23 = .ok (.goto 12, 3) := by decide +kernel
theorem dX7_order_26 : decode cX7_order 26 = .ok (.aload_n 0, 1) := by decide +kernel
theorem dX7_order_27 : decode cX7_order 27 = .ok (.getfield 44, 3) := by decide +kernel
theorem dX7_order_30 : decode cX7_order 30 = .ok (.getfield 168, 3) := by decide +kernel
theorem dX7_order_33 : decode cX7_order 33 = .ok (.iload_n 1, 1) := by decide +kernel
theorem dX7_order_34 : decode cX7_order 34 = .ok (.iaload, 1) := by decide +kernel
theorem dX7_order_35 : decode cX7_order 35 = .ok (.ireturn, 1) := by decide +kernel
theorem dX7_crossings_0 : decode cX7_crossings 0 = .ok (.aload_n 0, 1) := by decide +kernel
theorem dX7_crossings_1 : decode cX7_crossings 1 = .ok (.getfield 171, 3) := by decide +kernel
theorem dX7_crossings_4 : decode cX7_crossings 4 = .ok (.istore_n 1, 1) := by decide +kernel
theorem dX7_crossings_5 : decode cX7_crossings 5 = .ok (.aload_n 0, 1) := by decide +kernel
theorem dX7_crossings_6 : decode cX7_crossings 6 = .ok (.iconst 0, 1) := by decide +kernel
theorem dX7_crossings_7 : decode cX7_crossings 7 = .ok (.putfield 171, 3) := by decide +kernel
theorem dX7_crossings_10 : decode cX7_crossings 10 = .ok (.iload_n 1, 1) := by decide +kernel
theorem dX7_crossings_11 : decode cX7_crossings 11 = .ok (.aload_n 0, 1) := by decide +kernel
theorem dX7_crossings_12 : decode cX7_crossings 12 = .ok (.getfield 26, 3) := by decide +kernel
theorem dX7_crossings_15 : decode cX7_crossings 15 = .ok (.getfield 103, 3) := by decide +kernel
theorem dX7_crossings_18 : decode cX7_crossings 18 = .ok (.if_icmp .eq 6, 3) := by decide +kernel
theorem dX7_crossings_21 : decode cX7_crossings 21 = .ok (.bipush (-3), 2) := by decide +kernel
theorem dX7_crossings_23 : decode cX7_crossings 23 = .ok (.ireturn, 1) := by decide +kernel
theorem dX7_crossings_24 : decode cX7_crossings 24 = .ok (.iconst 0, 1) := by decide +kernel
theorem dX7_crossings_25 : decode cX7_crossings 25 = .ok (.istore_n 2, 1) := by decide +kernel
theorem dX7_crossings_26 : decode cX7_crossings 26 = .ok (.iload_n 2, 1) := by decide +kernel
theorem dX7_crossings_27 : decode cX7_crossings 27 = .ok (.iload_n 1, 1) := by decide +kernel
theorem dX7_crossings_28 : decode cX7_crossings 28 = .ok (.if_icmp .ge 45, 3) := by decide +kernel
theorem dX7_crossings_31 : decode cX7_crossings 31 = .ok (.aload_n 0, 1) := by decide +kernel
theorem dX7_crossings_32 : decode cX7_crossings 32 = .ok (.getfield 35, 3) := by decide +kernel
theorem dX7_crossings_35 : decode cX7_crossings 35 = .ok (.aload_n 0, 1) := by decide +kernel
theorem dX7_crossings_36 : decode cX7_crossings 36 = .ok (.getfield 19, 3) := by decide +kernel
theorem dX7_crossings_39 : decode cX7_crossings 39 = .ok (.getfield 122, 3) := by decide +kernel
theorem dX7_crossings_42 : decode cX7_crossings 42 = .ok (.aload_n 0, 1) := by decide +kernel
theorem dX7_crossings_43 : decode cX7_crossings 43 = .ok (.getfield 48, 3) := by decide +kernel
theorem dX7_crossings_46 : decode cX7_crossings 46 = .ok (.iload_n 2, 1) := by decide +kernel
theorem dX7_crossings_47 : decode cX7_crossings 47 = .ok (.iaload, 1) := by decide +kernel
theorem dX7_crossings_48 : decode cX7_crossings 48 = .ok (.iaload, 1) := by decide +kernel
theorem dX7_crossings_49 : decode cX7_crossings 49 = .ok (.aload_n 0, 1) := by decide +kernel
theorem dX7_crossings_50 : decode cX7_crossings 50 = .ok (.getfield 26, 3) := by decide +kernel
theorem dX7_crossings_53 : decode cX7_crossings 53 = .ok (.getfield 136, 3) := by decide +kernel
theorem dX7_crossings_56 : decode cX7_crossings 56 = .ok (.iload_n 2, 1) := by decide +kernel
theorem dX7_crossings_57 : decode cX7_crossings 57 = .ok (.aaload, 1) := by decide +kernel
theorem dX7_crossings_58 : decode cX7_crossings 58 = .ok (.invokevirtual 140, 3) := by decide +kernel
theorem dX7_crossings_61 : decode cX7_crossings 61 = .ok (.ifCond .eq 6, 3) := by decide +kernel
theorem dX7_crossings_64 : decode cX7_crossings 64 = .ok (.bipush (-3), 2) := by decide +kernel
theorem dX7_crossings_66 : decode cX7_crossings 66 = .ok (.ireturn, 1) := by decide +kernel
theorem dX7_crossings_67 : decode cX7_crossings 67 = .ok (.iinc 2 1, 3) := by decide +kernel
theorem dX7_crossings_70 : decode cX7_crossings 70 = .ok (.goto (-44), 3) := by decide +kernel
theorem dX7_crossings_73 : decode cX7_crossings 73 = .ok (.aload_n 0, 1) := by decide +kernel
theorem dX7_crossings_74 : decode cX7_crossings 74 = .ok (.iload_n 1, 1) := by decide +kernel
theorem dX7_crossings_75 : decode cX7_crossings 75 = .ok (.invokevirtual 174, 3) := by decide +kernel
theorem dX7_crossings_78 : decode cX7_crossings 78 = .ok (.ireturn, 1) := by decide +kernel
theorem dX7_list_0 : decode cX7_list 0 = .ok (.aload_n 0, 1) := by decide +kernel
theorem dX7_list_1 : decode cX7_list 1 = .ok (.iload_n 1, 1) := by decide +kernel
theorem dX7_list_2 : decode cX7_list 2 = .ok (.invokevirtual 119, 3) := by decide +kernel
theorem dX7_list_5 : decode cX7_list 5 = .ok (.ifCond .ne 5, 3) := by decide +kernel
theorem dX7_list_8 : decode cX7_list 8 = .ok (.iconst (-1), 1) := by decide +kernel
theorem dX7_list_9 : decode cX7_list 9 = .ok (.ireturn, 1) := by decide +kernel
theorem dX7_list_10 : decode cX7_list 10 = .ok (.aload_n 0, 1) := by decide +kernel
theorem dX7_list_11 : decode cX7_list 11 = .ok (.getfield 171, 3) := by decide +kernel
theorem dX7_list_14 : decode cX7_list 14 = .ok (.bipush 8, 2) := by decide +kernel
theorem dX7_list_16 : decode cX7_list 16 = .ok (.if_icmp .lt 6, 3) := by decide +kernel
theorem dX7_list_19 : decode cX7_list 19 = .ok (.bipush (-2), 2) := by decide +kernel
theorem dX7_list_21 : decode cX7_list 21 = .ok (.ireturn, 1) := by decide +kernel
theorem dX7_list_22 : decode cX7_list 22 = .ok (.aload_n 0, 1) := by decide +kernel
theorem dX7_list_23 : decode cX7_list 23 = .ok (.getfield 48, 3) := by decide +kernel
theorem dX7_list_26 : decode cX7_list 26 = .ok (.aload_n 0, 1) := by decide +kernel
theorem dX7_list_27 : decode cX7_list 27 = .ok (.getfield 171, 3) := by decide +kernel
theorem dX7_list_30 : decode cX7_list 30 = .ok (.iload_n 1, 1) := by decide +kernel
theorem dX7_list_31 : decode cX7_list 31 = .ok (.iastore, 1) := by decide +kernel
theorem dX7_list_32 : decode cX7_list 32 = .ok (.aload_n 0, 1) := by decide +kernel
theorem dX7_list_33 : decode cX7_list 33 = .ok (.dup, 1) := by decide +kernel
theorem dX7_list_34 : decode cX7_list 34 = .ok (.getfield 171, 3) := by decide +kernel
theorem dX7_list_37 : decode cX7_list 37 = .ok (.iconst 1, 1) := by decide +kernel
theorem dX7_list_38 : decode cX7_list 38 = .ok (.iadd, 1) := by decide +kernel
theorem dX7_list_39 : decode cX7_list 39 = .ok (.putfield 171, 3) := by decide +kernel
theorem dX7_list_42 : decode cX7_list 42 = .ok (.aload_n 0, 1) := by decide +kernel
theorem dX7_list_43 : decode cX7_list 43 = .ok (.getfield 171, 3) := by decide +kernel
theorem dX7_list_46 : decode cX7_list 46 = .ok (.ireturn, 1) := by decide +kernel
theorem dX7_run_0 : decode cX7_run 0 = .ok (.iconst 0, 1) := by decide +kernel
theorem dX7_run_1 : decode cX7_run 1 = .ok (.istore_n 1, 1) := by decide +kernel
theorem dX7_run_2 : decode cX7_run 2 = .ok (.iconst 0, 1) := by decide +kernel
theorem dX7_run_3 : decode cX7_run 3 = .ok (.istore_n 2, 1) := by decide +kernel
theorem dX7_run_4 : decode cX7_run 4 = .ok (.iload_n 2, 1) := by decide +kernel
theorem dX7_run_5 : decode cX7_run 5 = .ok (.aload_n 0, 1) := by decide +kernel
theorem dX7_run_6 : decode cX7_run 6 = .ok (.getfield 26, 3) := by decide +kernel
theorem dX7_run_9 : decode cX7_run 9 = .ok (.getfield 103, 3) := by decide +kernel
theorem dX7_run_12 : decode cX7_run 12 = .ok (.if_icmp .ge 20, 3) := by decide +kernel
theorem dX7_run_15 : decode cX7_run 15 = .ok (.iload_n 1, 1) := by decide +kernel
theorem dX7_run_16 : decode cX7_run 16 = .ok (.aload_n 0, 1) := by decide +kernel
theorem dX7_run_17 : decode cX7_run 17 = .ok (.getfield 26, 3) := by decide +kernel
theorem dX7_run_20 : decode cX7_run 20 = .ok (.iload_n 2, 1) := by decide +kernel
theorem dX7_run_21 : decode cX7_run 21 = .ok (.invokevirtual 152, 3) := by decide +kernel
theorem dX7_run_24 : decode cX7_run 24 = .ok (.iadd, 1) := by decide +kernel
theorem dX7_run_25 : decode cX7_run 25 = .ok (.istore_n 1, 1) := by decide +kernel
theorem dX7_run_26 : decode cX7_run 26 = .ok (.iinc 2 1, 3) := by decide +kernel
theorem dX7_run_29 : decode cX7_run 29 = .ok (.goto (-25), 3) := by decide +kernel
theorem dX7_run_32 : decode cX7_run 32 = .ok (.iload_n 1, 1) := by decide +kernel
theorem dX7_run_33 : decode cX7_run 33 = .ok (.ireturn, 1) := by decide +kernel
theorem dX7_frame_0 : decode cX7_frame 0 = .ok (.iload_n 1, 1) := by decide +kernel
theorem dX7_frame_1 : decode cX7_frame 1 = .ok (.ifCond .ge 5, 3) := by decide +kernel
theorem dX7_frame_4 : decode cX7_frame 4 = .ok (.iconst (-1), 1) := by decide +kernel
theorem dX7_frame_5 : decode cX7_frame 5 = .ok (.ireturn, 1) := by decide +kernel
theorem dX7_frame_6 : decode cX7_frame 6 = .ok (.iload_n 1, 1) := by decide +kernel
theorem dX7_frame_7 : decode cX7_frame 7 = .ok (.istore_n 2, 1) := by decide +kernel
theorem dX7_frame_8 : decode cX7_frame 8 = .ok (.iconst 0, 1) := by decide +kernel
theorem dX7_frame_9 : decode cX7_frame 9 = .ok (.istore_n 3, 1) := by decide +kernel
theorem dX7_frame_10 : decode cX7_frame 10 = .ok (.iload_n 3, 1) := by decide +kernel
theorem dX7_frame_11 : decode cX7_frame 11 = .ok (.aload_n 0, 1) := by decide +kernel
theorem dX7_frame_12 : decode cX7_frame 12 = .ok (.getfield 26, 3) := by decide +kernel
theorem dX7_frame_15 : decode cX7_frame 15 = .ok (.getfield 103, 3) := by decide +kernel
theorem dX7_frame_18 : decode cX7_frame 18 = .ok (.if_icmp .ge 32, 3) := by decide +kernel
theorem dX7_frame_21 : decode cX7_frame 21 = .ok (.aload_n 0, 1) := by decide +kernel
theorem dX7_frame_22 : decode cX7_frame 22 = .ok (.getfield 26, 3) := by decide +kernel
theorem dX7_frame_25 : decode cX7_frame 25 = .ok (.iload_n 3, 1) := by decide +kernel
theorem dX7_frame_26 : decode cX7_frame 26 = .ok (.invokevirtual 152, 3) := by decide +kernel
theorem dX7_frame_29 : decode cX7_frame 29 = .ok (.istore 4, 2) := by decide +kernel
theorem dX7_frame_31 : decode cX7_frame 31 = .ok (.iload_n 2, 1) := by decide +kernel
theorem dX7_frame_32 : decode cX7_frame 32 = .ok (.iload 4, 2) := by decide +kernel
theorem dX7_frame_34 : decode cX7_frame 34 = .ok (.if_icmp .ge 5, 3) := by decide +kernel
theorem dX7_frame_37 : decode cX7_frame 37 = .ok (.iload_n 3, 1) := by decide +kernel
theorem dX7_frame_38 : decode cX7_frame 38 = .ok (.ireturn, 1) := by decide +kernel
theorem dX7_frame_39 : decode cX7_frame 39 = .ok (.iload_n 2, 1) := by decide +kernel
theorem dX7_frame_40 : decode cX7_frame 40 = .ok (.iload 4, 2) := by decide +kernel
theorem dX7_frame_42 : decode cX7_frame 42 = .ok (.isub, 1) := by decide +kernel
theorem dX7_frame_43 : decode cX7_frame 43 = .ok (.istore_n 2, 1) := by decide +kernel
theorem dX7_frame_44 : decode cX7_frame 44 = .ok (.iinc 3 1, 3) := by decide +kernel
theorem dX7_frame_47 : decode cX7_frame 47 = .ok (.goto (-37), 3) := by decide +kernel
theorem dX7_frame_50 : decode cX7_frame 50 = .ok (.iconst (-1), 1) := by decide +kernel
theorem dX7_frame_51 : decode cX7_frame 51 = .ok (.ireturn, 1) := by decide +kernel
theorem dX7_count_0 : decode cX7_count 0 = .ok (.iload_n 1, 1) := by decide +kernel
theorem dX7_count_1 : decode cX7_count 1 = .ok (.tableswitch 72 0 4 #[35, 43, 51, 59, 67], 35) := by decide +kernel
theorem dX7_count_36 : decode cX7_count 36 = .ok (.aload_n 0, 1) := by decide +kernel
theorem dX7_count_37 : decode cX7_count 37 = .ok (.getfield 10, 3) := by decide +kernel
theorem dX7_count_40 : decode cX7_count 40 = .ok (.getfield 56, 3) := by decide +kernel
theorem dX7_count_43 : decode cX7_count 43 = .ok (.ireturn, 1) := by decide +kernel
theorem dX7_count_44 : decode cX7_count 44 = .ok (.aload_n 0, 1) := by decide +kernel
theorem dX7_count_45 : decode cX7_count 45 = .ok (.getfield 10, 3) := by decide +kernel
theorem dX7_count_48 : decode cX7_count 48 = .ok (.getfield 84, 3) := by decide +kernel
theorem dX7_count_51 : decode cX7_count 51 = .ok (.ireturn, 1) := by decide +kernel
theorem dX7_count_52 : decode cX7_count 52 = .ok (.aload_n 0, 1) := by decide +kernel
theorem dX7_count_53 : decode cX7_count 53 = .ok (.getfield 19, 3) := by decide +kernel
theorem dX7_count_56 : decode cX7_count 56 = .ok (.getfield 91, 3) := by decide +kernel
theorem dX7_count_59 : decode cX7_count 59 = .ok (.ireturn, 1) := by decide +kernel
theorem dX7_count_60 : decode cX7_count 60 = .ok (.aload_n 0, 1) := by decide +kernel
theorem dX7_count_61 : decode cX7_count 61 = .ok (.getfield 26, 3) := by decide +kernel
theorem dX7_count_64 : decode cX7_count 64 = .ok (.getfield 103, 3) := by decide +kernel
theorem dX7_count_67 : decode cX7_count 67 = .ok (.ireturn, 1) := by decide +kernel
theorem dX7_count_68 : decode cX7_count 68 = .ok (.aload_n 0, 1) := by decide +kernel
theorem dX7_count_69 : decode cX7_count 69 = .ok (.getfield 171, 3) := by decide +kernel
theorem dX7_count_72 : decode cX7_count 72 = .ok (.ireturn, 1) := by decide +kernel
theorem dX7_count_73 : decode cX7_count 73 = .ok (.iconst (-1), 1) := by decide +kernel
theorem dX7_count_74 : decode cX7_count 74 = .ok (.ireturn, 1) := by decide +kernel
theorem dX7_crossingsOfTold_0 : decode cX7_crossingsOfTold 0 = .ok (.iconst 0, 1) := by decide +kernel
theorem dX7_crossingsOfTold_1 : decode cX7_crossingsOfTold 1 = .ok (.istore_n 2, 1) := by decide +kernel
theorem dX7_crossingsOfTold_2 : decode cX7_crossingsOfTold 2 = .ok (.iconst 0, 1) := by decide +kernel
theorem dX7_crossingsOfTold_3 : decode cX7_crossingsOfTold 3 = .ok (.istore_n 3, 1) := by decide +kernel
theorem dX7_crossingsOfTold_4 : decode cX7_crossingsOfTold 4 = .ok (.iconst 0, 1) := by decide +kernel
theorem dX7_crossingsOfTold_5 : decode cX7_crossingsOfTold 5 = .ok (.istore 4, 2) := by decide +kernel
theorem dX7_crossingsOfTold_7 : decode cX7_crossingsOfTold 7 = .ok (.iload 4, 2) := by decide +kernel
theorem dX7_crossingsOfTold_9 : decode cX7_crossingsOfTold 9 = .ok (.iload_n 1, 1) := by decide +kernel
theorem dX7_crossingsOfTold_10 : decode cX7_crossingsOfTold 10 = .ok (.if_icmp .ge 77, 3) := by decide +kernel
theorem dX7_crossingsOfTold_13 : decode cX7_crossingsOfTold 13 = .ok (.aload_n 0, 1) := by decide +kernel
theorem dX7_crossingsOfTold_14 : decode cX7_crossingsOfTold 14 = .ok (.getfield 26, 3) := by decide +kernel
theorem dX7_crossingsOfTold_17 : decode cX7_crossingsOfTold 17 = .ok (.getfield 136, 3) := by decide +kernel
theorem dX7_crossingsOfTold_20 : decode cX7_crossingsOfTold 20 = .ok (.iload 4, 2) := by decide +kernel
theorem dX7_crossingsOfTold_22 : decode cX7_crossingsOfTold 22 = .ok (.aaload, 1) := by decide +kernel
theorem dX7_crossingsOfTold_23 : decode cX7_crossingsOfTold 23 = .ok (.astore 5, 2) := by decide +kernel
theorem dX7_crossingsOfTold_25 : decode cX7_crossingsOfTold 25 = .ok (.aload 5, 2) := by decide +kernel
theorem dX7_crossingsOfTold_27 : decode cX7_crossingsOfTold 27 = .ok (.getfield 144, 3) := by decide +kernel
theorem dX7_crossingsOfTold_30 : decode cX7_crossingsOfTold 30 = .ok (.iconst 1, 1) := by decide +kernel
theorem dX7_crossingsOfTold_31 : decode cX7_crossingsOfTold 31 = .ok (.if_icmp .ne 50, 3) := by decide +kernel
theorem dX7_crossingsOfTold_34 : decode cX7_crossingsOfTold 34 = .ok (.aload_n 0, 1) := by decide +kernel
theorem dX7_crossingsOfTold_35 : decode cX7_crossingsOfTold 35 = .ok (.getfield 35, 3) := by decide +kernel
theorem dX7_crossingsOfTold_38 : decode cX7_crossingsOfTold 38 = .ok (.aload_n 0, 1) := by decide +kernel
theorem dX7_crossingsOfTold_39 : decode cX7_crossingsOfTold 39 = .ok (.getfield 19, 3) := by decide +kernel
theorem dX7_crossingsOfTold_42 : decode cX7_crossingsOfTold 42 = .ok (.getfield 122, 3) := by decide +kernel
theorem dX7_crossingsOfTold_45 : decode cX7_crossingsOfTold 45 = .ok (.aload_n 0, 1) := by decide +kernel
theorem dX7_crossingsOfTold_46 : decode cX7_crossingsOfTold 46 = .ok (.getfield 48, 3) := by decide +kernel
theorem dX7_crossingsOfTold_49 : decode cX7_crossingsOfTold 49 = .ok (.iload 4, 2) := by decide +kernel
theorem dX7_crossingsOfTold_51 : decode cX7_crossingsOfTold 51 = .ok (.iaload, 1) := by decide +kernel
theorem dX7_crossingsOfTold_52 : decode cX7_crossingsOfTold 52 = .ok (.iaload, 1) := by decide +kernel
theorem dX7_crossingsOfTold_53 : decode cX7_crossingsOfTold 53 = .ok (.aload 5, 2) := by decide +kernel
theorem dX7_crossingsOfTold_55 : decode cX7_crossingsOfTold 55 = .ok (.invokevirtual 177, 3) := by decide +kernel
theorem dX7_crossingsOfTold_58 : decode cX7_crossingsOfTold 58 = .ok (.istore 6, 2) := by decide +kernel
theorem dX7_crossingsOfTold_60 : decode cX7_crossingsOfTold 60 = .ok (.aload 5, 2) := by decide +kernel
theorem dX7_crossingsOfTold_62 : decode cX7_crossingsOfTold 62 = .ok (.getfield 180, 3) := by decide +kernel
theorem dX7_crossingsOfTold_65 : decode cX7_crossingsOfTold 65 = .ok (.ifCond .eq 13, 3) := by decide +kernel
theorem dX7_crossingsOfTold_68 : decode cX7_crossingsOfTold 68 = .ok (.iload_n 3, 1) := by decide +kernel
theorem dX7_crossingsOfTold_69 : decode cX7_crossingsOfTold 69 = .ok (.iload 6, 2) := by decide +kernel
theorem dX7_crossingsOfTold_71 : decode cX7_crossingsOfTold 71 = .ok (.imul, 1) := by decide +kernel
theorem dX7_crossingsOfTold_72 : decode cX7_crossingsOfTold 72 = .ok (.ifCond .ge 6, 3) := by decide +kernel
theorem dX7_crossingsOfTold_75 : decode cX7_crossingsOfTold 75 = .ok (.iinc 2 1, 3) := by decide +kernel
theorem dX7_crossingsOfTold_78 : decode cX7_crossingsOfTold 78 = .ok (.iload 6, 2) := by decide +kernel
theorem dX7_crossingsOfTold_80 : decode cX7_crossingsOfTold 80 = .ok (.istore_n 3, 1) := by decide +kernel
theorem dX7_crossingsOfTold_81 : decode cX7_crossingsOfTold 81 = .ok (.iinc 4 1, 3) := by decide +kernel
theorem dX7_crossingsOfTold_84 : decode cX7_crossingsOfTold 84 = .ok (.goto (-77), 3) := by decide +kernel
theorem dX7_crossingsOfTold_87 : decode cX7_crossingsOfTold 87 = .ok (.iload_n 2, 1) := by decide +kernel
theorem dX7_crossingsOfTold_88 : decode cX7_crossingsOfTold 88 = .ok (.ireturn, 1) := by decide +kernel
theorem dX7_isPlace_0 : decode cX7_isPlace 0 = .ok (.iload_n 0, 1) := by decide +kernel
theorem dX7_isPlace_1 : decode cX7_isPlace 1 = .ok (.ifCond .lt 25, 3) := by decide +kernel
theorem dX7_isPlace_4 : decode cX7_isPlace 4 = .ok (.iload_n 0, 1) := by decide +kernel
theorem dX7_isPlace_5 : decode cX7_isPlace 5 = .ok (.bipush 100, 2) := by decide +kernel
theorem dX7_isPlace_7 : decode cX7_isPlace 7 = .ok (.idiv, 1) := by decide +kernel
theorem dX7_isPlace_8 : decode cX7_isPlace 8 = .ok (.bipush 32, 2) := by decide +kernel
theorem dX7_isPlace_10 : decode cX7_isPlace 10 = .ok (.if_icmp .ge 16, 3) := by decide +kernel
theorem dX7_isPlace_13 : decode cX7_isPlace 13 = .ok (.iload_n 0, 1) := by decide +kernel
theorem dX7_isPlace_14 : decode cX7_isPlace 14 = .ok (.bipush 100, 2) := by decide +kernel
theorem dX7_isPlace_16 : decode cX7_isPlace 16 = .ok (.irem, 1) := by decide +kernel
theorem dX7_isPlace_17 : decode cX7_isPlace 17 = .ok (.bipush 32, 2) := by decide +kernel
theorem dX7_isPlace_19 : decode cX7_isPlace 19 = .ok (.if_icmp .ge 7, 3) := by decide +kernel
theorem dX7_isPlace_22 : decode cX7_isPlace 22 = .ok (.iconst 1, 1) := by decide +kernel
theorem dX7_isPlace_23 : decode cX7_isPlace 23 = .ok (.goto 4, 3) := by decide +kernel
theorem dX7_isPlace_26 : decode cX7_isPlace 26 = .ok (.iconst 0, 1) := by decide +kernel
theorem dX7_isPlace_27 : decode cX7_isPlace 27 = .ok (.ireturn, 1) := by decide +kernel
theorem dX7_isTick_0 : decode cX7_isTick 0 = .ok (.iload_n 0, 1) := by decide +kernel
theorem dX7_isTick_1 : decode cX7_isTick 1 = .ok (.ifCond .lt 13, 3) := by decide +kernel
theorem dX7_isTick_4 : decode cX7_isTick 4 = .ok (.iload_n 0, 1) := by decide +kernel
theorem dX7_isTick_5 : decode cX7_isTick 5 = .ok (.bipush 60, 2) := by decide +kernel
theorem dX7_isTick_7 : decode cX7_isTick 7 = .ok (.if_icmp .ge 7, 3) := by decide +kernel
theorem dX7_isTick_10 : decode cX7_isTick 10 = .ok (.iconst 1, 1) := by decide +kernel
theorem dX7_isTick_11 : decode cX7_isTick 11 = .ok (.goto 4, 3) := by decide +kernel
theorem dX7_isTick_14 : decode cX7_isTick 14 = .ok (.iconst 0, 1) := by decide +kernel
theorem dX7_isTick_15 : decode cX7_isTick 15 = .ok (.ireturn, 1) := by decide +kernel
theorem dX7_isSpan_0 : decode cX7_isSpan 0 = .ok (.iload_n 0, 1) := by decide +kernel
theorem dX7_isSpan_1 : decode cX7_isSpan 1 = .ok (.ifCond .lt 28, 3) := by decide +kernel
theorem dX7_isSpan_4 : decode cX7_isSpan 4 = .ok (.iload_n 0, 1) := by decide +kernel
theorem dX7_isSpan_5 : decode cX7_isSpan 5 = .ok (.bipush 100, 2) := by decide +kernel
theorem dX7_isSpan_7 : decode cX7_isSpan 7 = .ok (.irem, 1) := by decide +kernel
theorem dX7_isSpan_8 : decode cX7_isSpan 8 = .ok (.invokestatic 70, 3) := by decide +kernel
theorem dX7_isSpan_11 : decode cX7_isSpan 11 = .ok (.ifCond .eq 18, 3) := by decide +kernel
theorem dX7_isSpan_14 : decode cX7_isSpan 14 = .ok (.iload_n 0, 1) := by decide +kernel
theorem dX7_isSpan_15 : decode cX7_isSpan 15 = .ok (.bipush 100, 2) := by decide +kernel
theorem dX7_isSpan_17 : decode cX7_isSpan 17 = .ok (.idiv, 1) := by decide +kernel
theorem dX7_isSpan_18 : decode cX7_isSpan 18 = .ok (.iload_n 0, 1) := by decide +kernel
theorem dX7_isSpan_19 : decode cX7_isSpan 19 = .ok (.bipush 100, 2) := by decide +kernel
theorem dX7_isSpan_21 : decode cX7_isSpan 21 = .ok (.irem, 1) := by decide +kernel
theorem dX7_isSpan_22 : decode cX7_isSpan 22 = .ok (.if_icmp .gt 7, 3) := by decide +kernel
theorem dX7_isSpan_25 : decode cX7_isSpan 25 = .ok (.iconst 1, 1) := by decide +kernel
theorem dX7_isSpan_26 : decode cX7_isSpan 26 = .ok (.goto 4, 3) := by decide +kernel
end
section
theorem dX7_isSpan_29 : decode cX7_isSpan 29 = .ok (.iconst 0, 1) := by decide +kernel
theorem dX7_isSpan_30 : decode cX7_isSpan 30 = .ok (.ireturn, 1) := by decide +kernel
theorem dX7_isPerson_0 : decode cX7_isPerson 0 = .ok (.iload_n 1, 1) := by decide +kernel
theorem dX7_isPerson_1 : decode cX7_isPerson 1 = .ok (.ifCond .lt 18, 3) := by decide +kernel
theorem dX7_isPerson_4 : decode cX7_isPerson 4 = .ok (.iload_n 1, 1) := by decide +kernel
theorem dX7_isPerson_5 : decode cX7_isPerson 5 = .ok (.aload_n 0, 1) := by decide +kernel
theorem dX7_isPerson_6 : decode cX7_isPerson 6 = .ok (.getfield 10, 3) := by decide +kernel
theorem dX7_isPerson_9 : decode cX7_isPerson 9 = .ok (.getfield 56, 3) := by decide +kernel
theorem dX7_isPerson_12 : decode cX7_isPerson 12 = .ok (.if_icmp .ge 7, 3) := by decide +kernel
theorem dX7_isPerson_15 : decode cX7_isPerson 15 = .ok (.iconst 1, 1) := by decide +kernel
theorem dX7_isPerson_16 : decode cX7_isPerson 16 = .ok (.goto 4, 3) := by decide +kernel
theorem dX7_isPerson_19 : decode cX7_isPerson 19 = .ok (.iconst 0, 1) := by decide +kernel
theorem dX7_isPerson_20 : decode cX7_isPerson 20 = .ok (.ireturn, 1) := by decide +kernel
theorem dX7_isCamera_0 : decode cX7_isCamera 0 = .ok (.iload_n 1, 1) := by decide +kernel
theorem dX7_isCamera_1 : decode cX7_isCamera 1 = .ok (.ifCond .lt 18, 3) := by decide +kernel
theorem dX7_isCamera_4 : decode cX7_isCamera 4 = .ok (.iload_n 1, 1) := by decide +kernel
theorem dX7_isCamera_5 : decode cX7_isCamera 5 = .ok (.aload_n 0, 1) := by decide +kernel
theorem dX7_isCamera_6 : decode cX7_isCamera 6 = .ok (.getfield 19, 3) := by decide +kernel
theorem dX7_isCamera_9 : decode cX7_isCamera 9 = .ok (.getfield 91, 3) := by decide +kernel
theorem dX7_isCamera_12 : decode cX7_isCamera 12 = .ok (.if_icmp .ge 7, 3) := by decide +kernel
theorem dX7_isCamera_15 : decode cX7_isCamera 15 = .ok (.iconst 1, 1) := by decide +kernel
theorem dX7_isCamera_16 : decode cX7_isCamera 16 = .ok (.goto 4, 3) := by decide +kernel
theorem dX7_isCamera_19 : decode cX7_isCamera 19 = .ok (.iconst 0, 1) := by decide +kernel
theorem dX7_isCamera_20 : decode cX7_isCamera 20 = .ok (.ireturn, 1) := by decide +kernel
theorem dX7_isBoard_0 : decode cX7_isBoard 0 = .ok (.iload_n 1, 1) := by decide +kernel
theorem dX7_isBoard_1 : decode cX7_isBoard 1 = .ok (.ifCond .lt 18, 3) := by decide +kernel
theorem dX7_isBoard_4 : decode cX7_isBoard 4 = .ok (.iload_n 1, 1) := by decide +kernel
theorem dX7_isBoard_5 : decode cX7_isBoard 5 = .ok (.aload_n 0, 1) := by decide +kernel
theorem dX7_isBoard_6 : decode cX7_isBoard 6 = .ok (.getfield 26, 3) := by decide +kernel
theorem dX7_isBoard_9 : decode cX7_isBoard 9 = .ok (.getfield 103, 3) := by decide +kernel
theorem dX7_isBoard_12 : decode cX7_isBoard 12 = .ok (.if_icmp .ge 7, 3) := by decide +kernel
theorem dX7_isBoard_15 : decode cX7_isBoard 15 = .ok (.iconst 1, 1) := by decide +kernel
theorem dX7_isBoard_16 : decode cX7_isBoard 16 = .ok (.goto 4, 3) := by decide +kernel
theorem dX7_isBoard_19 : decode cX7_isBoard 19 = .ok (.iconst 0, 1) := by decide +kernel
theorem dX7_isBoard_20 : decode cX7_isBoard 20 = .ok (.ireturn, 1) := by decide +kernel
theorem dX7_isWho_0 : decode cX7_isWho 0 = .ok (.iload_n 1, 1) := by decide +kernel
theorem dX7_isWho_1 : decode cX7_isWho 1 = .ok (.ifCond .lt 12, 3) := by decide +kernel
theorem dX7_isWho_4 : decode cX7_isWho 4 = .ok (.iload_n 1, 1) := by decide +kernel
theorem dX7_isWho_5 : decode cX7_isWho 5 = .ok (.sipush 1000, 3) := by decide +kernel
theorem dX7_isWho_8 : decode cX7_isWho 8 = .ok (.idiv, 1) := by decide +kernel
theorem dX7_isWho_9 : decode cX7_isWho 9 = .ok (.iconst 2, 1) := by decide +kernel
theorem dX7_isWho_10 : decode cX7_isWho 10 = .ok (.if_icmp .le 5, 3) := by decide +kernel
theorem dX7_isWho_13 : decode cX7_isWho 13 = .ok (.iconst 0, 1) := by decide +kernel
theorem dX7_isWho_14 : decode cX7_isWho 14 = .ok (.ireturn, 1) := by decide +kernel
theorem dX7_isWho_15 : decode cX7_isWho 15 = .ok (.iload_n 1, 1) := by decide +kernel
theorem dX7_isWho_16 : decode cX7_isWho 16 = .ok (.bipush 100, 2) := by decide +kernel
theorem dX7_isWho_18 : decode cX7_isWho 18 = .ok (.idiv, 1) := by decide +kernel
theorem dX7_isWho_19 : decode cX7_isWho 19 = .ok (.bipush 10, 2) := by decide +kernel
theorem dX7_isWho_21 : decode cX7_isWho 21 = .ok (.irem, 1) := by decide +kernel
theorem dX7_isWho_22 : decode cX7_isWho 22 = .ok (.istore_n 2, 1) := by decide +kernel
theorem dX7_isWho_23 : decode cX7_isWho 23 = .ok (.iload_n 1, 1) := by decide +kernel
theorem dX7_isWho_24 : decode cX7_isWho 24 = .ok (.bipush 100, 2) := by decide +kernel
theorem dX7_isWho_26 : decode cX7_isWho 26 = .ok (.irem, 1) := by decide +kernel
theorem dX7_isWho_27 : decode cX7_isWho 27 = .ok (.istore_n 3, 1) := by decide +kernel
theorem dX7_isWho_28 : decode cX7_isWho 28 = .ok (.aload_n 0, 1) := by decide +kernel
theorem dX7_isWho_29 : decode cX7_isWho 29 = .ok (.iload_n 2, 1) := by decide +kernel
theorem dX7_isWho_30 : decode cX7_isWho 30 = .ok (.invokevirtual 67, 3) := by decide +kernel
theorem dX7_isWho_33 : decode cX7_isWho 33 = .ok (.ifCond .eq 16, 3) := by decide +kernel
theorem dX7_isWho_36 : decode cX7_isWho 36 = .ok (.iload_n 3, 1) := by decide +kernel
theorem dX7_isWho_37 : decode cX7_isWho 37 = .ok (.iconst 1, 1) := by decide +kernel
theorem dX7_isWho_38 : decode cX7_isWho 38 = .ok (.aload_n 0, 1) := by decide +kernel
theorem dX7_isWho_39 : decode cX7_isWho 39 = .ok (.getfield 10, 3) := by decide +kernel
theorem dX7_isWho_42 : decode cX7_isWho 42 = .ok (.getfield 56, 3) := by decide +kernel
theorem dX7_isWho_45 : decode cX7_isWho 45 = .ok (.ishl, 1) := by decide +kernel
theorem dX7_isWho_46 : decode cX7_isWho 46 = .ok (.if_icmp .lt 5, 3) := by decide +kernel
theorem dX7_isWho_49 : decode cX7_isWho 49 = .ok (.iconst 0, 1) := by decide +kernel
theorem dX7_isWho_50 : decode cX7_isWho 50 = .ok (.ireturn, 1) := by decide +kernel
theorem dX7_isWho_51 : decode cX7_isWho 51 = .ok (.iload_n 1, 1) := by decide +kernel
theorem dX7_isWho_52 : decode cX7_isWho 52 = .ok (.sipush 1000, 3) := by decide +kernel
theorem dX7_isWho_55 : decode cX7_isWho 55 = .ok (.idiv, 1) := by decide +kernel
theorem dX7_isWho_56 : decode cX7_isWho 56 = .ok (.iconst 1, 1) := by decide +kernel
theorem dX7_isWho_57 : decode cX7_isWho 57 = .ok (.if_icmp .ne 13, 3) := by decide +kernel
theorem dX7_isWho_60 : decode cX7_isWho 60 = .ok (.iload_n 3, 1) := by decide +kernel
theorem dX7_isWho_61 : decode cX7_isWho 61 = .ok (.iconst 1, 1) := by decide +kernel
theorem dX7_isWho_62 : decode cX7_isWho 62 = .ok (.iload_n 2, 1) := by decide +kernel
theorem dX7_isWho_63 : decode cX7_isWho 63 = .ok (.ishl, 1) := by decide +kernel
theorem dX7_isWho_64 : decode cX7_isWho 64 = .ok (.iconst (-1), 1) := by decide +kernel
theorem dX7_isWho_65 : decode cX7_isWho 65 = .ok (.ixor, 1) := by decide +kernel
theorem dX7_isWho_66 : decode cX7_isWho 66 = .ok (.iand, 1) := by decide +kernel
theorem dX7_isWho_67 : decode cX7_isWho 67 = .ok (.ifCond .eq 7, 3) := by decide +kernel
theorem dX7_isWho_70 : decode cX7_isWho 70 = .ok (.iconst 1, 1) := by decide +kernel
theorem dX7_isWho_71 : decode cX7_isWho 71 = .ok (.goto 4, 3) := by decide +kernel
theorem dX7_isWho_74 : decode cX7_isWho 74 = .ok (.iconst 0, 1) := by decide +kernel
theorem dX7_isWho_75 : decode cX7_isWho 75 = .ok (.ireturn, 1) := by decide +kernel
theorem dX8_init_0 : decode cX8_init 0 = .ok (.aload_n 0, 1) := by decide +kernel
theorem dX8_init_1 : decode cX8_init 1 = .ok (.invokespecial 1, 3) := by decide +kernel
theorem dX8_init_4 : decode cX8_init 4 = .ok (.aload_n 0, 1) := by decide +kernel
theorem dX8_init_5 : decode cX8_init 5 = .ok (.bipush 6, 2) := by decide +kernel
theorem dX8_init_7 : decode cX8_init 7 = .ok (.newarray .int, 2) := by decide +kernel
theorem dX8_init_9 : decode cX8_init 9 = .ok (.putfield 7, 3) := by decide +kernel
theorem dX8_init_12 : decode cX8_init 12 = .ok (.aload_n 0, 1) := by decide +kernel
theorem dX8_init_13 : decode cX8_init 13 = .ok (.bipush 6, 2) := by decide +kernel
theorem dX8_init_15 : decode cX8_init 15 = .ok (.newarray .int, 2) := by decide +kernel
theorem dX8_init_17 : decode cX8_init 17 = .ok (.putfield 13, 3) := by decide +kernel
theorem dX8_init_20 : decode cX8_init 20 = .ok (.aload_n 0, 1) := by decide +kernel
theorem dX8_init_21 : decode cX8_init 21 = .ok (.bipush 72, 2) := by decide +kernel
theorem dX8_init_23 : decode cX8_init 23 = .ok (.newarray .int, 2) := by decide +kernel
theorem dX8_init_25 : decode cX8_init 25 = .ok (.putfield 16, 3) := by decide +kernel
theorem dX8_init_28 : decode cX8_init 28 = .ok (.aload_n 0, 1) := by decide +kernel
theorem dX8_init_29 : decode cX8_init 29 = .ok (.bipush 72, 2) := by decide +kernel
theorem dX8_init_31 : decode cX8_init 31 = .ok (.newarray .int, 2) := by decide +kernel
theorem dX8_init_33 : decode cX8_init 33 = .ok (.putfield 19, 3) := by decide +kernel
theorem dX8_init_36 : decode cX8_init 36 = .ok (.aload_n 0, 1) := by decide +kernel
theorem dX8_init_37 : decode cX8_init 37 = .ok (.bipush 12, 2) := by decide +kernel
theorem dX8_init_39 : decode cX8_init 39 = .ok (.newarray .int, 2) := by decide +kernel
theorem dX8_init_41 : decode cX8_init 41 = .ok (.putfield 22, 3) := by decide +kernel
theorem dX8_init_44 : decode cX8_init 44 = .ok (.aload_n 0, 1) := by decide +kernel
theorem dX8_init_45 : decode cX8_init 45 = .ok (.bipush 12, 2) := by decide +kernel
theorem dX8_init_47 : decode cX8_init 47 = .ok (.newarray .int, 2) := by decide +kernel
theorem dX8_init_49 : decode cX8_init 49 = .ok (.putfield 25, 3) := by decide +kernel
theorem dX8_init_52 : decode cX8_init 52 = .ok (.aload_n 0, 1) := by decide +kernel
theorem dX8_init_53 : decode cX8_init 53 = .ok (.bipush 10, 2) := by decide +kernel
theorem dX8_init_55 : decode cX8_init 55 = .ok (.newarray .int, 2) := by decide +kernel
theorem dX8_init_57 : decode cX8_init 57 = .ok (.putfield 28, 3) := by decide +kernel
theorem dX8_init_60 : decode cX8_init 60 = .ok (.aload_n 0, 1) := by decide +kernel
theorem dX8_init_61 : decode cX8_init 61 = .ok (.bipush 10, 2) := by decide +kernel
theorem dX8_init_63 : decode cX8_init 63 = .ok (.newarray .int, 2) := by decide +kernel
theorem dX8_init_65 : decode cX8_init 65 = .ok (.putfield 31, 3) := by decide +kernel
theorem dX8_init_68 : decode cX8_init 68 = .ok (.aload_n 0, 1) := by decide +kernel
theorem dX8_init_69 : decode cX8_init 69 = .ok (.bipush 8, 2) := by decide +kernel
theorem dX8_init_71 : decode cX8_init 71 = .ok (.newarray .int, 2) := by decide +kernel
theorem dX8_init_73 : decode cX8_init 73 = .ok (.putfield 34, 3) := by decide +kernel
theorem dX8_init_76 : decode cX8_init 76 = .ok (.aload_n 0, 1) := by decide +kernel
theorem dX8_init_77 : decode cX8_init 77 = .ok (.bipush 8, 2) := by decide +kernel
theorem dX8_init_79 : decode cX8_init 79 = .ok (.newarray .int, 2) := by decide +kernel
theorem dX8_init_81 : decode cX8_init 81 = .ok (.putfield 37, 3) := by decide +kernel
theorem dX8_init_84 : decode cX8_init 84 = .ok (.aload_n 0, 1) := by decide +kernel
theorem dX8_init_85 : decode cX8_init 85 = .ok (.bipush 8, 2) := by decide +kernel
theorem dX8_init_87 : decode cX8_init 87 = .ok (.newarray .int, 2) := by decide +kernel
theorem dX8_init_89 : decode cX8_init 89 = .ok (.putfield 40, 3) := by decide +kernel
theorem dX8_init_92 : decode cX8_init 92 = .ok (.aload_n 0, 1) := by decide +kernel
theorem dX8_init_93 : decode cX8_init 93 = .ok (.bipush 8, 2) := by decide +kernel
theorem dX8_init_95 : decode cX8_init 95 = .ok (.newarray .int, 2) := by decide +kernel
theorem dX8_init_97 : decode cX8_init 97 = .ok (.putfield 43, 3) := by decide +kernel
theorem dX8_init_100 : decode cX8_init 100 = .ok (.aload_n 0, 1) := by decide +kernel
theorem dX8_init_101 : decode cX8_init 101 = .ok (.bipush 8, 2) := by decide +kernel
theorem dX8_init_103 : decode cX8_init 103 = .ok (.newarray .int, 2) := by decide +kernel
theorem dX8_init_105 : decode cX8_init 105 = .ok (.putfield 46, 3) := by decide +kernel
theorem dX8_init_108 : decode cX8_init 108 = .ok (.aload_n 0, 1) := by decide +kernel
theorem dX8_init_109 : decode cX8_init 109 = .ok (.bipush 8, 2) := by decide +kernel
theorem dX8_init_111 : decode cX8_init 111 = .ok (.newarray .int, 2) := by decide +kernel
theorem dX8_init_113 : decode cX8_init 113 = .ok (.putfield 49, 3) := by decide +kernel
theorem dX8_init_116 : decode cX8_init 116 = .ok (.aload_n 0, 1) := by decide +kernel
theorem dX8_init_117 : decode cX8_init 117 = .ok (.bipush 8, 2) := by decide +kernel
theorem dX8_init_119 : decode cX8_init 119 = .ok (.newarray .int, 2) := by decide +kernel
theorem dX8_init_121 : decode cX8_init 121 = .ok (.putfield 52, 3) := by decide +kernel
theorem dX8_init_124 : decode cX8_init 124 = .ok (.aload_n 0, 1) := by decide +kernel
theorem dX8_init_125 : decode cX8_init 125 = .ok (.iconst 3, 1) := by decide +kernel
theorem dX8_init_126 : decode cX8_init 126 = .ok (.putfield 55, 3) := by decide +kernel
theorem dX8_init_129 : decode cX8_init 129 = .ok (.aload_n 0, 1) := by decide +kernel
theorem dX8_init_130 : decode cX8_init 130 = .ok (.bipush 8, 2) := by decide +kernel
theorem dX8_init_132 : decode cX8_init 132 = .ok (.newarray .int, 2) := by decide +kernel
theorem dX8_init_134 : decode cX8_init 134 = .ok (.putfield 59, 3) := by decide +kernel
theorem dX8_init_137 : decode cX8_init 137 = .ok (.aload_n 0, 1) := by decide +kernel
theorem dX8_init_138 : decode cX8_init 138 = .ok (.bipush 80, 2) := by decide +kernel
theorem dX8_init_140 : decode cX8_init 140 = .ok (.newarray .boolean, 2) := by decide +kernel
theorem dX8_init_142 : decode cX8_init 142 = .ok (.putfield 62, 3) := by decide +kernel
theorem dX8_init_145 : decode cX8_init 145 = .ok (.aload_n 0, 1) := by decide +kernel
theorem dX8_init_146 : decode cX8_init 146 = .ok (.bipush 99, 2) := by decide +kernel
theorem dX8_init_148 : decode cX8_init 148 = .ok (.newarray .boolean, 2) := by decide +kernel
theorem dX8_init_150 : decode cX8_init 150 = .ok (.putfield 66, 3) := by decide +kernel
theorem dX8_init_153 : decode cX8_init 153 = .ok (.aload_n 0, 1) := by decide +kernel
theorem dX8_init_154 : decode cX8_init 154 = .ok (.bipush 8, 2) := by decide +kernel
theorem dX8_init_156 : decode cX8_init 156 = .ok (.newarray .int, 2) := by decide +kernel
theorem dX8_init_158 : decode cX8_init 158 = .ok (.putfield 69, 3) := by decide +kernel
theorem dX8_init_161 : decode cX8_init 161 = .ok (.return_, 1) := by decide +kernel
theorem dX8_in_0 : decode cX8_in 0 = .ok (.iload_n 0, 1) := by decide +kernel
theorem dX8_in_1 : decode cX8_in 1 = .ok (.iload_n 1, 1) := by decide +kernel
theorem dX8_in_2 : decode cX8_in 2 = .ok (.if_icmp .lt 12, 3) := by decide +kernel
theorem dX8_in_5 : decode cX8_in 5 = .ok (.iload_n 0, 1) := by decide +kernel
theorem dX8_in_6 : decode cX8_in 6 = .ok (.iload_n 2, 1) := by decide +kernel
theorem dX8_in_7 : decode cX8_in 7 = .ok (.if_icmp .gt 7, 3) := by decide +kernel
theorem dX8_in_10 : decode cX8_in 10 = .ok (.iconst 1, 1) := by decide +kernel
theorem dX8_in_11 : decode cX8_in 11 = .ok (.goto 4, 3) := by decide +kernel
theorem dX8_in_14 : decode cX8_in 14 = .ok (.iconst 0, 1) := by decide +kernel
theorem dX8_in_15 : decode cX8_in 15 = .ok (.ireturn, 1) := by decide +kernel
theorem dX8_isPlace_0 : decode cX8_isPlace 0 = .ok (.iload_n 0, 1) := by decide +kernel
theorem dX8_isPlace_1 : decode cX8_isPlace 1 = .ok (.ifCond .lt 25, 3) := by decide +kernel
theorem dX8_isPlace_4 : decode cX8_isPlace 4 = .ok (.iload_n 0, 1) := by decide +kernel
theorem dX8_isPlace_5 : decode cX8_isPlace 5 = .ok (.bipush 100, 2) := by decide +kernel
theorem dX8_isPlace_7 : decode cX8_isPlace 7 = .ok (.idiv, 1) := by decide +kernel
theorem dX8_isPlace_8 : decode cX8_isPlace 8 = .ok (.bipush 32, 2) := by decide +kernel
theorem dX8_isPlace_10 : decode cX8_isPlace 10 = .ok (.if_icmp .ge 16, 3) := by decide +kernel
theorem dX8_isPlace_13 : decode cX8_isPlace 13 = .ok (.iload_n 0, 1) := by decide +kernel
theorem dX8_isPlace_14 : decode cX8_isPlace 14 = .ok (.bipush 100, 2) := by decide +kernel
theorem dX8_isPlace_16 : decode cX8_isPlace 16 = .ok (.irem, 1) := by decide +kernel
theorem dX8_isPlace_17 : decode cX8_isPlace 17 = .ok (.bipush 32, 2) := by decide +kernel
theorem dX8_isPlace_19 : decode cX8_isPlace 19 = .ok (.if_icmp .ge 7, 3) := by decide +kernel
theorem dX8_isPlace_22 : decode cX8_isPlace 22 = .ok (.iconst 1, 1) := by decide +kernel
theorem dX8_isPlace_23 : decode cX8_isPlace 23 = .ok (.goto 4, 3) := by decide +kernel
theorem dX8_isPlace_26 : decode cX8_isPlace 26 = .ok (.iconst 0, 1) := by decide +kernel
theorem dX8_isPlace_27 : decode cX8_isPlace 27 = .ok (.ireturn, 1) := by decide +kernel
theorem dX8_isPerson_0 : decode cX8_isPerson 0 = .ok (.iload_n 1, 1) := by decide +kernel
theorem dX8_isPerson_1 : decode cX8_isPerson 1 = .ok (.iconst 0, 1) := by decide +kernel
theorem dX8_isPerson_2 : decode cX8_isPerson 2 = .ok (.aload_n 0, 1) := by decide +kernel
theorem dX8_isPerson_3 : decode cX8_isPerson 3 = .ok (.getfield 72, 3) := by decide +kernel
theorem dX8_isPerson_6 : decode cX8_isPerson 6 = .ok (.iconst 1, 1) := by decide +kernel
theorem dX8_isPerson_7 : decode cX8_isPerson 7 = .ok (.isub, 1) := by decide +kernel
theorem dX8_isPerson_8 : decode cX8_isPerson 8 = .ok (.invokestatic 75, 3) := by decide +kernel
theorem dX8_isPerson_11 : decode cX8_isPerson 11 = .ok (.ireturn, 1) := by decide +kernel
theorem dX8_isCamera_0 : decode cX8_isCamera 0 = .ok (.iload_n 1, 1) := by decide +kernel
theorem dX8_isCamera_1 : decode cX8_isCamera 1 = .ok (.iconst 0, 1) := by decide +kernel
theorem dX8_isCamera_2 : decode cX8_isCamera 2 = .ok (.aload_n 0, 1) := by decide +kernel
theorem dX8_isCamera_3 : decode cX8_isCamera 3 = .ok (.getfield 79, 3) := by decide +kernel
theorem dX8_isCamera_6 : decode cX8_isCamera 6 = .ok (.iconst 1, 1) := by decide +kernel
theorem dX8_isCamera_7 : decode cX8_isCamera 7 = .ok (.isub, 1) := by decide +kernel
theorem dX8_isCamera_8 : decode cX8_isCamera 8 = .ok (.invokestatic 75, 3) := by decide +kernel
theorem dX8_isCamera_11 : decode cX8_isCamera 11 = .ok (.ireturn, 1) := by decide +kernel
theorem dX8_isBoard_0 : decode cX8_isBoard 0 = .ok (.iload_n 1, 1) := by decide +kernel
theorem dX8_isBoard_1 : decode cX8_isBoard 1 = .ok (.iconst 0, 1) := by decide +kernel
theorem dX8_isBoard_2 : decode cX8_isBoard 2 = .ok (.aload_n 0, 1) := by decide +kernel
theorem dX8_isBoard_3 : decode cX8_isBoard 3 = .ok (.getfield 82, 3) := by decide +kernel
theorem dX8_isBoard_6 : decode cX8_isBoard 6 = .ok (.iconst 1, 1) := by decide +kernel
theorem dX8_isBoard_7 : decode cX8_isBoard 7 = .ok (.isub, 1) := by decide +kernel
theorem dX8_isBoard_8 : decode cX8_isBoard 8 = .ok (.invokestatic 75, 3) := by decide +kernel
theorem dX8_isBoard_11 : decode cX8_isBoard 11 = .ok (.ireturn, 1) := by decide +kernel
theorem dX8_isTick_0 : decode cX8_isTick 0 = .ok (.iload_n 0, 1) := by decide +kernel
theorem dX8_isTick_1 : decode cX8_isTick 1 = .ok (.iconst 0, 1) := by decide +kernel
theorem dX8_isTick_2 : decode cX8_isTick 2 = .ok (.bipush 59, 2) := by decide +kernel
theorem dX8_isTick_4 : decode cX8_isTick 4 = .ok (.invokestatic 75, 3) := by decide +kernel
theorem dX8_isTick_7 : decode cX8_isTick 7 = .ok (.ireturn, 1) := by decide +kernel
theorem dX8_person_0 : decode cX8_person 0 = .ok (.iload_n 1, 1) := by decide +kernel
theorem dX8_person_1 : decode cX8_person 1 = .ok (.invokestatic 85, 3) := by decide +kernel
theorem dX8_person_4 : decode cX8_person 4 = .ok (.ifCond .ne 5, 3) := by decide +kernel
theorem dX8_person_7 : decode cX8_person 7 = .ok (.iconst (-1), 1) := by decide +kernel
theorem dX8_person_8 : decode cX8_person 8 = .ok (.ireturn, 1) := by decide +kernel
theorem dX8_person_9 : decode cX8_person 9 = .ok (.aload_n 0, 1) := by decide +kernel
theorem dX8_person_10 : decode cX8_person 10 = .ok (.getfield 72, 3) := by decide +kernel
theorem dX8_person_13 : decode cX8_person 13 = .ok (.bipush 6, 2) := by decide +kernel
theorem dX8_person_15 : decode cX8_person 15 = .ok (.if_icmp .ne 6, 3) := by decide +kernel
theorem dX8_person_18 : decode cX8_person 18 = .ok (.bipush (-2), 2) := by decide +kernel
theorem dX8_person_20 : decode cX8_person 20 = .ok (.ireturn, 1) := by decide +kernel
theorem dX8_person_21 : decode cX8_person 21 = .ok (.aload_n 0, 1) := by decide +kernel
theorem dX8_person_22 : decode cX8_person 22 = .ok (.getfield 7, 3) := by decide +kernel
theorem dX8_person_25 : decode cX8_person 25 = .ok (.aload_n 0, 1) := by decide +kernel
theorem dX8_person_26 : decode cX8_person 26 = .ok (.getfield 72, 3) := by decide +kernel
theorem dX8_person_29 : decode cX8_person 29 = .ok (.iload_n 1, 1) := by decide +kernel
theorem dX8_person_30 : decode cX8_person 30 = .ok (.iastore, 1) := by decide +kernel
theorem dX8_person_31 : decode cX8_person 31 = .ok (.aload_n 0, 1) := by decide +kernel
theorem dX8_person_32 : decode cX8_person 32 = .ok (.dup, 1) := by decide +kernel
theorem dX8_person_33 : decode cX8_person 33 = .ok (.getfield 72, 3) := by decide +kernel
theorem dX8_person_36 : decode cX8_person 36 = .ok (.iconst 1, 1) := by decide +kernel
theorem dX8_person_37 : decode cX8_person 37 = .ok (.iadd, 1) := by decide +kernel
theorem dX8_person_38 : decode cX8_person 38 = .ok (.putfield 72, 3) := by decide +kernel
theorem dX8_person_41 : decode cX8_person 41 = .ok (.aload_n 0, 1) := by decide +kernel
theorem dX8_person_42 : decode cX8_person 42 = .ok (.getfield 72, 3) := by decide +kernel
theorem dX8_person_45 : decode cX8_person 45 = .ok (.iconst 1, 1) := by decide +kernel
theorem dX8_person_46 : decode cX8_person 46 = .ok (.isub, 1) := by decide +kernel
theorem dX8_person_47 : decode cX8_person 47 = .ok (.ireturn, 1) := by decide +kernel
theorem dX8_step_0 : decode cX8_step 0 = .ok (.aload_n 0, 1) := by decide +kernel
theorem dX8_step_1 : decode cX8_step 1 = .ok (.iload_n 1, 1) := by decide +kernel
theorem dX8_step_2 : decode cX8_step 2 = .ok (.invokevirtual 89, 3) := by decide +kernel
theorem dX8_step_5 : decode cX8_step 5 = .ok (.ifCond .eq 20, 3) := by decide +kernel
theorem dX8_step_8 : decode cX8_step 8 = .ok (.iload_n 2, 1) := by decide +kernel
theorem dX8_step_9 : decode cX8_step 9 = .ok (.iconst 1, 1) := by decide +kernel
theorem dX8_step_10 : decode cX8_step 10 = .ok (.bipush 59, 2) := by decide +kernel
theorem dX8_step_12 : decode cX8_step 12 = .ok (.invokestatic 75, 3) := by decide +kernel
theorem dX8_step_15 : decode cX8_step 15 = .ok (.ifCond .eq 10, 3) := by decide +kernel
theorem dX8_step_18 : decode cX8_step 18 = .ok (.iload_n 3, 1) := by decide +kernel
theorem dX8_step_19 : decode cX8_step 19 = .ok (.invokestatic 85, 3) := by decide +kernel
theorem dX8_step_22 : decode cX8_step 22 = .ok (.ifCond .ne 5, 3) := by decide +kernel
theorem dX8_step_25 : decode cX8_step 25 = .ok (.iconst (-1), 1) := by decide +kernel
theorem dX8_step_26 : decode cX8_step 26 = .ok (.ireturn, 1) := by decide +kernel
theorem dX8_step_27 : decode cX8_step 27 = .ok (.bipush 12, 2) := by decide +kernel
theorem dX8_step_29 : decode cX8_step 29 = .ok (.iload_n 1, 1) := by decide +kernel
theorem dX8_step_30 : decode cX8_step 30 = .ok (.imul, 1) := by decide +kernel
theorem dX8_step_31 : decode cX8_step 31 = .ok (.istore 4, 2) := by decide +kernel
theorem dX8_step_33 : decode cX8_step 33 = .ok (.iload 4, 2) := by decide +kernel
theorem dX8_step_35 : decode cX8_step 35 = .ok (.bipush 12, 2) := by decide +kernel
theorem dX8_step_37 : decode cX8_step 37 = .ok (.iload_n 1, 1) := by decide +kernel
theorem dX8_step_38 : decode cX8_step 38 = .ok (.imul, 1) := by decide +kernel
theorem dX8_step_39 : decode cX8_step 39 = .ok (.aload_n 0, 1) := by decide +kernel
theorem dX8_step_40 : decode cX8_step 40 = .ok (.getfield 13, 3) := by decide +kernel
theorem dX8_step_43 : decode cX8_step 43 = .ok (.iload_n 1, 1) := by decide +kernel
theorem dX8_step_44 : decode cX8_step 44 = .ok (.iaload, 1) := by decide +kernel
theorem dX8_step_45 : decode cX8_step 45 = .ok (.iadd, 1) := by decide +kernel
theorem dX8_step_46 : decode cX8_step 46 = .ok (.if_icmp .ge 35, 3) := by decide +kernel
theorem dX8_step_49 : decode cX8_step 49 = .ok (.aload_n 0, 1) := by decide +kernel
theorem dX8_step_50 : decode cX8_step 50 = .ok (.getfield 16, 3) := by decide +kernel
theorem dX8_step_53 : decode cX8_step 53 = .ok (.iload 4, 2) := by decide +kernel
theorem dX8_step_55 : decode cX8_step 55 = .ok (.iaload, 1) := by decide +kernel
theorem dX8_step_56 : decode cX8_step 56 = .ok (.iload_n 2, 1) := by decide +kernel
theorem dX8_step_57 : decode cX8_step 57 = .ok (.if_icmp .ne 18, 3) := by decide +kernel
theorem dX8_step_60 : decode cX8_step 60 = .ok (.aload_n 0, 1) := by decide +kernel
theorem dX8_step_61 : decode cX8_step 61 = .ok (.getfield 19, 3) := by decide +kernel
theorem dX8_step_64 : decode cX8_step 64 = .ok (.iload 4, 2) := by decide +kernel
theorem dX8_step_66 : decode cX8_step 66 = .ok (.iload_n 3, 1) := by decide +kernel
theorem dX8_step_67 : decode cX8_step 67 = .ok (.iastore, 1) := by decide +kernel
theorem dX8_step_68 : decode cX8_step 68 = .ok (.aload_n 0, 1) := by decide +kernel
theorem dX8_step_69 : decode cX8_step 69 = .ok (.getfield 13, 3) := by decide +kernel
theorem dX8_step_72 : decode cX8_step 72 = .ok (.iload_n 1, 1) := by decide +kernel
theorem dX8_step_73 : decode cX8_step 73 = .ok (.iaload, 1) := by decide +kernel
theorem dX8_step_74 : decode cX8_step 74 = .ok (.ireturn, 1) := by decide +kernel
theorem dX8_step_75 : decode cX8_step 75 = .ok (.iinc 4 1, 3) := by decide +kernel
theorem dX8_step_78 : decode cX8_step 78 = .ok (.goto (-45), 3) := by decide +kernel
theorem dX8_step_81 : decode cX8_step 81 = .ok (.aload_n 0, 1) := by decide +kernel
theorem dX8_step_82 : decode cX8_step 82 = .ok (.getfield 13, 3) := by decide +kernel
theorem dX8_step_85 : decode cX8_step 85 = .ok (.iload_n 1, 1) := by decide +kernel
theorem dX8_step_86 : decode cX8_step 86 = .ok (.iaload, 1) := by decide +kernel
theorem dX8_step_87 : decode cX8_step 87 = .ok (.bipush 12, 2) := by decide +kernel
theorem dX8_step_89 : decode cX8_step 89 = .ok (.if_icmp .ne 6, 3) := by decide +kernel
theorem dX8_step_92 : decode cX8_step 92 = .ok (.bipush (-2), 2) := by decide +kernel
theorem dX8_step_94 : decode cX8_step 94 = .ok (.ireturn, 1) := by decide +kernel
theorem dX8_step_95 : decode cX8_step 95 = .ok (.aload_n 0, 1) := by decide +kernel
theorem dX8_step_96 : decode cX8_step 96 = .ok (.getfield 16, 3) := by decide +kernel
theorem dX8_step_99 : decode cX8_step 99 = .ok (.bipush 12, 2) := by decide +kernel
theorem dX8_step_101 : decode cX8_step 101 = .ok (.iload_n 1, 1) := by decide +kernel
theorem dX8_step_102 : decode cX8_step 102 = .ok (.imul, 1) := by decide +kernel
theorem dX8_step_103 : decode cX8_step 103 = .ok (.aload_n 0, 1) := by decide +kernel
theorem dX8_step_104 : decode cX8_step 104 = .ok (.getfield 13, 3) := by decide +kernel
theorem dX8_step_107 : decode cX8_step 107 = .ok (.iload_n 1, 1) := by decide +kernel
theorem dX8_step_108 : decode cX8_step 108 = .ok (.iaload, 1) := by decide +kernel
theorem dX8_step_109 : decode cX8_step 109 = .ok (.iadd, 1) := by decide +kernel
theorem dX8_step_110 : decode cX8_step 110 = .ok (.iload_n 2, 1) := by decide +kernel
theorem dX8_step_111 : decode cX8_step 111 = .ok (.iastore, 1) := by decide +kernel
theorem dX8_step_112 : decode cX8_step 112 = .ok (.aload_n 0, 1) := by decide +kernel
theorem dX8_step_113 : decode cX8_step 113 = .ok (.getfield 19, 3) := by decide +kernel
theorem dX8_step_116 : decode cX8_step 116 = .ok (.bipush 12, 2) := by decide +kernel
theorem dX8_step_118 : decode cX8_step 118 = .ok (.iload_n 1, 1) := by decide +kernel
theorem dX8_step_119 : decode cX8_step 119 = .ok (.imul, 1) := by decide +kernel
theorem dX8_step_120 : decode cX8_step 120 = .ok (.aload_n 0, 1) := by decide +kernel
theorem dX8_step_121 : decode cX8_step 121 = .ok (.getfield 13, 3) := by decide +kernel
theorem dX8_step_124 : decode cX8_step 124 = .ok (.iload_n 1, 1) := by decide +kernel
theorem dX8_step_125 : decode cX8_step 125 = .ok (.iaload, 1) := by decide +kernel
theorem dX8_step_126 : decode cX8_step 126 = .ok (.iadd, 1) := by decide +kernel
theorem dX8_step_127 : decode cX8_step 127 = .ok (.iload_n 3, 1) := by decide +kernel
theorem dX8_step_128 : decode cX8_step 128 = .ok (.iastore, 1) := by decide +kernel
theorem dX8_step_129 : decode cX8_step 129 = .ok (.aload_n 0, 1) := by decide +kernel
theorem dX8_step_130 : decode cX8_step 130 = .ok (.getfield 13, 3) := by decide +kernel
theorem dX8_step_133 : decode cX8_step 133 = .ok (.iload_n 1, 1) := by decide +kernel
theorem dX8_step_134 : decode cX8_step 134 = .ok (.dup2, 1) := by decide +kernel
theorem dX8_step_135 : decode cX8_step 135 = .ok (.iaload, 1) := by decide +kernel
theorem dX8_step_136 : decode cX8_step 136 = .ok (.iconst 1, 1) := by decide +kernel
theorem dX8_step_137 : decode cX8_step 137 = .ok (.iadd, 1) := by decide +kernel
theorem dX8_step_138 : decode cX8_step 138 = .ok (.iastore, 1) := by decide +kernel
theorem dX8_step_139 : decode cX8_step 139 = .ok (.aload_n 0, 1) := by decide +kernel
theorem dX8_step_140 : decode cX8_step 140 = .ok (.getfield 13, 3) := by decide +kernel
theorem dX8_step_143 : decode cX8_step 143 = .ok (.iload_n 1, 1) := by decide +kernel
theorem dX8_step_144 : decode cX8_step 144 = .ok (.iaload, 1) := by decide +kernel
theorem dX8_step_145 : decode cX8_step 145 = .ok (.ireturn, 1) := by decide +kernel
theorem dX8_wall_0 : decode cX8_wall 0 = .ok (.iload_n 1, 1) := by decide +kernel
theorem dX8_wall_1 : decode cX8_wall 1 = .ok (.invokestatic 85, 3) := by decide +kernel
theorem dX8_wall_4 : decode cX8_wall 4 = .ok (.ifCond .eq 15, 3) := by decide +kernel
theorem dX8_wall_7 : decode cX8_wall 7 = .ok (.iload_n 2, 1) := by decide +kernel
theorem dX8_wall_8 : decode cX8_wall 8 = .ok (.invokestatic 85, 3) := by decide +kernel
theorem dX8_wall_11 : decode cX8_wall 11 = .ok (.ifCond .eq 8, 3) := by decide +kernel
theorem dX8_wall_14 : decode cX8_wall 14 = .ok (.iload_n 1, 1) := by decide +kernel
theorem dX8_wall_15 : decode cX8_wall 15 = .ok (.iload_n 2, 1) := by decide +kernel
theorem dX8_wall_16 : decode cX8_wall 16 = .ok (.if_icmp .ne 5, 3) := by decide +kernel
theorem dX8_wall_19 : decode cX8_wall 19 = .ok (.iconst (-1), 1) := by decide +kernel
theorem dX8_wall_20 : decode cX8_wall 20 = .ok (.ireturn, 1) := by decide +kernel
theorem dX8_wall_21 : decode cX8_wall 21 = .ok (.aload_n 0, 1) := by decide +kernel
theorem dX8_wall_22 : decode cX8_wall 22 = .ok (.getfield 92, 3) := by decide +kernel
theorem dX8_wall_25 : decode cX8_wall 25 = .ok (.bipush 12, 2) := by decide +kernel
theorem dX8_wall_27 : decode cX8_wall 27 = .ok (.if_icmp .ne 6, 3) := by decide +kernel
theorem dX8_wall_30 : decode cX8_wall 30 = .ok (.bipush (-2), 2) := by decide +kernel
theorem dX8_wall_32 : decode cX8_wall 32 = .ok (.ireturn, 1) := by decide +kernel
theorem dX8_wall_33 : decode cX8_wall 33 = .ok (.aload_n 0, 1) := by decide +kernel
theorem dX8_wall_34 : decode cX8_wall 34 = .ok (.getfield 22, 3) := by decide +kernel
theorem dX8_wall_37 : decode cX8_wall 37 = .ok (.aload_n 0, 1) := by decide +kernel
theorem dX8_wall_38 : decode cX8_wall 38 = .ok (.getfield 92, 3) := by decide +kernel
theorem dX8_wall_41 : decode cX8_wall 41 = .ok (.iload_n 1, 1) := by decide +kernel
theorem dX8_wall_42 : decode cX8_wall 42 = .ok (.iastore, 1) := by decide +kernel
theorem dX8_wall_43 : decode cX8_wall 43 = .ok (.aload_n 0, 1) := by decide +kernel
theorem dX8_wall_44 : decode cX8_wall 44 = .ok (.getfield 25, 3) := by decide +kernel
theorem dX8_wall_47 : decode cX8_wall 47 = .ok (.aload_n 0, 1) := by decide +kernel
theorem dX8_wall_48 : decode cX8_wall 48 = .ok (.getfield 92, 3) := by decide +kernel
theorem dX8_wall_51 : decode cX8_wall 51 = .ok (.iload_n 2, 1) := by decide +kernel
theorem dX8_wall_52 : decode cX8_wall 52 = .ok (.iastore, 1) := by decide +kernel
theorem dX8_wall_53 : decode cX8_wall 53 = .ok (.aload_n 0, 1) := by decide +kernel
theorem dX8_wall_54 : decode cX8_wall 54 = .ok (.dup, 1) := by decide +kernel
theorem dX8_wall_55 : decode cX8_wall 55 = .ok (.getfield 92, 3) := by decide +kernel
theorem dX8_wall_58 : decode cX8_wall 58 = .ok (.iconst 1, 1) := by decide +kernel
theorem dX8_wall_59 : decode cX8_wall 59 = .ok (.iadd, 1) := by decide +kernel
theorem dX8_wall_60 : decode cX8_wall 60 = .ok (.putfield 92, 3) := by decide +kernel
theorem dX8_wall_63 : decode cX8_wall 63 = .ok (.aload_n 0, 1) := by decide +kernel
theorem dX8_wall_64 : decode cX8_wall 64 = .ok (.getfield 92, 3) := by decide +kernel
theorem dX8_wall_67 : decode cX8_wall 67 = .ok (.iconst 1, 1) := by decide +kernel
theorem dX8_wall_68 : decode cX8_wall 68 = .ok (.isub, 1) := by decide +kernel
theorem dX8_wall_69 : decode cX8_wall 69 = .ok (.ireturn, 1) := by decide +kernel
theorem dX8_open_0 : decode cX8_open 0 = .ok (.aload_n 0, 1) := by decide +kernel
theorem dX8_open_1 : decode cX8_open 1 = .ok (.getfield 92, 3) := by decide +kernel
theorem dX8_open_4 : decode cX8_open 4 = .ok (.ifCond .ne 6, 3) := by decide +kernel
theorem dX8_open_7 : decode cX8_open 7 = .ok (.bipush (-3), 2) := by decide +kernel
theorem dX8_open_9 : decode cX8_open 9 = .ok (.ireturn, 1) := by decide +kernel
theorem dX8_open_10 : decode cX8_open 10 = .ok (.aload_n 0, 1) := by decide +kernel
theorem dX8_open_11 : decode cX8_open 11 = .ok (.dup, 1) := by decide +kernel
theorem dX8_open_12 : decode cX8_open 12 = .ok (.getfield 92, 3) := by decide +kernel
theorem dX8_open_15 : decode cX8_open 15 = .ok (.iconst 1, 1) := by decide +kernel
theorem dX8_open_16 : decode cX8_open 16 = .ok (.isub, 1) := by decide +kernel
theorem dX8_open_17 : decode cX8_open 17 = .ok (.putfield 92, 3) := by decide +kernel
theorem dX8_open_20 : decode cX8_open 20 = .ok (.aload_n 0, 1) := by decide +kernel
theorem dX8_open_21 : decode cX8_open 21 = .ok (.getfield 92, 3) := by decide +kernel
theorem dX8_open_24 : decode cX8_open 24 = .ok (.ireturn, 1) := by decide +kernel
theorem dX8_camera_0 : decode cX8_camera 0 = .ok (.iload_n 1, 1) := by decide +kernel
theorem dX8_camera_1 : decode cX8_camera 1 = .ok (.invokestatic 85, 3) := by decide +kernel
theorem dX8_camera_4 : decode cX8_camera 4 = .ok (.ifCond .eq 12, 3) := by decide +kernel
theorem dX8_camera_7 : decode cX8_camera 7 = .ok (.iload_n 2, 1) := by decide +kernel
theorem dX8_camera_8 : decode cX8_camera 8 = .ok (.iconst 0, 1) := by decide +kernel
theorem dX8_camera_9 : decode cX8_camera 9 = .ok (.iconst 3, 1) := by decide +kernel
theorem dX8_camera_10 : decode cX8_camera 10 = .ok (.invokestatic 75, 3) := by decide +kernel
theorem dX8_camera_13 : decode cX8_camera 13 = .ok (.ifCond .ne 5, 3) := by decide +kernel
theorem dX8_camera_16 : decode cX8_camera 16 = .ok (.iconst (-1), 1) := by decide +kernel
theorem dX8_camera_17 : decode cX8_camera 17 = .ok (.ireturn, 1) := by decide +kernel
theorem dX8_camera_18 : decode cX8_camera 18 = .ok (.aload_n 0, 1) := by decide +kernel
theorem dX8_camera_19 : decode cX8_camera 19 = .ok (.getfield 79, 3) := by decide +kernel
theorem dX8_camera_22 : decode cX8_camera 22 = .ok (.bipush 10, 2) := by decide +kernel
theorem dX8_camera_24 : decode cX8_camera 24 = .ok (.if_icmp .ne 6, 3) := by decide +kernel
theorem dX8_camera_27 : decode cX8_camera 27 = .ok (.bipush (-2), 2) := by decide +kernel
theorem dX8_camera_29 : decode cX8_camera 29 = .ok (.ireturn, 1) := by decide +kernel
theorem dX8_camera_30 : decode cX8_camera 30 = .ok (.aload_n 0, 1) := by decide +kernel
theorem dX8_camera_31 : decode cX8_camera 31 = .ok (.getfield 28, 3) := by decide +kernel
theorem dX8_camera_34 : decode cX8_camera 34 = .ok (.aload_n 0, 1) := by decide +kernel
theorem dX8_camera_35 : decode cX8_camera 35 = .ok (.getfield 79, 3) := by decide +kernel
theorem dX8_camera_38 : decode cX8_camera 38 = .ok (.iload_n 1, 1) := by decide +kernel
theorem dX8_camera_39 : decode cX8_camera 39 = .ok (.iastore, 1) := by decide +kernel
theorem dX8_camera_40 : decode cX8_camera 40 = .ok (.aload_n 0, 1) := by decide +kernel
theorem dX8_camera_41 : decode cX8_camera 41 = .ok (.getfield 31, 3) := by decide +kernel
theorem dX8_camera_44 : decode cX8_camera 44 = .ok (.aload_n 0, 1) := by decide +kernel
theorem dX8_camera_45 : decode cX8_camera 45 = .ok (.getfield 79, 3) := by decide +kernel
theorem dX8_camera_48 : decode cX8_camera 48 = .ok (.iload_n 2, 1) := by decide +kernel
theorem dX8_camera_49 : decode cX8_camera 49 = .ok (.iastore, 1) := by decide +kernel
theorem dX8_camera_50 : decode cX8_camera 50 = .ok (.aload_n 0, 1) := by decide +kernel
theorem dX8_camera_51 : decode cX8_camera 51 = .ok (.dup, 1) := by decide +kernel
theorem dX8_camera_52 : decode cX8_camera 52 = .ok (.getfield 79, 3) := by decide +kernel
theorem dX8_camera_55 : decode cX8_camera 55 = .ok (.iconst 1, 1) := by decide +kernel
theorem dX8_camera_56 : decode cX8_camera 56 = .ok (.iadd, 1) := by decide +kernel
theorem dX8_camera_57 : decode cX8_camera 57 = .ok (.putfield 79, 3) := by decide +kernel
theorem dX8_camera_60 : decode cX8_camera 60 = .ok (.aload_n 0, 1) := by decide +kernel
theorem dX8_camera_61 : decode cX8_camera 61 = .ok (.getfield 79, 3) := by decide +kernel
theorem dX8_camera_64 : decode cX8_camera 64 = .ok (.iconst 1, 1) := by decide +kernel
theorem dX8_camera_65 : decode cX8_camera 65 = .ok (.isub, 1) := by decide +kernel
theorem dX8_camera_66 : decode cX8_camera 66 = .ok (.ireturn, 1) := by decide +kernel
theorem dX8_board_0 : decode cX8_board 0 = .ok (.iload_n 1, 1) := by decide +kernel
theorem dX8_board_1 : decode cX8_board 1 = .ok (.sipush 1000, 3) := by decide +kernel
theorem dX8_board_4 : decode cX8_board 4 = .ok (.idiv, 1) := by decide +kernel
theorem dX8_board_5 : decode cX8_board 5 = .ok (.istore 5, 2) := by decide +kernel
theorem dX8_board_7 : decode cX8_board 7 = .ok (.iload_n 1, 1) := by decide +kernel
theorem dX8_board_8 : decode cX8_board 8 = .ok (.bipush 100, 2) := by decide +kernel
theorem dX8_board_10 : decode cX8_board 10 = .ok (.idiv, 1) := by decide +kernel
theorem dX8_board_11 : decode cX8_board 11 = .ok (.bipush 10, 2) := by decide +kernel
theorem dX8_board_13 : decode cX8_board 13 = .ok (.irem, 1) := by decide +kernel
theorem dX8_board_14 : decode cX8_board 14 = .ok (.istore 6, 2) := by decide +kernel
theorem dX8_board_16 : decode cX8_board 16 = .ok (.iload_n 1, 1) := by decide +kernel
theorem dX8_board_17 : decode cX8_board 17 = .ok (.bipush 100, 2) := by decide +kernel
theorem dX8_board_19 : decode cX8_board 19 = .ok (.irem, 1) := by decide +kernel
theorem dX8_board_20 : decode cX8_board 20 = .ok (.istore 7, 2) := by decide +kernel
theorem dX8_board_22 : decode cX8_board 22 = .ok (.iload_n 1, 1) := by decide +kernel
theorem dX8_board_23 : decode cX8_board 23 = .ok (.ifCond .lt 59, 3) := by decide +kernel
theorem dX8_board_26 : decode cX8_board 26 = .ok (.iload 5, 2) := by decide +kernel
theorem dX8_board_28 : decode cX8_board 28 = .ok (.iconst 0, 1) := by decide +kernel
theorem dX8_board_29 : decode cX8_board 29 = .ok (.iconst 2, 1) := by decide +kernel
theorem dX8_board_30 : decode cX8_board 30 = .ok (.invokestatic 75, 3) := by decide +kernel
theorem dX8_board_33 : decode cX8_board 33 = .ok (.ifCond .eq 49, 3) := by decide +kernel
theorem dX8_board_36 : decode cX8_board 36 = .ok (.aload_n 0, 1) := by decide +kernel
theorem dX8_board_37 : decode cX8_board 37 = .ok (.iload 6, 2) := by decide +kernel
theorem dX8_board_39 : decode cX8_board 39 = .ok (.invokevirtual 89, 3) := by decide +kernel
theorem dX8_board_42 : decode cX8_board 42 = .ok (.ifCond .eq 40, 3) := by decide +kernel
theorem dX8_board_45 : decode cX8_board 45 = .ok (.iload 7, 2) := by decide +kernel
theorem dX8_board_47 : decode cX8_board 47 = .ok (.iconst 1, 1) := by decide +kernel
theorem dX8_board_48 : decode cX8_board 48 = .ok (.aload_n 0, 1) := by decide +kernel
theorem dX8_board_49 : decode cX8_board 49 = .ok (.getfield 72, 3) := by decide +kernel
theorem dX8_board_52 : decode cX8_board 52 = .ok (.ishl, 1) := by decide +kernel
theorem dX8_board_53 : decode cX8_board 53 = .ok (.if_icmp .ge 29, 3) := by decide +kernel
theorem dX8_board_56 : decode cX8_board 56 = .ok (.iload_n 2, 1) := by decide +kernel
theorem dX8_board_57 : decode cX8_board 57 = .ok (.iconst 1, 1) := by decide +kernel
theorem dX8_board_58 : decode cX8_board 58 = .ok (.bipush 7, 2) := by decide +kernel
theorem dX8_board_60 : decode cX8_board 60 = .ok (.invokestatic 75, 3) := by decide +kernel
theorem dX8_board_63 : decode cX8_board 63 = .ok (.ifCond .eq 19, 3) := by decide +kernel
theorem dX8_board_66 : decode cX8_board 66 = .ok (.iload 4, 2) := by decide +kernel
theorem dX8_board_68 : decode cX8_board 68 = .ok (.iconst 0, 1) := by decide +kernel
theorem dX8_board_69 : decode cX8_board 69 = .ok (.sipush 200, 3) := by decide +kernel
theorem dX8_board_72 : decode cX8_board 72 = .ok (.invokestatic 75, 3) := by decide +kernel
theorem dX8_board_75 : decode cX8_board 75 = .ok (.ifCond .eq 7, 3) := by decide +kernel
theorem dX8_board_78 : decode cX8_board 78 = .ok (.iconst 1, 1) := by decide +kernel
theorem dX8_board_79 : decode cX8_board 79 = .ok (.goto 4, 3) := by decide +kernel
theorem dX8_board_82 : decode cX8_board 82 = .ok (.iconst 0, 1) := by decide +kernel
theorem dX8_board_83 : decode cX8_board 83 = .ok (.istore 8, 2) := by decide +kernel
theorem dX8_board_85 : decode cX8_board 85 = .ok (.iload 8, 2) := by decide +kernel
theorem dX8_board_87 : decode cX8_board 87 = .ok (.ifCond .eq 42, 3) := by decide +kernel
theorem dX8_board_90 : decode cX8_board 90 = .ok (.iload_n 3, 1) := by decide +kernel
theorem dX8_board_91 : decode cX8_board 91 = .ok (.ifCond .lt 38, 3) := by decide +kernel
theorem dX8_board_94 : decode cX8_board 94 = .ok (.iload_n 3, 1) := by decide +kernel
theorem dX8_board_95 : decode cX8_board 95 = .ok (.bipush 100, 2) := by decide +kernel
theorem dX8_board_97 : decode cX8_board 97 = .ok (.idiv, 1) := by decide +kernel
theorem dX8_board_98 : decode cX8_board 98 = .ok (.iload_n 3, 1) := by decide +kernel
theorem dX8_board_99 : decode cX8_board 99 = .ok (.bipush 100, 2) := by decide +kernel
theorem dX8_board_101 : decode cX8_board 101 = .ok (.irem, 1) := by decide +kernel
theorem dX8_board_102 : decode cX8_board 102 = .ok (.if_icmp .gt 27, 3) := by decide +kernel
theorem dX8_board_105 : decode cX8_board 105 = .ok (.iload_n 3, 1) := by decide +kernel
theorem dX8_board_106 : decode cX8_board 106 = .ok (.bipush 100, 2) := by decide +kernel
theorem dX8_board_108 : decode cX8_board 108 = .ok (.idiv, 1) := by decide +kernel
theorem dX8_board_109 : decode cX8_board 109 = .ok (.invokestatic 95, 3) := by decide +kernel
theorem dX8_board_112 : decode cX8_board 112 = .ok (.ifCond .eq 17, 3) := by decide +kernel
theorem dX8_board_115 : decode cX8_board 115 = .ok (.iload_n 3, 1) := by decide +kernel
theorem dX8_board_116 : decode cX8_board 116 = .ok (.bipush 100, 2) := by decide +kernel
theorem dX8_board_118 : decode cX8_board 118 = .ok (.irem, 1) := by decide +kernel
theorem dX8_board_119 : decode cX8_board 119 = .ok (.invokestatic 95, 3) := by decide +kernel
theorem dX8_board_122 : decode cX8_board 122 = .ok (.ifCond .eq 7, 3) := by decide +kernel
theorem dX8_board_125 : decode cX8_board 125 = .ok (.iconst 1, 1) := by decide +kernel
theorem dX8_board_126 : decode cX8_board 126 = .ok (.goto 4, 3) := by decide +kernel
theorem dX8_board_129 : decode cX8_board 129 = .ok (.iconst 0, 1) := by decide +kernel
theorem dX8_board_130 : decode cX8_board 130 = .ok (.istore 8, 2) := by decide +kernel
theorem dX8_board_132 : decode cX8_board 132 = .ok (.iload 8, 2) := by decide +kernel
theorem dX8_board_134 : decode cX8_board 134 = .ok (.ifCond .eq 25, 3) := by decide +kernel
theorem dX8_board_137 : decode cX8_board 137 = .ok (.iload 5, 2) := by decide +kernel
theorem dX8_board_139 : decode cX8_board 139 = .ok (.iconst 1, 1) := by decide +kernel
theorem dX8_board_140 : decode cX8_board 140 = .ok (.if_icmp .ne 15, 3) := by decide +kernel
theorem dX8_board_143 : decode cX8_board 143 = .ok (.iload 7, 2) := by decide +kernel
theorem dX8_board_145 : decode cX8_board 145 = .ok (.iconst 1, 1) := by decide +kernel
theorem dX8_board_146 : decode cX8_board 146 = .ok (.iload 6, 2) := by decide +kernel
theorem dX8_board_148 : decode cX8_board 148 = .ok (.ishl, 1) := by decide +kernel
theorem dX8_board_149 : decode cX8_board 149 = .ok (.iconst (-1), 1) := by decide +kernel
theorem dX8_board_150 : decode cX8_board 150 = .ok (.ixor, 1) := by decide +kernel
theorem dX8_board_151 : decode cX8_board 151 = .ok (.iand, 1) := by decide +kernel
theorem dX8_board_152 : decode cX8_board 152 = .ok (.ifCond .eq 7, 3) := by decide +kernel
theorem dX8_board_155 : decode cX8_board 155 = .ok (.iconst 1, 1) := by decide +kernel
theorem dX8_board_156 : decode cX8_board 156 = .ok (.goto 4, 3) := by decide +kernel
theorem dX8_board_159 : decode cX8_board 159 = .ok (.iconst 0, 1) := by decide +kernel
theorem dX8_board_160 : decode cX8_board 160 = .ok (.istore 8, 2) := by decide +kernel
theorem dX8_board_162 : decode cX8_board 162 = .ok (.iload 8, 2) := by decide +kernel
theorem dX8_board_164 : decode cX8_board 164 = .ok (.ifCond .ne 5, 3) := by decide +kernel
theorem dX8_board_167 : decode cX8_board 167 = .ok (.iconst (-1), 1) := by decide +kernel
theorem dX8_board_168 : decode cX8_board 168 = .ok (.ireturn, 1) := by decide +kernel
theorem dX8_board_169 : decode cX8_board 169 = .ok (.aload_n 0, 1) := by decide +kernel
theorem dX8_board_170 : decode cX8_board 170 = .ok (.getfield 82, 3) := by decide +kernel
theorem dX8_board_173 : decode cX8_board 173 = .ok (.bipush 8, 2) := by decide +kernel
theorem dX8_board_175 : decode cX8_board 175 = .ok (.if_icmp .ne 6, 3) := by decide +kernel
theorem dX8_board_178 : decode cX8_board 178 = .ok (.bipush (-2), 2) := by decide +kernel
theorem dX8_board_180 : decode cX8_board 180 = .ok (.ireturn, 1) := by decide +kernel
theorem dX8_board_181 : decode cX8_board 181 = .ok (.aload_n 0, 1) := by decide +kernel
theorem dX8_board_182 : decode cX8_board 182 = .ok (.getfield 34, 3) := by decide +kernel
theorem dX8_board_185 : decode cX8_board 185 = .ok (.aload_n 0, 1) := by decide +kernel
theorem dX8_board_186 : decode cX8_board 186 = .ok (.getfield 82, 3) := by decide +kernel
theorem dX8_board_189 : decode cX8_board 189 = .ok (.iload 5, 2) := by decide +kernel
theorem dX8_board_191 : decode cX8_board 191 = .ok (.iastore, 1) := by decide +kernel
theorem dX8_board_192 : decode cX8_board 192 = .ok (.aload_n 0, 1) := by decide +kernel
theorem dX8_board_193 : decode cX8_board 193 = .ok (.getfield 37, 3) := by decide +kernel
theorem dX8_board_196 : decode cX8_board 196 = .ok (.aload_n 0, 1) := by decide +kernel
theorem dX8_board_197 : decode cX8_board 197 = .ok (.getfield 82, 3) := by decide +kernel
theorem dX8_board_200 : decode cX8_board 200 = .ok (.iload 6, 2) := by decide +kernel
theorem dX8_board_202 : decode cX8_board 202 = .ok (.iastore, 1) := by decide +kernel
theorem dX8_board_203 : decode cX8_board 203 = .ok (.aload_n 0, 1) := by decide +kernel
theorem dX8_board_204 : decode cX8_board 204 = .ok (.getfield 40, 3) := by decide +kernel
theorem dX8_board_207 : decode cX8_board 207 = .ok (.aload_n 0, 1) := by decide +kernel
theorem dX8_board_208 : decode cX8_board 208 = .ok (.getfield 82, 3) := by decide +kernel
theorem dX8_board_211 : decode cX8_board 211 = .ok (.iload 7, 2) := by decide +kernel
theorem dX8_board_213 : decode cX8_board 213 = .ok (.iconst 1, 1) := by decide +kernel
theorem dX8_board_214 : decode cX8_board 214 = .ok (.iload 6, 2) := by decide +kernel
theorem dX8_board_216 : decode cX8_board 216 = .ok (.ishl, 1) := by decide +kernel
theorem dX8_board_217 : decode cX8_board 217 = .ok (.ior, 1) := by decide +kernel
theorem dX8_board_218 : decode cX8_board 218 = .ok (.iastore, 1) := by decide +kernel
theorem dX8_board_219 : decode cX8_board 219 = .ok (.aload_n 0, 1) := by decide +kernel
theorem dX8_board_220 : decode cX8_board 220 = .ok (.getfield 43, 3) := by decide +kernel
theorem dX8_board_223 : decode cX8_board 223 = .ok (.aload_n 0, 1) := by decide +kernel
theorem dX8_board_224 : decode cX8_board 224 = .ok (.getfield 82, 3) := by decide +kernel
theorem dX8_board_227 : decode cX8_board 227 = .ok (.iload_n 2, 1) := by decide +kernel
theorem dX8_board_228 : decode cX8_board 228 = .ok (.iastore, 1) := by decide +kernel
theorem dX8_board_229 : decode cX8_board 229 = .ok (.aload_n 0, 1) := by decide +kernel
theorem dX8_board_230 : decode cX8_board 230 = .ok (.getfield 46, 3) := by decide +kernel
theorem dX8_board_233 : decode cX8_board 233 = .ok (.aload_n 0, 1) := by decide +kernel
theorem dX8_board_234 : decode cX8_board 234 = .ok (.getfield 82, 3) := by decide +kernel
theorem dX8_board_237 : decode cX8_board 237 = .ok (.iload_n 3, 1) := by decide +kernel
theorem dX8_board_238 : decode cX8_board 238 = .ok (.bipush 100, 2) := by decide +kernel
theorem dX8_board_240 : decode cX8_board 240 = .ok (.idiv, 1) := by decide +kernel
theorem dX8_board_241 : decode cX8_board 241 = .ok (.iastore, 1) := by decide +kernel
theorem dX8_board_242 : decode cX8_board 242 = .ok (.aload_n 0, 1) := by decide +kernel
theorem dX8_board_243 : decode cX8_board 243 = .ok (.getfield 49, 3) := by decide +kernel
theorem dX8_board_246 : decode cX8_board 246 = .ok (.aload_n 0, 1) := by decide +kernel
theorem dX8_board_247 : decode cX8_board 247 = .ok (.getfield 82, 3) := by decide +kernel
theorem dX8_board_250 : decode cX8_board 250 = .ok (.iload_n 3, 1) := by decide +kernel
theorem dX8_board_251 : decode cX8_board 251 = .ok (.bipush 100, 2) := by decide +kernel
theorem dX8_board_253 : decode cX8_board 253 = .ok (.irem, 1) := by decide +kernel
theorem dX8_board_254 : decode cX8_board 254 = .ok (.iastore, 1) := by decide +kernel
theorem dX8_board_255 : decode cX8_board 255 = .ok (.aload_n 0, 1) := by decide +kernel
theorem dX8_board_256 : decode cX8_board 256 = .ok (.getfield 52, 3) := by decide +kernel
theorem dX8_board_259 : decode cX8_board 259 = .ok (.aload_n 0, 1) := by decide +kernel
theorem dX8_board_260 : decode cX8_board 260 = .ok (.getfield 82, 3) := by decide +kernel
theorem dX8_board_263 : decode cX8_board 263 = .ok (.iload 4, 2) := by decide +kernel
theorem dX8_board_265 : decode cX8_board 265 = .ok (.iastore, 1) := by decide +kernel
theorem dX8_board_266 : decode cX8_board 266 = .ok (.aload_n 0, 1) := by decide +kernel
theorem dX8_board_267 : decode cX8_board 267 = .ok (.dup, 1) := by decide +kernel
theorem dX8_board_268 : decode cX8_board 268 = .ok (.getfield 82, 3) := by decide +kernel
theorem dX8_board_271 : decode cX8_board 271 = .ok (.iconst 1, 1) := by decide +kernel
theorem dX8_board_272 : decode cX8_board 272 = .ok (.iadd, 1) := by decide +kernel
theorem dX8_board_273 : decode cX8_board 273 = .ok (.putfield 82, 3) := by decide +kernel
theorem dX8_board_276 : decode cX8_board 276 = .ok (.aload_n 0, 1) := by decide +kernel
theorem dX8_board_277 : decode cX8_board 277 = .ok (.getfield 82, 3) := by decide +kernel
theorem dX8_board_280 : decode cX8_board 280 = .ok (.iconst 1, 1) := by decide +kernel
theorem dX8_board_281 : decode cX8_board 281 = .ok (.isub, 1) := by decide +kernel
theorem dX8_board_282 : decode cX8_board 282 = .ok (.ireturn, 1) := by decide +kernel
theorem dX8_drop_0 : decode cX8_drop 0 = .ok (.aload_n 0, 1) := by decide +kernel
theorem dX8_drop_1 : decode cX8_drop 1 = .ok (.getfield 82, 3) := by decide +kernel
theorem dX8_drop_4 : decode cX8_drop 4 = .ok (.ifCond .ne 6, 3) := by decide +kernel
theorem dX8_drop_7 : decode cX8_drop 7 = .ok (.bipush (-3), 2) := by decide +kernel
theorem dX8_drop_9 : decode cX8_drop 9 = .ok (.ireturn, 1) := by decide +kernel
theorem dX8_drop_10 : decode cX8_drop 10 = .ok (.aload_n 0, 1) := by decide +kernel
theorem dX8_drop_11 : decode cX8_drop 11 = .ok (.dup, 1) := by decide +kernel
theorem dX8_drop_12 : decode cX8_drop 12 = .ok (.getfield 82, 3) := by decide +kernel
theorem dX8_drop_15 : decode cX8_drop 15 = .ok (.iconst 1, 1) := by decide +kernel
theorem dX8_drop_16 : decode cX8_drop 16 = .ok (.isub, 1) := by decide +kernel
theorem dX8_drop_17 : decode cX8_drop 17 = .ok (.putfield 82, 3) := by decide +kernel
theorem dX8_drop_20 : decode cX8_drop 20 = .ok (.aload_n 0, 1) := by decide +kernel
theorem dX8_drop_21 : decode cX8_drop 21 = .ok (.getfield 82, 3) := by decide +kernel
theorem dX8_drop_24 : decode cX8_drop 24 = .ok (.ireturn, 1) := by decide +kernel
theorem dX8_rate_0 : decode cX8_rate 0 = .ok (.iload_n 1, 1) := by decide +kernel
theorem dX8_rate_1 : decode cX8_rate 1 = .ok (.iconst 1, 1) := by decide +kernel
theorem dX8_rate_2 : decode cX8_rate 2 = .ok (.bipush 20, 2) := by decide +kernel
theorem dX8_rate_4 : decode cX8_rate 4 = .ok (.invokestatic 75, 3) := by decide +kernel
theorem dX8_rate_7 : decode cX8_rate 7 = .ok (.ifCond .ne 5, 3) := by decide +kernel
theorem dX8_rate_10 : decode cX8_rate 10 = .ok (.iconst (-1), 1) := by decide +kernel
theorem dX8_rate_11 : decode cX8_rate 11 = .ok (.ireturn, 1) := by decide +kernel
theorem dX8_rate_12 : decode cX8_rate 12 = .ok (.aload_n 0, 1) := by decide +kernel
theorem dX8_rate_13 : decode cX8_rate 13 = .ok (.getfield 55, 3) := by decide +kernel
theorem dX8_rate_16 : decode cX8_rate 16 = .ok (.istore_n 2, 1) := by decide +kernel
theorem dX8_rate_17 : decode cX8_rate 17 = .ok (.aload_n 0, 1) := by decide +kernel
theorem dX8_rate_18 : decode cX8_rate 18 = .ok (.iload_n 1, 1) := by decide +kernel
theorem dX8_rate_19 : decode cX8_rate 19 = .ok (.putfield 55, 3) := by decide +kernel
theorem dX8_rate_22 : decode cX8_rate 22 = .ok (.iload_n 2, 1) := by decide +kernel
theorem dX8_rate_23 : decode cX8_rate 23 = .ok (.ireturn, 1) := by decide +kernel
theorem dX8_placeOf_0 : decode cX8_placeOf 0 = .ok (.iconst 0, 1) := by decide +kernel
theorem dX8_placeOf_1 : decode cX8_placeOf 1 = .ok (.istore_n 3, 1) := by decide +kernel
theorem dX8_placeOf_2 : decode cX8_placeOf 2 = .ok (.aload_n 0, 1) := by decide +kernel
theorem dX8_placeOf_3 : decode cX8_placeOf 3 = .ok (.getfield 7, 3) := by decide +kernel
theorem dX8_placeOf_6 : decode cX8_placeOf 6 = .ok (.iload_n 1, 1) := by decide +kernel
theorem dX8_placeOf_7 : decode cX8_placeOf 7 = .ok (.iaload, 1) := by decide +kernel
theorem dX8_placeOf_8 : decode cX8_placeOf 8 = .ok (.istore 4, 2) := by decide +kernel
theorem dX8_placeOf_10 : decode cX8_placeOf 10 = .ok (.bipush 12, 2) := by decide +kernel
theorem dX8_placeOf_12 : decode cX8_placeOf 12 = .ok (.iload_n 1, 1) := by decide +kernel
theorem dX8_placeOf_13 : decode cX8_placeOf 13 = .ok (.imul, 1) := by decide +kernel
theorem dX8_placeOf_14 : decode cX8_placeOf 14 = .ok (.istore 5, 2) := by decide +kernel
theorem dX8_placeOf_16 : decode cX8_placeOf 16 = .ok (.iload 5, 2) := by decide +kernel
theorem dX8_placeOf_18 : decode cX8_placeOf 18 = .ok (.bipush 12, 2) := by decide +kernel
theorem dX8_placeOf_20 : decode cX8_placeOf 20 = .ok (.iload_n 1, 1) := by decide +kernel
theorem dX8_placeOf_21 : decode cX8_placeOf 21 = .ok (.imul, 1) := by decide +kernel
theorem dX8_placeOf_22 : decode cX8_placeOf 22 = .ok (.aload_n 0, 1) := by decide +kernel
theorem dX8_placeOf_23 : decode cX8_placeOf 23 = .ok (.getfield 13, 3) := by decide +kernel
theorem dX8_placeOf_26 : decode cX8_placeOf 26 = .ok (.iload_n 1, 1) := by decide +kernel
theorem dX8_placeOf_27 : decode cX8_placeOf 27 = .ok (.iaload, 1) := by decide +kernel
theorem dX8_placeOf_28 : decode cX8_placeOf 28 = .ok (.iadd, 1) := by decide +kernel
theorem dX8_placeOf_29 : decode cX8_placeOf 29 = .ok (.if_icmp .ge 48, 3) := by decide +kernel
theorem dX8_placeOf_32 : decode cX8_placeOf 32 = .ok (.aload_n 0, 1) := by decide +kernel
theorem dX8_placeOf_33 : decode cX8_placeOf 33 = .ok (.getfield 16, 3) := by decide +kernel
theorem dX8_placeOf_36 : decode cX8_placeOf 36 = .ok (.iload 5, 2) := by decide +kernel
theorem dX8_placeOf_38 : decode cX8_placeOf 38 = .ok (.iaload, 1) := by decide +kernel
theorem dX8_placeOf_39 : decode cX8_placeOf 39 = .ok (.iload_n 2, 1) := by decide +kernel
theorem dX8_placeOf_40 : decode cX8_placeOf 40 = .ok (.if_icmp .gt 31, 3) := by decide +kernel
theorem dX8_placeOf_43 : decode cX8_placeOf 43 = .ok (.aload_n 0, 1) := by decide +kernel
theorem dX8_placeOf_44 : decode cX8_placeOf 44 = .ok (.getfield 16, 3) := by decide +kernel
theorem dX8_placeOf_47 : decode cX8_placeOf 47 = .ok (.iload 5, 2) := by decide +kernel
theorem dX8_placeOf_49 : decode cX8_placeOf 49 = .ok (.iaload, 1) := by decide +kernel
theorem dX8_placeOf_50 : decode cX8_placeOf 50 = .ok (.iload_n 3, 1) := by decide +kernel
theorem dX8_placeOf_51 : decode cX8_placeOf 51 = .ok (.if_icmp .le 20, 3) := by decide +kernel
theorem dX8_placeOf_54 : decode cX8_placeOf 54 = .ok (.aload_n 0, 1) := by decide +kernel
theorem dX8_placeOf_55 : decode cX8_placeOf 55 = .ok (.getfield 16, 3) := by decide +kernel
theorem dX8_placeOf_58 : decode cX8_placeOf 58 = .ok (.iload 5, 2) := by decide +kernel
theorem dX8_placeOf_60 : decode cX8_placeOf 60 = .ok (.iaload, 1) := by decide +kernel
theorem dX8_placeOf_61 : decode cX8_placeOf 61 = .ok (.istore_n 3, 1) := by decide +kernel
theorem dX8_placeOf_62 : decode cX8_placeOf 62 = .ok (.aload_n 0, 1) := by decide +kernel
theorem dX8_placeOf_63 : decode cX8_placeOf 63 = .ok (.getfield 19, 3) := by decide +kernel
theorem dX8_placeOf_66 : decode cX8_placeOf 66 = .ok (.iload 5, 2) := by decide +kernel
theorem dX8_placeOf_68 : decode cX8_placeOf 68 = .ok (.iaload, 1) := by decide +kernel
theorem dX8_placeOf_69 : decode cX8_placeOf 69 = .ok (.istore 4, 2) := by decide +kernel
theorem dX8_placeOf_71 : decode cX8_placeOf 71 = .ok (.iinc 5 1, 3) := by decide +kernel
theorem dX8_placeOf_74 : decode cX8_placeOf 74 = .ok (.goto (-58), 3) := by decide +kernel
theorem dX8_placeOf_77 : decode cX8_placeOf 77 = .ok (.iload 4, 2) := by decide +kernel
theorem dX8_placeOf_79 : decode cX8_placeOf 79 = .ok (.ireturn, 1) := by decide +kernel
theorem dX8_where_0 : decode cX8_where 0 = .ok (.aload_n 0, 1) := by decide +kernel
theorem dX8_where_1 : decode cX8_where 1 = .ok (.iload_n 1, 1) := by decide +kernel
theorem dX8_where_2 : decode cX8_where 2 = .ok (.invokevirtual 89, 3) := by decide +kernel
theorem dX8_where_5 : decode cX8_where 5 = .ok (.ifCond .eq 19, 3) := by decide +kernel
theorem dX8_where_8 : decode cX8_where 8 = .ok (.iload_n 2, 1) := by decide +kernel
theorem dX8_where_9 : decode cX8_where 9 = .ok (.invokestatic 95, 3) := by decide +kernel
theorem dX8_where_12 : decode cX8_where 12 = .ok (.ifCond .eq 12, 3) := by decide +kernel
theorem dX8_where_15 : decode cX8_where 15 = .ok (.aload_n 0, 1) := by decide +kernel
theorem dX8_where_16 : decode cX8_where 16 = .ok (.iload_n 1, 1) := by decide +kernel
theorem dX8_where_17 : decode cX8_where 17 = .ok (.iload_n 2, 1) := by decide +kernel
theorem dX8_where_18 : decode cX8_where 18 = .ok (.invokevirtual 98, 3) := by decide +kernel
theorem dX8_where_21 : decode cX8_where 21 = .ok (.goto 4, 3) := by decide +kernel
theorem dX8_where_24 : decode cX8_where 24 = .ok (.iconst (-1), 1) := by decide +kernel
theorem dX8_where_25 : decode cX8_where 25 = .ok (.ireturn, 1) := by decide +kernel
theorem dX8_x_0 : decode cX8_x 0 = .ok (.iload_n 0, 1) := by decide +kernel
theorem dX8_x_1 : decode cX8_x 1 = .ok (.bipush 100, 2) := by decide +kernel
theorem dX8_x_3 : decode cX8_x 3 = .ok (.idiv, 1) := by decide +kernel
theorem dX8_x_4 : decode cX8_x 4 = .ok (.ireturn, 1) := by decide +kernel
theorem dX8_y_0 : decode cX8_y 0 = .ok (.iload_n 0, 1) := by decide +kernel
theorem dX8_y_1 : decode cX8_y 1 = .ok (.bipush 100, 2) := by decide +kernel
theorem dX8_y_3 : decode cX8_y 3 = .ok (.irem, 1) := by decide +kernel
theorem dX8_y_4 : decode cX8_y 4 = .ok (.ireturn, 1) := by decide +kernel
theorem dX8_turn_0 : decode cX8_turn 0 = .ok (.iload_n 1, 1) := by decide +kernel
theorem dX8_turn_1 : decode cX8_turn 1 = .ok (.invokestatic 102, 3) := by decide +kernel
theorem dX8_turn_4 : decode cX8_turn 4 = .ok (.iload_n 0, 1) := by decide +kernel
theorem dX8_turn_5 : decode cX8_turn 5 = .ok (.invokestatic 102, 3) := by decide +kernel
theorem dX8_turn_8 : decode cX8_turn 8 = .ok (.isub, 1) := by decide +kernel
theorem dX8_turn_9 : decode cX8_turn 9 = .ok (.iload_n 2, 1) := by decide +kernel
theorem dX8_turn_10 : decode cX8_turn 10 = .ok (.invokestatic 106, 3) := by decide +kernel
theorem dX8_turn_13 : decode cX8_turn 13 = .ok (.iload_n 0, 1) := by decide +kernel
theorem dX8_turn_14 : decode cX8_turn 14 = .ok (.invokestatic 106, 3) := by decide +kernel
theorem dX8_turn_17 : decode cX8_turn 17 = .ok (.isub, 1) := by decide +kernel
theorem dX8_turn_18 : decode cX8_turn 18 = .ok (.imul, 1) := by decide +kernel
theorem dX8_turn_19 : decode cX8_turn 19 = .ok (.iload_n 1, 1) := by decide +kernel
theorem dX8_turn_20 : decode cX8_turn 20 = .ok (.invokestatic 106, 3) := by decide +kernel
theorem dX8_turn_23 : decode cX8_turn 23 = .ok (.iload_n 0, 1) := by decide +kernel
theorem dX8_turn_24 : decode cX8_turn 24 = .ok (.invokestatic 106, 3) := by decide +kernel
theorem dX8_turn_27 : decode cX8_turn 27 = .ok (.isub, 1) := by decide +kernel
theorem dX8_turn_28 : decode cX8_turn 28 = .ok (.iload_n 2, 1) := by decide +kernel
theorem dX8_turn_29 : decode cX8_turn 29 = .ok (.invokestatic 102, 3) := by decide +kernel
theorem dX8_turn_32 : decode cX8_turn 32 = .ok (.iload_n 0, 1) := by decide +kernel
theorem dX8_turn_33 : decode cX8_turn 33 = .ok (.invokestatic 102, 3) := by decide +kernel
theorem dX8_turn_36 : decode cX8_turn 36 = .ok (.isub, 1) := by decide +kernel
theorem dX8_turn_37 : decode cX8_turn 37 = .ok (.imul, 1) := by decide +kernel
theorem dX8_turn_38 : decode cX8_turn 38 = .ok (.isub, 1) := by decide +kernel
theorem dX8_turn_39 : decode cX8_turn 39 = .ok (.istore_n 3, 1) := by decide +kernel
theorem dX8_turn_40 : decode cX8_turn 40 = .ok (.iload_n 3, 1) := by decide +kernel
theorem dX8_turn_41 : decode cX8_turn 41 = .ok (.ifCond .le 7, 3) := by decide +kernel
theorem dX8_turn_44 : decode cX8_turn 44 = .ok (.iconst 1, 1) := by decide +kernel
theorem dX8_turn_45 : decode cX8_turn 45 = .ok (.goto 12, 3) := by decide +kernel
theorem dX8_turn_48 : decode cX8_turn 48 = .ok (.iload_n 3, 1) := by decide +kernel
theorem dX8_turn_49 : decode cX8_turn 49 = .ok (.ifCond .ge 7, 3) := by decide +kernel
theorem dX8_turn_52 : decode cX8_turn 52 = .ok (.iconst (-1), 1) := by decide +kernel
theorem dX8_turn_53 : decode cX8_turn 53 = .ok (.goto 4, 3) := by decide +kernel
theorem dX8_turn_56 : decode cX8_turn 56 = .ok (.iconst 0, 1) := by decide +kernel
theorem dX8_turn_57 : decode cX8_turn 57 = .ok (.ireturn, 1) := by decide +kernel
theorem dX8_isBetween_0 : decode cX8_isBetween 0 = .ok (.iload_n 1, 1) := by decide +kernel
theorem dX8_isBetween_1 : decode cX8_isBetween 1 = .ok (.iload_n 2, 1) := by decide +kernel
theorem dX8_isBetween_2 : decode cX8_isBetween 2 = .ok (.if_icmp .ge 12, 3) := by decide +kernel
theorem dX8_isBetween_5 : decode cX8_isBetween 5 = .ok (.iload_n 0, 1) := by decide +kernel
theorem dX8_isBetween_6 : decode cX8_isBetween 6 = .ok (.iload_n 1, 1) := by decide +kernel
theorem dX8_isBetween_7 : decode cX8_isBetween 7 = .ok (.iload_n 2, 1) := by decide +kernel
theorem dX8_isBetween_8 : decode cX8_isBetween 8 = .ok (.invokestatic 75, 3) := by decide +kernel
theorem dX8_isBetween_11 : decode cX8_isBetween 11 = .ok (.goto 9, 3) := by decide +kernel
theorem dX8_isBetween_14 : decode cX8_isBetween 14 = .ok (.iload_n 0, 1) := by decide +kernel
theorem dX8_isBetween_15 : decode cX8_isBetween 15 = .ok (.iload_n 2, 1) := by decide +kernel
theorem dX8_isBetween_16 : decode cX8_isBetween 16 = .ok (.iload_n 1, 1) := by decide +kernel
theorem dX8_isBetween_17 : decode cX8_isBetween 17 = .ok (.invokestatic 75, 3) := by decide +kernel
theorem dX8_isBetween_20 : decode cX8_isBetween 20 = .ok (.ireturn, 1) := by decide +kernel
theorem dX8_isOn_0 : decode cX8_isOn 0 = .ok (.iload_n 1, 1) := by decide +kernel
theorem dX8_isOn_1 : decode cX8_isOn 1 = .ok (.iload_n 2, 1) := by decide +kernel
theorem dX8_isOn_2 : decode cX8_isOn 2 = .ok (.iload_n 0, 1) := by decide +kernel
theorem dX8_isOn_3 : decode cX8_isOn 3 = .ok (.invokestatic 109, 3) := by decide +kernel
theorem dX8_isOn_6 : decode cX8_isOn 6 = .ok (.ifCond .ne 43, 3) := by decide +kernel
theorem dX8_isOn_9 : decode cX8_isOn 9 = .ok (.iload_n 0, 1) := by decide +kernel
theorem dX8_isOn_10 : decode cX8_isOn 10 = .ok (.invokestatic 102, 3) := by decide +kernel
theorem dX8_isOn_13 : decode cX8_isOn 13 = .ok (.iload_n 1, 1) := by decide +kernel
theorem dX8_isOn_14 : decode cX8_isOn 14 = .ok (.invokestatic 102, 3) := by decide +kernel
theorem dX8_isOn_17 : decode cX8_isOn 17 = .ok (.iload_n 2, 1) := by decide +kernel
theorem dX8_isOn_18 : decode cX8_isOn 18 = .ok (.invokestatic 102, 3) := by decide +kernel
theorem dX8_isOn_21 : decode cX8_isOn 21 = .ok (.invokestatic 113, 3) := by decide +kernel
theorem dX8_isOn_24 : decode cX8_isOn 24 = .ok (.ifCond .eq 25, 3) := by decide +kernel
theorem dX8_isOn_27 : decode cX8_isOn 27 = .ok (.iload_n 0, 1) := by decide +kernel
theorem dX8_isOn_28 : decode cX8_isOn 28 = .ok (.invokestatic 106, 3) := by decide +kernel
theorem dX8_isOn_31 : decode cX8_isOn 31 = .ok (.iload_n 1, 1) := by decide +kernel
theorem dX8_isOn_32 : decode cX8_isOn 32 = .ok (.invokestatic 106, 3) := by decide +kernel
theorem dX8_isOn_35 : decode cX8_isOn 35 = .ok (.iload_n 2, 1) := by decide +kernel
theorem dX8_isOn_36 : decode cX8_isOn 36 = .ok (.invokestatic 106, 3) := by decide +kernel
theorem dX8_isOn_39 : decode cX8_isOn 39 = .ok (.invokestatic 113, 3) := by decide +kernel
theorem dX8_isOn_42 : decode cX8_isOn 42 = .ok (.ifCond .eq 7, 3) := by decide +kernel
theorem dX8_isOn_45 : decode cX8_isOn 45 = .ok (.iconst 1, 1) := by decide +kernel
theorem dX8_isOn_46 : decode cX8_isOn 46 = .ok (.goto 4, 3) := by decide +kernel
theorem dX8_isOn_49 : decode cX8_isOn 49 = .ok (.iconst 0, 1) := by decide +kernel
theorem dX8_isOn_50 : decode cX8_isOn 50 = .ok (.ireturn, 1) := by decide +kernel
theorem dX8_meet_0 : decode cX8_meet 0 = .ok (.iload_n 0, 1) := by decide +kernel
theorem dX8_meet_1 : decode cX8_meet 1 = .ok (.iload_n 1, 1) := by decide +kernel
theorem dX8_meet_2 : decode cX8_meet 2 = .ok (.iload_n 2, 1) := by decide +kernel
theorem dX8_meet_3 : decode cX8_meet 3 = .ok (.invokestatic 109, 3) := by decide +kernel
theorem dX8_meet_6 : decode cX8_meet 6 = .ok (.iload_n 0, 1) := by decide +kernel
theorem dX8_meet_7 : decode cX8_meet 7 = .ok (.iload_n 1, 1) := by decide +kernel
theorem dX8_meet_8 : decode cX8_meet 8 = .ok (.iload_n 3, 1) := by decide +kernel
theorem dX8_meet_9 : decode cX8_meet 9 = .ok (.invokestatic 109, 3) := by decide +kernel
theorem dX8_meet_12 : decode cX8_meet 12 = .ok (.imul, 1) := by decide +kernel
theorem dX8_meet_13 : decode cX8_meet 13 = .ok (.ifCond .ge 23, 3) := by decide +kernel
theorem dX8_meet_16 : decode cX8_meet 16 = .ok (.iload_n 2, 1) := by decide +kernel
theorem dX8_meet_17 : decode cX8_meet 17 = .ok (.iload_n 3, 1) := by decide +kernel
theorem dX8_meet_18 : decode cX8_meet 18 = .ok (.iload_n 0, 1) := by decide +kernel
theorem dX8_meet_19 : decode cX8_meet 19 = .ok (.invokestatic 109, 3) := by decide +kernel
theorem dX8_meet_22 : decode cX8_meet 22 = .ok (.iload_n 2, 1) := by decide +kernel
theorem dX8_meet_23 : decode cX8_meet 23 = .ok (.iload_n 3, 1) := by decide +kernel
theorem dX8_meet_24 : decode cX8_meet 24 = .ok (.iload_n 1, 1) := by decide +kernel
theorem dX8_meet_25 : decode cX8_meet 25 = .ok (.invokestatic 109, 3) := by decide +kernel
theorem dX8_meet_28 : decode cX8_meet 28 = .ok (.imul, 1) := by decide +kernel
theorem dX8_meet_29 : decode cX8_meet 29 = .ok (.ifCond .ge 7, 3) := by decide +kernel
theorem dX8_meet_32 : decode cX8_meet 32 = .ok (.iconst 1, 1) := by decide +kernel
theorem dX8_meet_33 : decode cX8_meet 33 = .ok (.goto 4, 3) := by decide +kernel
theorem dX8_meet_36 : decode cX8_meet 36 = .ok (.iconst 0, 1) := by decide +kernel
theorem dX8_meet_37 : decode cX8_meet 37 = .ok (.istore 4, 2) := by decide +kernel
theorem dX8_meet_39 : decode cX8_meet 39 = .ok (.iload 4, 2) := by decide +kernel
theorem dX8_meet_41 : decode cX8_meet 41 = .ok (.ifCond .ne 39, 3) := by decide +kernel
theorem dX8_meet_44 : decode cX8_meet 44 = .ok (.iload_n 2, 1) := by decide +kernel
theorem dX8_meet_45 : decode cX8_meet 45 = .ok (.iload_n 0, 1) := by decide +kernel
theorem dX8_meet_46 : decode cX8_meet 46 = .ok (.iload_n 1, 1) := by decide +kernel
theorem dX8_meet_47 : decode cX8_meet 47 = .ok (.invokestatic 116, 3) := by decide +kernel
theorem dX8_meet_50 : decode cX8_meet 50 = .ok (.ifCond .ne 30, 3) := by decide +kernel
theorem dX8_meet_53 : decode cX8_meet 53 = .ok (.iload_n 3, 1) := by decide +kernel
theorem dX8_meet_54 : decode cX8_meet 54 = .ok (.iload_n 0, 1) := by decide +kernel
theorem dX8_meet_55 : decode cX8_meet 55 = .ok (.iload_n 1, 1) := by decide +kernel
theorem dX8_meet_56 : decode cX8_meet 56 = .ok (.invokestatic 116, 3) := by decide +kernel
theorem dX8_meet_59 : decode cX8_meet 59 = .ok (.ifCond .ne 21, 3) := by decide +kernel
theorem dX8_meet_62 : decode cX8_meet 62 = .ok (.iload_n 0, 1) := by decide +kernel
theorem dX8_meet_63 : decode cX8_meet 63 = .ok (.iload_n 2, 1) := by decide +kernel
theorem dX8_meet_64 : decode cX8_meet 64 = .ok (.iload_n 3, 1) := by decide +kernel
theorem dX8_meet_65 : decode cX8_meet 65 = .ok (.invokestatic 116, 3) := by decide +kernel
theorem dX8_meet_68 : decode cX8_meet 68 = .ok (.ifCond .ne 12, 3) := by decide +kernel
theorem dX8_meet_71 : decode cX8_meet 71 = .ok (.iload_n 1, 1) := by decide +kernel
theorem dX8_meet_72 : decode cX8_meet 72 = .ok (.iload_n 2, 1) := by decide +kernel
theorem dX8_meet_73 : decode cX8_meet 73 = .ok (.iload_n 3, 1) := by decide +kernel
theorem dX8_meet_74 : decode cX8_meet 74 = .ok (.invokestatic 116, 3) := by decide +kernel
theorem dX8_meet_77 : decode cX8_meet 77 = .ok (.ifCond .eq 7, 3) := by decide +kernel
theorem dX8_meet_80 : decode cX8_meet 80 = .ok (.iconst 1, 1) := by decide +kernel
theorem dX8_meet_81 : decode cX8_meet 81 = .ok (.goto 4, 3) := by decide +kernel
theorem dX8_meet_84 : decode cX8_meet 84 = .ok (.iconst 0, 1) := by decide +kernel
theorem dX8_meet_85 : decode cX8_meet 85 = .ok (.ireturn, 1) := by decide +kernel
theorem dX8_isHidden_0 : decode cX8_isHidden 0 = .ok (.aload_n 0, 1) := by decide +kernel
theorem dX8_isHidden_1 : decode cX8_isHidden 1 = .ok (.iload_n 1, 1) := by decide +kernel
theorem dX8_isHidden_2 : decode cX8_isHidden 2 = .ok (.iload_n 2, 1) := by decide +kernel
theorem dX8_isHidden_3 : decode cX8_isHidden 3 = .ok (.invokevirtual 98, 3) := by decide +kernel
theorem dX8_isHidden_6 : decode cX8_isHidden 6 = .ok (.istore 4, 2) := by decide +kernel
theorem dX8_isHidden_8 : decode cX8_isHidden 8 = .ok (.iload 4, 2) := by decide +kernel
theorem dX8_isHidden_10 : decode cX8_isHidden 10 = .ok (.iload_n 3, 1) := by decide +kernel
theorem dX8_isHidden_11 : decode cX8_isHidden 11 = .ok (.if_icmp .ne 5, 3) := by decide +kernel
theorem dX8_isHidden_14 : decode cX8_isHidden 14 = .ok (.iconst 1, 1) := by decide +kernel
theorem dX8_isHidden_15 : decode cX8_isHidden 15 = .ok (.ireturn, 1) := by decide +kernel
theorem dX8_isHidden_16 : decode cX8_isHidden 16 = .ok (.iconst 0, 1) := by decide +kernel
theorem dX8_isHidden_17 : decode cX8_isHidden 17 = .ok (.istore 5, 2) := by decide +kernel
theorem dX8_isHidden_19 : decode cX8_isHidden 19 = .ok (.iload 5, 2) := by decide +kernel
theorem dX8_isHidden_21 : decode cX8_isHidden 21 = .ok (.aload_n 0, 1) := by decide +kernel
theorem dX8_isHidden_22 : decode cX8_isHidden 22 = .ok (.getfield 92, 3) := by decide +kernel
theorem dX8_isHidden_25 : decode cX8_isHidden 25 = .ok (.if_icmp .ge 34, 3) := by decide +kernel
theorem dX8_isHidden_28 : decode cX8_isHidden 28 = .ok (.iload_n 3, 1) := by decide +kernel
theorem dX8_isHidden_29 : decode cX8_isHidden 29 = .ok (.iload 4, 2) := by decide +kernel
theorem dX8_isHidden_31 : decode cX8_isHidden 31 = .ok (.aload_n 0, 1) := by decide +kernel
theorem dX8_isHidden_32 : decode cX8_isHidden 32 = .ok (.getfield 22, 3) := by decide +kernel
theorem dX8_isHidden_35 : decode cX8_isHidden 35 = .ok (.iload 5, 2) := by decide +kernel
theorem dX8_isHidden_37 : decode cX8_isHidden 37 = .ok (.iaload, 1) := by decide +kernel
theorem dX8_isHidden_38 : decode cX8_isHidden 38 = .ok (.aload_n 0, 1) := by decide +kernel
theorem dX8_isHidden_39 : decode cX8_isHidden 39 = .ok (.getfield 25, 3) := by decide +kernel
theorem dX8_isHidden_42 : decode cX8_isHidden 42 = .ok (.iload 5, 2) := by decide +kernel
theorem dX8_isHidden_44 : decode cX8_isHidden 44 = .ok (.iaload, 1) := by decide +kernel
theorem dX8_isHidden_45 : decode cX8_isHidden 45 = .ok (.invokestatic 119, 3) := by decide +kernel
theorem dX8_isHidden_48 : decode cX8_isHidden 48 = .ok (.ifCond .eq 5, 3) := by decide +kernel
theorem dX8_isHidden_51 : decode cX8_isHidden 51 = .ok (.iconst 1, 1) := by decide +kernel
theorem dX8_isHidden_52 : decode cX8_isHidden 52 = .ok (.ireturn, 1) := by decide +kernel
theorem dX8_isHidden_53 : decode cX8_isHidden 53 = .ok (.iinc 5 1, 3) := by decide +kernel
theorem dX8_isHidden_56 : decode cX8_isHidden 56 = .ok (.goto (-37), 3) := by decide +kernel
theorem dX8_isHidden_59 : decode cX8_isHidden 59 = .ok (.iconst 0, 1) := by decide +kernel
theorem dX8_isHidden_60 : decode cX8_isHidden 60 = .ok (.istore 5, 2) := by decide +kernel
theorem dX8_isHidden_62 : decode cX8_isHidden 62 = .ok (.iload 5, 2) := by decide +kernel
theorem dX8_isHidden_64 : decode cX8_isHidden 64 = .ok (.aload_n 0, 1) := by decide +kernel
theorem dX8_isHidden_65 : decode cX8_isHidden 65 = .ok (.getfield 72, 3) := by decide +kernel
theorem dX8_isHidden_68 : decode cX8_isHidden 68 = .ok (.if_icmp .ge 50, 3) := by decide +kernel
theorem dX8_isHidden_71 : decode cX8_isHidden 71 = .ok (.aload_n 0, 1) := by decide +kernel
theorem dX8_isHidden_72 : decode cX8_isHidden 72 = .ok (.iload 5, 2) := by decide +kernel
theorem dX8_isHidden_74 : decode cX8_isHidden 74 = .ok (.iload_n 2, 1) := by decide +kernel
theorem dX8_isHidden_75 : decode cX8_isHidden 75 = .ok (.invokevirtual 98, 3) := by decide +kernel
theorem dX8_isHidden_78 : decode cX8_isHidden 78 = .ok (.istore 6, 2) := by decide +kernel
theorem dX8_isHidden_80 : decode cX8_isHidden 80 = .ok (.iload 5, 2) := by decide +kernel
theorem dX8_isHidden_82 : decode cX8_isHidden 82 = .ok (.iload_n 1, 1) := by decide +kernel
theorem dX8_isHidden_83 : decode cX8_isHidden 83 = .ok (.if_icmp .eq 29, 3) := by decide +kernel
theorem dX8_isHidden_86 : decode cX8_isHidden 86 = .ok (.iload 6, 2) := by decide +kernel
theorem dX8_isHidden_88 : decode cX8_isHidden 88 = .ok (.iload_n 3, 1) := by decide +kernel
theorem dX8_isHidden_89 : decode cX8_isHidden 89 = .ok (.if_icmp .eq 23, 3) := by decide +kernel
theorem dX8_isHidden_92 : decode cX8_isHidden 92 = .ok (.iload 6, 2) := by decide +kernel
theorem dX8_isHidden_94 : decode cX8_isHidden 94 = .ok (.iload 4, 2) := by decide +kernel
theorem dX8_isHidden_96 : decode cX8_isHidden 96 = .ok (.if_icmp .eq 16, 3) := by decide +kernel
theorem dX8_isHidden_99 : decode cX8_isHidden 99 = .ok (.iload 6, 2) := by decide +kernel
theorem dX8_isHidden_101 : decode cX8_isHidden 101 = .ok (.iload_n 3, 1) := by decide +kernel
theorem dX8_isHidden_102 : decode cX8_isHidden 102 = .ok (.iload 4, 2) := by decide +kernel
theorem dX8_isHidden_104 : decode cX8_isHidden 104 = .ok (.invokestatic 116, 3) := by decide +kernel
theorem dX8_isHidden_107 : decode cX8_isHidden 107 = .ok (.ifCond .eq 5, 3) := by decide +kernel
theorem dX8_isHidden_110 : decode cX8_isHidden 110 = .ok (.iconst 1, 1) := by decide +kernel
theorem dX8_isHidden_111 : decode cX8_isHidden 111 = .ok (.ireturn, 1) := by decide +kernel
theorem dX8_isHidden_112 : decode cX8_isHidden 112 = .ok (.iinc 5 1, 3) := by decide +kernel
theorem dX8_isHidden_115 : decode cX8_isHidden 115 = .ok (.goto (-53), 3) := by decide +kernel
theorem dX8_isHidden_118 : decode cX8_isHidden 118 = .ok (.iconst 0, 1) := by decide +kernel
theorem dX8_isHidden_119 : decode cX8_isHidden 119 = .ok (.ireturn, 1) := by decide +kernel
theorem dX8_hidden_0 : decode cX8_hidden 0 = .ok (.aload_n 0, 1) := by decide +kernel
theorem dX8_hidden_1 : decode cX8_hidden 1 = .ok (.iload_n 1, 1) := by decide +kernel
theorem dX8_hidden_2 : decode cX8_hidden 2 = .ok (.invokevirtual 89, 3) := by decide +kernel
theorem dX8_hidden_5 : decode cX8_hidden 5 = .ok (.ifCond .eq 17, 3) := by decide +kernel
theorem dX8_hidden_8 : decode cX8_hidden 8 = .ok (.iload_n 2, 1) := by decide +kernel
theorem dX8_hidden_9 : decode cX8_hidden 9 = .ok (.invokestatic 95, 3) := by decide +kernel
theorem dX8_hidden_12 : decode cX8_hidden 12 = .ok (.ifCond .eq 10, 3) := by decide +kernel
theorem dX8_hidden_15 : decode cX8_hidden 15 = .ok (.iload_n 3, 1) := by decide +kernel
theorem dX8_hidden_16 : decode cX8_hidden 16 = .ok (.invokestatic 85, 3) := by decide +kernel
theorem dX8_hidden_19 : decode cX8_hidden 19 = .ok (.ifCond .ne 5, 3) := by decide +kernel
theorem dX8_hidden_22 : decode cX8_hidden 22 = .ok (.iconst (-1), 1) := by decide +kernel
theorem dX8_hidden_23 : decode cX8_hidden 23 = .ok (.ireturn, 1) := by decide +kernel
theorem dX8_hidden_24 : decode cX8_hidden 24 = .ok (.aload_n 0, 1) := by decide +kernel
theorem dX8_hidden_25 : decode cX8_hidden 25 = .ok (.iload_n 1, 1) := by decide +kernel
theorem dX8_hidden_26 : decode cX8_hidden 26 = .ok (.iload_n 2, 1) := by decide +kernel
theorem dX8_hidden_27 : decode cX8_hidden 27 = .ok (.iload_n 3, 1) := by decide +kernel
theorem dX8_hidden_28 : decode cX8_hidden 28 = .ok (.invokevirtual 123, 3) := by decide +kernel
theorem dX8_hidden_31 : decode cX8_hidden 31 = .ok (.ifCond .eq 7, 3) := by decide +kernel
theorem dX8_hidden_34 : decode cX8_hidden 34 = .ok (.iconst 1, 1) := by decide +kernel
theorem dX8_hidden_35 : decode cX8_hidden 35 = .ok (.goto 4, 3) := by decide +kernel
theorem dX8_hidden_38 : decode cX8_hidden 38 = .ok (.iconst 0, 1) := by decide +kernel
theorem dX8_hidden_39 : decode cX8_hidden 39 = .ok (.ireturn, 1) := by decide +kernel
theorem dX8_isBefore_0 : decode cX8_isBefore 0 = .ok (.aload_n 0, 1) := by decide +kernel
theorem dX8_isBefore_1 : decode cX8_isBefore 1 = .ok (.iload_n 2, 1) := by decide +kernel
theorem dX8_isBefore_2 : decode cX8_isBefore 2 = .ok (.iload 4, 2) := by decide +kernel
theorem dX8_isBefore_4 : decode cX8_isBefore 4 = .ok (.invokevirtual 98, 3) := by decide +kernel
theorem dX8_isBefore_7 : decode cX8_isBefore 7 = .ok (.istore 5, 2) := by decide +kernel
theorem dX8_isBefore_9 : decode cX8_isBefore 9 = .ok (.aload_n 0, 1) := by decide +kernel
theorem dX8_isBefore_10 : decode cX8_isBefore 10 = .ok (.iload_n 3, 1) := by decide +kernel
theorem dX8_isBefore_11 : decode cX8_isBefore 11 = .ok (.iload 4, 2) := by decide +kernel
theorem dX8_isBefore_13 : decode cX8_isBefore 13 = .ok (.invokevirtual 98, 3) := by decide +kernel
theorem dX8_isBefore_16 : decode cX8_isBefore 16 = .ok (.istore 6, 2) := by decide +kernel
theorem dX8_isBefore_18 : decode cX8_isBefore 18 = .ok (.iload 5, 2) := by decide +kernel
theorem dX8_isBefore_20 : decode cX8_isBefore 20 = .ok (.invokestatic 102, 3) := by decide +kernel
theorem dX8_isBefore_23 : decode cX8_isBefore 23 = .ok (.aload_n 0, 1) := by decide +kernel
theorem dX8_isBefore_24 : decode cX8_isBefore 24 = .ok (.getfield 28, 3) := by decide +kernel
theorem dX8_isBefore_27 : decode cX8_isBefore 27 = .ok (.iload_n 1, 1) := by decide +kernel
theorem dX8_isBefore_28 : decode cX8_isBefore 28 = .ok (.iaload, 1) := by decide +kernel
theorem dX8_isBefore_29 : decode cX8_isBefore 29 = .ok (.invokestatic 102, 3) := by decide +kernel
theorem dX8_isBefore_32 : decode cX8_isBefore 32 = .ok (.isub, 1) := by decide +kernel
theorem dX8_isBefore_33 : decode cX8_isBefore 33 = .ok (.istore 7, 2) := by decide +kernel
theorem dX8_isBefore_35 : decode cX8_isBefore 35 = .ok (.iload 5, 2) := by decide +kernel
theorem dX8_isBefore_37 : decode cX8_isBefore 37 = .ok (.invokestatic 106, 3) := by decide +kernel
theorem dX8_isBefore_40 : decode cX8_isBefore 40 = .ok (.aload_n 0, 1) := by decide +kernel
theorem dX8_isBefore_41 : decode cX8_isBefore 41 = .ok (.getfield 28, 3) := by decide +kernel
theorem dX8_isBefore_44 : decode cX8_isBefore 44 = .ok (.iload_n 1, 1) := by decide +kernel
theorem dX8_isBefore_45 : decode cX8_isBefore 45 = .ok (.iaload, 1) := by decide +kernel
theorem dX8_isBefore_46 : decode cX8_isBefore 46 = .ok (.invokestatic 106, 3) := by decide +kernel
theorem dX8_isBefore_49 : decode cX8_isBefore 49 = .ok (.isub, 1) := by decide +kernel
theorem dX8_isBefore_50 : decode cX8_isBefore 50 = .ok (.istore 8, 2) := by decide +kernel
theorem dX8_isBefore_52 : decode cX8_isBefore 52 = .ok (.iload 6, 2) := by decide +kernel
theorem dX8_isBefore_54 : decode cX8_isBefore 54 = .ok (.invokestatic 102, 3) := by decide +kernel
theorem dX8_isBefore_57 : decode cX8_isBefore 57 = .ok (.aload_n 0, 1) := by decide +kernel
theorem dX8_isBefore_58 : decode cX8_isBefore 58 = .ok (.getfield 28, 3) := by decide +kernel
theorem dX8_isBefore_61 : decode cX8_isBefore 61 = .ok (.iload_n 1, 1) := by decide +kernel
theorem dX8_isBefore_62 : decode cX8_isBefore 62 = .ok (.iaload, 1) := by decide +kernel
theorem dX8_isBefore_63 : decode cX8_isBefore 63 = .ok (.invokestatic 102, 3) := by decide +kernel
theorem dX8_isBefore_66 : decode cX8_isBefore 66 = .ok (.isub, 1) := by decide +kernel
theorem dX8_isBefore_67 : decode cX8_isBefore 67 = .ok (.istore 9, 2) := by decide +kernel
theorem dX8_isBefore_69 : decode cX8_isBefore 69 = .ok (.iload 6, 2) := by decide +kernel
theorem dX8_isBefore_71 : decode cX8_isBefore 71 = .ok (.invokestatic 106, 3) := by decide +kernel
theorem dX8_isBefore_74 : decode cX8_isBefore 74 = .ok (.aload_n 0, 1) := by decide +kernel
theorem dX8_isBefore_75 : decode cX8_isBefore 75 = .ok (.getfield 28, 3) := by decide +kernel
theorem dX8_isBefore_78 : decode cX8_isBefore 78 = .ok (.iload_n 1, 1) := by decide +kernel
theorem dX8_isBefore_79 : decode cX8_isBefore 79 = .ok (.iaload, 1) := by decide +kernel
theorem dX8_isBefore_80 : decode cX8_isBefore 80 = .ok (.invokestatic 106, 3) := by decide +kernel
theorem dX8_isBefore_83 : decode cX8_isBefore 83 = .ok (.isub, 1) := by decide +kernel
theorem dX8_isBefore_84 : decode cX8_isBefore 84 = .ok (.istore 10, 2) := by decide +kernel
theorem dX8_isBefore_86 : decode cX8_isBefore 86 = .ok (.iload 7, 2) := by decide +kernel
theorem dX8_isBefore_88 : decode cX8_isBefore 88 = .ok (.iload 9, 2) := by decide +kernel
theorem dX8_isBefore_90 : decode cX8_isBefore 90 = .ok (.imul, 1) := by decide +kernel
theorem dX8_isBefore_91 : decode cX8_isBefore 91 = .ok (.iload 8, 2) := by decide +kernel
theorem dX8_isBefore_93 : decode cX8_isBefore 93 = .ok (.iload 10, 2) := by decide +kernel
theorem dX8_isBefore_95 : decode cX8_isBefore 95 = .ok (.imul, 1) := by decide +kernel
theorem dX8_isBefore_96 : decode cX8_isBefore 96 = .ok (.iadd, 1) := by decide +kernel
theorem dX8_isBefore_97 : decode cX8_isBefore 97 = .ok (.istore 11, 2) := by decide +kernel
theorem dX8_isBefore_99 : decode cX8_isBefore 99 = .ok (.iload 11, 2) := by decide +kernel
theorem dX8_isBefore_101 : decode cX8_isBefore 101 = .ok (.ifCond .le 40, 3) := by decide +kernel
theorem dX8_isBefore_104 : decode cX8_isBefore 104 = .ok (.iconst 2, 1) := by decide +kernel
theorem dX8_isBefore_105 : decode cX8_isBefore 105 = .ok (.iload 11, 2) := by decide +kernel
theorem dX8_isBefore_107 : decode cX8_isBefore 107 = .ok (.imul, 1) := by decide +kernel
theorem dX8_isBefore_108 : decode cX8_isBefore 108 = .ok (.iload 11, 2) := by decide +kernel
theorem dX8_isBefore_110 : decode cX8_isBefore 110 = .ok (.imul, 1) := by decide +kernel
theorem dX8_isBefore_111 : decode cX8_isBefore 111 = .ok (.iload 7, 2) := by decide +kernel
theorem dX8_isBefore_113 : decode cX8_isBefore 113 = .ok (.iload 7, 2) := by decide +kernel
theorem dX8_isBefore_115 : decode cX8_isBefore 115 = .ok (.imul, 1) := by decide +kernel
theorem dX8_isBefore_116 : decode cX8_isBefore 116 = .ok (.iload 8, 2) := by decide +kernel
theorem dX8_isBefore_118 : decode cX8_isBefore 118 = .ok (.iload 8, 2) := by decide +kernel
theorem dX8_isBefore_120 : decode cX8_isBefore 120 = .ok (.imul, 1) := by decide +kernel
theorem dX8_isBefore_121 : decode cX8_isBefore 121 = .ok (.iadd, 1) := by decide +kernel
theorem dX8_isBefore_122 : decode cX8_isBefore 122 = .ok (.iload 9, 2) := by decide +kernel
theorem dX8_isBefore_124 : decode cX8_isBefore 124 = .ok (.iload 9, 2) := by decide +kernel
theorem dX8_isBefore_126 : decode cX8_isBefore 126 = .ok (.imul, 1) := by decide +kernel
theorem dX8_isBefore_127 : decode cX8_isBefore 127 = .ok (.iload 10, 2) := by decide +kernel
theorem dX8_isBefore_129 : decode cX8_isBefore 129 = .ok (.iload 10, 2) := by decide +kernel
theorem dX8_isBefore_131 : decode cX8_isBefore 131 = .ok (.imul, 1) := by decide +kernel
theorem dX8_isBefore_132 : decode cX8_isBefore 132 = .ok (.iadd, 1) := by decide +kernel
theorem dX8_isBefore_133 : decode cX8_isBefore 133 = .ok (.imul, 1) := by decide +kernel
theorem dX8_isBefore_134 : decode cX8_isBefore 134 = .ok (.if_icmp .lt 7, 3) := by decide +kernel
theorem dX8_isBefore_137 : decode cX8_isBefore 137 = .ok (.iconst 1, 1) := by decide +kernel
theorem dX8_isBefore_138 : decode cX8_isBefore 138 = .ok (.goto 4, 3) := by decide +kernel
theorem dX8_isBefore_141 : decode cX8_isBefore 141 = .ok (.iconst 0, 1) := by decide +kernel
theorem dX8_isBefore_142 : decode cX8_isBefore 142 = .ok (.ireturn, 1) := by decide +kernel
theorem dX8_sees_0 : decode cX8_sees 0 = .ok (.aload_n 0, 1) := by decide +kernel
theorem dX8_sees_1 : decode cX8_sees 1 = .ok (.iload_n 1, 1) := by decide +kernel
theorem dX8_sees_2 : decode cX8_sees 2 = .ok (.invokevirtual 126, 3) := by decide +kernel
theorem dX8_sees_5 : decode cX8_sees 5 = .ok (.ifCond .eq 27, 3) := by decide +kernel
theorem dX8_sees_8 : decode cX8_sees 8 = .ok (.aload_n 0, 1) := by decide +kernel
theorem dX8_sees_9 : decode cX8_sees 9 = .ok (.iload_n 2, 1) := by decide +kernel
theorem dX8_sees_10 : decode cX8_sees 10 = .ok (.invokevirtual 89, 3) := by decide +kernel
theorem dX8_sees_13 : decode cX8_sees 13 = .ok (.ifCond .eq 19, 3) := by decide +kernel
theorem dX8_sees_16 : decode cX8_sees 16 = .ok (.aload_n 0, 1) := by decide +kernel
theorem dX8_sees_17 : decode cX8_sees 17 = .ok (.iload_n 3, 1) := by decide +kernel
theorem dX8_sees_18 : decode cX8_sees 18 = .ok (.invokevirtual 89, 3) := by decide +kernel
theorem dX8_sees_21 : decode cX8_sees 21 = .ok (.ifCond .eq 11, 3) := by decide +kernel
theorem dX8_sees_24 : decode cX8_sees 24 = .ok (.iload 4, 2) := by decide +kernel
theorem dX8_sees_26 : decode cX8_sees 26 = .ok (.invokestatic 95, 3) := by decide +kernel
theorem dX8_sees_29 : decode cX8_sees 29 = .ok (.ifCond .ne 5, 3) := by decide +kernel
theorem dX8_sees_32 : decode cX8_sees 32 = .ok (.iconst (-1), 1) := by decide +kernel
theorem dX8_sees_33 : decode cX8_sees 33 = .ok (.ireturn, 1) := by decide +kernel
theorem dX8_sees_34 : decode cX8_sees 34 = .ok (.aload_n 0, 1) := by decide +kernel
theorem dX8_sees_35 : decode cX8_sees 35 = .ok (.iload_n 3, 1) := by decide +kernel
theorem dX8_sees_36 : decode cX8_sees 36 = .ok (.iload 4, 2) := by decide +kernel
theorem dX8_sees_38 : decode cX8_sees 38 = .ok (.aload_n 0, 1) := by decide +kernel
theorem dX8_sees_39 : decode cX8_sees 39 = .ok (.getfield 28, 3) := by decide +kernel
theorem dX8_sees_42 : decode cX8_sees 42 = .ok (.iload_n 1, 1) := by decide +kernel
theorem dX8_sees_43 : decode cX8_sees 43 = .ok (.iaload, 1) := by decide +kernel
theorem dX8_sees_44 : decode cX8_sees 44 = .ok (.invokevirtual 123, 3) := by decide +kernel
theorem dX8_sees_47 : decode cX8_sees 47 = .ok (.ifCond .ne 19, 3) := by decide +kernel
theorem dX8_sees_50 : decode cX8_sees 50 = .ok (.aload_n 0, 1) := by decide +kernel
theorem dX8_sees_51 : decode cX8_sees 51 = .ok (.iload_n 1, 1) := by decide +kernel
theorem dX8_sees_52 : decode cX8_sees 52 = .ok (.iload_n 2, 1) := by decide +kernel
theorem dX8_sees_53 : decode cX8_sees 53 = .ok (.iload_n 3, 1) := by decide +kernel
theorem dX8_sees_54 : decode cX8_sees 54 = .ok (.iload 4, 2) := by decide +kernel
theorem dX8_sees_56 : decode cX8_sees 56 = .ok (.invokevirtual 129, 3) := by decide +kernel
theorem dX8_sees_59 : decode cX8_sees 59 = .ok (.ifCond .eq 7, 3) := by decide +kernel
theorem dX8_sees_62 : decode cX8_sees 62 = .ok (.iconst 1, 1) := by decide +kernel
theorem dX8_sees_63 : decode cX8_sees 63 = .ok (.goto 4, 3) := by decide +kernel
theorem dX8_sees_66 : decode cX8_sees 66 = .ok (.iconst 0, 1) := by decide +kernel
theorem dX8_sees_67 : decode cX8_sees 67 = .ok (.ireturn, 1) := by decide +kernel
theorem dX8_sizeOf_0 : decode cX8_sizeOf 0 = .ok (.aload_n 0, 1) := by decide +kernel
theorem dX8_sizeOf_1 : decode cX8_sizeOf 1 = .ok (.iload_n 2, 1) := by decide +kernel
theorem dX8_sizeOf_2 : decode cX8_sizeOf 2 = .ok (.iload_n 3, 1) := by decide +kernel
theorem dX8_sizeOf_3 : decode cX8_sizeOf 3 = .ok (.invokevirtual 98, 3) := by decide +kernel
theorem dX8_sizeOf_6 : decode cX8_sizeOf 6 = .ok (.invokestatic 102, 3) := by decide +kernel
theorem dX8_sizeOf_9 : decode cX8_sizeOf 9 = .ok (.aload_n 0, 1) := by decide +kernel
theorem dX8_sizeOf_10 : decode cX8_sizeOf 10 = .ok (.getfield 28, 3) := by decide +kernel
theorem dX8_sizeOf_13 : decode cX8_sizeOf 13 = .ok (.iload_n 1, 1) := by decide +kernel
theorem dX8_sizeOf_14 : decode cX8_sizeOf 14 = .ok (.iaload, 1) := by decide +kernel
theorem dX8_sizeOf_15 : decode cX8_sizeOf 15 = .ok (.invokestatic 102, 3) := by decide +kernel
theorem dX8_sizeOf_18 : decode cX8_sizeOf 18 = .ok (.isub, 1) := by decide +kernel
theorem dX8_sizeOf_19 : decode cX8_sizeOf 19 = .ok (.istore 4, 2) := by decide +kernel
theorem dX8_sizeOf_21 : decode cX8_sizeOf 21 = .ok (.aload_n 0, 1) := by decide +kernel
theorem dX8_sizeOf_22 : decode cX8_sizeOf 22 = .ok (.iload_n 2, 1) := by decide +kernel
theorem dX8_sizeOf_23 : decode cX8_sizeOf 23 = .ok (.iload_n 3, 1) := by decide +kernel
theorem dX8_sizeOf_24 : decode cX8_sizeOf 24 = .ok (.invokevirtual 98, 3) := by decide +kernel
theorem dX8_sizeOf_27 : decode cX8_sizeOf 27 = .ok (.invokestatic 106, 3) := by decide +kernel
theorem dX8_sizeOf_30 : decode cX8_sizeOf 30 = .ok (.aload_n 0, 1) := by decide +kernel
theorem dX8_sizeOf_31 : decode cX8_sizeOf 31 = .ok (.getfield 28, 3) := by decide +kernel
theorem dX8_sizeOf_34 : decode cX8_sizeOf 34 = .ok (.iload_n 1, 1) := by decide +kernel
theorem dX8_sizeOf_35 : decode cX8_sizeOf 35 = .ok (.iaload, 1) := by decide +kernel
theorem dX8_sizeOf_36 : decode cX8_sizeOf 36 = .ok (.invokestatic 106, 3) := by decide +kernel
theorem dX8_sizeOf_39 : decode cX8_sizeOf 39 = .ok (.isub, 1) := by decide +kernel
theorem dX8_sizeOf_40 : decode cX8_sizeOf 40 = .ok (.istore 5, 2) := by decide +kernel
theorem dX8_sizeOf_42 : decode cX8_sizeOf 42 = .ok (.iload 4, 2) := by decide +kernel
theorem dX8_sizeOf_44 : decode cX8_sizeOf 44 = .ok (.iload 4, 2) := by decide +kernel
theorem dX8_sizeOf_46 : decode cX8_sizeOf 46 = .ok (.imul, 1) := by decide +kernel
theorem dX8_sizeOf_47 : decode cX8_sizeOf 47 = .ok (.iload 5, 2) := by decide +kernel
theorem dX8_sizeOf_49 : decode cX8_sizeOf 49 = .ok (.iload 5, 2) := by decide +kernel
theorem dX8_sizeOf_51 : decode cX8_sizeOf 51 = .ok (.imul, 1) := by decide +kernel
theorem dX8_sizeOf_52 : decode cX8_sizeOf 52 = .ok (.iadd, 1) := by decide +kernel
theorem dX8_sizeOf_53 : decode cX8_sizeOf 53 = .ok (.istore 6, 2) := by decide +kernel
theorem dX8_sizeOf_55 : decode cX8_sizeOf 55 = .ok (.iload 6, 2) := by decide +kernel
theorem dX8_sizeOf_57 : decode cX8_sizeOf 57 = .ok (.bipush 16, 2) := by decide +kernel
theorem dX8_sizeOf_59 : decode cX8_sizeOf 59 = .ok (.if_icmp .gt 7, 3) := by decide +kernel
theorem dX8_sizeOf_62 : decode cX8_sizeOf 62 = .ok (.iconst 0, 1) := by decide +kernel
end
section
theorem dX8_sizeOf_63 : decode cX8_sizeOf 63 = .ok (.goto 15, 3) := by decide +kernel
theorem dX8_sizeOf_66 : decode cX8_sizeOf 66 = .ok (.iload 6, 2) := by decide +kernel
theorem dX8_sizeOf_68 : decode cX8_sizeOf 68 = .ok (.bipush 100, 2) := by decide +kernel
theorem dX8_sizeOf_70 : decode cX8_sizeOf 70 = .ok (.if_icmp .gt 7, 3) := by decide +kernel
theorem dX8_sizeOf_73 : decode cX8_sizeOf 73 = .ok (.iconst 1, 1) := by decide +kernel
theorem dX8_sizeOf_74 : decode cX8_sizeOf 74 = .ok (.goto 4, 3) := by decide +kernel
theorem dX8_sizeOf_77 : decode cX8_sizeOf 77 = .ok (.iconst 2, 1) := by decide +kernel
theorem dX8_sizeOf_78 : decode cX8_sizeOf 78 = .ok (.ireturn, 1) := by decide +kernel
theorem dX8_size_0 : decode cX8_size 0 = .ok (.aload_n 0, 1) := by decide +kernel
theorem dX8_size_1 : decode cX8_size 1 = .ok (.iload_n 1, 1) := by decide +kernel
theorem dX8_size_2 : decode cX8_size 2 = .ok (.invokevirtual 126, 3) := by decide +kernel
theorem dX8_size_5 : decode cX8_size 5 = .ok (.ifCond .eq 28, 3) := by decide +kernel
theorem dX8_size_8 : decode cX8_size 8 = .ok (.aload_n 0, 1) := by decide +kernel
theorem dX8_size_9 : decode cX8_size 9 = .ok (.iload_n 2, 1) := by decide +kernel
theorem dX8_size_10 : decode cX8_size 10 = .ok (.invokevirtual 89, 3) := by decide +kernel
theorem dX8_size_13 : decode cX8_size 13 = .ok (.ifCond .eq 20, 3) := by decide +kernel
theorem dX8_size_16 : decode cX8_size 16 = .ok (.iload_n 3, 1) := by decide +kernel
theorem dX8_size_17 : decode cX8_size 17 = .ok (.invokestatic 95, 3) := by decide +kernel
theorem dX8_size_20 : decode cX8_size 20 = .ok (.ifCond .eq 13, 3) := by decide +kernel
theorem dX8_size_23 : decode cX8_size 23 = .ok (.aload_n 0, 1) := by decide +kernel
theorem dX8_size_24 : decode cX8_size 24 = .ok (.iload_n 1, 1) := by decide +kernel
theorem dX8_size_25 : decode cX8_size 25 = .ok (.iload_n 2, 1) := by decide +kernel
theorem dX8_size_26 : decode cX8_size 26 = .ok (.iload_n 3, 1) := by decide +kernel
theorem dX8_size_27 : decode cX8_size 27 = .ok (.invokevirtual 132, 3) := by decide +kernel
theorem dX8_size_30 : decode cX8_size 30 = .ok (.goto 4, 3) := by decide +kernel
theorem dX8_size_33 : decode cX8_size 33 = .ok (.iconst (-1), 1) := by decide +kernel
theorem dX8_size_34 : decode cX8_size 34 = .ok (.ireturn, 1) := by decide +kernel
theorem dX8_views_0 : decode cX8_views 0 = .ok (.aload_n 0, 1) := by decide +kernel
theorem dX8_views_1 : decode cX8_views 1 = .ok (.iload_n 1, 1) := by decide +kernel
theorem dX8_views_2 : decode cX8_views 2 = .ok (.invokevirtual 89, 3) := by decide +kernel
theorem dX8_views_5 : decode cX8_views 5 = .ok (.ifCond .eq 10, 3) := by decide +kernel
theorem dX8_views_8 : decode cX8_views 8 = .ok (.iload_n 2, 1) := by decide +kernel
theorem dX8_views_9 : decode cX8_views 9 = .ok (.invokestatic 95, 3) := by decide +kernel
theorem dX8_views_12 : decode cX8_views 12 = .ok (.ifCond .ne 5, 3) := by decide +kernel
theorem dX8_views_15 : decode cX8_views 15 = .ok (.iconst (-1), 1) := by decide +kernel
theorem dX8_views_16 : decode cX8_views 16 = .ok (.ireturn, 1) := by decide +kernel
theorem dX8_views_17 : decode cX8_views 17 = .ok (.iconst 0, 1) := by decide +kernel
theorem dX8_views_18 : decode cX8_views 18 = .ok (.istore_n 3, 1) := by decide +kernel
theorem dX8_views_19 : decode cX8_views 19 = .ok (.iconst 0, 1) := by decide +kernel
theorem dX8_views_20 : decode cX8_views 20 = .ok (.istore 4, 2) := by decide +kernel
theorem dX8_views_22 : decode cX8_views 22 = .ok (.iload 4, 2) := by decide +kernel
theorem dX8_views_24 : decode cX8_views 24 = .ok (.bipush 32, 2) := by decide +kernel
theorem dX8_views_26 : decode cX8_views 26 = .ok (.if_icmp .ge 50, 3) := by decide +kernel
theorem dX8_views_29 : decode cX8_views 29 = .ok (.iconst 0, 1) := by decide +kernel
theorem dX8_views_30 : decode cX8_views 30 = .ok (.istore 5, 2) := by decide +kernel
theorem dX8_views_32 : decode cX8_views 32 = .ok (.iload 5, 2) := by decide +kernel
theorem dX8_views_34 : decode cX8_views 34 = .ok (.bipush 32, 2) := by decide +kernel
theorem dX8_views_36 : decode cX8_views 36 = .ok (.if_icmp .ge 34, 3) := by decide +kernel
theorem dX8_views_39 : decode cX8_views 39 = .ok (.iload_n 3, 1) := by decide +kernel
theorem dX8_views_40 : decode cX8_views 40 = .ok (.aload_n 0, 1) := by decide +kernel
theorem dX8_views_41 : decode cX8_views 41 = .ok (.iload_n 1, 1) := by decide +kernel
theorem dX8_views_42 : decode cX8_views 42 = .ok (.iload_n 2, 1) := by decide +kernel
theorem dX8_views_43 : decode cX8_views 43 = .ok (.bipush 100, 2) := by decide +kernel
theorem dX8_views_45 : decode cX8_views 45 = .ok (.iload 4, 2) := by decide +kernel
theorem dX8_views_47 : decode cX8_views 47 = .ok (.imul, 1) := by decide +kernel
theorem dX8_views_48 : decode cX8_views 48 = .ok (.iload 5, 2) := by decide +kernel
theorem dX8_views_50 : decode cX8_views 50 = .ok (.iadd, 1) := by decide +kernel
theorem dX8_views_51 : decode cX8_views 51 = .ok (.invokevirtual 123, 3) := by decide +kernel
theorem dX8_views_54 : decode cX8_views 54 = .ok (.ifCond .eq 7, 3) := by decide +kernel
theorem dX8_views_57 : decode cX8_views 57 = .ok (.iconst 0, 1) := by decide +kernel
theorem dX8_views_58 : decode cX8_views 58 = .ok (.goto 4, 3) := by decide +kernel
theorem dX8_views_61 : decode cX8_views 61 = .ok (.iconst 1, 1) := by decide +kernel
theorem dX8_views_62 : decode cX8_views 62 = .ok (.iadd, 1) := by decide +kernel
theorem dX8_views_63 : decode cX8_views 63 = .ok (.istore_n 3, 1) := by decide +kernel
theorem dX8_views_64 : decode cX8_views 64 = .ok (.iinc 5 1, 3) := by decide +kernel
theorem dX8_views_67 : decode cX8_views 67 = .ok (.goto (-35), 3) := by decide +kernel
theorem dX8_views_70 : decode cX8_views 70 = .ok (.iinc 4 1, 3) := by decide +kernel
theorem dX8_views_73 : decode cX8_views 73 = .ok (.goto (-51), 3) := by decide +kernel
theorem dX8_views_76 : decode cX8_views 76 = .ok (.iload_n 3, 1) := by decide +kernel
theorem dX8_views_77 : decode cX8_views 77 = .ok (.ireturn, 1) := by decide +kernel
theorem dX8_fails_0 : decode cX8_fails 0 = .ok (.aload_n 0, 1) := by decide +kernel
theorem dX8_fails_1 : decode cX8_fails 1 = .ok (.getfield 37, 3) := by decide +kernel
theorem dX8_fails_4 : decode cX8_fails 4 = .ok (.iload_n 2, 1) := by decide +kernel
theorem dX8_fails_5 : decode cX8_fails 5 = .ok (.iaload, 1) := by decide +kernel
theorem dX8_fails_6 : decode cX8_fails 6 = .ok (.istore 4, 2) := by decide +kernel
theorem dX8_fails_8 : decode cX8_fails 8 = .ok (.iconst 0, 1) := by decide +kernel
theorem dX8_fails_9 : decode cX8_fails 9 = .ok (.istore 5, 2) := by decide +kernel
theorem dX8_fails_11 : decode cX8_fails 11 = .ok (.iload 5, 2) := by decide +kernel
theorem dX8_fails_13 : decode cX8_fails 13 = .ok (.aload_n 0, 1) := by decide +kernel
theorem dX8_fails_14 : decode cX8_fails 14 = .ok (.getfield 72, 3) := by decide +kernel
theorem dX8_fails_17 : decode cX8_fails 17 = .ok (.if_icmp .ge 46, 3) := by decide +kernel
theorem dX8_fails_20 : decode cX8_fails 20 = .ok (.aload_n 0, 1) := by decide +kernel
theorem dX8_fails_21 : decode cX8_fails 21 = .ok (.getfield 40, 3) := by decide +kernel
theorem dX8_fails_24 : decode cX8_fails 24 = .ok (.iload_n 2, 1) := by decide +kernel
theorem dX8_fails_25 : decode cX8_fails 25 = .ok (.iaload, 1) := by decide +kernel
theorem dX8_fails_26 : decode cX8_fails 26 = .ok (.iload 5, 2) := by decide +kernel
theorem dX8_fails_28 : decode cX8_fails 28 = .ok (.ishr, 1) := by decide +kernel
theorem dX8_fails_29 : decode cX8_fails 29 = .ok (.iconst 1, 1) := by decide +kernel
theorem dX8_fails_30 : decode cX8_fails 30 = .ok (.iand, 1) := by decide +kernel
theorem dX8_fails_31 : decode cX8_fails 31 = .ok (.iconst 1, 1) := by decide +kernel
theorem dX8_fails_32 : decode cX8_fails 32 = .ok (.if_icmp .ne 25, 3) := by decide +kernel
theorem dX8_fails_35 : decode cX8_fails 35 = .ok (.aload_n 0, 1) := by decide +kernel
theorem dX8_fails_36 : decode cX8_fails 36 = .ok (.iload 5, 2) := by decide +kernel
theorem dX8_fails_38 : decode cX8_fails 38 = .ok (.iload_n 3, 1) := by decide +kernel
theorem dX8_fails_39 : decode cX8_fails 39 = .ok (.aload_n 0, 1) := by decide +kernel
theorem dX8_fails_40 : decode cX8_fails 40 = .ok (.getfield 28, 3) := by decide +kernel
theorem dX8_fails_43 : decode cX8_fails 43 = .ok (.iload_n 1, 1) := by decide +kernel
theorem dX8_fails_44 : decode cX8_fails 44 = .ok (.iaload, 1) := by decide +kernel
theorem dX8_fails_45 : decode cX8_fails 45 = .ok (.invokevirtual 123, 3) := by decide +kernel
theorem dX8_fails_48 : decode cX8_fails 48 = .ok (.ifCond .eq 9, 3) := by decide +kernel
theorem dX8_fails_51 : decode cX8_fails 51 = .ok (.bipush 10, 2) := by decide +kernel
theorem dX8_fails_53 : decode cX8_fails 53 = .ok (.iload 5, 2) := by decide +kernel
theorem dX8_fails_55 : decode cX8_fails 55 = .ok (.iadd, 1) := by decide +kernel
theorem dX8_fails_56 : decode cX8_fails 56 = .ok (.ireturn, 1) := by decide +kernel
theorem dX8_fails_57 : decode cX8_fails 57 = .ok (.iinc 5 1, 3) := by decide +kernel
theorem dX8_fails_60 : decode cX8_fails 60 = .ok (.goto (-49), 3) := by decide +kernel
theorem dX8_fails_63 : decode cX8_fails 63 = .ok (.iconst 0, 1) := by decide +kernel
theorem dX8_fails_64 : decode cX8_fails 64 = .ok (.istore 5, 2) := by decide +kernel
theorem dX8_fails_66 : decode cX8_fails 66 = .ok (.iload 5, 2) := by decide +kernel
theorem dX8_fails_68 : decode cX8_fails 68 = .ok (.aload_n 0, 1) := by decide +kernel
theorem dX8_fails_69 : decode cX8_fails 69 = .ok (.getfield 72, 3) := by decide +kernel
theorem dX8_fails_72 : decode cX8_fails 72 = .ok (.if_icmp .ge 43, 3) := by decide +kernel
theorem dX8_fails_75 : decode cX8_fails 75 = .ok (.aload_n 0, 1) := by decide +kernel
theorem dX8_fails_76 : decode cX8_fails 76 = .ok (.getfield 40, 3) := by decide +kernel
theorem dX8_fails_79 : decode cX8_fails 79 = .ok (.iload_n 2, 1) := by decide +kernel
theorem dX8_fails_80 : decode cX8_fails 80 = .ok (.iaload, 1) := by decide +kernel
theorem dX8_fails_81 : decode cX8_fails 81 = .ok (.iload 5, 2) := by decide +kernel
theorem dX8_fails_83 : decode cX8_fails 83 = .ok (.ishr, 1) := by decide +kernel
theorem dX8_fails_84 : decode cX8_fails 84 = .ok (.iconst 1, 1) := by decide +kernel
theorem dX8_fails_85 : decode cX8_fails 85 = .ok (.iand, 1) := by decide +kernel
theorem dX8_fails_86 : decode cX8_fails 86 = .ok (.iconst 1, 1) := by decide +kernel
theorem dX8_fails_87 : decode cX8_fails 87 = .ok (.if_icmp .ne 22, 3) := by decide +kernel
theorem dX8_fails_90 : decode cX8_fails 90 = .ok (.aload_n 0, 1) := by decide +kernel
theorem dX8_fails_91 : decode cX8_fails 91 = .ok (.iload_n 1, 1) := by decide +kernel
theorem dX8_fails_92 : decode cX8_fails 92 = .ok (.iload 4, 2) := by decide +kernel
theorem dX8_fails_94 : decode cX8_fails 94 = .ok (.iload 5, 2) := by decide +kernel
theorem dX8_fails_96 : decode cX8_fails 96 = .ok (.iload_n 3, 1) := by decide +kernel
theorem dX8_fails_97 : decode cX8_fails 97 = .ok (.invokevirtual 129, 3) := by decide +kernel
theorem dX8_fails_100 : decode cX8_fails 100 = .ok (.ifCond .ne 9, 3) := by decide +kernel
theorem dX8_fails_103 : decode cX8_fails 103 = .ok (.bipush 20, 2) := by decide +kernel
theorem dX8_fails_105 : decode cX8_fails 105 = .ok (.iload 5, 2) := by decide +kernel
theorem dX8_fails_107 : decode cX8_fails 107 = .ok (.iadd, 1) := by decide +kernel
theorem dX8_fails_108 : decode cX8_fails 108 = .ok (.ireturn, 1) := by decide +kernel
theorem dX8_fails_109 : decode cX8_fails 109 = .ok (.iinc 5 1, 3) := by decide +kernel
theorem dX8_fails_112 : decode cX8_fails 112 = .ok (.goto (-46), 3) := by decide +kernel
theorem dX8_fails_115 : decode cX8_fails 115 = .ok (.aload_n 0, 1) := by decide +kernel
theorem dX8_fails_116 : decode cX8_fails 116 = .ok (.getfield 43, 3) := by decide +kernel
theorem dX8_fails_119 : decode cX8_fails 119 = .ok (.iload_n 2, 1) := by decide +kernel
theorem dX8_fails_120 : decode cX8_fails 120 = .ok (.iaload, 1) := by decide +kernel
theorem dX8_fails_121 : decode cX8_fails 121 = .ok (.aload_n 0, 1) := by decide +kernel
theorem dX8_fails_122 : decode cX8_fails 122 = .ok (.iload_n 1, 1) := by decide +kernel
theorem dX8_fails_123 : decode cX8_fails 123 = .ok (.iload 4, 2) := by decide +kernel
theorem dX8_fails_125 : decode cX8_fails 125 = .ok (.iload_n 3, 1) := by decide +kernel
theorem dX8_fails_126 : decode cX8_fails 126 = .ok (.invokevirtual 132, 3) := by decide +kernel
theorem dX8_fails_129 : decode cX8_fails 129 = .ok (.ishr, 1) := by decide +kernel
theorem dX8_fails_130 : decode cX8_fails 130 = .ok (.iconst 1, 1) := by decide +kernel
theorem dX8_fails_131 : decode cX8_fails 131 = .ok (.iand, 1) := by decide +kernel
theorem dX8_fails_132 : decode cX8_fails 132 = .ok (.ifCond .ne 6, 3) := by decide +kernel
theorem dX8_fails_135 : decode cX8_fails 135 = .ok (.bipush 30, 2) := by decide +kernel
theorem dX8_fails_137 : decode cX8_fails 137 = .ok (.ireturn, 1) := by decide +kernel
theorem dX8_fails_138 : decode cX8_fails 138 = .ok (.iconst 0, 1) := by decide +kernel
theorem dX8_fails_139 : decode cX8_fails 139 = .ok (.istore 5, 2) := by decide +kernel
theorem dX8_fails_141 : decode cX8_fails 141 = .ok (.iload 5, 2) := by decide +kernel
theorem dX8_fails_143 : decode cX8_fails 143 = .ok (.aload_n 0, 1) := by decide +kernel
theorem dX8_fails_144 : decode cX8_fails 144 = .ok (.getfield 72, 3) := by decide +kernel
theorem dX8_fails_147 : decode cX8_fails 147 = .ok (.if_icmp .ge 113, 3) := by decide +kernel
theorem dX8_fails_150 : decode cX8_fails 150 = .ok (.aload_n 0, 1) := by decide +kernel
theorem dX8_fails_151 : decode cX8_fails 151 = .ok (.getfield 34, 3) := by decide +kernel
theorem dX8_fails_154 : decode cX8_fails 154 = .ok (.iload_n 2, 1) := by decide +kernel
theorem dX8_fails_155 : decode cX8_fails 155 = .ok (.iaload, 1) := by decide +kernel
theorem dX8_fails_156 : decode cX8_fails 156 = .ok (.iconst 2, 1) := by decide +kernel
theorem dX8_fails_157 : decode cX8_fails 157 = .ok (.if_icmp .ne 103, 3) := by decide +kernel
theorem dX8_fails_160 : decode cX8_fails 160 = .ok (.iload_n 3, 1) := by decide +kernel
theorem dX8_fails_161 : decode cX8_fails 161 = .ok (.aload_n 0, 1) := by decide +kernel
theorem dX8_fails_162 : decode cX8_fails 162 = .ok (.getfield 46, 3) := by decide +kernel
theorem dX8_fails_165 : decode cX8_fails 165 = .ok (.iload_n 2, 1) := by decide +kernel
theorem dX8_fails_166 : decode cX8_fails 166 = .ok (.iaload, 1) := by decide +kernel
theorem dX8_fails_167 : decode cX8_fails 167 = .ok (.if_icmp .le 93, 3) := by decide +kernel
theorem dX8_fails_170 : decode cX8_fails 170 = .ok (.aload_n 0, 1) := by decide +kernel
theorem dX8_fails_171 : decode cX8_fails 171 = .ok (.getfield 40, 3) := by decide +kernel
theorem dX8_fails_174 : decode cX8_fails 174 = .ok (.iload_n 2, 1) := by decide +kernel
theorem dX8_fails_175 : decode cX8_fails 175 = .ok (.iaload, 1) := by decide +kernel
theorem dX8_fails_176 : decode cX8_fails 176 = .ok (.iload 5, 2) := by decide +kernel
theorem dX8_fails_178 : decode cX8_fails 178 = .ok (.ishr, 1) := by decide +kernel
theorem dX8_fails_179 : decode cX8_fails 179 = .ok (.iconst 1, 1) := by decide +kernel
theorem dX8_fails_180 : decode cX8_fails 180 = .ok (.iand, 1) := by decide +kernel
theorem dX8_fails_181 : decode cX8_fails 181 = .ok (.iconst 1, 1) := by decide +kernel
theorem dX8_fails_182 : decode cX8_fails 182 = .ok (.if_icmp .ne 7, 3) := by decide +kernel
theorem dX8_fails_185 : decode cX8_fails 185 = .ok (.iconst 1, 1) := by decide +kernel
theorem dX8_fails_186 : decode cX8_fails 186 = .ok (.goto 4, 3) := by decide +kernel
theorem dX8_fails_189 : decode cX8_fails 189 = .ok (.iconst 0, 1) := by decide +kernel
theorem dX8_fails_190 : decode cX8_fails 190 = .ok (.istore 6, 2) := by decide +kernel
theorem dX8_fails_192 : decode cX8_fails 192 = .ok (.iload 6, 2) := by decide +kernel
theorem dX8_fails_194 : decode cX8_fails 194 = .ok (.ifCond .eq 60, 3) := by decide +kernel
theorem dX8_fails_197 : decode cX8_fails 197 = .ok (.aload_n 0, 1) := by decide +kernel
theorem dX8_fails_198 : decode cX8_fails 198 = .ok (.getfield 28, 3) := by decide +kernel
theorem dX8_fails_201 : decode cX8_fails 201 = .ok (.iload_n 1, 1) := by decide +kernel
theorem dX8_fails_202 : decode cX8_fails 202 = .ok (.iaload, 1) := by decide +kernel
theorem dX8_fails_203 : decode cX8_fails 203 = .ok (.aload_n 0, 1) := by decide +kernel
theorem dX8_fails_204 : decode cX8_fails 204 = .ok (.iload 4, 2) := by decide +kernel
theorem dX8_fails_206 : decode cX8_fails 206 = .ok (.iload_n 3, 1) := by decide +kernel
theorem dX8_fails_207 : decode cX8_fails 207 = .ok (.invokevirtual 98, 3) := by decide +kernel
theorem dX8_fails_210 : decode cX8_fails 210 = .ok (.aload_n 0, 1) := by decide +kernel
theorem dX8_fails_211 : decode cX8_fails 211 = .ok (.iload 5, 2) := by decide +kernel
theorem dX8_fails_213 : decode cX8_fails 213 = .ok (.iload_n 3, 1) := by decide +kernel
theorem dX8_fails_214 : decode cX8_fails 214 = .ok (.invokevirtual 98, 3) := by decide +kernel
theorem dX8_fails_217 : decode cX8_fails 217 = .ok (.invokestatic 109, 3) := by decide +kernel
theorem dX8_fails_220 : decode cX8_fails 220 = .ok (.aload_n 0, 1) := by decide +kernel
theorem dX8_fails_221 : decode cX8_fails 221 = .ok (.getfield 28, 3) := by decide +kernel
theorem dX8_fails_224 : decode cX8_fails 224 = .ok (.iload_n 1, 1) := by decide +kernel
theorem dX8_fails_225 : decode cX8_fails 225 = .ok (.iaload, 1) := by decide +kernel
theorem dX8_fails_226 : decode cX8_fails 226 = .ok (.aload_n 0, 1) := by decide +kernel
theorem dX8_fails_227 : decode cX8_fails 227 = .ok (.iload 4, 2) := by decide +kernel
theorem dX8_fails_229 : decode cX8_fails 229 = .ok (.iload_n 3, 1) := by decide +kernel
theorem dX8_fails_230 : decode cX8_fails 230 = .ok (.iconst 1, 1) := by decide +kernel
theorem dX8_fails_231 : decode cX8_fails 231 = .ok (.isub, 1) := by decide +kernel
theorem dX8_fails_232 : decode cX8_fails 232 = .ok (.invokevirtual 98, 3) := by decide +kernel
theorem dX8_fails_235 : decode cX8_fails 235 = .ok (.aload_n 0, 1) := by decide +kernel
theorem dX8_fails_236 : decode cX8_fails 236 = .ok (.iload 5, 2) := by decide +kernel
theorem dX8_fails_238 : decode cX8_fails 238 = .ok (.iload_n 3, 1) := by decide +kernel
theorem dX8_fails_239 : decode cX8_fails 239 = .ok (.iconst 1, 1) := by decide +kernel
theorem dX8_fails_240 : decode cX8_fails 240 = .ok (.isub, 1) := by decide +kernel
theorem dX8_fails_241 : decode cX8_fails 241 = .ok (.invokevirtual 98, 3) := by decide +kernel
theorem dX8_fails_244 : decode cX8_fails 244 = .ok (.invokestatic 109, 3) := by decide +kernel
theorem dX8_fails_247 : decode cX8_fails 247 = .ok (.imul, 1) := by decide +kernel
theorem dX8_fails_248 : decode cX8_fails 248 = .ok (.ifCond .ge 6, 3) := by decide +kernel
theorem dX8_fails_251 : decode cX8_fails 251 = .ok (.bipush 40, 2) := by decide +kernel
theorem dX8_fails_253 : decode cX8_fails 253 = .ok (.ireturn, 1) := by decide +kernel
theorem dX8_fails_254 : decode cX8_fails 254 = .ok (.iinc 5 1, 3) := by decide +kernel
theorem dX8_fails_257 : decode cX8_fails 257 = .ok (.goto (-116), 3) := by decide +kernel
theorem dX8_fails_260 : decode cX8_fails 260 = .ok (.iconst 0, 1) := by decide +kernel
theorem dX8_fails_261 : decode cX8_fails 261 = .ok (.ireturn, 1) := by decide +kernel
theorem dX8_whyNot_0 : decode cX8_whyNot 0 = .ok (.aload_n 0, 1) := by decide +kernel
theorem dX8_whyNot_1 : decode cX8_whyNot 1 = .ok (.getfield 46, 3) := by decide +kernel
theorem dX8_whyNot_4 : decode cX8_whyNot 4 = .ok (.iload_n 2, 1) := by decide +kernel
theorem dX8_whyNot_5 : decode cX8_whyNot 5 = .ok (.iaload, 1) := by decide +kernel
theorem dX8_whyNot_6 : decode cX8_whyNot 6 = .ok (.istore_n 3, 1) := by decide +kernel
theorem dX8_whyNot_7 : decode cX8_whyNot 7 = .ok (.iload_n 3, 1) := by decide +kernel
theorem dX8_whyNot_8 : decode cX8_whyNot 8 = .ok (.aload_n 0, 1) := by decide +kernel
theorem dX8_whyNot_9 : decode cX8_whyNot 9 = .ok (.getfield 49, 3) := by decide +kernel
theorem dX8_whyNot_12 : decode cX8_whyNot 12 = .ok (.iload_n 2, 1) := by decide +kernel
theorem dX8_whyNot_13 : decode cX8_whyNot 13 = .ok (.iaload, 1) := by decide +kernel
theorem dX8_whyNot_14 : decode cX8_whyNot 14 = .ok (.if_icmp .gt 31, 3) := by decide +kernel
theorem dX8_whyNot_17 : decode cX8_whyNot 17 = .ok (.aload_n 0, 1) := by decide +kernel
theorem dX8_whyNot_18 : decode cX8_whyNot 18 = .ok (.iload_n 1, 1) := by decide +kernel
theorem dX8_whyNot_19 : decode cX8_whyNot 19 = .ok (.iload_n 2, 1) := by decide +kernel
theorem dX8_whyNot_20 : decode cX8_whyNot 20 = .ok (.iload_n 3, 1) := by decide +kernel
theorem dX8_whyNot_21 : decode cX8_whyNot 21 = .ok (.invokevirtual 135, 3) := by decide +kernel
theorem dX8_whyNot_24 : decode cX8_whyNot 24 = .ok (.istore 4, 2) := by decide +kernel
theorem dX8_whyNot_26 : decode cX8_whyNot 26 = .ok (.iload 4, 2) := by decide +kernel
theorem dX8_whyNot_28 : decode cX8_whyNot 28 = .ok (.ifCond .eq 11, 3) := by decide +kernel
theorem dX8_whyNot_31 : decode cX8_whyNot 31 = .ok (.bipush 100, 2) := by decide +kernel
theorem dX8_whyNot_33 : decode cX8_whyNot 33 = .ok (.iload_n 3, 1) := by decide +kernel
theorem dX8_whyNot_34 : decode cX8_whyNot 34 = .ok (.imul, 1) := by decide +kernel
theorem dX8_whyNot_35 : decode cX8_whyNot 35 = .ok (.iload 4, 2) := by decide +kernel
theorem dX8_whyNot_37 : decode cX8_whyNot 37 = .ok (.iadd, 1) := by decide +kernel
theorem dX8_whyNot_38 : decode cX8_whyNot 38 = .ok (.ireturn, 1) := by decide +kernel
theorem dX8_whyNot_39 : decode cX8_whyNot 39 = .ok (.iinc 3 1, 3) := by decide +kernel
theorem dX8_whyNot_42 : decode cX8_whyNot 42 = .ok (.goto (-35), 3) := by decide +kernel
theorem dX8_whyNot_45 : decode cX8_whyNot 45 = .ok (.iconst 0, 1) := by decide +kernel
theorem dX8_whyNot_46 : decode cX8_whyNot 46 = .ok (.ireturn, 1) := by decide +kernel
theorem dX8_gives_0 : decode cX8_gives 0 = .ok (.aload_n 0, 1) := by decide +kernel
theorem dX8_gives_1 : decode cX8_gives 1 = .ok (.iload_n 1, 1) := by decide +kernel
theorem dX8_gives_2 : decode cX8_gives 2 = .ok (.invokevirtual 126, 3) := by decide +kernel
theorem dX8_gives_5 : decode cX8_gives 5 = .ok (.ifCond .eq 11, 3) := by decide +kernel
theorem dX8_gives_8 : decode cX8_gives 8 = .ok (.aload_n 0, 1) := by decide +kernel
theorem dX8_gives_9 : decode cX8_gives 9 = .ok (.iload_n 2, 1) := by decide +kernel
theorem dX8_gives_10 : decode cX8_gives 10 = .ok (.invokevirtual 138, 3) := by decide +kernel
theorem dX8_gives_13 : decode cX8_gives 13 = .ok (.ifCond .ne 5, 3) := by decide +kernel
theorem dX8_gives_16 : decode cX8_gives 16 = .ok (.iconst (-1), 1) := by decide +kernel
theorem dX8_gives_17 : decode cX8_gives 17 = .ok (.ireturn, 1) := by decide +kernel
theorem dX8_gives_18 : decode cX8_gives 18 = .ok (.aload_n 0, 1) := by decide +kernel
theorem dX8_gives_19 : decode cX8_gives 19 = .ok (.iload_n 1, 1) := by decide +kernel
theorem dX8_gives_20 : decode cX8_gives 20 = .ok (.iload_n 2, 1) := by decide +kernel
theorem dX8_gives_21 : decode cX8_gives 21 = .ok (.invokevirtual 141, 3) := by decide +kernel
theorem dX8_gives_24 : decode cX8_gives 24 = .ok (.ifCond .ne 7, 3) := by decide +kernel
theorem dX8_gives_27 : decode cX8_gives 27 = .ok (.iconst 1, 1) := by decide +kernel
theorem dX8_gives_28 : decode cX8_gives 28 = .ok (.goto 4, 3) := by decide +kernel
theorem dX8_gives_31 : decode cX8_gives 31 = .ok (.iconst 0, 1) := by decide +kernel
theorem dX8_gives_32 : decode cX8_gives 32 = .ok (.ireturn, 1) := by decide +kernel
theorem dX8_why_0 : decode cX8_why 0 = .ok (.aload_n 0, 1) := by decide +kernel
theorem dX8_why_1 : decode cX8_why 1 = .ok (.iload_n 1, 1) := by decide +kernel
theorem dX8_why_2 : decode cX8_why 2 = .ok (.invokevirtual 126, 3) := by decide +kernel
theorem dX8_why_5 : decode cX8_why 5 = .ok (.ifCond .eq 20, 3) := by decide +kernel
theorem dX8_why_8 : decode cX8_why 8 = .ok (.aload_n 0, 1) := by decide +kernel
theorem dX8_why_9 : decode cX8_why 9 = .ok (.iload_n 2, 1) := by decide +kernel
theorem dX8_why_10 : decode cX8_why 10 = .ok (.invokevirtual 138, 3) := by decide +kernel
theorem dX8_why_13 : decode cX8_why 13 = .ok (.ifCond .eq 12, 3) := by decide +kernel
theorem dX8_why_16 : decode cX8_why 16 = .ok (.aload_n 0, 1) := by decide +kernel
theorem dX8_why_17 : decode cX8_why 17 = .ok (.iload_n 1, 1) := by decide +kernel
theorem dX8_why_18 : decode cX8_why 18 = .ok (.iload_n 2, 1) := by decide +kernel
theorem dX8_why_19 : decode cX8_why 19 = .ok (.invokevirtual 141, 3) := by decide +kernel
theorem dX8_why_22 : decode cX8_why 22 = .ok (.goto 4, 3) := by decide +kernel
theorem dX8_why_25 : decode cX8_why 25 = .ok (.iconst (-1), 1) := by decide +kernel
theorem dX8_why_26 : decode cX8_why 26 = .ok (.ireturn, 1) := by decide +kernel
theorem dX8_other_0 : decode cX8_other 0 = .ok (.iconst 0, 1) := by decide +kernel
theorem dX8_other_1 : decode cX8_other 1 = .ok (.istore_n 2, 1) := by decide +kernel
theorem dX8_other_2 : decode cX8_other 2 = .ok (.iload_n 2, 1) := by decide +kernel
theorem dX8_other_3 : decode cX8_other 3 = .ok (.aload_n 0, 1) := by decide +kernel
theorem dX8_other_4 : decode cX8_other 4 = .ok (.getfield 37, 3) := by decide +kernel
theorem dX8_other_7 : decode cX8_other 7 = .ok (.iload_n 1, 1) := by decide +kernel
theorem dX8_other_8 : decode cX8_other 8 = .ok (.iaload, 1) := by decide +kernel
theorem dX8_other_9 : decode cX8_other 9 = .ok (.if_icmp .eq 16, 3) := by decide +kernel
theorem dX8_other_12 : decode cX8_other 12 = .ok (.aload_n 0, 1) := by decide +kernel
theorem dX8_other_13 : decode cX8_other 13 = .ok (.getfield 40, 3) := by decide +kernel
theorem dX8_other_16 : decode cX8_other 16 = .ok (.iload_n 1, 1) := by decide +kernel
theorem dX8_other_17 : decode cX8_other 17 = .ok (.iaload, 1) := by decide +kernel
theorem dX8_other_18 : decode cX8_other 18 = .ok (.iload_n 2, 1) := by decide +kernel
theorem dX8_other_19 : decode cX8_other 19 = .ok (.ishr, 1) := by decide +kernel
theorem dX8_other_20 : decode cX8_other 20 = .ok (.iconst 1, 1) := by decide +kernel
theorem dX8_other_21 : decode cX8_other 21 = .ok (.iand, 1) := by decide +kernel
theorem dX8_other_22 : decode cX8_other 22 = .ok (.ifCond .ne 9, 3) := by decide +kernel
theorem dX8_other_25 : decode cX8_other 25 = .ok (.iinc 2 1, 3) := by decide +kernel
theorem dX8_other_28 : decode cX8_other 28 = .ok (.goto (-26), 3) := by decide +kernel
theorem dX8_other_31 : decode cX8_other 31 = .ok (.iload_n 2, 1) := by decide +kernel
theorem dX8_other_32 : decode cX8_other 32 = .ok (.ireturn, 1) := by decide +kernel
theorem dX8_sideOf_0 : decode cX8_sideOf 0 = .ok (.aload_n 0, 1) := by decide +kernel
theorem dX8_sideOf_1 : decode cX8_sideOf 1 = .ok (.iload_n 3, 1) := by decide +kernel
theorem dX8_sideOf_2 : decode cX8_sideOf 2 = .ok (.aload_n 0, 1) := by decide +kernel
theorem dX8_sideOf_3 : decode cX8_sideOf 3 = .ok (.getfield 46, 3) := by decide +kernel
theorem dX8_sideOf_6 : decode cX8_sideOf 6 = .ok (.iload_n 2, 1) := by decide +kernel
theorem dX8_sideOf_7 : decode cX8_sideOf 7 = .ok (.iaload, 1) := by decide +kernel
theorem dX8_sideOf_8 : decode cX8_sideOf 8 = .ok (.invokevirtual 98, 3) := by decide +kernel
theorem dX8_sideOf_11 : decode cX8_sideOf 11 = .ok (.aload_n 0, 1) := by decide +kernel
theorem dX8_sideOf_12 : decode cX8_sideOf 12 = .ok (.iload 4, 2) := by decide +kernel
theorem dX8_sideOf_14 : decode cX8_sideOf 14 = .ok (.aload_n 0, 1) := by decide +kernel
theorem dX8_sideOf_15 : decode cX8_sideOf 15 = .ok (.getfield 46, 3) := by decide +kernel
theorem dX8_sideOf_18 : decode cX8_sideOf 18 = .ok (.iload_n 2, 1) := by decide +kernel
theorem dX8_sideOf_19 : decode cX8_sideOf 19 = .ok (.iaload, 1) := by decide +kernel
theorem dX8_sideOf_20 : decode cX8_sideOf 20 = .ok (.invokevirtual 98, 3) := by decide +kernel
theorem dX8_sideOf_23 : decode cX8_sideOf 23 = .ok (.aload_n 0, 1) := by decide +kernel
theorem dX8_sideOf_24 : decode cX8_sideOf 24 = .ok (.getfield 28, 3) := by decide +kernel
theorem dX8_sideOf_27 : decode cX8_sideOf 27 = .ok (.iload_n 1, 1) := by decide +kernel
theorem dX8_sideOf_28 : decode cX8_sideOf 28 = .ok (.iaload, 1) := by decide +kernel
theorem dX8_sideOf_29 : decode cX8_sideOf 29 = .ok (.invokestatic 109, 3) := by decide +kernel
theorem dX8_sideOf_32 : decode cX8_sideOf 32 = .ok (.ireturn, 1) := by decide +kernel
theorem dX8_side_0 : decode cX8_side 0 = .ok (.aload_n 0, 1) := by decide +kernel
theorem dX8_side_1 : decode cX8_side 1 = .ok (.iload_n 1, 1) := by decide +kernel
theorem dX8_side_2 : decode cX8_side 2 = .ok (.invokevirtual 126, 3) := by decide +kernel
theorem dX8_side_5 : decode cX8_side 5 = .ok (.ifCond .eq 21, 3) := by decide +kernel
theorem dX8_side_8 : decode cX8_side 8 = .ok (.aload_n 0, 1) := by decide +kernel
theorem dX8_side_9 : decode cX8_side 9 = .ok (.iload_n 2, 1) := by decide +kernel
theorem dX8_side_10 : decode cX8_side 10 = .ok (.invokevirtual 138, 3) := by decide +kernel
theorem dX8_side_13 : decode cX8_side 13 = .ok (.ifCond .eq 13, 3) := by decide +kernel
theorem dX8_side_16 : decode cX8_side 16 = .ok (.aload_n 0, 1) := by decide +kernel
theorem dX8_side_17 : decode cX8_side 17 = .ok (.getfield 34, 3) := by decide +kernel
theorem dX8_side_20 : decode cX8_side 20 = .ok (.iload_n 2, 1) := by decide +kernel
theorem dX8_side_21 : decode cX8_side 21 = .ok (.iaload, 1) := by decide +kernel
theorem dX8_side_22 : decode cX8_side 22 = .ok (.iconst 1, 1) := by decide +kernel
theorem dX8_side_23 : decode cX8_side 23 = .ok (.if_icmp .eq 6, 3) := by decide +kernel
theorem dX8_side_26 : decode cX8_side 26 = .ok (.bipush (-9), 2) := by decide +kernel
theorem dX8_side_28 : decode cX8_side 28 = .ok (.ireturn, 1) := by decide +kernel
theorem dX8_side_29 : decode cX8_side 29 = .ok (.aload_n 0, 1) := by decide +kernel
theorem dX8_side_30 : decode cX8_side 30 = .ok (.iload_n 1, 1) := by decide +kernel
theorem dX8_side_31 : decode cX8_side 31 = .ok (.iload_n 2, 1) := by decide +kernel
theorem dX8_side_32 : decode cX8_side 32 = .ok (.aload_n 0, 1) := by decide +kernel
theorem dX8_side_33 : decode cX8_side 33 = .ok (.getfield 37, 3) := by decide +kernel
theorem dX8_side_36 : decode cX8_side 36 = .ok (.iload_n 2, 1) := by decide +kernel
theorem dX8_side_37 : decode cX8_side 37 = .ok (.iaload, 1) := by decide +kernel
theorem dX8_side_38 : decode cX8_side 38 = .ok (.aload_n 0, 1) := by decide +kernel
theorem dX8_side_39 : decode cX8_side 39 = .ok (.iload_n 2, 1) := by decide +kernel
theorem dX8_side_40 : decode cX8_side 40 = .ok (.invokevirtual 144, 3) := by decide +kernel
theorem dX8_side_43 : decode cX8_side 43 = .ok (.invokevirtual 147, 3) := by decide +kernel
theorem dX8_side_46 : decode cX8_side 46 = .ok (.ireturn, 1) := by decide +kernel
theorem dX8_lengthOf_0 : decode cX8_lengthOf 0 = .ok (.aload_n 0, 1) := by decide +kernel
theorem dX8_lengthOf_1 : decode cX8_lengthOf 1 = .ok (.getfield 49, 3) := by decide +kernel
theorem dX8_lengthOf_4 : decode cX8_lengthOf 4 = .ok (.iload_n 1, 1) := by decide +kernel
theorem dX8_lengthOf_5 : decode cX8_lengthOf 5 = .ok (.iaload, 1) := by decide +kernel
theorem dX8_lengthOf_6 : decode cX8_lengthOf 6 = .ok (.aload_n 0, 1) := by decide +kernel
theorem dX8_lengthOf_7 : decode cX8_lengthOf 7 = .ok (.getfield 46, 3) := by decide +kernel
theorem dX8_lengthOf_10 : decode cX8_lengthOf 10 = .ok (.iload_n 1, 1) := by decide +kernel
theorem dX8_lengthOf_11 : decode cX8_lengthOf 11 = .ok (.iaload, 1) := by decide +kernel
theorem dX8_lengthOf_12 : decode cX8_lengthOf 12 = .ok (.isub, 1) := by decide +kernel
theorem dX8_lengthOf_13 : decode cX8_lengthOf 13 = .ok (.iconst 1, 1) := by decide +kernel
theorem dX8_lengthOf_14 : decode cX8_lengthOf 14 = .ok (.iadd, 1) := by decide +kernel
theorem dX8_lengthOf_15 : decode cX8_lengthOf 15 = .ok (.istore_n 2, 1) := by decide +kernel
theorem dX8_lengthOf_16 : decode cX8_lengthOf 16 = .ok (.aload_n 0, 1) := by decide +kernel
theorem dX8_lengthOf_17 : decode cX8_lengthOf 17 = .ok (.getfield 52, 3) := by decide +kernel
theorem dX8_lengthOf_20 : decode cX8_lengthOf 20 = .ok (.iload_n 1, 1) := by decide +kernel
theorem dX8_lengthOf_21 : decode cX8_lengthOf 21 = .ok (.iaload, 1) := by decide +kernel
theorem dX8_lengthOf_22 : decode cX8_lengthOf 22 = .ok (.aload_n 0, 1) := by decide +kernel
theorem dX8_lengthOf_23 : decode cX8_lengthOf 23 = .ok (.getfield 55, 3) := by decide +kernel
theorem dX8_lengthOf_26 : decode cX8_lengthOf 26 = .ok (.iadd, 1) := by decide +kernel
theorem dX8_lengthOf_27 : decode cX8_lengthOf 27 = .ok (.iconst 1, 1) := by decide +kernel
theorem dX8_lengthOf_28 : decode cX8_lengthOf 28 = .ok (.isub, 1) := by decide +kernel
theorem dX8_lengthOf_29 : decode cX8_lengthOf 29 = .ok (.aload_n 0, 1) := by decide +kernel
theorem dX8_lengthOf_30 : decode cX8_lengthOf 30 = .ok (.getfield 55, 3) := by decide +kernel
theorem dX8_lengthOf_33 : decode cX8_lengthOf 33 = .ok (.idiv, 1) := by decide +kernel
theorem dX8_lengthOf_34 : decode cX8_lengthOf 34 = .ok (.istore_n 3, 1) := by decide +kernel
theorem dX8_lengthOf_35 : decode cX8_lengthOf 35 = .ok (.iload_n 2, 1) := by decide +kernel
theorem dX8_lengthOf_36 : decode cX8_lengthOf 36 = .ok (.iload_n 3, 1) := by decide +kernel
theorem dX8_lengthOf_37 : decode cX8_lengthOf 37 = .ok (.if_icmp .le 7, 3) := by decide +kernel
theorem dX8_lengthOf_40 : decode cX8_lengthOf 40 = .ok (.iload_n 2, 1) := by decide +kernel
theorem dX8_lengthOf_41 : decode cX8_lengthOf 41 = .ok (.goto 4, 3) := by decide +kernel
theorem dX8_lengthOf_44 : decode cX8_lengthOf 44 = .ok (.iload_n 3, 1) := by decide +kernel
theorem dX8_lengthOf_45 : decode cX8_lengthOf 45 = .ok (.ireturn, 1) := by decide +kernel
theorem dX8_length_0 : decode cX8_length 0 = .ok (.aload_n 0, 1) := by decide +kernel
theorem dX8_length_1 : decode cX8_length 1 = .ok (.iload_n 1, 1) := by decide +kernel
theorem dX8_length_2 : decode cX8_length 2 = .ok (.invokevirtual 138, 3) := by decide +kernel
theorem dX8_length_5 : decode cX8_length 5 = .ok (.ifCond .eq 11, 3) := by decide +kernel
theorem dX8_length_8 : decode cX8_length 8 = .ok (.aload_n 0, 1) := by decide +kernel
theorem dX8_length_9 : decode cX8_length 9 = .ok (.iload_n 1, 1) := by decide +kernel
theorem dX8_length_10 : decode cX8_length 10 = .ok (.invokevirtual 151, 3) := by decide +kernel
theorem dX8_length_13 : decode cX8_length 13 = .ok (.goto 4, 3) := by decide +kernel
theorem dX8_length_16 : decode cX8_length 16 = .ok (.iconst (-1), 1) := by decide +kernel
theorem dX8_length_17 : decode cX8_length 17 = .ok (.ireturn, 1) := by decide +kernel
theorem dX8_twoAhead_0 : decode cX8_twoAhead 0 = .ok (.iload_n 1, 1) := by decide +kernel
theorem dX8_twoAhead_1 : decode cX8_twoAhead 1 = .ok (.iconst 1, 1) := by decide +kernel
theorem dX8_twoAhead_2 : decode cX8_twoAhead 2 = .ok (.isub, 1) := by decide +kernel
theorem dX8_twoAhead_3 : decode cX8_twoAhead 3 = .ok (.istore_n 2, 1) := by decide +kernel
theorem dX8_twoAhead_4 : decode cX8_twoAhead 4 = .ok (.iload_n 2, 1) := by decide +kernel
theorem dX8_twoAhead_5 : decode cX8_twoAhead 5 = .ok (.ifCond .lt 19, 3) := by decide +kernel
theorem dX8_twoAhead_8 : decode cX8_twoAhead 8 = .ok (.aload_n 0, 1) := by decide +kernel
theorem dX8_twoAhead_9 : decode cX8_twoAhead 9 = .ok (.getfield 34, 3) := by decide +kernel
theorem dX8_twoAhead_12 : decode cX8_twoAhead 12 = .ok (.iload_n 2, 1) := by decide +kernel
theorem dX8_twoAhead_13 : decode cX8_twoAhead 13 = .ok (.iaload, 1) := by decide +kernel
theorem dX8_twoAhead_14 : decode cX8_twoAhead 14 = .ok (.iconst 1, 1) := by decide +kernel
theorem dX8_twoAhead_15 : decode cX8_twoAhead 15 = .ok (.if_icmp .eq 9, 3) := by decide +kernel
theorem dX8_twoAhead_18 : decode cX8_twoAhead 18 = .ok (.iinc 2 (-1), 3) := by decide +kernel
theorem dX8_twoAhead_21 : decode cX8_twoAhead 21 = .ok (.goto (-17), 3) := by decide +kernel
theorem dX8_twoAhead_24 : decode cX8_twoAhead 24 = .ok (.iload_n 2, 1) := by decide +kernel
theorem dX8_twoAhead_25 : decode cX8_twoAhead 25 = .ok (.ireturn, 1) := by decide +kernel
theorem dX8_crosses_0 : decode cX8_crosses 0 = .ok (.aload_n 0, 1) := by decide +kernel
theorem dX8_crosses_1 : decode cX8_crosses 1 = .ok (.getfield 37, 3) := by decide +kernel
theorem dX8_crosses_4 : decode cX8_crosses 4 = .ok (.iload_n 1, 1) := by decide +kernel
theorem dX8_crosses_5 : decode cX8_crosses 5 = .ok (.iaload, 1) := by decide +kernel
theorem dX8_crosses_6 : decode cX8_crosses 6 = .ok (.aload_n 0, 1) := by decide +kernel
theorem dX8_crosses_7 : decode cX8_crosses 7 = .ok (.iload_n 1, 1) := by decide +kernel
theorem dX8_crosses_8 : decode cX8_crosses 8 = .ok (.invokevirtual 144, 3) := by decide +kernel
theorem dX8_crosses_11 : decode cX8_crosses 11 = .ok (.if_icmp .ge 12, 3) := by decide +kernel
theorem dX8_crosses_14 : decode cX8_crosses 14 = .ok (.aload_n 0, 1) := by decide +kernel
theorem dX8_crosses_15 : decode cX8_crosses 15 = .ok (.getfield 37, 3) := by decide +kernel
theorem dX8_crosses_18 : decode cX8_crosses 18 = .ok (.iload_n 1, 1) := by decide +kernel
theorem dX8_crosses_19 : decode cX8_crosses 19 = .ok (.iaload, 1) := by decide +kernel
theorem dX8_crosses_20 : decode cX8_crosses 20 = .ok (.goto 8, 3) := by decide +kernel
theorem dX8_crosses_23 : decode cX8_crosses 23 = .ok (.aload_n 0, 1) := by decide +kernel
theorem dX8_crosses_24 : decode cX8_crosses 24 = .ok (.iload_n 1, 1) := by decide +kernel
theorem dX8_crosses_25 : decode cX8_crosses 25 = .ok (.invokevirtual 144, 3) := by decide +kernel
theorem dX8_crosses_28 : decode cX8_crosses 28 = .ok (.istore 5, 2) := by decide +kernel
theorem dX8_crosses_30 : decode cX8_crosses 30 = .ok (.aload_n 0, 1) := by decide +kernel
theorem dX8_crosses_31 : decode cX8_crosses 31 = .ok (.getfield 37, 3) := by decide +kernel
theorem dX8_crosses_34 : decode cX8_crosses 34 = .ok (.iload_n 1, 1) := by decide +kernel
theorem dX8_crosses_35 : decode cX8_crosses 35 = .ok (.iaload, 1) := by decide +kernel
theorem dX8_crosses_36 : decode cX8_crosses 36 = .ok (.aload_n 0, 1) := by decide +kernel
theorem dX8_crosses_37 : decode cX8_crosses 37 = .ok (.iload_n 1, 1) := by decide +kernel
theorem dX8_crosses_38 : decode cX8_crosses 38 = .ok (.invokevirtual 144, 3) := by decide +kernel
theorem dX8_crosses_41 : decode cX8_crosses 41 = .ok (.iadd, 1) := by decide +kernel
theorem dX8_crosses_42 : decode cX8_crosses 42 = .ok (.iload 5, 2) := by decide +kernel
theorem dX8_crosses_44 : decode cX8_crosses 44 = .ok (.isub, 1) := by decide +kernel
theorem dX8_crosses_45 : decode cX8_crosses 45 = .ok (.istore 6, 2) := by decide +kernel
theorem dX8_crosses_47 : decode cX8_crosses 47 = .ok (.aload_n 0, 1) := by decide +kernel
theorem dX8_crosses_48 : decode cX8_crosses 48 = .ok (.getfield 37, 3) := by decide +kernel
theorem dX8_crosses_51 : decode cX8_crosses 51 = .ok (.iload_n 3, 1) := by decide +kernel
theorem dX8_crosses_52 : decode cX8_crosses 52 = .ok (.iaload, 1) := by decide +kernel
theorem dX8_crosses_53 : decode cX8_crosses 53 = .ok (.aload_n 0, 1) := by decide +kernel
theorem dX8_crosses_54 : decode cX8_crosses 54 = .ok (.iload_n 3, 1) := by decide +kernel
theorem dX8_crosses_55 : decode cX8_crosses 55 = .ok (.invokevirtual 144, 3) := by decide +kernel
theorem dX8_crosses_58 : decode cX8_crosses 58 = .ok (.if_icmp .ge 12, 3) := by decide +kernel
theorem dX8_crosses_61 : decode cX8_crosses 61 = .ok (.aload_n 0, 1) := by decide +kernel
theorem dX8_crosses_62 : decode cX8_crosses 62 = .ok (.getfield 37, 3) := by decide +kernel
theorem dX8_crosses_65 : decode cX8_crosses 65 = .ok (.iload_n 3, 1) := by decide +kernel
theorem dX8_crosses_66 : decode cX8_crosses 66 = .ok (.iaload, 1) := by decide +kernel
theorem dX8_crosses_67 : decode cX8_crosses 67 = .ok (.goto 8, 3) := by decide +kernel
theorem dX8_crosses_70 : decode cX8_crosses 70 = .ok (.aload_n 0, 1) := by decide +kernel
theorem dX8_crosses_71 : decode cX8_crosses 71 = .ok (.iload_n 3, 1) := by decide +kernel
theorem dX8_crosses_72 : decode cX8_crosses 72 = .ok (.invokevirtual 144, 3) := by decide +kernel
theorem dX8_crosses_75 : decode cX8_crosses 75 = .ok (.istore 7, 2) := by decide +kernel
theorem dX8_crosses_77 : decode cX8_crosses 77 = .ok (.aload_n 0, 1) := by decide +kernel
theorem dX8_crosses_78 : decode cX8_crosses 78 = .ok (.getfield 37, 3) := by decide +kernel
theorem dX8_crosses_81 : decode cX8_crosses 81 = .ok (.iload_n 3, 1) := by decide +kernel
theorem dX8_crosses_82 : decode cX8_crosses 82 = .ok (.iaload, 1) := by decide +kernel
theorem dX8_crosses_83 : decode cX8_crosses 83 = .ok (.aload_n 0, 1) := by decide +kernel
theorem dX8_crosses_84 : decode cX8_crosses 84 = .ok (.iload_n 3, 1) := by decide +kernel
theorem dX8_crosses_85 : decode cX8_crosses 85 = .ok (.invokevirtual 144, 3) := by decide +kernel
theorem dX8_crosses_88 : decode cX8_crosses 88 = .ok (.iadd, 1) := by decide +kernel
theorem dX8_crosses_89 : decode cX8_crosses 89 = .ok (.iload 7, 2) := by decide +kernel
theorem dX8_crosses_91 : decode cX8_crosses 91 = .ok (.isub, 1) := by decide +kernel
theorem dX8_crosses_92 : decode cX8_crosses 92 = .ok (.istore 8, 2) := by decide +kernel
theorem dX8_crosses_94 : decode cX8_crosses 94 = .ok (.iload 5, 2) := by decide +kernel
theorem dX8_crosses_96 : decode cX8_crosses 96 = .ok (.iload 7, 2) := by decide +kernel
theorem dX8_crosses_98 : decode cX8_crosses 98 = .ok (.if_icmp .ne 39, 3) := by decide +kernel
theorem dX8_crosses_101 : decode cX8_crosses 101 = .ok (.iload 6, 2) := by decide +kernel
theorem dX8_crosses_103 : decode cX8_crosses 103 = .ok (.iload 8, 2) := by decide +kernel
theorem dX8_crosses_105 : decode cX8_crosses 105 = .ok (.if_icmp .ne 32, 3) := by decide +kernel
theorem dX8_crosses_108 : decode cX8_crosses 108 = .ok (.aload_n 0, 1) := by decide +kernel
theorem dX8_crosses_109 : decode cX8_crosses 109 = .ok (.iload_n 2, 1) := by decide +kernel
theorem dX8_crosses_110 : decode cX8_crosses 110 = .ok (.iload_n 1, 1) := by decide +kernel
theorem dX8_crosses_111 : decode cX8_crosses 111 = .ok (.iload 5, 2) := by decide +kernel
theorem dX8_crosses_113 : decode cX8_crosses 113 = .ok (.iload 6, 2) := by decide +kernel
theorem dX8_crosses_115 : decode cX8_crosses 115 = .ok (.invokevirtual 147, 3) := by decide +kernel
theorem dX8_crosses_118 : decode cX8_crosses 118 = .ok (.aload_n 0, 1) := by decide +kernel
theorem dX8_crosses_119 : decode cX8_crosses 119 = .ok (.iload 4, 2) := by decide +kernel
theorem dX8_crosses_121 : decode cX8_crosses 121 = .ok (.iload_n 3, 1) := by decide +kernel
theorem dX8_crosses_122 : decode cX8_crosses 122 = .ok (.iload 5, 2) := by decide +kernel
theorem dX8_crosses_124 : decode cX8_crosses 124 = .ok (.iload 6, 2) := by decide +kernel
theorem dX8_crosses_126 : decode cX8_crosses 126 = .ok (.invokevirtual 147, 3) := by decide +kernel
theorem dX8_crosses_129 : decode cX8_crosses 129 = .ok (.imul, 1) := by decide +kernel
theorem dX8_crosses_130 : decode cX8_crosses 130 = .ok (.ifCond .ge 7, 3) := by decide +kernel
theorem dX8_crosses_133 : decode cX8_crosses 133 = .ok (.iconst 1, 1) := by decide +kernel
theorem dX8_crosses_134 : decode cX8_crosses 134 = .ok (.goto 4, 3) := by decide +kernel
theorem dX8_crosses_137 : decode cX8_crosses 137 = .ok (.iconst 0, 1) := by decide +kernel
theorem dX8_crosses_138 : decode cX8_crosses 138 = .ok (.ireturn, 1) := by decide +kernel
theorem dX8_goes_0 : decode cX8_goes 0 = .ok (.iload 4, 2) := by decide +kernel
theorem dX8_goes_2 : decode cX8_goes 2 = .ok (.iload_n 3, 1) := by decide +kernel
theorem dX8_goes_3 : decode cX8_goes 3 = .ok (.ishr, 1) := by decide +kernel
theorem dX8_goes_4 : decode cX8_goes 4 = .ok (.iconst 1, 1) := by decide +kernel
theorem dX8_goes_5 : decode cX8_goes 5 = .ok (.iand, 1) := by decide +kernel
theorem dX8_goes_6 : decode cX8_goes 6 = .ok (.iconst 1, 1) := by decide +kernel
theorem dX8_goes_7 : decode cX8_goes 7 = .ok (.if_icmp .ne 21, 3) := by decide +kernel
theorem dX8_goes_10 : decode cX8_goes 10 = .ok (.aload_n 0, 1) := by decide +kernel
theorem dX8_goes_11 : decode cX8_goes 11 = .ok (.getfield 62, 3) := by decide +kernel
theorem dX8_goes_14 : decode cX8_goes 14 = .ok (.bipush 8, 2) := by decide +kernel
theorem dX8_goes_16 : decode cX8_goes 16 = .ok (.iload_n 3, 1) := by decide +kernel
theorem dX8_goes_17 : decode cX8_goes 17 = .ok (.imul, 1) := by decide +kernel
theorem dX8_goes_18 : decode cX8_goes 18 = .ok (.iload_n 1, 1) := by decide +kernel
theorem dX8_goes_19 : decode cX8_goes 19 = .ok (.iadd, 1) := by decide +kernel
theorem dX8_goes_20 : decode cX8_goes 20 = .ok (.baload, 1) := by decide +kernel
theorem dX8_goes_21 : decode cX8_goes 21 = .ok (.ifCond .eq 7, 3) := by decide +kernel
theorem dX8_goes_24 : decode cX8_goes 24 = .ok (.iconst 1, 1) := by decide +kernel
theorem dX8_goes_25 : decode cX8_goes 25 = .ok (.goto 4, 3) := by decide +kernel
theorem dX8_goes_28 : decode cX8_goes 28 = .ok (.iconst 0, 1) := by decide +kernel
theorem dX8_goes_29 : decode cX8_goes 29 = .ok (.istore 5, 2) := by decide +kernel
theorem dX8_goes_31 : decode cX8_goes 31 = .ok (.iload 5, 2) := by decide +kernel
theorem dX8_goes_33 : decode cX8_goes 33 = .ok (.ifCond .eq 45, 3) := by decide +kernel
theorem dX8_goes_36 : decode cX8_goes 36 = .ok (.aload_n 0, 1) := by decide +kernel
theorem dX8_goes_37 : decode cX8_goes 37 = .ok (.getfield 34, 3) := by decide +kernel
theorem dX8_goes_40 : decode cX8_goes 40 = .ok (.iload_n 1, 1) := by decide +kernel
theorem dX8_goes_41 : decode cX8_goes 41 = .ok (.iaload, 1) := by decide +kernel
theorem dX8_goes_42 : decode cX8_goes 42 = .ok (.iconst 1, 1) := by decide +kernel
theorem dX8_goes_43 : decode cX8_goes 43 = .ok (.if_icmp .ne 35, 3) := by decide +kernel
theorem dX8_goes_46 : decode cX8_goes 46 = .ok (.iload_n 2, 1) := by decide +kernel
theorem dX8_goes_47 : decode cX8_goes 47 = .ok (.bipush 10, 2) := by decide +kernel
theorem dX8_goes_49 : decode cX8_goes 49 = .ok (.if_icmp .ge 29, 3) := by decide +kernel
theorem dX8_goes_52 : decode cX8_goes 52 = .ok (.aload_n 0, 1) := by decide +kernel
theorem dX8_goes_53 : decode cX8_goes 53 = .ok (.iload_n 1, 1) := by decide +kernel
theorem dX8_goes_54 : decode cX8_goes 54 = .ok (.invokevirtual 154, 3) := by decide +kernel
theorem dX8_goes_57 : decode cX8_goes 57 = .ok (.iconst (-1), 1) := by decide +kernel
theorem dX8_goes_58 : decode cX8_goes 58 = .ok (.if_icmp .eq 20, 3) := by decide +kernel
theorem dX8_goes_61 : decode cX8_goes 61 = .ok (.aload_n 0, 1) := by decide +kernel
theorem dX8_goes_62 : decode cX8_goes 62 = .ok (.aload_n 0, 1) := by decide +kernel
theorem dX8_goes_63 : decode cX8_goes 63 = .ok (.iload_n 1, 1) := by decide +kernel
theorem dX8_goes_64 : decode cX8_goes 64 = .ok (.invokevirtual 154, 3) := by decide +kernel
theorem dX8_goes_67 : decode cX8_goes 67 = .ok (.iload_n 2, 1) := by decide +kernel
theorem dX8_goes_68 : decode cX8_goes 68 = .ok (.iload_n 1, 1) := by decide +kernel
theorem dX8_goes_69 : decode cX8_goes 69 = .ok (.iload_n 3, 1) := by decide +kernel
theorem dX8_goes_70 : decode cX8_goes 70 = .ok (.invokevirtual 157, 3) := by decide +kernel
theorem dX8_goes_73 : decode cX8_goes 73 = .ok (.ifCond .eq 5, 3) := by decide +kernel
theorem dX8_goes_76 : decode cX8_goes 76 = .ok (.iconst 0, 1) := by decide +kernel
theorem dX8_goes_77 : decode cX8_goes 77 = .ok (.ireturn, 1) := by decide +kernel
theorem dX8_goes_78 : decode cX8_goes 78 = .ok (.iload 5, 2) := by decide +kernel
theorem dX8_goes_80 : decode cX8_goes 80 = .ok (.ifCond .eq 37, 3) := by decide +kernel
theorem dX8_goes_83 : decode cX8_goes 83 = .ok (.aload_n 0, 1) := by decide +kernel
theorem dX8_goes_84 : decode cX8_goes 84 = .ok (.getfield 66, 3) := by decide +kernel
theorem dX8_goes_87 : decode cX8_goes 87 = .ok (.bipush 11, 2) := by decide +kernel
theorem dX8_goes_89 : decode cX8_goes 89 = .ok (.iload_n 1, 1) := by decide +kernel
theorem dX8_goes_90 : decode cX8_goes 90 = .ok (.iconst 1, 1) := by decide +kernel
theorem dX8_goes_91 : decode cX8_goes 91 = .ok (.iadd, 1) := by decide +kernel
theorem dX8_goes_92 : decode cX8_goes 92 = .ok (.imul, 1) := by decide +kernel
theorem dX8_goes_93 : decode cX8_goes 93 = .ok (.aload_n 0, 1) := by decide +kernel
theorem dX8_goes_94 : decode cX8_goes 94 = .ok (.getfield 34, 3) := by decide +kernel
theorem dX8_goes_97 : decode cX8_goes 97 = .ok (.iload_n 1, 1) := by decide +kernel
theorem dX8_goes_98 : decode cX8_goes 98 = .ok (.iaload, 1) := by decide +kernel
theorem dX8_goes_99 : decode cX8_goes 99 = .ok (.iconst 1, 1) := by decide +kernel
theorem dX8_goes_100 : decode cX8_goes 100 = .ok (.if_icmp .ne 7, 3) := by decide +kernel
theorem dX8_goes_103 : decode cX8_goes 103 = .ok (.iload_n 3, 1) := by decide +kernel
theorem dX8_goes_104 : decode cX8_goes 104 = .ok (.goto 4, 3) := by decide +kernel
theorem dX8_goes_107 : decode cX8_goes 107 = .ok (.iload_n 2, 1) := by decide +kernel
theorem dX8_goes_108 : decode cX8_goes 108 = .ok (.iadd, 1) := by decide +kernel
theorem dX8_goes_109 : decode cX8_goes 109 = .ok (.baload, 1) := by decide +kernel
theorem dX8_goes_110 : decode cX8_goes 110 = .ok (.ifCond .eq 7, 3) := by decide +kernel
theorem dX8_goes_113 : decode cX8_goes 113 = .ok (.iconst 1, 1) := by decide +kernel
theorem dX8_goes_114 : decode cX8_goes 114 = .ok (.goto 4, 3) := by decide +kernel
theorem dX8_goes_117 : decode cX8_goes 117 = .ok (.iconst 0, 1) := by decide +kernel
theorem dX8_goes_118 : decode cX8_goes 118 = .ok (.ireturn, 1) := by decide +kernel
theorem dX8_plans_0 : decode cX8_plans 0 = .ok (.aload_n 0, 1) := by decide +kernel
theorem dX8_plans_1 : decode cX8_plans 1 = .ok (.getfield 82, 3) := by decide +kernel
theorem dX8_plans_4 : decode cX8_plans 4 = .ok (.istore_n 2, 1) := by decide +kernel
theorem dX8_plans_5 : decode cX8_plans 5 = .ok (.iload_n 2, 1) := by decide +kernel
theorem dX8_plans_6 : decode cX8_plans 6 = .ok (.ifCond .lt 115, 3) := by decide +kernel
theorem dX8_plans_9 : decode cX8_plans 9 = .ok (.iconst 0, 1) := by decide +kernel
theorem dX8_plans_10 : decode cX8_plans 10 = .ok (.istore_n 3, 1) := by decide +kernel
theorem dX8_plans_11 : decode cX8_plans 11 = .ok (.iload_n 3, 1) := by decide +kernel
theorem dX8_plans_12 : decode cX8_plans 12 = .ok (.bipush 10, 2) := by decide +kernel
theorem dX8_plans_14 : decode cX8_plans 14 = .ok (.if_icmp .gt 101, 3) := by decide +kernel
theorem dX8_plans_17 : decode cX8_plans 17 = .ok (.aload_n 0, 1) := by decide +kernel
theorem dX8_plans_18 : decode cX8_plans 18 = .ok (.getfield 66, 3) := by decide +kernel
theorem dX8_plans_21 : decode cX8_plans 21 = .ok (.bipush 11, 2) := by decide +kernel
theorem dX8_plans_23 : decode cX8_plans 23 = .ok (.iload_n 2, 1) := by decide +kernel
theorem dX8_plans_24 : decode cX8_plans 24 = .ok (.imul, 1) := by decide +kernel
theorem dX8_plans_25 : decode cX8_plans 25 = .ok (.iload_n 3, 1) := by decide +kernel
theorem dX8_plans_26 : decode cX8_plans 26 = .ok (.iadd, 1) := by decide +kernel
theorem dX8_plans_27 : decode cX8_plans 27 = .ok (.iload_n 2, 1) := by decide +kernel
theorem dX8_plans_28 : decode cX8_plans 28 = .ok (.aload_n 0, 1) := by decide +kernel
theorem dX8_plans_29 : decode cX8_plans 29 = .ok (.getfield 82, 3) := by decide +kernel
theorem dX8_plans_32 : decode cX8_plans 32 = .ok (.if_icmp .ne 7, 3) := by decide +kernel
theorem dX8_plans_35 : decode cX8_plans 35 = .ok (.iconst 1, 1) := by decide +kernel
theorem dX8_plans_36 : decode cX8_plans 36 = .ok (.goto 4, 3) := by decide +kernel
theorem dX8_plans_39 : decode cX8_plans 39 = .ok (.iconst 0, 1) := by decide +kernel
theorem dX8_plans_40 : decode cX8_plans 40 = .ok (.bastore, 1) := by decide +kernel
theorem dX8_plans_41 : decode cX8_plans 41 = .ok (.iconst 0, 1) := by decide +kernel
theorem dX8_plans_42 : decode cX8_plans 42 = .ok (.istore 4, 2) := by decide +kernel
theorem dX8_plans_44 : decode cX8_plans 44 = .ok (.iload 4, 2) := by decide +kernel
theorem dX8_plans_46 : decode cX8_plans 46 = .ok (.aload_n 0, 1) := by decide +kernel
theorem dX8_plans_47 : decode cX8_plans 47 = .ok (.getfield 79, 3) := by decide +kernel
theorem dX8_plans_50 : decode cX8_plans 50 = .ok (.if_icmp .ge 59, 3) := by decide +kernel
theorem dX8_plans_53 : decode cX8_plans 53 = .ok (.iload_n 2, 1) := by decide +kernel
theorem dX8_plans_54 : decode cX8_plans 54 = .ok (.aload_n 0, 1) := by decide +kernel
theorem dX8_plans_55 : decode cX8_plans 55 = .ok (.getfield 82, 3) := by decide +kernel
theorem dX8_plans_58 : decode cX8_plans 58 = .ok (.if_icmp .ge 51, 3) := by decide +kernel
theorem dX8_plans_61 : decode cX8_plans 61 = .ok (.aload_n 0, 1) := by decide +kernel
theorem dX8_plans_62 : decode cX8_plans 62 = .ok (.getfield 66, 3) := by decide +kernel
theorem dX8_plans_65 : decode cX8_plans 65 = .ok (.bipush 11, 2) := by decide +kernel
theorem dX8_plans_67 : decode cX8_plans 67 = .ok (.iload_n 2, 1) := by decide +kernel
theorem dX8_plans_68 : decode cX8_plans 68 = .ok (.imul, 1) := by decide +kernel
theorem dX8_plans_69 : decode cX8_plans 69 = .ok (.iload_n 3, 1) := by decide +kernel
theorem dX8_plans_70 : decode cX8_plans 70 = .ok (.iadd, 1) := by decide +kernel
theorem dX8_plans_71 : decode cX8_plans 71 = .ok (.aload_n 0, 1) := by decide +kernel
theorem dX8_plans_72 : decode cX8_plans 72 = .ok (.getfield 66, 3) := by decide +kernel
theorem dX8_plans_75 : decode cX8_plans 75 = .ok (.bipush 11, 2) := by decide +kernel
theorem dX8_plans_77 : decode cX8_plans 77 = .ok (.iload_n 2, 1) := by decide +kernel
theorem dX8_plans_78 : decode cX8_plans 78 = .ok (.imul, 1) := by decide +kernel
theorem dX8_plans_79 : decode cX8_plans 79 = .ok (.iload_n 3, 1) := by decide +kernel
theorem dX8_plans_80 : decode cX8_plans 80 = .ok (.iadd, 1) := by decide +kernel
theorem dX8_plans_81 : decode cX8_plans 81 = .ok (.baload, 1) := by decide +kernel
theorem dX8_plans_82 : decode cX8_plans 82 = .ok (.ifCond .ne 15, 3) := by decide +kernel
theorem dX8_plans_85 : decode cX8_plans 85 = .ok (.aload_n 0, 1) := by decide +kernel
theorem dX8_plans_86 : decode cX8_plans 86 = .ok (.iload_n 2, 1) := by decide +kernel
theorem dX8_plans_87 : decode cX8_plans 87 = .ok (.iload_n 3, 1) := by decide +kernel
theorem dX8_plans_88 : decode cX8_plans 88 = .ok (.iload 4, 2) := by decide +kernel
theorem dX8_plans_90 : decode cX8_plans 90 = .ok (.iload_n 1, 1) := by decide +kernel
theorem dX8_plans_91 : decode cX8_plans 91 = .ok (.invokevirtual 160, 3) := by decide +kernel
theorem dX8_plans_94 : decode cX8_plans 94 = .ok (.ifCond .eq 7, 3) := by decide +kernel
theorem dX8_plans_97 : decode cX8_plans 97 = .ok (.iconst 1, 1) := by decide +kernel
theorem dX8_plans_98 : decode cX8_plans 98 = .ok (.goto 4, 3) := by decide +kernel
theorem dX8_plans_101 : decode cX8_plans 101 = .ok (.iconst 0, 1) := by decide +kernel
theorem dX8_plans_102 : decode cX8_plans 102 = .ok (.bastore, 1) := by decide +kernel
theorem dX8_plans_103 : decode cX8_plans 103 = .ok (.iinc 4 1, 3) := by decide +kernel
theorem dX8_plans_106 : decode cX8_plans 106 = .ok (.goto (-62), 3) := by decide +kernel
theorem dX8_plans_109 : decode cX8_plans 109 = .ok (.iinc 3 1, 3) := by decide +kernel
theorem dX8_plans_112 : decode cX8_plans 112 = .ok (.goto (-101), 3) := by decide +kernel
theorem dX8_plans_115 : decode cX8_plans 115 = .ok (.iinc 2 (-1), 3) := by decide +kernel
theorem dX8_plans_118 : decode cX8_plans 118 = .ok (.goto (-113), 3) := by decide +kernel
theorem dX8_plans_121 : decode cX8_plans 121 = .ok (.bipush 10, 2) := by decide +kernel
theorem dX8_plans_123 : decode cX8_plans 123 = .ok (.istore_n 2, 1) := by decide +kernel
theorem dX8_plans_124 : decode cX8_plans 124 = .ok (.iconst 0, 1) := by decide +kernel
theorem dX8_plans_125 : decode cX8_plans 125 = .ok (.istore_n 3, 1) := by decide +kernel
theorem dX8_plans_126 : decode cX8_plans 126 = .ok (.iload_n 3, 1) := by decide +kernel
theorem dX8_plans_127 : decode cX8_plans 127 = .ok (.aload_n 0, 1) := by decide +kernel
theorem dX8_plans_128 : decode cX8_plans 128 = .ok (.getfield 82, 3) := by decide +kernel
theorem dX8_plans_131 : decode cX8_plans 131 = .ok (.if_icmp .ge 65, 3) := by decide +kernel
theorem dX8_plans_134 : decode cX8_plans 134 = .ok (.aload_n 0, 1) := by decide +kernel
theorem dX8_plans_135 : decode cX8_plans 135 = .ok (.getfield 66, 3) := by decide +kernel
theorem dX8_plans_138 : decode cX8_plans 138 = .ok (.bipush 10, 2) := by decide +kernel
theorem dX8_plans_140 : decode cX8_plans 140 = .ok (.baload, 1) := by decide +kernel
theorem dX8_plans_141 : decode cX8_plans 141 = .ok (.ifCond .eq 55, 3) := by decide +kernel
theorem dX8_plans_144 : decode cX8_plans 144 = .ok (.iconst 0, 1) := by decide +kernel
theorem dX8_plans_145 : decode cX8_plans 145 = .ok (.istore 4, 2) := by decide +kernel
theorem dX8_plans_147 : decode cX8_plans 147 = .ok (.aload_n 0, 1) := by decide +kernel
theorem dX8_plans_148 : decode cX8_plans 148 = .ok (.iload_n 3, 1) := by decide +kernel
theorem dX8_plans_149 : decode cX8_plans 149 = .ok (.iload_n 2, 1) := by decide +kernel
theorem dX8_plans_150 : decode cX8_plans 150 = .ok (.iload 4, 2) := by decide +kernel
theorem dX8_plans_152 : decode cX8_plans 152 = .ok (.iload_n 1, 1) := by decide +kernel
theorem dX8_plans_153 : decode cX8_plans 153 = .ok (.invokevirtual 160, 3) := by decide +kernel
theorem dX8_plans_156 : decode cX8_plans 156 = .ok (.ifCond .ne 9, 3) := by decide +kernel
theorem dX8_plans_159 : decode cX8_plans 159 = .ok (.iinc 4 1, 3) := by decide +kernel
theorem dX8_plans_162 : decode cX8_plans 162 = .ok (.goto (-15), 3) := by decide +kernel
theorem dX8_plans_165 : decode cX8_plans 165 = .ok (.aload_n 0, 1) := by decide +kernel
theorem dX8_plans_166 : decode cX8_plans 166 = .ok (.getfield 69, 3) := by decide +kernel
theorem dX8_plans_169 : decode cX8_plans 169 = .ok (.iload_n 3, 1) := by decide +kernel
theorem dX8_plans_170 : decode cX8_plans 170 = .ok (.iload 4, 2) := by decide +kernel
theorem dX8_plans_172 : decode cX8_plans 172 = .ok (.iastore, 1) := by decide +kernel
theorem dX8_plans_173 : decode cX8_plans 173 = .ok (.aload_n 0, 1) := by decide +kernel
theorem dX8_plans_174 : decode cX8_plans 174 = .ok (.getfield 34, 3) := by decide +kernel
theorem dX8_plans_177 : decode cX8_plans 177 = .ok (.iload_n 3, 1) := by decide +kernel
theorem dX8_plans_178 : decode cX8_plans 178 = .ok (.iaload, 1) := by decide +kernel
theorem dX8_plans_179 : decode cX8_plans 179 = .ok (.iconst 1, 1) := by decide +kernel
theorem dX8_plans_180 : decode cX8_plans 180 = .ok (.if_icmp .ne 8, 3) := by decide +kernel
theorem dX8_plans_183 : decode cX8_plans 183 = .ok (.iload 4, 2) := by decide +kernel
theorem dX8_plans_185 : decode cX8_plans 185 = .ok (.goto 4, 3) := by decide +kernel
theorem dX8_plans_188 : decode cX8_plans 188 = .ok (.iload_n 2, 1) := by decide +kernel
theorem dX8_plans_189 : decode cX8_plans 189 = .ok (.istore_n 2, 1) := by decide +kernel
theorem dX8_plans_190 : decode cX8_plans 190 = .ok (.iinc 3 1, 3) := by decide +kernel
theorem dX8_plans_193 : decode cX8_plans 193 = .ok (.goto (-67), 3) := by decide +kernel
theorem dX8_plans_196 : decode cX8_plans 196 = .ok (.aload_n 0, 1) := by decide +kernel
theorem dX8_plans_197 : decode cX8_plans 197 = .ok (.getfield 66, 3) := by decide +kernel
theorem dX8_plans_200 : decode cX8_plans 200 = .ok (.bipush 10, 2) := by decide +kernel
theorem dX8_plans_202 : decode cX8_plans 202 = .ok (.baload, 1) := by decide +kernel
theorem dX8_plans_203 : decode cX8_plans 203 = .ok (.ireturn, 1) := by decide +kernel
theorem dX8_bits_0 : decode cX8_bits 0 = .ok (.iconst 0, 1) := by decide +kernel
theorem dX8_bits_1 : decode cX8_bits 1 = .ok (.istore_n 1, 1) := by decide +kernel
theorem dX8_bits_2 : decode cX8_bits 2 = .ok (.iconst 0, 1) := by decide +kernel
theorem dX8_bits_3 : decode cX8_bits 3 = .ok (.istore_n 2, 1) := by decide +kernel
theorem dX8_bits_4 : decode cX8_bits 4 = .ok (.iload_n 2, 1) := by decide +kernel
theorem dX8_bits_5 : decode cX8_bits 5 = .ok (.bipush 10, 2) := by decide +kernel
theorem dX8_bits_7 : decode cX8_bits 7 = .ok (.if_icmp .ge 17, 3) := by decide +kernel
theorem dX8_bits_10 : decode cX8_bits 10 = .ok (.iload_n 1, 1) := by decide +kernel
theorem dX8_bits_11 : decode cX8_bits 11 = .ok (.iload_n 0, 1) := by decide +kernel
theorem dX8_bits_12 : decode cX8_bits 12 = .ok (.iload_n 2, 1) := by decide +kernel
theorem dX8_bits_13 : decode cX8_bits 13 = .ok (.ishr, 1) := by decide +kernel
theorem dX8_bits_14 : decode cX8_bits 14 = .ok (.iconst 1, 1) := by decide +kernel
theorem dX8_bits_15 : decode cX8_bits 15 = .ok (.iand, 1) := by decide +kernel
theorem dX8_bits_16 : decode cX8_bits 16 = .ok (.iadd, 1) := by decide +kernel
theorem dX8_bits_17 : decode cX8_bits 17 = .ok (.istore_n 1, 1) := by decide +kernel
theorem dX8_bits_18 : decode cX8_bits 18 = .ok (.iinc 2 1, 3) := by decide +kernel
theorem dX8_bits_21 : decode cX8_bits 21 = .ok (.goto (-17), 3) := by decide +kernel
theorem dX8_bits_24 : decode cX8_bits 24 = .ok (.iload_n 1, 1) := by decide +kernel
theorem dX8_bits_25 : decode cX8_bits 25 = .ok (.ireturn, 1) := by decide +kernel
theorem dX8_finds_0 : decode cX8_finds 0 = .ok (.iconst 0, 1) := by decide +kernel
theorem dX8_finds_1 : decode cX8_finds 1 = .ok (.istore_n 1, 1) := by decide +kernel
theorem dX8_finds_2 : decode cX8_finds 2 = .ok (.iload_n 1, 1) := by decide +kernel
theorem dX8_finds_3 : decode cX8_finds 3 = .ok (.aload_n 0, 1) := by decide +kernel
theorem dX8_finds_4 : decode cX8_finds 4 = .ok (.getfield 79, 3) := by decide +kernel
theorem dX8_finds_7 : decode cX8_finds 7 = .ok (.if_icmp .ge 50, 3) := by decide +kernel
theorem dX8_finds_10 : decode cX8_finds 10 = .ok (.iconst 0, 1) := by decide +kernel
theorem dX8_finds_11 : decode cX8_finds 11 = .ok (.istore_n 2, 1) := by decide +kernel
theorem dX8_finds_12 : decode cX8_finds 12 = .ok (.iload_n 2, 1) := by decide +kernel
theorem dX8_finds_13 : decode cX8_finds 13 = .ok (.aload_n 0, 1) := by decide +kernel
theorem dX8_finds_14 : decode cX8_finds 14 = .ok (.getfield 82, 3) := by decide +kernel
theorem dX8_finds_17 : decode cX8_finds 17 = .ok (.if_icmp .ge 34, 3) := by decide +kernel
theorem dX8_finds_20 : decode cX8_finds 20 = .ok (.aload_n 0, 1) := by decide +kernel
theorem dX8_finds_21 : decode cX8_finds 21 = .ok (.getfield 62, 3) := by decide +kernel
theorem dX8_finds_24 : decode cX8_finds 24 = .ok (.bipush 8, 2) := by decide +kernel
theorem dX8_finds_26 : decode cX8_finds 26 = .ok (.iload_n 1, 1) := by decide +kernel
theorem dX8_finds_27 : decode cX8_finds 27 = .ok (.imul, 1) := by decide +kernel
theorem dX8_finds_28 : decode cX8_finds 28 = .ok (.iload_n 2, 1) := by decide +kernel
theorem dX8_finds_29 : decode cX8_finds 29 = .ok (.iadd, 1) := by decide +kernel
theorem dX8_finds_30 : decode cX8_finds 30 = .ok (.aload_n 0, 1) := by decide +kernel
theorem dX8_finds_31 : decode cX8_finds 31 = .ok (.iload_n 1, 1) := by decide +kernel
theorem dX8_finds_32 : decode cX8_finds 32 = .ok (.iload_n 2, 1) := by decide +kernel
theorem dX8_finds_33 : decode cX8_finds 33 = .ok (.invokevirtual 141, 3) := by decide +kernel
theorem dX8_finds_36 : decode cX8_finds 36 = .ok (.ifCond .ne 7, 3) := by decide +kernel
theorem dX8_finds_39 : decode cX8_finds 39 = .ok (.iconst 1, 1) := by decide +kernel
theorem dX8_finds_40 : decode cX8_finds 40 = .ok (.goto 4, 3) := by decide +kernel
theorem dX8_finds_43 : decode cX8_finds 43 = .ok (.iconst 0, 1) := by decide +kernel
theorem dX8_finds_44 : decode cX8_finds 44 = .ok (.bastore, 1) := by decide +kernel
theorem dX8_finds_45 : decode cX8_finds 45 = .ok (.iinc 2 1, 3) := by decide +kernel
theorem dX8_finds_48 : decode cX8_finds 48 = .ok (.goto (-36), 3) := by decide +kernel
theorem dX8_finds_51 : decode cX8_finds 51 = .ok (.iinc 1 1, 3) := by decide +kernel
theorem dX8_finds_54 : decode cX8_finds 54 = .ok (.goto (-52), 3) := by decide +kernel
theorem dX8_finds_57 : decode cX8_finds 57 = .ok (.iconst 0, 1) := by decide +kernel
theorem dX8_finds_58 : decode cX8_finds 58 = .ok (.istore_n 1, 1) := by decide +kernel
theorem dX8_finds_59 : decode cX8_finds 59 = .ok (.iload_n 1, 1) := by decide +kernel
theorem dX8_finds_60 : decode cX8_finds 60 = .ok (.aload_n 0, 1) := by decide +kernel
theorem dX8_finds_61 : decode cX8_finds 61 = .ok (.getfield 79, 3) := by decide +kernel
theorem dX8_finds_64 : decode cX8_finds 64 = .ok (.if_icmp .gt 50, 3) := by decide +kernel
theorem dX8_finds_67 : decode cX8_finds 67 = .ok (.iconst 0, 1) := by decide +kernel
theorem dX8_finds_68 : decode cX8_finds 68 = .ok (.istore_n 2, 1) := by decide +kernel
theorem dX8_finds_69 : decode cX8_finds 69 = .ok (.iload_n 2, 1) := by decide +kernel
theorem dX8_finds_70 : decode cX8_finds 70 = .ok (.iconst 1, 1) := by decide +kernel
theorem dX8_finds_71 : decode cX8_finds 71 = .ok (.aload_n 0, 1) := by decide +kernel
theorem dX8_finds_72 : decode cX8_finds 72 = .ok (.getfield 79, 3) := by decide +kernel
theorem dX8_finds_75 : decode cX8_finds 75 = .ok (.ishl, 1) := by decide +kernel
theorem dX8_finds_76 : decode cX8_finds 76 = .ok (.if_icmp .ge 32, 3) := by decide +kernel
theorem dX8_finds_79 : decode cX8_finds 79 = .ok (.iload_n 2, 1) := by decide +kernel
theorem dX8_finds_80 : decode cX8_finds 80 = .ok (.invokestatic 163, 3) := by decide +kernel
theorem dX8_finds_83 : decode cX8_finds 83 = .ok (.iload_n 1, 1) := by decide +kernel
theorem dX8_finds_84 : decode cX8_finds 84 = .ok (.if_icmp .ne 18, 3) := by decide +kernel
theorem dX8_finds_87 : decode cX8_finds 87 = .ok (.aload_n 0, 1) := by decide +kernel
theorem dX8_finds_88 : decode cX8_finds 88 = .ok (.iload_n 2, 1) := by decide +kernel
theorem dX8_finds_89 : decode cX8_finds 89 = .ok (.invokevirtual 166, 3) := by decide +kernel
theorem dX8_finds_92 : decode cX8_finds 92 = .ok (.ifCond .eq 10, 3) := by decide +kernel
theorem dX8_finds_95 : decode cX8_finds 95 = .ok (.aload_n 0, 1) := by decide +kernel
theorem dX8_finds_96 : decode cX8_finds 96 = .ok (.iload_n 2, 1) := by decide +kernel
theorem dX8_finds_97 : decode cX8_finds 97 = .ok (.putfield 169, 3) := by decide +kernel
theorem dX8_finds_100 : decode cX8_finds 100 = .ok (.iload_n 1, 1) := by decide +kernel
theorem dX8_finds_101 : decode cX8_finds 101 = .ok (.ireturn, 1) := by decide +kernel
theorem dX8_finds_102 : decode cX8_finds 102 = .ok (.iinc 2 1, 3) := by decide +kernel
theorem dX8_finds_105 : decode cX8_finds 105 = .ok (.goto (-36), 3) := by decide +kernel
theorem dX8_finds_108 : decode cX8_finds 108 = .ok (.iinc 1 1, 3) := by decide +kernel
theorem dX8_finds_111 : decode cX8_finds 111 = .ok (.goto (-52), 3) := by decide +kernel
theorem dX8_finds_114 : decode cX8_finds 114 = .ok (.bipush (-5), 2) := by decide +kernel
theorem dX8_finds_116 : decode cX8_finds 116 = .ok (.ireturn, 1) := by decide +kernel
theorem dX8_fewest_0 : decode cX8_fewest 0 = .ok (.aload_n 0, 1) := by decide +kernel
theorem dX8_fewest_1 : decode cX8_fewest 1 = .ok (.invokevirtual 172, 3) := by decide +kernel
theorem dX8_fewest_4 : decode cX8_fewest 4 = .ok (.ireturn, 1) := by decide +kernel
theorem dX8_plan_0 : decode cX8_plan 0 = .ok (.aload_n 0, 1) := by decide +kernel
theorem dX8_plan_1 : decode cX8_plan 1 = .ok (.iload_n 1, 1) := by decide +kernel
theorem dX8_plan_2 : decode cX8_plan 2 = .ok (.invokevirtual 138, 3) := by decide +kernel
theorem dX8_plan_5 : decode cX8_plan 5 = .ok (.ifCond .ne 5, 3) := by decide +kernel
theorem dX8_plan_8 : decode cX8_plan 8 = .ok (.iconst (-1), 1) := by decide +kernel
theorem dX8_plan_9 : decode cX8_plan 9 = .ok (.ireturn, 1) := by decide +kernel
theorem dX8_plan_10 : decode cX8_plan 10 = .ok (.aload_n 0, 1) := by decide +kernel
theorem dX8_plan_11 : decode cX8_plan 11 = .ok (.invokevirtual 172, 3) := by decide +kernel
theorem dX8_plan_14 : decode cX8_plan 14 = .ok (.bipush (-5), 2) := by decide +kernel
theorem dX8_plan_16 : decode cX8_plan 16 = .ok (.if_icmp .ne 8, 3) := by decide +kernel
theorem dX8_plan_19 : decode cX8_plan 19 = .ok (.bipush (-5), 2) := by decide +kernel
theorem dX8_plan_21 : decode cX8_plan 21 = .ok (.goto 9, 3) := by decide +kernel
theorem dX8_plan_24 : decode cX8_plan 24 = .ok (.aload_n 0, 1) := by decide +kernel
theorem dX8_plan_25 : decode cX8_plan 25 = .ok (.getfield 69, 3) := by decide +kernel
theorem dX8_plan_28 : decode cX8_plan 28 = .ok (.iload_n 1, 1) := by decide +kernel
theorem dX8_plan_29 : decode cX8_plan 29 = .ok (.iaload, 1) := by decide +kernel
theorem dX8_plan_30 : decode cX8_plan 30 = .ok (.ireturn, 1) := by decide +kernel
theorem dX8_swings_0 : decode cX8_swings 0 = .ok (.aload_n 0, 1) := by decide +kernel
theorem dX8_swings_1 : decode cX8_swings 1 = .ok (.invokevirtual 172, 3) := by decide +kernel
theorem dX8_swings_4 : decode cX8_swings 4 = .ok (.bipush (-5), 2) := by decide +kernel
theorem dX8_swings_6 : decode cX8_swings 6 = .ok (.if_icmp .ne 6, 3) := by decide +kernel
theorem dX8_swings_9 : decode cX8_swings 9 = .ok (.bipush (-5), 2) := by decide +kernel
theorem dX8_swings_11 : decode cX8_swings 11 = .ok (.ireturn, 1) := by decide +kernel
theorem dX8_swings_12 : decode cX8_swings 12 = .ok (.iconst 0, 1) := by decide +kernel
theorem dX8_swings_13 : decode cX8_swings 13 = .ok (.istore_n 1, 1) := by decide +kernel
theorem dX8_swings_14 : decode cX8_swings 14 = .ok (.iconst 1, 1) := by decide +kernel
theorem dX8_swings_15 : decode cX8_swings 15 = .ok (.istore_n 2, 1) := by decide +kernel
theorem dX8_swings_16 : decode cX8_swings 16 = .ok (.iload_n 2, 1) := by decide +kernel
theorem dX8_swings_17 : decode cX8_swings 17 = .ok (.aload_n 0, 1) := by decide +kernel
theorem dX8_swings_18 : decode cX8_swings 18 = .ok (.getfield 82, 3) := by decide +kernel
theorem dX8_swings_21 : decode cX8_swings 21 = .ok (.if_icmp .ge 44, 3) := by decide +kernel
theorem dX8_swings_24 : decode cX8_swings 24 = .ok (.iload_n 1, 1) := by decide +kernel
theorem dX8_swings_25 : decode cX8_swings 25 = .ok (.aload_n 0, 1) := by decide +kernel
theorem dX8_swings_26 : decode cX8_swings 26 = .ok (.getfield 31, 3) := by decide +kernel
theorem dX8_swings_29 : decode cX8_swings 29 = .ok (.aload_n 0, 1) := by decide +kernel
theorem dX8_swings_30 : decode cX8_swings 30 = .ok (.getfield 69, 3) := by decide +kernel
theorem dX8_swings_33 : decode cX8_swings 33 = .ok (.iload_n 2, 1) := by decide +kernel
theorem dX8_swings_34 : decode cX8_swings 34 = .ok (.iaload, 1) := by decide +kernel
theorem dX8_swings_35 : decode cX8_swings 35 = .ok (.iaload, 1) := by decide +kernel
theorem dX8_swings_36 : decode cX8_swings 36 = .ok (.aload_n 0, 1) := by decide +kernel
theorem dX8_swings_37 : decode cX8_swings 37 = .ok (.getfield 31, 3) := by decide +kernel
theorem dX8_swings_40 : decode cX8_swings 40 = .ok (.aload_n 0, 1) := by decide +kernel
theorem dX8_swings_41 : decode cX8_swings 41 = .ok (.getfield 69, 3) := by decide +kernel
theorem dX8_swings_44 : decode cX8_swings 44 = .ok (.iload_n 2, 1) := by decide +kernel
theorem dX8_swings_45 : decode cX8_swings 45 = .ok (.iconst 1, 1) := by decide +kernel
theorem dX8_swings_46 : decode cX8_swings 46 = .ok (.isub, 1) := by decide +kernel
theorem dX8_swings_47 : decode cX8_swings 47 = .ok (.iaload, 1) := by decide +kernel
theorem dX8_swings_48 : decode cX8_swings 48 = .ok (.iaload, 1) := by decide +kernel
theorem dX8_swings_49 : decode cX8_swings 49 = .ok (.if_icmp .eq 7, 3) := by decide +kernel
theorem dX8_swings_52 : decode cX8_swings 52 = .ok (.iconst 1, 1) := by decide +kernel
theorem dX8_swings_53 : decode cX8_swings 53 = .ok (.goto 4, 3) := by decide +kernel
theorem dX8_swings_56 : decode cX8_swings 56 = .ok (.iconst 0, 1) := by decide +kernel
theorem dX8_swings_57 : decode cX8_swings 57 = .ok (.iadd, 1) := by decide +kernel
theorem dX8_swings_58 : decode cX8_swings 58 = .ok (.istore_n 1, 1) := by decide +kernel
theorem dX8_swings_59 : decode cX8_swings 59 = .ok (.iinc 2 1, 3) := by decide +kernel
theorem dX8_swings_62 : decode cX8_swings 62 = .ok (.goto (-46), 3) := by decide +kernel
theorem dX8_swings_65 : decode cX8_swings 65 = .ok (.iload_n 1, 1) := by decide +kernel
theorem dX8_swings_66 : decode cX8_swings 66 = .ok (.ireturn, 1) := by decide +kernel
theorem dX8_changes_0 : decode cX8_changes 0 = .ok (.iconst 0, 1) := by decide +kernel
theorem dX8_changes_1 : decode cX8_changes 1 = .ok (.istore_n 3, 1) := by decide +kernel
theorem dX8_changes_2 : decode cX8_changes 2 = .ok (.iload_n 2, 1) := by decide +kernel
theorem dX8_changes_3 : decode cX8_changes 3 = .ok (.iconst (-1), 1) := by decide +kernel
theorem dX8_changes_4 : decode cX8_changes 4 = .ok (.if_icmp .ne 7, 3) := by decide +kernel
theorem dX8_changes_7 : decode cX8_changes 7 = .ok (.iconst 1, 1) := by decide +kernel
theorem dX8_changes_8 : decode cX8_changes 8 = .ok (.goto 4, 3) := by decide +kernel
theorem dX8_changes_11 : decode cX8_changes 11 = .ok (.iconst 0, 1) := by decide +kernel
theorem dX8_changes_12 : decode cX8_changes 12 = .ok (.istore 4, 2) := by decide +kernel
theorem dX8_changes_14 : decode cX8_changes 14 = .ok (.iconst 0, 1) := by decide +kernel
theorem dX8_changes_15 : decode cX8_changes 15 = .ok (.istore 5, 2) := by decide +kernel
theorem dX8_changes_17 : decode cX8_changes 17 = .ok (.iload 5, 2) := by decide +kernel
theorem dX8_changes_19 : decode cX8_changes 19 = .ok (.iconst 4, 1) := by decide +kernel
theorem dX8_changes_20 : decode cX8_changes 20 = .ok (.if_icmp .ge 100, 3) := by decide +kernel
theorem dX8_changes_23 : decode cX8_changes 23 = .ok (.iconst 0, 1) := by decide +kernel
theorem dX8_changes_24 : decode cX8_changes 24 = .ok (.istore 6, 2) := by decide +kernel
theorem dX8_changes_26 : decode cX8_changes 26 = .ok (.iconst 0, 1) := by decide +kernel
theorem dX8_changes_27 : decode cX8_changes 27 = .ok (.istore 7, 2) := by decide +kernel
theorem dX8_changes_29 : decode cX8_changes 29 = .ok (.iload 7, 2) := by decide +kernel
theorem dX8_changes_31 : decode cX8_changes 31 = .ok (.aload_n 0, 1) := by decide +kernel
theorem dX8_changes_32 : decode cX8_changes 32 = .ok (.getfield 79, 3) := by decide +kernel
theorem dX8_changes_35 : decode cX8_changes 35 = .ok (.if_icmp .ge 43, 3) := by decide +kernel
theorem dX8_changes_38 : decode cX8_changes 38 = .ok (.iload 6, 2) := by decide +kernel
theorem dX8_changes_40 : decode cX8_changes 40 = .ok (.ifCond .ne 25, 3) := by decide +kernel
theorem dX8_changes_43 : decode cX8_changes 43 = .ok (.iload_n 1, 1) := by decide +kernel
theorem dX8_changes_44 : decode cX8_changes 44 = .ok (.iload 7, 2) := by decide +kernel
theorem dX8_changes_46 : decode cX8_changes 46 = .ok (.ishr, 1) := by decide +kernel
theorem dX8_changes_47 : decode cX8_changes 47 = .ok (.iconst 1, 1) := by decide +kernel
theorem dX8_changes_48 : decode cX8_changes 48 = .ok (.iand, 1) := by decide +kernel
theorem dX8_changes_49 : decode cX8_changes 49 = .ok (.iconst 1, 1) := by decide +kernel
theorem dX8_changes_50 : decode cX8_changes 50 = .ok (.if_icmp .ne 19, 3) := by decide +kernel
theorem dX8_changes_53 : decode cX8_changes 53 = .ok (.aload_n 0, 1) := by decide +kernel
theorem dX8_changes_54 : decode cX8_changes 54 = .ok (.getfield 31, 3) := by decide +kernel
theorem dX8_changes_57 : decode cX8_changes 57 = .ok (.iload 7, 2) := by decide +kernel
theorem dX8_changes_59 : decode cX8_changes 59 = .ok (.iaload, 1) := by decide +kernel
theorem dX8_changes_60 : decode cX8_changes 60 = .ok (.iload 5, 2) := by decide +kernel
theorem dX8_changes_62 : decode cX8_changes 62 = .ok (.if_icmp .ne 7, 3) := by decide +kernel
theorem dX8_changes_65 : decode cX8_changes 65 = .ok (.iconst 1, 1) := by decide +kernel
theorem dX8_changes_66 : decode cX8_changes 66 = .ok (.goto 4, 3) := by decide +kernel
theorem dX8_changes_69 : decode cX8_changes 69 = .ok (.iconst 0, 1) := by decide +kernel
theorem dX8_changes_70 : decode cX8_changes 70 = .ok (.istore 6, 2) := by decide +kernel
theorem dX8_changes_72 : decode cX8_changes 72 = .ok (.iinc 7 1, 3) := by decide +kernel
theorem dX8_changes_75 : decode cX8_changes 75 = .ok (.goto (-46), 3) := by decide +kernel
theorem dX8_changes_78 : decode cX8_changes 78 = .ok (.iload_n 3, 1) := by decide +kernel
theorem dX8_changes_79 : decode cX8_changes 79 = .ok (.iload 6, 2) := by decide +kernel
theorem dX8_changes_81 : decode cX8_changes 81 = .ok (.ifCond .eq 7, 3) := by decide +kernel
theorem dX8_changes_84 : decode cX8_changes 84 = .ok (.iconst 1, 1) := by decide +kernel
theorem dX8_changes_85 : decode cX8_changes 85 = .ok (.goto 4, 3) := by decide +kernel
theorem dX8_changes_88 : decode cX8_changes 88 = .ok (.iconst 0, 1) := by decide +kernel
theorem dX8_changes_89 : decode cX8_changes 89 = .ok (.iadd, 1) := by decide +kernel
theorem dX8_changes_90 : decode cX8_changes 90 = .ok (.istore_n 3, 1) := by decide +kernel
theorem dX8_changes_91 : decode cX8_changes 91 = .ok (.iload 4, 2) := by decide +kernel
theorem dX8_changes_93 : decode cX8_changes 93 = .ok (.ifCond .ne 14, 3) := by decide +kernel
theorem dX8_changes_96 : decode cX8_changes 96 = .ok (.iload 6, 2) := by decide +kernel
theorem dX8_changes_98 : decode cX8_changes 98 = .ok (.ifCond .eq 13, 3) := by decide +kernel
theorem dX8_changes_101 : decode cX8_changes 101 = .ok (.iload 5, 2) := by decide +kernel
theorem dX8_changes_103 : decode cX8_changes 103 = .ok (.iload_n 2, 1) := by decide +kernel
theorem dX8_changes_104 : decode cX8_changes 104 = .ok (.if_icmp .ne 7, 3) := by decide +kernel
theorem dX8_changes_107 : decode cX8_changes 107 = .ok (.iconst 1, 1) := by decide +kernel
theorem dX8_changes_108 : decode cX8_changes 108 = .ok (.goto 4, 3) := by decide +kernel
theorem dX8_changes_111 : decode cX8_changes 111 = .ok (.iconst 0, 1) := by decide +kernel
theorem dX8_changes_112 : decode cX8_changes 112 = .ok (.istore 4, 2) := by decide +kernel
theorem dX8_changes_114 : decode cX8_changes 114 = .ok (.iinc 5 1, 3) := by decide +kernel
theorem dX8_changes_117 : decode cX8_changes 117 = .ok (.goto (-100), 3) := by decide +kernel
theorem dX8_changes_120 : decode cX8_changes 120 = .ok (.iload_n 3, 1) := by decide +kernel
theorem dX8_changes_121 : decode cX8_changes 121 = .ok (.ifCond .ne 7, 3) := by decide +kernel
theorem dX8_changes_124 : decode cX8_changes 124 = .ok (.iconst 0, 1) := by decide +kernel
theorem dX8_changes_125 : decode cX8_changes 125 = .ok (.goto 15, 3) := by decide +kernel
theorem dX8_changes_128 : decode cX8_changes 128 = .ok (.iload 4, 2) := by decide +kernel
theorem dX8_changes_130 : decode cX8_changes 130 = .ok (.ifCond .eq 9, 3) := by decide +kernel
theorem dX8_changes_133 : decode cX8_changes 133 = .ok (.iload_n 3, 1) := by decide +kernel
theorem dX8_changes_134 : decode cX8_changes 134 = .ok (.iconst 1, 1) := by decide +kernel
theorem dX8_changes_135 : decode cX8_changes 135 = .ok (.isub, 1) := by decide +kernel
theorem dX8_changes_136 : decode cX8_changes 136 = .ok (.goto 4, 3) := by decide +kernel
theorem dX8_changes_139 : decode cX8_changes 139 = .ok (.iload_n 3, 1) := by decide +kernel
theorem dX8_changes_140 : decode cX8_changes 140 = .ok (.ireturn, 1) := by decide +kernel
theorem dX8_order_0 : decode cX8_order 0 = .ok (.aload_n 0, 1) := by decide +kernel
theorem dX8_order_1 : decode cX8_order 1 = .ok (.invokevirtual 172, 3) := by decide +kernel
theorem dX8_order_4 : decode cX8_order 4 = .ok (.istore_n 2, 1) := by decide +kernel
theorem dX8_order_5 : decode cX8_order 5 = .ok (.iload_n 1, 1) := by decide +kernel
theorem dX8_order_6 : decode cX8_order 6 = .ok (.iconst 0, 1) := by decide +kernel
theorem dX8_order_7 : decode cX8_order 7 = .ok (.iload_n 2, 1) := by decide +kernel
theorem dX8_order_8 : decode cX8_order 8 = .ok (.iconst 1, 1) := by decide +kernel
theorem dX8_order_9 : decode cX8_order 9 = .ok (.isub, 1) := by decide +kernel
theorem dX8_order_10 : decode cX8_order 10 = .ok (.invokestatic 75, 3) := by decide +kernel
theorem dX8_order_13 : decode cX8_order 13 = .ok (.ifCond .ne 5, 3) := by decide +kernel
theorem dX8_order_16 : decode cX8_order 16 = .ok (.iconst (-1), 1) := by decide +kernel
theorem dX8_order_17 : decode cX8_order 17 = .ok (.ireturn, 1) := by decide +kernel
theorem dX8_order_18 : decode cX8_order 18 = .ok (.aload_n 0, 1) := by decide +kernel
theorem dX8_order_19 : decode cX8_order 19 = .ok (.getfield 169, 3) := by decide +kernel
theorem dX8_order_22 : decode cX8_order 22 = .ok (.istore_n 3, 1) := by decide +kernel
theorem dX8_order_23 : decode cX8_order 23 = .ok (.iconst (-1), 1) := by decide +kernel
theorem dX8_order_24 : decode cX8_order 24 = .ok (.istore 4, 2) := by decide +kernel
theorem dX8_order_26 : decode cX8_order 26 = .ok (.iconst (-1), 1) := by decide +kernel
theorem dX8_order_27 : decode cX8_order 27 = .ok (.istore 5, 2) := by decide +kernel
theorem dX8_order_29 : decode cX8_order 29 = .ok (.iconst 0, 1) := by decide +kernel
theorem dX8_order_30 : decode cX8_order 30 = .ok (.istore 6, 2) := by decide +kernel
theorem dX8_order_32 : decode cX8_order 32 = .ok (.iload 6, 2) := by decide +kernel
theorem dX8_order_34 : decode cX8_order 34 = .ok (.iload_n 1, 1) := by decide +kernel
theorem dX8_order_35 : decode cX8_order 35 = .ok (.if_icmp .gt 102, 3) := by decide +kernel
theorem dX8_order_38 : decode cX8_order 38 = .ok (.aload_n 0, 1) := by decide +kernel
theorem dX8_order_39 : decode cX8_order 39 = .ok (.iload_n 3, 1) := by decide +kernel
theorem dX8_order_40 : decode cX8_order 40 = .ok (.iload 4, 2) := by decide +kernel
theorem dX8_order_42 : decode cX8_order 42 = .ok (.invokevirtual 176, 3) := by decide +kernel
theorem dX8_order_45 : decode cX8_order 45 = .ok (.istore 7, 2) := by decide +kernel
theorem dX8_order_47 : decode cX8_order 47 = .ok (.iconst 0, 1) := by decide +kernel
theorem dX8_order_48 : decode cX8_order 48 = .ok (.istore 5, 2) := by decide +kernel
theorem dX8_order_50 : decode cX8_order 50 = .ok (.iload_n 3, 1) := by decide +kernel
theorem dX8_order_51 : decode cX8_order 51 = .ok (.iload 5, 2) := by decide +kernel
theorem dX8_order_53 : decode cX8_order 53 = .ok (.ishr, 1) := by decide +kernel
theorem dX8_order_54 : decode cX8_order 54 = .ok (.iconst 1, 1) := by decide +kernel
theorem dX8_order_55 : decode cX8_order 55 = .ok (.iand, 1) := by decide +kernel
theorem dX8_order_56 : decode cX8_order 56 = .ok (.ifCond .eq 51, 3) := by decide +kernel
theorem dX8_order_59 : decode cX8_order 59 = .ok (.aload_n 0, 1) := by decide +kernel
theorem dX8_order_60 : decode cX8_order 60 = .ok (.iload_n 3, 1) := by decide +kernel
theorem dX8_order_61 : decode cX8_order 61 = .ok (.iconst 1, 1) := by decide +kernel
theorem dX8_order_62 : decode cX8_order 62 = .ok (.iload 5, 2) := by decide +kernel
theorem dX8_order_64 : decode cX8_order 64 = .ok (.ishl, 1) := by decide +kernel
theorem dX8_order_65 : decode cX8_order 65 = .ok (.iconst (-1), 1) := by decide +kernel
theorem dX8_order_66 : decode cX8_order 66 = .ok (.ixor, 1) := by decide +kernel
theorem dX8_order_67 : decode cX8_order 67 = .ok (.iand, 1) := by decide +kernel
theorem dX8_order_68 : decode cX8_order 68 = .ok (.aload_n 0, 1) := by decide +kernel
theorem dX8_order_69 : decode cX8_order 69 = .ok (.getfield 31, 3) := by decide +kernel
theorem dX8_order_72 : decode cX8_order 72 = .ok (.iload 5, 2) := by decide +kernel
theorem dX8_order_74 : decode cX8_order 74 = .ok (.iaload, 1) := by decide +kernel
theorem dX8_order_75 : decode cX8_order 75 = .ok (.invokevirtual 176, 3) := by decide +kernel
theorem dX8_order_78 : decode cX8_order 78 = .ok (.iload 4, 2) := by decide +kernel
theorem dX8_order_80 : decode cX8_order 80 = .ok (.iconst (-1), 1) := by decide +kernel
theorem dX8_order_81 : decode cX8_order 81 = .ok (.if_icmp .eq 19, 3) := by decide +kernel
theorem dX8_order_84 : decode cX8_order 84 = .ok (.aload_n 0, 1) := by decide +kernel
theorem dX8_order_85 : decode cX8_order 85 = .ok (.getfield 31, 3) := by decide +kernel
theorem dX8_order_88 : decode cX8_order 88 = .ok (.iload 5, 2) := by decide +kernel
theorem dX8_order_90 : decode cX8_order 90 = .ok (.iaload, 1) := by decide +kernel
theorem dX8_order_91 : decode cX8_order 91 = .ok (.iload 4, 2) := by decide +kernel
theorem dX8_order_93 : decode cX8_order 93 = .ok (.if_icmp .eq 7, 3) := by decide +kernel
theorem dX8_order_96 : decode cX8_order 96 = .ok (.iconst 1, 1) := by decide +kernel
theorem dX8_order_97 : decode cX8_order 97 = .ok (.goto 4, 3) := by decide +kernel
theorem dX8_order_100 : decode cX8_order 100 = .ok (.iconst 0, 1) := by decide +kernel
theorem dX8_order_101 : decode cX8_order 101 = .ok (.iadd, 1) := by decide +kernel
theorem dX8_order_102 : decode cX8_order 102 = .ok (.iload 7, 2) := by decide +kernel
theorem dX8_order_104 : decode cX8_order 104 = .ok (.if_icmp .eq 9, 3) := by decide +kernel
theorem dX8_order_107 : decode cX8_order 107 = .ok (.iinc 5 1, 3) := by decide +kernel
theorem dX8_order_110 : decode cX8_order 110 = .ok (.goto (-60), 3) := by decide +kernel
theorem dX8_order_113 : decode cX8_order 113 = .ok (.iload_n 3, 1) := by decide +kernel
theorem dX8_order_114 : decode cX8_order 114 = .ok (.iconst 1, 1) := by decide +kernel
theorem dX8_order_115 : decode cX8_order 115 = .ok (.iload 5, 2) := by decide +kernel
theorem dX8_order_117 : decode cX8_order 117 = .ok (.ishl, 1) := by decide +kernel
theorem dX8_order_118 : decode cX8_order 118 = .ok (.iconst (-1), 1) := by decide +kernel
theorem dX8_order_119 : decode cX8_order 119 = .ok (.ixor, 1) := by decide +kernel
theorem dX8_order_120 : decode cX8_order 120 = .ok (.iand, 1) := by decide +kernel
theorem dX8_order_121 : decode cX8_order 121 = .ok (.istore_n 3, 1) := by decide +kernel
theorem dX8_order_122 : decode cX8_order 122 = .ok (.aload_n 0, 1) := by decide +kernel
theorem dX8_order_123 : decode cX8_order 123 = .ok (.getfield 31, 3) := by decide +kernel
theorem dX8_order_126 : decode cX8_order 126 = .ok (.iload 5, 2) := by decide +kernel
theorem dX8_order_128 : decode cX8_order 128 = .ok (.iaload, 1) := by decide +kernel
theorem dX8_order_129 : decode cX8_order 129 = .ok (.istore 4, 2) := by decide +kernel
theorem dX8_order_131 : decode cX8_order 131 = .ok (.iinc 6 1, 3) := by decide +kernel
theorem dX8_order_134 : decode cX8_order 134 = .ok (.goto (-102), 3) := by decide +kernel
theorem dX8_order_137 : decode cX8_order 137 = .ok (.iload 5, 2) := by decide +kernel
theorem dX8_order_139 : decode cX8_order 139 = .ok (.ireturn, 1) := by decide +kernel
theorem dX8_crossings_0 : decode cX8_crossings 0 = .ok (.aload_n 0, 1) := by decide +kernel
theorem dX8_crossings_1 : decode cX8_crossings 1 = .ok (.getfield 179, 3) := by decide +kernel
theorem dX8_crossings_4 : decode cX8_crossings 4 = .ok (.aload_n 0, 1) := by decide +kernel
theorem dX8_crossings_5 : decode cX8_crossings 5 = .ok (.getfield 82, 3) := by decide +kernel
theorem dX8_crossings_8 : decode cX8_crossings 8 = .ok (.if_icmp .ne 7, 3) := by decide +kernel
theorem dX8_crossings_11 : decode cX8_crossings 11 = .ok (.iconst 1, 1) := by decide +kernel
theorem dX8_crossings_12 : decode cX8_crossings 12 = .ok (.goto 4, 3) := by decide +kernel
theorem dX8_crossings_15 : decode cX8_crossings 15 = .ok (.iconst 0, 1) := by decide +kernel
theorem dX8_crossings_16 : decode cX8_crossings 16 = .ok (.istore_n 1, 1) := by decide +kernel
theorem dX8_crossings_17 : decode cX8_crossings 17 = .ok (.iconst 0, 1) := by decide +kernel
theorem dX8_crossings_18 : decode cX8_crossings 18 = .ok (.istore_n 2, 1) := by decide +kernel
theorem dX8_crossings_19 : decode cX8_crossings 19 = .ok (.iload_n 2, 1) := by decide +kernel
theorem dX8_crossings_20 : decode cX8_crossings 20 = .ok (.aload_n 0, 1) := by decide +kernel
theorem dX8_crossings_21 : decode cX8_crossings 21 = .ok (.getfield 179, 3) := by decide +kernel
theorem dX8_crossings_24 : decode cX8_crossings 24 = .ok (.if_icmp .ge 33, 3) := by decide +kernel
theorem dX8_crossings_27 : decode cX8_crossings 27 = .ok (.iload_n 1, 1) := by decide +kernel
theorem dX8_crossings_28 : decode cX8_crossings 28 = .ok (.ifCond .eq 29, 3) := by decide +kernel
theorem dX8_crossings_31 : decode cX8_crossings 31 = .ok (.aload_n 0, 1) := by decide +kernel
theorem dX8_crossings_32 : decode cX8_crossings 32 = .ok (.aload_n 0, 1) := by decide +kernel
theorem dX8_crossings_33 : decode cX8_crossings 33 = .ok (.getfield 59, 3) := by decide +kernel
theorem dX8_crossings_36 : decode cX8_crossings 36 = .ok (.iload_n 2, 1) := by decide +kernel
theorem dX8_crossings_37 : decode cX8_crossings 37 = .ok (.iaload, 1) := by decide +kernel
theorem dX8_crossings_38 : decode cX8_crossings 38 = .ok (.iload_n 2, 1) := by decide +kernel
theorem dX8_crossings_39 : decode cX8_crossings 39 = .ok (.invokevirtual 141, 3) := by decide +kernel
theorem dX8_crossings_42 : decode cX8_crossings 42 = .ok (.ifCond .ne 7, 3) := by decide +kernel
theorem dX8_crossings_45 : decode cX8_crossings 45 = .ok (.iconst 1, 1) := by decide +kernel
theorem dX8_crossings_46 : decode cX8_crossings 46 = .ok (.goto 4, 3) := by decide +kernel
theorem dX8_crossings_49 : decode cX8_crossings 49 = .ok (.iconst 0, 1) := by decide +kernel
theorem dX8_crossings_50 : decode cX8_crossings 50 = .ok (.istore_n 1, 1) := by decide +kernel
theorem dX8_crossings_51 : decode cX8_crossings 51 = .ok (.iinc 2 1, 3) := by decide +kernel
theorem dX8_crossings_54 : decode cX8_crossings 54 = .ok (.goto (-35), 3) := by decide +kernel
theorem dX8_crossings_57 : decode cX8_crossings 57 = .ok (.aload_n 0, 1) := by decide +kernel
theorem dX8_crossings_58 : decode cX8_crossings 58 = .ok (.iconst 0, 1) := by decide +kernel
theorem dX8_crossings_59 : decode cX8_crossings 59 = .ok (.putfield 179, 3) := by decide +kernel
theorem dX8_crossings_62 : decode cX8_crossings 62 = .ok (.iload_n 1, 1) := by decide +kernel
theorem dX8_crossings_63 : decode cX8_crossings 63 = .ok (.ifCond .ne 6, 3) := by decide +kernel
theorem dX8_crossings_66 : decode cX8_crossings 66 = .ok (.bipush (-3), 2) := by decide +kernel
theorem dX8_crossings_68 : decode cX8_crossings 68 = .ok (.ireturn, 1) := by decide +kernel
theorem dX8_crossings_69 : decode cX8_crossings 69 = .ok (.iconst 0, 1) := by decide +kernel
theorem dX8_crossings_70 : decode cX8_crossings 70 = .ok (.istore_n 2, 1) := by decide +kernel
theorem dX8_crossings_71 : decode cX8_crossings 71 = .ok (.iconst 0, 1) := by decide +kernel
theorem dX8_crossings_72 : decode cX8_crossings 72 = .ok (.istore_n 3, 1) := by decide +kernel
theorem dX8_crossings_73 : decode cX8_crossings 73 = .ok (.iload_n 3, 1) := by decide +kernel
theorem dX8_crossings_74 : decode cX8_crossings 74 = .ok (.aload_n 0, 1) := by decide +kernel
theorem dX8_crossings_75 : decode cX8_crossings 75 = .ok (.getfield 82, 3) := by decide +kernel
theorem dX8_crossings_78 : decode cX8_crossings 78 = .ok (.if_icmp .ge 67, 3) := by decide +kernel
theorem dX8_crossings_81 : decode cX8_crossings 81 = .ok (.aload_n 0, 1) := by decide +kernel
theorem dX8_crossings_82 : decode cX8_crossings 82 = .ok (.getfield 34, 3) := by decide +kernel
theorem dX8_crossings_85 : decode cX8_crossings 85 = .ok (.iload_n 3, 1) := by decide +kernel
theorem dX8_crossings_86 : decode cX8_crossings 86 = .ok (.iaload, 1) := by decide +kernel
theorem dX8_crossings_87 : decode cX8_crossings 87 = .ok (.iconst 1, 1) := by decide +kernel
theorem dX8_crossings_88 : decode cX8_crossings 88 = .ok (.if_icmp .ne 11, 3) := by decide +kernel
theorem dX8_crossings_91 : decode cX8_crossings 91 = .ok (.aload_n 0, 1) := by decide +kernel
theorem dX8_crossings_92 : decode cX8_crossings 92 = .ok (.iload_n 3, 1) := by decide +kernel
theorem dX8_crossings_93 : decode cX8_crossings 93 = .ok (.invokevirtual 154, 3) := by decide +kernel
theorem dX8_crossings_96 : decode cX8_crossings 96 = .ok (.goto 4, 3) := by decide +kernel
theorem dX8_crossings_99 : decode cX8_crossings 99 = .ok (.iconst (-1), 1) := by decide +kernel
theorem dX8_crossings_100 : decode cX8_crossings 100 = .ok (.istore 4, 2) := by decide +kernel
theorem dX8_crossings_102 : decode cX8_crossings 102 = .ok (.iload_n 2, 1) := by decide +kernel
theorem dX8_crossings_103 : decode cX8_crossings 103 = .ok (.iload 4, 2) := by decide +kernel
theorem dX8_crossings_105 : decode cX8_crossings 105 = .ok (.iconst (-1), 1) := by decide +kernel
theorem dX8_crossings_106 : decode cX8_crossings 106 = .ok (.if_icmp .eq 30, 3) := by decide +kernel
theorem dX8_crossings_109 : decode cX8_crossings 109 = .ok (.aload_n 0, 1) := by decide +kernel
theorem dX8_crossings_110 : decode cX8_crossings 110 = .ok (.iload 4, 2) := by decide +kernel
theorem dX8_crossings_112 : decode cX8_crossings 112 = .ok (.aload_n 0, 1) := by decide +kernel
theorem dX8_crossings_113 : decode cX8_crossings 113 = .ok (.getfield 59, 3) := by decide +kernel
theorem dX8_crossings_116 : decode cX8_crossings 116 = .ok (.iload 4, 2) := by decide +kernel
end
section
theorem dX8_crossings_118 : decode cX8_crossings 118 = .ok (.iaload, 1) := by decide +kernel
theorem dX8_crossings_119 : decode cX8_crossings 119 = .ok (.iload_n 3, 1) := by decide +kernel
theorem dX8_crossings_120 : decode cX8_crossings 120 = .ok (.aload_n 0, 1) := by decide +kernel
theorem dX8_crossings_121 : decode cX8_crossings 121 = .ok (.getfield 59, 3) := by decide +kernel
theorem dX8_crossings_124 : decode cX8_crossings 124 = .ok (.iload_n 3, 1) := by decide +kernel
theorem dX8_crossings_125 : decode cX8_crossings 125 = .ok (.iaload, 1) := by decide +kernel
theorem dX8_crossings_126 : decode cX8_crossings 126 = .ok (.invokevirtual 157, 3) := by decide +kernel
theorem dX8_crossings_129 : decode cX8_crossings 129 = .ok (.ifCond .eq 7, 3) := by decide +kernel
theorem dX8_crossings_132 : decode cX8_crossings 132 = .ok (.iconst 1, 1) := by decide +kernel
theorem dX8_crossings_133 : decode cX8_crossings 133 = .ok (.goto 4, 3) := by decide +kernel
theorem dX8_crossings_136 : decode cX8_crossings 136 = .ok (.iconst 0, 1) := by decide +kernel
theorem dX8_crossings_137 : decode cX8_crossings 137 = .ok (.iadd, 1) := by decide +kernel
theorem dX8_crossings_138 : decode cX8_crossings 138 = .ok (.istore_n 2, 1) := by decide +kernel
theorem dX8_crossings_139 : decode cX8_crossings 139 = .ok (.iinc 3 1, 3) := by decide +kernel
theorem dX8_crossings_142 : decode cX8_crossings 142 = .ok (.goto (-69), 3) := by decide +kernel
theorem dX8_crossings_145 : decode cX8_crossings 145 = .ok (.iload_n 2, 1) := by decide +kernel
theorem dX8_crossings_146 : decode cX8_crossings 146 = .ok (.ireturn, 1) := by decide +kernel
theorem dX8_list_0 : decode cX8_list 0 = .ok (.aload_n 0, 1) := by decide +kernel
theorem dX8_list_1 : decode cX8_list 1 = .ok (.iload_n 1, 1) := by decide +kernel
theorem dX8_list_2 : decode cX8_list 2 = .ok (.invokevirtual 126, 3) := by decide +kernel
theorem dX8_list_5 : decode cX8_list 5 = .ok (.ifCond .ne 5, 3) := by decide +kernel
theorem dX8_list_8 : decode cX8_list 8 = .ok (.iconst (-1), 1) := by decide +kernel
theorem dX8_list_9 : decode cX8_list 9 = .ok (.ireturn, 1) := by decide +kernel
theorem dX8_list_10 : decode cX8_list 10 = .ok (.aload_n 0, 1) := by decide +kernel
theorem dX8_list_11 : decode cX8_list 11 = .ok (.getfield 179, 3) := by decide +kernel
theorem dX8_list_14 : decode cX8_list 14 = .ok (.bipush 8, 2) := by decide +kernel
theorem dX8_list_16 : decode cX8_list 16 = .ok (.if_icmp .ne 6, 3) := by decide +kernel
theorem dX8_list_19 : decode cX8_list 19 = .ok (.bipush (-2), 2) := by decide +kernel
theorem dX8_list_21 : decode cX8_list 21 = .ok (.ireturn, 1) := by decide +kernel
theorem dX8_list_22 : decode cX8_list 22 = .ok (.aload_n 0, 1) := by decide +kernel
theorem dX8_list_23 : decode cX8_list 23 = .ok (.getfield 59, 3) := by decide +kernel
theorem dX8_list_26 : decode cX8_list 26 = .ok (.aload_n 0, 1) := by decide +kernel
theorem dX8_list_27 : decode cX8_list 27 = .ok (.getfield 179, 3) := by decide +kernel
theorem dX8_list_30 : decode cX8_list 30 = .ok (.iload_n 1, 1) := by decide +kernel
theorem dX8_list_31 : decode cX8_list 31 = .ok (.iastore, 1) := by decide +kernel
theorem dX8_list_32 : decode cX8_list 32 = .ok (.aload_n 0, 1) := by decide +kernel
theorem dX8_list_33 : decode cX8_list 33 = .ok (.dup, 1) := by decide +kernel
theorem dX8_list_34 : decode cX8_list 34 = .ok (.getfield 179, 3) := by decide +kernel
theorem dX8_list_37 : decode cX8_list 37 = .ok (.iconst 1, 1) := by decide +kernel
theorem dX8_list_38 : decode cX8_list 38 = .ok (.iadd, 1) := by decide +kernel
theorem dX8_list_39 : decode cX8_list 39 = .ok (.putfield 179, 3) := by decide +kernel
theorem dX8_list_42 : decode cX8_list 42 = .ok (.aload_n 0, 1) := by decide +kernel
theorem dX8_list_43 : decode cX8_list 43 = .ok (.getfield 179, 3) := by decide +kernel
theorem dX8_list_46 : decode cX8_list 46 = .ok (.ireturn, 1) := by decide +kernel
theorem dX8_all_0 : decode cX8_all 0 = .ok (.iconst 0, 1) := by decide +kernel
theorem dX8_all_1 : decode cX8_all 1 = .ok (.istore_n 1, 1) := by decide +kernel
theorem dX8_all_2 : decode cX8_all 2 = .ok (.iconst 0, 1) := by decide +kernel
theorem dX8_all_3 : decode cX8_all 3 = .ok (.istore_n 2, 1) := by decide +kernel
theorem dX8_all_4 : decode cX8_all 4 = .ok (.iload_n 2, 1) := by decide +kernel
theorem dX8_all_5 : decode cX8_all 5 = .ok (.aload_n 0, 1) := by decide +kernel
theorem dX8_all_6 : decode cX8_all 6 = .ok (.getfield 82, 3) := by decide +kernel
theorem dX8_all_9 : decode cX8_all 9 = .ok (.if_icmp .ge 17, 3) := by decide +kernel
theorem dX8_all_12 : decode cX8_all 12 = .ok (.iload_n 1, 1) := by decide +kernel
theorem dX8_all_13 : decode cX8_all 13 = .ok (.aload_n 0, 1) := by decide +kernel
theorem dX8_all_14 : decode cX8_all 14 = .ok (.iload_n 2, 1) := by decide +kernel
theorem dX8_all_15 : decode cX8_all 15 = .ok (.invokevirtual 151, 3) := by decide +kernel
theorem dX8_all_18 : decode cX8_all 18 = .ok (.iadd, 1) := by decide +kernel
theorem dX8_all_19 : decode cX8_all 19 = .ok (.istore_n 1, 1) := by decide +kernel
theorem dX8_all_20 : decode cX8_all 20 = .ok (.iinc 2 1, 3) := by decide +kernel
theorem dX8_all_23 : decode cX8_all 23 = .ok (.goto (-19), 3) := by decide +kernel
theorem dX8_all_26 : decode cX8_all 26 = .ok (.iload_n 1, 1) := by decide +kernel
theorem dX8_all_27 : decode cX8_all 27 = .ok (.ireturn, 1) := by decide +kernel
theorem dX8_run_0 : decode cX8_run 0 = .ok (.aload_n 0, 1) := by decide +kernel
theorem dX8_run_1 : decode cX8_run 1 = .ok (.invokevirtual 182, 3) := by decide +kernel
theorem dX8_run_4 : decode cX8_run 4 = .ok (.ireturn, 1) := by decide +kernel
theorem dX8_frame_0 : decode cX8_frame 0 = .ok (.iload_n 1, 1) := by decide +kernel
theorem dX8_frame_1 : decode cX8_frame 1 = .ok (.iconst 0, 1) := by decide +kernel
theorem dX8_frame_2 : decode cX8_frame 2 = .ok (.aload_n 0, 1) := by decide +kernel
theorem dX8_frame_3 : decode cX8_frame 3 = .ok (.invokevirtual 182, 3) := by decide +kernel
theorem dX8_frame_6 : decode cX8_frame 6 = .ok (.iconst 1, 1) := by decide +kernel
theorem dX8_frame_7 : decode cX8_frame 7 = .ok (.isub, 1) := by decide +kernel
theorem dX8_frame_8 : decode cX8_frame 8 = .ok (.invokestatic 75, 3) := by decide +kernel
theorem dX8_frame_11 : decode cX8_frame 11 = .ok (.ifCond .ne 5, 3) := by decide +kernel
theorem dX8_frame_14 : decode cX8_frame 14 = .ok (.iconst (-1), 1) := by decide +kernel
theorem dX8_frame_15 : decode cX8_frame 15 = .ok (.ireturn, 1) := by decide +kernel
theorem dX8_frame_16 : decode cX8_frame 16 = .ok (.iconst 0, 1) := by decide +kernel
theorem dX8_frame_17 : decode cX8_frame 17 = .ok (.istore_n 2, 1) := by decide +kernel
theorem dX8_frame_18 : decode cX8_frame 18 = .ok (.iload_n 1, 1) := by decide +kernel
theorem dX8_frame_19 : decode cX8_frame 19 = .ok (.istore_n 3, 1) := by decide +kernel
theorem dX8_frame_20 : decode cX8_frame 20 = .ok (.iload_n 3, 1) := by decide +kernel
theorem dX8_frame_21 : decode cX8_frame 21 = .ok (.aload_n 0, 1) := by decide +kernel
theorem dX8_frame_22 : decode cX8_frame 22 = .ok (.iload_n 2, 1) := by decide +kernel
theorem dX8_frame_23 : decode cX8_frame 23 = .ok (.invokevirtual 151, 3) := by decide +kernel
theorem dX8_frame_26 : decode cX8_frame 26 = .ok (.if_icmp .lt 17, 3) := by decide +kernel
theorem dX8_frame_29 : decode cX8_frame 29 = .ok (.iload_n 3, 1) := by decide +kernel
theorem dX8_frame_30 : decode cX8_frame 30 = .ok (.aload_n 0, 1) := by decide +kernel
theorem dX8_frame_31 : decode cX8_frame 31 = .ok (.iload_n 2, 1) := by decide +kernel
theorem dX8_frame_32 : decode cX8_frame 32 = .ok (.invokevirtual 151, 3) := by decide +kernel
theorem dX8_frame_35 : decode cX8_frame 35 = .ok (.isub, 1) := by decide +kernel
theorem dX8_frame_36 : decode cX8_frame 36 = .ok (.istore_n 3, 1) := by decide +kernel
theorem dX8_frame_37 : decode cX8_frame 37 = .ok (.iinc 2 1, 3) := by decide +kernel
theorem dX8_frame_40 : decode cX8_frame 40 = .ok (.goto (-20), 3) := by decide +kernel
theorem dX8_frame_43 : decode cX8_frame 43 = .ok (.iload_n 2, 1) := by decide +kernel
theorem dX8_frame_44 : decode cX8_frame 44 = .ok (.ireturn, 1) := by decide +kernel
theorem dX8_count_0 : decode cX8_count 0 = .ok (.iload_n 1, 1) := by decide +kernel
theorem dX8_count_1 : decode cX8_count 1 = .ok (.tableswitch 60 0 4 #[35, 40, 45, 50, 55], 35) := by decide +kernel
theorem dX8_count_36 : decode cX8_count 36 = .ok (.aload_n 0, 1) := by decide +kernel
theorem dX8_count_37 : decode cX8_count 37 = .ok (.getfield 72, 3) := by decide +kernel
theorem dX8_count_40 : decode cX8_count 40 = .ok (.ireturn, 1) := by decide +kernel
theorem dX8_count_41 : decode cX8_count 41 = .ok (.aload_n 0, 1) := by decide +kernel
theorem dX8_count_42 : decode cX8_count 42 = .ok (.getfield 92, 3) := by decide +kernel
theorem dX8_count_45 : decode cX8_count 45 = .ok (.ireturn, 1) := by decide +kernel
theorem dX8_count_46 : decode cX8_count 46 = .ok (.aload_n 0, 1) := by decide +kernel
theorem dX8_count_47 : decode cX8_count 47 = .ok (.getfield 79, 3) := by decide +kernel
theorem dX8_count_50 : decode cX8_count 50 = .ok (.ireturn, 1) := by decide +kernel
theorem dX8_count_51 : decode cX8_count 51 = .ok (.aload_n 0, 1) := by decide +kernel
theorem dX8_count_52 : decode cX8_count 52 = .ok (.getfield 82, 3) := by decide +kernel
theorem dX8_count_55 : decode cX8_count 55 = .ok (.ireturn, 1) := by decide +kernel
theorem dX8_count_56 : decode cX8_count 56 = .ok (.aload_n 0, 1) := by decide +kernel
theorem dX8_count_57 : decode cX8_count 57 = .ok (.getfield 179, 3) := by decide +kernel
theorem dX8_count_60 : decode cX8_count 60 = .ok (.ireturn, 1) := by decide +kernel
theorem dX8_count_61 : decode cX8_count 61 = .ok (.iconst (-1), 1) := by decide +kernel
theorem dX8_count_62 : decode cX8_count 62 = .ok (.ireturn, 1) := by decide +kernel
theorem dJ6_bitCount_0f7a4_0 : decode cJ6_bitCount_0f7a4 0 = .ok (.iload_n 0, 1) := by decide +kernel
theorem dJ6_bitCount_0f7a4_1 : decode cJ6_bitCount_0f7a4 1 = .ok (.iload_n 0, 1) := by decide +kernel
theorem dJ6_bitCount_0f7a4_2 : decode cJ6_bitCount_0f7a4 2 = .ok (.iconst 1, 1) := by decide +kernel
theorem dJ6_bitCount_0f7a4_3 : decode cJ6_bitCount_0f7a4 3 = .ok (.iushr, 1) := by decide +kernel
theorem dJ6_bitCount_0f7a4_4 : decode cJ6_bitCount_0f7a4 4 = .ok (.ldc_w 265, 3) := by decide +kernel
theorem dJ6_bitCount_0f7a4_7 : decode cJ6_bitCount_0f7a4 7 = .ok (.iand, 1) := by decide +kernel
theorem dJ6_bitCount_0f7a4_8 : decode cJ6_bitCount_0f7a4 8 = .ok (.isub, 1) := by decide +kernel
theorem dJ6_bitCount_0f7a4_9 : decode cJ6_bitCount_0f7a4 9 = .ok (.istore_n 0, 1) := by decide +kernel
theorem dJ6_bitCount_0f7a4_10 : decode cJ6_bitCount_0f7a4 10 = .ok (.iload_n 0, 1) := by decide +kernel
theorem dJ6_bitCount_0f7a4_11 : decode cJ6_bitCount_0f7a4 11 = .ok (.ldc_w 266, 3) := by decide +kernel
theorem dJ6_bitCount_0f7a4_14 : decode cJ6_bitCount_0f7a4 14 = .ok (.iand, 1) := by decide +kernel
theorem dJ6_bitCount_0f7a4_15 : decode cJ6_bitCount_0f7a4 15 = .ok (.iload_n 0, 1) := by decide +kernel
theorem dJ6_bitCount_0f7a4_16 : decode cJ6_bitCount_0f7a4 16 = .ok (.iconst 2, 1) := by decide +kernel
theorem dJ6_bitCount_0f7a4_17 : decode cJ6_bitCount_0f7a4 17 = .ok (.iushr, 1) := by decide +kernel
theorem dJ6_bitCount_0f7a4_18 : decode cJ6_bitCount_0f7a4 18 = .ok (.ldc_w 266, 3) := by decide +kernel
theorem dJ6_bitCount_0f7a4_21 : decode cJ6_bitCount_0f7a4 21 = .ok (.iand, 1) := by decide +kernel
theorem dJ6_bitCount_0f7a4_22 : decode cJ6_bitCount_0f7a4 22 = .ok (.iadd, 1) := by decide +kernel
theorem dJ6_bitCount_0f7a4_23 : decode cJ6_bitCount_0f7a4 23 = .ok (.istore_n 0, 1) := by decide +kernel
theorem dJ6_bitCount_0f7a4_24 : decode cJ6_bitCount_0f7a4 24 = .ok (.iload_n 0, 1) := by decide +kernel
theorem dJ6_bitCount_0f7a4_25 : decode cJ6_bitCount_0f7a4 25 = .ok (.iload_n 0, 1) := by decide +kernel
theorem dJ6_bitCount_0f7a4_26 : decode cJ6_bitCount_0f7a4 26 = .ok (.iconst 4, 1) := by decide +kernel
theorem dJ6_bitCount_0f7a4_27 : decode cJ6_bitCount_0f7a4 27 = .ok (.iushr, 1) := by decide +kernel
theorem dJ6_bitCount_0f7a4_28 : decode cJ6_bitCount_0f7a4 28 = .ok (.iadd, 1) := by decide +kernel
theorem dJ6_bitCount_0f7a4_29 : decode cJ6_bitCount_0f7a4 29 = .ok (.ldc_w 267, 3) := by decide +kernel
theorem dJ6_bitCount_0f7a4_32 : decode cJ6_bitCount_0f7a4 32 = .ok (.iand, 1) := by decide +kernel
theorem dJ6_bitCount_0f7a4_33 : decode cJ6_bitCount_0f7a4 33 = .ok (.istore_n 0, 1) := by decide +kernel
theorem dJ6_bitCount_0f7a4_34 : decode cJ6_bitCount_0f7a4 34 = .ok (.iload_n 0, 1) := by decide +kernel
theorem dJ6_bitCount_0f7a4_35 : decode cJ6_bitCount_0f7a4 35 = .ok (.iload_n 0, 1) := by decide +kernel
theorem dJ6_bitCount_0f7a4_36 : decode cJ6_bitCount_0f7a4 36 = .ok (.bipush 8, 2) := by decide +kernel
theorem dJ6_bitCount_0f7a4_38 : decode cJ6_bitCount_0f7a4 38 = .ok (.iushr, 1) := by decide +kernel
theorem dJ6_bitCount_0f7a4_39 : decode cJ6_bitCount_0f7a4 39 = .ok (.iadd, 1) := by decide +kernel
theorem dJ6_bitCount_0f7a4_40 : decode cJ6_bitCount_0f7a4 40 = .ok (.istore_n 0, 1) := by decide +kernel
theorem dJ6_bitCount_0f7a4_41 : decode cJ6_bitCount_0f7a4 41 = .ok (.iload_n 0, 1) := by decide +kernel
theorem dJ6_bitCount_0f7a4_42 : decode cJ6_bitCount_0f7a4 42 = .ok (.iload_n 0, 1) := by decide +kernel
theorem dJ6_bitCount_0f7a4_43 : decode cJ6_bitCount_0f7a4 43 = .ok (.bipush 16, 2) := by decide +kernel
theorem dJ6_bitCount_0f7a4_45 : decode cJ6_bitCount_0f7a4 45 = .ok (.iushr, 1) := by decide +kernel
theorem dJ6_bitCount_0f7a4_46 : decode cJ6_bitCount_0f7a4 46 = .ok (.iadd, 1) := by decide +kernel
theorem dJ6_bitCount_0f7a4_47 : decode cJ6_bitCount_0f7a4 47 = .ok (.istore_n 0, 1) := by decide +kernel
theorem dJ6_bitCount_0f7a4_48 : decode cJ6_bitCount_0f7a4 48 = .ok (.iload_n 0, 1) := by decide +kernel
theorem dJ6_bitCount_0f7a4_49 : decode cJ6_bitCount_0f7a4 49 = .ok (.bipush 63, 2) := by decide +kernel
theorem dJ6_bitCount_0f7a4_51 : decode cJ6_bitCount_0f7a4 51 = .ok (.iand, 1) := by decide +kernel
theorem dJ6_bitCount_0f7a4_52 : decode cJ6_bitCount_0f7a4 52 = .ok (.ireturn, 1) := by decide +kernel
theorem dJ6_signum_0f7a4_0 : decode cJ6_signum_0f7a4 0 = .ok (.iload_n 0, 1) := by decide +kernel
theorem dJ6_signum_0f7a4_1 : decode cJ6_signum_0f7a4 1 = .ok (.bipush 31, 2) := by decide +kernel
theorem dJ6_signum_0f7a4_3 : decode cJ6_signum_0f7a4 3 = .ok (.ishr, 1) := by decide +kernel
theorem dJ6_signum_0f7a4_4 : decode cJ6_signum_0f7a4 4 = .ok (.iload_n 0, 1) := by decide +kernel
theorem dJ6_signum_0f7a4_5 : decode cJ6_signum_0f7a4 5 = .ok (.ineg, 1) := by decide +kernel
theorem dJ6_signum_0f7a4_6 : decode cJ6_signum_0f7a4 6 = .ok (.bipush 31, 2) := by decide +kernel
theorem dJ6_signum_0f7a4_8 : decode cJ6_signum_0f7a4 8 = .ok (.iushr, 1) := by decide +kernel
theorem dJ6_signum_0f7a4_9 : decode cJ6_signum_0f7a4 9 = .ok (.ior, 1) := by decide +kernel
theorem dJ6_signum_0f7a4_10 : decode cJ6_signum_0f7a4 10 = .ok (.ireturn, 1) := by decide +kernel
theorem dJ13_bitCount_95d88_0 : decode cJ13_bitCount_95d88 0 = .ok (.lload_n 0, 1) := by decide +kernel
theorem dJ13_bitCount_95d88_1 : decode cJ13_bitCount_95d88 1 = .ok (.lload_n 0, 1) := by decide +kernel
theorem dJ13_bitCount_95d88_2 : decode cJ13_bitCount_95d88 2 = .ok (.iconst 1, 1) := by decide +kernel
theorem dJ13_bitCount_95d88_3 : decode cJ13_bitCount_95d88 3 = .ok (.lushr, 1) := by decide +kernel
theorem dJ13_bitCount_95d88_4 : decode cJ13_bitCount_95d88 4 = .ok (.ldc2_w 314, 3) := by decide +kernel
theorem dJ13_bitCount_95d88_7 : decode cJ13_bitCount_95d88 7 = .ok (.land, 1) := by decide +kernel
theorem dJ13_bitCount_95d88_8 : decode cJ13_bitCount_95d88 8 = .ok (.lsub, 1) := by decide +kernel
theorem dJ13_bitCount_95d88_9 : decode cJ13_bitCount_95d88 9 = .ok (.lstore_n 0, 1) := by decide +kernel
theorem dJ13_bitCount_95d88_10 : decode cJ13_bitCount_95d88 10 = .ok (.lload_n 0, 1) := by decide +kernel
theorem dJ13_bitCount_95d88_11 : decode cJ13_bitCount_95d88 11 = .ok (.ldc2_w 316, 3) := by decide +kernel
theorem dJ13_bitCount_95d88_14 : decode cJ13_bitCount_95d88 14 = .ok (.land, 1) := by decide +kernel
theorem dJ13_bitCount_95d88_15 : decode cJ13_bitCount_95d88 15 = .ok (.lload_n 0, 1) := by decide +kernel
theorem dJ13_bitCount_95d88_16 : decode cJ13_bitCount_95d88 16 = .ok (.iconst 2, 1) := by decide +kernel
theorem dJ13_bitCount_95d88_17 : decode cJ13_bitCount_95d88 17 = .ok (.lushr, 1) := by decide +kernel
theorem dJ13_bitCount_95d88_18 : decode cJ13_bitCount_95d88 18 = .ok (.ldc2_w 316, 3) := by decide +kernel
theorem dJ13_bitCount_95d88_21 : decode cJ13_bitCount_95d88 21 = .ok (.land, 1) := by decide +kernel
theorem dJ13_bitCount_95d88_22 : decode cJ13_bitCount_95d88 22 = .ok (.ladd, 1) := by decide +kernel
theorem dJ13_bitCount_95d88_23 : decode cJ13_bitCount_95d88 23 = .ok (.lstore_n 0, 1) := by decide +kernel
theorem dJ13_bitCount_95d88_24 : decode cJ13_bitCount_95d88 24 = .ok (.lload_n 0, 1) := by decide +kernel
theorem dJ13_bitCount_95d88_25 : decode cJ13_bitCount_95d88 25 = .ok (.lload_n 0, 1) := by decide +kernel
theorem dJ13_bitCount_95d88_26 : decode cJ13_bitCount_95d88 26 = .ok (.iconst 4, 1) := by decide +kernel
theorem dJ13_bitCount_95d88_27 : decode cJ13_bitCount_95d88 27 = .ok (.lushr, 1) := by decide +kernel
theorem dJ13_bitCount_95d88_28 : decode cJ13_bitCount_95d88 28 = .ok (.ladd, 1) := by decide +kernel
theorem dJ13_bitCount_95d88_29 : decode cJ13_bitCount_95d88 29 = .ok (.ldc2_w 318, 3) := by decide +kernel
theorem dJ13_bitCount_95d88_32 : decode cJ13_bitCount_95d88 32 = .ok (.land, 1) := by decide +kernel
theorem dJ13_bitCount_95d88_33 : decode cJ13_bitCount_95d88 33 = .ok (.lstore_n 0, 1) := by decide +kernel
theorem dJ13_bitCount_95d88_34 : decode cJ13_bitCount_95d88 34 = .ok (.lload_n 0, 1) := by decide +kernel
theorem dJ13_bitCount_95d88_35 : decode cJ13_bitCount_95d88 35 = .ok (.lload_n 0, 1) := by decide +kernel
theorem dJ13_bitCount_95d88_36 : decode cJ13_bitCount_95d88 36 = .ok (.bipush 8, 2) := by decide +kernel
theorem dJ13_bitCount_95d88_38 : decode cJ13_bitCount_95d88 38 = .ok (.lushr, 1) := by decide +kernel
theorem dJ13_bitCount_95d88_39 : decode cJ13_bitCount_95d88 39 = .ok (.ladd, 1) := by decide +kernel
theorem dJ13_bitCount_95d88_40 : decode cJ13_bitCount_95d88 40 = .ok (.lstore_n 0, 1) := by decide +kernel
theorem dJ13_bitCount_95d88_41 : decode cJ13_bitCount_95d88 41 = .ok (.lload_n 0, 1) := by decide +kernel
theorem dJ13_bitCount_95d88_42 : decode cJ13_bitCount_95d88 42 = .ok (.lload_n 0, 1) := by decide +kernel
theorem dJ13_bitCount_95d88_43 : decode cJ13_bitCount_95d88 43 = .ok (.bipush 16, 2) := by decide +kernel
theorem dJ13_bitCount_95d88_45 : decode cJ13_bitCount_95d88 45 = .ok (.lushr, 1) := by decide +kernel
theorem dJ13_bitCount_95d88_46 : decode cJ13_bitCount_95d88 46 = .ok (.ladd, 1) := by decide +kernel
theorem dJ13_bitCount_95d88_47 : decode cJ13_bitCount_95d88 47 = .ok (.lstore_n 0, 1) := by decide +kernel
theorem dJ13_bitCount_95d88_48 : decode cJ13_bitCount_95d88 48 = .ok (.lload_n 0, 1) := by decide +kernel
theorem dJ13_bitCount_95d88_49 : decode cJ13_bitCount_95d88 49 = .ok (.lload_n 0, 1) := by decide +kernel
theorem dJ13_bitCount_95d88_50 : decode cJ13_bitCount_95d88 50 = .ok (.bipush 32, 2) := by decide +kernel
theorem dJ13_bitCount_95d88_52 : decode cJ13_bitCount_95d88 52 = .ok (.lushr, 1) := by decide +kernel
theorem dJ13_bitCount_95d88_53 : decode cJ13_bitCount_95d88 53 = .ok (.ladd, 1) := by decide +kernel
theorem dJ13_bitCount_95d88_54 : decode cJ13_bitCount_95d88 54 = .ok (.lstore_n 0, 1) := by decide +kernel
theorem dJ13_bitCount_95d88_55 : decode cJ13_bitCount_95d88 55 = .ok (.lload_n 0, 1) := by decide +kernel
theorem dJ13_bitCount_95d88_56 : decode cJ13_bitCount_95d88 56 = .ok (.l2i, 1) := by decide +kernel
theorem dJ13_bitCount_95d88_57 : decode cJ13_bitCount_95d88 57 = .ok (.bipush 127, 2) := by decide +kernel
theorem dJ13_bitCount_95d88_59 : decode cJ13_bitCount_95d88 59 = .ok (.iand, 1) := by decide +kernel
theorem dJ13_bitCount_95d88_60 : decode cJ13_bitCount_95d88 60 = .ok (.ireturn, 1) := by decide +kernel
theorem dJ9_max_7cf53_0 : decode cJ9_max_7cf53 0 = .ok (.iload_n 0, 1) := by decide +kernel
theorem dJ9_max_7cf53_1 : decode cJ9_max_7cf53 1 = .ok (.iload_n 1, 1) := by decide +kernel
theorem dJ9_max_7cf53_2 : decode cJ9_max_7cf53 2 = .ok (.if_icmp .lt 7, 3) := by decide +kernel
theorem dJ9_max_7cf53_5 : decode cJ9_max_7cf53 5 = .ok (.iload_n 0, 1) := by decide +kernel
theorem dJ9_max_7cf53_6 : decode cJ9_max_7cf53 6 = .ok (.goto 4, 3) := by decide +kernel
theorem dJ9_max_7cf53_9 : decode cJ9_max_7cf53 9 = .ok (.iload_n 1, 1) := by decide +kernel
theorem dJ9_max_7cf53_10 : decode cJ9_max_7cf53 10 = .ok (.ireturn, 1) := by decide +kernel
theorem dL_law_0 : decode cL_law 0 = .ok (.new 7, 3) := by decide +kernel
theorem dL_law_3 : decode cL_law 3 = .ok (.dup, 1) := by decide +kernel
theorem dL_law_4 : decode cL_law 4 = .ok (.invokespecial 9, 3) := by decide +kernel
theorem dL_law_7 : decode cL_law 7 = .ok (.astore_n 1, 1) := by decide +kernel
theorem dL_law_8 : decode cL_law 8 = .ok (.new 10, 3) := by decide +kernel
theorem dL_law_11 : decode cL_law 11 = .ok (.dup, 1) := by decide +kernel
theorem dL_law_12 : decode cL_law 12 = .ok (.invokespecial 12, 3) := by decide +kernel
theorem dL_law_15 : decode cL_law 15 = .ok (.astore_n 2, 1) := by decide +kernel
theorem dL_law_16 : decode cL_law 16 = .ok (.iconst 0, 1) := by decide +kernel
theorem dL_law_17 : decode cL_law 17 = .ok (.istore_n 3, 1) := by decide +kernel
theorem dL_law_18 : decode cL_law 18 = .ok (.iload_n 3, 1) := by decide +kernel
theorem dL_law_19 : decode cL_law 19 = .ok (.aload_n 0, 1) := by decide +kernel
theorem dL_law_20 : decode cL_law 20 = .ok (.arraylength, 1) := by decide +kernel
theorem dL_law_21 : decode cL_law 21 = .ok (.iconst 5, 1) := by decide +kernel
theorem dL_law_22 : decode cL_law 22 = .ok (.isub, 1) := by decide +kernel
theorem dL_law_23 : decode cL_law 23 = .ok (.if_icmp .gt 863, 3) := by decide +kernel
theorem dL_law_26 : decode cL_law 26 = .ok (.aload_n 0, 1) := by decide +kernel
theorem dL_law_27 : decode cL_law 27 = .ok (.iload_n 3, 1) := by decide +kernel
theorem dL_law_28 : decode cL_law 28 = .ok (.iaload, 1) := by decide +kernel
theorem dL_law_29 : decode cL_law 29 = .ok (.bipush 31, 2) := by decide +kernel
theorem dL_law_31 : decode cL_law 31 = .ok (.iand, 1) := by decide +kernel
theorem dL_law_32 : decode cL_law 32 = .ok (.tableswitch 848 0 25 #[120, 143, 186, 219, 232, 265, 318, 331, 354, 387, 430, 483, 526, 559, 592, 625, 658, 681, 694, 717, 730, 753, 766, 789, 802, 825], 120) := by decide +kernel
theorem dL_law_152 : decode cL_law 152 = .ok (.aload_n 1, 1) := by decide +kernel
theorem dL_law_153 : decode cL_law 153 = .ok (.aload_n 0, 1) := by decide +kernel
theorem dL_law_154 : decode cL_law 154 = .ok (.iload_n 3, 1) := by decide +kernel
theorem dL_law_155 : decode cL_law 155 = .ok (.iconst 1, 1) := by decide +kernel
theorem dL_law_156 : decode cL_law 156 = .ok (.iadd, 1) := by decide +kernel
theorem dL_law_157 : decode cL_law 157 = .ok (.iaload, 1) := by decide +kernel
theorem dL_law_158 : decode cL_law 158 = .ok (.invokevirtual 13, 3) := by decide +kernel
theorem dL_law_161 : decode cL_law 161 = .ok (.aload_n 2, 1) := by decide +kernel
theorem dL_law_162 : decode cL_law 162 = .ok (.aload_n 0, 1) := by decide +kernel
theorem dL_law_163 : decode cL_law 163 = .ok (.iload_n 3, 1) := by decide +kernel
theorem dL_law_164 : decode cL_law 164 = .ok (.iconst 1, 1) := by decide +kernel
theorem dL_law_165 : decode cL_law 165 = .ok (.iadd, 1) := by decide +kernel
theorem dL_law_166 : decode cL_law 166 = .ok (.iaload, 1) := by decide +kernel
theorem dL_law_167 : decode cL_law 167 = .ok (.invokevirtual 17, 3) := by decide +kernel
theorem dL_law_170 : decode cL_law 170 = .ok (.if_icmp .eq 710, 3) := by decide +kernel
theorem dL_law_173 : decode cL_law 173 = .ok (.iconst 0, 1) := by decide +kernel
theorem dL_law_174 : decode cL_law 174 = .ok (.ireturn, 1) := by decide +kernel
theorem dL_law_175 : decode cL_law 175 = .ok (.aload_n 1, 1) := by decide +kernel
theorem dL_law_176 : decode cL_law 176 = .ok (.aload_n 0, 1) := by decide +kernel
theorem dL_law_177 : decode cL_law 177 = .ok (.iload_n 3, 1) := by decide +kernel
theorem dL_law_178 : decode cL_law 178 = .ok (.iconst 1, 1) := by decide +kernel
theorem dL_law_179 : decode cL_law 179 = .ok (.iadd, 1) := by decide +kernel
theorem dL_law_180 : decode cL_law 180 = .ok (.iaload, 1) := by decide +kernel
theorem dL_law_181 : decode cL_law 181 = .ok (.aload_n 0, 1) := by decide +kernel
theorem dL_law_182 : decode cL_law 182 = .ok (.iload_n 3, 1) := by decide +kernel
theorem dL_law_183 : decode cL_law 183 = .ok (.iconst 2, 1) := by decide +kernel
theorem dL_law_184 : decode cL_law 184 = .ok (.iadd, 1) := by decide +kernel
theorem dL_law_185 : decode cL_law 185 = .ok (.iaload, 1) := by decide +kernel
theorem dL_law_186 : decode cL_law 186 = .ok (.aload_n 0, 1) := by decide +kernel
theorem dL_law_187 : decode cL_law 187 = .ok (.iload_n 3, 1) := by decide +kernel
theorem dL_law_188 : decode cL_law 188 = .ok (.iconst 3, 1) := by decide +kernel
theorem dL_law_189 : decode cL_law 189 = .ok (.iadd, 1) := by decide +kernel
theorem dL_law_190 : decode cL_law 190 = .ok (.iaload, 1) := by decide +kernel
theorem dL_law_191 : decode cL_law 191 = .ok (.invokevirtual 18, 3) := by decide +kernel
theorem dL_law_194 : decode cL_law 194 = .ok (.aload_n 2, 1) := by decide +kernel
theorem dL_law_195 : decode cL_law 195 = .ok (.aload_n 0, 1) := by decide +kernel
theorem dL_law_196 : decode cL_law 196 = .ok (.iload_n 3, 1) := by decide +kernel
theorem dL_law_197 : decode cL_law 197 = .ok (.iconst 1, 1) := by decide +kernel
theorem dL_law_198 : decode cL_law 198 = .ok (.iadd, 1) := by decide +kernel
theorem dL_law_199 : decode cL_law 199 = .ok (.iaload, 1) := by decide +kernel
theorem dL_law_200 : decode cL_law 200 = .ok (.aload_n 0, 1) := by decide +kernel
theorem dL_law_201 : decode cL_law 201 = .ok (.iload_n 3, 1) := by decide +kernel
theorem dL_law_202 : decode cL_law 202 = .ok (.iconst 2, 1) := by decide +kernel
theorem dL_law_203 : decode cL_law 203 = .ok (.iadd, 1) := by decide +kernel
theorem dL_law_204 : decode cL_law 204 = .ok (.iaload, 1) := by decide +kernel
theorem dL_law_205 : decode cL_law 205 = .ok (.aload_n 0, 1) := by decide +kernel
theorem dL_law_206 : decode cL_law 206 = .ok (.iload_n 3, 1) := by decide +kernel
theorem dL_law_207 : decode cL_law 207 = .ok (.iconst 3, 1) := by decide +kernel
theorem dL_law_208 : decode cL_law 208 = .ok (.iadd, 1) := by decide +kernel
theorem dL_law_209 : decode cL_law 209 = .ok (.iaload, 1) := by decide +kernel
theorem dL_law_210 : decode cL_law 210 = .ok (.invokevirtual 22, 3) := by decide +kernel
theorem dL_law_213 : decode cL_law 213 = .ok (.if_icmp .eq 667, 3) := by decide +kernel
theorem dL_law_216 : decode cL_law 216 = .ok (.iconst 0, 1) := by decide +kernel
theorem dL_law_217 : decode cL_law 217 = .ok (.ireturn, 1) := by decide +kernel
theorem dL_law_218 : decode cL_law 218 = .ok (.aload_n 1, 1) := by decide +kernel
theorem dL_law_219 : decode cL_law 219 = .ok (.aload_n 0, 1) := by decide +kernel
theorem dL_law_220 : decode cL_law 220 = .ok (.iload_n 3, 1) := by decide +kernel
theorem dL_law_221 : decode cL_law 221 = .ok (.iconst 1, 1) := by decide +kernel
theorem dL_law_222 : decode cL_law 222 = .ok (.iadd, 1) := by decide +kernel
theorem dL_law_223 : decode cL_law 223 = .ok (.iaload, 1) := by decide +kernel
theorem dL_law_224 : decode cL_law 224 = .ok (.aload_n 0, 1) := by decide +kernel
theorem dL_law_225 : decode cL_law 225 = .ok (.iload_n 3, 1) := by decide +kernel
theorem dL_law_226 : decode cL_law 226 = .ok (.iconst 2, 1) := by decide +kernel
theorem dL_law_227 : decode cL_law 227 = .ok (.iadd, 1) := by decide +kernel
theorem dL_law_228 : decode cL_law 228 = .ok (.iaload, 1) := by decide +kernel
theorem dL_law_229 : decode cL_law 229 = .ok (.invokevirtual 23, 3) := by decide +kernel
theorem dL_law_232 : decode cL_law 232 = .ok (.aload_n 2, 1) := by decide +kernel
theorem dL_law_233 : decode cL_law 233 = .ok (.aload_n 0, 1) := by decide +kernel
theorem dL_law_234 : decode cL_law 234 = .ok (.iload_n 3, 1) := by decide +kernel
theorem dL_law_235 : decode cL_law 235 = .ok (.iconst 1, 1) := by decide +kernel
theorem dL_law_236 : decode cL_law 236 = .ok (.iadd, 1) := by decide +kernel
theorem dL_law_237 : decode cL_law 237 = .ok (.iaload, 1) := by decide +kernel
theorem dL_law_238 : decode cL_law 238 = .ok (.aload_n 0, 1) := by decide +kernel
theorem dL_law_239 : decode cL_law 239 = .ok (.iload_n 3, 1) := by decide +kernel
theorem dL_law_240 : decode cL_law 240 = .ok (.iconst 2, 1) := by decide +kernel
theorem dL_law_241 : decode cL_law 241 = .ok (.iadd, 1) := by decide +kernel
theorem dL_law_242 : decode cL_law 242 = .ok (.iaload, 1) := by decide +kernel
theorem dL_law_243 : decode cL_law 243 = .ok (.invokevirtual 27, 3) := by decide +kernel
theorem dL_law_246 : decode cL_law 246 = .ok (.if_icmp .eq 634, 3) := by decide +kernel
theorem dL_law_249 : decode cL_law 249 = .ok (.iconst 0, 1) := by decide +kernel
theorem dL_law_250 : decode cL_law 250 = .ok (.ireturn, 1) := by decide +kernel
theorem dL_law_251 : decode cL_law 251 = .ok (.aload_n 1, 1) := by decide +kernel
theorem dL_law_252 : decode cL_law 252 = .ok (.invokevirtual 28, 3) := by decide +kernel
theorem dL_law_255 : decode cL_law 255 = .ok (.aload_n 2, 1) := by decide +kernel
theorem dL_law_256 : decode cL_law 256 = .ok (.invokevirtual 32, 3) := by decide +kernel
theorem dL_law_259 : decode cL_law 259 = .ok (.if_icmp .eq 621, 3) := by decide +kernel
theorem dL_law_262 : decode cL_law 262 = .ok (.iconst 0, 1) := by decide +kernel
theorem dL_law_263 : decode cL_law 263 = .ok (.ireturn, 1) := by decide +kernel
theorem dL_law_264 : decode cL_law 264 = .ok (.aload_n 1, 1) := by decide +kernel
theorem dL_law_265 : decode cL_law 265 = .ok (.aload_n 0, 1) := by decide +kernel
theorem dL_law_266 : decode cL_law 266 = .ok (.iload_n 3, 1) := by decide +kernel
theorem dL_law_267 : decode cL_law 267 = .ok (.iconst 1, 1) := by decide +kernel
theorem dL_law_268 : decode cL_law 268 = .ok (.iadd, 1) := by decide +kernel
theorem dL_law_269 : decode cL_law 269 = .ok (.iaload, 1) := by decide +kernel
theorem dL_law_270 : decode cL_law 270 = .ok (.aload_n 0, 1) := by decide +kernel
theorem dL_law_271 : decode cL_law 271 = .ok (.iload_n 3, 1) := by decide +kernel
theorem dL_law_272 : decode cL_law 272 = .ok (.iconst 2, 1) := by decide +kernel
theorem dL_law_273 : decode cL_law 273 = .ok (.iadd, 1) := by decide +kernel
theorem dL_law_274 : decode cL_law 274 = .ok (.iaload, 1) := by decide +kernel
theorem dL_law_275 : decode cL_law 275 = .ok (.invokevirtual 33, 3) := by decide +kernel
theorem dL_law_278 : decode cL_law 278 = .ok (.aload_n 2, 1) := by decide +kernel
theorem dL_law_279 : decode cL_law 279 = .ok (.aload_n 0, 1) := by decide +kernel
theorem dL_law_280 : decode cL_law 280 = .ok (.iload_n 3, 1) := by decide +kernel
theorem dL_law_281 : decode cL_law 281 = .ok (.iconst 1, 1) := by decide +kernel
theorem dL_law_282 : decode cL_law 282 = .ok (.iadd, 1) := by decide +kernel
theorem dL_law_283 : decode cL_law 283 = .ok (.iaload, 1) := by decide +kernel
theorem dL_law_284 : decode cL_law 284 = .ok (.aload_n 0, 1) := by decide +kernel
theorem dL_law_285 : decode cL_law 285 = .ok (.iload_n 3, 1) := by decide +kernel
theorem dL_law_286 : decode cL_law 286 = .ok (.iconst 2, 1) := by decide +kernel
theorem dL_law_287 : decode cL_law 287 = .ok (.iadd, 1) := by decide +kernel
theorem dL_law_288 : decode cL_law 288 = .ok (.iaload, 1) := by decide +kernel
theorem dL_law_289 : decode cL_law 289 = .ok (.invokevirtual 36, 3) := by decide +kernel
theorem dL_law_292 : decode cL_law 292 = .ok (.if_icmp .eq 588, 3) := by decide +kernel
theorem dL_law_295 : decode cL_law 295 = .ok (.iconst 0, 1) := by decide +kernel
theorem dL_law_296 : decode cL_law 296 = .ok (.ireturn, 1) := by decide +kernel
theorem dL_law_297 : decode cL_law 297 = .ok (.aload_n 1, 1) := by decide +kernel
theorem dL_law_298 : decode cL_law 298 = .ok (.aload_n 0, 1) := by decide +kernel
theorem dL_law_299 : decode cL_law 299 = .ok (.iload_n 3, 1) := by decide +kernel
theorem dL_law_300 : decode cL_law 300 = .ok (.iconst 1, 1) := by decide +kernel
theorem dL_law_301 : decode cL_law 301 = .ok (.iadd, 1) := by decide +kernel
theorem dL_law_302 : decode cL_law 302 = .ok (.iaload, 1) := by decide +kernel
theorem dL_law_303 : decode cL_law 303 = .ok (.aload_n 0, 1) := by decide +kernel
theorem dL_law_304 : decode cL_law 304 = .ok (.iload_n 3, 1) := by decide +kernel
theorem dL_law_305 : decode cL_law 305 = .ok (.iconst 2, 1) := by decide +kernel
theorem dL_law_306 : decode cL_law 306 = .ok (.iadd, 1) := by decide +kernel
theorem dL_law_307 : decode cL_law 307 = .ok (.iaload, 1) := by decide +kernel
theorem dL_law_308 : decode cL_law 308 = .ok (.aload_n 0, 1) := by decide +kernel
theorem dL_law_309 : decode cL_law 309 = .ok (.iload_n 3, 1) := by decide +kernel
theorem dL_law_310 : decode cL_law 310 = .ok (.iconst 3, 1) := by decide +kernel
theorem dL_law_311 : decode cL_law 311 = .ok (.iadd, 1) := by decide +kernel
theorem dL_law_312 : decode cL_law 312 = .ok (.iaload, 1) := by decide +kernel
theorem dL_law_313 : decode cL_law 313 = .ok (.aload_n 0, 1) := by decide +kernel
theorem dL_law_314 : decode cL_law 314 = .ok (.iload_n 3, 1) := by decide +kernel
theorem dL_law_315 : decode cL_law 315 = .ok (.iconst 4, 1) := by decide +kernel
theorem dL_law_316 : decode cL_law 316 = .ok (.iadd, 1) := by decide +kernel
theorem dL_law_317 : decode cL_law 317 = .ok (.iaload, 1) := by decide +kernel
theorem dL_law_318 : decode cL_law 318 = .ok (.invokevirtual 37, 3) := by decide +kernel
theorem dL_law_321 : decode cL_law 321 = .ok (.aload_n 2, 1) := by decide +kernel
theorem dL_law_322 : decode cL_law 322 = .ok (.aload_n 0, 1) := by decide +kernel
theorem dL_law_323 : decode cL_law 323 = .ok (.iload_n 3, 1) := by decide +kernel
theorem dL_law_324 : decode cL_law 324 = .ok (.iconst 1, 1) := by decide +kernel
theorem dL_law_325 : decode cL_law 325 = .ok (.iadd, 1) := by decide +kernel
theorem dL_law_326 : decode cL_law 326 = .ok (.iaload, 1) := by decide +kernel
theorem dL_law_327 : decode cL_law 327 = .ok (.aload_n 0, 1) := by decide +kernel
theorem dL_law_328 : decode cL_law 328 = .ok (.iload_n 3, 1) := by decide +kernel
theorem dL_law_329 : decode cL_law 329 = .ok (.iconst 2, 1) := by decide +kernel
theorem dL_law_330 : decode cL_law 330 = .ok (.iadd, 1) := by decide +kernel
theorem dL_law_331 : decode cL_law 331 = .ok (.iaload, 1) := by decide +kernel
theorem dL_law_332 : decode cL_law 332 = .ok (.aload_n 0, 1) := by decide +kernel
theorem dL_law_333 : decode cL_law 333 = .ok (.iload_n 3, 1) := by decide +kernel
theorem dL_law_334 : decode cL_law 334 = .ok (.iconst 3, 1) := by decide +kernel
theorem dL_law_335 : decode cL_law 335 = .ok (.iadd, 1) := by decide +kernel
theorem dL_law_336 : decode cL_law 336 = .ok (.iaload, 1) := by decide +kernel
theorem dL_law_337 : decode cL_law 337 = .ok (.aload_n 0, 1) := by decide +kernel
theorem dL_law_338 : decode cL_law 338 = .ok (.iload_n 3, 1) := by decide +kernel
theorem dL_law_339 : decode cL_law 339 = .ok (.iconst 4, 1) := by decide +kernel
theorem dL_law_340 : decode cL_law 340 = .ok (.iadd, 1) := by decide +kernel
theorem dL_law_341 : decode cL_law 341 = .ok (.iaload, 1) := by decide +kernel
theorem dL_law_342 : decode cL_law 342 = .ok (.invokevirtual 41, 3) := by decide +kernel
theorem dL_law_345 : decode cL_law 345 = .ok (.if_icmp .eq 535, 3) := by decide +kernel
theorem dL_law_348 : decode cL_law 348 = .ok (.iconst 0, 1) := by decide +kernel
theorem dL_law_349 : decode cL_law 349 = .ok (.ireturn, 1) := by decide +kernel
theorem dL_law_350 : decode cL_law 350 = .ok (.aload_n 1, 1) := by decide +kernel
theorem dL_law_351 : decode cL_law 351 = .ok (.invokevirtual 42, 3) := by decide +kernel
theorem dL_law_354 : decode cL_law 354 = .ok (.aload_n 2, 1) := by decide +kernel
theorem dL_law_355 : decode cL_law 355 = .ok (.invokevirtual 45, 3) := by decide +kernel
theorem dL_law_358 : decode cL_law 358 = .ok (.if_icmp .eq 522, 3) := by decide +kernel
theorem dL_law_361 : decode cL_law 361 = .ok (.iconst 0, 1) := by decide +kernel
theorem dL_law_362 : decode cL_law 362 = .ok (.ireturn, 1) := by decide +kernel
theorem dL_law_363 : decode cL_law 363 = .ok (.aload_n 1, 1) := by decide +kernel
theorem dL_law_364 : decode cL_law 364 = .ok (.aload_n 0, 1) := by decide +kernel
theorem dL_law_365 : decode cL_law 365 = .ok (.iload_n 3, 1) := by decide +kernel
theorem dL_law_366 : decode cL_law 366 = .ok (.iconst 1, 1) := by decide +kernel
theorem dL_law_367 : decode cL_law 367 = .ok (.iadd, 1) := by decide +kernel
theorem dL_law_368 : decode cL_law 368 = .ok (.iaload, 1) := by decide +kernel
theorem dL_law_369 : decode cL_law 369 = .ok (.invokevirtual 46, 3) := by decide +kernel
theorem dL_law_372 : decode cL_law 372 = .ok (.aload_n 2, 1) := by decide +kernel
theorem dL_law_373 : decode cL_law 373 = .ok (.aload_n 0, 1) := by decide +kernel
theorem dL_law_374 : decode cL_law 374 = .ok (.iload_n 3, 1) := by decide +kernel
theorem dL_law_375 : decode cL_law 375 = .ok (.iconst 1, 1) := by decide +kernel
theorem dL_law_376 : decode cL_law 376 = .ok (.iadd, 1) := by decide +kernel
theorem dL_law_377 : decode cL_law 377 = .ok (.iaload, 1) := by decide +kernel
theorem dL_law_378 : decode cL_law 378 = .ok (.invokevirtual 49, 3) := by decide +kernel
theorem dL_law_381 : decode cL_law 381 = .ok (.if_icmp .eq 499, 3) := by decide +kernel
theorem dL_law_384 : decode cL_law 384 = .ok (.iconst 0, 1) := by decide +kernel
theorem dL_law_385 : decode cL_law 385 = .ok (.ireturn, 1) := by decide +kernel
theorem dL_law_386 : decode cL_law 386 = .ok (.aload_n 1, 1) := by decide +kernel
theorem dL_law_387 : decode cL_law 387 = .ok (.aload_n 0, 1) := by decide +kernel
theorem dL_law_388 : decode cL_law 388 = .ok (.iload_n 3, 1) := by decide +kernel
theorem dL_law_389 : decode cL_law 389 = .ok (.iconst 1, 1) := by decide +kernel
theorem dL_law_390 : decode cL_law 390 = .ok (.iadd, 1) := by decide +kernel
theorem dL_law_391 : decode cL_law 391 = .ok (.iaload, 1) := by decide +kernel
theorem dL_law_392 : decode cL_law 392 = .ok (.aload_n 0, 1) := by decide +kernel
theorem dL_law_393 : decode cL_law 393 = .ok (.iload_n 3, 1) := by decide +kernel
theorem dL_law_394 : decode cL_law 394 = .ok (.iconst 2, 1) := by decide +kernel
theorem dL_law_395 : decode cL_law 395 = .ok (.iadd, 1) := by decide +kernel
theorem dL_law_396 : decode cL_law 396 = .ok (.iaload, 1) := by decide +kernel
theorem dL_law_397 : decode cL_law 397 = .ok (.invokevirtual 50, 3) := by decide +kernel
theorem dL_law_400 : decode cL_law 400 = .ok (.aload_n 2, 1) := by decide +kernel
theorem dL_law_401 : decode cL_law 401 = .ok (.aload_n 0, 1) := by decide +kernel
theorem dL_law_402 : decode cL_law 402 = .ok (.iload_n 3, 1) := by decide +kernel
theorem dL_law_403 : decode cL_law 403 = .ok (.iconst 1, 1) := by decide +kernel
theorem dL_law_404 : decode cL_law 404 = .ok (.iadd, 1) := by decide +kernel
theorem dL_law_405 : decode cL_law 405 = .ok (.iaload, 1) := by decide +kernel
theorem dL_law_406 : decode cL_law 406 = .ok (.aload_n 0, 1) := by decide +kernel
theorem dL_law_407 : decode cL_law 407 = .ok (.iload_n 3, 1) := by decide +kernel
theorem dL_law_408 : decode cL_law 408 = .ok (.iconst 2, 1) := by decide +kernel
theorem dL_law_409 : decode cL_law 409 = .ok (.iadd, 1) := by decide +kernel
theorem dL_law_410 : decode cL_law 410 = .ok (.iaload, 1) := by decide +kernel
theorem dL_law_411 : decode cL_law 411 = .ok (.invokevirtual 53, 3) := by decide +kernel
theorem dL_law_414 : decode cL_law 414 = .ok (.if_icmp .eq 466, 3) := by decide +kernel
theorem dL_law_417 : decode cL_law 417 = .ok (.iconst 0, 1) := by decide +kernel
theorem dL_law_418 : decode cL_law 418 = .ok (.ireturn, 1) := by decide +kernel
theorem dL_law_419 : decode cL_law 419 = .ok (.aload_n 1, 1) := by decide +kernel
theorem dL_law_420 : decode cL_law 420 = .ok (.aload_n 0, 1) := by decide +kernel
theorem dL_law_421 : decode cL_law 421 = .ok (.iload_n 3, 1) := by decide +kernel
theorem dL_law_422 : decode cL_law 422 = .ok (.iconst 1, 1) := by decide +kernel
theorem dL_law_423 : decode cL_law 423 = .ok (.iadd, 1) := by decide +kernel
theorem dL_law_424 : decode cL_law 424 = .ok (.iaload, 1) := by decide +kernel
theorem dL_law_425 : decode cL_law 425 = .ok (.aload_n 0, 1) := by decide +kernel
theorem dL_law_426 : decode cL_law 426 = .ok (.iload_n 3, 1) := by decide +kernel
theorem dL_law_427 : decode cL_law 427 = .ok (.iconst 2, 1) := by decide +kernel
theorem dL_law_428 : decode cL_law 428 = .ok (.iadd, 1) := by decide +kernel
theorem dL_law_429 : decode cL_law 429 = .ok (.iaload, 1) := by decide +kernel
theorem dL_law_430 : decode cL_law 430 = .ok (.aload_n 0, 1) := by decide +kernel
theorem dL_law_431 : decode cL_law 431 = .ok (.iload_n 3, 1) := by decide +kernel
theorem dL_law_432 : decode cL_law 432 = .ok (.iconst 3, 1) := by decide +kernel
theorem dL_law_433 : decode cL_law 433 = .ok (.iadd, 1) := by decide +kernel
theorem dL_law_434 : decode cL_law 434 = .ok (.iaload, 1) := by decide +kernel
theorem dL_law_435 : decode cL_law 435 = .ok (.invokevirtual 54, 3) := by decide +kernel
theorem dL_law_438 : decode cL_law 438 = .ok (.aload_n 2, 1) := by decide +kernel
theorem dL_law_439 : decode cL_law 439 = .ok (.aload_n 0, 1) := by decide +kernel
theorem dL_law_440 : decode cL_law 440 = .ok (.iload_n 3, 1) := by decide +kernel
theorem dL_law_441 : decode cL_law 441 = .ok (.iconst 1, 1) := by decide +kernel
theorem dL_law_442 : decode cL_law 442 = .ok (.iadd, 1) := by decide +kernel
theorem dL_law_443 : decode cL_law 443 = .ok (.iaload, 1) := by decide +kernel
theorem dL_law_444 : decode cL_law 444 = .ok (.aload_n 0, 1) := by decide +kernel
theorem dL_law_445 : decode cL_law 445 = .ok (.iload_n 3, 1) := by decide +kernel
theorem dL_law_446 : decode cL_law 446 = .ok (.iconst 2, 1) := by decide +kernel
theorem dL_law_447 : decode cL_law 447 = .ok (.iadd, 1) := by decide +kernel
theorem dL_law_448 : decode cL_law 448 = .ok (.iaload, 1) := by decide +kernel
theorem dL_law_449 : decode cL_law 449 = .ok (.aload_n 0, 1) := by decide +kernel
theorem dL_law_450 : decode cL_law 450 = .ok (.iload_n 3, 1) := by decide +kernel
theorem dL_law_451 : decode cL_law 451 = .ok (.iconst 3, 1) := by decide +kernel
theorem dL_law_452 : decode cL_law 452 = .ok (.iadd, 1) := by decide +kernel
theorem dL_law_453 : decode cL_law 453 = .ok (.iaload, 1) := by decide +kernel
theorem dL_law_454 : decode cL_law 454 = .ok (.invokevirtual 57, 3) := by decide +kernel
theorem dL_law_457 : decode cL_law 457 = .ok (.if_icmp .eq 423, 3) := by decide +kernel
theorem dL_law_460 : decode cL_law 460 = .ok (.iconst 0, 1) := by decide +kernel
theorem dL_law_461 : decode cL_law 461 = .ok (.ireturn, 1) := by decide +kernel
theorem dL_law_462 : decode cL_law 462 = .ok (.aload_n 1, 1) := by decide +kernel
theorem dL_law_463 : decode cL_law 463 = .ok (.aload_n 0, 1) := by decide +kernel
theorem dL_law_464 : decode cL_law 464 = .ok (.iload_n 3, 1) := by decide +kernel
theorem dL_law_465 : decode cL_law 465 = .ok (.iconst 1, 1) := by decide +kernel
theorem dL_law_466 : decode cL_law 466 = .ok (.iadd, 1) := by decide +kernel
theorem dL_law_467 : decode cL_law 467 = .ok (.iaload, 1) := by decide +kernel
theorem dL_law_468 : decode cL_law 468 = .ok (.aload_n 0, 1) := by decide +kernel
theorem dL_law_469 : decode cL_law 469 = .ok (.iload_n 3, 1) := by decide +kernel
theorem dL_law_470 : decode cL_law 470 = .ok (.iconst 2, 1) := by decide +kernel
theorem dL_law_471 : decode cL_law 471 = .ok (.iadd, 1) := by decide +kernel
theorem dL_law_472 : decode cL_law 472 = .ok (.iaload, 1) := by decide +kernel
theorem dL_law_473 : decode cL_law 473 = .ok (.aload_n 0, 1) := by decide +kernel
theorem dL_law_474 : decode cL_law 474 = .ok (.iload_n 3, 1) := by decide +kernel
theorem dL_law_475 : decode cL_law 475 = .ok (.iconst 3, 1) := by decide +kernel
theorem dL_law_476 : decode cL_law 476 = .ok (.iadd, 1) := by decide +kernel
theorem dL_law_477 : decode cL_law 477 = .ok (.iaload, 1) := by decide +kernel
theorem dL_law_478 : decode cL_law 478 = .ok (.aload_n 0, 1) := by decide +kernel
theorem dL_law_479 : decode cL_law 479 = .ok (.iload_n 3, 1) := by decide +kernel
theorem dL_law_480 : decode cL_law 480 = .ok (.iconst 4, 1) := by decide +kernel
theorem dL_law_481 : decode cL_law 481 = .ok (.iadd, 1) := by decide +kernel
theorem dL_law_482 : decode cL_law 482 = .ok (.iaload, 1) := by decide +kernel
theorem dL_law_483 : decode cL_law 483 = .ok (.invokevirtual 58, 3) := by decide +kernel
theorem dL_law_486 : decode cL_law 486 = .ok (.aload_n 2, 1) := by decide +kernel
theorem dL_law_487 : decode cL_law 487 = .ok (.aload_n 0, 1) := by decide +kernel
theorem dL_law_488 : decode cL_law 488 = .ok (.iload_n 3, 1) := by decide +kernel
theorem dL_law_489 : decode cL_law 489 = .ok (.iconst 1, 1) := by decide +kernel
theorem dL_law_490 : decode cL_law 490 = .ok (.iadd, 1) := by decide +kernel
theorem dL_law_491 : decode cL_law 491 = .ok (.iaload, 1) := by decide +kernel
theorem dL_law_492 : decode cL_law 492 = .ok (.aload_n 0, 1) := by decide +kernel
theorem dL_law_493 : decode cL_law 493 = .ok (.iload_n 3, 1) := by decide +kernel
theorem dL_law_494 : decode cL_law 494 = .ok (.iconst 2, 1) := by decide +kernel
theorem dL_law_495 : decode cL_law 495 = .ok (.iadd, 1) := by decide +kernel
theorem dL_law_496 : decode cL_law 496 = .ok (.iaload, 1) := by decide +kernel
theorem dL_law_497 : decode cL_law 497 = .ok (.aload_n 0, 1) := by decide +kernel
theorem dL_law_498 : decode cL_law 498 = .ok (.iload_n 3, 1) := by decide +kernel
theorem dL_law_499 : decode cL_law 499 = .ok (.iconst 3, 1) := by decide +kernel
theorem dL_law_500 : decode cL_law 500 = .ok (.iadd, 1) := by decide +kernel
theorem dL_law_501 : decode cL_law 501 = .ok (.iaload, 1) := by decide +kernel
theorem dL_law_502 : decode cL_law 502 = .ok (.aload_n 0, 1) := by decide +kernel
theorem dL_law_503 : decode cL_law 503 = .ok (.iload_n 3, 1) := by decide +kernel
theorem dL_law_504 : decode cL_law 504 = .ok (.iconst 4, 1) := by decide +kernel
theorem dL_law_505 : decode cL_law 505 = .ok (.iadd, 1) := by decide +kernel
theorem dL_law_506 : decode cL_law 506 = .ok (.iaload, 1) := by decide +kernel
theorem dL_law_507 : decode cL_law 507 = .ok (.invokevirtual 61, 3) := by decide +kernel
theorem dL_law_510 : decode cL_law 510 = .ok (.if_icmp .eq 370, 3) := by decide +kernel
theorem dL_law_513 : decode cL_law 513 = .ok (.iconst 0, 1) := by decide +kernel
theorem dL_law_514 : decode cL_law 514 = .ok (.ireturn, 1) := by decide +kernel
theorem dL_law_515 : decode cL_law 515 = .ok (.aload_n 1, 1) := by decide +kernel
theorem dL_law_516 : decode cL_law 516 = .ok (.aload_n 0, 1) := by decide +kernel
theorem dL_law_517 : decode cL_law 517 = .ok (.iload_n 3, 1) := by decide +kernel
theorem dL_law_518 : decode cL_law 518 = .ok (.iconst 1, 1) := by decide +kernel
theorem dL_law_519 : decode cL_law 519 = .ok (.iadd, 1) := by decide +kernel
theorem dL_law_520 : decode cL_law 520 = .ok (.iaload, 1) := by decide +kernel
theorem dL_law_521 : decode cL_law 521 = .ok (.aload_n 0, 1) := by decide +kernel
theorem dL_law_522 : decode cL_law 522 = .ok (.iload_n 3, 1) := by decide +kernel
theorem dL_law_523 : decode cL_law 523 = .ok (.iconst 2, 1) := by decide +kernel
theorem dL_law_524 : decode cL_law 524 = .ok (.iadd, 1) := by decide +kernel
theorem dL_law_525 : decode cL_law 525 = .ok (.iaload, 1) := by decide +kernel
theorem dL_law_526 : decode cL_law 526 = .ok (.aload_n 0, 1) := by decide +kernel
theorem dL_law_527 : decode cL_law 527 = .ok (.iload_n 3, 1) := by decide +kernel
theorem dL_law_528 : decode cL_law 528 = .ok (.iconst 3, 1) := by decide +kernel
theorem dL_law_529 : decode cL_law 529 = .ok (.iadd, 1) := by decide +kernel
theorem dL_law_530 : decode cL_law 530 = .ok (.iaload, 1) := by decide +kernel
theorem dL_law_531 : decode cL_law 531 = .ok (.invokevirtual 62, 3) := by decide +kernel
theorem dL_law_534 : decode cL_law 534 = .ok (.aload_n 2, 1) := by decide +kernel
theorem dL_law_535 : decode cL_law 535 = .ok (.aload_n 0, 1) := by decide +kernel
theorem dL_law_536 : decode cL_law 536 = .ok (.iload_n 3, 1) := by decide +kernel
theorem dL_law_537 : decode cL_law 537 = .ok (.iconst 1, 1) := by decide +kernel
theorem dL_law_538 : decode cL_law 538 = .ok (.iadd, 1) := by decide +kernel
theorem dL_law_539 : decode cL_law 539 = .ok (.iaload, 1) := by decide +kernel
theorem dL_law_540 : decode cL_law 540 = .ok (.aload_n 0, 1) := by decide +kernel
theorem dL_law_541 : decode cL_law 541 = .ok (.iload_n 3, 1) := by decide +kernel
theorem dL_law_542 : decode cL_law 542 = .ok (.iconst 2, 1) := by decide +kernel
theorem dL_law_543 : decode cL_law 543 = .ok (.iadd, 1) := by decide +kernel
theorem dL_law_544 : decode cL_law 544 = .ok (.iaload, 1) := by decide +kernel
theorem dL_law_545 : decode cL_law 545 = .ok (.aload_n 0, 1) := by decide +kernel
theorem dL_law_546 : decode cL_law 546 = .ok (.iload_n 3, 1) := by decide +kernel
theorem dL_law_547 : decode cL_law 547 = .ok (.iconst 3, 1) := by decide +kernel
theorem dL_law_548 : decode cL_law 548 = .ok (.iadd, 1) := by decide +kernel
theorem dL_law_549 : decode cL_law 549 = .ok (.iaload, 1) := by decide +kernel
theorem dL_law_550 : decode cL_law 550 = .ok (.invokevirtual 65, 3) := by decide +kernel
theorem dL_law_553 : decode cL_law 553 = .ok (.if_icmp .eq 327, 3) := by decide +kernel
theorem dL_law_556 : decode cL_law 556 = .ok (.iconst 0, 1) := by decide +kernel
theorem dL_law_557 : decode cL_law 557 = .ok (.ireturn, 1) := by decide +kernel
theorem dL_law_558 : decode cL_law 558 = .ok (.aload_n 1, 1) := by decide +kernel
theorem dL_law_559 : decode cL_law 559 = .ok (.aload_n 0, 1) := by decide +kernel
theorem dL_law_560 : decode cL_law 560 = .ok (.iload_n 3, 1) := by decide +kernel
theorem dL_law_561 : decode cL_law 561 = .ok (.iconst 1, 1) := by decide +kernel
theorem dL_law_562 : decode cL_law 562 = .ok (.iadd, 1) := by decide +kernel
theorem dL_law_563 : decode cL_law 563 = .ok (.iaload, 1) := by decide +kernel
theorem dL_law_564 : decode cL_law 564 = .ok (.aload_n 0, 1) := by decide +kernel
theorem dL_law_565 : decode cL_law 565 = .ok (.iload_n 3, 1) := by decide +kernel
theorem dL_law_566 : decode cL_law 566 = .ok (.iconst 2, 1) := by decide +kernel
theorem dL_law_567 : decode cL_law 567 = .ok (.iadd, 1) := by decide +kernel
theorem dL_law_568 : decode cL_law 568 = .ok (.iaload, 1) := by decide +kernel
theorem dL_law_569 : decode cL_law 569 = .ok (.invokevirtual 66, 3) := by decide +kernel
theorem dL_law_572 : decode cL_law 572 = .ok (.aload_n 2, 1) := by decide +kernel
theorem dL_law_573 : decode cL_law 573 = .ok (.aload_n 0, 1) := by decide +kernel
theorem dL_law_574 : decode cL_law 574 = .ok (.iload_n 3, 1) := by decide +kernel
theorem dL_law_575 : decode cL_law 575 = .ok (.iconst 1, 1) := by decide +kernel
theorem dL_law_576 : decode cL_law 576 = .ok (.iadd, 1) := by decide +kernel
theorem dL_law_577 : decode cL_law 577 = .ok (.iaload, 1) := by decide +kernel
theorem dL_law_578 : decode cL_law 578 = .ok (.aload_n 0, 1) := by decide +kernel
theorem dL_law_579 : decode cL_law 579 = .ok (.iload_n 3, 1) := by decide +kernel
theorem dL_law_580 : decode cL_law 580 = .ok (.iconst 2, 1) := by decide +kernel
theorem dL_law_581 : decode cL_law 581 = .ok (.iadd, 1) := by decide +kernel
theorem dL_law_582 : decode cL_law 582 = .ok (.iaload, 1) := by decide +kernel
theorem dL_law_583 : decode cL_law 583 = .ok (.invokevirtual 69, 3) := by decide +kernel
theorem dL_law_586 : decode cL_law 586 = .ok (.if_icmp .eq 294, 3) := by decide +kernel
theorem dL_law_589 : decode cL_law 589 = .ok (.iconst 0, 1) := by decide +kernel
theorem dL_law_590 : decode cL_law 590 = .ok (.ireturn, 1) := by decide +kernel
theorem dL_law_591 : decode cL_law 591 = .ok (.aload_n 1, 1) := by decide +kernel
theorem dL_law_592 : decode cL_law 592 = .ok (.aload_n 0, 1) := by decide +kernel
theorem dL_law_593 : decode cL_law 593 = .ok (.iload_n 3, 1) := by decide +kernel
theorem dL_law_594 : decode cL_law 594 = .ok (.iconst 1, 1) := by decide +kernel
theorem dL_law_595 : decode cL_law 595 = .ok (.iadd, 1) := by decide +kernel
theorem dL_law_596 : decode cL_law 596 = .ok (.iaload, 1) := by decide +kernel
theorem dL_law_597 : decode cL_law 597 = .ok (.aload_n 0, 1) := by decide +kernel
theorem dL_law_598 : decode cL_law 598 = .ok (.iload_n 3, 1) := by decide +kernel
theorem dL_law_599 : decode cL_law 599 = .ok (.iconst 2, 1) := by decide +kernel
theorem dL_law_600 : decode cL_law 600 = .ok (.iadd, 1) := by decide +kernel
theorem dL_law_601 : decode cL_law 601 = .ok (.iaload, 1) := by decide +kernel
theorem dL_law_602 : decode cL_law 602 = .ok (.invokevirtual 70, 3) := by decide +kernel
theorem dL_law_605 : decode cL_law 605 = .ok (.aload_n 2, 1) := by decide +kernel
theorem dL_law_606 : decode cL_law 606 = .ok (.aload_n 0, 1) := by decide +kernel
theorem dL_law_607 : decode cL_law 607 = .ok (.iload_n 3, 1) := by decide +kernel
theorem dL_law_608 : decode cL_law 608 = .ok (.iconst 1, 1) := by decide +kernel
theorem dL_law_609 : decode cL_law 609 = .ok (.iadd, 1) := by decide +kernel
theorem dL_law_610 : decode cL_law 610 = .ok (.iaload, 1) := by decide +kernel
theorem dL_law_611 : decode cL_law 611 = .ok (.aload_n 0, 1) := by decide +kernel
theorem dL_law_612 : decode cL_law 612 = .ok (.iload_n 3, 1) := by decide +kernel
theorem dL_law_613 : decode cL_law 613 = .ok (.iconst 2, 1) := by decide +kernel
theorem dL_law_614 : decode cL_law 614 = .ok (.iadd, 1) := by decide +kernel
theorem dL_law_615 : decode cL_law 615 = .ok (.iaload, 1) := by decide +kernel
theorem dL_law_616 : decode cL_law 616 = .ok (.invokevirtual 73, 3) := by decide +kernel
theorem dL_law_619 : decode cL_law 619 = .ok (.if_icmp .eq 261, 3) := by decide +kernel
theorem dL_law_622 : decode cL_law 622 = .ok (.iconst 0, 1) := by decide +kernel
theorem dL_law_623 : decode cL_law 623 = .ok (.ireturn, 1) := by decide +kernel
theorem dL_law_624 : decode cL_law 624 = .ok (.aload_n 1, 1) := by decide +kernel
theorem dL_law_625 : decode cL_law 625 = .ok (.aload_n 0, 1) := by decide +kernel
theorem dL_law_626 : decode cL_law 626 = .ok (.iload_n 3, 1) := by decide +kernel
theorem dL_law_627 : decode cL_law 627 = .ok (.iconst 1, 1) := by decide +kernel
theorem dL_law_628 : decode cL_law 628 = .ok (.iadd, 1) := by decide +kernel
theorem dL_law_629 : decode cL_law 629 = .ok (.iaload, 1) := by decide +kernel
theorem dL_law_630 : decode cL_law 630 = .ok (.aload_n 0, 1) := by decide +kernel
theorem dL_law_631 : decode cL_law 631 = .ok (.iload_n 3, 1) := by decide +kernel
theorem dL_law_632 : decode cL_law 632 = .ok (.iconst 2, 1) := by decide +kernel
theorem dL_law_633 : decode cL_law 633 = .ok (.iadd, 1) := by decide +kernel
theorem dL_law_634 : decode cL_law 634 = .ok (.iaload, 1) := by decide +kernel
theorem dL_law_635 : decode cL_law 635 = .ok (.invokevirtual 74, 3) := by decide +kernel
theorem dL_law_638 : decode cL_law 638 = .ok (.aload_n 2, 1) := by decide +kernel
theorem dL_law_639 : decode cL_law 639 = .ok (.aload_n 0, 1) := by decide +kernel
theorem dL_law_640 : decode cL_law 640 = .ok (.iload_n 3, 1) := by decide +kernel
theorem dL_law_641 : decode cL_law 641 = .ok (.iconst 1, 1) := by decide +kernel
theorem dL_law_642 : decode cL_law 642 = .ok (.iadd, 1) := by decide +kernel
theorem dL_law_643 : decode cL_law 643 = .ok (.iaload, 1) := by decide +kernel
theorem dL_law_644 : decode cL_law 644 = .ok (.aload_n 0, 1) := by decide +kernel
theorem dL_law_645 : decode cL_law 645 = .ok (.iload_n 3, 1) := by decide +kernel
theorem dL_law_646 : decode cL_law 646 = .ok (.iconst 2, 1) := by decide +kernel
theorem dL_law_647 : decode cL_law 647 = .ok (.iadd, 1) := by decide +kernel
theorem dL_law_648 : decode cL_law 648 = .ok (.iaload, 1) := by decide +kernel
theorem dL_law_649 : decode cL_law 649 = .ok (.invokevirtual 77, 3) := by decide +kernel
theorem dL_law_652 : decode cL_law 652 = .ok (.if_icmp .eq 228, 3) := by decide +kernel
theorem dL_law_655 : decode cL_law 655 = .ok (.iconst 0, 1) := by decide +kernel
theorem dL_law_656 : decode cL_law 656 = .ok (.ireturn, 1) := by decide +kernel
theorem dL_law_657 : decode cL_law 657 = .ok (.aload_n 1, 1) := by decide +kernel
theorem dL_law_658 : decode cL_law 658 = .ok (.aload_n 0, 1) := by decide +kernel
theorem dL_law_659 : decode cL_law 659 = .ok (.iload_n 3, 1) := by decide +kernel
theorem dL_law_660 : decode cL_law 660 = .ok (.iconst 1, 1) := by decide +kernel
theorem dL_law_661 : decode cL_law 661 = .ok (.iadd, 1) := by decide +kernel
theorem dL_law_662 : decode cL_law 662 = .ok (.iaload, 1) := by decide +kernel
theorem dL_law_663 : decode cL_law 663 = .ok (.aload_n 0, 1) := by decide +kernel
theorem dL_law_664 : decode cL_law 664 = .ok (.iload_n 3, 1) := by decide +kernel
theorem dL_law_665 : decode cL_law 665 = .ok (.iconst 2, 1) := by decide +kernel
theorem dL_law_666 : decode cL_law 666 = .ok (.iadd, 1) := by decide +kernel
theorem dL_law_667 : decode cL_law 667 = .ok (.iaload, 1) := by decide +kernel
theorem dL_law_668 : decode cL_law 668 = .ok (.invokevirtual 78, 3) := by decide +kernel
theorem dL_law_671 : decode cL_law 671 = .ok (.aload_n 2, 1) := by decide +kernel
theorem dL_law_672 : decode cL_law 672 = .ok (.aload_n 0, 1) := by decide +kernel
theorem dL_law_673 : decode cL_law 673 = .ok (.iload_n 3, 1) := by decide +kernel
theorem dL_law_674 : decode cL_law 674 = .ok (.iconst 1, 1) := by decide +kernel
theorem dL_law_675 : decode cL_law 675 = .ok (.iadd, 1) := by decide +kernel
theorem dL_law_676 : decode cL_law 676 = .ok (.iaload, 1) := by decide +kernel
theorem dL_law_677 : decode cL_law 677 = .ok (.aload_n 0, 1) := by decide +kernel
theorem dL_law_678 : decode cL_law 678 = .ok (.iload_n 3, 1) := by decide +kernel
theorem dL_law_679 : decode cL_law 679 = .ok (.iconst 2, 1) := by decide +kernel
theorem dL_law_680 : decode cL_law 680 = .ok (.iadd, 1) := by decide +kernel
theorem dL_law_681 : decode cL_law 681 = .ok (.iaload, 1) := by decide +kernel
theorem dL_law_682 : decode cL_law 682 = .ok (.invokevirtual 81, 3) := by decide +kernel
theorem dL_law_685 : decode cL_law 685 = .ok (.if_icmp .eq 195, 3) := by decide +kernel
theorem dL_law_688 : decode cL_law 688 = .ok (.iconst 0, 1) := by decide +kernel
theorem dL_law_689 : decode cL_law 689 = .ok (.ireturn, 1) := by decide +kernel
theorem dL_law_690 : decode cL_law 690 = .ok (.aload_n 1, 1) := by decide +kernel
theorem dL_law_691 : decode cL_law 691 = .ok (.aload_n 0, 1) := by decide +kernel
theorem dL_law_692 : decode cL_law 692 = .ok (.iload_n 3, 1) := by decide +kernel
theorem dL_law_693 : decode cL_law 693 = .ok (.iconst 1, 1) := by decide +kernel
theorem dL_law_694 : decode cL_law 694 = .ok (.iadd, 1) := by decide +kernel
theorem dL_law_695 : decode cL_law 695 = .ok (.iaload, 1) := by decide +kernel
theorem dL_law_696 : decode cL_law 696 = .ok (.invokevirtual 82, 3) := by decide +kernel
theorem dL_law_699 : decode cL_law 699 = .ok (.aload_n 2, 1) := by decide +kernel
theorem dL_law_700 : decode cL_law 700 = .ok (.aload_n 0, 1) := by decide +kernel
theorem dL_law_701 : decode cL_law 701 = .ok (.iload_n 3, 1) := by decide +kernel
theorem dL_law_702 : decode cL_law 702 = .ok (.iconst 1, 1) := by decide +kernel
theorem dL_law_703 : decode cL_law 703 = .ok (.iadd, 1) := by decide +kernel
theorem dL_law_704 : decode cL_law 704 = .ok (.iaload, 1) := by decide +kernel
theorem dL_law_705 : decode cL_law 705 = .ok (.invokevirtual 85, 3) := by decide +kernel
theorem dL_law_708 : decode cL_law 708 = .ok (.if_icmp .eq 172, 3) := by decide +kernel
theorem dL_law_711 : decode cL_law 711 = .ok (.iconst 0, 1) := by decide +kernel
theorem dL_law_712 : decode cL_law 712 = .ok (.ireturn, 1) := by decide +kernel
theorem dL_law_713 : decode cL_law 713 = .ok (.aload_n 1, 1) := by decide +kernel
theorem dL_law_714 : decode cL_law 714 = .ok (.invokevirtual 86, 3) := by decide +kernel
theorem dL_law_717 : decode cL_law 717 = .ok (.aload_n 2, 1) := by decide +kernel
theorem dL_law_718 : decode cL_law 718 = .ok (.invokevirtual 89, 3) := by decide +kernel
theorem dL_law_721 : decode cL_law 721 = .ok (.if_icmp .eq 159, 3) := by decide +kernel
theorem dL_law_724 : decode cL_law 724 = .ok (.iconst 0, 1) := by decide +kernel
theorem dL_law_725 : decode cL_law 725 = .ok (.ireturn, 1) := by decide +kernel
theorem dL_law_726 : decode cL_law 726 = .ok (.aload_n 1, 1) := by decide +kernel
theorem dL_law_727 : decode cL_law 727 = .ok (.aload_n 0, 1) := by decide +kernel
theorem dL_law_728 : decode cL_law 728 = .ok (.iload_n 3, 1) := by decide +kernel
theorem dL_law_729 : decode cL_law 729 = .ok (.iconst 1, 1) := by decide +kernel
theorem dL_law_730 : decode cL_law 730 = .ok (.iadd, 1) := by decide +kernel
theorem dL_law_731 : decode cL_law 731 = .ok (.iaload, 1) := by decide +kernel
theorem dL_law_732 : decode cL_law 732 = .ok (.invokevirtual 90, 3) := by decide +kernel
theorem dL_law_735 : decode cL_law 735 = .ok (.aload_n 2, 1) := by decide +kernel
theorem dL_law_736 : decode cL_law 736 = .ok (.aload_n 0, 1) := by decide +kernel
theorem dL_law_737 : decode cL_law 737 = .ok (.iload_n 3, 1) := by decide +kernel
theorem dL_law_738 : decode cL_law 738 = .ok (.iconst 1, 1) := by decide +kernel
theorem dL_law_739 : decode cL_law 739 = .ok (.iadd, 1) := by decide +kernel
theorem dL_law_740 : decode cL_law 740 = .ok (.iaload, 1) := by decide +kernel
theorem dL_law_741 : decode cL_law 741 = .ok (.invokevirtual 93, 3) := by decide +kernel
theorem dL_law_744 : decode cL_law 744 = .ok (.if_icmp .eq 136, 3) := by decide +kernel
theorem dL_law_747 : decode cL_law 747 = .ok (.iconst 0, 1) := by decide +kernel
theorem dL_law_748 : decode cL_law 748 = .ok (.ireturn, 1) := by decide +kernel
theorem dL_law_749 : decode cL_law 749 = .ok (.aload_n 1, 1) := by decide +kernel
theorem dL_law_750 : decode cL_law 750 = .ok (.invokevirtual 94, 3) := by decide +kernel
theorem dL_law_753 : decode cL_law 753 = .ok (.aload_n 2, 1) := by decide +kernel
theorem dL_law_754 : decode cL_law 754 = .ok (.invokevirtual 97, 3) := by decide +kernel
theorem dL_law_757 : decode cL_law 757 = .ok (.if_icmp .eq 123, 3) := by decide +kernel
theorem dL_law_760 : decode cL_law 760 = .ok (.iconst 0, 1) := by decide +kernel
theorem dL_law_761 : decode cL_law 761 = .ok (.ireturn, 1) := by decide +kernel
theorem dL_law_762 : decode cL_law 762 = .ok (.aload_n 1, 1) := by decide +kernel
theorem dL_law_763 : decode cL_law 763 = .ok (.aload_n 0, 1) := by decide +kernel
theorem dL_law_764 : decode cL_law 764 = .ok (.iload_n 3, 1) := by decide +kernel
theorem dL_law_765 : decode cL_law 765 = .ok (.iconst 1, 1) := by decide +kernel
theorem dL_law_766 : decode cL_law 766 = .ok (.iadd, 1) := by decide +kernel
theorem dL_law_767 : decode cL_law 767 = .ok (.iaload, 1) := by decide +kernel
theorem dL_law_768 : decode cL_law 768 = .ok (.invokevirtual 98, 3) := by decide +kernel
theorem dL_law_771 : decode cL_law 771 = .ok (.aload_n 2, 1) := by decide +kernel
theorem dL_law_772 : decode cL_law 772 = .ok (.aload_n 0, 1) := by decide +kernel
theorem dL_law_773 : decode cL_law 773 = .ok (.iload_n 3, 1) := by decide +kernel
theorem dL_law_774 : decode cL_law 774 = .ok (.iconst 1, 1) := by decide +kernel
theorem dL_law_775 : decode cL_law 775 = .ok (.iadd, 1) := by decide +kernel
theorem dL_law_776 : decode cL_law 776 = .ok (.iaload, 1) := by decide +kernel
theorem dL_law_777 : decode cL_law 777 = .ok (.invokevirtual 101, 3) := by decide +kernel
theorem dL_law_780 : decode cL_law 780 = .ok (.if_icmp .eq 100, 3) := by decide +kernel
theorem dL_law_783 : decode cL_law 783 = .ok (.iconst 0, 1) := by decide +kernel
theorem dL_law_784 : decode cL_law 784 = .ok (.ireturn, 1) := by decide +kernel
theorem dL_law_785 : decode cL_law 785 = .ok (.aload_n 1, 1) := by decide +kernel
theorem dL_law_786 : decode cL_law 786 = .ok (.invokevirtual 102, 3) := by decide +kernel
theorem dL_law_789 : decode cL_law 789 = .ok (.aload_n 2, 1) := by decide +kernel
theorem dL_law_790 : decode cL_law 790 = .ok (.invokevirtual 105, 3) := by decide +kernel
theorem dL_law_793 : decode cL_law 793 = .ok (.if_icmp .eq 87, 3) := by decide +kernel
theorem dL_law_796 : decode cL_law 796 = .ok (.iconst 0, 1) := by decide +kernel
theorem dL_law_797 : decode cL_law 797 = .ok (.ireturn, 1) := by decide +kernel
theorem dL_law_798 : decode cL_law 798 = .ok (.aload_n 1, 1) := by decide +kernel
theorem dL_law_799 : decode cL_law 799 = .ok (.aload_n 0, 1) := by decide +kernel
theorem dL_law_800 : decode cL_law 800 = .ok (.iload_n 3, 1) := by decide +kernel
theorem dL_law_801 : decode cL_law 801 = .ok (.iconst 1, 1) := by decide +kernel
theorem dL_law_802 : decode cL_law 802 = .ok (.iadd, 1) := by decide +kernel
theorem dL_law_803 : decode cL_law 803 = .ok (.iaload, 1) := by decide +kernel
theorem dL_law_804 : decode cL_law 804 = .ok (.invokevirtual 106, 3) := by decide +kernel
theorem dL_law_807 : decode cL_law 807 = .ok (.aload_n 2, 1) := by decide +kernel
theorem dL_law_808 : decode cL_law 808 = .ok (.aload_n 0, 1) := by decide +kernel
theorem dL_law_809 : decode cL_law 809 = .ok (.iload_n 3, 1) := by decide +kernel
theorem dL_law_810 : decode cL_law 810 = .ok (.iconst 1, 1) := by decide +kernel
theorem dL_law_811 : decode cL_law 811 = .ok (.iadd, 1) := by decide +kernel
theorem dL_law_812 : decode cL_law 812 = .ok (.iaload, 1) := by decide +kernel
theorem dL_law_813 : decode cL_law 813 = .ok (.invokevirtual 109, 3) := by decide +kernel
theorem dL_law_816 : decode cL_law 816 = .ok (.if_icmp .eq 64, 3) := by decide +kernel
theorem dL_law_819 : decode cL_law 819 = .ok (.iconst 0, 1) := by decide +kernel
theorem dL_law_820 : decode cL_law 820 = .ok (.ireturn, 1) := by decide +kernel
theorem dL_law_821 : decode cL_law 821 = .ok (.aload_n 1, 1) := by decide +kernel
theorem dL_law_822 : decode cL_law 822 = .ok (.invokevirtual 110, 3) := by decide +kernel
theorem dL_law_825 : decode cL_law 825 = .ok (.aload_n 2, 1) := by decide +kernel
theorem dL_law_826 : decode cL_law 826 = .ok (.invokevirtual 113, 3) := by decide +kernel
theorem dL_law_829 : decode cL_law 829 = .ok (.if_icmp .eq 51, 3) := by decide +kernel
theorem dL_law_832 : decode cL_law 832 = .ok (.iconst 0, 1) := by decide +kernel
theorem dL_law_833 : decode cL_law 833 = .ok (.ireturn, 1) := by decide +kernel
theorem dL_law_834 : decode cL_law 834 = .ok (.aload_n 1, 1) := by decide +kernel
theorem dL_law_835 : decode cL_law 835 = .ok (.aload_n 0, 1) := by decide +kernel
theorem dL_law_836 : decode cL_law 836 = .ok (.iload_n 3, 1) := by decide +kernel
theorem dL_law_837 : decode cL_law 837 = .ok (.iconst 1, 1) := by decide +kernel
theorem dL_law_838 : decode cL_law 838 = .ok (.iadd, 1) := by decide +kernel
theorem dL_law_839 : decode cL_law 839 = .ok (.iaload, 1) := by decide +kernel
theorem dL_law_840 : decode cL_law 840 = .ok (.invokevirtual 114, 3) := by decide +kernel
theorem dL_law_843 : decode cL_law 843 = .ok (.aload_n 2, 1) := by decide +kernel
theorem dL_law_844 : decode cL_law 844 = .ok (.aload_n 0, 1) := by decide +kernel
theorem dL_law_845 : decode cL_law 845 = .ok (.iload_n 3, 1) := by decide +kernel
theorem dL_law_846 : decode cL_law 846 = .ok (.iconst 1, 1) := by decide +kernel
theorem dL_law_847 : decode cL_law 847 = .ok (.iadd, 1) := by decide +kernel
theorem dL_law_848 : decode cL_law 848 = .ok (.iaload, 1) := by decide +kernel
theorem dL_law_849 : decode cL_law 849 = .ok (.invokevirtual 117, 3) := by decide +kernel
theorem dL_law_852 : decode cL_law 852 = .ok (.if_icmp .eq 28, 3) := by decide +kernel
theorem dL_law_855 : decode cL_law 855 = .ok (.iconst 0, 1) := by decide +kernel
theorem dL_law_856 : decode cL_law 856 = .ok (.ireturn, 1) := by decide +kernel
theorem dL_law_857 : decode cL_law 857 = .ok (.aload_n 1, 1) := by decide +kernel
theorem dL_law_858 : decode cL_law 858 = .ok (.aload_n 0, 1) := by decide +kernel
theorem dL_law_859 : decode cL_law 859 = .ok (.iload_n 3, 1) := by decide +kernel
theorem dL_law_860 : decode cL_law 860 = .ok (.iconst 1, 1) := by decide +kernel
theorem dL_law_861 : decode cL_law 861 = .ok (.iadd, 1) := by decide +kernel
theorem dL_law_862 : decode cL_law 862 = .ok (.iaload, 1) := by decide +kernel
theorem dL_law_863 : decode cL_law 863 = .ok (.invokevirtual 118, 3) := by decide +kernel
theorem dL_law_866 : decode cL_law 866 = .ok (.aload_n 2, 1) := by decide +kernel
theorem dL_law_867 : decode cL_law 867 = .ok (.aload_n 0, 1) := by decide +kernel
theorem dL_law_868 : decode cL_law 868 = .ok (.iload_n 3, 1) := by decide +kernel
theorem dL_law_869 : decode cL_law 869 = .ok (.iconst 1, 1) := by decide +kernel
theorem dL_law_870 : decode cL_law 870 = .ok (.iadd, 1) := by decide +kernel
theorem dL_law_871 : decode cL_law 871 = .ok (.iaload, 1) := by decide +kernel
theorem dL_law_872 : decode cL_law 872 = .ok (.invokevirtual 121, 3) := by decide +kernel
theorem dL_law_875 : decode cL_law 875 = .ok (.if_icmp .eq 5, 3) := by decide +kernel
theorem dL_law_878 : decode cL_law 878 = .ok (.iconst 0, 1) := by decide +kernel
theorem dL_law_879 : decode cL_law 879 = .ok (.ireturn, 1) := by decide +kernel
theorem dL_law_880 : decode cL_law 880 = .ok (.iinc 3 5, 3) := by decide +kernel
theorem dL_law_883 : decode cL_law 883 = .ok (.goto (-865), 3) := by decide +kernel
theorem dL_law_886 : decode cL_law 886 = .ok (.iconst 1, 1) := by decide +kernel
theorem dL_law_887 : decode cL_law 887 = .ok (.ireturn, 1) := by decide +kernel
end
section
set_option maxRecDepth 20000 in
theorem ggX0_partner_X0_mustShow : GoodIn wsX0_partner wsX0_mustShow := goodIn_r _ [6, 7, 8, 9, 10, 11, 12, 13, 14, 15] (by decide +kernel) (by decide +kernel)
set_option maxRecDepth 20000 in
theorem gX0_partner_X0_mustShow : GoodIn wsX0_partner (wsV RX0 18 RX0 yX0_mustShow wsX0_mustShow) := goodIn_app (goodIn_of _ (by decide +kernel)) ggX0_partner_X0_mustShow
set_option maxRecDepth 20000 in
theorem ggX0_speakers_X0_partner : GoodIn wsX0_speakers wsX0_partner := goodIn_r _ [6, 1, 7, 8, 9, 5, 10, 11, 12, 13, 14, 15, 16, 17, 18, 19] (by decide +kernel) (by decide +kernel)
set_option maxRecDepth 20000 in
theorem gX0_speakers_X0_partner : GoodIn wsX0_speakers (wsV RX0 22 RX0 yX0_partner wsX0_partner) := goodIn_app (goodIn_of _ (by decide +kernel)) ggX0_speakers_X0_partner
set_option maxRecDepth 20000 in
theorem ggX1_fault_X6_someoneStepsAt : GoodIn wsX1_fault wsX6_someoneStepsAt := goodIn_r _ [8, 9, 10, 11, 12, 7, 13, 14, 76, 77, 78, 79, 80, 81] (by decide +kernel) (by decide +kernel)
set_option maxRecDepth 20000 in
theorem gX1_fault_X6_someoneStepsAt : GoodIn wsX1_fault (wsV RX1 24 RX6 yX6_someoneStepsAt wsX6_someoneStepsAt) := goodIn_app (goodIn_of _ (by decide +kernel)) ggX1_fault_X6_someoneStepsAt
set_option maxRecDepth 20000 in
theorem ggX1_fault_X1_faultAt : GoodIn wsX1_fault wsX1_faultAt := goodIn_r _ [19, 3, 20, 21, 22, 23, 1, 24, 25, 26, 27, 28, 29, 30, 31, 32, 7, 33, 34, 35, 36, 9, 37, 38, 39, 40, 41, 42, 43, 44, 45, 46, 47, 48, 49, 50, 51, 52, 53, 54, 55, 56, 57, 58, 59, 60, 61, 62, 63, 64, 18, 65, 66, 75, 76, 77, 78, 79, 80, 81, 67, 68, 69, 70, 71, 72, 73, 74] (by decide +kernel) (by decide +kernel)
set_option maxRecDepth 20000 in
theorem gX1_fault_X1_faultAt : GoodIn wsX1_fault (wsV RX1 30 RX1 yX1_faultAt wsX1_faultAt) := goodIn_app (goodIn_of _ (by decide +kernel)) ggX1_fault_X1_faultAt
set_option maxRecDepth 20000 in
theorem ggX1_faultAt_X0_mustShow : GoodIn wsX1_faultAt wsX0_mustShow := goodIn_r _ [11, 12, 60, 61, 62, 63, 64, 65, 66, 67] (by decide +kernel) (by decide +kernel)
set_option maxRecDepth 20000 in
theorem gX1_faultAt_X0_mustShow : GoodIn wsX1_faultAt (wsV RX1 37 RX0 yX0_mustShow wsX0_mustShow) := goodIn_app (goodIn_of _ (by decide +kernel)) ggX1_faultAt_X0_mustShow
set_option maxRecDepth 20000 in
theorem ggX1_faultAt_X6_hides : GoodIn wsX1_faultAt wsX6_hides := goodIn_r _ [17, 18, 19, 20, 21, 22, 23, 24, 16, 25, 26, 27, 28, 29, 30, 31, 32, 33, 34, 35, 36, 37, 38, 39, 54, 55, 56, 57, 58, 59] (by decide +kernel) (by decide +kernel)
set_option maxRecDepth 20000 in
theorem gX1_faultAt_X6_hides : GoodIn wsX1_faultAt (wsV RX1 40 RX6 yX6_hides wsX6_hides) := goodIn_app (goodIn_of _ (by decide +kernel)) ggX1_faultAt_X6_hides
set_option maxRecDepth 20000 in
theorem ggX1_faultAt_X6_placeOf : GoodIn wsX1_faultAt wsX6_placeOf := goodIn_r _ [25, 26, 54, 55, 56, 57, 58, 59] (by decide +kernel) (by decide +kernel)
set_option maxRecDepth 20000 in
theorem gX1_faultAt_X6_placeOf : GoodIn wsX1_faultAt (wsV RX1 47 RX6 yX6_placeOf wsX6_placeOf) := goodIn_app (goodIn_of _ (by decide +kernel)) ggX1_faultAt_X6_placeOf
set_option maxRecDepth 20000 in
theorem ggX1_faultAt_X2_inCone : GoodIn wsX1_faultAt wsX2_inCone := goodIn_r _ [43, 34, 35, 29, 36] (by decide +kernel) (by decide +kernel)
set_option maxRecDepth 20000 in
theorem gX1_faultAt_X2_inCone : GoodIn wsX1_faultAt (va_wsS RX1 51 yX2_inCone wsX2_inCone) := goodIn_app (goodIn_of _ (by decide +kernel)) ggX1_faultAt_X2_inCone
set_option maxRecDepth 20000 in
theorem ggX1_faultAt_X2_sizeSeen : GoodIn wsX1_faultAt wsX2_sizeSeen := goodIn_r _ [46, 34, 35, 29, 36] (by decide +kernel) (by decide +kernel)
set_option maxRecDepth 20000 in
theorem gX1_faultAt_X2_sizeSeen : GoodIn wsX1_faultAt (va_wsS RX1 59 yX2_sizeSeen wsX2_sizeSeen) := goodIn_app (goodIn_of _ (by decide +kernel)) ggX1_faultAt_X2_sizeSeen
set_option maxRecDepth 20000 in
theorem ggX1_faultAt_X1_someoneChangesSide : GoodIn wsX1_faultAt wsX1_someoneChangesSide := goodIn_r _ [51, 1, 3, 2, 40, 23, 24, 16, 25, 26, 7, 8, 9, 10, 11, 12, 52, 32, 29, 33, 53, 60, 61, 62, 63, 64, 65, 66, 67, 54, 55, 56, 57, 58, 59] (by decide +kernel) (by decide +kernel)
set_option maxRecDepth 20000 in
theorem gX1_faultAt_X1_someoneChangesSide : GoodIn wsX1_faultAt (wsV RX1 65 RX1 yX1_someoneChangesSide wsX1_someoneChangesSide) := goodIn_app (goodIn_of _ (by decide +kernel)) ggX1_faultAt_X1_someoneChangesSide
set_option maxRecDepth 20000 in
theorem ggX1_someoneChangesSide_X6_placeOf : GoodIn wsX1_someoneChangesSide wsX6_placeOf := goodIn_r _ [8, 9, 29, 30, 31, 32, 33, 34] (by decide +kernel) (by decide +kernel)
set_option maxRecDepth 20000 in
theorem gX1_someoneChangesSide_X6_placeOf : GoodIn wsX1_someoneChangesSide (wsV RX1 47 RX6 yX6_placeOf wsX6_placeOf) := goodIn_app (goodIn_of _ (by decide +kernel)) ggX1_someoneChangesSide_X6_placeOf
set_option maxRecDepth 20000 in
theorem ggX1_someoneChangesSide_X0_mustShow : GoodIn wsX1_someoneChangesSide wsX0_mustShow := goodIn_r _ [14, 15, 21, 22, 23, 24, 25, 26, 27, 28] (by decide +kernel) (by decide +kernel)
set_option maxRecDepth 20000 in
theorem gX1_someoneChangesSide_X0_mustShow : GoodIn wsX1_someoneChangesSide (wsV RX1 37 RX0 yX0_mustShow wsX0_mustShow) := goodIn_app (goodIn_of _ (by decide +kernel)) ggX1_someoneChangesSide_X0_mustShow
set_option maxRecDepth 20000 in
theorem ggX1_someoneChangesSide_X2_cross : GoodIn wsX1_someoneChangesSide wsX2_cross := goodIn_r _ [19] (by decide +kernel) (by decide +kernel)
set_option maxRecDepth 20000 in
theorem gX1_someoneChangesSide_X2_cross : GoodIn wsX1_someoneChangesSide (va_wsS RX1 69 yX2_cross wsX2_cross) := goodIn_app (goodIn_of _ (by decide +kernel)) ggX1_someoneChangesSide_X2_cross
set_option maxRecDepth 20000 in
theorem ggX1_sideOfMain_X6_placeOf : GoodIn wsX1_sideOfMain wsX6_placeOf := goodIn_r _ [8, 9, 38, 39, 40, 41, 42, 43] (by decide +kernel) (by decide +kernel)
set_option maxRecDepth 20000 in
theorem gX1_sideOfMain_X6_placeOf : GoodIn wsX1_sideOfMain (wsV RX1 47 RX6 yX6_placeOf wsX6_placeOf) := goodIn_app (goodIn_of _ (by decide +kernel)) ggX1_sideOfMain_X6_placeOf
set_option maxRecDepth 20000 in
theorem ggX1_sideOfMain_X0_partner : GoodIn wsX1_sideOfMain wsX0_partner := goodIn_r _ [14, 15, 16, 17, 18, 13, 19, 20, 30, 31, 32, 33, 34, 35, 36, 37] (by decide +kernel) (by decide +kernel)
set_option maxRecDepth 20000 in
theorem gX1_sideOfMain_X0_partner : GoodIn wsX1_sideOfMain (wsV RX1 73 RX0 yX0_partner wsX0_partner) := goodIn_app (goodIn_of _ (by decide +kernel)) ggX1_sideOfMain_X0_partner
set_option maxRecDepth 20000 in
theorem ggX1_sideOfMain_X2_cross : GoodIn wsX1_sideOfMain wsX2_cross := goodIn_r _ [24] (by decide +kernel) (by decide +kernel)
set_option maxRecDepth 20000 in
theorem gX1_sideOfMain_X2_cross : GoodIn wsX1_sideOfMain (va_wsS RX1 69 yX2_cross wsX2_cross) := goodIn_app (goodIn_of _ (by decide +kernel)) ggX1_sideOfMain_X2_cross
set_option maxRecDepth 20000 in
theorem ggX1_sideOfMain_J6_signum_0f7a4 : GoodIn wsX1_sideOfMain wsJ6_signum_0f7a4 := goodIn_r _ [28] (by decide +kernel) (by decide +kernel)
set_option maxRecDepth 20000 in
theorem gX1_sideOfMain_J6_signum_0f7a4 : GoodIn wsX1_sideOfMain (va_wsS RX1 77 yJ6_signum_0f7a4 wsJ6_signum_0f7a4) := goodIn_app (goodIn_of _ (by decide +kernel)) ggX1_sideOfMain_J6_signum_0f7a4
set_option maxRecDepth 20000 in
theorem ggX1_sideOfLesser_X1_sideOfMain : GoodIn wsX1_sideOfLesser wsX1_sideOfMain := goodIn_r _ [6, 7, 1, 8, 9, 10, 11, 12, 13, 14, 15, 16, 17, 18, 19, 20, 21, 22, 23, 24, 25, 26, 27, 28, 29, 30, 31, 32, 33, 42, 34, 35, 36, 37, 38, 39, 40, 41, 43, 44, 45, 46, 47, 48] (by decide +kernel) (by decide +kernel)
set_option maxRecDepth 20000 in
theorem gX1_sideOfLesser_X1_sideOfMain : GoodIn wsX1_sideOfLesser (wsV RX1 83 RX1 yX1_sideOfMain wsX1_sideOfMain) := goodIn_app (goodIn_of _ (by decide +kernel)) ggX1_sideOfLesser_X1_sideOfMain
set_option maxRecDepth 20000 in
theorem ggX1_sideOfLesser_X0_partner : GoodIn wsX1_sideOfLesser wsX0_partner := goodIn_r _ [19, 20, 21, 22, 23, 18, 24, 25, 34, 35, 36, 37, 38, 39, 40, 41] (by decide +kernel) (by decide +kernel)
set_option maxRecDepth 20000 in
theorem gX1_sideOfLesser_X0_partner : GoodIn wsX1_sideOfLesser (wsV RX1 73 RX0 yX0_partner wsX0_partner) := goodIn_app (goodIn_of _ (by decide +kernel)) ggX1_sideOfLesser_X0_partner
set_option maxRecDepth 20000 in
theorem ggX2_isBetween_X2_cross : GoodIn wsX2_isBetween wsX2_cross := goodIn_r _ [4] (by decide +kernel) (by decide +kernel)
set_option maxRecDepth 20000 in
theorem gX2_isBetween_X2_cross : GoodIn wsX2_isBetween (va_wsS RX2 7 yX2_cross wsX2_cross) := goodIn_app (goodIn_of _ (by decide +kernel)) ggX2_isBetween_X2_cross
set_option maxRecDepth 20000 in
theorem ggX2_isBetween_X2_dot : GoodIn wsX2_isBetween wsX2_dot := goodIn_r _ [7] (by decide +kernel) (by decide +kernel)
set_option maxRecDepth 20000 in
theorem gX2_isBetween_X2_dot : GoodIn wsX2_isBetween (va_wsS RX2 13 yX2_dot wsX2_dot) := goodIn_app (goodIn_of _ (by decide +kernel)) ggX2_isBetween_X2_dot
set_option maxRecDepth 20000 in
theorem ggX2_meet_X2_cross : GoodIn wsX2_meet wsX2_cross := goodIn_r _ [4] (by decide +kernel) (by decide +kernel)
set_option maxRecDepth 20000 in
theorem gX2_meet_X2_cross : GoodIn wsX2_meet (va_wsS RX2 7 yX2_cross wsX2_cross) := goodIn_app (goodIn_of _ (by decide +kernel)) ggX2_meet_X2_cross
set_option maxRecDepth 20000 in
theorem ggX2_meet_X2_dot : GoodIn wsX2_meet wsX2_dot := goodIn_r _ [7] (by decide +kernel) (by decide +kernel)
set_option maxRecDepth 20000 in
theorem gX2_meet_X2_dot : GoodIn wsX2_meet (va_wsS RX2 13 yX2_dot wsX2_dot) := goodIn_app (goodIn_of _ (by decide +kernel)) ggX2_meet_X2_dot
set_option maxRecDepth 20000 in
theorem ggX2_inCone_X2_dot : GoodIn wsX2_inCone wsX2_dot := goodIn_r _ [4] (by decide +kernel) (by decide +kernel)
set_option maxRecDepth 20000 in
theorem gX2_inCone_X2_dot : GoodIn wsX2_inCone (va_wsS RX2 13 yX2_dot wsX2_dot) := goodIn_app (goodIn_of _ (by decide +kernel)) ggX2_inCone_X2_dot
set_option maxRecDepth 20000 in
theorem ggX2_sizeSeen_X2_dot : GoodIn wsX2_sizeSeen wsX2_dot := goodIn_r _ [4] (by decide +kernel) (by decide +kernel)
set_option maxRecDepth 20000 in
theorem gX2_sizeSeen_X2_dot : GoodIn wsX2_sizeSeen (va_wsS RX2 13 yX2_dot wsX2_dot) := goodIn_app (goodIn_of _ (by decide +kernel)) ggX2_sizeSeen_X2_dot
set_option maxRecDepth 20000 in
theorem ggX3_refresh_X1_fault : GoodIn wsX3_refresh wsX1_fault := goodIn_r _ [17, 18, 19, 20, 21, 22, 23, 24, 25, 26, 27, 28, 29, 30, 31, 32, 33, 34, 16, 35, 36, 37, 38, 39, 40, 41, 42, 43, 44, 45, 46, 47, 48, 49, 50, 51, 52, 53, 54, 55, 56, 57, 58, 59, 60, 61, 62, 63, 64, 65, 66, 67, 68, 69, 70, 71, 72, 73, 74, 75, 76, 77, 78, 79, 80, 81, 82, 167, 168, 169, 170, 171, 172, 173, 174, 175, 176, 177, 178, 179, 180, 181] (by decide +kernel) (by decide +kernel)
set_option maxRecDepth 20000 in
theorem gX3_refresh_X1_fault : GoodIn wsX3_refresh (wsV RX3 62 RX1 yX1_fault wsX1_fault) := goodIn_app (goodIn_of _ (by decide +kernel)) ggX3_refresh_X1_fault
set_option maxRecDepth 20000 in
theorem ggX3_refresh_X1_sideOfLesser : GoodIn wsX3_refresh wsX1_sideOfLesser := goodIn_r _ [86, 37, 87, 88, 89, 16, 90, 20, 18, 71, 54, 55, 24, 56, 57, 91, 92, 93, 43, 94, 95, 96, 41, 42, 44, 45, 82, 63, 60, 64, 97, 98, 99, 100, 167, 168, 169, 170, 171, 172, 173, 174, 175, 176, 177, 178, 179, 180, 181] (by decide +kernel) (by decide +kernel)
set_option maxRecDepth 20000 in
theorem gX3_refresh_X1_sideOfLesser : GoodIn wsX3_refresh (wsV RX3 73 RX1 yX1_sideOfLesser wsX1_sideOfLesser) := goodIn_app (goodIn_of _ (by decide +kernel)) ggX3_refresh_X1_sideOfLesser
set_option maxRecDepth 20000 in
theorem ggX3_refresh_X3_search : GoodIn wsX3_refresh wsX3_search := goodIn_r _ [105, 6, 7, 106, 107, 108, 109, 104, 110, 2, 3, 111, 112, 113, 114, 115, 5, 116, 117, 118, 119, 10, 4, 120, 121, 122, 123, 124, 11, 125, 126, 99, 127, 128, 129, 130, 150, 151, 152, 153, 154, 155, 156, 157, 158, 159, 160, 164, 165, 166, 161, 162, 163, 167, 168, 169, 170, 171, 172, 173, 174] (by decide +kernel) (by decide +kernel)
set_option maxRecDepth 20000 in
theorem gX3_refresh_X3_search : GoodIn wsX3_refresh (wsV RX3 76 RX3 yX3_search wsX3_search) := goodIn_app (goodIn_of _ (by decide +kernel)) ggX3_refresh_X3_search
set_option maxRecDepth 20000 in
theorem ggX3_refresh_X3_writeRow : GoodIn wsX3_refresh wsX3_writeRow := goodIn_r _ [134, 2, 3, 106, 135, 136, 137, 138, 139, 112, 113, 114, 104, 115, 6, 7, 5, 116, 117, 118, 119, 10, 4, 120, 111, 121, 122, 123, 124, 11, 150, 151, 152, 153, 154, 155, 156, 157, 158, 159, 160, 161, 162, 163, 164, 165, 166, 167, 168, 169, 170, 171, 172, 173, 174] (by decide +kernel) (by decide +kernel)
set_option maxRecDepth 20000 in
theorem gX3_refresh_X3_writeRow : GoodIn wsX3_refresh (wsV RX3 83 RX3 yX3_writeRow wsX3_writeRow) := goodIn_app (goodIn_of _ (by decide +kernel)) ggX3_refresh_X3_writeRow
set_option maxRecDepth 20000 in
theorem ggX3_refresh_X3_writeSequence : GoodIn wsX3_refresh wsX3_writeSequence := goodIn_r _ [143, 106, 12, 135, 136, 137, 138, 144, 6, 145, 146, 147, 148, 104, 149, 7, 150, 151, 152, 153, 154, 155, 156, 157, 158, 159, 160, 164, 165, 166] (by decide +kernel) (by decide +kernel)
set_option maxRecDepth 20000 in
theorem gX3_refresh_X3_writeSequence : GoodIn wsX3_refresh (wsV RX3 86 RX3 yX3_writeSequence wsX3_writeSequence) := goodIn_app (goodIn_of _ (by decide +kernel)) ggX3_refresh_X3_writeSequence
set_option maxRecDepth 20000 in
theorem ggX3_search_X3_canFilm : GoodIn wsX3_search wsX3_canFilm := goodIn_r _ [8, 9, 10, 11, 12, 13, 14, 7, 15, 1, 2, 16, 17, 18, 19, 20, 21, 22, 23, 24, 25, 26, 27, 28, 36, 37, 38, 39, 40, 41, 42, 43, 44, 45, 46, 50, 51, 52, 47, 48, 49, 53, 54, 55, 56, 57, 58, 59, 60] (by decide +kernel) (by decide +kernel)
set_option maxRecDepth 20000 in
theorem gX3_search_X3_canFilm : GoodIn wsX3_search (wsV RX3 89 RX3 yX3_canFilm wsX3_canFilm) := goodIn_app (goodIn_of _ (by decide +kernel)) ggX3_search_X3_canFilm
set_option maxRecDepth 20000 in
theorem ggX3_search_J6_bitCount_0f7a4 : GoodIn wsX3_search wsJ6_bitCount_0f7a4 := goodIn_r _ [32, 33, 34, 35] (by decide +kernel) (by decide +kernel)
set_option maxRecDepth 20000 in
theorem gX3_search_J6_bitCount_0f7a4 : GoodIn wsX3_search (va_wsS RX3 93 yJ6_bitCount_0f7a4 wsJ6_bitCount_0f7a4) := goodIn_app (goodIn_of _ (by decide +kernel)) ggX3_search_J6_bitCount_0f7a4
set_option maxRecDepth 20000 in
theorem ggX3_canFilm_X3_firstFor : GoodIn wsX3_canFilm wsX3_firstFor := goodIn_r _ [8, 9, 10, 11, 12, 13, 14, 7, 15, 16, 1, 17, 18, 3, 19, 20, 21, 22, 23, 24, 25, 26, 27, 28, 29, 30, 31, 32, 33, 34, 38, 39, 40, 35, 36, 37, 41, 42, 43, 44, 45, 46, 47, 48] (by decide +kernel) (by decide +kernel)
set_option maxRecDepth 20000 in
theorem gX3_canFilm_X3_firstFor : GoodIn wsX3_canFilm (wsV RX3 102 RX3 yX3_firstFor wsX3_firstFor) := goodIn_app (goodIn_of _ (by decide +kernel)) ggX3_canFilm_X3_firstFor
set_option maxRecDepth 20000 in
theorem ggX3_firstFor_X3_fits : GoodIn wsX3_firstFor wsX3_fits := goodIn_r _ [8, 9, 10, 11, 12, 13, 14, 15, 16, 7, 17, 18, 19, 20, 21, 22, 23, 24, 25, 26, 27, 28, 29, 33, 34, 35, 36, 37, 38, 39, 40, 41, 42, 43] (by decide +kernel) (by decide +kernel)
set_option maxRecDepth 20000 in
theorem gX3_firstFor_X3_fits : GoodIn wsX3_firstFor (wsV RX3 106 RX3 yX3_fits wsX3_fits) := goodIn_app (goodIn_of _ (by decide +kernel)) ggX3_firstFor_X3_fits
set_option maxRecDepth 20000 in
theorem ggX3_fits_X3_sideAfter : GoodIn wsX3_fits wsX3_sideAfter := goodIn_r _ [10, 2, 3, 11, 1, 12, 13, 14, 15, 16, 17, 18, 19, 20, 21, 22, 23, 24, 25, 26, 27, 28, 29, 30, 31, 32, 33] (by decide +kernel) (by decide +kernel)
set_option maxRecDepth 20000 in
theorem gX3_fits_X3_sideAfter : GoodIn wsX3_fits (wsV RX3 113 RX3 yX3_sideAfter wsX3_sideAfter) := goodIn_app (goodIn_of _ (by decide +kernel)) ggX3_fits_X3_sideAfter
set_option maxRecDepth 20000 in
theorem ggX3_writeRow_X3_firstFor : GoodIn wsX3_writeRow wsX3_firstFor := goodIn_r _ [13, 14, 15, 16, 17, 18, 19, 12, 20, 21, 1, 22, 23, 24, 25, 26, 27, 28, 29, 30, 31, 32, 33, 34, 35, 36, 37, 38, 39, 40, 44, 45, 46, 41, 42, 43, 47, 48, 49, 50, 51, 52, 53, 54] (by decide +kernel) (by decide +kernel)
set_option maxRecDepth 20000 in
theorem gX3_writeRow_X3_firstFor : GoodIn wsX3_writeRow (wsV RX3 102 RX3 yX3_firstFor wsX3_firstFor) := goodIn_app (goodIn_of _ (by decide +kernel)) ggX3_writeRow_X3_firstFor
set_option maxRecDepth 20000 in
theorem ggX3_writeRow_X3_sideAfter : GoodIn wsX3_writeRow wsX3_sideAfter := goodIn_r _ [28, 1, 22, 29, 21, 30, 31, 32, 33, 34, 35, 36, 37, 38, 39, 40, 41, 42, 43, 47, 48, 49, 50, 51, 52, 53, 54] (by decide +kernel) (by decide +kernel)
set_option maxRecDepth 20000 in
theorem gX3_writeRow_X3_sideAfter : GoodIn wsX3_writeRow (wsV RX3 113 RX3 yX3_sideAfter wsX3_sideAfter) := goodIn_app (goodIn_of _ (by decide +kernel)) ggX3_writeRow_X3_sideAfter
set_option maxRecDepth 20000 in
theorem ggX3_writeSequence_X3_leastOf : GoodIn wsX3_writeSequence wsX3_leastOf := goodIn_r _ [14, 8, 15, 9, 16, 17, 18, 19, 20, 21, 22, 23, 24, 25, 26, 27, 28, 29] (by decide +kernel) (by decide +kernel)
set_option maxRecDepth 20000 in
theorem gX3_writeSequence_X3_leastOf : GoodIn wsX3_writeSequence (wsV RX3 122 RX3 yX3_leastOf wsX3_leastOf) := goodIn_app (goodIn_of _ (by decide +kernel)) ggX3_writeSequence_X3_leastOf
set_option maxRecDepth 20000 in
theorem ggX5_init_X0_init : GoodIn wsX5_init wsX0_init := goodIn_r _ [10, 11, 2, 3] (by decide +kernel) (by decide +kernel)
set_option maxRecDepth 20000 in
theorem gX5_init_X0_init_n21 : GoodIn wsX5_init (wsX0_init) := ggX5_init_X0_init
set_option maxRecDepth 20000 in
theorem ggX5_add_X5_speakersOfLastTwo : GoodIn wsX5_add wsX5_speakersOfLastTwo := goodIn_r _ [15, 2, 1, 3, 16, 17, 18, 19, 20, 21, 22, 23, 24, 25, 26, 27, 28, 29, 30, 31, 32, 33, 34, 35, 36, 37, 38, 39, 40, 41] (by decide +kernel) (by decide +kernel)
set_option maxRecDepth 20000 in
theorem gX5_add_X5_speakersOfLastTwo : GoodIn wsX5_add (wsV RX5 46 RX5 yX5_speakersOfLastTwo wsX5_speakersOfLastTwo) := goodIn_app (goodIn_of _ (by decide +kernel)) ggX5_add_X5_speakersOfLastTwo
set_option maxRecDepth 20000 in
theorem ggX5_add_X0_speakers : GoodIn wsX5_add wsX0_speakers := goodIn_r _ [20, 21, 22, 23, 24, 19, 25, 26, 27, 28, 29, 30, 34, 35, 36, 37, 38, 39, 40, 41] (by decide +kernel) (by decide +kernel)
set_option maxRecDepth 20000 in
theorem gX5_add_X0_speakers : GoodIn wsX5_add (wsV RX5 50 RX0 yX0_speakers wsX0_speakers) := goodIn_app (goodIn_of _ (by decide +kernel)) ggX5_add_X0_speakers
set_option maxRecDepth 20000 in
theorem ggX5_speakersOfLastTwo_X0_speakers : GoodIn wsX5_speakersOfLastTwo wsX0_speakers := goodIn_r _ [8, 9, 10, 11, 12, 7, 13, 14, 15, 16, 17, 18, 22, 23, 24, 25, 26, 27, 28, 29] (by decide +kernel) (by decide +kernel)
set_option maxRecDepth 20000 in
theorem gX5_speakersOfLastTwo_X0_speakers : GoodIn wsX5_speakersOfLastTwo (wsV RX5 50 RX0 yX0_speakers wsX0_speakers) := goodIn_app (goodIn_of _ (by decide +kernel)) ggX5_speakersOfLastTwo_X0_speakers
set_option maxRecDepth 20000 in
theorem ggX6_someoneStepsAt_X6_hasStep : GoodIn wsX6_someoneStepsAt wsX6_hasStep := goodIn_r _ [6, 7, 8, 9, 10, 11, 12, 13] (by decide +kernel) (by decide +kernel)
set_option maxRecDepth 20000 in
theorem gX6_someoneStepsAt_X6_hasStep : GoodIn wsX6_someoneStepsAt (wsV RX6 29 RX6 yX6_hasStep wsX6_hasStep) := goodIn_app (goodIn_of _ (by decide +kernel)) ggX6_someoneStepsAt_X6_hasStep
set_option maxRecDepth 20000 in
theorem ggX6_stepsOf_J13_bitCount_95d88 : GoodIn wsX6_stepsOf wsJ13_bitCount_95d88 := goodIn_r _ [5, 6, 7, 8] (by decide +kernel) (by decide +kernel)
set_option maxRecDepth 20000 in
theorem gX6_stepsOf_J13_bitCount_95d88 : GoodIn wsX6_stepsOf (va_wsS RX6 33 yJ13_bitCount_95d88 wsJ13_bitCount_95d88) := goodIn_app (goodIn_of _ (by decide +kernel)) ggX6_stepsOf_J13_bitCount_95d88
set_option maxRecDepth 20000 in
theorem ggX6_addStep_X6_hasStep : GoodIn wsX6_addStep wsX6_hasStep := goodIn_r _ [7, 1, 19, 20, 21, 22, 23, 24] (by decide +kernel) (by decide +kernel)
set_option maxRecDepth 20000 in
theorem gX6_addStep_X6_hasStep : GoodIn wsX6_addStep (wsV RX6 29 RX6 yX6_hasStep wsX6_hasStep) := goodIn_app (goodIn_of _ (by decide +kernel)) ggX6_addStep_X6_hasStep
set_option maxRecDepth 20000 in
theorem ggX6_addStep_X6_stepsOf : GoodIn wsX6_addStep wsX6_stepsOf := goodIn_r _ [11, 1, 12, 13, 14, 15, 16, 17, 18, 19, 20, 21, 22, 23, 24] (by decide +kernel) (by decide +kernel)
set_option maxRecDepth 20000 in
theorem gX6_addStep_X6_stepsOf : GoodIn wsX6_addStep (wsV RX6 39 RX6 yX6_stepsOf wsX6_stepsOf) := goodIn_app (goodIn_of _ (by decide +kernel)) ggX6_addStep_X6_stepsOf
set_option maxRecDepth 20000 in
theorem ggX6_hides_X6_placeOf : GoodIn wsX6_hides wsX6_placeOf := goodIn_r _ [9, 10, 24, 25, 26, 27, 28, 29] (by decide +kernel) (by decide +kernel)
set_option maxRecDepth 20000 in
theorem gX6_hides_X6_placeOf : GoodIn wsX6_hides (wsV RX6 46 RX6 yX6_placeOf wsX6_placeOf) := goodIn_app (goodIn_of _ (by decide +kernel)) ggX6_hides_X6_placeOf
set_option maxRecDepth 20000 in
theorem ggX6_hides_X2_meet : GoodIn wsX6_hides wsX2_meet := goodIn_r _ [14, 15, 16, 13, 17, 18, 19, 20] (by decide +kernel) (by decide +kernel)
set_option maxRecDepth 20000 in
theorem gX6_hides_X2_meet : GoodIn wsX6_hides (va_wsS RX6 50 yX2_meet wsX2_meet) := goodIn_app (goodIn_of _ (by decide +kernel)) ggX6_hides_X2_meet
set_option maxRecDepth 20000 in
theorem ggX6_hides_X2_isBetween : GoodIn wsX6_hides wsX2_isBetween := goodIn_r _ [23, 15, 16, 13, 17, 18, 19, 20] (by decide +kernel) (by decide +kernel)
set_option maxRecDepth 20000 in
theorem gX6_hides_X2_isBetween : GoodIn wsX6_hides (va_wsS RX6 56 yX2_isBetween wsX2_isBetween) := goodIn_app (goodIn_of _ (by decide +kernel)) ggX6_hides_X2_isBetween
set_option maxRecDepth 20000 in
theorem ggX7_init_X6_init : GoodIn wsX7_init wsX6_init := goodIn_r _ [27, 28, 2, 3, 24, 29, 30, 31, 32, 33, 69, 70, 71, 72, 73, 74] (by decide +kernel) (by decide +kernel)
set_option maxRecDepth 20000 in
theorem gX7_init_X6_init_n9 : GoodIn wsX7_init (wsX6_init) := ggX7_init_X6_init
set_option maxRecDepth 20000 in
theorem ggX7_init_X4_init : GoodIn wsX7_init wsX4_init := goodIn_r _ [35, 36, 2, 3, 24, 37, 38, 82, 83, 84] (by decide +kernel) (by decide +kernel)
set_option maxRecDepth 20000 in
theorem gX7_init_X4_init_n18 : GoodIn wsX7_init (wsX4_init) := ggX7_init_X4_init
set_option maxRecDepth 20000 in
theorem ggX7_init_X5_init : GoodIn wsX7_init wsX5_init := goodIn_r _ [41, 42, 2, 3, 43, 44, 45, 46, 47, 48, 49, 50, 85, 86, 87, 100, 101, 102, 103, 104, 105, 106, 107] (by decide +kernel) (by decide +kernel)
set_option maxRecDepth 20000 in
theorem gX7_init_X5_init : GoodIn wsX7_init (wsX5_init) := ggX7_init_X5_init
set_option maxRecDepth 20000 in
theorem ggX7_init_X1_init : GoodIn wsX7_init wsX1_init := goodIn_r _ [53, 54, 2, 3, 55, 88] (by decide +kernel) (by decide +kernel)
set_option maxRecDepth 20000 in
theorem gX7_init_X1_init : GoodIn wsX7_init (wsX1_init) := ggX7_init_X1_init
set_option maxRecDepth 20000 in
theorem ggX7_init_X3_init : GoodIn wsX7_init wsX3_init := goodIn_r _ [58, 59, 2, 3, 24, 60, 61, 62, 63, 64, 65, 66, 67, 68, 89, 90, 91, 92, 93, 94, 95, 96, 97, 98, 99] (by decide +kernel) (by decide +kernel)
set_option maxRecDepth 20000 in
theorem gX7_init_X3_init : GoodIn wsX7_init (wsX3_init) := ggX7_init_X3_init
set_option maxRecDepth 20000 in
theorem ggX7_person_X7_isPlace : GoodIn wsX7_person wsX7_isPlace := goodIn_r _ [7] (by decide +kernel) (by decide +kernel)
set_option maxRecDepth 20000 in
theorem gX7_person_X7_isPlace : GoodIn wsX7_person (va_wsS RX7 52 yX7_isPlace wsX7_isPlace) := goodIn_app (goodIn_of _ (by decide +kernel)) ggX7_person_X7_isPlace
set_option maxRecDepth 20000 in
theorem ggX7_person_X3_forget : GoodIn wsX7_person wsX3_forget := goodIn_r _ [12, 13, 34, 35, 36, 37, 38, 39, 40, 41, 42, 43, 44] (by decide +kernel) (by decide +kernel)
set_option maxRecDepth 20000 in
theorem gX7_person_X3_forget : GoodIn wsX7_person (wsV RX7 60 RX3 yX3_forget wsX3_forget) := goodIn_app (goodIn_of _ (by decide +kernel)) ggX7_person_X3_forget
set_option maxRecDepth 20000 in
theorem ggX7_person_X6_addPerson : GoodIn wsX7_person wsX6_addPerson := goodIn_r _ [18, 19, 20, 28, 29, 30, 31, 32, 33] (by decide +kernel) (by decide +kernel)
set_option maxRecDepth 20000 in
theorem gX7_person_X6_addPerson : GoodIn wsX7_person (wsV RX7 63 RX6 yX6_addPerson wsX6_addPerson) := goodIn_app (goodIn_of _ (by decide +kernel)) ggX7_person_X6_addPerson
set_option maxRecDepth 20000 in
theorem ggX7_step_X7_isPerson : GoodIn wsX7_step wsX7_isPerson := goodIn_r _ [7, 1, 8, 45, 46, 47, 48, 49, 50, 51, 52, 53, 54, 55, 56, 57] (by decide +kernel) (by decide +kernel)
set_option maxRecDepth 20000 in
theorem gX7_step_X7_isPerson : GoodIn wsX7_step (wsV RX7 67 RX7 yX7_isPerson wsX7_isPerson) := goodIn_app (goodIn_of _ (by decide +kernel)) ggX7_step_X7_isPerson
set_option maxRecDepth 20000 in
theorem ggX7_step_X7_isTick : GoodIn wsX7_step wsX7_isTick := goodIn_r _ [11] (by decide +kernel) (by decide +kernel)
set_option maxRecDepth 20000 in
theorem gX7_step_X7_isTick : GoodIn wsX7_step (va_wsS RX7 70 yX7_isTick wsX7_isTick) := goodIn_app (goodIn_of _ (by decide +kernel)) ggX7_step_X7_isTick
set_option maxRecDepth 20000 in
theorem ggX7_step_X7_isPlace : GoodIn wsX7_step wsX7_isPlace := goodIn_r _ [14] (by decide +kernel) (by decide +kernel)
set_option maxRecDepth 20000 in
theorem gX7_step_X7_isPlace : GoodIn wsX7_step (va_wsS RX7 52 yX7_isPlace wsX7_isPlace) := goodIn_app (goodIn_of _ (by decide +kernel)) ggX7_step_X7_isPlace
set_option maxRecDepth 20000 in
theorem ggX7_step_X6_hasStep : GoodIn wsX7_step wsX6_hasStep := goodIn_r _ [19, 20, 52, 53, 54, 55, 56, 57] (by decide +kernel) (by decide +kernel)
set_option maxRecDepth 20000 in
theorem gX7_step_X6_hasStep : GoodIn wsX7_step (wsV RX7 73 RX6 yX6_hasStep wsX6_hasStep) := goodIn_app (goodIn_of _ (by decide +kernel)) ggX7_step_X6_hasStep
set_option maxRecDepth 20000 in
theorem ggX7_step_X6_stepsOf : GoodIn wsX7_step wsX6_stepsOf := goodIn_r _ [24, 20, 25, 26, 27, 28, 29, 30, 31, 52, 53, 54, 55, 56, 57] (by decide +kernel) (by decide +kernel)
set_option maxRecDepth 20000 in
theorem gX7_step_X6_stepsOf : GoodIn wsX7_step (wsV RX7 77 RX6 yX6_stepsOf wsX6_stepsOf) := goodIn_app (goodIn_of _ (by decide +kernel)) ggX7_step_X6_stepsOf
set_option maxRecDepth 20000 in
theorem ggX7_step_X3_forget : GoodIn wsX7_step wsX3_forget := goodIn_r _ [36, 37, 58, 59, 60, 61, 62, 63, 64, 65, 66, 67, 68] (by decide +kernel) (by decide +kernel)
set_option maxRecDepth 20000 in
theorem gX7_step_X3_forget : GoodIn wsX7_step (wsV RX7 60 RX3 yX3_forget wsX3_forget) := goodIn_app (goodIn_of _ (by decide +kernel)) ggX7_step_X3_forget
set_option maxRecDepth 20000 in
theorem ggX7_step_X6_addStep : GoodIn wsX7_step wsX6_addStep := goodIn_r _ [41, 20, 42, 43, 16, 17, 18, 19, 44, 22, 23, 24, 25, 26, 27, 28, 29, 30, 31, 52, 53, 54, 55, 56, 57] (by decide +kernel) (by decide +kernel)
set_option maxRecDepth 20000 in
theorem gX7_step_X6_addStep : GoodIn wsX7_step (wsV RX7 80 RX6 yX6_addStep wsX6_addStep) := goodIn_app (goodIn_of _ (by decide +kernel)) ggX7_step_X6_addStep
set_option maxRecDepth 20000 in
theorem ggX7_wall_X7_isPlace : GoodIn wsX7_wall wsX7_isPlace := goodIn_r _ [7] (by decide +kernel) (by decide +kernel)
set_option maxRecDepth 20000 in
theorem gX7_wall_X7_isPlace : GoodIn wsX7_wall (va_wsS RX7 52 yX7_isPlace wsX7_isPlace) := goodIn_app (goodIn_of _ (by decide +kernel)) ggX7_wall_X7_isPlace
set_option maxRecDepth 20000 in
theorem ggX7_wall_X3_forget : GoodIn wsX7_wall wsX3_forget := goodIn_r _ [12, 13, 35, 36, 37, 38, 39, 40, 41, 42, 43, 44, 45] (by decide +kernel) (by decide +kernel)
set_option maxRecDepth 20000 in
theorem gX7_wall_X3_forget : GoodIn wsX7_wall (wsV RX7 60 RX3 yX3_forget wsX3_forget) := goodIn_app (goodIn_of _ (by decide +kernel)) ggX7_wall_X3_forget
set_option maxRecDepth 20000 in
theorem ggX7_wall_X6_addWall : GoodIn wsX7_wall wsX6_addWall := goodIn_r _ [18, 19, 20, 21, 29, 30, 31, 32, 33, 34] (by decide +kernel) (by decide +kernel)
set_option maxRecDepth 20000 in
theorem gX7_wall_X6_addWall : GoodIn wsX7_wall (wsV RX7 87 RX6 yX6_addWall wsX6_addWall) := goodIn_app (goodIn_of _ (by decide +kernel)) ggX7_wall_X6_addWall
set_option maxRecDepth 20000 in
theorem ggX7_open_X3_forget : GoodIn wsX7_open wsX3_forget := goodIn_r _ [8, 9, 23, 24, 25, 26, 27, 28, 29, 30, 31, 32, 33] (by decide +kernel) (by decide +kernel)
set_option maxRecDepth 20000 in
theorem gX7_open_X3_forget : GoodIn wsX7_open (wsV RX7 60 RX3 yX3_forget wsX3_forget) := goodIn_app (goodIn_of _ (by decide +kernel)) ggX7_open_X3_forget
set_option maxRecDepth 20000 in
theorem ggX7_camera_X7_isPlace : GoodIn wsX7_camera wsX7_isPlace := goodIn_r _ [7] (by decide +kernel) (by decide +kernel)
set_option maxRecDepth 20000 in
theorem gX7_camera_X7_isPlace : GoodIn wsX7_camera (va_wsS RX7 52 yX7_isPlace wsX7_isPlace) := goodIn_app (goodIn_of _ (by decide +kernel)) ggX7_camera_X7_isPlace
set_option maxRecDepth 20000 in
theorem ggX7_camera_X3_forget : GoodIn wsX7_camera wsX3_forget := goodIn_r _ [12, 13, 32, 33, 34, 35, 36, 37, 38, 39, 40, 41, 42] (by decide +kernel) (by decide +kernel)
set_option maxRecDepth 20000 in
theorem gX7_camera_X3_forget : GoodIn wsX7_camera (wsV RX7 60 RX3 yX3_forget wsX3_forget) := goodIn_app (goodIn_of _ (by decide +kernel)) ggX7_camera_X3_forget
set_option maxRecDepth 20000 in
theorem ggX7_camera_X4_add : GoodIn wsX7_camera wsX4_add := goodIn_r _ [18, 19, 20, 21, 29, 30, 31] (by decide +kernel) (by decide +kernel)
set_option maxRecDepth 20000 in
theorem gX7_camera_X4_add : GoodIn wsX7_camera (wsV RX7 94 RX4 yX4_add wsX4_add) := goodIn_app (goodIn_of _ (by decide +kernel)) ggX7_camera_X4_add
set_option maxRecDepth 20000 in
theorem ggX7_board_X7_isWho : GoodIn wsX7_board wsX7_isWho := goodIn_r _ [8, 9, 10, 11, 12, 13, 7, 14, 61, 62, 63, 64, 65, 66, 67, 71, 72, 73, 74, 75, 76] (by decide +kernel) (by decide +kernel)
set_option maxRecDepth 20000 in
theorem gX7_board_X7_isWho : GoodIn wsX7_board (wsV RX7 97 RX7 yX7_isWho wsX7_isWho) := goodIn_app (goodIn_of _ (by decide +kernel)) ggX7_board_X7_isWho
set_option maxRecDepth 20000 in
theorem ggX7_board_X7_isSpan : GoodIn wsX7_board wsX7_isSpan := goodIn_r _ [17, 18, 19, 7, 20] (by decide +kernel) (by decide +kernel)
end
section
set_option maxRecDepth 20000 in
theorem gX7_board_X7_isSpan : GoodIn wsX7_board (va_wsS RX7 100 yX7_isSpan wsX7_isSpan) := goodIn_app (goodIn_of _ (by decide +kernel)) ggX7_board_X7_isSpan
set_option maxRecDepth 20000 in
theorem ggX7_board_X3_forget : GoodIn wsX7_board wsX3_forget := goodIn_r _ [25, 26, 77, 78, 79, 80, 81, 82, 83, 84, 85, 86, 87] (by decide +kernel) (by decide +kernel)
set_option maxRecDepth 20000 in
theorem gX7_board_X3_forget : GoodIn wsX7_board (wsV RX7 60 RX3 yX3_forget wsX3_forget) := goodIn_app (goodIn_of _ (by decide +kernel)) ggX7_board_X3_forget
set_option maxRecDepth 20000 in
theorem ggX7_board_X5_add : GoodIn wsX7_board wsX5_add := goodIn_r _ [31, 32, 33, 34, 35, 36, 37, 38, 39, 40, 41, 42, 43, 44, 30, 45, 46, 47, 48, 49, 50, 51, 52, 53, 54, 55, 56, 57, 58, 59, 60, 68, 69, 70, 88, 89, 90, 91, 92, 93, 94, 95] (by decide +kernel) (by decide +kernel)
set_option maxRecDepth 20000 in
theorem gX7_board_X5_add : GoodIn wsX7_board (wsV RX7 106 RX5 yX5_add wsX5_add) := goodIn_app (goodIn_of _ (by decide +kernel)) ggX7_board_X5_add
set_option maxRecDepth 20000 in
theorem ggX7_drop_X3_forget : GoodIn wsX7_drop wsX3_forget := goodIn_r _ [8, 9, 20, 21, 22, 23, 24, 25, 26, 27, 28, 29, 30] (by decide +kernel) (by decide +kernel)
set_option maxRecDepth 20000 in
theorem gX7_drop_X3_forget : GoodIn wsX7_drop (wsV RX7 60 RX3 yX3_forget wsX3_forget) := goodIn_app (goodIn_of _ (by decide +kernel)) ggX7_drop_X3_forget
set_option maxRecDepth 20000 in
theorem ggX7_where_X7_isPerson : GoodIn wsX7_where wsX7_isPerson := goodIn_r _ [6, 1, 7, 17, 18, 19, 20, 21, 22, 23, 24, 25, 26, 27, 28, 29] (by decide +kernel) (by decide +kernel)
set_option maxRecDepth 20000 in
theorem gX7_where_X7_isPerson : GoodIn wsX7_where (wsV RX7 67 RX7 yX7_isPerson wsX7_isPerson) := goodIn_app (goodIn_of _ (by decide +kernel)) ggX7_where_X7_isPerson
set_option maxRecDepth 20000 in
theorem ggX7_where_X7_isTick : GoodIn wsX7_where wsX7_isTick := goodIn_r _ [10] (by decide +kernel) (by decide +kernel)
set_option maxRecDepth 20000 in
theorem gX7_where_X7_isTick : GoodIn wsX7_where (va_wsS RX7 70 yX7_isTick wsX7_isTick) := goodIn_app (goodIn_of _ (by decide +kernel)) ggX7_where_X7_isTick
set_option maxRecDepth 20000 in
theorem ggX7_where_X6_placeOf : GoodIn wsX7_where wsX6_placeOf := goodIn_r _ [15, 16, 24, 25, 26, 27, 28, 29] (by decide +kernel) (by decide +kernel)
set_option maxRecDepth 20000 in
theorem gX7_where_X6_placeOf : GoodIn wsX7_where (wsV RX7 112 RX6 yX6_placeOf wsX6_placeOf) := goodIn_app (goodIn_of _ (by decide +kernel)) ggX7_where_X6_placeOf
set_option maxRecDepth 20000 in
theorem ggX7_hidden_X7_isPerson : GoodIn wsX7_hidden wsX7_isPerson := goodIn_r _ [6, 1, 7, 41, 42, 43, 44, 45, 46, 47, 48, 49, 50, 51, 52, 53] (by decide +kernel) (by decide +kernel)
set_option maxRecDepth 20000 in
theorem gX7_hidden_X7_isPerson : GoodIn wsX7_hidden (wsV RX7 67 RX7 yX7_isPerson wsX7_isPerson) := goodIn_app (goodIn_of _ (by decide +kernel)) ggX7_hidden_X7_isPerson
set_option maxRecDepth 20000 in
theorem ggX7_hidden_X7_isTick : GoodIn wsX7_hidden wsX7_isTick := goodIn_r _ [10] (by decide +kernel) (by decide +kernel)
set_option maxRecDepth 20000 in
theorem gX7_hidden_X7_isTick : GoodIn wsX7_hidden (va_wsS RX7 70 yX7_isTick wsX7_isTick) := goodIn_app (goodIn_of _ (by decide +kernel)) ggX7_hidden_X7_isTick
set_option maxRecDepth 20000 in
theorem ggX7_hidden_X7_isPlace : GoodIn wsX7_hidden wsX7_isPlace := goodIn_r _ [13] (by decide +kernel) (by decide +kernel)
set_option maxRecDepth 20000 in
theorem gX7_hidden_X7_isPlace : GoodIn wsX7_hidden (va_wsS RX7 52 yX7_isPlace wsX7_isPlace) := goodIn_app (goodIn_of _ (by decide +kernel)) ggX7_hidden_X7_isPlace
set_option maxRecDepth 20000 in
theorem ggX7_hidden_X6_hides : GoodIn wsX7_hidden wsX6_hides := goodIn_r _ [18, 19, 20, 21, 22, 23, 24, 25, 17, 26, 27, 28, 29, 30, 31, 32, 33, 34, 35, 36, 37, 38, 39, 40, 48, 49, 50, 51, 52, 53] (by decide +kernel) (by decide +kernel)
set_option maxRecDepth 20000 in
theorem gX7_hidden_X6_hides : GoodIn wsX7_hidden (wsV RX7 115 RX6 yX6_hides wsX6_hides) := goodIn_app (goodIn_of _ (by decide +kernel)) ggX7_hidden_X6_hides
set_option maxRecDepth 20000 in
theorem ggX7_sees_X7_isCamera : GoodIn wsX7_sees wsX7_isCamera := goodIn_r _ [8, 1, 9, 49, 50, 51, 52, 53, 54, 55, 56, 57, 58] (by decide +kernel) (by decide +kernel)
set_option maxRecDepth 20000 in
theorem gX7_sees_X7_isCamera : GoodIn wsX7_sees (wsV RX7 119 RX7 yX7_isCamera wsX7_isCamera) := goodIn_app (goodIn_of _ (by decide +kernel)) ggX7_sees_X7_isCamera
set_option maxRecDepth 20000 in
theorem ggX7_sees_X7_isPerson : GoodIn wsX7_sees wsX7_isPerson := goodIn_r _ [13, 3, 14, 49, 50, 51, 52, 53, 54, 55, 59, 60, 61, 62, 63, 64] (by decide +kernel) (by decide +kernel)
set_option maxRecDepth 20000 in
theorem gX7_sees_X7_isPerson : GoodIn wsX7_sees (wsV RX7 67 RX7 yX7_isPerson wsX7_isPerson) := goodIn_app (goodIn_of _ (by decide +kernel)) ggX7_sees_X7_isPerson
set_option maxRecDepth 20000 in
theorem ggX7_sees_X7_isTick : GoodIn wsX7_sees wsX7_isTick := goodIn_r _ [17] (by decide +kernel) (by decide +kernel)
set_option maxRecDepth 20000 in
theorem gX7_sees_X7_isTick : GoodIn wsX7_sees (va_wsS RX7 70 yX7_isTick wsX7_isTick) := goodIn_app (goodIn_of _ (by decide +kernel)) ggX7_sees_X7_isTick
set_option maxRecDepth 20000 in
theorem ggX7_sees_X6_placeOf : GoodIn wsX7_sees wsX6_placeOf := goodIn_r _ [22, 23, 59, 60, 61, 62, 63, 64] (by decide +kernel) (by decide +kernel)
set_option maxRecDepth 20000 in
theorem gX7_sees_X6_placeOf : GoodIn wsX7_sees (wsV RX7 112 RX6 yX6_placeOf wsX6_placeOf) := goodIn_app (goodIn_of _ (by decide +kernel)) ggX7_sees_X6_placeOf
set_option maxRecDepth 20000 in
theorem ggX7_sees_X2_inCone : GoodIn wsX7_sees wsX2_inCone := goodIn_r _ [27, 28, 29, 26, 30] (by decide +kernel) (by decide +kernel)
set_option maxRecDepth 20000 in
theorem gX7_sees_X2_inCone : GoodIn wsX7_sees (va_wsS RX7 125 yX2_inCone wsX2_inCone) := goodIn_app (goodIn_of _ (by decide +kernel)) ggX7_sees_X2_inCone
set_option maxRecDepth 20000 in
theorem ggX7_sees_X6_hides : GoodIn wsX7_sees wsX6_hides := goodIn_r _ [34, 35, 36, 37, 38, 39, 19, 20, 21, 22, 23, 40, 41, 26, 42, 43, 44, 45, 28, 29, 30, 46, 47, 48, 59, 60, 61, 62, 63, 64] (by decide +kernel) (by decide +kernel)
set_option maxRecDepth 20000 in
theorem gX7_sees_X6_hides : GoodIn wsX7_sees (wsV RX7 115 RX6 yX6_hides wsX6_hides) := goodIn_app (goodIn_of _ (by decide +kernel)) ggX7_sees_X6_hides
set_option maxRecDepth 20000 in
theorem ggX7_size_X7_isCamera : GoodIn wsX7_size wsX7_isCamera := goodIn_r _ [8, 1, 9, 31, 32, 33, 34, 35, 36, 37, 38, 39, 40] (by decide +kernel) (by decide +kernel)
set_option maxRecDepth 20000 in
theorem gX7_size_X7_isCamera : GoodIn wsX7_size (wsV RX7 119 RX7 yX7_isCamera wsX7_isCamera) := goodIn_app (goodIn_of _ (by decide +kernel)) ggX7_size_X7_isCamera
set_option maxRecDepth 20000 in
theorem ggX7_size_X7_isPerson : GoodIn wsX7_size wsX7_isPerson := goodIn_r _ [13, 3, 14, 31, 32, 33, 34, 35, 36, 37, 41, 42, 43, 44, 45, 46] (by decide +kernel) (by decide +kernel)
set_option maxRecDepth 20000 in
theorem gX7_size_X7_isPerson : GoodIn wsX7_size (wsV RX7 67 RX7 yX7_isPerson wsX7_isPerson) := goodIn_app (goodIn_of _ (by decide +kernel)) ggX7_size_X7_isPerson
set_option maxRecDepth 20000 in
theorem ggX7_size_X7_isTick : GoodIn wsX7_size wsX7_isTick := goodIn_r _ [17] (by decide +kernel) (by decide +kernel)
set_option maxRecDepth 20000 in
theorem gX7_size_X7_isTick : GoodIn wsX7_size (va_wsS RX7 70 yX7_isTick wsX7_isTick) := goodIn_app (goodIn_of _ (by decide +kernel)) ggX7_size_X7_isTick
set_option maxRecDepth 20000 in
theorem ggX7_size_X6_placeOf : GoodIn wsX7_size wsX6_placeOf := goodIn_r _ [22, 23, 41, 42, 43, 44, 45, 46] (by decide +kernel) (by decide +kernel)
set_option maxRecDepth 20000 in
theorem gX7_size_X6_placeOf : GoodIn wsX7_size (wsV RX7 112 RX6 yX6_placeOf wsX6_placeOf) := goodIn_app (goodIn_of _ (by decide +kernel)) ggX7_size_X6_placeOf
set_option maxRecDepth 20000 in
theorem ggX7_size_X2_sizeSeen : GoodIn wsX7_size wsX2_sizeSeen := goodIn_r _ [27, 28, 29, 26, 30] (by decide +kernel) (by decide +kernel)
set_option maxRecDepth 20000 in
theorem gX7_size_X2_sizeSeen : GoodIn wsX7_size (va_wsS RX7 130 yX2_sizeSeen wsX2_sizeSeen) := goodIn_app (goodIn_of _ (by decide +kernel)) ggX7_size_X2_sizeSeen
set_option maxRecDepth 20000 in
theorem ggX7_views_X7_isPerson : GoodIn wsX7_views wsX7_isPerson := goodIn_r _ [6, 1, 7, 38, 39, 40, 41, 42, 43, 44, 45, 46, 47, 48, 49, 50] (by decide +kernel) (by decide +kernel)
set_option maxRecDepth 20000 in
theorem gX7_views_X7_isPerson : GoodIn wsX7_views (wsV RX7 67 RX7 yX7_isPerson wsX7_isPerson) := goodIn_app (goodIn_of _ (by decide +kernel)) ggX7_views_X7_isPerson
set_option maxRecDepth 20000 in
theorem ggX7_views_X7_isTick : GoodIn wsX7_views wsX7_isTick := goodIn_r _ [10] (by decide +kernel) (by decide +kernel)
set_option maxRecDepth 20000 in
theorem gX7_views_X7_isTick : GoodIn wsX7_views (va_wsS RX7 70 yX7_isTick wsX7_isTick) := goodIn_app (goodIn_of _ (by decide +kernel)) ggX7_views_X7_isTick
set_option maxRecDepth 20000 in
theorem ggX7_views_X6_hides : GoodIn wsX7_views wsX6_hides := goodIn_r _ [15, 16, 17, 18, 19, 20, 21, 22, 14, 23, 24, 25, 26, 27, 28, 29, 30, 31, 32, 33, 34, 35, 36, 37, 45, 46, 47, 48, 49, 50] (by decide +kernel) (by decide +kernel)
set_option maxRecDepth 20000 in
theorem gX7_views_X6_hides : GoodIn wsX7_views (wsV RX7 115 RX6 yX6_hides wsX6_hides) := goodIn_app (goodIn_of _ (by decide +kernel)) ggX7_views_X6_hides
set_option maxRecDepth 20000 in
theorem ggX7_gives_X7_isCamera : GoodIn wsX7_gives wsX7_isCamera := goodIn_r _ [10, 2, 11, 87, 88, 89, 90, 91, 92, 93, 94, 95, 96] (by decide +kernel) (by decide +kernel)
set_option maxRecDepth 20000 in
theorem gX7_gives_X7_isCamera : GoodIn wsX7_gives (wsV RX7 119 RX7 yX7_isCamera wsX7_isCamera) := goodIn_app (goodIn_of _ (by decide +kernel)) ggX7_gives_X7_isCamera
set_option maxRecDepth 20000 in
theorem ggX7_gives_X7_isBoard : GoodIn wsX7_gives wsX7_isBoard := goodIn_r _ [15, 4, 16, 87, 88, 89, 90, 91, 92, 93, 97, 98, 99] (by decide +kernel) (by decide +kernel)
set_option maxRecDepth 20000 in
theorem gX7_gives_X7_isBoard : GoodIn wsX7_gives (wsV RX7 133 RX7 yX7_isBoard wsX7_isBoard) := goodIn_app (goodIn_of _ (by decide +kernel)) ggX7_gives_X7_isBoard
set_option maxRecDepth 20000 in
theorem ggX7_gives_X1_fault : GoodIn wsX7_gives wsX1_fault := goodIn_r _ [21, 22, 23, 24, 25, 26, 27, 28, 29, 30, 31, 32, 33, 34, 35, 36, 37, 38, 20, 39, 40, 41, 42, 43, 44, 45, 46, 47, 48, 49, 50, 51, 52, 53, 54, 55, 56, 57, 58, 59, 60, 61, 62, 63, 64, 65, 66, 67, 68, 69, 70, 71, 72, 73, 74, 75, 76, 77, 78, 79, 80, 81, 82, 83, 84, 85, 86, 100, 101, 102, 103, 104, 105, 106, 107, 108, 109, 110, 111, 112, 113, 114] (by decide +kernel) (by decide +kernel)
set_option maxRecDepth 20000 in
theorem gX7_gives_X1_fault : GoodIn wsX7_gives (wsV RX7 140 RX1 yX1_fault wsX1_fault) := goodIn_app (goodIn_of _ (by decide +kernel)) ggX7_gives_X1_fault
set_option maxRecDepth 20000 in
theorem ggX7_why_X7_isCamera : GoodIn wsX7_why wsX7_isCamera := goodIn_r _ [10, 2, 11, 87, 88, 89, 90, 91, 92, 93, 94, 95, 96] (by decide +kernel) (by decide +kernel)
set_option maxRecDepth 20000 in
theorem gX7_why_X7_isCamera : GoodIn wsX7_why (wsV RX7 119 RX7 yX7_isCamera wsX7_isCamera) := goodIn_app (goodIn_of _ (by decide +kernel)) ggX7_why_X7_isCamera
set_option maxRecDepth 20000 in
theorem ggX7_why_X7_isBoard : GoodIn wsX7_why wsX7_isBoard := goodIn_r _ [15, 4, 16, 87, 88, 89, 90, 91, 92, 93, 97, 98, 99] (by decide +kernel) (by decide +kernel)
set_option maxRecDepth 20000 in
theorem gX7_why_X7_isBoard : GoodIn wsX7_why (wsV RX7 133 RX7 yX7_isBoard wsX7_isBoard) := goodIn_app (goodIn_of _ (by decide +kernel)) ggX7_why_X7_isBoard
set_option maxRecDepth 20000 in
theorem ggX7_why_X1_fault : GoodIn wsX7_why wsX1_fault := goodIn_r _ [21, 22, 23, 24, 25, 26, 27, 28, 29, 30, 31, 32, 33, 34, 35, 36, 37, 38, 20, 39, 40, 41, 42, 43, 44, 45, 46, 47, 48, 49, 50, 51, 52, 53, 54, 55, 56, 57, 58, 59, 60, 61, 62, 63, 64, 65, 66, 67, 68, 69, 70, 71, 72, 73, 74, 75, 76, 77, 78, 79, 80, 81, 82, 83, 84, 85, 86, 100, 101, 102, 103, 104, 105, 106, 107, 108, 109, 110, 111, 112, 113, 114] (by decide +kernel) (by decide +kernel)
set_option maxRecDepth 20000 in
theorem gX7_why_X1_fault : GoodIn wsX7_why (wsV RX7 140 RX1 yX1_fault wsX1_fault) := goodIn_app (goodIn_of _ (by decide +kernel)) ggX7_why_X1_fault
set_option maxRecDepth 20000 in
theorem ggX7_side_X7_isCamera : GoodIn wsX7_side wsX7_isCamera := goodIn_r _ [11, 5, 12, 51, 52, 53, 54, 55, 56, 57, 69, 70, 71] (by decide +kernel) (by decide +kernel)
set_option maxRecDepth 20000 in
theorem gX7_side_X7_isCamera : GoodIn wsX7_side (wsV RX7 119 RX7 yX7_isCamera wsX7_isCamera) := goodIn_app (goodIn_of _ (by decide +kernel)) ggX7_side_X7_isCamera
set_option maxRecDepth 20000 in
theorem ggX7_side_X7_isBoard : GoodIn wsX7_side wsX7_isBoard := goodIn_r _ [16, 1, 17, 51, 52, 53, 54, 55, 56, 57, 58, 59, 60] (by decide +kernel) (by decide +kernel)
set_option maxRecDepth 20000 in
theorem gX7_side_X7_isBoard : GoodIn wsX7_side (wsV RX7 133 RX7 yX7_isBoard wsX7_isBoard) := goodIn_app (goodIn_of _ (by decide +kernel)) ggX7_side_X7_isBoard
set_option maxRecDepth 20000 in
theorem ggX7_side_X1_sideOfMain : GoodIn wsX7_side wsX1_sideOfMain := goodIn_r _ [22, 23, 24, 25, 26, 27, 28, 29, 30, 31, 32, 33, 34, 35, 36, 37, 38, 39, 40, 41, 42, 43, 44, 45, 46, 47, 48, 49, 50, 72, 61, 62, 63, 64, 65, 66, 67, 68, 73, 74, 75, 76, 77, 78] (by decide +kernel) (by decide +kernel)
set_option maxRecDepth 20000 in
theorem gX7_side_X1_sideOfMain : GoodIn wsX7_side (wsV RX7 149 RX1 yX1_sideOfMain wsX1_sideOfMain) := goodIn_app (goodIn_of _ (by decide +kernel)) ggX7_side_X1_sideOfMain
set_option maxRecDepth 20000 in
theorem ggX7_length_X7_isBoard : GoodIn wsX7_length wsX7_isBoard := goodIn_r _ [6, 1, 7, 22, 23, 24, 25, 26, 27, 28, 29, 30, 31] (by decide +kernel) (by decide +kernel)
set_option maxRecDepth 20000 in
theorem gX7_length_X7_isBoard : GoodIn wsX7_length (wsV RX7 133 RX7 yX7_isBoard wsX7_isBoard) := goodIn_app (goodIn_of _ (by decide +kernel)) ggX7_length_X7_isBoard
set_option maxRecDepth 20000 in
theorem ggX7_length_X5_lengthOf : GoodIn wsX7_length wsX5_lengthOf := goodIn_r _ [12, 13, 14, 15, 16, 17, 18, 19, 20, 21, 29, 30, 31, 32, 33, 34, 35, 36, 37, 38, 39] (by decide +kernel) (by decide +kernel)
set_option maxRecDepth 20000 in
theorem gX7_length_X5_lengthOf : GoodIn wsX7_length (wsV RX7 152 RX5 yX5_lengthOf wsX5_lengthOf) := goodIn_app (goodIn_of _ (by decide +kernel)) ggX7_length_X5_lengthOf
set_option maxRecDepth 20000 in
theorem ggX7_fewest_X3_refresh : GoodIn wsX7_fewest wsX3_refresh := goodIn_r _ [7, 8, 9, 10, 11, 12, 13, 14, 15, 16, 17, 18, 19, 20, 21, 22, 23, 24, 25, 26, 27, 28, 29, 30, 31, 32, 33, 34, 35, 36, 37, 38, 39, 40, 41, 42, 43, 44, 45, 46, 47, 48, 49, 50, 51, 52, 53, 54, 55, 56, 57, 58, 59, 60, 61, 62, 63, 64, 65, 66, 67, 68, 69, 70, 71, 72, 73, 74, 75, 76, 77, 78, 79, 80, 81, 82, 83, 84, 85, 86, 87, 88, 89, 90, 91, 92, 93, 94, 95, 96, 97, 98, 99, 100, 101, 102, 103, 104, 105, 106, 107, 108, 109, 110, 6, 111, 112, 113, 114, 115, 116, 117, 118, 119, 120, 121, 122, 123, 124, 125, 126, 127, 128, 129, 130, 131, 132, 133, 134, 135, 136, 137, 138, 139, 140, 141, 142, 143, 144, 145, 146, 147, 148, 149, 150, 151, 152, 153, 154, 155, 163, 164, 165, 166, 167, 168, 169, 170, 171, 172, 173, 174, 175, 176, 177, 178, 179, 180, 181, 182, 183, 184, 185, 186, 187, 188, 189, 190, 191, 192, 193, 194] (by decide +kernel) (by decide +kernel)
set_option maxRecDepth 20000 in
theorem gX7_fewest_X3_refresh : GoodIn wsX7_fewest (wsV RX7 155 RX3 yX3_refresh wsX3_refresh) := goodIn_app (goodIn_of _ (by decide +kernel)) ggX7_fewest_X3_refresh
set_option maxRecDepth 20000 in
theorem ggX7_plan_X7_isBoard : GoodIn wsX7_plan wsX7_isBoard := goodIn_r _ [8, 9, 10, 164, 165, 166, 167, 168, 169, 170, 182, 183, 184] (by decide +kernel) (by decide +kernel)
set_option maxRecDepth 20000 in
theorem gX7_plan_X7_isBoard : GoodIn wsX7_plan (wsV RX7 133 RX7 yX7_isBoard wsX7_isBoard) := goodIn_app (goodIn_of _ (by decide +kernel)) ggX7_plan_X7_isBoard
set_option maxRecDepth 20000 in
theorem ggX7_plan_X3_refresh : GoodIn wsX7_plan wsX3_refresh := goodIn_r _ [15, 16, 17, 18, 19, 20, 21, 22, 23, 24, 25, 26, 27, 28, 29, 30, 31, 32, 33, 34, 35, 36, 37, 38, 39, 40, 41, 42, 43, 44, 45, 46, 47, 48, 49, 50, 51, 52, 53, 54, 55, 56, 57, 58, 59, 60, 61, 62, 63, 64, 65, 66, 67, 68, 69, 70, 71, 72, 73, 74, 75, 76, 77, 78, 79, 80, 81, 82, 83, 84, 85, 86, 87, 88, 89, 90, 91, 92, 93, 94, 95, 96, 97, 98, 99, 100, 101, 102, 103, 104, 105, 106, 107, 108, 109, 110, 111, 112, 113, 114, 115, 116, 117, 118, 14, 119, 120, 121, 122, 123, 124, 125, 126, 127, 128, 129, 130, 131, 132, 133, 134, 135, 136, 137, 138, 139, 140, 141, 142, 143, 144, 145, 146, 147, 148, 149, 150, 151, 152, 153, 154, 155, 156, 157, 158, 159, 160, 161, 162, 163, 171, 172, 173, 174, 175, 176, 177, 178, 179, 180, 181, 182, 183, 184, 185, 186, 187, 188, 189, 190, 191, 192, 193, 194, 195, 196, 197, 198, 199, 200, 201, 202] (by decide +kernel) (by decide +kernel)
set_option maxRecDepth 20000 in
theorem gX7_plan_X3_refresh : GoodIn wsX7_plan (wsV RX7 155 RX3 yX3_refresh wsX3_refresh) := goodIn_app (goodIn_of _ (by decide +kernel)) ggX7_plan_X3_refresh
set_option maxRecDepth 20000 in
theorem ggX7_swings_X3_refresh : GoodIn wsX7_swings wsX3_refresh := goodIn_r _ [7, 8, 9, 10, 11, 12, 13, 14, 15, 16, 17, 18, 19, 20, 21, 22, 23, 24, 25, 26, 27, 28, 29, 30, 31, 32, 33, 34, 35, 36, 37, 38, 39, 40, 41, 42, 43, 44, 45, 46, 47, 48, 49, 50, 51, 52, 53, 54, 55, 56, 57, 58, 59, 60, 61, 62, 63, 64, 65, 66, 67, 68, 69, 70, 71, 72, 73, 74, 75, 76, 77, 78, 79, 80, 81, 82, 83, 84, 85, 86, 87, 88, 89, 90, 91, 92, 93, 94, 95, 96, 97, 98, 99, 100, 101, 102, 103, 104, 105, 106, 107, 108, 109, 110, 6, 111, 112, 113, 114, 115, 116, 117, 118, 119, 120, 121, 122, 123, 124, 125, 126, 127, 128, 129, 130, 131, 132, 133, 134, 135, 136, 137, 138, 139, 140, 141, 142, 143, 144, 145, 146, 147, 148, 149, 150, 151, 152, 153, 154, 155, 167, 168, 169, 170, 171, 172, 173, 174, 175, 176, 177, 178, 179, 180, 181, 182, 183, 184, 185, 186, 187, 188, 189, 190, 191, 192, 193, 194, 195, 196, 197, 198] (by decide +kernel) (by decide +kernel)
set_option maxRecDepth 20000 in
theorem gX7_swings_X3_refresh : GoodIn wsX7_swings (wsV RX7 155 RX3 yX3_refresh wsX3_refresh) := goodIn_app (goodIn_of _ (by decide +kernel)) ggX7_swings_X3_refresh
set_option maxRecDepth 20000 in
theorem ggX7_swings_X3_turns : GoodIn wsX7_swings wsX3_turns := goodIn_r _ [159, 9, 10, 13, 151, 145, 167, 168, 169, 170, 171, 172, 173, 174, 175, 176, 177, 178, 179, 180, 181, 182, 183] (by decide +kernel) (by decide +kernel)
set_option maxRecDepth 20000 in
theorem gX7_swings_X3_turns : GoodIn wsX7_swings (wsV RX7 164 RX3 yX3_turns wsX3_turns) := goodIn_app (goodIn_of _ (by decide +kernel)) ggX7_swings_X3_turns
set_option maxRecDepth 20000 in
theorem ggX7_order_X3_refresh : GoodIn wsX7_order wsX3_refresh := goodIn_r _ [8, 9, 10, 11, 12, 13, 14, 15, 16, 17, 18, 19, 20, 21, 22, 23, 24, 25, 26, 27, 28, 29, 30, 31, 32, 33, 34, 35, 36, 37, 38, 39, 40, 41, 42, 43, 44, 45, 46, 47, 48, 49, 50, 51, 52, 53, 54, 55, 56, 57, 58, 59, 60, 61, 62, 63, 64, 65, 66, 67, 68, 69, 70, 71, 72, 73, 74, 75, 76, 77, 78, 79, 80, 81, 82, 83, 84, 85, 86, 87, 88, 89, 90, 91, 92, 93, 94, 95, 96, 97, 98, 99, 100, 101, 102, 103, 104, 105, 106, 107, 108, 109, 110, 111, 7, 112, 113, 114, 115, 116, 117, 118, 119, 120, 121, 122, 123, 124, 125, 126, 127, 128, 129, 130, 131, 132, 133, 134, 135, 136, 137, 138, 139, 140, 141, 142, 143, 144, 145, 146, 147, 148, 149, 150, 151, 152, 153, 154, 155, 156, 164, 165, 166, 167, 168, 169, 170, 171, 172, 173, 174, 175, 176, 177, 178, 179, 180, 181, 182, 183, 184, 185, 186, 187, 188, 189, 190, 191, 192, 193, 194, 195] (by decide +kernel) (by decide +kernel)
set_option maxRecDepth 20000 in
theorem gX7_order_X3_refresh : GoodIn wsX7_order (wsV RX7 155 RX3 yX3_refresh wsX3_refresh) := goodIn_app (goodIn_of _ (by decide +kernel)) ggX7_order_X3_refresh
set_option maxRecDepth 20000 in
theorem ggX7_crossings_X1_fault : GoodIn wsX7_crossings wsX1_fault := goodIn_r _ [13, 14, 15, 16, 17, 18, 19, 20, 21, 22, 23, 24, 25, 26, 27, 28, 29, 30, 12, 31, 32, 33, 34, 35, 36, 37, 38, 39, 40, 41, 42, 43, 44, 45, 46, 47, 48, 49, 50, 51, 52, 53, 54, 55, 56, 57, 58, 59, 60, 61, 62, 63, 64, 65, 66, 67, 68, 69, 70, 71, 72, 73, 74, 75, 76, 77, 78, 117, 118, 119, 120, 121, 122, 123, 124, 125, 126, 127, 128, 129, 130, 131] (by decide +kernel) (by decide +kernel)
set_option maxRecDepth 20000 in
theorem gX7_crossings_X1_fault : GoodIn wsX7_crossings (wsV RX7 140 RX1 yX1_fault wsX1_fault) := goodIn_app (goodIn_of _ (by decide +kernel)) ggX7_crossings_X1_fault
set_option maxRecDepth 20000 in
theorem ggX7_crossings_X7_crossingsOfTold : GoodIn wsX7_crossings wsX7_crossingsOfTold := goodIn_r _ [83, 2, 8, 84, 4, 5, 6, 7, 85, 86, 87, 88, 12, 89, 33, 90, 91, 92, 93, 16, 14, 67, 50, 51, 20, 52, 53, 94, 95, 96, 39, 97, 98, 99, 37, 38, 40, 41, 78, 59, 56, 60, 100, 101, 102, 103, 104, 105, 106, 107, 108, 109, 110, 111, 112, 113, 117, 118, 119, 120, 121, 122, 123, 124, 114, 115, 116, 125, 126, 127, 128, 129, 130, 131] (by decide +kernel) (by decide +kernel)
set_option maxRecDepth 20000 in
theorem gX7_crossings_X7_crossingsOfTold : GoodIn wsX7_crossings (wsV RX7 174 RX7 yX7_crossingsOfTold wsX7_crossingsOfTold) := goodIn_app (goodIn_of _ (by decide +kernel)) ggX7_crossings_X7_crossingsOfTold
set_option maxRecDepth 20000 in
theorem ggX7_list_X7_isCamera : GoodIn wsX7_list wsX7_isCamera := goodIn_r _ [7, 8, 9, 10, 11, 12, 13, 14, 15, 16, 17, 18, 19] (by decide +kernel) (by decide +kernel)
set_option maxRecDepth 20000 in
theorem gX7_list_X7_isCamera : GoodIn wsX7_list (wsV RX7 119 RX7 yX7_isCamera wsX7_isCamera) := goodIn_app (goodIn_of _ (by decide +kernel)) ggX7_list_X7_isCamera
set_option maxRecDepth 20000 in
theorem ggX7_run_X5_lengthOf : GoodIn wsX7_run wsX5_lengthOf := goodIn_r _ [7, 8, 9, 10, 11, 12, 13, 14, 15, 16, 24, 25, 26, 27, 28, 29, 30, 31, 32, 33, 34] (by decide +kernel) (by decide +kernel)
set_option maxRecDepth 20000 in
theorem gX7_run_X5_lengthOf : GoodIn wsX7_run (wsV RX7 152 RX5 yX5_lengthOf wsX5_lengthOf) := goodIn_app (goodIn_of _ (by decide +kernel)) ggX7_run_X5_lengthOf
set_option maxRecDepth 20000 in
theorem ggX7_frame_X5_lengthOf : GoodIn wsX7_frame wsX5_lengthOf := goodIn_r _ [7, 8, 9, 10, 11, 12, 13, 14, 15, 16, 24, 25, 26, 27, 28, 29, 30, 31, 32, 33, 34] (by decide +kernel) (by decide +kernel)
set_option maxRecDepth 20000 in
theorem gX7_frame_X5_lengthOf : GoodIn wsX7_frame (wsV RX7 152 RX5 yX5_lengthOf wsX5_lengthOf) := goodIn_app (goodIn_of _ (by decide +kernel)) ggX7_frame_X5_lengthOf
set_option maxRecDepth 20000 in
theorem ggX7_crossingsOfTold_X1_sideOfLesser : GoodIn wsX7_crossingsOfTold wsX1_sideOfLesser := goodIn_r _ [13, 14, 15, 16, 17, 12, 18, 19, 20, 21, 22, 23, 24, 25, 26, 27, 28, 29, 30, 31, 32, 33, 34, 35, 36, 37, 38, 39, 40, 41, 42, 43, 44, 45, 56, 57, 58, 59, 60, 61, 62, 63, 67, 68, 69, 70, 71, 72, 73] (by decide +kernel) (by decide +kernel)
set_option maxRecDepth 20000 in
theorem gX7_crossingsOfTold_X1_sideOfLesser : GoodIn wsX7_crossingsOfTold (wsV RX7 177 RX1 yX1_sideOfLesser wsX1_sideOfLesser) := goodIn_app (goodIn_of _ (by decide +kernel)) ggX7_crossingsOfTold_X1_sideOfLesser
set_option maxRecDepth 20000 in
theorem ggX7_isSpan_X7_isTick : GoodIn wsX7_isSpan wsX7_isTick := goodIn_r _ [4] (by decide +kernel) (by decide +kernel)
set_option maxRecDepth 20000 in
theorem gX7_isSpan_X7_isTick : GoodIn wsX7_isSpan (va_wsS RX7 70 yX7_isTick wsX7_isTick) := goodIn_app (goodIn_of _ (by decide +kernel)) ggX7_isSpan_X7_isTick
set_option maxRecDepth 20000 in
theorem ggX7_isWho_X7_isPerson : GoodIn wsX7_isWho wsX7_isPerson := goodIn_r _ [7, 1, 2, 8, 9, 10, 11, 12, 13, 14, 15, 16, 17, 18, 19, 20] (by decide +kernel) (by decide +kernel)
set_option maxRecDepth 20000 in
theorem gX7_isWho_X7_isPerson : GoodIn wsX7_isWho (wsV RX7 67 RX7 yX7_isPerson wsX7_isPerson) := goodIn_app (goodIn_of _ (by decide +kernel)) ggX7_isWho_X7_isPerson
set_option maxRecDepth 20000 in
theorem ggX8_isPerson_X8_in : GoodIn wsX8_isPerson wsX8_in := goodIn_r _ [5] (by decide +kernel) (by decide +kernel)
set_option maxRecDepth 20000 in
theorem gX8_isPerson_X8_in : GoodIn wsX8_isPerson (va_wsS RX8 75 yX8_in wsX8_in) := goodIn_app (goodIn_of _ (by decide +kernel)) ggX8_isPerson_X8_in
set_option maxRecDepth 20000 in
theorem ggX8_isCamera_X8_in : GoodIn wsX8_isCamera wsX8_in := goodIn_r _ [5] (by decide +kernel) (by decide +kernel)
set_option maxRecDepth 20000 in
theorem gX8_isCamera_X8_in : GoodIn wsX8_isCamera (va_wsS RX8 75 yX8_in wsX8_in) := goodIn_app (goodIn_of _ (by decide +kernel)) ggX8_isCamera_X8_in
set_option maxRecDepth 20000 in
theorem ggX8_isBoard_X8_in : GoodIn wsX8_isBoard wsX8_in := goodIn_r _ [5] (by decide +kernel) (by decide +kernel)
set_option maxRecDepth 20000 in
theorem gX8_isBoard_X8_in : GoodIn wsX8_isBoard (va_wsS RX8 75 yX8_in wsX8_in) := goodIn_app (goodIn_of _ (by decide +kernel)) ggX8_isBoard_X8_in
set_option maxRecDepth 20000 in
theorem ggX8_isTick_X8_in : GoodIn wsX8_isTick wsX8_in := goodIn_r _ [4] (by decide +kernel) (by decide +kernel)
set_option maxRecDepth 20000 in
theorem gX8_isTick_X8_in : GoodIn wsX8_isTick (va_wsS RX8 75 yX8_in wsX8_in) := goodIn_app (goodIn_of _ (by decide +kernel)) ggX8_isTick_X8_in
set_option maxRecDepth 20000 in
theorem ggX8_person_X8_isPlace : GoodIn wsX8_person wsX8_isPlace := goodIn_r _ [6] (by decide +kernel) (by decide +kernel)
set_option maxRecDepth 20000 in
theorem gX8_person_X8_isPlace : GoodIn wsX8_person (va_wsS RX8 85 yX8_isPlace wsX8_isPlace) := goodIn_app (goodIn_of _ (by decide +kernel)) ggX8_person_X8_isPlace
set_option maxRecDepth 20000 in
theorem ggX8_step_X8_isPerson : GoodIn wsX8_step wsX8_isPerson := goodIn_r _ [8, 9, 10, 11, 7, 12, 16, 17, 18, 19, 20, 21, 22, 23, 24, 25, 26, 27, 28, 29, 30, 31, 32, 33, 34, 35, 36, 37, 38, 39, 40, 41] (by decide +kernel) (by decide +kernel)
set_option maxRecDepth 20000 in
theorem gX8_step_X8_isPerson : GoodIn wsX8_step (wsV RX8 89 RX8 yX8_isPerson wsX8_isPerson) := goodIn_app (goodIn_of _ (by decide +kernel)) ggX8_step_X8_isPerson
set_option maxRecDepth 20000 in
theorem ggX8_step_X8_in : GoodIn wsX8_step wsX8_in := goodIn_r _ [12] (by decide +kernel) (by decide +kernel)
set_option maxRecDepth 20000 in
theorem gX8_step_X8_in : GoodIn wsX8_step (va_wsS RX8 75 yX8_in wsX8_in) := goodIn_app (goodIn_of _ (by decide +kernel)) ggX8_step_X8_in
set_option maxRecDepth 20000 in
theorem ggX8_step_X8_isPlace : GoodIn wsX8_step wsX8_isPlace := goodIn_r _ [15] (by decide +kernel) (by decide +kernel)
set_option maxRecDepth 20000 in
theorem gX8_step_X8_isPlace : GoodIn wsX8_step (va_wsS RX8 85 yX8_isPlace wsX8_isPlace) := goodIn_app (goodIn_of _ (by decide +kernel)) ggX8_step_X8_isPlace
set_option maxRecDepth 20000 in
theorem ggX8_wall_X8_isPlace : GoodIn wsX8_wall wsX8_isPlace := goodIn_r _ [7] (by decide +kernel) (by decide +kernel)
set_option maxRecDepth 20000 in
theorem gX8_wall_X8_isPlace : GoodIn wsX8_wall (va_wsS RX8 85 yX8_isPlace wsX8_isPlace) := goodIn_app (goodIn_of _ (by decide +kernel)) ggX8_wall_X8_isPlace
set_option maxRecDepth 20000 in
theorem ggX8_camera_X8_isPlace : GoodIn wsX8_camera wsX8_isPlace := goodIn_r _ [7] (by decide +kernel) (by decide +kernel)
set_option maxRecDepth 20000 in
theorem gX8_camera_X8_isPlace : GoodIn wsX8_camera (va_wsS RX8 85 yX8_isPlace wsX8_isPlace) := goodIn_app (goodIn_of _ (by decide +kernel)) ggX8_camera_X8_isPlace
set_option maxRecDepth 20000 in
theorem ggX8_camera_X8_in : GoodIn wsX8_camera wsX8_in := goodIn_r _ [10] (by decide +kernel) (by decide +kernel)
set_option maxRecDepth 20000 in
theorem gX8_camera_X8_in : GoodIn wsX8_camera (va_wsS RX8 75 yX8_in wsX8_in) := goodIn_app (goodIn_of _ (by decide +kernel)) ggX8_camera_X8_in
set_option maxRecDepth 20000 in
theorem ggX8_board_X8_in : GoodIn wsX8_board wsX8_in := goodIn_r _ [13] (by decide +kernel) (by decide +kernel)
set_option maxRecDepth 20000 in
theorem gX8_board_X8_in : GoodIn wsX8_board (va_wsS RX8 75 yX8_in wsX8_in) := goodIn_app (goodIn_of _ (by decide +kernel)) ggX8_board_X8_in
set_option maxRecDepth 20000 in
theorem ggX8_board_X8_isPerson : GoodIn wsX8_board wsX8_isPerson := goodIn_r _ [17, 1, 10, 11, 12, 13, 21, 22, 23, 24, 25, 26, 27, 28, 29, 30, 31, 32, 33, 34, 35, 36, 37, 38, 39, 40, 41, 42, 43, 44, 45, 46] (by decide +kernel) (by decide +kernel)
set_option maxRecDepth 20000 in
theorem gX8_board_X8_isPerson : GoodIn wsX8_board (wsV RX8 89 RX8 yX8_isPerson wsX8_isPerson) := goodIn_app (goodIn_of _ (by decide +kernel)) ggX8_board_X8_isPerson
set_option maxRecDepth 20000 in
theorem ggX8_board_X8_isTick : GoodIn wsX8_board wsX8_isTick := goodIn_r _ [20, 10, 11, 12, 13] (by decide +kernel) (by decide +kernel)
set_option maxRecDepth 20000 in
theorem gX8_board_X8_isTick : GoodIn wsX8_board (va_wsS RX8 95 yX8_isTick wsX8_isTick) := goodIn_app (goodIn_of _ (by decide +kernel)) ggX8_board_X8_isTick
set_option maxRecDepth 20000 in
theorem ggX8_rate_X8_in : GoodIn wsX8_rate wsX8_in := goodIn_r _ [5] (by decide +kernel) (by decide +kernel)
set_option maxRecDepth 20000 in
theorem gX8_rate_X8_in : GoodIn wsX8_rate (va_wsS RX8 75 yX8_in wsX8_in) := goodIn_app (goodIn_of _ (by decide +kernel)) ggX8_rate_X8_in
set_option maxRecDepth 20000 in
theorem ggX8_where_X8_isPerson : GoodIn wsX8_where wsX8_isPerson := goodIn_r _ [5, 6, 7, 8, 4, 9, 21, 22, 23, 24, 25, 26, 27, 28, 29, 30, 31, 32, 33, 34, 35, 36, 37, 38, 39, 40, 41, 42, 43, 44, 45, 46] (by decide +kernel) (by decide +kernel)
set_option maxRecDepth 20000 in
theorem gX8_where_X8_isPerson : GoodIn wsX8_where (wsV RX8 89 RX8 yX8_isPerson wsX8_isPerson) := goodIn_app (goodIn_of _ (by decide +kernel)) ggX8_where_X8_isPerson
set_option maxRecDepth 20000 in
theorem ggX8_where_X8_isTick : GoodIn wsX8_where wsX8_isTick := goodIn_r _ [12, 7, 8, 4, 9] (by decide +kernel) (by decide +kernel)
set_option maxRecDepth 20000 in
theorem gX8_where_X8_isTick : GoodIn wsX8_where (va_wsS RX8 95 yX8_isTick wsX8_isTick) := goodIn_app (goodIn_of _ (by decide +kernel)) ggX8_where_X8_isTick
set_option maxRecDepth 20000 in
theorem ggX8_where_X8_placeOf : GoodIn wsX8_where wsX8_placeOf := goodIn_r _ [16, 17, 18, 19, 20, 21, 22, 23, 24, 25, 26, 27, 28, 29, 30, 31, 32, 33, 34, 35, 36, 37, 38, 39, 40, 41, 42, 43, 44, 45, 46] (by decide +kernel) (by decide +kernel)
set_option maxRecDepth 20000 in
theorem gX8_where_X8_placeOf : GoodIn wsX8_where (wsV RX8 98 RX8 yX8_placeOf wsX8_placeOf) := goodIn_app (goodIn_of _ (by decide +kernel)) ggX8_where_X8_placeOf
set_option maxRecDepth 20000 in
theorem ggX8_turn_X8_x : GoodIn wsX8_turn wsX8_x := goodIn_r _ [4] (by decide +kernel) (by decide +kernel)
set_option maxRecDepth 20000 in
theorem gX8_turn_X8_x : GoodIn wsX8_turn (va_wsS RX8 102 yX8_x wsX8_x) := goodIn_app (goodIn_of _ (by decide +kernel)) ggX8_turn_X8_x
set_option maxRecDepth 20000 in
theorem ggX8_turn_X8_y : GoodIn wsX8_turn wsX8_y := goodIn_r _ [7] (by decide +kernel) (by decide +kernel)
set_option maxRecDepth 20000 in
theorem gX8_turn_X8_y : GoodIn wsX8_turn (va_wsS RX8 106 yX8_y wsX8_y) := goodIn_app (goodIn_of _ (by decide +kernel)) ggX8_turn_X8_y
set_option maxRecDepth 20000 in
theorem ggX8_isBetween_X8_in : GoodIn wsX8_isBetween wsX8_in := goodIn_r _ [4] (by decide +kernel) (by decide +kernel)
set_option maxRecDepth 20000 in
theorem gX8_isBetween_X8_in : GoodIn wsX8_isBetween (va_wsS RX8 75 yX8_in wsX8_in) := goodIn_app (goodIn_of _ (by decide +kernel)) ggX8_isBetween_X8_in
set_option maxRecDepth 20000 in
theorem ggX8_isOn_X8_turn : GoodIn wsX8_isOn wsX8_turn := goodIn_r _ [4, 5, 6, 3, 7, 8, 9, 10] (by decide +kernel) (by decide +kernel)
set_option maxRecDepth 20000 in
theorem gX8_isOn_X8_turn : GoodIn wsX8_isOn (va_wsS RX8 109 yX8_turn wsX8_turn) := goodIn_app (goodIn_of _ (by decide +kernel)) ggX8_isOn_X8_turn
set_option maxRecDepth 20000 in
theorem ggX8_isOn_X8_x : GoodIn wsX8_isOn wsX8_x := goodIn_r _ [7] (by decide +kernel) (by decide +kernel)
set_option maxRecDepth 20000 in
theorem gX8_isOn_X8_x : GoodIn wsX8_isOn (va_wsS RX8 102 yX8_x wsX8_x) := goodIn_app (goodIn_of _ (by decide +kernel)) ggX8_isOn_X8_x
end
section
set_option maxRecDepth 20000 in
theorem ggX8_isOn_X8_isBetween : GoodIn wsX8_isOn wsX8_isBetween := goodIn_r _ [13, 14, 15, 3, 16] (by decide +kernel) (by decide +kernel)
set_option maxRecDepth 20000 in
theorem gX8_isOn_X8_isBetween : GoodIn wsX8_isOn (va_wsS RX8 113 yX8_isBetween wsX8_isBetween) := goodIn_app (goodIn_of _ (by decide +kernel)) ggX8_isOn_X8_isBetween
set_option maxRecDepth 20000 in
theorem ggX8_isOn_X8_y : GoodIn wsX8_isOn wsX8_y := goodIn_r _ [10] (by decide +kernel) (by decide +kernel)
set_option maxRecDepth 20000 in
theorem gX8_isOn_X8_y : GoodIn wsX8_isOn (va_wsS RX8 106 yX8_y wsX8_y) := goodIn_app (goodIn_of _ (by decide +kernel)) ggX8_isOn_X8_y
set_option maxRecDepth 20000 in
theorem ggX8_meet_X8_turn : GoodIn wsX8_meet wsX8_turn := goodIn_r _ [4, 5, 6, 3, 7, 8, 9, 10] (by decide +kernel) (by decide +kernel)
set_option maxRecDepth 20000 in
theorem gX8_meet_X8_turn : GoodIn wsX8_meet (va_wsS RX8 109 yX8_turn wsX8_turn) := goodIn_app (goodIn_of _ (by decide +kernel)) ggX8_meet_X8_turn
set_option maxRecDepth 20000 in
theorem ggX8_meet_X8_isOn : GoodIn wsX8_meet wsX8_isOn := goodIn_r _ [13, 1, 2, 3, 4, 5, 6, 7, 8, 9, 10, 14, 15, 16, 17, 18, 19] (by decide +kernel) (by decide +kernel)
set_option maxRecDepth 20000 in
theorem gX8_meet_X8_isOn : GoodIn wsX8_meet (va_wsS RX8 116 yX8_isOn wsX8_isOn) := goodIn_app (goodIn_of _ (by decide +kernel)) ggX8_meet_X8_isOn
set_option maxRecDepth 20000 in
theorem ggX8_isHidden_X8_placeOf : GoodIn wsX8_isHidden wsX8_placeOf := goodIn_r _ [9, 10, 11, 12, 13, 35, 36, 37, 38, 39, 40, 41, 42, 43, 44, 45, 46, 47, 48, 49, 50, 51, 52, 53, 54, 55, 56, 57, 58, 59, 60] (by decide +kernel) (by decide +kernel)
set_option maxRecDepth 20000 in
theorem gX8_isHidden_X8_placeOf : GoodIn wsX8_isHidden (wsV RX8 98 RX8 yX8_placeOf wsX8_placeOf) := goodIn_app (goodIn_of _ (by decide +kernel)) ggX8_isHidden_X8_placeOf
set_option maxRecDepth 20000 in
theorem ggX8_isHidden_X8_meet : GoodIn wsX8_isHidden wsX8_meet := goodIn_r _ [16, 17, 18, 8, 19, 20, 21, 22, 23, 24, 25, 26, 27, 28, 29, 30, 31, 32, 33, 34] (by decide +kernel) (by decide +kernel)
set_option maxRecDepth 20000 in
theorem gX8_isHidden_X8_meet : GoodIn wsX8_isHidden (va_wsS RX8 119 yX8_meet wsX8_meet) := goodIn_app (goodIn_of _ (by decide +kernel)) ggX8_isHidden_X8_meet
set_option maxRecDepth 20000 in
theorem ggX8_isHidden_X8_isOn : GoodIn wsX8_isHidden wsX8_isOn := goodIn_r _ [28, 17, 18, 8, 19, 20, 21, 22, 23, 24, 25, 29, 30, 31, 32, 33, 34] (by decide +kernel) (by decide +kernel)
set_option maxRecDepth 20000 in
theorem gX8_isHidden_X8_isOn : GoodIn wsX8_isHidden (va_wsS RX8 116 yX8_isOn wsX8_isOn) := goodIn_app (goodIn_of _ (by decide +kernel)) ggX8_isHidden_X8_isOn
set_option maxRecDepth 20000 in
theorem ggX8_hidden_X8_isPerson : GoodIn wsX8_hidden wsX8_isPerson := goodIn_r _ [5, 6, 7, 8, 4, 9, 49, 50, 51, 52, 53, 54, 55, 56, 57, 58, 59, 60, 61, 62, 63, 64, 65, 66, 67, 68, 69, 70, 71, 72, 73, 74] (by decide +kernel) (by decide +kernel)
set_option maxRecDepth 20000 in
theorem gX8_hidden_X8_isPerson : GoodIn wsX8_hidden (wsV RX8 89 RX8 yX8_isPerson wsX8_isPerson) := goodIn_app (goodIn_of _ (by decide +kernel)) ggX8_hidden_X8_isPerson
set_option maxRecDepth 20000 in
theorem ggX8_hidden_X8_isTick : GoodIn wsX8_hidden wsX8_isTick := goodIn_r _ [12, 7, 8, 4, 9] (by decide +kernel) (by decide +kernel)
set_option maxRecDepth 20000 in
theorem gX8_hidden_X8_isTick : GoodIn wsX8_hidden (va_wsS RX8 95 yX8_isTick wsX8_isTick) := goodIn_app (goodIn_of _ (by decide +kernel)) ggX8_hidden_X8_isTick
set_option maxRecDepth 20000 in
theorem ggX8_hidden_X8_isPlace : GoodIn wsX8_hidden wsX8_isPlace := goodIn_r _ [15] (by decide +kernel) (by decide +kernel)
set_option maxRecDepth 20000 in
theorem gX8_hidden_X8_isPlace : GoodIn wsX8_hidden (va_wsS RX8 85 yX8_isPlace wsX8_isPlace) := goodIn_app (goodIn_of _ (by decide +kernel)) ggX8_hidden_X8_isPlace
set_option maxRecDepth 20000 in
theorem ggX8_hidden_X8_isHidden : GoodIn wsX8_hidden wsX8_isHidden := goodIn_r _ [19, 20, 21, 22, 6, 23, 24, 25, 4, 26, 27, 28, 29, 30, 31, 32, 33, 34, 35, 36, 37, 38, 39, 40, 41, 42, 43, 44, 45, 46, 47, 48, 7, 8, 9, 49, 50, 51, 52, 53, 54, 55, 56, 57, 58, 59, 60, 61, 62, 63, 64, 65, 66, 67, 68, 69, 70, 71, 72, 73, 74] (by decide +kernel) (by decide +kernel)
set_option maxRecDepth 20000 in
theorem gX8_hidden_X8_isHidden : GoodIn wsX8_hidden (wsV RX8 123 RX8 yX8_isHidden wsX8_isHidden) := goodIn_app (goodIn_of _ (by decide +kernel)) ggX8_hidden_X8_isHidden
set_option maxRecDepth 20000 in
theorem ggX8_isBefore_X8_placeOf : GoodIn wsX8_isBefore wsX8_placeOf := goodIn_r _ [6, 7, 8, 9, 10, 17, 18, 19, 20, 21, 22, 23, 24, 25, 26, 27, 28, 29, 30, 31, 32, 33, 34, 35, 36, 37, 38, 39, 40, 41, 42] (by decide +kernel) (by decide +kernel)
set_option maxRecDepth 20000 in
theorem gX8_isBefore_X8_placeOf : GoodIn wsX8_isBefore (wsV RX8 98 RX8 yX8_placeOf wsX8_placeOf) := goodIn_app (goodIn_of _ (by decide +kernel)) ggX8_isBefore_X8_placeOf
set_option maxRecDepth 20000 in
theorem ggX8_isBefore_X8_x : GoodIn wsX8_isBefore wsX8_x := goodIn_r _ [13] (by decide +kernel) (by decide +kernel)
set_option maxRecDepth 20000 in
theorem gX8_isBefore_X8_x : GoodIn wsX8_isBefore (va_wsS RX8 102 yX8_x wsX8_x) := goodIn_app (goodIn_of _ (by decide +kernel)) ggX8_isBefore_X8_x
set_option maxRecDepth 20000 in
theorem ggX8_isBefore_X8_y : GoodIn wsX8_isBefore wsX8_y := goodIn_r _ [16] (by decide +kernel) (by decide +kernel)
set_option maxRecDepth 20000 in
theorem gX8_isBefore_X8_y : GoodIn wsX8_isBefore (va_wsS RX8 106 yX8_y wsX8_y) := goodIn_app (goodIn_of _ (by decide +kernel)) ggX8_isBefore_X8_y
set_option maxRecDepth 20000 in
theorem ggX8_sees_X8_isCamera : GoodIn wsX8_sees wsX8_isCamera := goodIn_r _ [6, 7, 8, 9, 5, 10, 56, 57, 58, 59, 60, 61, 62, 63, 64, 65, 66, 67, 68, 69, 70, 71, 72, 73, 74, 75, 76, 77, 78, 79, 80, 81] (by decide +kernel) (by decide +kernel)
set_option maxRecDepth 20000 in
theorem gX8_sees_X8_isCamera : GoodIn wsX8_sees (wsV RX8 126 RX8 yX8_isCamera wsX8_isCamera) := goodIn_app (goodIn_of _ (by decide +kernel)) ggX8_sees_X8_isCamera
set_option maxRecDepth 20000 in
theorem ggX8_sees_X8_isPerson : GoodIn wsX8_sees wsX8_isPerson := goodIn_r _ [14, 15, 8, 9, 5, 10, 56, 57, 58, 59, 60, 61, 62, 63, 64, 65, 66, 67, 68, 69, 70, 71, 72, 73, 74, 75, 76, 77, 78, 79, 80, 81] (by decide +kernel) (by decide +kernel)
set_option maxRecDepth 20000 in
theorem gX8_sees_X8_isPerson : GoodIn wsX8_sees (wsV RX8 89 RX8 yX8_isPerson wsX8_isPerson) := goodIn_app (goodIn_of _ (by decide +kernel)) ggX8_sees_X8_isPerson
set_option maxRecDepth 20000 in
theorem ggX8_sees_X8_isTick : GoodIn wsX8_sees wsX8_isTick := goodIn_r _ [18, 8, 9, 5, 10] (by decide +kernel) (by decide +kernel)
set_option maxRecDepth 20000 in
theorem gX8_sees_X8_isTick : GoodIn wsX8_sees (va_wsS RX8 95 yX8_isTick wsX8_isTick) := goodIn_app (goodIn_of _ (by decide +kernel)) ggX8_sees_X8_isTick
set_option maxRecDepth 20000 in
theorem ggX8_sees_X8_isHidden : GoodIn wsX8_sees wsX8_isHidden := goodIn_r _ [22, 23, 24, 25, 15, 26, 27, 28, 5, 29, 30, 31, 32, 33, 34, 35, 36, 37, 38, 39, 40, 41, 42, 43, 44, 45, 46, 47, 48, 49, 50, 51, 8, 9, 10, 56, 57, 58, 59, 60, 61, 62, 63, 64, 65, 66, 67, 68, 69, 70, 71, 72, 73, 74, 75, 76, 77, 78, 79, 80, 81] (by decide +kernel) (by decide +kernel)
set_option maxRecDepth 20000 in
theorem gX8_sees_X8_isHidden : GoodIn wsX8_sees (wsV RX8 123 RX8 yX8_isHidden wsX8_isHidden) := goodIn_app (goodIn_of _ (by decide +kernel)) ggX8_sees_X8_isHidden
set_option maxRecDepth 20000 in
theorem ggX8_sees_X8_isBefore : GoodIn wsX8_sees wsX8_isBefore := goodIn_r _ [55, 1, 26, 27, 28, 5, 29, 30, 31, 32, 33, 40, 41, 42, 43, 44, 45, 56, 57, 58, 59, 60, 61, 62, 63, 64, 65, 66, 67, 68, 69, 70, 71, 72, 73, 74, 75, 76, 77, 78, 79, 80, 81] (by decide +kernel) (by decide +kernel)
set_option maxRecDepth 20000 in
theorem gX8_sees_X8_isBefore : GoodIn wsX8_sees (wsV RX8 129 RX8 yX8_isBefore wsX8_isBefore) := goodIn_app (goodIn_of _ (by decide +kernel)) ggX8_sees_X8_isBefore
set_option maxRecDepth 20000 in
theorem ggX8_sizeOf_X8_placeOf : GoodIn wsX8_sizeOf wsX8_placeOf := goodIn_r _ [6, 7, 8, 9, 10, 17, 18, 19, 20, 21, 22, 23, 24, 25, 26, 27, 28, 29, 30, 31, 32, 33, 34, 35, 36, 37, 38, 39, 40, 41, 42] (by decide +kernel) (by decide +kernel)
set_option maxRecDepth 20000 in
theorem gX8_sizeOf_X8_placeOf : GoodIn wsX8_sizeOf (wsV RX8 98 RX8 yX8_placeOf wsX8_placeOf) := goodIn_app (goodIn_of _ (by decide +kernel)) ggX8_sizeOf_X8_placeOf
set_option maxRecDepth 20000 in
theorem ggX8_sizeOf_X8_x : GoodIn wsX8_sizeOf wsX8_x := goodIn_r _ [13] (by decide +kernel) (by decide +kernel)
set_option maxRecDepth 20000 in
theorem gX8_sizeOf_X8_x : GoodIn wsX8_sizeOf (va_wsS RX8 102 yX8_x wsX8_x) := goodIn_app (goodIn_of _ (by decide +kernel)) ggX8_sizeOf_X8_x
set_option maxRecDepth 20000 in
theorem ggX8_sizeOf_X8_y : GoodIn wsX8_sizeOf wsX8_y := goodIn_r _ [16] (by decide +kernel) (by decide +kernel)
set_option maxRecDepth 20000 in
theorem gX8_sizeOf_X8_y : GoodIn wsX8_sizeOf (va_wsS RX8 106 yX8_y wsX8_y) := goodIn_app (goodIn_of _ (by decide +kernel)) ggX8_sizeOf_X8_y
set_option maxRecDepth 20000 in
theorem ggX8_size_X8_isCamera : GoodIn wsX8_size wsX8_isCamera := goodIn_r _ [5, 6, 7, 8, 4, 9, 37, 38, 39, 40, 41, 42, 43, 44, 45, 46, 47, 48, 49, 50, 51, 52, 53, 54, 55, 56, 57, 58, 59, 60, 61, 62] (by decide +kernel) (by decide +kernel)
set_option maxRecDepth 20000 in
theorem gX8_size_X8_isCamera : GoodIn wsX8_size (wsV RX8 126 RX8 yX8_isCamera wsX8_isCamera) := goodIn_app (goodIn_of _ (by decide +kernel)) ggX8_size_X8_isCamera
set_option maxRecDepth 20000 in
theorem ggX8_size_X8_isPerson : GoodIn wsX8_size wsX8_isPerson := goodIn_r _ [13, 14, 7, 8, 4, 9, 37, 38, 39, 40, 41, 42, 43, 44, 45, 46, 47, 48, 49, 50, 51, 52, 53, 54, 55, 56, 57, 58, 59, 60, 61, 62] (by decide +kernel) (by decide +kernel)
set_option maxRecDepth 20000 in
theorem gX8_size_X8_isPerson : GoodIn wsX8_size (wsV RX8 89 RX8 yX8_isPerson wsX8_isPerson) := goodIn_app (goodIn_of _ (by decide +kernel)) ggX8_size_X8_isPerson
set_option maxRecDepth 20000 in
theorem ggX8_size_X8_isTick : GoodIn wsX8_size wsX8_isTick := goodIn_r _ [17, 7, 8, 4, 9] (by decide +kernel) (by decide +kernel)
set_option maxRecDepth 20000 in
theorem gX8_size_X8_isTick : GoodIn wsX8_size (va_wsS RX8 95 yX8_isTick wsX8_isTick) := goodIn_app (goodIn_of _ (by decide +kernel)) ggX8_size_X8_isTick
set_option maxRecDepth 20000 in
theorem ggX8_size_X8_sizeOf : GoodIn wsX8_size wsX8_sizeOf := goodIn_r _ [21, 22, 23, 24, 25, 4, 26, 27, 28, 29, 30, 31, 32, 33, 34, 35, 36, 37, 38, 39, 40, 41, 42, 43, 44, 45, 46, 47, 48, 49, 50, 51, 52, 53, 54, 55, 56, 57, 58, 59, 60, 61, 62] (by decide +kernel) (by decide +kernel)
set_option maxRecDepth 20000 in
theorem gX8_size_X8_sizeOf : GoodIn wsX8_size (wsV RX8 132 RX8 yX8_sizeOf wsX8_sizeOf) := goodIn_app (goodIn_of _ (by decide +kernel)) ggX8_size_X8_sizeOf
set_option maxRecDepth 20000 in
theorem ggX8_views_X8_isPerson : GoodIn wsX8_views wsX8_isPerson := goodIn_r _ [5, 6, 7, 8, 4, 9, 46, 47, 48, 49, 50, 51, 52, 53, 54, 55, 56, 57, 58, 59, 60, 61, 62, 63, 64, 65, 66, 67, 68, 69, 70, 71] (by decide +kernel) (by decide +kernel)
set_option maxRecDepth 20000 in
theorem gX8_views_X8_isPerson : GoodIn wsX8_views (wsV RX8 89 RX8 yX8_isPerson wsX8_isPerson) := goodIn_app (goodIn_of _ (by decide +kernel)) ggX8_views_X8_isPerson
set_option maxRecDepth 20000 in
theorem ggX8_views_X8_isTick : GoodIn wsX8_views wsX8_isTick := goodIn_r _ [12, 7, 8, 4, 9] (by decide +kernel) (by decide +kernel)
set_option maxRecDepth 20000 in
theorem gX8_views_X8_isTick : GoodIn wsX8_views (va_wsS RX8 95 yX8_isTick wsX8_isTick) := goodIn_app (goodIn_of _ (by decide +kernel)) ggX8_views_X8_isTick
set_option maxRecDepth 20000 in
theorem ggX8_views_X8_isHidden : GoodIn wsX8_views wsX8_isHidden := goodIn_r _ [16, 17, 18, 19, 6, 20, 21, 22, 4, 23, 24, 25, 26, 27, 28, 29, 30, 31, 32, 33, 34, 35, 36, 37, 38, 39, 40, 41, 42, 43, 44, 45, 7, 8, 9, 46, 47, 48, 49, 50, 51, 52, 53, 54, 55, 56, 57, 58, 59, 60, 61, 62, 63, 64, 65, 66, 67, 68, 69, 70, 71] (by decide +kernel) (by decide +kernel)
set_option maxRecDepth 20000 in
theorem gX8_views_X8_isHidden : GoodIn wsX8_views (wsV RX8 123 RX8 yX8_isHidden wsX8_isHidden) := goodIn_app (goodIn_of _ (by decide +kernel)) ggX8_views_X8_isHidden
set_option maxRecDepth 20000 in
theorem ggX8_fails_X8_isHidden : GoodIn wsX8_fails wsX8_isHidden := goodIn_r _ [12, 13, 14, 15, 2, 16, 17, 18, 11, 19, 20, 21, 22, 23, 24, 25, 26, 27, 28, 29, 30, 31, 32, 33, 34, 35, 36, 37, 38, 39, 40, 41, 42, 43, 44, 53, 54, 55, 56, 57, 58, 59, 60, 61, 62, 63, 64, 65, 66, 67, 68, 69, 70, 71, 72, 73, 74, 75, 76, 77, 78] (by decide +kernel) (by decide +kernel)
set_option maxRecDepth 20000 in
theorem gX8_fails_X8_isHidden : GoodIn wsX8_fails (wsV RX8 123 RX8 yX8_isHidden wsX8_isHidden) := goodIn_app (goodIn_of _ (by decide +kernel)) ggX8_fails_X8_isHidden
set_option maxRecDepth 20000 in
theorem ggX8_fails_X8_isBefore : GoodIn wsX8_fails wsX8_isBefore := goodIn_r _ [48, 4, 16, 17, 18, 11, 19, 20, 21, 22, 23, 30, 31, 32, 33, 34, 35, 53, 54, 55, 56, 57, 58, 59, 60, 61, 62, 63, 64, 65, 66, 67, 68, 69, 70, 71, 72, 73, 74, 75, 76, 77, 78] (by decide +kernel) (by decide +kernel)
set_option maxRecDepth 20000 in
theorem gX8_fails_X8_isBefore : GoodIn wsX8_fails (wsV RX8 129 RX8 yX8_isBefore wsX8_isBefore) := goodIn_app (goodIn_of _ (by decide +kernel)) ggX8_fails_X8_isBefore
set_option maxRecDepth 20000 in
theorem ggX8_fails_X8_sizeOf : GoodIn wsX8_fails wsX8_sizeOf := goodIn_r _ [52, 4, 16, 17, 18, 11, 19, 20, 21, 22, 23, 30, 31, 32, 33, 34, 35, 53, 54, 55, 56, 57, 58, 59, 60, 61, 62, 63, 64, 65, 66, 67, 68, 69, 70, 71, 72, 73, 74, 75, 76, 77, 78] (by decide +kernel) (by decide +kernel)
set_option maxRecDepth 20000 in
theorem gX8_fails_X8_sizeOf : GoodIn wsX8_fails (wsV RX8 132 RX8 yX8_sizeOf wsX8_sizeOf) := goodIn_app (goodIn_of _ (by decide +kernel)) ggX8_fails_X8_sizeOf
set_option maxRecDepth 20000 in
theorem ggX8_fails_X8_placeOf : GoodIn wsX8_fails wsX8_placeOf := goodIn_r _ [19, 20, 21, 22, 23, 53, 54, 55, 56, 57, 58, 59, 60, 61, 62, 63, 64, 65, 66, 67, 68, 69, 70, 71, 72, 73, 74, 75, 76, 77, 78] (by decide +kernel) (by decide +kernel)
set_option maxRecDepth 20000 in
theorem gX8_fails_X8_placeOf : GoodIn wsX8_fails (wsV RX8 98 RX8 yX8_placeOf wsX8_placeOf) := goodIn_app (goodIn_of _ (by decide +kernel)) ggX8_fails_X8_placeOf
set_option maxRecDepth 20000 in
theorem ggX8_fails_X8_turn : GoodIn wsX8_fails wsX8_turn := goodIn_r _ [29, 30, 31, 11, 32, 33, 34, 35] (by decide +kernel) (by decide +kernel)
set_option maxRecDepth 20000 in
theorem gX8_fails_X8_turn : GoodIn wsX8_fails (va_wsS RX8 109 yX8_turn wsX8_turn) := goodIn_app (goodIn_of _ (by decide +kernel)) ggX8_fails_X8_turn
set_option maxRecDepth 20000 in
theorem ggX8_whyNot_X8_fails : GoodIn wsX8_whyNot wsX8_fails := goodIn_r _ [7, 8, 9, 10, 11, 12, 13, 1, 14, 15, 16, 6, 17, 18, 19, 20, 21, 22, 23, 24, 25, 26, 27, 28, 29, 30, 31, 32, 33, 34, 35, 36, 37, 38, 39, 40, 41, 42, 43, 44, 45, 46, 47, 48, 49, 50, 51, 52, 53, 54, 55, 56, 57, 58, 59, 60, 61, 62, 63, 64, 65, 66, 67, 68, 69, 70, 71, 72, 73, 74, 75, 76, 77, 78, 79, 80, 81, 82, 83] (by decide +kernel) (by decide +kernel)
set_option maxRecDepth 20000 in
theorem gX8_whyNot_X8_fails : GoodIn wsX8_whyNot (wsV RX8 135 RX8 yX8_fails wsX8_fails) := goodIn_app (goodIn_of _ (by decide +kernel)) ggX8_whyNot_X8_fails
set_option maxRecDepth 20000 in
theorem ggX8_gives_X8_isCamera : GoodIn wsX8_gives wsX8_isCamera := goodIn_r _ [5, 6, 7, 8, 4, 9, 72, 73, 74, 75, 76, 77, 78, 79, 80, 81, 82, 83, 84, 85, 86, 87, 88, 89, 90, 91, 92, 93, 94, 95, 96, 97] (by decide +kernel) (by decide +kernel)
set_option maxRecDepth 20000 in
theorem gX8_gives_X8_isCamera : GoodIn wsX8_gives (wsV RX8 126 RX8 yX8_isCamera wsX8_isCamera) := goodIn_app (goodIn_of _ (by decide +kernel)) ggX8_gives_X8_isCamera
set_option maxRecDepth 20000 in
theorem ggX8_gives_X8_isBoard : GoodIn wsX8_gives wsX8_isBoard := goodIn_r _ [13, 14, 7, 8, 4, 9, 72, 73, 74, 75, 76, 77, 78, 79, 80, 81, 82, 83, 84, 85, 86, 87, 88, 89, 90, 91, 92, 93, 94, 95, 96, 97] (by decide +kernel) (by decide +kernel)
set_option maxRecDepth 20000 in
theorem gX8_gives_X8_isBoard : GoodIn wsX8_gives (wsV RX8 138 RX8 yX8_isBoard wsX8_isBoard) := goodIn_app (goodIn_of _ (by decide +kernel)) ggX8_gives_X8_isBoard
set_option maxRecDepth 20000 in
theorem ggX8_gives_X8_whyNot : GoodIn wsX8_gives wsX8_whyNot := goodIn_r _ [18, 19, 20, 21, 22, 23, 4, 24, 25, 26, 27, 28, 29, 30, 31, 32, 33, 34, 35, 36, 37, 38, 39, 40, 41, 42, 43, 44, 45, 46, 47, 48, 49, 50, 51, 52, 53, 54, 55, 56, 57, 58, 59, 60, 61, 62, 63, 7, 8, 9, 64, 65, 66, 67, 68, 69, 70, 71, 72, 73, 74, 75, 76, 77, 78, 79, 80, 81, 82, 83, 84, 85, 86, 87, 88, 89, 90, 91, 92, 93, 94, 95, 96, 97] (by decide +kernel) (by decide +kernel)
set_option maxRecDepth 20000 in
theorem gX8_gives_X8_whyNot : GoodIn wsX8_gives (wsV RX8 141 RX8 yX8_whyNot wsX8_whyNot) := goodIn_app (goodIn_of _ (by decide +kernel)) ggX8_gives_X8_whyNot
set_option maxRecDepth 20000 in
theorem ggX8_why_X8_isCamera : GoodIn wsX8_why wsX8_isCamera := goodIn_r _ [5, 6, 7, 8, 4, 9, 72, 73, 74, 75, 76, 77, 78, 79, 80, 81, 82, 83, 84, 85, 86, 87, 88, 89, 90, 91, 92, 93, 94, 95, 96, 97] (by decide +kernel) (by decide +kernel)
set_option maxRecDepth 20000 in
theorem gX8_why_X8_isCamera : GoodIn wsX8_why (wsV RX8 126 RX8 yX8_isCamera wsX8_isCamera) := goodIn_app (goodIn_of _ (by decide +kernel)) ggX8_why_X8_isCamera
set_option maxRecDepth 20000 in
theorem ggX8_why_X8_isBoard : GoodIn wsX8_why wsX8_isBoard := goodIn_r _ [13, 14, 7, 8, 4, 9, 72, 73, 74, 75, 76, 77, 78, 79, 80, 81, 82, 83, 84, 85, 86, 87, 88, 89, 90, 91, 92, 93, 94, 95, 96, 97] (by decide +kernel) (by decide +kernel)
set_option maxRecDepth 20000 in
theorem gX8_why_X8_isBoard : GoodIn wsX8_why (wsV RX8 138 RX8 yX8_isBoard wsX8_isBoard) := goodIn_app (goodIn_of _ (by decide +kernel)) ggX8_why_X8_isBoard
set_option maxRecDepth 20000 in
theorem ggX8_why_X8_whyNot : GoodIn wsX8_why wsX8_whyNot := goodIn_r _ [18, 19, 20, 21, 22, 23, 4, 24, 25, 26, 27, 28, 29, 30, 31, 32, 33, 34, 35, 36, 37, 38, 39, 40, 41, 42, 43, 44, 45, 46, 47, 48, 49, 50, 51, 52, 53, 54, 55, 56, 57, 58, 59, 60, 61, 62, 63, 7, 8, 9, 64, 65, 66, 67, 68, 69, 70, 71, 72, 73, 74, 75, 76, 77, 78, 79, 80, 81, 82, 83, 84, 85, 86, 87, 88, 89, 90, 91, 92, 93, 94, 95, 96, 97] (by decide +kernel) (by decide +kernel)
set_option maxRecDepth 20000 in
theorem gX8_why_X8_whyNot : GoodIn wsX8_why (wsV RX8 141 RX8 yX8_whyNot wsX8_whyNot) := goodIn_app (goodIn_of _ (by decide +kernel)) ggX8_why_X8_whyNot
set_option maxRecDepth 20000 in
theorem ggX8_sideOf_X8_placeOf : GoodIn wsX8_sideOf wsX8_placeOf := goodIn_r _ [7, 8, 9, 10, 11, 21, 22, 23, 24, 25, 26, 27, 28, 29, 30, 31, 32, 33, 34, 35, 36, 37, 38, 39, 40, 41, 42, 43, 44, 45, 46] (by decide +kernel) (by decide +kernel)
set_option maxRecDepth 20000 in
theorem gX8_sideOf_X8_placeOf : GoodIn wsX8_sideOf (wsV RX8 98 RX8 yX8_placeOf wsX8_placeOf) := goodIn_app (goodIn_of _ (by decide +kernel)) ggX8_sideOf_X8_placeOf
set_option maxRecDepth 20000 in
theorem ggX8_sideOf_X8_turn : GoodIn wsX8_sideOf wsX8_turn := goodIn_r _ [14, 15, 16, 6, 17, 18, 19, 20] (by decide +kernel) (by decide +kernel)
set_option maxRecDepth 20000 in
theorem gX8_sideOf_X8_turn : GoodIn wsX8_sideOf (va_wsS RX8 109 yX8_turn wsX8_turn) := goodIn_app (goodIn_of _ (by decide +kernel)) ggX8_sideOf_X8_turn
set_option maxRecDepth 20000 in
theorem ggX8_side_X8_isCamera : GoodIn wsX8_side wsX8_isCamera := goodIn_r _ [7, 8, 9, 10, 6, 11, 45, 46, 47, 48, 49, 50, 51, 52, 53, 54, 55, 56, 57, 58, 59, 60, 61, 62, 63, 64, 65, 66, 67, 68, 69, 70] (by decide +kernel) (by decide +kernel)
set_option maxRecDepth 20000 in
theorem gX8_side_X8_isCamera : GoodIn wsX8_side (wsV RX8 126 RX8 yX8_isCamera wsX8_isCamera) := goodIn_app (goodIn_of _ (by decide +kernel)) ggX8_side_X8_isCamera
set_option maxRecDepth 20000 in
theorem ggX8_side_X8_isBoard : GoodIn wsX8_side wsX8_isBoard := goodIn_r _ [15, 16, 9, 10, 6, 11, 45, 46, 47, 48, 49, 50, 51, 52, 53, 54, 55, 56, 57, 58, 59, 60, 61, 62, 63, 64, 65, 66, 67, 68, 69, 70] (by decide +kernel) (by decide +kernel)
set_option maxRecDepth 20000 in
theorem gX8_side_X8_isBoard : GoodIn wsX8_side (wsV RX8 138 RX8 yX8_isBoard wsX8_isBoard) := goodIn_app (goodIn_of _ (by decide +kernel)) ggX8_side_X8_isBoard
set_option maxRecDepth 20000 in
theorem ggX8_side_X8_other : GoodIn wsX8_side wsX8_other := goodIn_r _ [20, 2, 21, 45, 46, 47, 48, 49, 50, 51, 52, 53, 54, 55, 56, 57, 58, 59, 60, 61, 62, 63, 64, 65, 66, 67, 68, 69, 70] (by decide +kernel) (by decide +kernel)
set_option maxRecDepth 20000 in
theorem gX8_side_X8_other : GoodIn wsX8_side (wsV RX8 144 RX8 yX8_other wsX8_other) := goodIn_app (goodIn_of _ (by decide +kernel)) ggX8_side_X8_other
set_option maxRecDepth 20000 in
theorem ggX8_side_X8_sideOf : GoodIn wsX8_side wsX8_sideOf := goodIn_r _ [25, 26, 27, 28, 29, 30, 6, 31, 32, 33, 34, 35, 36, 37, 38, 39, 40, 41, 42, 43, 44, 45, 46, 47, 48, 49, 50, 51, 52, 53, 54, 55, 56, 57, 58, 59, 60, 61, 62, 63, 64, 65, 66, 67, 68, 69, 70] (by decide +kernel) (by decide +kernel)
set_option maxRecDepth 20000 in
theorem gX8_side_X8_sideOf : GoodIn wsX8_side (wsV RX8 147 RX8 yX8_sideOf wsX8_sideOf) := goodIn_app (goodIn_of _ (by decide +kernel)) ggX8_side_X8_sideOf
set_option maxRecDepth 20000 in
theorem ggX8_length_X8_isBoard : GoodIn wsX8_length wsX8_isBoard := goodIn_r _ [5, 6, 7, 8, 4, 9, 18, 19, 20, 21, 22, 23, 24, 25, 26, 27, 28, 29, 30, 31, 32, 33, 34, 35, 36, 37, 38, 39, 40, 41, 42, 43] (by decide +kernel) (by decide +kernel)
set_option maxRecDepth 20000 in
theorem gX8_length_X8_isBoard : GoodIn wsX8_length (wsV RX8 138 RX8 yX8_isBoard wsX8_isBoard) := goodIn_app (goodIn_of _ (by decide +kernel)) ggX8_length_X8_isBoard
set_option maxRecDepth 20000 in
theorem ggX8_length_X8_lengthOf : GoodIn wsX8_length wsX8_lengthOf := goodIn_r _ [13, 14, 15, 16, 17, 18, 19, 20, 21, 22, 23, 24, 25, 26, 27, 28, 29, 30, 31, 32, 33, 34, 35, 36, 37, 38, 39, 40, 41, 42, 43] (by decide +kernel) (by decide +kernel)
set_option maxRecDepth 20000 in
theorem gX8_length_X8_lengthOf : GoodIn wsX8_length (wsV RX8 151 RX8 yX8_lengthOf wsX8_lengthOf) := goodIn_app (goodIn_of _ (by decide +kernel)) ggX8_length_X8_lengthOf
set_option maxRecDepth 20000 in
theorem ggX8_crosses_X8_other : GoodIn wsX8_crosses wsX8_other := goodIn_r _ [6, 1, 7, 31, 32, 33, 34, 35, 36, 37, 38, 39, 40, 41, 42, 43, 44, 45, 46, 47, 48, 49, 50, 51, 52, 53, 54, 55, 56] (by decide +kernel) (by decide +kernel)
set_option maxRecDepth 20000 in
theorem gX8_crosses_X8_other : GoodIn wsX8_crosses (wsV RX8 144 RX8 yX8_other wsX8_other) := goodIn_app (goodIn_of _ (by decide +kernel)) ggX8_crosses_X8_other
set_option maxRecDepth 20000 in
theorem ggX8_crosses_X8_sideOf : GoodIn wsX8_crosses wsX8_sideOf := goodIn_r _ [11, 12, 13, 14, 15, 16, 5, 17, 18, 19, 20, 21, 22, 23, 24, 25, 26, 27, 28, 29, 30, 31, 32, 33, 34, 35, 36, 37, 38, 39, 40, 41, 42, 43, 44, 45, 46, 47, 48, 49, 50, 51, 52, 53, 54, 55, 56] (by decide +kernel) (by decide +kernel)
set_option maxRecDepth 20000 in
theorem gX8_crosses_X8_sideOf : GoodIn wsX8_crosses (wsV RX8 147 RX8 yX8_sideOf wsX8_sideOf) := goodIn_app (goodIn_of _ (by decide +kernel)) ggX8_crosses_X8_sideOf
set_option maxRecDepth 20000 in
theorem ggX8_goes_X8_twoAhead : GoodIn wsX8_goes wsX8_twoAhead := goodIn_r _ [8, 2, 42, 43, 44, 45, 46, 47, 48, 49, 50, 51, 52, 53, 54, 55, 56, 57, 58, 59, 60, 61, 62, 63, 64, 65, 66, 67] (by decide +kernel) (by decide +kernel)
set_option maxRecDepth 20000 in
theorem gX8_goes_X8_twoAhead : GoodIn wsX8_goes (wsV RX8 154 RX8 yX8_twoAhead wsX8_twoAhead) := goodIn_app (goodIn_of _ (by decide +kernel)) ggX8_goes_X8_twoAhead
set_option maxRecDepth 20000 in
theorem ggX8_goes_X8_crosses : GoodIn wsX8_goes wsX8_crosses := goodIn_r _ [12, 13, 14, 15, 16, 7, 17, 18, 19, 20, 21, 22, 23, 24, 25, 26, 27, 28, 29, 30, 31, 32, 33, 34, 35, 36, 37, 38, 39, 40, 41, 42, 43, 44, 45, 46, 47, 48, 49, 50, 51, 52, 53, 54, 55, 56, 57, 58, 59, 60, 61, 62, 63, 64, 65, 66, 67] (by decide +kernel) (by decide +kernel)
set_option maxRecDepth 20000 in
theorem gX8_goes_X8_crosses : GoodIn wsX8_goes (wsV RX8 157 RX8 yX8_crosses wsX8_crosses) := goodIn_app (goodIn_of _ (by decide +kernel)) ggX8_goes_X8_crosses
set_option maxRecDepth 20000 in
theorem ggX8_plans_X8_goes : GoodIn wsX8_plans wsX8_goes := goodIn_r _ [10, 11, 5, 2, 12, 13, 14, 9, 15, 16, 17, 18, 19, 20, 21, 22, 23, 24, 25, 26, 27, 28, 29, 30, 31, 32, 33, 34, 35, 36, 37, 38, 39, 40, 41, 42, 43, 44, 45, 46, 47, 48, 49, 50, 51, 52, 53, 54, 55, 56, 57, 58, 59, 60, 61, 62, 63, 64, 65, 66, 67, 68, 69, 70, 71, 72, 73, 74] (by decide +kernel) (by decide +kernel)
set_option maxRecDepth 20000 in
theorem gX8_plans_X8_goes : GoodIn wsX8_plans (wsV RX8 160 RX8 yX8_goes wsX8_goes) := goodIn_app (goodIn_of _ (by decide +kernel)) ggX8_plans_X8_goes
set_option maxRecDepth 20000 in
theorem ggX8_finds_X8_whyNot : GoodIn wsX8_finds wsX8_whyNot := goodIn_r _ [9, 10, 11, 12, 13, 14, 8, 15, 16, 17, 18, 19, 20, 21, 22, 23, 24, 25, 26, 27, 28, 29, 30, 31, 32, 33, 34, 35, 36, 37, 38, 39, 40, 41, 42, 43, 44, 45, 46, 47, 48, 49, 50, 51, 52, 53, 54, 55, 56, 57, 58, 59, 60, 61, 62, 63, 64, 65, 95, 96, 97, 98, 99, 100, 101, 102, 103, 104, 105, 106, 107, 108, 109, 110, 111, 112, 113, 114, 115, 116, 117, 118, 119, 120] (by decide +kernel) (by decide +kernel)
set_option maxRecDepth 20000 in
theorem gX8_finds_X8_whyNot : GoodIn wsX8_finds (wsV RX8 141 RX8 yX8_whyNot wsX8_whyNot) := goodIn_app (goodIn_of _ (by decide +kernel)) ggX8_finds_X8_whyNot
set_option maxRecDepth 20000 in
theorem ggX8_finds_X8_bits : GoodIn wsX8_finds wsX8_bits := goodIn_r _ [68] (by decide +kernel) (by decide +kernel)
set_option maxRecDepth 20000 in
theorem gX8_finds_X8_bits : GoodIn wsX8_finds (va_wsS RX8 163 yX8_bits wsX8_bits) := goodIn_app (goodIn_of _ (by decide +kernel)) ggX8_finds_X8_bits
set_option maxRecDepth 20000 in
theorem ggX8_finds_X8_plans : GoodIn wsX8_finds wsX8_plans := goodIn_r _ [72, 2, 73, 1, 74, 21, 75, 76, 77, 8, 78, 3, 79, 80, 81, 82, 83, 84, 85, 86, 16, 87, 88, 89, 90, 18, 91, 92, 93, 94, 10, 19, 29, 30, 31, 32, 33, 34, 35, 36, 40, 41, 42, 43, 44, 45, 46, 47, 48, 95, 96, 97, 98, 99, 100, 101, 102, 103, 104, 105, 106, 107, 108, 109, 110, 111, 112, 113, 114, 115, 116, 117, 118, 119, 120] (by decide +kernel) (by decide +kernel)
set_option maxRecDepth 20000 in
theorem gX8_finds_X8_plans : GoodIn wsX8_finds (wsV RX8 166 RX8 yX8_plans wsX8_plans) := goodIn_app (goodIn_of _ (by decide +kernel)) ggX8_finds_X8_plans
set_option maxRecDepth 20000 in
theorem ggX8_fewest_X8_finds : GoodIn wsX8_fewest wsX8_finds := goodIn_r _ [5, 6, 7, 8, 9, 10, 11, 12, 4, 13, 14, 15, 16, 17, 18, 19, 20, 21, 22, 23, 24, 25, 26, 27, 28, 29, 30, 31, 32, 33, 34, 35, 36, 37, 38, 39, 40, 41, 42, 43, 44, 45, 46, 47, 48, 49, 50, 51, 52, 53, 54, 55, 56, 57, 58, 59, 60, 61, 62, 63, 64, 65, 66, 67, 68, 69, 70, 71, 72, 73, 74, 75, 76, 77, 78, 79, 80, 81, 82, 83, 84, 85, 86, 87, 88, 89, 90, 91, 92, 93, 94, 95, 96, 97, 98, 99, 100, 101, 102, 103, 104, 105, 106, 107, 108, 109, 110, 111, 112, 113, 114, 115, 116, 117, 118, 119, 120, 121, 122, 123, 124] (by decide +kernel) (by decide +kernel)
set_option maxRecDepth 20000 in
theorem gX8_fewest_X8_finds : GoodIn wsX8_fewest (wsV RX8 172 RX8 yX8_finds wsX8_finds) := goodIn_app (goodIn_of _ (by decide +kernel)) ggX8_fewest_X8_finds
set_option maxRecDepth 20000 in
theorem ggX8_plan_X8_isBoard : GoodIn wsX8_plan wsX8_isBoard := goodIn_r _ [6, 7, 8, 9, 5, 10, 103, 104, 105, 106, 107, 108, 109, 110, 111, 112, 113, 114, 115, 116, 117, 118, 119, 120, 121, 122, 123, 124, 125, 126, 127, 128] (by decide +kernel) (by decide +kernel)
set_option maxRecDepth 20000 in
theorem gX8_plan_X8_isBoard : GoodIn wsX8_plan (wsV RX8 138 RX8 yX8_isBoard wsX8_isBoard) := goodIn_app (goodIn_of _ (by decide +kernel)) ggX8_plan_X8_isBoard
set_option maxRecDepth 20000 in
theorem ggX8_plan_X8_finds : GoodIn wsX8_plan wsX8_finds := goodIn_r _ [14, 15, 7, 16, 17, 18, 19, 20, 5, 21, 22, 23, 24, 25, 26, 27, 28, 29, 30, 31, 32, 33, 34, 35, 36, 37, 38, 39, 40, 41, 42, 43, 44, 45, 46, 47, 48, 49, 50, 51, 52, 53, 54, 55, 56, 57, 58, 59, 60, 61, 62, 63, 64, 65, 66, 8, 9, 10, 67, 68, 69, 70, 71, 72, 73, 74, 75, 76, 77, 78, 79, 80, 81, 82, 1, 83, 84, 85, 86, 87, 88, 89, 90, 91, 92, 93, 94, 95, 96, 97, 98, 99, 100, 101, 102, 103, 104, 105, 106, 107, 108, 109, 110, 111, 112, 113, 114, 115, 116, 117, 118, 119, 120, 121, 122, 123, 124, 125, 126, 127, 128] (by decide +kernel) (by decide +kernel)
set_option maxRecDepth 20000 in
theorem gX8_plan_X8_finds : GoodIn wsX8_plan (wsV RX8 172 RX8 yX8_finds wsX8_finds) := goodIn_app (goodIn_of _ (by decide +kernel)) ggX8_plan_X8_finds
set_option maxRecDepth 20000 in
theorem ggX8_swings_X8_finds : GoodIn wsX8_swings wsX8_finds := goodIn_r _ [8, 9, 1, 10, 11, 12, 13, 14, 7, 15, 16, 17, 18, 19, 20, 21, 22, 23, 24, 25, 26, 27, 28, 29, 30, 31, 32, 33, 34, 35, 36, 37, 38, 39, 40, 41, 42, 43, 44, 45, 46, 47, 48, 49, 50, 51, 52, 53, 54, 55, 56, 57, 58, 59, 60, 61, 62, 63, 64, 65, 66, 67, 68, 69, 70, 71, 72, 73, 74, 75, 76, 77, 78, 79, 3, 80, 81, 82, 83, 84, 85, 86, 87, 88, 89, 90, 91, 92, 93, 94, 95, 96, 97, 98, 99, 100, 101, 102, 103, 104, 105, 106, 107, 108, 109, 110, 111, 112, 113, 114, 115, 116, 117, 118, 119, 120, 121, 122, 123, 124, 125] (by decide +kernel) (by decide +kernel)
set_option maxRecDepth 20000 in
theorem gX8_swings_X8_finds : GoodIn wsX8_swings (wsV RX8 172 RX8 yX8_finds wsX8_finds) := goodIn_app (goodIn_of _ (by decide +kernel)) ggX8_swings_X8_finds
set_option maxRecDepth 20000 in
theorem ggX8_order_X8_finds : GoodIn wsX8_order wsX8_finds := goodIn_r _ [7, 8, 9, 10, 1, 11, 12, 13, 6, 14, 15, 16, 17, 18, 19, 20, 21, 22, 23, 24, 25, 26, 27, 28, 29, 30, 31, 32, 33, 34, 35, 36, 37, 38, 39, 40, 41, 42, 43, 44, 45, 46, 47, 48, 49, 50, 51, 52, 53, 54, 55, 56, 57, 58, 59, 60, 61, 62, 63, 64, 65, 66, 67, 68, 69, 70, 71, 72, 73, 74, 75, 76, 77, 78, 79, 80, 81, 82, 83, 84, 85, 86, 87, 88, 89, 90, 91, 92, 93, 94, 95, 96, 97, 98, 99, 104, 105, 106, 107, 108, 109, 110, 111, 112, 113, 114, 115, 116, 117, 118, 119, 120, 121, 122, 123, 124, 125, 126, 127, 128, 129] (by decide +kernel) (by decide +kernel)
set_option maxRecDepth 20000 in
theorem gX8_order_X8_finds : GoodIn wsX8_order (wsV RX8 172 RX8 yX8_finds wsX8_finds) := goodIn_app (goodIn_of _ (by decide +kernel)) ggX8_order_X8_finds
set_option maxRecDepth 20000 in
theorem ggX8_order_X8_in : GoodIn wsX8_order wsX8_in := goodIn_r _ [62] (by decide +kernel) (by decide +kernel)
set_option maxRecDepth 20000 in
theorem gX8_order_X8_in : GoodIn wsX8_order (va_wsS RX8 75 yX8_in wsX8_in) := goodIn_app (goodIn_of _ (by decide +kernel)) ggX8_order_X8_in
set_option maxRecDepth 20000 in
theorem ggX8_order_X8_changes : GoodIn wsX8_order wsX8_changes := goodIn_r _ [103, 8, 2, 104, 105, 106, 107, 108, 109, 110, 111, 112, 113, 114, 115, 116, 117, 118, 119, 120, 121, 122, 123, 124, 125, 126, 127, 128, 129] (by decide +kernel) (by decide +kernel)
set_option maxRecDepth 20000 in
theorem gX8_order_X8_changes : GoodIn wsX8_order (wsV RX8 176 RX8 yX8_changes wsX8_changes) := goodIn_app (goodIn_of _ (by decide +kernel)) ggX8_order_X8_changes
set_option maxRecDepth 20000 in
theorem ggX8_crossings_X8_whyNot : GoodIn wsX8_crossings wsX8_whyNot := goodIn_r _ [9, 10, 11, 12, 13, 14, 8, 15, 16, 17, 18, 19, 20, 4, 21, 22, 23, 24, 25, 26, 27, 28, 29, 30, 31, 32, 33, 34, 35, 36, 37, 38, 39, 40, 41, 42, 43, 44, 45, 46, 47, 48, 49, 50, 51, 52, 53, 54, 55, 56, 57, 58, 59, 60, 61, 62, 63, 64, 81, 82, 83, 84, 85, 86, 87, 88, 89, 90, 91, 92, 93, 94, 95, 96, 97, 98, 99, 100, 101, 102, 103, 104, 105, 106] (by decide +kernel) (by decide +kernel)
set_option maxRecDepth 20000 in
theorem gX8_crossings_X8_whyNot : GoodIn wsX8_crossings (wsV RX8 141 RX8 yX8_whyNot wsX8_whyNot) := goodIn_app (goodIn_of _ (by decide +kernel)) ggX8_crossings_X8_whyNot
set_option maxRecDepth 20000 in
theorem ggX8_crossings_X8_twoAhead : GoodIn wsX8_crossings wsX8_twoAhead := goodIn_r _ [68, 4, 81, 82, 83, 84, 85, 86, 87, 88, 89, 90, 91, 92, 93, 94, 95, 96, 97, 98, 99, 100, 101, 102, 103, 104, 105, 106] (by decide +kernel) (by decide +kernel)
set_option maxRecDepth 20000 in
theorem gX8_crossings_X8_twoAhead : GoodIn wsX8_crossings (wsV RX8 154 RX8 yX8_twoAhead wsX8_twoAhead) := goodIn_app (goodIn_of _ (by decide +kernel)) ggX8_crossings_X8_twoAhead
set_option maxRecDepth 20000 in
theorem ggX8_crossings_X8_crosses : GoodIn wsX8_crossings wsX8_crosses := goodIn_r _ [72, 16, 73, 74, 75, 8, 76, 18, 77, 78, 79, 80, 10, 19, 28, 29, 30, 31, 32, 33, 34, 35, 39, 40, 41, 42, 43, 44, 45, 46, 47, 81, 82, 83, 84, 85, 86, 87, 88, 89, 90, 91, 92, 93, 94, 95, 96, 97, 98, 99, 100, 101, 102, 103, 104, 105, 106] (by decide +kernel) (by decide +kernel)
set_option maxRecDepth 20000 in
theorem gX8_crossings_X8_crosses : GoodIn wsX8_crossings (wsV RX8 157 RX8 yX8_crosses wsX8_crosses) := goodIn_app (goodIn_of _ (by decide +kernel)) ggX8_crossings_X8_crosses
set_option maxRecDepth 20000 in
theorem ggX8_list_X8_isCamera : GoodIn wsX8_list wsX8_isCamera := goodIn_r _ [7, 8, 9, 10, 6, 11, 12, 13, 14, 15, 16, 17, 18, 19, 20, 21, 22, 23, 24, 25, 26, 27, 28, 29, 30, 31, 32, 33, 34, 35, 36, 37] (by decide +kernel) (by decide +kernel)
set_option maxRecDepth 20000 in
theorem gX8_list_X8_isCamera : GoodIn wsX8_list (wsV RX8 126 RX8 yX8_isCamera wsX8_isCamera) := goodIn_app (goodIn_of _ (by decide +kernel)) ggX8_list_X8_isCamera
set_option maxRecDepth 20000 in
theorem ggX8_all_X8_lengthOf : GoodIn wsX8_all wsX8_lengthOf := goodIn_r _ [6, 7, 8, 9, 10, 11, 12, 13, 14, 15, 16, 17, 18, 19, 20, 21, 22, 23, 24, 25, 26, 27, 28, 29, 30, 31, 32, 33, 34, 35, 36] (by decide +kernel) (by decide +kernel)
set_option maxRecDepth 20000 in
theorem gX8_all_X8_lengthOf : GoodIn wsX8_all (wsV RX8 151 RX8 yX8_lengthOf wsX8_lengthOf) := goodIn_app (goodIn_of _ (by decide +kernel)) ggX8_all_X8_lengthOf
set_option maxRecDepth 20000 in
theorem ggX8_run_X8_all : GoodIn wsX8_run wsX8_all := goodIn_r _ [5, 6, 7, 8, 9, 4, 10, 11, 12, 13, 14, 15, 16, 17, 18, 19, 20, 21, 22, 23, 24, 25, 26, 27, 28, 29, 30, 31, 32, 33, 34, 35, 36, 37, 38, 39, 40] (by decide +kernel) (by decide +kernel)
set_option maxRecDepth 20000 in
theorem gX8_run_X8_all : GoodIn wsX8_run (wsV RX8 182 RX8 yX8_all wsX8_all) := goodIn_app (goodIn_of _ (by decide +kernel)) ggX8_run_X8_all
set_option maxRecDepth 20000 in
theorem ggX8_frame_X8_all : GoodIn wsX8_frame wsX8_all := goodIn_r _ [5, 6, 7, 8, 9, 4, 10, 11, 12, 13, 14, 18, 19, 20, 21, 22, 23, 24, 25, 26, 27, 28, 29, 30, 31, 32, 33, 34, 35, 36, 37, 38, 39, 40, 41, 42, 43] (by decide +kernel) (by decide +kernel)
set_option maxRecDepth 20000 in
theorem gX8_frame_X8_all : GoodIn wsX8_frame (wsV RX8 182 RX8 yX8_all wsX8_all) := goodIn_app (goodIn_of _ (by decide +kernel)) ggX8_frame_X8_all
set_option maxRecDepth 20000 in
theorem ggX8_frame_X8_in : GoodIn wsX8_frame wsX8_in := goodIn_r _ [17] (by decide +kernel) (by decide +kernel)
set_option maxRecDepth 20000 in
theorem gX8_frame_X8_in : GoodIn wsX8_frame (va_wsS RX8 75 yX8_in wsX8_in) := goodIn_app (goodIn_of _ (by decide +kernel)) ggX8_frame_X8_in
set_option maxRecDepth 20000 in
theorem ggX8_frame_X8_lengthOf : GoodIn wsX8_frame wsX8_lengthOf := goodIn_r _ [10, 11, 12, 13, 14, 18, 19, 20, 21, 22, 23, 24, 25, 26, 27, 28, 29, 30, 31, 32, 33, 34, 35, 36, 37, 38, 39, 40, 41, 42, 43] (by decide +kernel) (by decide +kernel)
set_option maxRecDepth 20000 in
theorem gX8_frame_X8_lengthOf : GoodIn wsX8_frame (wsV RX8 151 RX8 yX8_lengthOf wsX8_lengthOf) := goodIn_app (goodIn_of _ (by decide +kernel)) ggX8_frame_X8_lengthOf
end
section
/-! numbers: every int of the machine is iZ of an integer -/
def iZ (z : Int) : Int32 := Int32.ofInt z
theorem iZ_add (a b : Int) : iZ a + iZ b = iZ (a + b) := (Int32.ofInt_add a b).symm
theorem iZ_sub (a b : Int) : iZ a - iZ b = iZ (a - b) := (Int32.ofInt_sub a b).symm
theorem iZ_mul (a b : Int) : iZ a * iZ b = iZ (a * b) := (Int32.ofInt_mul a b).symm
theorem iZ_neg (a : Int) : -iZ a = iZ (-a) := (Int32.ofInt_neg a).symm
theorem iZ_self (x : Int32) : iZ x.toInt = x := Int32.ofInt_toInt x
abbrev rg (z : Int) : Prop := -2147483648 ≤ z ∧ z < 2147483648
theorem rg_of (x : Int32) : rg x.toInt := by
  have h1 := Int32.le_toInt x
  have h2 := Int32.toInt_lt x
  omega
theorem iZ_t {z : Int} (h : rg z) : (iZ z).toInt = z := Int32.toInt_ofInt_of_le (by omega) (by omega)
theorem iZ_lt {a b : Int} (ha : rg a) (hb : rg b) : iZ a < iZ b ↔ a < b := by rw [Int32.lt_iff_toInt_lt, iZ_t ha, iZ_t hb]
theorem iZ_le {a b : Int} (ha : rg a) (hb : rg b) : iZ a ≤ iZ b ↔ a ≤ b := by rw [Int32.le_iff_toInt_le, iZ_t ha, iZ_t hb]
theorem iZ_eq {a b : Int} (ha : rg a) (hb : rg b) : iZ a = iZ b ↔ a = b := by rw [← Int32.toInt_inj, iZ_t ha, iZ_t hb]
theorem iZ_0 : iZ 0 = 0 := by decide +kernel
theorem iZ_nI (n : Nat) : iZ (n : Int) = nI n := Int32.ofInt_eq_ofNat
theorem iZ_clamp {z : Int} (h0 : 0 ≤ z) (h1 : z < 2147483648) : (iZ z).toNatClampNeg = z.toNat := by
  obtain ⟨n, rfl⟩ := Int.eq_ofNat_of_zero_le h0
  rw [iZ_nI, nI_clamp (by omega)]
  rfl
theorem iZ_in {z : Int} {n : Nat} (h0 : 0 ≤ z) (h1 : z < n) (h2 : z < 2147483648) : vp_in (iZ z) n := by
  rw [vp_in_iff, iZ_t (by omega)]
  exact ⟨h0, h1⟩
def iA (f : Int → Int) : Nat → Int32 := fun k => iZ (f (k : Int))
def uf (f : Int → Int) (i v : Int) : Int → Int := fun j => if j = i then v else f j
theorem uf_s (f : Int → Int) (i v : Int) : uf f i v i = v := if_pos rfl
theorem uf_n (f : Int → Int) {i j : Int} (v : Int) (h : j ≠ i) : uf f i v j = f j := if_neg h
theorem iA_at (f : Int → Int) {z : Int} (h0 : 0 ≤ z) (h1 : z < 2147483648) : iA f (iZ z).toNatClampNeg = iZ (f z) := by
  rw [iZ_clamp h0 h1]
  show iZ (f ((z.toNat : Nat) : Int)) = _
  rw [Int.toNat_of_nonneg h0]
theorem iA_up (f : Int → Int) {z : Int} (v : Int) (h0 : 0 ≤ z) (h1 : z < 2147483648) : upd (iA f) (iZ z).toNatClampNeg (iZ v) = iA (uf f z v) := by
  funext k
  rw [iZ_clamp h0 h1]
  by_cases h : k = z.toNat
  · subst h
    rw [pk_us]
    show _ = iZ (uf f z v ((z.toNat : Nat) : Int))
    rw [Int.toNat_of_nonneg h0, uf_s]
  · rw [pk_un h]
    show iZ (f (k : Int)) = iZ (uf f z v (k : Int))
    rw [uf_n f v (by omega)]
def lZ (z : Int) : Int64 := Int64.ofInt z
def lA (f : Int → Int) : Nat → Int64 := fun k => lZ (f (k : Int))
theorem lA_at (f : Int → Int) {z : Int} (h0 : 0 ≤ z) (h1 : z < 2147483648) : lA f (iZ z).toNatClampNeg = lZ (f z) := by
  rw [iZ_clamp h0 h1]
  show lZ (f ((z.toNat : Nat) : Int)) = _
  rw [Int.toNat_of_nonneg h0]
theorem lA_up (f : Int → Int) {z : Int} (v : Int) (h0 : 0 ≤ z) (h1 : z < 2147483648) : vp_updL (lA f) (iZ z).toNatClampNeg (lZ v) = lA (uf f z v) := by
  funext k
  rw [iZ_clamp h0 h1]
  by_cases h : k = z.toNat
  · subst h
    rw [pk_uLs]
    show _ = lZ (uf f z v ((z.toNat : Nat) : Int))
    rw [Int.toNat_of_nonneg h0, uf_s]
  · rw [pk_uLn h]
    show lZ (f (k : Int)) = lZ (uf f z v (k : Int))
    rw [uf_n f v (by omega)]
/-! a truth as a number -/
noncomputable def b2 (P : Prop) : Int := @ite Int P (Classical.propDecidable P) 1 0
theorem b2_t {P : Prop} (h : P) : b2 P = 1 := by unfold b2; exact if_pos h
theorem b2_f {P : Prop} (h : ¬ P) : b2 P = 0 := by unfold b2; exact if_neg h
theorem b2_01 (P : Prop) : b2 P = 0 ∨ b2 P = 1 := by
  rcases Classical.em P with h | h
  · exact Or.inr (b2_t h)
  · exact Or.inl (b2_f h)
theorem b2_1 {P : Prop} (h : b2 P = 1) : P := Classical.byContradiction fun q => by rw [b2_f q] at h; cases h
theorem b2_n1 {P : Prop} (h : ¬ b2 P = 1) : ¬ P := fun q => h (b2_t q)
theorem b2_0 {P : Prop} (h : b2 P = 0) : ¬ P := fun q => by rw [b2_t q] at h; cases h
theorem b2_n0 {P : Prop} (h : ¬ b2 P = 0) : P := Classical.byContradiction fun q => h (b2_f q)
theorem b2_rg (P : Prop) : rg (b2 P) := by rcases b2_01 P with h | h <;> rw [h] <;> decide
theorem b2_iff {P P' : Prop} (h : P ↔ P') : b2 P = b2 P' := by rw [propext h]
theorem b2_pos {P : Prop} {v : Int} (h : P) (hv : v = 1) : v = b2 P := by rw [hv, b2_t h]
theorem b2_neg {P : Prop} {v : Int} (h : ¬ P) (hv : v = 0) : v = b2 P := by rw [hv, b2_f h]
/-! the machine's operators that are kept as they are, told over integers -/
def zand (a b : Int) : Int := (iZ a &&& iZ b).toInt
def zor (a b : Int) : Int := (iZ a ||| iZ b).toInt
def zxor (a b : Int) : Int := (iZ a ^^^ iZ b).toInt
def zshl (a b : Int) : Int := (iZ a <<< (iZ b &&& 31)).toInt
def zshr (a b : Int) : Int := (iZ a >>> (iZ b &&& 31)).toInt
def zushr (a b : Int) : Int := ((iZ a).toUInt32 >>> ((iZ b).toUInt32 &&& Int32.toUInt32 31)).toInt32.toInt
theorem iZ_tdiv {a b : Int} (ha : rg a) (hb : rg b) (h : 0 < b) : iZ a / iZ b = iZ (a.tdiv b) := by
  have h1 : (iZ b) ≠ -1 := fun e => by
    have h2 := congrArg Int32.toInt e
    rw [iZ_t hb] at h2
    have h3 : (-1 : Int32).toInt = -1 := by decide +kernel
    omega
  rw [← Int32.toInt_inj, Int32.toInt_div_of_ne_right _ _ h1, iZ_t ha, iZ_t hb]
  have h4 : rg (a.tdiv b) := by
    rcases Int.le_total 0 a with q | q
    · rw [Int.tdiv_eq_ediv_of_nonneg q]
      have h5 := Int.ediv_nonneg q (Int.le_of_lt h)
      have h6 := Int.ediv_le_self b q
      omega
    · have e : a = -(-a) := by omega
      rw [e, Int.neg_tdiv, Int.tdiv_eq_ediv_of_nonneg (by omega)]
      have h5 := Int.ediv_nonneg (a := -a) (by omega) (Int.le_of_lt h)
      have h6 := Int.ediv_le_self (a := -a) b (by omega)
      omega
  rw [iZ_t h4]
theorem iZ_div {a b : Int} (h0 : 0 ≤ a) (ha : rg a) (hb : rg b) (h : 0 < b) : iZ a / iZ b = iZ (a / b) := by
  rw [iZ_tdiv ha hb h, Int.tdiv_eq_ediv_of_nonneg h0]
theorem iZ_trem {a b : Int} (ha : rg a) (hb : rg b) (h : 0 < b) : iZ a - iZ a / iZ b * iZ b = iZ (a.tmod b) := by
  rw [iZ_tdiv ha hb h, iZ_mul, iZ_sub, Int.tmod_def, Int.mul_comm]
theorem iZ_rem {a b : Int} (h0 : 0 ≤ a) (ha : rg a) (hb : rg b) (h : 0 < b) : iZ a - iZ a / iZ b * iZ b = iZ (a % b) := by
  rw [iZ_trem ha hb h, Int.tmod_eq_emod_of_nonneg h0]
theorem rg_0 : rg 0 := by decide
section ZO
variable {p : Program} {l : Launch} {e : Env} {R : Room} {s : State} {m : MethodId} {args : Array Value} {below : List Frame} {meth : Method} {c : Code} {H : Heap} {locs : List Loc} {cells slots : Nat} {Q : State → Prop}
variable {cc : ByteArray} {pc : Nat} {ls : Array Slot} {rest : List Value}
theorem z_iconst (hx : p.tables.exec = Jvm.exec) (hb : c.code = cc) {n : Int} (hdg : decode cc pc = .ok (.iconst n, 1)) (k : W p l e R s m args below meth c H locs cells slots Q (F0 m (pc + 1) ls (.int (iZ n) :: rest))) : W p l e R s m args below meth c H locs cells slots Q (F0 m pc ls rest) := lv_iconst hx hb hdg rfl k
theorem z_bipush (hx : p.tables.exec = Jvm.exec) (hb : c.code = cc) {n : Int} (hdg : decode cc pc = .ok (.bipush n, 2)) (hv : (Int8.ofInt n).toInt32 = iZ n) (k : W p l e R s m args below meth c H locs cells slots Q (F0 m (pc + 2) ls (.int (iZ n) :: rest))) : W p l e R s m args below meth c H locs cells slots Q (F0 m pc ls rest) := lv_bipush hx hb hdg hv k
theorem z_sipush (hx : p.tables.exec = Jvm.exec) (hb : c.code = cc) {n : Int} (hdg : decode cc pc = .ok (.sipush n, 3)) (hv : (Int16.ofInt n).toInt32 = iZ n) (k : W p l e R s m args below meth c H locs cells slots Q (F0 m (pc + 3) ls (.int (iZ n) :: rest))) : W p l e R s m args below meth c H locs cells slots Q (F0 m pc ls rest) := lv_sipush hx hb hdg hv k
theorem z_iadd (hx : p.tables.exec = Jvm.exec) (hb : c.code = cc) {x y : Int} (hdg : decode cc pc = .ok (.iadd, 1)) (k : W p l e R s m args below meth c H locs cells slots Q (F0 m (pc + 1) ls (.int (iZ (x + y)) :: rest))) : W p l e R s m args below meth c H locs cells slots Q (F0 m pc ls (.int (iZ y) :: .int (iZ x) :: rest)) := lv_iadd hx hb hdg (by rw [iZ_add]; exact k)
theorem z_isub (hx : p.tables.exec = Jvm.exec) (hb : c.code = cc) {x y : Int} (hdg : decode cc pc = .ok (.isub, 1)) (k : W p l e R s m args below meth c H locs cells slots Q (F0 m (pc + 1) ls (.int (iZ (x - y)) :: rest))) : W p l e R s m args below meth c H locs cells slots Q (F0 m pc ls (.int (iZ y) :: .int (iZ x) :: rest)) := lv_isub hx hb hdg (by rw [iZ_sub]; exact k)
theorem z_imul (hx : p.tables.exec = Jvm.exec) (hb : c.code = cc) {x y : Int} (hdg : decode cc pc = .ok (.imul, 1)) (k : W p l e R s m args below meth c H locs cells slots Q (F0 m (pc + 1) ls (.int (iZ (x * y)) :: rest))) : W p l e R s m args below meth c H locs cells slots Q (F0 m pc ls (.int (iZ y) :: .int (iZ x) :: rest)) := lv_imul hx hb hdg (by rw [iZ_mul]; exact k)
theorem z_ineg (hx : p.tables.exec = Jvm.exec) (hb : c.code = cc) {x : Int} (hdg : decode cc pc = .ok (.ineg, 1)) (k : W p l e R s m args below meth c H locs cells slots Q (F0 m (pc + 1) ls (.int (iZ (-x)) :: rest))) : W p l e R s m args below meth c H locs cells slots Q (F0 m pc ls (.int (iZ x) :: rest)) := lv_ineg hx hb hdg (by rw [iZ_neg]; exact k)
theorem z_iand (hx : p.tables.exec = Jvm.exec) (hb : c.code = cc) {x y : Int} (hdg : decode cc pc = .ok (.iand, 1)) (k : W p l e R s m args below meth c H locs cells slots Q (F0 m (pc + 1) ls (.int (iZ (zand x y)) :: rest))) : W p l e R s m args below meth c H locs cells slots Q (F0 m pc ls (.int (iZ y) :: .int (iZ x) :: rest)) := lv_iand hx hb hdg (by unfold zand at k; rw [iZ_self] at k; exact k)
theorem z_ior (hx : p.tables.exec = Jvm.exec) (hb : c.code = cc) {x y : Int} (hdg : decode cc pc = .ok (.ior, 1)) (k : W p l e R s m args below meth c H locs cells slots Q (F0 m (pc + 1) ls (.int (iZ (zor x y)) :: rest))) : W p l e R s m args below meth c H locs cells slots Q (F0 m pc ls (.int (iZ y) :: .int (iZ x) :: rest)) := lv_ior hx hb hdg (by unfold zor at k; rw [iZ_self] at k; exact k)
theorem z_ixor (hx : p.tables.exec = Jvm.exec) (hb : c.code = cc) {x y : Int} (hdg : decode cc pc = .ok (.ixor, 1)) (k : W p l e R s m args below meth c H locs cells slots Q (F0 m (pc + 1) ls (.int (iZ (zxor x y)) :: rest))) : W p l e R s m args below meth c H locs cells slots Q (F0 m pc ls (.int (iZ y) :: .int (iZ x) :: rest)) := lv_ixor hx hb hdg (by unfold zxor at k; rw [iZ_self] at k; exact k)
theorem z_ishl (hx : p.tables.exec = Jvm.exec) (hb : c.code = cc) {x y : Int} (hdg : decode cc pc = .ok (.ishl, 1)) (k : W p l e R s m args below meth c H locs cells slots Q (F0 m (pc + 1) ls (.int (iZ (zshl x y)) :: rest))) : W p l e R s m args below meth c H locs cells slots Q (F0 m pc ls (.int (iZ y) :: .int (iZ x) :: rest)) := lv_ishl hx hb hdg (by unfold zshl at k; rw [iZ_self] at k; exact k)
theorem z_ishr (hx : p.tables.exec = Jvm.exec) (hb : c.code = cc) {x y : Int} (hdg : decode cc pc = .ok (.ishr, 1)) (k : W p l e R s m args below meth c H locs cells slots Q (F0 m (pc + 1) ls (.int (iZ (zshr x y)) :: rest))) : W p l e R s m args below meth c H locs cells slots Q (F0 m pc ls (.int (iZ y) :: .int (iZ x) :: rest)) := lv_ishr hx hb hdg (by unfold zshr at k; rw [iZ_self] at k; exact k)
theorem z_iushr (hx : p.tables.exec = Jvm.exec) (hb : c.code = cc) {x y : Int} (hdg : decode cc pc = .ok (.iushr, 1)) (k : W p l e R s m args below meth c H locs cells slots Q (F0 m (pc + 1) ls (.int (iZ (zushr x y)) :: rest))) : W p l e R s m args below meth c H locs cells slots Q (F0 m pc ls (.int (iZ y) :: .int (iZ x) :: rest)) := lv_iushr hx hb hdg (iZ_self _).symm k
theorem z_idiv (hx : p.tables.exec = Jvm.exec) (hb : c.code = cc) {x y : Int} (h0 : 0 ≤ x) (hx1 : rg x) (hy : rg y) (hy0 : 0 < y) (hdg : decode cc pc = .ok (.idiv, 1)) (k : W p l e R s m args below meth c H locs cells slots Q (F0 m (pc + 1) ls (.int (iZ (x / y)) :: rest))) : W p l e R s m args below meth c H locs cells slots Q (F0 m pc ls (.int (iZ y) :: .int (iZ x) :: rest)) :=
  lv_idiv hx hb hdg (fun q => by rw [← iZ_0, iZ_eq hy (by decide)] at q; omega) (by rw [iZ_div h0 hx1 hy hy0]; exact k)
theorem z_irem (hx : p.tables.exec = Jvm.exec) (hb : c.code = cc) {x y : Int} (h0 : 0 ≤ x) (hx1 : rg x) (hy : rg y) (hy0 : 0 < y) (hdg : decode cc pc = .ok (.irem, 1)) (k : W p l e R s m args below meth c H locs cells slots Q (F0 m (pc + 1) ls (.int (iZ (x % y)) :: rest))) : W p l e R s m args below meth c H locs cells slots Q (F0 m pc ls (.int (iZ y) :: .int (iZ x) :: rest)) :=
  lv_irem hx hb hdg (fun q => by rw [← iZ_0, iZ_eq hy (by decide)] at q; omega) (by rw [iZ_rem h0 hx1 hy hy0]; exact k)
theorem z_tdiv (hx : p.tables.exec = Jvm.exec) (hb : c.code = cc) {x y : Int} (hx1 : rg x) (hy : rg y) (hy0 : 0 < y) (hdg : decode cc pc = .ok (.idiv, 1)) (k : W p l e R s m args below meth c H locs cells slots Q (F0 m (pc + 1) ls (.int (iZ (x.tdiv y)) :: rest))) : W p l e R s m args below meth c H locs cells slots Q (F0 m pc ls (.int (iZ y) :: .int (iZ x) :: rest)) :=
  lv_idiv hx hb hdg (fun q => by rw [← iZ_0, iZ_eq hy (by decide)] at q; omega) (by rw [iZ_tdiv hx1 hy hy0]; exact k)
theorem z_trem (hx : p.tables.exec = Jvm.exec) (hb : c.code = cc) {x y : Int} (hx1 : rg x) (hy : rg y) (hy0 : 0 < y) (hdg : decode cc pc = .ok (.irem, 1)) (k : W p l e R s m args below meth c H locs cells slots Q (F0 m (pc + 1) ls (.int (iZ (x.tmod y)) :: rest))) : W p l e R s m args below meth c H locs cells slots Q (F0 m pc ls (.int (iZ y) :: .int (iZ x) :: rest)) :=
  lv_irem hx hb hdg (fun q => by rw [← iZ_0, iZ_eq hy (by decide)] at q; omega) (by rw [iZ_trem hx1 hy hy0]; exact k)
/-- a number on the stack under another name -/
theorem z_as {x y : Int} (h : x = y) (k : W p l e R s m args below meth c H locs cells slots Q (F0 m pc ls (.int (iZ y) :: rest))) : W p l e R s m args below meth c H locs cells slots Q (F0 m pc ls (.int (iZ x) :: rest)) := h ▸ k
theorem z_icmp_eq (hx : p.tables.exec = Jvm.exec) (hb : c.code = cc) {x y : Int} {off : Int} {tgt : Nat} (hx1 : rg x) (hy1 : rg y) (hdg : decode cc pc = .ok (.if_icmp .eq off, 3)) (ht : (pc : Int) + off = (tgt : Int)) (kt : x = y → W p l e R s m args below meth c H locs cells slots Q (F0 m tgt ls rest)) (kf : x ≠ y → W p l e R s m args below meth c H locs cells slots Q (F0 m (pc + 3) ls rest)) : W p l e R s m args below meth c H locs cells slots Q (F0 m pc ls (.int (iZ y) :: .int (iZ x) :: rest)) :=
  lv_icmp_eq hx hb hdg ht (fun q => kt ((iZ_eq hx1 hy1).mp q)) (fun q => kf (fun z => q ((iZ_eq hx1 hy1).mpr z)))
theorem z_if_eq (hx : p.tables.exec = Jvm.exec) (hb : c.code = cc) {x : Int} {off : Int} {tgt : Nat} (hx1 : rg x) (hdg : decode cc pc = .ok (.ifCond .eq off, 3)) (ht : (pc : Int) + off = (tgt : Int)) (kt : x = 0 → W p l e R s m args below meth c H locs cells slots Q (F0 m tgt ls rest)) (kf : x ≠ 0 → W p l e R s m args below meth c H locs cells slots Q (F0 m (pc + 3) ls rest)) : W p l e R s m args below meth c H locs cells slots Q (F0 m pc ls (.int (iZ x) :: rest)) :=
  lv_if_eq hx hb hdg ht (by rw [← iZ_0]; exact (fun q => kt ((iZ_eq hx1 rg_0).mp q))) (by rw [← iZ_0]; exact (fun q => kf (fun z => q ((iZ_eq hx1 rg_0).mpr z))))
theorem z_icmp_ne (hx : p.tables.exec = Jvm.exec) (hb : c.code = cc) {x y : Int} {off : Int} {tgt : Nat} (hx1 : rg x) (hy1 : rg y) (hdg : decode cc pc = .ok (.if_icmp .ne off, 3)) (ht : (pc : Int) + off = (tgt : Int)) (kt : x ≠ y → W p l e R s m args below meth c H locs cells slots Q (F0 m tgt ls rest)) (kf : x = y → W p l e R s m args below meth c H locs cells slots Q (F0 m (pc + 3) ls rest)) : W p l e R s m args below meth c H locs cells slots Q (F0 m pc ls (.int (iZ y) :: .int (iZ x) :: rest)) :=
  lv_icmp_ne hx hb hdg ht (fun q => kt (fun z => q ((iZ_eq hx1 hy1).mpr z))) (fun q => kf ((iZ_eq hx1 hy1).mp q))
theorem z_if_ne (hx : p.tables.exec = Jvm.exec) (hb : c.code = cc) {x : Int} {off : Int} {tgt : Nat} (hx1 : rg x) (hdg : decode cc pc = .ok (.ifCond .ne off, 3)) (ht : (pc : Int) + off = (tgt : Int)) (kt : x ≠ 0 → W p l e R s m args below meth c H locs cells slots Q (F0 m tgt ls rest)) (kf : x = 0 → W p l e R s m args below meth c H locs cells slots Q (F0 m (pc + 3) ls rest)) : W p l e R s m args below meth c H locs cells slots Q (F0 m pc ls (.int (iZ x) :: rest)) :=
  lv_if_ne hx hb hdg ht (by rw [← iZ_0]; exact (fun q => kt (fun z => q ((iZ_eq hx1 rg_0).mpr z)))) (by rw [← iZ_0]; exact (fun q => kf ((iZ_eq hx1 rg_0).mp q)))
theorem z_icmp_lt (hx : p.tables.exec = Jvm.exec) (hb : c.code = cc) {x y : Int} {off : Int} {tgt : Nat} (hx1 : rg x) (hy1 : rg y) (hdg : decode cc pc = .ok (.if_icmp .lt off, 3)) (ht : (pc : Int) + off = (tgt : Int)) (kt : x < y → W p l e R s m args below meth c H locs cells slots Q (F0 m tgt ls rest)) (kf : y ≤ x → W p l e R s m args below meth c H locs cells slots Q (F0 m (pc + 3) ls rest)) : W p l e R s m args below meth c H locs cells slots Q (F0 m pc ls (.int (iZ y) :: .int (iZ x) :: rest)) :=
  lv_icmp_lt hx hb hdg ht (fun q => kt ((iZ_lt hx1 hy1).mp q)) (fun q => kf (Int.not_lt.mp (fun z => q ((iZ_lt hx1 hy1).mpr z))))
theorem z_if_lt (hx : p.tables.exec = Jvm.exec) (hb : c.code = cc) {x : Int} {off : Int} {tgt : Nat} (hx1 : rg x) (hdg : decode cc pc = .ok (.ifCond .lt off, 3)) (ht : (pc : Int) + off = (tgt : Int)) (kt : x < 0 → W p l e R s m args below meth c H locs cells slots Q (F0 m tgt ls rest)) (kf : 0 ≤ x → W p l e R s m args below meth c H locs cells slots Q (F0 m (pc + 3) ls rest)) : W p l e R s m args below meth c H locs cells slots Q (F0 m pc ls (.int (iZ x) :: rest)) :=
  lv_if_lt hx hb hdg ht (by rw [← iZ_0]; exact (fun q => kt ((iZ_lt hx1 rg_0).mp q))) (by rw [← iZ_0]; exact (fun q => kf (Int.not_lt.mp (fun z => q ((iZ_lt hx1 rg_0).mpr z)))))
theorem z_icmp_ge (hx : p.tables.exec = Jvm.exec) (hb : c.code = cc) {x y : Int} {off : Int} {tgt : Nat} (hx1 : rg x) (hy1 : rg y) (hdg : decode cc pc = .ok (.if_icmp .ge off, 3)) (ht : (pc : Int) + off = (tgt : Int)) (kt : y ≤ x → W p l e R s m args below meth c H locs cells slots Q (F0 m tgt ls rest)) (kf : x < y → W p l e R s m args below meth c H locs cells slots Q (F0 m (pc + 3) ls rest)) : W p l e R s m args below meth c H locs cells slots Q (F0 m pc ls (.int (iZ y) :: .int (iZ x) :: rest)) :=
  lv_icmp_ge hx hb hdg ht (fun q => kt ((iZ_le hy1 hx1).mp q)) (fun q => kf (Int.not_le.mp (fun z => q ((iZ_le hy1 hx1).mpr z))))
theorem z_if_ge (hx : p.tables.exec = Jvm.exec) (hb : c.code = cc) {x : Int} {off : Int} {tgt : Nat} (hx1 : rg x) (hdg : decode cc pc = .ok (.ifCond .ge off, 3)) (ht : (pc : Int) + off = (tgt : Int)) (kt : 0 ≤ x → W p l e R s m args below meth c H locs cells slots Q (F0 m tgt ls rest)) (kf : x < 0 → W p l e R s m args below meth c H locs cells slots Q (F0 m (pc + 3) ls rest)) : W p l e R s m args below meth c H locs cells slots Q (F0 m pc ls (.int (iZ x) :: rest)) :=
  lv_if_ge hx hb hdg ht (by rw [← iZ_0]; exact (fun q => kt ((iZ_le rg_0 hx1).mp q))) (by rw [← iZ_0]; exact (fun q => kf (Int.not_le.mp (fun z => q ((iZ_le rg_0 hx1).mpr z)))))
theorem z_icmp_gt (hx : p.tables.exec = Jvm.exec) (hb : c.code = cc) {x y : Int} {off : Int} {tgt : Nat} (hx1 : rg x) (hy1 : rg y) (hdg : decode cc pc = .ok (.if_icmp .gt off, 3)) (ht : (pc : Int) + off = (tgt : Int)) (kt : y < x → W p l e R s m args below meth c H locs cells slots Q (F0 m tgt ls rest)) (kf : x ≤ y → W p l e R s m args below meth c H locs cells slots Q (F0 m (pc + 3) ls rest)) : W p l e R s m args below meth c H locs cells slots Q (F0 m pc ls (.int (iZ y) :: .int (iZ x) :: rest)) :=
  lv_icmp_gt hx hb hdg ht (fun q => kt ((iZ_lt hy1 hx1).mp q)) (fun q => kf (Int.not_lt.mp (fun z => q ((iZ_lt hy1 hx1).mpr z))))
theorem z_if_gt (hx : p.tables.exec = Jvm.exec) (hb : c.code = cc) {x : Int} {off : Int} {tgt : Nat} (hx1 : rg x) (hdg : decode cc pc = .ok (.ifCond .gt off, 3)) (ht : (pc : Int) + off = (tgt : Int)) (kt : 0 < x → W p l e R s m args below meth c H locs cells slots Q (F0 m tgt ls rest)) (kf : x ≤ 0 → W p l e R s m args below meth c H locs cells slots Q (F0 m (pc + 3) ls rest)) : W p l e R s m args below meth c H locs cells slots Q (F0 m pc ls (.int (iZ x) :: rest)) :=
  lv_if_gt hx hb hdg ht (by rw [← iZ_0]; exact (fun q => kt ((iZ_lt rg_0 hx1).mp q))) (by rw [← iZ_0]; exact (fun q => kf (Int.not_lt.mp (fun z => q ((iZ_lt rg_0 hx1).mpr z)))))
theorem z_icmp_le (hx : p.tables.exec = Jvm.exec) (hb : c.code = cc) {x y : Int} {off : Int} {tgt : Nat} (hx1 : rg x) (hy1 : rg y) (hdg : decode cc pc = .ok (.if_icmp .le off, 3)) (ht : (pc : Int) + off = (tgt : Int)) (kt : x ≤ y → W p l e R s m args below meth c H locs cells slots Q (F0 m tgt ls rest)) (kf : y < x → W p l e R s m args below meth c H locs cells slots Q (F0 m (pc + 3) ls rest)) : W p l e R s m args below meth c H locs cells slots Q (F0 m pc ls (.int (iZ y) :: .int (iZ x) :: rest)) :=
  lv_icmp_le hx hb hdg ht (fun q => kt ((iZ_le hx1 hy1).mp q)) (fun q => kf (Int.not_le.mp (fun z => q ((iZ_le hx1 hy1).mpr z))))
theorem z_if_le (hx : p.tables.exec = Jvm.exec) (hb : c.code = cc) {x : Int} {off : Int} {tgt : Nat} (hx1 : rg x) (hdg : decode cc pc = .ok (.ifCond .le off, 3)) (ht : (pc : Int) + off = (tgt : Int)) (kt : x ≤ 0 → W p l e R s m args below meth c H locs cells slots Q (F0 m tgt ls rest)) (kf : 0 < x → W p l e R s m args below meth c H locs cells slots Q (F0 m (pc + 3) ls rest)) : W p l e R s m args below meth c H locs cells slots Q (F0 m pc ls (.int (iZ x) :: rest)) :=
  lv_if_le hx hb hdg ht (by rw [← iZ_0]; exact (fun q => kt ((iZ_le hx1 rg_0).mp q))) (by rw [← iZ_0]; exact (fun q => kf (Int.not_le.mp (fun z => q ((iZ_le hx1 rg_0).mpr z)))))
theorem z_iinc (hx : p.tables.exec = Jvm.exec) (hb : c.code = cc) {i nL k : Nat} {n x : Int} {lv lv' : List (Nat × Value)} (hdg : decode cc pc = .ok (.iinc i n, 3)) (h : lv_has ls nL lv) (hk : lv[k]? = some (i, .int (iZ x))) (hn : i < nL) (hl : (i, Value.int (iZ (x + n))) :: lv.filter (fun q => !(q.1 == i) && !(q.1 + 1 == i && q.2.category == 2)) = lv')
    (kk : ∀ ls' : Array Slot, lv_has ls' nL lv' → W p l e R s m args below meth c H locs cells slots Q (F0 m (pc + 3) ls' rest)) : W p l e R s m args below meth c H locs cells slots Q (F0 m pc ls rest) :=
  lv_iinc (v := iZ (x + n)) hx hb hdg h hk (iZ_add x n) hn hl kk
end ZO
/-! worlds -/
abbrev SS : Type := Nat → Int → Int
def up (st : SS) (k : Nat) (i v : Int) : SS := fun k' => if k' = k then uf (st k) i v else st k'
abbrev TY (g : Nat → ClassId) : List (ClassId × FieldType) := [(g 0, .int), (g 1, .long), (g 2, .boolean), (g 3, .object "ShotBoard$Board")]
def PcS (av : List Value) : Array Value → State → Prop := fun v _ => v = av.toArray
def PcR (D : va_G) (g : Nat → ClassId) (w : va_W) (av : List Value) : Array Value → State → Prop := va_Pc av (fun U => va_P D vwCl w U.heap ∧ va_K D vwCl (TY g) U)
def PcM (D : va_G) (g : Nat → ClassId) (A : Nat → Prop) (w : va_W) (av : List Value) : Array Value → State → Prop := va_Pc av (fun U => va_P D vwCl w U.heap ∧ va_K D vwCl (TY g) U ∧ va_D A w)
/-- an end with an int, and the world of a new state -/
def QcI (D : va_G) (w : SS → va_W) (A : Nat → Prop) (post : Int → SS → Prop) : Array Value → State → Outcome → State → Prop := fun _ st o t => ∃ (r : Int) (u : SS), o = .returned (some (.int (iZ r))) ∧ post r u ∧ va_P D vwCl (w u) t.heap ∧ va_F A st t
def QcV (D : va_G) (w : SS → va_W) (A : Nat → Prop) (post : SS → Prop) : Array Value → State → Outcome → State → Prop := fun _ st o t => ∃ (u : SS), o = .returned none ∧ post u ∧ va_P D vwCl (w u) t.heap ∧ va_F A st t
theorem blR {D : va_G} {g : Nat → ClassId} {w : va_W} {av : List Value} : FrameBlind (PcR D g w av) := fun a U f mk q => ⟨q.1, q.2.1, va_K.moved (u := U) (U := U.calling f mk a) (Vm.Alike.refl U.vm) q.2.2⟩
theorem blM {D : va_G} {g : Nat → ClassId} {A : Nat → Prop} {w : va_W} {av : List Value} : FrameBlind (PcM D g A w av) := fun a U f mk q => ⟨q.1, q.2.1, va_K.moved (u := U) (U := U.calling f mk a) (Vm.Alike.refl U.vm) q.2.2.1, q.2.2.2⟩
theorem blS {av : List Value} : FrameBlind (PcS av) := fun _ _ _ _ q => q
section ZM
variable {l : Launch} {y : MethodName} {ws ws' : List Cond} {rm : Room} {cc : ByteArray} {maxL : Nat} {ret : Option FieldType} {own : String} {D : va_G} {g : Nat → ClassId} {w : va_W} {av : List Value} {r : Int} {A : Nat → Prop}
/-- a method that only reads -/
theorem metR (hy : plainName y.cls = true) (ho : y.cls = own) (hw : ws = Cond.code y cc maxL ret :: ws') (hav : (lg_sl av).length ≤ maxL) (hret : ret = some .int ∨ (ret = some .boolean ∧ (r = 0 ∨ r = 1)))
    (body : ∀ (p : Program) (e : Env) (R : Room) (s : State) (m : MethodId) (args : Array Value) (below : List Frame) (meth : Method) (c : Code) (Q : State → Prop) (ls : Array Slot), CallFix p m c cc maxL s args ws own → rm.frames ≤ R.frames → rm.locals ≤ R.locals → va_K D vwCl (TY g) s → va_P D vwCl w s.heap → lv_has ls maxL (lv_args 0 av) →
      (∀ (v : Int) (pc : Nat) (ls' : Array Slot), v = r → decode cc pc = .ok (.ireturn, 1) → W p l e R s m args below meth c s.heap [] 0 0 Q (F0 m pc ls' [.int (iZ v)])) → W p l e R s m args below meth c s.heap [] 0 0 Q (F0 m 0 ls [])) : Met l y ws rm (PcR D g w av) (QcRead (iZ r)) 0 0 (fun _ => False) := by
  refine Met.ofW (cc := cc) (maxL := maxL) (ret := ret) hy hw ?_
  intro p e s m args below meth c s₁ B hml hv
  obtain ⟨hav1, hP, hK⟩ := hv
  have hx := B.exec
  have hb := B.bytes
  have hr := B.returns
  have hts := atoms_spec (ws := ws) B.pre
  have hown : s.vm.findClass y.cls = some m.cls := findClass_of_methodNamed B.named
  have hlocks := B.notSynchronized
  have hl := lv_entry av (n := maxL) hav
  subst hav1
  rw [lg_entry_eq]
  refine body p e _ s m _ below meth c _ _ ⟨hx, hb, hml, ho ▸ hown, hts⟩ (Nat.le_refl _) (Nat.le_refl _) hK hP hl ?_
  intro v pc ls' hvr hdg
  subst hvr
  rcases hret with h | ⟨h, h01⟩
  · rw [h] at hr
    exact W.iret (v := iZ v) hx hb hr (fun t ht _ => ⟨rfl, ht⟩) (fun q hq => by cases hq) hdg
  · rw [h] at hr
    exact W.zret (v := iZ v) hx hb hr (by rcases h01 with e | e <;> subst e <;> rfl) (fun t ht _ => ⟨rfl, ht⟩) (fun q hq => by cases hq) hdg
/-- a static method of numbers alone -/
theorem metS (hy : plainName y.cls = true) (ho : y.cls = own) (hw : ws = Cond.code y cc maxL ret :: ws') (hav : (lg_sl av).length ≤ maxL) (hret : ret = some .int ∨ (ret = some .boolean ∧ (r = 0 ∨ r = 1)))
    (body : ∀ (p : Program) (e : Env) (R : Room) (s : State) (m : MethodId) (args : Array Value) (below : List Frame) (meth : Method) (c : Code) (Q : State → Prop) (ls : Array Slot), CallFix p m c cc maxL s args ws own → rm.frames ≤ R.frames → rm.locals ≤ R.locals → lv_has ls maxL (lv_args 0 av) →
      (∀ (v : Int) (pc : Nat) (ls' : Array Slot), v = r → decode cc pc = .ok (.ireturn, 1) → W p l e R s m args below meth c s.heap [] 0 0 Q (F0 m pc ls' [.int (iZ v)])) → W p l e R s m args below meth c s.heap [] 0 0 Q (F0 m 0 ls [])) : Met l y ws rm (PcS av) (QcRead (iZ r)) 0 0 (fun _ => False) := by
  refine Met.ofW (cc := cc) (maxL := maxL) (ret := ret) hy hw ?_
  intro p e s m args below meth c s₁ B hml hv
  have hav1 : args = av.toArray := hv
  have hx := B.exec
  have hb := B.bytes
  have hr := B.returns
  have hts := atoms_spec (ws := ws) B.pre
  have hown : s.vm.findClass y.cls = some m.cls := findClass_of_methodNamed B.named
  have hlocks := B.notSynchronized
  have hl := lv_entry av (n := maxL) hav
  subst hav1
  rw [lg_entry_eq]
  refine body p e _ s m _ below meth c _ _ ⟨hx, hb, hml, ho ▸ hown, hts⟩ (Nat.le_refl _) (Nat.le_refl _) hl ?_
  intro v pc ls' hvr hdg
  subst hvr
  rcases hret with h | ⟨h, h01⟩
  · rw [h] at hr
    exact W.iret (v := iZ v) hx hb hr (fun t ht _ => ⟨rfl, ht⟩) (fun q hq => by cases hq) hdg
  · rw [h] at hr
    exact W.zret (v := iZ v) hx hb hr (by rcases h01 with e | e <;> subst e <;> rfl) (fun t ht _ => ⟨rfl, ht⟩) (fun q hq => by cases hq) hdg
/-- a method that writes, and answers an int (or a truth) -/
theorem metI {wf : SS → va_W} {post : Int → SS → Prop} (hy : plainName y.cls = true) (ho : y.cls = own) (hw : ws = Cond.code y cc maxL ret :: ws') (hav : (lg_sl av).length ≤ maxL) (hret : ret = some .int ∨ (ret = some .boolean ∧ ∀ r u, post r u → (r = 0 ∨ r = 1)))
    (body : ∀ (p : Program) (e : Env) (R : Room) (s : State) (m : MethodId) (args : Array Value) (below : List Frame) (meth : Method) (c : Code) (Q : State → Prop) (ls : Array Slot), CallFix p m c cc maxL s args ws own → rm.frames ≤ R.frames → rm.locals ≤ R.locals → va_K D vwCl (TY g) s → va_P D vwCl w s.heap → va_D A w → va_S A s.heap s.heap [] → lv_has ls maxL (lv_args 0 av) →
      (∀ (v : Int) (u : SS) (H : Heap) (locs : List Loc) (pc : Nat) (ls' : Array Slot), va_P D vwCl (wf u) H → va_S A s.heap H locs → post v u → decode cc pc = .ok (.ireturn, 1) → W p l e R s m args below meth c H locs 0 0 Q (F0 m pc ls' [.int (iZ v)])) → W p l e R s m args below meth c s.heap [] 0 0 Q (F0 m 0 ls [])) : Met l y ws rm (PcM D g A w av) (QcI D wf A post) 0 0 A := by
  refine Met.ofW (cc := cc) (maxL := maxL) (ret := ret) hy hw ?_
  intro p e s m args below meth c s₁ B hml hv
  obtain ⟨hav1, hP, hK, hD⟩ := hv
  have hx := B.exec
  have hb := B.bytes
  have hr := B.returns
  have hts := atoms_spec (ws := ws) B.pre
  have hown : s.vm.findClass y.cls = some m.cls := findClass_of_methodNamed B.named
  have hlocks := B.notSynchronized
  have hl := lv_entry av (n := maxL) hav
  subst hav1
  rw [lg_entry_eq]
  refine body p e _ s m _ below meth c _ _ ⟨hx, hb, hml, ho ▸ hown, hts⟩ (Nat.le_refl _) (Nat.le_refl _) hK hP hD va_S.rf hl ?_
  intro v u H locs pc ls' hPu hS hvr hdg
  rcases hret with h | ⟨h, h01⟩
  · rw [h] at hr
    exact W.iret (v := iZ v) hx hb hr (fun t ht _ => ⟨v, u, rfl, hvr, by rw [ht]; exact hPu, hS.F ht⟩) hS.2.2 hdg
  · rw [h] at hr
    exact W.zret (v := iZ v) hx hb hr (by rcases h01 v u hvr with e | e <;> subst e <;> rfl) (fun t ht _ => ⟨v, u, rfl, hvr, by rw [ht]; exact hPu, hS.F ht⟩) hS.2.2 hdg
/-- a method that writes, and answers nothing -/
theorem metV {wf : SS → va_W} {post : SS → Prop} (hy : plainName y.cls = true) (ho : y.cls = own) (hw : ws = Cond.code y cc maxL none :: ws') (hav : (lg_sl av).length ≤ maxL)
    (body : ∀ (p : Program) (e : Env) (R : Room) (s : State) (m : MethodId) (args : Array Value) (below : List Frame) (meth : Method) (c : Code) (Q : State → Prop) (ls : Array Slot), CallFix p m c cc maxL s args ws own → rm.frames ≤ R.frames → rm.locals ≤ R.locals → va_K D vwCl (TY g) s → va_P D vwCl w s.heap → va_D A w → va_S A s.heap s.heap [] → lv_has ls maxL (lv_args 0 av) →
      (∀ (u : SS) (H : Heap) (locs : List Loc) (pc : Nat) (ls' : Array Slot), va_P D vwCl (wf u) H → va_S A s.heap H locs → post u → decode cc pc = .ok (.return_, 1) → W p l e R s m args below meth c H locs 0 0 Q (F0 m pc ls' [])) → W p l e R s m args below meth c s.heap [] 0 0 Q (F0 m 0 ls [])) : Met l y ws rm (PcM D g A w av) (QcV D wf A post) 0 0 A := by
  refine Met.ofW (cc := cc) (maxL := maxL) (ret := none) hy hw ?_
  intro p e s m args below meth c s₁ B hml hv
  obtain ⟨hav1, hP, hK, hD⟩ := hv
  have hx := B.exec
  have hb := B.bytes
  have hr := B.returns
  have hts := atoms_spec (ws := ws) B.pre
  have hown : s.vm.findClass y.cls = some m.cls := findClass_of_methodNamed B.named
  have hlocks := B.notSynchronized
  have hl := lv_entry av (n := maxL) hav
  subst hav1
  rw [lg_entry_eq]
  refine body p e _ s m _ below meth c _ _ ⟨hx, hb, hml, ho ▸ hown, hts⟩ (Nat.le_refl _) (Nat.le_refl _) hK hP hD va_S.rf hl ?_
  intro u H locs pc ls' hPu hS hvr hdg
  exact W.vret hx hb hr (fun t ht _ => ⟨u, rfl, hvr, by rw [ht]; exact hPu, hS.F ht⟩) hS.2.2 hdg
end ZM
section ZC
variable {p : Program} {l : Launch} {e : Env} {R : Room} {s : State} {m : MethodId} {args : Array Value} {below : List Frame} {meth : Method} {c : Code} {H : Heap} {locs : List Loc} {cells slots : Nat} {Q : State → Prop}
variable {cc : ByteArray} {pc : Nat} {ls : Array Slot} {rest st0 : List Value} {D : va_G} {A A0 : Nat → Prop} {a b : Nat} {g : Nat → ClassId} {ws w : va_W} {H0 : Heap}
variable {y : MethodName} {bytes : ByteArray} {maxL nL n index : Nat} {ret : Option FieldType} {wsy : List Cond} {rm : Room} {Ts : List Cond} {own C : String} {As : List Value} {r : Int32}
theorem z_get (hexec : p.tables.exec = Jvm.exec) (hb : c.code = cc) {T : u_T} {N ci : Nat} (hts : ∀ w ∈ Ts, w.before args s = true) (hin : ∀ w ∈ u_ws C T N, w ∈ Ts) (hown : s.vm.findClass own = some m.cls) (hK : va_K D vwCl (TY g) s) (hP : va_P D vwCl ws H) (q0 : Nat) {fs : List Value} (he : ws[q0]? = some (a, .inr (ci, fs))) (hc : vwCl[ci]? = some (C, T, N)) (k : Nat) (hk : k < N) (hlink : (Cond.fieldLink own index (T k).1 (T k).2.1 (T k).2.2.1).before args s = true) (v : Value) (hv : fs[k]? = some v) (hdg : decode cc pc = .ok (.getfield index, 3))
    (kk : W p l e R s m args below meth c H locs cells slots Q (F0 m (pc + 3) ls (v :: rest))) : W p l e R s m args below meth c H locs cells slots Q (F0 m pc ls (.ref a :: rest)) :=
  va_get hexec hb hts hin hown hK hP q0 he hc k hk hlink (fun _ h => h) hv hdg kk
theorem z_put (hexec : p.tables.exec = Jvm.exec) (hb : c.code = cc) {T : u_T} {N ci : Nat} (hts : ∀ w ∈ Ts, w.before args s = true) (hin : ∀ w ∈ u_ws C T N, w ∈ Ts) (ty0 : Nat → FieldType) (hty : ∀ k, k < N → parseFieldDescriptor (T k).2.2.1 = some (ty0 k)) (hnm : ∀ a, a < N → ∀ b, b < N → a ≠ b → (T a).2.1 ≠ (T b).2.1) (hown : s.vm.findClass own = some m.cls) (hK : va_K D vwCl (TY g) s) (hP : va_P D vwCl ws H) (hD : va_D A ws) (hS : va_S A H0 H locs) (q0 : Nat) {fs : List Value} (he : ws[q0]? = some (a, .inr (ci, fs))) (hc : vwCl[ci]? = some (C, T, N)) (k : Nat) (hk : k < N) (hlink : (Cond.fieldLink own index (T k).1 (T k).2.1 (T k).2.2.1).before args s = true) (hfin : (T k).2.2.2 = false) {ty : FieldType} {v : Value} (hd : parseFieldDescriptor (T k).2.2.1 = some ty) (hn : narrow ty v = v) (hfit : fits ty v = true) (hl : k < fs.length) (ws2 : va_W) (hw2 : ws.set q0 (a, .inr (ci, fs.set k v)) = ws2) (hdg : decode cc pc = .ok (.putfield index, 3))
    (kk : ∀ (H1 : Heap) (locs1 : List Loc), va_P D vwCl ws2 H1 → va_D A ws2 → va_S A H0 H1 locs1 → W p l e R s m args below meth c H1 locs1 cells slots Q (F0 m (pc + 3) ls rest)) : W p l e R s m args below meth c H locs cells slots Q (F0 m pc ls (v :: .ref a :: rest)) :=
  va_put hexec hb hts hin ty0 hty hnm hown hK hP hD hS q0 he hc k hk hlink (fun _ h => h) hfin hd hn hfit hl hdg (fun H1 L h1 h2 h3 => kk H1 L (hw2 ▸ h1) (hw2 ▸ h2) h3)
theorem z_iald (hexec : p.tables.exec = Jvm.exec) (hb : c.code = cc) (hK : va_K D vwCl (TY g) s) (hP : va_P D vwCl ws H) (q0 : Nat) {N : Nat} (f : Int → Int) (ha : ws[q0]? = some (a, .inl (g 0, N, .inl (iA f)))) {i : Int} (h0 : 0 ≤ i) (h1 : i < N) (h2 : i < 2147483648) (hdg : decode cc pc = .ok (.iaload, 1))
    (kk : W p l e R s m args below meth c H locs cells slots Q (F0 m (pc + 1) ls (.int (iZ (f i)) :: rest))) : W p l e R s m args below meth c H locs cells slots Q (F0 m pc ls (.int (iZ i) :: .ref a :: rest)) :=
  va_iald hexec hb hK hP q0 0 ha rfl (iZ_in h0 h1 h2) hdg (by rw [iA_at f h0 h2]; exact kk)
theorem z_zald (hexec : p.tables.exec = Jvm.exec) (hb : c.code = cc) (hK : va_K D vwCl (TY g) s) (hP : va_P D vwCl ws H) (q0 : Nat) {N : Nat} (f : Int → Int) (ha : ws[q0]? = some (a, .inl (g 2, N, .inl (iA f)))) {i : Int} (h0 : 0 ≤ i) (h1 : i < N) (h2 : i < 2147483648) (hdg : decode cc pc = .ok (.baload, 1))
    (kk : W p l e R s m args below meth c H locs cells slots Q (F0 m (pc + 1) ls (.int (iZ (f i)) :: rest))) : W p l e R s m args below meth c H locs cells slots Q (F0 m pc ls (.int (iZ i) :: .ref a :: rest)) :=
  va_zald hexec hb hK hP q0 2 ha rfl (iZ_in h0 h1 h2) hdg (by rw [iA_at f h0 h2]; exact kk)
theorem z_lald (hexec : p.tables.exec = Jvm.exec) (hb : c.code = cc) (hK : va_K D vwCl (TY g) s) (hP : va_P D vwCl ws H) (q0 : Nat) {N : Nat} (f : Int → Int) (ha : ws[q0]? = some (a, .inl (g 1, N, .inr (.inl (lA f))))) {i : Int} (h0 : 0 ≤ i) (h1 : i < N) (h2 : i < 2147483648) (hdg : decode cc pc = .ok (.laload, 1))
    (kk : W p l e R s m args below meth c H locs cells slots Q (F0 m (pc + 1) ls (.long (lZ (f i)) :: rest))) : W p l e R s m args below meth c H locs cells slots Q (F0 m pc ls (.int (iZ i) :: .ref a :: rest)) :=
  va_lald hexec hb hK hP q0 1 ha rfl (iZ_in h0 h1 h2) hdg (by rw [lA_at f h0 h2]; exact kk)
theorem z_iast (hexec : p.tables.exec = Jvm.exec) (hb : c.code = cc) (hK : va_K D vwCl (TY g) s) (hP : va_P D vwCl ws H) (hD : va_D A ws) (hS : va_S A H0 H locs) (q0 : Nat) {N : Nat} (f : Int → Int) (ha : ws[q0]? = some (a, .inl (g 0, N, .inl (iA f)))) {i v : Int} (h0 : 0 ≤ i) (h1 : i < N) (h2 : i < 2147483648) (ws2 : va_W) (hw2 : ws.set q0 (a, .inl (g 0, N, .inl (iA (uf f i v)))) = ws2) (hdg : decode cc pc = .ok (.iastore, 1))
    (kk : ∀ (H1 : Heap) (locs1 : List Loc), va_P D vwCl ws2 H1 → va_D A ws2 → va_S A H0 H1 locs1 → W p l e R s m args below meth c H1 locs1 cells slots Q (F0 m (pc + 1) ls rest)) : W p l e R s m args below meth c H locs cells slots Q (F0 m pc ls (.int (iZ v) :: .int (iZ i) :: .ref a :: rest)) :=
  va_iast hexec hb hK hP hD hS q0 0 ha rfl (iZ_in h0 h1 h2) hdg (fun H1 L k1 k2 k3 => by rw [iA_up f v h0 h2] at k1 k2; exact kk H1 L (hw2 ▸ k1) (hw2 ▸ k2) k3)
theorem nar_b {v : Int} (h : v = 0 ∨ v = 1) : vp_nar .boolean (iZ v) = iZ v := by rcases h with e | e <;> subst e <;> decide +kernel
theorem z_zast (hexec : p.tables.exec = Jvm.exec) (hb : c.code = cc) (hK : va_K D vwCl (TY g) s) (hP : va_P D vwCl ws H) (hD : va_D A ws) (hS : va_S A H0 H locs) (q0 : Nat) {N : Nat} (f : Int → Int) (ha : ws[q0]? = some (a, .inl (g 2, N, .inl (iA f)))) {i v : Int} (hv : v = 0 ∨ v = 1) (h0 : 0 ≤ i) (h1 : i < N) (h2 : i < 2147483648) (ws2 : va_W) (hw2 : ws.set q0 (a, .inl (g 2, N, .inl (iA (uf f i v)))) = ws2) (hdg : decode cc pc = .ok (.bastore, 1))
    (kk : ∀ (H1 : Heap) (locs1 : List Loc), va_P D vwCl ws2 H1 → va_D A ws2 → va_S A H0 H1 locs1 → W p l e R s m args below meth c H1 locs1 cells slots Q (F0 m (pc + 1) ls rest)) : W p l e R s m args below meth c H locs cells slots Q (F0 m pc ls (.int (iZ v) :: .int (iZ i) :: .ref a :: rest)) :=
  va_zast hexec hb hK hP hD hS q0 2 ha rfl (iZ_in h0 h1 h2) hdg (fun H1 L k1 k2 k3 => by rw [nar_b hv, iA_up f v h0 h2] at k1 k2; exact kk H1 L (hw2 ▸ k1) (hw2 ▸ k2) k3)
theorem z_last (hexec : p.tables.exec = Jvm.exec) (hb : c.code = cc) (hK : va_K D vwCl (TY g) s) (hP : va_P D vwCl ws H) (hD : va_D A ws) (hS : va_S A H0 H locs) (q0 : Nat) {N : Nat} (f : Int → Int) (ha : ws[q0]? = some (a, .inl (g 1, N, .inr (.inl (lA f))))) {i v : Int} (h0 : 0 ≤ i) (h1 : i < N) (h2 : i < 2147483648) (ws2 : va_W) (hw2 : ws.set q0 (a, .inl (g 1, N, .inr (.inl (lA (uf f i v))))) = ws2) (hdg : decode cc pc = .ok (.lastore, 1))
    (kk : ∀ (H1 : Heap) (locs1 : List Loc), va_P D vwCl ws2 H1 → va_D A ws2 → va_S A H0 H1 locs1 → W p l e R s m args below meth c H1 locs1 cells slots Q (F0 m (pc + 1) ls rest)) : W p l e R s m args below meth c H locs cells slots Q (F0 m pc ls (.long (lZ v) :: .int (iZ i) :: .ref a :: rest)) :=
  va_last hexec hb hK hP hD hS q0 1 ha rfl (iZ_in h0 h1 h2) hdg (fun H1 L k1 k2 k3 => by rw [lA_up f v h0 h2] at k1 k2; exact kk H1 L (hw2 ▸ k1) (hw2 ▸ k2) k3)
/-- a call of a method that only reads -/
theorem z_cVR {q0 ci : Nat} {T : u_T} {N : Nat} {fs : List Value} (S : CallFix p m c cc nL s args Ts own) (M : Met l y wsy rm (PcR D g w (.ref b :: As)) (QcRead r) 0 0 (fun _ => False)) (cw : CallW R s args own C index y bytes maxL ret wsy rm 0 0 n) (hK : va_K D vwCl (TY g) s) (hP : va_P D vwCl w H) (hc : vwCl[ci]? = some (C, T, N)) (he : w[q0]? = some (b, .inr (ci, fs))) (hn : As.length = n) (hsize : ls.size = nL) (hst : st0 = As.reverse ++ .ref b :: rest) (hro : (rest.map fun v => v.category).sum ≤ 8) (hdg : decode cc pc = .ok (.invokevirtual index, 3)) (hf : cells ≤ R.cells ∧ slots ≤ R.slots)
    (kk : W p l e R s m args below meth c H locs cells slots Q (F0 m (pc + 3) ls (.int r :: rest))) : W p l e R s m args below meth c H locs cells slots Q (F0 m pc ls st0) :=
  W.callR (W.runV (g := F0 m pc ls st0) S M cw ⟨blR, va_recv hK hP hc he, fun U hU hW => ⟨rfl, by rw [hU]; exact hP, va_K.moved hW.alike hK⟩⟩ rfl hn hsize hst (lv_room hro) hdg hf) kk
theorem z_cSS (S : CallFix p m c cc nL s args Ts own) (M : Met l y wsy rm (PcS As) (QcRead r) 0 0 (fun _ => False)) (cw : CallB R s args own index y bytes maxL ret wsy rm 0 0 n ∧ (Cond.static y).before args s = true) (hn : As.length = n) (hsize : ls.size = nL) (hst : st0 = As.reverse ++ rest) (hro : (rest.map fun v => v.category).sum ≤ 8) (hdg : decode cc pc = .ok (.invokestatic index, 3)) (hf : cells ≤ R.cells ∧ slots ≤ R.slots)
    (kk : W p l e R s m args below meth c H locs cells slots Q (F0 m (pc + 3) ls (.int r :: rest))) : W p l e R s m args below meth c H locs cells slots Q (F0 m pc ls st0) :=
  W.callR (W.runS (g := F0 m pc ls st0) S M cw ⟨blS, fun U hU hW => rfl⟩ rfl hn hsize hst (lv_room hro) hdg hf) kk
/-- a call of a method that writes -/
theorem z_cVI {wf : SS → va_W} {post : Int → SS → Prop} {q0 ci : Nat} {T : u_T} {N : Nat} {fs : List Value} (S : CallFix p m c cc nL s args Ts own) (M : Met l y wsy rm (PcM D g A w (.ref b :: As)) (QcI D wf A post) 0 0 A) (cw : CallW R s args own C index y bytes maxL ret wsy rm 0 0 n) (hK : va_K D vwCl (TY g) s) (hP : va_P D vwCl w H) (hD : va_D A w) (hS : va_S A0 H0 H locs) (hA : ∀ q, A q → A0 q) (hc : vwCl[ci]? = some (C, T, N)) (he : w[q0]? = some (b, .inr (ci, fs))) (hn : As.length = n) (hsize : ls.size = nL) (hst : st0 = As.reverse ++ .ref b :: rest) (hro : (rest.map fun v => v.category).sum ≤ 8) (hdg : decode cc pc = .ok (.invokevirtual index, 3)) (hf : cells ≤ R.cells ∧ slots ≤ R.slots)
    (kk : ∀ (r : Int) (u : SS) (H1 : Heap) (locs1 : List Loc), post r u → va_P D vwCl (wf u) H1 → va_S A0 H0 H1 locs1 → (∀ q : Nat, q < H.size → ¬ A q → H1[q]? = H[q]?) → W p l e R s m args below meth c H1 locs1 cells slots Q (F0 m (pc + 3) ls (.int (iZ r) :: rest))) : W p l e R s m args below meth c H locs cells slots Q (F0 m pc ls st0) := by
  have hr := va_runV (g := F0 m pc ls st0) (H := H) (locs := locs) (cells := cells) (slots := slots) (below := below) (meth := meth) (e := e) (R := R) S M cw ⟨blM, va_recv hK hP hc he, fun U hU hW => ⟨rfl, by rw [hU]; exact hP, va_K.moved hW.alike hK, hD⟩⟩ rfl hn hsize hst (lv_room hro) hdg hf
  intro T hT X
  obtain ⟨v, st₀, t, T', L, h0, X', hL, e1, e2, ⟨r, u, hv, hp, hb, hz, hk⟩, st⟩ := hr T hT X
  cases hv
  rw [h0] at hz hk
  obtain ⟨t2, a1, b1⟩ := kk r u T'.heap (locs ++ L) hp (by rw [e1]; exact hb)
    ⟨Nat.le_trans hS.1 (by rw [e1]; exact hz), fun q h1 h2 => by rw [e1, hk q (Nat.lt_of_lt_of_le h1 hS.1) (fun z => h2 (hA q z))]; exact hS.2.1 q h1 h2, fun q hq => by
      rcases List.mem_append.mp hq with h | h
      · exact hS.2.2 q h
      · exact hA _ (hL q h)⟩ (fun q h1 h2 => by rw [e1]; exact hk q h1 h2) T' rfl X'
  exact ⟨t2, st t2 a1, b1⟩
theorem z_cVV {wf : SS → va_W} {post : SS → Prop} {q0 ci : Nat} {T : u_T} {N : Nat} {fs : List Value} (S : CallFix p m c cc nL s args Ts own) (M : Met l y wsy rm (PcM D g A w (.ref b :: As)) (QcV D wf A post) 0 0 A) (cw : CallW R s args own C index y bytes maxL none wsy rm 0 0 n) (hK : va_K D vwCl (TY g) s) (hP : va_P D vwCl w H) (hD : va_D A w) (hS : va_S A0 H0 H locs) (hA : ∀ q, A q → A0 q) (hc : vwCl[ci]? = some (C, T, N)) (he : w[q0]? = some (b, .inr (ci, fs))) (hn : As.length = n) (hsize : ls.size = nL) (hst : st0 = As.reverse ++ .ref b :: rest) (hro : (rest.map fun v => v.category).sum ≤ 8) (hdg : decode cc pc = .ok (.invokevirtual index, 3)) (hf : cells ≤ R.cells ∧ slots ≤ R.slots)
    (kk : ∀ (u : SS) (H1 : Heap) (locs1 : List Loc), post u → va_P D vwCl (wf u) H1 → va_S A0 H0 H1 locs1 → (∀ q : Nat, q < H.size → ¬ A q → H1[q]? = H[q]?) → W p l e R s m args below meth c H1 locs1 cells slots Q (F0 m (pc + 3) ls rest)) : W p l e R s m args below meth c H locs cells slots Q (F0 m pc ls st0) := by
  have hr := va_runV (g := F0 m pc ls st0) (H := H) (locs := locs) (cells := cells) (slots := slots) (below := below) (meth := meth) (e := e) (R := R) S M cw ⟨blM, va_recv hK hP hc he, fun U hU hW => ⟨rfl, by rw [hU]; exact hP, va_K.moved hW.alike hK, hD⟩⟩ rfl hn hsize hst (lv_room hro) hdg hf
  intro T hT X
  obtain ⟨v, st₀, t, T', L, h0, X', hL, e1, e2, ⟨u, hv, hp, hb, hz, hk⟩, st⟩ := hr T hT X
  cases hv
  rw [h0] at hz hk
  obtain ⟨t2, a1, b1⟩ := kk u T'.heap (locs ++ L) hp (by rw [e1]; exact hb)
    ⟨Nat.le_trans hS.1 (by rw [e1]; exact hz), fun q h1 h2 => by rw [e1, hk q (Nat.lt_of_lt_of_le h1 hS.1) (fun z => h2 (hA q z))]; exact hS.2.1 q h1 h2, fun q hq => by
      rcases List.mem_append.mp hq with h | h
      · exact hS.2.2 q h
      · exact hA _ (hL q h)⟩ (fun q h1 h2 => by rw [e1]; exact hk q h1 h2) T' rfl X'
  exact ⟨t2, st t2 a1, b1⟩
end ZC
end
section
/-! places, products, seeing: what the answers mean -/
abbrev plc (z : Int) : Prop := 0 ≤ z ∧ z / 100 < 32 ∧ z % 100 < 32
theorem mul_b {x y A B : Int} (h1 : -A ≤ x) (h2 : x ≤ A) (h3 : -B ≤ y) (h4 : y ≤ B) : -(A * B) ≤ x * y ∧ x * y ≤ A * B := by
  have a1 : x.natAbs ≤ A.natAbs := by omega
  have a2 : y.natAbs ≤ B.natAbs := by omega
  have a3 := Nat.mul_le_mul a1 a2
  rw [← Int.natAbs_mul, ← Int.natAbs_mul] at a3
  have a4 : 0 ≤ A * B := Int.mul_nonneg (by omega) (by omega)
  omega
def crossZ (f a b : Int) : Int := (a / 100 - f / 100) * (b % 100 - f % 100) - (a % 100 - f % 100) * (b / 100 - f / 100)
def dotZ (f a b : Int) : Int := (a / 100 - f / 100) * (b / 100 - f / 100) + (a % 100 - f % 100) * (b % 100 - f % 100)
theorem crossZ_b (f a b : Int) (hf : plc f) (ha : plc a) (hb : plc b) : -1922 ≤ crossZ f a b ∧ crossZ f a b ≤ 1922 := by
  have h1 := mul_b (x := a / 100 - f / 100) (y := b % 100 - f % 100) (A := 31) (B := 31) (by omega) (by omega) (by omega) (by omega)
  have h2 := mul_b (x := a % 100 - f % 100) (y := b / 100 - f / 100) (A := 31) (B := 31) (by omega) (by omega) (by omega) (by omega)
  unfold crossZ
  omega
theorem dotZ_b (f a b : Int) (hf : plc f) (ha : plc a) (hb : plc b) : -1922 ≤ dotZ f a b ∧ dotZ f a b ≤ 1922 := by
  have h1 := mul_b (x := a / 100 - f / 100) (y := b / 100 - f / 100) (A := 31) (B := 31) (by omega) (by omega) (by omega) (by omega)
  have h2 := mul_b (x := a % 100 - f % 100) (y := b % 100 - f % 100) (A := 31) (B := 31) (by omega) (by omega) (by omega) (by omega)
  unfold dotZ
  omega
theorem pr_b {x y : Int} (hx : -1922 ≤ x ∧ x ≤ 1922) (hy : -1922 ≤ y ∧ y ≤ 1922) : -3694084 ≤ x * y ∧ x * y ≤ 3694084 := by
  have h := mul_b (A := 1922) (B := 1922) hx.1 hx.2 hy.1 hy.2
  omega
theorem pr2_b {x : Int} (hx : -1922 ≤ x ∧ x ≤ 1922) : -7388168 ≤ 2 * x * x ∧ 2 * x * x ≤ 7388168 := by
  have h := mul_b (x := 2 * x) (y := x) (A := 3844) (B := 1922) (by omega) (by omega) hx.1 hx.2
  omega
def betw (v a b : Int) : Prop := crossZ v a b = 0 ∧ dotZ v a b < 0
def meetC (p q a b : Int) : Prop := ¬ (0 < crossZ p q a * crossZ p q b ∨ 0 < crossZ a b p * crossZ a b q) ∧ ((crossZ p q a ≠ 0 ∨ crossZ p q b ≠ 0) ∨ dotZ a p q ≤ 0 ∨ dotZ b p q ≤ 0 ∨ dotZ p a b ≤ 0)
def cone (f m p : Int) : Prop := 0 < dotZ f m p ∧ dotZ f m m * dotZ f p p ≤ 2 * dotZ f m p * dotZ f m p
def sizeZ (f x : Int) : Int := if dotZ f x x ≤ 16 then 0 else if dotZ f x x ≤ 100 then 1 else 2
theorem sizeZ_b (f x : Int) : 0 ≤ sizeZ f x ∧ sizeZ f x ≤ 2 := by
  unfold sizeZ
  split
  · omega
  · split <;> omega
/-! bits -/
def bt (m k : Int) : Prop := m.toNat.testBit k.toNat = true
/-- hidden: P says where each is at each tick -/
def HID (P : Int → Int → Int) (np nw : Int) (wf wt : Int → Int) (p t f : Int) : Prop :=
  P p t = f ∨ (∃ w, 0 ≤ w ∧ w < nw ∧ meetC f (P p t) (wf w) (wt w)) ∨ (∃ q, 0 ≤ q ∧ q < np ∧ betw (P q t) f (P p t))
/-- the least of n numbers from i on with a property, or -1 -/
noncomputable def fP (P : Int → Prop) : Nat → Int → Int
  | 0, _ => -1
  | n + 1, i => @ite Int (P i) (Classical.propDecidable _) i (fP P n (i + 1))
theorem fP_t {P : Int → Prop} {n : Nat} {i : Int} (h : P i) : fP P (n + 1) i = i := by rw [fP]; exact if_pos h
theorem fP_f {P : Int → Prop} {n : Nat} {i : Int} (h : ¬ P i) : fP P (n + 1) i = fP P n (i + 1) := by rw [fP]; exact if_neg h
theorem fP_spec (P : Int → Prop) : ∀ (n : Nat) (i : Int), (fP P n i = -1 ∧ ∀ j, i ≤ j → j < i + n → ¬ P j) ∨ (i ≤ fP P n i ∧ fP P n i < i + n ∧ P (fP P n i) ∧ ∀ j, i ≤ j → j < fP P n i → ¬ P j)
  | 0, i => Or.inl ⟨rfl, fun j h1 h2 => by omega⟩
  | n + 1, i => by
    rcases Classical.em (P i) with h | h
    · refine Or.inr ?_
      rw [fP_t h]
      exact ⟨by omega, by omega, h, fun j h1 h2 => by omega⟩
    · rw [fP_f h]
      rcases fP_spec P n (i + 1) with ⟨h1, h2⟩ | ⟨h1, h2, h3, h4⟩
      · refine Or.inl ⟨h1, fun j q1 q2 => ?_⟩
        by_cases e : j = i
        · subst e; exact h
        · exact h2 j (by omega) (by omega)
      · refine Or.inr ⟨by omega, by omega, h3, fun j q1 q2 => ?_⟩
        by_cases e : j = i
        · subst e; exact h
        · exact h4 j (by omega) q2
theorem fP_cg {P P' : Int → Prop} : ∀ (n : Nat) (i : Int), (∀ j, i ≤ j → j < i + n → (P j ↔ P' j)) → fP P n i = fP P' n i
  | 0, _, _ => rfl
  | n + 1, i, h => by
    have h0 := h i (by omega) (by omega)
    have h1 := fP_cg n (i + 1) (fun j a b => h j (by omega) (by omega))
    rcases Classical.em (P i) with q | q
    · rw [fP_t q, fP_t (h0.mp q)]
    · rw [fP_f q, fP_f (fun z => q (h0.mpr z)), h1]
end
section
def WC (g : Nat → ClassId) (a : Nat → Nat) (st : SS) : va_W := [(a 0, .inr (6, [.ref (a 1), .ref (a 2), .ref (a 3), .ref (a 4), .ref (a 5), .ref (a 6), .int (iZ (st 19 5))])),
  (a 1, .inr (5, [.ref (a 7), .ref (a 8), .ref (a 9), .ref (a 10), .int (iZ (st 19 0)), .int (iZ (st 19 1))])),
  (a 2, .inr (3, [.ref (a 11), .ref (a 12), .int (iZ (st 19 2))])),
  (a 3, .inr (4, [.ref (a 13), .int (iZ (st 19 3)), .int (iZ (st 19 4))])),
  (a 4, .inr (1, [.ref (a 1)])),
  (a 5, .inr (2, [.ref (a 4), .ref (a 2), .ref (a 3), .ref (a 14), .ref (a 15), .ref (a 16), .ref (a 17), .ref (a 18), .int (iZ (st 19 6)), .int (iZ (st 19 7)), .int (iZ (st 19 8))])),
  (a 6, .inl (g 0, 8, .inl (iA (st 5)))),
  (a 7, .inl (g 0, 360, .inl (iA (st 0)))),
  (a 8, .inl (g 1, 6, .inr (.inl (lA (st 20))))),
  (a 9, .inl (g 0, 12, .inl (iA (st 1)))),
  (a 10, .inl (g 0, 12, .inl (iA (st 2)))),
  (a 11, .inl (g 0, 10, .inl (iA (st 3)))),
  (a 12, .inl (g 0, 10, .inl (iA (st 4)))),
  (a 13, .inl (g 3, 8, .inr (.inr (.inr (.inr (fun k => some (a (19 + k)))))))),
  (a 14, .inl (g 0, 8, .inl (iA (st 6)))),
  (a 15, .inl (g 0, 80, .inl (iA (st 7)))),
  (a 16, .inl (g 2, 27, .inl (iA (st 8)))),
  (a 17, .inl (g 0, 8, .inl (iA (st 9)))),
  (a 18, .inl (g 0, 10, .inl (iA (st 10)))),
  (a 19, .inr (0, [.int (iZ (st 11 0)), .int (iZ (st 12 0)), .int (iZ (st 13 0)), .int (iZ (st 14 0)), .int (iZ (st 15 0)), .int (iZ (st 16 0)), .int (iZ (st 17 0)), .int (iZ (st 18 0))])),
  (a 20, .inr (0, [.int (iZ (st 11 1)), .int (iZ (st 12 1)), .int (iZ (st 13 1)), .int (iZ (st 14 1)), .int (iZ (st 15 1)), .int (iZ (st 16 1)), .int (iZ (st 17 1)), .int (iZ (st 18 1))])),
  (a 21, .inr (0, [.int (iZ (st 11 2)), .int (iZ (st 12 2)), .int (iZ (st 13 2)), .int (iZ (st 14 2)), .int (iZ (st 15 2)), .int (iZ (st 16 2)), .int (iZ (st 17 2)), .int (iZ (st 18 2))])),
  (a 22, .inr (0, [.int (iZ (st 11 3)), .int (iZ (st 12 3)), .int (iZ (st 13 3)), .int (iZ (st 14 3)), .int (iZ (st 15 3)), .int (iZ (st 16 3)), .int (iZ (st 17 3)), .int (iZ (st 18 3))])),
  (a 23, .inr (0, [.int (iZ (st 11 4)), .int (iZ (st 12 4)), .int (iZ (st 13 4)), .int (iZ (st 14 4)), .int (iZ (st 15 4)), .int (iZ (st 16 4)), .int (iZ (st 17 4)), .int (iZ (st 18 4))])),
  (a 24, .inr (0, [.int (iZ (st 11 5)), .int (iZ (st 12 5)), .int (iZ (st 13 5)), .int (iZ (st 14 5)), .int (iZ (st 15 5)), .int (iZ (st 16 5)), .int (iZ (st 17 5)), .int (iZ (st 18 5))])),
  (a 25, .inr (0, [.int (iZ (st 11 6)), .int (iZ (st 12 6)), .int (iZ (st 13 6)), .int (iZ (st 14 6)), .int (iZ (st 15 6)), .int (iZ (st 16 6)), .int (iZ (st 17 6)), .int (iZ (st 18 6))])),
  (a 26, .inr (0, [.int (iZ (st 11 7)), .int (iZ (st 12 7)), .int (iZ (st 13 7)), .int (iZ (st 14 7)), .int (iZ (st 15 7)), .int (iZ (st 16 7)), .int (iZ (st 17 7)), .int (iZ (st 18 7))]))]
def AWC (a : Nat → Nat) : Nat → Prop := fun q => ∃ k, k < 27 ∧ q = a k
def WM (g : Nat → ClassId) (a : Nat → Nat) (st : SS) : va_W := [(a 0, .inr (7, [.int (iZ (st 0 0)), .ref (a 1), .ref (a 2), .ref (a 3), .ref (a 4), .int (iZ (st 0 1)), .ref (a 5), .ref (a 6), .int (iZ (st 0 2)), .ref (a 7), .ref (a 8), .int (iZ (st 0 3)), .ref (a 9), .ref (a 10), .ref (a 11), .ref (a 12), .ref (a 13), .ref (a 14), .ref (a 15), .int (iZ (st 0 4)), .int (iZ (st 0 5)), .ref (a 16), .ref (a 17), .ref (a 18), .ref (a 19), .int (iZ (st 0 6))])),
  (a 1, .inl (g 0, 6, .inl (iA (st 1)))),
  (a 2, .inl (g 0, 6, .inl (iA (st 2)))),
  (a 3, .inl (g 0, 72, .inl (iA (st 3)))),
  (a 4, .inl (g 0, 72, .inl (iA (st 4)))),
  (a 5, .inl (g 0, 12, .inl (iA (st 5)))),
  (a 6, .inl (g 0, 12, .inl (iA (st 6)))),
  (a 7, .inl (g 0, 10, .inl (iA (st 7)))),
  (a 8, .inl (g 0, 10, .inl (iA (st 8)))),
  (a 9, .inl (g 0, 8, .inl (iA (st 9)))),
  (a 10, .inl (g 0, 8, .inl (iA (st 10)))),
  (a 11, .inl (g 0, 8, .inl (iA (st 11)))),
  (a 12, .inl (g 0, 8, .inl (iA (st 12)))),
  (a 13, .inl (g 0, 8, .inl (iA (st 13)))),
  (a 14, .inl (g 0, 8, .inl (iA (st 14)))),
  (a 15, .inl (g 0, 8, .inl (iA (st 15)))),
  (a 16, .inl (g 0, 8, .inl (iA (st 16)))),
  (a 17, .inl (g 2, 80, .inl (iA (st 17)))),
  (a 18, .inl (g 2, 99, .inl (iA (st 18)))),
  (a 19, .inl (g 0, 8, .inl (iA (st 19))))]
def AWM (a : Nat → Nat) : Nat → Prop := fun q => ∃ k, k < 20 ∧ q = a k
theorem WC_bd (g : Nat → ClassId) (a : Nat → Nat) (st : SS) {b : Int} (h0 : 0 ≤ b) (h1 : b < 8) : (WC g a st)[19 + b.toNat]? = some (a (19 + b.toNat), .inr (0, [.int (iZ (st 11 b)), .int (iZ (st 12 b)), .int (iZ (st 13 b)), .int (iZ (st 14 b)), .int (iZ (st 15 b)), .int (iZ (st 16 b)), .int (iZ (st 17 b)), .int (iZ (st 18 b))])) := by
  rcases (show b = 0 ∨ b = 1 ∨ b = 2 ∨ b = 3 ∨ b = 4 ∨ b = 5 ∨ b = 6 ∨ b = 7 by omega) with rfl | rfl | rfl | rfl | rfl | rfl | rfl | rfl <;> rfl
set_option maxRecDepth 100000 in
theorem WC_bd0 (g : Nat → ClassId) (a : Nat → Nat) (st : SS) {b : Int} (x : Int) (h0 : 0 ≤ b) (h1 : b < 8) : (WC g a st).set (19 + b.toNat) (a (19 + b.toNat), .inr (0, ([.int (iZ (st 11 b)), .int (iZ (st 12 b)), .int (iZ (st 13 b)), .int (iZ (st 14 b)), .int (iZ (st 15 b)), .int (iZ (st 16 b)), .int (iZ (st 17 b)), .int (iZ (st 18 b))] : List Value).set 0 (.int (iZ x)))) = WC g a (up st 11 b x) := by
  rcases (show b = 0 ∨ b = 1 ∨ b = 2 ∨ b = 3 ∨ b = 4 ∨ b = 5 ∨ b = 6 ∨ b = 7 by omega) with rfl | rfl | rfl | rfl | rfl | rfl | rfl | rfl <;> rfl
set_option maxRecDepth 100000 in
theorem WC_bd1 (g : Nat → ClassId) (a : Nat → Nat) (st : SS) {b : Int} (x : Int) (h0 : 0 ≤ b) (h1 : b < 8) : (WC g a st).set (19 + b.toNat) (a (19 + b.toNat), .inr (0, ([.int (iZ (st 11 b)), .int (iZ (st 12 b)), .int (iZ (st 13 b)), .int (iZ (st 14 b)), .int (iZ (st 15 b)), .int (iZ (st 16 b)), .int (iZ (st 17 b)), .int (iZ (st 18 b))] : List Value).set 1 (.int (iZ x)))) = WC g a (up st 12 b x) := by
  rcases (show b = 0 ∨ b = 1 ∨ b = 2 ∨ b = 3 ∨ b = 4 ∨ b = 5 ∨ b = 6 ∨ b = 7 by omega) with rfl | rfl | rfl | rfl | rfl | rfl | rfl | rfl <;> rfl
set_option maxRecDepth 100000 in
theorem WC_bd2 (g : Nat → ClassId) (a : Nat → Nat) (st : SS) {b : Int} (x : Int) (h0 : 0 ≤ b) (h1 : b < 8) : (WC g a st).set (19 + b.toNat) (a (19 + b.toNat), .inr (0, ([.int (iZ (st 11 b)), .int (iZ (st 12 b)), .int (iZ (st 13 b)), .int (iZ (st 14 b)), .int (iZ (st 15 b)), .int (iZ (st 16 b)), .int (iZ (st 17 b)), .int (iZ (st 18 b))] : List Value).set 2 (.int (iZ x)))) = WC g a (up st 13 b x) := by
  rcases (show b = 0 ∨ b = 1 ∨ b = 2 ∨ b = 3 ∨ b = 4 ∨ b = 5 ∨ b = 6 ∨ b = 7 by omega) with rfl | rfl | rfl | rfl | rfl | rfl | rfl | rfl <;> rfl
set_option maxRecDepth 100000 in
theorem WC_bd3 (g : Nat → ClassId) (a : Nat → Nat) (st : SS) {b : Int} (x : Int) (h0 : 0 ≤ b) (h1 : b < 8) : (WC g a st).set (19 + b.toNat) (a (19 + b.toNat), .inr (0, ([.int (iZ (st 11 b)), .int (iZ (st 12 b)), .int (iZ (st 13 b)), .int (iZ (st 14 b)), .int (iZ (st 15 b)), .int (iZ (st 16 b)), .int (iZ (st 17 b)), .int (iZ (st 18 b))] : List Value).set 3 (.int (iZ x)))) = WC g a (up st 14 b x) := by
  rcases (show b = 0 ∨ b = 1 ∨ b = 2 ∨ b = 3 ∨ b = 4 ∨ b = 5 ∨ b = 6 ∨ b = 7 by omega) with rfl | rfl | rfl | rfl | rfl | rfl | rfl | rfl <;> rfl
set_option maxRecDepth 100000 in
theorem WC_bd4 (g : Nat → ClassId) (a : Nat → Nat) (st : SS) {b : Int} (x : Int) (h0 : 0 ≤ b) (h1 : b < 8) : (WC g a st).set (19 + b.toNat) (a (19 + b.toNat), .inr (0, ([.int (iZ (st 11 b)), .int (iZ (st 12 b)), .int (iZ (st 13 b)), .int (iZ (st 14 b)), .int (iZ (st 15 b)), .int (iZ (st 16 b)), .int (iZ (st 17 b)), .int (iZ (st 18 b))] : List Value).set 4 (.int (iZ x)))) = WC g a (up st 15 b x) := by
  rcases (show b = 0 ∨ b = 1 ∨ b = 2 ∨ b = 3 ∨ b = 4 ∨ b = 5 ∨ b = 6 ∨ b = 7 by omega) with rfl | rfl | rfl | rfl | rfl | rfl | rfl | rfl <;> rfl
set_option maxRecDepth 100000 in
theorem WC_bd5 (g : Nat → ClassId) (a : Nat → Nat) (st : SS) {b : Int} (x : Int) (h0 : 0 ≤ b) (h1 : b < 8) : (WC g a st).set (19 + b.toNat) (a (19 + b.toNat), .inr (0, ([.int (iZ (st 11 b)), .int (iZ (st 12 b)), .int (iZ (st 13 b)), .int (iZ (st 14 b)), .int (iZ (st 15 b)), .int (iZ (st 16 b)), .int (iZ (st 17 b)), .int (iZ (st 18 b))] : List Value).set 5 (.int (iZ x)))) = WC g a (up st 16 b x) := by
  rcases (show b = 0 ∨ b = 1 ∨ b = 2 ∨ b = 3 ∨ b = 4 ∨ b = 5 ∨ b = 6 ∨ b = 7 by omega) with rfl | rfl | rfl | rfl | rfl | rfl | rfl | rfl <;> rfl
set_option maxRecDepth 100000 in
theorem WC_bd6 (g : Nat → ClassId) (a : Nat → Nat) (st : SS) {b : Int} (x : Int) (h0 : 0 ≤ b) (h1 : b < 8) : (WC g a st).set (19 + b.toNat) (a (19 + b.toNat), .inr (0, ([.int (iZ (st 11 b)), .int (iZ (st 12 b)), .int (iZ (st 13 b)), .int (iZ (st 14 b)), .int (iZ (st 15 b)), .int (iZ (st 16 b)), .int (iZ (st 17 b)), .int (iZ (st 18 b))] : List Value).set 6 (.int (iZ x)))) = WC g a (up st 17 b x) := by
  rcases (show b = 0 ∨ b = 1 ∨ b = 2 ∨ b = 3 ∨ b = 4 ∨ b = 5 ∨ b = 6 ∨ b = 7 by omega) with rfl | rfl | rfl | rfl | rfl | rfl | rfl | rfl <;> rfl
set_option maxRecDepth 100000 in
theorem WC_bd7 (g : Nat → ClassId) (a : Nat → Nat) (st : SS) {b : Int} (x : Int) (h0 : 0 ≤ b) (h1 : b < 8) : (WC g a st).set (19 + b.toNat) (a (19 + b.toNat), .inr (0, ([.int (iZ (st 11 b)), .int (iZ (st 12 b)), .int (iZ (st 13 b)), .int (iZ (st 14 b)), .int (iZ (st 15 b)), .int (iZ (st 16 b)), .int (iZ (st 17 b)), .int (iZ (st 18 b))] : List Value).set 7 (.int (iZ x)))) = WC g a (up st 18 b x) := by
  rcases (show b = 0 ∨ b = 1 ∨ b = 2 ∨ b = 3 ∨ b = 4 ∨ b = 5 ∨ b = 6 ∨ b = 7 by omega) with rfl | rfl | rfl | rfl | rfl | rfl | rfl | rfl <;> rfl
theorem D_same {A : Nat → Prop} {w w' : va_W} (h : va_D A w) (e : w.map Prod.fst = w'.map Prod.fst) : va_D A w' := by
  have at1 : ∀ (i : Nat) (p : Nat × va_E), w'[i]? = some p → ∃ q : Nat × va_E, w[i]? = some q ∧ q.1 = p.1 := by
    intro i p hp
    have h1 : (w.map Prod.fst)[i]? = some p.1 := by rw [e, List.getElem?_map, hp]; rfl
    rw [List.getElem?_map] at h1
    cases hq : w[i]? with
    | none => rw [hq] at h1; cases h1
    | some q => rw [hq] at h1; exact ⟨q, rfl, Option.some.inj h1⟩
  refine ⟨fun i j p q hp hq hpq => ?_, fun k q hq => ?_⟩
  · obtain ⟨p2, a1, a2⟩ := at1 i p hp
    obtain ⟨q2, b1, b2⟩ := at1 j q hq
    exact h.1 i j p2 q2 a1 b1 (by rw [a2, b2, hpq])
  · obtain ⟨q2, b1, b2⟩ := at1 k q hq
    rw [← b2]
    exact h.2 k q2 b1
theorem DWC {g : Nat → ClassId} {a : Nat → Nat} {st st' : SS} {A : Nat → Prop} (h : va_D A (WC g a st)) : va_D A (WC g a st') := D_same h rfl
theorem DWM {g : Nat → ClassId} {a : Nat → Nat} {st st' : SS} {A : Nat → Prop} (h : va_D A (WM g a st)) : va_D A (WM g a st') := D_same h rfl
theorem nar_z {v : Int} (h : v = 0 ∨ v = 1) : narrow .boolean (.int (iZ v)) = .int (iZ v) := by rcases h with e | e <;> subst e <;> rfl
theorem fit_z {v : Int} (h : v = 0 ∨ v = 1) : fits .boolean (.int (iZ v)) = true := by rcases h with e | e <;> subst e <;> decide +kernel
section ZA
variable {p : Program} {l : Launch} {e : Env} {R : Room} {s : State} {m : MethodId} {args : Array Value} {below : List Frame} {meth : Method} {c : Code} {H : Heap} {locs : List Loc} {cells slots : Nat} {Q : State → Prop}
variable {cc : ByteArray} {pc : Nat} {ls : Array Slot} {rest : List Value} {D : va_G} {g : Nat → ClassId} {a : Nat → Nat} {st : SS}
theorem z_aald (hexec : p.tables.exec = Jvm.exec) (hb : c.code = cc) (hK : va_K D vwCl (TY g) s) (hP : va_P D vwCl (WC g a st) H) {i : Int} (h0 : 0 ≤ i) (h1 : i < 8) (hdg : decode cc pc = .ok (.aaload, 1))
    (kk : W p l e R s m args below meth c H locs cells slots Q (F0 m (pc + 1) ls (.ref (a (19 + i.toNat)) :: rest))) : W p l e R s m args below meth c H locs cells slots Q (F0 m pc ls (.int (iZ i) :: .ref (a 13) :: rest)) :=
  va_aldq hexec hb hK hP 13 3 (f := fun k => some (a (19 + k))) rfl rfl (iZ_in h0 (by omega) (by omega)) hdg (by
    show W p l e R s m args below meth c H locs cells slots Q (F0 m (pc + 1) ls (Value.ref (a (19 + (iZ i).toNatClampNeg)) :: rest))
    rw [iZ_clamp h0 (by omega)]
    exact kk)
end ZA
end
section
/-! the class's state: what always holds -/
abbrev PC (st : SS) (p t : Int) : Int := st 0 (p * 60 + t)
abbrev HIDc (st : SS) (p t f : Int) : Prop := HID (fun q t => st 0 (q * 60 + t)) (st 19 0) (st 19 1) (st 1) (st 2) p t f
abbrev ICs (st : SS) : Prop := (0 ≤ st 19 0 ∧ st 19 0 ≤ 6) ∧ (0 ≤ st 19 1 ∧ st 19 1 ≤ 12) ∧ (0 ≤ st 19 2 ∧ st 19 2 ≤ 10) ∧ (0 ≤ st 19 3 ∧ st 19 3 ≤ 8) ∧ (1 ≤ st 19 4 ∧ st 19 4 ≤ 20) ∧ (0 ≤ st 19 5 ∧ st 19 5 ≤ 8)
abbrev bdR (st : SS) (b : Int) : Prop := (0 ≤ st 11 b ∧ st 11 b ≤ 2) ∧ (0 ≤ st 12 b ∧ st 12 b < 6) ∧ (0 ≤ st 13 b ∧ st 13 b < 64) ∧ (0 ≤ st 14 b ∧ st 14 b ≤ 7) ∧ (0 ≤ st 15 b ∧ st 15 b < 60) ∧ (0 ≤ st 16 b ∧ st 16 b < 60) ∧ (0 ≤ st 17 b ∧ st 17 b ≤ 200) ∧ (st 18 b = 0 ∨ st 18 b = 1)
abbrev bdL (st : SS) (b : Int) : Prop := st 12 b < st 19 0 ∧ st 15 b ≤ st 16 b ∧ bt (st 13 b) (st 12 b) ∧ (∀ p, 0 ≤ p → bt (st 13 b) p → p < st 19 0) ∧ (st 11 b = 1 → ∃ o, 0 ≤ o ∧ o < 6 ∧ o ≠ st 12 b ∧ bt (st 13 b) o)
def IC (st : SS) : Prop := ICs st ∧ (∀ i, 0 ≤ i → i < 360 → plc (st 0 i)) ∧ (∀ i, 0 ≤ i → i < 12 → plc (st 1 i)) ∧ (∀ i, 0 ≤ i → i < 12 → plc (st 2 i)) ∧ (∀ i, 0 ≤ i → i < 10 → plc (st 3 i)) ∧ (∀ i, 0 ≤ i → i < 10 → 0 ≤ st 4 i ∧ st 4 i < 4)
  ∧ (∀ i, 0 ≤ i → i < 8 → 0 ≤ st 5 i ∧ st 5 i < 10) ∧ (∀ b, 0 ≤ b → b < 8 → bdR st b) ∧ (∀ p, 0 ≤ p → p < 6 → 0 ≤ st 20 p ∧ st 20 p < 1152921504606846976)
  ∧ (∀ b, 0 ≤ b → b < st 19 3 → bdL st b) ∧ (∀ p t, 0 ≤ p → p < 6 → 1 ≤ t → t < 60 → ¬ bt (st 20 p) t → st 0 (p * 60 + t) = st 0 (p * 60 + (t - 1))) ∧ (∀ w, 0 ≤ w → w < st 19 1 → st 1 w ≠ st 2 w) ∧ (∀ i, 0 ≤ i → i < st 19 5 → st 5 i < st 19 2)
theorem IC.s {st : SS} (h : IC st) : ICs st := h.1
theorem IC.c0 {st : SS} (h : IC st) (i : Int) (h0 : 0 ≤ i) (h1 : i < 360) : plc (st 0 i) := h.2.1 i h0 h1
theorem IC.c1 {st : SS} (h : IC st) (i : Int) (h0 : 0 ≤ i) (h1 : i < 12) : plc (st 1 i) := h.2.2.1 i h0 h1
theorem IC.c2 {st : SS} (h : IC st) (i : Int) (h0 : 0 ≤ i) (h1 : i < 12) : plc (st 2 i) := h.2.2.2.1 i h0 h1
theorem IC.c3 {st : SS} (h : IC st) (i : Int) (h0 : 0 ≤ i) (h1 : i < 10) : plc (st 3 i) := h.2.2.2.2.1 i h0 h1
theorem IC.c4 {st : SS} (h : IC st) (i : Int) (h0 : 0 ≤ i) (h1 : i < 10) : 0 ≤ st 4 i ∧ st 4 i < 4 := h.2.2.2.2.2.1 i h0 h1
theorem IC.c5 {st : SS} (h : IC st) (i : Int) (h0 : 0 ≤ i) (h1 : i < 8) : 0 ≤ st 5 i ∧ st 5 i < 10 := h.2.2.2.2.2.2.1 i h0 h1
theorem IC.bd {st : SS} (h : IC st) (b : Int) (h0 : 0 ≤ b) (h1 : b < 8) : bdR st b := h.2.2.2.2.2.2.2.1 b h0 h1
theorem IC.c20 {st : SS} (h : IC st) (p : Int) (h0 : 0 ≤ p) (h1 : p < 6) : 0 ≤ st 20 p ∧ st 20 p < 1152921504606846976 := h.2.2.2.2.2.2.2.2.1 p h0 h1
theorem IC.bl {st : SS} (h : IC st) (b : Int) (h0 : 0 ≤ b) (h1 : b < st 19 3) : bdL st b := h.2.2.2.2.2.2.2.2.2.1 b h0 h1
theorem IC.st {st : SS} (h : IC st) (p t : Int) (h0 : 0 ≤ p) (h1 : p < 6) (h2 : 1 ≤ t) (h3 : t < 60) (h4 : ¬ bt (st 20 p) t) : st 0 (p * 60 + t) = st 0 (p * 60 + (t - 1)) := h.2.2.2.2.2.2.2.2.2.2.1 p t h0 h1 h2 h3 h4
theorem IC.w {st : SS} (h : IC st) (w : Int) (h0 : 0 ≤ w) (h1 : w < st 19 1) : st 1 w ≠ st 2 w := h.2.2.2.2.2.2.2.2.2.2.2.1 w h0 h1
theorem IC.td {st : SS} (h : IC st) (i : Int) (h0 : 0 ≤ i) (h1 : i < st 19 5) : st 5 i < st 19 2 := h.2.2.2.2.2.2.2.2.2.2.2.2 i h0 h1
/-! bits of small masks, of the machine's own operators -/
theorem zshr_n {m k : Int} (h0 : 0 ≤ m) (h1 : m < 2147483648) (h2 : 0 ≤ k) (h3 : k < 32) : zshr m k = m / 2 ^ k.toNat := by
  obtain ⟨n, rfl⟩ := Int.eq_ofNat_of_zero_le h0
  obtain ⟨j, rfl⟩ := Int.eq_ofNat_of_zero_le h2
  have hj : j < 32 := by omega
  have hn : n < 2 ^ 31 := by omega
  unfold zshr
  rw [iZ_nI, iZ_nI]
  have e1 : ∀ j : Nat, j < 32 → ((nI j &&& 31).toBitVec.smod 32).toNat = j := by decide +kernel
  rw [pk_shrN hn _ j (e1 j hj)]
  rw [nI_toInt (Nat.lt_of_le_of_lt (Nat.div_le_self _ _) hn)]
  simp
theorem zand_1 {m : Int} (h0 : 0 ≤ m) (h1 : m < 2147483648) : zand m 1 = m % 2 := by
  obtain ⟨n, rfl⟩ := Int.eq_ofNat_of_zero_le h0
  unfold zand
  rw [iZ_nI]
  have e1 : iZ 1 = (1 : Int32) := by decide +kernel
  rw [e1, pk_andN (m := 1) (show n < 2 ^ 32 by omega) 1 (by decide +kernel)]
  rw [nI_toInt (by omega)]
  omega
theorem bt_div {m k : Int} (h0 : 0 ≤ m) (h2 : 0 ≤ k) : (m / 2 ^ k.toNat) % 2 = 1 ↔ bt m k := by
  obtain ⟨n, rfl⟩ := Int.eq_ofNat_of_zero_le h0
  obtain ⟨j, rfl⟩ := Int.eq_ofNat_of_zero_le h2
  unfold bt
  simp only [Int.toNat_natCast]
  rw [Nat.testBit_eq_decide_div_mod_eq]
  rw [decide_eq_true_iff]
  have e : ((n : Int) / 2 ^ j) % 2 = (((n / 2 ^ j) % 2 : Nat) : Int) := by simp
  rw [e]
  omega
theorem bit_z {m k : Int} (h0 : 0 ≤ m) (h1 : m < 2147483648) (h2 : 0 ≤ k) (h3 : k < 32) : zand (zshr m k) 1 = b2 (bt m k) := by
  rw [zshr_n h0 h1 h2 h3]
  have a1 : 0 ≤ m / 2 ^ k.toNat := Int.ediv_nonneg h0 (Int.le_of_lt (Int.pow_pos (by omega)))
  have a2 : m / 2 ^ k.toNat ≤ m := Int.ediv_le_self _ h0
  rw [zand_1 a1 (by omega)]
  rcases Classical.em (bt m k) with q | q
  · rw [b2_t q]
    exact (bt_div h0 h2).mpr q
  · rw [b2_f q]
    have a3 : ¬ (m / 2 ^ k.toNat) % 2 = 1 := fun z => q ((bt_div h0 h2).mp z)
    omega
end
section
/-! longs -/
def zland (a b : Int) : Int := (lZ a &&& lZ b).toInt
def zlor (a b : Int) : Int := (lZ a ||| lZ b).toInt
def zlshl (a b : Int) : Int := (lZ a <<< ((iZ b).toInt64 &&& 63)).toInt
def zlshr (a b : Int) : Int := (lZ a >>> ((iZ b).toInt64 &&& 63)).toInt
def zlushr (a b : Int) : Int := ((lZ a).toUInt64 >>> ((iZ b).toInt64.toUInt64 &&& Int64.toUInt64 63)).toInt64.toInt
def zl2i (a : Int) : Int := (lZ a).toInt32.toInt
def zlcmp (a b : Int) : Int := (lg_cmp (lZ a) (lZ b)).toInt
theorem lZ_self (x : Int64) : lZ x.toInt = x := Int64.ofInt_toInt x
theorem lZ_add (a b : Int) : lZ a + lZ b = lZ (a + b) := (Int64.ofInt_add a b).symm
theorem lZ_sub (a b : Int) : lZ a - lZ b = lZ (a - b) := (Int64.ofInt_sub a b).symm
section ZL
variable {p : Program} {l : Launch} {e : Env} {R : Room} {s : State} {m : MethodId} {args : Array Value} {below : List Frame} {meth : Method} {c : Code} {H : Heap} {locs : List Loc} {cells slots : Nat} {Q : State → Prop}
variable {cc : ByteArray} {pc : Nat} {ls : Array Slot} {rest : List Value}
theorem z_lconst (hx : p.tables.exec = Jvm.exec) (hb : c.code = cc) {n : Fin 2} (z : Int) (hdg : decode cc pc = .ok (.lconst n, 1)) (hv : Int64.ofNat (n : Nat) = lZ z) (k : W p l e R s m args below meth c H locs cells slots Q (F0 m (pc + 1) ls (.long (lZ z) :: rest))) : W p l e R s m args below meth c H locs cells slots Q (F0 m pc ls rest) := lv_lconst hx hb hdg hv k
theorem z_land (hx : p.tables.exec = Jvm.exec) (hb : c.code = cc) {x y : Int} (hdg : decode cc pc = .ok (.land, 1)) (k : W p l e R s m args below meth c H locs cells slots Q (F0 m (pc + 1) ls (.long (lZ (zland x y)) :: rest))) : W p l e R s m args below meth c H locs cells slots Q (F0 m pc ls (.long (lZ y) :: .long (lZ x) :: rest)) := lv_land hx hb hdg (by unfold zland at k; rw [lZ_self] at k; exact k)
theorem z_lor (hx : p.tables.exec = Jvm.exec) (hb : c.code = cc) {x y : Int} (hdg : decode cc pc = .ok (.lor, 1)) (k : W p l e R s m args below meth c H locs cells slots Q (F0 m (pc + 1) ls (.long (lZ (zlor x y)) :: rest))) : W p l e R s m args below meth c H locs cells slots Q (F0 m pc ls (.long (lZ y) :: .long (lZ x) :: rest)) := lv_lor hx hb hdg (by unfold zlor at k; rw [lZ_self] at k; exact k)
theorem z_ladd (hx : p.tables.exec = Jvm.exec) (hb : c.code = cc) {x y : Int} (hdg : decode cc pc = .ok (.ladd, 1)) (k : W p l e R s m args below meth c H locs cells slots Q (F0 m (pc + 1) ls (.long (lZ (x + y)) :: rest))) : W p l e R s m args below meth c H locs cells slots Q (F0 m pc ls (.long (lZ y) :: .long (lZ x) :: rest)) := lv_ladd hx hb hdg (by rw [lZ_add]; exact k)
theorem z_lsub (hx : p.tables.exec = Jvm.exec) (hb : c.code = cc) {x y : Int} (hdg : decode cc pc = .ok (.lsub, 1)) (k : W p l e R s m args below meth c H locs cells slots Q (F0 m (pc + 1) ls (.long (lZ (x - y)) :: rest))) : W p l e R s m args below meth c H locs cells slots Q (F0 m pc ls (.long (lZ y) :: .long (lZ x) :: rest)) := lv_lsub hx hb hdg (by rw [lZ_sub]; exact k)
theorem z_lshl (hx : p.tables.exec = Jvm.exec) (hb : c.code = cc) {x y : Int} (hdg : decode cc pc = .ok (.lshl, 1)) (k : W p l e R s m args below meth c H locs cells slots Q (F0 m (pc + 1) ls (.long (lZ (zlshl x y)) :: rest))) : W p l e R s m args below meth c H locs cells slots Q (F0 m pc ls (.int (iZ y) :: .long (lZ x) :: rest)) := lv_lshl hx hb hdg (lZ_self _).symm k
theorem z_lshr (hx : p.tables.exec = Jvm.exec) (hb : c.code = cc) {x y : Int} (hdg : decode cc pc = .ok (.lshr, 1)) (k : W p l e R s m args below meth c H locs cells slots Q (F0 m (pc + 1) ls (.long (lZ (zlshr x y)) :: rest))) : W p l e R s m args below meth c H locs cells slots Q (F0 m pc ls (.int (iZ y) :: .long (lZ x) :: rest)) := lv_lshr hx hb hdg (lZ_self _).symm k
theorem z_lushr (hx : p.tables.exec = Jvm.exec) (hb : c.code = cc) {x y : Int} (hdg : decode cc pc = .ok (.lushr, 1)) (k : W p l e R s m args below meth c H locs cells slots Q (F0 m (pc + 1) ls (.long (lZ (zlushr x y)) :: rest))) : W p l e R s m args below meth c H locs cells slots Q (F0 m pc ls (.int (iZ y) :: .long (lZ x) :: rest)) := lv_lushr hx hb hdg (lZ_self _).symm k
theorem z_l2i (hx : p.tables.exec = Jvm.exec) (hb : c.code = cc) {x : Int} (hdg : decode cc pc = .ok (.l2i, 1)) (k : W p l e R s m args below meth c H locs cells slots Q (F0 m (pc + 1) ls (.int (iZ (zl2i x)) :: rest))) : W p l e R s m args below meth c H locs cells slots Q (F0 m pc ls (.long (lZ x) :: rest)) := lv_l2i hx hb hdg (iZ_self _).symm k
theorem z_lcmp (hx : p.tables.exec = Jvm.exec) (hb : c.code = cc) {x y : Int} (hdg : decode cc pc = .ok (.lcmp, 1)) (k : W p l e R s m args below meth c H locs cells slots Q (F0 m (pc + 1) ls (.int (iZ (zlcmp x y)) :: rest))) : W p l e R s m args below meth c H locs cells slots Q (F0 m pc ls (.long (lZ y) :: .long (lZ x) :: rest)) := W.lcmp hx hb hdg (by unfold zlcmp at k; rw [iZ_self] at k; exact k)
theorem z_ldcw (hx : p.tables.exec = Jvm.exec) (hb : c.code = cc) {own : String} {index : Nat} {v : Int32} (z : Int) (hz : v = iZ z) (hown : s.vm.findClass own = some m.cls) (hconst : (Jvm.Cond.constant own index v).before args s = true) (hdg : decode cc pc = .ok (.ldc_w index, 3)) (k : W p l e R s m args below meth c H locs cells slots Q (F0 m (pc + 3) ls (.int (iZ z) :: rest))) : W p l e R s m args below meth c H locs cells slots Q (F0 m pc ls rest) := lv_ldcw hx hb hown hconst hdg (by rw [hz]; exact k)
theorem z_ldc2 (hx : p.tables.exec = Jvm.exec) (hb : c.code = cc) {own : String} {index : Nat} {v : Int64} (z : Int) (hz : v = lZ z) (hown : s.vm.findClass own = some m.cls) (hconst : (Jvm.Cond.constantLong own index v).before args s = true) (hdg : decode cc pc = .ok (.ldc2_w index, 3)) (k : W p l e R s m args below meth c H locs cells slots Q (F0 m (pc + 3) ls (.long (lZ z) :: rest))) : W p l e R s m args below meth c H locs cells slots Q (F0 m pc ls rest) := lv_ldc2 hx hb hown hconst hdg (by rw [hz]; exact k)
end ZL
theorem lZ_t {z : Int} (h0 : -9223372036854775808 ≤ z) (h1 : z < 9223372036854775808) : (lZ z).toInt = z := Int64.toInt_ofInt_of_le (by omega) (by omega)
theorem lZ_lN (n : Nat) : lZ (n : Int) = lN n := Int64.ofInt_eq_ofNat
theorem lZ_bv (n : Nat) : (lZ (n : Int)).toBitVec = BitVec.ofNat 64 n := by rw [lZ_lN]; rfl
theorem bt_nn (n j : Nat) : bt (n : Int) (j : Int) ↔ n / 2 ^ j % 2 = 1 := by
  unfold bt
  simp only [Int.toNat_natCast]
  rw [Nat.testBit_eq_decide_div_mod_eq, decide_eq_true_iff]
theorem lZ_shr {n j : Nat} (hn : n < 9223372036854775808) (hj : j < 64) : lZ (n : Int) >>> ((iZ (j : Int)).toInt64 &&& 63) = lZ ((n / 2 ^ j : Nat) : Int) := by
  have e1 : ∀ j : Nat, j < 64 → ((iZ (j : Int)).toInt64 &&& 63).toBitVec.smod 64 = BitVec.ofNat 64 j := by decide +kernel
  have a3 : n / 2 ^ j ≤ n := Nat.div_le_self _ _
  have a5 : (n : Int) >>> j = ((n / 2 ^ j : Nat) : Int) := by rw [Int.shiftRight_eq_div_pow]; simp
  apply Int64.toBitVec.inj
  rw [Int64.toBitVec_shiftRight, e1 j hj, lZ_bv, lZ_bv]
  apply BitVec.eq_of_toInt_eq
  have a1 : (BitVec.ofNat 64 j).toNat = j := by rw [BitVec.toNat_ofNat]; omega
  rw [BitVec.sshiftRight_eq', a1, BitVec.toInt_sshiftRight]
  have a2 : ∀ k : Nat, k < 9223372036854775808 → (BitVec.ofNat 64 k).toInt = (k : Int) := by
    intro k hk
    rw [BitVec.toInt_eq_toNat_of_lt (by rw [BitVec.toNat_ofNat]; omega), BitVec.toNat_ofNat]
    omega
  rw [a2 n hn, a5]
  generalize n / 2 ^ j = q at a3
  rw [a2 q (by omega)]
theorem lZ_and1 {q : Nat} (hq : q < 9223372036854775808) : lZ (q : Int) &&& lZ 1 = lZ ((q % 2 : Nat) : Int) := by
  apply Int64.toBitVec.inj
  rw [Int64.toBitVec_and, lZ_bv, lZ_bv]
  have : (lZ 1).toBitVec = BitVec.ofNat 64 1 := by decide +kernel
  rw [this]
  apply BitVec.eq_of_toNat_eq
  rw [BitVec.toNat_and, BitVec.toNat_ofNat, BitVec.toNat_ofNat, BitVec.toNat_ofNat]
  rw [Nat.mod_eq_of_lt (show q < 2 ^ 64 by omega), show (1 % 2 ^ 64 : Nat) = 1 from rfl, Nat.and_one_is_mod, Nat.mod_eq_of_lt (show q % 2 < 2 ^ 64 by omega)]
/-- a step's bit, as the class asks for it -/
theorem step_z {m k : Int} (h0 : 0 ≤ m) (h1 : m < 1152921504606846976) (h2 : 0 ≤ k) (h3 : k < 60) : zlcmp (zland (zlshr m k) 1) 0 = b2 (bt m k) := by
  obtain ⟨n, rfl⟩ := Int.eq_ofNat_of_zero_le h0
  obtain ⟨j, rfl⟩ := Int.eq_ofNat_of_zero_le h2
  have a3 : n / 2 ^ j ≤ n := Nat.div_le_self _ _
  have hb := bt_nn n j
  unfold zlshr
  rw [lZ_shr (by omega) (by omega)]
  generalize n / 2 ^ j = q at a3 hb
  rw [lZ_t (by omega) (by omega)]
  unfold zland
  rw [lZ_and1 (by omega), lZ_t (by omega) (by omega)]
  rcases Nat.mod_two_eq_zero_or_one q with e | e
  · rw [e] at hb
    rw [e, b2_f (fun z => by have := hb.mp z; omega)]
    decide +kernel
  · rw [e] at hb
    rw [e, b2_t (hb.mpr rfl)]
    decide +kernel
theorem z_asL {p : Program} {l : Launch} {e : Env} {R : Room} {s : State} {m : MethodId} {args : Array Value} {below : List Frame} {meth : Method} {c : Code} {H : Heap} {locs : List Loc} {cells slots : Nat} {Q : State → Prop} {pc : Nat} {ls : Array Slot} {rest : List Value} {x y : Int} (h : x = y) (k : W p l e R s m args below meth c H locs cells slots Q (F0 m pc ls (.long (lZ y) :: rest))) : W p l e R s m args below meth c H locs cells slots Q (F0 m pc ls (.long (lZ x) :: rest)) := h ▸ k
end
section
/-! what a camera makes of a board: shared by the class and the reference -/
theorem fP_is {P : Int → Prop} : ∀ {n : Nat} {i q : Int}, i ≤ q → q < i + n → P q → (∀ j, i ≤ j → j < q → ¬ P j) → fP P n i = q
  | 0, i, q, h1, h2, _, _ => by omega
  | n + 1, i, q, h1, h2, h3, h4 => by
    by_cases e : i = q
    · subst e; exact fP_t h3
    · rw [fP_f (h4 i (by omega) (by omega))]
      exact fP_is (by omega) (by omega) h3 (fun j a b => h4 j (by omega) b)
theorem fP_no {P : Int → Prop} : ∀ {n : Nat} {i : Int}, (∀ j, i ≤ j → j < i + n → ¬ P j) → fP P n i = -1
  | 0, _, _ => rfl
  | n + 1, i, h => by
    rw [fP_f (h i (by omega) (by omega))]
    exact fP_no (fun j a b => h j (by omega) (by omega))
theorem fP_b (P : Int → Prop) (n : Nat) (i : Int) (hi : 0 ≤ i) : -1 ≤ fP P n i ∧ fP P n i < i + n ∨ fP P n i = -1 := by
  rcases fP_spec P n i with h | h
  · exact Or.inr h.1
  · exact Or.inl ⟨by omega, h.2.1⟩
/-- the greatest below n with a property, or -1 -/
noncomputable def lT (P : Int → Prop) : Nat → Int
  | 0 => -1
  | n + 1 => @ite Int (P (n : Int)) (Classical.propDecidable _) (n : Int) (lT P n)
theorem lT_t {P : Int → Prop} {n : Nat} (h : P (n : Int)) : lT P (n + 1) = n := by rw [lT]; exact if_pos h
theorem lT_f {P : Int → Prop} {n : Nat} (h : ¬ P (n : Int)) : lT P (n + 1) = lT P n := by rw [lT]; exact if_neg h
theorem lT_is {P : Int → Prop} : ∀ {n : Nat} {q : Int}, 0 ≤ q → q < n → P q → (∀ j, q < j → j < n → ¬ P j) → lT P n = q
  | 0, q, h1, h2, _, _ => by omega
  | n + 1, q, h1, h2, h3, h4 => by
    by_cases e : q = n
    · subst e; exact lT_t h3
    · rw [lT_f (h4 n (by omega) (by omega))]
      exact lT_is h1 (by omega) h3 (fun j a b => h4 j a (by omega))
theorem lT_no {P : Int → Prop} : ∀ {n : Nat}, (∀ j, 0 ≤ j → j < n → ¬ P j) → lT P n = -1
  | 0, _ => rfl
  | n + 1, h => by
    rw [lT_f (h n (by omega) (by omega))]
    exact lT_no (fun j a b => h j a (by omega))
theorem lT_spec (P : Int → Prop) : ∀ (n : Nat), (lT P n = -1 ∧ ∀ j, 0 ≤ j → j < n → ¬ P j) ∨ (0 ≤ lT P n ∧ lT P n < n ∧ P (lT P n) ∧ ∀ j, lT P n < j → j < n → ¬ P j)
  | 0 => Or.inl ⟨rfl, fun j a b => by omega⟩
  | n + 1 => by
    rcases Classical.em (P (n : Int)) with h | h
    · refine Or.inr ?_
      rw [lT_t h]
      exact ⟨by omega, by omega, h, fun j a b => by omega⟩
    · rw [lT_f h]
      rcases lT_spec P n with ⟨h1, h2⟩ | ⟨h1, h2, h3, h4⟩
      · refine Or.inl ⟨h1, fun j a b => ?_⟩
        by_cases e : j = n
        · subst e; exact h
        · exact h2 j a (by omega)
      · refine Or.inr ⟨h1, by omega, h3, fun j a b => ?_⟩
        by_cases e : j = n
        · subst e; exact h
        · exact h4 j a (by omega)
def sg (x : Int) : Int := if 0 < x then 1 else if x < 0 then -1 else 0
theorem sg_b (x : Int) : -1 ≤ sg x ∧ sg x ≤ 1 := by
  unfold sg
  split
  · omega
  · split <;> omega
/-- someone who must be seen comes to the other side at a tick -/
def CHG (P : Int → Int → Int) (np mn mk f t : Int) : Prop := ∃ p, 0 ≤ p ∧ p < np ∧ bt mk p ∧ crossZ f (P mn (t - 1)) (P p (t - 1)) * crossZ f (P mn t) (P p t) < 0
/-- what fails at a tick -/
noncomputable def FL (P : Int → Int → Int) (np nw : Int) (wf wt : Int → Int) (kd mn mk sz fs f t : Int) : Int :=
  if 0 ≤ fP (fun p => bt mk p ∧ HID P np nw wf wt p t f) np.toNat 0 then 10 + fP (fun p => bt mk p ∧ HID P np nw wf wt p t f) np.toNat 0
  else if 0 ≤ fP (fun p => bt mk p ∧ ¬ cone f (P mn t) (P p t)) np.toNat 0 then 20 + fP (fun p => bt mk p ∧ ¬ cone f (P mn t) (P p t)) np.toNat 0
  else if b2 (bt sz (sizeZ f (P mn t))) = 0 then 30
  else if b2 (kd = 2 ∧ fs < t ∧ CHG P np mn mk f t) = 1 then 40 else 0
theorem FL_b (P : Int → Int → Int) (np nw : Int) (wf wt : Int → Int) (kd mn mk sz fs f t : Int) (h : np ≤ 6) : 0 ≤ FL P np nw wf wt kd mn mk sz fs f t ∧ FL P np nw wf wt kd mn mk sz fs f t ≤ 40 := by
  have h1 := fP_b (fun p => bt mk p ∧ HID P np nw wf wt p t f) np.toNat 0 (by omega)
  have h2 := fP_b (fun p => bt mk p ∧ ¬ cone f (P mn t) (P p t)) np.toNat 0 (by omega)
  unfold FL
  split
  · omega
  · split
    · omega
    · split
      · omega
      · split <;> omega
/-- the least of n ticks from t on at which F isn't 0 -/
noncomputable def WHY (F : Int → Int) : Nat → Int → Int
  | 0, _ => 0
  | n + 1, t => if F t = 0 then WHY F n (t + 1) else 100 * t + F t
theorem WHY_0 {F : Int → Int} {n : Nat} {t : Int} (h : F t = 0) : WHY F (n + 1) t = WHY F n (t + 1) := by rw [WHY]; exact if_pos h
theorem WHY_n {F : Int → Int} {n : Nat} {t : Int} (h : ¬ F t = 0) : WHY F (n + 1) t = 100 * t + F t := by rw [WHY]; exact if_neg h
theorem WHY_cg {F G : Int → Int} : ∀ (n : Nat) (t : Int), (∀ j, t ≤ j → j < t + n → F j = G j) → WHY F n t = WHY G n t
  | 0, _, _ => rfl
  | n + 1, t, h => by
    rw [WHY, WHY, h t (by omega) (by omega), WHY_cg n (t + 1) (fun j a b => h j (by omega) (by omega))]
theorem WHY_b {F : Int → Int} : ∀ (n : Nat) (t : Int), 0 ≤ t → t + n ≤ 60 → (∀ j, 0 ≤ F j ∧ F j ≤ 40) → 0 ≤ WHY F n t ∧ WHY F n t < 6000
  | 0, _, _, _, _ => by rw [WHY]; omega
  | n + 1, t, h0, h1, h => by
    have h2 := h t
    rw [WHY]
    split
    · exact WHY_b n (t + 1) (by omega) (by omega) h
    · omega
noncomputable abbrev FLc (st : SS) (b f t : Int) : Int := FL (fun q t => st 0 (q * 60 + t)) (st 19 0) (st 19 1) (st 1) (st 2) (st 11 b) (st 12 b) (st 13 b) (st 14 b) (st 15 b) f t
noncomputable abbrev WHYc (st : SS) (b f : Int) : Int := WHY (FLc st b f) (st 16 b - st 15 b + 1).toNat (st 15 b)
noncomputable def PTN (mn mk : Int) : Int := if fP (fun q => q ≠ mn ∧ bt mk q) 6 0 = -1 then mn else fP (fun q => q ≠ mn ∧ bt mk q) 6 0
theorem PTN_b (mn mk : Int) (h : 0 ≤ mn ∧ mn < 6) : 0 ≤ PTN mn mk ∧ PTN mn mk < 6 := by
  unfold PTN
  have h1 := fP_spec (fun q => q ≠ mn ∧ bt mk q) 6 0
  split
  · omega
  · rcases h1 with h1 | h1 <;> omega
noncomputable abbrev PTc (st : SS) (b : Int) : Int := PTN (st 12 b) (st 13 b)
noncomputable def spk (mn pt : Int) : Int := zor (zshl 1 mn) (zshl 1 pt)
theorem zor_rg (a b : Int) : rg (zor a b) := rg_of _
theorem zand_rg (a b : Int) : rg (zand a b) := rg_of _
theorem zshl_rg (a b : Int) : rg (zshl a b) := rg_of _
theorem zshr_rg (a b : Int) : rg (zshr a b) := rg_of _
theorem zxor_rg (a b : Int) : rg (zxor a b) := rg_of _
noncomputable abbrev SDM (st : SS) (b f : Int) : Int := sg (crossZ (st 0 (st 12 b * 60 + st 15 b)) (st 0 (PTc st b * 60 + st 15 b)) f)
noncomputable abbrev SDL (st : SS) (b f : Int) : Int := if st 12 b < PTc st b then SDM st b f else -(SDM st b f)
theorem sg_z : ∀ a : Nat, a < 63 → ∀ b : Nat, b < 62 → zor (zshr (((62 * a + b : Nat) : Int) - 1922) 31) (zushr (-(((62 * a + b : Nat) : Int) - 1922)) 31) = sg (((62 * a + b : Nat) : Int) - 1922) := by decide +kernel
theorem sg_zz {x : Int} (h : -1922 ≤ x ∧ x ≤ 1922) : zor (zshr x 31) (zushr (-x) 31) = sg x := by
  have h1 := sg_z ((x + 1922).toNat / 62) (by omega) ((x + 1922).toNat % 62) (by omega)
  have e : ((62 * ((x + 1922).toNat / 62) + (x + 1922).toNat % 62 : Nat) : Int) - 1922 = x := by omega
  rwa [e] at h1
theorem sq_nn (x : Int) : 0 ≤ x * x := by rw [← Int.natAbs_mul_self]; exact Int.natCast_nonneg _
/-- where nobody steps, nothing new fails -/
theorem FL_skip {P : Int → Int → Int} {np nw : Int} {wf wt : Int → Int} {kd mn mk sz fs f t : Int} (hm : 0 ≤ mn ∧ mn < np) (hP : ∀ q, 0 ≤ q → q < np → P q t = P q (t - 1)) (h : FL P np nw wf wt kd mn mk sz fs f (t - 1) = 0) : FL P np nw wf wt kd mn mk sz fs f t = 0 := by
  have hH : ∀ p, 0 ≤ p → p < np → (HID P np nw wf wt p t f ↔ HID P np nw wf wt p (t - 1) f) := by
    intro p h0 h1
    unfold HID
    rw [hP p h0 h1]
    refine or_congr Iff.rfl (or_congr Iff.rfl ⟨fun ⟨q, a, b, d⟩ => ⟨q, a, b, ?_⟩, fun ⟨q, a, b, d⟩ => ⟨q, a, b, ?_⟩⟩)
    · rw [← hP q a b]; exact d
    · rw [hP q a b]; exact d
  have e1 : fP (fun p => bt mk p ∧ HID P np nw wf wt p t f) np.toNat 0 = fP (fun p => bt mk p ∧ HID P np nw wf wt p (t - 1) f) np.toNat 0 := fP_cg _ _ (fun j a b => and_congr Iff.rfl (hH j a (by omega)))
  have e2 : fP (fun p => bt mk p ∧ ¬ cone f (P mn t) (P p t)) np.toNat 0 = fP (fun p => bt mk p ∧ ¬ cone f (P mn (t - 1)) (P p (t - 1))) np.toNat 0 := fP_cg _ _ (fun j a b => by rw [hP mn hm.1 hm.2, hP j a (by omega)])
  have e3 : ¬ CHG P np mn mk f t := by
    rintro ⟨p, a, b, -, d⟩
    rw [hP mn hm.1 hm.2, hP p a b] at d
    have d2 := sq_nn (crossZ f (P mn (t - 1)) (P p (t - 1)))
    omega
  unfold FL at h ⊢
  rw [e1, e2, hP mn hm.1 hm.2]
  have h1 := fP_b (fun p => bt mk p ∧ HID P np nw wf wt p (t - 1) f) np.toNat 0 (by omega)
  have h2 := fP_b (fun p => bt mk p ∧ ¬ cone f (P mn (t - 1)) (P p (t - 1))) np.toNat 0 (by omega)
  generalize fP (fun p => bt mk p ∧ HID P np nw wf wt p (t - 1) f) np.toNat 0 = x1 at *
  generalize fP (fun p => bt mk p ∧ ¬ cone f (P mn (t - 1)) (P p (t - 1))) np.toNat 0 = x2 at *
  split at h
  · omega
  · rename_i g1
    rw [if_neg g1]
    split at h
    · omega
    · rename_i g2
      rw [if_neg g2]
      split at h
      · omega
      · rename_i g3
        rw [if_neg g3, if_neg (fun z => e3 (b2_1 z).2.2)]
theorem SDL_b (st : SS) (b f : Int) : -1 ≤ SDL st b f ∧ SDL st b f ≤ 1 := by
  have h : -1 ≤ SDM st b f ∧ SDM st b f ≤ 1 := sg_b _
  generalize hx : SDM st b f = x at h
  rcases Classical.em (st 12 b < PTc st b) with q | q
  · have e : SDL st b f = x := by rw [← hx]; exact if_pos q
    omega
  · have e : SDL st b f = -x := by rw [← hx]; exact if_neg q
    omega
end
section
abbrev rX2_cross : Room := { frames := 0, cells := 0, slots := 0, locals := 0 }
set_option maxHeartbeats 4000000 in
set_option maxRecDepth 100000 in
theorem m_X2_cross (l : Launch) (ff : Int) (aa : Int) (bb : Int) (hf : plc ff) (ha : plc aa) (hb1 : plc bb) : Met l yX2_cross wsX2_cross rX2_cross (PcS [.int (iZ (ff)), .int (iZ (aa)), .int (iZ (bb))]) (QcRead (iZ (crossZ ff aa bb))) 0 0 (fun _ => False) := by
  refine metS (cc := cX2_cross) (maxL := 5) (ret := (some .int)) (own := RX2) (by decide) rfl rfl (Nat.le_of_ble_eq_true rfl) (Or.inl rfl) ?_
  intro p e R s m args below meth c Q ls S hRf hRl hl K
  have hx := S.1
  have hb := S.2.1
  have hown := S.2.2.2.1
  have hts := S.2.2.2.2
  have hRf : 0 ≤ R.frames := hRf
  have hRl : 0 ≤ R.locals := hRl
  have hl : lv_has ls 5 [(0, .int (iZ (ff))), (1, .int (iZ (aa))), (2, .int (iZ (bb)))] := hl
  refine lv_iload_n hx hb dX2_cross_0 rfl (lv_at hl 0 rfl) ?_
  refine z_bipush hx hb dX2_cross_1 (by decide +kernel) ?_
  refine z_idiv hx hb (by omega) (by omega) (by decide) (by omega) dX2_cross_3 ?_
  refine lv_istore_n (lv' := [(3, .int (iZ ((ff) / (100)))), (0, .int (iZ (ff))), (1, .int (iZ (aa))), (2, .int (iZ (bb)))]) hx hb dX2_cross_4 rfl hl (by decide) rfl (fun ls hl => ?_)
  refine lv_iload_n hx hb dX2_cross_5 rfl (lv_at hl 1 rfl) ?_
  refine z_bipush hx hb dX2_cross_6 (by decide +kernel) ?_
  refine z_irem hx hb (by omega) (by omega) (by decide) (by omega) dX2_cross_8 ?_
  refine lv_istore (lv' := [(4, .int (iZ ((ff) % (100)))), (3, .int (iZ ((ff) / (100)))), (0, .int (iZ (ff))), (1, .int (iZ (aa))), (2, .int (iZ (bb)))]) hx hb dX2_cross_9 hl (by decide) rfl (fun ls hl => ?_)
  refine lv_iload_n hx hb dX2_cross_11 rfl (lv_at hl 3 rfl) ?_
  refine z_bipush hx hb dX2_cross_12 (by decide +kernel) ?_
  refine z_idiv hx hb (by omega) (by omega) (by decide) (by omega) dX2_cross_14 ?_
  refine lv_iload_n hx hb dX2_cross_15 rfl (lv_at hl 1 rfl) ?_
  refine z_isub hx hb dX2_cross_16 ?_
  refine lv_iload_n hx hb dX2_cross_17 rfl (lv_at hl 4 rfl) ?_
  refine z_bipush hx hb dX2_cross_18 (by decide +kernel) ?_
  refine z_irem hx hb (by omega) (by omega) (by decide) (by omega) dX2_cross_20 ?_
  refine lv_iload hx hb dX2_cross_21 (lv_at hl 0 rfl) ?_
  refine z_isub hx hb dX2_cross_23 ?_
  refine z_imul hx hb dX2_cross_24 ?_
  refine lv_iload_n hx hb dX2_cross_25 rfl (lv_at hl 3 rfl) ?_
  refine z_bipush hx hb dX2_cross_26 (by decide +kernel) ?_
  refine z_irem hx hb (by omega) (by omega) (by decide) (by omega) dX2_cross_28 ?_
  refine lv_iload hx hb dX2_cross_29 (lv_at hl 0 rfl) ?_
  refine z_isub hx hb dX2_cross_31 ?_
  refine lv_iload_n hx hb dX2_cross_32 rfl (lv_at hl 4 rfl) ?_
  refine z_bipush hx hb dX2_cross_33 (by decide +kernel) ?_
  refine z_idiv hx hb (by omega) (by omega) (by decide) (by omega) dX2_cross_35 ?_
  refine lv_iload_n hx hb dX2_cross_36 rfl (lv_at hl 1 rfl) ?_
  refine z_isub hx hb dX2_cross_37 ?_
  refine z_imul hx hb dX2_cross_38 ?_
  refine z_isub hx hb dX2_cross_39 ?_
  exact K _ _ _ (rfl) dX2_cross_40
abbrev rX2_dot : Room := { frames := 0, cells := 0, slots := 0, locals := 0 }
set_option maxHeartbeats 4000000 in
set_option maxRecDepth 100000 in
theorem m_X2_dot (l : Launch) (ff : Int) (aa : Int) (bb : Int) (hf : plc ff) (ha : plc aa) (hb1 : plc bb) : Met l yX2_dot wsX2_dot rX2_dot (PcS [.int (iZ (ff)), .int (iZ (aa)), .int (iZ (bb))]) (QcRead (iZ (dotZ ff aa bb))) 0 0 (fun _ => False) := by
  refine metS (cc := cX2_dot) (maxL := 5) (ret := (some .int)) (own := RX2) (by decide) rfl rfl (Nat.le_of_ble_eq_true rfl) (Or.inl rfl) ?_
  intro p e R s m args below meth c Q ls S hRf hRl hl K
  have hx := S.1
  have hb := S.2.1
  have hown := S.2.2.2.1
  have hts := S.2.2.2.2
  have hRf : 0 ≤ R.frames := hRf
  have hRl : 0 ≤ R.locals := hRl
  have hl : lv_has ls 5 [(0, .int (iZ (ff))), (1, .int (iZ (aa))), (2, .int (iZ (bb)))] := hl
  refine lv_iload_n hx hb dX2_dot_0 rfl (lv_at hl 0 rfl) ?_
  refine z_bipush hx hb dX2_dot_1 (by decide +kernel) ?_
  refine z_idiv hx hb (by omega) (by omega) (by decide) (by omega) dX2_dot_3 ?_
  refine lv_istore_n (lv' := [(3, .int (iZ ((ff) / (100)))), (0, .int (iZ (ff))), (1, .int (iZ (aa))), (2, .int (iZ (bb)))]) hx hb dX2_dot_4 rfl hl (by decide) rfl (fun ls hl => ?_)
  refine lv_iload_n hx hb dX2_dot_5 rfl (lv_at hl 1 rfl) ?_
  refine z_bipush hx hb dX2_dot_6 (by decide +kernel) ?_
  refine z_irem hx hb (by omega) (by omega) (by decide) (by omega) dX2_dot_8 ?_
  refine lv_istore (lv' := [(4, .int (iZ ((ff) % (100)))), (3, .int (iZ ((ff) / (100)))), (0, .int (iZ (ff))), (1, .int (iZ (aa))), (2, .int (iZ (bb)))]) hx hb dX2_dot_9 hl (by decide) rfl (fun ls hl => ?_)
  refine lv_iload_n hx hb dX2_dot_11 rfl (lv_at hl 3 rfl) ?_
  refine z_bipush hx hb dX2_dot_12 (by decide +kernel) ?_
  refine z_idiv hx hb (by omega) (by omega) (by decide) (by omega) dX2_dot_14 ?_
  refine lv_iload_n hx hb dX2_dot_15 rfl (lv_at hl 1 rfl) ?_
  refine z_isub hx hb dX2_dot_16 ?_
  refine lv_iload_n hx hb dX2_dot_17 rfl (lv_at hl 4 rfl) ?_
  refine z_bipush hx hb dX2_dot_18 (by decide +kernel) ?_
  refine z_idiv hx hb (by omega) (by omega) (by decide) (by omega) dX2_dot_20 ?_
  refine lv_iload_n hx hb dX2_dot_21 rfl (lv_at hl 1 rfl) ?_
  refine z_isub hx hb dX2_dot_22 ?_
  refine z_imul hx hb dX2_dot_23 ?_
  refine lv_iload_n hx hb dX2_dot_24 rfl (lv_at hl 3 rfl) ?_
  refine z_bipush hx hb dX2_dot_25 (by decide +kernel) ?_
  refine z_irem hx hb (by omega) (by omega) (by decide) (by omega) dX2_dot_27 ?_
  refine lv_iload hx hb dX2_dot_28 (lv_at hl 0 rfl) ?_
  refine z_isub hx hb dX2_dot_30 ?_
  refine lv_iload_n hx hb dX2_dot_31 rfl (lv_at hl 4 rfl) ?_
  refine z_bipush hx hb dX2_dot_32 (by decide +kernel) ?_
  refine z_irem hx hb (by omega) (by omega) (by decide) (by omega) dX2_dot_34 ?_
  refine lv_iload hx hb dX2_dot_35 (lv_at hl 0 rfl) ?_
  refine z_isub hx hb dX2_dot_37 ?_
  refine z_imul hx hb dX2_dot_38 ?_
  refine z_iadd hx hb dX2_dot_39 ?_
  exact K _ _ _ (rfl) dX2_dot_40
abbrev rX2_isBetween : Room := { frames := 1, cells := 0, slots := 0, locals := 24 }
set_option maxHeartbeats 4000000 in
set_option maxRecDepth 100000 in
theorem m_X2_isBetween (l : Launch) (ff : Int) (aa : Int) (bb : Int) (hf : plc ff) (ha : plc aa) (hb1 : plc bb) : Met l yX2_isBetween wsX2_isBetween rX2_isBetween (PcS [.int (iZ (ff)), .int (iZ (aa)), .int (iZ (bb))]) (QcRead (iZ (b2 (betw ff aa bb)))) 0 0 (fun _ => False) := by
  refine metS (cc := cX2_isBetween) (maxL := 3) (ret := (some .boolean)) (own := RX2) (by decide) rfl rfl (Nat.le_of_ble_eq_true rfl) (Or.inr ⟨rfl, b2_01 _⟩) ?_
  intro p e R s m args below meth c Q ls S hRf hRl hl K
  have hx := S.1
  have hb := S.2.1
  have hown := S.2.2.2.1
  have hts := S.2.2.2.2
  have hRf : 1 ≤ R.frames := hRf
  have hRl : 24 ≤ R.locals := hRl
  have hl : lv_has ls 3 [(0, .int (iZ (ff))), (1, .int (iZ (aa))), (2, .int (iZ (bb)))] := hl
  refine lv_iload_n hx hb dX2_isBetween_0 rfl (lv_at hl 0 rfl) ?_
  refine lv_iload_n hx hb dX2_isBetween_1 rfl (lv_at hl 1 rfl) ?_
  refine lv_iload_n hx hb dX2_isBetween_2 rfl (lv_at hl 2 rfl) ?_
  refine z_cSS (As := [.int (iZ (ff)), .int (iZ (aa)), .int (iZ (bb))]) (rest := []) S (m_X2_cross l (ff) (aa) (bb) (by omega) (by omega) (by omega)) (va_cwS 3 hts gX2_isBetween_X2_cross rfl rfl rfl (by decide +kernel) ⟨Nat.le_trans (by decide) hRf, Nat.le_trans (by decide) hRl⟩) rfl hl.1 rfl (Nat.le_of_ble_eq_true rfl) dX2_isBetween_3 ⟨Nat.zero_le _, Nat.zero_le _⟩ ?_
  have f1 := crossZ_b (ff) (aa) (bb) (by omega) (by omega) (by omega)
  refine z_if_ne (tgt := 22) hx hb (by omega) dX2_isBetween_6 (by decide) (fun c2 => ?_) (fun c2 => ?_)
  · skip
    refine z_iconst hx hb dX2_isBetween_22 ?_
    exact K _ _ _ (by first | exact b2_pos (by unfold betw; omega) rfl | exact b2_neg (by unfold betw; omega) rfl) dX2_isBetween_23
  · skip
    refine lv_iload_n hx hb dX2_isBetween_9 rfl (lv_at hl 0 rfl) ?_
    refine lv_iload_n hx hb dX2_isBetween_10 rfl (lv_at hl 1 rfl) ?_
    refine lv_iload_n hx hb dX2_isBetween_11 rfl (lv_at hl 2 rfl) ?_
    refine z_cSS (As := [.int (iZ (ff)), .int (iZ (aa)), .int (iZ (bb))]) (rest := []) S (m_X2_dot l (ff) (aa) (bb) (by omega) (by omega) (by omega)) (va_cwS 3 hts gX2_isBetween_X2_dot rfl rfl rfl (by decide +kernel) ⟨Nat.le_trans (by decide) hRf, Nat.le_trans (by decide) hRl⟩) rfl hl.1 rfl (Nat.le_of_ble_eq_true rfl) dX2_isBetween_12 ⟨Nat.zero_le _, Nat.zero_le _⟩ ?_
    have f3 := dotZ_b (ff) (aa) (bb) (by omega) (by omega) (by omega)
    refine z_if_ge (tgt := 22) hx hb (by omega) dX2_isBetween_15 (by decide) (fun c4 => ?_) (fun c4 => ?_)
    · skip
      refine z_iconst hx hb dX2_isBetween_22 ?_
      exact K _ _ _ (by first | exact b2_pos (by unfold betw; omega) rfl | exact b2_neg (by unfold betw; omega) rfl) dX2_isBetween_23
    · skip
      refine z_iconst hx hb dX2_isBetween_18 ?_
      refine lv_goto (tgt := 23) hx hb dX2_isBetween_19 (by decide) ?_
      exact K _ _ _ (by first | exact b2_pos (by unfold betw; omega) rfl | exact b2_neg (by unfold betw; omega) rfl) dX2_isBetween_23
abbrev rX2_meet : Room := { frames := 1, cells := 0, slots := 0, locals := 24 }
set_option maxHeartbeats 4000000 in
set_option maxRecDepth 100000 in
theorem m_X2_meet (l : Launch) (pp : Int) (qq : Int) (aa : Int) (bb : Int) (h1 : plc pp) (h2 : plc qq) (h3 : plc aa) (h4 : plc bb) : Met l yX2_meet wsX2_meet rX2_meet (PcS [.int (iZ (pp)), .int (iZ (qq)), .int (iZ (aa)), .int (iZ (bb))]) (QcRead (iZ (b2 (meetC pp qq aa bb)))) 0 0 (fun _ => False) := by
  refine metS (cc := cX2_meet) (maxL := 6) (ret := (some .boolean)) (own := RX2) (by decide) rfl rfl (Nat.le_of_ble_eq_true rfl) (Or.inr ⟨rfl, b2_01 _⟩) ?_
  intro p e R s m args below meth c Q ls S hRf hRl hl K
  have hx := S.1
  have hb := S.2.1
  have hown := S.2.2.2.1
  have hts := S.2.2.2.2
  have hRf : 1 ≤ R.frames := hRf
  have hRl : 24 ≤ R.locals := hRl
  have hl : lv_has ls 6 [(0, .int (iZ (pp))), (1, .int (iZ (qq))), (2, .int (iZ (aa))), (3, .int (iZ (bb)))] := hl
  refine lv_iload_n hx hb dX2_meet_0 rfl (lv_at hl 0 rfl) ?_
  refine lv_iload_n hx hb dX2_meet_1 rfl (lv_at hl 1 rfl) ?_
  refine lv_iload_n hx hb dX2_meet_2 rfl (lv_at hl 2 rfl) ?_
  refine z_cSS (As := [.int (iZ (pp)), .int (iZ (qq)), .int (iZ (aa))]) (rest := []) S (m_X2_cross l (pp) (qq) (aa) (by omega) (by omega) (by omega)) (va_cwS 3 hts gX2_meet_X2_cross rfl rfl rfl (by decide +kernel) ⟨Nat.le_trans (by decide) hRf, Nat.le_trans (by decide) hRl⟩) rfl hl.1 rfl (Nat.le_of_ble_eq_true rfl) dX2_meet_3 ⟨Nat.zero_le _, Nat.zero_le _⟩ ?_
  have f1 := crossZ_b (pp) (qq) (aa) (by omega) (by omega) (by omega)
  refine lv_istore (lv' := [(4, .int (iZ (crossZ (pp) (qq) (aa)))), (0, .int (iZ (pp))), (1, .int (iZ (qq))), (2, .int (iZ (aa))), (3, .int (iZ (bb)))]) hx hb dX2_meet_6 hl (by decide) rfl (fun ls hl => ?_)
  refine lv_iload_n hx hb dX2_meet_8 rfl (lv_at hl 1 rfl) ?_
  refine lv_iload_n hx hb dX2_meet_9 rfl (lv_at hl 2 rfl) ?_
  refine lv_iload_n hx hb dX2_meet_10 rfl (lv_at hl 4 rfl) ?_
  refine z_cSS (As := [.int (iZ (pp)), .int (iZ (qq)), .int (iZ (bb))]) (rest := []) S (m_X2_cross l (pp) (qq) (bb) (by omega) (by omega) (by omega)) (va_cwS 3 hts gX2_meet_X2_cross rfl rfl rfl (by decide +kernel) ⟨Nat.le_trans (by decide) hRf, Nat.le_trans (by decide) hRl⟩) rfl hl.1 rfl (Nat.le_of_ble_eq_true rfl) dX2_meet_11 ⟨Nat.zero_le _, Nat.zero_le _⟩ ?_
  have f2 := crossZ_b (pp) (qq) (bb) (by omega) (by omega) (by omega)
  refine lv_istore (lv' := [(5, .int (iZ (crossZ (pp) (qq) (bb)))), (4, .int (iZ (crossZ (pp) (qq) (aa)))), (0, .int (iZ (pp))), (1, .int (iZ (qq))), (2, .int (iZ (aa))), (3, .int (iZ (bb)))]) hx hb dX2_meet_14 hl (by decide) rfl (fun ls hl => ?_)
  have g1 := pr_b (crossZ_b pp qq aa (by omega) (by omega) (by omega)) (crossZ_b pp qq bb (by omega) (by omega) (by omega))
  refine lv_iload hx hb dX2_meet_16 (lv_at hl 1 rfl) ?_
  refine lv_iload hx hb dX2_meet_18 (lv_at hl 0 rfl) ?_
  refine z_imul hx hb dX2_meet_20 ?_
  refine z_if_gt (tgt := 40) hx hb (by omega) dX2_meet_21 (by decide) (fun c3 => ?_) (fun c3 => ?_)
  · skip
    refine z_iconst hx hb dX2_meet_40 ?_
    exact K _ _ _ (by first | exact b2_pos (by unfold meetC; omega) rfl | exact b2_neg (by unfold meetC; omega) rfl) dX2_meet_41
  · skip
    refine lv_iload_n hx hb dX2_meet_24 rfl (lv_at hl 4 rfl) ?_
    refine lv_iload_n hx hb dX2_meet_25 rfl (lv_at hl 5 rfl) ?_
    refine lv_iload_n hx hb dX2_meet_26 rfl (lv_at hl 2 rfl) ?_
    refine z_cSS (As := [.int (iZ (aa)), .int (iZ (bb)), .int (iZ (pp))]) (rest := []) S (m_X2_cross l (aa) (bb) (pp) (by omega) (by omega) (by omega)) (va_cwS 3 hts gX2_meet_X2_cross rfl rfl rfl (by decide +kernel) ⟨Nat.le_trans (by decide) hRf, Nat.le_trans (by decide) hRl⟩) rfl hl.1 rfl (Nat.le_of_ble_eq_true rfl) dX2_meet_27 ⟨Nat.zero_le _, Nat.zero_le _⟩ ?_
    have f4 := crossZ_b (aa) (bb) (pp) (by omega) (by omega) (by omega)
    refine lv_iload_n hx hb dX2_meet_30 rfl (lv_at hl 4 rfl) ?_
    refine lv_iload_n hx hb dX2_meet_31 rfl (lv_at hl 5 rfl) ?_
    refine lv_iload_n hx hb dX2_meet_32 rfl (lv_at hl 3 rfl) ?_
    refine z_cSS (As := [.int (iZ (aa)), .int (iZ (bb)), .int (iZ (qq))]) (rest := [.int (iZ (crossZ (aa) (bb) (pp)))]) S (m_X2_cross l (aa) (bb) (qq) (by omega) (by omega) (by omega)) (va_cwS 3 hts gX2_meet_X2_cross rfl rfl rfl (by decide +kernel) ⟨Nat.le_trans (by decide) hRf, Nat.le_trans (by decide) hRl⟩) rfl hl.1 rfl (Nat.le_of_ble_eq_true rfl) dX2_meet_33 ⟨Nat.zero_le _, Nat.zero_le _⟩ ?_
    have f5 := crossZ_b (aa) (bb) (qq) (by omega) (by omega) (by omega)
    have g2 := pr_b (crossZ_b aa bb pp (by omega) (by omega) (by omega)) (crossZ_b aa bb qq (by omega) (by omega) (by omega))
    refine z_imul hx hb dX2_meet_36 ?_
    refine z_if_le (tgt := 42) hx hb (by omega) dX2_meet_37 (by decide) (fun c6 => ?_) (fun c6 => ?_)
    · skip
      refine lv_iload hx hb dX2_meet_42 (lv_at hl 1 rfl) ?_
      refine z_if_ne (tgt := 52) hx hb (by omega) dX2_meet_44 (by decide) (fun c7 => ?_) (fun c7 => ?_)
      · skip
        refine z_iconst hx hb dX2_meet_52 ?_
        exact K _ _ _ (by first | exact b2_pos (by unfold meetC; omega) rfl | exact b2_neg (by unfold meetC; omega) rfl) dX2_meet_53
      · skip
        refine lv_iload hx hb dX2_meet_47 (lv_at hl 0 rfl) ?_
        refine z_if_eq (tgt := 54) hx hb (by omega) dX2_meet_49 (by decide) (fun c8 => ?_) (fun c8 => ?_)
        · skip
          refine lv_iload_n hx hb dX2_meet_54 rfl (lv_at hl 4 rfl) ?_
          refine lv_iload_n hx hb dX2_meet_55 rfl (lv_at hl 2 rfl) ?_
          refine lv_iload_n hx hb dX2_meet_56 rfl (lv_at hl 3 rfl) ?_
          refine z_cSS (As := [.int (iZ (aa)), .int (iZ (pp)), .int (iZ (qq))]) (rest := []) S (m_X2_dot l (aa) (pp) (qq) (by omega) (by omega) (by omega)) (va_cwS 3 hts gX2_meet_X2_dot rfl rfl rfl (by decide +kernel) ⟨Nat.le_trans (by decide) hRf, Nat.le_trans (by decide) hRl⟩) rfl hl.1 rfl (Nat.le_of_ble_eq_true rfl) dX2_meet_57 ⟨Nat.zero_le _, Nat.zero_le _⟩ ?_
          have f9 := dotZ_b (aa) (pp) (qq) (by omega) (by omega) (by omega)
          refine z_if_le (tgt := 81) hx hb (by omega) dX2_meet_60 (by decide) (fun c10 => ?_) (fun c10 => ?_)
          · skip
            refine z_iconst hx hb dX2_meet_81 ?_
            refine lv_goto (tgt := 86) hx hb dX2_meet_82 (by decide) ?_
            exact K _ _ _ (by first | exact b2_pos (by unfold meetC; omega) rfl | exact b2_neg (by unfold meetC; omega) rfl) dX2_meet_86
          · skip
            refine lv_iload_n hx hb dX2_meet_63 rfl (lv_at hl 5 rfl) ?_
            refine lv_iload_n hx hb dX2_meet_64 rfl (lv_at hl 2 rfl) ?_
            refine lv_iload_n hx hb dX2_meet_65 rfl (lv_at hl 3 rfl) ?_
            refine z_cSS (As := [.int (iZ (bb)), .int (iZ (pp)), .int (iZ (qq))]) (rest := []) S (m_X2_dot l (bb) (pp) (qq) (by omega) (by omega) (by omega)) (va_cwS 3 hts gX2_meet_X2_dot rfl rfl rfl (by decide +kernel) ⟨Nat.le_trans (by decide) hRf, Nat.le_trans (by decide) hRl⟩) rfl hl.1 rfl (Nat.le_of_ble_eq_true rfl) dX2_meet_66 ⟨Nat.zero_le _, Nat.zero_le _⟩ ?_
            have f11 := dotZ_b (bb) (pp) (qq) (by omega) (by omega) (by omega)
            refine z_if_le (tgt := 81) hx hb (by omega) dX2_meet_69 (by decide) (fun c12 => ?_) (fun c12 => ?_)
            · skip
              refine z_iconst hx hb dX2_meet_81 ?_
              refine lv_goto (tgt := 86) hx hb dX2_meet_82 (by decide) ?_
              exact K _ _ _ (by first | exact b2_pos (by unfold meetC; omega) rfl | exact b2_neg (by unfold meetC; omega) rfl) dX2_meet_86
            · skip
              refine lv_iload_n hx hb dX2_meet_72 rfl (lv_at hl 2 rfl) ?_
              refine lv_iload_n hx hb dX2_meet_73 rfl (lv_at hl 4 rfl) ?_
              refine lv_iload_n hx hb dX2_meet_74 rfl (lv_at hl 5 rfl) ?_
              refine z_cSS (As := [.int (iZ (pp)), .int (iZ (aa)), .int (iZ (bb))]) (rest := []) S (m_X2_dot l (pp) (aa) (bb) (by omega) (by omega) (by omega)) (va_cwS 3 hts gX2_meet_X2_dot rfl rfl rfl (by decide +kernel) ⟨Nat.le_trans (by decide) hRf, Nat.le_trans (by decide) hRl⟩) rfl hl.1 rfl (Nat.le_of_ble_eq_true rfl) dX2_meet_75 ⟨Nat.zero_le _, Nat.zero_le _⟩ ?_
              have f13 := dotZ_b (pp) (aa) (bb) (by omega) (by omega) (by omega)
              refine z_if_gt (tgt := 85) hx hb (by omega) dX2_meet_78 (by decide) (fun c14 => ?_) (fun c14 => ?_)
              · skip
                refine z_iconst hx hb dX2_meet_85 ?_
                exact K _ _ _ (by first | exact b2_pos (by unfold meetC; omega) rfl | exact b2_neg (by unfold meetC; omega) rfl) dX2_meet_86
              · skip
                refine z_iconst hx hb dX2_meet_81 ?_
                refine lv_goto (tgt := 86) hx hb dX2_meet_82 (by decide) ?_
                exact K _ _ _ (by first | exact b2_pos (by unfold meetC; omega) rfl | exact b2_neg (by unfold meetC; omega) rfl) dX2_meet_86
        · skip
          refine z_iconst hx hb dX2_meet_52 ?_
          exact K _ _ _ (by first | exact b2_pos (by unfold meetC; omega) rfl | exact b2_neg (by unfold meetC; omega) rfl) dX2_meet_53
    · skip
      refine z_iconst hx hb dX2_meet_40 ?_
      exact K _ _ _ (by first | exact b2_pos (by unfold meetC; omega) rfl | exact b2_neg (by unfold meetC; omega) rfl) dX2_meet_41
abbrev rX2_inCone : Room := { frames := 1, cells := 0, slots := 0, locals := 24 }
set_option maxHeartbeats 4000000 in
set_option maxRecDepth 100000 in
theorem m_X2_inCone (l : Launch) (ff : Int) (mm : Int) (pp : Int) (hf : plc ff) (hm : plc mm) (hp : plc pp) : Met l yX2_inCone wsX2_inCone rX2_inCone (PcS [.int (iZ (ff)), .int (iZ (mm)), .int (iZ (pp))]) (QcRead (iZ (b2 (cone ff mm pp)))) 0 0 (fun _ => False) := by
  refine metS (cc := cX2_inCone) (maxL := 4) (ret := (some .boolean)) (own := RX2) (by decide) rfl rfl (Nat.le_of_ble_eq_true rfl) (Or.inr ⟨rfl, b2_01 _⟩) ?_
  intro p e R s m args below meth c Q ls S hRf hRl hl K
  have hx := S.1
  have hb := S.2.1
  have hown := S.2.2.2.1
  have hts := S.2.2.2.2
  have hRf : 1 ≤ R.frames := hRf
  have hRl : 24 ≤ R.locals := hRl
  have hl : lv_has ls 4 [(0, .int (iZ (ff))), (1, .int (iZ (mm))), (2, .int (iZ (pp)))] := hl
  refine lv_iload_n hx hb dX2_inCone_0 rfl (lv_at hl 0 rfl) ?_
  refine lv_iload_n hx hb dX2_inCone_1 rfl (lv_at hl 1 rfl) ?_
  refine lv_iload_n hx hb dX2_inCone_2 rfl (lv_at hl 2 rfl) ?_
  refine z_cSS (As := [.int (iZ (ff)), .int (iZ (mm)), .int (iZ (pp))]) (rest := []) S (m_X2_dot l (ff) (mm) (pp) (by omega) (by omega) (by omega)) (va_cwS 3 hts gX2_inCone_X2_dot rfl rfl rfl (by decide +kernel) ⟨Nat.le_trans (by decide) hRf, Nat.le_trans (by decide) hRl⟩) rfl hl.1 rfl (Nat.le_of_ble_eq_true rfl) dX2_inCone_3 ⟨Nat.zero_le _, Nat.zero_le _⟩ ?_
  have f1 := dotZ_b (ff) (mm) (pp) (by omega) (by omega) (by omega)
  refine lv_istore_n (lv' := [(3, .int (iZ (dotZ (ff) (mm) (pp)))), (0, .int (iZ (ff))), (1, .int (iZ (mm))), (2, .int (iZ (pp)))]) hx hb dX2_inCone_6 rfl hl (by decide) rfl (fun ls hl => ?_)
  refine lv_iload_n hx hb dX2_inCone_7 rfl (lv_at hl 0 rfl) ?_
  refine z_if_le (tgt := 36) hx hb (by omega) dX2_inCone_8 (by decide) (fun c2 => ?_) (fun c2 => ?_)
  · skip
    refine z_iconst hx hb dX2_inCone_36 ?_
    exact K _ _ _ (by first | exact b2_pos (by unfold cone; omega) rfl | exact b2_neg (by unfold cone; omega) rfl) dX2_inCone_37
  · skip
    refine z_iconst hx hb dX2_inCone_11 ?_
    refine lv_iload_n hx hb dX2_inCone_12 rfl (lv_at hl 0 rfl) ?_
    refine z_imul hx hb dX2_inCone_13 ?_
    refine lv_iload_n hx hb dX2_inCone_14 rfl (lv_at hl 0 rfl) ?_
    refine z_imul hx hb dX2_inCone_15 ?_
    refine lv_iload_n hx hb dX2_inCone_16 rfl (lv_at hl 1 rfl) ?_
    refine lv_iload_n hx hb dX2_inCone_17 rfl (lv_at hl 2 rfl) ?_
    refine lv_iload_n hx hb dX2_inCone_18 rfl (lv_at hl 2 rfl) ?_
    refine z_cSS (As := [.int (iZ (ff)), .int (iZ (mm)), .int (iZ (mm))]) (rest := [.int (iZ (((2) * (dotZ (ff) (mm) (pp))) * (dotZ (ff) (mm) (pp))))]) S (m_X2_dot l (ff) (mm) (mm) (by omega) (by omega) (by omega)) (va_cwS 3 hts gX2_inCone_X2_dot rfl rfl rfl (by decide +kernel) ⟨Nat.le_trans (by decide) hRf, Nat.le_trans (by decide) hRl⟩) rfl hl.1 rfl (Nat.le_of_ble_eq_true rfl) dX2_inCone_19 ⟨Nat.zero_le _, Nat.zero_le _⟩ ?_
    have f3 := dotZ_b (ff) (mm) (mm) (by omega) (by omega) (by omega)
    refine lv_iload_n hx hb dX2_inCone_22 rfl (lv_at hl 1 rfl) ?_
    refine lv_iload_n hx hb dX2_inCone_23 rfl (lv_at hl 3 rfl) ?_
    refine lv_iload_n hx hb dX2_inCone_24 rfl (lv_at hl 3 rfl) ?_
    refine z_cSS (As := [.int (iZ (ff)), .int (iZ (pp)), .int (iZ (pp))]) (rest := [.int (iZ (dotZ (ff) (mm) (mm))), .int (iZ (((2) * (dotZ (ff) (mm) (pp))) * (dotZ (ff) (mm) (pp))))]) S (m_X2_dot l (ff) (pp) (pp) (by omega) (by omega) (by omega)) (va_cwS 3 hts gX2_inCone_X2_dot rfl rfl rfl (by decide +kernel) ⟨Nat.le_trans (by decide) hRf, Nat.le_trans (by decide) hRl⟩) rfl hl.1 rfl (Nat.le_of_ble_eq_true rfl) dX2_inCone_25 ⟨Nat.zero_le _, Nat.zero_le _⟩ ?_
    have f4 := dotZ_b (ff) (pp) (pp) (by omega) (by omega) (by omega)
    have g1 := pr_b (dotZ_b ff mm mm (by omega) (by omega) (by omega)) (dotZ_b ff pp pp (by omega) (by omega) (by omega))
    have g2 := pr2_b (dotZ_b ff mm pp (by omega) (by omega) (by omega))
    refine z_imul hx hb dX2_inCone_28 ?_
    refine z_icmp_lt (tgt := 36) hx hb (by omega) (by omega) dX2_inCone_29 (by decide) (fun c5 => ?_) (fun c5 => ?_)
    · skip
      refine z_iconst hx hb dX2_inCone_36 ?_
      exact K _ _ _ (by first | exact b2_pos (by unfold cone; omega) rfl | exact b2_neg (by unfold cone; omega) rfl) dX2_inCone_37
    · skip
      refine z_iconst hx hb dX2_inCone_32 ?_
      refine lv_goto (tgt := 37) hx hb dX2_inCone_33 (by decide) ?_
      exact K _ _ _ (by first | exact b2_pos (by unfold cone; omega) rfl | exact b2_neg (by unfold cone; omega) rfl) dX2_inCone_37
abbrev rX2_sizeSeen : Room := { frames := 1, cells := 0, slots := 0, locals := 24 }
set_option maxHeartbeats 4000000 in
set_option maxRecDepth 100000 in
theorem m_X2_sizeSeen (l : Launch) (ff : Int) (xx : Int) (hf : plc ff) (hx : plc xx) : Met l yX2_sizeSeen wsX2_sizeSeen rX2_sizeSeen (PcS [.int (iZ (ff)), .int (iZ (xx))]) (QcRead (iZ (sizeZ ff xx))) 0 0 (fun _ => False) := by
  refine metS (cc := cX2_sizeSeen) (maxL := 3) (ret := (some .int)) (own := RX2) (by decide) rfl rfl (Nat.le_of_ble_eq_true rfl) (Or.inl rfl) ?_
  intro p e R s m args below meth c Q ls S hRf hRl hl K
  have hx := S.1
  have hb := S.2.1
  have hown := S.2.2.2.1
  have hts := S.2.2.2.2
  have hRf : 1 ≤ R.frames := hRf
  have hRl : 24 ≤ R.locals := hRl
  have hl : lv_has ls 3 [(0, .int (iZ (ff))), (1, .int (iZ (xx)))] := hl
  refine lv_iload_n hx hb dX2_sizeSeen_0 rfl (lv_at hl 0 rfl) ?_
  refine lv_iload_n hx hb dX2_sizeSeen_1 rfl (lv_at hl 1 rfl) ?_
  refine lv_iload_n hx hb dX2_sizeSeen_2 rfl (lv_at hl 1 rfl) ?_
  refine z_cSS (As := [.int (iZ (ff)), .int (iZ (xx)), .int (iZ (xx))]) (rest := []) S (m_X2_dot l (ff) (xx) (xx) (by omega) (by omega) (by omega)) (va_cwS 3 hts gX2_sizeSeen_X2_dot rfl rfl rfl (by decide +kernel) ⟨Nat.le_trans (by decide) hRf, Nat.le_trans (by decide) hRl⟩) rfl hl.1 rfl (Nat.le_of_ble_eq_true rfl) dX2_sizeSeen_3 ⟨Nat.zero_le _, Nat.zero_le _⟩ ?_
  have f1 := dotZ_b (ff) (xx) (xx) (by omega) (by omega) (by omega)
  refine lv_istore_n (lv' := [(2, .int (iZ (dotZ (ff) (xx) (xx)))), (0, .int (iZ (ff))), (1, .int (iZ (xx)))]) hx hb dX2_sizeSeen_6 rfl hl (by decide) rfl (fun ls hl => ?_)
  refine lv_iload_n hx hb dX2_sizeSeen_7 rfl (lv_at hl 0 rfl) ?_
  refine z_bipush hx hb dX2_sizeSeen_8 (by decide +kernel) ?_
  refine z_icmp_gt (tgt := 17) hx hb (by omega) (by decide) dX2_sizeSeen_10 (by decide) (fun c2 => ?_) (fun c2 => ?_)
  · skip
    refine lv_iload_n hx hb dX2_sizeSeen_17 rfl (lv_at hl 0 rfl) ?_
    refine z_bipush hx hb dX2_sizeSeen_18 (by decide +kernel) ?_
    refine z_icmp_gt (tgt := 27) hx hb (by omega) (by decide) dX2_sizeSeen_20 (by decide) (fun c3 => ?_) (fun c3 => ?_)
    · skip
      refine z_iconst hx hb dX2_sizeSeen_27 ?_
      exact K _ _ _ (by unfold sizeZ; first | rw [if_pos (by omega)] | rw [if_neg (by omega), if_pos (by omega)] | rw [if_neg (by omega), if_neg (by omega)]) dX2_sizeSeen_28
    · skip
      refine z_iconst hx hb dX2_sizeSeen_23 ?_
      refine lv_goto (tgt := 28) hx hb dX2_sizeSeen_24 (by decide) ?_
      exact K _ _ _ (by unfold sizeZ; first | rw [if_pos (by omega)] | rw [if_neg (by omega), if_pos (by omega)] | rw [if_neg (by omega), if_neg (by omega)]) dX2_sizeSeen_28
  · skip
    refine z_iconst hx hb dX2_sizeSeen_13 ?_
    refine lv_goto (tgt := 28) hx hb dX2_sizeSeen_14 (by decide) ?_
    exact K _ _ _ (by unfold sizeZ; first | rw [if_pos (by omega)] | rw [if_neg (by omega), if_pos (by omega)] | rw [if_neg (by omega), if_neg (by omega)]) dX2_sizeSeen_28
abbrev rJ6_signum_0f7a4 : Room := { frames := 0, cells := 0, slots := 0, locals := 0 }
set_option maxHeartbeats 4000000 in
set_option maxRecDepth 100000 in
theorem m_J6_signum_0f7a4 (l : Launch) (xx : Int) (h1 : -1922 ≤ xx ∧ xx ≤ 1922) : Met l yJ6_signum_0f7a4 wsJ6_signum_0f7a4 rJ6_signum_0f7a4 (PcS [.int (iZ (xx))]) (QcRead (iZ (sg xx))) 0 0 (fun _ => False) := by
  refine metS (cc := cJ6_signum_0f7a4) (maxL := 1) (ret := (some .int)) (own := RJ6) (by decide) rfl rfl (Nat.le_of_ble_eq_true rfl) (Or.inl rfl) ?_
  intro p e R s m args below meth c Q ls S hRf hRl hl K
  have hx := S.1
  have hb := S.2.1
  have hown := S.2.2.2.1
  have hts := S.2.2.2.2
  have hRf : 0 ≤ R.frames := hRf
  have hRl : 0 ≤ R.locals := hRl
  have hl : lv_has ls 1 [(0, .int (iZ (xx)))] := hl
  refine lv_iload_n hx hb dJ6_signum_0f7a4_0 rfl (lv_at hl 0 rfl) ?_
  refine z_bipush hx hb dJ6_signum_0f7a4_1 (by decide +kernel) ?_
  refine z_ishr hx hb dJ6_signum_0f7a4_3 ?_
  refine lv_iload_n hx hb dJ6_signum_0f7a4_4 rfl (lv_at hl 0 rfl) ?_
  refine z_ineg hx hb dJ6_signum_0f7a4_5 ?_
  refine z_bipush hx hb dJ6_signum_0f7a4_6 (by decide +kernel) ?_
  refine z_iushr hx hb dJ6_signum_0f7a4_8 ?_
  refine z_ior hx hb dJ6_signum_0f7a4_9 ?_
  exact K _ _ _ (sg_zz h1) dJ6_signum_0f7a4_10
end
section
abbrev rX0_mustShow : Room := { frames := 0, cells := 0, slots := 0, locals := 0 }
set_option maxHeartbeats 4000000 in
set_option maxRecDepth 100000 in
theorem m_X0_mustShow (l : Launch) (D : va_G) (g : Nat → ClassId) (a : Nat → Nat) (st : SS) (bb : Int) (pp : Int) (hI : IC st) (h1 : 0 ≤ bb ∧ bb < 8) (h2 : 0 ≤ pp ∧ pp < 32) : Met l yX0_mustShow wsX0_mustShow rX0_mustShow (PcR D g (WC g a st) [.ref (a (19 + (bb).toNat)), .int (iZ (pp))]) (QcRead (iZ (b2 (bt (st 13 bb) pp)))) 0 0 (fun _ => False) := by
  refine metR (cc := cX0_mustShow) (maxL := 2) (ret := (some .boolean)) (own := RX0) (by decide) rfl rfl (Nat.le_of_ble_eq_true rfl) (Or.inr ⟨rfl, b2_01 _⟩) ?_
  intro p e R s m args below meth c Q ls S hRf hRl hK hP hl K
  have hx := S.1
  have hb := S.2.1
  have hown := S.2.2.2.1
  have hts := S.2.2.2.2
  have hRf : 0 ≤ R.frames := hRf
  have hRl : 0 ≤ R.locals := hRl
  have hl : lv_has ls 2 [(0, .ref (a (19 + (bb).toNat))), (1, .int (iZ (pp)))] := hl
  have iX0 : ∀ w ∈ wsX00, w ∈ wsX0_mustShow := by decide +kernel
  have hB := hI.bd bb (by omega) (by omega)
  refine lv_aload_n hx hb dX0_mustShow_0 rfl (lv_at hl 0 rfl) ?_
  refine z_get (C := RX0) (T := TX0) (N := 8) (ci := 0) hx hb hts iX0 hown hK hP (19 + (bb).toNat) (WC_bd g a _ (by omega) (by omega)) rfl 2 (by decide) (hts (.fieldLink RX0 9 "ShotBoard$Board" "mask" "I") (by decide +kernel)) (.int (iZ (st 13 (bb)))) rfl dX0_mustShow_1 ?_
  refine lv_iload_n hx hb dX0_mustShow_4 rfl (lv_at hl 1 rfl) ?_
  refine z_ishr hx hb dX0_mustShow_5 ?_
  refine z_iconst hx hb dX0_mustShow_6 ?_
  refine z_iand hx hb dX0_mustShow_7 ?_
  refine z_as (y := b2 (bt (st 13 bb) pp)) (bit_z (by omega) (by omega) (by omega) (by omega)) ?_
  refine z_if_eq (tgt := 15) hx hb (b2_rg _) dX0_mustShow_8 (by decide) (fun c1 => ?_) (fun c1 => ?_)
  · skip
    have c1 := b2_0 c1
    refine z_iconst hx hb dX0_mustShow_15 ?_
    exact K _ _ _ (by first | exact b2_pos ‹_› rfl | exact b2_neg ‹_› rfl) dX0_mustShow_16
  · skip
    have c1 := b2_n0 c1
    refine z_iconst hx hb dX0_mustShow_11 ?_
    refine lv_goto (tgt := 16) hx hb dX0_mustShow_12 (by decide) ?_
    exact K _ _ _ (by first | exact b2_pos ‹_› rfl | exact b2_neg ‹_› rfl) dX0_mustShow_16
abbrev rX0_partner : Room := { frames := 1, cells := 0, slots := 0, locals := 21 }
set_option maxHeartbeats 4000000 in
set_option maxRecDepth 100000 in
theorem m_X0_partner (l : Launch) (D : va_G) (g : Nat → ClassId) (a : Nat → Nat) (st : SS) (bb : Int) (hI : IC st) (h1 : 0 ≤ bb ∧ bb < 8) : Met l yX0_partner wsX0_partner rX0_partner (PcR D g (WC g a st) [.ref (a (19 + (bb).toNat))]) (QcRead (iZ (PTN (st 12 bb) (st 13 bb)))) 0 0 (fun _ => False) := by
  refine metR (cc := cX0_partner) (maxL := 2) (ret := (some .int)) (own := RX0) (by decide) rfl rfl (Nat.le_of_ble_eq_true rfl) (Or.inl rfl) ?_
  intro p e R s m args below meth c Q ls S hRf hRl hK hP hl K
  have hx := S.1
  have hb := S.2.1
  have hown := S.2.2.2.1
  have hts := S.2.2.2.2
  have hRf : 1 ≤ R.frames := hRf
  have hRl : 21 ≤ R.locals := hRl
  have hl : lv_has ls 2 [(0, .ref (a (19 + (bb).toNat)))] := hl
  have iX0 : ∀ w ∈ wsX00, w ∈ wsX0_partner := by decide +kernel
  have hB := hI.bd bb (by omega) (by omega)
  refine z_iconst hx hb dX0_partner_0 ?_
  refine lv_istore_n (lv' := [(1, .int (iZ (0))), (0, .ref (a (19 + (bb).toNat)))]) hx hb dX0_partner_1 rfl hl (by decide) rfl (fun ls hl => ?_)
  have LP2 : ∀ (n2 : Nat) (qq : Int), (6 - qq) < (n2 : Int) → (0 ≤ qq ∧ qq ≤ 6) → (∀ j, 0 ≤ j → j < qq → ¬ (j ≠ st 12 bb ∧ bt (st 13 bb) j)) → ∀ (ls : Array Slot), lv_has ls 2 [(1, .int (iZ (qq))), (0, .ref (a (19 + (bb).toNat)))] → W p l e R s m args below meth c s.heap [] 0 0 Q (F0 m 2 ls []) := by
    intro n2
    induction n2 with
    | zero =>
      intro qq hm2 j1 j2  ls hl
      exact absurd hm2 (by omega)
    | succ n2 ih2 =>
      intro qq hm2 j1 j2  ls hl
      refine lv_iload_n hx hb dX0_partner_2 rfl (lv_at hl 0 rfl) ?_
      refine z_bipush hx hb dX0_partner_3 (by decide +kernel) ?_
      refine z_icmp_ge (tgt := 32) hx hb (by omega) (by decide) dX0_partner_5 (by decide) (fun c1 => ?_) (fun c1 => ?_)
      · skip
        refine lv_aload_n hx hb dX0_partner_32 rfl (lv_at hl 1 rfl) ?_
        refine z_get (C := RX0) (T := TX0) (N := 8) (ci := 0) hx hb hts iX0 hown hK hP (19 + (bb).toNat) (WC_bd g a _ (by omega) (by omega)) rfl 1 (by decide) (hts (.fieldLink RX0 15 "ShotBoard$Board" "main" "I") (by decide +kernel)) (.int (iZ (st 12 (bb)))) rfl dX0_partner_33 ?_
        exact K _ _ _ (by unfold PTN; rw [fP_no (fun j a b => j2 j a (by omega)), if_pos rfl]) dX0_partner_36
      · skip
        refine lv_iload_n hx hb dX0_partner_8 rfl (lv_at hl 0 rfl) ?_
        refine lv_aload_n hx hb dX0_partner_9 rfl (lv_at hl 1 rfl) ?_
        refine z_get (C := RX0) (T := TX0) (N := 8) (ci := 0) hx hb hts iX0 hown hK hP (19 + (bb).toNat) (WC_bd g a _ (by omega) (by omega)) rfl 1 (by decide) (hts (.fieldLink RX0 15 "ShotBoard$Board" "main" "I") (by decide +kernel)) (.int (iZ (st 12 (bb)))) rfl dX0_partner_10 ?_
        refine z_icmp_eq (tgt := 26) hx hb (by omega) (by omega) dX0_partner_13 (by decide) (fun c2 => ?_) (fun c2 => ?_)
        · skip
          refine z_iinc (lv' := [(1, .int (iZ ((qq) + 1))), (0, .ref (a (19 + (bb).toNat)))]) hx hb dX0_partner_26 hl (k := 0) rfl (by decide) rfl (fun ls hl => ?_)
          refine lv_goto (tgt := 2) hx hb dX0_partner_29 (by decide) ?_
          exact ih2 ((qq) + 1) (by omega) (by omega) (fun j a b => by
      by_cases e9 : j = qq
      · subst e9; exact fun z => by first | exact z.1 (by omega) | exact hnb z.2
      · exact j2 j a (by omega))  ls (lv_sub hl [0, 1] rfl)
        · skip
          refine lv_aload_n hx hb dX0_partner_16 rfl (lv_at hl 1 rfl) ?_
          refine lv_iload_n hx hb dX0_partner_17 rfl (lv_at hl 0 rfl) ?_
          refine z_cVR (q0 := (19 + (bb).toNat)) (ci := 0) (As := [.int (iZ (qq))]) (rest := []) S (m_X0_mustShow l D g a (st) (bb) (qq) hI (by omega) (by omega)) (cwV 1 hts gX0_partner_X0_mustShow rfl rfl rfl (by decide +kernel) ⟨Nat.le_trans (by decide) hRf, Nat.le_trans (by decide) hRl⟩) hK hP rfl (WC_bd g a _ (by omega) (by omega)) rfl hl.1 rfl (Nat.le_of_ble_eq_true rfl) dX0_partner_18 ⟨Nat.zero_le _, Nat.zero_le _⟩ ?_
          refine z_if_eq (tgt := 26) hx hb (b2_rg _) dX0_partner_21 (by decide) (fun c3 => ?_) (fun c3 => ?_)
          · skip
            have c3 := b2_0 c3
            have hnb := c3
            refine z_iinc (lv' := [(1, .int (iZ ((qq) + 1))), (0, .ref (a (19 + (bb).toNat)))]) hx hb dX0_partner_26 hl (k := 0) rfl (by decide) rfl (fun ls hl => ?_)
            refine lv_goto (tgt := 2) hx hb dX0_partner_29 (by decide) ?_
            exact ih2 ((qq) + 1) (by omega) (by omega) (fun j a b => by
      by_cases e9 : j = qq
      · subst e9; exact fun z => by first | exact z.1 (by omega) | exact hnb z.2
      · exact j2 j a (by omega))  ls (lv_sub hl [0, 1] rfl)
          · skip
            have c3 := b2_n0 c3
            have hyb := c3
            refine lv_iload_n hx hb dX0_partner_24 rfl (lv_at hl 0 rfl) ?_
            exact K _ _ _ (by unfold PTN; rw [fP_is (q := qq) (by omega) (by omega) ⟨by omega, hyb⟩ j2, if_neg (by omega)]) dX0_partner_25
  exact LP2 ((6 - (0)) + 1 : Int).toNat (0) (by omega) (by omega) (fun j a b => by omega)  ls (lv_sub hl [0, 1] rfl)
abbrev rX0_speakers : Room := { frames := 2, cells := 0, slots := 0, locals := 42 }
set_option maxHeartbeats 4000000 in
set_option maxRecDepth 100000 in
theorem m_X0_speakers (l : Launch) (D : va_G) (g : Nat → ClassId) (a : Nat → Nat) (st : SS) (bb : Int) (hI : IC st) (h1 : 0 ≤ bb ∧ bb < 8) : Met l yX0_speakers wsX0_speakers rX0_speakers (PcR D g (WC g a st) [.ref (a (19 + (bb).toNat))]) (QcRead (iZ (spk (st 12 bb) (PTN (st 12 bb) (st 13 bb))))) 0 0 (fun _ => False) := by
  refine metR (cc := cX0_speakers) (maxL := 1) (ret := (some .int)) (own := RX0) (by decide) rfl rfl (Nat.le_of_ble_eq_true rfl) (Or.inl rfl) ?_
  intro p e R s m args below meth c Q ls S hRf hRl hK hP hl K
  have hx := S.1
  have hb := S.2.1
  have hown := S.2.2.2.1
  have hts := S.2.2.2.2
  have hRf : 2 ≤ R.frames := hRf
  have hRl : 42 ≤ R.locals := hRl
  have hl : lv_has ls 1 [(0, .ref (a (19 + (bb).toNat)))] := hl
  have iX0 : ∀ w ∈ wsX00, w ∈ wsX0_speakers := by decide +kernel
  have hB := hI.bd bb (by omega) (by omega)
  refine z_iconst hx hb dX0_speakers_0 ?_
  refine lv_aload_n hx hb dX0_speakers_1 rfl (lv_at hl 0 rfl) ?_
  refine z_get (C := RX0) (T := TX0) (N := 8) (ci := 0) hx hb hts iX0 hown hK hP (19 + (bb).toNat) (WC_bd g a _ (by omega) (by omega)) rfl 1 (by decide) (hts (.fieldLink RX0 15 "ShotBoard$Board" "main" "I") (by decide +kernel)) (.int (iZ (st 12 (bb)))) rfl dX0_speakers_2 ?_
  refine z_ishl hx hb dX0_speakers_5 ?_
  refine z_iconst hx hb dX0_speakers_6 ?_
  refine lv_aload_n hx hb dX0_speakers_7 rfl (lv_at hl 0 rfl) ?_
  refine z_cVR (q0 := (19 + (bb).toNat)) (ci := 0) (As := []) (rest := [.int (iZ (1)), .int (iZ (zshl (1) (st 12 (bb))))]) S (m_X0_partner l D g a (st) (bb) hI (by omega)) (cwV 0 hts gX0_speakers_X0_partner rfl rfl rfl (by decide +kernel) ⟨Nat.le_trans (by decide) hRf, Nat.le_trans (by decide) hRl⟩) hK hP rfl (WC_bd g a _ (by omega) (by omega)) rfl hl.1 rfl (Nat.le_of_ble_eq_true rfl) dX0_speakers_8 ⟨Nat.zero_le _, Nat.zero_le _⟩ ?_
  have f1 := PTN_b (st 12 (bb)) (st 13 (bb)) (by have h9 := hI.bd (bb) (by omega) (by omega); omega)
  refine z_ishl hx hb dX0_speakers_11 ?_
  refine z_ior hx hb dX0_speakers_12 ?_
  exact K _ _ _ (rfl) dX0_speakers_13
end
section
abbrev rX6_placeOf : Room := { frames := 0, cells := 0, slots := 0, locals := 0 }
set_option maxHeartbeats 4000000 in
set_option maxRecDepth 100000 in
theorem m_X6_placeOf (l : Launch) (D : va_G) (g : Nat → ClassId) (a : Nat → Nat) (st : SS) (pp : Int) (tt : Int) (hI : IC st) (h1 : 0 ≤ pp ∧ pp < 6) (h2 : 0 ≤ tt ∧ tt < 60) : Met l yX6_placeOf wsX6_placeOf rX6_placeOf (PcR D g (WC g a st) [.ref (a 1), .int (iZ (pp)), .int (iZ (tt))]) (QcRead (iZ (st 0 (pp * 60 + tt)))) 0 0 (fun _ => False) := by
  refine metR (cc := cX6_placeOf) (maxL := 3) (ret := (some .int)) (own := RX6) (by decide) rfl rfl (Nat.le_of_ble_eq_true rfl) (Or.inl rfl) ?_
  intro p e R s m args below meth c Q ls S hRf hRl hK hP hl K
  have hx := S.1
  have hb := S.2.1
  have hown := S.2.2.2.1
  have hts := S.2.2.2.2
  have hRf : 0 ≤ R.frames := hRf
  have hRl : 0 ≤ R.locals := hRl
  have hl : lv_has ls 3 [(0, .ref (a 1)), (1, .int (iZ (pp))), (2, .int (iZ (tt)))] := hl
  have iX6 : ∀ w ∈ wsX60, w ∈ wsX6_placeOf := by decide +kernel
  refine lv_aload_n hx hb dX6_placeOf_0 rfl (lv_at hl 0 rfl) ?_
  refine z_get (C := RX6) (T := TX6) (N := 6) (ci := 5) hx hb hts iX6 hown hK hP 1 rfl rfl 0 (by decide) (hts (.fieldLink RX6 9 "ShotBoard$Stage" "placeAt" "[I") (by decide +kernel)) (.ref (a 7)) rfl dX6_placeOf_1 ?_
  refine lv_iload_n hx hb dX6_placeOf_4 rfl (lv_at hl 1 rfl) ?_
  refine z_bipush hx hb dX6_placeOf_5 (by decide +kernel) ?_
  refine z_imul hx hb dX6_placeOf_7 ?_
  refine lv_iload_n hx hb dX6_placeOf_8 rfl (lv_at hl 2 rfl) ?_
  refine z_iadd hx hb dX6_placeOf_9 ?_
  refine z_iald hx hb hK hP 7 (st 0) rfl (by omega) (by omega) (by omega) dX6_placeOf_10 ?_
  have f1 := hI.c0 (((pp) * (60)) + (tt)) (by omega) (by omega)
  exact K _ _ _ (rfl) dX6_placeOf_11
abbrev rX6_hasStep : Room := { frames := 0, cells := 0, slots := 0, locals := 0 }
set_option maxHeartbeats 4000000 in
set_option maxRecDepth 100000 in
theorem m_X6_hasStep (l : Launch) (D : va_G) (g : Nat → ClassId) (a : Nat → Nat) (st : SS) (pp : Int) (tt : Int) (h0 : ∀ p, 0 ≤ p → p < 6 → 0 ≤ st 20 p ∧ st 20 p < 1152921504606846976) (h1 : 0 ≤ pp ∧ pp < 6) (h2 : 0 ≤ tt ∧ tt < 60) : Met l yX6_hasStep wsX6_hasStep rX6_hasStep (PcR D g (WC g a st) [.ref (a 1), .int (iZ (pp)), .int (iZ (tt))]) (QcRead (iZ (b2 (bt (st 20 pp) tt)))) 0 0 (fun _ => False) := by
  refine metR (cc := cX6_hasStep) (maxL := 3) (ret := (some .boolean)) (own := RX6) (by decide) rfl rfl (Nat.le_of_ble_eq_true rfl) (Or.inr ⟨rfl, b2_01 _⟩) ?_
  intro p e R s m args below meth c Q ls S hRf hRl hK hP hl K
  have hx := S.1
  have hb := S.2.1
  have hown := S.2.2.2.1
  have hts := S.2.2.2.2
  have hRf : 0 ≤ R.frames := hRf
  have hRl : 0 ≤ R.locals := hRl
  have hl : lv_has ls 3 [(0, .ref (a 1)), (1, .int (iZ (pp))), (2, .int (iZ (tt)))] := hl
  have iX6 : ∀ w ∈ wsX60, w ∈ wsX6_hasStep := by decide +kernel
  refine lv_aload_n hx hb dX6_hasStep_0 rfl (lv_at hl 0 rfl) ?_
  refine z_get (C := RX6) (T := TX6) (N := 6) (ci := 5) hx hb hts iX6 hown hK hP 1 rfl rfl 1 (by decide) (hts (.fieldLink RX6 15 "ShotBoard$Stage" "stepTicks" "[J") (by decide +kernel)) (.ref (a 8)) rfl dX6_hasStep_1 ?_
  refine lv_iload_n hx hb dX6_hasStep_4 rfl (lv_at hl 1 rfl) ?_
  refine z_lald hx hb hK hP 8 (st 20) rfl (by omega) (by omega) (by omega) dX6_hasStep_5 ?_
  refine lv_iload_n hx hb dX6_hasStep_6 rfl (lv_at hl 2 rfl) ?_
  refine z_lshr hx hb dX6_hasStep_7 ?_
  refine z_lconst hx hb 1 dX6_hasStep_8 (by decide +kernel) ?_
  refine z_land hx hb dX6_hasStep_9 ?_
  refine z_lconst hx hb 0 dX6_hasStep_10 (by decide +kernel) ?_
  refine z_lcmp hx hb dX6_hasStep_11 ?_
  refine z_as (y := b2 (bt (st 20 pp) tt)) (step_z (h0 pp (by omega) (by omega)).1 (h0 pp (by omega) (by omega)).2 (by omega) (by omega)) ?_
  refine z_if_eq (tgt := 19) hx hb (b2_rg _) dX6_hasStep_12 (by decide) (fun c1 => ?_) (fun c1 => ?_)
  · skip
    have c1 := b2_0 c1
    refine z_iconst hx hb dX6_hasStep_19 ?_
    exact K _ _ _ (by first | exact b2_pos ‹_› rfl | exact b2_neg ‹_› rfl) dX6_hasStep_20
  · skip
    have c1 := b2_n0 c1
    refine z_iconst hx hb dX6_hasStep_15 ?_
    refine lv_goto (tgt := 20) hx hb dX6_hasStep_16 (by decide) ?_
    exact K _ _ _ (by first | exact b2_pos ‹_› rfl | exact b2_neg ‹_› rfl) dX6_hasStep_20
abbrev rX6_someoneStepsAt : Room := { frames := 1, cells := 0, slots := 0, locals := 22 }
set_option maxHeartbeats 4000000 in
set_option maxRecDepth 100000 in
theorem m_X6_someoneStepsAt (l : Launch) (D : va_G) (g : Nat → ClassId) (a : Nat → Nat) (st : SS) (tt : Int) (hI : IC st) (h2 : 0 ≤ tt ∧ tt < 60) : Met l yX6_someoneStepsAt wsX6_someoneStepsAt rX6_someoneStepsAt (PcR D g (WC g a st) [.ref (a 1), .int (iZ (tt))]) (QcRead (iZ (b2 (∃ p, 0 ≤ p ∧ p < st 19 0 ∧ bt (st 20 p) tt)))) 0 0 (fun _ => False) := by
  refine metR (cc := cX6_someoneStepsAt) (maxL := 3) (ret := (some .boolean)) (own := RX6) (by decide) rfl rfl (Nat.le_of_ble_eq_true rfl) (Or.inr ⟨rfl, b2_01 _⟩) ?_
  intro p e R s m args below meth c Q ls S hRf hRl hK hP hl K
  have hx := S.1
  have hb := S.2.1
  have hown := S.2.2.2.1
  have hts := S.2.2.2.2
  have hRf : 1 ≤ R.frames := hRf
  have hRl : 22 ≤ R.locals := hRl
  have hl : lv_has ls 3 [(0, .ref (a 1)), (1, .int (iZ (tt)))] := hl
  have iX6 : ∀ w ∈ wsX60, w ∈ wsX6_someoneStepsAt := by decide +kernel
  have hB := hI.s
  refine z_iconst hx hb dX6_someoneStepsAt_0 ?_
  refine lv_istore_n (lv' := [(2, .int (iZ (0))), (0, .ref (a 1)), (1, .int (iZ (tt)))]) hx hb dX6_someoneStepsAt_1 rfl hl (by decide) rfl (fun ls hl => ?_)
  have LP2 : ∀ (n2 : Nat) (qq : Int), (st 19 0 - qq) < (n2 : Int) → (0 ≤ qq ∧ qq ≤ st 19 0) → (∀ j, 0 ≤ j → j < qq → ¬ bt (st 20 j) tt) → ∀ (ls : Array Slot), lv_has ls 3 [(2, .int (iZ (qq))), (0, .ref (a 1)), (1, .int (iZ (tt)))] → W p l e R s m args below meth c s.heap [] 0 0 Q (F0 m 2 ls []) := by
    intro n2
    induction n2 with
    | zero =>
      intro qq hm2 j1 j2  ls hl
      exact absurd hm2 (by omega)
    | succ n2 ih2 =>
      intro qq hm2 j1 j2  ls hl
      refine lv_iload_n hx hb dX6_someoneStepsAt_2 rfl (lv_at hl 0 rfl) ?_
      refine lv_aload_n hx hb dX6_someoneStepsAt_3 rfl (lv_at hl 1 rfl) ?_
      refine z_get (C := RX6) (T := TX6) (N := 6) (ci := 5) hx hb hts iX6 hown hK hP 1 rfl rfl 4 (by decide) (hts (.fieldLink RX6 25 "ShotBoard$Stage" "persons" "I") (by decide +kernel)) (.int (iZ (st 19 (0)))) rfl dX6_someoneStepsAt_4 ?_
      refine z_icmp_ge (tgt := 27) hx hb (by omega) (by omega) dX6_someoneStepsAt_7 (by decide) (fun c1 => ?_) (fun c1 => ?_)
      · skip
        refine z_iconst hx hb dX6_someoneStepsAt_27 ?_
        exact K _ _ _ (b2_neg (fun ⟨q, a, b, d⟩ => j2 q a (by omega) d) rfl) dX6_someoneStepsAt_28
      · skip
        refine lv_aload_n hx hb dX6_someoneStepsAt_10 rfl (lv_at hl 1 rfl) ?_
        refine lv_iload_n hx hb dX6_someoneStepsAt_11 rfl (lv_at hl 0 rfl) ?_
        refine lv_iload_n hx hb dX6_someoneStepsAt_12 rfl (lv_at hl 2 rfl) ?_
        refine z_cVR (q0 := 1) (ci := 5) (As := [.int (iZ (qq)), .int (iZ (tt))]) (rest := []) S (m_X6_hasStep l D g a (st) (qq) (tt) hI.c20 (by omega) (by omega)) (cwV 2 hts gX6_someoneStepsAt_X6_hasStep rfl rfl rfl (by decide +kernel) ⟨Nat.le_trans (by decide) hRf, Nat.le_trans (by decide) hRl⟩) hK hP rfl rfl rfl hl.1 rfl (Nat.le_of_ble_eq_true rfl) dX6_someoneStepsAt_13 ⟨Nat.zero_le _, Nat.zero_le _⟩ ?_
        refine z_if_eq (tgt := 21) hx hb (b2_rg _) dX6_someoneStepsAt_16 (by decide) (fun c2 => ?_) (fun c2 => ?_)
        · skip
          have c2 := b2_0 c2
          have hnb := c2
          refine z_iinc (lv' := [(2, .int (iZ ((qq) + 1))), (0, .ref (a 1)), (1, .int (iZ (tt)))]) hx hb dX6_someoneStepsAt_21 hl (k := 0) rfl (by decide) rfl (fun ls hl => ?_)
          refine lv_goto (tgt := 2) hx hb dX6_someoneStepsAt_24 (by decide) ?_
          exact ih2 ((qq) + 1) (by omega) (by omega) (fun j a b => by
      by_cases e9 : j = qq
      · subst e9; exact hnb
      · exact j2 j a (by omega))  ls (lv_sub hl [0, 1, 2] rfl)
        · skip
          have c2 := b2_n0 c2
          have hyb := c2
          refine z_iconst hx hb dX6_someoneStepsAt_19 ?_
          exact K _ _ _ (b2_pos ⟨qq, by omega, by omega, hyb⟩ rfl) dX6_someoneStepsAt_20
  exact LP2 ((st 19 0 - (0)) + 1 : Int).toNat (0) (by omega) (by omega) (fun j a b => by omega)  ls (lv_sub hl [0, 1, 2] rfl)
abbrev rX6_hides : Room := { frames := 2, cells := 0, slots := 0, locals := 49 }
set_option maxHeartbeats 4000000 in
set_option maxRecDepth 100000 in
theorem m_X6_hides (l : Launch) (D : va_G) (g : Nat → ClassId) (a : Nat → Nat) (st : SS) (pp : Int) (tt : Int) (ff : Int) (hI : IC st) (h1 : 0 ≤ pp ∧ pp < st 19 0) (h2 : 0 ≤ tt ∧ tt < 60) (h3 : plc ff) : Met l yX6_hides wsX6_hides rX6_hides (PcR D g (WC g a st) [.ref (a 1), .int (iZ (pp)), .int (iZ (tt)), .int (iZ (ff))]) (QcRead (iZ (b2 (HID (fun q t => st 0 (q * 60 + t)) (st 19 0) (st 19 1) (st 1) (st 2) pp tt ff)))) 0 0 (fun _ => False) := by
  refine metR (cc := cX6_hides) (maxL := 6) (ret := (some .boolean)) (own := RX6) (by decide) rfl rfl (Nat.le_of_ble_eq_true rfl) (Or.inr ⟨rfl, b2_01 _⟩) ?_
  intro p e R s m args below meth c Q ls S hRf hRl hK hP hl K
  have hx := S.1
  have hb := S.2.1
  have hown := S.2.2.2.1
  have hts := S.2.2.2.2
  have hRf : 2 ≤ R.frames := hRf
  have hRl : 49 ≤ R.locals := hRl
  have hl : lv_has ls 6 [(0, .ref (a 1)), (1, .int (iZ (pp))), (2, .int (iZ (tt))), (3, .int (iZ (ff)))] := hl
  have iX6 : ∀ w ∈ wsX60, w ∈ wsX6_hides := by decide +kernel
  have hB := hI.s
  refine lv_aload_n hx hb dX6_hides_0 rfl (lv_at hl 0 rfl) ?_
  refine lv_iload_n hx hb dX6_hides_1 rfl (lv_at hl 1 rfl) ?_
  refine lv_iload_n hx hb dX6_hides_2 rfl (lv_at hl 2 rfl) ?_
  refine z_cVR (q0 := 1) (ci := 5) (As := [.int (iZ (pp)), .int (iZ (tt))]) (rest := []) S (m_X6_placeOf l D g a (st) (pp) (tt) hI (by omega) (by omega)) (cwV 2 hts gX6_hides_X6_placeOf rfl rfl rfl (by decide +kernel) ⟨Nat.le_trans (by decide) hRf, Nat.le_trans (by decide) hRl⟩) hK hP rfl rfl rfl hl.1 rfl (Nat.le_of_ble_eq_true rfl) dX6_hides_3 ⟨Nat.zero_le _, Nat.zero_le _⟩ ?_
  have f1 := hI.c0 ((pp) * 60 + (tt)) (by omega) (by omega)
  refine lv_istore (lv' := [(4, .int (iZ (st 0 ((pp) * 60 + (tt))))), (0, .ref (a 1)), (1, .int (iZ (pp))), (2, .int (iZ (tt))), (3, .int (iZ (ff)))]) hx hb dX6_hides_6 hl (by decide) rfl (fun ls hl => ?_)
  refine lv_iload_n hx hb dX6_hides_8 rfl (lv_at hl 4 rfl) ?_
  refine lv_iload hx hb dX6_hides_9 (lv_at hl 0 rfl) ?_
  refine z_icmp_ne (tgt := 16) hx hb (by omega) (by omega) dX6_hides_11 (by decide) (fun c2 => ?_) (fun c2 => ?_)
  · skip
    have hne := c2
    refine z_iconst hx hb dX6_hides_16 ?_
    refine lv_istore (lv' := [(5, .int (iZ (0))), (4, .int (iZ (st 0 ((pp) * 60 + (tt))))), (0, .ref (a 1)), (1, .int (iZ (pp))), (2, .int (iZ (tt))), (3, .int (iZ (ff)))]) hx hb dX6_hides_17 hl (by decide) rfl (fun ls hl => ?_)
    have LP19 : ∀ (n19 : Nat) (ww : Int), (st 19 1 - ww) < (n19 : Int) → (0 ≤ ww ∧ ww ≤ st 19 1) → (∀ j, 0 ≤ j → j < ww → ¬ meetC ff (st 0 (pp * 60 + tt)) (st 1 j) (st 2 j)) → ∀ (ls : Array Slot), lv_has ls 6 [(5, .int (iZ (ww))), (4, .int (iZ (st 0 ((pp) * 60 + (tt))))), (0, .ref (a 1)), (1, .int (iZ (pp))), (2, .int (iZ (tt))), (3, .int (iZ (ff)))] → W p l e R s m args below meth c s.heap [] 0 0 Q (F0 m 19 ls []) := by
      intro n19
      induction n19 with
      | zero =>
        intro ww hm19 j1 j2  ls hl
        exact absurd hm19 (by omega)
      | succ n19 ih19 =>
        intro ww hm19 j1 j2  ls hl
        refine lv_iload hx hb dX6_hides_19 (lv_at hl 0 rfl) ?_
        refine lv_aload_n hx hb dX6_hides_21 rfl (lv_at hl 2 rfl) ?_
        refine z_get (C := RX6) (T := TX6) (N := 6) (ci := 5) hx hb hts iX6 hown hK hP 1 rfl rfl 5 (by decide) (hts (.fieldLink RX6 43 "ShotBoard$Stage" "walls" "I") (by decide +kernel)) (.int (iZ (st 19 (1)))) rfl dX6_hides_22 ?_
        refine z_icmp_ge (tgt := 59) hx hb (by omega) (by omega) dX6_hides_25 (by decide) (fun c3 => ?_) (fun c3 => ?_)
        · skip
          have hend := c3
          refine z_iconst hx hb dX6_hides_59 ?_
          refine lv_istore (lv' := [(5, .int (iZ (0))), (4, .int (iZ (st 0 ((pp) * 60 + (tt))))), (0, .ref (a 1)), (1, .int (iZ (pp))), (2, .int (iZ (tt))), (3, .int (iZ (ff)))]) hx hb dX6_hides_60 hl (by decide) rfl (fun ls hl => ?_)
          have LP62 : ∀ (n62 : Nat) (qq : Int), (st 19 0 - qq) < (n62 : Int) → (0 ≤ qq ∧ qq ≤ st 19 0) → (∀ j, 0 ≤ j → j < qq → ¬ betw (st 0 (j * 60 + tt)) ff (st 0 (pp * 60 + tt))) → ∀ (ls : Array Slot), lv_has ls 6 [(5, .int (iZ (qq))), (4, .int (iZ (st 0 ((pp) * 60 + (tt))))), (0, .ref (a 1)), (1, .int (iZ (pp))), (2, .int (iZ (tt))), (3, .int (iZ (ff)))] → W p l e R s m args below meth c s.heap [] 0 0 Q (F0 m 62 ls []) := by
            intro n62
            induction n62 with
            | zero =>
              intro qq hm62 k1 k2  ls hl
              exact absurd hm62 (by omega)
            | succ n62 ih62 =>
              intro qq hm62 k1 k2  ls hl
              refine lv_iload hx hb dX6_hides_62 (lv_at hl 0 rfl) ?_
              refine lv_aload_n hx hb dX6_hides_64 rfl (lv_at hl 2 rfl) ?_
              refine z_get (C := RX6) (T := TX6) (N := 6) (ci := 5) hx hb hts iX6 hown hK hP 1 rfl rfl 4 (by decide) (hts (.fieldLink RX6 25 "ShotBoard$Stage" "persons" "I") (by decide +kernel)) (.int (iZ (st 19 (0)))) rfl dX6_hides_65 ?_
              refine z_icmp_ge (tgt := 95) hx hb (by omega) (by omega) dX6_hides_68 (by decide) (fun c4 => ?_) (fun c4 => ?_)
              · skip
                have hend2 := c4
                refine z_iconst hx hb dX6_hides_95 ?_
                exact K _ _ _ (b2_neg (fun z => by
      rcases z with z | ⟨w, a, b, d⟩ | ⟨q, a, b, d⟩
      · exact hne z.symm
      · exact j2 w a (by omega) d
      · exact k2 q a (by omega) d) rfl) dX6_hides_96
              · skip
                refine lv_aload_n hx hb dX6_hides_71 rfl (lv_at hl 2 rfl) ?_
                refine lv_iload hx hb dX6_hides_72 (lv_at hl 0 rfl) ?_
                refine lv_iload_n hx hb dX6_hides_74 rfl (lv_at hl 4 rfl) ?_
                refine z_cVR (q0 := 1) (ci := 5) (As := [.int (iZ (qq)), .int (iZ (tt))]) (rest := []) S (m_X6_placeOf l D g a (st) (qq) (tt) hI (by omega) (by omega)) (cwV 2 hts gX6_hides_X6_placeOf rfl rfl rfl (by decide +kernel) ⟨Nat.le_trans (by decide) hRf, Nat.le_trans (by decide) hRl⟩) hK hP rfl rfl rfl hl.1 rfl (Nat.le_of_ble_eq_true rfl) dX6_hides_75 ⟨Nat.zero_le _, Nat.zero_le _⟩ ?_
                have f5 := hI.c0 ((qq) * 60 + (tt)) (by omega) (by omega)
                refine lv_iload_n hx hb dX6_hides_78 rfl (lv_at hl 5 rfl) ?_
                refine lv_iload hx hb dX6_hides_79 (lv_at hl 1 rfl) ?_
                refine z_cSS (As := [.int (iZ (st 0 ((qq) * 60 + (tt)))), .int (iZ (ff)), .int (iZ (st 0 ((pp) * 60 + (tt))))]) (rest := []) S (m_X2_isBetween l (st 0 ((qq) * 60 + (tt))) (ff) (st 0 ((pp) * 60 + (tt))) (by omega) (by omega) (by omega)) (va_cwS 3 hts gX6_hides_X2_isBetween rfl rfl rfl (by decide +kernel) ⟨Nat.le_trans (by decide) hRf, Nat.le_trans (by decide) hRl⟩) rfl hl.1 rfl (Nat.le_of_ble_eq_true rfl) dX6_hides_81 ⟨Nat.zero_le _, Nat.zero_le _⟩ ?_
                refine z_if_eq (tgt := 89) hx hb (b2_rg _) dX6_hides_84 (by decide) (fun c6 => ?_) (fun c6 => ?_)
                · skip
                  have c6 := b2_0 c6
                  have hnb := c6
                  refine z_iinc (lv' := [(5, .int (iZ ((qq) + 1))), (4, .int (iZ (st 0 ((pp) * 60 + (tt))))), (0, .ref (a 1)), (1, .int (iZ (pp))), (2, .int (iZ (tt))), (3, .int (iZ (ff)))]) hx hb dX6_hides_89 hl (k := 0) rfl (by decide) rfl (fun ls hl => ?_)
                  refine lv_goto (tgt := 62) hx hb dX6_hides_92 (by decide) ?_
                  exact ih62 ((qq) + 1) (by omega) (by omega) (fun j a b => by
      by_cases e9 : j = qq
      · subst e9; exact hnb
      · exact k2 j a (by omega))  ls (lv_sub hl [0, 1, 2, 3, 4, 5] rfl)
                · skip
                  have c6 := b2_n0 c6
                  have hyb := c6
                  refine z_iconst hx hb dX6_hides_87 ?_
                  exact K _ _ _ (b2_pos (Or.inr (Or.inr ⟨qq, by omega, by omega, hyb⟩)) rfl) dX6_hides_88
          exact LP62 ((st 19 0 - (0)) + 1 : Int).toNat (0) (by omega) (by omega) (fun j a b => by omega)  ls (lv_sub hl [0, 1, 2, 3, 4, 5] rfl)
        · skip
          refine lv_iload_n hx hb dX6_hides_28 rfl (lv_at hl 5 rfl) ?_
          refine lv_iload hx hb dX6_hides_29 (lv_at hl 1 rfl) ?_
          refine lv_aload_n hx hb dX6_hides_31 rfl (lv_at hl 2 rfl) ?_
          refine z_get (C := RX6) (T := TX6) (N := 6) (ci := 5) hx hb hts iX6 hown hK hP 1 rfl rfl 2 (by decide) (hts (.fieldLink RX6 19 "ShotBoard$Stage" "wallFrom" "[I") (by decide +kernel)) (.ref (a 9)) rfl dX6_hides_32 ?_
          refine lv_iload hx hb dX6_hides_35 (lv_at hl 0 rfl) ?_
          refine z_iald hx hb hK hP 9 (st 1) rfl (by omega) (by omega) (by omega) dX6_hides_37 ?_
          have f7 := hI.c1 (ww) (by omega) (by omega)
          refine lv_aload_n hx hb dX6_hides_38 rfl (lv_at hl 2 rfl) ?_
          refine z_get (C := RX6) (T := TX6) (N := 6) (ci := 5) hx hb hts iX6 hown hK hP 1 rfl rfl 3 (by decide) (hts (.fieldLink RX6 22 "ShotBoard$Stage" "wallTo" "[I") (by decide +kernel)) (.ref (a 10)) rfl dX6_hides_39 ?_
          refine lv_iload hx hb dX6_hides_42 (lv_at hl 0 rfl) ?_
          refine z_iald hx hb hK hP 10 (st 2) rfl (by omega) (by omega) (by omega) dX6_hides_44 ?_
          have f8 := hI.c2 (ww) (by omega) (by omega)
          refine z_cSS (As := [.int (iZ (ff)), .int (iZ (st 0 ((pp) * 60 + (tt)))), .int (iZ (st 1 (ww))), .int (iZ (st 2 (ww)))]) (rest := []) S (m_X2_meet l (ff) (st 0 ((pp) * 60 + (tt))) (st 1 (ww)) (st 2 (ww)) (by omega) (by omega) (by omega) (by omega)) (va_cwS 4 hts gX6_hides_X2_meet rfl rfl rfl (by decide +kernel) ⟨Nat.le_trans (by decide) hRf, Nat.le_trans (by decide) hRl⟩) rfl hl.1 rfl (Nat.le_of_ble_eq_true rfl) dX6_hides_45 ⟨Nat.zero_le _, Nat.zero_le _⟩ ?_
          refine z_if_eq (tgt := 53) hx hb (b2_rg _) dX6_hides_48 (by decide) (fun c9 => ?_) (fun c9 => ?_)
          · skip
            have c9 := b2_0 c9
            have hnb := c9
            refine z_iinc (lv' := [(5, .int (iZ ((ww) + 1))), (4, .int (iZ (st 0 ((pp) * 60 + (tt))))), (0, .ref (a 1)), (1, .int (iZ (pp))), (2, .int (iZ (tt))), (3, .int (iZ (ff)))]) hx hb dX6_hides_53 hl (k := 0) rfl (by decide) rfl (fun ls hl => ?_)
            refine lv_goto (tgt := 19) hx hb dX6_hides_56 (by decide) ?_
            exact ih19 ((ww) + 1) (by omega) (by omega) (fun j a b => by
      by_cases e9 : j = ww
      · subst e9; exact hnb
      · exact j2 j a (by omega))  ls (lv_sub hl [0, 1, 2, 3, 4, 5] rfl)
          · skip
            have c9 := b2_n0 c9
            have hyb := c9
            refine z_iconst hx hb dX6_hides_51 ?_
            exact K _ _ _ (b2_pos (Or.inr (Or.inl ⟨ww, by omega, by omega, hyb⟩)) rfl) dX6_hides_52
    exact LP19 ((st 19 1 - (0)) + 1 : Int).toNat (0) (by omega) (by omega) (fun j a b => by omega)  ls (lv_sub hl [0, 1, 2, 3, 4, 5] rfl)
  · skip
    have heq := c2
    refine z_iconst hx hb dX6_hides_14 ?_
    exact K _ _ _ (b2_pos (Or.inl heq.symm) rfl) dX6_hides_15
end
section
abbrev rX1_someoneChangesSide : Room := { frames := 1, cells := 0, slots := 0, locals := 24 }
set_option maxHeartbeats 4000000 in
set_option maxRecDepth 100000 in
theorem m_X1_someoneChangesSide (l : Launch) (D : va_G) (g : Nat → ClassId) (a : Nat → Nat) (st : SS) (ff : Int) (bb : Int) (tt : Int) (hI : IC st) (h1 : 0 ≤ bb ∧ bb < st 19 3) (h3 : plc ff) (h2 : 1 ≤ tt ∧ tt < 60) : Met l yX1_someoneChangesSide wsX1_someoneChangesSide rX1_someoneChangesSide (PcR D g (WC g a st) [.ref (a 4), .int (iZ (ff)), .ref (a (19 + (bb).toNat)), .int (iZ (tt))]) (QcRead (iZ (b2 (CHG (fun q t => st 0 (q * 60 + t)) (st 19 0) (st 12 bb) (st 13 bb) ff tt)))) 0 0 (fun _ => False) := by
  refine metR (cc := cX1_someoneChangesSide) (maxL := 9) (ret := (some .boolean)) (own := RX1) (by decide) rfl rfl (Nat.le_of_ble_eq_true rfl) (Or.inr ⟨rfl, b2_01 _⟩) ?_
  intro p e R s m args below meth c Q ls S hRf hRl hK hP hl K
  have hx := S.1
  have hb := S.2.1
  have hown := S.2.2.2.1
  have hts := S.2.2.2.2
  have hRf : 1 ≤ R.frames := hRf
  have hRl : 24 ≤ R.locals := hRl
  have hl : lv_has ls 9 [(0, .ref (a 4)), (1, .int (iZ (ff))), (2, .ref (a (19 + (bb).toNat))), (3, .int (iZ (tt)))] := hl
  have iX0 : ∀ w ∈ wsX00, w ∈ wsX1_someoneChangesSide := by decide +kernel
  have iX1 : ∀ w ∈ wsX10, w ∈ wsX1_someoneChangesSide := by decide +kernel
  have iX6 : ∀ w ∈ wsX60, w ∈ wsX1_someoneChangesSide := by decide +kernel
  have hB := hI.s
  have hbR := hI.bd bb (by omega) (by omega)
  have hL1 := (hI.bl bb (by omega) (by omega)).1
  have hL2 := (hI.bl bb (by omega) (by omega)).2.1
  refine lv_aload_n hx hb dX1_someoneChangesSide_0 rfl (lv_at hl 0 rfl) ?_
  refine z_get (C := RX1) (T := TX1) (N := 1) (ci := 1) hx hb hts iX1 hown hK hP 4 rfl rfl 0 (by decide) (hts (.fieldLink RX1 9 "ShotBoard$Judge" "stage" "LShotBoard$Stage;") (by decide +kernel)) (.ref (a 1)) rfl dX1_someoneChangesSide_1 ?_
  refine lv_aload_n hx hb dX1_someoneChangesSide_4 rfl (lv_at hl 2 rfl) ?_
  refine z_get (C := RX0) (T := TX0) (N := 8) (ci := 0) hx hb hts iX0 hown hK hP (19 + (bb).toNat) (WC_bd g a _ (by omega) (by omega)) rfl 1 (by decide) (hts (.fieldLink RX1 44 "ShotBoard$Board" "main" "I") (by decide +kernel)) (.int (iZ (st 12 (bb)))) rfl dX1_someoneChangesSide_5 ?_
  refine lv_iload_n hx hb dX1_someoneChangesSide_8 rfl (lv_at hl 3 rfl) ?_
  refine z_iconst hx hb dX1_someoneChangesSide_9 ?_
  refine z_isub hx hb dX1_someoneChangesSide_10 ?_
  refine z_cVR (q0 := 1) (ci := 5) (As := [.int (iZ (st 12 (bb))), .int (iZ ((tt) - (1)))]) (rest := []) S (m_X6_placeOf l D g a (st) (st 12 (bb)) ((tt) - (1)) hI (by omega) (by omega)) (cwV 2 hts gX1_someoneChangesSide_X6_placeOf rfl rfl rfl (by decide +kernel) ⟨Nat.le_trans (by decide) hRf, Nat.le_trans (by decide) hRl⟩) hK hP rfl rfl rfl hl.1 rfl (Nat.le_of_ble_eq_true rfl) dX1_someoneChangesSide_11 ⟨Nat.zero_le _, Nat.zero_le _⟩ ?_
  have f1 := hI.c0 ((st 12 (bb)) * 60 + ((tt) - (1))) (by omega) (by omega)
  refine lv_istore (lv' := [(4, .int (iZ (st 0 ((st 12 (bb)) * 60 + ((tt) - (1)))))), (0, .ref (a 4)), (1, .int (iZ (ff))), (2, .ref (a (19 + (bb).toNat))), (3, .int (iZ (tt)))]) hx hb dX1_someoneChangesSide_14 hl (by decide) rfl (fun ls hl => ?_)
  refine lv_aload_n hx hb dX1_someoneChangesSide_16 rfl (lv_at hl 1 rfl) ?_
  refine z_get (C := RX1) (T := TX1) (N := 1) (ci := 1) hx hb hts iX1 hown hK hP 4 rfl rfl 0 (by decide) (hts (.fieldLink RX1 9 "ShotBoard$Judge" "stage" "LShotBoard$Stage;") (by decide +kernel)) (.ref (a 1)) rfl dX1_someoneChangesSide_17 ?_
  refine lv_aload_n hx hb dX1_someoneChangesSide_20 rfl (lv_at hl 3 rfl) ?_
  refine z_get (C := RX0) (T := TX0) (N := 8) (ci := 0) hx hb hts iX0 hown hK hP (19 + (bb).toNat) (WC_bd g a _ (by omega) (by omega)) rfl 1 (by decide) (hts (.fieldLink RX1 44 "ShotBoard$Board" "main" "I") (by decide +kernel)) (.int (iZ (st 12 (bb)))) rfl dX1_someoneChangesSide_21 ?_
  refine lv_iload_n hx hb dX1_someoneChangesSide_24 rfl (lv_at hl 4 rfl) ?_
  refine z_cVR (q0 := 1) (ci := 5) (As := [.int (iZ (st 12 (bb))), .int (iZ (tt))]) (rest := []) S (m_X6_placeOf l D g a (st) (st 12 (bb)) (tt) hI (by omega) (by omega)) (cwV 2 hts gX1_someoneChangesSide_X6_placeOf rfl rfl rfl (by decide +kernel) ⟨Nat.le_trans (by decide) hRf, Nat.le_trans (by decide) hRl⟩) hK hP rfl rfl rfl hl.1 rfl (Nat.le_of_ble_eq_true rfl) dX1_someoneChangesSide_25 ⟨Nat.zero_le _, Nat.zero_le _⟩ ?_
  have f2 := hI.c0 ((st 12 (bb)) * 60 + (tt)) (by omega) (by omega)
  refine lv_istore (lv' := [(5, .int (iZ (st 0 ((st 12 (bb)) * 60 + (tt))))), (4, .int (iZ (st 0 ((st 12 (bb)) * 60 + ((tt) - (1)))))), (0, .ref (a 4)), (1, .int (iZ (ff))), (2, .ref (a (19 + (bb).toNat))), (3, .int (iZ (tt)))]) hx hb dX1_someoneChangesSide_28 hl (by decide) rfl (fun ls hl => ?_)
  refine z_iconst hx hb dX1_someoneChangesSide_30 ?_
  refine lv_istore (lv' := [(6, .int (iZ (0))), (5, .int (iZ (st 0 ((st 12 (bb)) * 60 + (tt))))), (4, .int (iZ (st 0 ((st 12 (bb)) * 60 + ((tt) - (1)))))), (0, .ref (a 4)), (1, .int (iZ (ff))), (2, .ref (a (19 + (bb).toNat))), (3, .int (iZ (tt)))]) hx hb dX1_someoneChangesSide_31 hl (by decide) rfl (fun ls hl => ?_)
  have LP33 : ∀ (n33 : Nat) (qq : Int), (st 19 0 - qq) < (n33 : Int) → (0 ≤ qq ∧ qq ≤ st 19 0) → (∀ j, 0 ≤ j → j < qq → ¬ (bt (st 13 bb) j ∧ crossZ ff (st 0 (st 12 bb * 60 + (tt - 1))) (st 0 (j * 60 + (tt - 1))) * crossZ ff (st 0 (st 12 bb * 60 + tt)) (st 0 (j * 60 + tt)) < 0)) → ∀ (ls : Array Slot), lv_has ls 9 [(6, .int (iZ (qq))), (5, .int (iZ (st 0 ((st 12 (bb)) * 60 + (tt))))), (4, .int (iZ (st 0 ((st 12 (bb)) * 60 + ((tt) - (1)))))), (0, .ref (a 4)), (1, .int (iZ (ff))), (2, .ref (a (19 + (bb).toNat))), (3, .int (iZ (tt)))] → W p l e R s m args below meth c s.heap [] 0 0 Q (F0 m 33 ls []) := by
    intro n33
    induction n33 with
    | zero =>
      intro qq hm33 j1 j2  ls hl
      exact absurd hm33 (by omega)
    | succ n33 ih33 =>
      intro qq hm33 j1 j2  ls hl
      refine lv_iload hx hb dX1_someoneChangesSide_33 (lv_at hl 0 rfl) ?_
      refine lv_aload_n hx hb dX1_someoneChangesSide_35 rfl (lv_at hl 3 rfl) ?_
      refine z_get (C := RX1) (T := TX1) (N := 1) (ci := 1) hx hb hts iX1 hown hK hP 4 rfl rfl 0 (by decide) (hts (.fieldLink RX1 9 "ShotBoard$Judge" "stage" "LShotBoard$Stage;") (by decide +kernel)) (.ref (a 1)) rfl dX1_someoneChangesSide_36 ?_
      refine z_get (C := RX6) (T := TX6) (N := 6) (ci := 5) hx hb hts iX6 hown hK hP 1 rfl rfl 4 (by decide) (hts (.fieldLink RX1 34 "ShotBoard$Stage" "persons" "I") (by decide +kernel)) (.int (iZ (st 19 (0)))) rfl dX1_someoneChangesSide_39 ?_
      refine z_icmp_ge (tgt := 108) hx hb (by omega) (by omega) dX1_someoneChangesSide_42 (by decide) (fun c3 => ?_) (fun c3 => ?_)
      · skip
        refine z_iconst hx hb dX1_someoneChangesSide_108 ?_
        exact K _ _ _ (b2_neg (fun ⟨q, a, b, d⟩ => j2 q a (by omega) d) rfl) dX1_someoneChangesSide_109
      · skip
        refine lv_aload_n hx hb dX1_someoneChangesSide_45 rfl (lv_at hl 5 rfl) ?_
        refine lv_iload hx hb dX1_someoneChangesSide_46 (lv_at hl 0 rfl) ?_
        refine z_cVR (q0 := (19 + (bb).toNat)) (ci := 0) (As := [.int (iZ (qq))]) (rest := []) S (m_X0_mustShow l D g a (st) (bb) (qq) hI (by omega) (by omega)) (cwV 1 hts gX1_someoneChangesSide_X0_mustShow rfl rfl rfl (by decide +kernel) ⟨Nat.le_trans (by decide) hRf, Nat.le_trans (by decide) hRl⟩) hK hP rfl (WC_bd g a _ (by omega) (by omega)) rfl hl.1 rfl (Nat.le_of_ble_eq_true rfl) dX1_someoneChangesSide_48 ⟨Nat.zero_le _, Nat.zero_le _⟩ ?_
        refine z_if_eq (tgt := 102) hx hb (b2_rg _) dX1_someoneChangesSide_51 (by decide) (fun c4 => ?_) (fun c4 => ?_)
        · skip
          have c4 := b2_0 c4
          have hnb := c4
          refine z_iinc (lv' := [(6, .int (iZ ((qq) + 1))), (5, .int (iZ (st 0 ((st 12 (bb)) * 60 + (tt))))), (4, .int (iZ (st 0 ((st 12 (bb)) * 60 + ((tt) - (1)))))), (0, .ref (a 4)), (1, .int (iZ (ff))), (2, .ref (a (19 + (bb).toNat))), (3, .int (iZ (tt)))]) hx hb dX1_someoneChangesSide_102 hl (k := 0) rfl (by decide) rfl (fun ls hl => ?_)
          refine lv_goto (tgt := 33) hx hb dX1_someoneChangesSide_105 (by decide) ?_
          exact ih33 ((qq) + 1) (by omega) (by omega) (fun j a b => by
      by_cases e9 : j = qq
      · subst e9; exact fun z => by first | exact hnb z.1 | exact absurd z.2 (by omega)
      · exact j2 j a (by omega))  ls (lv_sub hl [0, 1, 2, 3, 4, 5, 6] rfl)
        · skip
          have c4 := b2_n0 c4
          have hyb := c4
          refine lv_iload_n hx hb dX1_someoneChangesSide_54 rfl (lv_at hl 4 rfl) ?_
          refine lv_iload hx hb dX1_someoneChangesSide_55 (lv_at hl 2 rfl) ?_
          refine lv_aload_n hx hb dX1_someoneChangesSide_57 rfl (lv_at hl 3 rfl) ?_
          refine z_get (C := RX1) (T := TX1) (N := 1) (ci := 1) hx hb hts iX1 hown hK hP 4 rfl rfl 0 (by decide) (hts (.fieldLink RX1 9 "ShotBoard$Judge" "stage" "LShotBoard$Stage;") (by decide +kernel)) (.ref (a 1)) rfl dX1_someoneChangesSide_58 ?_
          refine lv_iload hx hb dX1_someoneChangesSide_61 (lv_at hl 0 rfl) ?_
          refine lv_iload_n hx hb dX1_someoneChangesSide_63 rfl (lv_at hl 6 rfl) ?_
          refine z_iconst hx hb dX1_someoneChangesSide_64 ?_
          refine z_isub hx hb dX1_someoneChangesSide_65 ?_
          refine z_cVR (q0 := 1) (ci := 5) (As := [.int (iZ (qq)), .int (iZ ((tt) - (1)))]) (rest := [.int (iZ (st 0 ((st 12 (bb)) * 60 + ((tt) - (1))))), .int (iZ (ff))]) S (m_X6_placeOf l D g a (st) (qq) ((tt) - (1)) hI (by omega) (by omega)) (cwV 2 hts gX1_someoneChangesSide_X6_placeOf rfl rfl rfl (by decide +kernel) ⟨Nat.le_trans (by decide) hRf, Nat.le_trans (by decide) hRl⟩) hK hP rfl rfl rfl hl.1 rfl (Nat.le_of_ble_eq_true rfl) dX1_someoneChangesSide_66 ⟨Nat.zero_le _, Nat.zero_le _⟩ ?_
          have f5 := hI.c0 ((qq) * 60 + ((tt) - (1))) (by omega) (by omega)
          refine z_cSS (As := [.int (iZ (ff)), .int (iZ (st 0 ((st 12 (bb)) * 60 + ((tt) - (1))))), .int (iZ (st 0 ((qq) * 60 + ((tt) - (1)))))]) (rest := []) S (m_X2_cross l (ff) (st 0 ((st 12 (bb)) * 60 + ((tt) - (1)))) (st 0 ((qq) * 60 + ((tt) - (1)))) (by omega) (by omega) (by omega)) (va_cwS 3 hts gX1_someoneChangesSide_X2_cross rfl rfl rfl (by decide +kernel) ⟨Nat.le_trans (by decide) hRf, Nat.le_trans (by decide) hRl⟩) rfl hl.1 rfl (Nat.le_of_ble_eq_true rfl) dX1_someoneChangesSide_69 ⟨Nat.zero_le _, Nat.zero_le _⟩ ?_
          have f6 := crossZ_b (ff) (st 0 ((st 12 (bb)) * 60 + ((tt) - (1)))) (st 0 ((qq) * 60 + ((tt) - (1)))) (by omega) (by omega) (by omega)
          refine lv_istore (lv' := [(7, .int (iZ (crossZ (ff) (st 0 ((st 12 (bb)) * 60 + ((tt) - (1)))) (st 0 ((qq) * 60 + ((tt) - (1))))))), (6, .int (iZ (qq))), (5, .int (iZ (st 0 ((st 12 (bb)) * 60 + (tt))))), (4, .int (iZ (st 0 ((st 12 (bb)) * 60 + ((tt) - (1)))))), (0, .ref (a 4)), (1, .int (iZ (ff))), (2, .ref (a (19 + (bb).toNat))), (3, .int (iZ (tt)))]) hx hb dX1_someoneChangesSide_72 hl (by decide) rfl (fun ls hl => ?_)
          refine lv_iload_n hx hb dX1_someoneChangesSide_74 rfl (lv_at hl 5 rfl) ?_
          refine lv_iload hx hb dX1_someoneChangesSide_75 (lv_at hl 2 rfl) ?_
          refine lv_aload_n hx hb dX1_someoneChangesSide_77 rfl (lv_at hl 4 rfl) ?_
          refine z_get (C := RX1) (T := TX1) (N := 1) (ci := 1) hx hb hts iX1 hown hK hP 4 rfl rfl 0 (by decide) (hts (.fieldLink RX1 9 "ShotBoard$Judge" "stage" "LShotBoard$Stage;") (by decide +kernel)) (.ref (a 1)) rfl dX1_someoneChangesSide_78 ?_
          refine lv_iload hx hb dX1_someoneChangesSide_81 (lv_at hl 1 rfl) ?_
          refine lv_iload_n hx hb dX1_someoneChangesSide_83 rfl (lv_at hl 7 rfl) ?_
          refine z_cVR (q0 := 1) (ci := 5) (As := [.int (iZ (qq)), .int (iZ (tt))]) (rest := [.int (iZ (st 0 ((st 12 (bb)) * 60 + (tt)))), .int (iZ (ff))]) S (m_X6_placeOf l D g a (st) (qq) (tt) hI (by omega) (by omega)) (cwV 2 hts gX1_someoneChangesSide_X6_placeOf rfl rfl rfl (by decide +kernel) ⟨Nat.le_trans (by decide) hRf, Nat.le_trans (by decide) hRl⟩) hK hP rfl rfl rfl hl.1 rfl (Nat.le_of_ble_eq_true rfl) dX1_someoneChangesSide_84 ⟨Nat.zero_le _, Nat.zero_le _⟩ ?_
          have f7 := hI.c0 ((qq) * 60 + (tt)) (by omega) (by omega)
          refine z_cSS (As := [.int (iZ (ff)), .int (iZ (st 0 ((st 12 (bb)) * 60 + (tt)))), .int (iZ (st 0 ((qq) * 60 + (tt))))]) (rest := []) S (m_X2_cross l (ff) (st 0 ((st 12 (bb)) * 60 + (tt))) (st 0 ((qq) * 60 + (tt))) (by omega) (by omega) (by omega)) (va_cwS 3 hts gX1_someoneChangesSide_X2_cross rfl rfl rfl (by decide +kernel) ⟨Nat.le_trans (by decide) hRf, Nat.le_trans (by decide) hRl⟩) rfl hl.1 rfl (Nat.le_of_ble_eq_true rfl) dX1_someoneChangesSide_87 ⟨Nat.zero_le _, Nat.zero_le _⟩ ?_
          have f8 := crossZ_b (ff) (st 0 ((st 12 (bb)) * 60 + (tt))) (st 0 ((qq) * 60 + (tt))) (by omega) (by omega) (by omega)
          refine lv_istore (lv' := [(8, .int (iZ (crossZ (ff) (st 0 ((st 12 (bb)) * 60 + (tt))) (st 0 ((qq) * 60 + (tt)))))), (7, .int (iZ (crossZ (ff) (st 0 ((st 12 (bb)) * 60 + ((tt) - (1)))) (st 0 ((qq) * 60 + ((tt) - (1))))))), (6, .int (iZ (qq))), (5, .int (iZ (st 0 ((st 12 (bb)) * 60 + (tt))))), (4, .int (iZ (st 0 ((st 12 (bb)) * 60 + ((tt) - (1)))))), (0, .ref (a 4)), (1, .int (iZ (ff))), (2, .ref (a (19 + (bb).toNat))), (3, .int (iZ (tt)))]) hx hb dX1_someoneChangesSide_90 hl (by decide) rfl (fun ls hl => ?_)
          have g1 := pr_b (crossZ_b ff (st 0 (st 12 bb * 60 + (tt - 1))) (st 0 (qq * 60 + (tt - 1))) (by omega) (by omega) (by omega)) (crossZ_b ff (st 0 (st 12 bb * 60 + tt)) (st 0 (qq * 60 + tt)) (by omega) (by omega) (by omega))
          refine lv_iload hx hb dX1_someoneChangesSide_92 (lv_at hl 1 rfl) ?_
          refine lv_iload hx hb dX1_someoneChangesSide_94 (lv_at hl 0 rfl) ?_
          refine z_imul hx hb dX1_someoneChangesSide_96 ?_
          refine z_if_ge (tgt := 102) hx hb (by omega) dX1_someoneChangesSide_97 (by decide) (fun c9 => ?_) (fun c9 => ?_)
          · skip
            refine z_iinc (lv' := [(6, .int (iZ ((qq) + 1))), (8, .int (iZ (crossZ (ff) (st 0 ((st 12 (bb)) * 60 + (tt))) (st 0 ((qq) * 60 + (tt)))))), (7, .int (iZ (crossZ (ff) (st 0 ((st 12 (bb)) * 60 + ((tt) - (1)))) (st 0 ((qq) * 60 + ((tt) - (1))))))), (5, .int (iZ (st 0 ((st 12 (bb)) * 60 + (tt))))), (4, .int (iZ (st 0 ((st 12 (bb)) * 60 + ((tt) - (1)))))), (0, .ref (a 4)), (1, .int (iZ (ff))), (2, .ref (a (19 + (bb).toNat))), (3, .int (iZ (tt)))]) hx hb dX1_someoneChangesSide_102 hl (k := 2) rfl (by decide) rfl (fun ls hl => ?_)
            refine lv_goto (tgt := 33) hx hb dX1_someoneChangesSide_105 (by decide) ?_
            exact ih33 ((qq) + 1) (by omega) (by omega) (fun j a b => by
      by_cases e9 : j = qq
      · subst e9; exact fun z => by first | exact hnb z.1 | exact absurd z.2 (by omega)
      · exact j2 j a (by omega))  ls (lv_sub hl [0, 3, 4, 5, 6, 7, 8] rfl)
          · skip
            have hlt := c9
            refine z_iconst hx hb dX1_someoneChangesSide_100 ?_
            exact K _ _ _ (b2_pos ⟨qq, by omega, by omega, hyb, hlt⟩ rfl) dX1_someoneChangesSide_101
  exact LP33 ((st 19 0 - (0)) + 1 : Int).toNat (0) (by omega) (by omega) (fun j a b => by omega)  ls (lv_sub hl [0, 1, 2, 3, 4, 5, 6] rfl)
abbrev rX1_faultAt : Room := { frames := 3, cells := 0, slots := 0, locals := 74 }
set_option maxHeartbeats 4000000 in
set_option maxRecDepth 100000 in
theorem m_X1_faultAt (l : Launch) (D : va_G) (g : Nat → ClassId) (a : Nat → Nat) (st : SS) (ff : Int) (bb : Int) (tt : Int) (hI : IC st) (h1 : 0 ≤ bb ∧ bb < st 19 3) (h3 : plc ff) (h2 : st 15 bb ≤ tt ∧ tt ≤ st 16 bb) : Met l yX1_faultAt wsX1_faultAt rX1_faultAt (PcR D g (WC g a st) [.ref (a 4), .int (iZ (ff)), .ref (a (19 + (bb).toNat)), .int (iZ (tt))]) (QcRead (iZ (FL (fun q t => st 0 (q * 60 + t)) (st 19 0) (st 19 1) (st 1) (st 2) (st 11 bb) (st 12 bb) (st 13 bb) (st 14 bb) (st 15 bb) ff tt))) 0 0 (fun _ => False) := by
  refine metR (cc := cX1_faultAt) (maxL := 6) (ret := (some .int)) (own := RX1) (by decide) rfl rfl (Nat.le_of_ble_eq_true rfl) (Or.inl rfl) ?_
  intro p e R s m args below meth c Q ls S hRf hRl hK hP hl K
  have hx := S.1
  have hb := S.2.1
  have hown := S.2.2.2.1
  have hts := S.2.2.2.2
  have hRf : 3 ≤ R.frames := hRf
  have hRl : 74 ≤ R.locals := hRl
  have hl : lv_has ls 6 [(0, .ref (a 4)), (1, .int (iZ (ff))), (2, .ref (a (19 + (bb).toNat))), (3, .int (iZ (tt)))] := hl
  have iX0 : ∀ w ∈ wsX00, w ∈ wsX1_faultAt := by decide +kernel
  have iX1 : ∀ w ∈ wsX10, w ∈ wsX1_faultAt := by decide +kernel
  have iX6 : ∀ w ∈ wsX60, w ∈ wsX1_faultAt := by decide +kernel
  have hB := hI.s
  have hbR := hI.bd bb (by omega) (by omega)
  have hL1 := (hI.bl bb (by omega) (by omega)).1
  have hL2 := (hI.bl bb (by omega) (by omega)).2.1
  refine z_iconst hx hb dX1_faultAt_0 ?_
  refine lv_istore (lv' := [(4, .int (iZ (0))), (0, .ref (a 4)), (1, .int (iZ (ff))), (2, .ref (a (19 + (bb).toNat))), (3, .int (iZ (tt)))]) hx hb dX1_faultAt_1 hl (by decide) rfl (fun ls hl => ?_)
  have LP3 : ∀ (n3 : Nat) (qq : Int), (st 19 0 - qq) < (n3 : Int) → (0 ≤ qq ∧ qq ≤ st 19 0) → (∀ j, 0 ≤ j → j < qq → ¬ (bt (st 13 bb) j ∧ HID (fun q t => st 0 (q * 60 + t)) (st 19 0) (st 19 1) (st 1) (st 2) j tt ff)) → ∀ (ls : Array Slot), lv_has ls 6 [(4, .int (iZ (qq))), (0, .ref (a 4)), (1, .int (iZ (ff))), (2, .ref (a (19 + (bb).toNat))), (3, .int (iZ (tt)))] → W p l e R s m args below meth c s.heap [] 0 0 Q (F0 m 3 ls []) := by
    intro n3
    induction n3 with
    | zero =>
      intro qq hm3 j1 j2  ls hl
      exact absurd hm3 (by omega)
    | succ n3 ih3 =>
      intro qq hm3 j1 j2  ls hl
      refine lv_iload hx hb dX1_faultAt_3 (lv_at hl 0 rfl) ?_
      refine lv_aload_n hx hb dX1_faultAt_5 rfl (lv_at hl 1 rfl) ?_
      refine z_get (C := RX1) (T := TX1) (N := 1) (ci := 1) hx hb hts iX1 hown hK hP 4 rfl rfl 0 (by decide) (hts (.fieldLink RX1 9 "ShotBoard$Judge" "stage" "LShotBoard$Stage;") (by decide +kernel)) (.ref (a 1)) rfl dX1_faultAt_6 ?_
      refine z_get (C := RX6) (T := TX6) (N := 6) (ci := 5) hx hb hts iX6 hown hK hP 1 rfl rfl 4 (by decide) (hts (.fieldLink RX1 34 "ShotBoard$Stage" "persons" "I") (by decide +kernel)) (.int (iZ (st 19 (0)))) rfl dX1_faultAt_9 ?_
      refine z_icmp_ge (tgt := 50) hx hb (by omega) (by omega) dX1_faultAt_12 (by decide) (fun c1 => ?_) (fun c1 => ?_)
      · skip
        have he1 : fP (fun p => bt (st 13 bb) p ∧ HID (fun q t => st 0 (q * 60 + t)) (st 19 0) (st 19 1) (st 1) (st 2) p tt ff) (st 19 0).toNat 0 = -1 := fP_no (fun j a b => j2 j a (by omega))
        refine lv_aload_n hx hb dX1_faultAt_50 rfl (lv_at hl 1 rfl) ?_
        refine z_get (C := RX1) (T := TX1) (N := 1) (ci := 1) hx hb hts iX1 hown hK hP 4 rfl rfl 0 (by decide) (hts (.fieldLink RX1 9 "ShotBoard$Judge" "stage" "LShotBoard$Stage;") (by decide +kernel)) (.ref (a 1)) rfl dX1_faultAt_51 ?_
        refine lv_aload_n hx hb dX1_faultAt_54 rfl (lv_at hl 3 rfl) ?_
        refine z_get (C := RX0) (T := TX0) (N := 8) (ci := 0) hx hb hts iX0 hown hK hP (19 + (bb).toNat) (WC_bd g a _ (by omega) (by omega)) rfl 1 (by decide) (hts (.fieldLink RX1 44 "ShotBoard$Board" "main" "I") (by decide +kernel)) (.int (iZ (st 12 (bb)))) rfl dX1_faultAt_55 ?_
        refine lv_iload_n hx hb dX1_faultAt_58 rfl (lv_at hl 4 rfl) ?_
        refine z_cVR (q0 := 1) (ci := 5) (As := [.int (iZ (st 12 (bb))), .int (iZ (tt))]) (rest := []) S (m_X6_placeOf l D g a (st) (st 12 (bb)) (tt) hI (by omega) (by omega)) (cwV 2 hts gX1_faultAt_X6_placeOf rfl rfl rfl (by decide +kernel) ⟨Nat.le_trans (by decide) hRf, Nat.le_trans (by decide) hRl⟩) hK hP rfl rfl rfl hl.1 rfl (Nat.le_of_ble_eq_true rfl) dX1_faultAt_59 ⟨Nat.zero_le _, Nat.zero_le _⟩ ?_
        have f2 := hI.c0 ((st 12 (bb)) * 60 + (tt)) (by omega) (by omega)
        refine lv_istore (lv' := [(4, .int (iZ (st 0 ((st 12 (bb)) * 60 + (tt))))), (0, .ref (a 4)), (1, .int (iZ (ff))), (2, .ref (a (19 + (bb).toNat))), (3, .int (iZ (tt)))]) hx hb dX1_faultAt_62 hl (by decide) rfl (fun ls hl => ?_)
        refine z_iconst hx hb dX1_faultAt_64 ?_
        refine lv_istore (lv' := [(5, .int (iZ (0))), (4, .int (iZ (st 0 ((st 12 (bb)) * 60 + (tt))))), (0, .ref (a 4)), (1, .int (iZ (ff))), (2, .ref (a (19 + (bb).toNat))), (3, .int (iZ (tt)))]) hx hb dX1_faultAt_65 hl (by decide) rfl (fun ls hl => ?_)
        have LP67 : ∀ (n67 : Nat) (rr : Int), (st 19 0 - rr) < (n67 : Int) → (0 ≤ rr ∧ rr ≤ st 19 0) → (∀ j, 0 ≤ j → j < rr → ¬ (bt (st 13 bb) j ∧ ¬ cone ff (st 0 (st 12 bb * 60 + tt)) (st 0 (j * 60 + tt)))) → ∀ (ls : Array Slot), lv_has ls 6 [(5, .int (iZ (rr))), (4, .int (iZ (st 0 ((st 12 (bb)) * 60 + (tt))))), (0, .ref (a 4)), (1, .int (iZ (ff))), (2, .ref (a (19 + (bb).toNat))), (3, .int (iZ (tt)))] → W p l e R s m args below meth c s.heap [] 0 0 Q (F0 m 67 ls []) := by
          intro n67
          induction n67 with
          | zero =>
            intro rr hm67 k1 k2  ls hl
            exact absurd hm67 (by omega)
          | succ n67 ih67 =>
            intro rr hm67 k1 k2  ls hl
            refine lv_iload hx hb dX1_faultAt_67 (lv_at hl 0 rfl) ?_
            refine lv_aload_n hx hb dX1_faultAt_69 rfl (lv_at hl 2 rfl) ?_
            refine z_get (C := RX1) (T := TX1) (N := 1) (ci := 1) hx hb hts iX1 hown hK hP 4 rfl rfl 0 (by decide) (hts (.fieldLink RX1 9 "ShotBoard$Judge" "stage" "LShotBoard$Stage;") (by decide +kernel)) (.ref (a 1)) rfl dX1_faultAt_70 ?_
            refine z_get (C := RX6) (T := TX6) (N := 6) (ci := 5) hx hb hts iX6 hown hK hP 1 rfl rfl 4 (by decide) (hts (.fieldLink RX1 34 "ShotBoard$Stage" "persons" "I") (by decide +kernel)) (.int (iZ (st 19 (0)))) rfl dX1_faultAt_73 ?_
            refine z_icmp_ge (tgt := 119) hx hb (by omega) (by omega) dX1_faultAt_76 (by decide) (fun c3 => ?_) (fun c3 => ?_)
            · skip
              have he2 : fP (fun p => bt (st 13 bb) p ∧ ¬ cone ff (st 0 (st 12 bb * 60 + tt)) (st 0 (p * 60 + tt))) (st 19 0).toNat 0 = -1 := fP_no (fun j a b => k2 j a (by omega))
              refine lv_aload_n hx hb dX1_faultAt_119 rfl (lv_at hl 4 rfl) ?_
              refine z_get (C := RX0) (T := TX0) (N := 8) (ci := 0) hx hb hts iX0 hown hK hP (19 + (bb).toNat) (WC_bd g a _ (by omega) (by omega)) rfl 3 (by decide) (hts (.fieldLink RX1 56 "ShotBoard$Board" "sizes" "I") (by decide +kernel)) (.int (iZ (st 14 (bb)))) rfl dX1_faultAt_120 ?_
              refine lv_iload_n hx hb dX1_faultAt_123 rfl (lv_at hl 3 rfl) ?_
              refine lv_iload hx hb dX1_faultAt_124 (lv_at hl 1 rfl) ?_
              refine z_cSS (As := [.int (iZ (ff)), .int (iZ (st 0 ((st 12 (bb)) * 60 + (tt))))]) (rest := [.int (iZ (st 14 (bb)))]) S (m_X2_sizeSeen l (ff) (st 0 ((st 12 (bb)) * 60 + (tt))) (by omega) (by omega)) (va_cwS 2 hts gX1_faultAt_X2_sizeSeen rfl rfl rfl (by decide +kernel) ⟨Nat.le_trans (by decide) hRf, Nat.le_trans (by decide) hRl⟩) rfl hl.1 rfl (Nat.le_of_ble_eq_true rfl) dX1_faultAt_126 ⟨Nat.zero_le _, Nat.zero_le _⟩ ?_
              have f4 := sizeZ_b (ff) (st 0 ((st 12 (bb)) * 60 + (tt)))
              refine z_ishr hx hb dX1_faultAt_129 ?_
              refine z_iconst hx hb dX1_faultAt_130 ?_
              refine z_iand hx hb dX1_faultAt_131 ?_
              refine z_as (y := b2 (bt (st 14 bb) (sizeZ ff (st 0 (st 12 bb * 60 + tt))))) (bit_z (by omega) (by omega) (by omega) (by omega)) ?_
              refine z_if_ne (tgt := 138) hx hb (b2_rg _) dX1_faultAt_132 (by decide) (fun c5 => ?_) (fun c5 => ?_)
              · skip
                have c5 := b2_n0 c5
                have hsz := c5
                refine lv_aload_n hx hb dX1_faultAt_138 rfl (lv_at hl 4 rfl) ?_
                refine z_get (C := RX0) (T := TX0) (N := 8) (ci := 0) hx hb hts iX0 hown hK hP (19 + (bb).toNat) (WC_bd g a _ (by omega) (by omega)) rfl 0 (by decide) (hts (.fieldLink RX1 62 "ShotBoard$Board" "kind" "I") (by decide +kernel)) (.int (iZ (st 11 (bb)))) rfl dX1_faultAt_139 ?_
                refine z_iconst hx hb dX1_faultAt_142 ?_
                refine z_icmp_ne (tgt := 158) hx hb (by omega) (by decide) dX1_faultAt_143 (by decide) (fun c6 => ?_) (fun c6 => ?_)
                · skip
                  have hno : ¬ (st 11 bb = 2 ∧ st 15 bb < tt ∧ CHG (fun q t => st 0 (q * 60 + t)) (st 19 0) (st 12 bb) (st 13 bb) ff tt) := fun z => c6 z.1
                  refine z_iconst hx hb dX1_faultAt_158 ?_
                  refine lv_istore (lv' := [(5, .int (iZ (0))), (4, .int (iZ (st 0 ((st 12 (bb)) * 60 + (tt))))), (0, .ref (a 4)), (1, .int (iZ (ff))), (2, .ref (a (19 + (bb).toNat))), (3, .int (iZ (tt)))]) hx hb dX1_faultAt_159 hl (by decide) rfl (fun ls hl => ?_)
                  refine lv_iload hx hb dX1_faultAt_161 (lv_at hl 0 rfl) ?_
                  refine z_if_eq (tgt := 181) hx hb (by decide) dX1_faultAt_163 (by decide) (fun c7 => ?_) (fun c7 => ?_)
                  · skip
                    refine z_iconst hx hb dX1_faultAt_181 ?_
                    exact K _ _ _ (by
      unfold FL
      rw [he1, if_neg (by decide), he2, if_neg (by decide), if_neg (by rw [b2_t hsz]; decide), if_neg (fun z => hno (b2_1 z))]) dX1_faultAt_182
                  · skip
                    exact absurd c7 (by decide)
                · skip
                  refine lv_iload_n hx hb dX1_faultAt_146 rfl (lv_at hl 5 rfl) ?_
                  refine lv_aload_n hx hb dX1_faultAt_147 rfl (lv_at hl 4 rfl) ?_
                  refine z_get (C := RX0) (T := TX0) (N := 8) (ci := 0) hx hb hts iX0 hown hK hP (19 + (bb).toNat) (WC_bd g a _ (by omega) (by omega)) rfl 4 (by decide) (hts (.fieldLink RX1 15 "ShotBoard$Board" "first" "I") (by decide +kernel)) (.int (iZ (st 15 (bb)))) rfl dX1_faultAt_148 ?_
                  refine z_icmp_le (tgt := 158) hx hb (by omega) (by omega) dX1_faultAt_151 (by decide) (fun c8 => ?_) (fun c8 => ?_)
                  · skip
                    have hno : ¬ (st 11 bb = 2 ∧ st 15 bb < tt ∧ CHG (fun q t => st 0 (q * 60 + t)) (st 19 0) (st 12 bb) (st 13 bb) ff tt) := fun z => absurd z.2.1 (by omega)
                    refine z_iconst hx hb dX1_faultAt_158 ?_
                    refine lv_istore (lv' := [(5, .int (iZ (0))), (4, .int (iZ (st 0 ((st 12 (bb)) * 60 + (tt))))), (0, .ref (a 4)), (1, .int (iZ (ff))), (2, .ref (a (19 + (bb).toNat))), (3, .int (iZ (tt)))]) hx hb dX1_faultAt_159 hl (by decide) rfl (fun ls hl => ?_)
                    refine lv_iload hx hb dX1_faultAt_161 (lv_at hl 0 rfl) ?_
                    refine z_if_eq (tgt := 181) hx hb (by decide) dX1_faultAt_163 (by decide) (fun c9 => ?_) (fun c9 => ?_)
                    · skip
                      refine z_iconst hx hb dX1_faultAt_181 ?_
                      exact K _ _ _ (by
      unfold FL
      rw [he1, if_neg (by decide), he2, if_neg (by decide), if_neg (by rw [b2_t hsz]; decide), if_neg (fun z => hno (b2_1 z))]) dX1_faultAt_182
                    · skip
                      exact absurd c9 (by decide)
                  · skip
                    refine z_iconst hx hb dX1_faultAt_154 ?_
                    refine lv_goto (tgt := 159) hx hb dX1_faultAt_155 (by decide) ?_
                    refine lv_istore (lv' := [(5, .int (iZ (1))), (4, .int (iZ (st 0 ((st 12 (bb)) * 60 + (tt))))), (0, .ref (a 4)), (1, .int (iZ (ff))), (2, .ref (a (19 + (bb).toNat))), (3, .int (iZ (tt)))]) hx hb dX1_faultAt_159 hl (by decide) rfl (fun ls hl => ?_)
                    refine lv_iload hx hb dX1_faultAt_161 (lv_at hl 0 rfl) ?_
                    refine z_if_eq (tgt := 181) hx hb (by decide) dX1_faultAt_163 (by decide) (fun c10 => ?_) (fun c10 => ?_)
                    · skip
                      exact absurd c10 (by decide)
                    · skip
                      refine lv_aload_n hx hb dX1_faultAt_166 rfl (lv_at hl 2 rfl) ?_
                      refine lv_iload_n hx hb dX1_faultAt_167 rfl (lv_at hl 3 rfl) ?_
                      refine lv_aload_n hx hb dX1_faultAt_168 rfl (lv_at hl 4 rfl) ?_
                      refine lv_iload_n hx hb dX1_faultAt_169 rfl (lv_at hl 5 rfl) ?_
                      refine z_cVR (q0 := 4) (ci := 1) (As := [.int (iZ (ff)), .ref (a (19 + (bb).toNat)), .int (iZ (tt))]) (rest := []) S (m_X1_someoneChangesSide l D g a (st) (ff) (bb) (tt) hI (by omega) (by omega) (by omega)) (cwV 3 hts gX1_faultAt_X1_someoneChangesSide rfl rfl rfl (by decide +kernel) ⟨Nat.le_trans (by decide) hRf, Nat.le_trans (by decide) hRl⟩) hK hP rfl rfl rfl hl.1 rfl (Nat.le_of_ble_eq_true rfl) dX1_faultAt_170 ⟨Nat.zero_le _, Nat.zero_le _⟩ ?_
                      refine z_if_eq (tgt := 181) hx hb (b2_rg _) dX1_faultAt_173 (by decide) (fun c11 => ?_) (fun c11 => ?_)
                      · skip
                        have c11 := b2_0 c11
                        have hno : ¬ (st 11 bb = 2 ∧ st 15 bb < tt ∧ CHG (fun q t => st 0 (q * 60 + t)) (st 19 0) (st 12 bb) (st 13 bb) ff tt) := fun z => c11 z.2.2
                        refine z_iconst hx hb dX1_faultAt_181 ?_
                        exact K _ _ _ (by
      unfold FL
      rw [he1, if_neg (by decide), he2, if_neg (by decide), if_neg (by rw [b2_t hsz]; decide), if_neg (fun z => hno (b2_1 z))]) dX1_faultAt_182
                      · skip
                        have c11 := b2_n0 c11
                        have hyes : st 11 bb = 2 ∧ st 15 bb < tt ∧ CHG (fun q t => st 0 (q * 60 + t)) (st 19 0) (st 12 bb) (st 13 bb) ff tt := ⟨by omega, by omega, c11⟩
                        refine z_bipush hx hb dX1_faultAt_176 (by decide +kernel) ?_
                        refine lv_goto (tgt := 182) hx hb dX1_faultAt_178 (by decide) ?_
                        exact K _ _ _ (by
      unfold FL
      rw [he1, if_neg (by decide), he2, if_neg (by decide), if_neg (by rw [b2_t hsz]; decide), if_pos (b2_t hyes)]) dX1_faultAt_182
              · skip
                have c5 := b2_0 c5
                have hsz := c5
                refine z_bipush hx hb dX1_faultAt_135 (by decide +kernel) ?_
                exact K _ _ _ (by unfold FL; rw [he1, if_neg (by decide), he2, if_neg (by decide), if_pos (b2_f hsz)]) dX1_faultAt_137
            · skip
              refine lv_aload_n hx hb dX1_faultAt_79 rfl (lv_at hl 4 rfl) ?_
              refine lv_iload hx hb dX1_faultAt_80 (lv_at hl 0 rfl) ?_
              refine z_cVR (q0 := (19 + (bb).toNat)) (ci := 0) (As := [.int (iZ (rr))]) (rest := []) S (m_X0_mustShow l D g a (st) (bb) (rr) hI (by omega) (by omega)) (cwV 1 hts gX1_faultAt_X0_mustShow rfl rfl rfl (by decide +kernel) ⟨Nat.le_trans (by decide) hRf, Nat.le_trans (by decide) hRl⟩) hK hP rfl (WC_bd g a _ (by omega) (by omega)) rfl hl.1 rfl (Nat.le_of_ble_eq_true rfl) dX1_faultAt_82 ⟨Nat.zero_le _, Nat.zero_le _⟩ ?_
              refine z_if_eq (tgt := 113) hx hb (b2_rg _) dX1_faultAt_85 (by decide) (fun c12 => ?_) (fun c12 => ?_)
              · skip
                have c12 := b2_0 c12
                have hnb := c12
                refine z_iinc (lv' := [(5, .int (iZ ((rr) + 1))), (4, .int (iZ (st 0 ((st 12 (bb)) * 60 + (tt))))), (0, .ref (a 4)), (1, .int (iZ (ff))), (2, .ref (a (19 + (bb).toNat))), (3, .int (iZ (tt)))]) hx hb dX1_faultAt_113 hl (k := 0) rfl (by decide) rfl (fun ls hl => ?_)
                refine lv_goto (tgt := 67) hx hb dX1_faultAt_116 (by decide) ?_
                exact ih67 ((rr) + 1) (by omega) (by omega) (fun j a b => by
      by_cases e9 : j = rr
      · subst e9; exact fun z => by first | exact hnb z.1 | exact z.2 hyc
      · exact k2 j a (by omega))  ls (lv_sub hl [0, 1, 2, 3, 4, 5] rfl)
              · skip
                have c12 := b2_n0 c12
                have hyb := c12
                refine lv_iload_n hx hb dX1_faultAt_88 rfl (lv_at hl 3 rfl) ?_
                refine lv_iload hx hb dX1_faultAt_89 (lv_at hl 1 rfl) ?_
                refine lv_aload_n hx hb dX1_faultAt_91 rfl (lv_at hl 2 rfl) ?_
                refine z_get (C := RX1) (T := TX1) (N := 1) (ci := 1) hx hb hts iX1 hown hK hP 4 rfl rfl 0 (by decide) (hts (.fieldLink RX1 9 "ShotBoard$Judge" "stage" "LShotBoard$Stage;") (by decide +kernel)) (.ref (a 1)) rfl dX1_faultAt_92 ?_
                refine lv_iload hx hb dX1_faultAt_95 (lv_at hl 0 rfl) ?_
                refine lv_iload_n hx hb dX1_faultAt_97 rfl (lv_at hl 5 rfl) ?_
                refine z_cVR (q0 := 1) (ci := 5) (As := [.int (iZ (rr)), .int (iZ (tt))]) (rest := [.int (iZ (st 0 ((st 12 (bb)) * 60 + (tt)))), .int (iZ (ff))]) S (m_X6_placeOf l D g a (st) (rr) (tt) hI (by omega) (by omega)) (cwV 2 hts gX1_faultAt_X6_placeOf rfl rfl rfl (by decide +kernel) ⟨Nat.le_trans (by decide) hRf, Nat.le_trans (by decide) hRl⟩) hK hP rfl rfl rfl hl.1 rfl (Nat.le_of_ble_eq_true rfl) dX1_faultAt_98 ⟨Nat.zero_le _, Nat.zero_le _⟩ ?_
                have f13 := hI.c0 ((rr) * 60 + (tt)) (by omega) (by omega)
                refine z_cSS (As := [.int (iZ (ff)), .int (iZ (st 0 ((st 12 (bb)) * 60 + (tt)))), .int (iZ (st 0 ((rr) * 60 + (tt))))]) (rest := []) S (m_X2_inCone l (ff) (st 0 ((st 12 (bb)) * 60 + (tt))) (st 0 ((rr) * 60 + (tt))) (by omega) (by omega) (by omega)) (va_cwS 3 hts gX1_faultAt_X2_inCone rfl rfl rfl (by decide +kernel) ⟨Nat.le_trans (by decide) hRf, Nat.le_trans (by decide) hRl⟩) rfl hl.1 rfl (Nat.le_of_ble_eq_true rfl) dX1_faultAt_101 ⟨Nat.zero_le _, Nat.zero_le _⟩ ?_
                refine z_if_ne (tgt := 113) hx hb (b2_rg _) dX1_faultAt_104 (by decide) (fun c14 => ?_) (fun c14 => ?_)
                · skip
                  have c14 := b2_n0 c14
                  have hyc := c14
                  refine z_iinc (lv' := [(5, .int (iZ ((rr) + 1))), (4, .int (iZ (st 0 ((st 12 (bb)) * 60 + (tt))))), (0, .ref (a 4)), (1, .int (iZ (ff))), (2, .ref (a (19 + (bb).toNat))), (3, .int (iZ (tt)))]) hx hb dX1_faultAt_113 hl (k := 0) rfl (by decide) rfl (fun ls hl => ?_)
                  refine lv_goto (tgt := 67) hx hb dX1_faultAt_116 (by decide) ?_
                  exact ih67 ((rr) + 1) (by omega) (by omega) (fun j a b => by
      by_cases e9 : j = rr
      · subst e9; exact fun z => by first | exact hnb z.1 | exact z.2 hyc
      · exact k2 j a (by omega))  ls (lv_sub hl [0, 1, 2, 3, 4, 5] rfl)
                · skip
                  have c14 := b2_0 c14
                  have hnc := c14
                  refine z_bipush hx hb dX1_faultAt_107 (by decide +kernel) ?_
                  refine lv_iload hx hb dX1_faultAt_109 (lv_at hl 0 rfl) ?_
                  refine z_iadd hx hb dX1_faultAt_111 ?_
                  exact K _ _ _ (by unfold FL; rw [he1, if_neg (by decide), fP_is (q := rr) (by omega) (by omega) ⟨hyb, hnc⟩ k2, if_pos (by omega)]) dX1_faultAt_112
        exact LP67 ((st 19 0 - (0)) + 1 : Int).toNat (0) (by omega) (by omega) (fun j a b => by omega)  ls (lv_sub hl [0, 1, 2, 3, 4, 5] rfl)
      · skip
        refine lv_aload_n hx hb dX1_faultAt_15 rfl (lv_at hl 3 rfl) ?_
        refine lv_iload hx hb dX1_faultAt_16 (lv_at hl 0 rfl) ?_
        refine z_cVR (q0 := (19 + (bb).toNat)) (ci := 0) (As := [.int (iZ (qq))]) (rest := []) S (m_X0_mustShow l D g a (st) (bb) (qq) hI (by omega) (by omega)) (cwV 1 hts gX1_faultAt_X0_mustShow rfl rfl rfl (by decide +kernel) ⟨Nat.le_trans (by decide) hRf, Nat.le_trans (by decide) hRl⟩) hK hP rfl (WC_bd g a _ (by omega) (by omega)) rfl hl.1 rfl (Nat.le_of_ble_eq_true rfl) dX1_faultAt_18 ⟨Nat.zero_le _, Nat.zero_le _⟩ ?_
        refine z_if_eq (tgt := 44) hx hb (b2_rg _) dX1_faultAt_21 (by decide) (fun c15 => ?_) (fun c15 => ?_)
        · skip
          have c15 := b2_0 c15
          have hnb := c15
          refine z_iinc (lv' := [(4, .int (iZ ((qq) + 1))), (0, .ref (a 4)), (1, .int (iZ (ff))), (2, .ref (a (19 + (bb).toNat))), (3, .int (iZ (tt)))]) hx hb dX1_faultAt_44 hl (k := 0) rfl (by decide) rfl (fun ls hl => ?_)
          refine lv_goto (tgt := 3) hx hb dX1_faultAt_47 (by decide) ?_
          exact ih3 ((qq) + 1) (by omega) (by omega) (fun j a b => by
      by_cases e9 : j = qq
      · subst e9; exact fun z => by first | exact hnb z.1 | exact hnb2 z.2
      · exact j2 j a (by omega))  ls (lv_sub hl [0, 1, 2, 3, 4] rfl)
        · skip
          have c15 := b2_n0 c15
          have hyb := c15
          refine lv_aload_n hx hb dX1_faultAt_24 rfl (lv_at hl 1 rfl) ?_
          refine z_get (C := RX1) (T := TX1) (N := 1) (ci := 1) hx hb hts iX1 hown hK hP 4 rfl rfl 0 (by decide) (hts (.fieldLink RX1 9 "ShotBoard$Judge" "stage" "LShotBoard$Stage;") (by decide +kernel)) (.ref (a 1)) rfl dX1_faultAt_25 ?_
          refine lv_iload hx hb dX1_faultAt_28 (lv_at hl 0 rfl) ?_
          refine lv_iload_n hx hb dX1_faultAt_30 rfl (lv_at hl 4 rfl) ?_
          refine lv_iload_n hx hb dX1_faultAt_31 rfl (lv_at hl 2 rfl) ?_
          refine z_cVR (q0 := 1) (ci := 5) (As := [.int (iZ (qq)), .int (iZ (tt)), .int (iZ (ff))]) (rest := []) S (m_X6_hides l D g a (st) (qq) (tt) (ff) hI (by omega) (by omega) (by omega)) (cwV 3 hts gX1_faultAt_X6_hides rfl rfl rfl (by decide +kernel) ⟨Nat.le_trans (by decide) hRf, Nat.le_trans (by decide) hRl⟩) hK hP rfl rfl rfl hl.1 rfl (Nat.le_of_ble_eq_true rfl) dX1_faultAt_32 ⟨Nat.zero_le _, Nat.zero_le _⟩ ?_
          refine z_if_eq (tgt := 44) hx hb (b2_rg _) dX1_faultAt_35 (by decide) (fun c16 => ?_) (fun c16 => ?_)
          · skip
            have c16 := b2_0 c16
            have hnb2 := c16
            refine z_iinc (lv' := [(4, .int (iZ ((qq) + 1))), (0, .ref (a 4)), (1, .int (iZ (ff))), (2, .ref (a (19 + (bb).toNat))), (3, .int (iZ (tt)))]) hx hb dX1_faultAt_44 hl (k := 0) rfl (by decide) rfl (fun ls hl => ?_)
            refine lv_goto (tgt := 3) hx hb dX1_faultAt_47 (by decide) ?_
            exact ih3 ((qq) + 1) (by omega) (by omega) (fun j a b => by
      by_cases e9 : j = qq
      · subst e9; exact fun z => by first | exact hnb z.1 | exact hnb2 z.2
      · exact j2 j a (by omega))  ls (lv_sub hl [0, 1, 2, 3, 4] rfl)
          · skip
            have c16 := b2_n0 c16
            have hyb2 := c16
            refine z_bipush hx hb dX1_faultAt_38 (by decide +kernel) ?_
            refine lv_iload hx hb dX1_faultAt_40 (lv_at hl 0 rfl) ?_
            refine z_iadd hx hb dX1_faultAt_42 ?_
            exact K _ _ _ (by unfold FL; rw [fP_is (q := qq) (by omega) (by omega) ⟨hyb, hyb2⟩ j2, if_pos (by omega)]) dX1_faultAt_43
  exact LP3 ((st 19 0 - (0)) + 1 : Int).toNat (0) (by omega) (by omega) (fun j a b => by omega)  ls (lv_sub hl [0, 1, 2, 3, 4] rfl)
abbrev rX1_fault : Room := { frames := 4, cells := 0, slots := 0, locals := 99 }
set_option maxHeartbeats 4000000 in
set_option maxRecDepth 100000 in
theorem m_X1_fault (l : Launch) (D : va_G) (g : Nat → ClassId) (a : Nat → Nat) (st : SS) (ff : Int) (bb : Int) (hI : IC st) (h1 : 0 ≤ bb ∧ bb < st 19 3) (h3 : plc ff) : Met l yX1_fault wsX1_fault rX1_fault (PcR D g (WC g a st) [.ref (a 4), .int (iZ (ff)), .ref (a (19 + (bb).toNat))]) (QcRead (iZ (WHY (FLc st bb ff) (st 16 bb - st 15 bb + 1).toNat (st 15 bb)))) 0 0 (fun _ => False) := by
  refine metR (cc := cX1_fault) (maxL := 6) (ret := (some .int)) (own := RX1) (by decide) rfl rfl (Nat.le_of_ble_eq_true rfl) (Or.inl rfl) ?_
  intro p e R s m args below meth c Q ls S hRf hRl hK hP hl K
  have hx := S.1
  have hb := S.2.1
  have hown := S.2.2.2.1
  have hts := S.2.2.2.2
  have hRf : 4 ≤ R.frames := hRf
  have hRl : 99 ≤ R.locals := hRl
  have hl : lv_has ls 6 [(0, .ref (a 4)), (1, .int (iZ (ff))), (2, .ref (a (19 + (bb).toNat)))] := hl
  have iX0 : ∀ w ∈ wsX00, w ∈ wsX1_fault := by decide +kernel
  have iX1 : ∀ w ∈ wsX10, w ∈ wsX1_fault := by decide +kernel
  have hB := hI.s
  have hbR := hI.bd bb (by omega) (by omega)
  have hL1 := (hI.bl bb (by omega) (by omega)).1
  have hL2 := (hI.bl bb (by omega) (by omega)).2.1
  refine lv_aload_n hx hb dX1_fault_0 rfl (lv_at hl 2 rfl) ?_
  refine z_get (C := RX0) (T := TX0) (N := 8) (ci := 0) hx hb hts iX0 hown hK hP (19 + (bb).toNat) (WC_bd g a _ (by omega) (by omega)) rfl 4 (by decide) (hts (.fieldLink RX1 15 "ShotBoard$Board" "first" "I") (by decide +kernel)) (.int (iZ (st 15 (bb)))) rfl dX1_fault_1 ?_
  refine lv_istore_n (lv' := [(3, .int (iZ (st 15 (bb)))), (0, .ref (a 4)), (1, .int (iZ (ff))), (2, .ref (a (19 + (bb).toNat)))]) hx hb dX1_fault_4 rfl hl (by decide) rfl (fun ls hl => ?_)
  have LP5 : ∀ (n5 : Nat) (tt : Int), (st 16 bb + 1 - tt) < (n5 : Int) → (st 15 bb ≤ tt ∧ tt ≤ st 16 bb + 1) → (st 15 bb < tt → FLc st bb ff (tt - 1) = 0) → (WHY (FLc st bb ff) (st 16 bb - st 15 bb + 1).toNat (st 15 bb) = WHY (FLc st bb ff) (st 16 bb + 1 - tt).toNat tt) → ∀ (ls : Array Slot), lv_has ls 6 [(3, .int (iZ (tt))), (0, .ref (a 4)), (1, .int (iZ (ff))), (2, .ref (a (19 + (bb).toNat)))] → W p l e R s m args below meth c s.heap [] 0 0 Q (F0 m 5 ls []) := by
    intro n5
    induction n5 with
    | zero =>
      intro tt hm5 j1 j2 j3  ls hl
      exact absurd hm5 (by omega)
    | succ n5 ih5 =>
      intro tt hm5 j1 j2 j3  ls hl
      refine lv_iload_n hx hb dX1_fault_5 rfl (lv_at hl 0 rfl) ?_
      refine lv_aload_n hx hb dX1_fault_6 rfl (lv_at hl 3 rfl) ?_
      refine z_get (C := RX0) (T := TX0) (N := 8) (ci := 0) hx hb hts iX0 hown hK hP (19 + (bb).toNat) (WC_bd g a _ (by omega) (by omega)) rfl 5 (by decide) (hts (.fieldLink RX1 21 "ShotBoard$Board" "last" "I") (by decide +kernel)) (.int (iZ (st 16 (bb)))) rfl dX1_fault_7 ?_
      refine z_icmp_gt (tgt := 76) hx hb (by omega) (by omega) dX1_fault_10 (by decide) (fun c1 => ?_) (fun c1 => ?_)
      · skip
        refine z_iconst hx hb dX1_fault_76 ?_
        exact K _ _ _ (by rw [j3, show (st 16 bb + 1 - tt).toNat = 0 by omega]; rfl) dX1_fault_77
      · skip
        refine lv_iload_n hx hb dX1_fault_13 rfl (lv_at hl 0 rfl) ?_
        refine lv_aload_n hx hb dX1_fault_14 rfl (lv_at hl 3 rfl) ?_
        refine z_get (C := RX0) (T := TX0) (N := 8) (ci := 0) hx hb hts iX0 hown hK hP (19 + (bb).toNat) (WC_bd g a _ (by omega) (by omega)) rfl 4 (by decide) (hts (.fieldLink RX1 15 "ShotBoard$Board" "first" "I") (by decide +kernel)) (.int (iZ (st 15 (bb)))) rfl dX1_fault_15 ?_
        refine z_icmp_eq (tgt := 32) hx hb (by omega) (by omega) dX1_fault_18 (by decide) (fun c2 => ?_) (fun c2 => ?_)
        · skip
          refine z_iconst hx hb dX1_fault_32 ?_
          refine lv_goto (tgt := 37) hx hb dX1_fault_33 (by decide) ?_
          refine lv_istore (lv' := [(4, .int (iZ (1))), (3, .int (iZ (tt))), (0, .ref (a 4)), (1, .int (iZ (ff))), (2, .ref (a (19 + (bb).toNat)))]) hx hb dX1_fault_37 hl (by decide) rfl (fun ls hl => ?_)
          refine lv_iload hx hb dX1_fault_39 (lv_at hl 0 rfl) ?_
          refine z_if_eq (tgt := 54) hx hb (by decide) dX1_fault_41 (by decide) (fun c3 => ?_) (fun c3 => ?_)
          · skip
            exact absurd c3 (by decide)
          · skip
            refine lv_aload_n hx hb dX1_fault_44 rfl (lv_at hl 2 rfl) ?_
            refine lv_iload_n hx hb dX1_fault_45 rfl (lv_at hl 3 rfl) ?_
            refine lv_aload_n hx hb dX1_fault_46 rfl (lv_at hl 4 rfl) ?_
            refine lv_iload_n hx hb dX1_fault_47 rfl (lv_at hl 1 rfl) ?_
            refine z_cVR (q0 := 4) (ci := 1) (As := [.int (iZ (ff)), .ref (a (19 + (bb).toNat)), .int (iZ (tt))]) (rest := []) S (m_X1_faultAt l D g a (st) (ff) (bb) (tt) hI (by omega) (by omega) (by omega)) (cwV 3 hts gX1_fault_X1_faultAt rfl rfl rfl (by decide +kernel) ⟨Nat.le_trans (by decide) hRf, Nat.le_trans (by decide) hRl⟩) hK hP rfl rfl rfl hl.1 rfl (Nat.le_of_ble_eq_true rfl) dX1_fault_48 ⟨Nat.zero_le _, Nat.zero_le _⟩ ?_
            have f4 := FL_b (fun q t => st 0 (q * 60 + t)) (st 19 0) (st 19 1) (st 1) (st 2) (st 11 (bb)) (st 12 (bb)) (st 13 (bb)) (st 14 (bb)) (st 15 (bb)) (ff) (tt) (by omega)
            refine lv_goto (tgt := 55) hx hb dX1_fault_51 (by decide) ?_
            refine lv_istore (lv' := [(5, .int (iZ (FL (fun q t => st 0 (q * 60 + t)) (st 19 0) (st 19 1) (st 1) (st 2) (st 11 (bb)) (st 12 (bb)) (st 13 (bb)) (st 14 (bb)) (st 15 (bb)) (ff) (tt)))), (4, .int (iZ (1))), (3, .int (iZ (tt))), (0, .ref (a 4)), (1, .int (iZ (ff))), (2, .ref (a (19 + (bb).toNat)))]) hx hb dX1_fault_55 hl (by decide) rfl (fun ls hl => ?_)
            refine lv_iload hx hb dX1_fault_57 (lv_at hl 0 rfl) ?_
            refine z_if_eq (tgt := 70) hx hb (by omega) dX1_fault_59 (by decide) (fun c5 => ?_) (fun c5 => ?_)
            · skip
              have hz := c5
              refine z_iinc (lv' := [(3, .int (iZ ((tt) + 1))), (5, .int (iZ (FL (fun q t => st 0 (q * 60 + t)) (st 19 0) (st 19 1) (st 1) (st 2) (st 11 (bb)) (st 12 (bb)) (st 13 (bb)) (st 14 (bb)) (st 15 (bb)) (ff) (tt)))), (4, .int (iZ (1))), (0, .ref (a 4)), (1, .int (iZ (ff))), (2, .ref (a (19 + (bb).toNat)))]) hx hb dX1_fault_70 hl (k := 2) rfl (by decide) rfl (fun ls hl => ?_)
              refine lv_goto (tgt := 5) hx hb dX1_fault_73 (by decide) ?_
              have hz9 : FLc st bb ff tt = 0 := by
                first | exact hz | exact FL_skip (mn := st 12 bb) ⟨by omega, by omega⟩ (fun q a b => hI.st q tt a (by omega) (by omega) (by omega) (fun z => hnew ⟨q, a, b, z⟩)) (j2 (by omega))
              exact ih5 ((tt) + 1) (by omega) (by omega) (fun _ => by rw [show (tt) + 1 - 1 = tt by omega]; exact hz9) (by rw [j3, show (st 16 bb + 1 - tt).toNat = (st 16 bb + 1 - (tt + 1)).toNat + 1 by omega, WHY_0 hz9])  ls (lv_sub hl [0, 3, 4, 5] rfl)
            · skip
              have hnz := c5
              refine z_bipush hx hb dX1_fault_62 (by decide +kernel) ?_
              refine lv_iload_n hx hb dX1_fault_64 rfl (lv_at hl 2 rfl) ?_
              refine z_imul hx hb dX1_fault_65 ?_
              refine lv_iload hx hb dX1_fault_66 (lv_at hl 0 rfl) ?_
              refine z_iadd hx hb dX1_fault_68 ?_
              exact K _ _ _ (by rw [j3, show (st 16 bb + 1 - tt).toNat = (st 16 bb + 1 - (tt + 1)).toNat + 1 by omega, WHY_n hnz]) dX1_fault_69
        · skip
          refine lv_aload_n hx hb dX1_fault_21 rfl (lv_at hl 1 rfl) ?_
          refine z_get (C := RX1) (T := TX1) (N := 1) (ci := 1) hx hb hts iX1 hown hK hP 4 rfl rfl 0 (by decide) (hts (.fieldLink RX1 9 "ShotBoard$Judge" "stage" "LShotBoard$Stage;") (by decide +kernel)) (.ref (a 1)) rfl dX1_fault_22 ?_
          refine lv_iload_n hx hb dX1_fault_25 rfl (lv_at hl 0 rfl) ?_
          refine z_cVR (q0 := 1) (ci := 5) (As := [.int (iZ (tt))]) (rest := []) S (m_X6_someoneStepsAt l D g a (st) (tt) hI (by omega)) (cwV 1 hts gX1_fault_X6_someoneStepsAt rfl rfl rfl (by decide +kernel) ⟨Nat.le_trans (by decide) hRf, Nat.le_trans (by decide) hRl⟩) hK hP rfl rfl rfl hl.1 rfl (Nat.le_of_ble_eq_true rfl) dX1_fault_26 ⟨Nat.zero_le _, Nat.zero_le _⟩ ?_
          refine z_if_eq (tgt := 36) hx hb (b2_rg _) dX1_fault_29 (by decide) (fun c6 => ?_) (fun c6 => ?_)
          · skip
            have c6 := b2_0 c6
            have hnew := c6
            refine z_iconst hx hb dX1_fault_36 ?_
            refine lv_istore (lv' := [(4, .int (iZ (0))), (3, .int (iZ (tt))), (0, .ref (a 4)), (1, .int (iZ (ff))), (2, .ref (a (19 + (bb).toNat)))]) hx hb dX1_fault_37 hl (by decide) rfl (fun ls hl => ?_)
            refine lv_iload hx hb dX1_fault_39 (lv_at hl 0 rfl) ?_
            refine z_if_eq (tgt := 54) hx hb (by decide) dX1_fault_41 (by decide) (fun c7 => ?_) (fun c7 => ?_)
            · skip
              refine z_iconst hx hb dX1_fault_54 ?_
              refine lv_istore (lv' := [(5, .int (iZ (0))), (4, .int (iZ (0))), (3, .int (iZ (tt))), (0, .ref (a 4)), (1, .int (iZ (ff))), (2, .ref (a (19 + (bb).toNat)))]) hx hb dX1_fault_55 hl (by decide) rfl (fun ls hl => ?_)
              refine lv_iload hx hb dX1_fault_57 (lv_at hl 0 rfl) ?_
              refine z_if_eq (tgt := 70) hx hb (by decide) dX1_fault_59 (by decide) (fun c8 => ?_) (fun c8 => ?_)
              · skip
                have hz := c8
                refine z_iinc (lv' := [(3, .int (iZ ((tt) + 1))), (5, .int (iZ (0))), (4, .int (iZ (0))), (0, .ref (a 4)), (1, .int (iZ (ff))), (2, .ref (a (19 + (bb).toNat)))]) hx hb dX1_fault_70 hl (k := 2) rfl (by decide) rfl (fun ls hl => ?_)
                refine lv_goto (tgt := 5) hx hb dX1_fault_73 (by decide) ?_
                have hz9 : FLc st bb ff tt = 0 := by
                  first | exact hz | exact FL_skip (mn := st 12 bb) ⟨by omega, by omega⟩ (fun q a b => hI.st q tt a (by omega) (by omega) (by omega) (fun z => hnew ⟨q, a, b, z⟩)) (j2 (by omega))
                exact ih5 ((tt) + 1) (by omega) (by omega) (fun _ => by rw [show (tt) + 1 - 1 = tt by omega]; exact hz9) (by rw [j3, show (st 16 bb + 1 - tt).toNat = (st 16 bb + 1 - (tt + 1)).toNat + 1 by omega, WHY_0 hz9])  ls (lv_sub hl [0, 3, 4, 5] rfl)
              · skip
                exact absurd c8 (by decide)
            · skip
              exact absurd c7 (by decide)
          · skip
            have c6 := b2_n0 c6
            refine z_iconst hx hb dX1_fault_32 ?_
            refine lv_goto (tgt := 37) hx hb dX1_fault_33 (by decide) ?_
            refine lv_istore (lv' := [(4, .int (iZ (1))), (3, .int (iZ (tt))), (0, .ref (a 4)), (1, .int (iZ (ff))), (2, .ref (a (19 + (bb).toNat)))]) hx hb dX1_fault_37 hl (by decide) rfl (fun ls hl => ?_)
            refine lv_iload hx hb dX1_fault_39 (lv_at hl 0 rfl) ?_
            refine z_if_eq (tgt := 54) hx hb (by decide) dX1_fault_41 (by decide) (fun c9 => ?_) (fun c9 => ?_)
            · skip
              exact absurd c9 (by decide)
            · skip
              refine lv_aload_n hx hb dX1_fault_44 rfl (lv_at hl 2 rfl) ?_
              refine lv_iload_n hx hb dX1_fault_45 rfl (lv_at hl 3 rfl) ?_
              refine lv_aload_n hx hb dX1_fault_46 rfl (lv_at hl 4 rfl) ?_
              refine lv_iload_n hx hb dX1_fault_47 rfl (lv_at hl 1 rfl) ?_
              refine z_cVR (q0 := 4) (ci := 1) (As := [.int (iZ (ff)), .ref (a (19 + (bb).toNat)), .int (iZ (tt))]) (rest := []) S (m_X1_faultAt l D g a (st) (ff) (bb) (tt) hI (by omega) (by omega) (by omega)) (cwV 3 hts gX1_fault_X1_faultAt rfl rfl rfl (by decide +kernel) ⟨Nat.le_trans (by decide) hRf, Nat.le_trans (by decide) hRl⟩) hK hP rfl rfl rfl hl.1 rfl (Nat.le_of_ble_eq_true rfl) dX1_fault_48 ⟨Nat.zero_le _, Nat.zero_le _⟩ ?_
              have f10 := FL_b (fun q t => st 0 (q * 60 + t)) (st 19 0) (st 19 1) (st 1) (st 2) (st 11 (bb)) (st 12 (bb)) (st 13 (bb)) (st 14 (bb)) (st 15 (bb)) (ff) (tt) (by omega)
              refine lv_goto (tgt := 55) hx hb dX1_fault_51 (by decide) ?_
              refine lv_istore (lv' := [(5, .int (iZ (FL (fun q t => st 0 (q * 60 + t)) (st 19 0) (st 19 1) (st 1) (st 2) (st 11 (bb)) (st 12 (bb)) (st 13 (bb)) (st 14 (bb)) (st 15 (bb)) (ff) (tt)))), (4, .int (iZ (1))), (3, .int (iZ (tt))), (0, .ref (a 4)), (1, .int (iZ (ff))), (2, .ref (a (19 + (bb).toNat)))]) hx hb dX1_fault_55 hl (by decide) rfl (fun ls hl => ?_)
              refine lv_iload hx hb dX1_fault_57 (lv_at hl 0 rfl) ?_
              refine z_if_eq (tgt := 70) hx hb (by omega) dX1_fault_59 (by decide) (fun c11 => ?_) (fun c11 => ?_)
              · skip
                have hz := c11
                refine z_iinc (lv' := [(3, .int (iZ ((tt) + 1))), (5, .int (iZ (FL (fun q t => st 0 (q * 60 + t)) (st 19 0) (st 19 1) (st 1) (st 2) (st 11 (bb)) (st 12 (bb)) (st 13 (bb)) (st 14 (bb)) (st 15 (bb)) (ff) (tt)))), (4, .int (iZ (1))), (0, .ref (a 4)), (1, .int (iZ (ff))), (2, .ref (a (19 + (bb).toNat)))]) hx hb dX1_fault_70 hl (k := 2) rfl (by decide) rfl (fun ls hl => ?_)
                refine lv_goto (tgt := 5) hx hb dX1_fault_73 (by decide) ?_
                have hz9 : FLc st bb ff tt = 0 := by
                  first | exact hz | exact FL_skip (mn := st 12 bb) ⟨by omega, by omega⟩ (fun q a b => hI.st q tt a (by omega) (by omega) (by omega) (fun z => hnew ⟨q, a, b, z⟩)) (j2 (by omega))
                exact ih5 ((tt) + 1) (by omega) (by omega) (fun _ => by rw [show (tt) + 1 - 1 = tt by omega]; exact hz9) (by rw [j3, show (st 16 bb + 1 - tt).toNat = (st 16 bb + 1 - (tt + 1)).toNat + 1 by omega, WHY_0 hz9])  ls (lv_sub hl [0, 3, 4, 5] rfl)
              · skip
                have hnz := c11
                refine z_bipush hx hb dX1_fault_62 (by decide +kernel) ?_
                refine lv_iload_n hx hb dX1_fault_64 rfl (lv_at hl 2 rfl) ?_
                refine z_imul hx hb dX1_fault_65 ?_
                refine lv_iload hx hb dX1_fault_66 (lv_at hl 0 rfl) ?_
                refine z_iadd hx hb dX1_fault_68 ?_
                exact K _ _ _ (by rw [j3, show (st 16 bb + 1 - tt).toNat = (st 16 bb + 1 - (tt + 1)).toNat + 1 by omega, WHY_n hnz]) dX1_fault_69
  exact LP5 ((st 16 bb + 1 - (st 15 (bb))) + 1 : Int).toNat (st 15 (bb)) (by omega) (by omega) (fun z => by omega) (by rw [show st 16 bb - st 15 bb + 1 = st 16 bb + 1 - st 15 bb by omega])  ls (lv_sub hl [0, 1, 2, 3] rfl)
abbrev rX1_sideOfMain : Room := { frames := 2, cells := 0, slots := 0, locals := 42 }
set_option maxHeartbeats 4000000 in
set_option maxRecDepth 100000 in
theorem m_X1_sideOfMain (l : Launch) (D : va_G) (g : Nat → ClassId) (a : Nat → Nat) (st : SS) (ff : Int) (bb : Int) (hI : IC st) (h1 : 0 ≤ bb ∧ bb < st 19 3) (h3 : plc ff) : Met l yX1_sideOfMain wsX1_sideOfMain rX1_sideOfMain (PcR D g (WC g a st) [.ref (a 4), .int (iZ (ff)), .ref (a (19 + (bb).toNat))]) (QcRead (iZ (sg (crossZ (st 0 (st 12 bb * 60 + st 15 bb)) (st 0 (PTN (st 12 bb) (st 13 bb) * 60 + st 15 bb)) ff)))) 0 0 (fun _ => False) := by
  refine metR (cc := cX1_sideOfMain) (maxL := 5) (ret := (some .int)) (own := RX1) (by decide) rfl rfl (Nat.le_of_ble_eq_true rfl) (Or.inl rfl) ?_
  intro p e R s m args below meth c Q ls S hRf hRl hK hP hl K
  have hx := S.1
  have hb := S.2.1
  have hown := S.2.2.2.1
  have hts := S.2.2.2.2
  have hRf : 2 ≤ R.frames := hRf
  have hRl : 42 ≤ R.locals := hRl
  have hl : lv_has ls 5 [(0, .ref (a 4)), (1, .int (iZ (ff))), (2, .ref (a (19 + (bb).toNat)))] := hl
  have iX0 : ∀ w ∈ wsX00, w ∈ wsX1_sideOfMain := by decide +kernel
  have iX1 : ∀ w ∈ wsX10, w ∈ wsX1_sideOfMain := by decide +kernel
  have hB := hI.s
  have hbR := hI.bd bb (by omega) (by omega)
  have hL1 := (hI.bl bb (by omega) (by omega)).1
  have hL2 := (hI.bl bb (by omega) (by omega)).2.1
  refine lv_aload_n hx hb dX1_sideOfMain_0 rfl (lv_at hl 0 rfl) ?_
  refine z_get (C := RX1) (T := TX1) (N := 1) (ci := 1) hx hb hts iX1 hown hK hP 4 rfl rfl 0 (by decide) (hts (.fieldLink RX1 9 "ShotBoard$Judge" "stage" "LShotBoard$Stage;") (by decide +kernel)) (.ref (a 1)) rfl dX1_sideOfMain_1 ?_
  refine lv_aload_n hx hb dX1_sideOfMain_4 rfl (lv_at hl 2 rfl) ?_
  refine z_get (C := RX0) (T := TX0) (N := 8) (ci := 0) hx hb hts iX0 hown hK hP (19 + (bb).toNat) (WC_bd g a _ (by omega) (by omega)) rfl 1 (by decide) (hts (.fieldLink RX1 44 "ShotBoard$Board" "main" "I") (by decide +kernel)) (.int (iZ (st 12 (bb)))) rfl dX1_sideOfMain_5 ?_
  refine lv_aload_n hx hb dX1_sideOfMain_8 rfl (lv_at hl 2 rfl) ?_
  refine z_get (C := RX0) (T := TX0) (N := 8) (ci := 0) hx hb hts iX0 hown hK hP (19 + (bb).toNat) (WC_bd g a _ (by omega) (by omega)) rfl 4 (by decide) (hts (.fieldLink RX1 15 "ShotBoard$Board" "first" "I") (by decide +kernel)) (.int (iZ (st 15 (bb)))) rfl dX1_sideOfMain_9 ?_
  refine z_cVR (q0 := 1) (ci := 5) (As := [.int (iZ (st 12 (bb))), .int (iZ (st 15 (bb)))]) (rest := []) S (m_X6_placeOf l D g a (st) (st 12 (bb)) (st 15 (bb)) hI (by omega) (by omega)) (cwV 2 hts gX1_sideOfMain_X6_placeOf rfl rfl rfl (by decide +kernel) ⟨Nat.le_trans (by decide) hRf, Nat.le_trans (by decide) hRl⟩) hK hP rfl rfl rfl hl.1 rfl (Nat.le_of_ble_eq_true rfl) dX1_sideOfMain_12 ⟨Nat.zero_le _, Nat.zero_le _⟩ ?_
  have f1 := hI.c0 ((st 12 (bb)) * 60 + (st 15 (bb))) (by omega) (by omega)
  refine lv_istore_n (lv' := [(3, .int (iZ (st 0 ((st 12 (bb)) * 60 + (st 15 (bb)))))), (0, .ref (a 4)), (1, .int (iZ (ff))), (2, .ref (a (19 + (bb).toNat)))]) hx hb dX1_sideOfMain_15 rfl hl (by decide) rfl (fun ls hl => ?_)
  refine lv_aload_n hx hb dX1_sideOfMain_16 rfl (lv_at hl 1 rfl) ?_
  refine z_get (C := RX1) (T := TX1) (N := 1) (ci := 1) hx hb hts iX1 hown hK hP 4 rfl rfl 0 (by decide) (hts (.fieldLink RX1 9 "ShotBoard$Judge" "stage" "LShotBoard$Stage;") (by decide +kernel)) (.ref (a 1)) rfl dX1_sideOfMain_17 ?_
  refine lv_aload_n hx hb dX1_sideOfMain_20 rfl (lv_at hl 3 rfl) ?_
  refine z_cVR (q0 := (19 + (bb).toNat)) (ci := 0) (As := []) (rest := [.ref (a 1)]) S (m_X0_partner l D g a (st) (bb) hI (by omega)) (cwV 0 hts gX1_sideOfMain_X0_partner rfl rfl rfl (by decide +kernel) ⟨Nat.le_trans (by decide) hRf, Nat.le_trans (by decide) hRl⟩) hK hP rfl (WC_bd g a _ (by omega) (by omega)) rfl hl.1 rfl (Nat.le_of_ble_eq_true rfl) dX1_sideOfMain_21 ⟨Nat.zero_le _, Nat.zero_le _⟩ ?_
  have f2 := PTN_b (st 12 (bb)) (st 13 (bb)) (by have h9 := hI.bd (bb) (by omega) (by omega); omega)
  refine lv_aload_n hx hb dX1_sideOfMain_24 rfl (lv_at hl 3 rfl) ?_
  refine z_get (C := RX0) (T := TX0) (N := 8) (ci := 0) hx hb hts iX0 hown hK hP (19 + (bb).toNat) (WC_bd g a _ (by omega) (by omega)) rfl 4 (by decide) (hts (.fieldLink RX1 15 "ShotBoard$Board" "first" "I") (by decide +kernel)) (.int (iZ (st 15 (bb)))) rfl dX1_sideOfMain_25 ?_
  refine z_cVR (q0 := 1) (ci := 5) (As := [.int (iZ (PTN (st 12 (bb)) (st 13 (bb)))), .int (iZ (st 15 (bb)))]) (rest := []) S (m_X6_placeOf l D g a (st) (PTN (st 12 (bb)) (st 13 (bb))) (st 15 (bb)) hI (by omega) (by omega)) (cwV 2 hts gX1_sideOfMain_X6_placeOf rfl rfl rfl (by decide +kernel) ⟨Nat.le_trans (by decide) hRf, Nat.le_trans (by decide) hRl⟩) hK hP rfl rfl rfl hl.1 rfl (Nat.le_of_ble_eq_true rfl) dX1_sideOfMain_28 ⟨Nat.zero_le _, Nat.zero_le _⟩ ?_
  have f3 := hI.c0 ((PTN (st 12 (bb)) (st 13 (bb))) * 60 + (st 15 (bb))) (by omega) (by omega)
  refine lv_istore (lv' := [(4, .int (iZ (st 0 ((PTN (st 12 (bb)) (st 13 (bb))) * 60 + (st 15 (bb)))))), (3, .int (iZ (st 0 ((st 12 (bb)) * 60 + (st 15 (bb)))))), (0, .ref (a 4)), (1, .int (iZ (ff))), (2, .ref (a (19 + (bb).toNat)))]) hx hb dX1_sideOfMain_31 hl (by decide) rfl (fun ls hl => ?_)
  refine lv_iload_n hx hb dX1_sideOfMain_33 rfl (lv_at hl 1 rfl) ?_
  refine lv_iload hx hb dX1_sideOfMain_34 (lv_at hl 0 rfl) ?_
  refine lv_iload_n hx hb dX1_sideOfMain_36 rfl (lv_at hl 3 rfl) ?_
  refine z_cSS (As := [.int (iZ (st 0 ((st 12 (bb)) * 60 + (st 15 (bb))))), .int (iZ (st 0 ((PTN (st 12 (bb)) (st 13 (bb))) * 60 + (st 15 (bb))))), .int (iZ (ff))]) (rest := []) S (m_X2_cross l (st 0 ((st 12 (bb)) * 60 + (st 15 (bb)))) (st 0 ((PTN (st 12 (bb)) (st 13 (bb))) * 60 + (st 15 (bb)))) (ff) (by omega) (by omega) (by omega)) (va_cwS 3 hts gX1_sideOfMain_X2_cross rfl rfl rfl (by decide +kernel) ⟨Nat.le_trans (by decide) hRf, Nat.le_trans (by decide) hRl⟩) rfl hl.1 rfl (Nat.le_of_ble_eq_true rfl) dX1_sideOfMain_37 ⟨Nat.zero_le _, Nat.zero_le _⟩ ?_
  have f4 := crossZ_b (st 0 ((st 12 (bb)) * 60 + (st 15 (bb)))) (st 0 ((PTN (st 12 (bb)) (st 13 (bb))) * 60 + (st 15 (bb)))) (ff) (by omega) (by omega) (by omega)
  refine z_cSS (As := [.int (iZ (crossZ (st 0 ((st 12 (bb)) * 60 + (st 15 (bb)))) (st 0 ((PTN (st 12 (bb)) (st 13 (bb))) * 60 + (st 15 (bb)))) (ff)))]) (rest := []) S (m_J6_signum_0f7a4 l (crossZ (st 0 ((st 12 (bb)) * 60 + (st 15 (bb)))) (st 0 ((PTN (st 12 (bb)) (st 13 (bb))) * 60 + (st 15 (bb)))) (ff)) (by omega)) (va_cwS 1 hts gX1_sideOfMain_J6_signum_0f7a4 rfl rfl rfl (by decide +kernel) ⟨Nat.le_trans (by decide) hRf, Nat.le_trans (by decide) hRl⟩) rfl hl.1 rfl (Nat.le_of_ble_eq_true rfl) dX1_sideOfMain_40 ⟨Nat.zero_le _, Nat.zero_le _⟩ ?_
  have f5 := sg_b (crossZ (st 0 ((st 12 (bb)) * 60 + (st 15 (bb)))) (st 0 ((PTN (st 12 (bb)) (st 13 (bb))) * 60 + (st 15 (bb)))) (ff))
  exact K _ _ _ (rfl) dX1_sideOfMain_43
abbrev rX1_sideOfLesser : Room := { frames := 3, cells := 0, slots := 0, locals := 66 }
set_option maxHeartbeats 4000000 in
set_option maxRecDepth 100000 in
theorem m_X1_sideOfLesser (l : Launch) (D : va_G) (g : Nat → ClassId) (a : Nat → Nat) (st : SS) (ff : Int) (bb : Int) (hI : IC st) (h1 : 0 ≤ bb ∧ bb < st 19 3) (h3 : plc ff) : Met l yX1_sideOfLesser wsX1_sideOfLesser rX1_sideOfLesser (PcR D g (WC g a st) [.ref (a 4), .int (iZ (ff)), .ref (a (19 + (bb).toNat))]) (QcRead (iZ (SDL st bb ff))) 0 0 (fun _ => False) := by
  refine metR (cc := cX1_sideOfLesser) (maxL := 4) (ret := (some .int)) (own := RX1) (by decide) rfl rfl (Nat.le_of_ble_eq_true rfl) (Or.inl rfl) ?_
  intro p e R s m args below meth c Q ls S hRf hRl hK hP hl K
  have hx := S.1
  have hb := S.2.1
  have hown := S.2.2.2.1
  have hts := S.2.2.2.2
  have hRf : 3 ≤ R.frames := hRf
  have hRl : 66 ≤ R.locals := hRl
  have hl : lv_has ls 4 [(0, .ref (a 4)), (1, .int (iZ (ff))), (2, .ref (a (19 + (bb).toNat)))] := hl
  have iX0 : ∀ w ∈ wsX00, w ∈ wsX1_sideOfLesser := by decide +kernel
  have hB := hI.s
  have hbR := hI.bd bb (by omega) (by omega)
  have hL1 := (hI.bl bb (by omega) (by omega)).1
  have hL2 := (hI.bl bb (by omega) (by omega)).2.1
  refine lv_aload_n hx hb dX1_sideOfLesser_0 rfl (lv_at hl 0 rfl) ?_
  refine lv_iload_n hx hb dX1_sideOfLesser_1 rfl (lv_at hl 1 rfl) ?_
  refine lv_aload_n hx hb dX1_sideOfLesser_2 rfl (lv_at hl 2 rfl) ?_
  refine z_cVR (q0 := 4) (ci := 1) (As := [.int (iZ (ff)), .ref (a (19 + (bb).toNat))]) (rest := []) S (m_X1_sideOfMain l D g a (st) (ff) (bb) hI (by omega) (by omega)) (cwV 2 hts gX1_sideOfLesser_X1_sideOfMain rfl rfl rfl (by decide +kernel) ⟨Nat.le_trans (by decide) hRf, Nat.le_trans (by decide) hRl⟩) hK hP rfl rfl rfl hl.1 rfl (Nat.le_of_ble_eq_true rfl) dX1_sideOfLesser_3 ⟨Nat.zero_le _, Nat.zero_le _⟩ ?_
  have f1 := sg_b (crossZ (st 0 (st 12 (bb) * 60 + st 15 (bb))) (st 0 (PTN (st 12 (bb)) (st 13 (bb)) * 60 + st 15 (bb))) (ff))
  refine lv_istore_n (lv' := [(3, .int (iZ (sg (crossZ (st 0 (st 12 (bb) * 60 + st 15 (bb))) (st 0 (PTN (st 12 (bb)) (st 13 (bb)) * 60 + st 15 (bb))) (ff))))), (0, .ref (a 4)), (1, .int (iZ (ff))), (2, .ref (a (19 + (bb).toNat)))]) hx hb dX1_sideOfLesser_6 rfl hl (by decide) rfl (fun ls hl => ?_)
  refine lv_aload_n hx hb dX1_sideOfLesser_7 rfl (lv_at hl 3 rfl) ?_
  refine z_get (C := RX0) (T := TX0) (N := 8) (ci := 0) hx hb hts iX0 hown hK hP (19 + (bb).toNat) (WC_bd g a _ (by omega) (by omega)) rfl 1 (by decide) (hts (.fieldLink RX1 44 "ShotBoard$Board" "main" "I") (by decide +kernel)) (.int (iZ (st 12 (bb)))) rfl dX1_sideOfLesser_8 ?_
  refine lv_aload_n hx hb dX1_sideOfLesser_11 rfl (lv_at hl 3 rfl) ?_
  refine z_cVR (q0 := (19 + (bb).toNat)) (ci := 0) (As := []) (rest := [.int (iZ (st 12 (bb)))]) S (m_X0_partner l D g a (st) (bb) hI (by omega)) (cwV 0 hts gX1_sideOfLesser_X0_partner rfl rfl rfl (by decide +kernel) ⟨Nat.le_trans (by decide) hRf, Nat.le_trans (by decide) hRl⟩) hK hP rfl (WC_bd g a _ (by omega) (by omega)) rfl hl.1 rfl (Nat.le_of_ble_eq_true rfl) dX1_sideOfLesser_12 ⟨Nat.zero_le _, Nat.zero_le _⟩ ?_
  have f2 := PTN_b (st 12 (bb)) (st 13 (bb)) (by have h9 := hI.bd (bb) (by omega) (by omega); omega)
  refine z_icmp_ge (tgt := 22) hx hb (by omega) (by omega) dX1_sideOfLesser_15 (by decide) (fun c3 => ?_) (fun c3 => ?_)
  · skip
    have hif : SDL st bb ff = -(SDM st bb ff) := if_neg (Int.not_lt.mpr c3)
    refine lv_iload_n hx hb dX1_sideOfLesser_22 rfl (lv_at hl 0 rfl) ?_
    refine z_ineg hx hb dX1_sideOfLesser_23 ?_
    exact K _ _ _ (hif.symm) dX1_sideOfLesser_24
  · skip
    have hif : SDL st bb ff = SDM st bb ff := if_pos c3
    refine lv_iload_n hx hb dX1_sideOfLesser_18 rfl (lv_at hl 0 rfl) ?_
    refine lv_goto (tgt := 24) hx hb dX1_sideOfLesser_19 (by decide) ?_
    exact K _ _ _ (hif.symm) dX1_sideOfLesser_24
end
