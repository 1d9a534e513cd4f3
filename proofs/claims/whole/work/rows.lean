section
-- ===== PART A: goes FIRST, ahead of the names: the tables' words, and 'selects' of the private methods out of them =====
/-- a private method of a class that the tables say can be made, by its rows of tables_1 -/
def lw_okq (q : MethodName × Nat) : Prop := (q.1.cls ≠ "java/lang/invoke/MethodHandle" ∧ q.1.cls ≠ "java/lang/invoke/VarHandle") ∧ Cond.instantiable q.1.cls q.2 ∈ tables_1 ∧ Cond.privateMethod q.1 ∈ tables_1 ∧ Cond.instanceMethod q.1 ∈ tables_1
theorem lw_p0 : lw_okq (⟨"LongAgoDraws", "startAnew", "()V"⟩, 7) := ⟨⟨by decide +kernel, by decide +kernel⟩, List.mem_of_getElem? (i := 11) (by decide +kernel), List.mem_of_getElem? (i := 217) (by decide +kernel), List.mem_of_getElem? (i := 218) (by decide +kernel)⟩
theorem lw_p1 : lw_okq (⟨"LongAgoDraws$Rules", "drawTogether", "()V"⟩, 7) := ⟨⟨by decide +kernel, by decide +kernel⟩, List.mem_of_getElem? (i := 76) (by decide +kernel), List.mem_of_getElem? (i := 237) (by decide +kernel), List.mem_of_getElem? (i := 238) (by decide +kernel)⟩
theorem lw_p2 : lw_okq (⟨"LongAgoDraws$Rules", "isSound", "()Z"⟩, 7) := ⟨⟨by decide +kernel, by decide +kernel⟩, List.mem_of_getElem? (i := 76) (by decide +kernel), List.mem_of_getElem? (i := 247) (by decide +kernel), List.mem_of_getElem? (i := 248) (by decide +kernel)⟩
theorem lw_p3 : lw_okq (⟨"LongAgoDraws$Rules", "lowIsBelowHigh", "()Z"⟩, 7) := ⟨⟨by decide +kernel, by decide +kernel⟩, List.mem_of_getElem? (i := 76) (by decide +kernel), List.mem_of_getElem? (i := 251) (by decide +kernel), List.mem_of_getElem? (i := 252) (by decide +kernel)⟩
theorem lw_p4 : lw_okq (⟨"LongAgoDraws$Rules", "linksCrossSides", "()Z"⟩, 7) := ⟨⟨by decide +kernel, by decide +kernel⟩, List.mem_of_getElem? (i := 76) (by decide +kernel), List.mem_of_getElem? (i := 255) (by decide +kernel), List.mem_of_getElem? (i := 256) (by decide +kernel)⟩
theorem lw_p5 : lw_okq (⟨"LongAgoDraws$Net", "addNeighbour", "(II)V"⟩, 9) := ⟨⟨by decide +kernel, by decide +kernel⟩, List.mem_of_getElem? (i := 19) (by decide +kernel), List.mem_of_getElem? (i := 279) (by decide +kernel), List.mem_of_getElem? (i := 280) (by decide +kernel)⟩
theorem lw_p6 : lw_okq (⟨"LongAgoDraws$Ticks", "chosen", "([III)I"⟩, 3) := ⟨⟨by decide +kernel, by decide +kernel⟩, List.mem_of_getElem? (i := 112) (by decide +kernel), List.mem_of_getElem? (i := 368) (by decide +kernel), List.mem_of_getElem? (i := 369) (by decide +kernel)⟩
theorem lw_p7 : lw_okq (⟨"LongAgoDraws", "refusalUnlessSmall", "()I"⟩, 7) := ⟨⟨by decide +kernel, by decide +kernel⟩, List.mem_of_getElem? (i := 11) (by decide +kernel), List.mem_of_getElem? (i := 426) (by decide +kernel), List.mem_of_getElem? (i := 427) (by decide +kernel)⟩
theorem lw_p8 : lw_okq (⟨"LongAgoDraws$Small", "states", "()J"⟩, 3) := ⟨⟨by decide +kernel, by decide +kernel⟩, List.mem_of_getElem? (i := 171) (by decide +kernel), List.mem_of_getElem? (i := 434) (by decide +kernel), List.mem_of_getElem? (i := 435) (by decide +kernel)⟩
theorem lw_p9 : lw_okq (⟨"LongAgoDraws$Small", "termOf", "(III)J"⟩, 3) := ⟨⟨by decide +kernel, by decide +kernel⟩, List.mem_of_getElem? (i := 171) (by decide +kernel), List.mem_of_getElem? (i := 444) (by decide +kernel), List.mem_of_getElem? (i := 445) (by decide +kernel)⟩
theorem lw_p10 : lw_okq (⟨"LongAgoDraws$Small", "stepOn", "()V"⟩, 3) := ⟨⟨by decide +kernel, by decide +kernel⟩, List.mem_of_getElem? (i := 171) (by decide +kernel), List.mem_of_getElem? (i := 452) (by decide +kernel), List.mem_of_getElem? (i := 453) (by decide +kernel)⟩
theorem lw_p11 : lw_okq (⟨"LongAgoDrawsModel", "changed", "()V"⟩, 21) := ⟨⟨by decide +kernel, by decide +kernel⟩, List.mem_of_getElem? (i := 499) (by decide +kernel), List.mem_of_getElem? (i := 576) (by decide +kernel), List.mem_of_getElem? (i := 577) (by decide +kernel)⟩
theorem lw_p12 : lw_okq (⟨"LongAgoDrawsModel", "isGood", "()Z"⟩, 21) := ⟨⟨by decide +kernel, by decide +kernel⟩, List.mem_of_getElem? (i := 499) (by decide +kernel), List.mem_of_getElem? (i := 580) (by decide +kernel), List.mem_of_getElem? (i := 581) (by decide +kernel)⟩
theorem lw_p13 : lw_okq (⟨"LongAgoDrawsModel", "layHigh", "([I)V"⟩, 21) := ⟨⟨by decide +kernel, by decide +kernel⟩, List.mem_of_getElem? (i := 499) (by decide +kernel), List.mem_of_getElem? (i := 584) (by decide +kernel), List.mem_of_getElem? (i := 585) (by decide +kernel)⟩
theorem lw_p14 : lw_okq (⟨"LongAgoDrawsModel", "layLow", "([I)V"⟩, 21) := ⟨⟨by decide +kernel, by decide +kernel⟩, List.mem_of_getElem? (i := 499) (by decide +kernel), List.mem_of_getElem? (i := 588) (by decide +kernel), List.mem_of_getElem? (i := 589) (by decide +kernel)⟩
theorem lw_p15 : lw_okq (⟨"LongAgoDrawsModel", "isPlace", "(I)Z"⟩, 21) := ⟨⟨by decide +kernel, by decide +kernel⟩, List.mem_of_getElem? (i := 499) (by decide +kernel), List.mem_of_getElem? (i := 596) (by decide +kernel), List.mem_of_getElem? (i := 597) (by decide +kernel)⟩
def lw_privs_1 : List (MethodName × Nat) := [(⟨"LongAgoDraws", "startAnew", "()V"⟩, 7), (⟨"LongAgoDraws$Rules", "drawTogether", "()V"⟩, 7), (⟨"LongAgoDraws$Rules", "isSound", "()Z"⟩, 7), (⟨"LongAgoDraws$Rules", "lowIsBelowHigh", "()Z"⟩, 7), (⟨"LongAgoDraws$Rules", "linksCrossSides", "()Z"⟩, 7), (⟨"LongAgoDraws$Net", "addNeighbour", "(II)V"⟩, 9), (⟨"LongAgoDraws$Ticks", "chosen", "([III)I"⟩, 3), (⟨"LongAgoDraws", "refusalUnlessSmall", "()I"⟩, 7), (⟨"LongAgoDraws$Small", "states", "()J"⟩, 3), (⟨"LongAgoDraws$Small", "termOf", "(III)J"⟩, 3), (⟨"LongAgoDraws$Small", "stepOn", "()V"⟩, 3), (⟨"LongAgoDrawsModel", "changed", "()V"⟩, 21), (⟨"LongAgoDrawsModel", "isGood", "()Z"⟩, 21), (⟨"LongAgoDrawsModel", "layHigh", "([I)V"⟩, 21), (⟨"LongAgoDrawsModel", "layLow", "([I)V"⟩, 21), (⟨"LongAgoDrawsModel", "isPlace", "(I)Z"⟩, 21)]
theorem lw_r1 : ∀ q ∈ lw_privs_1, lw_okq q := List.forall_mem_cons.mpr ⟨lw_p0, List.forall_mem_cons.mpr ⟨lw_p1, List.forall_mem_cons.mpr ⟨lw_p2, List.forall_mem_cons.mpr ⟨lw_p3, List.forall_mem_cons.mpr ⟨lw_p4, List.forall_mem_cons.mpr ⟨lw_p5, List.forall_mem_cons.mpr ⟨lw_p6, List.forall_mem_cons.mpr ⟨lw_p7, List.forall_mem_cons.mpr ⟨lw_p8, List.forall_mem_cons.mpr ⟨lw_p9, List.forall_mem_cons.mpr ⟨lw_p10, List.forall_mem_cons.mpr ⟨lw_p11, List.forall_mem_cons.mpr ⟨lw_p12, List.forall_mem_cons.mpr ⟨lw_p13, List.forall_mem_cons.mpr ⟨lw_p14, List.forall_mem_cons.mpr ⟨lw_p15, fun _ h => absurd h List.not_mem_nil⟩⟩⟩⟩⟩⟩⟩⟩⟩⟩⟩⟩⟩⟩⟩⟩
theorem lw_p16 : lw_okq (⟨"LongAgoDrawsModel", "isLinked", "(II)Z"⟩, 21) := ⟨⟨by decide +kernel, by decide +kernel⟩, List.mem_of_getElem? (i := 499) (by decide +kernel), List.mem_of_getElem? (i := 600) (by decide +kernel), List.mem_of_getElem? (i := 601) (by decide +kernel)⟩
theorem lw_p17 : lw_okq (⟨"LongAgoDrawsModel", "addNear", "(II)V"⟩, 21) := ⟨⟨by decide +kernel, by decide +kernel⟩, List.mem_of_getElem? (i := 499) (by decide +kernel), List.mem_of_getElem? (i := 604) (by decide +kernel), List.mem_of_getElem? (i := 605) (by decide +kernel)⟩
theorem lw_p18 : lw_okq (⟨"LongAgoDrawsModel", "isAllowed", "([I)Z"⟩, 21) := ⟨⟨by decide +kernel, by decide +kernel⟩, List.mem_of_getElem? (i := 499) (by decide +kernel), List.mem_of_getElem? (i := 636) (by decide +kernel), List.mem_of_getElem? (i := 637) (by decide +kernel)⟩
theorem lw_p19 : lw_okq (⟨"LongAgoDrawsModel", "copy", "([I[I)V"⟩, 21) := ⟨⟨by decide +kernel, by decide +kernel⟩, List.mem_of_getElem? (i := 499) (by decide +kernel), List.mem_of_getElem? (i := 644) (by decide +kernel), List.mem_of_getElem? (i := 645) (by decide +kernel)⟩
theorem lw_p20 : lw_okq (⟨"LongAgoDrawsModel", "mixed", "(I)I"⟩, 21) := ⟨⟨by decide +kernel, by decide +kernel⟩, List.mem_of_getElem? (i := 499) (by decide +kernel), List.mem_of_getElem? (i := 656) (by decide +kernel), List.mem_of_getElem? (i := 657) (by decide +kernel)⟩
theorem lw_p21 : lw_okq (⟨"LongAgoDrawsModel", "tick1", "([II)Z"⟩, 21) := ⟨⟨by decide +kernel, by decide +kernel⟩, List.mem_of_getElem? (i := 499) (by decide +kernel), List.mem_of_getElem? (i := 670) (by decide +kernel), List.mem_of_getElem? (i := 671) (by decide +kernel)⟩
theorem lw_p22 : lw_okq (⟨"LongAgoDrawsModel", "weightAt", "([III)J"⟩, 21) := ⟨⟨by decide +kernel, by decide +kernel⟩, List.mem_of_getElem? (i := 499) (by decide +kernel), List.mem_of_getElem? (i := 674) (by decide +kernel), List.mem_of_getElem? (i := 675) (by decide +kernel)⟩
theorem lw_p23 : lw_okq (⟨"LongAgoDrawsModel", "meet", "(I)I"⟩, 21) := ⟨⟨by decide +kernel, by decide +kernel⟩, List.mem_of_getElem? (i := 499) (by decide +kernel), List.mem_of_getElem? (i := 683) (by decide +kernel), List.mem_of_getElem? (i := 684) (by decide +kernel)⟩
theorem lw_p24 : lw_okq (⟨"LongAgoDrawsModel", "unlike", "()I"⟩, 21) := ⟨⟨by decide +kernel, by decide +kernel⟩, List.mem_of_getElem? (i := 499) (by decide +kernel), List.mem_of_getElem? (i := 687) (by decide +kernel), List.mem_of_getElem? (i := 688) (by decide +kernel)⟩
theorem lw_p25 : lw_okq (⟨"LongAgoDrawsModel", "far", "()I"⟩, 21) := ⟨⟨by decide +kernel, by decide +kernel⟩, List.mem_of_getElem? (i := 499) (by decide +kernel), List.mem_of_getElem? (i := 695) (by decide +kernel), List.mem_of_getElem? (i := 696) (by decide +kernel)⟩
theorem lw_p26 : lw_okq (⟨"LongAgoDrawsModel", "barsSmall", "()I"⟩, 21) := ⟨⟨by decide +kernel, by decide +kernel⟩, List.mem_of_getElem? (i := 499) (by decide +kernel), List.mem_of_getElem? (i := 715) (by decide +kernel), List.mem_of_getElem? (i := 716) (by decide +kernel)⟩
theorem lw_p27 : lw_okq (⟨"LongAgoDrawsModel", "states", "()I"⟩, 21) := ⟨⟨by decide +kernel, by decide +kernel⟩, List.mem_of_getElem? (i := 499) (by decide +kernel), List.mem_of_getElem? (i := 719) (by decide +kernel), List.mem_of_getElem? (i := 720) (by decide +kernel)⟩
theorem lw_p28 : lw_okq (⟨"LongAgoDrawsModel", "over", "(III)J"⟩, 21) := ⟨⟨by decide +kernel, by decide +kernel⟩, List.mem_of_getElem? (i := 499) (by decide +kernel), List.mem_of_getElem? (i := 723) (by decide +kernel), List.mem_of_getElem? (i := 724) (by decide +kernel)⟩
theorem lw_p29 : lw_okq (⟨"LongAgoDrawsModel", "first", "()V"⟩, 21) := ⟨⟨by decide +kernel, by decide +kernel⟩, List.mem_of_getElem? (i := 499) (by decide +kernel), List.mem_of_getElem? (i := 727) (by decide +kernel), List.mem_of_getElem? (i := 728) (by decide +kernel)⟩
theorem lw_p30 : lw_okq (⟨"LongAgoDrawsModel", "weight", "([I)J"⟩, 21) := ⟨⟨by decide +kernel, by decide +kernel⟩, List.mem_of_getElem? (i := 499) (by decide +kernel), List.mem_of_getElem? (i := 731) (by decide +kernel), List.mem_of_getElem? (i := 732) (by decide +kernel)⟩
theorem lw_p31 : lw_okq (⟨"LongAgoDrawsModel", "next", "()Z"⟩, 21) := ⟨⟨by decide +kernel, by decide +kernel⟩, List.mem_of_getElem? (i := 499) (by decide +kernel), List.mem_of_getElem? (i := 735) (by decide +kernel), List.mem_of_getElem? (i := 736) (by decide +kernel)⟩
def lw_privs_2 : List (MethodName × Nat) := [(⟨"LongAgoDrawsModel", "isLinked", "(II)Z"⟩, 21), (⟨"LongAgoDrawsModel", "addNear", "(II)V"⟩, 21), (⟨"LongAgoDrawsModel", "isAllowed", "([I)Z"⟩, 21), (⟨"LongAgoDrawsModel", "copy", "([I[I)V"⟩, 21), (⟨"LongAgoDrawsModel", "mixed", "(I)I"⟩, 21), (⟨"LongAgoDrawsModel", "tick1", "([II)Z"⟩, 21), (⟨"LongAgoDrawsModel", "weightAt", "([III)J"⟩, 21), (⟨"LongAgoDrawsModel", "meet", "(I)I"⟩, 21), (⟨"LongAgoDrawsModel", "unlike", "()I"⟩, 21), (⟨"LongAgoDrawsModel", "far", "()I"⟩, 21), (⟨"LongAgoDrawsModel", "barsSmall", "()I"⟩, 21), (⟨"LongAgoDrawsModel", "states", "()I"⟩, 21), (⟨"LongAgoDrawsModel", "over", "(III)J"⟩, 21), (⟨"LongAgoDrawsModel", "first", "()V"⟩, 21), (⟨"LongAgoDrawsModel", "weight", "([I)J"⟩, 21), (⟨"LongAgoDrawsModel", "next", "()Z"⟩, 21)]
theorem lw_r2 : ∀ q ∈ lw_privs_2, lw_okq q := List.forall_mem_cons.mpr ⟨lw_p16, List.forall_mem_cons.mpr ⟨lw_p17, List.forall_mem_cons.mpr ⟨lw_p18, List.forall_mem_cons.mpr ⟨lw_p19, List.forall_mem_cons.mpr ⟨lw_p20, List.forall_mem_cons.mpr ⟨lw_p21, List.forall_mem_cons.mpr ⟨lw_p22, List.forall_mem_cons.mpr ⟨lw_p23, List.forall_mem_cons.mpr ⟨lw_p24, List.forall_mem_cons.mpr ⟨lw_p25, List.forall_mem_cons.mpr ⟨lw_p26, List.forall_mem_cons.mpr ⟨lw_p27, List.forall_mem_cons.mpr ⟨lw_p28, List.forall_mem_cons.mpr ⟨lw_p29, List.forall_mem_cons.mpr ⟨lw_p30, List.forall_mem_cons.mpr ⟨lw_p31, fun _ h => absurd h List.not_mem_nil⟩⟩⟩⟩⟩⟩⟩⟩⟩⟩⟩⟩⟩⟩⟩⟩
def lw_privs : List (MethodName × Nat) := lw_privs_1 ++ (lw_privs_2)
def lw_tbl : List Cond := k2_sels lw_privs ++ tables_1
theorem lw_privs_ok : ∀ q ∈ lw_privs, lw_okq q := by
  show ∀ q ∈ lw_privs_1 ++ (lw_privs_2), lw_okq q
  exact List.forall_mem_append.mpr ⟨lw_r1, lw_r2⟩
-- ===== end of PART A; then your names; then what follows =====
end
section
/-! ===== BEGIN words of one list among another's, by their places ===== -/
theorem goodIn_r {big : List Cond} (ws : List Cond) (ps : List Nat) (hp : ws = ps.filterMap (fun i => big[i]?)) (h : ws.all goodWord = true) : GoodIn big ws := by
  intro w hw
  have h1 := List.all_eq_true.mp h w hw
  rw [hp] at hw
  obtain ⟨i, -, hi⟩ := List.mem_filterMap.mp hw
  have hm : w ∈ big := by first | exact List.mem_of_getElem? hi | exact List.getElem?_mem hi
  exact ⟨hm, good_of_word h1⟩
theorem goodIn_app {big a b : List Cond} (ha : GoodIn big a) (hb : GoodIn big b) : GoodIn big (a ++ b) := fun w h => (List.mem_append.mp h).elim (ha w) (hb w)
theorem goodIn_ca {big a b : List Cond} {c : Cond} (ha : GoodIn big (c :: a)) (hb : GoodIn big b) : GoodIn big (c :: (a ++ b)) := fun w h => (List.mem_cons.mp h).elim (fun e => ha w (List.mem_cons.mpr (Or.inl e))) (fun h => (List.mem_append.mp h).elim (fun h => ha w (List.mem_cons.mpr (Or.inr h))) (hb w))
theorem goodIn_sub {big ws : List Cond} (hm : ∀ w ∈ ws, w ∈ big) (h : ws.all goodWord = true) : GoodIn big ws := fun w hw => ⟨hm w hw, good_of_word (List.all_eq_true.mp h w hw)⟩
/-! ===== END ===== -/
/-! ===== BEGIN printed: names, fields, word lists, decode rows ===== -/
def RX0 : String := "LongAgoDraws$Draws"
def TX0 : u_T := fun k => match k with
  | 0 => ("LongAgoDraws$Draws", "net", "LLongAgoDraws$Net;", true)
  | 1 => ("LongAgoDraws$Draws", "rules", "LLongAgoDraws$Rules;", true)
  | 2 => ("LongAgoDraws$Draws", "ticks", "LLongAgoDraws$Ticks;", true)
  | 3 => ("LongAgoDraws$Draws", "high", "[I", true)
  | 4 => ("LongAgoDraws$Draws", "low", "[I", true)
  | 5 => ("LongAgoDraws$Draws", "back", "I", false)
  | 6 => ("LongAgoDraws$Draws", "meeting", "I", false)
  | 7 => ("LongAgoDraws$Draws", "kept", "[I", true)
  | 8 => ("LongAgoDraws$Draws", "keptMeeting", "I", false)
  | _ => ("LongAgoDraws$Draws", "isKept", "Z", false)
def tyX0 : Nat → FieldType := fun k => match k with
  | 0 => .object "LongAgoDraws$Net"
  | 1 => .object "LongAgoDraws$Rules"
  | 2 => .object "LongAgoDraws$Ticks"
  | 3 => .array .int
  | 4 => .array .int
  | 5 => .int
  | 6 => .int
  | 7 => .array .int
  | 8 => .int
  | _ => .boolean
abbrev wsX00 : List Cond := u_ws RX0 TX0 10
theorem nmX0 : ∀ a, a < 10 → ∀ b, b < 10 → a ≠ b → (TX0 a).2.1 ≠ (TX0 b).2.1 := by decide +kernel
theorem tyX0_ok : ∀ k, k < 10 → parseFieldDescriptor (TX0 k).2.2.1 = some (tyX0 k) := by decide +kernel
abbrev cX0_init : ByteArray := prog_2_method_1_code
def yX0_init : MethodName := ⟨RX0, "<init>", "(LLongAgoDraws$Net;LLongAgoDraws$Rules;LLongAgoDraws$Ticks;)V"⟩
abbrev cX0_runBoth : ByteArray := prog_2_method_2_code
def yX0_runBoth : MethodName := ⟨RX0, "runBoth", "(II)V"⟩
abbrev cX0_areOneState : ByteArray := prog_2_method_3_code
def yX0_areOneState : MethodName := ⟨RX0, "areOneState", "()Z"⟩
abbrev cX0_unlikePlaces : ByteArray := prog_2_method_4_code
def yX0_unlikePlaces : MethodName := ⟨RX0, "unlikePlaces", "()I"⟩
abbrev cX0_findsOne : ByteArray := prog_2_method_5_code
def yX0_findsOne : MethodName := ⟨RX0, "findsOne", "(I)Z"⟩
abbrev cX0_keep : ByteArray := prog_2_method_6_code
def yX0_keep : MethodName := ⟨RX0, "keep", "()V"⟩
def RX1 : String := "LongAgoDraws$Net"
def TX1 : u_T := fun k => match k with
  | 0 => ("LongAgoDraws$Net", "top", "[I", true)
  | 1 => ("LongAgoDraws$Net", "side", "[I", true)
  | 2 => ("LongAgoDraws$Net", "held", "[I", true)
  | 3 => ("LongAgoDraws$Net", "neighbours", "[I", true)
  | 4 => ("LongAgoDraws$Net", "neighbour", "[[I", true)
  | 5 => ("LongAgoDraws$Net", "oneEnd", "[I", true)
  | 6 => ("LongAgoDraws$Net", "otherEnd", "[I", true)
  | 7 => ("LongAgoDraws$Net", "places", "I", false)
  | _ => ("LongAgoDraws$Net", "links", "I", false)
def tyX1 : Nat → FieldType := fun k => match k with
  | 0 => .array .int
  | 1 => .array .int
  | 2 => .array .int
  | 3 => .array .int
  | 4 => .array (.array .int)
  | 5 => .array .int
  | 6 => .array .int
  | 7 => .int
  | _ => .int
abbrev wsX10 : List Cond := u_ws RX1 TX1 9
theorem nmX1 : ∀ a, a < 9 → ∀ b, b < 9 → a ≠ b → (TX1 a).2.1 ≠ (TX1 b).2.1 := by decide +kernel
theorem tyX1_ok : ∀ k, k < 9 → parseFieldDescriptor (TX1 k).2.2.1 = some (tyX1 k) := by decide +kernel
abbrev cX1_init : ByteArray := prog_3_method_1_code
def yX1_init : MethodName := ⟨RX1, "<init>", "()V"⟩
abbrev cX1_has : ByteArray := prog_3_method_2_code
def yX1_has : MethodName := ⟨RX1, "has", "(I)Z"⟩
abbrev cX1_isCrowded : ByteArray := prog_3_method_3_code
def yX1_isCrowded : MethodName := ⟨RX1, "isCrowded", "(I)Z"⟩
abbrev cX1_areLinked : ByteArray := prog_3_method_4_code
def yX1_areLinked : MethodName := ⟨RX1, "areLinked", "(II)Z"⟩
abbrev cX1_addPlace : ByteArray := prog_3_method_5_code
def yX1_addPlace : MethodName := ⟨RX1, "addPlace", "(II)I"⟩
abbrev cX1_addLink : ByteArray := prog_3_method_6_code
def yX1_addLink : MethodName := ⟨RX1, "addLink", "(II)V"⟩
abbrev cX1_addNeighbour : ByteArray := prog_3_method_7_code
def yX1_addNeighbour : MethodName := ⟨RX1, "addNeighbour", "(II)V"⟩
abbrev cX1_likeLinks : ByteArray := prog_3_method_8_code
def yX1_likeLinks : MethodName := ⟨RX1, "likeLinks", "([I)I"⟩
def RX2 : String := "LongAgoDraws$Rules"
def TX2 : u_T := fun k => match k with
  | 0 => ("LongAgoDraws$Rules", "net", "LLongAgoDraws$Net;", true)
  | 1 => ("LongAgoDraws$Rules", "high", "[I", true)
  | 2 => ("LongAgoDraws$Rules", "low", "[I", true)
  | 3 => ("LongAgoDraws$Rules", "kind", "I", false)
  | 4 => ("LongAgoDraws$Rules", "u", "I", false)
  | 5 => ("LongAgoDraws$Rules", "v", "I", false)
  | _ => ("LongAgoDraws$Rules", "isGood", "Z", false)
def tyX2 : Nat → FieldType := fun k => match k with
  | 0 => .object "LongAgoDraws$Net"
  | 1 => .array .int
  | 2 => .array .int
  | 3 => .int
  | 4 => .int
  | 5 => .int
  | _ => .boolean
abbrev wsX20 : List Cond := u_ws RX2 TX2 7
theorem nmX2 : ∀ a, a < 7 → ∀ b, b < 7 → a ≠ b → (TX2 a).2.1 ≠ (TX2 b).2.1 := by decide +kernel
theorem tyX2_ok : ∀ k, k < 7 → parseFieldDescriptor (TX2 k).2.2.1 = some (tyX2 k) := by decide +kernel
abbrev cX2_init : ByteArray := prog_4_method_1_code
def yX2_init : MethodName := ⟨RX2, "<init>", "(LLongAgoDraws$Net;)V"⟩
abbrev cX2_most : ByteArray := prog_4_method_2_code
def yX2_most : MethodName := ⟨RX2, "most", "(I)I"⟩
abbrev cX2_numberOfHeight : ByteArray := prog_4_method_3_code
def yX2_numberOfHeight : MethodName := ⟨RX2, "numberOfHeight", "(II)I"⟩
abbrev cX2_isHeld : ByteArray := prog_4_method_4_code
def yX2_isHeld : MethodName := ⟨RX2, "isHeld", "(I)Z"⟩
abbrev cX2_placeWeight : ByteArray := prog_4_method_5_code
def yX2_placeWeight : MethodName := ⟨RX2, "placeWeight", "(II)I"⟩
abbrev cX2_linkWeight : ByteArray := prog_4_method_6_code
def yX2_linkWeight : MethodName := ⟨RX2, "linkWeight", "(II)I"⟩
abbrev cX2_isAllowed : ByteArray := prog_4_method_7_code
def yX2_isAllowed : MethodName := ⟨RX2, "isAllowed", "([I)Z"⟩
abbrev cX2_weightOf : ByteArray := prog_4_method_8_code
def yX2_weightOf : MethodName := ⟨RX2, "weightOf", "([I)J"⟩
abbrev cX2_weightAround : ByteArray := prog_4_method_9_code
def yX2_weightAround : MethodName := ⟨RX2, "weightAround", "([III)J"⟩
abbrev cX2_settle : ByteArray := prog_4_method_10_code
def yX2_settle : MethodName := ⟨RX2, "settle", "()V"⟩
abbrev cX2_drawTogether : ByteArray := prog_4_method_11_code
def yX2_drawTogether : MethodName := ⟨RX2, "drawTogether", "()V"⟩
abbrev cX2_isSound : ByteArray := prog_4_method_12_code
def yX2_isSound : MethodName := ⟨RX2, "isSound", "()Z"⟩
abbrev cX2_lowIsBelowHigh : ByteArray := prog_4_method_13_code
def yX2_lowIsBelowHigh : MethodName := ⟨RX2, "lowIsBelowHigh", "()Z"⟩
abbrev cX2_linksCrossSides : ByteArray := prog_4_method_14_code
def yX2_linksCrossSides : MethodName := ⟨RX2, "linksCrossSides", "()Z"⟩
def RX3 : String := "LongAgoDraws$Small"
def TX3 : u_T := fun k => match k with
  | 0 => ("LongAgoDraws$Small", "net", "LLongAgoDraws$Net;", true)
  | 1 => ("LongAgoDraws$Small", "rules", "LLongAgoDraws$Rules;", true)
  | _ => ("LongAgoDraws$Small", "row", "[I", true)
def tyX3 : Nat → FieldType := fun k => match k with
  | 0 => .object "LongAgoDraws$Net"
  | 1 => .object "LongAgoDraws$Rules"
  | _ => .array .int
abbrev wsX30 : List Cond := u_ws RX3 TX3 3
theorem nmX3 : ∀ a, a < 3 → ∀ b, b < 3 → a ≠ b → (TX3 a).2.1 ≠ (TX3 b).2.1 := by decide +kernel
theorem tyX3_ok : ∀ k, k < 3 → parseFieldDescriptor (TX3 k).2.2.1 = some (tyX3 k) := by decide +kernel
abbrev cX3_init : ByteArray := prog_5_method_1_code
def yX3_init : MethodName := ⟨RX3, "<init>", "(LLongAgoDraws$Net;LLongAgoDraws$Rules;)V"⟩
abbrev cX3_isSmall : ByteArray := prog_5_method_2_code
def yX3_isSmall : MethodName := ⟨RX3, "isSmall", "()Z"⟩
abbrev cX3_states : ByteArray := prog_5_method_3_code
def yX3_states : MethodName := ⟨RX3, "states", "()J"⟩
abbrev cX3_sumOf : ByteArray := prog_5_method_4_code
def yX3_sumOf : MethodName := ⟨RX3, "sumOf", "(III)J"⟩
abbrev cX3_termOf : ByteArray := prog_5_method_5_code
def yX3_termOf : MethodName := ⟨RX3, "termOf", "(III)J"⟩
abbrev cX3_stepOn : ByteArray := prog_5_method_6_code
def yX3_stepOn : MethodName := ⟨RX3, "stepOn", "()V"⟩
abbrev cX3_share : ByteArray := prog_5_method_7_code
def yX3_share : MethodName := ⟨RX3, "share", "(JI)J"⟩
abbrev cX3_commonDivisor : ByteArray := prog_5_method_8_code
def yX3_commonDivisor : MethodName := ⟨RX3, "commonDivisor", "(JJ)J"⟩
def RX4 : String := "LongAgoDraws$Ticks"
def TX4 : u_T := fun k => match k with
  | 0 => ("LongAgoDraws$Ticks", "net", "LLongAgoDraws$Net;", true)
  | 1 => ("LongAgoDraws$Ticks", "rules", "LLongAgoDraws$Rules;", true)
  | _ => ("LongAgoDraws$Ticks", "weight", "[J", true)
def tyX4 : Nat → FieldType := fun k => match k with
  | 0 => .object "LongAgoDraws$Net"
  | 1 => .object "LongAgoDraws$Rules"
  | _ => .array .long
abbrev wsX40 : List Cond := u_ws RX4 TX4 3
theorem nmX4 : ∀ a, a < 3 → ∀ b, b < 3 → a ≠ b → (TX4 a).2.1 ≠ (TX4 b).2.1 := by decide +kernel
theorem tyX4_ok : ∀ k, k < 3 → parseFieldDescriptor (TX4 k).2.2.1 = some (tyX4 k) := by decide +kernel
abbrev cX4_init : ByteArray := prog_6_method_1_code
def yX4_init : MethodName := ⟨RX4, "<init>", "(LLongAgoDraws$Net;LLongAgoDraws$Rules;)V"⟩
abbrev cX4_mixed : ByteArray := prog_6_method_2_code
def yX4_mixed : MethodName := ⟨RX4, "mixed", "(II)I"⟩
abbrev cX4_lotOf : ByteArray := prog_6_method_3_code
def yX4_lotOf : MethodName := ⟨RX4, "lotOf", "(I)I"⟩
abbrev cX4_placeOf : ByteArray := prog_6_method_4_code
def yX4_placeOf : MethodName := ⟨RX4, "placeOf", "(I)I"⟩
abbrev cX4_changes : ByteArray := prog_6_method_5_code
def yX4_changes : MethodName := ⟨RX4, "changes", "([III)Z"⟩
abbrev cX4_chosen : ByteArray := prog_6_method_6_code
def yX4_chosen : MethodName := ⟨RX4, "chosen", "([III)I"⟩
def RX5 : String := "LongAgoDraws"
def TX5 : u_T := fun k => match k with
  | 0 => ("LongAgoDraws", "net", "LLongAgoDraws$Net;", true)
  | 1 => ("LongAgoDraws", "rules", "LLongAgoDraws$Rules;", true)
  | 2 => ("LongAgoDraws", "ticks", "LLongAgoDraws$Ticks;", true)
  | 3 => ("LongAgoDraws", "draws", "LLongAgoDraws$Draws;", true)
  | 4 => ("LongAgoDraws", "small", "LLongAgoDraws$Small;", true)
  | 5 => ("LongAgoDraws", "hand", "[I", true)
  | _ => ("LongAgoDraws", "seed", "I", false)
def tyX5 : Nat → FieldType := fun k => match k with
  | 0 => .object "LongAgoDraws$Net"
  | 1 => .object "LongAgoDraws$Rules"
  | 2 => .object "LongAgoDraws$Ticks"
  | 3 => .object "LongAgoDraws$Draws"
  | 4 => .object "LongAgoDraws$Small"
  | 5 => .array .int
  | _ => .int
abbrev wsX50 : List Cond := u_ws RX5 TX5 7
theorem nmX5 : ∀ a, a < 7 → ∀ b, b < 7 → a ≠ b → (TX5 a).2.1 ≠ (TX5 b).2.1 := by decide +kernel
theorem tyX5_ok : ∀ k, k < 7 → parseFieldDescriptor (TX5 k).2.2.1 = some (tyX5 k) := by decide +kernel
abbrev cX5_init : ByteArray := prog_1_method_1_code
def yX5_init : MethodName := ⟨RX5, "<init>", "()V"⟩
abbrev cX5_place : ByteArray := prog_1_method_2_code
def yX5_place : MethodName := ⟨RX5, "place", "(II)I"⟩
abbrev cX5_link : ByteArray := prog_1_method_3_code
def yX5_link : MethodName := ⟨RX5, "link", "(II)I"⟩
abbrev cX5_kind : ByteArray := prog_1_method_4_code
def yX5_kind : MethodName := ⟨RX5, "kind", "(III)I"⟩
abbrev cX5_hold : ByteArray := prog_1_method_5_code
def yX5_hold : MethodName := ⟨RX5, "hold", "(II)I"⟩
abbrev cX5_good : ByteArray := prog_1_method_6_code
def yX5_good : MethodName := ⟨RX5, "good", "()I"⟩
abbrev cX5_highest : ByteArray := prog_1_method_7_code
def yX5_highest : MethodName := ⟨RX5, "highest", "(I)I"⟩
abbrev cX5_lowest : ByteArray := prog_1_method_8_code
def yX5_lowest : MethodName := ⟨RX5, "lowest", "(I)I"⟩
abbrev cX5_at : ByteArray := prog_1_method_9_code
def yX5_at : MethodName := ⟨RX5, "at", "(I)I"⟩
abbrev cX5_put : ByteArray := prog_1_method_10_code
def yX5_put : MethodName := ⟨RX5, "put", "(II)I"⟩
abbrev cX5_take : ByteArray := prog_1_method_11_code
def yX5_take : MethodName := ⟨RX5, "take", "(I)I"⟩
abbrev cX5_seed : ByteArray := prog_1_method_12_code
def yX5_seed : MethodName := ⟨RX5, "seed", "(I)I"⟩
abbrev cX5_tick : ByteArray := prog_1_method_13_code
def yX5_tick : MethodName := ⟨RX5, "tick", "(II)I"⟩
abbrev cX5_run : ByteArray := prog_1_method_14_code
def yX5_run : MethodName := ⟨RX5, "run", "(II)I"⟩
abbrev cX5_gap : ByteArray := prog_1_method_15_code
def yX5_gap : MethodName := ⟨RX5, "gap", "(I)I"⟩
abbrev cX5_draw : ByteArray := prog_1_method_16_code
def yX5_draw : MethodName := ⟨RX5, "draw", "()I"⟩
abbrev cX5_drawn : ByteArray := prog_1_method_17_code
def yX5_drawn : MethodName := ⟨RX5, "drawn", "(I)I"⟩
abbrev cX5_met : ByteArray := prog_1_method_18_code
def yX5_met : MethodName := ⟨RX5, "met", "()I"⟩
abbrev cX5_tally : ByteArray := prog_1_method_19_code
def yX5_tally : MethodName := ⟨RX5, "tally", "(III)I"⟩
abbrev cX5_many : ByteArray := prog_1_method_20_code
def yX5_many : MethodName := ⟨RX5, "many", "()I"⟩
abbrev cX5_all : ByteArray := prog_1_method_21_code
def yX5_all : MethodName := ⟨RX5, "all", "()J"⟩
abbrev cX5_chance : ByteArray := prog_1_method_22_code
def yX5_chance : MethodName := ⟨RX5, "chance", "(I)J"⟩
abbrev cX5_mean : ByteArray := prog_1_method_23_code
def yX5_mean : MethodName := ⟨RX5, "mean", "(II)J"⟩
abbrev cX5_alike : ByteArray := prog_1_method_24_code
def yX5_alike : MethodName := ⟨RX5, "alike", "(III)J"⟩
abbrev cX5_told : ByteArray := prog_1_method_25_code
def yX5_told : MethodName := ⟨RX5, "told", "(I)I"⟩
abbrev cX5_about : ByteArray := prog_1_method_26_code
def yX5_about : MethodName := ⟨RX5, "about", "(II)I"⟩
abbrev cX5_startAnew : ByteArray := prog_1_method_27_code
def yX5_startAnew : MethodName := ⟨RX5, "startAnew", "()V"⟩
abbrev cX5_isNoPart : ByteArray := prog_1_method_28_code
def yX5_isNoPart : MethodName := ⟨RX5, "isNoPart", "(I)Z"⟩
abbrev cX5_refusalUnlessSmall : ByteArray := prog_1_method_29_code
def yX5_refusalUnlessSmall : MethodName := ⟨RX5, "refusalUnlessSmall", "()I"⟩
abbrev cX5_copyRow : ByteArray := prog_1_method_30_code
def yX5_copyRow : MethodName := ⟨RX5, "copyRow", "([I[I)V"⟩
def RX6 : String := "LongAgoDrawsModel"
def TX6 : u_T := fun k => match k with
  | 0 => ("LongAgoDrawsModel", "places", "I", false)
  | 1 => ("LongAgoDrawsModel", "top", "[I", true)
  | 2 => ("LongAgoDrawsModel", "side", "[I", true)
  | 3 => ("LongAgoDrawsModel", "held", "[I", true)
  | 4 => ("LongAgoDrawsModel", "degree", "[I", true)
  | 5 => ("LongAgoDrawsModel", "near", "[I", true)
  | 6 => ("LongAgoDrawsModel", "links", "I", false)
  | 7 => ("LongAgoDrawsModel", "linkA", "[I", true)
  | 8 => ("LongAgoDrawsModel", "linkB", "[I", true)
  | 9 => ("LongAgoDrawsModel", "kind", "I", false)
  | 10 => ("LongAgoDrawsModel", "u", "I", false)
  | 11 => ("LongAgoDrawsModel", "v", "I", false)
  | 12 => ("LongAgoDrawsModel", "seed", "I", false)
  | 13 => ("LongAgoDrawsModel", "hand", "[I", true)
  | 14 => ("LongAgoDrawsModel", "high", "[I", true)
  | 15 => ("LongAgoDrawsModel", "low", "[I", true)
  | 16 => ("LongAgoDrawsModel", "drawn", "[I", true)
  | 17 => ("LongAgoDrawsModel", "gone", "[I", true)
  | 18 => ("LongAgoDrawsModel", "isDrawn", "Z", false)
  | 19 => ("LongAgoDrawsModel", "met", "I", false)
  | _ => ("LongAgoDrawsModel", "firstMet", "I", false)
def tyX6 : Nat → FieldType := fun k => match k with
  | 0 => .int
  | 1 => .array .int
  | 2 => .array .int
  | 3 => .array .int
  | 4 => .array .int
  | 5 => .array .int
  | 6 => .int
  | 7 => .array .int
  | 8 => .array .int
  | 9 => .int
  | 10 => .int
  | 11 => .int
  | 12 => .int
  | 13 => .array .int
  | 14 => .array .int
  | 15 => .array .int
  | 16 => .array .int
  | 17 => .array .int
  | 18 => .boolean
  | 19 => .int
  | _ => .int
abbrev wsX60 : List Cond := u_ws RX6 TX6 21
theorem nmX6 : ∀ a, a < 21 → ∀ b, b < 21 → a ≠ b → (TX6 a).2.1 ≠ (TX6 b).2.1 := by decide +kernel
theorem tyX6_ok : ∀ k, k < 21 → parseFieldDescriptor (TX6 k).2.2.1 = some (tyX6 k) := by decide +kernel
abbrev cX6_init : ByteArray := prog_8_method_1_code
def yX6_init : MethodName := ⟨RX6, "<init>", "()V"⟩
abbrev cX6_in : ByteArray := prog_8_method_2_code
def yX6_in : MethodName := ⟨RX6, "in", "(III)Z"⟩
abbrev cX6_isPlace : ByteArray := prog_8_method_3_code
def yX6_isPlace : MethodName := ⟨RX6, "isPlace", "(I)Z"⟩
abbrev cX6_changed : ByteArray := prog_8_method_4_code
def yX6_changed : MethodName := ⟨RX6, "changed", "()V"⟩
abbrev cX6_place : ByteArray := prog_8_method_5_code
def yX6_place : MethodName := ⟨RX6, "place", "(II)I"⟩
abbrev cX6_isLinked : ByteArray := prog_8_method_6_code
def yX6_isLinked : MethodName := ⟨RX6, "isLinked", "(II)Z"⟩
abbrev cX6_addNear : ByteArray := prog_8_method_7_code
def yX6_addNear : MethodName := ⟨RX6, "addNear", "(II)V"⟩
abbrev cX6_link : ByteArray := prog_8_method_8_code
def yX6_link : MethodName := ⟨RX6, "link", "(II)I"⟩
abbrev cX6_kind : ByteArray := prog_8_method_9_code
def yX6_kind : MethodName := ⟨RX6, "kind", "(III)I"⟩
abbrev cX6_hold : ByteArray := prog_8_method_10_code
def yX6_hold : MethodName := ⟨RX6, "hold", "(II)I"⟩
abbrev cX6_isGood : ByteArray := prog_8_method_11_code
def yX6_isGood : MethodName := ⟨RX6, "isGood", "()Z"⟩
abbrev cX6_good : ByteArray := prog_8_method_12_code
def yX6_good : MethodName := ⟨RX6, "good", "()I"⟩
abbrev cX6_layHigh : ByteArray := prog_8_method_13_code
def yX6_layHigh : MethodName := ⟨RX6, "layHigh", "([I)V"⟩
abbrev cX6_layLow : ByteArray := prog_8_method_14_code
def yX6_layLow : MethodName := ⟨RX6, "layLow", "([I)V"⟩
abbrev cX6_highest : ByteArray := prog_8_method_15_code
def yX6_highest : MethodName := ⟨RX6, "highest", "(I)I"⟩
abbrev cX6_lowest : ByteArray := prog_8_method_16_code
def yX6_lowest : MethodName := ⟨RX6, "lowest", "(I)I"⟩
abbrev cX6_isAllowed : ByteArray := prog_8_method_17_code
def yX6_isAllowed : MethodName := ⟨RX6, "isAllowed", "([I)Z"⟩
abbrev cX6_at : ByteArray := prog_8_method_18_code
def yX6_at : MethodName := ⟨RX6, "at", "(I)I"⟩
abbrev cX6_put : ByteArray := prog_8_method_19_code
def yX6_put : MethodName := ⟨RX6, "put", "(II)I"⟩
abbrev cX6_copy : ByteArray := prog_8_method_20_code
def yX6_copy : MethodName := ⟨RX6, "copy", "([I[I)V"⟩
abbrev cX6_take : ByteArray := prog_8_method_21_code
def yX6_take : MethodName := ⟨RX6, "take", "(I)I"⟩
abbrev cX6_seed : ByteArray := prog_8_method_22_code
def yX6_seed : MethodName := ⟨RX6, "seed", "(I)I"⟩
abbrev cX6_mixed : ByteArray := prog_8_method_23_code
def yX6_mixed : MethodName := ⟨RX6, "mixed", "(I)I"⟩
abbrev cX6_tick : ByteArray := prog_8_method_24_code
def yX6_tick : MethodName := ⟨RX6, "tick", "(II)I"⟩
abbrev cX6_weightAt : ByteArray := prog_8_method_25_code
def yX6_weightAt : MethodName := ⟨RX6, "weightAt", "([III)J"⟩
abbrev cX6_tick1 : ByteArray := prog_8_method_26_code
def yX6_tick1 : MethodName := ⟨RX6, "tick1", "([II)Z"⟩
abbrev cX6_run : ByteArray := prog_8_method_27_code
def yX6_run : MethodName := ⟨RX6, "run", "(II)I"⟩
abbrev cX6_unlike : ByteArray := prog_8_method_28_code
def yX6_unlike : MethodName := ⟨RX6, "unlike", "()I"⟩
abbrev cX6_meet : ByteArray := prog_8_method_29_code
def yX6_meet : MethodName := ⟨RX6, "meet", "(I)I"⟩
abbrev cX6_gap : ByteArray := prog_8_method_30_code
def yX6_gap : MethodName := ⟨RX6, "gap", "(I)I"⟩
abbrev cX6_far : ByteArray := prog_8_method_31_code
def yX6_far : MethodName := ⟨RX6, "far", "()I"⟩
abbrev cX6_draw : ByteArray := prog_8_method_32_code
def yX6_draw : MethodName := ⟨RX6, "draw", "()I"⟩
abbrev cX6_drawn : ByteArray := prog_8_method_33_code
def yX6_drawn : MethodName := ⟨RX6, "drawn", "(I)I"⟩
abbrev cX6_met : ByteArray := prog_8_method_34_code
def yX6_met : MethodName := ⟨RX6, "met", "()I"⟩
abbrev cX6_tally : ByteArray := prog_8_method_35_code
def yX6_tally : MethodName := ⟨RX6, "tally", "(III)I"⟩
abbrev cX6_states : ByteArray := prog_8_method_36_code
def yX6_states : MethodName := ⟨RX6, "states", "()I"⟩
abbrev cX6_barsSmall : ByteArray := prog_8_method_37_code
def yX6_barsSmall : MethodName := ⟨RX6, "barsSmall", "()I"⟩
abbrev cX6_first : ByteArray := prog_8_method_38_code
def yX6_first : MethodName := ⟨RX6, "first", "()V"⟩
abbrev cX6_next : ByteArray := prog_8_method_39_code
def yX6_next : MethodName := ⟨RX6, "next", "()Z"⟩
abbrev cX6_weight : ByteArray := prog_8_method_40_code
def yX6_weight : MethodName := ⟨RX6, "weight", "([I)J"⟩
abbrev cX6_over : ByteArray := prog_8_method_41_code
def yX6_over : MethodName := ⟨RX6, "over", "(III)J"⟩
abbrev cX6_many : ByteArray := prog_8_method_42_code
def yX6_many : MethodName := ⟨RX6, "many", "()I"⟩
abbrev cX6_all : ByteArray := prog_8_method_43_code
def yX6_all : MethodName := ⟨RX6, "all", "()J"⟩
abbrev cX6_lowest_ : ByteArray := prog_8_method_44_code
def yX6_lowest_ : MethodName := ⟨RX6, "lowest", "(JJI)J"⟩
abbrev cX6_chance : ByteArray := prog_8_method_45_code
def yX6_chance : MethodName := ⟨RX6, "chance", "(I)J"⟩
abbrev cX6_mean : ByteArray := prog_8_method_46_code
def yX6_mean : MethodName := ⟨RX6, "mean", "(II)J"⟩
abbrev cX6_alike : ByteArray := prog_8_method_47_code
def yX6_alike : MethodName := ⟨RX6, "alike", "(III)J"⟩
abbrev cX6_told : ByteArray := prog_8_method_48_code
def yX6_told : MethodName := ⟨RX6, "told", "(I)I"⟩
abbrev cX6_about : ByteArray := prog_8_method_49_code
def yX6_about : MethodName := ⟨RX6, "about", "(II)I"⟩
def RJ9 : String := "java/lang/Math"
def TJ9 : u_T := fun k => match k with
  | _ => ("", "", "", false)
def tyJ9 : Nat → FieldType := fun k => match k with
  | _ => .int
abbrev wsJ90 : List Cond := u_ws RJ9 TJ9 0
theorem nmJ9 : ∀ a, a < 0 → ∀ b, b < 0 → a ≠ b → (TJ9 a).2.1 ≠ (TJ9 b).2.1 := by decide +kernel
theorem tyJ9_ok : ∀ k, k < 0 → parseFieldDescriptor (TJ9 k).2.2.1 = some (tyJ9 k) := by decide +kernel
abbrev cJ9_max_7cf53 : ByteArray := prog_9_method_65_code
def yJ9_max_7cf53 : MethodName := ⟨RJ9, "max", "(II)I"⟩
abbrev cJ9_min_7cf53 : ByteArray := prog_9_method_69_code
def yJ9_min_7cf53 : MethodName := ⟨RJ9, "min", "(II)I"⟩
def RJ10 : String := "java/lang/System"
def TJ10 : u_T := fun k => match k with
  | _ => ("", "", "", false)
def tyJ10 : Nat → FieldType := fun k => match k with
  | _ => .int
abbrev wsJ100 : List Cond := u_ws RJ10 TJ10 0
theorem nmJ10 : ∀ a, a < 0 → ∀ b, b < 0 → a ≠ b → (TJ10 a).2.1 ≠ (TJ10 b).2.1 := by decide +kernel
theorem tyJ10_ok : ∀ k, k < 0 → parseFieldDescriptor (TJ10 k).2.2.1 = some (tyJ10 k) := by decide +kernel
def RL : String := "LongAgoDrawsLaw"
abbrev cL_law : ByteArray := code
def yL_law : MethodName := ⟨RL, "law", "([I)Z"⟩
end
section
/-! The words that every method's contract may use: the tables' good words (the kit's lw_tbl, filtered). -/
def XT : List Cond := lw_tbl.filter goodWord
theorem xt1 {w : Cond} (k : Nat) (h : tables_1_1[k]? = some w) (g : goodWord w = true) : w ∈ XT := List.mem_filter.mpr ⟨List.mem_append_right _ (List.mem_append_left _ (List.mem_of_getElem? h)), g⟩
theorem xt2 {w : Cond} (k : Nat) (h : tables_1_2[k]? = some w) (g : goodWord w = true) : w ∈ XT := List.mem_filter.mpr ⟨List.mem_append_right _ (List.mem_append_right _ (List.mem_append_left _ (List.mem_of_getElem? h))), g⟩
theorem xt3 {w : Cond} (k : Nat) (h : tables_1_3[k]? = some w) (g : goodWord w = true) : w ∈ XT := List.mem_filter.mpr ⟨List.mem_append_right _ (List.mem_append_right _ (List.mem_append_right _ (List.mem_append_left _ (List.mem_of_getElem? h)))), g⟩
theorem xt4 {w : Cond} (k : Nat) (h : tables_1_4[k]? = some w) (g : goodWord w = true) : w ∈ XT := List.mem_filter.mpr ⟨List.mem_append_right _ (List.mem_append_right _ (List.mem_append_right _ (List.mem_append_right _ (List.mem_of_getElem? h)))), g⟩
theorem xt0 {q : MethodName × Nat} (k : Nat) (h : lw_privs[k]? = some q) (g : goodWord (Cond.selects q.1.cls q.1 q.1) = true) : Cond.selects q.1.cls q.1 q.1 ∈ XT := List.mem_filter.mpr ⟨List.mem_append_left _ (List.mem_map.mpr ⟨q, List.mem_of_getElem? h, rfl⟩), g⟩
/-- one word list among another's: all of XT, whichever code word stands ahead -/
theorem xgood {w : Cond} (h : w ∈ XT) : w ∈ XT ∧ ((w.onTables && w.keeps) = true ∨ ∃ ty, w = .arrayClass ty) := ⟨h, good_of_word (List.mem_filter.mp h).2⟩
theorem xGoodIn {z y : Cond} (hy : y ∈ XT) : GoodIn (z :: XT) (y :: XT) := fun w hw => by
  rcases List.mem_cons.mp hw with h | h
  · subst h
    exact ⟨List.mem_cons_of_mem _ hy, (xgood hy).2⟩
  · exact ⟨List.mem_cons_of_mem _ h, (xgood h).2⟩
theorem xGoodT {y : Cond} (hy : y ∈ XT) : GoodIn XT (y :: XT) := fun w hw => by
  rcases List.mem_cons.mp hw with h | h
  · subst h
    exact xgood hy
  · exact xgood h
theorem xin_L : (.initialized RL : Cond) ∈ XT := xt1 0 rfl rfl
theorem xin_X5 : (.initialized RX5 : Cond) ∈ XT := xt1 1 rfl rfl
theorem xin_X1 : (.initialized RX1 : Cond) ∈ XT := xt1 2 rfl rfl
theorem xin_X2 : (.initialized RX2 : Cond) ∈ XT := xt1 3 rfl rfl
theorem xin_X4 : (.initialized RX4 : Cond) ∈ XT := xt1 4 rfl rfl
theorem xin_X0 : (.initialized RX0 : Cond) ∈ XT := xt1 5 rfl rfl
theorem xin_X3 : (.initialized RX3 : Cond) ∈ XT := xt1 6 rfl rfl
theorem xin_X6 : (.initialized RX6 : Cond) ∈ XT := xt1 7 rfl rfl
theorem xin_J9 : (.initialized "java/lang/Math" : Cond) ∈ XT := xt1 8 rfl rfl
theorem xin_J10 : (.initialized "java/lang/System" : Cond) ∈ XT := xt1 9 rfl rfl
theorem xcl_L_7 : (.classLink RL 7 RX5 : Cond) ∈ XT := xt1 10 rfl rfl
theorem xit_X5 : (.instantiable RX5 7 : Cond) ∈ XT := xt1 11 rfl rfl
theorem xml_L_9 : (.methodLink RL 9 yX5_init : Cond) ∈ XT := xt1 12 rfl rfl
theorem xim_X5_init : (.instanceMethod yX5_init : Cond) ∈ XT := xt1 13 rfl rfl
theorem xco_X5_init : (.code yX5_init cX5_init 1 none : Cond) ∈ XT := xt1 14 rfl rfl
theorem xml_X5_1 : (.methodLink RX5 1 objectInit : Cond) ∈ XT := xt1 15 rfl rfl
theorem xim_O_init : (.instanceMethod objectInit : Cond) ∈ XT := xt1 16 rfl rfl
theorem xco_O_init : (.code objectInit ⟨#[0xb1]⟩ 1 none : Cond) ∈ XT := xt1 17 rfl rfl
theorem xcl_X5_7 : (.classLink RX5 7 RX1 : Cond) ∈ XT := xt1 18 rfl rfl
theorem xit_X1 : (.instantiable RX1 9 : Cond) ∈ XT := xt1 19 rfl rfl
theorem xim_X1_init : (.instanceMethod yX1_init : Cond) ∈ XT := xt1 21 rfl rfl
theorem xco_X1_init : (.code yX1_init cX1_init 1 none : Cond) ∈ XT := xt1 22 rfl rfl
theorem xml_X1_3 : (.methodLink RX1 3 objectInit : Cond) ∈ XT := xt1 23 rfl rfl
theorem xcl_X1_24 : (.classLink RX1 24 "[[I" : Cond) ∈ XT := xt1 24 rfl rfl
theorem xfl_X1_9 : (.fieldLink RX1 9 "LongAgoDraws$Net" "top" "[I" : Cond) ∈ XT := xt1 26 rfl rfl
theorem xfl_X2_36 : (.fieldLink RX2 36 "LongAgoDraws$Net" "top" "[I" : Cond) ∈ XT := xt1 27 rfl rfl
theorem xfl_X5_95 : (.fieldLink RX5 95 "LongAgoDraws$Net" "top" "[I" : Cond) ∈ XT := xt1 28 rfl rfl
theorem xfl_X1_15 : (.fieldLink RX1 15 "LongAgoDraws$Net" "side" "[I" : Cond) ∈ XT := xt1 29 rfl rfl
theorem xfl_X2_41 : (.fieldLink RX2 41 "LongAgoDraws$Net" "side" "[I" : Cond) ∈ XT := xt1 30 rfl rfl
theorem xfl_X5_190 : (.fieldLink RX5 190 "LongAgoDraws$Net" "side" "[I" : Cond) ∈ XT := xt1 31 rfl rfl
theorem xfl_X1_18 : (.fieldLink RX1 18 "LongAgoDraws$Net" "held" "[I" : Cond) ∈ XT := xt1 32 rfl rfl
theorem xfl_X2_44 : (.fieldLink RX2 44 "LongAgoDraws$Net" "held" "[I" : Cond) ∈ XT := xt1 33 rfl rfl
theorem xfl_X5_98 : (.fieldLink RX5 98 "LongAgoDraws$Net" "held" "[I" : Cond) ∈ XT := xt1 34 rfl rfl
theorem xfl_X1_21 : (.fieldLink RX1 21 "LongAgoDraws$Net" "neighbours" "[I" : Cond) ∈ XT := xt1 35 rfl rfl
theorem xfl_X2_78 : (.fieldLink RX2 78 "LongAgoDraws$Net" "neighbours" "[I" : Cond) ∈ XT := xt1 36 rfl rfl
theorem xfl_X5_193 : (.fieldLink RX5 193 "LongAgoDraws$Net" "neighbours" "[I" : Cond) ∈ XT := xt1 37 rfl rfl
theorem xfl_X1_26 : (.fieldLink RX1 26 "LongAgoDraws$Net" "neighbour" "[[I" : Cond) ∈ XT := xt1 38 rfl rfl
theorem xfl_X2_74 : (.fieldLink RX2 74 "LongAgoDraws$Net" "neighbour" "[[I" : Cond) ∈ XT := xt1 39 rfl rfl
theorem xfl_X5_196 : (.fieldLink RX5 196 "LongAgoDraws$Net" "neighbour" "[[I" : Cond) ∈ XT := xt1 40 rfl rfl
theorem xfl_X1_29 : (.fieldLink RX1 29 "LongAgoDraws$Net" "oneEnd" "[I" : Cond) ∈ XT := xt1 41 rfl rfl
theorem xfl_X2_65 : (.fieldLink RX2 65 "LongAgoDraws$Net" "oneEnd" "[I" : Cond) ∈ XT := xt1 42 rfl rfl
theorem xfl_X1_32 : (.fieldLink RX1 32 "LongAgoDraws$Net" "otherEnd" "[I" : Cond) ∈ XT := xt1 43 rfl rfl
theorem xfl_X2_68 : (.fieldLink RX2 68 "LongAgoDraws$Net" "otherEnd" "[I" : Cond) ∈ XT := xt1 44 rfl rfl
theorem xfl_X1_35 : (.fieldLink RX1 35 "LongAgoDraws$Net" "places" "I" : Cond) ∈ XT := xt1 45 rfl rfl
theorem xfl_X5_58 : (.fieldLink RX5 58 "LongAgoDraws$Net" "places" "I" : Cond) ∈ XT := xt1 46 rfl rfl
theorem xfl_X0_59 : (.fieldLink RX0 59 "LongAgoDraws$Net" "places" "I" : Cond) ∈ XT := xt1 47 rfl rfl
theorem xfl_X3_35 : (.fieldLink RX3 35 "LongAgoDraws$Net" "places" "I" : Cond) ∈ XT := xt1 48 rfl rfl
theorem xfl_X4_28 : (.fieldLink RX4 28 "LongAgoDraws$Net" "places" "I" : Cond) ∈ XT := xt1 49 rfl rfl
theorem xfl_X2_55 : (.fieldLink RX2 55 "LongAgoDraws$Net" "places" "I" : Cond) ∈ XT := xt1 50 rfl rfl
theorem xfl_X3_23 : (.fieldLink RX3 23 "LongAgoDraws$Net" "links" "I" : Cond) ∈ XT := xt1 51 rfl rfl
theorem xfl_X5_72 : (.fieldLink RX5 72 "LongAgoDraws$Net" "links" "I" : Cond) ∈ XT := xt1 52 rfl rfl
theorem xfl_X1_39 : (.fieldLink RX1 39 "LongAgoDraws$Net" "links" "I" : Cond) ∈ XT := xt1 53 rfl rfl
theorem xfl_X2_62 : (.fieldLink RX2 62 "LongAgoDraws$Net" "links" "I" : Cond) ∈ XT := xt1 54 rfl rfl
theorem xla_X1_top : (.laysFinal RX1 "LongAgoDraws$Net" "top" "[I" : Cond) ∈ XT := xt1 55 rfl rfl
theorem xla_X1_side : (.laysFinal RX1 "LongAgoDraws$Net" "side" "[I" : Cond) ∈ XT := xt1 57 rfl rfl
theorem xla_X1_held : (.laysFinal RX1 "LongAgoDraws$Net" "held" "[I" : Cond) ∈ XT := xt1 59 rfl rfl
theorem xla_X1_neighbours : (.laysFinal RX1 "LongAgoDraws$Net" "neighbours" "[I" : Cond) ∈ XT := xt1 61 rfl rfl
theorem xla_X1_neighbour : (.laysFinal RX1 "LongAgoDraws$Net" "neighbour" "[[I" : Cond) ∈ XT := xt1 63 rfl rfl
theorem xla_X1_oneEnd : (.laysFinal RX1 "LongAgoDraws$Net" "oneEnd" "[I" : Cond) ∈ XT := xt1 65 rfl rfl
theorem xla_X1_otherEnd : (.laysFinal RX1 "LongAgoDraws$Net" "otherEnd" "[I" : Cond) ∈ XT := xt1 67 rfl rfl
theorem xla_X1_places : (.lays RX1 "LongAgoDraws$Net" "places" "I" : Cond) ∈ XT := xt1 69 rfl rfl
theorem xla_X1_links : (.lays RX1 "LongAgoDraws$Net" "links" "I" : Cond) ∈ XT := xt1 71 rfl rfl
theorem xac_int : (.arrayClass .int : Cond) ∈ XT := xt1 74 rfl rfl
theorem xcl_X5_16 : (.classLink RX5 16 RX2 : Cond) ∈ XT := xt1 75 rfl rfl
theorem xit_X2 : (.instantiable RX2 7 : Cond) ∈ XT := xt1 76 rfl rfl
theorem xml_X5_18 : (.methodLink RX5 18 yX2_init : Cond) ∈ XT := xt1 77 rfl rfl
theorem xim_X2_init : (.instanceMethod yX2_init : Cond) ∈ XT := xt1 78 rfl rfl
theorem xco_X2_init : (.code yX2_init cX2_init 2 none : Cond) ∈ XT := xt1 79 rfl rfl
theorem xml_X2_3 : (.methodLink RX2 3 objectInit : Cond) ∈ XT := xt1 80 rfl rfl
theorem xfl_X2_32 : (.fieldLink RX2 32 "LongAgoDraws$Rules" "net" "LLongAgoDraws$Net;" : Cond) ∈ XT := xt1 81 rfl rfl
theorem xfl_X2_9 : (.fieldLink RX2 9 "LongAgoDraws$Rules" "high" "[I" : Cond) ∈ XT := xt1 82 rfl rfl
theorem xfl_X0_37 : (.fieldLink RX0 37 "LongAgoDraws$Rules" "high" "[I" : Cond) ∈ XT := xt1 83 rfl rfl
theorem xfl_X5_105 : (.fieldLink RX5 105 "LongAgoDraws$Rules" "high" "[I" : Cond) ∈ XT := xt1 84 rfl rfl
theorem xfl_X2_15 : (.fieldLink RX2 15 "LongAgoDraws$Rules" "low" "[I" : Cond) ∈ XT := xt1 85 rfl rfl
theorem xfl_X0_44 : (.fieldLink RX0 44 "LongAgoDraws$Rules" "low" "[I" : Cond) ∈ XT := xt1 86 rfl rfl
theorem xfl_X5_108 : (.fieldLink RX5 108 "LongAgoDraws$Rules" "low" "[I" : Cond) ∈ XT := xt1 87 rfl rfl
theorem xfl_X2_18 : (.fieldLink RX2 18 "LongAgoDraws$Rules" "kind" "I" : Cond) ∈ XT := xt1 88 rfl rfl
theorem xfl_X5_86 : (.fieldLink RX5 86 "LongAgoDraws$Rules" "kind" "I" : Cond) ∈ XT := xt1 89 rfl rfl
theorem xfl_X2_22 : (.fieldLink RX2 22 "LongAgoDraws$Rules" "u" "I" : Cond) ∈ XT := xt1 90 rfl rfl
theorem xfl_X5_89 : (.fieldLink RX5 89 "LongAgoDraws$Rules" "u" "I" : Cond) ∈ XT := xt1 91 rfl rfl
theorem xfl_X2_25 : (.fieldLink RX2 25 "LongAgoDraws$Rules" "v" "I" : Cond) ∈ XT := xt1 92 rfl rfl
theorem xfl_X5_92 : (.fieldLink RX5 92 "LongAgoDraws$Rules" "v" "I" : Cond) ∈ XT := xt1 93 rfl rfl
theorem xfl_X2_28 : (.fieldLink RX2 28 "LongAgoDraws$Rules" "isGood" "Z" : Cond) ∈ XT := xt1 94 rfl rfl
theorem xfl_X5_101 : (.fieldLink RX5 101 "LongAgoDraws$Rules" "isGood" "Z" : Cond) ∈ XT := xt1 95 rfl rfl
theorem xla_X2_net : (.laysFinal RX2 "LongAgoDraws$Rules" "net" "LLongAgoDraws$Net;" : Cond) ∈ XT := xt1 96 rfl rfl
theorem xla_X2_high : (.laysFinal RX2 "LongAgoDraws$Rules" "high" "[I" : Cond) ∈ XT := xt1 98 rfl rfl
theorem xla_X2_low : (.laysFinal RX2 "LongAgoDraws$Rules" "low" "[I" : Cond) ∈ XT := xt1 100 rfl rfl
theorem xla_X2_kind : (.lays RX2 "LongAgoDraws$Rules" "kind" "I" : Cond) ∈ XT := xt1 102 rfl rfl
theorem xla_X2_u : (.lays RX2 "LongAgoDraws$Rules" "u" "I" : Cond) ∈ XT := xt1 104 rfl rfl
theorem xla_X2_v : (.lays RX2 "LongAgoDraws$Rules" "v" "I" : Cond) ∈ XT := xt1 106 rfl rfl
theorem xla_X2_isGood : (.lays RX2 "LongAgoDraws$Rules" "isGood" "Z" : Cond) ∈ XT := xt1 108 rfl rfl
theorem xcl_X5_25 : (.classLink RX5 25 RX4 : Cond) ∈ XT := xt1 111 rfl rfl
theorem xit_X4 : (.instantiable RX4 3 : Cond) ∈ XT := xt1 112 rfl rfl
theorem xml_X5_27 : (.methodLink RX5 27 yX4_init : Cond) ∈ XT := xt1 113 rfl rfl
theorem xim_X4_init : (.instanceMethod yX4_init : Cond) ∈ XT := xt1 114 rfl rfl
theorem xco_X4_init : (.code yX4_init cX4_init 3 none : Cond) ∈ XT := xt1 115 rfl rfl
theorem xml_X4_3 : (.methodLink RX4 3 objectInit : Cond) ∈ XT := xt1 116 rfl rfl
theorem xfl_X4_15 : (.fieldLink RX4 15 "LongAgoDraws$Ticks" "net" "LLongAgoDraws$Net;" : Cond) ∈ XT := xt1 117 rfl rfl
theorem xfl_X4_19 : (.fieldLink RX4 19 "LongAgoDraws$Ticks" "rules" "LLongAgoDraws$Rules;" : Cond) ∈ XT := xt1 118 rfl rfl
theorem xfl_X4_9 : (.fieldLink RX4 9 "LongAgoDraws$Ticks" "weight" "[J" : Cond) ∈ XT := xt1 119 rfl rfl
theorem xla_X4_net : (.laysFinal RX4 "LongAgoDraws$Ticks" "net" "LLongAgoDraws$Net;" : Cond) ∈ XT := xt1 120 rfl rfl
theorem xla_X4_rules : (.laysFinal RX4 "LongAgoDraws$Ticks" "rules" "LLongAgoDraws$Rules;" : Cond) ∈ XT := xt1 122 rfl rfl
theorem xla_X4_weight : (.laysFinal RX4 "LongAgoDraws$Ticks" "weight" "[J" : Cond) ∈ XT := xt1 124 rfl rfl
theorem xac_long : (.arrayClass .long : Cond) ∈ XT := xt1 127 rfl rfl
theorem xcl_X5_34 : (.classLink RX5 34 RX0 : Cond) ∈ XT := xt1 128 rfl rfl
theorem xit_X0 : (.instantiable RX0 10 : Cond) ∈ XT := xt1 129 rfl rfl
theorem xml_X5_36 : (.methodLink RX5 36 yX0_init : Cond) ∈ XT := xt1 130 rfl rfl
theorem xim_X0_init : (.instanceMethod yX0_init : Cond) ∈ XT := xt1 131 rfl rfl
theorem xco_X0_init : (.code yX0_init cX0_init 4 none : Cond) ∈ XT := xt1 132 rfl rfl
theorem xml_X0_3 : (.methodLink RX0 3 objectInit : Cond) ∈ XT := xt1 133 rfl rfl
theorem xfl_X0_25 : (.fieldLink RX0 25 "LongAgoDraws$Draws" "net" "LLongAgoDraws$Net;" : Cond) ∈ XT := xt1 134 rfl rfl
theorem xfl_X0_29 : (.fieldLink RX0 29 "LongAgoDraws$Draws" "rules" "LLongAgoDraws$Rules;" : Cond) ∈ XT := xt1 135 rfl rfl
theorem xfl_X0_33 : (.fieldLink RX0 33 "LongAgoDraws$Draws" "ticks" "LLongAgoDraws$Ticks;" : Cond) ∈ XT := xt1 136 rfl rfl
theorem xfl_X0_9 : (.fieldLink RX0 9 "LongAgoDraws$Draws" "high" "[I" : Cond) ∈ XT := xt1 137 rfl rfl
theorem xfl_X0_15 : (.fieldLink RX0 15 "LongAgoDraws$Draws" "low" "[I" : Cond) ∈ XT := xt1 138 rfl rfl
theorem xfl_X5_160 : (.fieldLink RX5 160 "LongAgoDraws$Draws" "low" "[I" : Cond) ∈ XT := xt1 139 rfl rfl
theorem xfl_X0_68 : (.fieldLink RX0 68 "LongAgoDraws$Draws" "back" "I" : Cond) ∈ XT := xt1 140 rfl rfl
theorem xfl_X5_154 : (.fieldLink RX5 154 "LongAgoDraws$Draws" "back" "I" : Cond) ∈ XT := xt1 141 rfl rfl
theorem xfl_X0_49 : (.fieldLink RX0 49 "LongAgoDraws$Draws" "meeting" "I" : Cond) ∈ XT := xt1 142 rfl rfl
theorem xfl_X0_18 : (.fieldLink RX0 18 "LongAgoDraws$Draws" "kept" "[I" : Cond) ∈ XT := xt1 143 rfl rfl
theorem xfl_X5_118 : (.fieldLink RX5 118 "LongAgoDraws$Draws" "kept" "[I" : Cond) ∈ XT := xt1 144 rfl rfl
theorem xfl_X0_71 : (.fieldLink RX0 71 "LongAgoDraws$Draws" "keptMeeting" "I" : Cond) ∈ XT := xt1 145 rfl rfl
theorem xfl_X5_157 : (.fieldLink RX5 157 "LongAgoDraws$Draws" "keptMeeting" "I" : Cond) ∈ XT := xt1 146 rfl rfl
theorem xfl_X0_21 : (.fieldLink RX0 21 "LongAgoDraws$Draws" "isKept" "Z" : Cond) ∈ XT := xt1 147 rfl rfl
theorem xfl_X5_115 : (.fieldLink RX5 115 "LongAgoDraws$Draws" "isKept" "Z" : Cond) ∈ XT := xt1 148 rfl rfl
theorem xla_X0_net : (.laysFinal RX0 "LongAgoDraws$Draws" "net" "LLongAgoDraws$Net;" : Cond) ∈ XT := xt1 149 rfl rfl
theorem xla_X0_rules : (.laysFinal RX0 "LongAgoDraws$Draws" "rules" "LLongAgoDraws$Rules;" : Cond) ∈ XT := xt1 151 rfl rfl
theorem xla_X0_ticks : (.laysFinal RX0 "LongAgoDraws$Draws" "ticks" "LLongAgoDraws$Ticks;" : Cond) ∈ XT := xt1 153 rfl rfl
theorem xla_X0_high : (.laysFinal RX0 "LongAgoDraws$Draws" "high" "[I" : Cond) ∈ XT := xt1 155 rfl rfl
theorem xla_X0_low : (.laysFinal RX0 "LongAgoDraws$Draws" "low" "[I" : Cond) ∈ XT := xt1 157 rfl rfl
theorem xla_X0_back : (.lays RX0 "LongAgoDraws$Draws" "back" "I" : Cond) ∈ XT := xt1 159 rfl rfl
theorem xla_X0_meeting : (.lays RX0 "LongAgoDraws$Draws" "meeting" "I" : Cond) ∈ XT := xt1 161 rfl rfl
theorem xla_X0_kept : (.laysFinal RX0 "LongAgoDraws$Draws" "kept" "[I" : Cond) ∈ XT := xt1 163 rfl rfl
theorem xla_X0_keptMeeting : (.lays RX0 "LongAgoDraws$Draws" "keptMeeting" "I" : Cond) ∈ XT := xt1 165 rfl rfl
theorem xla_X0_isKept : (.lays RX0 "LongAgoDraws$Draws" "isKept" "Z" : Cond) ∈ XT := xt1 167 rfl rfl
theorem xcl_X5_43 : (.classLink RX5 43 RX3 : Cond) ∈ XT := xt1 170 rfl rfl
theorem xit_X3 : (.instantiable RX3 3 : Cond) ∈ XT := xt1 171 rfl rfl
theorem xml_X5_45 : (.methodLink RX5 45 yX3_init : Cond) ∈ XT := xt1 172 rfl rfl
theorem xim_X3_init : (.instanceMethod yX3_init : Cond) ∈ XT := xt1 173 rfl rfl
theorem xco_X3_init : (.code yX3_init cX3_init 3 none : Cond) ∈ XT := xt1 174 rfl rfl
theorem xml_X3_3 : (.methodLink RX3 3 objectInit : Cond) ∈ XT := xt1 175 rfl rfl
theorem xfl_X3_15 : (.fieldLink RX3 15 "LongAgoDraws$Small" "net" "LLongAgoDraws$Net;" : Cond) ∈ XT := xt1 176 rfl rfl
theorem xfl_X3_19 : (.fieldLink RX3 19 "LongAgoDraws$Small" "rules" "LLongAgoDraws$Rules;" : Cond) ∈ XT := xt1 177 rfl rfl
theorem xfl_X3_9 : (.fieldLink RX3 9 "LongAgoDraws$Small" "row" "[I" : Cond) ∈ XT := xt1 178 rfl rfl
theorem xla_X3_net : (.laysFinal RX3 "LongAgoDraws$Small" "net" "LLongAgoDraws$Net;" : Cond) ∈ XT := xt1 179 rfl rfl
theorem xla_X3_rules : (.laysFinal RX3 "LongAgoDraws$Small" "rules" "LLongAgoDraws$Rules;" : Cond) ∈ XT := xt1 181 rfl rfl
theorem xla_X3_row : (.laysFinal RX3 "LongAgoDraws$Small" "row" "[I" : Cond) ∈ XT := xt1 183 rfl rfl
theorem xfl_X5_10 : (.fieldLink RX5 10 "LongAgoDraws" "net" "LLongAgoDraws$Net;" : Cond) ∈ XT := xt1 186 rfl rfl
theorem xfl_X5_21 : (.fieldLink RX5 21 "LongAgoDraws" "rules" "LLongAgoDraws$Rules;" : Cond) ∈ XT := xt1 187 rfl rfl
theorem xfl_X5_30 : (.fieldLink RX5 30 "LongAgoDraws" "ticks" "LLongAgoDraws$Ticks;" : Cond) ∈ XT := xt1 188 rfl rfl
theorem xfl_X5_39 : (.fieldLink RX5 39 "LongAgoDraws" "draws" "LLongAgoDraws$Draws;" : Cond) ∈ XT := xt1 189 rfl rfl
theorem xfl_X5_46 : (.fieldLink RX5 46 "LongAgoDraws" "small" "LLongAgoDraws$Small;" : Cond) ∈ XT := xt1 190 rfl rfl
theorem xfl_X5_50 : (.fieldLink RX5 50 "LongAgoDraws" "hand" "[I" : Cond) ∈ XT := xt1 191 rfl rfl
theorem xfl_X5_54 : (.fieldLink RX5 54 "LongAgoDraws" "seed" "I" : Cond) ∈ XT := xt1 192 rfl rfl
theorem xla_X5_net : (.laysFinal RX5 "LongAgoDraws" "net" "LLongAgoDraws$Net;" : Cond) ∈ XT := xt1 193 rfl rfl
theorem xla_X5_rules : (.laysFinal RX5 "LongAgoDraws" "rules" "LLongAgoDraws$Rules;" : Cond) ∈ XT := xt1 195 rfl rfl
theorem xla_X5_ticks : (.laysFinal RX5 "LongAgoDraws" "ticks" "LLongAgoDraws$Ticks;" : Cond) ∈ XT := xt1 197 rfl rfl
theorem xla_X5_draws : (.laysFinal RX5 "LongAgoDraws" "draws" "LLongAgoDraws$Draws;" : Cond) ∈ XT := xt1 199 rfl rfl
theorem xla_X5_small : (.laysFinal RX5 "LongAgoDraws" "small" "LLongAgoDraws$Small;" : Cond) ∈ XT := xt1 201 rfl rfl
theorem xla_X5_hand : (.laysFinal RX5 "LongAgoDraws" "hand" "[I" : Cond) ∈ XT := xt1 203 rfl rfl
theorem xla_X5_seed : (.lays RX5 "LongAgoDraws" "seed" "I" : Cond) ∈ XT := xt1 205 rfl rfl
theorem xml_L_13 : (.methodLink RL 13 yX5_place : Cond) ∈ XT := xt1 208 rfl rfl
theorem xim_X5_place : (.instanceMethod yX5_place : Cond) ∈ XT := xt1 209 rfl rfl
theorem xse_X5_place : (.selects RX5 yX5_place yX5_place : Cond) ∈ XT := xt1 210 rfl rfl
theorem xco_X5_place : (.code yX5_place cX5_place 4 (some .int) : Cond) ∈ XT := xt1 211 rfl rfl
theorem xml_X5_61 : (.methodLink RX5 61 yX1_addPlace : Cond) ∈ XT := xt1 212 rfl rfl
theorem xim_X1_addPlace : (.instanceMethod yX1_addPlace : Cond) ∈ XT := xt1 213 rfl rfl
theorem xse_X1_addPlace : (.selects RX1 yX1_addPlace yX1_addPlace : Cond) ∈ XT := xt1 214 rfl rfl
theorem xco_X1_addPlace : (.code yX1_addPlace cX1_addPlace 3 (some .int) : Cond) ∈ XT := xt1 215 rfl rfl
theorem xml_X5_65 : (.methodLink RX5 65 yX5_startAnew : Cond) ∈ XT := xt1 216 rfl rfl
theorem xim_X5_startAnew : (.instanceMethod yX5_startAnew : Cond) ∈ XT := xt1 218 rfl rfl
theorem xco_X5_startAnew : (.code yX5_startAnew cX5_startAnew 2 none : Cond) ∈ XT := xt1 219 rfl rfl
theorem xml_X5_200 : (.methodLink RX5 200 yX2_settle : Cond) ∈ XT := xt1 220 rfl rfl
theorem xim_X2_settle : (.instanceMethod yX2_settle : Cond) ∈ XT := xt1 221 rfl rfl
theorem xse_X2_settle : (.selects RX2 yX2_settle yX2_settle : Cond) ∈ XT := xt1 222 rfl rfl
theorem xco_X2_settle : (.code yX2_settle cX2_settle 2 none : Cond) ∈ XT := xt1 223 rfl rfl
theorem xml_X2_51 : (.methodLink RX2 51 yX2_isHeld : Cond) ∈ XT := xt1 224 rfl rfl
theorem xim_X2_isHeld : (.instanceMethod yX2_isHeld : Cond) ∈ XT := xt1 225 rfl rfl
theorem xse_X2_isHeld : (.selects RX2 yX2_isHeld yX2_isHeld : Cond) ∈ XT := xt1 226 rfl rfl
theorem xco_X2_isHeld : (.code yX2_isHeld cX2_isHeld 2 (some .boolean) : Cond) ∈ XT := xt1 227 rfl rfl
theorem xml_X2_47 : (.methodLink RX2 47 yX2_most : Cond) ∈ XT := xt1 228 rfl rfl
theorem xim_X2_most : (.instanceMethod yX2_most : Cond) ∈ XT := xt1 229 rfl rfl
theorem xse_X2_most : (.selects RX2 yX2_most yX2_most : Cond) ∈ XT := xt1 230 rfl rfl
theorem xco_X2_most : (.code yX2_most cX2_most 2 (some .int) : Cond) ∈ XT := xt1 231 rfl rfl
theorem xml_X2_81 : (.methodLink RX2 81 yX2_numberOfHeight : Cond) ∈ XT := xt1 232 rfl rfl
theorem xim_X2_numberOfHeight : (.instanceMethod yX2_numberOfHeight : Cond) ∈ XT := xt1 233 rfl rfl
theorem xse_X2_numberOfHeight : (.selects RX2 yX2_numberOfHeight yX2_numberOfHeight : Cond) ∈ XT := xt1 234 rfl rfl
theorem xco_X2_numberOfHeight : (.code yX2_numberOfHeight cX2_numberOfHeight 3 (some .int) : Cond) ∈ XT := xt1 235 rfl rfl
theorem xml_X2_84 : (.methodLink RX2 84 yX2_drawTogether : Cond) ∈ XT := xt1 236 rfl rfl
theorem xim_X2_drawTogether : (.instanceMethod yX2_drawTogether : Cond) ∈ XT := xt1 238 rfl rfl
theorem xco_X2_drawTogether : (.code yX2_drawTogether cX2_drawTogether 5 none : Cond) ∈ XT := xt1 239 rfl rfl
theorem xml_X2_91 : (.methodLink RX2 91 Lib.Math.min.name : Cond) ∈ XT := xt2 0 rfl rfl
theorem xst_J9_min : (.static Lib.Math.min.name : Cond) ∈ XT := xt2 1 rfl rfl
theorem xco_J9_min : (.code Lib.Math.min.name Lib.Math.min.code 2 (some .int) : Cond) ∈ XT := xt2 2 rfl rfl
theorem xml_X2_96 : (.methodLink RX2 96 Lib.Math.max.name : Cond) ∈ XT := xt2 3 rfl rfl
theorem xst_J9_max : (.static Lib.Math.max.name : Cond) ∈ XT := xt2 4 rfl rfl
theorem xco_J9_max : (.code Lib.Math.max.name Lib.Math.max.code 2 (some .int) : Cond) ∈ XT := xt2 5 rfl rfl
theorem xml_X2_87 : (.methodLink RX2 87 yX2_isSound : Cond) ∈ XT := xt2 6 rfl rfl
theorem xim_X2_isSound : (.instanceMethod yX2_isSound : Cond) ∈ XT := xt2 8 rfl rfl
theorem xco_X2_isSound : (.code yX2_isSound cX2_isSound 1 (some .boolean) : Cond) ∈ XT := xt2 9 rfl rfl
theorem xml_X2_99 : (.methodLink RX2 99 yX2_lowIsBelowHigh : Cond) ∈ XT := xt2 10 rfl rfl
theorem xim_X2_lowIsBelowHigh : (.instanceMethod yX2_lowIsBelowHigh : Cond) ∈ XT := xt2 12 rfl rfl
theorem xco_X2_lowIsBelowHigh : (.code yX2_lowIsBelowHigh cX2_lowIsBelowHigh 2 (some .boolean) : Cond) ∈ XT := xt2 13 rfl rfl
theorem xml_X2_102 : (.methodLink RX2 102 yX2_linksCrossSides : Cond) ∈ XT := xt2 14 rfl rfl
theorem xim_X2_linksCrossSides : (.instanceMethod yX2_linksCrossSides : Cond) ∈ XT := xt2 16 rfl rfl
theorem xco_X2_linksCrossSides : (.code yX2_linksCrossSides cX2_linksCrossSides 2 (some .boolean) : Cond) ∈ XT := xt2 17 rfl rfl
theorem xml_L_18 : (.methodLink RL 18 yX5_link : Cond) ∈ XT := xt2 18 rfl rfl
theorem xim_X5_link : (.instanceMethod yX5_link : Cond) ∈ XT := xt2 19 rfl rfl
theorem xse_X5_link : (.selects RX5 yX5_link yX5_link : Cond) ∈ XT := xt2 20 rfl rfl
theorem xco_X5_link : (.code yX5_link cX5_link 3 (some .int) : Cond) ∈ XT := xt2 21 rfl rfl
theorem xml_X5_68 : (.methodLink RX5 68 yX1_has : Cond) ∈ XT := xt2 22 rfl rfl
theorem xim_X1_has : (.instanceMethod yX1_has : Cond) ∈ XT := xt2 23 rfl rfl
theorem xse_X1_has : (.selects RX1 yX1_has yX1_has : Cond) ∈ XT := xt2 24 rfl rfl
theorem xco_X1_has : (.code yX1_has cX1_has 2 (some .boolean) : Cond) ∈ XT := xt2 25 rfl rfl
theorem xml_X5_75 : (.methodLink RX5 75 yX1_isCrowded : Cond) ∈ XT := xt2 26 rfl rfl
theorem xim_X1_isCrowded : (.instanceMethod yX1_isCrowded : Cond) ∈ XT := xt2 27 rfl rfl
theorem xse_X1_isCrowded : (.selects RX1 yX1_isCrowded yX1_isCrowded : Cond) ∈ XT := xt2 28 rfl rfl
theorem xco_X1_isCrowded : (.code yX1_isCrowded cX1_isCrowded 2 (some .boolean) : Cond) ∈ XT := xt2 29 rfl rfl
theorem xml_X5_78 : (.methodLink RX5 78 yX1_areLinked : Cond) ∈ XT := xt2 30 rfl rfl
theorem xim_X1_areLinked : (.instanceMethod yX1_areLinked : Cond) ∈ XT := xt2 31 rfl rfl
theorem xse_X1_areLinked : (.selects RX1 yX1_areLinked yX1_areLinked : Cond) ∈ XT := xt2 32 rfl rfl
theorem xco_X1_areLinked : (.code yX1_areLinked cX1_areLinked 4 (some .boolean) : Cond) ∈ XT := xt2 33 rfl rfl
theorem xml_X5_82 : (.methodLink RX5 82 yX1_addLink : Cond) ∈ XT := xt2 34 rfl rfl
theorem xim_X1_addLink : (.instanceMethod yX1_addLink : Cond) ∈ XT := xt2 35 rfl rfl
theorem xse_X1_addLink : (.selects RX1 yX1_addLink yX1_addLink : Cond) ∈ XT := xt2 36 rfl rfl
theorem xco_X1_addLink : (.code yX1_addLink cX1_addLink 3 none : Cond) ∈ XT := xt2 37 rfl rfl
theorem xml_X1_42 : (.methodLink RX1 42 yX1_addNeighbour : Cond) ∈ XT := xt2 38 rfl rfl
theorem xim_X1_addNeighbour : (.instanceMethod yX1_addNeighbour : Cond) ∈ XT := xt2 40 rfl rfl
theorem xco_X1_addNeighbour : (.code yX1_addNeighbour cX1_addNeighbour 5 none : Cond) ∈ XT := xt2 41 rfl rfl
theorem xml_L_22 : (.methodLink RL 22 yX5_kind : Cond) ∈ XT := xt2 42 rfl rfl
theorem xim_X5_kind : (.instanceMethod yX5_kind : Cond) ∈ XT := xt2 43 rfl rfl
theorem xse_X5_kind : (.selects RX5 yX5_kind yX5_kind : Cond) ∈ XT := xt2 44 rfl rfl
theorem xco_X5_kind : (.code yX5_kind cX5_kind 4 (some .int) : Cond) ∈ XT := xt2 45 rfl rfl
theorem xml_L_27 : (.methodLink RL 27 yX5_hold : Cond) ∈ XT := xt2 46 rfl rfl
theorem xim_X5_hold : (.instanceMethod yX5_hold : Cond) ∈ XT := xt2 47 rfl rfl
theorem xse_X5_hold : (.selects RX5 yX5_hold yX5_hold : Cond) ∈ XT := xt2 48 rfl rfl
theorem xco_X5_hold : (.code yX5_hold cX5_hold 4 (some .int) : Cond) ∈ XT := xt2 49 rfl rfl
theorem xml_L_31 : (.methodLink RL 31 yX5_good : Cond) ∈ XT := xt2 50 rfl rfl
theorem xim_X5_good : (.instanceMethod yX5_good : Cond) ∈ XT := xt2 51 rfl rfl
theorem xse_X5_good : (.selects RX5 yX5_good yX5_good : Cond) ∈ XT := xt2 52 rfl rfl
theorem xco_X5_good : (.code yX5_good cX5_good 1 (some .int) : Cond) ∈ XT := xt2 53 rfl rfl
theorem xml_L_36 : (.methodLink RL 36 yX5_highest : Cond) ∈ XT := xt2 54 rfl rfl
theorem xim_X5_highest : (.instanceMethod yX5_highest : Cond) ∈ XT := xt2 55 rfl rfl
theorem xse_X5_highest : (.selects RX5 yX5_highest yX5_highest : Cond) ∈ XT := xt2 56 rfl rfl
theorem xco_X5_highest : (.code yX5_highest cX5_highest 2 (some .int) : Cond) ∈ XT := xt2 57 rfl rfl
theorem xml_L_41 : (.methodLink RL 41 yX5_lowest : Cond) ∈ XT := xt2 58 rfl rfl
theorem xim_X5_lowest : (.instanceMethod yX5_lowest : Cond) ∈ XT := xt2 59 rfl rfl
theorem xse_X5_lowest : (.selects RX5 yX5_lowest yX5_lowest : Cond) ∈ XT := xt2 60 rfl rfl
theorem xco_X5_lowest : (.code yX5_lowest cX5_lowest 2 (some .int) : Cond) ∈ XT := xt2 61 rfl rfl
theorem xml_L_45 : (.methodLink RL 45 yX5_at : Cond) ∈ XT := xt2 62 rfl rfl
theorem xim_X5_at : (.instanceMethod yX5_at : Cond) ∈ XT := xt2 63 rfl rfl
theorem xse_X5_at : (.selects RX5 yX5_at yX5_at : Cond) ∈ XT := xt2 64 rfl rfl
theorem xco_X5_at : (.code yX5_at cX5_at 2 (some .int) : Cond) ∈ XT := xt2 65 rfl rfl
theorem xml_L_49 : (.methodLink RL 49 yX5_put : Cond) ∈ XT := xt2 66 rfl rfl
theorem xim_X5_put : (.instanceMethod yX5_put : Cond) ∈ XT := xt2 67 rfl rfl
theorem xse_X5_put : (.selects RX5 yX5_put yX5_put : Cond) ∈ XT := xt2 68 rfl rfl
theorem xco_X5_put : (.code yX5_put cX5_put 4 (some .int) : Cond) ∈ XT := xt2 69 rfl rfl
theorem xml_X5_111 : (.methodLink RX5 111 yX2_isAllowed : Cond) ∈ XT := xt2 70 rfl rfl
theorem xim_X2_isAllowed : (.instanceMethod yX2_isAllowed : Cond) ∈ XT := xt2 71 rfl rfl
theorem xse_X2_isAllowed : (.selects RX2 yX2_isAllowed yX2_isAllowed : Cond) ∈ XT := xt2 72 rfl rfl
theorem xco_X2_isAllowed : (.code yX2_isAllowed cX2_isAllowed 3 (some .boolean) : Cond) ∈ XT := xt2 73 rfl rfl
theorem xml_X2_58 : (.methodLink RX2 58 yX2_placeWeight : Cond) ∈ XT := xt2 74 rfl rfl
theorem xim_X2_placeWeight : (.instanceMethod yX2_placeWeight : Cond) ∈ XT := xt2 75 rfl rfl
theorem xse_X2_placeWeight : (.selects RX2 yX2_placeWeight yX2_placeWeight : Cond) ∈ XT := xt2 76 rfl rfl
theorem xco_X2_placeWeight : (.code yX2_placeWeight cX2_placeWeight 3 (some .int) : Cond) ∈ XT := xt2 77 rfl rfl
theorem xml_X2_71 : (.methodLink RX2 71 yX2_linkWeight : Cond) ∈ XT := xt2 78 rfl rfl
theorem xim_X2_linkWeight : (.instanceMethod yX2_linkWeight : Cond) ∈ XT := xt2 79 rfl rfl
theorem xse_X2_linkWeight : (.selects RX2 yX2_linkWeight yX2_linkWeight : Cond) ∈ XT := xt2 80 rfl rfl
theorem xco_X2_linkWeight : (.code yX2_linkWeight cX2_linkWeight 3 (some .int) : Cond) ∈ XT := xt2 81 rfl rfl
theorem xml_L_53 : (.methodLink RL 53 yX5_take : Cond) ∈ XT := xt2 82 rfl rfl
theorem xim_X5_take : (.instanceMethod yX5_take : Cond) ∈ XT := xt2 83 rfl rfl
theorem xse_X5_take : (.selects RX5 yX5_take yX5_take : Cond) ∈ XT := xt2 84 rfl rfl
theorem xco_X5_take : (.code yX5_take cX5_take 2 (some .int) : Cond) ∈ XT := xt2 85 rfl rfl
theorem xml_X5_121 : (.methodLink RX5 121 yX5_copyRow : Cond) ∈ XT := xt2 86 rfl rfl
theorem xst_X5_copyRow : (.static yX5_copyRow : Cond) ∈ XT := xt2 87 rfl rfl
theorem xco_X5_copyRow : (.code yX5_copyRow cX5_copyRow 2 none : Cond) ∈ XT := xt2 88 rfl rfl
theorem xml_X5_207 : (.methodLink RX5 207 arraycopyName : Cond) ∈ XT := xt2 89 rfl rfl
theorem xst_J10_copy : (.static arraycopyName : Cond) ∈ XT := xt2 90 rfl rfl
theorem xna_J10_copy : (.native arraycopyName : Cond) ∈ XT := xt2 91 rfl rfl
theorem xml_L_57 : (.methodLink RL 57 yX5_seed : Cond) ∈ XT := xt2 92 rfl rfl
theorem xim_X5_seed : (.instanceMethod yX5_seed : Cond) ∈ XT := xt2 93 rfl rfl
theorem xse_X5_seed : (.selects RX5 yX5_seed yX5_seed : Cond) ∈ XT := xt2 94 rfl rfl
theorem xco_X5_seed : (.code yX5_seed cX5_seed 3 (some .int) : Cond) ∈ XT := xt2 95 rfl rfl
theorem xml_L_61 : (.methodLink RL 61 yX5_tick : Cond) ∈ XT := xt2 96 rfl rfl
theorem xim_X5_tick : (.instanceMethod yX5_tick : Cond) ∈ XT := xt2 97 rfl rfl
theorem xse_X5_tick : (.selects RX5 yX5_tick yX5_tick : Cond) ∈ XT := xt2 98 rfl rfl
theorem xco_X5_tick : (.code yX5_tick cX5_tick 4 (some .int) : Cond) ∈ XT := xt2 99 rfl rfl
theorem xml_X5_125 : (.methodLink RX5 125 yX4_mixed : Cond) ∈ XT := xt2 100 rfl rfl
theorem xst_X4_mixed : (.static yX4_mixed : Cond) ∈ XT := xt2 101 rfl rfl
theorem xco_X4_mixed : (.code yX4_mixed cX4_mixed 3 (some .int) : Cond) ∈ XT := xt2 102 rfl rfl
theorem xcn_X4_23 : (.constant RX4 23 (1103515245) : Cond) ∈ XT := xt2 103 rfl rfl
theorem xcn_X4_24 : (.constant RX4 24 (1013904223) : Cond) ∈ XT := xt2 104 rfl rfl
theorem xcn_X4_25 : (.constant RX4 25 (739982445) : Cond) ∈ XT := xt2 105 rfl rfl
theorem xcn_X4_26 : (.constant RX4 26 (695872825) : Cond) ∈ XT := xt2 106 rfl rfl
theorem xml_X5_128 : (.methodLink RX5 128 yX4_placeOf : Cond) ∈ XT := xt2 107 rfl rfl
theorem xim_X4_placeOf : (.instanceMethod yX4_placeOf : Cond) ∈ XT := xt2 108 rfl rfl
theorem xse_X4_placeOf : (.selects RX4 yX4_placeOf yX4_placeOf : Cond) ∈ XT := xt2 109 rfl rfl
theorem xco_X4_placeOf : (.code yX4_placeOf cX4_placeOf 2 (some .int) : Cond) ∈ XT := xt2 110 rfl rfl
theorem xml_X5_132 : (.methodLink RX5 132 yX4_lotOf : Cond) ∈ XT := xt2 111 rfl rfl
theorem xst_X4_lotOf : (.static yX4_lotOf : Cond) ∈ XT := xt2 112 rfl rfl
theorem xco_X4_lotOf : (.code yX4_lotOf cX4_lotOf 1 (some .int) : Cond) ∈ XT := xt2 113 rfl rfl
theorem xcn_X4_27 : (.constant RX4 27 (65535) : Cond) ∈ XT := xt2 114 rfl rfl
theorem xml_L_65 : (.methodLink RL 65 yX5_run : Cond) ∈ XT := xt2 115 rfl rfl
theorem xim_X5_run : (.instanceMethod yX5_run : Cond) ∈ XT := xt2 116 rfl rfl
theorem xse_X5_run : (.selects RX5 yX5_run yX5_run : Cond) ∈ XT := xt2 117 rfl rfl
theorem xco_X5_run : (.code yX5_run cX5_run 7 (some .int) : Cond) ∈ XT := xt2 118 rfl rfl
theorem xcn_X5_135 : (.constantLong RX5 135 (20000) : Cond) ∈ XT := xt2 119 rfl rfl
theorem xml_X5_137 : (.methodLink RX5 137 yX4_changes : Cond) ∈ XT := xt2 120 rfl rfl
theorem xim_X4_changes : (.instanceMethod yX4_changes : Cond) ∈ XT := xt2 121 rfl rfl
theorem xse_X4_changes : (.selects RX4 yX4_changes yX4_changes : Cond) ∈ XT := xt2 122 rfl rfl
theorem xco_X4_changes : (.code yX4_changes cX4_changes 7 (some .boolean) : Cond) ∈ XT := xt2 123 rfl rfl
theorem xml_X4_34 : (.methodLink RX4 34 yX4_mixed : Cond) ∈ XT := xt2 124 rfl rfl
theorem xml_X4_38 : (.methodLink RX4 38 yX4_placeOf : Cond) ∈ XT := xt2 125 rfl rfl
theorem xml_X4_42 : (.methodLink RX4 42 yX4_lotOf : Cond) ∈ XT := xt2 126 rfl rfl
theorem xml_X4_45 : (.methodLink RX4 45 yX4_chosen : Cond) ∈ XT := xt2 127 rfl rfl
theorem xim_X4_chosen : (.instanceMethod yX4_chosen : Cond) ∈ XT := xt2 129 rfl rfl
theorem xco_X4_chosen : (.code yX4_chosen cX4_chosen 10 (some .int) : Cond) ∈ XT := xt2 130 rfl rfl
theorem xml_X4_49 : (.methodLink RX4 49 yX2_most : Cond) ∈ XT := xt2 131 rfl rfl
theorem xml_X4_54 : (.methodLink RX4 54 yX2_numberOfHeight : Cond) ∈ XT := xt2 132 rfl rfl
theorem xml_X4_57 : (.methodLink RX4 57 yX2_weightAround : Cond) ∈ XT := xt2 133 rfl rfl
theorem xim_X2_weightAround : (.instanceMethod yX2_weightAround : Cond) ∈ XT := xt2 134 rfl rfl
theorem xse_X2_weightAround : (.selects RX2 yX2_weightAround yX2_weightAround : Cond) ∈ XT := xt2 135 rfl rfl
theorem xco_X2_weightAround : (.code yX2_weightAround cX2_weightAround 8 (some .long) : Cond) ∈ XT := xt2 136 rfl rfl
theorem xcn_X4_61 : (.constantLong RX4 61 (65536) : Cond) ∈ XT := xt2 137 rfl rfl
theorem xml_L_69 : (.methodLink RL 69 yX5_gap : Cond) ∈ XT := xt2 138 rfl rfl
theorem xim_X5_gap : (.instanceMethod yX5_gap : Cond) ∈ XT := xt2 139 rfl rfl
theorem xse_X5_gap : (.selects RX5 yX5_gap yX5_gap : Cond) ∈ XT := xt2 140 rfl rfl
theorem xco_X5_gap : (.code yX5_gap cX5_gap 2 (some .int) : Cond) ∈ XT := xt2 141 rfl rfl
theorem xml_X5_141 : (.methodLink RX5 141 yX0_runBoth : Cond) ∈ XT := xt2 142 rfl rfl
theorem xim_X0_runBoth : (.instanceMethod yX0_runBoth : Cond) ∈ XT := xt2 143 rfl rfl
theorem xse_X0_runBoth : (.selects RX0 yX0_runBoth yX0_runBoth : Cond) ∈ XT := xt2 144 rfl rfl
theorem xco_X0_runBoth : (.code yX0_runBoth cX0_runBoth 5 none : Cond) ∈ XT := xt2 145 rfl rfl
theorem xml_X0_45 : (.methodLink RX0 45 yX0_areOneState : Cond) ∈ XT := xt2 147 rfl rfl
theorem xim_X0_areOneState : (.instanceMethod yX0_areOneState : Cond) ∈ XT := xt2 148 rfl rfl
theorem xse_X0_areOneState : (.selects RX0 yX0_areOneState yX0_areOneState : Cond) ∈ XT := xt2 149 rfl rfl
theorem xco_X0_areOneState : (.code yX0_areOneState cX0_areOneState 2 (some .boolean) : Cond) ∈ XT := xt2 150 rfl rfl
theorem xml_X0_53 : (.methodLink RX0 53 yX4_changes : Cond) ∈ XT := xt2 151 rfl rfl
theorem xml_X5_144 : (.methodLink RX5 144 yX0_unlikePlaces : Cond) ∈ XT := xt2 152 rfl rfl
theorem xim_X0_unlikePlaces : (.instanceMethod yX0_unlikePlaces : Cond) ∈ XT := xt2 153 rfl rfl
theorem xse_X0_unlikePlaces : (.selects RX0 yX0_unlikePlaces yX0_unlikePlaces : Cond) ∈ XT := xt2 154 rfl rfl
theorem xco_X0_unlikePlaces : (.code yX0_unlikePlaces cX0_unlikePlaces 3 (some .int) : Cond) ∈ XT := xt2 155 rfl rfl
theorem xml_L_73 : (.methodLink RL 73 yX5_draw : Cond) ∈ XT := xt2 156 rfl rfl
theorem xim_X5_draw : (.instanceMethod yX5_draw : Cond) ∈ XT := xt2 157 rfl rfl
theorem xse_X5_draw : (.selects RX5 yX5_draw yX5_draw : Cond) ∈ XT := xt2 158 rfl rfl
theorem xco_X5_draw : (.code yX5_draw cX5_draw 1 (some .int) : Cond) ∈ XT := xt2 159 rfl rfl
theorem xml_X5_148 : (.methodLink RX5 148 yX0_findsOne : Cond) ∈ XT := xt2 160 rfl rfl
theorem xim_X0_findsOne : (.instanceMethod yX0_findsOne : Cond) ∈ XT := xt2 161 rfl rfl
theorem xse_X0_findsOne : (.selects RX0 yX0_findsOne yX0_findsOne : Cond) ∈ XT := xt2 162 rfl rfl
theorem xco_X0_findsOne : (.code yX0_findsOne cX0_findsOne 3 (some .boolean) : Cond) ∈ XT := xt2 163 rfl rfl
theorem xml_X0_64 : (.methodLink RX0 64 yX0_runBoth : Cond) ∈ XT := xt2 164 rfl rfl
theorem xml_X5_151 : (.methodLink RX5 151 yX0_keep : Cond) ∈ XT := xt2 165 rfl rfl
theorem xim_X0_keep : (.instanceMethod yX0_keep : Cond) ∈ XT := xt2 166 rfl rfl
theorem xse_X0_keep : (.selects RX0 yX0_keep yX0_keep : Cond) ∈ XT := xt2 167 rfl rfl
theorem xco_X0_keep : (.code yX0_keep cX0_keep 1 none : Cond) ∈ XT := xt2 168 rfl rfl
theorem xml_L_77 : (.methodLink RL 77 yX5_drawn : Cond) ∈ XT := xt2 169 rfl rfl
theorem xim_X5_drawn : (.instanceMethod yX5_drawn : Cond) ∈ XT := xt2 170 rfl rfl
theorem xse_X5_drawn : (.selects RX5 yX5_drawn yX5_drawn : Cond) ∈ XT := xt2 171 rfl rfl
theorem xco_X5_drawn : (.code yX5_drawn cX5_drawn 2 (some .int) : Cond) ∈ XT := xt2 172 rfl rfl
theorem xml_L_81 : (.methodLink RL 81 yX5_met : Cond) ∈ XT := xt2 173 rfl rfl
theorem xim_X5_met : (.instanceMethod yX5_met : Cond) ∈ XT := xt2 174 rfl rfl
theorem xse_X5_met : (.selects RX5 yX5_met yX5_met : Cond) ∈ XT := xt2 175 rfl rfl
theorem xco_X5_met : (.code yX5_met cX5_met 1 (some .int) : Cond) ∈ XT := xt2 176 rfl rfl
theorem xml_L_85 : (.methodLink RL 85 yX5_tally : Cond) ∈ XT := xt2 177 rfl rfl
theorem xim_X5_tally : (.instanceMethod yX5_tally : Cond) ∈ XT := xt2 178 rfl rfl
theorem xse_X5_tally : (.selects RX5 yX5_tally yX5_tally : Cond) ∈ XT := xt2 179 rfl rfl
theorem xco_X5_tally : (.code yX5_tally cX5_tally 6 (some .int) : Cond) ∈ XT := xt2 180 rfl rfl
theorem xml_L_89 : (.methodLink RL 89 yX5_many : Cond) ∈ XT := xt2 181 rfl rfl
theorem xim_X5_many : (.instanceMethod yX5_many : Cond) ∈ XT := xt2 182 rfl rfl
theorem xse_X5_many : (.selects RX5 yX5_many yX5_many : Cond) ∈ XT := xt2 183 rfl rfl
theorem xco_X5_many : (.code yX5_many cX5_many 2 (some .int) : Cond) ∈ XT := xt2 184 rfl rfl
theorem xml_X5_161 : (.methodLink RX5 161 yX5_refusalUnlessSmall : Cond) ∈ XT := xt2 185 rfl rfl
theorem xim_X5_refusalUnlessSmall : (.instanceMethod yX5_refusalUnlessSmall : Cond) ∈ XT := xt2 187 rfl rfl
theorem xco_X5_refusalUnlessSmall : (.code yX5_refusalUnlessSmall cX5_refusalUnlessSmall 1 (some .int) : Cond) ∈ XT := xt2 188 rfl rfl
theorem xml_X5_203 : (.methodLink RX5 203 yX3_isSmall : Cond) ∈ XT := xt2 189 rfl rfl
theorem xim_X3_isSmall : (.instanceMethod yX3_isSmall : Cond) ∈ XT := xt2 190 rfl rfl
theorem xse_X3_isSmall : (.selects RX3 yX3_isSmall yX3_isSmall : Cond) ∈ XT := xt2 191 rfl rfl
theorem xco_X3_isSmall : (.code yX3_isSmall cX3_isSmall 1 (some .boolean) : Cond) ∈ XT := xt2 192 rfl rfl
theorem xml_X3_29 : (.methodLink RX3 29 yX3_states : Cond) ∈ XT := xt2 193 rfl rfl
theorem xim_X3_states : (.instanceMethod yX3_states : Cond) ∈ XT := xt2 195 rfl rfl
theorem xco_X3_states : (.code yX3_states cX3_states 4 (some .long) : Cond) ∈ XT := xt2 196 rfl rfl
theorem xml_X3_38 : (.methodLink RX3 38 yX2_most : Cond) ∈ XT := xt2 197 rfl rfl
theorem xcn_X3_33 : (.constantLong RX3 33 (5000) : Cond) ∈ XT := xt2 198 rfl rfl
theorem xml_X5_164 : (.methodLink RX5 164 yX3_sumOf : Cond) ∈ XT := xt2 199 rfl rfl
theorem xim_X3_sumOf : (.instanceMethod yX3_sumOf : Cond) ∈ XT := xt2 200 rfl rfl
theorem xse_X3_sumOf : (.selects RX3 yX3_sumOf yX3_sumOf : Cond) ∈ XT := xt2 201 rfl rfl
theorem xco_X3_sumOf : (.code yX3_sumOf cX3_sumOf 9 (some .long) : Cond) ∈ XT := xt2 202 rfl rfl
theorem xml_X3_44 : (.methodLink RX3 44 yX3_termOf : Cond) ∈ XT := xt2 203 rfl rfl
theorem xim_X3_termOf : (.instanceMethod yX3_termOf : Cond) ∈ XT := xt2 205 rfl rfl
theorem xco_X3_termOf : (.code yX3_termOf cX3_termOf 6 (some .long) : Cond) ∈ XT := xt2 206 rfl rfl
theorem xml_X3_51 : (.methodLink RX3 51 yX2_weightOf : Cond) ∈ XT := xt2 207 rfl rfl
theorem xim_X2_weightOf : (.instanceMethod yX2_weightOf : Cond) ∈ XT := xt2 208 rfl rfl
theorem xse_X2_weightOf : (.selects RX2 yX2_weightOf yX2_weightOf : Cond) ∈ XT := xt2 209 rfl rfl
theorem xco_X2_weightOf : (.code yX2_weightOf cX2_weightOf 5 (some .long) : Cond) ∈ XT := xt2 210 rfl rfl
theorem xml_X3_48 : (.methodLink RX3 48 yX3_stepOn : Cond) ∈ XT := xt2 211 rfl rfl
theorem xim_X3_stepOn : (.instanceMethod yX3_stepOn : Cond) ∈ XT := xt2 213 rfl rfl
theorem xco_X3_stepOn : (.code yX3_stepOn cX3_stepOn 2 none : Cond) ∈ XT := xt2 214 rfl rfl
theorem xml_L_93 : (.methodLink RL 93 yX5_all : Cond) ∈ XT := xt2 215 rfl rfl
theorem xim_X5_all : (.instanceMethod yX5_all : Cond) ∈ XT := xt2 216 rfl rfl
theorem xse_X5_all : (.selects RX5 yX5_all yX5_all : Cond) ∈ XT := xt2 217 rfl rfl
theorem xco_X5_all : (.code yX5_all cX5_all 2 (some .long) : Cond) ∈ XT := xt2 218 rfl rfl
theorem xml_L_98 : (.methodLink RL 98 yX5_chance : Cond) ∈ XT := xt2 219 rfl rfl
theorem xim_X5_chance : (.instanceMethod yX5_chance : Cond) ∈ XT := xt2 220 rfl rfl
theorem xse_X5_chance : (.selects RX5 yX5_chance yX5_chance : Cond) ∈ XT := xt2 221 rfl rfl
theorem xco_X5_chance : (.code yX5_chance cX5_chance 3 (some .long) : Cond) ∈ XT := xt2 222 rfl rfl
theorem xml_X5_168 : (.methodLink RX5 168 yX5_isNoPart : Cond) ∈ XT := xt2 223 rfl rfl
theorem xst_X5_isNoPart : (.static yX5_isNoPart : Cond) ∈ XT := xt2 224 rfl rfl
theorem xco_X5_isNoPart : (.code yX5_isNoPart cX5_isNoPart 1 (some .boolean) : Cond) ∈ XT := xt2 225 rfl rfl
theorem xcn_X5_171 : (.constantLong RX5 171 (-2) : Cond) ∈ XT := xt2 226 rfl rfl
theorem xml_X5_173 : (.methodLink RX5 173 yX2_weightOf : Cond) ∈ XT := xt2 227 rfl rfl
theorem xml_X5_177 : (.methodLink RX5 177 yX3_share : Cond) ∈ XT := xt2 228 rfl rfl
theorem xim_X3_share : (.instanceMethod yX3_share : Cond) ∈ XT := xt2 229 rfl rfl
theorem xse_X3_share : (.selects RX3 yX3_share yX3_share : Cond) ∈ XT := xt2 230 rfl rfl
theorem xco_X3_share : (.code yX3_share cX3_share 8 (some .long) : Cond) ∈ XT := xt2 231 rfl rfl
theorem xml_X3_55 : (.methodLink RX3 55 yX3_sumOf : Cond) ∈ XT := xt2 232 rfl rfl
theorem xml_X3_58 : (.methodLink RX3 58 yX3_commonDivisor : Cond) ∈ XT := xt2 233 rfl rfl
theorem xst_X3_commonDivisor : (.static yX3_commonDivisor : Cond) ∈ XT := xt2 234 rfl rfl
theorem xco_X3_commonDivisor : (.code yX3_commonDivisor cX3_commonDivisor 7 (some .long) : Cond) ∈ XT := xt2 235 rfl rfl
theorem xml_L_103 : (.methodLink RL 103 yX5_mean : Cond) ∈ XT := xt2 236 rfl rfl
theorem xim_X5_mean : (.instanceMethod yX5_mean : Cond) ∈ XT := xt2 237 rfl rfl
theorem xse_X5_mean : (.selects RX5 yX5_mean yX5_mean : Cond) ∈ XT := xt2 238 rfl rfl
theorem xco_X5_mean : (.code yX5_mean cX5_mean 4 (some .long) : Cond) ∈ XT := xt2 239 rfl rfl
theorem xcn_X5_181 : (.constantLong RX5 181 (-1) : Cond) ∈ XT := xt3 0 rfl rfl
theorem xml_L_108 : (.methodLink RL 108 yX5_alike : Cond) ∈ XT := xt3 1 rfl rfl
theorem xim_X5_alike : (.instanceMethod yX5_alike : Cond) ∈ XT := xt3 2 rfl rfl
theorem xse_X5_alike : (.selects RX5 yX5_alike yX5_alike : Cond) ∈ XT := xt3 3 rfl rfl
theorem xco_X5_alike : (.code yX5_alike cX5_alike 5 (some .long) : Cond) ∈ XT := xt3 4 rfl rfl
theorem xml_L_113 : (.methodLink RL 113 yX5_told : Cond) ∈ XT := xt3 5 rfl rfl
theorem xim_X5_told : (.instanceMethod yX5_told : Cond) ∈ XT := xt3 6 rfl rfl
theorem xse_X5_told : (.selects RX5 yX5_told yX5_told : Cond) ∈ XT := xt3 7 rfl rfl
theorem xco_X5_told : (.code yX5_told cX5_told 2 (some .int) : Cond) ∈ XT := xt3 8 rfl rfl
theorem xml_X5_183 : (.methodLink RX5 183 yX1_likeLinks : Cond) ∈ XT := xt3 9 rfl rfl
theorem xim_X1_likeLinks : (.instanceMethod yX1_likeLinks : Cond) ∈ XT := xt3 10 rfl rfl
theorem xse_X1_likeLinks : (.selects RX1 yX1_likeLinks yX1_likeLinks : Cond) ∈ XT := xt3 11 rfl rfl
theorem xco_X1_likeLinks : (.code yX1_likeLinks cX1_likeLinks 4 (some .int) : Cond) ∈ XT := xt3 12 rfl rfl
theorem xcn_X5_189 : (.constant RX5 189 (-2147483648) : Cond) ∈ XT := xt3 13 rfl rfl
theorem xml_L_117 : (.methodLink RL 117 yX5_about : Cond) ∈ XT := xt3 14 rfl rfl
theorem xim_X5_about : (.instanceMethod yX5_about : Cond) ∈ XT := xt3 15 rfl rfl
theorem xse_X5_about : (.selects RX5 yX5_about yX5_about : Cond) ∈ XT := xt3 16 rfl rfl
theorem xco_X5_about : (.code yX5_about cX5_about 3 (some .int) : Cond) ∈ XT := xt3 17 rfl rfl
theorem xcl_L_10 : (.classLink RL 10 RX6 : Cond) ∈ XT := xt3 18 rfl rfl
theorem xit_X6 : (.instantiable RX6 21 : Cond) ∈ XT := xt3 19 rfl rfl
theorem xml_L_12 : (.methodLink RL 12 yX6_init : Cond) ∈ XT := xt3 20 rfl rfl
theorem xim_X6_init : (.instanceMethod yX6_init : Cond) ∈ XT := xt3 21 rfl rfl
theorem xco_X6_init : (.code yX6_init cX6_init 1 none : Cond) ∈ XT := xt3 22 rfl rfl
theorem xml_X6_1 : (.methodLink RX6 1 objectInit : Cond) ∈ XT := xt3 23 rfl rfl
theorem xfl_X6_53 : (.fieldLink RX6 53 "LongAgoDrawsModel" "places" "I" : Cond) ∈ XT := xt3 24 rfl rfl
theorem xfl_X6_7 : (.fieldLink RX6 7 "LongAgoDrawsModel" "top" "[I" : Cond) ∈ XT := xt3 25 rfl rfl
theorem xfl_X6_13 : (.fieldLink RX6 13 "LongAgoDrawsModel" "side" "[I" : Cond) ∈ XT := xt3 26 rfl rfl
theorem xfl_X6_16 : (.fieldLink RX6 16 "LongAgoDrawsModel" "held" "[I" : Cond) ∈ XT := xt3 27 rfl rfl
theorem xfl_X6_19 : (.fieldLink RX6 19 "LongAgoDrawsModel" "degree" "[I" : Cond) ∈ XT := xt3 28 rfl rfl
theorem xfl_X6_22 : (.fieldLink RX6 22 "LongAgoDrawsModel" "near" "[I" : Cond) ∈ XT := xt3 29 rfl rfl
theorem xfl_X6_79 : (.fieldLink RX6 79 "LongAgoDrawsModel" "links" "I" : Cond) ∈ XT := xt3 30 rfl rfl
theorem xfl_X6_25 : (.fieldLink RX6 25 "LongAgoDrawsModel" "linkA" "[I" : Cond) ∈ XT := xt3 31 rfl rfl
theorem xfl_X6_28 : (.fieldLink RX6 28 "LongAgoDrawsModel" "linkB" "[I" : Cond) ∈ XT := xt3 32 rfl rfl
theorem xfl_X6_90 : (.fieldLink RX6 90 "LongAgoDrawsModel" "kind" "I" : Cond) ∈ XT := xt3 33 rfl rfl
theorem xfl_X6_31 : (.fieldLink RX6 31 "LongAgoDrawsModel" "u" "I" : Cond) ∈ XT := xt3 34 rfl rfl
theorem xfl_X6_35 : (.fieldLink RX6 35 "LongAgoDrawsModel" "v" "I" : Cond) ∈ XT := xt3 35 rfl rfl
theorem xfl_X6_104 : (.fieldLink RX6 104 "LongAgoDrawsModel" "seed" "I" : Cond) ∈ XT := xt3 36 rfl rfl
theorem xfl_X6_38 : (.fieldLink RX6 38 "LongAgoDrawsModel" "hand" "[I" : Cond) ∈ XT := xt3 37 rfl rfl
theorem xfl_X6_41 : (.fieldLink RX6 41 "LongAgoDrawsModel" "high" "[I" : Cond) ∈ XT := xt3 38 rfl rfl
theorem xfl_X6_44 : (.fieldLink RX6 44 "LongAgoDrawsModel" "low" "[I" : Cond) ∈ XT := xt3 39 rfl rfl
theorem xfl_X6_47 : (.fieldLink RX6 47 "LongAgoDrawsModel" "drawn" "[I" : Cond) ∈ XT := xt3 40 rfl rfl
theorem xfl_X6_50 : (.fieldLink RX6 50 "LongAgoDrawsModel" "gone" "[I" : Cond) ∈ XT := xt3 41 rfl rfl
theorem xfl_X6_60 : (.fieldLink RX6 60 "LongAgoDrawsModel" "isDrawn" "Z" : Cond) ∈ XT := xt3 42 rfl rfl
theorem xfl_X6_141 : (.fieldLink RX6 141 "LongAgoDrawsModel" "met" "I" : Cond) ∈ XT := xt3 43 rfl rfl
theorem xfl_X6_132 : (.fieldLink RX6 132 "LongAgoDrawsModel" "firstMet" "I" : Cond) ∈ XT := xt3 44 rfl rfl
theorem xla_X6_places : (.lays RX6 "LongAgoDrawsModel" "places" "I" : Cond) ∈ XT := xt3 45 rfl rfl
theorem xla_X6_top : (.laysFinal RX6 "LongAgoDrawsModel" "top" "[I" : Cond) ∈ XT := xt3 47 rfl rfl
theorem xla_X6_side : (.laysFinal RX6 "LongAgoDrawsModel" "side" "[I" : Cond) ∈ XT := xt3 49 rfl rfl
theorem xla_X6_held : (.laysFinal RX6 "LongAgoDrawsModel" "held" "[I" : Cond) ∈ XT := xt3 51 rfl rfl
theorem xla_X6_degree : (.laysFinal RX6 "LongAgoDrawsModel" "degree" "[I" : Cond) ∈ XT := xt3 53 rfl rfl
theorem xla_X6_near : (.laysFinal RX6 "LongAgoDrawsModel" "near" "[I" : Cond) ∈ XT := xt3 55 rfl rfl
theorem xla_X6_links : (.lays RX6 "LongAgoDrawsModel" "links" "I" : Cond) ∈ XT := xt3 57 rfl rfl
theorem xla_X6_linkA : (.laysFinal RX6 "LongAgoDrawsModel" "linkA" "[I" : Cond) ∈ XT := xt3 59 rfl rfl
theorem xla_X6_linkB : (.laysFinal RX6 "LongAgoDrawsModel" "linkB" "[I" : Cond) ∈ XT := xt3 61 rfl rfl
theorem xla_X6_kind : (.lays RX6 "LongAgoDrawsModel" "kind" "I" : Cond) ∈ XT := xt3 63 rfl rfl
theorem xla_X6_u : (.lays RX6 "LongAgoDrawsModel" "u" "I" : Cond) ∈ XT := xt3 65 rfl rfl
theorem xla_X6_v : (.lays RX6 "LongAgoDrawsModel" "v" "I" : Cond) ∈ XT := xt3 67 rfl rfl
theorem xla_X6_seed : (.lays RX6 "LongAgoDrawsModel" "seed" "I" : Cond) ∈ XT := xt3 69 rfl rfl
theorem xla_X6_hand : (.laysFinal RX6 "LongAgoDrawsModel" "hand" "[I" : Cond) ∈ XT := xt3 71 rfl rfl
theorem xla_X6_high : (.laysFinal RX6 "LongAgoDrawsModel" "high" "[I" : Cond) ∈ XT := xt3 73 rfl rfl
theorem xla_X6_low : (.laysFinal RX6 "LongAgoDrawsModel" "low" "[I" : Cond) ∈ XT := xt3 75 rfl rfl
theorem xla_X6_drawn : (.laysFinal RX6 "LongAgoDrawsModel" "drawn" "[I" : Cond) ∈ XT := xt3 77 rfl rfl
theorem xla_X6_gone : (.laysFinal RX6 "LongAgoDrawsModel" "gone" "[I" : Cond) ∈ XT := xt3 79 rfl rfl
theorem xla_X6_isDrawn : (.lays RX6 "LongAgoDrawsModel" "isDrawn" "Z" : Cond) ∈ XT := xt3 81 rfl rfl
theorem xla_X6_met : (.lays RX6 "LongAgoDrawsModel" "met" "I" : Cond) ∈ XT := xt3 83 rfl rfl
theorem xla_X6_firstMet : (.lays RX6 "LongAgoDrawsModel" "firstMet" "I" : Cond) ∈ XT := xt3 85 rfl rfl
theorem xml_L_17 : (.methodLink RL 17 yX6_place : Cond) ∈ XT := xt3 88 rfl rfl
theorem xim_X6_place : (.instanceMethod yX6_place : Cond) ∈ XT := xt3 89 rfl rfl
theorem xse_X6_place : (.selects RX6 yX6_place yX6_place : Cond) ∈ XT := xt3 90 rfl rfl
theorem xco_X6_place : (.code yX6_place cX6_place 3 (some .int) : Cond) ∈ XT := xt3 91 rfl rfl
theorem xml_X6_56 : (.methodLink RX6 56 yX6_in : Cond) ∈ XT := xt3 92 rfl rfl
theorem xst_X6_in : (.static yX6_in : Cond) ∈ XT := xt3 93 rfl rfl
theorem xco_X6_in : (.code yX6_in cX6_in 3 (some .boolean) : Cond) ∈ XT := xt3 94 rfl rfl
theorem xml_X6_72 : (.methodLink RX6 72 yX6_changed : Cond) ∈ XT := xt3 95 rfl rfl
theorem xim_X6_changed : (.instanceMethod yX6_changed : Cond) ∈ XT := xt3 97 rfl rfl
theorem xco_X6_changed : (.code yX6_changed cX6_changed 3 none : Cond) ∈ XT := xt3 98 rfl rfl
theorem xml_X6_64 : (.methodLink RX6 64 yX6_isGood : Cond) ∈ XT := xt3 99 rfl rfl
theorem xim_X6_isGood : (.instanceMethod yX6_isGood : Cond) ∈ XT := xt3 101 rfl rfl
theorem xco_X6_isGood : (.code yX6_isGood cX6_isGood 3 (some .boolean) : Cond) ∈ XT := xt3 102 rfl rfl
theorem xml_X6_93 : (.methodLink RX6 93 yX6_layHigh : Cond) ∈ XT := xt3 103 rfl rfl
theorem xim_X6_layHigh : (.instanceMethod yX6_layHigh : Cond) ∈ XT := xt3 105 rfl rfl
theorem xco_X6_layHigh : (.code yX6_layHigh cX6_layHigh 6 none : Cond) ∈ XT := xt3 106 rfl rfl
theorem xml_X6_68 : (.methodLink RX6 68 yX6_layLow : Cond) ∈ XT := xt3 107 rfl rfl
theorem xim_X6_layLow : (.instanceMethod yX6_layLow : Cond) ∈ XT := xt3 109 rfl rfl
theorem xco_X6_layLow : (.code yX6_layLow cX6_layLow 6 none : Cond) ∈ XT := xt3 110 rfl rfl
theorem xml_L_21 : (.methodLink RL 21 yX6_link : Cond) ∈ XT := xt3 111 rfl rfl
theorem xim_X6_link : (.instanceMethod yX6_link : Cond) ∈ XT := xt3 112 rfl rfl
theorem xse_X6_link : (.selects RX6 yX6_link yX6_link : Cond) ∈ XT := xt3 113 rfl rfl
theorem xco_X6_link : (.code yX6_link cX6_link 3 (some .int) : Cond) ∈ XT := xt3 114 rfl rfl
theorem xml_X6_75 : (.methodLink RX6 75 yX6_isPlace : Cond) ∈ XT := xt3 115 rfl rfl
theorem xim_X6_isPlace : (.instanceMethod yX6_isPlace : Cond) ∈ XT := xt3 117 rfl rfl
theorem xco_X6_isPlace : (.code yX6_isPlace cX6_isPlace 2 (some .boolean) : Cond) ∈ XT := xt3 118 rfl rfl
theorem xml_X6_82 : (.methodLink RX6 82 yX6_isLinked : Cond) ∈ XT := xt3 119 rfl rfl
theorem xim_X6_isLinked : (.instanceMethod yX6_isLinked : Cond) ∈ XT := xt3 121 rfl rfl
theorem xco_X6_isLinked : (.code yX6_isLinked cX6_isLinked 5 (some .boolean) : Cond) ∈ XT := xt3 122 rfl rfl
theorem xml_X6_86 : (.methodLink RX6 86 yX6_addNear : Cond) ∈ XT := xt3 123 rfl rfl
theorem xim_X6_addNear : (.instanceMethod yX6_addNear : Cond) ∈ XT := xt3 125 rfl rfl
theorem xco_X6_addNear : (.code yX6_addNear cX6_addNear 4 none : Cond) ∈ XT := xt3 126 rfl rfl
theorem xml_L_26 : (.methodLink RL 26 yX6_kind : Cond) ∈ XT := xt3 127 rfl rfl
theorem xim_X6_kind : (.instanceMethod yX6_kind : Cond) ∈ XT := xt3 128 rfl rfl
theorem xse_X6_kind : (.selects RX6 yX6_kind yX6_kind : Cond) ∈ XT := xt3 129 rfl rfl
theorem xco_X6_kind : (.code yX6_kind cX6_kind 4 (some .int) : Cond) ∈ XT := xt3 130 rfl rfl
theorem xml_L_30 : (.methodLink RL 30 yX6_hold : Cond) ∈ XT := xt3 131 rfl rfl
theorem xim_X6_hold : (.instanceMethod yX6_hold : Cond) ∈ XT := xt3 132 rfl rfl
theorem xse_X6_hold : (.selects RX6 yX6_hold yX6_hold : Cond) ∈ XT := xt3 133 rfl rfl
theorem xco_X6_hold : (.code yX6_hold cX6_hold 4 (some .int) : Cond) ∈ XT := xt3 134 rfl rfl
theorem xml_L_35 : (.methodLink RL 35 yX6_good : Cond) ∈ XT := xt3 135 rfl rfl
theorem xim_X6_good : (.instanceMethod yX6_good : Cond) ∈ XT := xt3 136 rfl rfl
theorem xse_X6_good : (.selects RX6 yX6_good yX6_good : Cond) ∈ XT := xt3 137 rfl rfl
theorem xco_X6_good : (.code yX6_good cX6_good 1 (some .int) : Cond) ∈ XT := xt3 138 rfl rfl
theorem xml_L_40 : (.methodLink RL 40 yX6_highest : Cond) ∈ XT := xt3 139 rfl rfl
theorem xim_X6_highest : (.instanceMethod yX6_highest : Cond) ∈ XT := xt3 140 rfl rfl
theorem xse_X6_highest : (.selects RX6 yX6_highest yX6_highest : Cond) ∈ XT := xt3 141 rfl rfl
theorem xco_X6_highest : (.code yX6_highest cX6_highest 2 (some .int) : Cond) ∈ XT := xt3 142 rfl rfl
theorem xml_L_44 : (.methodLink RL 44 yX6_lowest : Cond) ∈ XT := xt3 143 rfl rfl
theorem xim_X6_lowest : (.instanceMethod yX6_lowest : Cond) ∈ XT := xt3 144 rfl rfl
theorem xse_X6_lowest : (.selects RX6 yX6_lowest yX6_lowest : Cond) ∈ XT := xt3 145 rfl rfl
theorem xco_X6_lowest : (.code yX6_lowest cX6_lowest 2 (some .int) : Cond) ∈ XT := xt3 146 rfl rfl
theorem xml_L_48 : (.methodLink RL 48 yX6_at : Cond) ∈ XT := xt3 147 rfl rfl
theorem xim_X6_at : (.instanceMethod yX6_at : Cond) ∈ XT := xt3 148 rfl rfl
theorem xse_X6_at : (.selects RX6 yX6_at yX6_at : Cond) ∈ XT := xt3 149 rfl rfl
theorem xco_X6_at : (.code yX6_at cX6_at 2 (some .int) : Cond) ∈ XT := xt3 150 rfl rfl
theorem xml_L_52 : (.methodLink RL 52 yX6_put : Cond) ∈ XT := xt3 151 rfl rfl
theorem xim_X6_put : (.instanceMethod yX6_put : Cond) ∈ XT := xt3 152 rfl rfl
theorem xse_X6_put : (.selects RX6 yX6_put yX6_put : Cond) ∈ XT := xt3 153 rfl rfl
theorem xco_X6_put : (.code yX6_put cX6_put 4 (some .int) : Cond) ∈ XT := xt3 154 rfl rfl
theorem xml_X6_96 : (.methodLink RX6 96 yX6_isAllowed : Cond) ∈ XT := xt3 155 rfl rfl
theorem xim_X6_isAllowed : (.instanceMethod yX6_isAllowed : Cond) ∈ XT := xt3 157 rfl rfl
theorem xco_X6_isAllowed : (.code yX6_isAllowed cX6_isAllowed 6 (some .boolean) : Cond) ∈ XT := xt3 158 rfl rfl
theorem xml_L_56 : (.methodLink RL 56 yX6_take : Cond) ∈ XT := xt3 159 rfl rfl
theorem xim_X6_take : (.instanceMethod yX6_take : Cond) ∈ XT := xt3 160 rfl rfl
theorem xse_X6_take : (.selects RX6 yX6_take yX6_take : Cond) ∈ XT := xt3 161 rfl rfl
theorem xco_X6_take : (.code yX6_take cX6_take 2 (some .int) : Cond) ∈ XT := xt3 162 rfl rfl
theorem xml_X6_100 : (.methodLink RX6 100 yX6_copy : Cond) ∈ XT := xt3 163 rfl rfl
theorem xim_X6_copy : (.instanceMethod yX6_copy : Cond) ∈ XT := xt3 165 rfl rfl
theorem xco_X6_copy : (.code yX6_copy cX6_copy 4 none : Cond) ∈ XT := xt3 166 rfl rfl
theorem xml_L_60 : (.methodLink RL 60 yX6_seed : Cond) ∈ XT := xt3 167 rfl rfl
theorem xim_X6_seed : (.instanceMethod yX6_seed : Cond) ∈ XT := xt3 168 rfl rfl
theorem xse_X6_seed : (.selects RX6 yX6_seed yX6_seed : Cond) ∈ XT := xt3 169 rfl rfl
theorem xco_X6_seed : (.code yX6_seed cX6_seed 3 (some .int) : Cond) ∈ XT := xt3 170 rfl rfl
theorem xml_L_64 : (.methodLink RL 64 yX6_tick : Cond) ∈ XT := xt3 171 rfl rfl
theorem xim_X6_tick : (.instanceMethod yX6_tick : Cond) ∈ XT := xt3 172 rfl rfl
theorem xse_X6_tick : (.selects RX6 yX6_tick yX6_tick : Cond) ∈ XT := xt3 173 rfl rfl
theorem xco_X6_tick : (.code yX6_tick cX6_tick 4 (some .int) : Cond) ∈ XT := xt3 174 rfl rfl
theorem xml_X6_111 : (.methodLink RX6 111 yX6_mixed : Cond) ∈ XT := xt3 175 rfl rfl
theorem xim_X6_mixed : (.instanceMethod yX6_mixed : Cond) ∈ XT := xt3 177 rfl rfl
theorem xco_X6_mixed : (.code yX6_mixed cX6_mixed 3 (some .int) : Cond) ∈ XT := xt3 178 rfl rfl
theorem xcn_X6_107 : (.constant RX6 107 (1103515245) : Cond) ∈ XT := xt3 179 rfl rfl
theorem xcn_X6_108 : (.constant RX6 108 (1013904223) : Cond) ∈ XT := xt3 180 rfl rfl
theorem xcn_X6_109 : (.constant RX6 109 (739982445) : Cond) ∈ XT := xt3 181 rfl rfl
theorem xcn_X6_110 : (.constant RX6 110 (695872825) : Cond) ∈ XT := xt3 182 rfl rfl
theorem xcn_X6_115 : (.constant RX6 115 (65535) : Cond) ∈ XT := xt3 183 rfl rfl
theorem xml_L_68 : (.methodLink RL 68 yX6_run : Cond) ∈ XT := xt3 184 rfl rfl
theorem xim_X6_run : (.instanceMethod yX6_run : Cond) ∈ XT := xt3 185 rfl rfl
theorem xse_X6_run : (.selects RX6 yX6_run yX6_run : Cond) ∈ XT := xt3 186 rfl rfl
theorem xco_X6_run : (.code yX6_run cX6_run 5 (some .int) : Cond) ∈ XT := xt3 187 rfl rfl
theorem xcn_X6_122 : (.constantLong RX6 122 (20000) : Cond) ∈ XT := xt3 188 rfl rfl
theorem xml_X6_124 : (.methodLink RX6 124 yX6_tick1 : Cond) ∈ XT := xt3 189 rfl rfl
theorem xim_X6_tick1 : (.instanceMethod yX6_tick1 : Cond) ∈ XT := xt3 191 rfl rfl
theorem xco_X6_tick1 : (.code yX6_tick1 cX6_tick1 17 (some .boolean) : Cond) ∈ XT := xt3 192 rfl rfl
theorem xml_X6_116 : (.methodLink RX6 116 yX6_weightAt : Cond) ∈ XT := xt3 193 rfl rfl
theorem xim_X6_weightAt : (.instanceMethod yX6_weightAt : Cond) ∈ XT := xt3 195 rfl rfl
theorem xco_X6_weightAt : (.code yX6_weightAt cX6_weightAt 8 (some .long) : Cond) ∈ XT := xt3 196 rfl rfl
theorem xcn_X6_120 : (.constantLong RX6 120 (65536) : Cond) ∈ XT := xt3 197 rfl rfl
theorem xml_L_72 : (.methodLink RL 72 yX6_gap : Cond) ∈ XT := xt3 198 rfl rfl
theorem xim_X6_gap : (.instanceMethod yX6_gap : Cond) ∈ XT := xt3 199 rfl rfl
theorem xse_X6_gap : (.selects RX6 yX6_gap yX6_gap : Cond) ∈ XT := xt3 200 rfl rfl
theorem xco_X6_gap : (.code yX6_gap cX6_gap 2 (some .int) : Cond) ∈ XT := xt3 201 rfl rfl
theorem xml_X6_135 : (.methodLink RX6 135 yX6_meet : Cond) ∈ XT := xt3 202 rfl rfl
theorem xim_X6_meet : (.instanceMethod yX6_meet : Cond) ∈ XT := xt3 204 rfl rfl
theorem xco_X6_meet : (.code yX6_meet cX6_meet 5 (some .int) : Cond) ∈ XT := xt3 205 rfl rfl
theorem xml_X6_128 : (.methodLink RX6 128 yX6_unlike : Cond) ∈ XT := xt3 206 rfl rfl
theorem xim_X6_unlike : (.instanceMethod yX6_unlike : Cond) ∈ XT := xt3 208 rfl rfl
theorem xco_X6_unlike : (.code yX6_unlike cX6_unlike 3 (some .int) : Cond) ∈ XT := xt3 209 rfl rfl
theorem xml_L_76 : (.methodLink RL 76 yX6_draw : Cond) ∈ XT := xt3 210 rfl rfl
theorem xim_X6_draw : (.instanceMethod yX6_draw : Cond) ∈ XT := xt3 211 rfl rfl
theorem xse_X6_draw : (.selects RX6 yX6_draw yX6_draw : Cond) ∈ XT := xt3 212 rfl rfl
theorem xco_X6_draw : (.code yX6_draw cX6_draw 2 (some .int) : Cond) ∈ XT := xt3 213 rfl rfl
theorem xml_X6_138 : (.methodLink RX6 138 yX6_far : Cond) ∈ XT := xt3 214 rfl rfl
theorem xim_X6_far : (.instanceMethod yX6_far : Cond) ∈ XT := xt3 216 rfl rfl
theorem xco_X6_far : (.code yX6_far cX6_far 2 (some .int) : Cond) ∈ XT := xt3 217 rfl rfl
theorem xml_L_80 : (.methodLink RL 80 yX6_drawn : Cond) ∈ XT := xt3 218 rfl rfl
theorem xim_X6_drawn : (.instanceMethod yX6_drawn : Cond) ∈ XT := xt3 219 rfl rfl
theorem xse_X6_drawn : (.selects RX6 yX6_drawn yX6_drawn : Cond) ∈ XT := xt3 220 rfl rfl
theorem xco_X6_drawn : (.code yX6_drawn cX6_drawn 2 (some .int) : Cond) ∈ XT := xt3 221 rfl rfl
theorem xml_L_84 : (.methodLink RL 84 yX6_met : Cond) ∈ XT := xt3 222 rfl rfl
theorem xim_X6_met : (.instanceMethod yX6_met : Cond) ∈ XT := xt3 223 rfl rfl
theorem xse_X6_met : (.selects RX6 yX6_met yX6_met : Cond) ∈ XT := xt3 224 rfl rfl
theorem xco_X6_met : (.code yX6_met cX6_met 1 (some .int) : Cond) ∈ XT := xt3 225 rfl rfl
theorem xml_L_88 : (.methodLink RL 88 yX6_tally : Cond) ∈ XT := xt3 226 rfl rfl
theorem xim_X6_tally : (.instanceMethod yX6_tally : Cond) ∈ XT := xt3 227 rfl rfl
theorem xse_X6_tally : (.selects RX6 yX6_tally yX6_tally : Cond) ∈ XT := xt3 228 rfl rfl
theorem xco_X6_tally : (.code yX6_tally cX6_tally 8 (some .int) : Cond) ∈ XT := xt3 229 rfl rfl
theorem xml_L_92 : (.methodLink RL 92 yX6_many : Cond) ∈ XT := xt3 230 rfl rfl
theorem xim_X6_many : (.instanceMethod yX6_many : Cond) ∈ XT := xt3 231 rfl rfl
theorem xse_X6_many : (.selects RX6 yX6_many yX6_many : Cond) ∈ XT := xt3 232 rfl rfl
theorem xco_X6_many : (.code yX6_many cX6_many 2 (some .int) : Cond) ∈ XT := xt3 233 rfl rfl
theorem xml_X6_157 : (.methodLink RX6 157 yX6_barsSmall : Cond) ∈ XT := xt3 234 rfl rfl
theorem xim_X6_barsSmall : (.instanceMethod yX6_barsSmall : Cond) ∈ XT := xt3 236 rfl rfl
theorem xco_X6_barsSmall : (.code yX6_barsSmall cX6_barsSmall 2 (some .int) : Cond) ∈ XT := xt3 237 rfl rfl
theorem xml_X6_144 : (.methodLink RX6 144 yX6_states : Cond) ∈ XT := xt3 238 rfl rfl
theorem xim_X6_states : (.instanceMethod yX6_states : Cond) ∈ XT := xt4 0 rfl rfl
theorem xco_X6_states : (.code yX6_states cX6_states 3 (some .int) : Cond) ∈ XT := xt4 1 rfl rfl
theorem xml_X6_160 : (.methodLink RX6 160 yX6_over : Cond) ∈ XT := xt4 2 rfl rfl
theorem xim_X6_over : (.instanceMethod yX6_over : Cond) ∈ XT := xt4 4 rfl rfl
theorem xco_X6_over : (.code yX6_over cX6_over 9 (some .long) : Cond) ∈ XT := xt4 5 rfl rfl
theorem xml_X6_147 : (.methodLink RX6 147 yX6_first : Cond) ∈ XT := xt4 6 rfl rfl
theorem xim_X6_first : (.instanceMethod yX6_first : Cond) ∈ XT := xt4 8 rfl rfl
theorem xco_X6_first : (.code yX6_first cX6_first 2 none : Cond) ∈ XT := xt4 9 rfl rfl
theorem xml_X6_150 : (.methodLink RX6 150 yX6_weight : Cond) ∈ XT := xt4 10 rfl rfl
theorem xim_X6_weight : (.instanceMethod yX6_weight : Cond) ∈ XT := xt4 12 rfl rfl
theorem xco_X6_weight : (.code yX6_weight cX6_weight 5 (some .long) : Cond) ∈ XT := xt4 13 rfl rfl
theorem xml_X6_154 : (.methodLink RX6 154 yX6_next : Cond) ∈ XT := xt4 14 rfl rfl
theorem xim_X6_next : (.instanceMethod yX6_next : Cond) ∈ XT := xt4 16 rfl rfl
theorem xco_X6_next : (.code yX6_next cX6_next 2 (some .boolean) : Cond) ∈ XT := xt4 17 rfl rfl
theorem xml_L_97 : (.methodLink RL 97 yX6_all : Cond) ∈ XT := xt4 18 rfl rfl
theorem xim_X6_all : (.instanceMethod yX6_all : Cond) ∈ XT := xt4 19 rfl rfl
theorem xse_X6_all : (.selects RX6 yX6_all yX6_all : Cond) ∈ XT := xt4 20 rfl rfl
theorem xco_X6_all : (.code yX6_all cX6_all 2 (some .long) : Cond) ∈ XT := xt4 21 rfl rfl
theorem xml_L_102 : (.methodLink RL 102 yX6_chance : Cond) ∈ XT := xt4 22 rfl rfl
theorem xim_X6_chance : (.instanceMethod yX6_chance : Cond) ∈ XT := xt4 23 rfl rfl
theorem xse_X6_chance : (.selects RX6 yX6_chance yX6_chance : Cond) ∈ XT := xt4 24 rfl rfl
theorem xco_X6_chance : (.code yX6_chance cX6_chance 3 (some .long) : Cond) ∈ XT := xt4 25 rfl rfl
theorem xcn_X6_164 : (.constantLong RX6 164 (-2) : Cond) ∈ XT := xt4 26 rfl rfl
theorem xml_X6_166 : (.methodLink RX6 166 yX6_lowest_ : Cond) ∈ XT := xt4 27 rfl rfl
theorem xst_X6_lowest_ : (.static yX6_lowest_ : Cond) ∈ XT := xt4 28 rfl rfl
theorem xco_X6_lowest_ : (.code yX6_lowest_ cX6_lowest_ 11 (some .long) : Cond) ∈ XT := xt4 29 rfl rfl
theorem xml_L_107 : (.methodLink RL 107 yX6_mean : Cond) ∈ XT := xt4 30 rfl rfl
theorem xim_X6_mean : (.instanceMethod yX6_mean : Cond) ∈ XT := xt4 31 rfl rfl
theorem xse_X6_mean : (.selects RX6 yX6_mean yX6_mean : Cond) ∈ XT := xt4 32 rfl rfl
theorem xco_X6_mean : (.code yX6_mean cX6_mean 4 (some .long) : Cond) ∈ XT := xt4 33 rfl rfl
theorem xcn_X6_170 : (.constantLong RX6 170 (-1) : Cond) ∈ XT := xt4 34 rfl rfl
theorem xml_L_112 : (.methodLink RL 112 yX6_alike : Cond) ∈ XT := xt4 35 rfl rfl
theorem xim_X6_alike : (.instanceMethod yX6_alike : Cond) ∈ XT := xt4 36 rfl rfl
theorem xse_X6_alike : (.selects RX6 yX6_alike yX6_alike : Cond) ∈ XT := xt4 37 rfl rfl
theorem xco_X6_alike : (.code yX6_alike cX6_alike 5 (some .long) : Cond) ∈ XT := xt4 38 rfl rfl
theorem xml_L_116 : (.methodLink RL 116 yX6_told : Cond) ∈ XT := xt4 39 rfl rfl
theorem xim_X6_told : (.instanceMethod yX6_told : Cond) ∈ XT := xt4 40 rfl rfl
theorem xse_X6_told : (.selects RX6 yX6_told yX6_told : Cond) ∈ XT := xt4 41 rfl rfl
theorem xco_X6_told : (.code yX6_told cX6_told 4 (some .int) : Cond) ∈ XT := xt4 42 rfl rfl
theorem xcn_X6_172 : (.constant RX6 172 (-2147483648) : Cond) ∈ XT := xt4 43 rfl rfl
theorem xml_L_120 : (.methodLink RL 120 yX6_about : Cond) ∈ XT := xt4 44 rfl rfl
theorem xim_X6_about : (.instanceMethod yX6_about : Cond) ∈ XT := xt4 45 rfl rfl
theorem xse_X6_about : (.selects RX6 yX6_about yX6_about : Cond) ∈ XT := xt4 46 rfl rfl
theorem xco_X6_about : (.code yX6_about cX6_about 3 (some .int) : Cond) ∈ XT := xt4 47 rfl rfl
theorem xse_X5_startAnew : (.selects RX5 yX5_startAnew yX5_startAnew : Cond) ∈ XT := xt0 (q := (yX5_startAnew, 7)) 0 rfl rfl
theorem xse_X2_drawTogether : (.selects RX2 yX2_drawTogether yX2_drawTogether : Cond) ∈ XT := xt0 (q := (yX2_drawTogether, 7)) 1 rfl rfl
theorem xse_X2_isSound : (.selects RX2 yX2_isSound yX2_isSound : Cond) ∈ XT := xt0 (q := (yX2_isSound, 7)) 2 rfl rfl
theorem xse_X2_lowIsBelowHigh : (.selects RX2 yX2_lowIsBelowHigh yX2_lowIsBelowHigh : Cond) ∈ XT := xt0 (q := (yX2_lowIsBelowHigh, 7)) 3 rfl rfl
theorem xse_X2_linksCrossSides : (.selects RX2 yX2_linksCrossSides yX2_linksCrossSides : Cond) ∈ XT := xt0 (q := (yX2_linksCrossSides, 7)) 4 rfl rfl
theorem xse_X1_addNeighbour : (.selects RX1 yX1_addNeighbour yX1_addNeighbour : Cond) ∈ XT := xt0 (q := (yX1_addNeighbour, 9)) 5 rfl rfl
theorem xse_X4_chosen : (.selects RX4 yX4_chosen yX4_chosen : Cond) ∈ XT := xt0 (q := (yX4_chosen, 3)) 6 rfl rfl
theorem xse_X5_refusalUnlessSmall : (.selects RX5 yX5_refusalUnlessSmall yX5_refusalUnlessSmall : Cond) ∈ XT := xt0 (q := (yX5_refusalUnlessSmall, 7)) 7 rfl rfl
theorem xse_X3_states : (.selects RX3 yX3_states yX3_states : Cond) ∈ XT := xt0 (q := (yX3_states, 3)) 8 rfl rfl
theorem xse_X3_termOf : (.selects RX3 yX3_termOf yX3_termOf : Cond) ∈ XT := xt0 (q := (yX3_termOf, 3)) 9 rfl rfl
theorem xse_X3_stepOn : (.selects RX3 yX3_stepOn yX3_stepOn : Cond) ∈ XT := xt0 (q := (yX3_stepOn, 3)) 10 rfl rfl
theorem xse_X6_changed : (.selects RX6 yX6_changed yX6_changed : Cond) ∈ XT := xt0 (q := (yX6_changed, 21)) 11 rfl rfl
theorem xse_X6_isGood : (.selects RX6 yX6_isGood yX6_isGood : Cond) ∈ XT := xt0 (q := (yX6_isGood, 21)) 12 rfl rfl
theorem xse_X6_layHigh : (.selects RX6 yX6_layHigh yX6_layHigh : Cond) ∈ XT := xt0 (q := (yX6_layHigh, 21)) 13 rfl rfl
theorem xse_X6_layLow : (.selects RX6 yX6_layLow yX6_layLow : Cond) ∈ XT := xt0 (q := (yX6_layLow, 21)) 14 rfl rfl
theorem xse_X6_isPlace : (.selects RX6 yX6_isPlace yX6_isPlace : Cond) ∈ XT := xt0 (q := (yX6_isPlace, 21)) 15 rfl rfl
theorem xse_X6_isLinked : (.selects RX6 yX6_isLinked yX6_isLinked : Cond) ∈ XT := xt0 (q := (yX6_isLinked, 21)) 16 rfl rfl
theorem xse_X6_addNear : (.selects RX6 yX6_addNear yX6_addNear : Cond) ∈ XT := xt0 (q := (yX6_addNear, 21)) 17 rfl rfl
theorem xse_X6_isAllowed : (.selects RX6 yX6_isAllowed yX6_isAllowed : Cond) ∈ XT := xt0 (q := (yX6_isAllowed, 21)) 18 rfl rfl
theorem xse_X6_copy : (.selects RX6 yX6_copy yX6_copy : Cond) ∈ XT := xt0 (q := (yX6_copy, 21)) 19 rfl rfl
theorem xse_X6_mixed : (.selects RX6 yX6_mixed yX6_mixed : Cond) ∈ XT := xt0 (q := (yX6_mixed, 21)) 20 rfl rfl
theorem xse_X6_tick1 : (.selects RX6 yX6_tick1 yX6_tick1 : Cond) ∈ XT := xt0 (q := (yX6_tick1, 21)) 21 rfl rfl
theorem xse_X6_weightAt : (.selects RX6 yX6_weightAt yX6_weightAt : Cond) ∈ XT := xt0 (q := (yX6_weightAt, 21)) 22 rfl rfl
theorem xse_X6_meet : (.selects RX6 yX6_meet yX6_meet : Cond) ∈ XT := xt0 (q := (yX6_meet, 21)) 23 rfl rfl
theorem xse_X6_unlike : (.selects RX6 yX6_unlike yX6_unlike : Cond) ∈ XT := xt0 (q := (yX6_unlike, 21)) 24 rfl rfl
theorem xse_X6_far : (.selects RX6 yX6_far yX6_far : Cond) ∈ XT := xt0 (q := (yX6_far, 21)) 25 rfl rfl
theorem xse_X6_barsSmall : (.selects RX6 yX6_barsSmall yX6_barsSmall : Cond) ∈ XT := xt0 (q := (yX6_barsSmall, 21)) 26 rfl rfl
theorem xse_X6_states : (.selects RX6 yX6_states yX6_states : Cond) ∈ XT := xt0 (q := (yX6_states, 21)) 27 rfl rfl
theorem xse_X6_over : (.selects RX6 yX6_over yX6_over : Cond) ∈ XT := xt0 (q := (yX6_over, 21)) 28 rfl rfl
theorem xse_X6_first : (.selects RX6 yX6_first yX6_first : Cond) ∈ XT := xt0 (q := (yX6_first, 21)) 29 rfl rfl
theorem xse_X6_weight : (.selects RX6 yX6_weight yX6_weight : Cond) ∈ XT := xt0 (q := (yX6_weight, 21)) 30 rfl rfl
theorem xse_X6_next : (.selects RX6 yX6_next yX6_next : Cond) ∈ XT := xt0 (q := (yX6_next, 21)) 31 rfl rfl
theorem xin_wsX0 : ∀ w ∈ wsX00, w ∈ XT := List.forall_mem_cons.mpr ⟨xla_X0_net, List.forall_mem_cons.mpr ⟨xla_X0_rules, List.forall_mem_cons.mpr ⟨xla_X0_ticks, List.forall_mem_cons.mpr ⟨xla_X0_high, List.forall_mem_cons.mpr ⟨xla_X0_low, List.forall_mem_cons.mpr ⟨xla_X0_back, List.forall_mem_cons.mpr ⟨xla_X0_meeting, List.forall_mem_cons.mpr ⟨xla_X0_kept, List.forall_mem_cons.mpr ⟨xla_X0_keptMeeting, List.forall_mem_cons.mpr ⟨xla_X0_isKept, fun _ h => absurd h List.not_mem_nil⟩⟩⟩⟩⟩⟩⟩⟩⟩⟩
theorem xin_wsX1 : ∀ w ∈ wsX10, w ∈ XT := List.forall_mem_cons.mpr ⟨xla_X1_top, List.forall_mem_cons.mpr ⟨xla_X1_side, List.forall_mem_cons.mpr ⟨xla_X1_held, List.forall_mem_cons.mpr ⟨xla_X1_neighbours, List.forall_mem_cons.mpr ⟨xla_X1_neighbour, List.forall_mem_cons.mpr ⟨xla_X1_oneEnd, List.forall_mem_cons.mpr ⟨xla_X1_otherEnd, List.forall_mem_cons.mpr ⟨xla_X1_places, List.forall_mem_cons.mpr ⟨xla_X1_links, fun _ h => absurd h List.not_mem_nil⟩⟩⟩⟩⟩⟩⟩⟩⟩
theorem xin_wsX2 : ∀ w ∈ wsX20, w ∈ XT := List.forall_mem_cons.mpr ⟨xla_X2_net, List.forall_mem_cons.mpr ⟨xla_X2_high, List.forall_mem_cons.mpr ⟨xla_X2_low, List.forall_mem_cons.mpr ⟨xla_X2_kind, List.forall_mem_cons.mpr ⟨xla_X2_u, List.forall_mem_cons.mpr ⟨xla_X2_v, List.forall_mem_cons.mpr ⟨xla_X2_isGood, fun _ h => absurd h List.not_mem_nil⟩⟩⟩⟩⟩⟩⟩
theorem xin_wsX3 : ∀ w ∈ wsX30, w ∈ XT := List.forall_mem_cons.mpr ⟨xla_X3_net, List.forall_mem_cons.mpr ⟨xla_X3_rules, List.forall_mem_cons.mpr ⟨xla_X3_row, fun _ h => absurd h List.not_mem_nil⟩⟩⟩
theorem xin_wsX4 : ∀ w ∈ wsX40, w ∈ XT := List.forall_mem_cons.mpr ⟨xla_X4_net, List.forall_mem_cons.mpr ⟨xla_X4_rules, List.forall_mem_cons.mpr ⟨xla_X4_weight, fun _ h => absurd h List.not_mem_nil⟩⟩⟩
theorem xin_wsX5 : ∀ w ∈ wsX50, w ∈ XT := List.forall_mem_cons.mpr ⟨xla_X5_net, List.forall_mem_cons.mpr ⟨xla_X5_rules, List.forall_mem_cons.mpr ⟨xla_X5_ticks, List.forall_mem_cons.mpr ⟨xla_X5_draws, List.forall_mem_cons.mpr ⟨xla_X5_small, List.forall_mem_cons.mpr ⟨xla_X5_hand, List.forall_mem_cons.mpr ⟨xla_X5_seed, fun _ h => absurd h List.not_mem_nil⟩⟩⟩⟩⟩⟩⟩
theorem xin_wsX6 : ∀ w ∈ wsX60, w ∈ XT := List.forall_mem_cons.mpr ⟨xla_X6_places, List.forall_mem_cons.mpr ⟨xla_X6_top, List.forall_mem_cons.mpr ⟨xla_X6_side, List.forall_mem_cons.mpr ⟨xla_X6_held, List.forall_mem_cons.mpr ⟨xla_X6_degree, List.forall_mem_cons.mpr ⟨xla_X6_near, List.forall_mem_cons.mpr ⟨xla_X6_links, List.forall_mem_cons.mpr ⟨xla_X6_linkA, List.forall_mem_cons.mpr ⟨xla_X6_linkB, List.forall_mem_cons.mpr ⟨xla_X6_kind, List.forall_mem_cons.mpr ⟨xla_X6_u, List.forall_mem_cons.mpr ⟨xla_X6_v, List.forall_mem_cons.mpr ⟨xla_X6_seed, List.forall_mem_cons.mpr ⟨xla_X6_hand, List.forall_mem_cons.mpr ⟨xla_X6_high, List.forall_mem_cons.mpr ⟨xla_X6_low, List.forall_mem_cons.mpr ⟨xla_X6_drawn, List.forall_mem_cons.mpr ⟨xla_X6_gone, List.forall_mem_cons.mpr ⟨xla_X6_isDrawn, List.forall_mem_cons.mpr ⟨xla_X6_met, List.forall_mem_cons.mpr ⟨xla_X6_firstMet, fun _ h => absurd h List.not_mem_nil⟩⟩⟩⟩⟩⟩⟩⟩⟩⟩⟩⟩⟩⟩⟩⟩⟩⟩⟩⟩⟩
end
section
/-! ROWS OF MY OWN over the kit's: a configuration (world, locals, place, stack) with heap, written locs and slots hidden. -/
abbrev cls : List vw_C := [(RX5, TX5, 7), (RX1, TX1, 9), (RX2, TX2, 7), (RX4, TX4, 3), (RX0, TX0, 10), (RX3, TX3, 3), (RX6, TX6, 21)]
abbrev xtys (t : Nat → ClassId) : List (ClassId × FieldType) := [(t 0, .int), (t 1, .long), (t 2, .array .int)]
def XN (s : State) : Prop := va_Nw (.methodLinkNest RX5 9 yX1_init RX5) s ∧ va_Nw (.methodLinkNest RX0 40 yX5_copyRow RX5) s
theorem XN.warm {s U : State} (hW : s.WarmedH U.vm) (h : XN s) : XN U := ⟨va_Nw.warmM hW h.1, va_Nw.warmM hW h.2⟩
theorem XN.same {s U : State} (hW : s.vm = U.vm) (h : XN s) : XN U := ⟨va_Nw.same rfl hW h.1, va_Nw.same rfl hW h.2⟩
abbrev XC : Type := Program × Launch × Env × Room × State × MethodId × Array Value × List Frame × Method × Code × (State → Prop) × va_G × (Nat → ClassId) × (Nat → Prop) × Nat
def XW (X : XC) (cells slots : Nat) (ws : va_W) (lv : List (Nat × Value)) (pc : Nat) (st : List Value) : Prop := match X with
  | (p, l, e, R, s, m, args, below, meth, c, Q, D, _, A, nL) => ∀ (H : Heap) (locs : List Loc) (ls : Array Slot), va_P D cls ws H → va_D A ws → va_S A s.heap H locs → lv_has ls nL lv → W p l e R s m args below meth c H locs cells slots Q (F0 m pc ls st)
/-- what a walk knows of its place: the launch, the tables' words, the class, the room -/
def XK (X : XC) (l0 : Launch) (D0 : va_G) (t0 : Nat → ClassId) (cc : ByteArray) (own : String) (rm : Room) (n0 : Nat) : Prop := match X with
  | (p, l, _, R, s, m, args, _, _, c, _, D, t, A, nL) => p.tables.exec = Jvm.exec ∧ c.code = cc ∧ c.maxLocals = nL ∧ s.vm.findClass own = some m.cls ∧ (∀ w ∈ XT, w.before args s = true) ∧ va_K D cls (xtys t) s ∧ XN s ∧ (∀ q : Nat, s.heap.size ≤ q → A q) ∧ l = l0 ∧ D = D0 ∧ t = t0 ∧ R = rm ∧ nL = n0
/-- a method's end: what it gives back, and the cells behind it -/
def CQ (D : va_G) (post : Option Value → va_W → Prop) (Af : Nat → Prop) : Array Value → State → Outcome → State → Prop := fun _ st oc t => (∃ (v : Option Value) (w : va_W), oc = .returned v ∧ post v w ∧ va_P D cls w t.heap ∧ va_D Af w) ∧ va_F Af st t
def CP (D : va_G) (t : Nat → ClassId) (ws : va_W) (av : List Value) (sz : Nat) : Array Value → State → Prop := va_Pc av (fun U => U.heap.size = sz ∧ va_P D cls ws U.heap ∧ va_K D cls (xtys t) U ∧ XN U ∧ va_D (fun _ => True) ws)
/-- a contract: from the cells ws, with the arguments av, the method comes back, 'post answer cells'; mc cells of ms slots are new -/
def CT (l : Launch) (D : va_G) (t : Nat → ClassId) (y : MethodName) (b : ByteArray) (n : Nat) (ret : Option FieldType) (rm : Room) (mc ms : Nat) (av : List Value) (ws : va_W) (post : Option Value → va_W → Prop) : Prop :=
  ∀ sz : Nat, Met l y (.code y b n ret :: XT) rm (CP D t ws av sz) (CQ D post (va_A ws sz)) mc ms (va_A ws sz)
def XR (X : XC) (cells slots : Nat) (ret : Option FieldType) (post : Option Value → va_W → Prop) : Prop := match X with
  | (_, _, _, _, s, _, args, below, meth, _, Q, D, _, A, _) => meth.sig.returnType = ret ∧ meth.locks = false ∧ Q = MQ below (CQ D post A) args s cells slots A
def XI (X : XC) : Prop := match X with
  | (_, _, _, _, _, _, _, _, meth, _, _, _, _, _, _) => meth.name = "<init>"
theorem CP.blind (D : va_G) (t : Nat → ClassId) (ws : va_W) (av : List Value) (sz : Nat) : FrameBlind (CP D t ws av sz) := by
  intro a U g mk ⟨h1, h2, h3, h4, h5, h6⟩
  exact ⟨h1, h2, h3, va_K.moved (u := U) (U := U.calling g mk a) (Vm.Alike.refl U.vm) h4, XN.same (s := U) (U := U.calling g mk a) rfl h5, h6⟩
theorem CT.of {l : Launch} {D : va_G} {t : Nat → ClassId} {y : MethodName} {b : ByteArray} {n : Nat} {ret : Option FieldType} {rm : Room} {mc ms : Nat} {av : List Value} {ws : va_W} {post : Option Value → va_W → Prop}
    (hy : plainName y.cls = true) (hlen : (lg_sl av).length ≤ n) (body : ∀ X : XC, XK X l D t b y.cls rm n → XR X mc ms ret post → XW X 0 0 ws (lv_args 0 av) 0 []) : CT l D t y b n ret rm mc ms av ws post := by
  intro sz
  refine Met.ofW (cc := b) (maxL := n) (ret := ret) hy rfl ?_
  intro p e s m args below meth c s₁ B hml hv
  obtain ⟨rfl, hsz, hP, hK, hN, hD0⟩ := hv
  subst hsz
  have hts := atoms_spec (ws := .code y b n ret :: XT) B.pre
  have hl := lv_entry av (n := n) hlen
  have key := body (p, l, e, rm, s, m, av.toArray, below, meth, c, MQ below (CQ D post (va_A ws s.heap.size)) av.toArray s mc ms (va_A ws s.heap.size), D, t, va_A ws s.heap.size, n)
    ⟨B.exec, B.bytes, hml, findClass_of_methodNamed B.named, fun w hw => hts w (List.mem_cons_of_mem _ hw), hK, hN, fun q h => Or.inr h, rfl, rfl, rfl, rfl, rfl⟩ ⟨B.returns, B.notSynchronized, rfl⟩
  rw [lg_entry_eq]
  exact key s.heap [] _ hP hD0.self va_S.rf hl
theorem CT.mono {l : Launch} {D : va_G} {t : Nat → ClassId} {y : MethodName} {b : ByteArray} {n : Nat} {ret : Option FieldType} {rm : Room} {mc ms : Nat} {av : List Value} {ws : va_W} {post post' : Option Value → va_W → Prop}
    (h : CT l D t y b n ret rm mc ms av ws post) (hp : ∀ v w, post v w → post' v w) : CT l D t y b n ret rm mc ms av ws post' := by
  intro sz p e ha hc hk s m args below hf hfit happ h1
  obtain ⟨k, o, g1, g2, g3, ⟨⟨v, w, q1, q2, q3, q4⟩, q5⟩, g5⟩ := h sz p e ha hc hk s m args below hf hfit happ h1
  exact ⟨k, o, g1, g2, g3, ⟨⟨v, w, q1, hp v w q2, q3, q4⟩, q5⟩, g5⟩
section ROWS
variable {X : XC} {l : Launch} {D : va_G} {t : Nat → ClassId} {cc : ByteArray} {own : String} {rm : Room} {nL : Nat} {k n : Nat} {ws : va_W} {lv : List (Nat × Value)} {pc : Nat} {st : List Value}
theorem xeq {lv' : List (Nat × Value)} {ws' : va_W} {st' : List Value} {pc' : Nat} (h1 : ws = ws') (h2 : lv = lv') (h3 : pc = pc') (h4 : st = st') (kk : XW X k n ws' lv' pc' st') : XW X k n ws lv pc st := by subst h1 h2 h3 h4; exact kk
theorem xtopi {x y : Int32} (h : x = y) (kk : XW X k n ws lv pc (.int y :: st)) : XW X k n ws lv pc (.int x :: st) := by subst h; exact kk
theorem xtopl {x y : Int64} (h : x = y) (kk : XW X k n ws lv pc (.long y :: st)) : XW X k n ws lv pc (.long x :: st) := by subst h; exact kk
theorem xworld {ws' : va_W} (h : ws = ws') (kk : XW X k n ws' lv pc st) : XW X k n ws lv pc st := by subst h; exact kk
theorem xlocals {lv' : List (Nat × Value)} (h : lv = lv') (kk : XW X k n ws lv' pc st) : XW X k n ws lv pc st := by subst h; exact kk
theorem xsub {lv' : List (Nat × Value)} (ks : List Nat) (h : lv_pick lv ks = lv') (kk : XW X k n ws lv' pc st) : XW X k n ws lv pc st := by
  obtain ⟨p, l1, e, R, s, m, args, below, meth, c, Q, D1, t1, A, nL1⟩ := X
  intro H locs ls hP hD hS hl
  exact kk H locs ls hP hD hS (lv_sub hl ks h)
theorem xiconst (C : XK X l D t cc own rm nL) {z : Int} {v : Int32} (hdg : decode cc pc = .ok (.iconst z, 1)) (hv : Int32.ofInt z = v) (kk : XW X k n ws lv (pc + 1) (.int v :: st)) : XW X k n ws lv pc st := by
  obtain ⟨p, l1, e, R, s, m, args, below, meth, c, Q, D1, t1, A, nL1⟩ := X
  intro H locs ls hP hD hS hl
  exact lv_iconst C.1 C.2.1 hdg hv (kk H locs ls hP hD hS hl)
theorem xbipush (C : XK X l D t cc own rm nL) {z : Int} {v : Int32} (hdg : decode cc pc = .ok (.bipush z, 2)) (hv : (Int8.ofInt z).toInt32 = v) (kk : XW X k n ws lv (pc + 2) (.int v :: st)) : XW X k n ws lv pc st := by
  obtain ⟨p, l1, e, R, s, m, args, below, meth, c, Q, D1, t1, A, nL1⟩ := X
  intro H locs ls hP hD hS hl
  exact lv_bipush C.1 C.2.1 hdg hv (kk H locs ls hP hD hS hl)
theorem xsipush (C : XK X l D t cc own rm nL) {z : Int} {v : Int32} (hdg : decode cc pc = .ok (.sipush z, 3)) (hv : (Int16.ofInt z).toInt32 = v) (kk : XW X k n ws lv (pc + 3) (.int v :: st)) : XW X k n ws lv pc st := by
  obtain ⟨p, l1, e, R, s, m, args, below, meth, c, Q, D1, t1, A, nL1⟩ := X
  intro H locs ls hP hD hS hl
  exact lv_sipush C.1 C.2.1 hdg hv (kk H locs ls hP hD hS hl)
theorem xlconst (C : XK X l D t cc own rm nL) {z : Fin 2} {v : Int64} (hdg : decode cc pc = .ok (.lconst z, 1)) (hv : Int64.ofNat (z : Nat) = v) (kk : XW X k n ws lv (pc + 1) (.long v :: st)) : XW X k n ws lv pc st := by
  obtain ⟨p, l1, e, R, s, m, args, below, meth, c, Q, D1, t1, A, nL1⟩ := X
  intro H locs ls hP hD hS hl
  exact lv_lconst C.1 C.2.1 hdg hv (kk H locs ls hP hD hS hl)
theorem xldc (C : XK X l D t cc own rm nL) {ix : Nat} {v : Int32} (hdg : decode cc pc = .ok (.ldc ix, 2)) (hw : (.constant own ix v : Cond) ∈ XT) (kk : XW X k n ws lv (pc + 2) (.int v :: st)) : XW X k n ws lv pc st := by
  obtain ⟨p, l1, e, R, s, m, args, below, meth, c, Q, D1, t1, A, nL1⟩ := X
  intro H locs ls hP hD hS hl
  exact lv_ldc C.1 C.2.1 C.2.2.2.1 (C.2.2.2.2.1 _ hw) hdg (kk H locs ls hP hD hS hl)
theorem xldc2 (C : XK X l D t cc own rm nL) {ix : Nat} {v : Int64} (hdg : decode cc pc = .ok (.ldc2_w ix, 3)) (hw : (.constantLong own ix v : Cond) ∈ XT) (kk : XW X k n ws lv (pc + 3) (.long v :: st)) : XW X k n ws lv pc st := by
  obtain ⟨p, l1, e, R, s, m, args, below, meth, c, Q, D1, t1, A, nL1⟩ := X
  intro H locs ls hP hD hS hl
  exact lv_ldc2 C.1 C.2.1 C.2.2.2.1 (C.2.2.2.2.1 _ hw) hdg (kk H locs ls hP hD hS hl)
theorem xiload_n (C : XK X l D t cc own rm nL) {z : Fin 4} {x : Int32} (j : Nat) (hj : lv[j]? = some ((z : Nat), .int x)) (hdg : decode cc pc = .ok (.iload_n z, 1)) (kk : XW X k n ws lv (pc + 1) (.int x :: st)) : XW X k n ws lv pc st := by
  obtain ⟨p, l1, e, R, s, m, args, below, meth, c, Q, D1, t1, A, nL1⟩ := X
  intro H locs ls hP hD hS hl
  exact lv_iload_n C.1 C.2.1 hdg rfl (lv_at hl j hj) (kk H locs ls hP hD hS hl)
theorem xiload (C : XK X l D t cc own rm nL) {i : Nat} {x : Int32} (j : Nat) (hj : lv[j]? = some (i, .int x)) (hdg : decode cc pc = .ok (.iload i, 2)) (kk : XW X k n ws lv (pc + 2) (.int x :: st)) : XW X k n ws lv pc st := by
  obtain ⟨p, l1, e, R, s, m, args, below, meth, c, Q, D1, t1, A, nL1⟩ := X
  intro H locs ls hP hD hS hl
  exact lv_iload C.1 C.2.1 hdg (lv_at hl j hj) (kk H locs ls hP hD hS hl)
theorem xlload_n (C : XK X l D t cc own rm nL) {z : Fin 4} {x : Int64} (j : Nat) (hj : lv[j]? = some ((z : Nat), .long x)) (hdg : decode cc pc = .ok (.lload_n z, 1)) (kk : XW X k n ws lv (pc + 1) (.long x :: st)) : XW X k n ws lv pc st := by
  obtain ⟨p, l1, e, R, s, m, args, below, meth, c, Q, D1, t1, A, nL1⟩ := X
  intro H locs ls hP hD hS hl
  exact lv_lload_n C.1 C.2.1 hdg rfl (lv_at hl j hj) (kk H locs ls hP hD hS hl)
theorem xlload (C : XK X l D t cc own rm nL) {i : Nat} {x : Int64} (j : Nat) (hj : lv[j]? = some (i, .long x)) (hdg : decode cc pc = .ok (.lload i, 2)) (kk : XW X k n ws lv (pc + 2) (.long x :: st)) : XW X k n ws lv pc st := by
  obtain ⟨p, l1, e, R, s, m, args, below, meth, c, Q, D1, t1, A, nL1⟩ := X
  intro H locs ls hP hD hS hl
  exact lv_lload C.1 C.2.1 hdg (lv_at hl j hj) (kk H locs ls hP hD hS hl)
theorem xaload_n (C : XK X l D t cc own rm nL) {z : Fin 4} {x : Nat} (j : Nat) (hj : lv[j]? = some ((z : Nat), .ref x)) (hdg : decode cc pc = .ok (.aload_n z, 1)) (kk : XW X k n ws lv (pc + 1) (.ref x :: st)) : XW X k n ws lv pc st := by
  obtain ⟨p, l1, e, R, s, m, args, below, meth, c, Q, D1, t1, A, nL1⟩ := X
  intro H locs ls hP hD hS hl
  exact lv_aload_n C.1 C.2.1 hdg rfl (lv_at hl j hj) (kk H locs ls hP hD hS hl)
theorem xaload (C : XK X l D t cc own rm nL) {i : Nat} {x : Nat} (j : Nat) (hj : lv[j]? = some (i, .ref x)) (hdg : decode cc pc = .ok (.aload i, 2)) (kk : XW X k n ws lv (pc + 2) (.ref x :: st)) : XW X k n ws lv pc st := by
  obtain ⟨p, l1, e, R, s, m, args, below, meth, c, Q, D1, t1, A, nL1⟩ := X
  intro H locs ls hP hD hS hl
  exact lv_aload C.1 C.2.1 hdg (lv_at hl j hj) (kk H locs ls hP hD hS hl)
theorem xistore_n (C : XK X l D t cc own rm nL) {z : Fin 4} {x : Int32} {lv' : List (Nat × Value)} (hdg : decode cc pc = .ok (.istore_n z, 1)) (hn : (z : Nat) < nL) (hl1 : ((z : Nat), Value.int x) :: lv.filter (fun q => !(q.1 == (z : Nat)) && !(q.1 + 1 == (z : Nat) && q.2.category == 2)) = lv') (kk : XW X k n ws lv' (pc + 1) st) : XW X k n ws lv pc (.int x :: st) := by
  obtain ⟨p, l1, e, R, s, m, args, below, meth, c, Q, D1, t1, A, nL1⟩ := X
  intro H locs ls hP hD hS hl
  exact lv_istore_n C.1 C.2.1 hdg rfl  hl (by rw [C.2.2.2.2.2.2.2.2.2.2.2.2]; exact hn) hl1 (fun ls1 hl2 => kk H locs ls1 hP hD hS hl2)
theorem xistore (C : XK X l D t cc own rm nL) {i : Nat} {x : Int32} {lv' : List (Nat × Value)} (hdg : decode cc pc = .ok (.istore i, 2)) (hn : i < nL) (hl1 : (i, Value.int x) :: lv.filter (fun q => !(q.1 == i) && !(q.1 + 1 == i && q.2.category == 2)) = lv') (kk : XW X k n ws lv' (pc + 2) st) : XW X k n ws lv pc (.int x :: st) := by
  obtain ⟨p, l1, e, R, s, m, args, below, meth, c, Q, D1, t1, A, nL1⟩ := X
  intro H locs ls hP hD hS hl
  exact lv_istore C.1 C.2.1 hdg  hl (by rw [C.2.2.2.2.2.2.2.2.2.2.2.2]; exact hn) hl1 (fun ls1 hl2 => kk H locs ls1 hP hD hS hl2)
theorem xlstore_n (C : XK X l D t cc own rm nL) {z : Fin 4} {x : Int64} {lv' : List (Nat × Value)} (hdg : decode cc pc = .ok (.lstore_n z, 1)) (hn : (z : Nat) + 1 < nL) (hl1 : ((z : Nat), Value.long x) :: lv.filter (fun q => !(q.1 == (z : Nat)) && (!(q.1 == (z : Nat) + 1) && !(q.1 + 1 == (z : Nat) && q.2.category == 2))) = lv') (kk : XW X k n ws lv' (pc + 1) st) : XW X k n ws lv pc (.long x :: st) := by
  obtain ⟨p, l1, e, R, s, m, args, below, meth, c, Q, D1, t1, A, nL1⟩ := X
  intro H locs ls hP hD hS hl
  exact lv_lstore_n C.1 C.2.1 hdg rfl  hl (by rw [C.2.2.2.2.2.2.2.2.2.2.2.2]; exact hn) hl1 (fun ls1 hl2 => kk H locs ls1 hP hD hS hl2)
theorem xlstore (C : XK X l D t cc own rm nL) {i : Nat} {x : Int64} {lv' : List (Nat × Value)} (hdg : decode cc pc = .ok (.lstore i, 2)) (hn : i + 1 < nL) (hl1 : (i, Value.long x) :: lv.filter (fun q => !(q.1 == i) && (!(q.1 == i + 1) && !(q.1 + 1 == i && q.2.category == 2))) = lv') (kk : XW X k n ws lv' (pc + 2) st) : XW X k n ws lv pc (.long x :: st) := by
  obtain ⟨p, l1, e, R, s, m, args, below, meth, c, Q, D1, t1, A, nL1⟩ := X
  intro H locs ls hP hD hS hl
  exact lv_lstore C.1 C.2.1 hdg  hl (by rw [C.2.2.2.2.2.2.2.2.2.2.2.2]; exact hn) hl1 (fun ls1 hl2 => kk H locs ls1 hP hD hS hl2)
theorem xastore_n (C : XK X l D t cc own rm nL) {z : Fin 4} {x : Nat} {lv' : List (Nat × Value)} (hdg : decode cc pc = .ok (.astore_n z, 1)) (hn : (z : Nat) < nL) (hl1 : ((z : Nat), Value.ref x) :: lv.filter (fun q => !(q.1 == (z : Nat)) && !(q.1 + 1 == (z : Nat) && q.2.category == 2)) = lv') (kk : XW X k n ws lv' (pc + 1) st) : XW X k n ws lv pc (.ref x :: st) := by
  obtain ⟨p, l1, e, R, s, m, args, below, meth, c, Q, D1, t1, A, nL1⟩ := X
  intro H locs ls hP hD hS hl
  exact lv_astore_n C.1 C.2.1 hdg rfl  hl (by rw [C.2.2.2.2.2.2.2.2.2.2.2.2]; exact hn) hl1 (fun ls1 hl2 => kk H locs ls1 hP hD hS hl2)
theorem xastore (C : XK X l D t cc own rm nL) {i : Nat} {x : Nat} {lv' : List (Nat × Value)} (hdg : decode cc pc = .ok (.astore i, 2)) (hn : i < nL) (hl1 : (i, Value.ref x) :: lv.filter (fun q => !(q.1 == i) && !(q.1 + 1 == i && q.2.category == 2)) = lv') (kk : XW X k n ws lv' (pc + 2) st) : XW X k n ws lv pc (.ref x :: st) := by
  obtain ⟨p, l1, e, R, s, m, args, below, meth, c, Q, D1, t1, A, nL1⟩ := X
  intro H locs ls hP hD hS hl
  exact lv_astore C.1 C.2.1 hdg  hl (by rw [C.2.2.2.2.2.2.2.2.2.2.2.2]; exact hn) hl1 (fun ls1 hl2 => kk H locs ls1 hP hD hS hl2)
theorem xiinc (C : XK X l D t cc own rm nL) {i : Nat} {z : Int} {x v : Int32} {lv' : List (Nat × Value)} (j : Nat) (hj : lv[j]? = some (i, .int x)) (hdg : decode cc pc = .ok (.iinc i z, 3)) (hv : x + Int32.ofInt z = v) (hn : i < nL) (hl1 : (i, Value.int v) :: lv.filter (fun q => !(q.1 == i) && !(q.1 + 1 == i && q.2.category == 2)) = lv') (kk : XW X k n ws lv' (pc + 3) st) : XW X k n ws lv pc st := by
  obtain ⟨p, l1, e, R, s, m, args, below, meth, c, Q, D1, t1, A, nL1⟩ := X
  intro H locs ls hP hD hS hl
  exact lv_iinc C.1 C.2.1 hdg hl hj hv (by rw [C.2.2.2.2.2.2.2.2.2.2.2.2]; exact hn) hl1 (fun ls1 hl2 => kk H locs ls1 hP hD hS hl2)
theorem xiadd (C : XK X l D t cc own rm nL) {x y : Int32} (hdg : decode cc pc = .ok (.iadd, 1)) (kk : XW X k n ws lv (pc + 1) (.int (x + y) :: st)) : XW X k n ws lv pc (.int y :: .int x :: st) := by
  obtain ⟨p, l1, e, R, s, m, args, below, meth, c, Q, D1, t1, A, nL1⟩ := X
  intro H locs ls hP hD hS hl
  exact lv_iadd C.1 C.2.1 hdg (kk H locs ls hP hD hS hl)
theorem xisub (C : XK X l D t cc own rm nL) {x y : Int32} (hdg : decode cc pc = .ok (.isub, 1)) (kk : XW X k n ws lv (pc + 1) (.int (x - y) :: st)) : XW X k n ws lv pc (.int y :: .int x :: st) := by
  obtain ⟨p, l1, e, R, s, m, args, below, meth, c, Q, D1, t1, A, nL1⟩ := X
  intro H locs ls hP hD hS hl
  exact lv_isub C.1 C.2.1 hdg (kk H locs ls hP hD hS hl)
theorem ximul (C : XK X l D t cc own rm nL) {x y : Int32} (hdg : decode cc pc = .ok (.imul, 1)) (kk : XW X k n ws lv (pc + 1) (.int (x * y) :: st)) : XW X k n ws lv pc (.int y :: .int x :: st) := by
  obtain ⟨p, l1, e, R, s, m, args, below, meth, c, Q, D1, t1, A, nL1⟩ := X
  intro H locs ls hP hD hS hl
  exact lv_imul C.1 C.2.1 hdg (kk H locs ls hP hD hS hl)
theorem xiand (C : XK X l D t cc own rm nL) {x y : Int32} (hdg : decode cc pc = .ok (.iand, 1)) (kk : XW X k n ws lv (pc + 1) (.int (x &&& y) :: st)) : XW X k n ws lv pc (.int y :: .int x :: st) := by
  obtain ⟨p, l1, e, R, s, m, args, below, meth, c, Q, D1, t1, A, nL1⟩ := X
  intro H locs ls hP hD hS hl
  exact lv_iand C.1 C.2.1 hdg (kk H locs ls hP hD hS hl)
theorem xixor (C : XK X l D t cc own rm nL) {x y : Int32} (hdg : decode cc pc = .ok (.ixor, 1)) (kk : XW X k n ws lv (pc + 1) (.int (x ^^^ y) :: st)) : XW X k n ws lv pc (.int y :: .int x :: st) := by
  obtain ⟨p, l1, e, R, s, m, args, below, meth, c, Q, D1, t1, A, nL1⟩ := X
  intro H locs ls hP hD hS hl
  exact lv_ixor C.1 C.2.1 hdg (kk H locs ls hP hD hS hl)
theorem xladd (C : XK X l D t cc own rm nL) {x y : Int64} (hdg : decode cc pc = .ok (.ladd, 1)) (kk : XW X k n ws lv (pc + 1) (.long (x + y) :: st)) : XW X k n ws lv pc (.long y :: .long x :: st) := by
  obtain ⟨p, l1, e, R, s, m, args, below, meth, c, Q, D1, t1, A, nL1⟩ := X
  intro H locs ls hP hD hS hl
  exact lv_ladd C.1 C.2.1 hdg (kk H locs ls hP hD hS hl)
theorem xlsub (C : XK X l D t cc own rm nL) {x y : Int64} (hdg : decode cc pc = .ok (.lsub, 1)) (kk : XW X k n ws lv (pc + 1) (.long (x - y) :: st)) : XW X k n ws lv pc (.long y :: .long x :: st) := by
  obtain ⟨p, l1, e, R, s, m, args, below, meth, c, Q, D1, t1, A, nL1⟩ := X
  intro H locs ls hP hD hS hl
  exact lv_lsub C.1 C.2.1 hdg (kk H locs ls hP hD hS hl)
theorem xlmul (C : XK X l D t cc own rm nL) {x y : Int64} (hdg : decode cc pc = .ok (.lmul, 1)) (kk : XW X k n ws lv (pc + 1) (.long (x * y) :: st)) : XW X k n ws lv pc (.long y :: .long x :: st) := by
  obtain ⟨p, l1, e, R, s, m, args, below, meth, c, Q, D1, t1, A, nL1⟩ := X
  intro H locs ls hP hD hS hl
  exact lv_lmul C.1 C.2.1 hdg (kk H locs ls hP hD hS hl)
theorem xineg (C : XK X l D t cc own rm nL) {x : Int32} (hdg : decode cc pc = .ok (.ineg, 1)) (kk : XW X k n ws lv (pc + 1) (.int (-x) :: st)) : XW X k n ws lv pc (.int x :: st) := by
  obtain ⟨p, l1, e, R, s, m, args, below, meth, c, Q, D1, t1, A, nL1⟩ := X
  intro H locs ls hP hD hS hl
  exact lv_ineg C.1 C.2.1 hdg (kk H locs ls hP hD hS hl)
theorem xirem (C : XK X l D t cc own rm nL) {x y : Int32} (hdg : decode cc pc = .ok (.irem, 1)) (hne : ¬ y = 0) (kk : XW X k n ws lv (pc + 1) (.int (x - x / y * y) :: st)) : XW X k n ws lv pc (.int y :: .int x :: st) := by
  obtain ⟨p, l1, e, R, s, m, args, below, meth, c, Q, D1, t1, A, nL1⟩ := X
  intro H locs ls hP hD hS hl
  exact lv_irem C.1 C.2.1 hdg hne (kk H locs ls hP hD hS hl)
theorem xldiv (C : XK X l D t cc own rm nL) {x y : Int64} (hdg : decode cc pc = .ok (.ldiv, 1)) (hne : ¬ y = 0) (kk : XW X k n ws lv (pc + 1) (.long (x / y) :: st)) : XW X k n ws lv pc (.long y :: .long x :: st) := by
  obtain ⟨p, l1, e, R, s, m, args, below, meth, c, Q, D1, t1, A, nL1⟩ := X
  intro H locs ls hP hD hS hl
  exact lv_ldiv C.1 C.2.1 hdg hne (kk H locs ls hP hD hS hl)
theorem xlrem (C : XK X l D t cc own rm nL) {x y : Int64} (hdg : decode cc pc = .ok (.lrem, 1)) (hne : ¬ y = 0) (kk : XW X k n ws lv (pc + 1) (.long (x - x / y * y) :: st)) : XW X k n ws lv pc (.long y :: .long x :: st) := by
  obtain ⟨p, l1, e, R, s, m, args, below, meth, c, Q, D1, t1, A, nL1⟩ := X
  intro H locs ls hP hD hS hl
  exact lv_lrem C.1 C.2.1 hdg hne (kk H locs ls hP hD hS hl)
theorem xiushr (C : XK X l D t cc own rm nL) {x y : Int32} (hdg : decode cc pc = .ok (.iushr, 1)) (kk : XW X k n ws lv (pc + 1) (.int (x.toUInt32 >>> (y.toUInt32 &&& Int32.toUInt32 31)).toInt32 :: st)) : XW X k n ws lv pc (.int y :: .int x :: st) := by
  obtain ⟨p, l1, e, R, s, m, args, below, meth, c, Q, D1, t1, A, nL1⟩ := X
  intro H locs ls hP hD hS hl
  exact lv_iushr C.1 C.2.1 hdg rfl (kk H locs ls hP hD hS hl)
theorem xi2l (C : XK X l D t cc own rm nL) {x : Int32} (hdg : decode cc pc = .ok (.i2l, 1)) (kk : XW X k n ws lv (pc + 1) (.long x.toInt64 :: st)) : XW X k n ws lv pc (.int x :: st) := by
  obtain ⟨p, l1, e, R, s, m, args, below, meth, c, Q, D1, t1, A, nL1⟩ := X
  intro H locs ls hP hD hS hl
  exact lv_i2l C.1 C.2.1 hdg rfl (kk H locs ls hP hD hS hl)
theorem xl2i (C : XK X l D t cc own rm nL) {x : Int64} (hdg : decode cc pc = .ok (.l2i, 1)) (kk : XW X k n ws lv (pc + 1) (.int x.toInt32 :: st)) : XW X k n ws lv pc (.long x :: st) := by
  obtain ⟨p, l1, e, R, s, m, args, below, meth, c, Q, D1, t1, A, nL1⟩ := X
  intro H locs ls hP hD hS hl
  exact lv_l2i C.1 C.2.1 hdg rfl (kk H locs ls hP hD hS hl)
theorem xlcmp (C : XK X l D t cc own rm nL) {x y : Int64} (hdg : decode cc pc = .ok (.lcmp, 1)) (kk : XW X k n ws lv (pc + 1) (.int (lg_cmp x y) :: st)) : XW X k n ws lv pc (.long y :: .long x :: st) := by
  obtain ⟨p, l1, e, R, s, m, args, below, meth, c, Q, D1, t1, A, nL1⟩ := X
  intro H locs ls hP hD hS hl
  exact W.lcmp C.1 C.2.1 hdg (kk H locs ls hP hD hS hl)
theorem xdup (C : XK X l D t cc own rm nL) {va : Value} (hdg : decode cc pc = .ok (.dup, 1)) (hva : va.category = 1) (kk : XW X k n ws lv (pc + 1) (va :: va :: st)) : XW X k n ws lv pc (va :: st) := by
  obtain ⟨p, l1, e, R, s, m, args, below, meth, c, Q, D1, t1, A, nL1⟩ := X
  intro H locs ls hP hD hS hl
  exact lv_dup C.1 C.2.1 hdg hva (kk H locs ls hP hD hS hl)
theorem xpop (C : XK X l D t cc own rm nL) {va : Value} (hdg : decode cc pc = .ok (.pop, 1)) (hva : va.category = 1) (kk : XW X k n ws lv (pc + 1) st) : XW X k n ws lv pc (va :: st) := by
  obtain ⟨p, l1, e, R, s, m, args, below, meth, c, Q, D1, t1, A, nL1⟩ := X
  intro H locs ls hP hD hS hl
  exact lv_pop C.1 C.2.1 hdg hva (kk H locs ls hP hD hS hl)
theorem xdup2 (C : XK X l D t cc own rm nL) {va vb : Value} (hdg : decode cc pc = .ok (.dup2, 1)) (hva : va.category = 1) (hvb : vb.category = 1) (kk : XW X k n ws lv (pc + 1) (va :: vb :: va :: vb :: st)) : XW X k n ws lv pc (va :: vb :: st) := by
  obtain ⟨p, l1, e, R, s, m, args, below, meth, c, Q, D1, t1, A, nL1⟩ := X
  intro H locs ls hP hD hS hl
  exact lv_dup2_11 C.1 C.2.1 hdg hva hvb (kk H locs ls hP hD hS hl)
theorem xif_eq (C : XK X l D t cc own rm nL) {x : Int32} {off : Int} (tgt : Nat) (hdg : decode cc pc = .ok (.ifCond .eq off, 3)) (ht : (pc : Int) + off = (tgt : Int)) (kt : x = 0 → XW X k n ws lv tgt st) (kf : ¬ x = 0 → XW X k n ws lv (pc + 3) st) : XW X k n ws lv pc (.int x :: st) := by
  obtain ⟨p, l1, e, R, s, m, args, below, meth, c, Q, D1, t1, A, nL1⟩ := X
  intro H locs ls hP hD hS hl
  exact lv_if_eq C.1 C.2.1 hdg ht (fun h => kt h H locs ls hP hD hS hl) (fun h => kf h H locs ls hP hD hS hl)
theorem xicmp_eq (C : XK X l D t cc own rm nL) {x y : Int32} {off : Int} (tgt : Nat) (hdg : decode cc pc = .ok (.if_icmp .eq off, 3)) (ht : (pc : Int) + off = (tgt : Int)) (kt : x = y → XW X k n ws lv tgt st) (kf : ¬ x = y → XW X k n ws lv (pc + 3) st) : XW X k n ws lv pc (.int y :: .int x :: st) := by
  obtain ⟨p, l1, e, R, s, m, args, below, meth, c, Q, D1, t1, A, nL1⟩ := X
  intro H locs ls hP hD hS hl
  exact lv_icmp_eq C.1 C.2.1 hdg ht (fun h => kt h H locs ls hP hD hS hl) (fun h => kf h H locs ls hP hD hS hl)
theorem xif_ne (C : XK X l D t cc own rm nL) {x : Int32} {off : Int} (tgt : Nat) (hdg : decode cc pc = .ok (.ifCond .ne off, 3)) (ht : (pc : Int) + off = (tgt : Int)) (kt : ¬ x = 0 → XW X k n ws lv tgt st) (kf : x = 0 → XW X k n ws lv (pc + 3) st) : XW X k n ws lv pc (.int x :: st) := by
  obtain ⟨p, l1, e, R, s, m, args, below, meth, c, Q, D1, t1, A, nL1⟩ := X
  intro H locs ls hP hD hS hl
  exact lv_if_ne C.1 C.2.1 hdg ht (fun h => kt h H locs ls hP hD hS hl) (fun h => kf h H locs ls hP hD hS hl)
theorem xicmp_ne (C : XK X l D t cc own rm nL) {x y : Int32} {off : Int} (tgt : Nat) (hdg : decode cc pc = .ok (.if_icmp .ne off, 3)) (ht : (pc : Int) + off = (tgt : Int)) (kt : ¬ x = y → XW X k n ws lv tgt st) (kf : x = y → XW X k n ws lv (pc + 3) st) : XW X k n ws lv pc (.int y :: .int x :: st) := by
  obtain ⟨p, l1, e, R, s, m, args, below, meth, c, Q, D1, t1, A, nL1⟩ := X
  intro H locs ls hP hD hS hl
  exact lv_icmp_ne C.1 C.2.1 hdg ht (fun h => kt h H locs ls hP hD hS hl) (fun h => kf h H locs ls hP hD hS hl)
theorem xif_lt (C : XK X l D t cc own rm nL) {x : Int32} {off : Int} (tgt : Nat) (hdg : decode cc pc = .ok (.ifCond .lt off, 3)) (ht : (pc : Int) + off = (tgt : Int)) (kt : x < 0 → XW X k n ws lv tgt st) (kf : ¬ x < 0 → XW X k n ws lv (pc + 3) st) : XW X k n ws lv pc (.int x :: st) := by
  obtain ⟨p, l1, e, R, s, m, args, below, meth, c, Q, D1, t1, A, nL1⟩ := X
  intro H locs ls hP hD hS hl
  exact lv_if_lt C.1 C.2.1 hdg ht (fun h => kt h H locs ls hP hD hS hl) (fun h => kf h H locs ls hP hD hS hl)
theorem xicmp_lt (C : XK X l D t cc own rm nL) {x y : Int32} {off : Int} (tgt : Nat) (hdg : decode cc pc = .ok (.if_icmp .lt off, 3)) (ht : (pc : Int) + off = (tgt : Int)) (kt : x < y → XW X k n ws lv tgt st) (kf : ¬ x < y → XW X k n ws lv (pc + 3) st) : XW X k n ws lv pc (.int y :: .int x :: st) := by
  obtain ⟨p, l1, e, R, s, m, args, below, meth, c, Q, D1, t1, A, nL1⟩ := X
  intro H locs ls hP hD hS hl
  exact lv_icmp_lt C.1 C.2.1 hdg ht (fun h => kt h H locs ls hP hD hS hl) (fun h => kf h H locs ls hP hD hS hl)
theorem xif_ge (C : XK X l D t cc own rm nL) {x : Int32} {off : Int} (tgt : Nat) (hdg : decode cc pc = .ok (.ifCond .ge off, 3)) (ht : (pc : Int) + off = (tgt : Int)) (kt : 0 ≤ x → XW X k n ws lv tgt st) (kf : ¬ 0 ≤ x → XW X k n ws lv (pc + 3) st) : XW X k n ws lv pc (.int x :: st) := by
  obtain ⟨p, l1, e, R, s, m, args, below, meth, c, Q, D1, t1, A, nL1⟩ := X
  intro H locs ls hP hD hS hl
  exact lv_if_ge C.1 C.2.1 hdg ht (fun h => kt h H locs ls hP hD hS hl) (fun h => kf h H locs ls hP hD hS hl)
theorem xicmp_ge (C : XK X l D t cc own rm nL) {x y : Int32} {off : Int} (tgt : Nat) (hdg : decode cc pc = .ok (.if_icmp .ge off, 3)) (ht : (pc : Int) + off = (tgt : Int)) (kt : y ≤ x → XW X k n ws lv tgt st) (kf : ¬ y ≤ x → XW X k n ws lv (pc + 3) st) : XW X k n ws lv pc (.int y :: .int x :: st) := by
  obtain ⟨p, l1, e, R, s, m, args, below, meth, c, Q, D1, t1, A, nL1⟩ := X
  intro H locs ls hP hD hS hl
  exact lv_icmp_ge C.1 C.2.1 hdg ht (fun h => kt h H locs ls hP hD hS hl) (fun h => kf h H locs ls hP hD hS hl)
theorem xif_gt (C : XK X l D t cc own rm nL) {x : Int32} {off : Int} (tgt : Nat) (hdg : decode cc pc = .ok (.ifCond .gt off, 3)) (ht : (pc : Int) + off = (tgt : Int)) (kt : 0 < x → XW X k n ws lv tgt st) (kf : ¬ 0 < x → XW X k n ws lv (pc + 3) st) : XW X k n ws lv pc (.int x :: st) := by
  obtain ⟨p, l1, e, R, s, m, args, below, meth, c, Q, D1, t1, A, nL1⟩ := X
  intro H locs ls hP hD hS hl
  exact lv_if_gt C.1 C.2.1 hdg ht (fun h => kt h H locs ls hP hD hS hl) (fun h => kf h H locs ls hP hD hS hl)
theorem xicmp_gt (C : XK X l D t cc own rm nL) {x y : Int32} {off : Int} (tgt : Nat) (hdg : decode cc pc = .ok (.if_icmp .gt off, 3)) (ht : (pc : Int) + off = (tgt : Int)) (kt : y < x → XW X k n ws lv tgt st) (kf : ¬ y < x → XW X k n ws lv (pc + 3) st) : XW X k n ws lv pc (.int y :: .int x :: st) := by
  obtain ⟨p, l1, e, R, s, m, args, below, meth, c, Q, D1, t1, A, nL1⟩ := X
  intro H locs ls hP hD hS hl
  exact lv_icmp_gt C.1 C.2.1 hdg ht (fun h => kt h H locs ls hP hD hS hl) (fun h => kf h H locs ls hP hD hS hl)
theorem xif_le (C : XK X l D t cc own rm nL) {x : Int32} {off : Int} (tgt : Nat) (hdg : decode cc pc = .ok (.ifCond .le off, 3)) (ht : (pc : Int) + off = (tgt : Int)) (kt : x ≤ 0 → XW X k n ws lv tgt st) (kf : ¬ x ≤ 0 → XW X k n ws lv (pc + 3) st) : XW X k n ws lv pc (.int x :: st) := by
  obtain ⟨p, l1, e, R, s, m, args, below, meth, c, Q, D1, t1, A, nL1⟩ := X
  intro H locs ls hP hD hS hl
  exact lv_if_le C.1 C.2.1 hdg ht (fun h => kt h H locs ls hP hD hS hl) (fun h => kf h H locs ls hP hD hS hl)
theorem xicmp_le (C : XK X l D t cc own rm nL) {x y : Int32} {off : Int} (tgt : Nat) (hdg : decode cc pc = .ok (.if_icmp .le off, 3)) (ht : (pc : Int) + off = (tgt : Int)) (kt : x ≤ y → XW X k n ws lv tgt st) (kf : ¬ x ≤ y → XW X k n ws lv (pc + 3) st) : XW X k n ws lv pc (.int y :: .int x :: st) := by
  obtain ⟨p, l1, e, R, s, m, args, below, meth, c, Q, D1, t1, A, nL1⟩ := X
  intro H locs ls hP hD hS hl
  exact lv_icmp_le C.1 C.2.1 hdg ht (fun h => kt h H locs ls hP hD hS hl) (fun h => kf h H locs ls hP hD hS hl)
theorem xgoto (C : XK X l D t cc own rm nL) {off : Int} (tgt : Nat) (hdg : decode cc pc = .ok (.goto off, 3)) (ht : (pc : Int) + off = (tgt : Int)) (kk : XW X k n ws lv tgt st) : XW X k n ws lv pc st := by
  obtain ⟨p, l1, e, R, s, m, args, below, meth, c, Q, D1, t1, A, nL1⟩ := X
  intro H locs ls hP hD hS hl
  exact lv_goto C.1 C.2.1 hdg ht (kk H locs ls hP hD hS hl)
theorem xtabIn (C : XK X l D t cc own rm nL) {dflt lo hi : Int} {offs : Array Int} {len : Nat} {x : Int32} {off : Int} (tgt : Nat) (hdg : decode cc pc = .ok (.tableswitch dflt lo hi offs, len)) (h1 : ¬ x.toInt < lo) (h2 : ¬ hi < x.toInt) (ho : offs[(x.toInt - lo).toNat]? = some off) (ht : (pc : Int) + off = (tgt : Int)) (kk : XW X k n ws lv tgt st) : XW X k n ws lv pc (.int x :: st) := by
  obtain ⟨p, l1, e, R, s, m, args, below, meth, c, Q, D1, t1, A, nL1⟩ := X
  intro H locs ls hP hD hS hl
  exact lv_tableIn C.1 C.2.1 hdg h1 h2 ho ht (kk H locs ls hP hD hS hl)
theorem xtabOut (C : XK X l D t cc own rm nL) {dflt lo hi : Int} {offs : Array Int} {len : Nat} {x : Int32} (tgt : Nat) (hdg : decode cc pc = .ok (.tableswitch dflt lo hi offs, len)) (h : x.toInt < lo ∨ hi < x.toInt) (ht : (pc : Int) + dflt = (tgt : Int)) (kk : XW X k n ws lv tgt st) : XW X k n ws lv pc (.int x :: st) := by
  obtain ⟨p, l1, e, R, s, m, args, below, meth, c, Q, D1, t1, A, nL1⟩ := X
  intro H locs ls hP hD hS hl
  exact lv_tableOut C.1 C.2.1 hdg h ht (kk H locs ls hP hD hS hl)
theorem xlookup (C : XK X l D t cc own rm nL) {dflt : Int} {ps : Array (Int × Int)} {len : Nat} {x : Int32} {off : Int} (tgt : Nat) (hdg : decode cc pc = .ok (.lookupswitch dflt ps, len)) (hp : (ps.toList.zip (ps.toList.drop 1)).all (fun (a, next) => a.1 < next.1) = true) (ho : Op.lookupswitch.offset ps.toList dflt x.toInt = off) (ht : (pc : Int) + off = (tgt : Int)) (kk : XW X k n ws lv tgt st) : XW X k n ws lv pc (.int x :: st) := by
  obtain ⟨p, l1, e, R, s, m, args, below, meth, c, Q, D1, t1, A, nL1⟩ := X
  intro H locs ls hP hD hS hl
  exact lv_lookup C.1 C.2.1 hdg hp ho ht (kk H locs ls hP hD hS hl)
theorem xget (C : XK X l D t cc own rm nL) {Cn : String} {T : u_T} {N ci ix : Nat} {a : Nat} (q0 : Nat) {fs : List Value} (he : ws[q0]? = some (a, .inr (ci, fs))) (hc : cls[ci]? = some (Cn, T, N)) (hin : ∀ w ∈ u_ws Cn T N, w ∈ XT) (j : Nat) (hj : j < N) (hw : (.fieldLink own ix (T j).1 (T j).2.1 (T j).2.2.1 : Cond) ∈ XT) {v : Value} (hv : fs[j]? = some v) (hdg : decode cc pc = .ok (.getfield ix, 3)) (kk : XW X k n ws lv (pc + 3) (v :: st)) : XW X k n ws lv pc (.ref a :: st) := by
  obtain ⟨p, l1, e, R, s, m, args, below, meth, c, Q, D1, t1, A, nL1⟩ := X
  intro H locs ls hP hD hS hl
  obtain ⟨hx, hb, hml', hown, hts, hK, hXN, hA, rfl, rfl, rfl, rfl, rfl⟩ := C
  exact va_get hx hb hts hin hown hK hP q0 he hc j hj (hts _ hw) (fun _ h => h) hv hdg (kk H locs ls hP hD hS hl)
theorem xput (C : XK X l D t cc own rm nL) {Cn : String} {T : u_T} {N ci ix : Nat} {a : Nat} (q0 : Nat) {fs : List Value} {ws' : va_W} (he : ws[q0]? = some (a, .inr (ci, fs))) (hc : cls[ci]? = some (Cn, T, N)) (hin : ∀ w ∈ u_ws Cn T N, w ∈ XT) (ty0 : Nat → FieldType) (hty : ∀ k, k < N → parseFieldDescriptor (T k).2.2.1 = some (ty0 k)) (hnm : ∀ a, a < N → ∀ b, b < N → a ≠ b → (T a).2.1 ≠ (T b).2.1) (j : Nat) (hj : j < N) (hw : (.fieldLink own ix (T j).1 (T j).2.1 (T j).2.2.1 : Cond) ∈ XT) (hfin : (T j).2.2.2 = false) {v : Value} (hn : narrow (ty0 j) v = v) (hfit : fits (ty0 j) v = true) (hl0 : j < fs.length) (hdg : decode cc pc = .ok (.putfield ix, 3)) (hws : ws.set q0 (a, .inr (ci, fs.set j v)) = ws') (kk : XW X k n ws' lv (pc + 3) st) : XW X k n ws lv pc (v :: .ref a :: st) := by
  obtain ⟨p, l1, e, R, s, m, args, below, meth, c, Q, D1, t1, A, nL1⟩ := X
  intro H locs ls hP hD hS hl
  obtain ⟨hx, hb, hml', hown, hts, hK, hXN, hA, rfl, rfl, rfl, rfl, rfl⟩ := C
  subst hws
  exact va_put hx hb hts hin ty0 hty hnm hown hK hP hD hS q0 he hc j hj (hts _ hw) (fun _ h => h) hfin (hty j hj) hn hfit hl0 hdg (fun H1 locs1 hP1 hD1 hS1 => kk H1 locs1 ls hP1 hD1 hS1 hl)
theorem xiald (C : XK X l D t cc own rm nL) {a : Nat} (q0 : Nat) {N : Nat} {f : Nat → Int32} (he : ws[q0]? = some (a, .inl (t 0, N, .inl f))) (j : Nat) (hj : j < N) (hN : N < 2 ^ 31) (hdg : decode cc pc = .ok (.iaload, 1)) (kk : XW X k n ws lv (pc + 1) (.int (f j) :: st)) : XW X k n ws lv pc (.int (nI j) :: .ref a :: st) := by
  obtain ⟨p, l1, e, R, s, m, args, below, meth, c, Q, D1, t1, A, nL1⟩ := X
  intro H locs ls hP hD hS hl
  obtain ⟨hx, hb, hml', hown, hts, hK, hXN, hA, rfl, rfl, rfl, rfl, rfl⟩ := C
  refine va_iald hx hb hK hP q0 0 he rfl (vp_in_nI hj hN) hdg ?_
  rw [nI_clamp (Nat.lt_trans hj hN)]
  exact kk H locs ls hP hD hS hl
theorem xlald (C : XK X l D t cc own rm nL) {a : Nat} (q0 : Nat) {N : Nat} {f : Nat → Int64} (he : ws[q0]? = some (a, .inl (t 1, N, .inr (.inl f)))) (j : Nat) (hj : j < N) (hN : N < 2 ^ 31) (hdg : decode cc pc = .ok (.laload, 1)) (kk : XW X k n ws lv (pc + 1) (.long (f j) :: st)) : XW X k n ws lv pc (.int (nI j) :: .ref a :: st) := by
  obtain ⟨p, l1, e, R, s, m, args, below, meth, c, Q, D1, t1, A, nL1⟩ := X
  intro H locs ls hP hD hS hl
  obtain ⟨hx, hb, hml', hown, hts, hK, hXN, hA, rfl, rfl, rfl, rfl, rfl⟩ := C
  refine va_lald hx hb hK hP q0 1 he rfl (vp_in_nI hj hN) hdg ?_
  rw [nI_clamp (Nat.lt_trans hj hN)]
  exact kk H locs ls hP hD hS hl
theorem xaald (C : XK X l D t cc own rm nL) {a : Nat} (q0 : Nat) {N : Nat} {f : Nat → Option Nat} (he : ws[q0]? = some (a, .inl (t 2, N, .inr (.inr (.inr (.inr f)))))) (j : Nat) (hj : j < N) (hN : N < 2 ^ 31) {v : Nat} (hv : f j = some v) (hdg : decode cc pc = .ok (.aaload, 1)) (kk : XW X k n ws lv (pc + 1) (.ref v :: st)) : XW X k n ws lv pc (.int (nI j) :: .ref a :: st) := by
  obtain ⟨p, l1, e, R, s, m, args, below, meth, c, Q, D1, t1, A, nL1⟩ := X
  intro H locs ls hP hD hS hl
  obtain ⟨hx, hb, hml', hown, hts, hK, hXN, hA, rfl, rfl, rfl, rfl, rfl⟩ := C
  refine W.aald (v := va_rf (f j)) (ty := .array .int) hx hb (hP q0 _ he) ((hK.2 2 _ rfl).1 N (fun j => va_rf (f j))) rfl (fun q => by cases q) (by show ¬ (_ < 0 ∨ (arrV _ _ _).slots.size ≤ _); rw [arrV_size]; exact vp_in_nI hj hN) (by rw [nI_clamp (Nat.lt_trans hj hN)]; show (arrV _ _ _).slots[_]? = _; rw [arrV_read _ _ hj]) rfl rfl hdg ?_
  rw [hv]
  exact kk H locs ls hP hD hS hl
theorem xiast (C : XK X l D t cc own rm nL) {a : Nat} (q0 : Nat) {N : Nat} {f : Nat → Int32} {ws' : va_W} (he : ws[q0]? = some (a, .inl (t 0, N, .inl f))) (j : Nat) (hj : j < N) (hN : N < 2 ^ 31) {x : Int32} (hdg : decode cc pc = .ok (.iastore, 1)) (hws : ws.set q0 (a, .inl (t 0, N, .inl (upd f j x))) = ws') (kk : XW X k n ws' lv (pc + 1) st) : XW X k n ws lv pc (.int x :: .int (nI j) :: .ref a :: st) := by
  obtain ⟨p, l1, e, R, s, m, args, below, meth, c, Q, D1, t1, A, nL1⟩ := X
  intro H locs ls hP hD hS hl
  obtain ⟨hx, hb, hml', hown, hts, hK, hXN, hA, rfl, rfl, rfl, rfl, rfl⟩ := C
  subst hws
  refine va_iast hx hb hK hP hD hS q0 0 he rfl (vp_in_nI hj hN) hdg (fun H1 locs1 hP1 hD1 hS1 => ?_)
  rw [nI_clamp (Nat.lt_trans hj hN)] at hP1 hD1
  exact kk H1 locs1 ls hP1 hD1 hS1 hl
theorem xlast (C : XK X l D t cc own rm nL) {a : Nat} (q0 : Nat) {N : Nat} {f : Nat → Int64} {ws' : va_W} (he : ws[q0]? = some (a, .inl (t 1, N, .inr (.inl f)))) (j : Nat) (hj : j < N) (hN : N < 2 ^ 31) {x : Int64} (hdg : decode cc pc = .ok (.lastore, 1)) (hws : ws.set q0 (a, .inl (t 1, N, .inr (.inl (vp_updL f j x)))) = ws') (kk : XW X k n ws' lv (pc + 1) st) : XW X k n ws lv pc (.long x :: .int (nI j) :: .ref a :: st) := by
  obtain ⟨p, l1, e, R, s, m, args, below, meth, c, Q, D1, t1, A, nL1⟩ := X
  intro H locs ls hP hD hS hl
  obtain ⟨hx, hb, hml', hown, hts, hK, hXN, hA, rfl, rfl, rfl, rfl, rfl⟩ := C
  subst hws
  refine va_last hx hb hK hP hD hS q0 1 he rfl (vp_in_nI hj hN) hdg (fun H1 locs1 hP1 hD1 hS1 => ?_)
  rw [nI_clamp (Nat.lt_trans hj hN)] at hP1 hD1
  exact kk H1 locs1 ls hP1 hD1 hS1 hl
theorem xret {v : Int32} {ty : FieldType} {post : Option Value → va_W → Prop} (C : XK X l D t cc own rm nL) (hR : XR X k n (some ty) post) (hn : narrow ty (.int v) = .int v) (hdg : decode cc pc = .ok (.ireturn, 1)) (hp : post (some (.int v)) ws) : XW X k n ws lv pc [.int v] := by
  obtain ⟨p, l1, e, R, s, m, args, below, meth, c, Q, D1, t1, A, nL1⟩ := X
  intro H locs ls hP hD hS hl
  obtain ⟨hr, hlk, rfl⟩ := hR
  exact W.zret C.1 C.2.1 hr hn (fun u hu _ => ⟨⟨_, _, rfl, hp, by rw [hu]; exact hP, hD⟩, hS.F hu⟩) hS.2.2 hdg hlk
theorem xlret {v : Int64} {post : Option Value → va_W → Prop} (C : XK X l D t cc own rm nL) (hR : XR X k n (some .long) post) (hdg : decode cc pc = .ok (.lreturn, 1)) (hp : post (some (.long v)) ws) : XW X k n ws lv pc [.long v] := by
  obtain ⟨p, l1, e, R, s, m, args, below, meth, c, Q, D1, t1, A, nL1⟩ := X
  intro H locs ls hP hD hS hl
  obtain ⟨hr, hlk, rfl⟩ := hR
  exact W.lret C.1 C.2.1 hr (fun u hu _ => ⟨⟨_, _, rfl, hp, by rw [hu]; exact hP, hD⟩, hS.F hu⟩) hS.2.2 hdg hlk
theorem xvret {post : Option Value → va_W → Prop} (C : XK X l D t cc own rm nL) (hR : XR X k n none post) (hdg : decode cc pc = .ok (.return_, 1)) (hp : post none ws) : XW X k n ws lv pc [] := by
  obtain ⟨p, l1, e, R, s, m, args, below, meth, c, Q, D1, t1, A, nL1⟩ := X
  intro H locs ls hP hD hS hl
  obtain ⟨hr, hlk, rfl⟩ := hR
  exact W.vret C.1 C.2.1 hr (fun u hu _ => ⟨⟨_, _, rfl, hp, by rw [hu]; exact hP, hD⟩, hS.F hu⟩) hS.2.2 hdg hlk
theorem xwiden {k' n' : Nat} (h1 : k ≤ k') (h2 : n ≤ n') (kk : XW X k' n' ws lv pc st) : XW X k n ws lv pc st := by
  obtain ⟨p, l1, e, R, s, m, args, below, meth, c, Q, D1, t1, A, nL1⟩ := X
  intro H locs ls hP hD hS hl
  exact W.widen h1 h2 (kk H locs ls hP hD hS hl)
theorem xrun_of {p : Program} {l1 : Launch} {e : Env} {R : Room} {s : State} {m : MethodId} {args : Array Value} {below : List Frame} {meth : Method} {c : Code} {Q : State → Prop} {D1 : va_G} {t1 : Nat → ClassId} {A : Nat → Prop} {nL1 : Nat} {H : Heap} {locs : List Loc} {ls : Array Slot} {w1 w2 : va_W} {mc ms : Nat} {post : Option Value → va_W → Prop} {rest st0 : List Value} {pc k n : Nat} {lv : List (Nat × Value)} {a : Array Value}
    (hP : va_P D1 cls (w1 ++ w2) H) (hD : va_D A (w1 ++ w2)) (hS : va_S A s.heap H locs) (hA : ∀ q : Nat, s.heap.size ≤ q → A q) (hl : lv_has ls nL1 lv)
    (hr : va_Run p l1 e R s m args below meth c H locs k n mc ms (F0 m pc ls st0) rest (CQ D1 post (va_A w1 H.size) a) (va_A w1 H.size))
    (kk : ∀ v w, post v w → XW (p, l1, e, R, s, m, args, below, meth, c, Q, D1, t1, A, nL1) (k + mc) (n + ms) (w ++ w2) lv (pc + 3) (v.toList ++ rest)) :
    W p l1 e R s m args below meth c H locs k n Q (F0 m pc ls st0) := by
  have hF : ∀ q, va_A w1 H.size q → A q := by
    intro q h
    rcases h with ⟨j, e1, h⟩ | h
    · exact hD.2 j (q, e1) (by rw [List.getElem?_append_left (List.getElem?_eq_some_iff.mp h).1]; exact h)
    · exact hA q (Nat.le_trans hS.1 h)
  intro T hT Xs
  obtain ⟨v, st₀, u, T', L, h0, X', hL, e1, e2, ⟨⟨v', w, hv, hp, hPw, hDw⟩, hz, hk⟩, stp⟩ := hr T hT Xs
  cases hv
  rw [h0] at hz hk
  rw [← e1] at hz hk hPw
  have hP2 : va_P D1 cls w2 H := fun j q hq => hP (w1.length + j) q (by rw [List.getElem?_append_right (by omega), Nat.add_sub_cancel_left]; exact hq)
  have apart : ∀ (j : Nat) (q : Nat × va_E), w2[j]? = some q → q.1 < H.size ∧ ¬ va_A w1 H.size q.1 := by
    intro j q hq
    have hlt := (hP2 j q hq).lt
    refine ⟨hlt, fun h => ?_⟩
    rcases h with ⟨j2, e9, h⟩ | h
    · have hj2 := (List.getElem?_eq_some_iff.mp h).1
      have := hD.1 j2 (w1.length + j) (q.1, e9) q (by rw [List.getElem?_append_left hj2]; exact h) (by rw [List.getElem?_append_right (by omega), Nat.add_sub_cancel_left]; exact hq) rfl
      omega
    · omega
  have hD2 : va_D A w2 := ⟨fun i j x y hx hy hxy => by
      have := hD.1 (w1.length + i) (w1.length + j) x y (by rw [List.getElem?_append_right (by omega), Nat.add_sub_cancel_left]; exact hx) (by rw [List.getElem?_append_right (by omega), Nat.add_sub_cancel_left]; exact hy) hxy
      omega, fun j q hq => hD.2 (w1.length + j) q (by rw [List.getElem?_append_right (by omega), Nat.add_sub_cancel_left]; exact hq)⟩
  obtain ⟨t2, a1, b1⟩ := kk v w hp T'.heap (locs ++ L) ls (va_P.app hPw (fun j q hq => (hP2 j q hq).kept (hk q.1 (apart j q hq).1 (apart j q hq).2)))
    (va_D.app (hDw.weaken (fun _ q _ h => hF q.1 h)) hD2 (fun i j x y hx hy hxy => (apart j y hy).2 (by rw [← hxy]; exact hDw.2 i x hx)))
    ⟨Nat.le_trans hS.1 hz, fun q h1 h2 => by rw [hk q (Nat.lt_of_lt_of_le h1 hS.1) (fun z => h2 (hF q z))]; exact hS.2.1 q h1 h2, fun q hq => by
      rcases List.mem_append.mp hq with h | h
      · exact hS.2.2 q h
      · exact hF _ (hL q h)⟩ hl T' rfl X'
  exact ⟨t2, stp t2 a1, b1⟩
/-- an instance method's call (not a constructor): the callee's cells are w1, the rest stays -/
theorem xcallV (C : XK X l D t cc own rm nL) {w1 w2 : va_W} {y : MethodName} {b : ByteArray} {nb ix mc ms : Nat} {ret : Option FieldType} {rm1 : Room} {As rest : List Value} {a : Nat} {post : Option Value → va_W → Prop} (hM : CT l D t y b nb ret rm1 mc ms (.ref a :: As) w1 post) (q0 : Nat) {ci : Nat} {fs : List Value} {T : u_T} {N : Nat} (he : w1[q0]? = some (a, .inr (ci, fs))) (hc : cls[ci]? = some (y.cls, T, N))
    (hml : (.methodLink own ix y : Cond) ∈ XT) (him : (.instanceMethod y : Cond) ∈ XT) (hse : (.selects y.cls y y : Cond) ∈ XT) (hin : (.initialized y.cls : Cond) ∈ XT) (hco : (.code y b nb ret : Cond) ∈ XT) (hd : y.cls ≠ "java/lang/invoke/MethodHandle" ∧ y.cls ≠ "java/lang/invoke/VarHandle" ∧ (parseMethodDescriptor y.desc).map (fun d => d.parameters.length) = some As.length)
    (hR : rm1.frames + 1 ≤ rm.frames ∧ 8 + (nb + 11) + rm1.locals ≤ rm.locals) (hrc : rm1.cells = mc ∧ rm1.slots = ms) (hsm : k + mc ≤ rm.cells ∧ n + ms ≤ rm.slots) (hst : st = As.reverse ++ .ref a :: rest) (hrm : (rest.map fun v => v.category).sum ≤ 8) (hdg : decode cc pc = .ok (.invokevirtual ix, 3)) (kk : ∀ v w, post v w → XW X (k + mc) (n + ms) (w ++ w2) lv (pc + 3) (v.toList ++ rest)) : XW X k n (w1 ++ w2) lv pc st := by
  subst hst
  obtain ⟨p, l1, e, R, s, m, args, below, meth, c, Q, D1, t1, A, nL1⟩ := X
  intro H locs ls hP hD hS hl
  obtain ⟨hx, hb, hml', hown, hts, hK, hXN, hA, rfl, rfl, rfl, rfl, rfl⟩ := C
  have hP1 : va_P D1 cls w1 H := fun j q hq => hP j q (by rw [List.getElem?_append_left (List.getElem?_eq_some_iff.mp hq).1]; exact hq)
  have hD1 : va_D (fun _ : Nat => True) w1 := ⟨fun i j x y hx hy hxy => hD.1 i j x y (by rw [List.getElem?_append_left (List.getElem?_eq_some_iff.mp hx).1]; exact hx) (by rw [List.getElem?_append_left (List.getElem?_eq_some_iff.mp hy).1]; exact hy) hxy, fun _ _ _ => trivial⟩
  have hcw : CallW R s args own y.cls ix y b nb ret (.code y b nb ret :: XT) rm1 mc ms As.length := ⟨callB_of As.length hts (xGoodT hco) rfl hrc.1 hrc.2 (hts _ hin) (hts _ hml) hd hR, hts _ him, hts _ hse⟩
  exact xrun_of (t1 := t1) hP hD hS hA hl (va_runV ⟨hx, hb, hml', hown, hts⟩ (hM H.size) hcw ⟨CP.blind _ _ _ _ _, va_recv hK hP1 hc he, fun U hU hW => ⟨rfl, by rw [hU], by rw [hU]; exact hP1, va_K.moved hW.alike hK, hXN.warm hW, hD1⟩⟩ rfl rfl hl.1 rfl (lv_room hrm) hdg hsm) kk
theorem xcallS (C : XK X l D t cc own rm nL) {w1 w2 : va_W} {y : MethodName} {b : ByteArray} {nb ix mc ms : Nat} {ret : Option FieldType} {rm1 : Room} {As rest : List Value} {post : Option Value → va_W → Prop} (hM : CT l D t y b nb ret rm1 mc ms As w1 post)
    (hml : (.methodLink own ix y : Cond) ∈ XT) (hstt : (.static y : Cond) ∈ XT) (hin : (.initialized y.cls : Cond) ∈ XT) (hco : (.code y b nb ret : Cond) ∈ XT) (hd : y.cls ≠ "java/lang/invoke/MethodHandle" ∧ y.cls ≠ "java/lang/invoke/VarHandle" ∧ (parseMethodDescriptor y.desc).map (fun d => d.parameters.length) = some As.length)
    (hR : rm1.frames + 1 ≤ rm.frames ∧ 8 + (nb + 11) + rm1.locals ≤ rm.locals) (hrc : rm1.cells = mc ∧ rm1.slots = ms) (hsm : k + mc ≤ rm.cells ∧ n + ms ≤ rm.slots) (hst : st = As.reverse ++ rest) (hrm : (rest.map fun v => v.category).sum ≤ 8) (hdg : decode cc pc = .ok (.invokestatic ix, 3)) (kk : ∀ v w, post v w → XW X (k + mc) (n + ms) (w ++ w2) lv (pc + 3) (v.toList ++ rest)) : XW X k n (w1 ++ w2) lv pc st := by
  subst hst
  obtain ⟨p, l1, e, R, s, m, args, below, meth, c, Q, D1, t1, A, nL1⟩ := X
  intro H locs ls hP hD hS hl
  obtain ⟨hx, hb, hml', hown, hts, hK, hXN, hA, rfl, rfl, rfl, rfl, rfl⟩ := C
  have hP1 : va_P D1 cls w1 H := fun j q hq => hP j q (by rw [List.getElem?_append_left (List.getElem?_eq_some_iff.mp hq).1]; exact hq)
  have hD1 : va_D (fun _ : Nat => True) w1 := ⟨fun i j x y hx hy hxy => hD.1 i j x y (by rw [List.getElem?_append_left (List.getElem?_eq_some_iff.mp hx).1]; exact hx) (by rw [List.getElem?_append_left (List.getElem?_eq_some_iff.mp hy).1]; exact hy) hxy, fun _ _ _ => trivial⟩
  exact xrun_of (t1 := t1) hP hD hS hA hl (va_runS ⟨hx, hb, hml', hown, hts⟩ (hM H.size) ⟨callB_of As.length hts (xGoodT hco) rfl hrc.1 hrc.2 (hts _ hin) (hts _ hml) hd hR, hts _ hstt⟩ ⟨CP.blind _ _ _ _ _, fun U hU hW => ⟨rfl, by rw [hU], by rw [hU]; exact hP1, va_K.moved hW.alike hK, hXN.warm hW, hD1⟩⟩ rfl rfl hl.1 rfl (lv_room hrm) hdg hsm) kk
theorem xcallI (C : XK X l D t cc own rm nL) {w1 w2 : va_W} {y : MethodName} {b : ByteArray} {nb ix mc ms : Nat} {rm1 : Room} {As rest : List Value} {a : Nat} {post : Option Value → va_W → Prop} (hM : CT l D t y b nb none rm1 mc ms (.ref a :: As) w1 post)
    (hml : (.methodLink own ix y : Cond) ∈ XT) (him : (.instanceMethod y : Cond) ∈ XT) (hin : (.initialized y.cls : Cond) ∈ XT) (hy1 : y.name = "<init>") (hco : (.code y b nb none : Cond) ∈ XT) (hd : y.cls ≠ "java/lang/invoke/MethodHandle" ∧ y.cls ≠ "java/lang/invoke/VarHandle" ∧ (parseMethodDescriptor y.desc).map (fun d => d.parameters.length) = some As.length)
    (hR : rm1.frames + 1 ≤ rm.frames ∧ 8 + (nb + 11) + rm1.locals ≤ rm.locals) (hrc : rm1.cells = mc ∧ rm1.slots = ms) (hsm : k + mc ≤ rm.cells ∧ n + ms ≤ rm.slots) (hst : st = As.reverse ++ .ref a :: rest) (hrm : (rest.map fun v => v.category).sum ≤ 8) (hdg : decode cc pc = .ok (.invokespecial ix, 3)) (kk : ∀ v w, post v w → XW X (k + mc) (n + ms) (w ++ w2) lv (pc + 3) (v.toList ++ rest)) : XW X k n (w1 ++ w2) lv pc st := by
  subst hst
  obtain ⟨p, l1, e, R, s, m, args, below, meth, c, Q, D1, t1, A, nL1⟩ := X
  intro H locs ls hP hD hS hl
  obtain ⟨hx, hb, hml', hown, hts, hK, hXN, hA, rfl, rfl, rfl, rfl, rfl⟩ := C
  have hP1 : va_P D1 cls w1 H := fun j q hq => hP j q (by rw [List.getElem?_append_left (List.getElem?_eq_some_iff.mp hq).1]; exact hq)
  have hD1 : va_D (fun _ : Nat => True) w1 := ⟨fun i j x y hx hy hxy => hD.1 i j x y (by rw [List.getElem?_append_left (List.getElem?_eq_some_iff.mp hx).1]; exact hx) (by rw [List.getElem?_append_left (List.getElem?_eq_some_iff.mp hy).1]; exact hy) hxy, fun _ _ _ => trivial⟩
  exact xrun_of (t1 := t1) hP hD hS hA hl (va_runI ⟨hx, hb, hml', hown, hts⟩ (hM H.size) ⟨callB_of As.length hts (xGoodT hco) rfl hrc.1 hrc.2 (hts _ hin) (hts _ hml) hd hR, hy1, hts _ him⟩ ⟨CP.blind _ _ _ _ _, fun U hU hW => ⟨rfl, by rw [hU], by rw [hU]; exact hP1, va_K.moved hW.alike hK, hXN.warm hW, hD1⟩⟩ rfl rfl hl.1 rfl (lv_room hrm) hdg hsm) kk
theorem xcallSN (C : XK X l D t cc own rm nL) {w1 w2 : va_W} {y : MethodName} {b : ByteArray} {nb ix mc ms : Nat} {ret : Option FieldType} {rm1 : Room} {As rest : List Value} {host : String} {post : Option Value → va_W → Prop} (hM : CT l D t y b nb ret rm1 mc ms As w1 post)
    (hml : ∀ s : State, XN s → va_Nw (.methodLinkNest own ix y host) s) (hstt : (.static y : Cond) ∈ XT) (hin : (.initialized y.cls : Cond) ∈ XT) (hco : (.code y b nb ret : Cond) ∈ XT) (hd : y.cls ≠ "java/lang/invoke/MethodHandle" ∧ y.cls ≠ "java/lang/invoke/VarHandle" ∧ (parseMethodDescriptor y.desc).map (fun d => d.parameters.length) = some As.length)
    (hR : rm1.frames + 1 ≤ rm.frames ∧ 8 + (nb + 11) + rm1.locals ≤ rm.locals) (hrc : rm1.cells = mc ∧ rm1.slots = ms) (hsm : k + mc ≤ rm.cells ∧ n + ms ≤ rm.slots) (hst : st = As.reverse ++ rest) (hrm : (rest.map fun v => v.category).sum ≤ 8) (hdg : decode cc pc = .ok (.invokestatic ix, 3)) (kk : ∀ v w, post v w → XW X (k + mc) (n + ms) (w ++ w2) lv (pc + 3) (v.toList ++ rest)) : XW X k n (w1 ++ w2) lv pc st := by
  subst hst
  obtain ⟨p, l1, e, R, s, m, args, below, meth, c, Q, D1, t1, A, nL1⟩ := X
  intro H locs ls hP hD hS hl
  obtain ⟨hx, hb, hml', hown, hts, hK, hXN, hA, rfl, rfl, rfl, rfl, rfl⟩ := C
  have hP1 : va_P D1 cls w1 H := fun j q hq => hP j q (by rw [List.getElem?_append_left (List.getElem?_eq_some_iff.mp hq).1]; exact hq)
  have hD1 : va_D (fun _ : Nat => True) w1 := ⟨fun i j x y hx hy hxy => hD.1 i j x y (by rw [List.getElem?_append_left (List.getElem?_eq_some_iff.mp hx).1]; exact hx) (by rw [List.getElem?_append_left (List.getElem?_eq_some_iff.mp hy).1]; exact hy) hxy, fun _ _ _ => trivial⟩
  exact xrun_of (t1 := t1) hP hD hS hA hl (va_runSN ⟨hx, hb, hml', hown, hts⟩ (hM H.size) ⟨va_cnB As.length hts (xGoodT hco) rfl hrc.1 hrc.2 (hml _ hXN) (hts _ hin) hd hR, hts _ hstt, trivial⟩ ⟨CP.blind _ _ _ _ _, fun U hU hW => ⟨rfl, by rw [hU], by rw [hU]; exact hP1, va_K.moved hW.alike hK, hXN.warm hW, hD1⟩⟩ rfl rfl hl.1 rfl (lv_room hrm) hdg hsm) kk
theorem xcallIN (C : XK X l D t cc own rm nL) {w1 w2 : va_W} {y : MethodName} {b : ByteArray} {nb ix mc ms : Nat} {rm1 : Room} {As rest : List Value} {a : Nat} {host : String} {post : Option Value → va_W → Prop} (hM : CT l D t y b nb none rm1 mc ms (.ref a :: As) w1 post)
    (hml : ∀ s : State, XN s → va_Nw (.methodLinkNest own ix y host) s) (him : (.instanceMethod y : Cond) ∈ XT) (hin : (.initialized y.cls : Cond) ∈ XT) (hy1 : y.name = "<init>") (hco : (.code y b nb none : Cond) ∈ XT) (hd : y.cls ≠ "java/lang/invoke/MethodHandle" ∧ y.cls ≠ "java/lang/invoke/VarHandle" ∧ (parseMethodDescriptor y.desc).map (fun d => d.parameters.length) = some As.length)
    (hR : rm1.frames + 1 ≤ rm.frames ∧ 8 + (nb + 11) + rm1.locals ≤ rm.locals) (hrc : rm1.cells = mc ∧ rm1.slots = ms) (hsm : k + mc ≤ rm.cells ∧ n + ms ≤ rm.slots) (hst : st = As.reverse ++ .ref a :: rest) (hrm : (rest.map fun v => v.category).sum ≤ 8) (hdg : decode cc pc = .ok (.invokespecial ix, 3)) (kk : ∀ v w, post v w → XW X (k + mc) (n + ms) (w ++ w2) lv (pc + 3) (v.toList ++ rest)) : XW X k n (w1 ++ w2) lv pc st := by
  subst hst
  obtain ⟨p, l1, e, R, s, m, args, below, meth, c, Q, D1, t1, A, nL1⟩ := X
  intro H locs ls hP hD hS hl
  obtain ⟨hx, hb, hml', hown, hts, hK, hXN, hA, rfl, rfl, rfl, rfl, rfl⟩ := C
  have hP1 : va_P D1 cls w1 H := fun j q hq => hP j q (by rw [List.getElem?_append_left (List.getElem?_eq_some_iff.mp hq).1]; exact hq)
  have hD1 : va_D (fun _ : Nat => True) w1 := ⟨fun i j x y hx hy hxy => hD.1 i j x y (by rw [List.getElem?_append_left (List.getElem?_eq_some_iff.mp hx).1]; exact hx) (by rw [List.getElem?_append_left (List.getElem?_eq_some_iff.mp hy).1]; exact hy) hxy, fun _ _ _ => trivial⟩
  exact xrun_of (t1 := t1) hP hD hS hA hl (va_runIN ⟨hx, hb, hml', hown, hts⟩ (hM H.size) ⟨va_cnB As.length hts (xGoodT hco) rfl hrc.1 hrc.2 (hml _ hXN) (hts _ hin) hd hR, hy1, hts _ him⟩ ⟨CP.blind _ _ _ _ _, fun U hU hW => ⟨rfl, by rw [hU], by rw [hU]; exact hP1, va_K.moved hW.alike hK, hXN.warm hW, hD1⟩⟩ rfl rfl hl.1 rfl (lv_room hrm) hdg hsm) kk
theorem xmin (C : XK X l D t cc own rm nL) {ix : Nat} {x y : Int32} (hw : (.methodLink own ix Lib.Math.min.name : Cond) ∈ XT) (h1 : 1 ≤ rm.frames) (h2 : (st.map fun v => v.category).sum + 13 ≤ rm.locals) (h3 : k ≤ rm.cells ∧ n ≤ rm.slots) (hdg : decode cc pc = .ok (.invokestatic ix, 3)) (kk : XW X k n ws lv (pc + 3) (.int (if y < x then y else x) :: st)) : XW X k n ws lv pc (.int y :: .int x :: st) := by
  obtain ⟨p, l1, e, R, s, m, args, below, meth, c, Q, D1, t1, A, nL1⟩ := X
  intro H locs ls hP hD hS hl
  obtain ⟨hx, hb, hml', hown, hts, hK, hXN, hA, rfl, rfl, rfl, rfl, rfl⟩ := C
  exact va_mmin hx hb (hml'.trans hl.1.symm) hown (hts _ hw) (hts _ xst_J9_min) (hts _ xin_J9) (hts _ xco_J9_min) h1 h2 h3.1 h3.2 hdg (kk H locs ls hP hD hS hl)
theorem xmax (C : XK X l D t cc own rm nL) {ix : Nat} {x y : Int32} (hw : (.methodLink own ix Lib.Math.max.name : Cond) ∈ XT) (h1 : 1 ≤ rm.frames) (h2 : (st.map fun v => v.category).sum + 13 ≤ rm.locals) (h3 : k ≤ rm.cells ∧ n ≤ rm.slots) (hdg : decode cc pc = .ok (.invokestatic ix, 3)) (kk : XW X k n ws lv (pc + 3) (.int (if x < y then y else x) :: st)) : XW X k n ws lv pc (.int y :: .int x :: st) := by
  obtain ⟨p, l1, e, R, s, m, args, below, meth, c, Q, D1, t1, A, nL1⟩ := X
  intro H locs ls hP hD hS hl
  obtain ⟨hx, hb, hml', hown, hts, hK, hXN, hA, rfl, rfl, rfl, rfl, rfl⟩ := C
  exact va_mmax hx hb (hml'.trans hl.1.symm) hown (hts _ hw) (hts _ xst_J9_max) (hts _ xin_J9) (hts _ xco_J9_max) h1 h2 h3.1 h3.2 hdg (kk H locs ls hP hD hS hl)
theorem xcopy (C : XK X l D t cc own rm nL) {ix : Nat} (q0 q1 : Nat) {a0 a1 n0 n1 : Nat} {f g : Nat → Int32} {ws' : va_W} (ha0 : ws[q0]? = some (a0, .inl (t 0, n0, .inl f))) (ha1 : ws[q1]? = some (a1, .inl (t 0, n1, .inl g))) (N : Nat) (hN : N < 2 ^ 31) (hn0 : N ≤ n0) (hn1 : N ≤ n1) (hw : (.methodLink own ix arraycopyName : Cond) ∈ XT) (h1 : 1 ≤ rm.frames) (h2 : (st.map fun v => v.category).sum + (nativeFrameWords "java/lang/System" "arraycopy" 5 + 11) ≤ rm.locals) (hdg : decode cc pc = .ok (.invokestatic ix, 3)) (hws : ws.set q1 (a1, .inl (t 0, n1, .inl (va_cpy f g 0 0 N))) = ws') (kk : XW X k n ws' lv (pc + 3) st) : XW X k n ws lv pc (.int (nI N) :: .int 0 :: .ref a1 :: .int 0 :: .ref a0 :: st) := by
  obtain ⟨p, l1, e, R, s, m, args, below, meth, c, Q, D1, t1, A, nL1⟩ := X
  intro H locs ls hP hD hS hl
  obtain ⟨hx, hb, hml', hown, hts, hK, hXN, hA, rfl, rfl, rfl, rfl, rfl⟩ := C
  subst hws
  have hc : (nI N).toNatClampNeg = N := nI_clamp hN
  have h0 : (0 : Int32).toNatClampNeg = 0 := by decide +kernel
  refine va_copyi hx hb (hml'.trans hl.1.symm) hown (hts _ hw) (hts _ xna_J10_copy) (hts _ xst_J10_copy) (hts _ xin_J10) hK hP hD hS q0 q1 0 0 (ty := .int) ha0 ha1 rfl rfl rfl (by decide +kernel) (by decide +kernel) (nI_pos hN) (by rw [hc, h0]; omega) (by rw [hc, h0]; omega) (fun _ _ => rfl) h1 h2 hdg (fun H1 locs1 hP1 hD1 hS1 => ?_)
  rw [hc, h0] at hP1 hD1
  exact kk H1 locs1 ls hP1 hD1 hS1 hl
theorem xobj (C : XK X l D t cc own rm nL) {ix a : Nat} (hw : (.methodLink own ix objectInit : Cond) ∈ XT) (h1 : 1 ≤ rm.frames) (h2 : (st.map fun v => v.category).sum + 12 ≤ rm.locals) (hdg : decode cc pc = .ok (.invokespecial ix, 3)) (kk : XW X k n ws lv (pc + 3) st) : XW X k n ws lv pc (.ref a :: st) := by
  obtain ⟨p, l1, e, R, s, m, args, below, meth, c, Q, D1, t1, A, nL1⟩ := X
  intro H locs ls hP hD hS hl
  obtain ⟨hx, hb, hml', hown, hts, hK, hXN, hA, rfl, rfl, rfl, rfl, rfl⟩ := C
  refine W.objInit hx hb hown (hts _ hw) (hts _ xim_O_init) (hts _ xco_O_init) rfl (by rw [hml']; exact hl.1) rfl hdg h1 (by show 2 * 0 + _ + 12 ≤ _; omega) ?_
  exact W.eq (g2 := F0 m (pc + 3) ls st) rfl (kk H locs ls hP hD hS hl)
theorem xputF (C : XK X l D t cc own rm nL) {Cn : String} {T : u_T} {N ci ix : Nat} {a : Nat} (q0 : Nat) {fs : List Value} {ws' : va_W} (he : ws[q0]? = some (a, .inr (ci, fs))) (hc : cls[ci]? = some (Cn, T, N)) (hin : ∀ w ∈ u_ws Cn T N, w ∈ XT) (ty0 : Nat → FieldType) (hty : ∀ k, k < N → parseFieldDescriptor (T k).2.2.1 = some (ty0 k)) (hnm : ∀ a, a < N → ∀ b, b < N → a ≠ b → (T a).2.1 ≠ (T b).2.1) (j : Nat) (hj : j < N) (hw : (.fieldLink own ix (T j).1 (T j).2.1 (T j).2.2.1 : Cond) ∈ XT) (hfin : (T j).2.2.2 = true) (hdecl : (T j).1 = own) (hini : XI X) {v : Value} (hn : narrow (ty0 j) v = v) (hfit : fits (ty0 j) v = true) (hl0 : j < fs.length) (hdg : decode cc pc = .ok (.putfield ix, 3)) (hws : ws.set q0 (a, .inr (ci, fs.set j v)) = ws') (kk : XW X k n ws' lv (pc + 3) st) : XW X k n ws lv pc (v :: .ref a :: st) := by
  obtain ⟨p, l1, e, R, s, m, args, below, meth, c, Q, D1, t1, A, nL1⟩ := X
  intro H locs ls hP hD hS hl
  obtain ⟨hx, hb, hml', hown, hts, hK, hXN, hA, rfl, rfl, rfl, rfl, rfl⟩ := C
  subst hws
  exact va_putF hx hb hts hin ty0 hty hnm hown hK hP hD hS q0 he hc j hj (hts _ hw) (fun _ h => h) hfin hini hdecl (hty j hj) hn hfit hl0 hdg (fun H1 locs1 hP1 hD1 hS1 => kk H1 locs1 ls hP1 hD1 hS1 hl)
theorem xnew (C : XK X l D t cc own rm nL) {Cn : String} {T : u_T} {N ci ix : Nat} {fs : List Value} (hc : cls[ci]? = some (Cn, T, N)) (hin : ∀ w ∈ u_ws Cn T N, w ∈ XT) (ty0 : Nat → FieldType) (hty : ∀ k, k < N → parseFieldDescriptor (T k).2.2.1 = some (ty0 k)) (hcl : (.classLink own ix Cn : Cond) ∈ XT) (hit : (.instantiable Cn N : Cond) ∈ XT) (hini : (.initialized Cn : Cond) ∈ XT) (hfs : ∀ j, j < N → defaultValue (ty0 j) = vp_V fs j) (h1 : k + 1 ≤ rm.cells) (h2 : n + N ≤ rm.slots) (hdg : decode cc pc = .ok (.new ix, 3)) (kk : ∀ q, XW X (k + 1) (n + N) (ws ++ [(q, .inr (ci, fs))]) lv (pc + 3) (.ref q :: st)) : XW X k n ws lv pc st := by
  obtain ⟨p, l1, e, R, s, m, args, below, meth, c, Q, D1, t1, A, nL1⟩ := X
  intro H locs ls hP hD hS hl
  obtain ⟨hx, hb, hml', hown, hts, hK, hXN, hA, rfl, rfl, rfl, rfl, rfl⟩ := C
  exact va_new hx hb hts hin ty0 hty hown (hts _ hcl) (hts _ hit) (hts _ hini) hK hP hD hS hA hc hfs h1 h2 hdg (fun q H1 hP1 hD1 hS1 => kk q H1 locs ls hP1 hD1 hS1 hl)
theorem xnewI (C : XK X l D t cc own rm nL) (N : Nat) (hN : N < 2 ^ 27) (h1 : k + 1 ≤ rm.cells) (h2 : n + N ≤ rm.slots) (hdg : decode cc pc = .ok (.newarray .int, 2)) (kk : ∀ q, XW X (k + 1) (n + N) (ws ++ [(q, .inl (t 0, N, .inl (fun _ => 0)))]) lv (pc + 2) (.ref q :: st)) : XW X k n ws lv pc (.int (nI N) :: st) := by
  obtain ⟨p, l1, e, R, s, m, args, below, meth, c, Q, D1, t1, A, nL1⟩ := X
  intro H locs ls hP hD hS hl
  obtain ⟨hx, hb, hml', hown, hts, hK, hXN, hA, rfl, rfl, rfl, rfl, rfl⟩ := C
  refine va_newa (atype := .int) (ty := .int) (a0 := (N, .inl (fun _ => 0))) (N' := N) hx hb (hts _ xac_int) rfl hK hP hD hS hA (fun _ => rfl) (nI_pos (by omega)) (nI_clamp (by omega)) (by show N * 4 ≤ _; omega) h1 h2 hdg (fun q cA H1 hK1 hP1 hD1 hS1 => ?_)
  have e : cA = t1 0 := by
    have a1 : s.vm.findClass ("[" ++ FieldType.int.toString) = some cA := (hK1.2 3 (cA, .int) rfl).2
    have a2 : s.vm.findClass ("[" ++ FieldType.int.toString) = some (t1 0) := (hK.2 0 (t1 0, .int) rfl).2
    exact Option.some.inj (a1.symm.trans a2)
  rw [e] at hP1 hD1
  exact kk q H1 locs ls hP1 hD1 hS1 hl
theorem xnewL (C : XK X l D t cc own rm nL) (N : Nat) (hN : N < 2 ^ 26) (h1 : k + 1 ≤ rm.cells) (h2 : n + N ≤ rm.slots) (hdg : decode cc pc = .ok (.newarray .long, 2)) (kk : ∀ q, XW X (k + 1) (n + N) (ws ++ [(q, .inl (t 1, N, .inr (.inl (fun _ => 0))))]) lv (pc + 2) (.ref q :: st)) : XW X k n ws lv pc (.int (nI N) :: st) := by
  obtain ⟨p, l1, e, R, s, m, args, below, meth, c, Q, D1, t1, A, nL1⟩ := X
  intro H locs ls hP hD hS hl
  obtain ⟨hx, hb, hml', hown, hts, hK, hXN, hA, rfl, rfl, rfl, rfl, rfl⟩ := C
  refine va_newa (atype := .long) (ty := .long) (a0 := (N, .inr (.inl (fun _ => 0)))) (N' := N) hx hb (hts _ xac_long) rfl hK hP hD hS hA (fun _ => rfl) (nI_pos (by omega)) (nI_clamp (by omega)) (by show N * 8 ≤ _; omega) h1 h2 hdg (fun q cA H1 hK1 hP1 hD1 hS1 => ?_)
  have e : cA = t1 1 := by
    have a1 : s.vm.findClass ("[" ++ FieldType.long.toString) = some cA := (hK1.2 3 (cA, .long) rfl).2
    have a2 : s.vm.findClass ("[" ++ FieldType.long.toString) = some (t1 1) := (hK.2 1 (t1 1, .long) rfl).2
    exact Option.some.inj (a1.symm.trans a2)
  rw [e] at hP1 hD1
  exact kk q H1 locs ls hP1 hD1 hS1 hl
theorem xlen (C : XK X l D t cc own rm nL) {a N : Nat} {f : Nat → Int32} (q0 : Nat) (he : ws[q0]? = some (a, .inl (t 0, N, .inl f))) (hdg : decode cc pc = .ok (.arraylength, 1)) (kk : XW X k n ws lv (pc + 1) (.int (nI N) :: st)) : XW X k n ws lv pc (.ref a :: st) := by
  obtain ⟨p, l1, e, R, s, m, args, below, meth, c, Q, D1, t1, A, nL1⟩ := X
  intro H locs ls hP hD hS hl
  obtain ⟨hx, hb, hml', hown, hts, hK, hXN, hA, rfl, rfl, rfl, rfl, rfl⟩ := C
  exact va_alen hx hb hK hP q0 0 he rfl rfl hdg (kk H locs ls hP hD hS hl)
end ROWS
end
section
/-! THE SYSTEM AS NUMBERS: what both sides are held against. -/
abbrev Cfg : Type := Nat × Nat × Nat × Nat × Nat × (Nat → Nat) × (Nat → Nat) × (Nat → Nat) × (Nat → Nat) × (Nat → Nat) × (Nat → Nat) × (Nat → Nat → Nat)
def kn (K : Cfg) : Nat := K.1
def km (K : Cfg) : Nat := K.2.1
def kk (K : Cfg) : Nat := K.2.2.1
def ku (K : Cfg) : Nat := K.2.2.2.1
def kv (K : Cfg) : Nat := K.2.2.2.2.1
def ktop (K : Cfg) : Nat → Nat := K.2.2.2.2.2.1
def ksi (K : Cfg) : Nat → Nat := K.2.2.2.2.2.2.1
def khd (K : Cfg) : Nat → Nat := K.2.2.2.2.2.2.2.1
def kdg (K : Cfg) : Nat → Nat := K.2.2.2.2.2.2.2.2.1
def kla (K : Cfg) : Nat → Nat := K.2.2.2.2.2.2.2.2.2.1
def klb (K : Cfg) : Nat → Nat := K.2.2.2.2.2.2.2.2.2.2.1
def knb (K : Cfg) : Nat → Nat → Nat := K.2.2.2.2.2.2.2.2.2.2.2
/-- the cells that hold a system: ints I (0 places, 1 links, 2 kind, 3 u, 4 v), rows F (0 top, 1 side, 2 held, 3 neighbours, 4 and 5 the links, 13 + p the neighbours of p) -/
def CFG (K : Cfg) (I : Nat → Int32) (F : Nat → Nat → Int32) : Prop := I 0 = nI (kn K) ∧ I 1 = nI (km K) ∧ I 2 = nI (kk K) ∧ I 3 = nI (ku K) ∧ I 4 = nI (kv K) ∧ (∀ p, p < kn K → F 0 p = nI (ktop K p) ∧ F 1 p = nI (ksi K p) ∧ F 2 p = nI (khd K p) - 1) ∧ (∀ p, p < 24 → F 3 p = nI (kdg K p)) ∧ (∀ p i, p < kn K → i < kdg K p → F (13 + p) i = nI (knb K p i)) ∧ (∀ k, k < km K → F 4 k = nI (kla K k) ∧ F 5 k = nI (klb K k))
def WFK (K : Cfg) : Prop := kn K ≤ 24 ∧ km K ≤ 60 ∧ kk K ≤ 2 ∧ (1 ≤ ku K ∧ ku K ≤ 9) ∧ (1 ≤ kv K ∧ kv K ≤ 9) ∧ (∀ p, p < kn K → 1 ≤ ktop K p ∧ ktop K p ≤ 5 ∧ ksi K p ≤ 1 ∧ khd K p ≤ ktop K p + 1) ∧ (∀ p, kdg K p ≤ 6) ∧ (∀ p, kn K ≤ p → kdg K p = 0) ∧ (∀ p i, p < kn K → i < kdg K p → knb K p i < kn K) ∧ (∀ k, k < km K → kla K k < kn K ∧ klb K k < kn K ∧ kla K k ≠ klb K k ∧ (∃ i, i < kdg K (kla K k) ∧ knb K (kla K k) i = klb K k) ∧ (∃ i, i < kdg K (klb K k) ∧ knb K (klb K k) i = kla K k))
theorem WFK.n24 {K : Cfg} (h : WFK K) : kn K ≤ 24 := h.1
theorem WFK.m60 {K : Cfg} (h : WFK K) : km K ≤ 60 := h.2.1
theorem WFK.k2 {K : Cfg} (h : WFK K) : kk K ≤ 2 := h.2.2.1
theorem WFK.u1 {K : Cfg} (h : WFK K) : 1 ≤ ku K := h.2.2.2.1.1
theorem WFK.u9 {K : Cfg} (h : WFK K) : ku K ≤ 9 := h.2.2.2.1.2
theorem WFK.v1 {K : Cfg} (h : WFK K) : 1 ≤ kv K := h.2.2.2.2.1.1
theorem WFK.v9 {K : Cfg} (h : WFK K) : kv K ≤ 9 := h.2.2.2.2.1.2
theorem WFK.pl {K : Cfg} (h : WFK K) {p : Nat} (hp : p < kn K) : 1 ≤ ktop K p ∧ ktop K p ≤ 5 ∧ ksi K p ≤ 1 ∧ khd K p ≤ ktop K p + 1 := h.2.2.2.2.2.1 p hp
theorem WFK.top5 {K : Cfg} (h : WFK K) {p : Nat} (hp : p < kn K) : ktop K p ≤ 5 := (h.pl hp).2.1
theorem WFK.si1 {K : Cfg} (h : WFK K) {p : Nat} (hp : p < kn K) : ksi K p ≤ 1 := (h.pl hp).2.2.1
theorem WFK.hd6 {K : Cfg} (h : WFK K) {p : Nat} (hp : p < kn K) : khd K p ≤ 6 := by have := h.pl hp; omega
theorem WFK.dg6 {K : Cfg} (h : WFK K) (p : Nat) : kdg K p ≤ 6 := h.2.2.2.2.2.2.1 p
theorem WFK.dg0 {K : Cfg} (h : WFK K) {p : Nat} (hp : kn K ≤ p) : kdg K p = 0 := h.2.2.2.2.2.2.2.1 p hp
theorem WFK.nb {K : Cfg} (h : WFK K) {p i : Nat} (hp : p < kn K) (hi : i < kdg K p) : knb K p i < kn K := h.2.2.2.2.2.2.2.2.1 p i hp hi
theorem WFK.lk {K : Cfg} (h : WFK K) {k : Nat} (hk : k < km K) : kla K k < kn K ∧ klb K k < kn K ∧ kla K k ≠ klb K k ∧ (∃ i, i < kdg K (kla K k) ∧ knb K (kla K k) i = klb K k) ∧ (∃ i, i < kdg K (klb K k) ∧ knb K (klb K k) i = kla K k) := h.2.2.2.2.2.2.2.2.2 k hk
theorem WFK.la {K : Cfg} (h : WFK K) {k : Nat} (hk : k < km K) : kla K k < kn K := (h.lk hk).1
theorem WFK.lb {K : Cfg} (h : WFK K) {k : Nat} (hk : k < km K) : klb K k < kn K := (h.lk hk).2.1
theorem CFG.n {K : Cfg} {I : Nat → Int32} {F : Nat → Nat → Int32} (h : CFG K I F) : I 0 = nI (kn K) := h.1
theorem CFG.m {K : Cfg} {I : Nat → Int32} {F : Nat → Nat → Int32} (h : CFG K I F) : I 1 = nI (km K) := h.2.1
theorem CFG.k {K : Cfg} {I : Nat → Int32} {F : Nat → Nat → Int32} (h : CFG K I F) : I 2 = nI (kk K) := h.2.2.1
theorem CFG.u {K : Cfg} {I : Nat → Int32} {F : Nat → Nat → Int32} (h : CFG K I F) : I 3 = nI (ku K) := h.2.2.2.1
theorem CFG.v {K : Cfg} {I : Nat → Int32} {F : Nat → Nat → Int32} (h : CFG K I F) : I 4 = nI (kv K) := h.2.2.2.2.1
theorem CFG.top {K : Cfg} {I : Nat → Int32} {F : Nat → Nat → Int32} (h : CFG K I F) {p : Nat} (hp : p < kn K) : F 0 p = nI (ktop K p) := (h.2.2.2.2.2.1 p hp).1
theorem CFG.si {K : Cfg} {I : Nat → Int32} {F : Nat → Nat → Int32} (h : CFG K I F) {p : Nat} (hp : p < kn K) : F 1 p = nI (ksi K p) := (h.2.2.2.2.2.1 p hp).2.1
theorem CFG.hd {K : Cfg} {I : Nat → Int32} {F : Nat → Nat → Int32} (h : CFG K I F) {p : Nat} (hp : p < kn K) : F 2 p = nI (khd K p) - 1 := (h.2.2.2.2.2.1 p hp).2.2
theorem CFG.dg {K : Cfg} {I : Nat → Int32} {F : Nat → Nat → Int32} (h : CFG K I F) {p : Nat} (hp : p < 24) : F 3 p = nI (kdg K p) := h.2.2.2.2.2.2.1 p hp
theorem CFG.nb {K : Cfg} {I : Nat → Int32} {F : Nat → Nat → Int32} (h : CFG K I F) {p i : Nat} (hp : p < kn K) (hi : i < kdg K p) : F (13 + p) i = nI (knb K p i) := h.2.2.2.2.2.2.2.1 p i hp hi
theorem CFG.la {K : Cfg} {I : Nat → Int32} {F : Nat → Nat → Int32} (h : CFG K I F) {k : Nat} (hk : k < km K) : F 4 k = nI (kla K k) := (h.2.2.2.2.2.2.2.2 k hk).1
theorem CFG.lb {K : Cfg} {I : Nat → Int32} {F : Nat → Nat → Int32} (h : CFG K I F) {k : Nat} (hk : k < km K) : F 5 k = nI (klb K k) := (h.2.2.2.2.2.2.2.2 k hk).2
/-- other ints and rows don't matter -/
theorem CFG.of {K : Cfg} {I I' : Nat → Int32} {F F' : Nat → Nat → Int32} (h : CFG K I F) (hI : ∀ k, k < 5 → I' k = I k) (hF : ∀ j, (j < 6 ∨ 13 ≤ j) → F' j = F j) : CFG K I' F' := by
  obtain ⟨h1, h2, h3, h4, h5, h6, h7, h8, h9⟩ := h
  refine ⟨by rw [hI 0 (by omega)]; exact h1, by rw [hI 1 (by omega)]; exact h2, by rw [hI 2 (by omega)]; exact h3, by rw [hI 3 (by omega)]; exact h4, by rw [hI 4 (by omega)]; exact h5, fun p hp => ?_, fun p hp => ?_, fun p i hp hi => ?_, fun k hk => ?_⟩
  · rw [hF 0 (by omega), hF 1 (by omega), hF 2 (by omega)]; exact h6 p hp
  · rw [hF 3 (by omega)]; exact h7 p hp
  · rw [hF (13 + p) (by omega)]; exact h8 p i hp hi
  · rw [hF 4 (by omega), hF 5 (by omega)]; exact h9 k hk
theorem CFG.upI {K : Cfg} {I : Nat → Int32} {F : Nat → Nat → Int32} (h : CFG K I F) {k : Nat} (hk : 5 ≤ k) (x : Int32) : CFG K (va_up I k x) F := h.of (fun j hj => va_up_ne I x (by omega)) (fun _ _ => rfl)
theorem CFG.upF {K : Cfg} {I : Nat → Int32} {F : Nat → Nat → Int32} (h : CFG K I F) {j : Nat} (h1 : 6 ≤ j) (h2 : j < 13) (f : Nat → Int32) : CFG K I (va_up F j f) := h.of (fun _ _ => rfl) (fun j' hj' => va_up_ne F f (by omega))
/-- a truth as a number -/
noncomputable def bn (P : Prop) : Nat := @ite _ P (Classical.propDecidable P) 1 0
theorem bn_t {P : Prop} (h : P) : bn P = 1 := by unfold bn; exact @if_pos P (Classical.propDecidable P) h _ _ _
theorem bn_f {P : Prop} (h : ¬ P) : bn P = 0 := by unfold bn; exact @if_neg P (Classical.propDecidable P) h _ _ _
theorem bn_le (P : Prop) : bn P ≤ 1 := by
  rcases Classical.em P with h | h
  · rw [bn_t h]; omega
  · rw [bn_f h]; omega
theorem bn_0 {P : Prop} (h : bn P = 0) : ¬ P := fun q => by rw [bn_t q] at h; omega
theorem bn_1 {P : Prop} (h : ¬ bn P = 0) : P := by
  rcases Classical.em P with q | q
  · exact q
  · exact absurd (bn_f q) h
theorem bn_iff {P Q : Prop} (h : P ↔ Q) : bn P = bn Q := by rw [propext h]
theorem nar_bn (P : Prop) : narrow .boolean (.int (nI (bn P))) = .int (nI (bn P)) := by
  rcases Classical.em P with h | h
  · rw [bn_t h]; rfl
  · rw [bn_f h]; rfl
/-- products, sums, counts, the first of a kind -/
def pr (g : Nat → Nat) : Nat → Nat
  | 0 => 1
  | k + 1 => pr g k * g k
def sm (g : Nat → Nat) : Nat → Nat
  | 0 => 0
  | k + 1 => sm g k + g k
noncomputable def cn (P : Nat → Prop) : Nat → Nat
  | 0 => 0
  | k + 1 => cn P k + bn (P k)
noncomputable def fst (P : Nat → Prop) : Nat → Option Nat
  | 0 => none
  | k + 1 => match fst P k with
    | some i => some i
    | none => if bn (P k) = 1 then some k else none
theorem fst_none {P : Nat → Prop} : ∀ {k : Nat}, (∀ j, j < k → ¬ P j) → fst P k = none
  | 0, _ => rfl
  | k + 1, h => by
    unfold fst
    rw [fst_none (fun j hj => h j (by omega))]
    simp [bn_f (h k (by omega))]
theorem fst_some {P : Nat → Prop} {i : Nat} (hi : P i) (h : ∀ j, j < i → ¬ P j) : ∀ {k : Nat}, i < k → fst P k = some i
  | 0, hk => absurd hk (by omega)
  | k + 1, hk => by
    unfold fst
    by_cases e : i = k
    · subst e
      rw [fst_none h]
      simp [bn_t hi]
    · rw [fst_some hi h (show i < k by omega)]
theorem pr_congr {g g' : Nat → Nat} : ∀ {k : Nat}, (∀ j, j < k → g j = g' j) → pr g k = pr g' k
  | 0, _ => rfl
  | k + 1, h => by unfold pr; rw [pr_congr (fun j hj => h j (by omega)), h k (by omega)]
theorem sm_congr {g g' : Nat → Nat} : ∀ {k : Nat}, (∀ j, j < k → g j = g' j) → sm g k = sm g' k
  | 0, _ => rfl
  | k + 1, h => by unfold sm; rw [sm_congr (fun j hj => h j (by omega)), h k (by omega)]
theorem cn_congr {P P' : Nat → Prop} : ∀ {k : Nat}, (∀ j, j < k → (P j ↔ P' j)) → cn P k = cn P' k
  | 0, _ => rfl
  | k + 1, h => by unfold cn; rw [cn_congr (fun j hj => h j (by omega)), bn_iff (h k (by omega))]
theorem cn_le (P : Nat → Prop) : ∀ k, cn P k ≤ k
  | 0 => Nat.le_refl 0
  | k + 1 => by have := cn_le P k; have := bn_le (P k); unfold cn; omega
theorem cn_zero {P : Nat → Prop} : ∀ {k : Nat}, cn P k = 0 ↔ ∀ j, j < k → ¬ P j
  | 0 => ⟨fun _ j hj => by omega, fun _ => rfl⟩
  | k + 1 => by
    unfold cn
    constructor
    · intro h j hj
      by_cases e : j = k
      · subst e; exact bn_0 (by omega)
      · exact (cn_zero (k := k)).mp (by omega) j (by omega)
    · intro h
      rw [(cn_zero (k := k)).mpr (fun j hj => h j (by omega)), bn_f (h k (by omega))]
theorem fst_congr {P P' : Nat → Prop} : ∀ {k : Nat}, (∀ j, j < k → (P j ↔ P' j)) → fst P k = fst P' k
  | 0, _ => rfl
  | k + 1, h => by unfold fst; rw [fst_congr (fun j hj => h j (by omega)), bn_iff (h k (by omega))]
/-- what a place, a link, a state weigh -/
def mostN (K : Cfg) (p : Nat) : Nat := if kk K = 1 then ktop K p else 1
def nohN (K : Cfg) (p h : Nat) : Nat := if kk K = 2 ∧ ksi K p = 1 then 1 - h else h
def pwN (K : Cfg) (p x : Nat) : Nat := if mostN K p < x ∨ (kk K = 1 ∧ khd K p ≠ 0 ∧ x + 1 ≠ khd K p) then 0 else if kk K = 2 then (if x = 1 then ku K else kv K) else 1
def lwN (K : Cfg) (x y : Nat) : Nat := if kk K = 0 then (if x = y then ku K else kv K) else if kk K = 1 then (if x ≤ y + 1 ∧ y ≤ x + 1 then 1 else 0) else if x = 1 ∧ y = 1 then 0 else 1
def alP (K : Cfg) (f : Nat → Nat) : Prop := (∀ p, p < kn K → pwN K p (f p) ≠ 0) ∧ ∀ k, k < km K → lwN K (f (kla K k)) (f (klb K k)) ≠ 0
def woN (K : Cfg) (f : Nat → Nat) : Nat := pr (fun p => pwN K p (f p)) (kn K) * pr (fun k => lwN K (f (kla K k)) (f (klb K k))) (km K)
def waN (K : Cfg) (f : Nat → Nat) (p x : Nat) : Nat := pwN K p x * pr (fun i => lwN K x (f (knb K p i))) (kdg K p)
/-- a tick -/
def mixI (seed t : Int32) : Int32 :=
  let m := seed * 1103515245 + t * 12345 + 1013904223
  let m := (m ^^^ (m.toUInt32 >>> ((15 : Int32).toUInt32 &&& Int32.toUInt32 31)).toInt32) * 739982445
  let m := (m ^^^ (m.toUInt32 >>> ((12 : Int32).toUInt32 &&& Int32.toUInt32 31)).toInt32) * 695872825
  m ^^^ (m.toUInt32 >>> ((15 : Int32).toUInt32 &&& Int32.toUInt32 31)).toInt32
def lotN (x : Int32) : Nat := x.toBitVec.toNat % 65536
def plN (K : Cfg) (x : Int32) : Nat := x.toBitVec.toNat / 65536 % kn K
def whN (K : Cfg) (f : Nat → Nat) (p h : Nat) : Nat := waN K f p (nohN K p h)
noncomputable def chN (K : Cfg) (f : Nat → Nat) (p lot : Nat) : Nat := match fst (fun h => lot * sm (whN K f p) (mostN K p + 1) < 65536 * sm (whN K f p) (h + 1)) (mostN K p + 1) with
  | some h => nohN K p h
  | none => f p
noncomputable def tkN (K : Cfg) (seed : Int32) (f : Nat → Nat) (t : Int32) : Nat → Nat := va_up f (plN K (mixI seed t)) (chN K f (plN K (mixI seed t)) (lotN (mixI seed t)))
noncomputable def itN (K : Cfg) (seed : Int32) (f : Nat → Nat) (t : Int32) : Nat → (Nat → Nat)
  | 0 => f
  | k + 1 => tkN K seed (itN K seed f t k) (t + nI k)
/-- numbers at places: of a row of ints -/
def RA (n : Nat) (g : Nat → Int32) (f : Nat → Nat) : Prop := ∀ p, p < n → g p = nI (f p) ∧ f p ≤ 5
theorem RA.up {n p x : Nat} {g : Nat → Int32} {f : Nat → Nat} (h : RA n g f) (hx : x ≤ 5) : RA n (upd g p (nI x)) (va_up f p x) := by
  intro q hq
  by_cases e : q = p
  · subst e; simp [upd, va_up, hx]
  · simp [upd, va_up, e]; exact h q hq
end
section
/-! THE CELLS OF BOTH SIDES, and rows that read and write them. -/
def xlenN (j : Nat) : Nat := if j = 4 then 60 else if j = 5 then 60 else if 13 ≤ j then 6 else 24
def WXo (a : Nat → Nat) (t : Nat → ClassId) (I : Nat → Int32) (L : Nat → Int64) : va_W := [(a 0, .inr (0, [.ref (a 1), .ref (a 2), .ref (a 3), .ref (a 4), .ref (a 5), .ref (a 20), .int (I 10)])), (a 1, .inr (1, [.ref (a 8), .ref (a 9), .ref (a 10), .ref (a 11), .ref (a 6), .ref (a 12), .ref (a 13), .int (I 0), .int (I 1)])), (a 2, .inr (2, [.ref (a 1), .ref (a 14), .ref (a 15), .int (I 2), .int (I 3), .int (I 4), .int (I 5)])), (a 3, .inr (3, [.ref (a 1), .ref (a 2), .ref (a 7)])), (a 4, .inr (4, [.ref (a 1), .ref (a 2), .ref (a 3), .ref (a 16), .ref (a 17), .int (I 6), .int (I 7), .ref (a 18), .int (I 8), .int (I 9)])), (a 5, .inr (5, [.ref (a 1), .ref (a 2), .ref (a 19)])), (a 6, .inl (t 2, 24, .inr (.inr (.inr (.inr (fun p => if p < 24 then some (a (8 + (13 + p))) else none)))))), (a 7, .inl (t 1, 6, .inr (.inl L)))]
def WXa (a : Nat → Nat) (t : Nat → ClassId) (F : Nat → Nat → Int32) : va_W := (List.range 37).map (fun j => (a (8 + j), .inl (t 0, xlenN j, .inl (F j))))
/-- the class: six objects, the outer row of neighbours, the weights, 37 rows of ints -/
def WX (a : Nat → Nat) (t : Nat → ClassId) (I : Nat → Int32) (F : Nat → Nat → Int32) (L : Nat → Int64) : va_W := WXo a t I L ++ WXa a t F
/-- the reference: an object, 12 rows of ints; near is the neighbours' rows one behind another -/
def WM (b : Nat → Nat) (t : Nat → ClassId) (I : Nat → Int32) (F : Nat → Nat → Int32) : va_W := [(b 0, .inr (6, [.int (I 0), .ref (b 1), .ref (b 2), .ref (b 3), .ref (b 4), .ref (b 5), .int (I 1), .ref (b 6), .ref (b 7), .int (I 2), .int (I 3), .int (I 4), .int (I 10), .ref (b 12), .ref (b 8), .ref (b 9), .ref (b 10), .ref (b 11), .int (I 9), .int (I 8), .int (I 7)])), (b 1, .inl (t 0, 24, .inl (F 0))), (b 2, .inl (t 0, 24, .inl (F 1))), (b 3, .inl (t 0, 24, .inl (F 2))), (b 4, .inl (t 0, 24, .inl (F 3))), (b 5, .inl (t 0, 144, .inl (fun q => F (13 + q / 6) (q % 6)))), (b 6, .inl (t 0, 60, .inl (F 4))), (b 7, .inl (t 0, 60, .inl (F 5))), (b 8, .inl (t 0, 24, .inl (F 8))), (b 9, .inl (t 0, 24, .inl (F 9))), (b 10, .inl (t 0, 24, .inl (F 10))), (b 11, .inl (t 0, 24, .inl (F 11))), (b 12, .inl (t 0, 24, .inl (F 12)))]
theorem WXa_get {a : Nat → Nat} {t : Nat → ClassId} {I : Nat → Int32} {F : Nat → Nat → Int32} {L : Nat → Int64} {j : Nat} (hj : j < 37) : (WX a t I F L)[8 + j]? = some (a (8 + j), .inl (t 0, xlenN j, .inl (F j))) := by
  unfold WX WXa
  rw [List.getElem?_append_right (by show 8 ≤ 8 + j; omega)]
  show (List.map _ _)[8 + j - 8]? = _
  rw [Nat.add_sub_cancel_left, List.getElem?_map, List.getElem?_range hj]
  rfl
theorem WXa_set {a : Nat → Nat} {t : Nat → ClassId} {I : Nat → Int32} {F : Nat → Nat → Int32} {L : Nat → Int64} {j : Nat} (hj : j < 37) (f : Nat → Int32) : (WX a t I F L).set (8 + j) (a (8 + j), .inl (t 0, xlenN j, .inl f)) = WX a t I (va_up F j f) L := by
  apply List.ext_getElem?
  intro i
  by_cases hi : i = 8 + j
  · subst hi
    rw [List.getElem?_set_self (List.getElem?_eq_some_iff.mp (WXa_get hj)).1, WXa_get hj, va_up_self]
  · rw [List.getElem?_set_ne (by omega)]
    by_cases h8 : i < 8
    · unfold WX
      rw [List.getElem?_append_left h8, List.getElem?_append_left h8]
    · obtain ⟨q, rfl⟩ : ∃ q, i = 8 + q := ⟨i - 8, by omega⟩
      by_cases hq : q < 37
      · rw [WXa_get hq, WXa_get hq, va_up_ne F f (by omega)]
      · rw [List.getElem?_eq_none (by show (WX a t I F L).length ≤ _; unfold WX WXa; rw [List.length_append, List.length_map, List.length_range]; show 8 + 37 ≤ _; omega), List.getElem?_eq_none (by show (WX a t I (va_up F j f) L).length ≤ _; unfold WX WXa; rw [List.length_append, List.length_map, List.length_range]; show 8 + 37 ≤ _; omega)]
theorem WMs_get {b : Nat → Nat} {t : Nat → ClassId} {I : Nat → Int32} {F : Nat → Nat → Int32} {j : Nat} (h8 : 8 ≤ j) (hj : j < 13) : (WM b t I F)[j]? = some (b j, .inl (t 0, 24, .inl (F j))) := by
  rcases (show j = 8 ∨ j = 9 ∨ j = 10 ∨ j = 11 ∨ j = 12 by omega) with rfl | rfl | rfl | rfl | rfl <;> rfl
theorem WMs_set {b : Nat → Nat} {t : Nat → ClassId} {I : Nat → Int32} {F : Nat → Nat → Int32} {j : Nat} (h8 : 8 ≤ j) (hj : j < 13) (f : Nat → Int32) : (WM b t I F).set j (b j, .inl (t 0, 24, .inl f)) = WM b t I (va_up F j f) := by
  have e : ∀ q : Nat, (fun r => va_up F j f (13 + r / 6) (r % 6)) = (fun r => F (13 + r / 6) (r % 6)) := fun _ => funext fun r => by rw [va_up_ne F f (by omega)]
  unfold WM
  rw [e 0]
  rcases (show j = 8 ∨ j = 9 ∨ j = 10 ∨ j = 11 ∨ j = 12 by omega) with rfl | rfl | rfl | rfl | rfl <;> rfl
theorem WMr_set {b : Nat → Nat} {t : Nat → ClassId} {I : Nat → Int32} {F : Nat → Nat → Int32} {j q N : Nat} (hj : j < 6) (hq : q = if j < 4 then j + 1 else j + 2) (hN : N = if j < 4 then 24 else 60) (f : Nat → Int32) : (WM b t I F).set q (b q, .inl (t 0, N, .inl f)) = WM b t I (va_up F j f) := by
  have e : (fun r => va_up F j f (13 + r / 6) (r % 6)) = (fun r => F (13 + r / 6) (r % 6)) := funext fun r => by rw [va_up_ne F f (by omega)]
  unfold WM
  rw [e]
  subst hq hN
  rcases (show j = 0 ∨ j = 1 ∨ j = 2 ∨ j = 3 ∨ j = 4 ∨ j = 5 by omega) with rfl | rfl | rfl | rfl | rfl | rfl <;> rfl
theorem WMn_set {b : Nat → Nat} {t : Nat → ClassId} {I : Nat → Int32} {F : Nat → Nat → Int32} {p i : Nat} (hi : i < 6) (x : Int32) : (WM b t I F).set 5 (b 5, .inl (t 0, 144, .inl (upd (fun q => F (13 + q / 6) (q % 6)) (6 * p + i) x))) = WM b t I (va_up F (13 + p) (upd (F (13 + p)) i x)) := by
  have e : (fun r => va_up F (13 + p) (upd (F (13 + p)) i x) (13 + r / 6) (r % 6)) = upd (fun q => F (13 + q / 6) (q % 6)) (6 * p + i) x := by
    funext r
    unfold va_up upd
    by_cases h : r = 6 * p + i
    · subst h
      rw [if_pos rfl, if_pos (by omega), if_pos (by omega)]
    · rw [if_neg h]
      by_cases h2 : 13 + r / 6 = 13 + p
      · rw [if_pos h2, if_neg (by omega)]
        show F (13 + p) (r % 6) = F (13 + r / 6) (r % 6)
        rw [h2]
      · rw [if_neg h2]
  have e2 : ∀ j, j < 13 → va_up F (13 + p) (upd (F (13 + p)) i x) j = F j := fun j hj => va_up_ne F _ (by omega)
  unfold WM
  rw [e, e2 0 (by omega), e2 1 (by omega), e2 2 (by omega), e2 3 (by omega), e2 4 (by omega), e2 5 (by omega), e2 8 (by omega), e2 9 (by omega), e2 10 (by omega), e2 11 (by omega), e2 12 (by omega)]
  rfl
section WORLDS
variable {X : XC} {l : Launch} {D : va_G} {t : Nat → ClassId} {cc : ByteArray} {own : String} {rm : Room} {nL : Nat} {k n : Nat} {lv : List (Nat × Value)} {pc : Nat} {st : List Value} {a b : Nat → Nat} {I : Nat → Int32} {F : Nat → Nat → Int32} {L : Nat → Int64} {K : Cfg}
theorem gX1_9 (C : XK X l D t cc RX1 rm nL) (hdg : decode cc pc = .ok (.getfield 9, 3)) (kk : XW X k n (WX a t I F L) lv (pc + 3) (.ref (a 8) :: st)) : XW X k n (WX a t I F L) lv pc (.ref (a 1) :: st) := xget C 1 rfl rfl xin_wsX1 0 (by decide) xfl_X1_9 rfl hdg kk
theorem gX2_36 (C : XK X l D t cc RX2 rm nL) (hdg : decode cc pc = .ok (.getfield 36, 3)) (kk : XW X k n (WX a t I F L) lv (pc + 3) (.ref (a 8) :: st)) : XW X k n (WX a t I F L) lv pc (.ref (a 1) :: st) := xget C 1 rfl rfl xin_wsX1 0 (by decide) xfl_X2_36 rfl hdg kk
theorem gX5_95 (C : XK X l D t cc RX5 rm nL) (hdg : decode cc pc = .ok (.getfield 95, 3)) (kk : XW X k n (WX a t I F L) lv (pc + 3) (.ref (a 8) :: st)) : XW X k n (WX a t I F L) lv pc (.ref (a 1) :: st) := xget C 1 rfl rfl xin_wsX1 0 (by decide) xfl_X5_95 rfl hdg kk
theorem gX1_15 (C : XK X l D t cc RX1 rm nL) (hdg : decode cc pc = .ok (.getfield 15, 3)) (kk : XW X k n (WX a t I F L) lv (pc + 3) (.ref (a 9) :: st)) : XW X k n (WX a t I F L) lv pc (.ref (a 1) :: st) := xget C 1 rfl rfl xin_wsX1 1 (by decide) xfl_X1_15 rfl hdg kk
theorem gX2_41 (C : XK X l D t cc RX2 rm nL) (hdg : decode cc pc = .ok (.getfield 41, 3)) (kk : XW X k n (WX a t I F L) lv (pc + 3) (.ref (a 9) :: st)) : XW X k n (WX a t I F L) lv pc (.ref (a 1) :: st) := xget C 1 rfl rfl xin_wsX1 1 (by decide) xfl_X2_41 rfl hdg kk
theorem gX5_190 (C : XK X l D t cc RX5 rm nL) (hdg : decode cc pc = .ok (.getfield 190, 3)) (kk : XW X k n (WX a t I F L) lv (pc + 3) (.ref (a 9) :: st)) : XW X k n (WX a t I F L) lv pc (.ref (a 1) :: st) := xget C 1 rfl rfl xin_wsX1 1 (by decide) xfl_X5_190 rfl hdg kk
theorem gX1_18 (C : XK X l D t cc RX1 rm nL) (hdg : decode cc pc = .ok (.getfield 18, 3)) (kk : XW X k n (WX a t I F L) lv (pc + 3) (.ref (a 10) :: st)) : XW X k n (WX a t I F L) lv pc (.ref (a 1) :: st) := xget C 1 rfl rfl xin_wsX1 2 (by decide) xfl_X1_18 rfl hdg kk
theorem gX2_44 (C : XK X l D t cc RX2 rm nL) (hdg : decode cc pc = .ok (.getfield 44, 3)) (kk : XW X k n (WX a t I F L) lv (pc + 3) (.ref (a 10) :: st)) : XW X k n (WX a t I F L) lv pc (.ref (a 1) :: st) := xget C 1 rfl rfl xin_wsX1 2 (by decide) xfl_X2_44 rfl hdg kk
theorem gX5_98 (C : XK X l D t cc RX5 rm nL) (hdg : decode cc pc = .ok (.getfield 98, 3)) (kk : XW X k n (WX a t I F L) lv (pc + 3) (.ref (a 10) :: st)) : XW X k n (WX a t I F L) lv pc (.ref (a 1) :: st) := xget C 1 rfl rfl xin_wsX1 2 (by decide) xfl_X5_98 rfl hdg kk
theorem gX1_21 (C : XK X l D t cc RX1 rm nL) (hdg : decode cc pc = .ok (.getfield 21, 3)) (kk : XW X k n (WX a t I F L) lv (pc + 3) (.ref (a 11) :: st)) : XW X k n (WX a t I F L) lv pc (.ref (a 1) :: st) := xget C 1 rfl rfl xin_wsX1 3 (by decide) xfl_X1_21 rfl hdg kk
theorem gX2_78 (C : XK X l D t cc RX2 rm nL) (hdg : decode cc pc = .ok (.getfield 78, 3)) (kk : XW X k n (WX a t I F L) lv (pc + 3) (.ref (a 11) :: st)) : XW X k n (WX a t I F L) lv pc (.ref (a 1) :: st) := xget C 1 rfl rfl xin_wsX1 3 (by decide) xfl_X2_78 rfl hdg kk
theorem gX5_193 (C : XK X l D t cc RX5 rm nL) (hdg : decode cc pc = .ok (.getfield 193, 3)) (kk : XW X k n (WX a t I F L) lv (pc + 3) (.ref (a 11) :: st)) : XW X k n (WX a t I F L) lv pc (.ref (a 1) :: st) := xget C 1 rfl rfl xin_wsX1 3 (by decide) xfl_X5_193 rfl hdg kk
theorem gX1_26 (C : XK X l D t cc RX1 rm nL) (hdg : decode cc pc = .ok (.getfield 26, 3)) (kk : XW X k n (WX a t I F L) lv (pc + 3) (.ref (a 6) :: st)) : XW X k n (WX a t I F L) lv pc (.ref (a 1) :: st) := xget C 1 rfl rfl xin_wsX1 4 (by decide) xfl_X1_26 rfl hdg kk
theorem gX2_74 (C : XK X l D t cc RX2 rm nL) (hdg : decode cc pc = .ok (.getfield 74, 3)) (kk : XW X k n (WX a t I F L) lv (pc + 3) (.ref (a 6) :: st)) : XW X k n (WX a t I F L) lv pc (.ref (a 1) :: st) := xget C 1 rfl rfl xin_wsX1 4 (by decide) xfl_X2_74 rfl hdg kk
theorem gX5_196 (C : XK X l D t cc RX5 rm nL) (hdg : decode cc pc = .ok (.getfield 196, 3)) (kk : XW X k n (WX a t I F L) lv (pc + 3) (.ref (a 6) :: st)) : XW X k n (WX a t I F L) lv pc (.ref (a 1) :: st) := xget C 1 rfl rfl xin_wsX1 4 (by decide) xfl_X5_196 rfl hdg kk
theorem gX1_29 (C : XK X l D t cc RX1 rm nL) (hdg : decode cc pc = .ok (.getfield 29, 3)) (kk : XW X k n (WX a t I F L) lv (pc + 3) (.ref (a 12) :: st)) : XW X k n (WX a t I F L) lv pc (.ref (a 1) :: st) := xget C 1 rfl rfl xin_wsX1 5 (by decide) xfl_X1_29 rfl hdg kk
theorem gX2_65 (C : XK X l D t cc RX2 rm nL) (hdg : decode cc pc = .ok (.getfield 65, 3)) (kk : XW X k n (WX a t I F L) lv (pc + 3) (.ref (a 12) :: st)) : XW X k n (WX a t I F L) lv pc (.ref (a 1) :: st) := xget C 1 rfl rfl xin_wsX1 5 (by decide) xfl_X2_65 rfl hdg kk
theorem gX1_32 (C : XK X l D t cc RX1 rm nL) (hdg : decode cc pc = .ok (.getfield 32, 3)) (kk : XW X k n (WX a t I F L) lv (pc + 3) (.ref (a 13) :: st)) : XW X k n (WX a t I F L) lv pc (.ref (a 1) :: st) := xget C 1 rfl rfl xin_wsX1 6 (by decide) xfl_X1_32 rfl hdg kk
theorem gX2_68 (C : XK X l D t cc RX2 rm nL) (hdg : decode cc pc = .ok (.getfield 68, 3)) (kk : XW X k n (WX a t I F L) lv (pc + 3) (.ref (a 13) :: st)) : XW X k n (WX a t I F L) lv pc (.ref (a 1) :: st) := xget C 1 rfl rfl xin_wsX1 6 (by decide) xfl_X2_68 rfl hdg kk
theorem gX1_35 (C : XK X l D t cc RX1 rm nL) (hdg : decode cc pc = .ok (.getfield 35, 3)) (kk : XW X k n (WX a t I F L) lv (pc + 3) (.int (I 0) :: st)) : XW X k n (WX a t I F L) lv pc (.ref (a 1) :: st) := xget C 1 rfl rfl xin_wsX1 7 (by decide) xfl_X1_35 rfl hdg kk
theorem gX1_35K (C : XK X l D t cc RX1 rm nL) (hK : CFG K I F) (hdg : decode cc pc = .ok (.getfield 35, 3)) (kk : XW X k n (WX a t I F L) lv (pc + 3) (.int (nI (kn K)) :: st)) : XW X k n (WX a t I F L) lv pc (.ref (a 1) :: st) := gX1_35 C hdg (xtopi hK.n kk)
theorem pX1_35 (C : XK X l D t cc RX1 rm nL) {x : Int32} (hdg : decode cc pc = .ok (.putfield 35, 3)) (kk : XW X k n (WX a t (va_up I 0 x) F L) lv (pc + 3) st) : XW X k n (WX a t I F L) lv pc (.int x :: .ref (a 1) :: st) := xput (ci := 1) (fs := [.ref (a 8), .ref (a 9), .ref (a 10), .ref (a 11), .ref (a 6), .ref (a 12), .ref (a 13), .int (I 0), .int (I 1)]) (ws' := WX a t (va_up I 0 x) F L) C 1 rfl rfl xin_wsX1 tyX1 tyX1_ok nmX1 7 (by decide) xfl_X1_35 rfl (by rfl) (by rfl) (Nat.le_of_ble_eq_true rfl) hdg rfl kk
theorem gX5_58 (C : XK X l D t cc RX5 rm nL) (hdg : decode cc pc = .ok (.getfield 58, 3)) (kk : XW X k n (WX a t I F L) lv (pc + 3) (.int (I 0) :: st)) : XW X k n (WX a t I F L) lv pc (.ref (a 1) :: st) := xget C 1 rfl rfl xin_wsX1 7 (by decide) xfl_X5_58 rfl hdg kk
theorem gX5_58K (C : XK X l D t cc RX5 rm nL) (hK : CFG K I F) (hdg : decode cc pc = .ok (.getfield 58, 3)) (kk : XW X k n (WX a t I F L) lv (pc + 3) (.int (nI (kn K)) :: st)) : XW X k n (WX a t I F L) lv pc (.ref (a 1) :: st) := gX5_58 C hdg (xtopi hK.n kk)
theorem pX5_58 (C : XK X l D t cc RX5 rm nL) {x : Int32} (hdg : decode cc pc = .ok (.putfield 58, 3)) (kk : XW X k n (WX a t (va_up I 0 x) F L) lv (pc + 3) st) : XW X k n (WX a t I F L) lv pc (.int x :: .ref (a 1) :: st) := xput (ci := 1) (fs := [.ref (a 8), .ref (a 9), .ref (a 10), .ref (a 11), .ref (a 6), .ref (a 12), .ref (a 13), .int (I 0), .int (I 1)]) (ws' := WX a t (va_up I 0 x) F L) C 1 rfl rfl xin_wsX1 tyX1 tyX1_ok nmX1 7 (by decide) xfl_X5_58 rfl (by rfl) (by rfl) (Nat.le_of_ble_eq_true rfl) hdg rfl kk
theorem gX0_59 (C : XK X l D t cc RX0 rm nL) (hdg : decode cc pc = .ok (.getfield 59, 3)) (kk : XW X k n (WX a t I F L) lv (pc + 3) (.int (I 0) :: st)) : XW X k n (WX a t I F L) lv pc (.ref (a 1) :: st) := xget C 1 rfl rfl xin_wsX1 7 (by decide) xfl_X0_59 rfl hdg kk
theorem gX0_59K (C : XK X l D t cc RX0 rm nL) (hK : CFG K I F) (hdg : decode cc pc = .ok (.getfield 59, 3)) (kk : XW X k n (WX a t I F L) lv (pc + 3) (.int (nI (kn K)) :: st)) : XW X k n (WX a t I F L) lv pc (.ref (a 1) :: st) := gX0_59 C hdg (xtopi hK.n kk)
theorem pX0_59 (C : XK X l D t cc RX0 rm nL) {x : Int32} (hdg : decode cc pc = .ok (.putfield 59, 3)) (kk : XW X k n (WX a t (va_up I 0 x) F L) lv (pc + 3) st) : XW X k n (WX a t I F L) lv pc (.int x :: .ref (a 1) :: st) := xput (ci := 1) (fs := [.ref (a 8), .ref (a 9), .ref (a 10), .ref (a 11), .ref (a 6), .ref (a 12), .ref (a 13), .int (I 0), .int (I 1)]) (ws' := WX a t (va_up I 0 x) F L) C 1 rfl rfl xin_wsX1 tyX1 tyX1_ok nmX1 7 (by decide) xfl_X0_59 rfl (by rfl) (by rfl) (Nat.le_of_ble_eq_true rfl) hdg rfl kk
theorem gX3_35 (C : XK X l D t cc RX3 rm nL) (hdg : decode cc pc = .ok (.getfield 35, 3)) (kk : XW X k n (WX a t I F L) lv (pc + 3) (.int (I 0) :: st)) : XW X k n (WX a t I F L) lv pc (.ref (a 1) :: st) := xget C 1 rfl rfl xin_wsX1 7 (by decide) xfl_X3_35 rfl hdg kk
theorem gX3_35K (C : XK X l D t cc RX3 rm nL) (hK : CFG K I F) (hdg : decode cc pc = .ok (.getfield 35, 3)) (kk : XW X k n (WX a t I F L) lv (pc + 3) (.int (nI (kn K)) :: st)) : XW X k n (WX a t I F L) lv pc (.ref (a 1) :: st) := gX3_35 C hdg (xtopi hK.n kk)
theorem pX3_35 (C : XK X l D t cc RX3 rm nL) {x : Int32} (hdg : decode cc pc = .ok (.putfield 35, 3)) (kk : XW X k n (WX a t (va_up I 0 x) F L) lv (pc + 3) st) : XW X k n (WX a t I F L) lv pc (.int x :: .ref (a 1) :: st) := xput (ci := 1) (fs := [.ref (a 8), .ref (a 9), .ref (a 10), .ref (a 11), .ref (a 6), .ref (a 12), .ref (a 13), .int (I 0), .int (I 1)]) (ws' := WX a t (va_up I 0 x) F L) C 1 rfl rfl xin_wsX1 tyX1 tyX1_ok nmX1 7 (by decide) xfl_X3_35 rfl (by rfl) (by rfl) (Nat.le_of_ble_eq_true rfl) hdg rfl kk
theorem gX4_28 (C : XK X l D t cc RX4 rm nL) (hdg : decode cc pc = .ok (.getfield 28, 3)) (kk : XW X k n (WX a t I F L) lv (pc + 3) (.int (I 0) :: st)) : XW X k n (WX a t I F L) lv pc (.ref (a 1) :: st) := xget C 1 rfl rfl xin_wsX1 7 (by decide) xfl_X4_28 rfl hdg kk
theorem gX4_28K (C : XK X l D t cc RX4 rm nL) (hK : CFG K I F) (hdg : decode cc pc = .ok (.getfield 28, 3)) (kk : XW X k n (WX a t I F L) lv (pc + 3) (.int (nI (kn K)) :: st)) : XW X k n (WX a t I F L) lv pc (.ref (a 1) :: st) := gX4_28 C hdg (xtopi hK.n kk)
theorem pX4_28 (C : XK X l D t cc RX4 rm nL) {x : Int32} (hdg : decode cc pc = .ok (.putfield 28, 3)) (kk : XW X k n (WX a t (va_up I 0 x) F L) lv (pc + 3) st) : XW X k n (WX a t I F L) lv pc (.int x :: .ref (a 1) :: st) := xput (ci := 1) (fs := [.ref (a 8), .ref (a 9), .ref (a 10), .ref (a 11), .ref (a 6), .ref (a 12), .ref (a 13), .int (I 0), .int (I 1)]) (ws' := WX a t (va_up I 0 x) F L) C 1 rfl rfl xin_wsX1 tyX1 tyX1_ok nmX1 7 (by decide) xfl_X4_28 rfl (by rfl) (by rfl) (Nat.le_of_ble_eq_true rfl) hdg rfl kk
theorem gX2_55 (C : XK X l D t cc RX2 rm nL) (hdg : decode cc pc = .ok (.getfield 55, 3)) (kk : XW X k n (WX a t I F L) lv (pc + 3) (.int (I 0) :: st)) : XW X k n (WX a t I F L) lv pc (.ref (a 1) :: st) := xget C 1 rfl rfl xin_wsX1 7 (by decide) xfl_X2_55 rfl hdg kk
theorem gX2_55K (C : XK X l D t cc RX2 rm nL) (hK : CFG K I F) (hdg : decode cc pc = .ok (.getfield 55, 3)) (kk : XW X k n (WX a t I F L) lv (pc + 3) (.int (nI (kn K)) :: st)) : XW X k n (WX a t I F L) lv pc (.ref (a 1) :: st) := gX2_55 C hdg (xtopi hK.n kk)
theorem pX2_55 (C : XK X l D t cc RX2 rm nL) {x : Int32} (hdg : decode cc pc = .ok (.putfield 55, 3)) (kk : XW X k n (WX a t (va_up I 0 x) F L) lv (pc + 3) st) : XW X k n (WX a t I F L) lv pc (.int x :: .ref (a 1) :: st) := xput (ci := 1) (fs := [.ref (a 8), .ref (a 9), .ref (a 10), .ref (a 11), .ref (a 6), .ref (a 12), .ref (a 13), .int (I 0), .int (I 1)]) (ws' := WX a t (va_up I 0 x) F L) C 1 rfl rfl xin_wsX1 tyX1 tyX1_ok nmX1 7 (by decide) xfl_X2_55 rfl (by rfl) (by rfl) (Nat.le_of_ble_eq_true rfl) hdg rfl kk
theorem gX3_23 (C : XK X l D t cc RX3 rm nL) (hdg : decode cc pc = .ok (.getfield 23, 3)) (kk : XW X k n (WX a t I F L) lv (pc + 3) (.int (I 1) :: st)) : XW X k n (WX a t I F L) lv pc (.ref (a 1) :: st) := xget C 1 rfl rfl xin_wsX1 8 (by decide) xfl_X3_23 rfl hdg kk
theorem gX3_23K (C : XK X l D t cc RX3 rm nL) (hK : CFG K I F) (hdg : decode cc pc = .ok (.getfield 23, 3)) (kk : XW X k n (WX a t I F L) lv (pc + 3) (.int (nI (km K)) :: st)) : XW X k n (WX a t I F L) lv pc (.ref (a 1) :: st) := gX3_23 C hdg (xtopi hK.m kk)
theorem pX3_23 (C : XK X l D t cc RX3 rm nL) {x : Int32} (hdg : decode cc pc = .ok (.putfield 23, 3)) (kk : XW X k n (WX a t (va_up I 1 x) F L) lv (pc + 3) st) : XW X k n (WX a t I F L) lv pc (.int x :: .ref (a 1) :: st) := xput (ci := 1) (fs := [.ref (a 8), .ref (a 9), .ref (a 10), .ref (a 11), .ref (a 6), .ref (a 12), .ref (a 13), .int (I 0), .int (I 1)]) (ws' := WX a t (va_up I 1 x) F L) C 1 rfl rfl xin_wsX1 tyX1 tyX1_ok nmX1 8 (by decide) xfl_X3_23 rfl (by rfl) (by rfl) (Nat.le_of_ble_eq_true rfl) hdg rfl kk
theorem gX5_72 (C : XK X l D t cc RX5 rm nL) (hdg : decode cc pc = .ok (.getfield 72, 3)) (kk : XW X k n (WX a t I F L) lv (pc + 3) (.int (I 1) :: st)) : XW X k n (WX a t I F L) lv pc (.ref (a 1) :: st) := xget C 1 rfl rfl xin_wsX1 8 (by decide) xfl_X5_72 rfl hdg kk
theorem gX5_72K (C : XK X l D t cc RX5 rm nL) (hK : CFG K I F) (hdg : decode cc pc = .ok (.getfield 72, 3)) (kk : XW X k n (WX a t I F L) lv (pc + 3) (.int (nI (km K)) :: st)) : XW X k n (WX a t I F L) lv pc (.ref (a 1) :: st) := gX5_72 C hdg (xtopi hK.m kk)
theorem pX5_72 (C : XK X l D t cc RX5 rm nL) {x : Int32} (hdg : decode cc pc = .ok (.putfield 72, 3)) (kk : XW X k n (WX a t (va_up I 1 x) F L) lv (pc + 3) st) : XW X k n (WX a t I F L) lv pc (.int x :: .ref (a 1) :: st) := xput (ci := 1) (fs := [.ref (a 8), .ref (a 9), .ref (a 10), .ref (a 11), .ref (a 6), .ref (a 12), .ref (a 13), .int (I 0), .int (I 1)]) (ws' := WX a t (va_up I 1 x) F L) C 1 rfl rfl xin_wsX1 tyX1 tyX1_ok nmX1 8 (by decide) xfl_X5_72 rfl (by rfl) (by rfl) (Nat.le_of_ble_eq_true rfl) hdg rfl kk
theorem gX1_39 (C : XK X l D t cc RX1 rm nL) (hdg : decode cc pc = .ok (.getfield 39, 3)) (kk : XW X k n (WX a t I F L) lv (pc + 3) (.int (I 1) :: st)) : XW X k n (WX a t I F L) lv pc (.ref (a 1) :: st) := xget C 1 rfl rfl xin_wsX1 8 (by decide) xfl_X1_39 rfl hdg kk
theorem gX1_39K (C : XK X l D t cc RX1 rm nL) (hK : CFG K I F) (hdg : decode cc pc = .ok (.getfield 39, 3)) (kk : XW X k n (WX a t I F L) lv (pc + 3) (.int (nI (km K)) :: st)) : XW X k n (WX a t I F L) lv pc (.ref (a 1) :: st) := gX1_39 C hdg (xtopi hK.m kk)
theorem pX1_39 (C : XK X l D t cc RX1 rm nL) {x : Int32} (hdg : decode cc pc = .ok (.putfield 39, 3)) (kk : XW X k n (WX a t (va_up I 1 x) F L) lv (pc + 3) st) : XW X k n (WX a t I F L) lv pc (.int x :: .ref (a 1) :: st) := xput (ci := 1) (fs := [.ref (a 8), .ref (a 9), .ref (a 10), .ref (a 11), .ref (a 6), .ref (a 12), .ref (a 13), .int (I 0), .int (I 1)]) (ws' := WX a t (va_up I 1 x) F L) C 1 rfl rfl xin_wsX1 tyX1 tyX1_ok nmX1 8 (by decide) xfl_X1_39 rfl (by rfl) (by rfl) (Nat.le_of_ble_eq_true rfl) hdg rfl kk
theorem gX2_62 (C : XK X l D t cc RX2 rm nL) (hdg : decode cc pc = .ok (.getfield 62, 3)) (kk : XW X k n (WX a t I F L) lv (pc + 3) (.int (I 1) :: st)) : XW X k n (WX a t I F L) lv pc (.ref (a 1) :: st) := xget C 1 rfl rfl xin_wsX1 8 (by decide) xfl_X2_62 rfl hdg kk
theorem gX2_62K (C : XK X l D t cc RX2 rm nL) (hK : CFG K I F) (hdg : decode cc pc = .ok (.getfield 62, 3)) (kk : XW X k n (WX a t I F L) lv (pc + 3) (.int (nI (km K)) :: st)) : XW X k n (WX a t I F L) lv pc (.ref (a 1) :: st) := gX2_62 C hdg (xtopi hK.m kk)
theorem pX2_62 (C : XK X l D t cc RX2 rm nL) {x : Int32} (hdg : decode cc pc = .ok (.putfield 62, 3)) (kk : XW X k n (WX a t (va_up I 1 x) F L) lv (pc + 3) st) : XW X k n (WX a t I F L) lv pc (.int x :: .ref (a 1) :: st) := xput (ci := 1) (fs := [.ref (a 8), .ref (a 9), .ref (a 10), .ref (a 11), .ref (a 6), .ref (a 12), .ref (a 13), .int (I 0), .int (I 1)]) (ws' := WX a t (va_up I 1 x) F L) C 1 rfl rfl xin_wsX1 tyX1 tyX1_ok nmX1 8 (by decide) xfl_X2_62 rfl (by rfl) (by rfl) (Nat.le_of_ble_eq_true rfl) hdg rfl kk
theorem gX2_32 (C : XK X l D t cc RX2 rm nL) (hdg : decode cc pc = .ok (.getfield 32, 3)) (kk : XW X k n (WX a t I F L) lv (pc + 3) (.ref (a 1) :: st)) : XW X k n (WX a t I F L) lv pc (.ref (a 2) :: st) := xget C 2 rfl rfl xin_wsX2 0 (by decide) xfl_X2_32 rfl hdg kk
theorem gX2_9 (C : XK X l D t cc RX2 rm nL) (hdg : decode cc pc = .ok (.getfield 9, 3)) (kk : XW X k n (WX a t I F L) lv (pc + 3) (.ref (a 14) :: st)) : XW X k n (WX a t I F L) lv pc (.ref (a 2) :: st) := xget C 2 rfl rfl xin_wsX2 1 (by decide) xfl_X2_9 rfl hdg kk
theorem gX0_37 (C : XK X l D t cc RX0 rm nL) (hdg : decode cc pc = .ok (.getfield 37, 3)) (kk : XW X k n (WX a t I F L) lv (pc + 3) (.ref (a 14) :: st)) : XW X k n (WX a t I F L) lv pc (.ref (a 2) :: st) := xget C 2 rfl rfl xin_wsX2 1 (by decide) xfl_X0_37 rfl hdg kk
theorem gX5_105 (C : XK X l D t cc RX5 rm nL) (hdg : decode cc pc = .ok (.getfield 105, 3)) (kk : XW X k n (WX a t I F L) lv (pc + 3) (.ref (a 14) :: st)) : XW X k n (WX a t I F L) lv pc (.ref (a 2) :: st) := xget C 2 rfl rfl xin_wsX2 1 (by decide) xfl_X5_105 rfl hdg kk
theorem gX2_15 (C : XK X l D t cc RX2 rm nL) (hdg : decode cc pc = .ok (.getfield 15, 3)) (kk : XW X k n (WX a t I F L) lv (pc + 3) (.ref (a 15) :: st)) : XW X k n (WX a t I F L) lv pc (.ref (a 2) :: st) := xget C 2 rfl rfl xin_wsX2 2 (by decide) xfl_X2_15 rfl hdg kk
theorem gX0_44 (C : XK X l D t cc RX0 rm nL) (hdg : decode cc pc = .ok (.getfield 44, 3)) (kk : XW X k n (WX a t I F L) lv (pc + 3) (.ref (a 15) :: st)) : XW X k n (WX a t I F L) lv pc (.ref (a 2) :: st) := xget C 2 rfl rfl xin_wsX2 2 (by decide) xfl_X0_44 rfl hdg kk
theorem gX5_108 (C : XK X l D t cc RX5 rm nL) (hdg : decode cc pc = .ok (.getfield 108, 3)) (kk : XW X k n (WX a t I F L) lv (pc + 3) (.ref (a 15) :: st)) : XW X k n (WX a t I F L) lv pc (.ref (a 2) :: st) := xget C 2 rfl rfl xin_wsX2 2 (by decide) xfl_X5_108 rfl hdg kk
theorem gX2_18 (C : XK X l D t cc RX2 rm nL) (hdg : decode cc pc = .ok (.getfield 18, 3)) (kk : XW X k n (WX a t I F L) lv (pc + 3) (.int (I 2) :: st)) : XW X k n (WX a t I F L) lv pc (.ref (a 2) :: st) := xget C 2 rfl rfl xin_wsX2 3 (by decide) xfl_X2_18 rfl hdg kk
theorem gX2_18K (C : XK X l D t cc RX2 rm nL) (hK : CFG K I F) (hdg : decode cc pc = .ok (.getfield 18, 3)) (kk : XW X k n (WX a t I F L) lv (pc + 3) (.int (nI (kk K)) :: st)) : XW X k n (WX a t I F L) lv pc (.ref (a 2) :: st) := gX2_18 C hdg (xtopi hK.k kk)
theorem pX2_18 (C : XK X l D t cc RX2 rm nL) {x : Int32} (hdg : decode cc pc = .ok (.putfield 18, 3)) (kk : XW X k n (WX a t (va_up I 2 x) F L) lv (pc + 3) st) : XW X k n (WX a t I F L) lv pc (.int x :: .ref (a 2) :: st) := xput (ci := 2) (fs := [.ref (a 1), .ref (a 14), .ref (a 15), .int (I 2), .int (I 3), .int (I 4), .int (I 5)]) (ws' := WX a t (va_up I 2 x) F L) C 2 rfl rfl xin_wsX2 tyX2 tyX2_ok nmX2 3 (by decide) xfl_X2_18 rfl (by rfl) (by rfl) (Nat.le_of_ble_eq_true rfl) hdg rfl kk
theorem gX5_86 (C : XK X l D t cc RX5 rm nL) (hdg : decode cc pc = .ok (.getfield 86, 3)) (kk : XW X k n (WX a t I F L) lv (pc + 3) (.int (I 2) :: st)) : XW X k n (WX a t I F L) lv pc (.ref (a 2) :: st) := xget C 2 rfl rfl xin_wsX2 3 (by decide) xfl_X5_86 rfl hdg kk
theorem gX5_86K (C : XK X l D t cc RX5 rm nL) (hK : CFG K I F) (hdg : decode cc pc = .ok (.getfield 86, 3)) (kk : XW X k n (WX a t I F L) lv (pc + 3) (.int (nI (kk K)) :: st)) : XW X k n (WX a t I F L) lv pc (.ref (a 2) :: st) := gX5_86 C hdg (xtopi hK.k kk)
theorem pX5_86 (C : XK X l D t cc RX5 rm nL) {x : Int32} (hdg : decode cc pc = .ok (.putfield 86, 3)) (kk : XW X k n (WX a t (va_up I 2 x) F L) lv (pc + 3) st) : XW X k n (WX a t I F L) lv pc (.int x :: .ref (a 2) :: st) := xput (ci := 2) (fs := [.ref (a 1), .ref (a 14), .ref (a 15), .int (I 2), .int (I 3), .int (I 4), .int (I 5)]) (ws' := WX a t (va_up I 2 x) F L) C 2 rfl rfl xin_wsX2 tyX2 tyX2_ok nmX2 3 (by decide) xfl_X5_86 rfl (by rfl) (by rfl) (Nat.le_of_ble_eq_true rfl) hdg rfl kk
theorem gX2_22 (C : XK X l D t cc RX2 rm nL) (hdg : decode cc pc = .ok (.getfield 22, 3)) (kk : XW X k n (WX a t I F L) lv (pc + 3) (.int (I 3) :: st)) : XW X k n (WX a t I F L) lv pc (.ref (a 2) :: st) := xget C 2 rfl rfl xin_wsX2 4 (by decide) xfl_X2_22 rfl hdg kk
theorem gX2_22K (C : XK X l D t cc RX2 rm nL) (hK : CFG K I F) (hdg : decode cc pc = .ok (.getfield 22, 3)) (kk : XW X k n (WX a t I F L) lv (pc + 3) (.int (nI (ku K)) :: st)) : XW X k n (WX a t I F L) lv pc (.ref (a 2) :: st) := gX2_22 C hdg (xtopi hK.u kk)
theorem pX2_22 (C : XK X l D t cc RX2 rm nL) {x : Int32} (hdg : decode cc pc = .ok (.putfield 22, 3)) (kk : XW X k n (WX a t (va_up I 3 x) F L) lv (pc + 3) st) : XW X k n (WX a t I F L) lv pc (.int x :: .ref (a 2) :: st) := xput (ci := 2) (fs := [.ref (a 1), .ref (a 14), .ref (a 15), .int (I 2), .int (I 3), .int (I 4), .int (I 5)]) (ws' := WX a t (va_up I 3 x) F L) C 2 rfl rfl xin_wsX2 tyX2 tyX2_ok nmX2 4 (by decide) xfl_X2_22 rfl (by rfl) (by rfl) (Nat.le_of_ble_eq_true rfl) hdg rfl kk
theorem gX5_89 (C : XK X l D t cc RX5 rm nL) (hdg : decode cc pc = .ok (.getfield 89, 3)) (kk : XW X k n (WX a t I F L) lv (pc + 3) (.int (I 3) :: st)) : XW X k n (WX a t I F L) lv pc (.ref (a 2) :: st) := xget C 2 rfl rfl xin_wsX2 4 (by decide) xfl_X5_89 rfl hdg kk
theorem gX5_89K (C : XK X l D t cc RX5 rm nL) (hK : CFG K I F) (hdg : decode cc pc = .ok (.getfield 89, 3)) (kk : XW X k n (WX a t I F L) lv (pc + 3) (.int (nI (ku K)) :: st)) : XW X k n (WX a t I F L) lv pc (.ref (a 2) :: st) := gX5_89 C hdg (xtopi hK.u kk)
theorem pX5_89 (C : XK X l D t cc RX5 rm nL) {x : Int32} (hdg : decode cc pc = .ok (.putfield 89, 3)) (kk : XW X k n (WX a t (va_up I 3 x) F L) lv (pc + 3) st) : XW X k n (WX a t I F L) lv pc (.int x :: .ref (a 2) :: st) := xput (ci := 2) (fs := [.ref (a 1), .ref (a 14), .ref (a 15), .int (I 2), .int (I 3), .int (I 4), .int (I 5)]) (ws' := WX a t (va_up I 3 x) F L) C 2 rfl rfl xin_wsX2 tyX2 tyX2_ok nmX2 4 (by decide) xfl_X5_89 rfl (by rfl) (by rfl) (Nat.le_of_ble_eq_true rfl) hdg rfl kk
theorem gX2_25 (C : XK X l D t cc RX2 rm nL) (hdg : decode cc pc = .ok (.getfield 25, 3)) (kk : XW X k n (WX a t I F L) lv (pc + 3) (.int (I 4) :: st)) : XW X k n (WX a t I F L) lv pc (.ref (a 2) :: st) := xget C 2 rfl rfl xin_wsX2 5 (by decide) xfl_X2_25 rfl hdg kk
theorem gX2_25K (C : XK X l D t cc RX2 rm nL) (hK : CFG K I F) (hdg : decode cc pc = .ok (.getfield 25, 3)) (kk : XW X k n (WX a t I F L) lv (pc + 3) (.int (nI (kv K)) :: st)) : XW X k n (WX a t I F L) lv pc (.ref (a 2) :: st) := gX2_25 C hdg (xtopi hK.v kk)
theorem pX2_25 (C : XK X l D t cc RX2 rm nL) {x : Int32} (hdg : decode cc pc = .ok (.putfield 25, 3)) (kk : XW X k n (WX a t (va_up I 4 x) F L) lv (pc + 3) st) : XW X k n (WX a t I F L) lv pc (.int x :: .ref (a 2) :: st) := xput (ci := 2) (fs := [.ref (a 1), .ref (a 14), .ref (a 15), .int (I 2), .int (I 3), .int (I 4), .int (I 5)]) (ws' := WX a t (va_up I 4 x) F L) C 2 rfl rfl xin_wsX2 tyX2 tyX2_ok nmX2 5 (by decide) xfl_X2_25 rfl (by rfl) (by rfl) (Nat.le_of_ble_eq_true rfl) hdg rfl kk
theorem gX5_92 (C : XK X l D t cc RX5 rm nL) (hdg : decode cc pc = .ok (.getfield 92, 3)) (kk : XW X k n (WX a t I F L) lv (pc + 3) (.int (I 4) :: st)) : XW X k n (WX a t I F L) lv pc (.ref (a 2) :: st) := xget C 2 rfl rfl xin_wsX2 5 (by decide) xfl_X5_92 rfl hdg kk
theorem gX5_92K (C : XK X l D t cc RX5 rm nL) (hK : CFG K I F) (hdg : decode cc pc = .ok (.getfield 92, 3)) (kk : XW X k n (WX a t I F L) lv (pc + 3) (.int (nI (kv K)) :: st)) : XW X k n (WX a t I F L) lv pc (.ref (a 2) :: st) := gX5_92 C hdg (xtopi hK.v kk)
theorem pX5_92 (C : XK X l D t cc RX5 rm nL) {x : Int32} (hdg : decode cc pc = .ok (.putfield 92, 3)) (kk : XW X k n (WX a t (va_up I 4 x) F L) lv (pc + 3) st) : XW X k n (WX a t I F L) lv pc (.int x :: .ref (a 2) :: st) := xput (ci := 2) (fs := [.ref (a 1), .ref (a 14), .ref (a 15), .int (I 2), .int (I 3), .int (I 4), .int (I 5)]) (ws' := WX a t (va_up I 4 x) F L) C 2 rfl rfl xin_wsX2 tyX2 tyX2_ok nmX2 5 (by decide) xfl_X5_92 rfl (by rfl) (by rfl) (Nat.le_of_ble_eq_true rfl) hdg rfl kk
theorem gX2_28 (C : XK X l D t cc RX2 rm nL) (hdg : decode cc pc = .ok (.getfield 28, 3)) (kk : XW X k n (WX a t I F L) lv (pc + 3) (.int (I 5) :: st)) : XW X k n (WX a t I F L) lv pc (.ref (a 2) :: st) := xget C 2 rfl rfl xin_wsX2 6 (by decide) xfl_X2_28 rfl hdg kk
theorem pX2_28 (C : XK X l D t cc RX2 rm nL) {x : Int32} (hn : narrow .boolean (.int x) = .int x) (hf : fits .boolean (.int x) = true) (hdg : decode cc pc = .ok (.putfield 28, 3)) (kk : XW X k n (WX a t (va_up I 5 x) F L) lv (pc + 3) st) : XW X k n (WX a t I F L) lv pc (.int x :: .ref (a 2) :: st) := xput (ci := 2) (fs := [.ref (a 1), .ref (a 14), .ref (a 15), .int (I 2), .int (I 3), .int (I 4), .int (I 5)]) (ws' := WX a t (va_up I 5 x) F L) C 2 rfl rfl xin_wsX2 tyX2 tyX2_ok nmX2 6 (by decide) xfl_X2_28 rfl hn hf (Nat.le_of_ble_eq_true rfl) hdg rfl kk
theorem gX5_101 (C : XK X l D t cc RX5 rm nL) (hdg : decode cc pc = .ok (.getfield 101, 3)) (kk : XW X k n (WX a t I F L) lv (pc + 3) (.int (I 5) :: st)) : XW X k n (WX a t I F L) lv pc (.ref (a 2) :: st) := xget C 2 rfl rfl xin_wsX2 6 (by decide) xfl_X5_101 rfl hdg kk
theorem pX5_101 (C : XK X l D t cc RX5 rm nL) {x : Int32} (hn : narrow .boolean (.int x) = .int x) (hf : fits .boolean (.int x) = true) (hdg : decode cc pc = .ok (.putfield 101, 3)) (kk : XW X k n (WX a t (va_up I 5 x) F L) lv (pc + 3) st) : XW X k n (WX a t I F L) lv pc (.int x :: .ref (a 2) :: st) := xput (ci := 2) (fs := [.ref (a 1), .ref (a 14), .ref (a 15), .int (I 2), .int (I 3), .int (I 4), .int (I 5)]) (ws' := WX a t (va_up I 5 x) F L) C 2 rfl rfl xin_wsX2 tyX2 tyX2_ok nmX2 6 (by decide) xfl_X5_101 rfl hn hf (Nat.le_of_ble_eq_true rfl) hdg rfl kk
theorem gX4_15 (C : XK X l D t cc RX4 rm nL) (hdg : decode cc pc = .ok (.getfield 15, 3)) (kk : XW X k n (WX a t I F L) lv (pc + 3) (.ref (a 1) :: st)) : XW X k n (WX a t I F L) lv pc (.ref (a 3) :: st) := xget C 3 rfl rfl xin_wsX4 0 (by decide) xfl_X4_15 rfl hdg kk
theorem gX4_19 (C : XK X l D t cc RX4 rm nL) (hdg : decode cc pc = .ok (.getfield 19, 3)) (kk : XW X k n (WX a t I F L) lv (pc + 3) (.ref (a 2) :: st)) : XW X k n (WX a t I F L) lv pc (.ref (a 3) :: st) := xget C 3 rfl rfl xin_wsX4 1 (by decide) xfl_X4_19 rfl hdg kk
theorem gX4_9 (C : XK X l D t cc RX4 rm nL) (hdg : decode cc pc = .ok (.getfield 9, 3)) (kk : XW X k n (WX a t I F L) lv (pc + 3) (.ref (a 7) :: st)) : XW X k n (WX a t I F L) lv pc (.ref (a 3) :: st) := xget C 3 rfl rfl xin_wsX4 2 (by decide) xfl_X4_9 rfl hdg kk
theorem gX0_25 (C : XK X l D t cc RX0 rm nL) (hdg : decode cc pc = .ok (.getfield 25, 3)) (kk : XW X k n (WX a t I F L) lv (pc + 3) (.ref (a 1) :: st)) : XW X k n (WX a t I F L) lv pc (.ref (a 4) :: st) := xget C 4 rfl rfl xin_wsX0 0 (by decide) xfl_X0_25 rfl hdg kk
theorem gX0_29 (C : XK X l D t cc RX0 rm nL) (hdg : decode cc pc = .ok (.getfield 29, 3)) (kk : XW X k n (WX a t I F L) lv (pc + 3) (.ref (a 2) :: st)) : XW X k n (WX a t I F L) lv pc (.ref (a 4) :: st) := xget C 4 rfl rfl xin_wsX0 1 (by decide) xfl_X0_29 rfl hdg kk
theorem gX0_33 (C : XK X l D t cc RX0 rm nL) (hdg : decode cc pc = .ok (.getfield 33, 3)) (kk : XW X k n (WX a t I F L) lv (pc + 3) (.ref (a 3) :: st)) : XW X k n (WX a t I F L) lv pc (.ref (a 4) :: st) := xget C 4 rfl rfl xin_wsX0 2 (by decide) xfl_X0_33 rfl hdg kk
theorem gX0_9 (C : XK X l D t cc RX0 rm nL) (hdg : decode cc pc = .ok (.getfield 9, 3)) (kk : XW X k n (WX a t I F L) lv (pc + 3) (.ref (a 16) :: st)) : XW X k n (WX a t I F L) lv pc (.ref (a 4) :: st) := xget C 4 rfl rfl xin_wsX0 3 (by decide) xfl_X0_9 rfl hdg kk
theorem gX0_15 (C : XK X l D t cc RX0 rm nL) (hdg : decode cc pc = .ok (.getfield 15, 3)) (kk : XW X k n (WX a t I F L) lv (pc + 3) (.ref (a 17) :: st)) : XW X k n (WX a t I F L) lv pc (.ref (a 4) :: st) := xget C 4 rfl rfl xin_wsX0 4 (by decide) xfl_X0_15 rfl hdg kk
theorem gX5_160 (C : XK X l D t cc RX5 rm nL) (hdg : decode cc pc = .ok (.getfield 160, 3)) (kk : XW X k n (WX a t I F L) lv (pc + 3) (.ref (a 17) :: st)) : XW X k n (WX a t I F L) lv pc (.ref (a 4) :: st) := xget C 4 rfl rfl xin_wsX0 4 (by decide) xfl_X5_160 rfl hdg kk
theorem gX0_68 (C : XK X l D t cc RX0 rm nL) (hdg : decode cc pc = .ok (.getfield 68, 3)) (kk : XW X k n (WX a t I F L) lv (pc + 3) (.int (I 6) :: st)) : XW X k n (WX a t I F L) lv pc (.ref (a 4) :: st) := xget C 4 rfl rfl xin_wsX0 5 (by decide) xfl_X0_68 rfl hdg kk
theorem pX0_68 (C : XK X l D t cc RX0 rm nL) {x : Int32} (hdg : decode cc pc = .ok (.putfield 68, 3)) (kk : XW X k n (WX a t (va_up I 6 x) F L) lv (pc + 3) st) : XW X k n (WX a t I F L) lv pc (.int x :: .ref (a 4) :: st) := xput (ci := 4) (fs := [.ref (a 1), .ref (a 2), .ref (a 3), .ref (a 16), .ref (a 17), .int (I 6), .int (I 7), .ref (a 18), .int (I 8), .int (I 9)]) (ws' := WX a t (va_up I 6 x) F L) C 4 rfl rfl xin_wsX0 tyX0 tyX0_ok nmX0 5 (by decide) xfl_X0_68 rfl (by rfl) (by rfl) (Nat.le_of_ble_eq_true rfl) hdg rfl kk
theorem gX5_154 (C : XK X l D t cc RX5 rm nL) (hdg : decode cc pc = .ok (.getfield 154, 3)) (kk : XW X k n (WX a t I F L) lv (pc + 3) (.int (I 6) :: st)) : XW X k n (WX a t I F L) lv pc (.ref (a 4) :: st) := xget C 4 rfl rfl xin_wsX0 5 (by decide) xfl_X5_154 rfl hdg kk
theorem pX5_154 (C : XK X l D t cc RX5 rm nL) {x : Int32} (hdg : decode cc pc = .ok (.putfield 154, 3)) (kk : XW X k n (WX a t (va_up I 6 x) F L) lv (pc + 3) st) : XW X k n (WX a t I F L) lv pc (.int x :: .ref (a 4) :: st) := xput (ci := 4) (fs := [.ref (a 1), .ref (a 2), .ref (a 3), .ref (a 16), .ref (a 17), .int (I 6), .int (I 7), .ref (a 18), .int (I 8), .int (I 9)]) (ws' := WX a t (va_up I 6 x) F L) C 4 rfl rfl xin_wsX0 tyX0 tyX0_ok nmX0 5 (by decide) xfl_X5_154 rfl (by rfl) (by rfl) (Nat.le_of_ble_eq_true rfl) hdg rfl kk
theorem gX0_49 (C : XK X l D t cc RX0 rm nL) (hdg : decode cc pc = .ok (.getfield 49, 3)) (kk : XW X k n (WX a t I F L) lv (pc + 3) (.int (I 7) :: st)) : XW X k n (WX a t I F L) lv pc (.ref (a 4) :: st) := xget C 4 rfl rfl xin_wsX0 6 (by decide) xfl_X0_49 rfl hdg kk
theorem pX0_49 (C : XK X l D t cc RX0 rm nL) {x : Int32} (hdg : decode cc pc = .ok (.putfield 49, 3)) (kk : XW X k n (WX a t (va_up I 7 x) F L) lv (pc + 3) st) : XW X k n (WX a t I F L) lv pc (.int x :: .ref (a 4) :: st) := xput (ci := 4) (fs := [.ref (a 1), .ref (a 2), .ref (a 3), .ref (a 16), .ref (a 17), .int (I 6), .int (I 7), .ref (a 18), .int (I 8), .int (I 9)]) (ws' := WX a t (va_up I 7 x) F L) C 4 rfl rfl xin_wsX0 tyX0 tyX0_ok nmX0 6 (by decide) xfl_X0_49 rfl (by rfl) (by rfl) (Nat.le_of_ble_eq_true rfl) hdg rfl kk
theorem gX0_18 (C : XK X l D t cc RX0 rm nL) (hdg : decode cc pc = .ok (.getfield 18, 3)) (kk : XW X k n (WX a t I F L) lv (pc + 3) (.ref (a 18) :: st)) : XW X k n (WX a t I F L) lv pc (.ref (a 4) :: st) := xget C 4 rfl rfl xin_wsX0 7 (by decide) xfl_X0_18 rfl hdg kk
theorem gX5_118 (C : XK X l D t cc RX5 rm nL) (hdg : decode cc pc = .ok (.getfield 118, 3)) (kk : XW X k n (WX a t I F L) lv (pc + 3) (.ref (a 18) :: st)) : XW X k n (WX a t I F L) lv pc (.ref (a 4) :: st) := xget C 4 rfl rfl xin_wsX0 7 (by decide) xfl_X5_118 rfl hdg kk
theorem gX0_71 (C : XK X l D t cc RX0 rm nL) (hdg : decode cc pc = .ok (.getfield 71, 3)) (kk : XW X k n (WX a t I F L) lv (pc + 3) (.int (I 8) :: st)) : XW X k n (WX a t I F L) lv pc (.ref (a 4) :: st) := xget C 4 rfl rfl xin_wsX0 8 (by decide) xfl_X0_71 rfl hdg kk
theorem pX0_71 (C : XK X l D t cc RX0 rm nL) {x : Int32} (hdg : decode cc pc = .ok (.putfield 71, 3)) (kk : XW X k n (WX a t (va_up I 8 x) F L) lv (pc + 3) st) : XW X k n (WX a t I F L) lv pc (.int x :: .ref (a 4) :: st) := xput (ci := 4) (fs := [.ref (a 1), .ref (a 2), .ref (a 3), .ref (a 16), .ref (a 17), .int (I 6), .int (I 7), .ref (a 18), .int (I 8), .int (I 9)]) (ws' := WX a t (va_up I 8 x) F L) C 4 rfl rfl xin_wsX0 tyX0 tyX0_ok nmX0 8 (by decide) xfl_X0_71 rfl (by rfl) (by rfl) (Nat.le_of_ble_eq_true rfl) hdg rfl kk
theorem gX5_157 (C : XK X l D t cc RX5 rm nL) (hdg : decode cc pc = .ok (.getfield 157, 3)) (kk : XW X k n (WX a t I F L) lv (pc + 3) (.int (I 8) :: st)) : XW X k n (WX a t I F L) lv pc (.ref (a 4) :: st) := xget C 4 rfl rfl xin_wsX0 8 (by decide) xfl_X5_157 rfl hdg kk
theorem pX5_157 (C : XK X l D t cc RX5 rm nL) {x : Int32} (hdg : decode cc pc = .ok (.putfield 157, 3)) (kk : XW X k n (WX a t (va_up I 8 x) F L) lv (pc + 3) st) : XW X k n (WX a t I F L) lv pc (.int x :: .ref (a 4) :: st) := xput (ci := 4) (fs := [.ref (a 1), .ref (a 2), .ref (a 3), .ref (a 16), .ref (a 17), .int (I 6), .int (I 7), .ref (a 18), .int (I 8), .int (I 9)]) (ws' := WX a t (va_up I 8 x) F L) C 4 rfl rfl xin_wsX0 tyX0 tyX0_ok nmX0 8 (by decide) xfl_X5_157 rfl (by rfl) (by rfl) (Nat.le_of_ble_eq_true rfl) hdg rfl kk
theorem gX0_21 (C : XK X l D t cc RX0 rm nL) (hdg : decode cc pc = .ok (.getfield 21, 3)) (kk : XW X k n (WX a t I F L) lv (pc + 3) (.int (I 9) :: st)) : XW X k n (WX a t I F L) lv pc (.ref (a 4) :: st) := xget C 4 rfl rfl xin_wsX0 9 (by decide) xfl_X0_21 rfl hdg kk
theorem pX0_21 (C : XK X l D t cc RX0 rm nL) {x : Int32} (hn : narrow .boolean (.int x) = .int x) (hf : fits .boolean (.int x) = true) (hdg : decode cc pc = .ok (.putfield 21, 3)) (kk : XW X k n (WX a t (va_up I 9 x) F L) lv (pc + 3) st) : XW X k n (WX a t I F L) lv pc (.int x :: .ref (a 4) :: st) := xput (ci := 4) (fs := [.ref (a 1), .ref (a 2), .ref (a 3), .ref (a 16), .ref (a 17), .int (I 6), .int (I 7), .ref (a 18), .int (I 8), .int (I 9)]) (ws' := WX a t (va_up I 9 x) F L) C 4 rfl rfl xin_wsX0 tyX0 tyX0_ok nmX0 9 (by decide) xfl_X0_21 rfl hn hf (Nat.le_of_ble_eq_true rfl) hdg rfl kk
theorem gX5_115 (C : XK X l D t cc RX5 rm nL) (hdg : decode cc pc = .ok (.getfield 115, 3)) (kk : XW X k n (WX a t I F L) lv (pc + 3) (.int (I 9) :: st)) : XW X k n (WX a t I F L) lv pc (.ref (a 4) :: st) := xget C 4 rfl rfl xin_wsX0 9 (by decide) xfl_X5_115 rfl hdg kk
theorem pX5_115 (C : XK X l D t cc RX5 rm nL) {x : Int32} (hn : narrow .boolean (.int x) = .int x) (hf : fits .boolean (.int x) = true) (hdg : decode cc pc = .ok (.putfield 115, 3)) (kk : XW X k n (WX a t (va_up I 9 x) F L) lv (pc + 3) st) : XW X k n (WX a t I F L) lv pc (.int x :: .ref (a 4) :: st) := xput (ci := 4) (fs := [.ref (a 1), .ref (a 2), .ref (a 3), .ref (a 16), .ref (a 17), .int (I 6), .int (I 7), .ref (a 18), .int (I 8), .int (I 9)]) (ws' := WX a t (va_up I 9 x) F L) C 4 rfl rfl xin_wsX0 tyX0 tyX0_ok nmX0 9 (by decide) xfl_X5_115 rfl hn hf (Nat.le_of_ble_eq_true rfl) hdg rfl kk
theorem gX3_15 (C : XK X l D t cc RX3 rm nL) (hdg : decode cc pc = .ok (.getfield 15, 3)) (kk : XW X k n (WX a t I F L) lv (pc + 3) (.ref (a 1) :: st)) : XW X k n (WX a t I F L) lv pc (.ref (a 5) :: st) := xget C 5 rfl rfl xin_wsX3 0 (by decide) xfl_X3_15 rfl hdg kk
theorem gX3_19 (C : XK X l D t cc RX3 rm nL) (hdg : decode cc pc = .ok (.getfield 19, 3)) (kk : XW X k n (WX a t I F L) lv (pc + 3) (.ref (a 2) :: st)) : XW X k n (WX a t I F L) lv pc (.ref (a 5) :: st) := xget C 5 rfl rfl xin_wsX3 1 (by decide) xfl_X3_19 rfl hdg kk
theorem gX3_9 (C : XK X l D t cc RX3 rm nL) (hdg : decode cc pc = .ok (.getfield 9, 3)) (kk : XW X k n (WX a t I F L) lv (pc + 3) (.ref (a 19) :: st)) : XW X k n (WX a t I F L) lv pc (.ref (a 5) :: st) := xget C 5 rfl rfl xin_wsX3 2 (by decide) xfl_X3_9 rfl hdg kk
theorem gX5_10 (C : XK X l D t cc RX5 rm nL) (hdg : decode cc pc = .ok (.getfield 10, 3)) (kk : XW X k n (WX a t I F L) lv (pc + 3) (.ref (a 1) :: st)) : XW X k n (WX a t I F L) lv pc (.ref (a 0) :: st) := xget C 0 rfl rfl xin_wsX5 0 (by decide) xfl_X5_10 rfl hdg kk
theorem gX5_21 (C : XK X l D t cc RX5 rm nL) (hdg : decode cc pc = .ok (.getfield 21, 3)) (kk : XW X k n (WX a t I F L) lv (pc + 3) (.ref (a 2) :: st)) : XW X k n (WX a t I F L) lv pc (.ref (a 0) :: st) := xget C 0 rfl rfl xin_wsX5 1 (by decide) xfl_X5_21 rfl hdg kk
theorem gX5_30 (C : XK X l D t cc RX5 rm nL) (hdg : decode cc pc = .ok (.getfield 30, 3)) (kk : XW X k n (WX a t I F L) lv (pc + 3) (.ref (a 3) :: st)) : XW X k n (WX a t I F L) lv pc (.ref (a 0) :: st) := xget C 0 rfl rfl xin_wsX5 2 (by decide) xfl_X5_30 rfl hdg kk
theorem gX5_39 (C : XK X l D t cc RX5 rm nL) (hdg : decode cc pc = .ok (.getfield 39, 3)) (kk : XW X k n (WX a t I F L) lv (pc + 3) (.ref (a 4) :: st)) : XW X k n (WX a t I F L) lv pc (.ref (a 0) :: st) := xget C 0 rfl rfl xin_wsX5 3 (by decide) xfl_X5_39 rfl hdg kk
theorem gX5_46 (C : XK X l D t cc RX5 rm nL) (hdg : decode cc pc = .ok (.getfield 46, 3)) (kk : XW X k n (WX a t I F L) lv (pc + 3) (.ref (a 5) :: st)) : XW X k n (WX a t I F L) lv pc (.ref (a 0) :: st) := xget C 0 rfl rfl xin_wsX5 4 (by decide) xfl_X5_46 rfl hdg kk
theorem gX5_50 (C : XK X l D t cc RX5 rm nL) (hdg : decode cc pc = .ok (.getfield 50, 3)) (kk : XW X k n (WX a t I F L) lv (pc + 3) (.ref (a 20) :: st)) : XW X k n (WX a t I F L) lv pc (.ref (a 0) :: st) := xget C 0 rfl rfl xin_wsX5 5 (by decide) xfl_X5_50 rfl hdg kk
theorem gX5_54 (C : XK X l D t cc RX5 rm nL) (hdg : decode cc pc = .ok (.getfield 54, 3)) (kk : XW X k n (WX a t I F L) lv (pc + 3) (.int (I 10) :: st)) : XW X k n (WX a t I F L) lv pc (.ref (a 0) :: st) := xget C 0 rfl rfl xin_wsX5 6 (by decide) xfl_X5_54 rfl hdg kk
theorem pX5_54 (C : XK X l D t cc RX5 rm nL) {x : Int32} (hdg : decode cc pc = .ok (.putfield 54, 3)) (kk : XW X k n (WX a t (va_up I 10 x) F L) lv (pc + 3) st) : XW X k n (WX a t I F L) lv pc (.int x :: .ref (a 0) :: st) := xput (ci := 0) (fs := [.ref (a 1), .ref (a 2), .ref (a 3), .ref (a 4), .ref (a 5), .ref (a 20), .int (I 10)]) (ws' := WX a t (va_up I 10 x) F L) C 0 rfl rfl xin_wsX5 tyX5 tyX5_ok nmX5 6 (by decide) xfl_X5_54 rfl (by rfl) (by rfl) (Nat.le_of_ble_eq_true rfl) hdg rfl kk
theorem gX6_53 (C : XK X l D t cc RX6 rm nL) (hdg : decode cc pc = .ok (.getfield 53, 3)) (kk : XW X k n (WM b t I F) lv (pc + 3) (.int (I 0) :: st)) : XW X k n (WM b t I F) lv pc (.ref (b 0) :: st) := xget C 0 rfl rfl xin_wsX6 0 (by decide) xfl_X6_53 rfl hdg kk
theorem gX6_53K (C : XK X l D t cc RX6 rm nL) (hK : CFG K I F) (hdg : decode cc pc = .ok (.getfield 53, 3)) (kk : XW X k n (WM b t I F) lv (pc + 3) (.int (nI (kn K)) :: st)) : XW X k n (WM b t I F) lv pc (.ref (b 0) :: st) := gX6_53 C hdg (xtopi hK.n kk)
theorem pX6_53 (C : XK X l D t cc RX6 rm nL) {x : Int32} (hdg : decode cc pc = .ok (.putfield 53, 3)) (kk : XW X k n (WM b t (va_up I 0 x) F) lv (pc + 3) st) : XW X k n (WM b t I F) lv pc (.int x :: .ref (b 0) :: st) := xput (ci := 6) (fs := [.int (I 0), .ref (b 1), .ref (b 2), .ref (b 3), .ref (b 4), .ref (b 5), .int (I 1), .ref (b 6), .ref (b 7), .int (I 2), .int (I 3), .int (I 4), .int (I 10), .ref (b 12), .ref (b 8), .ref (b 9), .ref (b 10), .ref (b 11), .int (I 9), .int (I 8), .int (I 7)]) (ws' := WM b t (va_up I 0 x) F) C 0 rfl rfl xin_wsX6 tyX6 tyX6_ok nmX6 0 (by decide) xfl_X6_53 rfl (by rfl) (by rfl) (Nat.le_of_ble_eq_true rfl) hdg rfl kk
theorem gX6_7 (C : XK X l D t cc RX6 rm nL) (hdg : decode cc pc = .ok (.getfield 7, 3)) (kk : XW X k n (WM b t I F) lv (pc + 3) (.ref (b 1) :: st)) : XW X k n (WM b t I F) lv pc (.ref (b 0) :: st) := xget C 0 rfl rfl xin_wsX6 1 (by decide) xfl_X6_7 rfl hdg kk
theorem gX6_13 (C : XK X l D t cc RX6 rm nL) (hdg : decode cc pc = .ok (.getfield 13, 3)) (kk : XW X k n (WM b t I F) lv (pc + 3) (.ref (b 2) :: st)) : XW X k n (WM b t I F) lv pc (.ref (b 0) :: st) := xget C 0 rfl rfl xin_wsX6 2 (by decide) xfl_X6_13 rfl hdg kk
theorem gX6_16 (C : XK X l D t cc RX6 rm nL) (hdg : decode cc pc = .ok (.getfield 16, 3)) (kk : XW X k n (WM b t I F) lv (pc + 3) (.ref (b 3) :: st)) : XW X k n (WM b t I F) lv pc (.ref (b 0) :: st) := xget C 0 rfl rfl xin_wsX6 3 (by decide) xfl_X6_16 rfl hdg kk
theorem gX6_19 (C : XK X l D t cc RX6 rm nL) (hdg : decode cc pc = .ok (.getfield 19, 3)) (kk : XW X k n (WM b t I F) lv (pc + 3) (.ref (b 4) :: st)) : XW X k n (WM b t I F) lv pc (.ref (b 0) :: st) := xget C 0 rfl rfl xin_wsX6 4 (by decide) xfl_X6_19 rfl hdg kk
theorem gX6_22 (C : XK X l D t cc RX6 rm nL) (hdg : decode cc pc = .ok (.getfield 22, 3)) (kk : XW X k n (WM b t I F) lv (pc + 3) (.ref (b 5) :: st)) : XW X k n (WM b t I F) lv pc (.ref (b 0) :: st) := xget C 0 rfl rfl xin_wsX6 5 (by decide) xfl_X6_22 rfl hdg kk
theorem gX6_79 (C : XK X l D t cc RX6 rm nL) (hdg : decode cc pc = .ok (.getfield 79, 3)) (kk : XW X k n (WM b t I F) lv (pc + 3) (.int (I 1) :: st)) : XW X k n (WM b t I F) lv pc (.ref (b 0) :: st) := xget C 0 rfl rfl xin_wsX6 6 (by decide) xfl_X6_79 rfl hdg kk
theorem gX6_79K (C : XK X l D t cc RX6 rm nL) (hK : CFG K I F) (hdg : decode cc pc = .ok (.getfield 79, 3)) (kk : XW X k n (WM b t I F) lv (pc + 3) (.int (nI (km K)) :: st)) : XW X k n (WM b t I F) lv pc (.ref (b 0) :: st) := gX6_79 C hdg (xtopi hK.m kk)
theorem pX6_79 (C : XK X l D t cc RX6 rm nL) {x : Int32} (hdg : decode cc pc = .ok (.putfield 79, 3)) (kk : XW X k n (WM b t (va_up I 1 x) F) lv (pc + 3) st) : XW X k n (WM b t I F) lv pc (.int x :: .ref (b 0) :: st) := xput (ci := 6) (fs := [.int (I 0), .ref (b 1), .ref (b 2), .ref (b 3), .ref (b 4), .ref (b 5), .int (I 1), .ref (b 6), .ref (b 7), .int (I 2), .int (I 3), .int (I 4), .int (I 10), .ref (b 12), .ref (b 8), .ref (b 9), .ref (b 10), .ref (b 11), .int (I 9), .int (I 8), .int (I 7)]) (ws' := WM b t (va_up I 1 x) F) C 0 rfl rfl xin_wsX6 tyX6 tyX6_ok nmX6 6 (by decide) xfl_X6_79 rfl (by rfl) (by rfl) (Nat.le_of_ble_eq_true rfl) hdg rfl kk
theorem gX6_25 (C : XK X l D t cc RX6 rm nL) (hdg : decode cc pc = .ok (.getfield 25, 3)) (kk : XW X k n (WM b t I F) lv (pc + 3) (.ref (b 6) :: st)) : XW X k n (WM b t I F) lv pc (.ref (b 0) :: st) := xget C 0 rfl rfl xin_wsX6 7 (by decide) xfl_X6_25 rfl hdg kk
theorem gX6_28 (C : XK X l D t cc RX6 rm nL) (hdg : decode cc pc = .ok (.getfield 28, 3)) (kk : XW X k n (WM b t I F) lv (pc + 3) (.ref (b 7) :: st)) : XW X k n (WM b t I F) lv pc (.ref (b 0) :: st) := xget C 0 rfl rfl xin_wsX6 8 (by decide) xfl_X6_28 rfl hdg kk
theorem gX6_90 (C : XK X l D t cc RX6 rm nL) (hdg : decode cc pc = .ok (.getfield 90, 3)) (kk : XW X k n (WM b t I F) lv (pc + 3) (.int (I 2) :: st)) : XW X k n (WM b t I F) lv pc (.ref (b 0) :: st) := xget C 0 rfl rfl xin_wsX6 9 (by decide) xfl_X6_90 rfl hdg kk
theorem gX6_90K (C : XK X l D t cc RX6 rm nL) (hK : CFG K I F) (hdg : decode cc pc = .ok (.getfield 90, 3)) (kk : XW X k n (WM b t I F) lv (pc + 3) (.int (nI (kk K)) :: st)) : XW X k n (WM b t I F) lv pc (.ref (b 0) :: st) := gX6_90 C hdg (xtopi hK.k kk)
theorem pX6_90 (C : XK X l D t cc RX6 rm nL) {x : Int32} (hdg : decode cc pc = .ok (.putfield 90, 3)) (kk : XW X k n (WM b t (va_up I 2 x) F) lv (pc + 3) st) : XW X k n (WM b t I F) lv pc (.int x :: .ref (b 0) :: st) := xput (ci := 6) (fs := [.int (I 0), .ref (b 1), .ref (b 2), .ref (b 3), .ref (b 4), .ref (b 5), .int (I 1), .ref (b 6), .ref (b 7), .int (I 2), .int (I 3), .int (I 4), .int (I 10), .ref (b 12), .ref (b 8), .ref (b 9), .ref (b 10), .ref (b 11), .int (I 9), .int (I 8), .int (I 7)]) (ws' := WM b t (va_up I 2 x) F) C 0 rfl rfl xin_wsX6 tyX6 tyX6_ok nmX6 9 (by decide) xfl_X6_90 rfl (by rfl) (by rfl) (Nat.le_of_ble_eq_true rfl) hdg rfl kk
theorem gX6_31 (C : XK X l D t cc RX6 rm nL) (hdg : decode cc pc = .ok (.getfield 31, 3)) (kk : XW X k n (WM b t I F) lv (pc + 3) (.int (I 3) :: st)) : XW X k n (WM b t I F) lv pc (.ref (b 0) :: st) := xget C 0 rfl rfl xin_wsX6 10 (by decide) xfl_X6_31 rfl hdg kk
theorem gX6_31K (C : XK X l D t cc RX6 rm nL) (hK : CFG K I F) (hdg : decode cc pc = .ok (.getfield 31, 3)) (kk : XW X k n (WM b t I F) lv (pc + 3) (.int (nI (ku K)) :: st)) : XW X k n (WM b t I F) lv pc (.ref (b 0) :: st) := gX6_31 C hdg (xtopi hK.u kk)
theorem pX6_31 (C : XK X l D t cc RX6 rm nL) {x : Int32} (hdg : decode cc pc = .ok (.putfield 31, 3)) (kk : XW X k n (WM b t (va_up I 3 x) F) lv (pc + 3) st) : XW X k n (WM b t I F) lv pc (.int x :: .ref (b 0) :: st) := xput (ci := 6) (fs := [.int (I 0), .ref (b 1), .ref (b 2), .ref (b 3), .ref (b 4), .ref (b 5), .int (I 1), .ref (b 6), .ref (b 7), .int (I 2), .int (I 3), .int (I 4), .int (I 10), .ref (b 12), .ref (b 8), .ref (b 9), .ref (b 10), .ref (b 11), .int (I 9), .int (I 8), .int (I 7)]) (ws' := WM b t (va_up I 3 x) F) C 0 rfl rfl xin_wsX6 tyX6 tyX6_ok nmX6 10 (by decide) xfl_X6_31 rfl (by rfl) (by rfl) (Nat.le_of_ble_eq_true rfl) hdg rfl kk
theorem gX6_35 (C : XK X l D t cc RX6 rm nL) (hdg : decode cc pc = .ok (.getfield 35, 3)) (kk : XW X k n (WM b t I F) lv (pc + 3) (.int (I 4) :: st)) : XW X k n (WM b t I F) lv pc (.ref (b 0) :: st) := xget C 0 rfl rfl xin_wsX6 11 (by decide) xfl_X6_35 rfl hdg kk
theorem gX6_35K (C : XK X l D t cc RX6 rm nL) (hK : CFG K I F) (hdg : decode cc pc = .ok (.getfield 35, 3)) (kk : XW X k n (WM b t I F) lv (pc + 3) (.int (nI (kv K)) :: st)) : XW X k n (WM b t I F) lv pc (.ref (b 0) :: st) := gX6_35 C hdg (xtopi hK.v kk)
theorem pX6_35 (C : XK X l D t cc RX6 rm nL) {x : Int32} (hdg : decode cc pc = .ok (.putfield 35, 3)) (kk : XW X k n (WM b t (va_up I 4 x) F) lv (pc + 3) st) : XW X k n (WM b t I F) lv pc (.int x :: .ref (b 0) :: st) := xput (ci := 6) (fs := [.int (I 0), .ref (b 1), .ref (b 2), .ref (b 3), .ref (b 4), .ref (b 5), .int (I 1), .ref (b 6), .ref (b 7), .int (I 2), .int (I 3), .int (I 4), .int (I 10), .ref (b 12), .ref (b 8), .ref (b 9), .ref (b 10), .ref (b 11), .int (I 9), .int (I 8), .int (I 7)]) (ws' := WM b t (va_up I 4 x) F) C 0 rfl rfl xin_wsX6 tyX6 tyX6_ok nmX6 11 (by decide) xfl_X6_35 rfl (by rfl) (by rfl) (Nat.le_of_ble_eq_true rfl) hdg rfl kk
theorem gX6_104 (C : XK X l D t cc RX6 rm nL) (hdg : decode cc pc = .ok (.getfield 104, 3)) (kk : XW X k n (WM b t I F) lv (pc + 3) (.int (I 10) :: st)) : XW X k n (WM b t I F) lv pc (.ref (b 0) :: st) := xget C 0 rfl rfl xin_wsX6 12 (by decide) xfl_X6_104 rfl hdg kk
theorem pX6_104 (C : XK X l D t cc RX6 rm nL) {x : Int32} (hdg : decode cc pc = .ok (.putfield 104, 3)) (kk : XW X k n (WM b t (va_up I 10 x) F) lv (pc + 3) st) : XW X k n (WM b t I F) lv pc (.int x :: .ref (b 0) :: st) := xput (ci := 6) (fs := [.int (I 0), .ref (b 1), .ref (b 2), .ref (b 3), .ref (b 4), .ref (b 5), .int (I 1), .ref (b 6), .ref (b 7), .int (I 2), .int (I 3), .int (I 4), .int (I 10), .ref (b 12), .ref (b 8), .ref (b 9), .ref (b 10), .ref (b 11), .int (I 9), .int (I 8), .int (I 7)]) (ws' := WM b t (va_up I 10 x) F) C 0 rfl rfl xin_wsX6 tyX6 tyX6_ok nmX6 12 (by decide) xfl_X6_104 rfl (by rfl) (by rfl) (Nat.le_of_ble_eq_true rfl) hdg rfl kk
theorem gX6_38 (C : XK X l D t cc RX6 rm nL) (hdg : decode cc pc = .ok (.getfield 38, 3)) (kk : XW X k n (WM b t I F) lv (pc + 3) (.ref (b 12) :: st)) : XW X k n (WM b t I F) lv pc (.ref (b 0) :: st) := xget C 0 rfl rfl xin_wsX6 13 (by decide) xfl_X6_38 rfl hdg kk
theorem gX6_41 (C : XK X l D t cc RX6 rm nL) (hdg : decode cc pc = .ok (.getfield 41, 3)) (kk : XW X k n (WM b t I F) lv (pc + 3) (.ref (b 8) :: st)) : XW X k n (WM b t I F) lv pc (.ref (b 0) :: st) := xget C 0 rfl rfl xin_wsX6 14 (by decide) xfl_X6_41 rfl hdg kk
theorem gX6_44 (C : XK X l D t cc RX6 rm nL) (hdg : decode cc pc = .ok (.getfield 44, 3)) (kk : XW X k n (WM b t I F) lv (pc + 3) (.ref (b 9) :: st)) : XW X k n (WM b t I F) lv pc (.ref (b 0) :: st) := xget C 0 rfl rfl xin_wsX6 15 (by decide) xfl_X6_44 rfl hdg kk
theorem gX6_47 (C : XK X l D t cc RX6 rm nL) (hdg : decode cc pc = .ok (.getfield 47, 3)) (kk : XW X k n (WM b t I F) lv (pc + 3) (.ref (b 10) :: st)) : XW X k n (WM b t I F) lv pc (.ref (b 0) :: st) := xget C 0 rfl rfl xin_wsX6 16 (by decide) xfl_X6_47 rfl hdg kk
theorem gX6_50 (C : XK X l D t cc RX6 rm nL) (hdg : decode cc pc = .ok (.getfield 50, 3)) (kk : XW X k n (WM b t I F) lv (pc + 3) (.ref (b 11) :: st)) : XW X k n (WM b t I F) lv pc (.ref (b 0) :: st) := xget C 0 rfl rfl xin_wsX6 17 (by decide) xfl_X6_50 rfl hdg kk
theorem gX6_60 (C : XK X l D t cc RX6 rm nL) (hdg : decode cc pc = .ok (.getfield 60, 3)) (kk : XW X k n (WM b t I F) lv (pc + 3) (.int (I 9) :: st)) : XW X k n (WM b t I F) lv pc (.ref (b 0) :: st) := xget C 0 rfl rfl xin_wsX6 18 (by decide) xfl_X6_60 rfl hdg kk
theorem pX6_60 (C : XK X l D t cc RX6 rm nL) {x : Int32} (hn : narrow .boolean (.int x) = .int x) (hf : fits .boolean (.int x) = true) (hdg : decode cc pc = .ok (.putfield 60, 3)) (kk : XW X k n (WM b t (va_up I 9 x) F) lv (pc + 3) st) : XW X k n (WM b t I F) lv pc (.int x :: .ref (b 0) :: st) := xput (ci := 6) (fs := [.int (I 0), .ref (b 1), .ref (b 2), .ref (b 3), .ref (b 4), .ref (b 5), .int (I 1), .ref (b 6), .ref (b 7), .int (I 2), .int (I 3), .int (I 4), .int (I 10), .ref (b 12), .ref (b 8), .ref (b 9), .ref (b 10), .ref (b 11), .int (I 9), .int (I 8), .int (I 7)]) (ws' := WM b t (va_up I 9 x) F) C 0 rfl rfl xin_wsX6 tyX6 tyX6_ok nmX6 18 (by decide) xfl_X6_60 rfl hn hf (Nat.le_of_ble_eq_true rfl) hdg rfl kk
theorem gX6_141 (C : XK X l D t cc RX6 rm nL) (hdg : decode cc pc = .ok (.getfield 141, 3)) (kk : XW X k n (WM b t I F) lv (pc + 3) (.int (I 8) :: st)) : XW X k n (WM b t I F) lv pc (.ref (b 0) :: st) := xget C 0 rfl rfl xin_wsX6 19 (by decide) xfl_X6_141 rfl hdg kk
theorem pX6_141 (C : XK X l D t cc RX6 rm nL) {x : Int32} (hdg : decode cc pc = .ok (.putfield 141, 3)) (kk : XW X k n (WM b t (va_up I 8 x) F) lv (pc + 3) st) : XW X k n (WM b t I F) lv pc (.int x :: .ref (b 0) :: st) := xput (ci := 6) (fs := [.int (I 0), .ref (b 1), .ref (b 2), .ref (b 3), .ref (b 4), .ref (b 5), .int (I 1), .ref (b 6), .ref (b 7), .int (I 2), .int (I 3), .int (I 4), .int (I 10), .ref (b 12), .ref (b 8), .ref (b 9), .ref (b 10), .ref (b 11), .int (I 9), .int (I 8), .int (I 7)]) (ws' := WM b t (va_up I 8 x) F) C 0 rfl rfl xin_wsX6 tyX6 tyX6_ok nmX6 19 (by decide) xfl_X6_141 rfl (by rfl) (by rfl) (Nat.le_of_ble_eq_true rfl) hdg rfl kk
theorem gX6_132 (C : XK X l D t cc RX6 rm nL) (hdg : decode cc pc = .ok (.getfield 132, 3)) (kk : XW X k n (WM b t I F) lv (pc + 3) (.int (I 7) :: st)) : XW X k n (WM b t I F) lv pc (.ref (b 0) :: st) := xget C 0 rfl rfl xin_wsX6 20 (by decide) xfl_X6_132 rfl hdg kk
theorem pX6_132 (C : XK X l D t cc RX6 rm nL) {x : Int32} (hdg : decode cc pc = .ok (.putfield 132, 3)) (kk : XW X k n (WM b t (va_up I 7 x) F) lv (pc + 3) st) : XW X k n (WM b t I F) lv pc (.int x :: .ref (b 0) :: st) := xput (ci := 6) (fs := [.int (I 0), .ref (b 1), .ref (b 2), .ref (b 3), .ref (b 4), .ref (b 5), .int (I 1), .ref (b 6), .ref (b 7), .int (I 2), .int (I 3), .int (I 4), .int (I 10), .ref (b 12), .ref (b 8), .ref (b 9), .ref (b 10), .ref (b 11), .int (I 9), .int (I 8), .int (I 7)]) (ws' := WM b t (va_up I 7 x) F) C 0 rfl rfl xin_wsX6 tyX6 tyX6_ok nmX6 20 (by decide) xfl_X6_132 rfl (by rfl) (by rfl) (Nat.le_of_ble_eq_true rfl) hdg rfl kk
theorem xa_raw (C : XK X l D t cc own rm nL) (j : Nat) (hj : j < 37) (i : Nat) (hi : i < xlenN j) (hdg : decode cc pc = .ok (.iaload, 1)) (kk : XW X k n (WX a t I F L) lv (pc + 1) (.int (F j i) :: st)) : XW X k n (WX a t I F L) lv pc (.int (nI i) :: .ref (a (8 + j)) :: st) :=
  xiald C (8 + j) (WXa_get hj) i hi (by unfold xlenN; split; omega; split; omega; split <;> omega) hdg kk
theorem xs_raw (C : XK X l D t cc own rm nL) (j : Nat) (hj : j < 37) (i : Nat) (hi : i < xlenN j) {x : Int32} (hdg : decode cc pc = .ok (.iastore, 1)) (kk : XW X k n (WX a t I (va_up F j (upd (F j) i x)) L) lv (pc + 1) st) : XW X k n (WX a t I F L) lv pc (.int x :: .int (nI i) :: .ref (a (8 + j)) :: st) :=
  xiast C (8 + j) (WXa_get hj) i hi (by unfold xlenN; split; omega; split; omega; split <;> omega) hdg (WXa_set hj _) kk
theorem xa_w (C : XK X l D t cc own rm nL) (i : Nat) (hi : i < 6) (hdg : decode cc pc = .ok (.laload, 1)) (kk : XW X k n (WX a t I F L) lv (pc + 1) (.long (L i) :: st)) : XW X k n (WX a t I F L) lv pc (.int (nI i) :: .ref (a 7) :: st) := xlald C 7 rfl i hi (by omega) hdg kk
theorem xs_w (C : XK X l D t cc own rm nL) (i : Nat) (hi : i < 6) {x : Int64} (hdg : decode cc pc = .ok (.lastore, 1)) (kk : XW X k n (WX a t I F (vp_updL L i x)) lv (pc + 1) st) : XW X k n (WX a t I F L) lv pc (.long x :: .int (nI i) :: .ref (a 7) :: st) := xlast C 7 rfl i hi (by omega) hdg rfl kk
theorem xa_out (C : XK X l D t cc own rm nL) (p : Nat) (hp : p < 24) (hdg : decode cc pc = .ok (.aaload, 1)) (kk : XW X k n (WX a t I F L) lv (pc + 1) (.ref (a (8 + (13 + p))) :: st)) : XW X k n (WX a t I F L) lv pc (.int (nI p) :: .ref (a 6) :: st) := xaald C 6 rfl p hp (by omega) (by rw [if_pos hp]) hdg kk
theorem xa_top (C : XK X l D t cc own rm nL) (hK : CFG K I F) (hW : WFK K) (p : Nat) (hp : p < kn K) (hdg : decode cc pc = .ok (.iaload, 1)) (kk : XW X k n (WX a t I F L) lv (pc + 1) (.int (nI (ktop K p)) :: st)) : XW X k n (WX a t I F L) lv pc (.int (nI p) :: .ref (a 8) :: st) := xa_raw C 0 (by omega) p (Nat.lt_of_lt_of_le hp hW.n24) hdg (xtopi (hK.top hp) kk)
theorem xa_si (C : XK X l D t cc own rm nL) (hK : CFG K I F) (hW : WFK K) (p : Nat) (hp : p < kn K) (hdg : decode cc pc = .ok (.iaload, 1)) (kk : XW X k n (WX a t I F L) lv (pc + 1) (.int (nI (ksi K p)) :: st)) : XW X k n (WX a t I F L) lv pc (.int (nI p) :: .ref (a 9) :: st) := xa_raw C 1 (by omega) p (Nat.lt_of_lt_of_le hp hW.n24) hdg (xtopi (hK.si hp) kk)
theorem xa_hd (C : XK X l D t cc own rm nL) (hK : CFG K I F) (hW : WFK K) (p : Nat) (hp : p < kn K) (hdg : decode cc pc = .ok (.iaload, 1)) (kk : XW X k n (WX a t I F L) lv (pc + 1) (.int (nI (khd K p) - 1) :: st)) : XW X k n (WX a t I F L) lv pc (.int (nI p) :: .ref (a 10) :: st) := xa_raw C 2 (by omega) p (Nat.lt_of_lt_of_le hp hW.n24) hdg (xtopi (hK.hd hp) kk)
theorem xa_dg (C : XK X l D t cc own rm nL) (hK : CFG K I F) (hW : WFK K) (p : Nat) (hp : p < 24) (hdg : decode cc pc = .ok (.iaload, 1)) (kk : XW X k n (WX a t I F L) lv (pc + 1) (.int (nI (kdg K p)) :: st)) : XW X k n (WX a t I F L) lv pc (.int (nI p) :: .ref (a 11) :: st) := xa_raw C 3 (by omega) p hp hdg (xtopi (hK.dg hp) kk)
theorem xa_la (C : XK X l D t cc own rm nL) (hK : CFG K I F) (hW : WFK K) (p : Nat) (hp : p < km K) (hdg : decode cc pc = .ok (.iaload, 1)) (kk : XW X k n (WX a t I F L) lv (pc + 1) (.int (nI (kla K p)) :: st)) : XW X k n (WX a t I F L) lv pc (.int (nI p) :: .ref (a 12) :: st) := xa_raw C 4 (by omega) p (Nat.lt_of_lt_of_le hp hW.m60) hdg (xtopi (hK.la hp) kk)
theorem xa_lb (C : XK X l D t cc own rm nL) (hK : CFG K I F) (hW : WFK K) (p : Nat) (hp : p < km K) (hdg : decode cc pc = .ok (.iaload, 1)) (kk : XW X k n (WX a t I F L) lv (pc + 1) (.int (nI (klb K p)) :: st)) : XW X k n (WX a t I F L) lv pc (.int (nI p) :: .ref (a 13) :: st) := xa_raw C 5 (by omega) p (Nat.lt_of_lt_of_le hp hW.m60) hdg (xtopi (hK.lb hp) kk)
theorem xa_nb (C : XK X l D t cc own rm nL) (hK : CFG K I F) (hW : WFK K) (p i : Nat) (hp : p < kn K) (hi : i < kdg K p) (hdg : decode cc pc = .ok (.iaload, 1)) (kk : XW X k n (WX a t I F L) lv (pc + 1) (.int (nI (knb K p i)) :: st)) : XW X k n (WX a t I F L) lv pc (.int (nI i) :: .ref (a (8 + (13 + p))) :: st) := xa_raw C (13 + p) (by have := hW.n24; omega) i (by have := hW.dg6 p; unfold xlenN; rw [if_neg (by omega), if_neg (by omega), if_pos (by omega)]; omega) hdg (xtopi (hK.nb hp hi) kk)
theorem xa_st (C : XK X l D t cc own rm nL) (hW : WFK K) (j : Nat) (h6 : 6 ≤ j) (hj : j < 13) {f : Nat → Nat} (hS : RA (kn K) (F j) f) (p : Nat) (hp : p < kn K) (hdg : decode cc pc = .ok (.iaload, 1)) (kk : XW X k n (WX a t I F L) lv (pc + 1) (.int (nI (f p)) :: st)) : XW X k n (WX a t I F L) lv pc (.int (nI p) :: .ref (a (8 + j)) :: st) := xa_raw C j (by omega) p (by have := hW.n24; unfold xlenN; rw [if_neg (by omega), if_neg (by omega), if_neg (by omega)]; omega) hdg (xtopi (hS p hp).1 kk)
theorem xs_st (C : XK X l D t cc own rm nL) (j : Nat) (h6 : 6 ≤ j) (hj : j < 13) (p : Nat) (hp : p < 24) {x : Int32} (hdg : decode cc pc = .ok (.iastore, 1)) (kk : XW X k n (WX a t I (va_up F j (upd (F j) p x)) L) lv (pc + 1) st) : XW X k n (WX a t I F L) lv pc (.int x :: .int (nI p) :: .ref (a (8 + j)) :: st) := xs_raw C j (by omega) p (by unfold xlenN; rw [if_neg (by omega), if_neg (by omega), if_neg (by omega)]; omega) hdg kk
theorem ma_top (C : XK X l D t cc own rm nL) (hK : CFG K I F) (hW : WFK K) (p : Nat) (hp : p < kn K) (hdg : decode cc pc = .ok (.iaload, 1)) (kk : XW X k n (WM b t I F) lv (pc + 1) (.int (nI (ktop K p)) :: st)) : XW X k n (WM b t I F) lv pc (.int (nI p) :: .ref (b 1) :: st) := xiald C 1 rfl p (Nat.lt_of_lt_of_le hp hW.n24) (by omega) hdg (xtopi (hK.top hp) kk)
theorem ma_si (C : XK X l D t cc own rm nL) (hK : CFG K I F) (hW : WFK K) (p : Nat) (hp : p < kn K) (hdg : decode cc pc = .ok (.iaload, 1)) (kk : XW X k n (WM b t I F) lv (pc + 1) (.int (nI (ksi K p)) :: st)) : XW X k n (WM b t I F) lv pc (.int (nI p) :: .ref (b 2) :: st) := xiald C 2 rfl p (Nat.lt_of_lt_of_le hp hW.n24) (by omega) hdg (xtopi (hK.si hp) kk)
theorem ma_hd (C : XK X l D t cc own rm nL) (hK : CFG K I F) (hW : WFK K) (p : Nat) (hp : p < kn K) (hdg : decode cc pc = .ok (.iaload, 1)) (kk : XW X k n (WM b t I F) lv (pc + 1) (.int (nI (khd K p) - 1) :: st)) : XW X k n (WM b t I F) lv pc (.int (nI p) :: .ref (b 3) :: st) := xiald C 3 rfl p (Nat.lt_of_lt_of_le hp hW.n24) (by omega) hdg (xtopi (hK.hd hp) kk)
theorem ma_dg (C : XK X l D t cc own rm nL) (hK : CFG K I F) (hW : WFK K) (p : Nat) (hp : p < 24) (hdg : decode cc pc = .ok (.iaload, 1)) (kk : XW X k n (WM b t I F) lv (pc + 1) (.int (nI (kdg K p)) :: st)) : XW X k n (WM b t I F) lv pc (.int (nI p) :: .ref (b 4) :: st) := xiald C 4 rfl p hp (by omega) hdg (xtopi (hK.dg hp) kk)
theorem ma_near (C : XK X l D t cc own rm nL) (p i : Nat) (hp : p < 24) (hi : i < 6) (hdg : decode cc pc = .ok (.iaload, 1)) (kk : XW X k n (WM b t I F) lv (pc + 1) (.int (F (13 + p) i) :: st)) : XW X k n (WM b t I F) lv pc (.int (nI (6 * p + i)) :: .ref (b 5) :: st) := xiald C 5 rfl (6 * p + i) (by omega) (by omega) hdg (xtopi (by show F (13 + (6 * p + i) / 6) ((6 * p + i) % 6) = _; rw [show (6 * p + i) / 6 = p by omega, show (6 * p + i) % 6 = i by omega]) kk)
theorem ma_nb (C : XK X l D t cc own rm nL) (hK : CFG K I F) (hW : WFK K) (p i : Nat) (hp : p < kn K) (hi : i < kdg K p) (hdg : decode cc pc = .ok (.iaload, 1)) (kk : XW X k n (WM b t I F) lv (pc + 1) (.int (nI (knb K p i)) :: st)) : XW X k n (WM b t I F) lv pc (.int (nI (6 * p + i)) :: .ref (b 5) :: st) := ma_near C p i (Nat.lt_of_lt_of_le hp hW.n24) (Nat.lt_of_lt_of_le hi (hW.dg6 p)) hdg (xtopi (hK.nb hp hi) kk)
theorem ma_la (C : XK X l D t cc own rm nL) (hK : CFG K I F) (hW : WFK K) (p : Nat) (hp : p < km K) (hdg : decode cc pc = .ok (.iaload, 1)) (kk : XW X k n (WM b t I F) lv (pc + 1) (.int (nI (kla K p)) :: st)) : XW X k n (WM b t I F) lv pc (.int (nI p) :: .ref (b 6) :: st) := xiald C 6 rfl p (Nat.lt_of_lt_of_le hp hW.m60) (by omega) hdg (xtopi (hK.la hp) kk)
theorem ma_lb (C : XK X l D t cc own rm nL) (hK : CFG K I F) (hW : WFK K) (p : Nat) (hp : p < km K) (hdg : decode cc pc = .ok (.iaload, 1)) (kk : XW X k n (WM b t I F) lv (pc + 1) (.int (nI (klb K p)) :: st)) : XW X k n (WM b t I F) lv pc (.int (nI p) :: .ref (b 7) :: st) := xiald C 7 rfl p (Nat.lt_of_lt_of_le hp hW.m60) (by omega) hdg (xtopi (hK.lb hp) kk)
theorem ma_raw (C : XK X l D t cc own rm nL) (j : Nat) (h8 : 8 ≤ j) (hj : j < 13) (p : Nat) (hp : p < 24) (hdg : decode cc pc = .ok (.iaload, 1)) (kk : XW X k n (WM b t I F) lv (pc + 1) (.int (F j p) :: st)) : XW X k n (WM b t I F) lv pc (.int (nI p) :: .ref (b j) :: st) := xiald C j (WMs_get h8 hj) p hp (by omega) hdg kk
theorem ma_st (C : XK X l D t cc own rm nL) (hW : WFK K) (j : Nat) (h8 : 8 ≤ j) (hj : j < 13) {f : Nat → Nat} (hS : RA (kn K) (F j) f) (p : Nat) (hp : p < kn K) (hdg : decode cc pc = .ok (.iaload, 1)) (kk : XW X k n (WM b t I F) lv (pc + 1) (.int (nI (f p)) :: st)) : XW X k n (WM b t I F) lv pc (.int (nI p) :: .ref (b j) :: st) := ma_raw C j h8 hj p (Nat.lt_of_lt_of_le hp hW.n24) hdg (xtopi (hS p hp).1 kk)
theorem ms_st (C : XK X l D t cc own rm nL) (j : Nat) (h8 : 8 ≤ j) (hj : j < 13) (p : Nat) (hp : p < 24) {x : Int32} (hdg : decode cc pc = .ok (.iastore, 1)) (kk : XW X k n (WM b t I (va_up F j (upd (F j) p x))) lv (pc + 1) st) : XW X k n (WM b t I F) lv pc (.int x :: .int (nI p) :: .ref (b j) :: st) := xiast C j (WMs_get h8 hj) p hp (by omega) hdg (WMs_set h8 hj _) kk
theorem ms_top (C : XK X l D t cc own rm nL) (p : Nat) (hp : p < 24) {x : Int32} (hdg : decode cc pc = .ok (.iastore, 1)) (kk : XW X k n (WM b t I (va_up F 0 (upd (F 0) p x))) lv (pc + 1) st) : XW X k n (WM b t I F) lv pc (.int x :: .int (nI p) :: .ref (b 1) :: st) := xiast C 1 rfl p hp (by omega) hdg (WMr_set (j := 0) (by omega) rfl rfl _) kk
theorem ms_si (C : XK X l D t cc own rm nL) (p : Nat) (hp : p < 24) {x : Int32} (hdg : decode cc pc = .ok (.iastore, 1)) (kk : XW X k n (WM b t I (va_up F 1 (upd (F 1) p x))) lv (pc + 1) st) : XW X k n (WM b t I F) lv pc (.int x :: .int (nI p) :: .ref (b 2) :: st) := xiast C 2 rfl p hp (by omega) hdg (WMr_set (j := 1) (by omega) rfl rfl _) kk
theorem ms_hd (C : XK X l D t cc own rm nL) (p : Nat) (hp : p < 24) {x : Int32} (hdg : decode cc pc = .ok (.iastore, 1)) (kk : XW X k n (WM b t I (va_up F 2 (upd (F 2) p x))) lv (pc + 1) st) : XW X k n (WM b t I F) lv pc (.int x :: .int (nI p) :: .ref (b 3) :: st) := xiast C 3 rfl p hp (by omega) hdg (WMr_set (j := 2) (by omega) rfl rfl _) kk
theorem ms_dg (C : XK X l D t cc own rm nL) (p : Nat) (hp : p < 24) {x : Int32} (hdg : decode cc pc = .ok (.iastore, 1)) (kk : XW X k n (WM b t I (va_up F 3 (upd (F 3) p x))) lv (pc + 1) st) : XW X k n (WM b t I F) lv pc (.int x :: .int (nI p) :: .ref (b 4) :: st) := xiast C 4 rfl p hp (by omega) hdg (WMr_set (j := 3) (by omega) rfl rfl _) kk
theorem ms_la (C : XK X l D t cc own rm nL) (p : Nat) (hp : p < 60) {x : Int32} (hdg : decode cc pc = .ok (.iastore, 1)) (kk : XW X k n (WM b t I (va_up F 4 (upd (F 4) p x))) lv (pc + 1) st) : XW X k n (WM b t I F) lv pc (.int x :: .int (nI p) :: .ref (b 6) :: st) := xiast C 6 rfl p hp (by omega) hdg (WMr_set (j := 4) (by omega) rfl rfl _) kk
theorem ms_lb (C : XK X l D t cc own rm nL) (p : Nat) (hp : p < 60) {x : Int32} (hdg : decode cc pc = .ok (.iastore, 1)) (kk : XW X k n (WM b t I (va_up F 5 (upd (F 5) p x))) lv (pc + 1) st) : XW X k n (WM b t I F) lv pc (.int x :: .int (nI p) :: .ref (b 7) :: st) := xiast C 7 rfl p hp (by omega) hdg (WMr_set (j := 5) (by omega) rfl rfl _) kk
theorem ms_near (C : XK X l D t cc own rm nL) (p i : Nat) (hp : p < 24) (hi : i < 6) {x : Int32} (hdg : decode cc pc = .ok (.iastore, 1)) (kk : XW X k n (WM b t I (va_up F (13 + p) (upd (F (13 + p)) i x))) lv (pc + 1) st) : XW X k n (WM b t I F) lv pc (.int x :: .int (nI (6 * p + i)) :: .ref (b 5) :: st) := xiast C 5 rfl (6 * p + i) (by omega) (by omega) hdg (WMn_set hi x) kk
theorem ma_dgr (C : XK X l D t cc own rm nL) (p : Nat) (hp : p < 24) (hdg : decode cc pc = .ok (.iaload, 1)) (kk : XW X k n (WM b t I F) lv (pc + 1) (.int (F 3 p) :: st)) : XW X k n (WM b t I F) lv pc (.int (nI p) :: .ref (b 4) :: st) := xiald C 4 rfl p hp (by omega) hdg kk
variable {ws : va_W}
theorem xicmp_eqN (C : XK X l D t cc own rm nL) {x y : Nat} {off : Int} (tgt : Nat) (hdg : decode cc pc = .ok (.if_icmp .eq off, 3)) (ht : (pc : Int) + off = (tgt : Int)) (ha : x < 2147483648) (hb : y < 2147483648) (kt : x = y → XW X k n ws lv tgt st) (kf : ¬ x = y → XW X k n ws lv (pc + 3) st) : XW X k n ws lv pc (.int (nI y) :: .int (nI x) :: st) := xicmp_eq C tgt hdg ht (fun h => kt ((nI_eq ha hb).mp h)) (fun h => kf (fun e => h (by rw [e])))
theorem xicmp_neN (C : XK X l D t cc own rm nL) {x y : Nat} {off : Int} (tgt : Nat) (hdg : decode cc pc = .ok (.if_icmp .ne off, 3)) (ht : (pc : Int) + off = (tgt : Int)) (ha : x < 2147483648) (hb : y < 2147483648) (kt : ¬ x = y → XW X k n ws lv tgt st) (kf : x = y → XW X k n ws lv (pc + 3) st) : XW X k n ws lv pc (.int (nI y) :: .int (nI x) :: st) := xicmp_ne C tgt hdg ht (fun h => kt (fun e => h (by rw [e]))) (fun h => kf ((nI_eq ha hb).mp h))
theorem xicmp_ltN (C : XK X l D t cc own rm nL) {x y : Nat} {off : Int} (tgt : Nat) (hdg : decode cc pc = .ok (.if_icmp .lt off, 3)) (ht : (pc : Int) + off = (tgt : Int)) (ha : x < 2147483648) (hb : y < 2147483648) (kt : x < y → XW X k n ws lv tgt st) (kf : y ≤ x → XW X k n ws lv (pc + 3) st) : XW X k n ws lv pc (.int (nI y) :: .int (nI x) :: st) := xicmp_lt C tgt hdg ht (fun h => kt ((nI_ltI ha hb).mp h)) (fun h => kf (Nat.not_lt.mp (fun e => h ((nI_ltI ha hb).mpr e))))
theorem xicmp_geN (C : XK X l D t cc own rm nL) {x y : Nat} {off : Int} (tgt : Nat) (hdg : decode cc pc = .ok (.if_icmp .ge off, 3)) (ht : (pc : Int) + off = (tgt : Int)) (ha : x < 2147483648) (hb : y < 2147483648) (kt : y ≤ x → XW X k n ws lv tgt st) (kf : x < y → XW X k n ws lv (pc + 3) st) : XW X k n ws lv pc (.int (nI y) :: .int (nI x) :: st) := xicmp_ge C tgt hdg ht (fun h => kt ((nI_leI hb ha).mp h)) (fun h => kf (Nat.not_le.mp (fun e => h ((nI_leI hb ha).mpr e))))
theorem xicmp_gtN (C : XK X l D t cc own rm nL) {x y : Nat} {off : Int} (tgt : Nat) (hdg : decode cc pc = .ok (.if_icmp .gt off, 3)) (ht : (pc : Int) + off = (tgt : Int)) (ha : x < 2147483648) (hb : y < 2147483648) (kt : y < x → XW X k n ws lv tgt st) (kf : x ≤ y → XW X k n ws lv (pc + 3) st) : XW X k n ws lv pc (.int (nI y) :: .int (nI x) :: st) := xicmp_gt C tgt hdg ht (fun h => kt ((nI_ltI hb ha).mp h)) (fun h => kf (Nat.not_lt.mp (fun e => h ((nI_ltI hb ha).mpr e))))
theorem xicmp_leN (C : XK X l D t cc own rm nL) {x y : Nat} {off : Int} (tgt : Nat) (hdg : decode cc pc = .ok (.if_icmp .le off, 3)) (ht : (pc : Int) + off = (tgt : Int)) (ha : x < 2147483648) (hb : y < 2147483648) (kt : x ≤ y → XW X k n ws lv tgt st) (kf : y < x → XW X k n ws lv (pc + 3) st) : XW X k n ws lv pc (.int (nI y) :: .int (nI x) :: st) := xicmp_le C tgt hdg ht (fun h => kt ((nI_leI ha hb).mp h)) (fun h => kf (Nat.not_le.mp (fun e => h ((nI_leI ha hb).mpr e))))
theorem xif_eqN (C : XK X l D t cc own rm nL) {x : Nat} {off : Int} (tgt : Nat) (hdg : decode cc pc = .ok (.ifCond .eq off, 3)) (ht : (pc : Int) + off = (tgt : Int)) (ha : x < 2147483648) (kt : x = 0 → XW X k n ws lv tgt st) (kf : ¬ x = 0 → XW X k n ws lv (pc + 3) st) : XW X k n ws lv pc (.int (nI x) :: st) := xif_eq C tgt hdg ht (fun h => kt ((nI_eq ha (by omega)).mp (h.trans nI_0.symm))) (fun h => kf (fun e => h (by rw [e]; exact nI_0)))
theorem xif_neN (C : XK X l D t cc own rm nL) {x : Nat} {off : Int} (tgt : Nat) (hdg : decode cc pc = .ok (.ifCond .ne off, 3)) (ht : (pc : Int) + off = (tgt : Int)) (ha : x < 2147483648) (kt : ¬ x = 0 → XW X k n ws lv tgt st) (kf : x = 0 → XW X k n ws lv (pc + 3) st) : XW X k n ws lv pc (.int (nI x) :: st) := xif_ne C tgt hdg ht (fun h => kt (fun e => h (by rw [e]; exact nI_0))) (fun h => kf ((nI_eq ha (by omega)).mp (h.trans nI_0.symm)))
theorem xif_gtN (C : XK X l D t cc own rm nL) {x : Nat} {off : Int} (tgt : Nat) (hdg : decode cc pc = .ok (.ifCond .gt off, 3)) (ht : (pc : Int) + off = (tgt : Int)) (ha : x < 2147483648) (kt : 0 < x → XW X k n ws lv tgt st) (kf : x = 0 → XW X k n ws lv (pc + 3) st) : XW X k n ws lv pc (.int (nI x) :: st) := xif_gt C tgt hdg ht (fun h => kt ((nI_ltI (by omega) ha).mp (by rw [nI_0]; exact h))) (fun h => kf (Nat.le_zero.mp (Nat.not_lt.mp (fun e => h (by rw [← nI_0]; exact (nI_ltI (by omega) ha).mpr e)))))
theorem xif_leN (C : XK X l D t cc own rm nL) {x : Nat} {off : Int} (tgt : Nat) (hdg : decode cc pc = .ok (.ifCond .le off, 3)) (ht : (pc : Int) + off = (tgt : Int)) (ha : x < 2147483648) (kt : x = 0 → XW X k n ws lv tgt st) (kf : 0 < x → XW X k n ws lv (pc + 3) st) : XW X k n ws lv pc (.int (nI x) :: st) := xif_le C tgt hdg ht (fun h => kt (Nat.le_zero.mp ((nI_leI ha (by omega)).mp (by rw [nI_0]; exact h)))) (fun h => kf (Nat.not_le.mp (fun e => h (by rw [← nI_0]; exact (nI_leI ha (by omega)).mpr e))))
theorem xif_ltN (C : XK X l D t cc own rm nL) {x : Nat} {off : Int} (tgt : Nat) (hdg : decode cc pc = .ok (.ifCond .lt off, 3)) (ht : (pc : Int) + off = (tgt : Int)) (ha : x < 2147483648) (kf : XW X k n ws lv (pc + 3) st) : XW X k n ws lv pc (.int (nI x) :: st) := xif_lt C tgt hdg ht (fun h => absurd h (nI_pos ha)) (fun _ => kf)
theorem xif_geN (C : XK X l D t cc own rm nL) {x : Nat} {off : Int} (tgt : Nat) (hdg : decode cc pc = .ok (.ifCond .ge off, 3)) (ht : (pc : Int) + off = (tgt : Int)) (ha : x < 2147483648) (kt : XW X k n ws lv tgt st) : XW X k n ws lv pc (.int (nI x) :: st) := xif_ge C tgt hdg ht (fun _ => kt) (fun h => absurd (nI_pos' ha) h)
theorem xiaddN (C : XK X l D t cc own rm nL) {x y : Nat} (hdg : decode cc pc = .ok (.iadd, 1)) (kk : XW X k n ws lv (pc + 1) (.int (nI (x + y)) :: st)) : XW X k n ws lv pc (.int (nI y) :: .int (nI x) :: st) := xiadd C hdg (xtopi (nI_add x y) kk)
theorem xisubN (C : XK X l D t cc own rm nL) {x y : Nat} (h : y ≤ x) (hdg : decode cc pc = .ok (.isub, 1)) (kk : XW X k n ws lv (pc + 1) (.int (nI (x - y)) :: st)) : XW X k n ws lv pc (.int (nI y) :: .int (nI x) :: st) := xisub C hdg (xtopi (pk_sub h) kk)
theorem ximulN (C : XK X l D t cc own rm nL) {x y : Nat} (hdg : decode cc pc = .ok (.imul, 1)) (kk : XW X k n ws lv (pc + 1) (.int (nI (x * y)) :: st)) : XW X k n ws lv pc (.int (nI y) :: .int (nI x) :: st) := ximul C hdg (xtopi (pk_mul x y) kk)
theorem xi2lN (C : XK X l D t cc own rm nL) {x : Nat} (h : x < 2147483648) (hdg : decode cc pc = .ok (.i2l, 1)) (kk : XW X k n ws lv (pc + 1) (.long (lN x) :: st)) : XW X k n ws lv pc (.int (nI x) :: st) := xi2l C hdg (xtopl (nI_l h) kk)
theorem xladdN (C : XK X l D t cc own rm nL) {x y : Nat} (hdg : decode cc pc = .ok (.ladd, 1)) (kk : XW X k n ws lv (pc + 1) (.long (lN (x + y)) :: st)) : XW X k n ws lv pc (.long (lN y) :: .long (lN x) :: st) := xladd C hdg (xtopl (lN_add x y) kk)
theorem xlmulN (C : XK X l D t cc own rm nL) {x y : Nat} (hdg : decode cc pc = .ok (.lmul, 1)) (kk : XW X k n ws lv (pc + 1) (.long (lN (x * y)) :: st)) : XW X k n ws lv pc (.long (lN y) :: .long (lN x) :: st) := xlmul C hdg (xtopl (lN_mul x y) kk)
theorem xiincN (C : XK X l D t cc own rm nL) {i x : Nat} {lv' : List (Nat × Value)} (j : Nat) (hj : lv[j]? = some (i, .int (nI x))) (hdg : decode cc pc = .ok (.iinc i 1, 3)) (hn : i < nL) (hl1 : (i, Value.int (nI (x + 1))) :: lv.filter (fun q => !(q.1 == i) && !(q.1 + 1 == i && q.2.category == 2)) = lv') (kk : XW X k n ws lv' (pc + 3) st) : XW X k n ws lv pc st := xiinc C j hj hdg (nI_1 x) hn hl1 kk
theorem xidecN (C : XK X l D t cc own rm nL) {i x : Nat} (hx : 1 ≤ x) {lv' : List (Nat × Value)} (j : Nat) (hj : lv[j]? = some (i, .int (nI x))) (hdg : decode cc pc = .ok (.iinc i (-1), 3)) (hn : i < nL) (hl1 : (i, Value.int (nI (x - 1))) :: lv.filter (fun q => !(q.1 == i) && !(q.1 + 1 == i && q.2.category == 2)) = lv') (kk : XW X k n ws lv' (pc + 3) st) : XW X k n ws lv pc st := xiinc C j hj hdg (by obtain ⟨y, rfl⟩ : ∃ y, x = y + 1 := ⟨x - 1, by omega⟩; exact pk_m1 y) hn hl1 kk
theorem lgN {x y : Nat} (ha : x < 2 ^ 63) (hb : y < 2 ^ 63) : lg_cmp (lN x) (lN y) = if y < x then 1 else if x = y then 0 else -1 := by
  unfold lg_cmp
  have e1 : (lN x > lN y) = (y < x) := propext (pk_lLT hb ha)
  have e2 : (lN x = lN y) = (x = y) := propext (pk_lEQ ha hb)
  simp only [e1, e2]
theorem xlcmp_lt (C : XK X l D t cc own rm nL) {x y : Nat} {off : Int} (tgt : Nat) (hd0 : decode cc pc = .ok (.lcmp, 1)) (hdg : decode cc (pc + 1) = .ok (.ifCond .lt off, 3)) (ht : ((pc + 1 : Nat) : Int) + off = (tgt : Int)) (ha : x < 2 ^ 63) (hb : y < 2 ^ 63) (kt : x < y → XW X k n ws lv tgt st) (kf : y ≤ x → XW X k n ws lv (pc + 4) st) : XW X k n ws lv pc (.long (lN y) :: .long (lN x) :: st) := by
  refine xlcmp C hd0 ?_
  rw [lgN ha hb]
  refine xif_lt C tgt hdg ht (fun h => kt ?_) (fun h => kf ?_)
  · by_cases h1 : y < x
    · rw [if_pos h1] at h; first | omega | exact absurd h (by decide) | exact absurd (by decide) h
    · rw [if_neg h1] at h
      by_cases h2 : x = y
      · rw [if_pos h2] at h; first | omega | exact absurd h (by decide) | exact absurd (by decide) h
      · rw [if_neg h2] at h; first | omega | exact absurd h (by decide) | exact absurd (by decide) h
  · by_cases h1 : y < x
    · rw [if_pos h1] at h; first | omega | exact absurd h (by decide) | exact absurd (by decide) h
    · rw [if_neg h1] at h
      by_cases h2 : x = y
      · rw [if_pos h2] at h; first | omega | exact absurd h (by decide) | exact absurd (by decide) h
      · rw [if_neg h2] at h; first | omega | exact absurd h (by decide) | exact absurd (by decide) h
theorem xlcmp_ge (C : XK X l D t cc own rm nL) {x y : Nat} {off : Int} (tgt : Nat) (hd0 : decode cc pc = .ok (.lcmp, 1)) (hdg : decode cc (pc + 1) = .ok (.ifCond .ge off, 3)) (ht : ((pc + 1 : Nat) : Int) + off = (tgt : Int)) (ha : x < 2 ^ 63) (hb : y < 2 ^ 63) (kt : y ≤ x → XW X k n ws lv tgt st) (kf : x < y → XW X k n ws lv (pc + 4) st) : XW X k n ws lv pc (.long (lN y) :: .long (lN x) :: st) := by
  refine xlcmp C hd0 ?_
  rw [lgN ha hb]
  refine xif_ge C tgt hdg ht (fun h => kt ?_) (fun h => kf ?_)
  · by_cases h1 : y < x
    · rw [if_pos h1] at h; first | omega | exact absurd h (by decide) | exact absurd (by decide) h
    · rw [if_neg h1] at h
      by_cases h2 : x = y
      · rw [if_pos h2] at h; first | omega | exact absurd h (by decide) | exact absurd (by decide) h
      · rw [if_neg h2] at h; first | omega | exact absurd h (by decide) | exact absurd (by decide) h
  · by_cases h1 : y < x
    · rw [if_pos h1] at h; first | omega | exact absurd h (by decide) | exact absurd (by decide) h
    · rw [if_neg h1] at h
      by_cases h2 : x = y
      · rw [if_pos h2] at h; first | omega | exact absurd h (by decide) | exact absurd (by decide) h
      · rw [if_neg h2] at h; first | omega | exact absurd h (by decide) | exact absurd (by decide) h
theorem xlcmp_gt (C : XK X l D t cc own rm nL) {x y : Nat} {off : Int} (tgt : Nat) (hd0 : decode cc pc = .ok (.lcmp, 1)) (hdg : decode cc (pc + 1) = .ok (.ifCond .gt off, 3)) (ht : ((pc + 1 : Nat) : Int) + off = (tgt : Int)) (ha : x < 2 ^ 63) (hb : y < 2 ^ 63) (kt : y < x → XW X k n ws lv tgt st) (kf : x ≤ y → XW X k n ws lv (pc + 4) st) : XW X k n ws lv pc (.long (lN y) :: .long (lN x) :: st) := by
  refine xlcmp C hd0 ?_
  rw [lgN ha hb]
  refine xif_gt C tgt hdg ht (fun h => kt ?_) (fun h => kf ?_)
  · by_cases h1 : y < x
    · rw [if_pos h1] at h; first | omega | exact absurd h (by decide) | exact absurd (by decide) h
    · rw [if_neg h1] at h
      by_cases h2 : x = y
      · rw [if_pos h2] at h; first | omega | exact absurd h (by decide) | exact absurd (by decide) h
      · rw [if_neg h2] at h; first | omega | exact absurd h (by decide) | exact absurd (by decide) h
  · by_cases h1 : y < x
    · rw [if_pos h1] at h; first | omega | exact absurd h (by decide) | exact absurd (by decide) h
    · rw [if_neg h1] at h
      by_cases h2 : x = y
      · rw [if_pos h2] at h; first | omega | exact absurd h (by decide) | exact absurd (by decide) h
      · rw [if_neg h2] at h; first | omega | exact absurd h (by decide) | exact absurd (by decide) h
theorem xlcmp_le (C : XK X l D t cc own rm nL) {x y : Nat} {off : Int} (tgt : Nat) (hd0 : decode cc pc = .ok (.lcmp, 1)) (hdg : decode cc (pc + 1) = .ok (.ifCond .le off, 3)) (ht : ((pc + 1 : Nat) : Int) + off = (tgt : Int)) (ha : x < 2 ^ 63) (hb : y < 2 ^ 63) (kt : x ≤ y → XW X k n ws lv tgt st) (kf : y < x → XW X k n ws lv (pc + 4) st) : XW X k n ws lv pc (.long (lN y) :: .long (lN x) :: st) := by
  refine xlcmp C hd0 ?_
  rw [lgN ha hb]
  refine xif_le C tgt hdg ht (fun h => kt ?_) (fun h => kf ?_)
  · by_cases h1 : y < x
    · rw [if_pos h1] at h; first | omega | exact absurd h (by decide) | exact absurd (by decide) h
    · rw [if_neg h1] at h
      by_cases h2 : x = y
      · rw [if_pos h2] at h; first | omega | exact absurd h (by decide) | exact absurd (by decide) h
      · rw [if_neg h2] at h; first | omega | exact absurd h (by decide) | exact absurd (by decide) h
  · by_cases h1 : y < x
    · rw [if_pos h1] at h; first | omega | exact absurd h (by decide) | exact absurd (by decide) h
    · rw [if_neg h1] at h
      by_cases h2 : x = y
      · rw [if_pos h2] at h; first | omega | exact absurd h (by decide) | exact absurd (by decide) h
      · rw [if_neg h2] at h; first | omega | exact absurd h (by decide) | exact absurd (by decide) h
theorem xlcmp_eq (C : XK X l D t cc own rm nL) {x y : Nat} {off : Int} (tgt : Nat) (hd0 : decode cc pc = .ok (.lcmp, 1)) (hdg : decode cc (pc + 1) = .ok (.ifCond .eq off, 3)) (ht : ((pc + 1 : Nat) : Int) + off = (tgt : Int)) (ha : x < 2 ^ 63) (hb : y < 2 ^ 63) (kt : x = y → XW X k n ws lv tgt st) (kf : ¬ x = y → XW X k n ws lv (pc + 4) st) : XW X k n ws lv pc (.long (lN y) :: .long (lN x) :: st) := by
  refine xlcmp C hd0 ?_
  rw [lgN ha hb]
  refine xif_eq C tgt hdg ht (fun h => kt ?_) (fun h => kf ?_)
  · by_cases h1 : y < x
    · rw [if_pos h1] at h; first | omega | exact absurd h (by decide) | exact absurd (by decide) h
    · rw [if_neg h1] at h
      by_cases h2 : x = y
      · rw [if_pos h2] at h; first | omega | exact absurd h (by decide) | exact absurd (by decide) h
      · rw [if_neg h2] at h; first | omega | exact absurd h (by decide) | exact absurd (by decide) h
  · by_cases h1 : y < x
    · rw [if_pos h1] at h; first | omega | exact absurd h (by decide) | exact absurd (by decide) h
    · rw [if_neg h1] at h
      by_cases h2 : x = y
      · rw [if_pos h2] at h; first | omega | exact absurd h (by decide) | exact absurd (by decide) h
      · rw [if_neg h2] at h; first | omega | exact absurd h (by decide) | exact absurd (by decide) h
theorem xlcmp_ne (C : XK X l D t cc own rm nL) {x y : Nat} {off : Int} (tgt : Nat) (hd0 : decode cc pc = .ok (.lcmp, 1)) (hdg : decode cc (pc + 1) = .ok (.ifCond .ne off, 3)) (ht : ((pc + 1 : Nat) : Int) + off = (tgt : Int)) (ha : x < 2 ^ 63) (hb : y < 2 ^ 63) (kt : ¬ x = y → XW X k n ws lv tgt st) (kf : x = y → XW X k n ws lv (pc + 4) st) : XW X k n ws lv pc (.long (lN y) :: .long (lN x) :: st) := by
  refine xlcmp C hd0 ?_
  rw [lgN ha hb]
  refine xif_ne C tgt hdg ht (fun h => kt ?_) (fun h => kf ?_)
  · by_cases h1 : y < x
    · rw [if_pos h1] at h; first | omega | exact absurd h (by decide) | exact absurd (by decide) h
    · rw [if_neg h1] at h
      by_cases h2 : x = y
      · rw [if_pos h2] at h; first | omega | exact absurd h (by decide) | exact absurd (by decide) h
      · rw [if_neg h2] at h; first | omega | exact absurd h (by decide) | exact absurd (by decide) h
  · by_cases h1 : y < x
    · rw [if_pos h1] at h; first | omega | exact absurd h (by decide) | exact absurd (by decide) h
    · rw [if_neg h1] at h
      by_cases h2 : x = y
      · rw [if_pos h2] at h; first | omega | exact absurd h (by decide) | exact absurd (by decide) h
      · rw [if_neg h2] at h; first | omega | exact absurd h (by decide) | exact absurd (by decide) h
end WORLDS
end
section
/-! Calls and ends in short. -/
def YK (y : MethodName) (b : ByteArray) (nb : Nat) (ret : Option FieldType) (na : Nat) : Prop := (.instanceMethod y : Cond) ∈ XT ∧ (.selects y.cls y y : Cond) ∈ XT ∧ (.initialized y.cls : Cond) ∈ XT ∧ (.code y b nb ret : Cond) ∈ XT ∧ (y.cls ≠ "java/lang/invoke/MethodHandle" ∧ y.cls ≠ "java/lang/invoke/VarHandle" ∧ (parseMethodDescriptor y.desc).map (fun d => d.parameters.length) = some na)
def SK (y : MethodName) (b : ByteArray) (nb : Nat) (ret : Option FieldType) (na : Nat) : Prop := (.static y : Cond) ∈ XT ∧ (.initialized y.cls : Cond) ∈ XT ∧ (.code y b nb ret : Cond) ∈ XT ∧ (y.cls ≠ "java/lang/invoke/MethodHandle" ∧ y.cls ≠ "java/lang/invoke/VarHandle" ∧ (parseMethodDescriptor y.desc).map (fun d => d.parameters.length) = some na)
/-- an answer, and the cells as they were -/
def RP (v : Value) (w0 : va_W) : Option Value → va_W → Prop := fun v' w => v' = some v ∧ w = w0
def EP (P : Value → va_W → Prop) : Option Value → va_W → Prop := fun v w => ∃ x, v = some x ∧ P x w
def VP (P : va_W → Prop) : Option Value → va_W → Prop := fun v w => v = none ∧ P w
theorem RPn {x y : Nat} {w : va_W} (h : x = y) : RP (.int (nI y)) w (some (.int (nI x))) w := ⟨by rw [h], rfl⟩
theorem RPi {x y : Int32} {w : va_W} (h : x = y) : RP (.int y) w (some (.int x)) w := ⟨by rw [h], rfl⟩
theorem RPl {x y : Nat} {w : va_W} (h : x = y) : RP (.long (lN y)) w (some (.long (lN x))) w := ⟨by rw [h], rfl⟩
theorem RPj {x y : Int64} {w : va_W} (h : x = y) : RP (.long y) w (some (.long x)) w := ⟨by rw [h], rfl⟩
theorem nar01 {x : Nat} (h : x ≤ 1) : narrow .boolean (.int (nI x)) = .int (nI x) := by
  rcases (show x = 0 ∨ x = 1 by omega) with rfl | rfl <;> rfl
theorem bn_lt (P : Prop) : bn P < 2147483648 := Nat.lt_of_le_of_lt (bn_le P) (by decide)
section CALLS
variable {X : XC} {l : Launch} {D : va_G} {t : Nat → ClassId} {cc : ByteArray} {own : String} {rm : Room} {nL : Nat} {k n : Nat} {ws : va_W} {lv : List (Nat × Value)} {pc : Nat} {st : List Value} {y : MethodName} {b : ByteArray} {nb ix : Nat} {ret : Option FieldType} {rm1 : Room} {As rest : List Value}
theorem xcV (C : XK X l D t cc own rm nL) {a : Nat} {post : Option Value → va_W → Prop} (hM : CT l D t y b nb ret rm1 0 0 (.ref a :: As) ws post) (hy : YK y b nb ret As.length) (q0 : Nat) {ci : Nat} {fs : List Value} {T : u_T} {N : Nat} (he : ws[q0]? = some (a, .inr (ci, fs))) (hc : cls[ci]? = some (y.cls, T, N)) (hml : (.methodLink own ix y : Cond) ∈ XT)
    (hR : (rm1.frames + 1 ≤ rm.frames ∧ 8 + (nb + 11) + rm1.locals ≤ rm.locals) ∧ (rm1.cells = 0 ∧ rm1.slots = 0) ∧ (k ≤ rm.cells ∧ n ≤ rm.slots)) (hst : st = As.reverse ++ .ref a :: rest) (hrm : (rest.map fun v => v.category).sum ≤ 8) (hdg : decode cc pc = .ok (.invokevirtual ix, 3)) (kk : ∀ v w, post v w → XW X k n w lv (pc + 3) (v.toList ++ rest)) : XW X k n ws lv pc st := by
  have h := xcallV (X := X) (w2 := []) C hM q0 he hc hml hy.1 hy.2.1 hy.2.2.1 hy.2.2.2.1 hy.2.2.2.2 hR.1 hR.2.1 hR.2.2 hst hrm hdg (fun v w hp => by rw [List.append_nil]; exact kk v w hp)
  rw [List.append_nil] at h
  exact h
theorem xcS (C : XK X l D t cc own rm nL) {post : Option Value → va_W → Prop} (hM : CT l D t y b nb ret rm1 0 0 As ws post) (hy : SK y b nb ret As.length) (hml : (.methodLink own ix y : Cond) ∈ XT)
    (hR : (rm1.frames + 1 ≤ rm.frames ∧ 8 + (nb + 11) + rm1.locals ≤ rm.locals) ∧ (rm1.cells = 0 ∧ rm1.slots = 0) ∧ (k ≤ rm.cells ∧ n ≤ rm.slots)) (hst : st = As.reverse ++ rest) (hrm : (rest.map fun v => v.category).sum ≤ 8) (hdg : decode cc pc = .ok (.invokestatic ix, 3)) (kk : ∀ v w, post v w → XW X k n w lv (pc + 3) (v.toList ++ rest)) : XW X k n ws lv pc st := by
  have h := xcallS (X := X) (w2 := []) C hM hml hy.1 hy.2.1 hy.2.2.1 hy.2.2.2 hR.1 hR.2.1 hR.2.2 hst hrm hdg (fun v w hp => by rw [List.append_nil]; exact kk v w hp)
  rw [List.append_nil] at h
  exact h
theorem xcSN (C : XK X l D t cc own rm nL) {post : Option Value → va_W → Prop} {host : String} (hM : CT l D t y b nb ret rm1 0 0 As ws post) (hy : SK y b nb ret As.length) (hml : ∀ s : State, XN s → va_Nw (.methodLinkNest own ix y host) s)
    (hR : (rm1.frames + 1 ≤ rm.frames ∧ 8 + (nb + 11) + rm1.locals ≤ rm.locals) ∧ (rm1.cells = 0 ∧ rm1.slots = 0) ∧ (k ≤ rm.cells ∧ n ≤ rm.slots)) (hst : st = As.reverse ++ rest) (hrm : (rest.map fun v => v.category).sum ≤ 8) (hdg : decode cc pc = .ok (.invokestatic ix, 3)) (kk : ∀ v w, post v w → XW X k n w lv (pc + 3) (v.toList ++ rest)) : XW X k n ws lv pc st := by
  have h := xcallSN (X := X) (w2 := []) C hM hml hy.1 hy.2.1 hy.2.2.1 hy.2.2.2 hR.1 hR.2.1 hR.2.2 hst hrm hdg (fun v w hp => by rw [List.append_nil]; exact kk v w hp)
  rw [List.append_nil] at h
  exact h
theorem xcVR (C : XK X l D t cc own rm nL) {a : Nat} {v : Value} {w0 : va_W} (hM : CT l D t y b nb ret rm1 0 0 (.ref a :: As) ws (RP v w0)) (hy : YK y b nb ret As.length) (q0 : Nat) {ci : Nat} {fs : List Value} {T : u_T} {N : Nat} (he : ws[q0]? = some (a, .inr (ci, fs))) (hc : cls[ci]? = some (y.cls, T, N)) (hml : (.methodLink own ix y : Cond) ∈ XT)
    (hR : (rm1.frames + 1 ≤ rm.frames ∧ 8 + (nb + 11) + rm1.locals ≤ rm.locals) ∧ (rm1.cells = 0 ∧ rm1.slots = 0) ∧ (k ≤ rm.cells ∧ n ≤ rm.slots)) (hst : st = As.reverse ++ .ref a :: rest) (hrm : (rest.map fun v => v.category).sum ≤ 8) (hdg : decode cc pc = .ok (.invokevirtual ix, 3)) (kk : XW X k n w0 lv (pc + 3) (v :: rest)) : XW X k n ws lv pc st :=
  xcV C hM hy q0 he hc hml hR hst hrm hdg (fun v' w h => by obtain ⟨rfl, rfl⟩ := h; exact kk)
theorem xcVE (C : XK X l D t cc own rm nL) {a : Nat} {P : Value → va_W → Prop} (hM : CT l D t y b nb ret rm1 0 0 (.ref a :: As) ws (EP P)) (hy : YK y b nb ret As.length) (q0 : Nat) {ci : Nat} {fs : List Value} {T : u_T} {N : Nat} (he : ws[q0]? = some (a, .inr (ci, fs))) (hc : cls[ci]? = some (y.cls, T, N)) (hml : (.methodLink own ix y : Cond) ∈ XT)
    (hR : (rm1.frames + 1 ≤ rm.frames ∧ 8 + (nb + 11) + rm1.locals ≤ rm.locals) ∧ (rm1.cells = 0 ∧ rm1.slots = 0) ∧ (k ≤ rm.cells ∧ n ≤ rm.slots)) (hst : st = As.reverse ++ .ref a :: rest) (hrm : (rest.map fun v => v.category).sum ≤ 8) (hdg : decode cc pc = .ok (.invokevirtual ix, 3)) (kk : ∀ x w, P x w → XW X k n w lv (pc + 3) (x :: rest)) : XW X k n ws lv pc st :=
  xcV C hM hy q0 he hc hml hR hst hrm hdg (fun v' w h => by obtain ⟨x, rfl, h⟩ := h; exact kk x w h)
theorem xcVV (C : XK X l D t cc own rm nL) {a : Nat} {P : va_W → Prop} (hM : CT l D t y b nb ret rm1 0 0 (.ref a :: As) ws (VP P)) (hy : YK y b nb ret As.length) (q0 : Nat) {ci : Nat} {fs : List Value} {T : u_T} {N : Nat} (he : ws[q0]? = some (a, .inr (ci, fs))) (hc : cls[ci]? = some (y.cls, T, N)) (hml : (.methodLink own ix y : Cond) ∈ XT)
    (hR : (rm1.frames + 1 ≤ rm.frames ∧ 8 + (nb + 11) + rm1.locals ≤ rm.locals) ∧ (rm1.cells = 0 ∧ rm1.slots = 0) ∧ (k ≤ rm.cells ∧ n ≤ rm.slots)) (hst : st = As.reverse ++ .ref a :: rest) (hrm : (rest.map fun v => v.category).sum ≤ 8) (hdg : decode cc pc = .ok (.invokevirtual ix, 3)) (kk : ∀ w, P w → XW X k n w lv (pc + 3) rest) : XW X k n ws lv pc st :=
  xcV C hM hy q0 he hc hml hR hst hrm hdg (fun v' w h => by obtain ⟨rfl, h⟩ := h; exact kk w h)
theorem xcSR (C : XK X l D t cc own rm nL) {v : Value} {w0 : va_W} (hM : CT l D t y b nb ret rm1 0 0 As ws (RP v w0)) (hy : SK y b nb ret As.length) (hml : (.methodLink own ix y : Cond) ∈ XT)
    (hR : (rm1.frames + 1 ≤ rm.frames ∧ 8 + (nb + 11) + rm1.locals ≤ rm.locals) ∧ (rm1.cells = 0 ∧ rm1.slots = 0) ∧ (k ≤ rm.cells ∧ n ≤ rm.slots)) (hst : st = As.reverse ++ rest) (hrm : (rest.map fun v => v.category).sum ≤ 8) (hdg : decode cc pc = .ok (.invokestatic ix, 3)) (kk : XW X k n w0 lv (pc + 3) (v :: rest)) : XW X k n ws lv pc st :=
  xcS C hM hy hml hR hst hrm hdg (fun v' w h => by obtain ⟨rfl, rfl⟩ := h; exact kk)
theorem xcSE (C : XK X l D t cc own rm nL) {P : Value → va_W → Prop} (hM : CT l D t y b nb ret rm1 0 0 As ws (EP P)) (hy : SK y b nb ret As.length) (hml : (.methodLink own ix y : Cond) ∈ XT)
    (hR : (rm1.frames + 1 ≤ rm.frames ∧ 8 + (nb + 11) + rm1.locals ≤ rm.locals) ∧ (rm1.cells = 0 ∧ rm1.slots = 0) ∧ (k ≤ rm.cells ∧ n ≤ rm.slots)) (hst : st = As.reverse ++ rest) (hrm : (rest.map fun v => v.category).sum ≤ 8) (hdg : decode cc pc = .ok (.invokestatic ix, 3)) (kk : ∀ x w, P x w → XW X k n w lv (pc + 3) (x :: rest)) : XW X k n ws lv pc st :=
  xcS C hM hy hml hR hst hrm hdg (fun v' w h => by obtain ⟨x, rfl, h⟩ := h; exact kk x w h)
theorem xcSV (C : XK X l D t cc own rm nL) {P : va_W → Prop} (hM : CT l D t y b nb ret rm1 0 0 As ws (VP P)) (hy : SK y b nb ret As.length) (hml : (.methodLink own ix y : Cond) ∈ XT)
    (hR : (rm1.frames + 1 ≤ rm.frames ∧ 8 + (nb + 11) + rm1.locals ≤ rm.locals) ∧ (rm1.cells = 0 ∧ rm1.slots = 0) ∧ (k ≤ rm.cells ∧ n ≤ rm.slots)) (hst : st = As.reverse ++ rest) (hrm : (rest.map fun v => v.category).sum ≤ 8) (hdg : decode cc pc = .ok (.invokestatic ix, 3)) (kk : ∀ w, P w → XW X k n w lv (pc + 3) rest) : XW X k n ws lv pc st :=
  xcS C hM hy hml hR hst hrm hdg (fun v' w h => by obtain ⟨rfl, h⟩ := h; exact kk w h)
theorem xcSVN (C : XK X l D t cc own rm nL) {P : va_W → Prop} {host : String} (hM : CT l D t y b nb ret rm1 0 0 As ws (VP P)) (hy : SK y b nb ret As.length) (hml : ∀ s : State, XN s → va_Nw (.methodLinkNest own ix y host) s)
    (hR : (rm1.frames + 1 ≤ rm.frames ∧ 8 + (nb + 11) + rm1.locals ≤ rm.locals) ∧ (rm1.cells = 0 ∧ rm1.slots = 0) ∧ (k ≤ rm.cells ∧ n ≤ rm.slots)) (hst : st = As.reverse ++ rest) (hrm : (rest.map fun v => v.category).sum ≤ 8) (hdg : decode cc pc = .ok (.invokestatic ix, 3)) (kk : ∀ w, P w → XW X k n w lv (pc + 3) rest) : XW X k n ws lv pc st :=
  xcSN C hM hy hml hR hst hrm hdg (fun v' w h => by obtain ⟨rfl, h⟩ := h; exact kk w h)
end CALLS
end
section
/-! Rules: most, numberOfHeight, isHeld, placeWeight, linkWeight (written by my program parts_x2.py). -/
theorem mostN_le {K : Cfg} (hW : WFK K) {p : Nat} (hp : p < kn K) : mostN K p ≤ 5 := by
  have := hW.top5 hp
  unfold mostN
  split <;> omega
theorem mostN_pos {K : Cfg} (hW : WFK K) {p : Nat} (hp : p < kn K) : 1 ≤ mostN K p := by
  have := (hW.pl hp).1
  unfold mostN
  split <;> omega
theorem nohN_le {K : Cfg} {p h : Nat} (hh : h ≤ 5) : nohN K p h ≤ 5 := by
  unfold nohN
  split <;> omega
theorem pwN_le {K : Cfg} (hW : WFK K) (p x : Nat) : pwN K p x ≤ 9 := by
  have := hW.u9; have := hW.v9
  unfold pwN
  split
  · omega
  · split
    · split <;> omega
    · omega
theorem lwN_le {K : Cfg} (hW : WFK K) (x y : Nat) : lwN K x y ≤ 9 := by
  have := hW.u9; have := hW.v9
  unfold lwN
  split
  · split <;> omega
  · split
    · split <;> omega
    · split <;> omega
theorem hdx {x y : Nat} (hx : x ≤ 5) (hy : y ≤ 6) (h : nI x = nI y - 1) : x + 1 = y := by
  have h2 : nI x + 1 = nI y := by rw [h]; simp
  rw [nI_1] at h2
  exact (nI_eq (by omega) (by omega)).mp h2
theorem hdx2 {x y : Nat} (h : x + 1 = y) : nI x = nI y - 1 := by subst h; rw [nI_pred]
theorem hdm {y : Nat} (h : ¬ nI y - 1 = -1) : ¬ y = 0 := fun q => h (by rw [q]; decide +kernel)
theorem hdm2 {y : Nat} (hy : y ≤ 6) (h : nI y - 1 = -1) : y = 0 := by
  have h2 : nI y = nI 0 := by
    have : nI y = (nI y - 1) + 1 := by simp
    rw [this, h]; decide +kernel
  exact (nI_eq (by omega) (by omega)).mp h2
theorem gt1 {x y : Nat} (hx : x ≤ 5) (hy : y ≤ 5) (h : nI 1 < nI x - nI y) : y + 1 < x := by
  have h1 := Int32.lt_iff_toInt_lt.mp h
  rw [pk_sub_toInt (by omega) (by omega), nI_toInt (by omega)] at h1
  omega
theorem ngt1 {x y : Nat} (hx : x ≤ 5) (hy : y ≤ 5) (h : ¬ nI 1 < nI x - nI y) : x ≤ y + 1 := by
  have h1 : ¬ (nI 1).toInt < (nI x - nI y).toInt := fun q => h (Int32.lt_iff_toInt_lt.mpr q)
  rw [pk_sub_toInt (by omega) (by omega), nI_toInt (by omega)] at h1
  omega
theorem dX2_most_0 : decode cX2_most 0 = .ok (.aload_n 0, 1) := by decide +kernel
theorem dX2_most_1 : decode cX2_most 1 = .ok (.getfield 18, 3) := by decide +kernel
theorem dX2_most_4 : decode cX2_most 4 = .ok (.iconst 1, 1) := by decide +kernel
theorem dX2_most_5 : decode cX2_most 5 = .ok (.if_icmp .ne 15, 3) := by decide +kernel
theorem dX2_most_8 : decode cX2_most 8 = .ok (.aload_n 0, 1) := by decide +kernel
theorem dX2_most_9 : decode cX2_most 9 = .ok (.getfield 32, 3) := by decide +kernel
theorem dX2_most_12 : decode cX2_most 12 = .ok (.getfield 36, 3) := by decide +kernel
theorem dX2_most_15 : decode cX2_most 15 = .ok (.iload_n 1, 1) := by decide +kernel
theorem dX2_most_16 : decode cX2_most 16 = .ok (.iaload, 1) := by decide +kernel
theorem dX2_most_17 : decode cX2_most 17 = .ok (.goto 4, 3) := by decide +kernel
theorem dX2_most_20 : decode cX2_most 20 = .ok (.iconst 1, 1) := by decide +kernel
theorem dX2_most_21 : decode cX2_most 21 = .ok (.ireturn, 1) := by decide +kernel
def rX2_most : Room := { frames := 0, cells := 0, slots := 0, locals := 0 }
theorem yk_X2_most : YK yX2_most cX2_most 2 (some .int) 1 := ⟨xim_X2_most, xse_X2_most, xin_X2, xco_X2_most, by decide +kernel⟩
set_option maxRecDepth 4000 in
theorem c_X2_most {l : Launch} {D : va_G} {t : Nat → ClassId} {a : Nat → Nat} {I : Nat → Int32} {F : Nat → Nat → Int32} {L : Nat → Int64} {K : Cfg} (hK : CFG K I F) (hW : WFK K) (p : Nat) (hp : p < kn K) : CT l D t yX2_most cX2_most 2 (some .int) rX2_most 0 0 [.ref (a 2), .int (nI p)] (WX a t I F L) (RP (.int (nI (mostN K p))) (WX a t I F L)) := by
  refine CT.of (by decide +kernel) (by simp [lg_sl, Value.category]) (fun X C hR => ?_)
  refine xlocals (lv' := [(0, .ref (a 2)), (1, .int (nI p))]) rfl ?_
  have fn24 := hW.n24; have fm60 := hW.m60; have fk2 := hW.k2; have fu1 := hW.u1; have fu9 := hW.u9; have fv1 := hW.v1; have fv9 := hW.v9
  refine xaload_n C 0 rfl dX2_most_0 ?_
  refine gX2_18K C hK dX2_most_1 ?_
  refine xiconst (v := nI 1) C dX2_most_4 (by decide) ?_
  refine xicmp_neN C 20 dX2_most_5 (by decide) (by omega) (by omega) (fun h5 => ?_) (fun h5 => ?_)
  ·
    refine xiconst (v := nI 1) C dX2_most_20 (by decide) ?_
    exact xret C hR (rfl) dX2_most_21 (RPn (by simp [mostN, h5]))
  ·
    refine xaload_n C 0 rfl dX2_most_8 ?_
    refine gX2_32 C dX2_most_9 ?_
    refine gX2_36 C dX2_most_12 ?_
    refine xiload_n C 1 rfl dX2_most_15 ?_
    refine xa_top C hK hW p (by omega) dX2_most_16 ?_
    have fb16 := (hW.top5 (by omega))
    refine xgoto C 21 dX2_most_17 (by decide) ?_
    exact xret C hR (rfl) dX2_most_21 (RPn (by simp [mostN, h5]))
theorem dX2_numberOfHeight_0 : decode cX2_numberOfHeight 0 = .ok (.aload_n 0, 1) := by decide +kernel
theorem dX2_numberOfHeight_1 : decode cX2_numberOfHeight 1 = .ok (.getfield 18, 3) := by decide +kernel
theorem dX2_numberOfHeight_4 : decode cX2_numberOfHeight 4 = .ok (.iconst 2, 1) := by decide +kernel
theorem dX2_numberOfHeight_5 : decode cX2_numberOfHeight 5 = .ok (.if_icmp .ne 22, 3) := by decide +kernel
theorem dX2_numberOfHeight_8 : decode cX2_numberOfHeight 8 = .ok (.aload_n 0, 1) := by decide +kernel
theorem dX2_numberOfHeight_9 : decode cX2_numberOfHeight 9 = .ok (.getfield 32, 3) := by decide +kernel
theorem dX2_numberOfHeight_12 : decode cX2_numberOfHeight 12 = .ok (.getfield 41, 3) := by decide +kernel
theorem dX2_numberOfHeight_15 : decode cX2_numberOfHeight 15 = .ok (.iload_n 1, 1) := by decide +kernel
theorem dX2_numberOfHeight_16 : decode cX2_numberOfHeight 16 = .ok (.iaload, 1) := by decide +kernel
theorem dX2_numberOfHeight_17 : decode cX2_numberOfHeight 17 = .ok (.iconst 1, 1) := by decide +kernel
theorem dX2_numberOfHeight_18 : decode cX2_numberOfHeight 18 = .ok (.if_icmp .ne 9, 3) := by decide +kernel
theorem dX2_numberOfHeight_21 : decode cX2_numberOfHeight 21 = .ok (.iconst 1, 1) := by decide +kernel
theorem dX2_numberOfHeight_22 : decode cX2_numberOfHeight 22 = .ok (.iload_n 2, 1) := by decide +kernel
theorem dX2_numberOfHeight_23 : decode cX2_numberOfHeight 23 = .ok (.isub, 1) := by decide +kernel
theorem dX2_numberOfHeight_24 : decode cX2_numberOfHeight 24 = .ok (.goto 4, 3) := by decide +kernel
theorem dX2_numberOfHeight_27 : decode cX2_numberOfHeight 27 = .ok (.iload_n 2, 1) := by decide +kernel
theorem dX2_numberOfHeight_28 : decode cX2_numberOfHeight 28 = .ok (.ireturn, 1) := by decide +kernel
def rX2_numberOfHeight : Room := { frames := 0, cells := 0, slots := 0, locals := 0 }
theorem yk_X2_numberOfHeight : YK yX2_numberOfHeight cX2_numberOfHeight 3 (some .int) 2 := ⟨xim_X2_numberOfHeight, xse_X2_numberOfHeight, xin_X2, xco_X2_numberOfHeight, by decide +kernel⟩
set_option maxRecDepth 4000 in
theorem c_X2_numberOfHeight {l : Launch} {D : va_G} {t : Nat → ClassId} {a : Nat → Nat} {I : Nat → Int32} {F : Nat → Nat → Int32} {L : Nat → Int64} {K : Cfg} (hK : CFG K I F) (hW : WFK K) (p : Nat) (hp : p < kn K) (h : Nat) (hh : h ≤ mostN K p) : CT l D t yX2_numberOfHeight cX2_numberOfHeight 3 (some .int) rX2_numberOfHeight 0 0 [.ref (a 2), .int (nI p), .int (nI h)] (WX a t I F L) (RP (.int (nI (nohN K p h))) (WX a t I F L)) := by
  refine CT.of (by decide +kernel) (by simp [lg_sl, Value.category]) (fun X C hR => ?_)
  refine xlocals (lv' := [(0, .ref (a 2)), (1, .int (nI p)), (2, .int (nI h))]) rfl ?_
  have fn24 := hW.n24; have fm60 := hW.m60; have fk2 := hW.k2; have fu1 := hW.u1; have fu9 := hW.u9; have fv1 := hW.v1; have fv9 := hW.v9
  refine xaload_n C 0 rfl dX2_numberOfHeight_0 ?_
  refine gX2_18K C hK dX2_numberOfHeight_1 ?_
  refine xiconst (v := nI 2) C dX2_numberOfHeight_4 (by decide) ?_
  refine xicmp_neN C 27 dX2_numberOfHeight_5 (by decide) (by omega) (by omega) (fun h5 => ?_) (fun h5 => ?_)
  ·
    refine xiload_n C 2 rfl dX2_numberOfHeight_27 ?_
    exact xret C hR (rfl) dX2_numberOfHeight_28 (RPn (by simp [nohN, h5]))
  ·
    refine xaload_n C 0 rfl dX2_numberOfHeight_8 ?_
    refine gX2_32 C dX2_numberOfHeight_9 ?_
    refine gX2_41 C dX2_numberOfHeight_12 ?_
    refine xiload_n C 1 rfl dX2_numberOfHeight_15 ?_
    refine xa_si C hK hW p (by omega) dX2_numberOfHeight_16 ?_
    have fb16 := (hW.si1 (by omega))
    refine xiconst (v := nI 1) C dX2_numberOfHeight_17 (by decide) ?_
    refine xicmp_neN C 27 dX2_numberOfHeight_18 (by decide) (by omega) (by omega) (fun h18 => ?_) (fun h18 => ?_)
    ·
      refine xiload_n C 2 rfl dX2_numberOfHeight_27 ?_
      exact xret C hR (rfl) dX2_numberOfHeight_28 (RPn (by simp [nohN, h5, h18]))
    ·
      refine xiconst (v := nI 1) C dX2_numberOfHeight_21 (by decide) ?_
      refine xiload_n C 2 rfl dX2_numberOfHeight_22 ?_
      refine xisubN C (by unfold mostN at hh; rw [if_neg (by omega)] at hh; omega) dX2_numberOfHeight_23 ?_
      refine xgoto C 28 dX2_numberOfHeight_24 (by decide) ?_
      exact xret C hR (rfl) dX2_numberOfHeight_28 (RPn (by simp [nohN, h5, h18]))
theorem dX2_isHeld_0 : decode cX2_isHeld 0 = .ok (.aload_n 0, 1) := by decide +kernel
theorem dX2_isHeld_1 : decode cX2_isHeld 1 = .ok (.getfield 18, 3) := by decide +kernel
theorem dX2_isHeld_4 : decode cX2_isHeld 4 = .ok (.iconst 1, 1) := by decide +kernel
theorem dX2_isHeld_5 : decode cX2_isHeld 5 = .ok (.if_icmp .ne 20, 3) := by decide +kernel
theorem dX2_isHeld_8 : decode cX2_isHeld 8 = .ok (.aload_n 0, 1) := by decide +kernel
theorem dX2_isHeld_9 : decode cX2_isHeld 9 = .ok (.getfield 32, 3) := by decide +kernel
theorem dX2_isHeld_12 : decode cX2_isHeld 12 = .ok (.getfield 44, 3) := by decide +kernel
theorem dX2_isHeld_15 : decode cX2_isHeld 15 = .ok (.iload_n 1, 1) := by decide +kernel
theorem dX2_isHeld_16 : decode cX2_isHeld 16 = .ok (.iaload, 1) := by decide +kernel
theorem dX2_isHeld_17 : decode cX2_isHeld 17 = .ok (.iconst (-1), 1) := by decide +kernel
theorem dX2_isHeld_18 : decode cX2_isHeld 18 = .ok (.if_icmp .eq 7, 3) := by decide +kernel
theorem dX2_isHeld_21 : decode cX2_isHeld 21 = .ok (.iconst 1, 1) := by decide +kernel
theorem dX2_isHeld_22 : decode cX2_isHeld 22 = .ok (.goto 4, 3) := by decide +kernel
theorem dX2_isHeld_25 : decode cX2_isHeld 25 = .ok (.iconst 0, 1) := by decide +kernel
theorem dX2_isHeld_26 : decode cX2_isHeld 26 = .ok (.ireturn, 1) := by decide +kernel
def rX2_isHeld : Room := { frames := 0, cells := 0, slots := 0, locals := 0 }
theorem yk_X2_isHeld : YK yX2_isHeld cX2_isHeld 2 (some .boolean) 1 := ⟨xim_X2_isHeld, xse_X2_isHeld, xin_X2, xco_X2_isHeld, by decide +kernel⟩
set_option maxRecDepth 4000 in
theorem c_X2_isHeld {l : Launch} {D : va_G} {t : Nat → ClassId} {a : Nat → Nat} {I : Nat → Int32} {F : Nat → Nat → Int32} {L : Nat → Int64} {K : Cfg} (hK : CFG K I F) (hW : WFK K) (p : Nat) (hp : p < kn K) : CT l D t yX2_isHeld cX2_isHeld 2 (some .boolean) rX2_isHeld 0 0 [.ref (a 2), .int (nI p)] (WX a t I F L) (RP (.int (nI (bn (kk K = 1 ∧ khd K p ≠ 0)))) (WX a t I F L)) := by
  refine CT.of (by decide +kernel) (by simp [lg_sl, Value.category]) (fun X C hR => ?_)
  refine xlocals (lv' := [(0, .ref (a 2)), (1, .int (nI p))]) rfl ?_
  have fn24 := hW.n24; have fm60 := hW.m60; have fk2 := hW.k2; have fu1 := hW.u1; have fu9 := hW.u9; have fv1 := hW.v1; have fv9 := hW.v9
  refine xaload_n C 0 rfl dX2_isHeld_0 ?_
  refine gX2_18K C hK dX2_isHeld_1 ?_
  refine xiconst (v := nI 1) C dX2_isHeld_4 (by decide) ?_
  refine xicmp_neN C 25 dX2_isHeld_5 (by decide) (by omega) (by omega) (fun h5 => ?_) (fun h5 => ?_)
  ·
    refine xiconst (v := nI 0) C dX2_isHeld_25 (by decide) ?_
    exact xret C hR (by rfl) dX2_isHeld_26 (RPn ((bn_f (fun q => h5 q.1)).symm))
  ·
    refine xaload_n C 0 rfl dX2_isHeld_8 ?_
    refine gX2_32 C dX2_isHeld_9 ?_
    refine gX2_44 C dX2_isHeld_12 ?_
    refine xiload_n C 1 rfl dX2_isHeld_15 ?_
    refine xa_hd C hK hW p (by omega) dX2_isHeld_16 ?_
    have fb16 := (hW.hd6 (by omega))
    refine xiconst (v := -1) C dX2_isHeld_17 (by decide) ?_
    refine xicmp_eq C 25 dX2_isHeld_18 (by decide) (fun h18 => ?_) (fun h18 => ?_)
    ·
      refine xiconst (v := nI 0) C dX2_isHeld_25 (by decide) ?_
      exact xret C hR (by rfl) dX2_isHeld_26 (RPn ((bn_f (fun q => q.2 (hdm2 (by omega) h18))).symm))
    ·
      refine xiconst (v := nI 1) C dX2_isHeld_21 (by decide) ?_
      refine xgoto C 26 dX2_isHeld_22 (by decide) ?_
      exact xret C hR (by rfl) dX2_isHeld_26 (RPn ((bn_t ⟨h5, hdm h18⟩).symm))
theorem dX2_placeWeight_0 : decode cX2_placeWeight 0 = .ok (.iload_n 2, 1) := by decide +kernel
theorem dX2_placeWeight_1 : decode cX2_placeWeight 1 = .ok (.ifCond .lt 33, 3) := by decide +kernel
theorem dX2_placeWeight_4 : decode cX2_placeWeight 4 = .ok (.iload_n 2, 1) := by decide +kernel
theorem dX2_placeWeight_5 : decode cX2_placeWeight 5 = .ok (.aload_n 0, 1) := by decide +kernel
theorem dX2_placeWeight_6 : decode cX2_placeWeight 6 = .ok (.iload_n 1, 1) := by decide +kernel
theorem dX2_placeWeight_7 : decode cX2_placeWeight 7 = .ok (.invokevirtual 47, 3) := by decide +kernel
theorem dX2_placeWeight_10 : decode cX2_placeWeight 10 = .ok (.if_icmp .gt 24, 3) := by decide +kernel
theorem dX2_placeWeight_13 : decode cX2_placeWeight 13 = .ok (.aload_n 0, 1) := by decide +kernel
theorem dX2_placeWeight_14 : decode cX2_placeWeight 14 = .ok (.iload_n 1, 1) := by decide +kernel
theorem dX2_placeWeight_15 : decode cX2_placeWeight 15 = .ok (.invokevirtual 51, 3) := by decide +kernel
theorem dX2_placeWeight_18 : decode cX2_placeWeight 18 = .ok (.ifCond .eq 18, 3) := by decide +kernel
theorem dX2_placeWeight_21 : decode cX2_placeWeight 21 = .ok (.iload_n 2, 1) := by decide +kernel
theorem dX2_placeWeight_22 : decode cX2_placeWeight 22 = .ok (.aload_n 0, 1) := by decide +kernel
theorem dX2_placeWeight_23 : decode cX2_placeWeight 23 = .ok (.getfield 32, 3) := by decide +kernel
theorem dX2_placeWeight_26 : decode cX2_placeWeight 26 = .ok (.getfield 44, 3) := by decide +kernel
theorem dX2_placeWeight_29 : decode cX2_placeWeight 29 = .ok (.iload_n 1, 1) := by decide +kernel
theorem dX2_placeWeight_30 : decode cX2_placeWeight 30 = .ok (.iaload, 1) := by decide +kernel
theorem dX2_placeWeight_31 : decode cX2_placeWeight 31 = .ok (.if_icmp .eq 5, 3) := by decide +kernel
theorem dX2_placeWeight_34 : decode cX2_placeWeight 34 = .ok (.iconst 0, 1) := by decide +kernel
theorem dX2_placeWeight_35 : decode cX2_placeWeight 35 = .ok (.ireturn, 1) := by decide +kernel
theorem dX2_placeWeight_36 : decode cX2_placeWeight 36 = .ok (.aload_n 0, 1) := by decide +kernel
theorem dX2_placeWeight_37 : decode cX2_placeWeight 37 = .ok (.getfield 18, 3) := by decide +kernel
theorem dX2_placeWeight_40 : decode cX2_placeWeight 40 = .ok (.iconst 2, 1) := by decide +kernel
theorem dX2_placeWeight_41 : decode cX2_placeWeight 41 = .ok (.if_icmp .eq 5, 3) := by decide +kernel
theorem dX2_placeWeight_44 : decode cX2_placeWeight 44 = .ok (.iconst 1, 1) := by decide +kernel
theorem dX2_placeWeight_45 : decode cX2_placeWeight 45 = .ok (.ireturn, 1) := by decide +kernel
theorem dX2_placeWeight_46 : decode cX2_placeWeight 46 = .ok (.iload_n 2, 1) := by decide +kernel
theorem dX2_placeWeight_47 : decode cX2_placeWeight 47 = .ok (.iconst 1, 1) := by decide +kernel
theorem dX2_placeWeight_48 : decode cX2_placeWeight 48 = .ok (.if_icmp .ne 10, 3) := by decide +kernel
theorem dX2_placeWeight_51 : decode cX2_placeWeight 51 = .ok (.aload_n 0, 1) := by decide +kernel
theorem dX2_placeWeight_52 : decode cX2_placeWeight 52 = .ok (.getfield 22, 3) := by decide +kernel
theorem dX2_placeWeight_55 : decode cX2_placeWeight 55 = .ok (.goto 7, 3) := by decide +kernel
theorem dX2_placeWeight_58 : decode cX2_placeWeight 58 = .ok (.aload_n 0, 1) := by decide +kernel
theorem dX2_placeWeight_59 : decode cX2_placeWeight 59 = .ok (.getfield 25, 3) := by decide +kernel
theorem dX2_placeWeight_62 : decode cX2_placeWeight 62 = .ok (.ireturn, 1) := by decide +kernel
def rX2_placeWeight : Room := { frames := 1, cells := 0, slots := 0, locals := 21 }
theorem yk_X2_placeWeight : YK yX2_placeWeight cX2_placeWeight 3 (some .int) 2 := ⟨xim_X2_placeWeight, xse_X2_placeWeight, xin_X2, xco_X2_placeWeight, by decide +kernel⟩
set_option maxRecDepth 4000 in
theorem c_X2_placeWeight {l : Launch} {D : va_G} {t : Nat → ClassId} {a : Nat → Nat} {I : Nat → Int32} {F : Nat → Nat → Int32} {L : Nat → Int64} {K : Cfg} (hK : CFG K I F) (hW : WFK K) (p : Nat) (hp : p < kn K) (x : Nat) (hx : x ≤ 5) : CT l D t yX2_placeWeight cX2_placeWeight 3 (some .int) rX2_placeWeight 0 0 [.ref (a 2), .int (nI p), .int (nI x)] (WX a t I F L) (RP (.int (nI (pwN K p x))) (WX a t I F L)) := by
  refine CT.of (by decide +kernel) (by simp [lg_sl, Value.category]) (fun X C hR => ?_)
  refine xlocals (lv' := [(0, .ref (a 2)), (1, .int (nI p)), (2, .int (nI x))]) rfl ?_
  have fn24 := hW.n24; have fm60 := hW.m60; have fk2 := hW.k2; have fu1 := hW.u1; have fu9 := hW.u9; have fv1 := hW.v1; have fv9 := hW.v9
  refine xiload_n C 2 rfl dX2_placeWeight_0 ?_
  refine xif_ltN C 34 dX2_placeWeight_1 (by decide) (by omega) ?_
  refine xiload_n C 2 rfl dX2_placeWeight_4 ?_
  refine xaload_n C 0 rfl dX2_placeWeight_5 ?_
  refine xiload_n C 1 rfl dX2_placeWeight_6 ?_
  refine xcVR C (c_X2_most hK hW p (by omega)) yk_X2_most 2 rfl rfl xml_X2_47 ⟨⟨Nat.le_of_ble_eq_true rfl, Nat.le_of_ble_eq_true rfl⟩, ⟨rfl, rfl⟩, ⟨Nat.zero_le _, Nat.zero_le _⟩⟩ rfl (Nat.le_of_ble_eq_true rfl) dX2_placeWeight_7 ?_
  have fm7 := mostN_le hW (show p < kn K by omega)
  refine xicmp_gtN C 34 dX2_placeWeight_10 (by decide) (by omega) (by omega) (fun h10 => ?_) (fun h10 => ?_)
  ·
    refine xiconst (v := nI 0) C dX2_placeWeight_34 (by decide) ?_
    exact xret C hR (rfl) dX2_placeWeight_35 (RPn (by unfold pwN; rw [if_pos (Or.inl h10)]))
  ·
    refine xaload_n C 0 rfl dX2_placeWeight_13 ?_
    refine xiload_n C 1 rfl dX2_placeWeight_14 ?_
    refine xcVR C (c_X2_isHeld hK hW p (by omega)) yk_X2_isHeld 2 rfl rfl xml_X2_51 ⟨⟨Nat.le_of_ble_eq_true rfl, Nat.le_of_ble_eq_true rfl⟩, ⟨rfl, rfl⟩, ⟨Nat.zero_le _, Nat.zero_le _⟩⟩ rfl (Nat.le_of_ble_eq_true rfl) dX2_placeWeight_15 ?_
    have fi15 := bn_le (kk K = 1 ∧ khd K p ≠ 0)
    refine xif_eqN C 36 dX2_placeWeight_18 (by decide) (bn_lt _) (fun h18 => ?_) (fun h18 => ?_)
    ·
      have h18 := bn_0 h18
      refine xaload_n C 0 rfl dX2_placeWeight_36 ?_
      refine gX2_18K C hK dX2_placeWeight_37 ?_
      refine xiconst (v := nI 2) C dX2_placeWeight_40 (by decide) ?_
      refine xicmp_eqN C 46 dX2_placeWeight_41 (by decide) (by omega) (by omega) (fun h41 => ?_) (fun h41 => ?_)
      ·
        refine xiload_n C 2 rfl dX2_placeWeight_46 ?_
        refine xiconst (v := nI 1) C dX2_placeWeight_47 (by decide) ?_
        refine xicmp_neN C 58 dX2_placeWeight_48 (by decide) (by omega) (by omega) (fun h48 => ?_) (fun h48 => ?_)
        ·
          refine xaload_n C 0 rfl dX2_placeWeight_58 ?_
          refine gX2_25K C hK dX2_placeWeight_59 ?_
          exact xret C hR (rfl) dX2_placeWeight_62 (RPn (by unfold pwN; rw [if_neg (fun q => q.elim (by omega) (fun q => h18 ⟨q.1, q.2.1⟩)), if_pos h41, if_neg h48]))
        ·
          refine xaload_n C 0 rfl dX2_placeWeight_51 ?_
          refine gX2_22K C hK dX2_placeWeight_52 ?_
          refine xgoto C 62 dX2_placeWeight_55 (by decide) ?_
          exact xret C hR (rfl) dX2_placeWeight_62 (RPn (by unfold pwN; rw [if_neg (fun q => q.elim (by omega) (fun q => h18 ⟨q.1, q.2.1⟩)), if_pos h41, if_pos h48]))
      ·
        refine xiconst (v := nI 1) C dX2_placeWeight_44 (by decide) ?_
        exact xret C hR (rfl) dX2_placeWeight_45 (RPn (by unfold pwN; rw [if_neg (fun q => q.elim (by omega) (fun q => h18 ⟨q.1, q.2.1⟩)), if_neg h41]))
    ·
      have h18 := bn_1 h18
      refine xiload_n C 2 rfl dX2_placeWeight_21 ?_
      refine xaload_n C 0 rfl dX2_placeWeight_22 ?_
      refine gX2_32 C dX2_placeWeight_23 ?_
      refine gX2_44 C dX2_placeWeight_26 ?_
      refine xiload_n C 1 rfl dX2_placeWeight_29 ?_
      refine xa_hd C hK hW p (by omega) dX2_placeWeight_30 ?_
      have fb30 := (hW.hd6 (by omega))
      refine xicmp_eq C 36 dX2_placeWeight_31 (by decide) (fun h31 => ?_) (fun h31 => ?_)
      ·
        have h31 := hdx (by omega) (by omega) h31
        refine xaload_n C 0 rfl dX2_placeWeight_36 ?_
        refine gX2_18K C hK dX2_placeWeight_37 ?_
        refine xiconst (v := nI 2) C dX2_placeWeight_40 (by decide) ?_
        refine xicmp_eqN C 46 dX2_placeWeight_41 (by decide) (by omega) (by omega) (fun h41 => ?_) (fun h41 => ?_)
        ·
          refine xiload_n C 2 rfl dX2_placeWeight_46 ?_
          refine xiconst (v := nI 1) C dX2_placeWeight_47 (by decide) ?_
          refine xicmp_neN C 58 dX2_placeWeight_48 (by decide) (by omega) (by omega) (fun h48 => ?_) (fun h48 => ?_)
          ·
            refine xaload_n C 0 rfl dX2_placeWeight_58 ?_
            refine gX2_25K C hK dX2_placeWeight_59 ?_
            exact xret C hR (rfl) dX2_placeWeight_62 (RPn (by unfold pwN; rw [if_neg (by omega), if_pos h41, if_neg h48]))
          ·
            refine xaload_n C 0 rfl dX2_placeWeight_51 ?_
            refine gX2_22K C hK dX2_placeWeight_52 ?_
            refine xgoto C 62 dX2_placeWeight_55 (by decide) ?_
            exact xret C hR (rfl) dX2_placeWeight_62 (RPn (by unfold pwN; rw [if_neg (by omega), if_pos h41, if_pos h48]))
        ·
          refine xiconst (v := nI 1) C dX2_placeWeight_44 (by decide) ?_
          exact xret C hR (rfl) dX2_placeWeight_45 (RPn (by unfold pwN; rw [if_neg (by omega), if_neg h41]))
      ·
        have h31 := fun q => h31 (hdx2 q)
        refine xiconst (v := nI 0) C dX2_placeWeight_34 (by decide) ?_
        exact xret C hR (rfl) dX2_placeWeight_35 (RPn (by unfold pwN; rw [if_pos (Or.inr ⟨h18.1, h18.2, h31⟩)]))
theorem dX2_linkWeight_0 : decode cX2_linkWeight 0 = .ok (.aload_n 0, 1) := by decide +kernel
theorem dX2_linkWeight_1 : decode cX2_linkWeight 1 = .ok (.getfield 18, 3) := by decide +kernel
theorem dX2_linkWeight_4 : decode cX2_linkWeight 4 = .ok (.lookupswitch 65 #[(0, 28), (1, 45)], 28) := by decide +kernel
theorem dX2_linkWeight_32 : decode cX2_linkWeight 32 = .ok (.iload_n 1, 1) := by decide +kernel
theorem dX2_linkWeight_33 : decode cX2_linkWeight 33 = .ok (.iload_n 2, 1) := by decide +kernel
theorem dX2_linkWeight_34 : decode cX2_linkWeight 34 = .ok (.if_icmp .ne 10, 3) := by decide +kernel
theorem dX2_linkWeight_37 : decode cX2_linkWeight 37 = .ok (.aload_n 0, 1) := by decide +kernel
theorem dX2_linkWeight_38 : decode cX2_linkWeight 38 = .ok (.getfield 22, 3) := by decide +kernel
theorem dX2_linkWeight_41 : decode cX2_linkWeight 41 = .ok (.goto 7, 3) := by decide +kernel
theorem dX2_linkWeight_44 : decode cX2_linkWeight 44 = .ok (.aload_n 0, 1) := by decide +kernel
theorem dX2_linkWeight_45 : decode cX2_linkWeight 45 = .ok (.getfield 25, 3) := by decide +kernel
theorem dX2_linkWeight_48 : decode cX2_linkWeight 48 = .ok (.ireturn, 1) := by decide +kernel
theorem dX2_linkWeight_49 : decode cX2_linkWeight 49 = .ok (.iload_n 1, 1) := by decide +kernel
theorem dX2_linkWeight_50 : decode cX2_linkWeight 50 = .ok (.iload_n 2, 1) := by decide +kernel
theorem dX2_linkWeight_51 : decode cX2_linkWeight 51 = .ok (.isub, 1) := by decide +kernel
theorem dX2_linkWeight_52 : decode cX2_linkWeight 52 = .ok (.iconst 1, 1) := by decide +kernel
theorem dX2_linkWeight_53 : decode cX2_linkWeight 53 = .ok (.if_icmp .gt 14, 3) := by decide +kernel
theorem dX2_linkWeight_56 : decode cX2_linkWeight 56 = .ok (.iload_n 2, 1) := by decide +kernel
theorem dX2_linkWeight_57 : decode cX2_linkWeight 57 = .ok (.iload_n 1, 1) := by decide +kernel
theorem dX2_linkWeight_58 : decode cX2_linkWeight 58 = .ok (.isub, 1) := by decide +kernel
theorem dX2_linkWeight_59 : decode cX2_linkWeight 59 = .ok (.iconst 1, 1) := by decide +kernel
theorem dX2_linkWeight_60 : decode cX2_linkWeight 60 = .ok (.if_icmp .gt 7, 3) := by decide +kernel
theorem dX2_linkWeight_63 : decode cX2_linkWeight 63 = .ok (.iconst 1, 1) := by decide +kernel
theorem dX2_linkWeight_64 : decode cX2_linkWeight 64 = .ok (.goto 4, 3) := by decide +kernel
theorem dX2_linkWeight_67 : decode cX2_linkWeight 67 = .ok (.iconst 0, 1) := by decide +kernel
theorem dX2_linkWeight_68 : decode cX2_linkWeight 68 = .ok (.ireturn, 1) := by decide +kernel
theorem dX2_linkWeight_69 : decode cX2_linkWeight 69 = .ok (.iload_n 1, 1) := by decide +kernel
theorem dX2_linkWeight_70 : decode cX2_linkWeight 70 = .ok (.iconst 1, 1) := by decide +kernel
theorem dX2_linkWeight_71 : decode cX2_linkWeight 71 = .ok (.if_icmp .ne 12, 3) := by decide +kernel
theorem dX2_linkWeight_74 : decode cX2_linkWeight 74 = .ok (.iload_n 2, 1) := by decide +kernel
theorem dX2_linkWeight_75 : decode cX2_linkWeight 75 = .ok (.iconst 1, 1) := by decide +kernel
theorem dX2_linkWeight_76 : decode cX2_linkWeight 76 = .ok (.if_icmp .ne 7, 3) := by decide +kernel
theorem dX2_linkWeight_79 : decode cX2_linkWeight 79 = .ok (.iconst 0, 1) := by decide +kernel
theorem dX2_linkWeight_80 : decode cX2_linkWeight 80 = .ok (.goto 4, 3) := by decide +kernel
theorem dX2_linkWeight_83 : decode cX2_linkWeight 83 = .ok (.iconst 1, 1) := by decide +kernel
theorem dX2_linkWeight_84 : decode cX2_linkWeight 84 = .ok (.ireturn, 1) := by decide +kernel
def rX2_linkWeight : Room := { frames := 0, cells := 0, slots := 0, locals := 0 }
theorem yk_X2_linkWeight : YK yX2_linkWeight cX2_linkWeight 3 (some .int) 2 := ⟨xim_X2_linkWeight, xse_X2_linkWeight, xin_X2, xco_X2_linkWeight, by decide +kernel⟩
set_option maxRecDepth 4000 in
theorem c_X2_linkWeight {l : Launch} {D : va_G} {t : Nat → ClassId} {a : Nat → Nat} {I : Nat → Int32} {F : Nat → Nat → Int32} {L : Nat → Int64} {K : Cfg} (hK : CFG K I F) (hW : WFK K) (x y : Nat) (hx : x ≤ 5) (hy : y ≤ 5) : CT l D t yX2_linkWeight cX2_linkWeight 3 (some .int) rX2_linkWeight 0 0 [.ref (a 2), .int (nI x), .int (nI y)] (WX a t I F L) (RP (.int (nI (lwN K x y))) (WX a t I F L)) := by
  refine CT.of (by decide +kernel) (by simp [lg_sl, Value.category]) (fun X C hR => ?_)
  refine xlocals (lv' := [(0, .ref (a 2)), (1, .int (nI x)), (2, .int (nI y))]) rfl ?_
  have fn24 := hW.n24; have fm60 := hW.m60; have fk2 := hW.k2; have fu1 := hW.u1; have fu9 := hW.u9; have fv1 := hW.v1; have fv9 := hW.v9
  refine xaload_n C 0 rfl dX2_linkWeight_0 ?_
  refine gX2_18K C hK dX2_linkWeight_1 ?_
  rcases (show kk K = 0 ∨ kk K = 1 ∨ kk K = 2 by omega) with h4 | h4 | h4
  ·
    refine xtopi (y := nI 0) (by rw [h4]) ?_
    refine xlookup C 32 dX2_linkWeight_4 (by decide +kernel) (off := 28) (by decide +kernel) (by decide) ?_
    refine xiload_n C 1 rfl dX2_linkWeight_32 ?_
    refine xiload_n C 2 rfl dX2_linkWeight_33 ?_
    refine xicmp_neN C 44 dX2_linkWeight_34 (by decide) (by omega) (by omega) (fun h34 => ?_) (fun h34 => ?_)
    ·
      refine xaload_n C 0 rfl dX2_linkWeight_44 ?_
      refine gX2_25K C hK dX2_linkWeight_45 ?_
      exact xret C hR (rfl) dX2_linkWeight_48 (RPn (by simp [lwN, h4, h34]))
    ·
      refine xaload_n C 0 rfl dX2_linkWeight_37 ?_
      refine gX2_22K C hK dX2_linkWeight_38 ?_
      refine xgoto C 48 dX2_linkWeight_41 (by decide) ?_
      exact xret C hR (rfl) dX2_linkWeight_48 (RPn (by simp [lwN, h4, h34]))
  ·
    refine xtopi (y := nI 1) (by rw [h4]) ?_
    refine xlookup C 49 dX2_linkWeight_4 (by decide +kernel) (off := 45) (by decide +kernel) (by decide) ?_
    refine xiload_n C 1 rfl dX2_linkWeight_49 ?_
    refine xiload_n C 2 rfl dX2_linkWeight_50 ?_
    refine xisub C dX2_linkWeight_51 ?_
    refine xiconst (v := nI 1) C dX2_linkWeight_52 (by decide) ?_
    refine xicmp_gt C 67 dX2_linkWeight_53 (by decide) (fun h53 => ?_) (fun h53 => ?_)
    ·
      have h53 := gt1 hx hy h53
      refine xiconst (v := nI 0) C dX2_linkWeight_67 (by decide) ?_
      exact xret C hR (rfl) dX2_linkWeight_68 (RPn (by unfold lwN; rw [if_neg (by omega), if_pos (by omega), if_neg (by omega)]))
    ·
      have h53 := ngt1 hx hy h53
      refine xiload_n C 2 rfl dX2_linkWeight_56 ?_
      refine xiload_n C 1 rfl dX2_linkWeight_57 ?_
      refine xisub C dX2_linkWeight_58 ?_
      refine xiconst (v := nI 1) C dX2_linkWeight_59 (by decide) ?_
      refine xicmp_gt C 67 dX2_linkWeight_60 (by decide) (fun h60 => ?_) (fun h60 => ?_)
      ·
        have h60 := gt1 hy hx h60
        refine xiconst (v := nI 0) C dX2_linkWeight_67 (by decide) ?_
        exact xret C hR (rfl) dX2_linkWeight_68 (RPn (by unfold lwN; rw [if_neg (by omega), if_pos (by omega), if_neg (by omega)]))
      ·
        have h60 := ngt1 hy hx h60
        refine xiconst (v := nI 1) C dX2_linkWeight_63 (by decide) ?_
        refine xgoto C 68 dX2_linkWeight_64 (by decide) ?_
        exact xret C hR (rfl) dX2_linkWeight_68 (RPn (by unfold lwN; rw [if_neg (by omega), if_pos (by omega), if_pos (by omega)]))
  ·
    refine xtopi (y := nI 2) (by rw [h4]) ?_
    refine xlookup C 69 dX2_linkWeight_4 (by decide +kernel) (off := 65) (by decide +kernel) (by decide) ?_
    refine xiload_n C 1 rfl dX2_linkWeight_69 ?_
    refine xiconst (v := nI 1) C dX2_linkWeight_70 (by decide) ?_
    refine xicmp_neN C 83 dX2_linkWeight_71 (by decide) (by omega) (by omega) (fun h71 => ?_) (fun h71 => ?_)
    ·
      refine xiconst (v := nI 1) C dX2_linkWeight_83 (by decide) ?_
      exact xret C hR (rfl) dX2_linkWeight_84 (RPn (by simp [lwN, h4, h71]))
    ·
      refine xiload_n C 2 rfl dX2_linkWeight_74 ?_
      refine xiconst (v := nI 1) C dX2_linkWeight_75 (by decide) ?_
      refine xicmp_neN C 83 dX2_linkWeight_76 (by decide) (by omega) (by omega) (fun h76 => ?_) (fun h76 => ?_)
      ·
        refine xiconst (v := nI 1) C dX2_linkWeight_83 (by decide) ?_
        exact xret C hR (rfl) dX2_linkWeight_84 (RPn (by simp [lwN, h4, h71, h76]))
      ·
        refine xiconst (v := nI 0) C dX2_linkWeight_79 (by decide) ?_
        refine xgoto C 84 dX2_linkWeight_80 (by decide) ?_
        exact xret C hR (rfl) dX2_linkWeight_84 (RPn (by simp [lwN, h4, h71, h76]))
end
section
/-! Rules: isAllowed, weightOf, weightAround, isSound and its two, drawTogether (written by my program parts_x2b.py). -/
def crossP (K : Cfg) : Prop := ∀ k, k < km K → ksi K (kla K k) ≠ ksi K (klb K k)
def soundP (K : Cfg) (lo hi : Nat → Nat) : Prop := if kk K = 0 then kv K ≤ ku K else if kk K = 1 then ∀ p, p < kn K → lo p ≤ hi p else crossP K
/-- a link drawn together, from above and from below; a round over the links; rounds -/
def rlH (K : Cfg) (f : Nat → Nat) (k : Nat) : Nat → Nat := va_up (va_up f (kla K k) (min (f (kla K k)) (f (klb K k) + 1))) (klb K k) (min (va_up f (kla K k) (min (f (kla K k)) (f (klb K k) + 1)) (klb K k)) (va_up f (kla K k) (min (f (kla K k)) (f (klb K k) + 1)) (kla K k) + 1))
def rlL (K : Cfg) (f : Nat → Nat) (k : Nat) : Nat → Nat := va_up (va_up f (kla K k) (max (f (kla K k)) (f (klb K k) - 1))) (klb K k) (max (va_up f (kla K k) (max (f (kla K k)) (f (klb K k) - 1)) (klb K k)) (va_up f (kla K k) (max (f (kla K k)) (f (klb K k) - 1)) (kla K k) - 1))
def rdH (K : Cfg) (f : Nat → Nat) : Nat → (Nat → Nat)
  | 0 => f
  | k + 1 => rlH K (rdH K f k) k
def rdL (K : Cfg) (f : Nat → Nat) : Nat → (Nat → Nat)
  | 0 => f
  | k + 1 => rlL K (rdL K f k) k
def rrH (K : Cfg) (f : Nat → Nat) : Nat → (Nat → Nat)
  | 0 => f
  | i + 1 => rdH K (rrH K f i) (km K)
def rrL (K : Cfg) (f : Nat → Nat) : Nat → (Nat → Nat)
  | 0 => f
  | i + 1 => rdL K (rrL K f i) (km K)
theorem nmin {x y : Nat} (hx : x < 100) (hy : y < 100) : (if nI y + nI 1 < nI x then nI y + nI 1 else nI x) = nI (min x (y + 1)) := by
  rw [nI_add]
  by_cases h : y + 1 < x
  · rw [if_pos ((nI_ltI (by omega) (by omega)).mpr h), Nat.min_eq_right (by omega)]
  · rw [if_neg (fun q => h ((nI_ltI (by omega) (by omega)).mp q)), Nat.min_eq_left (by omega)]
theorem nmin' {x y : Nat} (hx : x < 100) (hy : y < 100) : (if nI (y + 1) < nI x then nI (y + 1) else nI x) = nI (min x (y + 1)) := by
  rw [← nmin hx hy, nI_add]
theorem nmax {x y : Nat} (hx : x < 100) (hy : y < 100) : (if nI x < nI y - nI 1 then nI y - nI 1 else nI x) = nI (max x (y - 1)) := by
  by_cases h0 : y = 0
  · subst h0
    rw [if_neg, Nat.max_eq_left (by omega)]
    intro q
    have h1 := Int32.lt_iff_toInt_lt.mp q
    rw [pk_sub_toInt (by omega) (by omega), nI_toInt (by omega)] at h1
    omega
  · rw [pk_sub (by omega)]
    by_cases h : x < y - 1
    · rw [if_pos ((nI_ltI (by omega) (by omega)).mpr h), Nat.max_eq_right (by omega)]
    · rw [if_neg (fun q => h ((nI_ltI (by omega) (by omega)).mp q)), Nat.max_eq_left (by omega)]
theorem dX2_isAllowed_0 : decode cX2_isAllowed 0 = .ok (.iconst 0, 1) := by decide +kernel
theorem dX2_isAllowed_1 : decode cX2_isAllowed 1 = .ok (.istore_n 2, 1) := by decide +kernel
theorem dX2_isAllowed_2 : decode cX2_isAllowed 2 = .ok (.iload_n 2, 1) := by decide +kernel
theorem dX2_isAllowed_3 : decode cX2_isAllowed 3 = .ok (.aload_n 0, 1) := by decide +kernel
theorem dX2_isAllowed_4 : decode cX2_isAllowed 4 = .ok (.getfield 32, 3) := by decide +kernel
theorem dX2_isAllowed_7 : decode cX2_isAllowed 7 = .ok (.getfield 55, 3) := by decide +kernel
theorem dX2_isAllowed_10 : decode cX2_isAllowed 10 = .ok (.if_icmp .ge 22, 3) := by decide +kernel
theorem dX2_isAllowed_13 : decode cX2_isAllowed 13 = .ok (.aload_n 0, 1) := by decide +kernel
theorem dX2_isAllowed_14 : decode cX2_isAllowed 14 = .ok (.iload_n 2, 1) := by decide +kernel
theorem dX2_isAllowed_15 : decode cX2_isAllowed 15 = .ok (.aload_n 1, 1) := by decide +kernel
theorem dX2_isAllowed_16 : decode cX2_isAllowed 16 = .ok (.iload_n 2, 1) := by decide +kernel
theorem dX2_isAllowed_17 : decode cX2_isAllowed 17 = .ok (.iaload, 1) := by decide +kernel
theorem dX2_isAllowed_18 : decode cX2_isAllowed 18 = .ok (.invokevirtual 58, 3) := by decide +kernel
theorem dX2_isAllowed_21 : decode cX2_isAllowed 21 = .ok (.ifCond .ne 5, 3) := by decide +kernel
theorem dX2_isAllowed_24 : decode cX2_isAllowed 24 = .ok (.iconst 0, 1) := by decide +kernel
theorem dX2_isAllowed_25 : decode cX2_isAllowed 25 = .ok (.ireturn, 1) := by decide +kernel
theorem dX2_isAllowed_26 : decode cX2_isAllowed 26 = .ok (.iinc 2 1, 3) := by decide +kernel
theorem dX2_isAllowed_29 : decode cX2_isAllowed 29 = .ok (.goto (-27), 3) := by decide +kernel
theorem dX2_isAllowed_32 : decode cX2_isAllowed 32 = .ok (.iconst 0, 1) := by decide +kernel
theorem dX2_isAllowed_33 : decode cX2_isAllowed 33 = .ok (.istore_n 2, 1) := by decide +kernel
theorem dX2_isAllowed_34 : decode cX2_isAllowed 34 = .ok (.iload_n 2, 1) := by decide +kernel
theorem dX2_isAllowed_35 : decode cX2_isAllowed 35 = .ok (.aload_n 0, 1) := by decide +kernel
theorem dX2_isAllowed_36 : decode cX2_isAllowed 36 = .ok (.getfield 32, 3) := by decide +kernel
theorem dX2_isAllowed_39 : decode cX2_isAllowed 39 = .ok (.getfield 62, 3) := by decide +kernel
theorem dX2_isAllowed_42 : decode cX2_isAllowed 42 = .ok (.if_icmp .ge 40, 3) := by decide +kernel
theorem dX2_isAllowed_45 : decode cX2_isAllowed 45 = .ok (.aload_n 0, 1) := by decide +kernel
theorem dX2_isAllowed_46 : decode cX2_isAllowed 46 = .ok (.aload_n 1, 1) := by decide +kernel
theorem dX2_isAllowed_47 : decode cX2_isAllowed 47 = .ok (.aload_n 0, 1) := by decide +kernel
theorem dX2_isAllowed_48 : decode cX2_isAllowed 48 = .ok (.getfield 32, 3) := by decide +kernel
theorem dX2_isAllowed_51 : decode cX2_isAllowed 51 = .ok (.getfield 65, 3) := by decide +kernel
theorem dX2_isAllowed_54 : decode cX2_isAllowed 54 = .ok (.iload_n 2, 1) := by decide +kernel
theorem dX2_isAllowed_55 : decode cX2_isAllowed 55 = .ok (.iaload, 1) := by decide +kernel
theorem dX2_isAllowed_56 : decode cX2_isAllowed 56 = .ok (.iaload, 1) := by decide +kernel
theorem dX2_isAllowed_57 : decode cX2_isAllowed 57 = .ok (.aload_n 1, 1) := by decide +kernel
theorem dX2_isAllowed_58 : decode cX2_isAllowed 58 = .ok (.aload_n 0, 1) := by decide +kernel
theorem dX2_isAllowed_59 : decode cX2_isAllowed 59 = .ok (.getfield 32, 3) := by decide +kernel
theorem dX2_isAllowed_62 : decode cX2_isAllowed 62 = .ok (.getfield 68, 3) := by decide +kernel
theorem dX2_isAllowed_65 : decode cX2_isAllowed 65 = .ok (.iload_n 2, 1) := by decide +kernel
theorem dX2_isAllowed_66 : decode cX2_isAllowed 66 = .ok (.iaload, 1) := by decide +kernel
theorem dX2_isAllowed_67 : decode cX2_isAllowed 67 = .ok (.iaload, 1) := by decide +kernel
theorem dX2_isAllowed_68 : decode cX2_isAllowed 68 = .ok (.invokevirtual 71, 3) := by decide +kernel
theorem dX2_isAllowed_71 : decode cX2_isAllowed 71 = .ok (.ifCond .ne 5, 3) := by decide +kernel
theorem dX2_isAllowed_74 : decode cX2_isAllowed 74 = .ok (.iconst 0, 1) := by decide +kernel
theorem dX2_isAllowed_75 : decode cX2_isAllowed 75 = .ok (.ireturn, 1) := by decide +kernel
theorem dX2_isAllowed_76 : decode cX2_isAllowed 76 = .ok (.iinc 2 1, 3) := by decide +kernel
theorem dX2_isAllowed_79 : decode cX2_isAllowed 79 = .ok (.goto (-45), 3) := by decide +kernel
theorem dX2_isAllowed_82 : decode cX2_isAllowed 82 = .ok (.iconst 1, 1) := by decide +kernel
theorem dX2_isAllowed_83 : decode cX2_isAllowed 83 = .ok (.ireturn, 1) := by decide +kernel
def rX2_isAllowed : Room := { frames := 2, cells := 0, slots := 0, locals := 43 }
theorem yk_X2_isAllowed : YK yX2_isAllowed cX2_isAllowed 3 (some .boolean) 1 := ⟨xim_X2_isAllowed, xse_X2_isAllowed, xin_X2, xco_X2_isAllowed, by decide +kernel⟩
set_option maxRecDepth 4000 in
theorem c_X2_isAllowed {l : Launch} {D : va_G} {t : Nat → ClassId} {a : Nat → Nat} {I : Nat → Int32} {F : Nat → Nat → Int32} {L : Nat → Int64} {K : Cfg} (hK : CFG K I F) (hW : WFK K) (j : Nat) (h6 : 6 ≤ j) (hj : j < 13) {f : Nat → Nat} (hS : RA (kn K) (F j) f) : CT l D t yX2_isAllowed cX2_isAllowed 3 (some .boolean) rX2_isAllowed 0 0 [.ref (a 2), .ref (a (8 + j))] (WX a t I F L) (RP (.int (nI (bn (alP K f)))) (WX a t I F L)) := by
  refine CT.of (by decide +kernel) (by simp [lg_sl, Value.category]) (fun X C hR => ?_)
  refine xlocals (lv' := [(0, .ref (a 2)), (1, .ref (a (8 + j)))]) rfl ?_
  have fn24 := hW.n24; have fm60 := hW.m60; have fk2 := hW.k2; have fu1 := hW.u1; have fu9 := hW.u9; have fv1 := hW.v1; have fv9 := hW.v9
  refine xiconst (v := nI 0) C dX2_isAllowed_0 (by decide) ?_
  refine xistore_n (lv' := [(2, .int (nI 0)), (0, .ref (a 2)), (1, .ref (a (8 + j)))]) C dX2_isAllowed_1 (by decide) rfl ?_
  have LP2 : ∀ (fu2 : Nat) (i : Nat) (hi : i ≤ kn K) (ha : ∀ p, p < i → pwN K p (f p) ≠ 0), kn K - i < fu2 → XW X 0 0 (WX a t I F L) [(0, .ref (a 2)), (1, .ref (a (8 + j))), (2, .int (nI i))] 2 [] := by
    intro fu2
    induction fu2 with
    | zero => intro i hi ha hm2; exact absurd hm2 (Nat.not_lt_zero _)
    | succ fu2 ih2 =>
      intro i hi ha hm2
      refine xiload_n C 2 rfl dX2_isAllowed_2 ?_
      refine xaload_n C 0 rfl dX2_isAllowed_3 ?_
      refine gX2_32 C dX2_isAllowed_4 ?_
      refine gX2_55K C hK dX2_isAllowed_7 ?_
      refine xicmp_geN C 32 dX2_isAllowed_10 (by decide) (by omega) (by omega) (fun h10 => ?_) (fun h10 => ?_)
      ·
        refine xiconst (v := nI 0) C dX2_isAllowed_32 (by decide) ?_
        refine xistore_n (lv' := [(2, .int (nI 0)), (0, .ref (a 2)), (1, .ref (a (8 + j)))]) C dX2_isAllowed_33 (by decide) rfl ?_
        have LP34 : ∀ (fu34 : Nat) (k : Nat) (hk : k ≤ km K) (hb : ∀ q, q < k → lwN K (f (kla K q)) (f (klb K q)) ≠ 0), km K - k < fu34 → XW X 0 0 (WX a t I F L) [(0, .ref (a 2)), (1, .ref (a (8 + j))), (2, .int (nI k))] 34 [] := by
          intro fu34
          induction fu34 with
          | zero => intro k hk hb hm34; exact absurd hm34 (Nat.not_lt_zero _)
          | succ fu34 ih34 =>
            intro k hk hb hm34
            refine xiload_n C 2 rfl dX2_isAllowed_34 ?_
            refine xaload_n C 0 rfl dX2_isAllowed_35 ?_
            refine gX2_32 C dX2_isAllowed_36 ?_
            refine gX2_62K C hK dX2_isAllowed_39 ?_
            refine xicmp_geN C 82 dX2_isAllowed_42 (by decide) (by omega) (by omega) (fun h42 => ?_) (fun h42 => ?_)
            ·
              refine xiconst (v := nI 1) C dX2_isAllowed_82 (by decide) ?_
              exact xret C hR (by rfl) dX2_isAllowed_83 (RPn ((bn_t ⟨fun p h => ha p (by omega), fun q h => hb q (by omega)⟩).symm))
            ·
              refine xaload_n C 0 rfl dX2_isAllowed_45 ?_
              refine xaload_n C 1 rfl dX2_isAllowed_46 ?_
              refine xaload_n C 0 rfl dX2_isAllowed_47 ?_
              refine gX2_32 C dX2_isAllowed_48 ?_
              refine gX2_65 C dX2_isAllowed_51 ?_
              refine xiload_n C 2 rfl dX2_isAllowed_54 ?_
              refine xa_la C hK hW k (by omega) dX2_isAllowed_55 ?_
              have fb55 := (hW.la (by omega))
              refine xa_st C hW j h6 hj hS (kla K k) (by omega) dX2_isAllowed_56 ?_
              have fb56 := (hS (kla K k) (by omega)).2
              refine xaload_n C 1 rfl dX2_isAllowed_57 ?_
              refine xaload_n C 0 rfl dX2_isAllowed_58 ?_
              refine gX2_32 C dX2_isAllowed_59 ?_
              refine gX2_68 C dX2_isAllowed_62 ?_
              refine xiload_n C 2 rfl dX2_isAllowed_65 ?_
              refine xa_lb C hK hW k (by omega) dX2_isAllowed_66 ?_
              have fb66 := (hW.lb (by omega))
              refine xa_st C hW j h6 hj hS (klb K k) (by omega) dX2_isAllowed_67 ?_
              have fb67 := (hS (klb K k) (by omega)).2
              refine xcVR C (c_X2_linkWeight hK hW (f (kla K k)) (f (klb K k)) (by omega) (by omega)) yk_X2_linkWeight 2 rfl rfl xml_X2_71 ⟨⟨Nat.le_of_ble_eq_true rfl, Nat.le_of_ble_eq_true rfl⟩, ⟨rfl, rfl⟩, ⟨Nat.zero_le _, Nat.zero_le _⟩⟩ rfl (Nat.le_of_ble_eq_true rfl) dX2_isAllowed_68 ?_
              have fl68 := lwN_le hW (f (kla K k)) (f (klb K k))
              refine xif_neN C 76 dX2_isAllowed_71 (by decide) (by omega) (fun h71 => ?_) (fun h71 => ?_)
              ·
                refine xiincN (lv' := [(2, .int (nI (k + 1))), (0, .ref (a 2)), (1, .ref (a (8 + j)))]) C 2 rfl dX2_isAllowed_76 (by decide) rfl ?_
                refine xgoto C 34 dX2_isAllowed_79 (by decide) ?_
                refine xsub [1, 2, 0] rfl ?_
                exact ih34 (k + 1) (by omega) (lt_s hb h71) (by omega)
              ·
                refine xiconst (v := nI 0) C dX2_isAllowed_74 (by decide) ?_
                exact xret C hR (by rfl) dX2_isAllowed_75 (RPn ((bn_f (fun q => q.2 k (by omega) h71)).symm))
        refine xsub [1, 2, 0] rfl ?_
        exact LP34 _ 0 (Nat.zero_le _) (fun p h => absurd h (Nat.not_lt_zero _)) (Nat.lt_succ_self _)
      ·
        refine xaload_n C 0 rfl dX2_isAllowed_13 ?_
        refine xiload_n C 2 rfl dX2_isAllowed_14 ?_
        refine xaload_n C 1 rfl dX2_isAllowed_15 ?_
        refine xiload_n C 2 rfl dX2_isAllowed_16 ?_
        refine xa_st C hW j h6 hj hS i (by omega) dX2_isAllowed_17 ?_
        have fb17 := (hS i (by omega)).2
        refine xcVR C (c_X2_placeWeight hK hW i (by omega) (f i) (by omega)) yk_X2_placeWeight 2 rfl rfl xml_X2_58 ⟨⟨Nat.le_of_ble_eq_true rfl, Nat.le_of_ble_eq_true rfl⟩, ⟨rfl, rfl⟩, ⟨Nat.zero_le _, Nat.zero_le _⟩⟩ rfl (Nat.le_of_ble_eq_true rfl) dX2_isAllowed_18 ?_
        have fp18 := pwN_le hW i (f i)
        refine xif_neN C 26 dX2_isAllowed_21 (by decide) (by omega) (fun h21 => ?_) (fun h21 => ?_)
        ·
          refine xiincN (lv' := [(2, .int (nI (i + 1))), (0, .ref (a 2)), (1, .ref (a (8 + j)))]) C 2 rfl dX2_isAllowed_26 (by decide) rfl ?_
          refine xgoto C 2 dX2_isAllowed_29 (by decide) ?_
          refine xsub [1, 2, 0] rfl ?_
          exact ih2 (i + 1) (by omega) (lt_s ha h21) (by omega)
        ·
          refine xiconst (v := nI 0) C dX2_isAllowed_24 (by decide) ?_
          exact xret C hR (by rfl) dX2_isAllowed_25 (RPn ((bn_f (fun q => q.1 i (by omega) h21)).symm))
  refine xsub [1, 2, 0] rfl ?_
  exact LP2 _ 0 (Nat.zero_le _) (fun p h => absurd h (Nat.not_lt_zero _)) (Nat.lt_succ_self _)
theorem dX2_weightOf_0 : decode cX2_weightOf 0 = .ok (.lconst 1, 1) := by decide +kernel
theorem dX2_weightOf_1 : decode cX2_weightOf 1 = .ok (.lstore_n 2, 1) := by decide +kernel
theorem dX2_weightOf_2 : decode cX2_weightOf 2 = .ok (.iconst 0, 1) := by decide +kernel
theorem dX2_weightOf_3 : decode cX2_weightOf 3 = .ok (.istore 4, 2) := by decide +kernel
theorem dX2_weightOf_5 : decode cX2_weightOf 5 = .ok (.iload 4, 2) := by decide +kernel
theorem dX2_weightOf_7 : decode cX2_weightOf 7 = .ok (.aload_n 0, 1) := by decide +kernel
theorem dX2_weightOf_8 : decode cX2_weightOf 8 = .ok (.getfield 32, 3) := by decide +kernel
theorem dX2_weightOf_11 : decode cX2_weightOf 11 = .ok (.getfield 55, 3) := by decide +kernel
theorem dX2_weightOf_14 : decode cX2_weightOf 14 = .ok (.if_icmp .ge 23, 3) := by decide +kernel
theorem dX2_weightOf_17 : decode cX2_weightOf 17 = .ok (.lload_n 2, 1) := by decide +kernel
theorem dX2_weightOf_18 : decode cX2_weightOf 18 = .ok (.aload_n 0, 1) := by decide +kernel
theorem dX2_weightOf_19 : decode cX2_weightOf 19 = .ok (.iload 4, 2) := by decide +kernel
theorem dX2_weightOf_21 : decode cX2_weightOf 21 = .ok (.aload_n 1, 1) := by decide +kernel
theorem dX2_weightOf_22 : decode cX2_weightOf 22 = .ok (.iload 4, 2) := by decide +kernel
theorem dX2_weightOf_24 : decode cX2_weightOf 24 = .ok (.iaload, 1) := by decide +kernel
theorem dX2_weightOf_25 : decode cX2_weightOf 25 = .ok (.invokevirtual 58, 3) := by decide +kernel
theorem dX2_weightOf_28 : decode cX2_weightOf 28 = .ok (.i2l, 1) := by decide +kernel
theorem dX2_weightOf_29 : decode cX2_weightOf 29 = .ok (.lmul, 1) := by decide +kernel
theorem dX2_weightOf_30 : decode cX2_weightOf 30 = .ok (.lstore_n 2, 1) := by decide +kernel
theorem dX2_weightOf_31 : decode cX2_weightOf 31 = .ok (.iinc 4 1, 3) := by decide +kernel
theorem dX2_weightOf_34 : decode cX2_weightOf 34 = .ok (.goto (-29), 3) := by decide +kernel
theorem dX2_weightOf_37 : decode cX2_weightOf 37 = .ok (.iconst 0, 1) := by decide +kernel
theorem dX2_weightOf_38 : decode cX2_weightOf 38 = .ok (.istore 4, 2) := by decide +kernel
theorem dX2_weightOf_40 : decode cX2_weightOf 40 = .ok (.iload 4, 2) := by decide +kernel
theorem dX2_weightOf_42 : decode cX2_weightOf 42 = .ok (.aload_n 0, 1) := by decide +kernel
theorem dX2_weightOf_43 : decode cX2_weightOf 43 = .ok (.getfield 32, 3) := by decide +kernel
theorem dX2_weightOf_46 : decode cX2_weightOf 46 = .ok (.getfield 62, 3) := by decide +kernel
theorem dX2_weightOf_49 : decode cX2_weightOf 49 = .ok (.if_icmp .ge 41, 3) := by decide +kernel
theorem dX2_weightOf_52 : decode cX2_weightOf 52 = .ok (.lload_n 2, 1) := by decide +kernel
theorem dX2_weightOf_53 : decode cX2_weightOf 53 = .ok (.aload_n 0, 1) := by decide +kernel
theorem dX2_weightOf_54 : decode cX2_weightOf 54 = .ok (.aload_n 1, 1) := by decide +kernel
theorem dX2_weightOf_55 : decode cX2_weightOf 55 = .ok (.aload_n 0, 1) := by decide +kernel
theorem dX2_weightOf_56 : decode cX2_weightOf 56 = .ok (.getfield 32, 3) := by decide +kernel
theorem dX2_weightOf_59 : decode cX2_weightOf 59 = .ok (.getfield 65, 3) := by decide +kernel
theorem dX2_weightOf_62 : decode cX2_weightOf 62 = .ok (.iload 4, 2) := by decide +kernel
theorem dX2_weightOf_64 : decode cX2_weightOf 64 = .ok (.iaload, 1) := by decide +kernel
theorem dX2_weightOf_65 : decode cX2_weightOf 65 = .ok (.iaload, 1) := by decide +kernel
theorem dX2_weightOf_66 : decode cX2_weightOf 66 = .ok (.aload_n 1, 1) := by decide +kernel
theorem dX2_weightOf_67 : decode cX2_weightOf 67 = .ok (.aload_n 0, 1) := by decide +kernel
theorem dX2_weightOf_68 : decode cX2_weightOf 68 = .ok (.getfield 32, 3) := by decide +kernel
theorem dX2_weightOf_71 : decode cX2_weightOf 71 = .ok (.getfield 68, 3) := by decide +kernel
theorem dX2_weightOf_74 : decode cX2_weightOf 74 = .ok (.iload 4, 2) := by decide +kernel
theorem dX2_weightOf_76 : decode cX2_weightOf 76 = .ok (.iaload, 1) := by decide +kernel
theorem dX2_weightOf_77 : decode cX2_weightOf 77 = .ok (.iaload, 1) := by decide +kernel
theorem dX2_weightOf_78 : decode cX2_weightOf 78 = .ok (.invokevirtual 71, 3) := by decide +kernel
theorem dX2_weightOf_81 : decode cX2_weightOf 81 = .ok (.i2l, 1) := by decide +kernel
theorem dX2_weightOf_82 : decode cX2_weightOf 82 = .ok (.lmul, 1) := by decide +kernel
theorem dX2_weightOf_83 : decode cX2_weightOf 83 = .ok (.lstore_n 2, 1) := by decide +kernel
theorem dX2_weightOf_84 : decode cX2_weightOf 84 = .ok (.iinc 4 1, 3) := by decide +kernel
theorem dX2_weightOf_87 : decode cX2_weightOf 87 = .ok (.goto (-47), 3) := by decide +kernel
theorem dX2_weightOf_90 : decode cX2_weightOf 90 = .ok (.lload_n 2, 1) := by decide +kernel
theorem dX2_weightOf_91 : decode cX2_weightOf 91 = .ok (.lreturn, 1) := by decide +kernel
def rX2_weightOf : Room := { frames := 2, cells := 0, slots := 0, locals := 43 }
theorem yk_X2_weightOf : YK yX2_weightOf cX2_weightOf 5 (some .long) 1 := ⟨xim_X2_weightOf, xse_X2_weightOf, xin_X2, xco_X2_weightOf, by decide +kernel⟩
set_option maxRecDepth 4000 in
theorem c_X2_weightOf {l : Launch} {D : va_G} {t : Nat → ClassId} {a : Nat → Nat} {I : Nat → Int32} {F : Nat → Nat → Int32} {L : Nat → Int64} {K : Cfg} (hK : CFG K I F) (hW : WFK K) (j : Nat) (h6 : 6 ≤ j) (hj : j < 13) {f : Nat → Nat} (hS : RA (kn K) (F j) f) : CT l D t yX2_weightOf cX2_weightOf 5 (some .long) rX2_weightOf 0 0 [.ref (a 2), .ref (a (8 + j))] (WX a t I F L) (RP (.long (lN (woN K f))) (WX a t I F L)) := by
  refine CT.of (by decide +kernel) (by simp [lg_sl, Value.category]) (fun X C hR => ?_)
  refine xlocals (lv' := [(0, .ref (a 2)), (1, .ref (a (8 + j)))]) rfl ?_
  have fn24 := hW.n24; have fm60 := hW.m60; have fk2 := hW.k2; have fu1 := hW.u1; have fu9 := hW.u9; have fv1 := hW.v1; have fv9 := hW.v9
  refine xlconst (v := lN 1) C dX2_weightOf_0 (by decide) ?_
  refine xlstore_n (lv' := [(2, .long (lN 1)), (0, .ref (a 2)), (1, .ref (a (8 + j)))]) C dX2_weightOf_1 (by decide) rfl ?_
  refine xiconst (v := nI 0) C dX2_weightOf_2 (by decide) ?_
  refine xistore (lv' := [(4, .int (nI 0)), (2, .long (lN 1)), (0, .ref (a 2)), (1, .ref (a (8 + j)))]) C dX2_weightOf_3 (by decide) rfl ?_
  have LP5 : ∀ (fu5 : Nat) (i : Nat) (hi : i ≤ kn K), kn K - i < fu5 → XW X 0 0 (WX a t I F L) [(0, .ref (a 2)), (1, .ref (a (8 + j))), (2, .long (lN (pr (fun p => pwN K p (f p)) i))), (4, .int (nI i))] 5 [] := by
    intro fu5
    induction fu5 with
    | zero => intro i hi hm5; exact absurd hm5 (Nat.not_lt_zero _)
    | succ fu5 ih5 =>
      intro i hi hm5
      refine xiload C 3 rfl dX2_weightOf_5 ?_
      refine xaload_n C 0 rfl dX2_weightOf_7 ?_
      refine gX2_32 C dX2_weightOf_8 ?_
      refine gX2_55K C hK dX2_weightOf_11 ?_
      refine xicmp_geN C 37 dX2_weightOf_14 (by decide) (by omega) (by omega) (fun h14 => ?_) (fun h14 => ?_)
      ·
        refine xiconst (v := nI 0) C dX2_weightOf_37 (by decide) ?_
        refine xistore (lv' := [(4, .int (nI 0)), (0, .ref (a 2)), (1, .ref (a (8 + j))), (2, .long (lN (pr (fun p => pwN K p (f p)) i)))]) C dX2_weightOf_38 (by decide) rfl ?_
        refine xlocals (lv' := [(4, .int (nI 0)), (0, .ref (a 2)), (1, .ref (a (8 + j))), (2, .long (lN (pr (fun p => pwN K p (f p)) (kn K) * pr (fun k => lwN K (f (kla K k)) (f (klb K k))) 0)))]) (by rw [show pr (fun k => lwN K (f (kla K k)) (f (klb K k))) 0 = 1 from rfl, Nat.mul_one, show i = kn K by omega]) ?_
        have LP40 : ∀ (fu40 : Nat) (k : Nat) (hk : k ≤ km K), km K - k < fu40 → XW X 0 0 (WX a t I F L) [(0, .ref (a 2)), (1, .ref (a (8 + j))), (2, .long (lN (pr (fun p => pwN K p (f p)) (kn K) * pr (fun k => lwN K (f (kla K k)) (f (klb K k))) k))), (4, .int (nI k))] 40 [] := by
          intro fu40
          induction fu40 with
          | zero => intro k hk hm40; exact absurd hm40 (Nat.not_lt_zero _)
          | succ fu40 ih40 =>
            intro k hk hm40
            refine xiload C 3 rfl dX2_weightOf_40 ?_
            refine xaload_n C 0 rfl dX2_weightOf_42 ?_
            refine gX2_32 C dX2_weightOf_43 ?_
            refine gX2_62K C hK dX2_weightOf_46 ?_
            refine xicmp_geN C 90 dX2_weightOf_49 (by decide) (by omega) (by omega) (fun h49 => ?_) (fun h49 => ?_)
            ·
              refine xlload_n C 2 rfl dX2_weightOf_90 ?_
              exact xlret C hR dX2_weightOf_91 (RPl (by (have e : k = km K := (by omega)); subst e; rfl))
            ·
              refine xlload_n C 2 rfl dX2_weightOf_52 ?_
              refine xaload_n C 0 rfl dX2_weightOf_53 ?_
              refine xaload_n C 1 rfl dX2_weightOf_54 ?_
              refine xaload_n C 0 rfl dX2_weightOf_55 ?_
              refine gX2_32 C dX2_weightOf_56 ?_
              refine gX2_65 C dX2_weightOf_59 ?_
              refine xiload C 3 rfl dX2_weightOf_62 ?_
              refine xa_la C hK hW k (by omega) dX2_weightOf_64 ?_
              have fb64 := (hW.la (by omega))
              refine xa_st C hW j h6 hj hS (kla K k) (by omega) dX2_weightOf_65 ?_
              have fb65 := (hS (kla K k) (by omega)).2
              refine xaload_n C 1 rfl dX2_weightOf_66 ?_
              refine xaload_n C 0 rfl dX2_weightOf_67 ?_
              refine gX2_32 C dX2_weightOf_68 ?_
              refine gX2_68 C dX2_weightOf_71 ?_
              refine xiload C 3 rfl dX2_weightOf_74 ?_
              refine xa_lb C hK hW k (by omega) dX2_weightOf_76 ?_
              have fb76 := (hW.lb (by omega))
              refine xa_st C hW j h6 hj hS (klb K k) (by omega) dX2_weightOf_77 ?_
              have fb77 := (hS (klb K k) (by omega)).2
              refine xcVR C (c_X2_linkWeight hK hW (f (kla K k)) (f (klb K k)) (by omega) (by omega)) yk_X2_linkWeight 2 rfl rfl xml_X2_71 ⟨⟨Nat.le_of_ble_eq_true rfl, Nat.le_of_ble_eq_true rfl⟩, ⟨rfl, rfl⟩, ⟨Nat.zero_le _, Nat.zero_le _⟩⟩ rfl (Nat.le_of_ble_eq_true rfl) dX2_weightOf_78 ?_
              have fl78 := lwN_le hW (f (kla K k)) (f (klb K k))
              refine xi2lN C (by omega) dX2_weightOf_81 ?_
              refine xlmulN C dX2_weightOf_82 ?_
              refine xtopl (y := lN (pr (fun p => pwN K p (f p)) (kn K) * pr (fun k => lwN K (f (kla K k)) (f (klb K k))) (k + 1))) (by rw [Nat.mul_assoc]; rfl) ?_
              refine xlstore_n (lv' := [(2, .long (lN (pr (fun p => pwN K p (f p)) (kn K) * pr (fun k => lwN K (f (kla K k)) (f (klb K k))) (k + 1)))), (0, .ref (a 2)), (1, .ref (a (8 + j))), (4, .int (nI k))]) C dX2_weightOf_83 (by decide) rfl ?_
              refine xiincN (lv' := [(4, .int (nI (k + 1))), (2, .long (lN (pr (fun p => pwN K p (f p)) (kn K) * pr (fun k => lwN K (f (kla K k)) (f (klb K k))) (k + 1)))), (0, .ref (a 2)), (1, .ref (a (8 + j)))]) C 3 rfl dX2_weightOf_84 (by decide) rfl ?_
              refine xgoto C 40 dX2_weightOf_87 (by decide) ?_
              refine xsub [2, 3, 1, 0] rfl ?_
              exact ih40 (k + 1) (by omega) (by omega)
        refine xsub [1, 2, 3, 0] rfl ?_
        exact LP40 _ 0 (Nat.zero_le _) (Nat.lt_succ_self _)
      ·
        refine xlload_n C 2 rfl dX2_weightOf_17 ?_
        refine xaload_n C 0 rfl dX2_weightOf_18 ?_
        refine xiload C 3 rfl dX2_weightOf_19 ?_
        refine xaload_n C 1 rfl dX2_weightOf_21 ?_
        refine xiload C 3 rfl dX2_weightOf_22 ?_
        refine xa_st C hW j h6 hj hS i (by omega) dX2_weightOf_24 ?_
        have fb24 := (hS i (by omega)).2
        refine xcVR C (c_X2_placeWeight hK hW i (by omega) (f i) (by omega)) yk_X2_placeWeight 2 rfl rfl xml_X2_58 ⟨⟨Nat.le_of_ble_eq_true rfl, Nat.le_of_ble_eq_true rfl⟩, ⟨rfl, rfl⟩, ⟨Nat.zero_le _, Nat.zero_le _⟩⟩ rfl (Nat.le_of_ble_eq_true rfl) dX2_weightOf_25 ?_
        have fp25 := pwN_le hW i (f i)
        refine xi2lN C (by omega) dX2_weightOf_28 ?_
        refine xlmulN C dX2_weightOf_29 ?_
        refine xtopl (y := lN (pr (fun p => pwN K p (f p)) (i + 1))) (rfl) ?_
        refine xlstore_n (lv' := [(2, .long (lN (pr (fun p => pwN K p (f p)) (i + 1)))), (0, .ref (a 2)), (1, .ref (a (8 + j))), (4, .int (nI i))]) C dX2_weightOf_30 (by decide) rfl ?_
        refine xiincN (lv' := [(4, .int (nI (i + 1))), (2, .long (lN (pr (fun p => pwN K p (f p)) (i + 1)))), (0, .ref (a 2)), (1, .ref (a (8 + j)))]) C 3 rfl dX2_weightOf_31 (by decide) rfl ?_
        refine xgoto C 5 dX2_weightOf_34 (by decide) ?_
        refine xsub [2, 3, 1, 0] rfl ?_
        exact ih5 (i + 1) (by omega) (by omega)
  refine xsub [2, 3, 1, 0] rfl ?_
  exact LP5 _ 0 (Nat.zero_le _) (Nat.lt_succ_self _)
theorem dX2_weightAround_0 : decode cX2_weightAround 0 = .ok (.aload_n 0, 1) := by decide +kernel
theorem dX2_weightAround_1 : decode cX2_weightAround 1 = .ok (.iload_n 2, 1) := by decide +kernel
theorem dX2_weightAround_2 : decode cX2_weightAround 2 = .ok (.iload_n 3, 1) := by decide +kernel
theorem dX2_weightAround_3 : decode cX2_weightAround 3 = .ok (.invokevirtual 58, 3) := by decide +kernel
theorem dX2_weightAround_6 : decode cX2_weightAround 6 = .ok (.i2l, 1) := by decide +kernel
theorem dX2_weightAround_7 : decode cX2_weightAround 7 = .ok (.lstore 4, 2) := by decide +kernel
theorem dX2_weightAround_9 : decode cX2_weightAround 9 = .ok (.aload_n 0, 1) := by decide +kernel
theorem dX2_weightAround_10 : decode cX2_weightAround 10 = .ok (.getfield 32, 3) := by decide +kernel
theorem dX2_weightAround_13 : decode cX2_weightAround 13 = .ok (.getfield 74, 3) := by decide +kernel
theorem dX2_weightAround_16 : decode cX2_weightAround 16 = .ok (.iload_n 2, 1) := by decide +kernel
theorem dX2_weightAround_17 : decode cX2_weightAround 17 = .ok (.aaload, 1) := by decide +kernel
theorem dX2_weightAround_18 : decode cX2_weightAround 18 = .ok (.astore 6, 2) := by decide +kernel
theorem dX2_weightAround_20 : decode cX2_weightAround 20 = .ok (.iconst 0, 1) := by decide +kernel
theorem dX2_weightAround_21 : decode cX2_weightAround 21 = .ok (.istore 7, 2) := by decide +kernel
theorem dX2_weightAround_23 : decode cX2_weightAround 23 = .ok (.iload 7, 2) := by decide +kernel
theorem dX2_weightAround_25 : decode cX2_weightAround 25 = .ok (.aload_n 0, 1) := by decide +kernel
theorem dX2_weightAround_26 : decode cX2_weightAround 26 = .ok (.getfield 32, 3) := by decide +kernel
theorem dX2_weightAround_29 : decode cX2_weightAround 29 = .ok (.getfield 78, 3) := by decide +kernel
theorem dX2_weightAround_32 : decode cX2_weightAround 32 = .ok (.iload_n 2, 1) := by decide +kernel
theorem dX2_weightAround_33 : decode cX2_weightAround 33 = .ok (.iaload, 1) := by decide +kernel
theorem dX2_weightAround_34 : decode cX2_weightAround 34 = .ok (.if_icmp .ge 27, 3) := by decide +kernel
theorem dX2_weightAround_37 : decode cX2_weightAround 37 = .ok (.lload 4, 2) := by decide +kernel
theorem dX2_weightAround_39 : decode cX2_weightAround 39 = .ok (.aload_n 0, 1) := by decide +kernel
theorem dX2_weightAround_40 : decode cX2_weightAround 40 = .ok (.iload_n 3, 1) := by decide +kernel
theorem dX2_weightAround_41 : decode cX2_weightAround 41 = .ok (.aload_n 1, 1) := by decide +kernel
theorem dX2_weightAround_42 : decode cX2_weightAround 42 = .ok (.aload 6, 2) := by decide +kernel
theorem dX2_weightAround_44 : decode cX2_weightAround 44 = .ok (.iload 7, 2) := by decide +kernel
theorem dX2_weightAround_46 : decode cX2_weightAround 46 = .ok (.iaload, 1) := by decide +kernel
theorem dX2_weightAround_47 : decode cX2_weightAround 47 = .ok (.iaload, 1) := by decide +kernel
theorem dX2_weightAround_48 : decode cX2_weightAround 48 = .ok (.invokevirtual 71, 3) := by decide +kernel
theorem dX2_weightAround_51 : decode cX2_weightAround 51 = .ok (.i2l, 1) := by decide +kernel
theorem dX2_weightAround_52 : decode cX2_weightAround 52 = .ok (.lmul, 1) := by decide +kernel
theorem dX2_weightAround_53 : decode cX2_weightAround 53 = .ok (.lstore 4, 2) := by decide +kernel
theorem dX2_weightAround_55 : decode cX2_weightAround 55 = .ok (.iinc 7 1, 3) := by decide +kernel
theorem dX2_weightAround_58 : decode cX2_weightAround 58 = .ok (.goto (-35), 3) := by decide +kernel
theorem dX2_weightAround_61 : decode cX2_weightAround 61 = .ok (.lload 4, 2) := by decide +kernel
theorem dX2_weightAround_63 : decode cX2_weightAround 63 = .ok (.lreturn, 1) := by decide +kernel
def rX2_weightAround : Room := { frames := 2, cells := 0, slots := 0, locals := 43 }
theorem yk_X2_weightAround : YK yX2_weightAround cX2_weightAround 8 (some .long) 3 := ⟨xim_X2_weightAround, xse_X2_weightAround, xin_X2, xco_X2_weightAround, by decide +kernel⟩
set_option maxRecDepth 4000 in
theorem c_X2_weightAround {l : Launch} {D : va_G} {t : Nat → ClassId} {a : Nat → Nat} {I : Nat → Int32} {F : Nat → Nat → Int32} {L : Nat → Int64} {K : Cfg} (hK : CFG K I F) (hW : WFK K) (j : Nat) (h6 : 6 ≤ j) (hj : j < 13) {f : Nat → Nat} (hS : RA (kn K) (F j) f) (p : Nat) (hp : p < kn K) (x : Nat) (hx : x ≤ 5) : CT l D t yX2_weightAround cX2_weightAround 8 (some .long) rX2_weightAround 0 0 [.ref (a 2), .ref (a (8 + j)), .int (nI p), .int (nI x)] (WX a t I F L) (RP (.long (lN (waN K f p x))) (WX a t I F L)) := by
  refine CT.of (by decide +kernel) (by simp [lg_sl, Value.category]) (fun X C hR => ?_)
  refine xlocals (lv' := [(0, .ref (a 2)), (1, .ref (a (8 + j))), (2, .int (nI p)), (3, .int (nI x))]) rfl ?_
  have fn24 := hW.n24; have fm60 := hW.m60; have fk2 := hW.k2; have fu1 := hW.u1; have fu9 := hW.u9; have fv1 := hW.v1; have fv9 := hW.v9
  refine xaload_n C 0 rfl dX2_weightAround_0 ?_
  refine xiload_n C 2 rfl dX2_weightAround_1 ?_
  refine xiload_n C 3 rfl dX2_weightAround_2 ?_
  refine xcVR C (c_X2_placeWeight hK hW p (by omega) x (by omega)) yk_X2_placeWeight 2 rfl rfl xml_X2_58 ⟨⟨Nat.le_of_ble_eq_true rfl, Nat.le_of_ble_eq_true rfl⟩, ⟨rfl, rfl⟩, ⟨Nat.zero_le _, Nat.zero_le _⟩⟩ rfl (Nat.le_of_ble_eq_true rfl) dX2_weightAround_3 ?_
  have fp3 := pwN_le hW p x
  refine xi2lN C (by omega) dX2_weightAround_6 ?_
  refine xlstore (lv' := [(4, .long (lN (pwN K p x))), (0, .ref (a 2)), (1, .ref (a (8 + j))), (2, .int (nI p)), (3, .int (nI x))]) C dX2_weightAround_7 (by decide) rfl ?_
  refine xaload_n C 1 rfl dX2_weightAround_9 ?_
  refine gX2_32 C dX2_weightAround_10 ?_
  refine gX2_74 C dX2_weightAround_13 ?_
  refine xiload_n C 3 rfl dX2_weightAround_16 ?_
  refine xa_out C p (by omega) dX2_weightAround_17 ?_
  refine xastore (lv' := [(6, .ref (a (8 + (13 + p)))), (4, .long (lN (pwN K p x))), (0, .ref (a 2)), (1, .ref (a (8 + j))), (2, .int (nI p)), (3, .int (nI x))]) C dX2_weightAround_18 (by decide) rfl ?_
  refine xlocals (lv' := [(6, .ref (a (8 + (13 + p)))), (4, .long (lN (pwN K p x * pr (fun i => lwN K x (f (knb K p i))) 0))), (0, .ref (a 2)), (1, .ref (a (8 + j))), (2, .int (nI p)), (3, .int (nI x))]) (by rw [show pr (fun i => lwN K x (f (knb K p i))) 0 = 1 from rfl, Nat.mul_one]) ?_
  refine xiconst (v := nI 0) C dX2_weightAround_20 (by decide) ?_
  refine xistore (lv' := [(7, .int (nI 0)), (6, .ref (a (8 + (13 + p)))), (4, .long (lN (pwN K p x * pr (fun i => lwN K x (f (knb K p i))) 0))), (0, .ref (a 2)), (1, .ref (a (8 + j))), (2, .int (nI p)), (3, .int (nI x))]) C dX2_weightAround_21 (by decide) rfl ?_
  have LP23 : ∀ (fu23 : Nat) (i : Nat) (hi : i ≤ kdg K p), kdg K p - i < fu23 → XW X 0 0 (WX a t I F L) [(0, .ref (a 2)), (1, .ref (a (8 + j))), (2, .int (nI p)), (3, .int (nI x)), (4, .long (lN (pwN K p x * pr (fun i => lwN K x (f (knb K p i))) i))), (6, .ref (a (8 + (13 + p)))), (7, .int (nI i))] 23 [] := by
    intro fu23
    induction fu23 with
    | zero => intro i hi hm23; exact absurd hm23 (Nat.not_lt_zero _)
    | succ fu23 ih23 =>
      intro i hi hm23
      refine xiload C 6 rfl dX2_weightAround_23 ?_
      refine xaload_n C 0 rfl dX2_weightAround_25 ?_
      refine gX2_32 C dX2_weightAround_26 ?_
      refine gX2_78 C dX2_weightAround_29 ?_
      refine xiload_n C 2 rfl dX2_weightAround_32 ?_
      refine xa_dg C hK hW p (by omega) dX2_weightAround_33 ?_
      have fb33 := hW.dg6 p
      refine xicmp_geN C 61 dX2_weightAround_34 (by decide) (by omega) (by omega) (fun h34 => ?_) (fun h34 => ?_)
      ·
        refine xlload C 4 rfl dX2_weightAround_61 ?_
        exact xlret C hR dX2_weightAround_63 (RPl (by (have e : i = kdg K p := (by omega)); subst e; rfl))
      ·
        refine xlload C 4 rfl dX2_weightAround_37 ?_
        refine xaload_n C 0 rfl dX2_weightAround_39 ?_
        refine xiload_n C 3 rfl dX2_weightAround_40 ?_
        refine xaload_n C 1 rfl dX2_weightAround_41 ?_
        refine xaload C 5 rfl dX2_weightAround_42 ?_
        refine xiload C 6 rfl dX2_weightAround_44 ?_
        refine xa_nb C hK hW p i (by omega) (by omega) dX2_weightAround_46 ?_
        have fb46 := hW.nb (show p < kn K by omega) (show i < kdg K p by omega)
        refine xa_st C hW j h6 hj hS (knb K p i) (by omega) dX2_weightAround_47 ?_
        have fb47 := (hS (knb K p i) (by omega)).2
        refine xcVR C (c_X2_linkWeight hK hW x (f (knb K p i)) (by omega) (by omega)) yk_X2_linkWeight 2 rfl rfl xml_X2_71 ⟨⟨Nat.le_of_ble_eq_true rfl, Nat.le_of_ble_eq_true rfl⟩, ⟨rfl, rfl⟩, ⟨Nat.zero_le _, Nat.zero_le _⟩⟩ rfl (Nat.le_of_ble_eq_true rfl) dX2_weightAround_48 ?_
        have fl48 := lwN_le hW x (f (knb K p i))
        refine xi2lN C (by omega) dX2_weightAround_51 ?_
        refine xlmulN C dX2_weightAround_52 ?_
        refine xtopl (y := lN (pwN K p x * pr (fun i => lwN K x (f (knb K p i))) (i + 1))) (by rw [Nat.mul_assoc]; rfl) ?_
        refine xlstore (lv' := [(4, .long (lN (pwN K p x * pr (fun i => lwN K x (f (knb K p i))) (i + 1)))), (0, .ref (a 2)), (1, .ref (a (8 + j))), (2, .int (nI p)), (3, .int (nI x)), (6, .ref (a (8 + (13 + p)))), (7, .int (nI i))]) C dX2_weightAround_53 (by decide) rfl ?_
        refine xiincN (lv' := [(7, .int (nI (i + 1))), (4, .long (lN (pwN K p x * pr (fun i => lwN K x (f (knb K p i))) (i + 1)))), (0, .ref (a 2)), (1, .ref (a (8 + j))), (2, .int (nI p)), (3, .int (nI x)), (6, .ref (a (8 + (13 + p))))]) C 6 rfl dX2_weightAround_55 (by decide) rfl ?_
        refine xgoto C 23 dX2_weightAround_58 (by decide) ?_
        refine xsub [2, 3, 4, 5, 1, 6, 0] rfl ?_
        exact ih23 (i + 1) (by omega) (by omega)
  refine xsub [3, 4, 5, 6, 2, 1, 0] rfl ?_
  exact LP23 _ 0 (Nat.zero_le _) (Nat.lt_succ_self _)
theorem dX2_lowIsBelowHigh_0 : decode cX2_lowIsBelowHigh 0 = .ok (.iconst 0, 1) := by decide +kernel
theorem dX2_lowIsBelowHigh_1 : decode cX2_lowIsBelowHigh 1 = .ok (.istore_n 1, 1) := by decide +kernel
theorem dX2_lowIsBelowHigh_2 : decode cX2_lowIsBelowHigh 2 = .ok (.iload_n 1, 1) := by decide +kernel
theorem dX2_lowIsBelowHigh_3 : decode cX2_lowIsBelowHigh 3 = .ok (.aload_n 0, 1) := by decide +kernel
theorem dX2_lowIsBelowHigh_4 : decode cX2_lowIsBelowHigh 4 = .ok (.getfield 32, 3) := by decide +kernel
theorem dX2_lowIsBelowHigh_7 : decode cX2_lowIsBelowHigh 7 = .ok (.getfield 55, 3) := by decide +kernel
theorem dX2_lowIsBelowHigh_10 : decode cX2_lowIsBelowHigh 10 = .ok (.if_icmp .ge 26, 3) := by decide +kernel
theorem dX2_lowIsBelowHigh_13 : decode cX2_lowIsBelowHigh 13 = .ok (.aload_n 0, 1) := by decide +kernel
theorem dX2_lowIsBelowHigh_14 : decode cX2_lowIsBelowHigh 14 = .ok (.getfield 15, 3) := by decide +kernel
theorem dX2_lowIsBelowHigh_17 : decode cX2_lowIsBelowHigh 17 = .ok (.iload_n 1, 1) := by decide +kernel
theorem dX2_lowIsBelowHigh_18 : decode cX2_lowIsBelowHigh 18 = .ok (.iaload, 1) := by decide +kernel
theorem dX2_lowIsBelowHigh_19 : decode cX2_lowIsBelowHigh 19 = .ok (.aload_n 0, 1) := by decide +kernel
theorem dX2_lowIsBelowHigh_20 : decode cX2_lowIsBelowHigh 20 = .ok (.getfield 9, 3) := by decide +kernel
theorem dX2_lowIsBelowHigh_23 : decode cX2_lowIsBelowHigh 23 = .ok (.iload_n 1, 1) := by decide +kernel
theorem dX2_lowIsBelowHigh_24 : decode cX2_lowIsBelowHigh 24 = .ok (.iaload, 1) := by decide +kernel
theorem dX2_lowIsBelowHigh_25 : decode cX2_lowIsBelowHigh 25 = .ok (.if_icmp .le 5, 3) := by decide +kernel
theorem dX2_lowIsBelowHigh_28 : decode cX2_lowIsBelowHigh 28 = .ok (.iconst 0, 1) := by decide +kernel
theorem dX2_lowIsBelowHigh_29 : decode cX2_lowIsBelowHigh 29 = .ok (.ireturn, 1) := by decide +kernel
theorem dX2_lowIsBelowHigh_30 : decode cX2_lowIsBelowHigh 30 = .ok (.iinc 1 1, 3) := by decide +kernel
theorem dX2_lowIsBelowHigh_33 : decode cX2_lowIsBelowHigh 33 = .ok (.goto (-31), 3) := by decide +kernel
theorem dX2_lowIsBelowHigh_36 : decode cX2_lowIsBelowHigh 36 = .ok (.iconst 1, 1) := by decide +kernel
theorem dX2_lowIsBelowHigh_37 : decode cX2_lowIsBelowHigh 37 = .ok (.ireturn, 1) := by decide +kernel
def rX2_lowIsBelowHigh : Room := { frames := 0, cells := 0, slots := 0, locals := 0 }
theorem yk_X2_lowIsBelowHigh : YK yX2_lowIsBelowHigh cX2_lowIsBelowHigh 2 (some .boolean) 0 := ⟨xim_X2_lowIsBelowHigh, xse_X2_lowIsBelowHigh, xin_X2, xco_X2_lowIsBelowHigh, by decide +kernel⟩
set_option maxRecDepth 4000 in
theorem c_X2_lowIsBelowHigh {l : Launch} {D : va_G} {t : Nat → ClassId} {a : Nat → Nat} {I : Nat → Int32} {F : Nat → Nat → Int32} {L : Nat → Int64} {K : Cfg} (hK : CFG K I F) (hW : WFK K) {hi lo : Nat → Nat} (hH : RA (kn K) (F 6) hi) (hL : RA (kn K) (F 7) lo) : CT l D t yX2_lowIsBelowHigh cX2_lowIsBelowHigh 2 (some .boolean) rX2_lowIsBelowHigh 0 0 [.ref (a 2)] (WX a t I F L) (RP (.int (nI (bn (∀ p, p < kn K → lo p ≤ hi p)))) (WX a t I F L)) := by
  refine CT.of (by decide +kernel) (by simp [lg_sl, Value.category]) (fun X C hR => ?_)
  refine xlocals (lv' := [(0, .ref (a 2))]) rfl ?_
  have fn24 := hW.n24; have fm60 := hW.m60; have fk2 := hW.k2; have fu1 := hW.u1; have fu9 := hW.u9; have fv1 := hW.v1; have fv9 := hW.v9
  refine xiconst (v := nI 0) C dX2_lowIsBelowHigh_0 (by decide) ?_
  refine xistore_n (lv' := [(1, .int (nI 0)), (0, .ref (a 2))]) C dX2_lowIsBelowHigh_1 (by decide) rfl ?_
  have LP2 : ∀ (fu2 : Nat) (i : Nat) (hi1 : i ≤ kn K) (ha : ∀ p, p < i → lo p ≤ hi p), kn K - i < fu2 → XW X 0 0 (WX a t I F L) [(0, .ref (a 2)), (1, .int (nI i))] 2 [] := by
    intro fu2
    induction fu2 with
    | zero => intro i hi1 ha hm2; exact absurd hm2 (Nat.not_lt_zero _)
    | succ fu2 ih2 =>
      intro i hi1 ha hm2
      refine xiload_n C 1 rfl dX2_lowIsBelowHigh_2 ?_
      refine xaload_n C 0 rfl dX2_lowIsBelowHigh_3 ?_
      refine gX2_32 C dX2_lowIsBelowHigh_4 ?_
      refine gX2_55K C hK dX2_lowIsBelowHigh_7 ?_
      refine xicmp_geN C 36 dX2_lowIsBelowHigh_10 (by decide) (by omega) (by omega) (fun h10 => ?_) (fun h10 => ?_)
      ·
        refine xiconst (v := nI 1) C dX2_lowIsBelowHigh_36 (by decide) ?_
        exact xret C hR (by rfl) dX2_lowIsBelowHigh_37 (RPn ((bn_t (fun p h => ha p (by omega))).symm))
      ·
        refine xaload_n C 0 rfl dX2_lowIsBelowHigh_13 ?_
        refine gX2_15 C dX2_lowIsBelowHigh_14 ?_
        refine xiload_n C 1 rfl dX2_lowIsBelowHigh_17 ?_
        refine xa_st C hW 7 (by omega) (by omega) hL i (by omega) dX2_lowIsBelowHigh_18 ?_
        have fb18 := (hL i (by omega)).2
        refine xaload_n C 0 rfl dX2_lowIsBelowHigh_19 ?_
        refine gX2_9 C dX2_lowIsBelowHigh_20 ?_
        refine xiload_n C 1 rfl dX2_lowIsBelowHigh_23 ?_
        refine xa_st C hW 6 (by omega) (by omega) hH i (by omega) dX2_lowIsBelowHigh_24 ?_
        have fb24 := (hH i (by omega)).2
        refine xicmp_leN C 30 dX2_lowIsBelowHigh_25 (by decide) (by omega) (by omega) (fun h25 => ?_) (fun h25 => ?_)
        ·
          refine xiincN (lv' := [(1, .int (nI (i + 1))), (0, .ref (a 2))]) C 1 rfl dX2_lowIsBelowHigh_30 (by decide) rfl ?_
          refine xgoto C 2 dX2_lowIsBelowHigh_33 (by decide) ?_
          refine xsub [1, 0] rfl ?_
          exact ih2 (i + 1) (by omega) (lt_s ha h25) (by omega)
        ·
          refine xiconst (v := nI 0) C dX2_lowIsBelowHigh_28 (by decide) ?_
          exact xret C hR (by rfl) dX2_lowIsBelowHigh_29 (RPn ((bn_f (fun q => absurd (q i (by omega)) (by omega))).symm))
  refine xsub [1, 0] rfl ?_
  exact LP2 _ 0 (Nat.zero_le _) (fun p h => absurd h (Nat.not_lt_zero _)) (Nat.lt_succ_self _)
theorem dX2_linksCrossSides_0 : decode cX2_linksCrossSides 0 = .ok (.iconst 0, 1) := by decide +kernel
theorem dX2_linksCrossSides_1 : decode cX2_linksCrossSides 1 = .ok (.istore_n 1, 1) := by decide +kernel
theorem dX2_linksCrossSides_2 : decode cX2_linksCrossSides 2 = .ok (.iload_n 1, 1) := by decide +kernel
theorem dX2_linksCrossSides_3 : decode cX2_linksCrossSides 3 = .ok (.aload_n 0, 1) := by decide +kernel
theorem dX2_linksCrossSides_4 : decode cX2_linksCrossSides 4 = .ok (.getfield 32, 3) := by decide +kernel
theorem dX2_linksCrossSides_7 : decode cX2_linksCrossSides 7 = .ok (.getfield 62, 3) := by decide +kernel
theorem dX2_linksCrossSides_10 : decode cX2_linksCrossSides 10 = .ok (.if_icmp .ge 48, 3) := by decide +kernel
theorem dX2_linksCrossSides_13 : decode cX2_linksCrossSides 13 = .ok (.aload_n 0, 1) := by decide +kernel
theorem dX2_linksCrossSides_14 : decode cX2_linksCrossSides 14 = .ok (.getfield 32, 3) := by decide +kernel
theorem dX2_linksCrossSides_17 : decode cX2_linksCrossSides 17 = .ok (.getfield 41, 3) := by decide +kernel
theorem dX2_linksCrossSides_20 : decode cX2_linksCrossSides 20 = .ok (.aload_n 0, 1) := by decide +kernel
theorem dX2_linksCrossSides_21 : decode cX2_linksCrossSides 21 = .ok (.getfield 32, 3) := by decide +kernel
theorem dX2_linksCrossSides_24 : decode cX2_linksCrossSides 24 = .ok (.getfield 65, 3) := by decide +kernel
theorem dX2_linksCrossSides_27 : decode cX2_linksCrossSides 27 = .ok (.iload_n 1, 1) := by decide +kernel
theorem dX2_linksCrossSides_28 : decode cX2_linksCrossSides 28 = .ok (.iaload, 1) := by decide +kernel
theorem dX2_linksCrossSides_29 : decode cX2_linksCrossSides 29 = .ok (.iaload, 1) := by decide +kernel
theorem dX2_linksCrossSides_30 : decode cX2_linksCrossSides 30 = .ok (.aload_n 0, 1) := by decide +kernel
theorem dX2_linksCrossSides_31 : decode cX2_linksCrossSides 31 = .ok (.getfield 32, 3) := by decide +kernel
theorem dX2_linksCrossSides_34 : decode cX2_linksCrossSides 34 = .ok (.getfield 41, 3) := by decide +kernel
theorem dX2_linksCrossSides_37 : decode cX2_linksCrossSides 37 = .ok (.aload_n 0, 1) := by decide +kernel
theorem dX2_linksCrossSides_38 : decode cX2_linksCrossSides 38 = .ok (.getfield 32, 3) := by decide +kernel
theorem dX2_linksCrossSides_41 : decode cX2_linksCrossSides 41 = .ok (.getfield 68, 3) := by decide +kernel
theorem dX2_linksCrossSides_44 : decode cX2_linksCrossSides 44 = .ok (.iload_n 1, 1) := by decide +kernel
theorem dX2_linksCrossSides_45 : decode cX2_linksCrossSides 45 = .ok (.iaload, 1) := by decide +kernel
theorem dX2_linksCrossSides_46 : decode cX2_linksCrossSides 46 = .ok (.iaload, 1) := by decide +kernel
theorem dX2_linksCrossSides_47 : decode cX2_linksCrossSides 47 = .ok (.if_icmp .ne 5, 3) := by decide +kernel
theorem dX2_linksCrossSides_50 : decode cX2_linksCrossSides 50 = .ok (.iconst 0, 1) := by decide +kernel
theorem dX2_linksCrossSides_51 : decode cX2_linksCrossSides 51 = .ok (.ireturn, 1) := by decide +kernel
theorem dX2_linksCrossSides_52 : decode cX2_linksCrossSides 52 = .ok (.iinc 1 1, 3) := by decide +kernel
theorem dX2_linksCrossSides_55 : decode cX2_linksCrossSides 55 = .ok (.goto (-53), 3) := by decide +kernel
theorem dX2_linksCrossSides_58 : decode cX2_linksCrossSides 58 = .ok (.iconst 1, 1) := by decide +kernel
theorem dX2_linksCrossSides_59 : decode cX2_linksCrossSides 59 = .ok (.ireturn, 1) := by decide +kernel
def rX2_linksCrossSides : Room := { frames := 0, cells := 0, slots := 0, locals := 0 }
theorem yk_X2_linksCrossSides : YK yX2_linksCrossSides cX2_linksCrossSides 2 (some .boolean) 0 := ⟨xim_X2_linksCrossSides, xse_X2_linksCrossSides, xin_X2, xco_X2_linksCrossSides, by decide +kernel⟩
set_option maxRecDepth 4000 in
theorem c_X2_linksCrossSides {l : Launch} {D : va_G} {t : Nat → ClassId} {a : Nat → Nat} {I : Nat → Int32} {F : Nat → Nat → Int32} {L : Nat → Int64} {K : Cfg} (hK : CFG K I F) (hW : WFK K)  : CT l D t yX2_linksCrossSides cX2_linksCrossSides 2 (some .boolean) rX2_linksCrossSides 0 0 [.ref (a 2)] (WX a t I F L) (RP (.int (nI (bn (crossP K)))) (WX a t I F L)) := by
  refine CT.of (by decide +kernel) (by simp [lg_sl, Value.category]) (fun X C hR => ?_)
  refine xlocals (lv' := [(0, .ref (a 2))]) rfl ?_
  have fn24 := hW.n24; have fm60 := hW.m60; have fk2 := hW.k2; have fu1 := hW.u1; have fu9 := hW.u9; have fv1 := hW.v1; have fv9 := hW.v9
  refine xiconst (v := nI 0) C dX2_linksCrossSides_0 (by decide) ?_
  refine xistore_n (lv' := [(1, .int (nI 0)), (0, .ref (a 2))]) C dX2_linksCrossSides_1 (by decide) rfl ?_
  have LP2 : ∀ (fu2 : Nat) (k : Nat) (hk : k ≤ km K) (ha : ∀ q, q < k → ksi K (kla K q) ≠ ksi K (klb K q)), km K - k < fu2 → XW X 0 0 (WX a t I F L) [(0, .ref (a 2)), (1, .int (nI k))] 2 [] := by
    intro fu2
    induction fu2 with
    | zero => intro k hk ha hm2; exact absurd hm2 (Nat.not_lt_zero _)
    | succ fu2 ih2 =>
      intro k hk ha hm2
      refine xiload_n C 1 rfl dX2_linksCrossSides_2 ?_
      refine xaload_n C 0 rfl dX2_linksCrossSides_3 ?_
      refine gX2_32 C dX2_linksCrossSides_4 ?_
      refine gX2_62K C hK dX2_linksCrossSides_7 ?_
      refine xicmp_geN C 58 dX2_linksCrossSides_10 (by decide) (by omega) (by omega) (fun h10 => ?_) (fun h10 => ?_)
      ·
        refine xiconst (v := nI 1) C dX2_linksCrossSides_58 (by decide) ?_
        exact xret C hR (by rfl) dX2_linksCrossSides_59 (RPn ((bn_t (fun p h => ha p (by omega))).symm))
      ·
        refine xaload_n C 0 rfl dX2_linksCrossSides_13 ?_
        refine gX2_32 C dX2_linksCrossSides_14 ?_
        refine gX2_41 C dX2_linksCrossSides_17 ?_
        refine xaload_n C 0 rfl dX2_linksCrossSides_20 ?_
        refine gX2_32 C dX2_linksCrossSides_21 ?_
        refine gX2_65 C dX2_linksCrossSides_24 ?_
        refine xiload_n C 1 rfl dX2_linksCrossSides_27 ?_
        refine xa_la C hK hW k (by omega) dX2_linksCrossSides_28 ?_
        have fb28 := (hW.la (by omega))
        refine xa_si C hK hW (kla K k) (by omega) dX2_linksCrossSides_29 ?_
        have fb29 := (hW.si1 (by omega))
        refine xaload_n C 0 rfl dX2_linksCrossSides_30 ?_
        refine gX2_32 C dX2_linksCrossSides_31 ?_
        refine gX2_41 C dX2_linksCrossSides_34 ?_
        refine xaload_n C 0 rfl dX2_linksCrossSides_37 ?_
        refine gX2_32 C dX2_linksCrossSides_38 ?_
        refine gX2_68 C dX2_linksCrossSides_41 ?_
        refine xiload_n C 1 rfl dX2_linksCrossSides_44 ?_
        refine xa_lb C hK hW k (by omega) dX2_linksCrossSides_45 ?_
        have fb45 := (hW.lb (by omega))
        refine xa_si C hK hW (klb K k) (by omega) dX2_linksCrossSides_46 ?_
        have fb46 := (hW.si1 (by omega))
        refine xicmp_neN C 52 dX2_linksCrossSides_47 (by decide) (by omega) (by omega) (fun h47 => ?_) (fun h47 => ?_)
        ·
          refine xiincN (lv' := [(1, .int (nI (k + 1))), (0, .ref (a 2))]) C 1 rfl dX2_linksCrossSides_52 (by decide) rfl ?_
          refine xgoto C 2 dX2_linksCrossSides_55 (by decide) ?_
          refine xsub [1, 0] rfl ?_
          exact ih2 (k + 1) (by omega) (lt_s ha h47) (by omega)
        ·
          refine xiconst (v := nI 0) C dX2_linksCrossSides_50 (by decide) ?_
          exact xret C hR (by rfl) dX2_linksCrossSides_51 (RPn ((bn_f (fun q => q k (by omega) h47)).symm))
  refine xsub [1, 0] rfl ?_
  exact LP2 _ 0 (Nat.zero_le _) (fun p h => absurd h (Nat.not_lt_zero _)) (Nat.lt_succ_self _)
theorem dX2_isSound_0 : decode cX2_isSound 0 = .ok (.aload_n 0, 1) := by decide +kernel
theorem dX2_isSound_1 : decode cX2_isSound 1 = .ok (.getfield 18, 3) := by decide +kernel
theorem dX2_isSound_4 : decode cX2_isSound 4 = .ok (.lookupswitch 50 #[(0, 28), (1, 45)], 28) := by decide +kernel
theorem dX2_isSound_32 : decode cX2_isSound 32 = .ok (.aload_n 0, 1) := by decide +kernel
theorem dX2_isSound_33 : decode cX2_isSound 33 = .ok (.getfield 22, 3) := by decide +kernel
theorem dX2_isSound_36 : decode cX2_isSound 36 = .ok (.aload_n 0, 1) := by decide +kernel
theorem dX2_isSound_37 : decode cX2_isSound 37 = .ok (.getfield 25, 3) := by decide +kernel
theorem dX2_isSound_40 : decode cX2_isSound 40 = .ok (.if_icmp .lt 7, 3) := by decide +kernel
theorem dX2_isSound_43 : decode cX2_isSound 43 = .ok (.iconst 1, 1) := by decide +kernel
theorem dX2_isSound_44 : decode cX2_isSound 44 = .ok (.goto 4, 3) := by decide +kernel
theorem dX2_isSound_47 : decode cX2_isSound 47 = .ok (.iconst 0, 1) := by decide +kernel
theorem dX2_isSound_48 : decode cX2_isSound 48 = .ok (.ireturn, 1) := by decide +kernel
theorem dX2_isSound_49 : decode cX2_isSound 49 = .ok (.aload_n 0, 1) := by decide +kernel
theorem dX2_isSound_50 : decode cX2_isSound 50 = .ok (.invokevirtual 99, 3) := by decide +kernel
theorem dX2_isSound_53 : decode cX2_isSound 53 = .ok (.ireturn, 1) := by decide +kernel
theorem dX2_isSound_54 : decode cX2_isSound 54 = .ok (.aload_n 0, 1) := by decide +kernel
theorem dX2_isSound_55 : decode cX2_isSound 55 = .ok (.invokevirtual 102, 3) := by decide +kernel
theorem dX2_isSound_58 : decode cX2_isSound 58 = .ok (.ireturn, 1) := by decide +kernel
def rX2_isSound : Room := { frames := 1, cells := 0, slots := 0, locals := 21 }
theorem yk_X2_isSound : YK yX2_isSound cX2_isSound 1 (some .boolean) 0 := ⟨xim_X2_isSound, xse_X2_isSound, xin_X2, xco_X2_isSound, by decide +kernel⟩
set_option maxRecDepth 4000 in
theorem c_X2_isSound {l : Launch} {D : va_G} {t : Nat → ClassId} {a : Nat → Nat} {I : Nat → Int32} {F : Nat → Nat → Int32} {L : Nat → Int64} {K : Cfg} (hK : CFG K I F) (hW : WFK K) {hi lo : Nat → Nat} (hH : RA (kn K) (F 6) hi) (hL : RA (kn K) (F 7) lo) : CT l D t yX2_isSound cX2_isSound 1 (some .boolean) rX2_isSound 0 0 [.ref (a 2)] (WX a t I F L) (RP (.int (nI (bn (soundP K lo hi)))) (WX a t I F L)) := by
  refine CT.of (by decide +kernel) (by simp [lg_sl, Value.category]) (fun X C hR => ?_)
  refine xlocals (lv' := [(0, .ref (a 2))]) rfl ?_
  have fn24 := hW.n24; have fm60 := hW.m60; have fk2 := hW.k2; have fu1 := hW.u1; have fu9 := hW.u9; have fv1 := hW.v1; have fv9 := hW.v9
  refine xaload_n C 0 rfl dX2_isSound_0 ?_
  refine gX2_18K C hK dX2_isSound_1 ?_
  rcases (show kk K = 0 ∨ kk K = 1 ∨ kk K = 2 by omega) with h4 | h4 | h4
  ·
    refine xtopi (y := nI 0) (by rw [h4]) ?_
    refine xlookup C 32 dX2_isSound_4 (by decide +kernel) (off := 28) (by decide +kernel) (by decide) ?_
    refine xaload_n C 0 rfl dX2_isSound_32 ?_
    refine gX2_22K C hK dX2_isSound_33 ?_
    refine xaload_n C 0 rfl dX2_isSound_36 ?_
    refine gX2_25K C hK dX2_isSound_37 ?_
    refine xicmp_ltN C 47 dX2_isSound_40 (by decide) (by omega) (by omega) (fun h40 => ?_) (fun h40 => ?_)
    ·
      refine xiconst (v := nI 0) C dX2_isSound_47 (by decide) ?_
      exact xret C hR (by rfl) dX2_isSound_48 (RPn ((bn_f (by unfold soundP; rw [if_pos h4]; omega)).symm))
    ·
      refine xiconst (v := nI 1) C dX2_isSound_43 (by decide) ?_
      refine xgoto C 48 dX2_isSound_44 (by decide) ?_
      exact xret C hR (by rfl) dX2_isSound_48 (RPn ((bn_t (by unfold soundP; rw [if_pos h4]; omega)).symm))
  ·
    refine xtopi (y := nI 1) (by rw [h4]) ?_
    refine xlookup C 49 dX2_isSound_4 (by decide +kernel) (off := 45) (by decide +kernel) (by decide) ?_
    refine xaload_n C 0 rfl dX2_isSound_49 ?_
    refine xcVR C (c_X2_lowIsBelowHigh hK hW hH hL) yk_X2_lowIsBelowHigh 2 rfl rfl xml_X2_99 ⟨⟨Nat.le_of_ble_eq_true rfl, Nat.le_of_ble_eq_true rfl⟩, ⟨rfl, rfl⟩, ⟨Nat.zero_le _, Nat.zero_le _⟩⟩ rfl (Nat.le_of_ble_eq_true rfl) dX2_isSound_50 ?_
    exact xret C hR (nar_bn _) dX2_isSound_53 (RPn (bn_iff (by unfold soundP; rw [if_neg (by omega), if_pos h4])))
  ·
    refine xtopi (y := nI 2) (by rw [h4]) ?_
    refine xlookup C 54 dX2_isSound_4 (by decide +kernel) (off := 50) (by decide +kernel) (by decide) ?_
    refine xaload_n C 0 rfl dX2_isSound_54 ?_
    refine xcVR C (c_X2_linksCrossSides hK hW) yk_X2_linksCrossSides 2 rfl rfl xml_X2_102 ⟨⟨Nat.le_of_ble_eq_true rfl, Nat.le_of_ble_eq_true rfl⟩, ⟨rfl, rfl⟩, ⟨Nat.zero_le _, Nat.zero_le _⟩⟩ rfl (Nat.le_of_ble_eq_true rfl) dX2_isSound_55 ?_
    exact xret C hR (nar_bn _) dX2_isSound_58 (RPn (bn_iff (by unfold soundP; rw [if_neg (by omega), if_neg (by omega)])))
theorem dX2_drawTogether_0 : decode cX2_drawTogether 0 = .ok (.iconst 0, 1) := by decide +kernel
theorem dX2_drawTogether_1 : decode cX2_drawTogether 1 = .ok (.istore_n 1, 1) := by decide +kernel
theorem dX2_drawTogether_2 : decode cX2_drawTogether 2 = .ok (.iload_n 1, 1) := by decide +kernel
theorem dX2_drawTogether_3 : decode cX2_drawTogether 3 = .ok (.aload_n 0, 1) := by decide +kernel
theorem dX2_drawTogether_4 : decode cX2_drawTogether 4 = .ok (.getfield 32, 3) := by decide +kernel
theorem dX2_drawTogether_7 : decode cX2_drawTogether 7 = .ok (.getfield 55, 3) := by decide +kernel
theorem dX2_drawTogether_10 : decode cX2_drawTogether 10 = .ok (.if_icmp .ge 147, 3) := by decide +kernel
theorem dX2_drawTogether_13 : decode cX2_drawTogether 13 = .ok (.iconst 0, 1) := by decide +kernel
theorem dX2_drawTogether_14 : decode cX2_drawTogether 14 = .ok (.istore_n 2, 1) := by decide +kernel
theorem dX2_drawTogether_15 : decode cX2_drawTogether 15 = .ok (.iload_n 2, 1) := by decide +kernel
theorem dX2_drawTogether_16 : decode cX2_drawTogether 16 = .ok (.aload_n 0, 1) := by decide +kernel
theorem dX2_drawTogether_17 : decode cX2_drawTogether 17 = .ok (.getfield 32, 3) := by decide +kernel
theorem dX2_drawTogether_20 : decode cX2_drawTogether 20 = .ok (.getfield 62, 3) := by decide +kernel
theorem dX2_drawTogether_23 : decode cX2_drawTogether 23 = .ok (.if_icmp .ge 128, 3) := by decide +kernel
theorem dX2_drawTogether_26 : decode cX2_drawTogether 26 = .ok (.aload_n 0, 1) := by decide +kernel
theorem dX2_drawTogether_27 : decode cX2_drawTogether 27 = .ok (.getfield 32, 3) := by decide +kernel
theorem dX2_drawTogether_30 : decode cX2_drawTogether 30 = .ok (.getfield 65, 3) := by decide +kernel
theorem dX2_drawTogether_33 : decode cX2_drawTogether 33 = .ok (.iload_n 2, 1) := by decide +kernel
theorem dX2_drawTogether_34 : decode cX2_drawTogether 34 = .ok (.iaload, 1) := by decide +kernel
theorem dX2_drawTogether_35 : decode cX2_drawTogether 35 = .ok (.istore_n 3, 1) := by decide +kernel
theorem dX2_drawTogether_36 : decode cX2_drawTogether 36 = .ok (.aload_n 0, 1) := by decide +kernel
theorem dX2_drawTogether_37 : decode cX2_drawTogether 37 = .ok (.getfield 32, 3) := by decide +kernel
theorem dX2_drawTogether_40 : decode cX2_drawTogether 40 = .ok (.getfield 68, 3) := by decide +kernel
theorem dX2_drawTogether_43 : decode cX2_drawTogether 43 = .ok (.iload_n 2, 1) := by decide +kernel
theorem dX2_drawTogether_44 : decode cX2_drawTogether 44 = .ok (.iaload, 1) := by decide +kernel
theorem dX2_drawTogether_45 : decode cX2_drawTogether 45 = .ok (.istore 4, 2) := by decide +kernel
theorem dX2_drawTogether_47 : decode cX2_drawTogether 47 = .ok (.aload_n 0, 1) := by decide +kernel
theorem dX2_drawTogether_48 : decode cX2_drawTogether 48 = .ok (.getfield 9, 3) := by decide +kernel
theorem dX2_drawTogether_51 : decode cX2_drawTogether 51 = .ok (.iload_n 3, 1) := by decide +kernel
theorem dX2_drawTogether_52 : decode cX2_drawTogether 52 = .ok (.aload_n 0, 1) := by decide +kernel
theorem dX2_drawTogether_53 : decode cX2_drawTogether 53 = .ok (.getfield 9, 3) := by decide +kernel
theorem dX2_drawTogether_56 : decode cX2_drawTogether 56 = .ok (.iload_n 3, 1) := by decide +kernel
theorem dX2_drawTogether_57 : decode cX2_drawTogether 57 = .ok (.iaload, 1) := by decide +kernel
theorem dX2_drawTogether_58 : decode cX2_drawTogether 58 = .ok (.aload_n 0, 1) := by decide +kernel
theorem dX2_drawTogether_59 : decode cX2_drawTogether 59 = .ok (.getfield 9, 3) := by decide +kernel
theorem dX2_drawTogether_62 : decode cX2_drawTogether 62 = .ok (.iload 4, 2) := by decide +kernel
theorem dX2_drawTogether_64 : decode cX2_drawTogether 64 = .ok (.iaload, 1) := by decide +kernel
theorem dX2_drawTogether_65 : decode cX2_drawTogether 65 = .ok (.iconst 1, 1) := by decide +kernel
theorem dX2_drawTogether_66 : decode cX2_drawTogether 66 = .ok (.iadd, 1) := by decide +kernel
theorem dX2_drawTogether_67 : decode cX2_drawTogether 67 = .ok (.invokestatic 91, 3) := by decide +kernel
theorem dX2_drawTogether_70 : decode cX2_drawTogether 70 = .ok (.iastore, 1) := by decide +kernel
theorem dX2_drawTogether_71 : decode cX2_drawTogether 71 = .ok (.aload_n 0, 1) := by decide +kernel
theorem dX2_drawTogether_72 : decode cX2_drawTogether 72 = .ok (.getfield 9, 3) := by decide +kernel
theorem dX2_drawTogether_75 : decode cX2_drawTogether 75 = .ok (.iload 4, 2) := by decide +kernel
theorem dX2_drawTogether_77 : decode cX2_drawTogether 77 = .ok (.aload_n 0, 1) := by decide +kernel
theorem dX2_drawTogether_78 : decode cX2_drawTogether 78 = .ok (.getfield 9, 3) := by decide +kernel
theorem dX2_drawTogether_81 : decode cX2_drawTogether 81 = .ok (.iload 4, 2) := by decide +kernel
theorem dX2_drawTogether_83 : decode cX2_drawTogether 83 = .ok (.iaload, 1) := by decide +kernel
theorem dX2_drawTogether_84 : decode cX2_drawTogether 84 = .ok (.aload_n 0, 1) := by decide +kernel
theorem dX2_drawTogether_85 : decode cX2_drawTogether 85 = .ok (.getfield 9, 3) := by decide +kernel
theorem dX2_drawTogether_88 : decode cX2_drawTogether 88 = .ok (.iload_n 3, 1) := by decide +kernel
theorem dX2_drawTogether_89 : decode cX2_drawTogether 89 = .ok (.iaload, 1) := by decide +kernel
theorem dX2_drawTogether_90 : decode cX2_drawTogether 90 = .ok (.iconst 1, 1) := by decide +kernel
theorem dX2_drawTogether_91 : decode cX2_drawTogether 91 = .ok (.iadd, 1) := by decide +kernel
theorem dX2_drawTogether_92 : decode cX2_drawTogether 92 = .ok (.invokestatic 91, 3) := by decide +kernel
theorem dX2_drawTogether_95 : decode cX2_drawTogether 95 = .ok (.iastore, 1) := by decide +kernel
theorem dX2_drawTogether_96 : decode cX2_drawTogether 96 = .ok (.aload_n 0, 1) := by decide +kernel
theorem dX2_drawTogether_97 : decode cX2_drawTogether 97 = .ok (.getfield 15, 3) := by decide +kernel
theorem dX2_drawTogether_100 : decode cX2_drawTogether 100 = .ok (.iload_n 3, 1) := by decide +kernel
theorem dX2_drawTogether_101 : decode cX2_drawTogether 101 = .ok (.aload_n 0, 1) := by decide +kernel
theorem dX2_drawTogether_102 : decode cX2_drawTogether 102 = .ok (.getfield 15, 3) := by decide +kernel
theorem dX2_drawTogether_105 : decode cX2_drawTogether 105 = .ok (.iload_n 3, 1) := by decide +kernel
theorem dX2_drawTogether_106 : decode cX2_drawTogether 106 = .ok (.iaload, 1) := by decide +kernel
theorem dX2_drawTogether_107 : decode cX2_drawTogether 107 = .ok (.aload_n 0, 1) := by decide +kernel
theorem dX2_drawTogether_108 : decode cX2_drawTogether 108 = .ok (.getfield 15, 3) := by decide +kernel
theorem dX2_drawTogether_111 : decode cX2_drawTogether 111 = .ok (.iload 4, 2) := by decide +kernel
theorem dX2_drawTogether_113 : decode cX2_drawTogether 113 = .ok (.iaload, 1) := by decide +kernel
theorem dX2_drawTogether_114 : decode cX2_drawTogether 114 = .ok (.iconst 1, 1) := by decide +kernel
theorem dX2_drawTogether_115 : decode cX2_drawTogether 115 = .ok (.isub, 1) := by decide +kernel
theorem dX2_drawTogether_116 : decode cX2_drawTogether 116 = .ok (.invokestatic 96, 3) := by decide +kernel
theorem dX2_drawTogether_119 : decode cX2_drawTogether 119 = .ok (.iastore, 1) := by decide +kernel
theorem dX2_drawTogether_120 : decode cX2_drawTogether 120 = .ok (.aload_n 0, 1) := by decide +kernel
theorem dX2_drawTogether_121 : decode cX2_drawTogether 121 = .ok (.getfield 15, 3) := by decide +kernel
theorem dX2_drawTogether_124 : decode cX2_drawTogether 124 = .ok (.iload 4, 2) := by decide +kernel
theorem dX2_drawTogether_126 : decode cX2_drawTogether 126 = .ok (.aload_n 0, 1) := by decide +kernel
theorem dX2_drawTogether_127 : decode cX2_drawTogether 127 = .ok (.getfield 15, 3) := by decide +kernel
theorem dX2_drawTogether_130 : decode cX2_drawTogether 130 = .ok (.iload 4, 2) := by decide +kernel
theorem dX2_drawTogether_132 : decode cX2_drawTogether 132 = .ok (.iaload, 1) := by decide +kernel
theorem dX2_drawTogether_133 : decode cX2_drawTogether 133 = .ok (.aload_n 0, 1) := by decide +kernel
theorem dX2_drawTogether_134 : decode cX2_drawTogether 134 = .ok (.getfield 15, 3) := by decide +kernel
theorem dX2_drawTogether_137 : decode cX2_drawTogether 137 = .ok (.iload_n 3, 1) := by decide +kernel
theorem dX2_drawTogether_138 : decode cX2_drawTogether 138 = .ok (.iaload, 1) := by decide +kernel
theorem dX2_drawTogether_139 : decode cX2_drawTogether 139 = .ok (.iconst 1, 1) := by decide +kernel
theorem dX2_drawTogether_140 : decode cX2_drawTogether 140 = .ok (.isub, 1) := by decide +kernel
theorem dX2_drawTogether_141 : decode cX2_drawTogether 141 = .ok (.invokestatic 96, 3) := by decide +kernel
theorem dX2_drawTogether_144 : decode cX2_drawTogether 144 = .ok (.iastore, 1) := by decide +kernel
theorem dX2_drawTogether_145 : decode cX2_drawTogether 145 = .ok (.iinc 2 1, 3) := by decide +kernel
theorem dX2_drawTogether_148 : decode cX2_drawTogether 148 = .ok (.goto (-133), 3) := by decide +kernel
theorem dX2_drawTogether_151 : decode cX2_drawTogether 151 = .ok (.iinc 1 1, 3) := by decide +kernel
theorem dX2_drawTogether_154 : decode cX2_drawTogether 154 = .ok (.goto (-152), 3) := by decide +kernel
theorem dX2_drawTogether_157 : decode cX2_drawTogether 157 = .ok (.return_, 1) := by decide +kernel
def rX2_drawTogether : Room := { frames := 1, cells := 0, slots := 0, locals := 21 }
theorem yk_X2_drawTogether : YK yX2_drawTogether cX2_drawTogether 5 none 0 := ⟨xim_X2_drawTogether, xse_X2_drawTogether, xin_X2, xco_X2_drawTogether, by decide +kernel⟩
set_option maxRecDepth 4000 in
theorem c_X2_drawTogether {l : Launch} {D : va_G} {t : Nat → ClassId} {a : Nat → Nat} {I : Nat → Int32} {F : Nat → Nat → Int32} {L : Nat → Int64} {K : Cfg} (hK : CFG K I F) (hW : WFK K) {hi lo : Nat → Nat} (hH : RA (kn K) (F 6) hi) (hL : RA (kn K) (F 7) lo) : CT l D t yX2_drawTogether cX2_drawTogether 5 none rX2_drawTogether 0 0 [.ref (a 2)] (WX a t I F L) (VP (fun w => ∃ F' : Nat → Nat → Int32, w = WX a t I F' L ∧ (∀ q, q ≠ 6 → q ≠ 7 → F' q = F q) ∧ RA (kn K) (F' 6) (rrH K hi (kn K)) ∧ RA (kn K) (F' 7) (rrL K lo (kn K)))) := by
  refine CT.of (by decide +kernel) (by simp [lg_sl, Value.category]) (fun X C hR => ?_)
  refine xlocals (lv' := [(0, .ref (a 2))]) rfl ?_
  have fn24 := hW.n24; have fm60 := hW.m60; have fk2 := hW.k2; have fu1 := hW.u1; have fu9 := hW.u9; have fv1 := hW.v1; have fv9 := hW.v9
  refine xiconst (v := nI 0) C dX2_drawTogether_0 (by decide) ?_
  refine xistore_n (lv' := [(1, .int (nI 0)), (0, .ref (a 2))]) C dX2_drawTogether_1 (by decide) rfl ?_
  have LP2 : ∀ (fu2 : Nat) (i : Nat) (FA : Nat → Nat → Int32) (hi1 : i ≤ kn K) (hXA : ∀ q, q ≠ 6 → q ≠ 7 → FA q = F q) (hHA : RA (kn K) (FA 6) (rrH K hi i)) (hLA : RA (kn K) (FA 7) (rrL K lo i)), kn K - i < fu2 → XW X 0 0 (WX a t I FA L) [(0, .ref (a 2)), (1, .int (nI i))] 2 [] := by
    intro fu2
    induction fu2 with
    | zero => intro i FA hi1 hXA hHA hLA hm2; exact absurd hm2 (Nat.not_lt_zero _)
    | succ fu2 ih2 =>
      intro i FA hi1 hXA hHA hLA hm2
      have hKA : CFG K I FA := hK.of (fun _ _ => rfl) (fun q hq => hXA q (by omega) (by omega))
      refine xiload_n C 1 rfl dX2_drawTogether_2 ?_
      refine xaload_n C 0 rfl dX2_drawTogether_3 ?_
      refine gX2_32 C dX2_drawTogether_4 ?_
      refine gX2_55K C hKA dX2_drawTogether_7 ?_
      refine xicmp_geN C 157 dX2_drawTogether_10 (by decide) (by omega) (by omega) (fun h10 => ?_) (fun h10 => ?_)
      ·
        exact xvret C hR dX2_drawTogether_157 ((show i = kn K by omega) ▸ (⟨rfl, FA, rfl, hXA, hHA, hLA⟩ : VP (fun w => ∃ F' : Nat → Nat → Int32, w = WX a t I F' L ∧ (∀ q, q ≠ 6 → q ≠ 7 → F' q = F q) ∧ RA (kn K) (F' 6) (rrH K hi i) ∧ RA (kn K) (F' 7) (rrL K lo i)) none _))
      ·
        refine xiconst (v := nI 0) C dX2_drawTogether_13 (by decide) ?_
        refine xistore_n (lv' := [(2, .int (nI 0)), (0, .ref (a 2)), (1, .int (nI i))]) C dX2_drawTogether_14 (by decide) rfl ?_
        have LP15 : ∀ (fu15 : Nat) (k : Nat) (FB : Nat → Nat → Int32) (hk : k ≤ km K) (hXB : ∀ q, q ≠ 6 → q ≠ 7 → FB q = F q) (hHB : RA (kn K) (FB 6) (rdH K (rrH K hi i) k)) (hLB : RA (kn K) (FB 7) (rdL K (rrL K lo i) k)), km K - k < fu15 → XW X 0 0 (WX a t I FB L) [(0, .ref (a 2)), (1, .int (nI i)), (2, .int (nI k))] 15 [] := by
          intro fu15
          induction fu15 with
          | zero => intro k FB hk hXB hHB hLB hm15; exact absurd hm15 (Nat.not_lt_zero _)
          | succ fu15 ih15 =>
            intro k FB hk hXB hHB hLB hm15
            have hKB : CFG K I FB := hK.of (fun _ _ => rfl) (fun q hq => hXB q (by omega) (by omega))
            refine xiload_n C 2 rfl dX2_drawTogether_15 ?_
            refine xaload_n C 0 rfl dX2_drawTogether_16 ?_
            refine gX2_32 C dX2_drawTogether_17 ?_
            refine gX2_62K C hKB dX2_drawTogether_20 ?_
            refine xicmp_geN C 151 dX2_drawTogether_23 (by decide) (by omega) (by omega) (fun h23 => ?_) (fun h23 => ?_)
            ·
              have ek : k = km K := by omega
              rw [ek] at hHB hLB
              refine xiincN (lv' := [(1, .int (nI (i + 1))), (0, .ref (a 2)), (2, .int (nI k))]) C 1 rfl dX2_drawTogether_151 (by decide) rfl ?_
              refine xgoto C 2 dX2_drawTogether_154 (by decide) ?_
              refine xsub [1, 0] rfl ?_
              exact ih2 (i + 1) FB (by omega) hXB (hHB) (hLB) (by omega)
            ·
              refine xaload_n C 0 rfl dX2_drawTogether_26 ?_
              refine gX2_32 C dX2_drawTogether_27 ?_
              refine gX2_65 C dX2_drawTogether_30 ?_
              refine xiload_n C 2 rfl dX2_drawTogether_33 ?_
              refine xa_la C hKB hW k (by omega) dX2_drawTogether_34 ?_
              have fb34 := (hW.la (by omega))
              refine xistore_n (lv' := [(3, .int (nI (kla K k))), (0, .ref (a 2)), (1, .int (nI i)), (2, .int (nI k))]) C dX2_drawTogether_35 (by decide) rfl ?_
              refine xaload_n C 1 rfl dX2_drawTogether_36 ?_
              refine gX2_32 C dX2_drawTogether_37 ?_
              refine gX2_68 C dX2_drawTogether_40 ?_
              refine xiload_n C 3 rfl dX2_drawTogether_43 ?_
              refine xa_lb C hKB hW k (by omega) dX2_drawTogether_44 ?_
              have fb44 := (hW.lb (by omega))
              refine xistore (lv' := [(4, .int (nI (klb K k))), (3, .int (nI (kla K k))), (0, .ref (a 2)), (1, .int (nI i)), (2, .int (nI k))]) C dX2_drawTogether_45 (by decide) rfl ?_
              refine xaload_n C 2 rfl dX2_drawTogether_47 ?_
              refine gX2_9 C dX2_drawTogether_48 ?_
              refine xiload_n C 1 rfl dX2_drawTogether_51 ?_
              refine xaload_n C 2 rfl dX2_drawTogether_52 ?_
              refine gX2_9 C dX2_drawTogether_53 ?_
              refine xiload_n C 1 rfl dX2_drawTogether_56 ?_
              refine xa_st C hW 6 (by omega) (by omega) hHB (kla K k) (by omega) dX2_drawTogether_57 ?_
              have fb57 := (hHB (kla K k) (by omega)).2
              refine xaload_n C 2 rfl dX2_drawTogether_58 ?_
              refine gX2_9 C dX2_drawTogether_59 ?_
              refine xiload C 0 rfl dX2_drawTogether_62 ?_
              refine xa_st C hW 6 (by omega) (by omega) hHB (klb K k) (by omega) dX2_drawTogether_64 ?_
              have fb64 := (hHB (klb K k) (by omega)).2
              refine xiconst (v := nI 1) C dX2_drawTogether_65 (by decide) ?_
              refine xiaddN C dX2_drawTogether_66 ?_
              refine xmin C xml_X2_91 (Nat.le_of_ble_eq_true rfl) (Nat.le_of_ble_eq_true rfl) ⟨Nat.le_of_ble_eq_true rfl, Nat.le_of_ble_eq_true rfl⟩ dX2_drawTogether_67 ?_
              have hv1 : min ((rdH K (rrH K hi i) k) (kla K k)) ((rdH K (rrH K hi i) k) (klb K k) + 1) ≤ 5 := by have := (hHB (kla K k) (by omega)).2; have := (hHB (klb K k) (by omega)).2; omega
              refine xtopi (y := nI (min ((rdH K (rrH K hi i) k) (kla K k)) ((rdH K (rrH K hi i) k) (klb K k) + 1))) (nmin' (by have := (hHB (kla K k) (by omega)).2; omega) (by have := (hHB (klb K k) (by omega)).2; omega)) ?_
              refine xs_st C 6 (by omega) (by omega) (kla K k) (by omega) dX2_drawTogether_70 ?_
              obtain ⟨F1, eF1⟩ : ∃ z : Nat → Nat → Int32, z = va_up FB 6 (upd (FB 6) (kla K k) (nI (min ((rdH K (rrH K hi i) k) (kla K k)) ((rdH K (rrH K hi i) k) (klb K k) + 1)))) := ⟨_, rfl⟩
              refine xworld (ws' := WX a t I F1 L) (by rw [eF1]) ?_
              have hK1 : CFG K I F1 := by rw [eF1]; exact hKB.upF (by omega) (by omega) _
              have hR1 : RA (kn K) (F1 6) (va_up (rdH K (rrH K hi i) k) (kla K k) (min ((rdH K (rrH K hi i) k) (kla K k)) ((rdH K (rrH K hi i) k) (klb K k) + 1))) := by rw [eF1, va_up_self]; exact hHB.up (by omega)
              have hO1 : RA (kn K) (F1 7) (rdL K (rrL K lo i) k) := by rw [eF1, va_up_ne _ _ (by decide)]; exact hLB
              have hX1 : ∀ q, q ≠ 6 → q ≠ 7 → F1 q = F q := fun q h1 h2 => by rw [eF1, va_up_ne _ _ (by omega)]; exact hXB q h1 h2
              refine xaload_n C 2 rfl dX2_drawTogether_71 ?_
              refine gX2_9 C dX2_drawTogether_72 ?_
              refine xiload C 0 rfl dX2_drawTogether_75 ?_
              refine xaload_n C 2 rfl dX2_drawTogether_77 ?_
              refine gX2_9 C dX2_drawTogether_78 ?_
              refine xiload C 0 rfl dX2_drawTogether_81 ?_
              refine xa_st C hW 6 (by omega) (by omega) hR1 (klb K k) (by omega) dX2_drawTogether_83 ?_
              have fb83 := (hR1 (klb K k) (by omega)).2
              refine xaload_n C 2 rfl dX2_drawTogether_84 ?_
              refine gX2_9 C dX2_drawTogether_85 ?_
              refine xiload_n C 1 rfl dX2_drawTogether_88 ?_
              refine xa_st C hW 6 (by omega) (by omega) hR1 (kla K k) (by omega) dX2_drawTogether_89 ?_
              have fb89 := (hR1 (kla K k) (by omega)).2
              refine xiconst (v := nI 1) C dX2_drawTogether_90 (by decide) ?_
              refine xiaddN C dX2_drawTogether_91 ?_
              refine xmin C xml_X2_91 (Nat.le_of_ble_eq_true rfl) (Nat.le_of_ble_eq_true rfl) ⟨Nat.le_of_ble_eq_true rfl, Nat.le_of_ble_eq_true rfl⟩ dX2_drawTogether_92 ?_
              have hv2 : min ((va_up (rdH K (rrH K hi i) k) (kla K k) (min ((rdH K (rrH K hi i) k) (kla K k)) ((rdH K (rrH K hi i) k) (klb K k) + 1))) (klb K k)) ((va_up (rdH K (rrH K hi i) k) (kla K k) (min ((rdH K (rrH K hi i) k) (kla K k)) ((rdH K (rrH K hi i) k) (klb K k) + 1))) (kla K k) + 1) ≤ 5 := by have := (hR1 (klb K k) (by omega)).2; have := (hR1 (kla K k) (by omega)).2; omega
              refine xtopi (y := nI (min ((va_up (rdH K (rrH K hi i) k) (kla K k) (min ((rdH K (rrH K hi i) k) (kla K k)) ((rdH K (rrH K hi i) k) (klb K k) + 1))) (klb K k)) ((va_up (rdH K (rrH K hi i) k) (kla K k) (min ((rdH K (rrH K hi i) k) (kla K k)) ((rdH K (rrH K hi i) k) (klb K k) + 1))) (kla K k) + 1))) (nmin' (by have := (hR1 (klb K k) (by omega)).2; omega) (by have := (hR1 (kla K k) (by omega)).2; omega)) ?_
              refine xs_st C 6 (by omega) (by omega) (klb K k) (by omega) dX2_drawTogether_95 ?_
              obtain ⟨F2, eF2⟩ : ∃ z : Nat → Nat → Int32, z = va_up F1 6 (upd (F1 6) (klb K k) (nI (min ((va_up (rdH K (rrH K hi i) k) (kla K k) (min ((rdH K (rrH K hi i) k) (kla K k)) ((rdH K (rrH K hi i) k) (klb K k) + 1))) (klb K k)) ((va_up (rdH K (rrH K hi i) k) (kla K k) (min ((rdH K (rrH K hi i) k) (kla K k)) ((rdH K (rrH K hi i) k) (klb K k) + 1))) (kla K k) + 1)))) := ⟨_, rfl⟩
              refine xworld (ws' := WX a t I F2 L) (by rw [eF2]) ?_
              have hK2 : CFG K I F2 := by rw [eF2]; exact hK1.upF (by omega) (by omega) _
              have hR2 : RA (kn K) (F2 6) (va_up (va_up (rdH K (rrH K hi i) k) (kla K k) (min ((rdH K (rrH K hi i) k) (kla K k)) ((rdH K (rrH K hi i) k) (klb K k) + 1))) (klb K k) (min ((va_up (rdH K (rrH K hi i) k) (kla K k) (min ((rdH K (rrH K hi i) k) (kla K k)) ((rdH K (rrH K hi i) k) (klb K k) + 1))) (klb K k)) ((va_up (rdH K (rrH K hi i) k) (kla K k) (min ((rdH K (rrH K hi i) k) (kla K k)) ((rdH K (rrH K hi i) k) (klb K k) + 1))) (kla K k) + 1))) := by rw [eF2, va_up_self]; exact hR1.up (by omega)
              have hO2 : RA (kn K) (F2 7) (rdL K (rrL K lo i) k) := by rw [eF2, va_up_ne _ _ (by decide)]; exact hO1
              have hX2 : ∀ q, q ≠ 6 → q ≠ 7 → F2 q = F q := fun q h1 h2 => by rw [eF2, va_up_ne _ _ (by omega)]; exact hX1 q h1 h2
              refine xaload_n C 2 rfl dX2_drawTogether_96 ?_
              refine gX2_15 C dX2_drawTogether_97 ?_
              refine xiload_n C 1 rfl dX2_drawTogether_100 ?_
              refine xaload_n C 2 rfl dX2_drawTogether_101 ?_
              refine gX2_15 C dX2_drawTogether_102 ?_
              refine xiload_n C 1 rfl dX2_drawTogether_105 ?_
              refine xa_st C hW 7 (by omega) (by omega) hO2 (kla K k) (by omega) dX2_drawTogether_106 ?_
              have fb106 := (hO2 (kla K k) (by omega)).2
              refine xaload_n C 2 rfl dX2_drawTogether_107 ?_
              refine gX2_15 C dX2_drawTogether_108 ?_
              refine xiload C 0 rfl dX2_drawTogether_111 ?_
              refine xa_st C hW 7 (by omega) (by omega) hO2 (klb K k) (by omega) dX2_drawTogether_113 ?_
              have fb113 := (hO2 (klb K k) (by omega)).2
              refine xiconst (v := nI 1) C dX2_drawTogether_114 (by decide) ?_
              refine xisub C dX2_drawTogether_115 ?_
              refine xmax C xml_X2_96 (Nat.le_of_ble_eq_true rfl) (Nat.le_of_ble_eq_true rfl) ⟨Nat.le_of_ble_eq_true rfl, Nat.le_of_ble_eq_true rfl⟩ dX2_drawTogether_116 ?_
              have hv3 : max ((rdL K (rrL K lo i) k) (kla K k)) ((rdL K (rrL K lo i) k) (klb K k) - 1) ≤ 5 := by have := (hO2 (kla K k) (by omega)).2; have := (hO2 (klb K k) (by omega)).2; omega
              refine xtopi (y := nI (max ((rdL K (rrL K lo i) k) (kla K k)) ((rdL K (rrL K lo i) k) (klb K k) - 1))) (nmax (by have := (hO2 (kla K k) (by omega)).2; omega) (by have := (hO2 (klb K k) (by omega)).2; omega)) ?_
              refine xs_st C 7 (by omega) (by omega) (kla K k) (by omega) dX2_drawTogether_119 ?_
              obtain ⟨F3, eF3⟩ : ∃ z : Nat → Nat → Int32, z = va_up F2 7 (upd (F2 7) (kla K k) (nI (max ((rdL K (rrL K lo i) k) (kla K k)) ((rdL K (rrL K lo i) k) (klb K k) - 1)))) := ⟨_, rfl⟩
              refine xworld (ws' := WX a t I F3 L) (by rw [eF3]) ?_
              have hK3 : CFG K I F3 := by rw [eF3]; exact hK2.upF (by omega) (by omega) _
              have hR3 : RA (kn K) (F3 7) (va_up (rdL K (rrL K lo i) k) (kla K k) (max ((rdL K (rrL K lo i) k) (kla K k)) ((rdL K (rrL K lo i) k) (klb K k) - 1))) := by rw [eF3, va_up_self]; exact hO2.up (by omega)
              have hO3 : RA (kn K) (F3 6) (va_up (va_up (rdH K (rrH K hi i) k) (kla K k) (min ((rdH K (rrH K hi i) k) (kla K k)) ((rdH K (rrH K hi i) k) (klb K k) + 1))) (klb K k) (min ((va_up (rdH K (rrH K hi i) k) (kla K k) (min ((rdH K (rrH K hi i) k) (kla K k)) ((rdH K (rrH K hi i) k) (klb K k) + 1))) (klb K k)) ((va_up (rdH K (rrH K hi i) k) (kla K k) (min ((rdH K (rrH K hi i) k) (kla K k)) ((rdH K (rrH K hi i) k) (klb K k) + 1))) (kla K k) + 1))) := by rw [eF3, va_up_ne _ _ (by decide)]; exact hR2
              have hX3 : ∀ q, q ≠ 6 → q ≠ 7 → F3 q = F q := fun q h1 h2 => by rw [eF3, va_up_ne _ _ (by omega)]; exact hX2 q h1 h2
              refine xaload_n C 2 rfl dX2_drawTogether_120 ?_
              refine gX2_15 C dX2_drawTogether_121 ?_
              refine xiload C 0 rfl dX2_drawTogether_124 ?_
              refine xaload_n C 2 rfl dX2_drawTogether_126 ?_
              refine gX2_15 C dX2_drawTogether_127 ?_
              refine xiload C 0 rfl dX2_drawTogether_130 ?_
              refine xa_st C hW 7 (by omega) (by omega) hR3 (klb K k) (by omega) dX2_drawTogether_132 ?_
              have fb132 := (hR3 (klb K k) (by omega)).2
              refine xaload_n C 2 rfl dX2_drawTogether_133 ?_
              refine gX2_15 C dX2_drawTogether_134 ?_
              refine xiload_n C 1 rfl dX2_drawTogether_137 ?_
              refine xa_st C hW 7 (by omega) (by omega) hR3 (kla K k) (by omega) dX2_drawTogether_138 ?_
              have fb138 := (hR3 (kla K k) (by omega)).2
              refine xiconst (v := nI 1) C dX2_drawTogether_139 (by decide) ?_
              refine xisub C dX2_drawTogether_140 ?_
              refine xmax C xml_X2_96 (Nat.le_of_ble_eq_true rfl) (Nat.le_of_ble_eq_true rfl) ⟨Nat.le_of_ble_eq_true rfl, Nat.le_of_ble_eq_true rfl⟩ dX2_drawTogether_141 ?_
              have hv4 : max ((va_up (rdL K (rrL K lo i) k) (kla K k) (max ((rdL K (rrL K lo i) k) (kla K k)) ((rdL K (rrL K lo i) k) (klb K k) - 1))) (klb K k)) ((va_up (rdL K (rrL K lo i) k) (kla K k) (max ((rdL K (rrL K lo i) k) (kla K k)) ((rdL K (rrL K lo i) k) (klb K k) - 1))) (kla K k) - 1) ≤ 5 := by have := (hR3 (klb K k) (by omega)).2; have := (hR3 (kla K k) (by omega)).2; omega
              refine xtopi (y := nI (max ((va_up (rdL K (rrL K lo i) k) (kla K k) (max ((rdL K (rrL K lo i) k) (kla K k)) ((rdL K (rrL K lo i) k) (klb K k) - 1))) (klb K k)) ((va_up (rdL K (rrL K lo i) k) (kla K k) (max ((rdL K (rrL K lo i) k) (kla K k)) ((rdL K (rrL K lo i) k) (klb K k) - 1))) (kla K k) - 1))) (nmax (by have := (hR3 (klb K k) (by omega)).2; omega) (by have := (hR3 (kla K k) (by omega)).2; omega)) ?_
              refine xs_st C 7 (by omega) (by omega) (klb K k) (by omega) dX2_drawTogether_144 ?_
              obtain ⟨F4, eF4⟩ : ∃ z : Nat → Nat → Int32, z = va_up F3 7 (upd (F3 7) (klb K k) (nI (max ((va_up (rdL K (rrL K lo i) k) (kla K k) (max ((rdL K (rrL K lo i) k) (kla K k)) ((rdL K (rrL K lo i) k) (klb K k) - 1))) (klb K k)) ((va_up (rdL K (rrL K lo i) k) (kla K k) (max ((rdL K (rrL K lo i) k) (kla K k)) ((rdL K (rrL K lo i) k) (klb K k) - 1))) (kla K k) - 1)))) := ⟨_, rfl⟩
              refine xworld (ws' := WX a t I F4 L) (by rw [eF4]) ?_
              have hK4 : CFG K I F4 := by rw [eF4]; exact hK3.upF (by omega) (by omega) _
              have hR4 : RA (kn K) (F4 7) (va_up (va_up (rdL K (rrL K lo i) k) (kla K k) (max ((rdL K (rrL K lo i) k) (kla K k)) ((rdL K (rrL K lo i) k) (klb K k) - 1))) (klb K k) (max ((va_up (rdL K (rrL K lo i) k) (kla K k) (max ((rdL K (rrL K lo i) k) (kla K k)) ((rdL K (rrL K lo i) k) (klb K k) - 1))) (klb K k)) ((va_up (rdL K (rrL K lo i) k) (kla K k) (max ((rdL K (rrL K lo i) k) (kla K k)) ((rdL K (rrL K lo i) k) (klb K k) - 1))) (kla K k) - 1))) := by rw [eF4, va_up_self]; exact hR3.up (by omega)
              have hO4 : RA (kn K) (F4 6) (va_up (va_up (rdH K (rrH K hi i) k) (kla K k) (min ((rdH K (rrH K hi i) k) (kla K k)) ((rdH K (rrH K hi i) k) (klb K k) + 1))) (klb K k) (min ((va_up (rdH K (rrH K hi i) k) (kla K k) (min ((rdH K (rrH K hi i) k) (kla K k)) ((rdH K (rrH K hi i) k) (klb K k) + 1))) (klb K k)) ((va_up (rdH K (rrH K hi i) k) (kla K k) (min ((rdH K (rrH K hi i) k) (kla K k)) ((rdH K (rrH K hi i) k) (klb K k) + 1))) (kla K k) + 1))) := by rw [eF4, va_up_ne _ _ (by decide)]; exact hO3
              have hX4 : ∀ q, q ≠ 6 → q ≠ 7 → F4 q = F q := fun q h1 h2 => by rw [eF4, va_up_ne _ _ (by omega)]; exact hX3 q h1 h2
              refine xiincN (lv' := [(2, .int (nI (k + 1))), (4, .int (nI (klb K k))), (3, .int (nI (kla K k))), (0, .ref (a 2)), (1, .int (nI i))]) C 4 rfl dX2_drawTogether_145 (by decide) rfl ?_
              refine xgoto C 15 dX2_drawTogether_148 (by decide) ?_
              refine xsub [3, 4, 0] rfl ?_
              exact ih15 (k + 1) F4 (by omega) hX4 hO4 hR4 (by omega)
        refine xsub [1, 2, 0] rfl ?_
        exact LP15 _ 0 FA (Nat.zero_le _) hXA hHA hLA (Nat.lt_succ_self _)
  refine xsub [1, 0] rfl ?_
  exact LP2 _ 0 F (Nat.zero_le _) (fun q _ _ => rfl) hH hL (Nat.lt_succ_self _)
end
section
/-! Rules: settle (written by my program parts_x2c.py). -/
def h0 (K : Cfg) (p : Nat) : Nat := if kk K = 1 ∧ khd K p ≠ 0 then khd K p - 1 else nohN K p (mostN K p)
def l0 (K : Cfg) (p : Nat) : Nat := if kk K = 1 ∧ khd K p ≠ 0 then khd K p - 1 else nohN K p 0
/-- the highest and the lowest state, if there is one -/
def hS (K : Cfg) : Nat → Nat := if kk K = 1 then rrH K (h0 K) (kn K) else h0 K
def lS (K : Cfg) : Nat → Nat := if kk K = 1 then rrL K (l0 K) (kn K) else l0 K
def GoodP (K : Cfg) : Prop := 0 < kn K ∧ soundP K (lS K) (hS K)
theorem hdN {x : Nat} (h : x ≠ 0) : nI x - 1 = nI (x - 1) := by
  obtain ⟨y, rfl⟩ : ∃ y, x = y + 1 := ⟨x - 1, by omega⟩
  exact nI_pred y
theorem h0_held {K : Cfg} (hW : WFK K) {p : Nat} (hp : p < kn K) (h : kk K = 1 ∧ khd K p ≠ 0) : nI (khd K p) - 1 = nI (h0 K p) := by unfold h0; rw [if_pos h]; exact hdN h.2
theorem h0_free {K : Cfg} {p : Nat} (h : ¬ (kk K = 1 ∧ khd K p ≠ 0)) : nohN K p (mostN K p) = h0 K p := by unfold h0; rw [if_neg h]
theorem l0_held {K : Cfg} (hW : WFK K) {p : Nat} (hp : p < kn K) (h : kk K = 1 ∧ khd K p ≠ 0) : nI (khd K p) - 1 = nI (l0 K p) := by unfold l0; rw [if_pos h]; exact hdN h.2
theorem l0_free {K : Cfg} {p : Nat} (h : ¬ (kk K = 1 ∧ khd K p ≠ 0)) : nohN K p 0 = l0 K p := by unfold l0; rw [if_neg h]
theorem h0_le {K : Cfg} (hW : WFK K) {p : Nat} (hp : p < kn K) : h0 K p ≤ 5 := by
  have := hW.hd6 hp
  unfold h0
  split
  · omega
  · exact nohN_le (mostN_le hW hp)
theorem l0_le {K : Cfg} (hW : WFK K) {p : Nat} (hp : p < kn K) : l0 K p ≤ 5 := by
  have := hW.hd6 hp
  unfold l0
  split
  · omega
  · exact nohN_le (by omega)
theorem RA.snoc {n : Nat} {g : Nat → Int32} {f : Nat → Nat} (h : RA n g f) (hx : f n ≤ 5) : RA (n + 1) (upd g n (nI (f n))) f := by
  intro q hq
  unfold upd
  by_cases e : q = n
  · subst e; rw [if_pos rfl]; exact ⟨rfl, hx⟩
  · rw [if_neg e]; exact h q (by omega)
theorem fit_bn (P : Prop) : fits .boolean (.int (nI (bn P))) = true := by
  rcases Classical.em P with h | h
  · rw [bn_t h]; rfl
  · rw [bn_f h]; rfl
theorem dX2_settle_0 : decode cX2_settle 0 = .ok (.iconst 0, 1) := by decide +kernel
theorem dX2_settle_1 : decode cX2_settle 1 = .ok (.istore_n 1, 1) := by decide +kernel
theorem dX2_settle_2 : decode cX2_settle 2 = .ok (.iload_n 1, 1) := by decide +kernel
theorem dX2_settle_3 : decode cX2_settle 3 = .ok (.aload_n 0, 1) := by decide +kernel
theorem dX2_settle_4 : decode cX2_settle 4 = .ok (.getfield 32, 3) := by decide +kernel
theorem dX2_settle_7 : decode cX2_settle 7 = .ok (.getfield 55, 3) := by decide +kernel
theorem dX2_settle_10 : decode cX2_settle 10 = .ok (.if_icmp .ge 77, 3) := by decide +kernel
theorem dX2_settle_13 : decode cX2_settle 13 = .ok (.aload_n 0, 1) := by decide +kernel
theorem dX2_settle_14 : decode cX2_settle 14 = .ok (.getfield 9, 3) := by decide +kernel
theorem dX2_settle_17 : decode cX2_settle 17 = .ok (.iload_n 1, 1) := by decide +kernel
theorem dX2_settle_18 : decode cX2_settle 18 = .ok (.aload_n 0, 1) := by decide +kernel
theorem dX2_settle_19 : decode cX2_settle 19 = .ok (.iload_n 1, 1) := by decide +kernel
theorem dX2_settle_20 : decode cX2_settle 20 = .ok (.invokevirtual 51, 3) := by decide +kernel
theorem dX2_settle_23 : decode cX2_settle 23 = .ok (.ifCond .eq 15, 3) := by decide +kernel
theorem dX2_settle_26 : decode cX2_settle 26 = .ok (.aload_n 0, 1) := by decide +kernel
theorem dX2_settle_27 : decode cX2_settle 27 = .ok (.getfield 32, 3) := by decide +kernel
theorem dX2_settle_30 : decode cX2_settle 30 = .ok (.getfield 44, 3) := by decide +kernel
theorem dX2_settle_33 : decode cX2_settle 33 = .ok (.iload_n 1, 1) := by decide +kernel
theorem dX2_settle_34 : decode cX2_settle 34 = .ok (.iaload, 1) := by decide +kernel
theorem dX2_settle_35 : decode cX2_settle 35 = .ok (.goto 13, 3) := by decide +kernel
theorem dX2_settle_38 : decode cX2_settle 38 = .ok (.aload_n 0, 1) := by decide +kernel
theorem dX2_settle_39 : decode cX2_settle 39 = .ok (.iload_n 1, 1) := by decide +kernel
theorem dX2_settle_40 : decode cX2_settle 40 = .ok (.aload_n 0, 1) := by decide +kernel
theorem dX2_settle_41 : decode cX2_settle 41 = .ok (.iload_n 1, 1) := by decide +kernel
theorem dX2_settle_42 : decode cX2_settle 42 = .ok (.invokevirtual 47, 3) := by decide +kernel
theorem dX2_settle_45 : decode cX2_settle 45 = .ok (.invokevirtual 81, 3) := by decide +kernel
theorem dX2_settle_48 : decode cX2_settle 48 = .ok (.iastore, 1) := by decide +kernel
theorem dX2_settle_49 : decode cX2_settle 49 = .ok (.aload_n 0, 1) := by decide +kernel
theorem dX2_settle_50 : decode cX2_settle 50 = .ok (.getfield 15, 3) := by decide +kernel
theorem dX2_settle_53 : decode cX2_settle 53 = .ok (.iload_n 1, 1) := by decide +kernel
theorem dX2_settle_54 : decode cX2_settle 54 = .ok (.aload_n 0, 1) := by decide +kernel
theorem dX2_settle_55 : decode cX2_settle 55 = .ok (.iload_n 1, 1) := by decide +kernel
theorem dX2_settle_56 : decode cX2_settle 56 = .ok (.invokevirtual 51, 3) := by decide +kernel
theorem dX2_settle_59 : decode cX2_settle 59 = .ok (.ifCond .eq 15, 3) := by decide +kernel
theorem dX2_settle_62 : decode cX2_settle 62 = .ok (.aload_n 0, 1) := by decide +kernel
theorem dX2_settle_63 : decode cX2_settle 63 = .ok (.getfield 32, 3) := by decide +kernel
theorem dX2_settle_66 : decode cX2_settle 66 = .ok (.getfield 44, 3) := by decide +kernel
theorem dX2_settle_69 : decode cX2_settle 69 = .ok (.iload_n 1, 1) := by decide +kernel
theorem dX2_settle_70 : decode cX2_settle 70 = .ok (.iaload, 1) := by decide +kernel
theorem dX2_settle_71 : decode cX2_settle 71 = .ok (.goto 9, 3) := by decide +kernel
theorem dX2_settle_74 : decode cX2_settle 74 = .ok (.aload_n 0, 1) := by decide +kernel
theorem dX2_settle_75 : decode cX2_settle 75 = .ok (.iload_n 1, 1) := by decide +kernel
theorem dX2_settle_76 : decode cX2_settle 76 = .ok (.iconst 0, 1) := by decide +kernel
theorem dX2_settle_77 : decode cX2_settle 77 = .ok (.invokevirtual 81, 3) := by decide +kernel
theorem dX2_settle_80 : decode cX2_settle 80 = .ok (.iastore, 1) := by decide +kernel
theorem dX2_settle_81 : decode cX2_settle 81 = .ok (.iinc 1 1, 3) := by decide +kernel
theorem dX2_settle_84 : decode cX2_settle 84 = .ok (.goto (-82), 3) := by decide +kernel
theorem dX2_settle_87 : decode cX2_settle 87 = .ok (.aload_n 0, 1) := by decide +kernel
theorem dX2_settle_88 : decode cX2_settle 88 = .ok (.getfield 18, 3) := by decide +kernel
theorem dX2_settle_91 : decode cX2_settle 91 = .ok (.iconst 1, 1) := by decide +kernel
theorem dX2_settle_92 : decode cX2_settle 92 = .ok (.if_icmp .ne 7, 3) := by decide +kernel
theorem dX2_settle_95 : decode cX2_settle 95 = .ok (.aload_n 0, 1) := by decide +kernel
theorem dX2_settle_96 : decode cX2_settle 96 = .ok (.invokevirtual 84, 3) := by decide +kernel
theorem dX2_settle_99 : decode cX2_settle 99 = .ok (.aload_n 0, 1) := by decide +kernel
theorem dX2_settle_100 : decode cX2_settle 100 = .ok (.aload_n 0, 1) := by decide +kernel
theorem dX2_settle_101 : decode cX2_settle 101 = .ok (.getfield 32, 3) := by decide +kernel
theorem dX2_settle_104 : decode cX2_settle 104 = .ok (.getfield 55, 3) := by decide +kernel
theorem dX2_settle_107 : decode cX2_settle 107 = .ok (.ifCond .le 14, 3) := by decide +kernel
theorem dX2_settle_110 : decode cX2_settle 110 = .ok (.aload_n 0, 1) := by decide +kernel
theorem dX2_settle_111 : decode cX2_settle 111 = .ok (.invokevirtual 87, 3) := by decide +kernel
theorem dX2_settle_114 : decode cX2_settle 114 = .ok (.ifCond .eq 7, 3) := by decide +kernel
theorem dX2_settle_117 : decode cX2_settle 117 = .ok (.iconst 1, 1) := by decide +kernel
theorem dX2_settle_118 : decode cX2_settle 118 = .ok (.goto 4, 3) := by decide +kernel
theorem dX2_settle_121 : decode cX2_settle 121 = .ok (.iconst 0, 1) := by decide +kernel
theorem dX2_settle_122 : decode cX2_settle 122 = .ok (.putfield 28, 3) := by decide +kernel
theorem dX2_settle_125 : decode cX2_settle 125 = .ok (.return_, 1) := by decide +kernel
def rX2_settle : Room := { frames := 2, cells := 0, slots := 0, locals := 45 }
theorem yk_X2_settle : YK yX2_settle cX2_settle 2 none 0 := ⟨xim_X2_settle, xse_X2_settle, xin_X2, xco_X2_settle, by decide +kernel⟩
set_option maxRecDepth 4000 in
theorem c_X2_settle {l : Launch} {D : va_G} {t : Nat → ClassId} {a : Nat → Nat} {I : Nat → Int32} {F : Nat → Nat → Int32} {L : Nat → Int64} {K : Cfg} (hK : CFG K I F) (hW : WFK K)  : CT l D t yX2_settle cX2_settle 2 none rX2_settle 0 0 [.ref (a 2)] (WX a t I F L) (VP (fun w => ∃ (I' : Nat → Int32) (F' : Nat → Nat → Int32), w = WX a t I' F' L ∧ (∀ q, q ≠ 5 → I' q = I q) ∧ I' 5 = nI (bn (GoodP K)) ∧ (∀ q, q ≠ 6 → q ≠ 7 → F' q = F q) ∧ RA (kn K) (F' 6) (hS K) ∧ RA (kn K) (F' 7) (lS K))) := by
  refine CT.of (by decide +kernel) (by simp [lg_sl, Value.category]) (fun X C hR => ?_)
  refine xlocals (lv' := [(0, .ref (a 2))]) rfl ?_
  have fn24 := hW.n24; have fm60 := hW.m60; have fk2 := hW.k2; have fu1 := hW.u1; have fu9 := hW.u9; have fv1 := hW.v1; have fv9 := hW.v9
  refine xiconst (v := nI 0) C dX2_settle_0 (by decide) ?_
  refine xistore_n (lv' := [(1, .int (nI 0)), (0, .ref (a 2))]) C dX2_settle_1 (by decide) rfl ?_
  have LP2 : ∀ (fu2 : Nat) (i : Nat) (FA : Nat → Nat → Int32) (hi1 : i ≤ kn K) (hXA : ∀ q, q ≠ 6 → q ≠ 7 → FA q = F q) (hHA : RA i (FA 6) (h0 K)) (hLA : RA i (FA 7) (l0 K)), kn K - i < fu2 → XW X 0 0 (WX a t I FA L) [(0, .ref (a 2)), (1, .int (nI i))] 2 [] := by
    intro fu2
    induction fu2 with
    | zero => intro i FA hi1 hXA hHA hLA hm2; exact absurd hm2 (Nat.not_lt_zero _)
    | succ fu2 ih2 =>
      intro i FA hi1 hXA hHA hLA hm2
      have hKA : CFG K I FA := hK.of (fun _ _ => rfl) (fun q hq => hXA q (by omega) (by omega))
      refine xiload_n C 1 rfl dX2_settle_2 ?_
      refine xaload_n C 0 rfl dX2_settle_3 ?_
      refine gX2_32 C dX2_settle_4 ?_
      refine gX2_55K C hKA dX2_settle_7 ?_
      refine xicmp_geN C 87 dX2_settle_10 (by decide) (by omega) (by omega) (fun h10 => ?_) (fun h10 => ?_)
      ·
        have ei : i = kn K := by omega
        rw [ei] at hHA hLA
        refine xaload_n C 0 rfl dX2_settle_87 ?_
        refine gX2_18K C hKA dX2_settle_88 ?_
        refine xiconst (v := nI 1) C dX2_settle_91 (by decide) ?_
        refine xicmp_neN C 99 dX2_settle_92 (by decide) (by omega) (by omega) (fun h92 => ?_) (fun h92 => ?_)
        ·
          have hHC : RA (kn K) (FA 6) (hS K) := by unfold hS; rw [if_neg h92]; exact hHA
          have hLC : RA (kn K) (FA 7) (lS K) := by unfold lS; rw [if_neg h92]; exact hLA
          refine xaload_n C 0 rfl dX2_settle_99 ?_
          refine xaload_n C 0 rfl dX2_settle_100 ?_
          refine gX2_32 C dX2_settle_101 ?_
          refine gX2_55K C hKA dX2_settle_104 ?_
          refine xif_leN C 121 dX2_settle_107 (by decide) (by omega) (fun h107 => ?_) (fun h107 => ?_)
          ·
            refine xiconst (v := nI 0) C dX2_settle_121 (by decide) ?_
            refine xtopi (y := nI (bn (GoodP K))) (by rw [bn_f (fun q : GoodP K => absurd q.1 (by omega))]) ?_
            refine pX2_28 C (nar_bn _) (fit_bn _) dX2_settle_122 ?_
            exact xvret C hR dX2_settle_125 (⟨rfl, va_up I 5 (nI (bn (GoodP K))), FA, rfl, fun q h => va_up_ne _ _ h, va_up_self _ _ _, hXA, hHC, hLC⟩)
          ·
            refine xaload_n C 0 rfl dX2_settle_110 ?_
            refine xcVR C (c_X2_isSound hKA hW hHC hLC) yk_X2_isSound 2 rfl rfl xml_X2_87 ⟨⟨Nat.le_of_ble_eq_true rfl, Nat.le_of_ble_eq_true rfl⟩, ⟨rfl, rfl⟩, ⟨Nat.zero_le _, Nat.zero_le _⟩⟩ rfl (Nat.le_of_ble_eq_true rfl) dX2_settle_111 ?_
            refine xif_eqN C 121 dX2_settle_114 (by decide) (bn_lt _) (fun h114 => ?_) (fun h114 => ?_)
            ·
              refine xiconst (v := nI 0) C dX2_settle_121 (by decide) ?_
              refine xtopi (y := nI (bn (GoodP K))) (by rw [bn_f (fun q : GoodP K => bn_0 h114 q.2)]) ?_
              refine pX2_28 C (nar_bn _) (fit_bn _) dX2_settle_122 ?_
              exact xvret C hR dX2_settle_125 (⟨rfl, va_up I 5 (nI (bn (GoodP K))), FA, rfl, fun q h => va_up_ne _ _ h, va_up_self _ _ _, hXA, hHC, hLC⟩)
            ·
              refine xiconst (v := nI 1) C dX2_settle_117 (by decide) ?_
              refine xgoto C 122 dX2_settle_118 (by decide) ?_
              refine xtopi (y := nI (bn (GoodP K))) (by rw [bn_t (P := GoodP K) ⟨h107, bn_1 h114⟩]) ?_
              refine pX2_28 C (nar_bn _) (fit_bn _) dX2_settle_122 ?_
              exact xvret C hR dX2_settle_125 (⟨rfl, va_up I 5 (nI (bn (GoodP K))), FA, rfl, fun q h => va_up_ne _ _ h, va_up_self _ _ _, hXA, hHC, hLC⟩)
        ·
          refine xaload_n C 0 rfl dX2_settle_95 ?_
          refine xcVV C (c_X2_drawTogether hKA hW hHA hLA) yk_X2_drawTogether 2 rfl rfl xml_X2_84 ⟨⟨Nat.le_of_ble_eq_true rfl, Nat.le_of_ble_eq_true rfl⟩, ⟨rfl, rfl⟩, ⟨Nat.zero_le _, Nat.zero_le _⟩⟩ rfl (Nat.le_of_ble_eq_true rfl) dX2_settle_96 (fun wE hE => ?_)
          obtain ⟨FB, rfl, hXD, hHB, hLB⟩ := hE
          have hXB : ∀ q, q ≠ 6 → q ≠ 7 → FB q = F q := fun q h1 h2 => (hXD q h1 h2).trans (hXA q h1 h2)
          have hKB : CFG K I FB := hK.of (fun _ _ => rfl) (fun q hq => hXB q (by omega) (by omega))
          have hHC : RA (kn K) (FB 6) (hS K) := by unfold hS; rw [if_pos h92]; exact hHB
          have hLC : RA (kn K) (FB 7) (lS K) := by unfold lS; rw [if_pos h92]; exact hLB
          refine xaload_n C 0 rfl dX2_settle_99 ?_
          refine xaload_n C 0 rfl dX2_settle_100 ?_
          refine gX2_32 C dX2_settle_101 ?_
          refine gX2_55K C hKB dX2_settle_104 ?_
          refine xif_leN C 121 dX2_settle_107 (by decide) (by omega) (fun h107 => ?_) (fun h107 => ?_)
          ·
            refine xiconst (v := nI 0) C dX2_settle_121 (by decide) ?_
            refine xtopi (y := nI (bn (GoodP K))) (by rw [bn_f (fun q : GoodP K => absurd q.1 (by omega))]) ?_
            refine pX2_28 C (nar_bn _) (fit_bn _) dX2_settle_122 ?_
            exact xvret C hR dX2_settle_125 (⟨rfl, va_up I 5 (nI (bn (GoodP K))), FB, rfl, fun q h => va_up_ne _ _ h, va_up_self _ _ _, hXB, hHC, hLC⟩)
          ·
            refine xaload_n C 0 rfl dX2_settle_110 ?_
            refine xcVR C (c_X2_isSound hKB hW hHC hLC) yk_X2_isSound 2 rfl rfl xml_X2_87 ⟨⟨Nat.le_of_ble_eq_true rfl, Nat.le_of_ble_eq_true rfl⟩, ⟨rfl, rfl⟩, ⟨Nat.zero_le _, Nat.zero_le _⟩⟩ rfl (Nat.le_of_ble_eq_true rfl) dX2_settle_111 ?_
            refine xif_eqN C 121 dX2_settle_114 (by decide) (bn_lt _) (fun h114 => ?_) (fun h114 => ?_)
            ·
              refine xiconst (v := nI 0) C dX2_settle_121 (by decide) ?_
              refine xtopi (y := nI (bn (GoodP K))) (by rw [bn_f (fun q : GoodP K => bn_0 h114 q.2)]) ?_
              refine pX2_28 C (nar_bn _) (fit_bn _) dX2_settle_122 ?_
              exact xvret C hR dX2_settle_125 (⟨rfl, va_up I 5 (nI (bn (GoodP K))), FB, rfl, fun q h => va_up_ne _ _ h, va_up_self _ _ _, hXB, hHC, hLC⟩)
            ·
              refine xiconst (v := nI 1) C dX2_settle_117 (by decide) ?_
              refine xgoto C 122 dX2_settle_118 (by decide) ?_
              refine xtopi (y := nI (bn (GoodP K))) (by rw [bn_t (P := GoodP K) ⟨h107, bn_1 h114⟩]) ?_
              refine pX2_28 C (nar_bn _) (fit_bn _) dX2_settle_122 ?_
              exact xvret C hR dX2_settle_125 (⟨rfl, va_up I 5 (nI (bn (GoodP K))), FB, rfl, fun q h => va_up_ne _ _ h, va_up_self _ _ _, hXB, hHC, hLC⟩)
      ·
        refine xaload_n C 0 rfl dX2_settle_13 ?_
        refine gX2_9 C dX2_settle_14 ?_
        refine xiload_n C 1 rfl dX2_settle_17 ?_
        refine xaload_n C 0 rfl dX2_settle_18 ?_
        refine xiload_n C 1 rfl dX2_settle_19 ?_
        refine xcVR C (c_X2_isHeld hKA hW i (by omega)) yk_X2_isHeld 2 rfl rfl xml_X2_51 ⟨⟨Nat.le_of_ble_eq_true rfl, Nat.le_of_ble_eq_true rfl⟩, ⟨rfl, rfl⟩, ⟨Nat.zero_le _, Nat.zero_le _⟩⟩ rfl (Nat.le_of_ble_eq_true rfl) dX2_settle_20 ?_
        have fi20 := bn_le (kk K = 1 ∧ khd K i ≠ 0)
        refine xif_eqN C 38 dX2_settle_23 (by decide) (bn_lt _) (fun h23 => ?_) (fun h23 => ?_)
        ·
          refine xaload_n C 0 rfl dX2_settle_38 ?_
          refine xiload_n C 1 rfl dX2_settle_39 ?_
          refine xaload_n C 0 rfl dX2_settle_40 ?_
          refine xiload_n C 1 rfl dX2_settle_41 ?_
          refine xcVR C (c_X2_most hKA hW i (by omega)) yk_X2_most 2 rfl rfl xml_X2_47 ⟨⟨Nat.le_of_ble_eq_true rfl, Nat.le_of_ble_eq_true rfl⟩, ⟨rfl, rfl⟩, ⟨Nat.zero_le _, Nat.zero_le _⟩⟩ rfl (Nat.le_of_ble_eq_true rfl) dX2_settle_42 ?_
          have fm42 := mostN_le hW (show i < kn K by omega)
          refine xcVR C (c_X2_numberOfHeight hKA hW i (by omega) (mostN K i) (by omega)) yk_X2_numberOfHeight 2 rfl rfl xml_X2_81 ⟨⟨Nat.le_of_ble_eq_true rfl, Nat.le_of_ble_eq_true rfl⟩, ⟨rfl, rfl⟩, ⟨Nat.zero_le _, Nat.zero_le _⟩⟩ rfl (Nat.le_of_ble_eq_true rfl) dX2_settle_45 ?_
          have fo45 : nohN K i (mostN K i) ≤ 5 := nohN_le (by omega)
          refine xtopi (y := nI (h0 K i)) (by rw [h0_free (bn_0 h23)]) ?_
          refine xs_st C 6 (by omega) (by omega) i (by omega) dX2_settle_48 ?_
          obtain ⟨F1, eF1⟩ : ∃ z : Nat → Nat → Int32, z = va_up FA 6 (upd (FA 6) i (nI (h0 K i))) := ⟨_, rfl⟩
          refine xworld (ws' := WX a t I F1 L) (by rw [eF1]) ?_
          have hK1 : CFG K I F1 := by rw [eF1]; exact hKA.upF (by omega) (by omega) _
          have hR1 : RA (i + 1) (F1 6) (h0 K) := by rw [eF1, va_up_self]; exact hHA.snoc (h0_le hW (by omega))
          have hO1 := hLA
          rw [show FA 7 = F1 7 from by rw [eF1, va_up_ne _ _ (by decide)]] at hO1
          have hX1 : ∀ q, q ≠ 6 → q ≠ 7 → F1 q = F q := fun q h1 h2 => by rw [eF1, va_up_ne _ _ (by omega)]; exact hXA q h1 h2
          refine xaload_n C 0 rfl dX2_settle_49 ?_
          refine gX2_15 C dX2_settle_50 ?_
          refine xiload_n C 1 rfl dX2_settle_53 ?_
          refine xaload_n C 0 rfl dX2_settle_54 ?_
          refine xiload_n C 1 rfl dX2_settle_55 ?_
          refine xcVR C (c_X2_isHeld hK1 hW i (by omega)) yk_X2_isHeld 2 rfl rfl xml_X2_51 ⟨⟨Nat.le_of_ble_eq_true rfl, Nat.le_of_ble_eq_true rfl⟩, ⟨rfl, rfl⟩, ⟨Nat.zero_le _, Nat.zero_le _⟩⟩ rfl (Nat.le_of_ble_eq_true rfl) dX2_settle_56 ?_
          have fi56 := bn_le (kk K = 1 ∧ khd K i ≠ 0)
          refine xif_eqN C 74 dX2_settle_59 (by decide) (bn_lt _) (fun h59 => ?_) (fun h59 => ?_)
          ·
            refine xaload_n C 0 rfl dX2_settle_74 ?_
            refine xiload_n C 1 rfl dX2_settle_75 ?_
            refine xiconst (v := nI 0) C dX2_settle_76 (by decide) ?_
            refine xcVR C (c_X2_numberOfHeight hK1 hW i (by omega) 0 (by omega)) yk_X2_numberOfHeight 2 rfl rfl xml_X2_81 ⟨⟨Nat.le_of_ble_eq_true rfl, Nat.le_of_ble_eq_true rfl⟩, ⟨rfl, rfl⟩, ⟨Nat.zero_le _, Nat.zero_le _⟩⟩ rfl (Nat.le_of_ble_eq_true rfl) dX2_settle_77 ?_
            have fo77 : nohN K i 0 ≤ 5 := nohN_le (by omega)
            refine xtopi (y := nI (l0 K i)) (by rw [l0_free (bn_0 h59)]) ?_
            refine xs_st C 7 (by omega) (by omega) i (by omega) dX2_settle_80 ?_
            obtain ⟨F2, eF2⟩ : ∃ z : Nat → Nat → Int32, z = va_up F1 7 (upd (F1 7) i (nI (l0 K i))) := ⟨_, rfl⟩
            refine xworld (ws' := WX a t I F2 L) (by rw [eF2]) ?_
            have hK2 : CFG K I F2 := by rw [eF2]; exact hK1.upF (by omega) (by omega) _
            have hR2 : RA (i + 1) (F2 7) (l0 K) := by rw [eF2, va_up_self]; exact hO1.snoc (l0_le hW (by omega))
            have hO2 := hR1
            rw [show F1 6 = F2 6 from by rw [eF2, va_up_ne _ _ (by decide)]] at hO2
            have hX2 : ∀ q, q ≠ 6 → q ≠ 7 → F2 q = F q := fun q h1 h2 => by rw [eF2, va_up_ne _ _ (by omega)]; exact hX1 q h1 h2
            refine xiincN (lv' := [(1, .int (nI (i + 1))), (0, .ref (a 2))]) C 1 rfl dX2_settle_81 (by decide) rfl ?_
            refine xgoto C 2 dX2_settle_84 (by decide) ?_
            refine xsub [1, 0] rfl ?_
            exact ih2 (i + 1) F2 (by omega) hX2 hO2 hR2 (by omega)
          ·
            refine xaload_n C 0 rfl dX2_settle_62 ?_
            refine gX2_32 C dX2_settle_63 ?_
            refine gX2_44 C dX2_settle_66 ?_
            refine xiload_n C 1 rfl dX2_settle_69 ?_
            refine xa_hd C hK1 hW i (by omega) dX2_settle_70 ?_
            have fb70 := (hW.hd6 (by omega))
            refine xgoto C 80 dX2_settle_71 (by decide) ?_
            refine xtopi (y := nI (l0 K i)) (l0_held hW (by omega) (bn_1 h59)) ?_
            refine xs_st C 7 (by omega) (by omega) i (by omega) dX2_settle_80 ?_
            obtain ⟨F2, eF2⟩ : ∃ z : Nat → Nat → Int32, z = va_up F1 7 (upd (F1 7) i (nI (l0 K i))) := ⟨_, rfl⟩
            refine xworld (ws' := WX a t I F2 L) (by rw [eF2]) ?_
            have hK2 : CFG K I F2 := by rw [eF2]; exact hK1.upF (by omega) (by omega) _
            have hR2 : RA (i + 1) (F2 7) (l0 K) := by rw [eF2, va_up_self]; exact hO1.snoc (l0_le hW (by omega))
            have hO2 := hR1
            rw [show F1 6 = F2 6 from by rw [eF2, va_up_ne _ _ (by decide)]] at hO2
            have hX2 : ∀ q, q ≠ 6 → q ≠ 7 → F2 q = F q := fun q h1 h2 => by rw [eF2, va_up_ne _ _ (by omega)]; exact hX1 q h1 h2
            refine xiincN (lv' := [(1, .int (nI (i + 1))), (0, .ref (a 2))]) C 1 rfl dX2_settle_81 (by decide) rfl ?_
            refine xgoto C 2 dX2_settle_84 (by decide) ?_
            refine xsub [1, 0] rfl ?_
            exact ih2 (i + 1) F2 (by omega) hX2 hO2 hR2 (by omega)
        ·
          refine xaload_n C 0 rfl dX2_settle_26 ?_
          refine gX2_32 C dX2_settle_27 ?_
          refine gX2_44 C dX2_settle_30 ?_
          refine xiload_n C 1 rfl dX2_settle_33 ?_
          refine xa_hd C hKA hW i (by omega) dX2_settle_34 ?_
          have fb34 := (hW.hd6 (by omega))
          refine xgoto C 48 dX2_settle_35 (by decide) ?_
          refine xtopi (y := nI (h0 K i)) (h0_held hW (by omega) (bn_1 h23)) ?_
          refine xs_st C 6 (by omega) (by omega) i (by omega) dX2_settle_48 ?_
          obtain ⟨F1, eF1⟩ : ∃ z : Nat → Nat → Int32, z = va_up FA 6 (upd (FA 6) i (nI (h0 K i))) := ⟨_, rfl⟩
          refine xworld (ws' := WX a t I F1 L) (by rw [eF1]) ?_
          have hK1 : CFG K I F1 := by rw [eF1]; exact hKA.upF (by omega) (by omega) _
          have hR1 : RA (i + 1) (F1 6) (h0 K) := by rw [eF1, va_up_self]; exact hHA.snoc (h0_le hW (by omega))
          have hO1 := hLA
          rw [show FA 7 = F1 7 from by rw [eF1, va_up_ne _ _ (by decide)]] at hO1
          have hX1 : ∀ q, q ≠ 6 → q ≠ 7 → F1 q = F q := fun q h1 h2 => by rw [eF1, va_up_ne _ _ (by omega)]; exact hXA q h1 h2
          refine xaload_n C 0 rfl dX2_settle_49 ?_
          refine gX2_15 C dX2_settle_50 ?_
          refine xiload_n C 1 rfl dX2_settle_53 ?_
          refine xaload_n C 0 rfl dX2_settle_54 ?_
          refine xiload_n C 1 rfl dX2_settle_55 ?_
          refine xcVR C (c_X2_isHeld hK1 hW i (by omega)) yk_X2_isHeld 2 rfl rfl xml_X2_51 ⟨⟨Nat.le_of_ble_eq_true rfl, Nat.le_of_ble_eq_true rfl⟩, ⟨rfl, rfl⟩, ⟨Nat.zero_le _, Nat.zero_le _⟩⟩ rfl (Nat.le_of_ble_eq_true rfl) dX2_settle_56 ?_
          have fi56 := bn_le (kk K = 1 ∧ khd K i ≠ 0)
          refine xif_eqN C 74 dX2_settle_59 (by decide) (bn_lt _) (fun h59 => ?_) (fun h59 => ?_)
          ·
            refine xaload_n C 0 rfl dX2_settle_74 ?_
            refine xiload_n C 1 rfl dX2_settle_75 ?_
            refine xiconst (v := nI 0) C dX2_settle_76 (by decide) ?_
            refine xcVR C (c_X2_numberOfHeight hK1 hW i (by omega) 0 (by omega)) yk_X2_numberOfHeight 2 rfl rfl xml_X2_81 ⟨⟨Nat.le_of_ble_eq_true rfl, Nat.le_of_ble_eq_true rfl⟩, ⟨rfl, rfl⟩, ⟨Nat.zero_le _, Nat.zero_le _⟩⟩ rfl (Nat.le_of_ble_eq_true rfl) dX2_settle_77 ?_
            have fo77 : nohN K i 0 ≤ 5 := nohN_le (by omega)
            refine xtopi (y := nI (l0 K i)) (by rw [l0_free (bn_0 h59)]) ?_
            refine xs_st C 7 (by omega) (by omega) i (by omega) dX2_settle_80 ?_
            obtain ⟨F2, eF2⟩ : ∃ z : Nat → Nat → Int32, z = va_up F1 7 (upd (F1 7) i (nI (l0 K i))) := ⟨_, rfl⟩
            refine xworld (ws' := WX a t I F2 L) (by rw [eF2]) ?_
            have hK2 : CFG K I F2 := by rw [eF2]; exact hK1.upF (by omega) (by omega) _
            have hR2 : RA (i + 1) (F2 7) (l0 K) := by rw [eF2, va_up_self]; exact hO1.snoc (l0_le hW (by omega))
            have hO2 := hR1
            rw [show F1 6 = F2 6 from by rw [eF2, va_up_ne _ _ (by decide)]] at hO2
            have hX2 : ∀ q, q ≠ 6 → q ≠ 7 → F2 q = F q := fun q h1 h2 => by rw [eF2, va_up_ne _ _ (by omega)]; exact hX1 q h1 h2
            refine xiincN (lv' := [(1, .int (nI (i + 1))), (0, .ref (a 2))]) C 1 rfl dX2_settle_81 (by decide) rfl ?_
            refine xgoto C 2 dX2_settle_84 (by decide) ?_
            refine xsub [1, 0] rfl ?_
            exact ih2 (i + 1) F2 (by omega) hX2 hO2 hR2 (by omega)
          ·
            refine xaload_n C 0 rfl dX2_settle_62 ?_
            refine gX2_32 C dX2_settle_63 ?_
            refine gX2_44 C dX2_settle_66 ?_
            refine xiload_n C 1 rfl dX2_settle_69 ?_
            refine xa_hd C hK1 hW i (by omega) dX2_settle_70 ?_
            have fb70 := (hW.hd6 (by omega))
            refine xgoto C 80 dX2_settle_71 (by decide) ?_
            refine xtopi (y := nI (l0 K i)) (l0_held hW (by omega) (bn_1 h59)) ?_
            refine xs_st C 7 (by omega) (by omega) i (by omega) dX2_settle_80 ?_
            obtain ⟨F2, eF2⟩ : ∃ z : Nat → Nat → Int32, z = va_up F1 7 (upd (F1 7) i (nI (l0 K i))) := ⟨_, rfl⟩
            refine xworld (ws' := WX a t I F2 L) (by rw [eF2]) ?_
            have hK2 : CFG K I F2 := by rw [eF2]; exact hK1.upF (by omega) (by omega) _
            have hR2 : RA (i + 1) (F2 7) (l0 K) := by rw [eF2, va_up_self]; exact hO1.snoc (l0_le hW (by omega))
            have hO2 := hR1
            rw [show F1 6 = F2 6 from by rw [eF2, va_up_ne _ _ (by decide)]] at hO2
            have hX2 : ∀ q, q ≠ 6 → q ≠ 7 → F2 q = F q := fun q h1 h2 => by rw [eF2, va_up_ne _ _ (by omega)]; exact hX1 q h1 h2
            refine xiincN (lv' := [(1, .int (nI (i + 1))), (0, .ref (a 2))]) C 1 rfl dX2_settle_81 (by decide) rfl ?_
            refine xgoto C 2 dX2_settle_84 (by decide) ?_
            refine xsub [1, 0] rfl ?_
            exact ih2 (i + 1) F2 (by omega) hX2 hO2 hR2 (by omega)
  refine xsub [1, 0] rfl ?_
  exact LP2 _ 0 F (Nat.zero_le _) (fun q _ _ => rfl) (fun p h => absurd h (Nat.not_lt_zero _)) (fun p h => absurd h (Nat.not_lt_zero _)) (Nat.lt_succ_self _)
end
section
/-! Net (written by my program parts_x1.py). -/
def hasP (K : Cfg) (x : Int32) : Prop := ¬ x < 0 ∧ x < nI (kn K)
theorem hasP_lt {K : Cfg} {x : Int32} (h : x < 0) : ¬ hasP K x := fun q => q.1 h
theorem hasP_ge {K : Cfg} {x : Int32} (hW : WFK K) (h : nI (kn K) ≤ x) : ¬ hasP K x := fun q => Int32.not_lt.mpr h q.2
theorem hasP_of {K : Cfg} {x : Int32} (hW : WFK K) (h1 : ¬ x < 0) (h2 : ¬ nI (kn K) ≤ x) : hasP K x := ⟨h1, Int32.not_le.mp h2⟩
theorem hasP.nat {K : Cfg} {x : Int32} (hW : WFK K) (h : hasP K x) : ∃ q, q < kn K ∧ x = nI q := by
  have := hW.n24
  obtain ⟨q, h1, rfl⟩ := nI_of h.1
  exact ⟨q, (nI_ltI h1 (by omega)).mp h.2, rfl⟩
def lkdP (K : Cfg) (p q : Nat) : Prop := ∃ i, i < kdg K p ∧ knb K p i = q
def likP (K : Cfg) (f : Nat → Nat) (k : Nat) : Prop := f (kla K k) = f (klb K k)
/-- one more place; one more link -/
def addP (K : Cfg) (x y : Nat) : Cfg := (kn K + 1, km K, kk K, ku K, kv K, va_up (ktop K) (kn K) x, va_up (ksi K) (kn K) y, va_up (khd K) (kn K) 0, kdg K, kla K, klb K, knb K)
def insN (f : Nat → Nat) (q : Nat) : Nat → (Nat → Nat)
  | 0 => va_up f 0 q
  | i + 1 => if q < f i then insN (va_up f (i + 1) (f i)) q i else va_up f (i + 1) q
def addL (K : Cfg) (p q : Nat) : Cfg := (kn K, km K + 1, kk K, ku K, kv K, ktop K, ksi K, khd K, va_up (va_up (kdg K) p (kdg K p + 1)) q (kdg K q + 1), va_up (kla K) (km K) p, va_up (klb K) (km K) q, va_up (va_up (knb K) p (insN (knb K p) q (kdg K p))) q (insN (knb K q) p (kdg K q)))
theorem insN_step {f fc : Nat → Nat} {q i d : Nat} (h : insN fc q i = insN f q d) (hi : 0 < i) (hq : q < fc (i - 1)) : insN (va_up fc i (fc (i - 1))) q (i - 1) = insN f q d := by
  obtain ⟨j, rfl⟩ : ∃ j, i = j + 1 := ⟨i - 1, by omega⟩
  rw [← h]
  show insN _ q j = insN fc q (j + 1)
  rw [show insN fc q (j + 1) = if q < fc j then insN (va_up fc (j + 1) (fc j)) q j else va_up fc (j + 1) q from rfl, if_pos (show q < fc j from hq)]
  rfl
theorem insN_rel {fc : Nat → Nat} {i d p : Nat} {FA F1 : Nat → Nat → Int32} (h : ∀ x, x ≤ d → x ≠ i → FA (13 + p) x = nI (fc x) ∧ fc x < 24) (hi : 0 < i) (hd : i ≤ d) (e : F1 = va_up FA (13 + p) (upd (FA (13 + p)) i (nI (fc (i - 1))))) : ∀ x, x ≤ d → x ≠ i - 1 → F1 (13 + p) x = nI (va_up fc i (fc (i - 1)) x) ∧ va_up fc i (fc (i - 1)) x < 24 := by
  intro x h1 h2
  rw [e, va_up_self]
  by_cases hx : x = i
  · subst hx
    rw [va_up_self]
    exact ⟨by simp [upd], (h (x - 1) (by omega) (by omega)).2⟩
  · rw [va_up_ne _ _ hx]
    exact ⟨by simp only [upd, if_neg hx]; exact (h x h1 hx).1, (h x h1 hx).2⟩
theorem insN_end {f fc : Nat → Nat} {q i d p : Nat} {FA : Nat → Nat → Int32} (hf : insN fc q i = insN f q d) (h : ∀ x, x ≤ d → x ≠ i → FA (13 + p) x = nI (fc x) ∧ fc x < 24) (hc : i = 0 ∨ (0 < i ∧ fc (i - 1) ≤ q)) : ∀ x, x ≤ d → upd (FA (13 + p)) i (nI q) x = nI (insN f q d x) := by
  intro x hx
  have e : insN fc q i = va_up fc i q := by
    rcases hc with rfl | ⟨h1, h2⟩
    · rfl
    · obtain ⟨j, rfl⟩ : ∃ j, i = j + 1 := ⟨i - 1, by omega⟩
      rw [show insN fc q (j + 1) = if q < fc j then insN (va_up fc (j + 1) (fc j)) q j else va_up fc (j + 1) q from rfl, if_neg (show ¬ q < fc j from Nat.not_lt.mpr h2)]
  rw [← hf, e]
  unfold upd va_up
  by_cases e2 : x = i
  · rw [if_pos e2, if_pos e2]
  · rw [if_neg e2, if_neg e2]; exact (h x hx e2).1
theorem CFG.addP {K : Cfg} {I : Nat → Int32} {F : Nat → Nat → Int32} (hK : CFG K I F) (hW : WFK K) (hn : kn K < 24) (x y : Nat) : CFG (addP K x y) (va_up I 0 (nI (kn K + 1))) (va_up (va_up (va_up F 0 (upd (F 0) (kn K) (nI x))) 1 (upd (va_up F 0 (upd (F 0) (kn K) (nI x)) 1) (kn K) (nI y))) 2 (upd (va_up (va_up F 0 (upd (F 0) (kn K) (nI x))) 1 (upd (va_up F 0 (upd (F 0) (kn K) (nI x)) 1) (kn K) (nI y)) 2) (kn K) (-1))) := by
  refine ⟨rfl, hK.m, hK.k, hK.u, hK.v, fun p hp => ?_, fun p hp => hK.dg hp, fun p i hp hi => ?_, fun k hk => ⟨hK.la hk, hK.lb hk⟩⟩
  · by_cases e : p = kn K
    · subst e
      refine ⟨?_, ?_, ?_⟩
      · show upd (F 0) (kn K) (nI x) (kn K) = nI (va_up (ktop K) (kn K) x (kn K)); simp [upd, va_up]
      · show upd (F 1) (kn K) (nI y) (kn K) = nI (va_up (ksi K) (kn K) y (kn K)); simp [upd, va_up]
      · show upd (F 2) (kn K) (-1) (kn K) = nI (va_up (khd K) (kn K) 0 (kn K)) - 1; simp [upd, va_up]; decide +kernel
    · have hp2 : p < kn K := by have : p < kn K + 1 := hp; omega
      refine ⟨?_, ?_, ?_⟩
      · show upd (F 0) (kn K) (nI x) p = nI (va_up (ktop K) (kn K) x p); simp only [upd, va_up, if_neg e]; exact hK.top hp2
      · show upd (F 1) (kn K) (nI y) p = nI (va_up (ksi K) (kn K) y p); simp only [upd, va_up, if_neg e]; exact hK.si hp2
      · show upd (F 2) (kn K) (-1) p = nI (va_up (khd K) (kn K) 0 p) - 1; simp only [upd, va_up, if_neg e]; exact hK.hd hp2
  · have hp1 : p < kn K + 1 := hp
    have hi1 : i < kdg K p := hi
    rw [va_up_ne _ _ (by omega), va_up_ne _ _ (by omega), va_up_ne _ _ (by omega)]
    by_cases e : p = kn K
    · rw [e, hW.dg0 (Nat.le_refl _)] at hi1; omega
    · exact hK.nb (by omega) hi1
theorem CFG.addL {K : Cfg} {I : Nat → Int32} {F FA FB FC : Nat → Nat → Int32} (hK : CFG K I F) (hW : WFK K) (hm : km K < 60) {p q : Nat} (hp : p < kn K) (hq : q < kn K) (hne : p ≠ q) (hdp : kdg K p < 6) (hdq : kdg K q < 6) (hA : ∀ j, j ≠ 4 → j ≠ 5 → FA j = F j) (hA4 : FA 4 = upd (F 4) (km K) (nI p)) (hA5 : FA 5 = upd (F 5) (km K) (nI q))
    (hB1 : ∀ j, j ≠ 13 + p → j ≠ 3 → FB j = FA j) (hB2 : ∀ x, x ≤ kdg K p → FB (13 + p) x = nI (insN (knb K p) q (kdg K p) x)) (hB3 : FB 3 = upd (FA 3) p (nI (kdg K p + 1))) (hC1 : ∀ j, j ≠ 13 + q → j ≠ 3 → FC j = FB j) (hC2 : ∀ x, x ≤ kdg K q → FC (13 + q) x = nI (insN (knb K q) p (kdg K q) x)) (hC3 : FC 3 = upd (FB 3) q (nI (kdg K q + 1))) : CFG (addL K p q) (va_up I 1 (nI (km K + 1))) FC := by
  have hn := hW.n24
  have e0 : ∀ j, j < 3 → FC j = F j := fun j hj => by rw [hC1 j (by omega) (by omega), hB1 j (by omega) (by omega), hA j (by omega) (by omega)]
  refine ⟨hK.n, rfl, hK.k, hK.u, hK.v, fun x hx => ?_, fun x hx => ?_, fun x i hx hi => ?_, fun k hk => ?_⟩
  · rw [e0 0 (by omega), e0 1 (by omega), e0 2 (by omega)]; exact ⟨hK.top hx, hK.si hx, hK.hd hx⟩
  · rw [hC3, hB3, hA 3 (by omega) (by omega)]
    show upd (upd (F 3) p _) q _ x = nI (va_up (va_up (kdg K) p (kdg K p + 1)) q (kdg K q + 1) x)
    unfold upd va_up
    by_cases e1 : x = q
    · rw [if_pos e1, if_pos e1]
    · rw [if_neg e1, if_neg e1]
      by_cases e2 : x = p
      · rw [if_pos e2, if_pos e2]
      · rw [if_neg e2, if_neg e2]; exact hK.dg hx
  · have hx' : x < kn K := hx
    have hi' : i < va_up (va_up (kdg K) p (kdg K p + 1)) q (kdg K q + 1) x := hi
    show FC (13 + x) i = nI (va_up (va_up (knb K) p (insN (knb K p) q (kdg K p))) q (insN (knb K q) p (kdg K q)) x i)
    by_cases e1 : x = q
    · subst e1
      rw [va_up_self] at hi' ⊢
      exact hC2 i (by omega)
    · rw [va_up_ne _ _ e1] at hi' ⊢
      rw [hC1 _ (by omega) (by omega)]
      by_cases e2 : x = p
      · subst e2
        rw [va_up_self] at hi' ⊢
        exact hB2 i (by omega)
      · rw [va_up_ne _ _ e2] at hi' ⊢
        rw [hB1 _ (by omega) (by omega), hA _ (by omega) (by omega)]
        exact hK.nb hx' hi'
  · have hk' : k < km K + 1 := hk
    rw [hC1 4 (by omega) (by omega), hB1 4 (by omega) (by omega), hA4, hC1 5 (by omega) (by omega), hB1 5 (by omega) (by omega), hA5]
    show upd (F 4) (km K) (nI p) k = nI (va_up (kla K) (km K) p k) ∧ upd (F 5) (km K) (nI q) k = nI (va_up (klb K) (km K) q k)
    unfold upd va_up
    by_cases e : k = km K
    · rw [if_pos e, if_pos e, if_pos e, if_pos e]; exact ⟨rfl, rfl⟩
    · rw [if_neg e, if_neg e, if_neg e, if_neg e]; exact ⟨hK.la (by omega), hK.lb (by omega)⟩
theorem dX1_has_0 : decode cX1_has 0 = .ok (.iload_n 1, 1) := by decide +kernel
theorem dX1_has_1 : decode cX1_has 1 = .ok (.ifCond .lt 15, 3) := by decide +kernel
theorem dX1_has_4 : decode cX1_has 4 = .ok (.iload_n 1, 1) := by decide +kernel
theorem dX1_has_5 : decode cX1_has 5 = .ok (.aload_n 0, 1) := by decide +kernel
theorem dX1_has_6 : decode cX1_has 6 = .ok (.getfield 35, 3) := by decide +kernel
theorem dX1_has_9 : decode cX1_has 9 = .ok (.if_icmp .ge 7, 3) := by decide +kernel
theorem dX1_has_12 : decode cX1_has 12 = .ok (.iconst 1, 1) := by decide +kernel
theorem dX1_has_13 : decode cX1_has 13 = .ok (.goto 4, 3) := by decide +kernel
theorem dX1_has_16 : decode cX1_has 16 = .ok (.iconst 0, 1) := by decide +kernel
theorem dX1_has_17 : decode cX1_has 17 = .ok (.ireturn, 1) := by decide +kernel
def rX1_has : Room := { frames := 0, cells := 0, slots := 0, locals := 0 }
theorem yk_X1_has : YK yX1_has cX1_has 2 (some .boolean) 1 := ⟨xim_X1_has, xse_X1_has, xin_X1, xco_X1_has, by decide +kernel⟩
set_option maxRecDepth 4000 in
theorem c_X1_has {l : Launch} {D : va_G} {t : Nat → ClassId} {a : Nat → Nat} {I : Nat → Int32} {F : Nat → Nat → Int32} {L : Nat → Int64} {K : Cfg} (hK : CFG K I F) (hW : WFK K) (x : Int32) : CT l D t yX1_has cX1_has 2 (some .boolean) rX1_has 0 0 [.ref (a 1), .int x] (WX a t I F L) (RP (.int (nI (bn (hasP K x)))) (WX a t I F L)) := by
  refine CT.of (by decide +kernel) (by simp [lg_sl, Value.category]) (fun X C hR => ?_)
  refine xlocals (lv' := [(0, .ref (a 1)), (1, .int x)]) rfl ?_
  have fn24 := hW.n24; have fm60 := hW.m60; have fk2 := hW.k2; have fu1 := hW.u1; have fu9 := hW.u9; have fv1 := hW.v1; have fv9 := hW.v9
  refine xiload_n C 1 rfl dX1_has_0 ?_
  refine xif_lt C 16 dX1_has_1 (by decide) (fun h1 => ?_) (fun h1 => ?_)
  ·
    refine xiconst (v := nI 0) C dX1_has_16 (by decide) ?_
    exact xret C hR (by rfl) dX1_has_17 (RPn ((bn_f (hasP_lt h1)).symm))
  ·
    refine xiload_n C 1 rfl dX1_has_4 ?_
    refine xaload_n C 0 rfl dX1_has_5 ?_
    refine gX1_35K C hK dX1_has_6 ?_
    refine xicmp_ge C 16 dX1_has_9 (by decide) (fun h9 => ?_) (fun h9 => ?_)
    ·
      refine xiconst (v := nI 0) C dX1_has_16 (by decide) ?_
      exact xret C hR (by rfl) dX1_has_17 (RPn ((bn_f (hasP_ge hW h9)).symm))
    ·
      refine xiconst (v := nI 1) C dX1_has_12 (by decide) ?_
      refine xgoto C 17 dX1_has_13 (by decide) ?_
      exact xret C hR (by rfl) dX1_has_17 (RPn ((bn_t (hasP_of hW h1 h9)).symm))
theorem dX1_isCrowded_0 : decode cX1_isCrowded 0 = .ok (.aload_n 0, 1) := by decide +kernel
theorem dX1_isCrowded_1 : decode cX1_isCrowded 1 = .ok (.getfield 21, 3) := by decide +kernel
theorem dX1_isCrowded_4 : decode cX1_isCrowded 4 = .ok (.iload_n 1, 1) := by decide +kernel
theorem dX1_isCrowded_5 : decode cX1_isCrowded 5 = .ok (.iaload, 1) := by decide +kernel
theorem dX1_isCrowded_6 : decode cX1_isCrowded 6 = .ok (.bipush 6, 2) := by decide +kernel
theorem dX1_isCrowded_8 : decode cX1_isCrowded 8 = .ok (.if_icmp .lt 7, 3) := by decide +kernel
theorem dX1_isCrowded_11 : decode cX1_isCrowded 11 = .ok (.iconst 1, 1) := by decide +kernel
theorem dX1_isCrowded_12 : decode cX1_isCrowded 12 = .ok (.goto 4, 3) := by decide +kernel
theorem dX1_isCrowded_15 : decode cX1_isCrowded 15 = .ok (.iconst 0, 1) := by decide +kernel
theorem dX1_isCrowded_16 : decode cX1_isCrowded 16 = .ok (.ireturn, 1) := by decide +kernel
def rX1_isCrowded : Room := { frames := 0, cells := 0, slots := 0, locals := 0 }
theorem yk_X1_isCrowded : YK yX1_isCrowded cX1_isCrowded 2 (some .boolean) 1 := ⟨xim_X1_isCrowded, xse_X1_isCrowded, xin_X1, xco_X1_isCrowded, by decide +kernel⟩
set_option maxRecDepth 4000 in
theorem c_X1_isCrowded {l : Launch} {D : va_G} {t : Nat → ClassId} {a : Nat → Nat} {I : Nat → Int32} {F : Nat → Nat → Int32} {L : Nat → Int64} {K : Cfg} (hK : CFG K I F) (hW : WFK K) (p : Nat) (hp : p < kn K) : CT l D t yX1_isCrowded cX1_isCrowded 2 (some .boolean) rX1_isCrowded 0 0 [.ref (a 1), .int (nI p)] (WX a t I F L) (RP (.int (nI (bn (6 ≤ kdg K p)))) (WX a t I F L)) := by
  refine CT.of (by decide +kernel) (by simp [lg_sl, Value.category]) (fun X C hR => ?_)
  refine xlocals (lv' := [(0, .ref (a 1)), (1, .int (nI p))]) rfl ?_
  have fn24 := hW.n24; have fm60 := hW.m60; have fk2 := hW.k2; have fu1 := hW.u1; have fu9 := hW.u9; have fv1 := hW.v1; have fv9 := hW.v9
  refine xaload_n C 0 rfl dX1_isCrowded_0 ?_
  refine gX1_21 C dX1_isCrowded_1 ?_
  refine xiload_n C 1 rfl dX1_isCrowded_4 ?_
  refine xa_dg C hK hW p (by omega) dX1_isCrowded_5 ?_
  have fb5 := hW.dg6 p
  refine xbipush (v := nI 6) C dX1_isCrowded_6 (by decide) ?_
  refine xicmp_ltN C 15 dX1_isCrowded_8 (by decide) (by omega) (by omega) (fun h8 => ?_) (fun h8 => ?_)
  ·
    refine xiconst (v := nI 0) C dX1_isCrowded_15 (by decide) ?_
    exact xret C hR (by rfl) dX1_isCrowded_16 (RPn ((bn_f (by omega)).symm))
  ·
    refine xiconst (v := nI 1) C dX1_isCrowded_11 (by decide) ?_
    refine xgoto C 16 dX1_isCrowded_12 (by decide) ?_
    exact xret C hR (by rfl) dX1_isCrowded_16 (RPn ((bn_t h8).symm))
theorem dX1_areLinked_0 : decode cX1_areLinked 0 = .ok (.iconst 0, 1) := by decide +kernel
theorem dX1_areLinked_1 : decode cX1_areLinked 1 = .ok (.istore_n 3, 1) := by decide +kernel
theorem dX1_areLinked_2 : decode cX1_areLinked 2 = .ok (.iload_n 3, 1) := by decide +kernel
theorem dX1_areLinked_3 : decode cX1_areLinked 3 = .ok (.aload_n 0, 1) := by decide +kernel
theorem dX1_areLinked_4 : decode cX1_areLinked 4 = .ok (.getfield 21, 3) := by decide +kernel
theorem dX1_areLinked_7 : decode cX1_areLinked 7 = .ok (.iload_n 1, 1) := by decide +kernel
theorem dX1_areLinked_8 : decode cX1_areLinked 8 = .ok (.iaload, 1) := by decide +kernel
theorem dX1_areLinked_9 : decode cX1_areLinked 9 = .ok (.if_icmp .ge 23, 3) := by decide +kernel
theorem dX1_areLinked_12 : decode cX1_areLinked 12 = .ok (.aload_n 0, 1) := by decide +kernel
theorem dX1_areLinked_13 : decode cX1_areLinked 13 = .ok (.getfield 26, 3) := by decide +kernel
theorem dX1_areLinked_16 : decode cX1_areLinked 16 = .ok (.iload_n 1, 1) := by decide +kernel
theorem dX1_areLinked_17 : decode cX1_areLinked 17 = .ok (.aaload, 1) := by decide +kernel
theorem dX1_areLinked_18 : decode cX1_areLinked 18 = .ok (.iload_n 3, 1) := by decide +kernel
theorem dX1_areLinked_19 : decode cX1_areLinked 19 = .ok (.iaload, 1) := by decide +kernel
theorem dX1_areLinked_20 : decode cX1_areLinked 20 = .ok (.iload_n 2, 1) := by decide +kernel
theorem dX1_areLinked_21 : decode cX1_areLinked 21 = .ok (.if_icmp .ne 5, 3) := by decide +kernel
theorem dX1_areLinked_24 : decode cX1_areLinked 24 = .ok (.iconst 1, 1) := by decide +kernel
theorem dX1_areLinked_25 : decode cX1_areLinked 25 = .ok (.ireturn, 1) := by decide +kernel
theorem dX1_areLinked_26 : decode cX1_areLinked 26 = .ok (.iinc 3 1, 3) := by decide +kernel
theorem dX1_areLinked_29 : decode cX1_areLinked 29 = .ok (.goto (-27), 3) := by decide +kernel
theorem dX1_areLinked_32 : decode cX1_areLinked 32 = .ok (.iconst 0, 1) := by decide +kernel
theorem dX1_areLinked_33 : decode cX1_areLinked 33 = .ok (.ireturn, 1) := by decide +kernel
def rX1_areLinked : Room := { frames := 0, cells := 0, slots := 0, locals := 0 }
theorem yk_X1_areLinked : YK yX1_areLinked cX1_areLinked 4 (some .boolean) 2 := ⟨xim_X1_areLinked, xse_X1_areLinked, xin_X1, xco_X1_areLinked, by decide +kernel⟩
set_option maxRecDepth 4000 in
theorem c_X1_areLinked {l : Launch} {D : va_G} {t : Nat → ClassId} {a : Nat → Nat} {I : Nat → Int32} {F : Nat → Nat → Int32} {L : Nat → Int64} {K : Cfg} (hK : CFG K I F) (hW : WFK K) (p : Nat) (hp : p < kn K) (q : Nat) (hq : q < kn K) : CT l D t yX1_areLinked cX1_areLinked 4 (some .boolean) rX1_areLinked 0 0 [.ref (a 1), .int (nI p), .int (nI q)] (WX a t I F L) (RP (.int (nI (bn (lkdP K p q)))) (WX a t I F L)) := by
  refine CT.of (by decide +kernel) (by simp [lg_sl, Value.category]) (fun X C hR => ?_)
  refine xlocals (lv' := [(0, .ref (a 1)), (1, .int (nI p)), (2, .int (nI q))]) rfl ?_
  have fn24 := hW.n24; have fm60 := hW.m60; have fk2 := hW.k2; have fu1 := hW.u1; have fu9 := hW.u9; have fv1 := hW.v1; have fv9 := hW.v9
  refine xiconst (v := nI 0) C dX1_areLinked_0 (by decide) ?_
  refine xistore_n (lv' := [(3, .int (nI 0)), (0, .ref (a 1)), (1, .int (nI p)), (2, .int (nI q))]) C dX1_areLinked_1 (by decide) rfl ?_
  have LP2 : ∀ (fu2 : Nat) (i : Nat) (hi : i ≤ kdg K p) (ha : ∀ x, x < i → ¬ knb K p x = q), kdg K p - i < fu2 → XW X 0 0 (WX a t I F L) [(0, .ref (a 1)), (1, .int (nI p)), (2, .int (nI q)), (3, .int (nI i))] 2 [] := by
    intro fu2
    induction fu2 with
    | zero => intro i hi ha hm2; exact absurd hm2 (Nat.not_lt_zero _)
    | succ fu2 ih2 =>
      intro i hi ha hm2
      refine xiload_n C 3 rfl dX1_areLinked_2 ?_
      refine xaload_n C 0 rfl dX1_areLinked_3 ?_
      refine gX1_21 C dX1_areLinked_4 ?_
      refine xiload_n C 1 rfl dX1_areLinked_7 ?_
      refine xa_dg C hK hW p (by omega) dX1_areLinked_8 ?_
      have fb8 := hW.dg6 p
      refine xicmp_geN C 32 dX1_areLinked_9 (by decide) (by omega) (by omega) (fun h9 => ?_) (fun h9 => ?_)
      ·
        refine xiconst (v := nI 0) C dX1_areLinked_32 (by decide) ?_
        exact xret C hR (by rfl) dX1_areLinked_33 (RPn ((bn_f (fun ⟨x, h1, h2⟩ => ha x (by omega) h2)).symm))
      ·
        refine xaload_n C 0 rfl dX1_areLinked_12 ?_
        refine gX1_26 C dX1_areLinked_13 ?_
        refine xiload_n C 1 rfl dX1_areLinked_16 ?_
        refine xa_out C p (by omega) dX1_areLinked_17 ?_
        refine xiload_n C 3 rfl dX1_areLinked_18 ?_
        refine xa_nb C hK hW p i (by omega) (by omega) dX1_areLinked_19 ?_
        have fb19 := hW.nb (show p < kn K by omega) (show i < kdg K p by omega)
        refine xiload_n C 2 rfl dX1_areLinked_20 ?_
        refine xicmp_neN C 26 dX1_areLinked_21 (by decide) (by omega) (by omega) (fun h21 => ?_) (fun h21 => ?_)
        ·
          refine xiincN (lv' := [(3, .int (nI (i + 1))), (0, .ref (a 1)), (1, .int (nI p)), (2, .int (nI q))]) C 3 rfl dX1_areLinked_26 (by decide) rfl ?_
          refine xgoto C 2 dX1_areLinked_29 (by decide) ?_
          refine xsub [1, 2, 3, 0] rfl ?_
          exact ih2 (i + 1) (by omega) (lt_s ha h21) (by omega)
        ·
          refine xiconst (v := nI 1) C dX1_areLinked_24 (by decide) ?_
          exact xret C hR (by rfl) dX1_areLinked_25 (RPn ((bn_t ⟨i, by omega, h21⟩).symm))
  refine xsub [1, 2, 3, 0] rfl ?_
  exact LP2 _ 0 (Nat.zero_le _) (fun p h => absurd h (Nat.not_lt_zero _)) (Nat.lt_succ_self _)
theorem dX1_likeLinks_0 : decode cX1_likeLinks 0 = .ok (.iconst 0, 1) := by decide +kernel
theorem dX1_likeLinks_1 : decode cX1_likeLinks 1 = .ok (.istore_n 2, 1) := by decide +kernel
theorem dX1_likeLinks_2 : decode cX1_likeLinks 2 = .ok (.iconst 0, 1) := by decide +kernel
theorem dX1_likeLinks_3 : decode cX1_likeLinks 3 = .ok (.istore_n 3, 1) := by decide +kernel
theorem dX1_likeLinks_4 : decode cX1_likeLinks 4 = .ok (.iload_n 3, 1) := by decide +kernel
theorem dX1_likeLinks_5 : decode cX1_likeLinks 5 = .ok (.aload_n 0, 1) := by decide +kernel
theorem dX1_likeLinks_6 : decode cX1_likeLinks 6 = .ok (.getfield 39, 3) := by decide +kernel
theorem dX1_likeLinks_9 : decode cX1_likeLinks 9 = .ok (.if_icmp .ge 31, 3) := by decide +kernel
theorem dX1_likeLinks_12 : decode cX1_likeLinks 12 = .ok (.aload_n 1, 1) := by decide +kernel
theorem dX1_likeLinks_13 : decode cX1_likeLinks 13 = .ok (.aload_n 0, 1) := by decide +kernel
theorem dX1_likeLinks_14 : decode cX1_likeLinks 14 = .ok (.getfield 29, 3) := by decide +kernel
theorem dX1_likeLinks_17 : decode cX1_likeLinks 17 = .ok (.iload_n 3, 1) := by decide +kernel
theorem dX1_likeLinks_18 : decode cX1_likeLinks 18 = .ok (.iaload, 1) := by decide +kernel
theorem dX1_likeLinks_19 : decode cX1_likeLinks 19 = .ok (.iaload, 1) := by decide +kernel
theorem dX1_likeLinks_20 : decode cX1_likeLinks 20 = .ok (.aload_n 1, 1) := by decide +kernel
theorem dX1_likeLinks_21 : decode cX1_likeLinks 21 = .ok (.aload_n 0, 1) := by decide +kernel
theorem dX1_likeLinks_22 : decode cX1_likeLinks 22 = .ok (.getfield 32, 3) := by decide +kernel
theorem dX1_likeLinks_25 : decode cX1_likeLinks 25 = .ok (.iload_n 3, 1) := by decide +kernel
theorem dX1_likeLinks_26 : decode cX1_likeLinks 26 = .ok (.iaload, 1) := by decide +kernel
theorem dX1_likeLinks_27 : decode cX1_likeLinks 27 = .ok (.iaload, 1) := by decide +kernel
theorem dX1_likeLinks_28 : decode cX1_likeLinks 28 = .ok (.if_icmp .ne 6, 3) := by decide +kernel
theorem dX1_likeLinks_31 : decode cX1_likeLinks 31 = .ok (.iinc 2 1, 3) := by decide +kernel
theorem dX1_likeLinks_34 : decode cX1_likeLinks 34 = .ok (.iinc 3 1, 3) := by decide +kernel
theorem dX1_likeLinks_37 : decode cX1_likeLinks 37 = .ok (.goto (-33), 3) := by decide +kernel
theorem dX1_likeLinks_40 : decode cX1_likeLinks 40 = .ok (.iload_n 2, 1) := by decide +kernel
theorem dX1_likeLinks_41 : decode cX1_likeLinks 41 = .ok (.ireturn, 1) := by decide +kernel
def rX1_likeLinks : Room := { frames := 0, cells := 0, slots := 0, locals := 0 }
theorem yk_X1_likeLinks : YK yX1_likeLinks cX1_likeLinks 4 (some .int) 1 := ⟨xim_X1_likeLinks, xse_X1_likeLinks, xin_X1, xco_X1_likeLinks, by decide +kernel⟩
set_option maxRecDepth 4000 in
theorem c_X1_likeLinks {l : Launch} {D : va_G} {t : Nat → ClassId} {a : Nat → Nat} {I : Nat → Int32} {F : Nat → Nat → Int32} {L : Nat → Int64} {K : Cfg} (hK : CFG K I F) (hW : WFK K) (j : Nat) (h6 : 6 ≤ j) (hj : j < 13) {f : Nat → Nat} (hS : RA (kn K) (F j) f) : CT l D t yX1_likeLinks cX1_likeLinks 4 (some .int) rX1_likeLinks 0 0 [.ref (a 1), .ref (a (8 + j))] (WX a t I F L) (RP (.int (nI (cn (likP K f) (km K)))) (WX a t I F L)) := by
  refine CT.of (by decide +kernel) (by simp [lg_sl, Value.category]) (fun X C hR => ?_)
  refine xlocals (lv' := [(0, .ref (a 1)), (1, .ref (a (8 + j)))]) rfl ?_
  have fn24 := hW.n24; have fm60 := hW.m60; have fk2 := hW.k2; have fu1 := hW.u1; have fu9 := hW.u9; have fv1 := hW.v1; have fv9 := hW.v9
  refine xiconst (v := nI 0) C dX1_likeLinks_0 (by decide) ?_
  refine xistore_n (lv' := [(2, .int (nI 0)), (0, .ref (a 1)), (1, .ref (a (8 + j)))]) C dX1_likeLinks_1 (by decide) rfl ?_
  refine xiconst (v := nI 0) C dX1_likeLinks_2 (by decide) ?_
  refine xistore_n (lv' := [(3, .int (nI 0)), (2, .int (nI 0)), (0, .ref (a 1)), (1, .ref (a (8 + j)))]) C dX1_likeLinks_3 (by decide) rfl ?_
  have LP4 : ∀ (fu4 : Nat) (k : Nat) (hk : k ≤ km K), km K - k < fu4 → XW X 0 0 (WX a t I F L) [(0, .ref (a 1)), (1, .ref (a (8 + j))), (2, .int (nI (cn (likP K f) k))), (3, .int (nI k))] 4 [] := by
    intro fu4
    induction fu4 with
    | zero => intro k hk hm4; exact absurd hm4 (Nat.not_lt_zero _)
    | succ fu4 ih4 =>
      intro k hk hm4
      refine xiload_n C 3 rfl dX1_likeLinks_4 ?_
      refine xaload_n C 0 rfl dX1_likeLinks_5 ?_
      refine gX1_39K C hK dX1_likeLinks_6 ?_
      refine xicmp_geN C 40 dX1_likeLinks_9 (by decide) (by omega) (by omega) (fun h9 => ?_) (fun h9 => ?_)
      ·
        refine xiload_n C 2 rfl dX1_likeLinks_40 ?_
        exact xret C hR (rfl) dX1_likeLinks_41 (RPn (by (have e : k = km K := (by omega)); subst e; rfl))
      ·
        refine xaload_n C 1 rfl dX1_likeLinks_12 ?_
        refine xaload_n C 0 rfl dX1_likeLinks_13 ?_
        refine gX1_29 C dX1_likeLinks_14 ?_
        refine xiload_n C 3 rfl dX1_likeLinks_17 ?_
        refine xa_la C hK hW k (by omega) dX1_likeLinks_18 ?_
        have fb18 := (hW.la (by omega))
        refine xa_st C hW j h6 hj hS (kla K k) (by omega) dX1_likeLinks_19 ?_
        have fb19 := (hS (kla K k) (by omega)).2
        refine xaload_n C 1 rfl dX1_likeLinks_20 ?_
        refine xaload_n C 0 rfl dX1_likeLinks_21 ?_
        refine gX1_32 C dX1_likeLinks_22 ?_
        refine xiload_n C 3 rfl dX1_likeLinks_25 ?_
        refine xa_lb C hK hW k (by omega) dX1_likeLinks_26 ?_
        have fb26 := (hW.lb (by omega))
        refine xa_st C hW j h6 hj hS (klb K k) (by omega) dX1_likeLinks_27 ?_
        have fb27 := (hS (klb K k) (by omega)).2
        refine xicmp_neN C 34 dX1_likeLinks_28 (by decide) (by omega) (by omega) (fun h28 => ?_) (fun h28 => ?_)
        ·
          refine xlocals (lv' := [(0, .ref (a 1)), (1, .ref (a (8 + j))), (2, .int (nI (cn (likP K f) (k + 1)))), (3, .int (nI k))]) (by rw [show cn (likP K f) (k + 1) = cn (likP K f) k + bn (likP K f k) from rfl, bn_f (P := likP K f k) h28, Nat.add_zero]) ?_
          refine xiincN (lv' := [(3, .int (nI (k + 1))), (0, .ref (a 1)), (1, .ref (a (8 + j))), (2, .int (nI (cn (likP K f) (k + 1))))]) C 3 rfl dX1_likeLinks_34 (by decide) rfl ?_
          refine xgoto C 4 dX1_likeLinks_37 (by decide) ?_
          refine xsub [1, 2, 3, 0] rfl ?_
          exact ih4 (k + 1) (by omega) (by omega)
        ·
          refine xiincN (lv' := [(2, .int (nI (cn (likP K f) k + 1))), (0, .ref (a 1)), (1, .ref (a (8 + j))), (3, .int (nI k))]) C 2 rfl dX1_likeLinks_31 (by decide) rfl ?_
          refine xlocals (lv' := [(2, .int (nI (cn (likP K f) (k + 1)))), (0, .ref (a 1)), (1, .ref (a (8 + j))), (3, .int (nI k))]) (by rw [show cn (likP K f) (k + 1) = cn (likP K f) k + bn (likP K f k) from rfl, bn_t (P := likP K f k) h28]) ?_
          refine xiincN (lv' := [(3, .int (nI (k + 1))), (2, .int (nI (cn (likP K f) (k + 1)))), (0, .ref (a 1)), (1, .ref (a (8 + j)))]) C 3 rfl dX1_likeLinks_34 (by decide) rfl ?_
          refine xgoto C 4 dX1_likeLinks_37 (by decide) ?_
          refine xsub [2, 3, 1, 0] rfl ?_
          exact ih4 (k + 1) (by omega) (by omega)
  refine xsub [2, 3, 1, 0] rfl ?_
  exact LP4 _ 0 (Nat.zero_le _) (Nat.lt_succ_self _)
theorem dX1_addPlace_0 : decode cX1_addPlace 0 = .ok (.aload_n 0, 1) := by decide +kernel
theorem dX1_addPlace_1 : decode cX1_addPlace 1 = .ok (.getfield 9, 3) := by decide +kernel
theorem dX1_addPlace_4 : decode cX1_addPlace 4 = .ok (.aload_n 0, 1) := by decide +kernel
theorem dX1_addPlace_5 : decode cX1_addPlace 5 = .ok (.getfield 35, 3) := by decide +kernel
theorem dX1_addPlace_8 : decode cX1_addPlace 8 = .ok (.iload_n 1, 1) := by decide +kernel
theorem dX1_addPlace_9 : decode cX1_addPlace 9 = .ok (.iastore, 1) := by decide +kernel
theorem dX1_addPlace_10 : decode cX1_addPlace 10 = .ok (.aload_n 0, 1) := by decide +kernel
theorem dX1_addPlace_11 : decode cX1_addPlace 11 = .ok (.getfield 15, 3) := by decide +kernel
theorem dX1_addPlace_14 : decode cX1_addPlace 14 = .ok (.aload_n 0, 1) := by decide +kernel
theorem dX1_addPlace_15 : decode cX1_addPlace 15 = .ok (.getfield 35, 3) := by decide +kernel
theorem dX1_addPlace_18 : decode cX1_addPlace 18 = .ok (.iload_n 2, 1) := by decide +kernel
theorem dX1_addPlace_19 : decode cX1_addPlace 19 = .ok (.iastore, 1) := by decide +kernel
theorem dX1_addPlace_20 : decode cX1_addPlace 20 = .ok (.aload_n 0, 1) := by decide +kernel
theorem dX1_addPlace_21 : decode cX1_addPlace 21 = .ok (.getfield 18, 3) := by decide +kernel
theorem dX1_addPlace_24 : decode cX1_addPlace 24 = .ok (.aload_n 0, 1) := by decide +kernel
theorem dX1_addPlace_25 : decode cX1_addPlace 25 = .ok (.getfield 35, 3) := by decide +kernel
theorem dX1_addPlace_28 : decode cX1_addPlace 28 = .ok (.iconst (-1), 1) := by decide +kernel
theorem dX1_addPlace_29 : decode cX1_addPlace 29 = .ok (.iastore, 1) := by decide +kernel
theorem dX1_addPlace_30 : decode cX1_addPlace 30 = .ok (.aload_n 0, 1) := by decide +kernel
theorem dX1_addPlace_31 : decode cX1_addPlace 31 = .ok (.dup, 1) := by decide +kernel
theorem dX1_addPlace_32 : decode cX1_addPlace 32 = .ok (.getfield 35, 3) := by decide +kernel
theorem dX1_addPlace_35 : decode cX1_addPlace 35 = .ok (.iconst 1, 1) := by decide +kernel
theorem dX1_addPlace_36 : decode cX1_addPlace 36 = .ok (.iadd, 1) := by decide +kernel
theorem dX1_addPlace_37 : decode cX1_addPlace 37 = .ok (.putfield 35, 3) := by decide +kernel
theorem dX1_addPlace_40 : decode cX1_addPlace 40 = .ok (.aload_n 0, 1) := by decide +kernel
theorem dX1_addPlace_41 : decode cX1_addPlace 41 = .ok (.getfield 35, 3) := by decide +kernel
theorem dX1_addPlace_44 : decode cX1_addPlace 44 = .ok (.iconst 1, 1) := by decide +kernel
theorem dX1_addPlace_45 : decode cX1_addPlace 45 = .ok (.isub, 1) := by decide +kernel
theorem dX1_addPlace_46 : decode cX1_addPlace 46 = .ok (.ireturn, 1) := by decide +kernel
def rX1_addPlace : Room := { frames := 0, cells := 0, slots := 0, locals := 0 }
theorem yk_X1_addPlace : YK yX1_addPlace cX1_addPlace 3 (some .int) 2 := ⟨xim_X1_addPlace, xse_X1_addPlace, xin_X1, xco_X1_addPlace, by decide +kernel⟩
set_option maxRecDepth 4000 in
theorem c_X1_addPlace {l : Launch} {D : va_G} {t : Nat → ClassId} {a : Nat → Nat} {I : Nat → Int32} {F : Nat → Nat → Int32} {L : Nat → Int64} {K : Cfg} (hK : CFG K I F) (hW : WFK K) (hn : kn K < 24) (x y : Nat) (hx : x ≤ 5) (hy : y ≤ 1) : CT l D t yX1_addPlace cX1_addPlace 3 (some .int) rX1_addPlace 0 0 [.ref (a 1), .int (nI x), .int (nI y)] (WX a t I F L) (EP (fun v w => v = .int (nI (kn K)) ∧ ∃ (I' : Nat → Int32) (F' : Nat → Nat → Int32), w = WX a t I' F' L ∧ CFG (addP K x y) I' F' ∧ (∀ j, 6 ≤ j → j < 13 → F' j = F j) ∧ (∀ k, 5 ≤ k → I' k = I k))) := by
  refine CT.of (by decide +kernel) (by simp [lg_sl, Value.category]) (fun X C hR => ?_)
  refine xlocals (lv' := [(0, .ref (a 1)), (1, .int (nI x)), (2, .int (nI y))]) rfl ?_
  have fn24 := hW.n24; have fm60 := hW.m60; have fk2 := hW.k2; have fu1 := hW.u1; have fu9 := hW.u9; have fv1 := hW.v1; have fv9 := hW.v9
  refine xaload_n C 0 rfl dX1_addPlace_0 ?_
  refine gX1_9 C dX1_addPlace_1 ?_
  refine xaload_n C 0 rfl dX1_addPlace_4 ?_
  refine gX1_35 C dX1_addPlace_5 ?_
  refine xtopi (y := nI (kn K)) (hK.n) ?_
  refine xiload_n C 1 rfl dX1_addPlace_8 ?_
  refine xs_raw C 0 (by omega) (kn K) (show _ < 24 by omega) dX1_addPlace_9 ?_
  refine xaload_n C 0 rfl dX1_addPlace_10 ?_
  refine gX1_15 C dX1_addPlace_11 ?_
  refine xaload_n C 0 rfl dX1_addPlace_14 ?_
  refine gX1_35 C dX1_addPlace_15 ?_
  refine xtopi (y := nI (kn K)) (hK.n) ?_
  refine xiload_n C 2 rfl dX1_addPlace_18 ?_
  refine xs_raw C 1 (by omega) (kn K) (show _ < 24 by omega) dX1_addPlace_19 ?_
  refine xaload_n C 0 rfl dX1_addPlace_20 ?_
  refine gX1_18 C dX1_addPlace_21 ?_
  refine xaload_n C 0 rfl dX1_addPlace_24 ?_
  refine gX1_35 C dX1_addPlace_25 ?_
  refine xtopi (y := nI (kn K)) (hK.n) ?_
  refine xiconst (v := -1) C dX1_addPlace_28 (by decide) ?_
  refine xs_raw C 2 (by omega) (kn K) (show _ < 24 by omega) dX1_addPlace_29 ?_
  refine xaload_n C 0 rfl dX1_addPlace_30 ?_
  refine xdup C dX1_addPlace_31 rfl ?_
  refine gX1_35 C dX1_addPlace_32 ?_
  refine xtopi (y := nI (kn K)) (hK.n) ?_
  refine xiconst (v := nI 1) C dX1_addPlace_35 (by decide) ?_
  refine xiaddN C dX1_addPlace_36 ?_
  refine pX1_35 C dX1_addPlace_37 ?_
  refine xaload_n C 0 rfl dX1_addPlace_40 ?_
  refine gX1_35 C dX1_addPlace_41 ?_
  refine xtopi (y := nI (kn K + 1)) (va_up_self _ _ _) ?_
  refine xiconst (v := nI 1) C dX1_addPlace_44 (by decide) ?_
  refine xisubN C (by omega) dX1_addPlace_45 ?_
  exact xret C hR (rfl) dX1_addPlace_46 (⟨_, rfl, by rw [show kn K + 1 - 1 = kn K by omega], _, _, rfl, CFG.addP hK hW hn x y, fun j h1 h2 => by rw [va_up_ne _ _ (by omega), va_up_ne _ _ (by omega), va_up_ne _ _ (by omega)], fun k hk => va_up_ne _ _ (by omega)⟩)
theorem dX1_addNeighbour_0 : decode cX1_addNeighbour 0 = .ok (.aload_n 0, 1) := by decide +kernel
theorem dX1_addNeighbour_1 : decode cX1_addNeighbour 1 = .ok (.getfield 26, 3) := by decide +kernel
theorem dX1_addNeighbour_4 : decode cX1_addNeighbour 4 = .ok (.iload_n 1, 1) := by decide +kernel
theorem dX1_addNeighbour_5 : decode cX1_addNeighbour 5 = .ok (.aaload, 1) := by decide +kernel
theorem dX1_addNeighbour_6 : decode cX1_addNeighbour 6 = .ok (.astore_n 3, 1) := by decide +kernel
theorem dX1_addNeighbour_7 : decode cX1_addNeighbour 7 = .ok (.aload_n 0, 1) := by decide +kernel
theorem dX1_addNeighbour_8 : decode cX1_addNeighbour 8 = .ok (.getfield 21, 3) := by decide +kernel
theorem dX1_addNeighbour_11 : decode cX1_addNeighbour 11 = .ok (.iload_n 1, 1) := by decide +kernel
theorem dX1_addNeighbour_12 : decode cX1_addNeighbour 12 = .ok (.iaload, 1) := by decide +kernel
theorem dX1_addNeighbour_13 : decode cX1_addNeighbour 13 = .ok (.istore 4, 2) := by decide +kernel
theorem dX1_addNeighbour_15 : decode cX1_addNeighbour 15 = .ok (.iload 4, 2) := by decide +kernel
theorem dX1_addNeighbour_17 : decode cX1_addNeighbour 17 = .ok (.ifCond .le 29, 3) := by decide +kernel
theorem dX1_addNeighbour_20 : decode cX1_addNeighbour 20 = .ok (.aload_n 3, 1) := by decide +kernel
theorem dX1_addNeighbour_21 : decode cX1_addNeighbour 21 = .ok (.iload 4, 2) := by decide +kernel
theorem dX1_addNeighbour_23 : decode cX1_addNeighbour 23 = .ok (.iconst 1, 1) := by decide +kernel
theorem dX1_addNeighbour_24 : decode cX1_addNeighbour 24 = .ok (.isub, 1) := by decide +kernel
theorem dX1_addNeighbour_25 : decode cX1_addNeighbour 25 = .ok (.iaload, 1) := by decide +kernel
theorem dX1_addNeighbour_26 : decode cX1_addNeighbour 26 = .ok (.iload_n 2, 1) := by decide +kernel
theorem dX1_addNeighbour_27 : decode cX1_addNeighbour 27 = .ok (.if_icmp .le 19, 3) := by decide +kernel
theorem dX1_addNeighbour_30 : decode cX1_addNeighbour 30 = .ok (.aload_n 3, 1) := by decide +kernel
theorem dX1_addNeighbour_31 : decode cX1_addNeighbour 31 = .ok (.iload 4, 2) := by decide +kernel
theorem dX1_addNeighbour_33 : decode cX1_addNeighbour 33 = .ok (.aload_n 3, 1) := by decide +kernel
theorem dX1_addNeighbour_34 : decode cX1_addNeighbour 34 = .ok (.iload 4, 2) := by decide +kernel
theorem dX1_addNeighbour_36 : decode cX1_addNeighbour 36 = .ok (.iconst 1, 1) := by decide +kernel
theorem dX1_addNeighbour_37 : decode cX1_addNeighbour 37 = .ok (.isub, 1) := by decide +kernel
theorem dX1_addNeighbour_38 : decode cX1_addNeighbour 38 = .ok (.iaload, 1) := by decide +kernel
theorem dX1_addNeighbour_39 : decode cX1_addNeighbour 39 = .ok (.iastore, 1) := by decide +kernel
theorem dX1_addNeighbour_40 : decode cX1_addNeighbour 40 = .ok (.iinc 4 (-1), 3) := by decide +kernel
theorem dX1_addNeighbour_43 : decode cX1_addNeighbour 43 = .ok (.goto (-28), 3) := by decide +kernel
theorem dX1_addNeighbour_46 : decode cX1_addNeighbour 46 = .ok (.aload_n 3, 1) := by decide +kernel
theorem dX1_addNeighbour_47 : decode cX1_addNeighbour 47 = .ok (.iload 4, 2) := by decide +kernel
theorem dX1_addNeighbour_49 : decode cX1_addNeighbour 49 = .ok (.iload_n 2, 1) := by decide +kernel
theorem dX1_addNeighbour_50 : decode cX1_addNeighbour 50 = .ok (.iastore, 1) := by decide +kernel
theorem dX1_addNeighbour_51 : decode cX1_addNeighbour 51 = .ok (.aload_n 0, 1) := by decide +kernel
theorem dX1_addNeighbour_52 : decode cX1_addNeighbour 52 = .ok (.getfield 21, 3) := by decide +kernel
theorem dX1_addNeighbour_55 : decode cX1_addNeighbour 55 = .ok (.iload_n 1, 1) := by decide +kernel
theorem dX1_addNeighbour_56 : decode cX1_addNeighbour 56 = .ok (.dup2, 1) := by decide +kernel
theorem dX1_addNeighbour_57 : decode cX1_addNeighbour 57 = .ok (.iaload, 1) := by decide +kernel
theorem dX1_addNeighbour_58 : decode cX1_addNeighbour 58 = .ok (.iconst 1, 1) := by decide +kernel
theorem dX1_addNeighbour_59 : decode cX1_addNeighbour 59 = .ok (.iadd, 1) := by decide +kernel
theorem dX1_addNeighbour_60 : decode cX1_addNeighbour 60 = .ok (.iastore, 1) := by decide +kernel
theorem dX1_addNeighbour_61 : decode cX1_addNeighbour 61 = .ok (.return_, 1) := by decide +kernel
def rX1_addNeighbour : Room := { frames := 0, cells := 0, slots := 0, locals := 0 }
theorem yk_X1_addNeighbour : YK yX1_addNeighbour cX1_addNeighbour 5 none 2 := ⟨xim_X1_addNeighbour, xse_X1_addNeighbour, xin_X1, xco_X1_addNeighbour, by decide +kernel⟩
set_option maxRecDepth 4000 in
theorem c_X1_addNeighbour {l : Launch} {D : va_G} {t : Nat → ClassId} {a : Nat → Nat} {I : Nat → Int32} {F : Nat → Nat → Int32} {L : Nat → Int64} (p : Nat) (hp : p < 24) (q : Nat) (hq : q < 24) (d : Nat) (hd : d < 6) (f : Nat → Nat) (h3 : F 3 p = nI d) (hf : ∀ x, x < d → F (13 + p) x = nI (f x) ∧ f x < 24) : CT l D t yX1_addNeighbour cX1_addNeighbour 5 none rX1_addNeighbour 0 0 [.ref (a 1), .int (nI p), .int (nI q)] (WX a t I F L) (VP (fun w => ∃ F' : Nat → Nat → Int32, w = WX a t I F' L ∧ (∀ j, j ≠ 13 + p → j ≠ 3 → F' j = F j) ∧ (∀ x, x ≤ d → F' (13 + p) x = nI (insN f q d x)) ∧ F' 3 = upd (F 3) p (nI (d + 1)))) := by
  refine CT.of (by decide +kernel) (by simp [lg_sl, Value.category]) (fun X C hR => ?_)
  refine xlocals (lv' := [(0, .ref (a 1)), (1, .int (nI p)), (2, .int (nI q))]) rfl ?_
  refine xaload_n C 0 rfl dX1_addNeighbour_0 ?_
  refine gX1_26 C dX1_addNeighbour_1 ?_
  refine xiload_n C 1 rfl dX1_addNeighbour_4 ?_
  refine xa_out C p (by omega) dX1_addNeighbour_5 ?_
  refine xastore_n (lv' := [(3, .ref (a (8 + (13 + p)))), (0, .ref (a 1)), (1, .int (nI p)), (2, .int (nI q))]) C dX1_addNeighbour_6 (by decide) rfl ?_
  refine xaload_n C 1 rfl dX1_addNeighbour_7 ?_
  refine gX1_21 C dX1_addNeighbour_8 ?_
  refine xiload_n C 2 rfl dX1_addNeighbour_11 ?_
  refine xa_raw C 3 (by omega) p (show _ < 24 by omega) dX1_addNeighbour_12 ?_
  refine xtopi (y := nI d) h3 ?_
  refine xistore (lv' := [(4, .int (nI d)), (3, .ref (a (8 + (13 + p)))), (0, .ref (a 1)), (1, .int (nI p)), (2, .int (nI q))]) C dX1_addNeighbour_13 (by decide) rfl ?_
  have LP15 : ∀ (fu15 : Nat) (i : Nat) (fc : Nat → Nat) (FA : Nat → Nat → Int32) (hi : i ≤ d) (hfin : insN fc q i = insN f q d) (hrel : ∀ x, x ≤ d → x ≠ i → FA (13 + p) x = nI (fc x) ∧ fc x < 24) (hXA : ∀ j, j ≠ 13 + p → FA j = F j), i < fu15 → XW X 0 0 (WX a t I FA L) [(0, .ref (a 1)), (1, .int (nI p)), (2, .int (nI q)), (3, .ref (a (8 + (13 + p)))), (4, .int (nI i))] 15 [] := by
    intro fu15
    induction fu15 with
    | zero => intro i fc FA hi hfin hrel hXA hm15; exact absurd hm15 (Nat.not_lt_zero _)
    | succ fu15 ih15 =>
      intro i fc FA hi hfin hrel hXA hm15
      refine xiload C 4 rfl dX1_addNeighbour_15 ?_
      refine xif_leN C 46 dX1_addNeighbour_17 (by decide) (by omega) (fun h17 => ?_) (fun h17 => ?_)
      ·
        refine xaload_n C 3 rfl dX1_addNeighbour_46 ?_
        refine xiload C 4 rfl dX1_addNeighbour_47 ?_
        refine xiload_n C 2 rfl dX1_addNeighbour_49 ?_
        refine xs_raw C (13 + p) (by omega) i (by unfold xlenN; rw [if_neg (by omega), if_neg (by omega), if_pos (by omega)]; omega) dX1_addNeighbour_50 ?_
        obtain ⟨F2, eF2⟩ : ∃ z : Nat → Nat → Int32, z = va_up FA (13 + p) (upd (FA (13 + p)) i (nI q)) := ⟨_, rfl⟩
        refine xworld (ws' := WX a t I F2 L) (by rw [eF2]) ?_
        have h3b : F2 3 p = nI d := by rw [eF2, va_up_ne _ _ (by omega), hXA 3 (by omega)]; exact h3
        refine xaload_n C 0 rfl dX1_addNeighbour_51 ?_
        refine gX1_21 C dX1_addNeighbour_52 ?_
        refine xiload_n C 1 rfl dX1_addNeighbour_55 ?_
        refine xdup2 C dX1_addNeighbour_56 rfl rfl ?_
        refine xa_raw C 3 (by omega) p (show _ < 24 by omega) dX1_addNeighbour_57 ?_
        refine xtopi (y := nI d) h3b ?_
        refine xiconst (v := nI 1) C dX1_addNeighbour_58 (by decide) ?_
        refine xiaddN C dX1_addNeighbour_59 ?_
        refine xs_raw C 3 (by omega) p (show _ < 24 by omega) dX1_addNeighbour_60 ?_
        exact xvret C hR dX1_addNeighbour_61 (⟨rfl, _, rfl, fun j h1 h2 => by rw [va_up_ne _ _ h2, eF2, va_up_ne _ _ h1]; exact hXA j h1, fun x hx => by rw [va_up_ne _ _ (by omega), eF2, va_up_self]; exact insN_end hfin hrel (Or.inl h17) x hx, by rw [va_up_self, eF2, va_up_ne _ _ (by omega), hXA 3 (by omega)]⟩)
      ·
        refine xaload_n C 3 rfl dX1_addNeighbour_20 ?_
        refine xiload C 4 rfl dX1_addNeighbour_21 ?_
        refine xiconst (v := nI 1) C dX1_addNeighbour_23 (by decide) ?_
        refine xisubN C (by omega) dX1_addNeighbour_24 ?_
        refine xa_raw C (13 + p) (by omega) (i - 1) (by unfold xlenN; rw [if_neg (by omega), if_neg (by omega), if_pos (by omega)]; omega) dX1_addNeighbour_25 ?_
        have hr25 := hrel (i - 1) (by omega) (by omega)
        refine xtopi (y := nI (fc (i - 1))) hr25.1 ?_
        refine xiload_n C 2 rfl dX1_addNeighbour_26 ?_
        refine xicmp_leN C 46 dX1_addNeighbour_27 (by decide) (by omega) (by omega) (fun h27 => ?_) (fun h27 => ?_)
        ·
          refine xaload_n C 3 rfl dX1_addNeighbour_46 ?_
          refine xiload C 4 rfl dX1_addNeighbour_47 ?_
          refine xiload_n C 2 rfl dX1_addNeighbour_49 ?_
          refine xs_raw C (13 + p) (by omega) i (by unfold xlenN; rw [if_neg (by omega), if_neg (by omega), if_pos (by omega)]; omega) dX1_addNeighbour_50 ?_
          obtain ⟨F2, eF2⟩ : ∃ z : Nat → Nat → Int32, z = va_up FA (13 + p) (upd (FA (13 + p)) i (nI q)) := ⟨_, rfl⟩
          refine xworld (ws' := WX a t I F2 L) (by rw [eF2]) ?_
          have h3b : F2 3 p = nI d := by rw [eF2, va_up_ne _ _ (by omega), hXA 3 (by omega)]; exact h3
          refine xaload_n C 0 rfl dX1_addNeighbour_51 ?_
          refine gX1_21 C dX1_addNeighbour_52 ?_
          refine xiload_n C 1 rfl dX1_addNeighbour_55 ?_
          refine xdup2 C dX1_addNeighbour_56 rfl rfl ?_
          refine xa_raw C 3 (by omega) p (show _ < 24 by omega) dX1_addNeighbour_57 ?_
          refine xtopi (y := nI d) h3b ?_
          refine xiconst (v := nI 1) C dX1_addNeighbour_58 (by decide) ?_
          refine xiaddN C dX1_addNeighbour_59 ?_
          refine xs_raw C 3 (by omega) p (show _ < 24 by omega) dX1_addNeighbour_60 ?_
          exact xvret C hR dX1_addNeighbour_61 (⟨rfl, _, rfl, fun j h1 h2 => by rw [va_up_ne _ _ h2, eF2, va_up_ne _ _ h1]; exact hXA j h1, fun x hx => by rw [va_up_ne _ _ (by omega), eF2, va_up_self]; exact insN_end hfin hrel (Or.inr ⟨h17, h27⟩) x hx, by rw [va_up_self, eF2, va_up_ne _ _ (by omega), hXA 3 (by omega)]⟩)
        ·
          refine xaload_n C 3 rfl dX1_addNeighbour_30 ?_
          refine xiload C 4 rfl dX1_addNeighbour_31 ?_
          refine xaload_n C 3 rfl dX1_addNeighbour_33 ?_
          refine xiload C 4 rfl dX1_addNeighbour_34 ?_
          refine xiconst (v := nI 1) C dX1_addNeighbour_36 (by decide) ?_
          refine xisubN C (by omega) dX1_addNeighbour_37 ?_
          refine xa_raw C (13 + p) (by omega) (i - 1) (by unfold xlenN; rw [if_neg (by omega), if_neg (by omega), if_pos (by omega)]; omega) dX1_addNeighbour_38 ?_
          refine xtopi (y := nI (fc (i - 1))) hr25.1 ?_
          refine xs_raw C (13 + p) (by omega) i (by unfold xlenN; rw [if_neg (by omega), if_neg (by omega), if_pos (by omega)]; omega) dX1_addNeighbour_39 ?_
          obtain ⟨F1, eF1⟩ : ∃ z : Nat → Nat → Int32, z = va_up FA (13 + p) (upd (FA (13 + p)) i (nI (fc (i - 1)))) := ⟨_, rfl⟩
          refine xworld (ws' := WX a t I F1 L) (by rw [eF1]) ?_
          refine xidecN (lv' := [(4, .int (nI (i - 1))), (0, .ref (a 1)), (1, .int (nI p)), (2, .int (nI q)), (3, .ref (a (8 + (13 + p))))]) C (by omega) 4 rfl dX1_addNeighbour_40 (by decide) rfl ?_
          refine xgoto C 15 dX1_addNeighbour_43 (by decide) ?_
          refine xsub [1, 2, 3, 4, 0] rfl ?_
          exact ih15 (i - 1) (va_up fc i (fc (i - 1))) F1 (by omega) (insN_step hfin (by omega) (by omega)) (insN_rel hrel (by omega) (by omega) eF1) (fun j hj => by rw [eF1, va_up_ne _ _ hj]; exact hXA j hj) (by omega)
  refine xsub [2, 3, 4, 1, 0] rfl ?_
  exact LP15 _ d f F (Nat.le_refl _) rfl (fun x h1 h2 => hf x (by omega)) (fun _ _ => rfl) (Nat.lt_succ_self _)
theorem dX1_addLink_0 : decode cX1_addLink 0 = .ok (.aload_n 0, 1) := by decide +kernel
theorem dX1_addLink_1 : decode cX1_addLink 1 = .ok (.getfield 29, 3) := by decide +kernel
theorem dX1_addLink_4 : decode cX1_addLink 4 = .ok (.aload_n 0, 1) := by decide +kernel
theorem dX1_addLink_5 : decode cX1_addLink 5 = .ok (.getfield 39, 3) := by decide +kernel
theorem dX1_addLink_8 : decode cX1_addLink 8 = .ok (.iload_n 1, 1) := by decide +kernel
theorem dX1_addLink_9 : decode cX1_addLink 9 = .ok (.iastore, 1) := by decide +kernel
theorem dX1_addLink_10 : decode cX1_addLink 10 = .ok (.aload_n 0, 1) := by decide +kernel
theorem dX1_addLink_11 : decode cX1_addLink 11 = .ok (.getfield 32, 3) := by decide +kernel
theorem dX1_addLink_14 : decode cX1_addLink 14 = .ok (.aload_n 0, 1) := by decide +kernel
theorem dX1_addLink_15 : decode cX1_addLink 15 = .ok (.getfield 39, 3) := by decide +kernel
theorem dX1_addLink_18 : decode cX1_addLink 18 = .ok (.iload_n 2, 1) := by decide +kernel
theorem dX1_addLink_19 : decode cX1_addLink 19 = .ok (.iastore, 1) := by decide +kernel
theorem dX1_addLink_20 : decode cX1_addLink 20 = .ok (.aload_n 0, 1) := by decide +kernel
theorem dX1_addLink_21 : decode cX1_addLink 21 = .ok (.dup, 1) := by decide +kernel
theorem dX1_addLink_22 : decode cX1_addLink 22 = .ok (.getfield 39, 3) := by decide +kernel
theorem dX1_addLink_25 : decode cX1_addLink 25 = .ok (.iconst 1, 1) := by decide +kernel
theorem dX1_addLink_26 : decode cX1_addLink 26 = .ok (.iadd, 1) := by decide +kernel
theorem dX1_addLink_27 : decode cX1_addLink 27 = .ok (.putfield 39, 3) := by decide +kernel
theorem dX1_addLink_30 : decode cX1_addLink 30 = .ok (.aload_n 0, 1) := by decide +kernel
theorem dX1_addLink_31 : decode cX1_addLink 31 = .ok (.iload_n 1, 1) := by decide +kernel
theorem dX1_addLink_32 : decode cX1_addLink 32 = .ok (.iload_n 2, 1) := by decide +kernel
theorem dX1_addLink_33 : decode cX1_addLink 33 = .ok (.invokevirtual 42, 3) := by decide +kernel
theorem dX1_addLink_36 : decode cX1_addLink 36 = .ok (.aload_n 0, 1) := by decide +kernel
theorem dX1_addLink_37 : decode cX1_addLink 37 = .ok (.iload_n 2, 1) := by decide +kernel
theorem dX1_addLink_38 : decode cX1_addLink 38 = .ok (.iload_n 1, 1) := by decide +kernel
theorem dX1_addLink_39 : decode cX1_addLink 39 = .ok (.invokevirtual 42, 3) := by decide +kernel
theorem dX1_addLink_42 : decode cX1_addLink 42 = .ok (.return_, 1) := by decide +kernel
def rX1_addLink : Room := { frames := 1, cells := 0, slots := 0, locals := 24 }
theorem yk_X1_addLink : YK yX1_addLink cX1_addLink 3 none 2 := ⟨xim_X1_addLink, xse_X1_addLink, xin_X1, xco_X1_addLink, by decide +kernel⟩
set_option maxRecDepth 4000 in
theorem c_X1_addLink {l : Launch} {D : va_G} {t : Nat → ClassId} {a : Nat → Nat} {I : Nat → Int32} {F : Nat → Nat → Int32} {L : Nat → Int64} {K : Cfg} (hK : CFG K I F) (hW : WFK K) (hm : km K < 60) (p q : Nat) (hp : p < kn K) (hq : q < kn K) (hne : p ≠ q) (hdp : kdg K p < 6) (hdq : kdg K q < 6) : CT l D t yX1_addLink cX1_addLink 3 none rX1_addLink 0 0 [.ref (a 1), .int (nI p), .int (nI q)] (WX a t I F L) (VP (fun w => ∃ (I' : Nat → Int32) (F' : Nat → Nat → Int32), w = WX a t I' F' L ∧ CFG (addL K p q) I' F' ∧ (∀ j, 6 ≤ j → j < 13 → F' j = F j) ∧ (∀ k, 5 ≤ k → I' k = I k))) := by
  refine CT.of (by decide +kernel) (by simp [lg_sl, Value.category]) (fun X C hR => ?_)
  refine xlocals (lv' := [(0, .ref (a 1)), (1, .int (nI p)), (2, .int (nI q))]) rfl ?_
  have fn24 := hW.n24; have fm60 := hW.m60; have fk2 := hW.k2; have fu1 := hW.u1; have fu9 := hW.u9; have fv1 := hW.v1; have fv9 := hW.v9
  refine xaload_n C 0 rfl dX1_addLink_0 ?_
  refine gX1_29 C dX1_addLink_1 ?_
  refine xaload_n C 0 rfl dX1_addLink_4 ?_
  refine gX1_39 C dX1_addLink_5 ?_
  refine xtopi (y := nI (km K)) (hK.m) ?_
  refine xiload_n C 1 rfl dX1_addLink_8 ?_
  refine xs_raw C 4 (by omega) (km K) (show _ < 60 by omega) dX1_addLink_9 ?_
  refine xaload_n C 0 rfl dX1_addLink_10 ?_
  refine gX1_32 C dX1_addLink_11 ?_
  refine xaload_n C 0 rfl dX1_addLink_14 ?_
  refine gX1_39 C dX1_addLink_15 ?_
  refine xtopi (y := nI (km K)) (hK.m) ?_
  refine xiload_n C 2 rfl dX1_addLink_18 ?_
  refine xs_raw C 5 (by omega) (km K) (show _ < 60 by omega) dX1_addLink_19 ?_
  obtain ⟨FA, eFA⟩ : ∃ z : Nat → Nat → Int32, z = va_up (va_up F 4 (upd (F 4) (km K) (nI p))) 5 (upd ((va_up F 4 (upd (F 4) (km K) (nI p))) 5) (km K) (nI q)) := ⟨_, rfl⟩
  refine xworld (ws' := WX a t I FA L) (by rw [eFA]) ?_
  have hXA : ∀ j, j ≠ 4 → j ≠ 5 → FA j = F j := fun j h1 h2 => by rw [eFA, va_up_ne _ _ h2, va_up_ne _ _ h1]
  refine xaload_n C 0 rfl dX1_addLink_20 ?_
  refine xdup C dX1_addLink_21 rfl ?_
  refine gX1_39 C dX1_addLink_22 ?_
  refine xtopi (y := nI (km K)) (hK.m) ?_
  refine xiconst (v := nI 1) C dX1_addLink_25 (by decide) ?_
  refine xiaddN C dX1_addLink_26 ?_
  refine pX1_39 C dX1_addLink_27 ?_
  refine xaload_n C 0 rfl dX1_addLink_30 ?_
  refine xiload_n C 1 rfl dX1_addLink_31 ?_
  refine xiload_n C 2 rfl dX1_addLink_32 ?_
  refine xcVV C (c_X1_addNeighbour p (by omega) q (by omega) (kdg K p) hdp (knb K p) (by rw [hXA 3 (by omega) (by omega)]; exact hK.dg (by omega)) (fun x hx => ⟨by rw [hXA _ (by omega) (by omega)]; exact hK.nb hp hx, by have := hW.nb hp hx; omega⟩)) yk_X1_addNeighbour 1 rfl rfl xml_X1_42 ⟨⟨Nat.le_of_ble_eq_true rfl, Nat.le_of_ble_eq_true rfl⟩, ⟨rfl, rfl⟩, ⟨Nat.zero_le _, Nat.zero_le _⟩⟩ rfl (Nat.le_of_ble_eq_true rfl) dX1_addLink_33 (fun wE hE => ?_)
  obtain ⟨FB, rfl, hB1, hB2, hB3⟩ := hE
  refine xaload_n C 0 rfl dX1_addLink_36 ?_
  refine xiload_n C 2 rfl dX1_addLink_37 ?_
  refine xiload_n C 1 rfl dX1_addLink_38 ?_
  refine xcVV C (c_X1_addNeighbour q (by omega) p (by omega) (kdg K q) hdq (knb K q) (by rw [hB3]; unfold upd; rw [if_neg (Ne.symm hne), hXA 3 (by omega) (by omega)]; exact hK.dg (by omega)) (fun x hx => ⟨by rw [hB1 _ (by omega) (by omega), hXA _ (by omega) (by omega)]; exact hK.nb hq hx, by have := hW.nb hq hx; omega⟩)) yk_X1_addNeighbour 1 rfl rfl xml_X1_42 ⟨⟨Nat.le_of_ble_eq_true rfl, Nat.le_of_ble_eq_true rfl⟩, ⟨rfl, rfl⟩, ⟨Nat.zero_le _, Nat.zero_le _⟩⟩ rfl (Nat.le_of_ble_eq_true rfl) dX1_addLink_39 (fun wE hE => ?_)
  obtain ⟨FC, rfl, hC1, hC2, hC3⟩ := hE
  exact xvret C hR dX1_addLink_42 (⟨rfl, _, FC, rfl, CFG.addL hK hW hm hp hq hne hdp hdq (fun j h1 h2 => by rw [eFA, va_up_ne _ _ h2, va_up_ne _ _ h1]) (by rw [eFA, va_up_ne _ _ (by decide), va_up_self]) (by rw [eFA, va_up_self, va_up_ne _ _ (by decide)]) hB1 hB2 hB3 hC1 hC2 hC3, fun j h1 h2 => by rw [hC1 j (by omega) (by omega), hB1 j (by omega) (by omega), hXA j (by omega) (by omega)], fun k hk => va_up_ne _ _ (by omega)⟩)
end
section
/-! Ticks (written by my program parts_x4.py). -/
theorem of_tn {y : Int32} {N : Nat} (h : y.toBitVec.toNat = N) (hN : N < 2 ^ 32) : y = nI N := by
  apply Int32.toBitVec_inj.mp
  apply BitVec.eq_of_toNat_eq
  rw [h, pk_tn hN]
theorem ush16 (x : Int32) : (x.toUInt32 >>> ((16 : Int32).toUInt32 &&& Int32.toUInt32 31)).toInt32 = nI (x.toBitVec.toNat / 65536) :=
  of_tn (pk_ushr x 16 16 (by decide +kernel)) (by have := x.toBitVec.isLt; omega)
theorem ush16_lt (x : Int32) : x.toBitVec.toNat / 65536 < 2 ^ 31 := by have := x.toBitVec.isLt; omega
theorem lotN_lt (x : Int32) : lotN x < 65536 := Nat.mod_lt _ (by decide)
theorem pr_le {g : Nat → Nat} (h : ∀ i, g i ≤ 9) : ∀ k, pr g k ≤ 9 ^ k
  | 0 => Nat.le_refl 1
  | k + 1 => by
    show pr g k * g k ≤ 9 ^ (k + 1)
    rw [Nat.pow_succ]
    exact Nat.mul_le_mul (pr_le h k) (h k)
theorem waN_le {K : Cfg} (hW : WFK K) (f : Nat → Nat) (p x : Nat) : waN K f p x ≤ 4782969 := by
  have h1 := pr_le (g := fun i => lwN K x (f (knb K p i))) (fun i => lwN_le hW _ _) (kdg K p)
  have h2 : 9 ^ kdg K p ≤ 9 ^ 6 := Nat.pow_le_pow_right (by omega) (hW.dg6 p)
  exact Nat.le_trans (Nat.mul_le_mul (pwN_le hW p x) (Nat.le_trans h1 h2)) (by decide)
theorem sm_le {g : Nat → Nat} {c : Nat} (h : ∀ i, g i ≤ c) : ∀ k, sm g k ≤ k * c
  | 0 => Nat.zero_le _
  | k + 1 => by
    show sm g k + g k ≤ (k + 1) * c
    have h1 := sm_le h k
    have h2 := h k
    rw [Nat.add_mul]
    omega
theorem whN_sm {K : Cfg} (hW : WFK K) {p : Nat} (f : Nat → Nat) {k : Nat} (hk : k ≤ 6) : sm (whN K f p) k ≤ 28697814 := by
  have h1 := sm_le (g := whN K f p) (c := 4782969) (fun i => waN_le hW f p _) k
  omega
theorem whN_lt1 {K : Cfg} (hW : WFK K) {p lot : Nat} (hp : p < kn K) {f : Nat → Nat} (hl : lot < 65536) : lot * sm (whN K f p) (mostN K p + 1) < 2 ^ 63 := by
  have h1 := whN_sm hW (p := p) f (k := mostN K p + 1) (by have := mostN_le hW hp; omega)
  exact Nat.lt_of_le_of_lt (Nat.mul_le_mul (Nat.le_of_lt hl) h1) (by decide)
theorem whN_lt2 {K : Cfg} (hW : WFK K) {p i : Nat} (hp : p < kn K) {f : Nat → Nat} (hi : i ≤ mostN K p) : 65536 * sm (whN K f p) (i + 1) < 2 ^ 63 := by
  have h1 := whN_sm hW (p := p) f (k := i + 1) (by have := mostN_le hW hp; omega)
  exact Nat.lt_of_le_of_lt (Nat.mul_le_mul (Nat.le_refl _) h1) (by decide)
theorem fst_lt {P : Nat → Prop} : ∀ {k i : Nat}, fst P k = some i → i < k ∧ P i
  | 0, i, h => by cases h
  | k + 1, i, h => by
    unfold fst at h
    cases e : fst P k with
    | some j =>
      rw [e] at h
      cases h
      exact ⟨Nat.lt_succ_of_lt (fst_lt e).1, (fst_lt e).2⟩
    | none =>
      rw [e] at h
      by_cases q : bn (P k) = 1
      · simp only [if_pos q] at h
        cases h
        exact ⟨Nat.lt_succ_self _, bn_1 (by omega)⟩
      · simp only [if_neg q] at h
        cases h
theorem chN_cases (K : Cfg) (f : Nat → Nat) (p lot : Nat) : (∃ h, h ≤ mostN K p ∧ lot * sm (whN K f p) (mostN K p + 1) < 65536 * sm (whN K f p) (h + 1) ∧ chN K f p lot = nohN K p h) ∨ chN K f p lot = f p := by
  unfold chN
  cases e : fst (fun h => lot * sm (whN K f p) (mostN K p + 1) < 65536 * sm (whN K f p) (h + 1)) (mostN K p + 1) with
  | none => exact Or.inr rfl
  | some h => exact Or.inl ⟨h, by have := (fst_lt e).1; omega, (fst_lt e).2, rfl⟩
theorem chN_some {K : Cfg} {f : Nat → Nat} {p lot i : Nat} (hi : i ≤ mostN K p) (h : lot * sm (whN K f p) (mostN K p + 1) < 65536 * sm (whN K f p) (i + 1)) (hno : ∀ x, x < i → ¬ lot * sm (whN K f p) (mostN K p + 1) < 65536 * sm (whN K f p) (x + 1)) : chN K f p lot = nohN K p i := by
  unfold chN
  rw [fst_some (P := fun h => lot * sm (whN K f p) (mostN K p + 1) < 65536 * sm (whN K f p) (h + 1)) h hno (by omega)]
theorem chN_le {K : Cfg} (hW : WFK K) {f : Nat → Nat} {p lot : Nat} (hp : p < kn K) (hf : f p ≤ 5) : chN K f p lot ≤ 5 := by
  rcases chN_cases K f p lot with ⟨h, h1, _, h2⟩ | h
  · rw [h2]; exact nohN_le (by have := mostN_le hW hp; omega)
  · rw [h]; exact hf
/-- a tick changes the state -/
def chgP (K : Cfg) (sd : Int32) (f : Nat → Nat) (tt : Int32) : Prop := chN K f (plN K (mixI sd tt)) (lotN (mixI sd tt)) ≠ f (plN K (mixI sd tt))
theorem dX4_mixed_0 : decode cX4_mixed 0 = .ok (.iload_n 0, 1) := by decide +kernel
theorem dX4_mixed_1 : decode cX4_mixed 1 = .ok (.ldc 23, 2) := by decide +kernel
theorem dX4_mixed_3 : decode cX4_mixed 3 = .ok (.imul, 1) := by decide +kernel
theorem dX4_mixed_4 : decode cX4_mixed 4 = .ok (.iload_n 1, 1) := by decide +kernel
theorem dX4_mixed_5 : decode cX4_mixed 5 = .ok (.sipush 12345, 3) := by decide +kernel
theorem dX4_mixed_8 : decode cX4_mixed 8 = .ok (.imul, 1) := by decide +kernel
theorem dX4_mixed_9 : decode cX4_mixed 9 = .ok (.iadd, 1) := by decide +kernel
theorem dX4_mixed_10 : decode cX4_mixed 10 = .ok (.ldc 24, 2) := by decide +kernel
theorem dX4_mixed_12 : decode cX4_mixed 12 = .ok (.iadd, 1) := by decide +kernel
theorem dX4_mixed_13 : decode cX4_mixed 13 = .ok (.istore_n 2, 1) := by decide +kernel
theorem dX4_mixed_14 : decode cX4_mixed 14 = .ok (.iload_n 2, 1) := by decide +kernel
theorem dX4_mixed_15 : decode cX4_mixed 15 = .ok (.iload_n 2, 1) := by decide +kernel
theorem dX4_mixed_16 : decode cX4_mixed 16 = .ok (.bipush 15, 2) := by decide +kernel
theorem dX4_mixed_18 : decode cX4_mixed 18 = .ok (.iushr, 1) := by decide +kernel
theorem dX4_mixed_19 : decode cX4_mixed 19 = .ok (.ixor, 1) := by decide +kernel
theorem dX4_mixed_20 : decode cX4_mixed 20 = .ok (.ldc 25, 2) := by decide +kernel
theorem dX4_mixed_22 : decode cX4_mixed 22 = .ok (.imul, 1) := by decide +kernel
theorem dX4_mixed_23 : decode cX4_mixed 23 = .ok (.istore_n 2, 1) := by decide +kernel
theorem dX4_mixed_24 : decode cX4_mixed 24 = .ok (.iload_n 2, 1) := by decide +kernel
theorem dX4_mixed_25 : decode cX4_mixed 25 = .ok (.iload_n 2, 1) := by decide +kernel
theorem dX4_mixed_26 : decode cX4_mixed 26 = .ok (.bipush 12, 2) := by decide +kernel
theorem dX4_mixed_28 : decode cX4_mixed 28 = .ok (.iushr, 1) := by decide +kernel
theorem dX4_mixed_29 : decode cX4_mixed 29 = .ok (.ixor, 1) := by decide +kernel
theorem dX4_mixed_30 : decode cX4_mixed 30 = .ok (.ldc 26, 2) := by decide +kernel
theorem dX4_mixed_32 : decode cX4_mixed 32 = .ok (.imul, 1) := by decide +kernel
theorem dX4_mixed_33 : decode cX4_mixed 33 = .ok (.istore_n 2, 1) := by decide +kernel
theorem dX4_mixed_34 : decode cX4_mixed 34 = .ok (.iload_n 2, 1) := by decide +kernel
theorem dX4_mixed_35 : decode cX4_mixed 35 = .ok (.iload_n 2, 1) := by decide +kernel
theorem dX4_mixed_36 : decode cX4_mixed 36 = .ok (.bipush 15, 2) := by decide +kernel
theorem dX4_mixed_38 : decode cX4_mixed 38 = .ok (.iushr, 1) := by decide +kernel
theorem dX4_mixed_39 : decode cX4_mixed 39 = .ok (.ixor, 1) := by decide +kernel
theorem dX4_mixed_40 : decode cX4_mixed 40 = .ok (.ireturn, 1) := by decide +kernel
def rX4_mixed : Room := { frames := 0, cells := 0, slots := 0, locals := 0 }
theorem sk_X4_mixed : SK yX4_mixed cX4_mixed 3 (some .int) 2 := ⟨xst_X4_mixed, xin_X4, xco_X4_mixed, by decide +kernel⟩
set_option maxRecDepth 4000 in
theorem c_X4_mixed {l : Launch} {D : va_G} {t : Nat → ClassId} {a : Nat → Nat} {I : Nat → Int32} {F : Nat → Nat → Int32} {L : Nat → Int64} (sd tt : Int32) : CT l D t yX4_mixed cX4_mixed 3 (some .int) rX4_mixed 0 0 [.int sd, .int tt] (WX a t I F L) (RP (.int (mixI sd tt)) (WX a t I F L)) := by
  refine CT.of (by decide +kernel) (by simp [lg_sl, Value.category]) (fun X C hR => ?_)
  refine xlocals (lv' := [(0, .int sd), (1, .int tt)]) rfl ?_
  refine xiload_n C 0 rfl dX4_mixed_0 ?_
  refine xldc C dX4_mixed_1 xcn_X4_23 ?_
  refine ximul C dX4_mixed_3 ?_
  refine xiload_n C 1 rfl dX4_mixed_4 ?_
  refine xsipush (v := 12345) C dX4_mixed_5 (by decide) ?_
  refine ximul C dX4_mixed_8 ?_
  refine xiadd C dX4_mixed_9 ?_
  refine xldc C dX4_mixed_10 xcn_X4_24 ?_
  refine xiadd C dX4_mixed_12 ?_
  obtain ⟨m1, em1⟩ : ∃ z : Int32, z = ((sd * 1103515245) + (tt * 12345)) + 1013904223 := ⟨_, rfl⟩
  refine xtopi (y := m1) em1.symm ?_
  refine xistore_n (lv' := [(2, .int m1), (0, .int sd), (1, .int tt)]) C dX4_mixed_13 (by decide) rfl ?_
  refine xiload_n C 0 rfl dX4_mixed_14 ?_
  refine xiload_n C 0 rfl dX4_mixed_15 ?_
  refine xbipush (v := 15) C dX4_mixed_16 (by decide) ?_
  refine xiushr C dX4_mixed_18 ?_
  refine xixor C dX4_mixed_19 ?_
  refine xldc C dX4_mixed_20 xcn_X4_25 ?_
  refine ximul C dX4_mixed_22 ?_
  obtain ⟨m2, em2⟩ : ∃ z : Int32, z = (m1 ^^^ ((m1.toUInt32 >>> ((15 : Int32).toUInt32 &&& Int32.toUInt32 31)).toInt32)) * 739982445 := ⟨_, rfl⟩
  refine xtopi (y := m2) em2.symm ?_
  refine xistore_n (lv' := [(2, .int m2), (0, .int sd), (1, .int tt)]) C dX4_mixed_23 (by decide) rfl ?_
  refine xiload_n C 0 rfl dX4_mixed_24 ?_
  refine xiload_n C 0 rfl dX4_mixed_25 ?_
  refine xbipush (v := 12) C dX4_mixed_26 (by decide) ?_
  refine xiushr C dX4_mixed_28 ?_
  refine xixor C dX4_mixed_29 ?_
  refine xldc C dX4_mixed_30 xcn_X4_26 ?_
  refine ximul C dX4_mixed_32 ?_
  obtain ⟨m3, em3⟩ : ∃ z : Int32, z = (m2 ^^^ ((m2.toUInt32 >>> ((12 : Int32).toUInt32 &&& Int32.toUInt32 31)).toInt32)) * 695872825 := ⟨_, rfl⟩
  refine xtopi (y := m3) em3.symm ?_
  refine xistore_n (lv' := [(2, .int m3), (0, .int sd), (1, .int tt)]) C dX4_mixed_33 (by decide) rfl ?_
  refine xiload_n C 0 rfl dX4_mixed_34 ?_
  refine xiload_n C 0 rfl dX4_mixed_35 ?_
  refine xbipush (v := 15) C dX4_mixed_36 (by decide) ?_
  refine xiushr C dX4_mixed_38 ?_
  refine xixor C dX4_mixed_39 ?_
  exact xret C hR (rfl) dX4_mixed_40 (RPi (by rw [em3, em2, em1]; rfl))
theorem dX4_lotOf_0 : decode cX4_lotOf 0 = .ok (.iload_n 0, 1) := by decide +kernel
theorem dX4_lotOf_1 : decode cX4_lotOf 1 = .ok (.ldc 27, 2) := by decide +kernel
theorem dX4_lotOf_3 : decode cX4_lotOf 3 = .ok (.iand, 1) := by decide +kernel
theorem dX4_lotOf_4 : decode cX4_lotOf 4 = .ok (.ireturn, 1) := by decide +kernel
def rX4_lotOf : Room := { frames := 0, cells := 0, slots := 0, locals := 0 }
theorem sk_X4_lotOf : SK yX4_lotOf cX4_lotOf 1 (some .int) 1 := ⟨xst_X4_lotOf, xin_X4, xco_X4_lotOf, by decide +kernel⟩
set_option maxRecDepth 4000 in
theorem c_X4_lotOf {l : Launch} {D : va_G} {t : Nat → ClassId} {a : Nat → Nat} {I : Nat → Int32} {F : Nat → Nat → Int32} {L : Nat → Int64} (x : Int32) : CT l D t yX4_lotOf cX4_lotOf 1 (some .int) rX4_lotOf 0 0 [.int x] (WX a t I F L) (RP (.int (nI (lotN x))) (WX a t I F L)) := by
  refine CT.of (by decide +kernel) (by simp [lg_sl, Value.category]) (fun X C hR => ?_)
  refine xlocals (lv' := [(0, .int x)]) rfl ?_
  refine xiload_n C 0 rfl dX4_lotOf_0 ?_
  refine xldc C dX4_lotOf_1 xcn_X4_27 ?_
  refine xiand C dX4_lotOf_3 ?_
  refine xtopi (y := nI (lotN x)) (pk_and x 16 (by decide +kernel)) ?_
  exact xret C hR (rfl) dX4_lotOf_4 (RPn (rfl))
theorem dX4_placeOf_0 : decode cX4_placeOf 0 = .ok (.aload_n 0, 1) := by decide +kernel
theorem dX4_placeOf_1 : decode cX4_placeOf 1 = .ok (.getfield 15, 3) := by decide +kernel
theorem dX4_placeOf_4 : decode cX4_placeOf 4 = .ok (.getfield 28, 3) := by decide +kernel
theorem dX4_placeOf_7 : decode cX4_placeOf 7 = .ok (.ifCond .le 18, 3) := by decide +kernel
theorem dX4_placeOf_10 : decode cX4_placeOf 10 = .ok (.iload_n 1, 1) := by decide +kernel
theorem dX4_placeOf_11 : decode cX4_placeOf 11 = .ok (.bipush 16, 2) := by decide +kernel
theorem dX4_placeOf_13 : decode cX4_placeOf 13 = .ok (.iushr, 1) := by decide +kernel
theorem dX4_placeOf_14 : decode cX4_placeOf 14 = .ok (.aload_n 0, 1) := by decide +kernel
theorem dX4_placeOf_15 : decode cX4_placeOf 15 = .ok (.getfield 15, 3) := by decide +kernel
theorem dX4_placeOf_18 : decode cX4_placeOf 18 = .ok (.getfield 28, 3) := by decide +kernel
theorem dX4_placeOf_21 : decode cX4_placeOf 21 = .ok (.irem, 1) := by decide +kernel
theorem dX4_placeOf_22 : decode cX4_placeOf 22 = .ok (.goto 4, 3) := by decide +kernel
theorem dX4_placeOf_26 : decode cX4_placeOf 26 = .ok (.ireturn, 1) := by decide +kernel
def rX4_placeOf : Room := { frames := 0, cells := 0, slots := 0, locals := 0 }
theorem yk_X4_placeOf : YK yX4_placeOf cX4_placeOf 2 (some .int) 1 := ⟨xim_X4_placeOf, xse_X4_placeOf, xin_X4, xco_X4_placeOf, by decide +kernel⟩
set_option maxRecDepth 4000 in
theorem c_X4_placeOf {l : Launch} {D : va_G} {t : Nat → ClassId} {a : Nat → Nat} {I : Nat → Int32} {F : Nat → Nat → Int32} {L : Nat → Int64} {K : Cfg} (hK : CFG K I F) (hW : WFK K) (hn : 0 < kn K) (x : Int32) : CT l D t yX4_placeOf cX4_placeOf 2 (some .int) rX4_placeOf 0 0 [.ref (a 3), .int x] (WX a t I F L) (RP (.int (nI (plN K x))) (WX a t I F L)) := by
  refine CT.of (by decide +kernel) (by simp [lg_sl, Value.category]) (fun X C hR => ?_)
  refine xlocals (lv' := [(0, .ref (a 3)), (1, .int x)]) rfl ?_
  have fn24 := hW.n24; have fm60 := hW.m60; have fk2 := hW.k2; have fu1 := hW.u1; have fu9 := hW.u9; have fv1 := hW.v1; have fv9 := hW.v9
  refine xaload_n C 0 rfl dX4_placeOf_0 ?_
  refine gX4_15 C dX4_placeOf_1 ?_
  refine gX4_28K C hK dX4_placeOf_4 ?_
  refine xif_leN C 25 dX4_placeOf_7 (by decide) (by omega) (fun h7 => ?_) (fun h7 => ?_)
  · exact absurd h7 (by omega)
  ·
    refine xiload_n C 1 rfl dX4_placeOf_10 ?_
    refine xbipush (v := 16) C dX4_placeOf_11 (by decide) ?_
    refine xiushr C dX4_placeOf_13 ?_
    refine xtopi (y := nI (x.toBitVec.toNat / 65536)) (ush16 x) ?_
    refine xaload_n C 0 rfl dX4_placeOf_14 ?_
    refine gX4_15 C dX4_placeOf_15 ?_
    refine gX4_28K C hK dX4_placeOf_18 ?_
    refine xirem C dX4_placeOf_21 (fun q => absurd ((nI_eq (by omega) (by omega)).mp (q.trans nI_0.symm)) (by omega)) ?_
    refine xtopi (y := nI (plN K x)) (pk_rem (ush16_lt x) hn (by omega)) ?_
    refine xgoto C 26 dX4_placeOf_22 (by decide) ?_
    exact xret C hR (rfl) dX4_placeOf_26 (RPn (rfl))
theorem dX4_chosen_0 : decode cX4_chosen 0 = .ok (.aload_n 0, 1) := by decide +kernel
theorem dX4_chosen_1 : decode cX4_chosen 1 = .ok (.getfield 19, 3) := by decide +kernel
theorem dX4_chosen_4 : decode cX4_chosen 4 = .ok (.iload_n 2, 1) := by decide +kernel
theorem dX4_chosen_5 : decode cX4_chosen 5 = .ok (.invokevirtual 49, 3) := by decide +kernel
theorem dX4_chosen_8 : decode cX4_chosen 8 = .ok (.istore 4, 2) := by decide +kernel
theorem dX4_chosen_10 : decode cX4_chosen 10 = .ok (.lconst 0, 1) := by decide +kernel
theorem dX4_chosen_11 : decode cX4_chosen 11 = .ok (.lstore 5, 2) := by decide +kernel
theorem dX4_chosen_13 : decode cX4_chosen 13 = .ok (.iconst 0, 1) := by decide +kernel
theorem dX4_chosen_14 : decode cX4_chosen 14 = .ok (.istore 7, 2) := by decide +kernel
theorem dX4_chosen_16 : decode cX4_chosen 16 = .ok (.iload 7, 2) := by decide +kernel
theorem dX4_chosen_18 : decode cX4_chosen 18 = .ok (.iload 4, 2) := by decide +kernel
theorem dX4_chosen_20 : decode cX4_chosen 20 = .ok (.if_icmp .gt 47, 3) := by decide +kernel
theorem dX4_chosen_23 : decode cX4_chosen 23 = .ok (.aload_n 0, 1) := by decide +kernel
theorem dX4_chosen_24 : decode cX4_chosen 24 = .ok (.getfield 9, 3) := by decide +kernel
theorem dX4_chosen_27 : decode cX4_chosen 27 = .ok (.iload 7, 2) := by decide +kernel
theorem dX4_chosen_29 : decode cX4_chosen 29 = .ok (.aload_n 0, 1) := by decide +kernel
theorem dX4_chosen_30 : decode cX4_chosen 30 = .ok (.getfield 19, 3) := by decide +kernel
theorem dX4_chosen_33 : decode cX4_chosen 33 = .ok (.aload_n 1, 1) := by decide +kernel
theorem dX4_chosen_34 : decode cX4_chosen 34 = .ok (.iload_n 2, 1) := by decide +kernel
theorem dX4_chosen_35 : decode cX4_chosen 35 = .ok (.aload_n 0, 1) := by decide +kernel
theorem dX4_chosen_36 : decode cX4_chosen 36 = .ok (.getfield 19, 3) := by decide +kernel
theorem dX4_chosen_39 : decode cX4_chosen 39 = .ok (.iload_n 2, 1) := by decide +kernel
theorem dX4_chosen_40 : decode cX4_chosen 40 = .ok (.iload 7, 2) := by decide +kernel
theorem dX4_chosen_42 : decode cX4_chosen 42 = .ok (.invokevirtual 54, 3) := by decide +kernel
theorem dX4_chosen_45 : decode cX4_chosen 45 = .ok (.invokevirtual 57, 3) := by decide +kernel
theorem dX4_chosen_48 : decode cX4_chosen 48 = .ok (.lastore, 1) := by decide +kernel
theorem dX4_chosen_49 : decode cX4_chosen 49 = .ok (.lload 5, 2) := by decide +kernel
theorem dX4_chosen_51 : decode cX4_chosen 51 = .ok (.aload_n 0, 1) := by decide +kernel
theorem dX4_chosen_52 : decode cX4_chosen 52 = .ok (.getfield 9, 3) := by decide +kernel
theorem dX4_chosen_55 : decode cX4_chosen 55 = .ok (.iload 7, 2) := by decide +kernel
theorem dX4_chosen_57 : decode cX4_chosen 57 = .ok (.laload, 1) := by decide +kernel
theorem dX4_chosen_58 : decode cX4_chosen 58 = .ok (.ladd, 1) := by decide +kernel
theorem dX4_chosen_59 : decode cX4_chosen 59 = .ok (.lstore 5, 2) := by decide +kernel
theorem dX4_chosen_61 : decode cX4_chosen 61 = .ok (.iinc 7 1, 3) := by decide +kernel
theorem dX4_chosen_64 : decode cX4_chosen 64 = .ok (.goto (-48), 3) := by decide +kernel
theorem dX4_chosen_67 : decode cX4_chosen 67 = .ok (.lconst 0, 1) := by decide +kernel
theorem dX4_chosen_68 : decode cX4_chosen 68 = .ok (.lstore 7, 2) := by decide +kernel
theorem dX4_chosen_70 : decode cX4_chosen 70 = .ok (.iconst 0, 1) := by decide +kernel
theorem dX4_chosen_71 : decode cX4_chosen 71 = .ok (.istore 9, 2) := by decide +kernel
theorem dX4_chosen_73 : decode cX4_chosen 73 = .ok (.iload 9, 2) := by decide +kernel
theorem dX4_chosen_75 : decode cX4_chosen 75 = .ok (.iload 4, 2) := by decide +kernel
theorem dX4_chosen_77 : decode cX4_chosen 77 = .ok (.if_icmp .gt 47, 3) := by decide +kernel
theorem dX4_chosen_80 : decode cX4_chosen 80 = .ok (.lload 7, 2) := by decide +kernel
theorem dX4_chosen_82 : decode cX4_chosen 82 = .ok (.aload_n 0, 1) := by decide +kernel
theorem dX4_chosen_83 : decode cX4_chosen 83 = .ok (.getfield 9, 3) := by decide +kernel
theorem dX4_chosen_86 : decode cX4_chosen 86 = .ok (.iload 9, 2) := by decide +kernel
theorem dX4_chosen_88 : decode cX4_chosen 88 = .ok (.laload, 1) := by decide +kernel
theorem dX4_chosen_89 : decode cX4_chosen 89 = .ok (.ladd, 1) := by decide +kernel
theorem dX4_chosen_90 : decode cX4_chosen 90 = .ok (.lstore 7, 2) := by decide +kernel
theorem dX4_chosen_92 : decode cX4_chosen 92 = .ok (.iload_n 3, 1) := by decide +kernel
theorem dX4_chosen_93 : decode cX4_chosen 93 = .ok (.i2l, 1) := by decide +kernel
theorem dX4_chosen_94 : decode cX4_chosen 94 = .ok (.lload 5, 2) := by decide +kernel
theorem dX4_chosen_96 : decode cX4_chosen 96 = .ok (.lmul, 1) := by decide +kernel
theorem dX4_chosen_97 : decode cX4_chosen 97 = .ok (.ldc2_w 61, 3) := by decide +kernel
theorem dX4_chosen_100 : decode cX4_chosen 100 = .ok (.lload 7, 2) := by decide +kernel
theorem dX4_chosen_102 : decode cX4_chosen 102 = .ok (.lmul, 1) := by decide +kernel
theorem dX4_chosen_103 : decode cX4_chosen 103 = .ok (.lcmp, 1) := by decide +kernel
theorem dX4_chosen_104 : decode cX4_chosen 104 = .ok (.ifCond .ge 14, 3) := by decide +kernel
theorem dX4_chosen_107 : decode cX4_chosen 107 = .ok (.aload_n 0, 1) := by decide +kernel
theorem dX4_chosen_108 : decode cX4_chosen 108 = .ok (.getfield 19, 3) := by decide +kernel
theorem dX4_chosen_111 : decode cX4_chosen 111 = .ok (.iload_n 2, 1) := by decide +kernel
theorem dX4_chosen_112 : decode cX4_chosen 112 = .ok (.iload 9, 2) := by decide +kernel
theorem dX4_chosen_114 : decode cX4_chosen 114 = .ok (.invokevirtual 54, 3) := by decide +kernel
theorem dX4_chosen_117 : decode cX4_chosen 117 = .ok (.ireturn, 1) := by decide +kernel
theorem dX4_chosen_118 : decode cX4_chosen 118 = .ok (.iinc 9 1, 3) := by decide +kernel
theorem dX4_chosen_121 : decode cX4_chosen 121 = .ok (.goto (-48), 3) := by decide +kernel
theorem dX4_chosen_124 : decode cX4_chosen 124 = .ok (.aload_n 1, 1) := by decide +kernel
theorem dX4_chosen_125 : decode cX4_chosen 125 = .ok (.iload_n 2, 1) := by decide +kernel
theorem dX4_chosen_126 : decode cX4_chosen 126 = .ok (.iaload, 1) := by decide +kernel
theorem dX4_chosen_127 : decode cX4_chosen 127 = .ok (.ireturn, 1) := by decide +kernel
def rX4_chosen : Room := { frames := 3, cells := 0, slots := 0, locals := 70 }
theorem yk_X4_chosen : YK yX4_chosen cX4_chosen 10 (some .int) 3 := ⟨xim_X4_chosen, xse_X4_chosen, xin_X4, xco_X4_chosen, by decide +kernel⟩
set_option maxRecDepth 4000 in
theorem c_X4_chosen {l : Launch} {D : va_G} {t : Nat → ClassId} {a : Nat → Nat} {I : Nat → Int32} {F : Nat → Nat → Int32} {L : Nat → Int64} {K : Cfg} (hK : CFG K I F) (hW : WFK K) (j : Nat) (h6 : 6 ≤ j) (hj : j < 13) {f : Nat → Nat} (hS : RA (kn K) (F j) f) (p : Nat) (hp : p < kn K) (lot : Nat) (hlot : lot < 65536) : CT l D t yX4_chosen cX4_chosen 10 (some .int) rX4_chosen 0 0 [.ref (a 3), .ref (a (8 + j)), .int (nI p), .int (nI lot)] (WX a t I F L) (EP (fun v w => v = .int (nI (chN K f p lot)) ∧ ∃ L' : Nat → Int64, w = WX a t I F L')) := by
  refine CT.of (by decide +kernel) (by simp [lg_sl, Value.category]) (fun X C hR => ?_)
  refine xlocals (lv' := [(0, .ref (a 3)), (1, .ref (a (8 + j))), (2, .int (nI p)), (3, .int (nI lot))]) rfl ?_
  have fn24 := hW.n24; have fm60 := hW.m60; have fk2 := hW.k2; have fu1 := hW.u1; have fu9 := hW.u9; have fv1 := hW.v1; have fv9 := hW.v9
  refine xaload_n C 0 rfl dX4_chosen_0 ?_
  refine gX4_19 C dX4_chosen_1 ?_
  refine xiload_n C 2 rfl dX4_chosen_4 ?_
  refine xcVR C (c_X2_most hK hW p (by omega)) yk_X2_most 2 rfl rfl xml_X4_49 ⟨⟨Nat.le_of_ble_eq_true rfl, Nat.le_of_ble_eq_true rfl⟩, ⟨rfl, rfl⟩, ⟨Nat.zero_le _, Nat.zero_le _⟩⟩ rfl (Nat.le_of_ble_eq_true rfl) dX4_chosen_5 ?_
  have fm5 := mostN_le hW (show p < kn K by omega)
  refine xistore (lv' := [(4, .int (nI (mostN K p))), (0, .ref (a 3)), (1, .ref (a (8 + j))), (2, .int (nI p)), (3, .int (nI lot))]) C dX4_chosen_8 (by decide) rfl ?_
  refine xlconst (v := lN 0) C dX4_chosen_10 (by decide) ?_
  refine xlstore (lv' := [(5, .long (lN 0)), (4, .int (nI (mostN K p))), (0, .ref (a 3)), (1, .ref (a (8 + j))), (2, .int (nI p)), (3, .int (nI lot))]) C dX4_chosen_11 (by decide) rfl ?_
  refine xiconst (v := nI 0) C dX4_chosen_13 (by decide) ?_
  refine xistore (lv' := [(7, .int (nI 0)), (5, .long (lN 0)), (4, .int (nI (mostN K p))), (0, .ref (a 3)), (1, .ref (a (8 + j))), (2, .int (nI p)), (3, .int (nI lot))]) C dX4_chosen_14 (by decide) rfl ?_
  have LP16 : ∀ (fu16 : Nat) (h : Nat) (LA : Nat → Int64) (hh : h ≤ mostN K p + 1) (hLA : ∀ x, x < h → LA x = lN (whN K f p x)), mostN K p + 1 - h < fu16 → XW X 0 0 (WX a t I F LA) [(0, .ref (a 3)), (1, .ref (a (8 + j))), (2, .int (nI p)), (3, .int (nI lot)), (4, .int (nI (mostN K p))), (5, .long (lN (sm (whN K f p) h))), (7, .int (nI h))] 16 [] := by
    intro fu16
    induction fu16 with
    | zero => intro h LA hh hLA hm16; exact absurd hm16 (Nat.not_lt_zero _)
    | succ fu16 ih16 =>
      intro h LA hh hLA hm16
      refine xiload C 6 rfl dX4_chosen_16 ?_
      refine xiload C 4 rfl dX4_chosen_18 ?_
      refine xicmp_gtN C 67 dX4_chosen_20 (by decide) (by omega) (by omega) (fun h20 => ?_) (fun h20 => ?_)
      ·
        have eh : h = mostN K p + 1 := by omega
        rw [eh] at hLA
        refine xlocals (lv' := [(0, .ref (a 3)), (1, .ref (a (8 + j))), (2, .int (nI p)), (3, .int (nI lot)), (4, .int (nI (mostN K p))), (5, .long (lN (sm (whN K f p) (mostN K p + 1)))), (7, .int (nI h))]) (by rw [eh]) ?_
        refine xlconst (v := lN 0) C dX4_chosen_67 (by decide) ?_
        refine xlstore (lv' := [(7, .long (lN 0)), (0, .ref (a 3)), (1, .ref (a (8 + j))), (2, .int (nI p)), (3, .int (nI lot)), (4, .int (nI (mostN K p))), (5, .long (lN (sm (whN K f p) (mostN K p + 1))))]) C dX4_chosen_68 (by decide) rfl ?_
        refine xiconst (v := nI 0) C dX4_chosen_70 (by decide) ?_
        refine xistore (lv' := [(9, .int (nI 0)), (7, .long (lN 0)), (0, .ref (a 3)), (1, .ref (a (8 + j))), (2, .int (nI p)), (3, .int (nI lot)), (4, .int (nI (mostN K p))), (5, .long (lN (sm (whN K f p) (mostN K p + 1))))]) C dX4_chosen_71 (by decide) rfl ?_
        have LP73 : ∀ (fu73 : Nat) (i : Nat) (hi : i ≤ mostN K p + 1) (hno : ∀ x, x < i → ¬ lot * sm (whN K f p) (mostN K p + 1) < 65536 * sm (whN K f p) (x + 1)), mostN K p + 1 - i < fu73 → XW X 0 0 (WX a t I F LA) [(0, .ref (a 3)), (1, .ref (a (8 + j))), (2, .int (nI p)), (3, .int (nI lot)), (4, .int (nI (mostN K p))), (5, .long (lN (sm (whN K f p) (mostN K p + 1)))), (7, .long (lN (sm (whN K f p) i))), (9, .int (nI i))] 73 [] := by
          intro fu73
          induction fu73 with
          | zero => intro i hi hno hm73; exact absurd hm73 (Nat.not_lt_zero _)
          | succ fu73 ih73 =>
            intro i hi hno hm73
            refine xiload C 7 rfl dX4_chosen_73 ?_
            refine xiload C 4 rfl dX4_chosen_75 ?_
            refine xicmp_gtN C 124 dX4_chosen_77 (by decide) (by omega) (by omega) (fun h77 => ?_) (fun h77 => ?_)
            ·
              refine xaload_n C 1 rfl dX4_chosen_124 ?_
              refine xiload_n C 2 rfl dX4_chosen_125 ?_
              refine xa_st C hW j h6 hj hS p (by omega) dX4_chosen_126 ?_
              have fb126 := (hS p (by omega)).2
              exact xret C hR (rfl) dX4_chosen_127 (⟨_, rfl, by rw [show chN K f p lot = f p from by unfold chN; rw [fst_none (fun x hx => hno x (by omega))]], LA, rfl⟩)
            ·
              refine xlload C 6 rfl dX4_chosen_80 ?_
              refine xaload_n C 0 rfl dX4_chosen_82 ?_
              refine gX4_9 C dX4_chosen_83 ?_
              refine xiload C 7 rfl dX4_chosen_86 ?_
              refine xa_w C i (by omega) dX4_chosen_88 ?_
              refine xtopl (y := lN (whN K f p i)) (hLA i (by omega)) ?_
              refine xladdN C dX4_chosen_89 ?_
              refine xtopl (y := lN (sm (whN K f p) (i + 1))) (rfl) ?_
              refine xlstore (lv' := [(7, .long (lN (sm (whN K f p) (i + 1)))), (0, .ref (a 3)), (1, .ref (a (8 + j))), (2, .int (nI p)), (3, .int (nI lot)), (4, .int (nI (mostN K p))), (5, .long (lN (sm (whN K f p) (mostN K p + 1)))), (9, .int (nI i))]) C dX4_chosen_90 (by decide) rfl ?_
              refine xiload_n C 4 rfl dX4_chosen_92 ?_
              refine xi2lN C (by omega) dX4_chosen_93 ?_
              refine xlload C 6 rfl dX4_chosen_94 ?_
              refine xlmulN C dX4_chosen_96 ?_
              refine xldc2 C dX4_chosen_97 xcn_X4_61 ?_
              refine xtopl (y := lN 65536) (by decide +kernel) ?_
              refine xlload C 0 rfl dX4_chosen_100 ?_
              refine xlmulN C dX4_chosen_102 ?_
              refine xlcmp_ge C 118 dX4_chosen_103 dX4_chosen_104 (by decide) (whN_lt1 hW hp hlot) (whN_lt2 hW hp (by omega)) (fun h103 => ?_) (fun h103 => ?_)
              ·
                refine xiincN (lv' := [(9, .int (nI (i + 1))), (7, .long (lN (sm (whN K f p) (i + 1)))), (0, .ref (a 3)), (1, .ref (a (8 + j))), (2, .int (nI p)), (3, .int (nI lot)), (4, .int (nI (mostN K p))), (5, .long (lN (sm (whN K f p) (mostN K p + 1))))]) C 7 rfl dX4_chosen_118 (by decide) rfl ?_
                refine xgoto C 73 dX4_chosen_121 (by decide) ?_
                refine xsub [2, 3, 4, 5, 6, 7, 1, 0] rfl ?_
                exact ih73 (i + 1) (by omega) (lt_s hno (Nat.not_lt.mpr h103)) (by omega)
              ·
                refine xaload_n C 1 rfl dX4_chosen_107 ?_
                refine gX4_19 C dX4_chosen_108 ?_
                refine xiload_n C 3 rfl dX4_chosen_111 ?_
                refine xiload C 7 rfl dX4_chosen_112 ?_
                refine xcVR C (c_X2_numberOfHeight hK hW p (by omega) i (by omega)) yk_X2_numberOfHeight 2 rfl rfl xml_X4_54 ⟨⟨Nat.le_of_ble_eq_true rfl, Nat.le_of_ble_eq_true rfl⟩, ⟨rfl, rfl⟩, ⟨Nat.zero_le _, Nat.zero_le _⟩⟩ rfl (Nat.le_of_ble_eq_true rfl) dX4_chosen_114 ?_
                have fo114 : nohN K p i ≤ 5 := nohN_le (by omega)
                exact xret C hR (rfl) dX4_chosen_117 (⟨_, rfl, by rw [chN_some h77 h103 hno], LA, rfl⟩)
        refine xsub [2, 3, 4, 5, 6, 7, 1, 0] rfl ?_
        exact LP73 _ 0 (Nat.zero_le _) (fun x h => absurd h (Nat.not_lt_zero _)) (Nat.lt_succ_self _)
      ·
        refine xaload_n C 0 rfl dX4_chosen_23 ?_
        refine gX4_9 C dX4_chosen_24 ?_
        refine xiload C 6 rfl dX4_chosen_27 ?_
        refine xaload_n C 0 rfl dX4_chosen_29 ?_
        refine gX4_19 C dX4_chosen_30 ?_
        refine xaload_n C 1 rfl dX4_chosen_33 ?_
        refine xiload_n C 2 rfl dX4_chosen_34 ?_
        refine xaload_n C 0 rfl dX4_chosen_35 ?_
        refine gX4_19 C dX4_chosen_36 ?_
        refine xiload_n C 2 rfl dX4_chosen_39 ?_
        refine xiload C 6 rfl dX4_chosen_40 ?_
        refine xcVR C (c_X2_numberOfHeight hK hW p (by omega) h (by omega)) yk_X2_numberOfHeight 2 rfl rfl xml_X4_54 ⟨⟨Nat.le_of_ble_eq_true rfl, Nat.le_of_ble_eq_true rfl⟩, ⟨rfl, rfl⟩, ⟨Nat.zero_le _, Nat.zero_le _⟩⟩ rfl (Nat.le_of_ble_eq_true rfl) dX4_chosen_42 ?_
        have fo42 : nohN K p h ≤ 5 := nohN_le (by omega)
        refine xcVR C (c_X2_weightAround hK hW j h6 hj hS p (by omega) (nohN K p h) (by omega)) yk_X2_weightAround 2 rfl rfl xml_X4_57 ⟨⟨Nat.le_of_ble_eq_true rfl, Nat.le_of_ble_eq_true rfl⟩, ⟨rfl, rfl⟩, ⟨Nat.zero_le _, Nat.zero_le _⟩⟩ rfl (Nat.le_of_ble_eq_true rfl) dX4_chosen_45 ?_
        refine xtopl (y := lN (whN K f p h)) (rfl) ?_
        refine xs_w C h (by omega) dX4_chosen_48 ?_
        obtain ⟨LB, eLB⟩ : ∃ z : Nat → Int64, z = vp_updL LA h (lN (whN K f p h)) := ⟨_, rfl⟩
        refine xworld (ws' := WX a t I F LB) (by rw [eLB]) ?_
        refine xlload C 5 rfl dX4_chosen_49 ?_
        refine xaload_n C 0 rfl dX4_chosen_51 ?_
        refine gX4_9 C dX4_chosen_52 ?_
        refine xiload C 6 rfl dX4_chosen_55 ?_
        refine xa_w C h (by omega) dX4_chosen_57 ?_
        refine xtopl (y := lN (whN K f p h)) (by rw [eLB]; simp [vp_updL]) ?_
        refine xladdN C dX4_chosen_58 ?_
        refine xtopl (y := lN (sm (whN K f p) (h + 1))) (rfl) ?_
        refine xlstore (lv' := [(5, .long (lN (sm (whN K f p) (h + 1)))), (0, .ref (a 3)), (1, .ref (a (8 + j))), (2, .int (nI p)), (3, .int (nI lot)), (4, .int (nI (mostN K p))), (7, .int (nI h))]) C dX4_chosen_59 (by decide) rfl ?_
        refine xiincN (lv' := [(7, .int (nI (h + 1))), (5, .long (lN (sm (whN K f p) (h + 1)))), (0, .ref (a 3)), (1, .ref (a (8 + j))), (2, .int (nI p)), (3, .int (nI lot)), (4, .int (nI (mostN K p)))]) C 6 rfl dX4_chosen_61 (by decide) rfl ?_
        refine xgoto C 16 dX4_chosen_64 (by decide) ?_
        refine xsub [2, 3, 4, 5, 6, 1, 0] rfl ?_
        exact ih16 (h + 1) LB (by omega) (fun x hx => by rw [eLB]; by_cases e : x = h; (subst e; simp [vp_updL]); (simp only [vp_updL, if_neg e]; exact hLA x (by omega))) (by omega)
  refine xsub [3, 4, 5, 6, 2, 1, 0] rfl ?_
  exact LP16 _ 0 L (Nat.zero_le _) (fun x h => absurd h (Nat.not_lt_zero _)) (Nat.lt_succ_self _)
theorem dX4_changes_0 : decode cX4_changes 0 = .ok (.iload_n 2, 1) := by decide +kernel
theorem dX4_changes_1 : decode cX4_changes 1 = .ok (.iload_n 3, 1) := by decide +kernel
theorem dX4_changes_2 : decode cX4_changes 2 = .ok (.invokestatic 34, 3) := by decide +kernel
theorem dX4_changes_5 : decode cX4_changes 5 = .ok (.istore 4, 2) := by decide +kernel
theorem dX4_changes_7 : decode cX4_changes 7 = .ok (.aload_n 0, 1) := by decide +kernel
theorem dX4_changes_8 : decode cX4_changes 8 = .ok (.iload 4, 2) := by decide +kernel
theorem dX4_changes_10 : decode cX4_changes 10 = .ok (.invokevirtual 38, 3) := by decide +kernel
theorem dX4_changes_13 : decode cX4_changes 13 = .ok (.istore 5, 2) := by decide +kernel
theorem dX4_changes_15 : decode cX4_changes 15 = .ok (.aload_n 1, 1) := by decide +kernel
theorem dX4_changes_16 : decode cX4_changes 16 = .ok (.iload 5, 2) := by decide +kernel
theorem dX4_changes_18 : decode cX4_changes 18 = .ok (.iaload, 1) := by decide +kernel
theorem dX4_changes_19 : decode cX4_changes 19 = .ok (.istore 6, 2) := by decide +kernel
theorem dX4_changes_21 : decode cX4_changes 21 = .ok (.aload_n 1, 1) := by decide +kernel
theorem dX4_changes_22 : decode cX4_changes 22 = .ok (.iload 5, 2) := by decide +kernel
theorem dX4_changes_24 : decode cX4_changes 24 = .ok (.aload_n 0, 1) := by decide +kernel
theorem dX4_changes_25 : decode cX4_changes 25 = .ok (.aload_n 1, 1) := by decide +kernel
theorem dX4_changes_26 : decode cX4_changes 26 = .ok (.iload 5, 2) := by decide +kernel
theorem dX4_changes_28 : decode cX4_changes 28 = .ok (.iload 4, 2) := by decide +kernel
theorem dX4_changes_30 : decode cX4_changes 30 = .ok (.invokestatic 42, 3) := by decide +kernel
theorem dX4_changes_33 : decode cX4_changes 33 = .ok (.invokevirtual 45, 3) := by decide +kernel
theorem dX4_changes_36 : decode cX4_changes 36 = .ok (.iastore, 1) := by decide +kernel
theorem dX4_changes_37 : decode cX4_changes 37 = .ok (.aload_n 1, 1) := by decide +kernel
theorem dX4_changes_38 : decode cX4_changes 38 = .ok (.iload 5, 2) := by decide +kernel
theorem dX4_changes_40 : decode cX4_changes 40 = .ok (.iaload, 1) := by decide +kernel
theorem dX4_changes_41 : decode cX4_changes 41 = .ok (.iload 6, 2) := by decide +kernel
theorem dX4_changes_43 : decode cX4_changes 43 = .ok (.if_icmp .eq 7, 3) := by decide +kernel
theorem dX4_changes_46 : decode cX4_changes 46 = .ok (.iconst 1, 1) := by decide +kernel
theorem dX4_changes_47 : decode cX4_changes 47 = .ok (.goto 4, 3) := by decide +kernel
theorem dX4_changes_50 : decode cX4_changes 50 = .ok (.iconst 0, 1) := by decide +kernel
theorem dX4_changes_51 : decode cX4_changes 51 = .ok (.ireturn, 1) := by decide +kernel
def rX4_changes : Room := { frames := 4, cells := 0, slots := 0, locals := 99 }
theorem yk_X4_changes : YK yX4_changes cX4_changes 7 (some .boolean) 3 := ⟨xim_X4_changes, xse_X4_changes, xin_X4, xco_X4_changes, by decide +kernel⟩
set_option maxRecDepth 4000 in
theorem c_X4_changes {l : Launch} {D : va_G} {t : Nat → ClassId} {a : Nat → Nat} {I : Nat → Int32} {F : Nat → Nat → Int32} {L : Nat → Int64} {K : Cfg} (hK : CFG K I F) (hW : WFK K) (j : Nat) (h6 : 6 ≤ j) (hj : j < 13) {f : Nat → Nat} (hS : RA (kn K) (F j) f) (hn : 0 < kn K) (sd tt : Int32) : CT l D t yX4_changes cX4_changes 7 (some .boolean) rX4_changes 0 0 [.ref (a 3), .ref (a (8 + j)), .int sd, .int tt] (WX a t I F L) (EP (fun v w => v = .int (nI (bn (chgP K sd f tt))) ∧ ∃ (F' : Nat → Nat → Int32) (L' : Nat → Int64), w = WX a t I F' L' ∧ (∀ q, q ≠ j → F' q = F q) ∧ RA (kn K) (F' j) (tkN K sd f tt))) := by
  refine CT.of (by decide +kernel) (by simp [lg_sl, Value.category]) (fun X C hR => ?_)
  refine xlocals (lv' := [(0, .ref (a 3)), (1, .ref (a (8 + j))), (2, .int sd), (3, .int tt)]) rfl ?_
  have fn24 := hW.n24; have fm60 := hW.m60; have fk2 := hW.k2; have fu1 := hW.u1; have fu9 := hW.u9; have fv1 := hW.v1; have fv9 := hW.v9
  refine xiload_n C 2 rfl dX4_changes_0 ?_
  refine xiload_n C 3 rfl dX4_changes_1 ?_
  refine xcSR C (c_X4_mixed sd tt) sk_X4_mixed xml_X4_34 ⟨⟨Nat.le_of_ble_eq_true rfl, Nat.le_of_ble_eq_true rfl⟩, ⟨rfl, rfl⟩, ⟨Nat.zero_le _, Nat.zero_le _⟩⟩ rfl (Nat.le_of_ble_eq_true rfl) dX4_changes_2 ?_
  refine xistore (lv' := [(4, .int (mixI sd tt)), (0, .ref (a 3)), (1, .ref (a (8 + j))), (2, .int sd), (3, .int tt)]) C dX4_changes_5 (by decide) rfl ?_
  refine xaload_n C 1 rfl dX4_changes_7 ?_
  refine xiload C 0 rfl dX4_changes_8 ?_
  refine xcVR C (c_X4_placeOf hK hW hn (mixI sd tt)) yk_X4_placeOf 3 rfl rfl xml_X4_38 ⟨⟨Nat.le_of_ble_eq_true rfl, Nat.le_of_ble_eq_true rfl⟩, ⟨rfl, rfl⟩, ⟨Nat.zero_le _, Nat.zero_le _⟩⟩ rfl (Nat.le_of_ble_eq_true rfl) dX4_changes_10 ?_
  have fp10 : plN K (mixI sd tt) < kn K := Nat.mod_lt _ hn
  refine xistore (lv' := [(5, .int (nI (plN K (mixI sd tt)))), (4, .int (mixI sd tt)), (0, .ref (a 3)), (1, .ref (a (8 + j))), (2, .int sd), (3, .int tt)]) C dX4_changes_13 (by decide) rfl ?_
  refine xaload_n C 3 rfl dX4_changes_15 ?_
  refine xiload C 0 rfl dX4_changes_16 ?_
  refine xa_st C hW j h6 hj hS (plN K (mixI sd tt)) (by omega) dX4_changes_18 ?_
  have fb18 := (hS (plN K (mixI sd tt)) (by omega)).2
  refine xistore (lv' := [(6, .int (nI (f (plN K (mixI sd tt))))), (5, .int (nI (plN K (mixI sd tt)))), (4, .int (mixI sd tt)), (0, .ref (a 3)), (1, .ref (a (8 + j))), (2, .int sd), (3, .int tt)]) C dX4_changes_19 (by decide) rfl ?_
  refine xaload_n C 4 rfl dX4_changes_21 ?_
  refine xiload C 1 rfl dX4_changes_22 ?_
  refine xaload_n C 3 rfl dX4_changes_24 ?_
  refine xaload_n C 4 rfl dX4_changes_25 ?_
  refine xiload C 1 rfl dX4_changes_26 ?_
  refine xiload C 2 rfl dX4_changes_28 ?_
  refine xcSR C (c_X4_lotOf (mixI sd tt)) sk_X4_lotOf xml_X4_42 ⟨⟨Nat.le_of_ble_eq_true rfl, Nat.le_of_ble_eq_true rfl⟩, ⟨rfl, rfl⟩, ⟨Nat.zero_le _, Nat.zero_le _⟩⟩ rfl (Nat.le_of_ble_eq_true rfl) dX4_changes_30 ?_
  have fl30 := lotN_lt (mixI sd tt)
  refine xcVE C (c_X4_chosen hK hW j h6 hj hS (plN K (mixI sd tt)) (by omega) (lotN (mixI sd tt)) (by omega)) yk_X4_chosen 3 rfl rfl xml_X4_45 ⟨⟨Nat.le_of_ble_eq_true rfl, Nat.le_of_ble_eq_true rfl⟩, ⟨rfl, rfl⟩, ⟨Nat.zero_le _, Nat.zero_le _⟩⟩ rfl (Nat.le_of_ble_eq_true rfl) dX4_changes_33 (fun vE wE hE => ?_)
  obtain ⟨rfl, LB, rfl⟩ := hE
  have hc5 : (chN K f (plN K (mixI sd tt)) (lotN (mixI sd tt))) ≤ 5 := chN_le hW (by omega) (hS _ (by omega)).2
  refine xs_st C j (by omega) (by omega) (plN K (mixI sd tt)) (by omega) dX4_changes_36 ?_
  obtain ⟨FA, eFA⟩ : ∃ z : Nat → Nat → Int32, z = va_up F j (upd (F j) (plN K (mixI sd tt)) (nI (chN K f (plN K (mixI sd tt)) (lotN (mixI sd tt))))) := ⟨_, rfl⟩
  refine xworld (ws' := WX a t I FA LB) (by rw [eFA]) ?_
  have hKA : CFG K I FA := by rw [eFA]; exact hK.upF h6 hj _
  have hSA : RA (kn K) (FA j) (tkN K sd f tt) := by rw [eFA, va_up_self]; exact hS.up hc5
  refine xaload_n C 4 rfl dX4_changes_37 ?_
  refine xiload C 1 rfl dX4_changes_38 ?_
  refine xa_st C hW j h6 hj hSA (plN K (mixI sd tt)) (by omega) dX4_changes_40 ?_
  have fb40 := (hSA (plN K (mixI sd tt)) (by omega)).2
  refine xtopi (y := nI ((chN K f (plN K (mixI sd tt)) (lotN (mixI sd tt))))) (by rw [show tkN K sd f tt (plN K (mixI sd tt)) = (chN K f (plN K (mixI sd tt)) (lotN (mixI sd tt))) from va_up_self _ _ _]) ?_
  refine xiload C 0 rfl dX4_changes_41 ?_
  refine xicmp_eqN C 50 dX4_changes_43 (by decide) (by omega) (by omega) (fun h43 => ?_) (fun h43 => ?_)
  ·
    refine xiconst (v := nI 0) C dX4_changes_50 (by decide) ?_
    exact xret C hR (by rfl) dX4_changes_51 (⟨_, rfl, by rw [bn_f (P := chgP K sd f tt) (fun q => q h43)], FA, _, rfl, fun q hq => by rw [eFA, va_up_ne _ _ hq], hSA⟩)
  ·
    refine xiconst (v := nI 1) C dX4_changes_46 (by decide) ?_
    refine xgoto C 51 dX4_changes_47 (by decide) ?_
    exact xret C hR (by rfl) dX4_changes_51 (⟨_, rfl, by rw [bn_t (P := chgP K sd f tt) h43], FA, _, rfl, fun q hq => by rw [eFA, va_up_ne _ _ hq], hSA⟩)
end
section
/-! Draws (written by my program parts_x0.py). -/
theorem xlen24 {i : Nat} (h6 : 6 ≤ i) (hi : i < 13) : 24 ≤ xlenN i := by unfold xlenN; rw [if_neg (by omega), if_neg (by omega), if_neg (by omega)]; omega
/-- both are the same state behind so many ticks from -b on; they have been by then; the tick at which they first were -/
def eqAt (K : Cfg) (sd : Int32) (b i : Nat) : Prop := ∀ p, p < kn K → itN K sd (hS K) (-nI b) i p = itN K sd (lS K) (-nI b) i p
def metP (K : Cfg) (sd : Int32) (b i : Nat) : Prop := ∃ x, x ≤ i ∧ eqAt K sd b x
noncomputable def mtN (K : Cfg) (sd : Int32) (b : Nat) : Nat → Int32
  | 0 => 0
  | i + 1 => if bn (metP K sd b i) = 1 then mtN K sd b i else if bn (eqAt K sd b (i + 1)) = 1 then -nI b + nI i else mtN K sd b i
theorem metP_0 {K : Cfg} {sd : Int32} {b : Nat} : bn (metP K sd b 0) = bn (∀ p, p < kn K → hS K p = lS K p) := bn_iff ⟨fun ⟨x, h1, h2⟩ => by
  have : x = 0 := by omega
  subst this
  exact h2, fun h => ⟨0, Nat.le_refl _, h⟩⟩
theorem metP_keep {K : Cfg} {sd : Int32} {b i : Nat} (h : metP K sd b i) : bn (metP K sd b (i + 1)) = bn (metP K sd b i) := by
  rw [bn_t h, bn_t (P := metP K sd b (i + 1)) (by obtain ⟨x, h1, h2⟩ := h; exact ⟨x, by omega, h2⟩)]
theorem metP_not {K : Cfg} {sd : Int32} {b i : Nat} (h : ¬ metP K sd b i) (h2 : ¬ ∀ p, p < kn K → itN K sd (hS K) (-nI b) (i + 1) p = itN K sd (lS K) (-nI b) (i + 1) p) : bn (metP K sd b (i + 1)) = bn (metP K sd b i) := by
  rw [bn_f h, bn_f (P := metP K sd b (i + 1))]
  intro ⟨x, h3, h4⟩
  by_cases e : x = i + 1
  · subst e; exact h2 h4
  · exact h ⟨x, by omega, h4⟩
theorem metP_now {K : Cfg} {sd : Int32} {b i : Nat} (h : ¬ metP K sd b i) (h2 : ∀ p, p < kn K → itN K sd (hS K) (-nI b) (i + 1) p = itN K sd (lS K) (-nI b) (i + 1) p) : bn (metP K sd b (i + 1)) = 1 := bn_t ⟨i + 1, Nat.le_refl _, h2⟩
theorem mtN_keep {K : Cfg} {sd : Int32} {b i : Nat} (h : metP K sd b i) : mtN K sd b (i + 1) = mtN K sd b i := by
  show (if _ then _ else _) = _
  rw [if_pos (bn_t h)]
theorem mtN_not {K : Cfg} {sd : Int32} {b i : Nat} (h : ¬ metP K sd b i) (h2 : ¬ ∀ p, p < kn K → itN K sd (hS K) (-nI b) (i + 1) p = itN K sd (lS K) (-nI b) (i + 1) p) : mtN K sd b (i + 1) = mtN K sd b i := by
  show (if _ then _ else if _ then _ else _) = _
  rw [if_neg (by rw [bn_f h]; decide), if_neg (by rw [bn_f (P := eqAt K sd b (i + 1)) h2]; decide)]
theorem mtN_now {K : Cfg} {sd : Int32} {b i : Nat} (h : ¬ metP K sd b i) (h2 : ∀ p, p < kn K → itN K sd (hS K) (-nI b) (i + 1) p = itN K sd (lS K) (-nI b) (i + 1) p) : mtN K sd b (i + 1) = -nI b + nI i := by
  show (if _ then _ else if _ then _ else _) = _
  rw [if_neg (by rw [bn_f h]; decide), if_pos (bn_t (P := eqAt K sd b (i + 1)) h2)]
/-- the draw: the least exponent -/
def eqN (K : Cfg) (sd : Int32) (b : Nat) : Prop := eqAt K sd b b
noncomputable def farN (K : Cfg) (sd : Int32) : Option Nat := fst (fun e => eqN K sd (2 ^ e)) 13
theorem far_some {K : Cfg} {sd : Int32} {e : Nat} (hno : ∀ x, x < e → ¬ eqN K sd (2 ^ x)) (h : ∀ p, p < kn K → itN K sd (hS K) (-nI (2 ^ e)) (2 ^ e) p = itN K sd (lS K) (-nI (2 ^ e)) (2 ^ e) p) (he : e ≤ 12) : farN K sd = some e := fst_some (P := fun e => eqN K sd (2 ^ e)) h hno (by omega)
theorem far_none {K : Cfg} {sd : Int32} (hno : ∀ x, x < 13 → ¬ eqN K sd (2 ^ x)) : farN K sd = none := fst_none (P := fun e => eqN K sd (2 ^ e)) hno
theorem far13 {e b : Nat} (he : e ≤ 13) (hb : b = 2 ^ e) (h : 4096 < b) : e = 13 := by
  rcases Nat.lt_or_ge e 13 with q | q
  · have : 2 ^ e ≤ 2 ^ 12 := Nat.pow_le_pow_right (by decide) (by omega)
    omega
  · omega
theorem far12 {e b : Nat} (he : e ≤ 13) (hb : b = 2 ^ e) (h : b ≤ 4096) : e ≤ 12 := by
  by_cases q : e = 13
  · subst q; omega
  · omega
theorem t_int {b i : Nat} (hb : b ≤ 4096) (hi : i ≤ b) : (-nI b + nI i) = nI i - nI b := by rw [Int32.add_comm, ← Int32.sub_eq_add_neg]
theorem tge {b i : Nat} (hb : b ≤ 4096) (hi : i ≤ b) (h : 0 ≤ -nI b + nI i) : i = b := by
  rw [t_int hb hi] at h
  have h1 := Int32.le_iff_toInt_le.mp h
  rw [pk_sub_toInt (by omega) (by omega)] at h1
  have h2 : (0 : Int32).toInt = 0 := by decide
  omega
theorem tnge {b i : Nat} (hb : b ≤ 4096) (hi : i ≤ b) (h : ¬ 0 ≤ -nI b + nI i) : i < b := by
  rcases Nat.lt_or_ge i b with q | q
  · exact q
  · have e : i = b := by omega
    subst e
    exact absurd (by rw [t_int hb hi]; simp) h
theorem dX5_copyRow_0 : decode cX5_copyRow 0 = .ok (.aload_n 0, 1) := by decide +kernel
theorem dX5_copyRow_1 : decode cX5_copyRow 1 = .ok (.iconst 0, 1) := by decide +kernel
theorem dX5_copyRow_2 : decode cX5_copyRow 2 = .ok (.aload_n 1, 1) := by decide +kernel
theorem dX5_copyRow_3 : decode cX5_copyRow 3 = .ok (.iconst 0, 1) := by decide +kernel
theorem dX5_copyRow_4 : decode cX5_copyRow 4 = .ok (.bipush 24, 2) := by decide +kernel
theorem dX5_copyRow_6 : decode cX5_copyRow 6 = .ok (.invokestatic 207, 3) := by decide +kernel
theorem dX5_copyRow_9 : decode cX5_copyRow 9 = .ok (.return_, 1) := by decide +kernel
def rX5_copyRow : Room := { frames := 1, cells := 0, slots := 0, locals := 39 }
theorem sk_X5_copyRow : SK yX5_copyRow cX5_copyRow 2 none 2 := ⟨xst_X5_copyRow, xin_X5, xco_X5_copyRow, by decide +kernel⟩
set_option maxRecDepth 4000 in
theorem c_X5_copyRow {l : Launch} {D : va_G} {t : Nat → ClassId} {a : Nat → Nat} {I : Nat → Int32} {F : Nat → Nat → Int32} {L : Nat → Int64} (i j : Nat) (hi6 : 6 ≤ i) (hi : i < 13) (hj6 : 6 ≤ j) (hj : j < 13) : CT l D t yX5_copyRow cX5_copyRow 2 none rX5_copyRow 0 0 [.ref (a (8 + i)), .ref (a (8 + j))] (WX a t I F L) (VP (fun w => ∃ F' : Nat → Nat → Int32, w = WX a t I F' L ∧ (∀ q, q ≠ j → F' q = F q) ∧ ∀ p, p < 24 → F' j p = F i p)) := by
  refine CT.of (by decide +kernel) (by simp [lg_sl, Value.category]) (fun X C hR => ?_)
  refine xlocals (lv' := [(0, .ref (a (8 + i))), (1, .ref (a (8 + j)))]) rfl ?_
  refine xaload_n C 0 rfl dX5_copyRow_0 ?_
  refine xiconst (v := 0) C dX5_copyRow_1 (by decide) ?_
  refine xaload_n C 1 rfl dX5_copyRow_2 ?_
  refine xiconst (v := 0) C dX5_copyRow_3 (by decide) ?_
  refine xbipush (v := nI 24) C dX5_copyRow_4 (by decide) ?_
  refine xcopy C (8 + i) (8 + j) (WXa_get (by omega)) (WXa_get (by omega)) 24 (by decide) (xlen24 hi6 hi) (xlen24 hj6 hj) xml_X5_207 (Nat.le_of_ble_eq_true rfl) (Nat.le_of_ble_eq_true rfl) dX5_copyRow_6 (WXa_set (by omega) _) ?_
  exact xvret C hR dX5_copyRow_9 (⟨rfl, _, rfl, fun q hq => va_up_ne _ _ hq, fun p hp => by rw [va_up_self]; unfold va_cpy; rw [if_pos (by omega)]; congr 1; omega⟩)
theorem dX0_areOneState_0 : decode cX0_areOneState 0 = .ok (.iconst 0, 1) := by decide +kernel
theorem dX0_areOneState_1 : decode cX0_areOneState 1 = .ok (.istore_n 1, 1) := by decide +kernel
theorem dX0_areOneState_2 : decode cX0_areOneState 2 = .ok (.iload_n 1, 1) := by decide +kernel
theorem dX0_areOneState_3 : decode cX0_areOneState 3 = .ok (.aload_n 0, 1) := by decide +kernel
theorem dX0_areOneState_4 : decode cX0_areOneState 4 = .ok (.getfield 25, 3) := by decide +kernel
theorem dX0_areOneState_7 : decode cX0_areOneState 7 = .ok (.getfield 59, 3) := by decide +kernel
theorem dX0_areOneState_10 : decode cX0_areOneState 10 = .ok (.if_icmp .ge 26, 3) := by decide +kernel
theorem dX0_areOneState_13 : decode cX0_areOneState 13 = .ok (.aload_n 0, 1) := by decide +kernel
theorem dX0_areOneState_14 : decode cX0_areOneState 14 = .ok (.getfield 9, 3) := by decide +kernel
theorem dX0_areOneState_17 : decode cX0_areOneState 17 = .ok (.iload_n 1, 1) := by decide +kernel
theorem dX0_areOneState_18 : decode cX0_areOneState 18 = .ok (.iaload, 1) := by decide +kernel
theorem dX0_areOneState_19 : decode cX0_areOneState 19 = .ok (.aload_n 0, 1) := by decide +kernel
theorem dX0_areOneState_20 : decode cX0_areOneState 20 = .ok (.getfield 15, 3) := by decide +kernel
theorem dX0_areOneState_23 : decode cX0_areOneState 23 = .ok (.iload_n 1, 1) := by decide +kernel
theorem dX0_areOneState_24 : decode cX0_areOneState 24 = .ok (.iaload, 1) := by decide +kernel
theorem dX0_areOneState_25 : decode cX0_areOneState 25 = .ok (.if_icmp .eq 5, 3) := by decide +kernel
theorem dX0_areOneState_28 : decode cX0_areOneState 28 = .ok (.iconst 0, 1) := by decide +kernel
theorem dX0_areOneState_29 : decode cX0_areOneState 29 = .ok (.ireturn, 1) := by decide +kernel
theorem dX0_areOneState_30 : decode cX0_areOneState 30 = .ok (.iinc 1 1, 3) := by decide +kernel
theorem dX0_areOneState_33 : decode cX0_areOneState 33 = .ok (.goto (-31), 3) := by decide +kernel
theorem dX0_areOneState_36 : decode cX0_areOneState 36 = .ok (.iconst 1, 1) := by decide +kernel
theorem dX0_areOneState_37 : decode cX0_areOneState 37 = .ok (.ireturn, 1) := by decide +kernel
def rX0_areOneState : Room := { frames := 0, cells := 0, slots := 0, locals := 0 }
theorem yk_X0_areOneState : YK yX0_areOneState cX0_areOneState 2 (some .boolean) 0 := ⟨xim_X0_areOneState, xse_X0_areOneState, xin_X0, xco_X0_areOneState, by decide +kernel⟩
set_option maxRecDepth 4000 in
theorem c_X0_areOneState {l : Launch} {D : va_G} {t : Nat → ClassId} {a : Nat → Nat} {I : Nat → Int32} {F : Nat → Nat → Int32} {L : Nat → Int64} {K : Cfg} (hK : CFG K I F) (hW : WFK K) {hi lo : Nat → Nat} (hH : RA (kn K) (F 8) hi) (hL : RA (kn K) (F 9) lo) : CT l D t yX0_areOneState cX0_areOneState 2 (some .boolean) rX0_areOneState 0 0 [.ref (a 4)] (WX a t I F L) (RP (.int (nI (bn (∀ p, p < kn K → hi p = lo p)))) (WX a t I F L)) := by
  refine CT.of (by decide +kernel) (by simp [lg_sl, Value.category]) (fun X C hR => ?_)
  refine xlocals (lv' := [(0, .ref (a 4))]) rfl ?_
  have fn24 := hW.n24; have fm60 := hW.m60; have fk2 := hW.k2; have fu1 := hW.u1; have fu9 := hW.u9; have fv1 := hW.v1; have fv9 := hW.v9
  refine xiconst (v := nI 0) C dX0_areOneState_0 (by decide) ?_
  refine xistore_n (lv' := [(1, .int (nI 0)), (0, .ref (a 4))]) C dX0_areOneState_1 (by decide) rfl ?_
  have LP2 : ∀ (fu2 : Nat) (i : Nat) (hi1 : i ≤ kn K) (ha : ∀ p, p < i → hi p = lo p), kn K - i < fu2 → XW X 0 0 (WX a t I F L) [(0, .ref (a 4)), (1, .int (nI i))] 2 [] := by
    intro fu2
    induction fu2 with
    | zero => intro i hi1 ha hm2; exact absurd hm2 (Nat.not_lt_zero _)
    | succ fu2 ih2 =>
      intro i hi1 ha hm2
      refine xiload_n C 1 rfl dX0_areOneState_2 ?_
      refine xaload_n C 0 rfl dX0_areOneState_3 ?_
      refine gX0_25 C dX0_areOneState_4 ?_
      refine gX0_59K C hK dX0_areOneState_7 ?_
      refine xicmp_geN C 36 dX0_areOneState_10 (by decide) (by omega) (by omega) (fun h10 => ?_) (fun h10 => ?_)
      ·
        refine xiconst (v := nI 1) C dX0_areOneState_36 (by decide) ?_
        exact xret C hR (by rfl) dX0_areOneState_37 (RPn ((bn_t (fun p h => ha p (by omega))).symm))
      ·
        refine xaload_n C 0 rfl dX0_areOneState_13 ?_
        refine gX0_9 C dX0_areOneState_14 ?_
        refine xiload_n C 1 rfl dX0_areOneState_17 ?_
        refine xa_st C hW 8 (by omega) (by omega) hH i (by omega) dX0_areOneState_18 ?_
        have fb18 := (hH i (by omega)).2
        refine xaload_n C 0 rfl dX0_areOneState_19 ?_
        refine gX0_15 C dX0_areOneState_20 ?_
        refine xiload_n C 1 rfl dX0_areOneState_23 ?_
        refine xa_st C hW 9 (by omega) (by omega) hL i (by omega) dX0_areOneState_24 ?_
        have fb24 := (hL i (by omega)).2
        refine xicmp_eqN C 30 dX0_areOneState_25 (by decide) (by omega) (by omega) (fun h25 => ?_) (fun h25 => ?_)
        ·
          refine xiincN (lv' := [(1, .int (nI (i + 1))), (0, .ref (a 4))]) C 1 rfl dX0_areOneState_30 (by decide) rfl ?_
          refine xgoto C 2 dX0_areOneState_33 (by decide) ?_
          refine xsub [1, 0] rfl ?_
          exact ih2 (i + 1) (by omega) (lt_s ha h25) (by omega)
        ·
          refine xiconst (v := nI 0) C dX0_areOneState_28 (by decide) ?_
          exact xret C hR (by rfl) dX0_areOneState_29 (RPn ((bn_f (fun q => h25 (q i (by omega)))).symm))
  refine xsub [1, 0] rfl ?_
  exact LP2 _ 0 (Nat.zero_le _) (fun p h => absurd h (Nat.not_lt_zero _)) (Nat.lt_succ_self _)
theorem dX0_unlikePlaces_0 : decode cX0_unlikePlaces 0 = .ok (.iconst 0, 1) := by decide +kernel
theorem dX0_unlikePlaces_1 : decode cX0_unlikePlaces 1 = .ok (.istore_n 1, 1) := by decide +kernel
theorem dX0_unlikePlaces_2 : decode cX0_unlikePlaces 2 = .ok (.iconst 0, 1) := by decide +kernel
theorem dX0_unlikePlaces_3 : decode cX0_unlikePlaces 3 = .ok (.istore_n 2, 1) := by decide +kernel
theorem dX0_unlikePlaces_4 : decode cX0_unlikePlaces 4 = .ok (.iload_n 2, 1) := by decide +kernel
theorem dX0_unlikePlaces_5 : decode cX0_unlikePlaces 5 = .ok (.aload_n 0, 1) := by decide +kernel
theorem dX0_unlikePlaces_6 : decode cX0_unlikePlaces 6 = .ok (.getfield 25, 3) := by decide +kernel
theorem dX0_unlikePlaces_9 : decode cX0_unlikePlaces 9 = .ok (.getfield 59, 3) := by decide +kernel
theorem dX0_unlikePlaces_12 : decode cX0_unlikePlaces 12 = .ok (.if_icmp .ge 27, 3) := by decide +kernel
theorem dX0_unlikePlaces_15 : decode cX0_unlikePlaces 15 = .ok (.aload_n 0, 1) := by decide +kernel
theorem dX0_unlikePlaces_16 : decode cX0_unlikePlaces 16 = .ok (.getfield 9, 3) := by decide +kernel
theorem dX0_unlikePlaces_19 : decode cX0_unlikePlaces 19 = .ok (.iload_n 2, 1) := by decide +kernel
theorem dX0_unlikePlaces_20 : decode cX0_unlikePlaces 20 = .ok (.iaload, 1) := by decide +kernel
theorem dX0_unlikePlaces_21 : decode cX0_unlikePlaces 21 = .ok (.aload_n 0, 1) := by decide +kernel
theorem dX0_unlikePlaces_22 : decode cX0_unlikePlaces 22 = .ok (.getfield 15, 3) := by decide +kernel
theorem dX0_unlikePlaces_25 : decode cX0_unlikePlaces 25 = .ok (.iload_n 2, 1) := by decide +kernel
theorem dX0_unlikePlaces_26 : decode cX0_unlikePlaces 26 = .ok (.iaload, 1) := by decide +kernel
theorem dX0_unlikePlaces_27 : decode cX0_unlikePlaces 27 = .ok (.if_icmp .eq 6, 3) := by decide +kernel
theorem dX0_unlikePlaces_30 : decode cX0_unlikePlaces 30 = .ok (.iinc 1 1, 3) := by decide +kernel
theorem dX0_unlikePlaces_33 : decode cX0_unlikePlaces 33 = .ok (.iinc 2 1, 3) := by decide +kernel
theorem dX0_unlikePlaces_36 : decode cX0_unlikePlaces 36 = .ok (.goto (-32), 3) := by decide +kernel
theorem dX0_unlikePlaces_39 : decode cX0_unlikePlaces 39 = .ok (.iload_n 1, 1) := by decide +kernel
theorem dX0_unlikePlaces_40 : decode cX0_unlikePlaces 40 = .ok (.ireturn, 1) := by decide +kernel
def rX0_unlikePlaces : Room := { frames := 0, cells := 0, slots := 0, locals := 0 }
theorem yk_X0_unlikePlaces : YK yX0_unlikePlaces cX0_unlikePlaces 3 (some .int) 0 := ⟨xim_X0_unlikePlaces, xse_X0_unlikePlaces, xin_X0, xco_X0_unlikePlaces, by decide +kernel⟩
set_option maxRecDepth 4000 in
theorem c_X0_unlikePlaces {l : Launch} {D : va_G} {t : Nat → ClassId} {a : Nat → Nat} {I : Nat → Int32} {F : Nat → Nat → Int32} {L : Nat → Int64} {K : Cfg} (hK : CFG K I F) (hW : WFK K) {hi lo : Nat → Nat} (hH : RA (kn K) (F 8) hi) (hL : RA (kn K) (F 9) lo) : CT l D t yX0_unlikePlaces cX0_unlikePlaces 3 (some .int) rX0_unlikePlaces 0 0 [.ref (a 4)] (WX a t I F L) (RP (.int (nI (cn (fun p => hi p ≠ lo p) (kn K)))) (WX a t I F L)) := by
  refine CT.of (by decide +kernel) (by simp [lg_sl, Value.category]) (fun X C hR => ?_)
  refine xlocals (lv' := [(0, .ref (a 4))]) rfl ?_
  have fn24 := hW.n24; have fm60 := hW.m60; have fk2 := hW.k2; have fu1 := hW.u1; have fu9 := hW.u9; have fv1 := hW.v1; have fv9 := hW.v9
  refine xiconst (v := nI 0) C dX0_unlikePlaces_0 (by decide) ?_
  refine xistore_n (lv' := [(1, .int (nI 0)), (0, .ref (a 4))]) C dX0_unlikePlaces_1 (by decide) rfl ?_
  refine xiconst (v := nI 0) C dX0_unlikePlaces_2 (by decide) ?_
  refine xistore_n (lv' := [(2, .int (nI 0)), (1, .int (nI 0)), (0, .ref (a 4))]) C dX0_unlikePlaces_3 (by decide) rfl ?_
  have LP4 : ∀ (fu4 : Nat) (i : Nat) (hi1 : i ≤ kn K), kn K - i < fu4 → XW X 0 0 (WX a t I F L) [(0, .ref (a 4)), (1, .int (nI (cn (fun p => hi p ≠ lo p) i))), (2, .int (nI i))] 4 [] := by
    intro fu4
    induction fu4 with
    | zero => intro i hi1 hm4; exact absurd hm4 (Nat.not_lt_zero _)
    | succ fu4 ih4 =>
      intro i hi1 hm4
      refine xiload_n C 2 rfl dX0_unlikePlaces_4 ?_
      refine xaload_n C 0 rfl dX0_unlikePlaces_5 ?_
      refine gX0_25 C dX0_unlikePlaces_6 ?_
      refine gX0_59K C hK dX0_unlikePlaces_9 ?_
      refine xicmp_geN C 39 dX0_unlikePlaces_12 (by decide) (by omega) (by omega) (fun h12 => ?_) (fun h12 => ?_)
      ·
        refine xiload_n C 1 rfl dX0_unlikePlaces_39 ?_
        exact xret C hR (rfl) dX0_unlikePlaces_40 (RPn (by (have e : i = kn K := (by omega)); subst e; rfl))
      ·
        refine xaload_n C 0 rfl dX0_unlikePlaces_15 ?_
        refine gX0_9 C dX0_unlikePlaces_16 ?_
        refine xiload_n C 2 rfl dX0_unlikePlaces_19 ?_
        refine xa_st C hW 8 (by omega) (by omega) hH i (by omega) dX0_unlikePlaces_20 ?_
        have fb20 := (hH i (by omega)).2
        refine xaload_n C 0 rfl dX0_unlikePlaces_21 ?_
        refine gX0_15 C dX0_unlikePlaces_22 ?_
        refine xiload_n C 2 rfl dX0_unlikePlaces_25 ?_
        refine xa_st C hW 9 (by omega) (by omega) hL i (by omega) dX0_unlikePlaces_26 ?_
        have fb26 := (hL i (by omega)).2
        refine xicmp_eqN C 33 dX0_unlikePlaces_27 (by decide) (by omega) (by omega) (fun h27 => ?_) (fun h27 => ?_)
        ·
          refine xlocals (lv' := [(0, .ref (a 4)), (1, .int (nI (cn (fun p => hi p ≠ lo p) (i + 1)))), (2, .int (nI i))]) (by rw [show cn (fun p => hi p ≠ lo p) (i + 1) = cn (fun p => hi p ≠ lo p) i + bn (hi i ≠ lo i) from rfl, bn_f (fun q => q h27), Nat.add_zero]) ?_
          refine xiincN (lv' := [(2, .int (nI (i + 1))), (0, .ref (a 4)), (1, .int (nI (cn (fun p => hi p ≠ lo p) (i + 1))))]) C 2 rfl dX0_unlikePlaces_33 (by decide) rfl ?_
          refine xgoto C 4 dX0_unlikePlaces_36 (by decide) ?_
          refine xsub [1, 2, 0] rfl ?_
          exact ih4 (i + 1) (by omega) (by omega)
        ·
          refine xiincN (lv' := [(1, .int (nI (cn (fun p => hi p ≠ lo p) i + 1))), (0, .ref (a 4)), (2, .int (nI i))]) C 1 rfl dX0_unlikePlaces_30 (by decide) rfl ?_
          refine xlocals (lv' := [(1, .int (nI (cn (fun p => hi p ≠ lo p) (i + 1)))), (0, .ref (a 4)), (2, .int (nI i))]) (by rw [show cn (fun p => hi p ≠ lo p) (i + 1) = cn (fun p => hi p ≠ lo p) i + bn (hi i ≠ lo i) from rfl, bn_t h27]) ?_
          refine xiincN (lv' := [(2, .int (nI (i + 1))), (1, .int (nI (cn (fun p => hi p ≠ lo p) (i + 1)))), (0, .ref (a 4))]) C 2 rfl dX0_unlikePlaces_33 (by decide) rfl ?_
          refine xgoto C 4 dX0_unlikePlaces_36 (by decide) ?_
          refine xsub [2, 1, 0] rfl ?_
          exact ih4 (i + 1) (by omega) (by omega)
  refine xsub [2, 1, 0] rfl ?_
  exact LP4 _ 0 (Nat.zero_le _) (Nat.lt_succ_self _)
theorem dX0_runBoth_0 : decode cX0_runBoth 0 = .ok (.aload_n 0, 1) := by decide +kernel
theorem dX0_runBoth_1 : decode cX0_runBoth 1 = .ok (.getfield 29, 3) := by decide +kernel
theorem dX0_runBoth_4 : decode cX0_runBoth 4 = .ok (.getfield 37, 3) := by decide +kernel
theorem dX0_runBoth_7 : decode cX0_runBoth 7 = .ok (.aload_n 0, 1) := by decide +kernel
theorem dX0_runBoth_8 : decode cX0_runBoth 8 = .ok (.getfield 9, 3) := by decide +kernel
theorem dX0_runBoth_11 : decode cX0_runBoth 11 = .ok (.invokestatic 40, 3) := by decide +kernel
theorem dX0_runBoth_14 : decode cX0_runBoth 14 = .ok (.aload_n 0, 1) := by decide +kernel
theorem dX0_runBoth_15 : decode cX0_runBoth 15 = .ok (.getfield 29, 3) := by decide +kernel
theorem dX0_runBoth_18 : decode cX0_runBoth 18 = .ok (.getfield 44, 3) := by decide +kernel
theorem dX0_runBoth_21 : decode cX0_runBoth 21 = .ok (.aload_n 0, 1) := by decide +kernel
theorem dX0_runBoth_22 : decode cX0_runBoth 22 = .ok (.getfield 15, 3) := by decide +kernel
theorem dX0_runBoth_25 : decode cX0_runBoth 25 = .ok (.invokestatic 40, 3) := by decide +kernel
theorem dX0_runBoth_28 : decode cX0_runBoth 28 = .ok (.aload_n 0, 1) := by decide +kernel
theorem dX0_runBoth_29 : decode cX0_runBoth 29 = .ok (.invokevirtual 45, 3) := by decide +kernel
theorem dX0_runBoth_32 : decode cX0_runBoth 32 = .ok (.istore_n 3, 1) := by decide +kernel
theorem dX0_runBoth_33 : decode cX0_runBoth 33 = .ok (.aload_n 0, 1) := by decide +kernel
theorem dX0_runBoth_34 : decode cX0_runBoth 34 = .ok (.iconst 0, 1) := by decide +kernel
theorem dX0_runBoth_35 : decode cX0_runBoth 35 = .ok (.putfield 49, 3) := by decide +kernel
theorem dX0_runBoth_38 : decode cX0_runBoth 38 = .ok (.iload_n 2, 1) := by decide +kernel
theorem dX0_runBoth_39 : decode cX0_runBoth 39 = .ok (.ineg, 1) := by decide +kernel
theorem dX0_runBoth_40 : decode cX0_runBoth 40 = .ok (.istore 4, 2) := by decide +kernel
theorem dX0_runBoth_42 : decode cX0_runBoth 42 = .ok (.iload 4, 2) := by decide +kernel
theorem dX0_runBoth_44 : decode cX0_runBoth 44 = .ok (.ifCond .ge 58, 3) := by decide +kernel
theorem dX0_runBoth_47 : decode cX0_runBoth 47 = .ok (.aload_n 0, 1) := by decide +kernel
theorem dX0_runBoth_48 : decode cX0_runBoth 48 = .ok (.getfield 33, 3) := by decide +kernel
theorem dX0_runBoth_51 : decode cX0_runBoth 51 = .ok (.aload_n 0, 1) := by decide +kernel
theorem dX0_runBoth_52 : decode cX0_runBoth 52 = .ok (.getfield 9, 3) := by decide +kernel
theorem dX0_runBoth_55 : decode cX0_runBoth 55 = .ok (.iload_n 1, 1) := by decide +kernel
theorem dX0_runBoth_56 : decode cX0_runBoth 56 = .ok (.iload 4, 2) := by decide +kernel
theorem dX0_runBoth_58 : decode cX0_runBoth 58 = .ok (.invokevirtual 53, 3) := by decide +kernel
theorem dX0_runBoth_61 : decode cX0_runBoth 61 = .ok (.pop, 1) := by decide +kernel
theorem dX0_runBoth_62 : decode cX0_runBoth 62 = .ok (.aload_n 0, 1) := by decide +kernel
theorem dX0_runBoth_63 : decode cX0_runBoth 63 = .ok (.getfield 33, 3) := by decide +kernel
theorem dX0_runBoth_66 : decode cX0_runBoth 66 = .ok (.aload_n 0, 1) := by decide +kernel
theorem dX0_runBoth_67 : decode cX0_runBoth 67 = .ok (.getfield 15, 3) := by decide +kernel
theorem dX0_runBoth_70 : decode cX0_runBoth 70 = .ok (.iload_n 1, 1) := by decide +kernel
theorem dX0_runBoth_71 : decode cX0_runBoth 71 = .ok (.iload 4, 2) := by decide +kernel
theorem dX0_runBoth_73 : decode cX0_runBoth 73 = .ok (.invokevirtual 53, 3) := by decide +kernel
theorem dX0_runBoth_76 : decode cX0_runBoth 76 = .ok (.pop, 1) := by decide +kernel
theorem dX0_runBoth_77 : decode cX0_runBoth 77 = .ok (.iload_n 3, 1) := by decide +kernel
theorem dX0_runBoth_78 : decode cX0_runBoth 78 = .ok (.ifCond .ne 18, 3) := by decide +kernel
theorem dX0_runBoth_81 : decode cX0_runBoth 81 = .ok (.aload_n 0, 1) := by decide +kernel
theorem dX0_runBoth_82 : decode cX0_runBoth 82 = .ok (.invokevirtual 45, 3) := by decide +kernel
theorem dX0_runBoth_85 : decode cX0_runBoth 85 = .ok (.ifCond .eq 11, 3) := by decide +kernel
theorem dX0_runBoth_88 : decode cX0_runBoth 88 = .ok (.iconst 1, 1) := by decide +kernel
theorem dX0_runBoth_89 : decode cX0_runBoth 89 = .ok (.istore_n 3, 1) := by decide +kernel
theorem dX0_runBoth_90 : decode cX0_runBoth 90 = .ok (.aload_n 0, 1) := by decide +kernel
theorem dX0_runBoth_91 : decode cX0_runBoth 91 = .ok (.iload 4, 2) := by decide +kernel
theorem dX0_runBoth_93 : decode cX0_runBoth 93 = .ok (.putfield 49, 3) := by decide +kernel
theorem dX0_runBoth_96 : decode cX0_runBoth 96 = .ok (.iinc 4 1, 3) := by decide +kernel
theorem dX0_runBoth_99 : decode cX0_runBoth 99 = .ok (.goto (-57), 3) := by decide +kernel
theorem dX0_runBoth_102 : decode cX0_runBoth 102 = .ok (.return_, 1) := by decide +kernel
def rX0_runBoth : Room := { frames := 5, cells := 0, slots := 0, locals := 125 }
theorem yk_X0_runBoth : YK yX0_runBoth cX0_runBoth 5 none 2 := ⟨xim_X0_runBoth, xse_X0_runBoth, xin_X0, xco_X0_runBoth, by decide +kernel⟩
set_option maxRecDepth 4000 in
theorem c_X0_runBoth {l : Launch} {D : va_G} {t : Nat → ClassId} {a : Nat → Nat} {I : Nat → Int32} {F : Nat → Nat → Int32} {L : Nat → Int64} {K : Cfg} (hK : CFG K I F) (hW : WFK K) (hHS : RA (kn K) (F 6) (hS K)) (hLS : RA (kn K) (F 7) (lS K)) (hn : 0 < kn K) (sd : Int32) (b : Nat) (hb : b ≤ 4096) : CT l D t yX0_runBoth cX0_runBoth 5 none rX0_runBoth 0 0 [.ref (a 4), .int sd, .int (nI b)] (WX a t I F L) (VP (fun w => ∃ (I' : Nat → Int32) (F' : Nat → Nat → Int32) (L' : Nat → Int64), w = WX a t I' F' L' ∧ (∀ q, q ≠ 7 → I' q = I q) ∧ I' 7 = mtN K sd b b ∧ (∀ q, q ≠ 8 → q ≠ 9 → F' q = F q) ∧ RA (kn K) (F' 8) (itN K sd (hS K) (-nI b) b) ∧ RA (kn K) (F' 9) (itN K sd (lS K) (-nI b) b))) := by
  refine CT.of (by decide +kernel) (by simp [lg_sl, Value.category]) (fun X C hR => ?_)
  refine xlocals (lv' := [(0, .ref (a 4)), (1, .int sd), (2, .int (nI b))]) rfl ?_
  have fn24 := hW.n24; have fm60 := hW.m60; have fk2 := hW.k2; have fu1 := hW.u1; have fu9 := hW.u9; have fv1 := hW.v1; have fv9 := hW.v9
  refine xaload_n C 0 rfl dX0_runBoth_0 ?_
  refine gX0_29 C dX0_runBoth_1 ?_
  refine gX0_37 C dX0_runBoth_4 ?_
  refine xaload_n C 0 rfl dX0_runBoth_7 ?_
  refine gX0_9 C dX0_runBoth_8 ?_
  refine xcSVN C (c_X5_copyRow 6 8 (by decide) (by decide) (by decide) (by decide)) sk_X5_copyRow (fun _ h => h.2) ⟨⟨Nat.le_of_ble_eq_true rfl, Nat.le_of_ble_eq_true rfl⟩, ⟨rfl, rfl⟩, ⟨Nat.zero_le _, Nat.zero_le _⟩⟩ rfl (Nat.le_of_ble_eq_true rfl) dX0_runBoth_11 (fun wE hE => ?_)
  obtain ⟨F1, rfl, hF1, hF1c⟩ := hE
  have hX1 : ∀ q, q ≠ 8 → F1 q = F q := fun q hq => hF1 q hq
  refine xaload_n C 0 rfl dX0_runBoth_14 ?_
  refine gX0_29 C dX0_runBoth_15 ?_
  refine gX0_44 C dX0_runBoth_18 ?_
  refine xaload_n C 0 rfl dX0_runBoth_21 ?_
  refine gX0_15 C dX0_runBoth_22 ?_
  refine xcSVN C (c_X5_copyRow 7 9 (by decide) (by decide) (by decide) (by decide)) sk_X5_copyRow (fun _ h => h.2) ⟨⟨Nat.le_of_ble_eq_true rfl, Nat.le_of_ble_eq_true rfl⟩, ⟨rfl, rfl⟩, ⟨Nat.zero_le _, Nat.zero_le _⟩⟩ rfl (Nat.le_of_ble_eq_true rfl) dX0_runBoth_25 (fun wE hE => ?_)
  obtain ⟨F2, rfl, hF2, hF2c⟩ := hE
  have hX2 : (∀ q, q ≠ 8 → q ≠ 9 → F2 q = F q) := fun q h1 h2 => by rw [hF2 q h2, hF1 q h1]
  have hK2 : CFG K I F2 := hK.of (fun _ _ => rfl) (fun q hq => hX2 q (by omega) (by omega))
  have hA8 : RA (kn K) (F2 8) (hS K) := fun p hp => by rw [hF2 8 (by decide), hF1c p (by omega)]; exact hHS p hp
  have hA9 : RA (kn K) (F2 9) (lS K) := fun p hp => by rw [hF2c p (by omega), hF1 7 (by decide)]; exact hLS p hp
  refine xaload_n C 0 rfl dX0_runBoth_28 ?_
  refine xcVR C (c_X0_areOneState hK2 hW hA8 hA9) yk_X0_areOneState 4 rfl rfl xml_X0_45 ⟨⟨Nat.le_of_ble_eq_true rfl, Nat.le_of_ble_eq_true rfl⟩, ⟨rfl, rfl⟩, ⟨Nat.zero_le _, Nat.zero_le _⟩⟩ rfl (Nat.le_of_ble_eq_true rfl) dX0_runBoth_29 ?_
  refine xtopi (y := nI (bn (metP K sd b 0))) (by rw [metP_0]) ?_
  refine xistore_n (lv' := [(3, .int (nI (bn (metP K sd b 0)))), (0, .ref (a 4)), (1, .int sd), (2, .int (nI b))]) C dX0_runBoth_32 (by decide) rfl ?_
  refine xaload_n C 1 rfl dX0_runBoth_33 ?_
  refine xiconst (v := nI 0) C dX0_runBoth_34 (by decide) ?_
  refine pX0_49 C dX0_runBoth_35 ?_
  refine xiload_n C 3 rfl dX0_runBoth_38 ?_
  refine xineg C dX0_runBoth_39 ?_
  refine xtopi (y := (-nI b + nI 0)) (by rw [nI_0]; simp) ?_
  refine xistore (lv' := [(4, .int (-nI b + nI 0)), (3, .int (nI (bn (metP K sd b 0)))), (0, .ref (a 4)), (1, .int sd), (2, .int (nI b))]) C dX0_runBoth_40 (by decide) rfl ?_
  obtain ⟨I0, eI0⟩ : ∃ z : Nat → Int32, z = va_up I 7 (nI 0) := ⟨_, rfl⟩
  refine xworld (ws' := WX a t I0 F2 L) (by rw [eI0]) ?_
  have hI0 : ∀ q, q ≠ 7 → I0 q = I q := fun q hq => by rw [eI0, va_up_ne _ _ hq]
  have hM0 : I0 7 = mtN K sd b 0 := by rw [eI0, va_up_self]; exact nI_0
  have LP42 : ∀ (fu42 : Nat) (i : Nat) (IA : Nat → Int32) (FA : Nat → Nat → Int32) (LA : Nat → Int64) (hi : i ≤ b) (hIA : ∀ q, q ≠ 7 → IA q = I q) (hMA : IA 7 = mtN K sd b i) (hXA : (∀ q, q ≠ 8 → q ≠ 9 → FA q = F q)) (hHA : RA (kn K) (FA 8) (itN K sd (hS K) (-nI b) i)) (hLA : RA (kn K) (FA 9) (itN K sd (lS K) (-nI b) i)), b - i < fu42 → XW X 0 0 (WX a t IA FA LA) [(0, .ref (a 4)), (1, .int sd), (2, .int (nI b)), (3, .int (nI (bn (metP K sd b i)))), (4, .int (-nI b + nI i))] 42 [] := by
    intro fu42
    induction fu42 with
    | zero => intro i IA FA LA hi hIA hMA hXA hHA hLA hm42; exact absurd hm42 (Nat.not_lt_zero _)
    | succ fu42 ih42 =>
      intro i IA FA LA hi hIA hMA hXA hHA hLA hm42
      have hKA : CFG K IA FA := hK.of (fun q hq => hIA q (by omega)) (fun q hq => hXA q (by omega) (by omega))
      refine xiload C 4 rfl dX0_runBoth_42 ?_
      refine xif_ge C 102 dX0_runBoth_44 (by decide) (fun h44 => ?_) (fun h44 => ?_)
      ·
        have h44 := tge hb hi h44
        rw [h44] at hMA hHA hLA
        exact xvret C hR dX0_runBoth_102 (⟨rfl, IA, FA, LA, rfl, hIA, hMA, hXA, hHA, hLA⟩)
      ·
        have h44 := tnge hb hi h44
        refine xaload_n C 0 rfl dX0_runBoth_47 ?_
        refine gX0_33 C dX0_runBoth_48 ?_
        refine xaload_n C 0 rfl dX0_runBoth_51 ?_
        refine gX0_9 C dX0_runBoth_52 ?_
        refine xiload_n C 1 rfl dX0_runBoth_55 ?_
        refine xiload C 4 rfl dX0_runBoth_56 ?_
        refine xcVE C (c_X4_changes hKA hW 8 (by omega) (by omega) hHA hn sd (-nI b + nI i)) yk_X4_changes 3 rfl rfl xml_X0_53 ⟨⟨Nat.le_of_ble_eq_true rfl, Nat.le_of_ble_eq_true rfl⟩, ⟨rfl, rfl⟩, ⟨Nat.zero_le _, Nat.zero_le _⟩⟩ rfl (Nat.le_of_ble_eq_true rfl) dX0_runBoth_58 (fun vE wE hE => ?_)
        obtain ⟨rfl, FB, LB, rfl, hFB, hHB⟩ := hE
        have hXB : (∀ q, q ≠ 8 → q ≠ 9 → FB q = F q) := fun q h1 h2 => by rw [hFB q h1]; exact hXA q h1 h2
        have hKB : CFG K IA FB := hK.of (fun q hq => hIA q (by omega)) (fun q hq => hXB q (by omega) (by omega))
        have hLB : RA (kn K) (FB 9) (itN K sd (lS K) (-nI b) i) := by rw [hFB 9 (by decide)]; exact hLA
        refine xpop C dX0_runBoth_61 rfl ?_
        refine xaload_n C 0 rfl dX0_runBoth_62 ?_
        refine gX0_33 C dX0_runBoth_63 ?_
        refine xaload_n C 0 rfl dX0_runBoth_66 ?_
        refine gX0_15 C dX0_runBoth_67 ?_
        refine xiload_n C 1 rfl dX0_runBoth_70 ?_
        refine xiload C 4 rfl dX0_runBoth_71 ?_
        refine xcVE C (c_X4_changes hKB hW 9 (by omega) (by omega) hLB hn sd (-nI b + nI i)) yk_X4_changes 3 rfl rfl xml_X0_53 ⟨⟨Nat.le_of_ble_eq_true rfl, Nat.le_of_ble_eq_true rfl⟩, ⟨rfl, rfl⟩, ⟨Nat.zero_le _, Nat.zero_le _⟩⟩ rfl (Nat.le_of_ble_eq_true rfl) dX0_runBoth_73 (fun vE wE hE => ?_)
        obtain ⟨rfl, FC, LC, rfl, hFC, hLC⟩ := hE
        have hXC : (∀ q, q ≠ 8 → q ≠ 9 → FC q = F q) := fun q h1 h2 => by rw [hFC q h2]; exact hXB q h1 h2
        have hKC : CFG K IA FC := hK.of (fun q hq => hIA q (by omega)) (fun q hq => hXC q (by omega) (by omega))
        have hHC : RA (kn K) (FC 8) (itN K sd (hS K) (-nI b) (i + 1)) := by rw [hFC 8 (by decide)]; exact hHB
        refine xpop C dX0_runBoth_76 rfl ?_
        refine xiload_n C 3 rfl dX0_runBoth_77 ?_
        refine xif_neN C 96 dX0_runBoth_78 (by decide) (bn_lt _) (fun h78 => ?_) (fun h78 => ?_)
        ·
          have hM2 : IA 7 = mtN K sd b (i + 1) := hMA.trans (mtN_keep (bn_1 h78)).symm
          refine xlocals (lv' := [(0, .ref (a 4)), (1, .int sd), (2, .int (nI b)), (3, .int (nI (bn (metP K sd b (i + 1))))), (4, .int (-nI b + nI i))]) (by rw [metP_keep (bn_1 h78)]) ?_
          refine xiinc (v := -nI b + nI i + 1) (lv' := [(4, .int (-nI b + nI i + 1)), (0, .ref (a 4)), (1, .int sd), (2, .int (nI b)), (3, .int (nI (bn (metP K sd b (i + 1)))))]) C 4 rfl dX0_runBoth_96 rfl (by decide) rfl ?_
          refine xlocals (lv' := [(4, .int (-nI b + nI (i + 1))), (0, .ref (a 4)), (1, .int sd), (2, .int (nI b)), (3, .int (nI (bn (metP K sd b (i + 1)))))]) (by rw [← nI_1, Int32.add_assoc]) ?_
          refine xgoto C 42 dX0_runBoth_99 (by decide) ?_
          refine xsub [1, 2, 3, 4, 0] rfl ?_
          exact ih42 (i + 1) IA FC LC (by omega) hIA hM2 hXC hHC hLC (by omega)
        ·
          refine xaload_n C 0 rfl dX0_runBoth_81 ?_
          refine xcVR C (c_X0_areOneState hKC hW hHC hLC) yk_X0_areOneState 4 rfl rfl xml_X0_45 ⟨⟨Nat.le_of_ble_eq_true rfl, Nat.le_of_ble_eq_true rfl⟩, ⟨rfl, rfl⟩, ⟨Nat.zero_le _, Nat.zero_le _⟩⟩ rfl (Nat.le_of_ble_eq_true rfl) dX0_runBoth_82 ?_
          refine xif_eqN C 96 dX0_runBoth_85 (by decide) (bn_lt _) (fun h85 => ?_) (fun h85 => ?_)
          ·
            have hM2 : IA 7 = mtN K sd b (i + 1) := hMA.trans (mtN_not (bn_0 h78) (bn_0 h85)).symm
            refine xlocals (lv' := [(0, .ref (a 4)), (1, .int sd), (2, .int (nI b)), (3, .int (nI (bn (metP K sd b (i + 1))))), (4, .int (-nI b + nI i))]) (by rw [metP_not (bn_0 h78) (bn_0 h85)]) ?_
            refine xiinc (v := -nI b + nI i + 1) (lv' := [(4, .int (-nI b + nI i + 1)), (0, .ref (a 4)), (1, .int sd), (2, .int (nI b)), (3, .int (nI (bn (metP K sd b (i + 1)))))]) C 4 rfl dX0_runBoth_96 rfl (by decide) rfl ?_
            refine xlocals (lv' := [(4, .int (-nI b + nI (i + 1))), (0, .ref (a 4)), (1, .int sd), (2, .int (nI b)), (3, .int (nI (bn (metP K sd b (i + 1)))))]) (by rw [← nI_1, Int32.add_assoc]) ?_
            refine xgoto C 42 dX0_runBoth_99 (by decide) ?_
            refine xsub [1, 2, 3, 4, 0] rfl ?_
            exact ih42 (i + 1) IA FC LC (by omega) hIA hM2 hXC hHC hLC (by omega)
          ·
            refine xiconst (v := nI 1) C dX0_runBoth_88 (by decide) ?_
            refine xistore_n (lv' := [(3, .int (nI 1)), (0, .ref (a 4)), (1, .int sd), (2, .int (nI b)), (4, .int (-nI b + nI i))]) C dX0_runBoth_89 (by decide) rfl ?_
            refine xaload_n C 1 rfl dX0_runBoth_90 ?_
            refine xiload C 4 rfl dX0_runBoth_91 ?_
            refine pX0_49 C dX0_runBoth_93 ?_
            obtain ⟨IB, eIB⟩ : ∃ z : Nat → Int32, z = va_up IA 7 (-nI b + nI i) := ⟨_, rfl⟩
            refine xworld (ws' := WX a t IB FC LC) (by rw [eIB]) ?_
            have hIB : ∀ q, q ≠ 7 → IB q = I q := fun q hq => by rw [eIB, va_up_ne _ _ hq]; exact hIA q hq
            have hM2 : IB 7 = mtN K sd b (i + 1) := by rw [eIB, va_up_self]; exact (mtN_now (bn_0 h78) (bn_1 h85)).symm
            refine xlocals (lv' := [(3, .int (nI (bn (metP K sd b (i + 1))))), (0, .ref (a 4)), (1, .int sd), (2, .int (nI b)), (4, .int (-nI b + nI i))]) (by rw [metP_now (bn_0 h78) (bn_1 h85)]) ?_
            refine xiinc (v := -nI b + nI i + 1) (lv' := [(4, .int (-nI b + nI i + 1)), (3, .int (nI (bn (metP K sd b (i + 1))))), (0, .ref (a 4)), (1, .int sd), (2, .int (nI b))]) C 4 rfl dX0_runBoth_96 rfl (by decide) rfl ?_
            refine xlocals (lv' := [(4, .int (-nI b + nI (i + 1))), (3, .int (nI (bn (metP K sd b (i + 1))))), (0, .ref (a 4)), (1, .int sd), (2, .int (nI b))]) (by rw [← nI_1, Int32.add_assoc]) ?_
            refine xgoto C 42 dX0_runBoth_99 (by decide) ?_
            refine xsub [2, 3, 4, 1, 0] rfl ?_
            exact ih42 (i + 1) IB FC LC (by omega) hIB hM2 hXC hHC hLC (by omega)
  refine xsub [2, 3, 4, 1, 0] rfl ?_
  exact LP42 _ 0 I0 F2 L (Nat.zero_le _) hI0 hM0 hX2 hA8 hA9 (Nat.lt_succ_self _)
theorem dX0_findsOne_0 : decode cX0_findsOne 0 = .ok (.iconst 1, 1) := by decide +kernel
theorem dX0_findsOne_1 : decode cX0_findsOne 1 = .ok (.istore_n 2, 1) := by decide +kernel
theorem dX0_findsOne_2 : decode cX0_findsOne 2 = .ok (.iload_n 2, 1) := by decide +kernel
theorem dX0_findsOne_3 : decode cX0_findsOne 3 = .ok (.sipush 4096, 3) := by decide +kernel
theorem dX0_findsOne_6 : decode cX0_findsOne 6 = .ok (.if_icmp .gt 30, 3) := by decide +kernel
theorem dX0_findsOne_9 : decode cX0_findsOne 9 = .ok (.aload_n 0, 1) := by decide +kernel
theorem dX0_findsOne_10 : decode cX0_findsOne 10 = .ok (.iload_n 1, 1) := by decide +kernel
theorem dX0_findsOne_11 : decode cX0_findsOne 11 = .ok (.iload_n 2, 1) := by decide +kernel
theorem dX0_findsOne_12 : decode cX0_findsOne 12 = .ok (.invokevirtual 64, 3) := by decide +kernel
theorem dX0_findsOne_15 : decode cX0_findsOne 15 = .ok (.aload_n 0, 1) := by decide +kernel
theorem dX0_findsOne_16 : decode cX0_findsOne 16 = .ok (.invokevirtual 45, 3) := by decide +kernel
theorem dX0_findsOne_19 : decode cX0_findsOne 19 = .ok (.ifCond .eq 10, 3) := by decide +kernel
theorem dX0_findsOne_22 : decode cX0_findsOne 22 = .ok (.aload_n 0, 1) := by decide +kernel
theorem dX0_findsOne_23 : decode cX0_findsOne 23 = .ok (.iload_n 2, 1) := by decide +kernel
theorem dX0_findsOne_24 : decode cX0_findsOne 24 = .ok (.putfield 68, 3) := by decide +kernel
theorem dX0_findsOne_27 : decode cX0_findsOne 27 = .ok (.iconst 1, 1) := by decide +kernel
theorem dX0_findsOne_28 : decode cX0_findsOne 28 = .ok (.ireturn, 1) := by decide +kernel
theorem dX0_findsOne_29 : decode cX0_findsOne 29 = .ok (.iload_n 2, 1) := by decide +kernel
theorem dX0_findsOne_30 : decode cX0_findsOne 30 = .ok (.iconst 2, 1) := by decide +kernel
theorem dX0_findsOne_31 : decode cX0_findsOne 31 = .ok (.imul, 1) := by decide +kernel
theorem dX0_findsOne_32 : decode cX0_findsOne 32 = .ok (.istore_n 2, 1) := by decide +kernel
theorem dX0_findsOne_33 : decode cX0_findsOne 33 = .ok (.goto (-31), 3) := by decide +kernel
theorem dX0_findsOne_36 : decode cX0_findsOne 36 = .ok (.iconst 0, 1) := by decide +kernel
theorem dX0_findsOne_37 : decode cX0_findsOne 37 = .ok (.ireturn, 1) := by decide +kernel
def rX0_findsOne : Room := { frames := 6, cells := 0, slots := 0, locals := 149 }
theorem yk_X0_findsOne : YK yX0_findsOne cX0_findsOne 3 (some .boolean) 1 := ⟨xim_X0_findsOne, xse_X0_findsOne, xin_X0, xco_X0_findsOne, by decide +kernel⟩
set_option maxRecDepth 4000 in
theorem c_X0_findsOne {l : Launch} {D : va_G} {t : Nat → ClassId} {a : Nat → Nat} {I : Nat → Int32} {F : Nat → Nat → Int32} {L : Nat → Int64} {K : Cfg} (hK : CFG K I F) (hW : WFK K) (hHS : RA (kn K) (F 6) (hS K)) (hLS : RA (kn K) (F 7) (lS K)) (hn : 0 < kn K) (sd : Int32) : CT l D t yX0_findsOne cX0_findsOne 3 (some .boolean) rX0_findsOne 0 0 [.ref (a 4), .int sd] (WX a t I F L) (EP (fun v w => ∃ (I' : Nat → Int32) (F' : Nat → Nat → Int32) (L' : Nat → Int64), w = WX a t I' F' L' ∧ (∀ q, q ≠ 6 → q ≠ 7 → I' q = I q) ∧ (∀ q, q ≠ 8 → q ≠ 9 → F' q = F q) ∧ ((∃ e, farN K sd = some e ∧ e ≤ 12 ∧ v = .int (nI 1) ∧ I' 6 = nI (2 ^ e) ∧ I' 7 = mtN K sd (2 ^ e) (2 ^ e) ∧ RA (kn K) (F' 9) (itN K sd (lS K) (-nI (2 ^ e)) (2 ^ e))) ∨ (farN K sd = none ∧ v = .int (nI 0))))) := by
  refine CT.of (by decide +kernel) (by simp [lg_sl, Value.category]) (fun X C hR => ?_)
  refine xlocals (lv' := [(0, .ref (a 4)), (1, .int sd)]) rfl ?_
  have fn24 := hW.n24; have fm60 := hW.m60; have fk2 := hW.k2; have fu1 := hW.u1; have fu9 := hW.u9; have fv1 := hW.v1; have fv9 := hW.v9
  refine xiconst (v := nI 1) C dX0_findsOne_0 (by decide) ?_
  refine xistore_n (lv' := [(2, .int (nI 1)), (0, .ref (a 4)), (1, .int sd)]) C dX0_findsOne_1 (by decide) rfl ?_
  have LP2 : ∀ (fu2 : Nat) (e : Nat) (b : Nat) (IA : Nat → Int32) (FA : Nat → Nat → Int32) (LA : Nat → Int64) (he : e ≤ 13) (hbe : b = 2 ^ e) (hno : ∀ x, x < e → ¬ eqN K sd (2 ^ x)) (hIA : ∀ q, q ≠ 6 → q ≠ 7 → IA q = I q) (hXA : (∀ q, q ≠ 8 → q ≠ 9 → FA q = F q)), 13 - e < fu2 → XW X 0 0 (WX a t IA FA LA) [(0, .ref (a 4)), (1, .int sd), (2, .int (nI b))] 2 [] := by
    intro fu2
    induction fu2 with
    | zero => intro e b IA FA LA he hbe hno hIA hXA hm2; exact absurd hm2 (Nat.not_lt_zero _)
    | succ fu2 ih2 =>
      intro e b IA FA LA he hbe hno hIA hXA hm2
      have hKA : CFG K IA FA := hK.of (fun q hq => hIA q (by omega) (by omega)) (fun q hq => hXA q (by omega) (by omega))
      have hbb : b ≤ 8192 := by rw [hbe]; exact (Nat.pow_le_pow_right (by decide) he : 2 ^ e ≤ 2 ^ 13)
      refine xiload_n C 2 rfl dX0_findsOne_2 ?_
      refine xsipush (v := nI 4096) C dX0_findsOne_3 (by decide) ?_
      refine xicmp_gtN C 36 dX0_findsOne_6 (by decide) (by omega) (by omega) (fun h6 => ?_) (fun h6 => ?_)
      ·
        have he13 : e = 13 := far13 he hbe h6
        refine xiconst (v := nI 0) C dX0_findsOne_36 (by decide) ?_
        exact xret C hR (by rfl) dX0_findsOne_37 (⟨_, rfl, IA, FA, LA, rfl, hIA, hXA, Or.inr ⟨far_none (by rw [← he13]; exact hno), rfl⟩⟩)
      ·
        have he12 : e ≤ 12 := far12 he hbe h6
        refine xaload_n C 0 rfl dX0_findsOne_9 ?_
        refine xiload_n C 1 rfl dX0_findsOne_10 ?_
        refine xiload_n C 2 rfl dX0_findsOne_11 ?_
        refine xcVV C (c_X0_runBoth hKA hW (by rw [hXA 6 (by decide) (by decide)]; exact hHS) (by rw [hXA 7 (by decide) (by decide)]; exact hLS) hn sd b (by omega)) yk_X0_runBoth 4 rfl rfl xml_X0_64 ⟨⟨Nat.le_of_ble_eq_true rfl, Nat.le_of_ble_eq_true rfl⟩, ⟨rfl, rfl⟩, ⟨Nat.zero_le _, Nat.zero_le _⟩⟩ rfl (Nat.le_of_ble_eq_true rfl) dX0_findsOne_12 (fun wE hE => ?_)
        obtain ⟨IB, FB, LB, rfl, hIb, hMb, hXb, hHB, hLB⟩ := hE
        have hIB : ∀ q, q ≠ 6 → q ≠ 7 → IB q = I q := fun q h1 h2 => (hIb q h2).trans (hIA q h1 h2)
        have hXB : (∀ q, q ≠ 8 → q ≠ 9 → FB q = F q) := fun q h1 h2 => (hXb q h1 h2).trans (hXA q h1 h2)
        have hKB : CFG K IB FB := hK.of (fun q hq => hIB q (by omega) (by omega)) (fun q hq => hXB q (by omega) (by omega))
        refine xaload_n C 0 rfl dX0_findsOne_15 ?_
        refine xcVR C (c_X0_areOneState hKB hW hHB hLB) yk_X0_areOneState 4 rfl rfl xml_X0_45 ⟨⟨Nat.le_of_ble_eq_true rfl, Nat.le_of_ble_eq_true rfl⟩, ⟨rfl, rfl⟩, ⟨Nat.zero_le _, Nat.zero_le _⟩⟩ rfl (Nat.le_of_ble_eq_true rfl) dX0_findsOne_16 ?_
        refine xif_eqN C 29 dX0_findsOne_19 (by decide) (bn_lt _) (fun h19 => ?_) (fun h19 => ?_)
        ·
          refine xiload_n C 2 rfl dX0_findsOne_29 ?_
          refine xiconst (v := nI 2) C dX0_findsOne_30 (by decide) ?_
          refine ximulN C dX0_findsOne_31 ?_
          refine xistore_n (lv' := [(2, .int (nI (b * 2))), (0, .ref (a 4)), (1, .int sd)]) C dX0_findsOne_32 (by decide) rfl ?_
          refine xgoto C 2 dX0_findsOne_33 (by decide) ?_
          refine xsub [1, 2, 0] rfl ?_
          exact ih2 (e + 1) (b * 2) IB FB LB (by omega) (by rw [hbe, Nat.pow_succ]) (lt_s hno (by rw [← hbe]; exact bn_0 h19)) hIB hXB (by omega)
        ·
          refine xaload_n C 0 rfl dX0_findsOne_22 ?_
          refine xiload_n C 2 rfl dX0_findsOne_23 ?_
          refine pX0_68 C dX0_findsOne_24 ?_
          refine xiconst (v := nI 1) C dX0_findsOne_27 (by decide) ?_
          obtain ⟨IC, eIC⟩ : ∃ z : Nat → Int32, z = va_up IB 6 (nI b) := ⟨_, rfl⟩
          refine xworld (ws' := WX a t IC FB LB) (by rw [eIC]) ?_
          exact xret C hR (by rfl) dX0_findsOne_28 (⟨_, rfl, IC, FB, LB, rfl, fun q h1 h2 => by rw [eIC, va_up_ne _ _ h1]; exact hIB q h1 h2, hXB, Or.inl ⟨e, far_some hno (by rw [← hbe]; exact bn_1 h19) he12, he12, rfl, by rw [eIC, va_up_self, hbe], by rw [eIC, va_up_ne _ _ (by decide), hMb, hbe], by rw [← hbe]; exact hLB⟩⟩)
  refine xsub [1, 2, 0] rfl ?_
  exact LP2 _ 0 1 I F L (by omega) rfl (fun x h => absurd h (Nat.not_lt_zero _)) (fun q _ _ => rfl) (fun q _ _ => rfl) (Nat.lt_succ_self _)
theorem dX0_keep_0 : decode cX0_keep 0 = .ok (.aload_n 0, 1) := by decide +kernel
theorem dX0_keep_1 : decode cX0_keep 1 = .ok (.getfield 15, 3) := by decide +kernel
theorem dX0_keep_4 : decode cX0_keep 4 = .ok (.aload_n 0, 1) := by decide +kernel
theorem dX0_keep_5 : decode cX0_keep 5 = .ok (.getfield 18, 3) := by decide +kernel
theorem dX0_keep_8 : decode cX0_keep 8 = .ok (.invokestatic 40, 3) := by decide +kernel
theorem dX0_keep_11 : decode cX0_keep 11 = .ok (.aload_n 0, 1) := by decide +kernel
theorem dX0_keep_12 : decode cX0_keep 12 = .ok (.aload_n 0, 1) := by decide +kernel
theorem dX0_keep_13 : decode cX0_keep 13 = .ok (.getfield 49, 3) := by decide +kernel
theorem dX0_keep_16 : decode cX0_keep 16 = .ok (.putfield 71, 3) := by decide +kernel
theorem dX0_keep_19 : decode cX0_keep 19 = .ok (.aload_n 0, 1) := by decide +kernel
theorem dX0_keep_20 : decode cX0_keep 20 = .ok (.iconst 1, 1) := by decide +kernel
theorem dX0_keep_21 : decode cX0_keep 21 = .ok (.putfield 21, 3) := by decide +kernel
theorem dX0_keep_24 : decode cX0_keep 24 = .ok (.return_, 1) := by decide +kernel
def rX0_keep : Room := { frames := 2, cells := 0, slots := 0, locals := 60 }
theorem yk_X0_keep : YK yX0_keep cX0_keep 1 none 0 := ⟨xim_X0_keep, xse_X0_keep, xin_X0, xco_X0_keep, by decide +kernel⟩
set_option maxRecDepth 4000 in
theorem c_X0_keep {l : Launch} {D : va_G} {t : Nat → ClassId} {a : Nat → Nat} {I : Nat → Int32} {F : Nat → Nat → Int32} {L : Nat → Int64}  : CT l D t yX0_keep cX0_keep 1 none rX0_keep 0 0 [.ref (a 4)] (WX a t I F L) (VP (fun w => ∃ F' : Nat → Nat → Int32, w = WX a t (va_up (va_up I 8 (I 7)) 9 (nI 1)) F' L ∧ (∀ q, q ≠ 10 → F' q = F q) ∧ ∀ p, p < 24 → F' 10 p = F 9 p)) := by
  refine CT.of (by decide +kernel) (by simp [lg_sl, Value.category]) (fun X C hR => ?_)
  refine xlocals (lv' := [(0, .ref (a 4))]) rfl ?_
  refine xaload_n C 0 rfl dX0_keep_0 ?_
  refine gX0_15 C dX0_keep_1 ?_
  refine xaload_n C 0 rfl dX0_keep_4 ?_
  refine gX0_18 C dX0_keep_5 ?_
  refine xcSVN C (c_X5_copyRow 9 10 (by decide) (by decide) (by decide) (by decide)) sk_X5_copyRow (fun _ h => h.2) ⟨⟨Nat.le_of_ble_eq_true rfl, Nat.le_of_ble_eq_true rfl⟩, ⟨rfl, rfl⟩, ⟨Nat.zero_le _, Nat.zero_le _⟩⟩ rfl (Nat.le_of_ble_eq_true rfl) dX0_keep_8 (fun wE hE => ?_)
  obtain ⟨F1, rfl, hF1, hF1c⟩ := hE
  refine xaload_n C 0 rfl dX0_keep_11 ?_
  refine xaload_n C 0 rfl dX0_keep_12 ?_
  refine gX0_49 C dX0_keep_13 ?_
  refine pX0_71 C dX0_keep_16 ?_
  refine xaload_n C 0 rfl dX0_keep_19 ?_
  refine xiconst (v := nI 1) C dX0_keep_20 (by decide) ?_
  refine pX0_21 C (by rfl) (by rfl) dX0_keep_21 ?_
  exact xvret C hR dX0_keep_24 (⟨rfl, F1, rfl, hF1, hF1c⟩)
end
section
/-! Small (written by my program parts_x3.py). -/
def gN (K : Cfg) (p : Nat) : Nat := mostN K p + 1
/-- how many states; the i-th one -/
def stN (K : Cfg) : Nat := pr (gN K) (kn K)
def dgN (K : Cfg) (i p : Nat) : Nat := i / pr (gN K) p % gN K p
def smlP (K : Cfg) : Prop := km K ≤ 12 ∧ stN K ≤ 5000
noncomputable def trN (K : Cfg) (w p q : Nat) (f : Nat → Nat) : Nat := match w with
  | 0 => bn (woN K f ≠ 0)
  | 1 => woN K f
  | 2 => woN K f * f p
  | _ => if f p = f q then woN K f else 0
noncomputable def suN (K : Cfg) (w p q : Nat) : Nat := sm (fun i => trN K w p q (dgN K i)) (stN K)
theorem pr_leC {g : Nat → Nat} {c : Nat} : ∀ {k : Nat}, (∀ i, i < k → g i ≤ c) → pr g k ≤ c ^ k
  | 0, _ => Nat.le_refl 1
  | k + 1, h => by
    show pr g k * g k ≤ c ^ (k + 1)
    rw [Nat.pow_succ]
    exact Nat.mul_le_mul (pr_leC (fun i hi => h i (by omega))) (h k (by omega))
theorem pr_geC {g : Nat → Nat} {c : Nat} : ∀ {k : Nat}, (∀ i, i < k → c ≤ g i) → c ^ k ≤ pr g k
  | 0, _ => Nat.le_refl 1
  | k + 1, h => by
    show c ^ (k + 1) ≤ pr g k * g k
    rw [Nat.pow_succ]
    exact Nat.mul_le_mul (pr_geC (fun i hi => h i (by omega))) (h k (by omega))
theorem stN_lt {K : Cfg} (hW : WFK K) : stN K < 2 ^ 63 := by
  have h1 : stN K ≤ 6 ^ kn K := pr_leC (fun i hi => by have := mostN_le hW hi; unfold gN; omega)
  have h2 : 6 ^ kn K ≤ 6 ^ 24 := Nat.pow_le_pow_right (by decide) hW.n24
  exact Nat.lt_of_le_of_lt (Nat.le_trans h1 h2) (by decide)
theorem woN_le {K : Cfg} (hW : WFK K) (hs : smlP K) (f : Nat → Nat) : woN K f ≤ 9 ^ 12 := by
  have h12 := hs.1
  have h5k := hs.2
  unfold woN
  by_cases k2 : kk K = 2
  · have hn : kn K ≤ 12 := by
      rcases Nat.lt_or_ge 12 (kn K) with q | q
      · have h1 : 2 ^ kn K ≤ stN K := pr_geC (fun i hi => by have := mostN_pos hW hi; unfold gN; omega)
        have h2 : 2 ^ 13 ≤ 2 ^ kn K := Nat.pow_le_pow_right (by decide) q
        have h3 : (2 : Nat) ^ 13 = 8192 := by decide
        omega
      · exact q
    have h1 := pr_leC (g := fun p => pwN K p (f p)) (c := 9) (k := kn K) (fun i _ => pwN_le hW i _)
    have h2 := pr_leC (g := fun k => lwN K (f (kla K k)) (f (klb K k))) (c := 1) (k := km K) (fun i _ => by unfold lwN; rw [if_neg (by omega), if_neg (by omega)]; split <;> omega)
    rw [Nat.one_pow] at h2
    have h3 : 9 ^ kn K ≤ 9 ^ 12 := Nat.pow_le_pow_right (by decide) hn
    exact Nat.le_trans (Nat.mul_le_mul (Nat.le_trans h1 h3) h2) (by decide)
  · have h1 := pr_leC (g := fun p => pwN K p (f p)) (c := 1) (k := kn K) (fun i _ => by unfold pwN; split; omega; first | (rw [if_neg k2]; omega) | omega)
    have h2 := pr_leC (g := fun k => lwN K (f (kla K k)) (f (klb K k))) (c := 9) (k := km K) (fun i _ => lwN_le hW _ _)
    rw [Nat.one_pow] at h1
    have h3 : 9 ^ km K ≤ 9 ^ 12 := Nat.pow_le_pow_right (by decide) h12
    exact Nat.le_trans (Nat.mul_le_mul h1 (Nat.le_trans h2 h3)) (by decide)
theorem pr_pos {g : Nat → Nat} (h : ∀ i, 0 < g i) : ∀ k, 0 < pr g k
  | 0 => Nat.one_pos
  | k + 1 => Nat.mul_pos (pr_pos h k) (h k)
theorem gN_pos (K : Cfg) (i : Nat) : 0 < gN K i := Nat.succ_pos _
theorem pr_split (g : Nat → Nat) (p : Nat) : ∀ r, ∃ c, pr g (p + r) = pr g p * c
  | 0 => ⟨1, by rw [Nat.add_zero, Nat.mul_one]⟩
  | r + 1 => by
    obtain ⟨c, hc⟩ := pr_split g p r
    exact ⟨c * g (p + r), by show pr g (p + r) * g (p + r) = _; rw [hc, Nat.mul_assoc]⟩
theorem pr_split1 (g : Nat → Nat) {p q : Nat} (h : p < q) : ∃ c, pr g q = pr g p * (g p * c) := by
  obtain ⟨c, hc⟩ := pr_split g (p + 1) (q - (p + 1))
  rw [show p + 1 + (q - (p + 1)) = q by omega] at hc
  exact ⟨c, by rw [hc, show pr g (p + 1) = pr g p * g p from rfl, Nat.mul_assoc]⟩
theorem odo_zero {K : Cfg} {i p q : Nat} (hm : (i + 1) % pr (gN K) q = 0) (h : p < q) : dgN K (i + 1) p = 0 := by
  obtain ⟨c, hc⟩ := pr_split1 (gN K) h
  obtain ⟨d, hd⟩ := Nat.dvd_of_mod_eq_zero hm
  unfold dgN
  rw [hd, hc, Nat.mul_assoc, Nat.mul_div_cancel_left _ (pr_pos (gN_pos K) p), Nat.mul_assoc, Nat.mul_mod_right]
theorem odo_div {K : Cfg} {i q : Nat} (hm : (i + 1) % pr (gN K) q = 0) : (i + 1) / pr (gN K) q = i / pr (gN K) q + 1 := by
  have hp := pr_pos (gN_pos K) q
  obtain ⟨d, hd⟩ := Nat.dvd_of_mod_eq_zero hm
  have hd0 : 0 < d := by
    rcases Nat.eq_zero_or_pos d with e | e
    · rw [e, Nat.mul_zero] at hd; omega
    · exact e
  obtain ⟨e, rfl⟩ : ∃ e, d = e + 1 := ⟨d - 1, by omega⟩
  have h1 : i = pr (gN K) q * e + (pr (gN K) q - 1) := by rw [Nat.mul_add, Nat.mul_one] at hd; omega
  have h2 : i / pr (gN K) q = e := by
    rw [h1, Nat.mul_add_div hp, Nat.div_eq_of_lt (by omega)]
    omega
  rw [hd, Nat.mul_div_cancel_left _ hp, h2]
theorem odo_mod {K : Cfg} {i q : Nat} (hm : (i + 1) % pr (gN K) q = 0) (h : mostN K q ≤ dgN K i q) : (i + 1) % pr (gN K) (q + 1) = 0 := by
  have hlt : dgN K i q < gN K q := Nat.mod_lt _ (gN_pos K q)
  have hg : gN K q = mostN K q + 1 := rfl
  have h1 : (i / pr (gN K) q + 1) % gN K q = 0 := by
    have h2 : i / pr (gN K) q % gN K q = gN K q - 1 := by show dgN K i q = _; omega
    rw [Nat.add_mod, h2]
    rcases Nat.lt_or_ge 1 (gN K q) with q1 | q1
    · rw [Nat.mod_eq_of_lt q1, show gN K q - 1 + 1 = gN K q by omega, Nat.mod_self]
    · have : gN K q = 1 := by have := gN_pos K q; omega
      rw [this]
  rw [← odo_div hm] at h1
  obtain ⟨c, hc⟩ := Nat.dvd_of_mod_eq_zero h1
  have h3 : i + 1 = pr (gN K) q * ((i + 1) / pr (gN K) q) := by
    have := Nat.div_add_mod (i + 1) (pr (gN K) q)
    omega
  rw [h3, hc, show pr (gN K) (q + 1) = pr (gN K) q * gN K q from rfl, ← Nat.mul_assoc, Nat.mul_mod_right]
theorem odo_RA {K : Cfg} {i q : Nat} {g : Nat → Int32} {n : Nat} (h : RA n g (fun p => if p < q then 0 else dgN K i p)) : RA n (upd g q (nI 0)) (fun p => if p < q + 1 then 0 else dgN K i p) := by
  intro p hp
  unfold upd
  by_cases e : p = q
  · subst e
    rw [if_pos rfl]
    show nI 0 = nI (if p < p + 1 then 0 else _) ∧ _
    rw [if_pos (Nat.lt_succ_self p)]
    exact ⟨rfl, by show (if p < p + 1 then 0 else _) ≤ 5; rw [if_pos (Nat.lt_succ_self p)]; omega⟩
  · rw [if_neg e]
    have h1 := h p hp
    dsimp only at h1
    show g p = nI (if p < q + 1 then 0 else dgN K i p) ∧ (if p < q + 1 then 0 else dgN K i p) ≤ 5
    by_cases e2 : p < q
    · rw [if_pos (show p < q + 1 by omega)]
      rw [if_pos e2] at h1
      exact h1
    · rw [if_neg (show ¬ p < q + 1 by omega)]
      rw [if_neg e2] at h1
      exact h1
theorem odo_up {K : Cfg} (hW : WFK K) {i q : Nat} {g : Nat → Int32} (hm : (i + 1) % pr (gN K) q = 0) (h : RA (kn K) g (fun p => if p < q then 0 else dgN K i p)) (hq : q < kn K) (hd : dgN K i q < mostN K q) : RA (kn K) (upd g q (nI (dgN K i q + 1))) (dgN K (i + 1)) := by
  have hg : gN K q = mostN K q + 1 := rfl
  have e0 : dgN K (i + 1) q = dgN K i q + 1 := by
    show (i + 1) / pr (gN K) q % gN K q = _
    rw [odo_div hm, Nat.add_mod, Nat.mod_eq_of_lt (show 1 < gN K q by omega)]
    show (dgN K i q + 1) % gN K q = _
    exact Nat.mod_eq_of_lt (by omega)
  intro p hp
  unfold upd
  by_cases e : p = q
  · subst e
    rw [if_pos rfl, e0]
    exact ⟨rfl, by have := mostN_le hW hp; omega⟩
  · rw [if_neg e]
    have h1 := h p hp
    dsimp only at h1
    by_cases e2 : p < q
    · rw [if_pos e2] at h1
      rw [odo_zero hm e2]
      exact h1
    · rw [if_neg e2] at h1
      have e3 : dgN K (i + 1) p = dgN K i p := by
        have hqp : q + 1 ≤ p := by omega
        obtain ⟨c, hc⟩ := pr_split (gN K) (q + 1) (p - (q + 1))
        rw [show q + 1 + (p - (q + 1)) = p by omega] at hc
        have hdiv : (i + 1) / pr (gN K) (q + 1) = i / pr (gN K) (q + 1) := by
          show (i + 1) / (pr (gN K) q * gN K q) = i / (pr (gN K) q * gN K q)
          rw [← Nat.div_div_eq_div_mul, ← Nat.div_div_eq_div_mul, odo_div hm]
          have h4 := Nat.div_add_mod (i / pr (gN K) q) (gN K q)
          have h5 : i / pr (gN K) q % gN K q = dgN K i q := rfl
          rw [h5] at h4
          have h6 : i / pr (gN K) q + 1 = gN K q * (i / pr (gN K) q / gN K q) + (dgN K i q + 1) := by omega
          rw [h6, Nat.mul_add_div (gN_pos K q), Nat.div_eq_of_lt (show dgN K i q + 1 < gN K q by omega), Nat.add_zero]
        unfold dgN
        rw [hc, ← Nat.div_div_eq_div_mul, ← Nat.div_div_eq_div_mul, hdiv]
      rw [e3]
      exact h1
/-- Euclid's steps -/
def fbp : Nat → Nat × Nat
  | 0 => (0, 1)
  | n + 1 => match fbp n with
    | (x, y) => (y, x + y)
def fb (n : Nat) : Nat := (fbp n).1
theorem fb_step (n : Nat) : fb (n + 2) = fb (n + 1) + fb n := by
  show (fbp (n + 2)).1 = (fbp (n + 1)).1 + (fbp n).1
  have e : ∀ k, fbp (k + 1) = ((fbp k).2, (fbp k).1 + (fbp k).2) := fun k => rfl
  rw [e (n + 1), e n]
  exact Nat.add_comm _ _
theorem fb101 : 2 ^ 62 < fb 101 := by decide +kernel
theorem eu_step {i x y : Nat} (hi : i < 100) (hy : 0 < y) (hyb : y < 2 ^ 62) (h : i = 0 ∨ (y < x ∧ (x < fb (102 - i) ∨ y < fb (101 - i)))) : x % y < y ∧ (y < fb (102 - (i + 1)) ∨ x % y < fb (101 - (i + 1))) := by
  refine ⟨Nat.mod_lt _ hy, ?_⟩
  rcases h with rfl | ⟨h1, h2⟩
  · exact Or.inl (Nat.lt_trans hyb fb101)
  · rcases Nat.lt_or_ge y (fb (101 - i)) with q | q
    · exact Or.inl (by rw [show 102 - (i + 1) = 101 - i by omega]; exact q)
    · right
      have h3 : x < fb (102 - i) := by
        rcases h2 with h2 | h2
        · exact h2
        · omega
      have h4 := fb_step (100 - i)
      rw [show 100 - i + 2 = 102 - i by omega, show 100 - i + 1 = 101 - i by omega] at h4
      rw [show 101 - (i + 1) = 100 - i by omega]
      have h5 : x % y + y ≤ x := by
        have := Nat.div_add_mod x y
        have h6 : 0 < x / y := Nat.div_pos (Nat.le_of_lt h1) hy
        have h7 : y * 1 ≤ y * (x / y) := Nat.mul_le_mul (Nat.le_refl y) h6
        omega
      omega
theorem eu_zero {i x y : Nat} (hi : i = 100) (h : i = 0 ∨ (y < x ∧ (x < fb (102 - i) ∨ y < fb (101 - i)))) : y = 0 := by
  subst hi
  rcases h with h | ⟨h1, h2⟩
  · omega
  · have e1 : fb (102 - 100) = 1 := by decide +kernel
    have e2 : fb (101 - 100) = 1 := by decide +kernel
    rw [e1, e2] at h2
    omega
theorem eu_end {x y u v : Nat} (hg : Nat.gcd x y = Nat.gcd u v) (hy : y = 0) : x = Nat.gcd u v := by
  subst hy
  rw [← hg, Nat.gcd_zero_right]
theorem trN_le {K : Cfg} (hW : WFK K) (hs : smlP K) {w p q : Nat} {f : Nat → Nat} (hf : f p ≤ 5) : trN K w p q f ≤ 5 * 9 ^ 12 := by
  have h := woN_le hW hs f
  have e : (9 : Nat) ^ 12 = 282429536481 := by decide
  rw [e] at h ⊢
  unfold trN
  split
  · have := bn_le (woN K f ≠ 0); omega
  · omega
  · have := Nat.mul_le_mul h hf; omega
  · split <;> omega
theorem sm_leC {g : Nat → Nat} {c : Nat} : ∀ {k : Nat}, (∀ i, i < k → g i ≤ c) → sm g k ≤ k * c
  | 0, _ => Nat.zero_le _
  | k + 1, h => by
    show sm g k + g k ≤ (k + 1) * c
    have h1 := sm_leC (k := k) (fun i hi => h i (by omega))
    have h2 := h k (by omega)
    rw [Nat.add_mul]
    omega
theorem suN_lt {K : Cfg} (hW : WFK K) (hs : smlP K) (w : Nat) {p : Nat} (q : Nat) (hp : p < kn K) : suN K w p q < 2 ^ 62 := by
  have h1 : suN K w p q ≤ stN K * (5 * 9 ^ 12) := sm_leC (fun i hi => trN_le hW hs (by
    have h2 : dgN K i p < gN K p := Nat.mod_lt _ (gN_pos K p)
    have h3 := mostN_le hW hp
    have h4 : gN K p = mostN K p + 1 := rfl
    omega))
  exact Nat.lt_of_le_of_lt (Nat.le_trans h1 (Nat.mul_le_mul hs.2 (Nat.le_refl _))) (by decide)
theorem dX3_states_0 : decode cX3_states 0 = .ok (.lconst 1, 1) := by decide +kernel
theorem dX3_states_1 : decode cX3_states 1 = .ok (.lstore_n 1, 1) := by decide +kernel
theorem dX3_states_2 : decode cX3_states 2 = .ok (.iconst 0, 1) := by decide +kernel
theorem dX3_states_3 : decode cX3_states 3 = .ok (.istore_n 3, 1) := by decide +kernel
theorem dX3_states_4 : decode cX3_states 4 = .ok (.iload_n 3, 1) := by decide +kernel
theorem dX3_states_5 : decode cX3_states 5 = .ok (.aload_n 0, 1) := by decide +kernel
theorem dX3_states_6 : decode cX3_states 6 = .ok (.getfield 15, 3) := by decide +kernel
theorem dX3_states_9 : decode cX3_states 9 = .ok (.getfield 35, 3) := by decide +kernel
theorem dX3_states_12 : decode cX3_states 12 = .ok (.if_icmp .ge 23, 3) := by decide +kernel
theorem dX3_states_15 : decode cX3_states 15 = .ok (.lload_n 1, 1) := by decide +kernel
theorem dX3_states_16 : decode cX3_states 16 = .ok (.aload_n 0, 1) := by decide +kernel
theorem dX3_states_17 : decode cX3_states 17 = .ok (.getfield 19, 3) := by decide +kernel
theorem dX3_states_20 : decode cX3_states 20 = .ok (.iload_n 3, 1) := by decide +kernel
theorem dX3_states_21 : decode cX3_states 21 = .ok (.invokevirtual 38, 3) := by decide +kernel
theorem dX3_states_24 : decode cX3_states 24 = .ok (.iconst 1, 1) := by decide +kernel
theorem dX3_states_25 : decode cX3_states 25 = .ok (.iadd, 1) := by decide +kernel
theorem dX3_states_26 : decode cX3_states 26 = .ok (.i2l, 1) := by decide +kernel
theorem dX3_states_27 : decode cX3_states 27 = .ok (.lmul, 1) := by decide +kernel
theorem dX3_states_28 : decode cX3_states 28 = .ok (.lstore_n 1, 1) := by decide +kernel
theorem dX3_states_29 : decode cX3_states 29 = .ok (.iinc 3 1, 3) := by decide +kernel
theorem dX3_states_32 : decode cX3_states 32 = .ok (.goto (-28), 3) := by decide +kernel
theorem dX3_states_35 : decode cX3_states 35 = .ok (.lload_n 1, 1) := by decide +kernel
theorem dX3_states_36 : decode cX3_states 36 = .ok (.lreturn, 1) := by decide +kernel
def rX3_states : Room := { frames := 1, cells := 0, slots := 0, locals := 21 }
theorem yk_X3_states : YK yX3_states cX3_states 4 (some .long) 0 := ⟨xim_X3_states, xse_X3_states, xin_X3, xco_X3_states, by decide +kernel⟩
set_option maxRecDepth 4000 in
theorem c_X3_states {l : Launch} {D : va_G} {t : Nat → ClassId} {a : Nat → Nat} {I : Nat → Int32} {F : Nat → Nat → Int32} {L : Nat → Int64} {K : Cfg} (hK : CFG K I F) (hW : WFK K)  : CT l D t yX3_states cX3_states 4 (some .long) rX3_states 0 0 [.ref (a 5)] (WX a t I F L) (RP (.long (lN (stN K))) (WX a t I F L)) := by
  refine CT.of (by decide +kernel) (by simp [lg_sl, Value.category]) (fun X C hR => ?_)
  refine xlocals (lv' := [(0, .ref (a 5))]) rfl ?_
  have fn24 := hW.n24; have fm60 := hW.m60; have fk2 := hW.k2; have fu1 := hW.u1; have fu9 := hW.u9; have fv1 := hW.v1; have fv9 := hW.v9
  refine xlconst (v := lN 1) C dX3_states_0 (by decide) ?_
  refine xlstore_n (lv' := [(1, .long (lN 1)), (0, .ref (a 5))]) C dX3_states_1 (by decide) rfl ?_
  refine xiconst (v := nI 0) C dX3_states_2 (by decide) ?_
  refine xistore_n (lv' := [(3, .int (nI 0)), (1, .long (lN 1)), (0, .ref (a 5))]) C dX3_states_3 (by decide) rfl ?_
  have LP4 : ∀ (fu4 : Nat) (i : Nat) (hi : i ≤ kn K), kn K - i < fu4 → XW X 0 0 (WX a t I F L) [(0, .ref (a 5)), (1, .long (lN (pr (gN K) i))), (3, .int (nI i))] 4 [] := by
    intro fu4
    induction fu4 with
    | zero => intro i hi hm4; exact absurd hm4 (Nat.not_lt_zero _)
    | succ fu4 ih4 =>
      intro i hi hm4
      refine xiload_n C 2 rfl dX3_states_4 ?_
      refine xaload_n C 0 rfl dX3_states_5 ?_
      refine gX3_15 C dX3_states_6 ?_
      refine gX3_35K C hK dX3_states_9 ?_
      refine xicmp_geN C 35 dX3_states_12 (by decide) (by omega) (by omega) (fun h12 => ?_) (fun h12 => ?_)
      ·
        refine xlload_n C 1 rfl dX3_states_35 ?_
        exact xlret C hR dX3_states_36 (RPl (by (have e : i = kn K := (by omega)); subst e; rfl))
      ·
        refine xlload_n C 1 rfl dX3_states_15 ?_
        refine xaload_n C 0 rfl dX3_states_16 ?_
        refine gX3_19 C dX3_states_17 ?_
        refine xiload_n C 2 rfl dX3_states_20 ?_
        refine xcVR C (c_X2_most hK hW i (by omega)) yk_X2_most 2 rfl rfl xml_X3_38 ⟨⟨Nat.le_of_ble_eq_true rfl, Nat.le_of_ble_eq_true rfl⟩, ⟨rfl, rfl⟩, ⟨Nat.zero_le _, Nat.zero_le _⟩⟩ rfl (Nat.le_of_ble_eq_true rfl) dX3_states_21 ?_
        have fm21 := mostN_le hW (show i < kn K by omega)
        refine xiconst (v := nI 1) C dX3_states_24 (by decide) ?_
        refine xiaddN C dX3_states_25 ?_
        refine xi2lN C (by omega) dX3_states_26 ?_
        refine xlmulN C dX3_states_27 ?_
        refine xtopl (y := lN (pr (gN K) (i + 1))) (rfl) ?_
        refine xlstore_n (lv' := [(1, .long (lN (pr (gN K) (i + 1)))), (0, .ref (a 5)), (3, .int (nI i))]) C dX3_states_28 (by decide) rfl ?_
        refine xiincN (lv' := [(3, .int (nI (i + 1))), (1, .long (lN (pr (gN K) (i + 1)))), (0, .ref (a 5))]) C 2 rfl dX3_states_29 (by decide) rfl ?_
        refine xgoto C 4 dX3_states_32 (by decide) ?_
        refine xsub [2, 1, 0] rfl ?_
        exact ih4 (i + 1) (by omega) (by omega)
  refine xsub [2, 1, 0] rfl ?_
  exact LP4 _ 0 (Nat.zero_le _) (Nat.lt_succ_self _)
theorem dX3_isSmall_0 : decode cX3_isSmall 0 = .ok (.aload_n 0, 1) := by decide +kernel
theorem dX3_isSmall_1 : decode cX3_isSmall 1 = .ok (.getfield 15, 3) := by decide +kernel
theorem dX3_isSmall_4 : decode cX3_isSmall 4 = .ok (.getfield 23, 3) := by decide +kernel
theorem dX3_isSmall_7 : decode cX3_isSmall 7 = .ok (.bipush 12, 2) := by decide +kernel
theorem dX3_isSmall_9 : decode cX3_isSmall 9 = .ok (.if_icmp .gt 18, 3) := by decide +kernel
theorem dX3_isSmall_12 : decode cX3_isSmall 12 = .ok (.aload_n 0, 1) := by decide +kernel
theorem dX3_isSmall_13 : decode cX3_isSmall 13 = .ok (.invokevirtual 29, 3) := by decide +kernel
theorem dX3_isSmall_16 : decode cX3_isSmall 16 = .ok (.ldc2_w 33, 3) := by decide +kernel
theorem dX3_isSmall_19 : decode cX3_isSmall 19 = .ok (.lcmp, 1) := by decide +kernel
theorem dX3_isSmall_20 : decode cX3_isSmall 20 = .ok (.ifCond .gt 7, 3) := by decide +kernel
theorem dX3_isSmall_23 : decode cX3_isSmall 23 = .ok (.iconst 1, 1) := by decide +kernel
theorem dX3_isSmall_24 : decode cX3_isSmall 24 = .ok (.goto 4, 3) := by decide +kernel
theorem dX3_isSmall_27 : decode cX3_isSmall 27 = .ok (.iconst 0, 1) := by decide +kernel
theorem dX3_isSmall_28 : decode cX3_isSmall 28 = .ok (.ireturn, 1) := by decide +kernel
def rX3_isSmall : Room := { frames := 2, cells := 0, slots := 0, locals := 44 }
theorem yk_X3_isSmall : YK yX3_isSmall cX3_isSmall 1 (some .boolean) 0 := ⟨xim_X3_isSmall, xse_X3_isSmall, xin_X3, xco_X3_isSmall, by decide +kernel⟩
set_option maxRecDepth 4000 in
theorem c_X3_isSmall {l : Launch} {D : va_G} {t : Nat → ClassId} {a : Nat → Nat} {I : Nat → Int32} {F : Nat → Nat → Int32} {L : Nat → Int64} {K : Cfg} (hK : CFG K I F) (hW : WFK K)  : CT l D t yX3_isSmall cX3_isSmall 1 (some .boolean) rX3_isSmall 0 0 [.ref (a 5)] (WX a t I F L) (RP (.int (nI (bn (smlP K)))) (WX a t I F L)) := by
  refine CT.of (by decide +kernel) (by simp [lg_sl, Value.category]) (fun X C hR => ?_)
  refine xlocals (lv' := [(0, .ref (a 5))]) rfl ?_
  have fn24 := hW.n24; have fm60 := hW.m60; have fk2 := hW.k2; have fu1 := hW.u1; have fu9 := hW.u9; have fv1 := hW.v1; have fv9 := hW.v9
  refine xaload_n C 0 rfl dX3_isSmall_0 ?_
  refine gX3_15 C dX3_isSmall_1 ?_
  refine gX3_23K C hK dX3_isSmall_4 ?_
  refine xbipush (v := nI 12) C dX3_isSmall_7 (by decide) ?_
  refine xicmp_gtN C 27 dX3_isSmall_9 (by decide) (by omega) (by omega) (fun h9 => ?_) (fun h9 => ?_)
  ·
    refine xiconst (v := nI 0) C dX3_isSmall_27 (by decide) ?_
    exact xret C hR (by rfl) dX3_isSmall_28 (RPn ((bn_f (fun q => by have := q.1; omega)).symm))
  ·
    refine xaload_n C 0 rfl dX3_isSmall_12 ?_
    refine xcVR C (c_X3_states hK hW) yk_X3_states 5 rfl rfl xml_X3_29 ⟨⟨Nat.le_of_ble_eq_true rfl, Nat.le_of_ble_eq_true rfl⟩, ⟨rfl, rfl⟩, ⟨Nat.zero_le _, Nat.zero_le _⟩⟩ rfl (Nat.le_of_ble_eq_true rfl) dX3_isSmall_13 ?_
    refine xldc2 C dX3_isSmall_16 xcn_X3_33 ?_
    refine xtopl (y := lN 5000) (by decide +kernel) ?_
    refine xlcmp_gt C 27 dX3_isSmall_19 dX3_isSmall_20 (by decide) (stN_lt hW) (by decide) (fun h19 => ?_) (fun h19 => ?_)
    ·
      refine xiconst (v := nI 0) C dX3_isSmall_27 (by decide) ?_
      exact xret C hR (by rfl) dX3_isSmall_28 (RPn ((bn_f (fun q => by have := q.2; omega)).symm))
    ·
      refine xiconst (v := nI 1) C dX3_isSmall_23 (by decide) ?_
      refine xgoto C 28 dX3_isSmall_24 (by decide) ?_
      exact xret C hR (by rfl) dX3_isSmall_28 (RPn ((bn_t ⟨h9, h19⟩).symm))
theorem dX3_termOf_0 : decode cX3_termOf 0 = .ok (.aload_n 0, 1) := by decide +kernel
theorem dX3_termOf_1 : decode cX3_termOf 1 = .ok (.getfield 19, 3) := by decide +kernel
theorem dX3_termOf_4 : decode cX3_termOf 4 = .ok (.aload_n 0, 1) := by decide +kernel
theorem dX3_termOf_5 : decode cX3_termOf 5 = .ok (.getfield 9, 3) := by decide +kernel
theorem dX3_termOf_8 : decode cX3_termOf 8 = .ok (.invokevirtual 51, 3) := by decide +kernel
theorem dX3_termOf_11 : decode cX3_termOf 11 = .ok (.lstore 4, 2) := by decide +kernel
theorem dX3_termOf_13 : decode cX3_termOf 13 = .ok (.iload_n 1, 1) := by decide +kernel
theorem dX3_termOf_14 : decode cX3_termOf 14 = .ok (.tableswitch 53 0 2 #[26, 39, 42], 26) := by decide +kernel
theorem dX3_termOf_40 : decode cX3_termOf 40 = .ok (.lload 4, 2) := by decide +kernel
theorem dX3_termOf_42 : decode cX3_termOf 42 = .ok (.lconst 0, 1) := by decide +kernel
theorem dX3_termOf_43 : decode cX3_termOf 43 = .ok (.lcmp, 1) := by decide +kernel
theorem dX3_termOf_44 : decode cX3_termOf 44 = .ok (.ifCond .le 7, 3) := by decide +kernel
theorem dX3_termOf_47 : decode cX3_termOf 47 = .ok (.lconst 1, 1) := by decide +kernel
theorem dX3_termOf_48 : decode cX3_termOf 48 = .ok (.goto 4, 3) := by decide +kernel
theorem dX3_termOf_51 : decode cX3_termOf 51 = .ok (.lconst 0, 1) := by decide +kernel
theorem dX3_termOf_52 : decode cX3_termOf 52 = .ok (.lreturn, 1) := by decide +kernel
theorem dX3_termOf_53 : decode cX3_termOf 53 = .ok (.lload 4, 2) := by decide +kernel
theorem dX3_termOf_55 : decode cX3_termOf 55 = .ok (.lreturn, 1) := by decide +kernel
theorem dX3_termOf_56 : decode cX3_termOf 56 = .ok (.lload 4, 2) := by decide +kernel
theorem dX3_termOf_58 : decode cX3_termOf 58 = .ok (.aload_n 0, 1) := by decide +kernel
theorem dX3_termOf_59 : decode cX3_termOf 59 = .ok (.getfield 9, 3) := by decide +kernel
theorem dX3_termOf_62 : decode cX3_termOf 62 = .ok (.iload_n 2, 1) := by decide +kernel
theorem dX3_termOf_63 : decode cX3_termOf 63 = .ok (.iaload, 1) := by decide +kernel
theorem dX3_termOf_64 : decode cX3_termOf 64 = .ok (.i2l, 1) := by decide +kernel
theorem dX3_termOf_65 : decode cX3_termOf 65 = .ok (.lmul, 1) := by decide +kernel
theorem dX3_termOf_66 : decode cX3_termOf 66 = .ok (.lreturn, 1) := by decide +kernel
theorem dX3_termOf_67 : decode cX3_termOf 67 = .ok (.aload_n 0, 1) := by decide +kernel
theorem dX3_termOf_68 : decode cX3_termOf 68 = .ok (.getfield 9, 3) := by decide +kernel
theorem dX3_termOf_71 : decode cX3_termOf 71 = .ok (.iload_n 2, 1) := by decide +kernel
theorem dX3_termOf_72 : decode cX3_termOf 72 = .ok (.iaload, 1) := by decide +kernel
theorem dX3_termOf_73 : decode cX3_termOf 73 = .ok (.aload_n 0, 1) := by decide +kernel
theorem dX3_termOf_74 : decode cX3_termOf 74 = .ok (.getfield 9, 3) := by decide +kernel
theorem dX3_termOf_77 : decode cX3_termOf 77 = .ok (.iload_n 3, 1) := by decide +kernel
theorem dX3_termOf_78 : decode cX3_termOf 78 = .ok (.iaload, 1) := by decide +kernel
theorem dX3_termOf_79 : decode cX3_termOf 79 = .ok (.if_icmp .ne 8, 3) := by decide +kernel
theorem dX3_termOf_82 : decode cX3_termOf 82 = .ok (.lload 4, 2) := by decide +kernel
theorem dX3_termOf_84 : decode cX3_termOf 84 = .ok (.goto 4, 3) := by decide +kernel
theorem dX3_termOf_87 : decode cX3_termOf 87 = .ok (.lconst 0, 1) := by decide +kernel
theorem dX3_termOf_88 : decode cX3_termOf 88 = .ok (.lreturn, 1) := by decide +kernel
def rX3_termOf : Room := { frames := 3, cells := 0, slots := 0, locals := 67 }
theorem yk_X3_termOf : YK yX3_termOf cX3_termOf 6 (some .long) 3 := ⟨xim_X3_termOf, xse_X3_termOf, xin_X3, xco_X3_termOf, by decide +kernel⟩
set_option maxRecDepth 4000 in
theorem c_X3_termOf {l : Launch} {D : va_G} {t : Nat → ClassId} {a : Nat → Nat} {I : Nat → Int32} {F : Nat → Nat → Int32} {L : Nat → Int64} {K : Cfg} (hK : CFG K I F) (hW : WFK K) {f : Nat → Nat} (hS : RA (kn K) (F 11) f) (hs : smlP K) (w p q : Nat) (hw : w ≤ 3) (hp : p < kn K) (hq : q < kn K) : CT l D t yX3_termOf cX3_termOf 6 (some .long) rX3_termOf 0 0 [.ref (a 5), .int (nI w), .int (nI p), .int (nI q)] (WX a t I F L) (RP (.long (lN (trN K w p q f))) (WX a t I F L)) := by
  refine CT.of (by decide +kernel) (by simp [lg_sl, Value.category]) (fun X C hR => ?_)
  refine xlocals (lv' := [(0, .ref (a 5)), (1, .int (nI w)), (2, .int (nI p)), (3, .int (nI q))]) rfl ?_
  have fn24 := hW.n24; have fm60 := hW.m60; have fk2 := hW.k2; have fu1 := hW.u1; have fu9 := hW.u9; have fv1 := hW.v1; have fv9 := hW.v9
  refine xaload_n C 0 rfl dX3_termOf_0 ?_
  refine gX3_19 C dX3_termOf_1 ?_
  refine xaload_n C 0 rfl dX3_termOf_4 ?_
  refine gX3_9 C dX3_termOf_5 ?_
  refine xcVR C (c_X2_weightOf hK hW 11 (by decide) (by decide) hS) yk_X2_weightOf 2 rfl rfl xml_X3_51 ⟨⟨Nat.le_of_ble_eq_true rfl, Nat.le_of_ble_eq_true rfl⟩, ⟨rfl, rfl⟩, ⟨Nat.zero_le _, Nat.zero_le _⟩⟩ rfl (Nat.le_of_ble_eq_true rfl) dX3_termOf_8 ?_
  refine xlstore (lv' := [(4, .long (lN (woN K f))), (0, .ref (a 5)), (1, .int (nI w)), (2, .int (nI p)), (3, .int (nI q))]) C dX3_termOf_11 (by decide) rfl ?_
  refine xiload_n C 2 rfl dX3_termOf_13 ?_
  rcases (show w = 0 ∨ w = 1 ∨ w = 2 ∨ w = 3 by omega) with h14 | h14 | h14 | h14
  ·
    refine xtopi (y := nI 0) (by rw [h14]) ?_
    refine xtabIn C 40 dX3_termOf_14 (off := 26) (by decide +kernel) (by decide +kernel) (by decide +kernel) (by decide) ?_
    refine xlload C 0 rfl dX3_termOf_40 ?_
    refine xlconst (v := lN 0) C dX3_termOf_42 (by decide) ?_
    refine xlcmp_le C 51 dX3_termOf_43 dX3_termOf_44 (by decide) (Nat.lt_of_le_of_lt (woN_le hW hs f) (by decide)) (by decide) (fun h43 => ?_) (fun h43 => ?_)
    ·
      refine xlconst (v := lN 0) C dX3_termOf_51 (by decide) ?_
      exact xlret C hR dX3_termOf_52 (RPl (by subst h14; exact (bn_f (P := woN K f ≠ 0) (fun q => q (by omega))).symm))
    ·
      refine xlconst (v := lN 1) C dX3_termOf_47 (by decide) ?_
      refine xgoto C 52 dX3_termOf_48 (by decide) ?_
      exact xlret C hR dX3_termOf_52 (RPl (by subst h14; exact (bn_t (P := woN K f ≠ 0) (by omega)).symm))
  ·
    refine xtopi (y := nI 1) (by rw [h14]) ?_
    refine xtabIn C 53 dX3_termOf_14 (off := 39) (by decide +kernel) (by decide +kernel) (by decide +kernel) (by decide) ?_
    refine xlload C 0 rfl dX3_termOf_53 ?_
    exact xlret C hR dX3_termOf_55 (RPl (by subst h14; rfl))
  ·
    refine xtopi (y := nI 2) (by rw [h14]) ?_
    refine xtabIn C 56 dX3_termOf_14 (off := 42) (by decide +kernel) (by decide +kernel) (by decide +kernel) (by decide) ?_
    refine xlload C 0 rfl dX3_termOf_56 ?_
    refine xaload_n C 1 rfl dX3_termOf_58 ?_
    refine gX3_9 C dX3_termOf_59 ?_
    refine xiload_n C 3 rfl dX3_termOf_62 ?_
    refine xa_st C hW 11 (by decide) (by decide) hS p (by omega) dX3_termOf_63 ?_
    have fb63 := (hS p (by omega)).2
    refine xi2lN C (by omega) dX3_termOf_64 ?_
    refine xlmulN C dX3_termOf_65 ?_
    exact xlret C hR dX3_termOf_66 (RPl (by subst h14; rfl))
  ·
    refine xtopi (y := nI 3) (by rw [h14]) ?_
    refine xtabOut C 67 dX3_termOf_14 (by decide +kernel) (by decide) ?_
    refine xaload_n C 1 rfl dX3_termOf_67 ?_
    refine gX3_9 C dX3_termOf_68 ?_
    refine xiload_n C 3 rfl dX3_termOf_71 ?_
    refine xa_st C hW 11 (by decide) (by decide) hS p (by omega) dX3_termOf_72 ?_
    have fb72 := (hS p (by omega)).2
    refine xaload_n C 1 rfl dX3_termOf_73 ?_
    refine gX3_9 C dX3_termOf_74 ?_
    refine xiload_n C 4 rfl dX3_termOf_77 ?_
    refine xa_st C hW 11 (by decide) (by decide) hS q (by omega) dX3_termOf_78 ?_
    have fb78 := (hS q (by omega)).2
    refine xicmp_neN C 87 dX3_termOf_79 (by decide) (by omega) (by omega) (fun h79 => ?_) (fun h79 => ?_)
    ·
      refine xlconst (v := lN 0) C dX3_termOf_87 (by decide) ?_
      exact xlret C hR dX3_termOf_88 (RPl (by subst h14; exact (if_neg h79).symm))
    ·
      refine xlload C 0 rfl dX3_termOf_82 ?_
      refine xgoto C 88 dX3_termOf_84 (by decide) ?_
      exact xlret C hR dX3_termOf_88 (RPl (by subst h14; exact (if_pos h79).symm))
theorem dX3_stepOn_0 : decode cX3_stepOn 0 = .ok (.iconst 0, 1) := by decide +kernel
theorem dX3_stepOn_1 : decode cX3_stepOn 1 = .ok (.istore_n 1, 1) := by decide +kernel
theorem dX3_stepOn_2 : decode cX3_stepOn 2 = .ok (.iload_n 1, 1) := by decide +kernel
theorem dX3_stepOn_3 : decode cX3_stepOn 3 = .ok (.aload_n 0, 1) := by decide +kernel
theorem dX3_stepOn_4 : decode cX3_stepOn 4 = .ok (.getfield 15, 3) := by decide +kernel
theorem dX3_stepOn_7 : decode cX3_stepOn 7 = .ok (.getfield 35, 3) := by decide +kernel
theorem dX3_stepOn_10 : decode cX3_stepOn 10 = .ok (.if_icmp .ge 44, 3) := by decide +kernel
theorem dX3_stepOn_13 : decode cX3_stepOn 13 = .ok (.aload_n 0, 1) := by decide +kernel
theorem dX3_stepOn_14 : decode cX3_stepOn 14 = .ok (.getfield 9, 3) := by decide +kernel
theorem dX3_stepOn_17 : decode cX3_stepOn 17 = .ok (.iload_n 1, 1) := by decide +kernel
theorem dX3_stepOn_18 : decode cX3_stepOn 18 = .ok (.iaload, 1) := by decide +kernel
theorem dX3_stepOn_19 : decode cX3_stepOn 19 = .ok (.aload_n 0, 1) := by decide +kernel
theorem dX3_stepOn_20 : decode cX3_stepOn 20 = .ok (.getfield 19, 3) := by decide +kernel
theorem dX3_stepOn_23 : decode cX3_stepOn 23 = .ok (.iload_n 1, 1) := by decide +kernel
theorem dX3_stepOn_24 : decode cX3_stepOn 24 = .ok (.invokevirtual 38, 3) := by decide +kernel
theorem dX3_stepOn_27 : decode cX3_stepOn 27 = .ok (.if_icmp .ge 14, 3) := by decide +kernel
theorem dX3_stepOn_30 : decode cX3_stepOn 30 = .ok (.aload_n 0, 1) := by decide +kernel
theorem dX3_stepOn_31 : decode cX3_stepOn 31 = .ok (.getfield 9, 3) := by decide +kernel
theorem dX3_stepOn_34 : decode cX3_stepOn 34 = .ok (.iload_n 1, 1) := by decide +kernel
theorem dX3_stepOn_35 : decode cX3_stepOn 35 = .ok (.dup2, 1) := by decide +kernel
theorem dX3_stepOn_36 : decode cX3_stepOn 36 = .ok (.iaload, 1) := by decide +kernel
theorem dX3_stepOn_37 : decode cX3_stepOn 37 = .ok (.iconst 1, 1) := by decide +kernel
theorem dX3_stepOn_38 : decode cX3_stepOn 38 = .ok (.iadd, 1) := by decide +kernel
theorem dX3_stepOn_39 : decode cX3_stepOn 39 = .ok (.iastore, 1) := by decide +kernel
theorem dX3_stepOn_40 : decode cX3_stepOn 40 = .ok (.return_, 1) := by decide +kernel
theorem dX3_stepOn_41 : decode cX3_stepOn 41 = .ok (.aload_n 0, 1) := by decide +kernel
theorem dX3_stepOn_42 : decode cX3_stepOn 42 = .ok (.getfield 9, 3) := by decide +kernel
theorem dX3_stepOn_45 : decode cX3_stepOn 45 = .ok (.iload_n 1, 1) := by decide +kernel
theorem dX3_stepOn_46 : decode cX3_stepOn 46 = .ok (.iconst 0, 1) := by decide +kernel
theorem dX3_stepOn_47 : decode cX3_stepOn 47 = .ok (.iastore, 1) := by decide +kernel
theorem dX3_stepOn_48 : decode cX3_stepOn 48 = .ok (.iinc 1 1, 3) := by decide +kernel
theorem dX3_stepOn_51 : decode cX3_stepOn 51 = .ok (.goto (-49), 3) := by decide +kernel
theorem dX3_stepOn_54 : decode cX3_stepOn 54 = .ok (.return_, 1) := by decide +kernel
def rX3_stepOn : Room := { frames := 1, cells := 0, slots := 0, locals := 21 }
theorem yk_X3_stepOn : YK yX3_stepOn cX3_stepOn 2 none 0 := ⟨xim_X3_stepOn, xse_X3_stepOn, xin_X3, xco_X3_stepOn, by decide +kernel⟩
set_option maxRecDepth 4000 in
theorem c_X3_stepOn {l : Launch} {D : va_G} {t : Nat → ClassId} {a : Nat → Nat} {I : Nat → Int32} {F : Nat → Nat → Int32} {L : Nat → Int64} {K : Cfg} (hK : CFG K I F) (hW : WFK K) (i : Nat) (hS : RA (kn K) (F 11) (dgN K i)) : CT l D t yX3_stepOn cX3_stepOn 2 none rX3_stepOn 0 0 [.ref (a 5)] (WX a t I F L) (VP (fun w => ∃ F' : Nat → Nat → Int32, w = WX a t I F' L ∧ (∀ z, z ≠ 11 → F' z = F z) ∧ RA (kn K) (F' 11) (dgN K (i + 1)))) := by
  refine CT.of (by decide +kernel) (by simp [lg_sl, Value.category]) (fun X C hR => ?_)
  refine xlocals (lv' := [(0, .ref (a 5))]) rfl ?_
  have fn24 := hW.n24; have fm60 := hW.m60; have fk2 := hW.k2; have fu1 := hW.u1; have fu9 := hW.u9; have fv1 := hW.v1; have fv9 := hW.v9
  refine xiconst (v := nI 0) C dX3_stepOn_0 (by decide) ?_
  refine xistore_n (lv' := [(1, .int (nI 0)), (0, .ref (a 5))]) C dX3_stepOn_1 (by decide) rfl ?_
  have LP2 : ∀ (fu2 : Nat) (q : Nat) (FA : Nat → Nat → Int32) (hq : q ≤ kn K) (hm : (i + 1) % pr (gN K) q = 0) (hA : RA (kn K) (FA 11) (fun p => if p < q then 0 else dgN K i p)) (hXA : (∀ z, z ≠ 11 → FA z = F z)), kn K - q < fu2 → XW X 0 0 (WX a t I FA L) [(0, .ref (a 5)), (1, .int (nI q))] 2 [] := by
    intro fu2
    induction fu2 with
    | zero => intro q FA hq hm hA hXA hm2; exact absurd hm2 (Nat.not_lt_zero _)
    | succ fu2 ih2 =>
      intro q FA hq hm hA hXA hm2
      have hKA : CFG K I FA := hK.of (fun _ _ => rfl) (fun z hz => hXA z (by omega))
      have hgq : mostN K q + 1 = gN K q := rfl
      have hdl : dgN K i q < gN K q := Nat.mod_lt _ (Nat.succ_pos _)
      refine xiload_n C 1 rfl dX3_stepOn_2 ?_
      refine xaload_n C 0 rfl dX3_stepOn_3 ?_
      refine gX3_15 C dX3_stepOn_4 ?_
      refine gX3_35K C hKA dX3_stepOn_7 ?_
      refine xicmp_geN C 54 dX3_stepOn_10 (by decide) (by omega) (by omega) (fun h10 => ?_) (fun h10 => ?_)
      ·
        exact xvret C hR dX3_stepOn_54 (⟨rfl, FA, rfl, hXA, fun p hp => by rw [odo_zero hm (show p < q by omega)]; have h9 := hA p hp; dsimp only at h9; rw [if_pos (show p < q by omega)] at h9; exact h9⟩)
      ·
        refine xaload_n C 0 rfl dX3_stepOn_13 ?_
        refine gX3_9 C dX3_stepOn_14 ?_
        refine xiload_n C 1 rfl dX3_stepOn_17 ?_
        refine xa_st C hW 11 (by omega) (by omega) hA q (by omega) dX3_stepOn_18 ?_
        have fb18 := (hA q (by omega)).2
        refine xtopi (y := nI (dgN K i q)) (by rw [if_neg (Nat.lt_irrefl q)]) ?_
        dsimp only at fb18
        rw [if_neg (Nat.lt_irrefl q)] at fb18
        refine xaload_n C 0 rfl dX3_stepOn_19 ?_
        refine gX3_19 C dX3_stepOn_20 ?_
        refine xiload_n C 1 rfl dX3_stepOn_23 ?_
        refine xcVR C (c_X2_most hKA hW q (by omega)) yk_X2_most 2 rfl rfl xml_X3_38 ⟨⟨Nat.le_of_ble_eq_true rfl, Nat.le_of_ble_eq_true rfl⟩, ⟨rfl, rfl⟩, ⟨Nat.zero_le _, Nat.zero_le _⟩⟩ rfl (Nat.le_of_ble_eq_true rfl) dX3_stepOn_24 ?_
        have fm24 := mostN_le hW (show q < kn K by omega)
        refine xicmp_geN C 41 dX3_stepOn_27 (by decide) (by omega) (by omega) (fun h27 => ?_) (fun h27 => ?_)
        ·
          refine xaload_n C 0 rfl dX3_stepOn_41 ?_
          refine gX3_9 C dX3_stepOn_42 ?_
          refine xiload_n C 1 rfl dX3_stepOn_45 ?_
          refine xiconst (v := nI 0) C dX3_stepOn_46 (by decide) ?_
          refine xs_st C 11 (by omega) (by omega) q (by omega) dX3_stepOn_47 ?_
          obtain ⟨FB, eFB⟩ : ∃ z : Nat → Nat → Int32, z = va_up FA 11 (upd (FA 11) q (nI 0)) := ⟨_, rfl⟩
          refine xworld (ws' := WX a t I FB L) (by rw [eFB]) ?_
          refine xiincN (lv' := [(1, .int (nI (q + 1))), (0, .ref (a 5))]) C 1 rfl dX3_stepOn_48 (by decide) rfl ?_
          refine xgoto C 2 dX3_stepOn_51 (by decide) ?_
          refine xsub [1, 0] rfl ?_
          exact ih2 (q + 1) FB (by omega) (odo_mod hm (by omega)) (fun p hp => by rw [eFB, va_up_self]; exact odo_RA hA p hp) (fun z hz => by rw [eFB, va_up_ne _ _ hz]; exact hXA z hz) (by omega)
        ·
          refine xaload_n C 0 rfl dX3_stepOn_30 ?_
          refine gX3_9 C dX3_stepOn_31 ?_
          refine xiload_n C 1 rfl dX3_stepOn_34 ?_
          refine xdup2 C dX3_stepOn_35 rfl rfl ?_
          refine xa_st C hW 11 (by omega) (by omega) hA q (by omega) dX3_stepOn_36 ?_
          have fb36 := (hA q (by omega)).2
          refine xtopi (y := nI (dgN K i q)) (by rw [if_neg (Nat.lt_irrefl q)]) ?_
          refine xiconst (v := nI 1) C dX3_stepOn_37 (by decide) ?_
          refine xiaddN C dX3_stepOn_38 ?_
          refine xs_st C 11 (by omega) (by omega) q (by omega) dX3_stepOn_39 ?_
          obtain ⟨FB, eFB⟩ : ∃ z : Nat → Nat → Int32, z = va_up FA 11 (upd (FA 11) q (nI ((dgN K i q) + 1))) := ⟨_, rfl⟩
          refine xworld (ws' := WX a t I FB L) (by rw [eFB]) ?_
          exact xvret C hR dX3_stepOn_40 (⟨rfl, FB, rfl, fun z hz => by rw [eFB, va_up_ne _ _ hz]; exact hXA z hz, fun p hp => by rw [eFB, va_up_self]; exact odo_up hW hm hA (by omega) (by omega) p hp⟩)
  refine xsub [1, 0] rfl ?_
  exact LP2 _ 0 F (Nat.zero_le _) (Nat.mod_one _) (fun p hp => by dsimp only; rw [if_neg (Nat.not_lt_zero p)]; exact hS p hp) (fun _ _ => rfl) (Nat.lt_succ_self _)
theorem dX3_sumOf_0 : decode cX3_sumOf 0 = .ok (.iconst 0, 1) := by decide +kernel
theorem dX3_sumOf_1 : decode cX3_sumOf 1 = .ok (.istore 4, 2) := by decide +kernel
theorem dX3_sumOf_3 : decode cX3_sumOf 3 = .ok (.iload 4, 2) := by decide +kernel
theorem dX3_sumOf_5 : decode cX3_sumOf 5 = .ok (.bipush 24, 2) := by decide +kernel
theorem dX3_sumOf_7 : decode cX3_sumOf 7 = .ok (.if_icmp .ge 17, 3) := by decide +kernel
theorem dX3_sumOf_10 : decode cX3_sumOf 10 = .ok (.aload_n 0, 1) := by decide +kernel
theorem dX3_sumOf_11 : decode cX3_sumOf 11 = .ok (.getfield 9, 3) := by decide +kernel
theorem dX3_sumOf_14 : decode cX3_sumOf 14 = .ok (.iload 4, 2) := by decide +kernel
theorem dX3_sumOf_16 : decode cX3_sumOf 16 = .ok (.iconst 0, 1) := by decide +kernel
theorem dX3_sumOf_17 : decode cX3_sumOf 17 = .ok (.iastore, 1) := by decide +kernel
theorem dX3_sumOf_18 : decode cX3_sumOf 18 = .ok (.iinc 4 1, 3) := by decide +kernel
theorem dX3_sumOf_21 : decode cX3_sumOf 21 = .ok (.goto (-18), 3) := by decide +kernel
theorem dX3_sumOf_24 : decode cX3_sumOf 24 = .ok (.aload_n 0, 1) := by decide +kernel
theorem dX3_sumOf_25 : decode cX3_sumOf 25 = .ok (.invokevirtual 29, 3) := by decide +kernel
theorem dX3_sumOf_28 : decode cX3_sumOf 28 = .ok (.lstore 4, 2) := by decide +kernel
theorem dX3_sumOf_30 : decode cX3_sumOf 30 = .ok (.lconst 0, 1) := by decide +kernel
theorem dX3_sumOf_31 : decode cX3_sumOf 31 = .ok (.lstore 6, 2) := by decide +kernel
theorem dX3_sumOf_33 : decode cX3_sumOf 33 = .ok (.iconst 0, 1) := by decide +kernel
theorem dX3_sumOf_34 : decode cX3_sumOf 34 = .ok (.istore 8, 2) := by decide +kernel
theorem dX3_sumOf_36 : decode cX3_sumOf 36 = .ok (.iload 8, 2) := by decide +kernel
theorem dX3_sumOf_38 : decode cX3_sumOf 38 = .ok (.i2l, 1) := by decide +kernel
theorem dX3_sumOf_39 : decode cX3_sumOf 39 = .ok (.lload 4, 2) := by decide +kernel
theorem dX3_sumOf_41 : decode cX3_sumOf 41 = .ok (.lcmp, 1) := by decide +kernel
theorem dX3_sumOf_42 : decode cX3_sumOf 42 = .ok (.ifCond .ge 33, 3) := by decide +kernel
theorem dX3_sumOf_45 : decode cX3_sumOf 45 = .ok (.iload 8, 2) := by decide +kernel
theorem dX3_sumOf_47 : decode cX3_sumOf 47 = .ok (.sipush 5000, 3) := by decide +kernel
theorem dX3_sumOf_50 : decode cX3_sumOf 50 = .ok (.if_icmp .ge 25, 3) := by decide +kernel
theorem dX3_sumOf_53 : decode cX3_sumOf 53 = .ok (.lload 6, 2) := by decide +kernel
theorem dX3_sumOf_55 : decode cX3_sumOf 55 = .ok (.aload_n 0, 1) := by decide +kernel
theorem dX3_sumOf_56 : decode cX3_sumOf 56 = .ok (.iload_n 1, 1) := by decide +kernel
theorem dX3_sumOf_57 : decode cX3_sumOf 57 = .ok (.iload_n 2, 1) := by decide +kernel
theorem dX3_sumOf_58 : decode cX3_sumOf 58 = .ok (.iload_n 3, 1) := by decide +kernel
theorem dX3_sumOf_59 : decode cX3_sumOf 59 = .ok (.invokevirtual 44, 3) := by decide +kernel
theorem dX3_sumOf_62 : decode cX3_sumOf 62 = .ok (.ladd, 1) := by decide +kernel
theorem dX3_sumOf_63 : decode cX3_sumOf 63 = .ok (.lstore 6, 2) := by decide +kernel
theorem dX3_sumOf_65 : decode cX3_sumOf 65 = .ok (.aload_n 0, 1) := by decide +kernel
theorem dX3_sumOf_66 : decode cX3_sumOf 66 = .ok (.invokevirtual 48, 3) := by decide +kernel
theorem dX3_sumOf_69 : decode cX3_sumOf 69 = .ok (.iinc 8 1, 3) := by decide +kernel
theorem dX3_sumOf_72 : decode cX3_sumOf 72 = .ok (.goto (-36), 3) := by decide +kernel
theorem dX3_sumOf_75 : decode cX3_sumOf 75 = .ok (.lload 6, 2) := by decide +kernel
theorem dX3_sumOf_77 : decode cX3_sumOf 77 = .ok (.lreturn, 1) := by decide +kernel
def rX3_sumOf : Room := { frames := 4, cells := 0, slots := 0, locals := 92 }
theorem yk_X3_sumOf : YK yX3_sumOf cX3_sumOf 9 (some .long) 3 := ⟨xim_X3_sumOf, xse_X3_sumOf, xin_X3, xco_X3_sumOf, by decide +kernel⟩
set_option maxRecDepth 4000 in
theorem c_X3_sumOf {l : Launch} {D : va_G} {t : Nat → ClassId} {a : Nat → Nat} {I : Nat → Int32} {F : Nat → Nat → Int32} {L : Nat → Int64} {K : Cfg} (hK : CFG K I F) (hW : WFK K) (hs : smlP K) (w p q : Nat) (hw : w ≤ 3) (hp : p < kn K) (hq : q < kn K) : CT l D t yX3_sumOf cX3_sumOf 9 (some .long) rX3_sumOf 0 0 [.ref (a 5), .int (nI w), .int (nI p), .int (nI q)] (WX a t I F L) (EP (fun v w' => v = .long (lN (suN K w p q)) ∧ ∃ F' : Nat → Nat → Int32, w' = WX a t I F' L ∧ ∀ z, z ≠ 11 → F' z = F z)) := by
  refine CT.of (by decide +kernel) (by simp [lg_sl, Value.category]) (fun X C hR => ?_)
  refine xlocals (lv' := [(0, .ref (a 5)), (1, .int (nI w)), (2, .int (nI p)), (3, .int (nI q))]) rfl ?_
  have fn24 := hW.n24; have fm60 := hW.m60; have fk2 := hW.k2; have fu1 := hW.u1; have fu9 := hW.u9; have fv1 := hW.v1; have fv9 := hW.v9
  refine xiconst (v := nI 0) C dX3_sumOf_0 (by decide) ?_
  refine xistore (lv' := [(4, .int (nI 0)), (0, .ref (a 5)), (1, .int (nI w)), (2, .int (nI p)), (3, .int (nI q))]) C dX3_sumOf_1 (by decide) rfl ?_
  have LP3 : ∀ (fu3 : Nat) (i : Nat) (FA : Nat → Nat → Int32) (hi : i ≤ 24) (h0A : ∀ x, x < i → FA 11 x = nI 0) (hXA : (∀ z, z ≠ 11 → FA z = F z)), 24 - i < fu3 → XW X 0 0 (WX a t I FA L) [(0, .ref (a 5)), (1, .int (nI w)), (2, .int (nI p)), (3, .int (nI q)), (4, .int (nI i))] 3 [] := by
    intro fu3
    induction fu3 with
    | zero => intro i FA hi h0A hXA hm3; exact absurd hm3 (Nat.not_lt_zero _)
    | succ fu3 ih3 =>
      intro i FA hi h0A hXA hm3
      refine xiload C 4 rfl dX3_sumOf_3 ?_
      refine xbipush (v := nI 24) C dX3_sumOf_5 (by decide) ?_
      refine xicmp_geN C 24 dX3_sumOf_7 (by decide) (by omega) (by omega) (fun h7 => ?_) (fun h7 => ?_)
      ·
        have hKA : CFG K I FA := hK.of (fun _ _ => rfl) (fun z hz => hXA z (by omega))
        have hA0 : RA (kn K) (FA 11) (dgN K 0) := fun x hx => by rw [h0A x (by omega), show dgN K 0 x = 0 from by unfold dgN; rw [Nat.zero_div, Nat.zero_mod]]; exact ⟨rfl, by omega⟩
        refine xaload_n C 0 rfl dX3_sumOf_24 ?_
        refine xcVR C (c_X3_states hKA hW) yk_X3_states 5 rfl rfl xml_X3_29 ⟨⟨Nat.le_of_ble_eq_true rfl, Nat.le_of_ble_eq_true rfl⟩, ⟨rfl, rfl⟩, ⟨Nat.zero_le _, Nat.zero_le _⟩⟩ rfl (Nat.le_of_ble_eq_true rfl) dX3_sumOf_25 ?_
        refine xlstore (lv' := [(4, .long (lN (stN K))), (0, .ref (a 5)), (1, .int (nI w)), (2, .int (nI p)), (3, .int (nI q))]) C dX3_sumOf_28 (by decide) rfl ?_
        refine xlconst (v := lN 0) C dX3_sumOf_30 (by decide) ?_
        refine xlstore (lv' := [(6, .long (lN 0)), (4, .long (lN (stN K))), (0, .ref (a 5)), (1, .int (nI w)), (2, .int (nI p)), (3, .int (nI q))]) C dX3_sumOf_31 (by decide) rfl ?_
        refine xiconst (v := nI 0) C dX3_sumOf_33 (by decide) ?_
        refine xistore (lv' := [(8, .int (nI 0)), (6, .long (lN 0)), (4, .long (lN (stN K))), (0, .ref (a 5)), (1, .int (nI w)), (2, .int (nI p)), (3, .int (nI q))]) C dX3_sumOf_34 (by decide) rfl ?_
        have LP36 : ∀ (fu36 : Nat) (x : Nat) (FB : Nat → Nat → Int32) (hx : x ≤ stN K) (hB : RA (kn K) (FB 11) (dgN K x)) (hXB : (∀ z, z ≠ 11 → FB z = F z)), stN K - x < fu36 → XW X 0 0 (WX a t I FB L) [(0, .ref (a 5)), (1, .int (nI w)), (2, .int (nI p)), (3, .int (nI q)), (4, .long (lN (stN K))), (6, .long (lN (sm (fun i => trN K w p q (dgN K i)) x))), (8, .int (nI x))] 36 [] := by
          intro fu36
          induction fu36 with
          | zero => intro x FB hx hB hXB hm36; exact absurd hm36 (Nat.not_lt_zero _)
          | succ fu36 ih36 =>
            intro x FB hx hB hXB hm36
            have hKB : CFG K I FB := hK.of (fun _ _ => rfl) (fun z hz => hXB z (by omega))
            have h5k := hs.2
            refine xiload C 6 rfl dX3_sumOf_36 ?_
            refine xi2lN C (by have := hs.2; omega) dX3_sumOf_38 ?_
            refine xlload C 4 rfl dX3_sumOf_39 ?_
            refine xlcmp_ge C 75 dX3_sumOf_41 dX3_sumOf_42 (by decide) (by omega) (by omega) (fun h41 => ?_) (fun h41 => ?_)
            ·
              refine xlload C 5 rfl dX3_sumOf_75 ?_
              exact xlret C hR dX3_sumOf_77 (⟨_, rfl, by (have e : x = stN K := (by omega)); subst e; rfl, FB, rfl, hXB⟩)
            ·
              refine xiload C 6 rfl dX3_sumOf_45 ?_
              refine xsipush (v := nI 5000) C dX3_sumOf_47 (by decide) ?_
              refine xicmp_geN C 75 dX3_sumOf_50 (by decide) (by omega) (by omega) (fun h50 => ?_) (fun h50 => ?_)
              · exact absurd h50 (by omega)
              ·
                refine xlload C 5 rfl dX3_sumOf_53 ?_
                refine xaload_n C 0 rfl dX3_sumOf_55 ?_
                refine xiload_n C 1 rfl dX3_sumOf_56 ?_
                refine xiload_n C 2 rfl dX3_sumOf_57 ?_
                refine xiload_n C 3 rfl dX3_sumOf_58 ?_
                refine xcVR C (c_X3_termOf hKB hW hB hs w p q (by omega) (by omega) (by omega)) yk_X3_termOf 5 rfl rfl xml_X3_44 ⟨⟨Nat.le_of_ble_eq_true rfl, Nat.le_of_ble_eq_true rfl⟩, ⟨rfl, rfl⟩, ⟨Nat.zero_le _, Nat.zero_le _⟩⟩ rfl (Nat.le_of_ble_eq_true rfl) dX3_sumOf_59 ?_
                refine xladdN C dX3_sumOf_62 ?_
                refine xtopl (y := lN (sm (fun i => trN K w p q (dgN K i)) (x + 1))) (rfl) ?_
                refine xlstore (lv' := [(6, .long (lN (sm (fun i => trN K w p q (dgN K i)) (x + 1)))), (0, .ref (a 5)), (1, .int (nI w)), (2, .int (nI p)), (3, .int (nI q)), (4, .long (lN (stN K))), (8, .int (nI x))]) C dX3_sumOf_63 (by decide) rfl ?_
                refine xaload_n C 1 rfl dX3_sumOf_65 ?_
                refine xcVV C (c_X3_stepOn hKB hW x hB) yk_X3_stepOn 5 rfl rfl xml_X3_48 ⟨⟨Nat.le_of_ble_eq_true rfl, Nat.le_of_ble_eq_true rfl⟩, ⟨rfl, rfl⟩, ⟨Nat.zero_le _, Nat.zero_le _⟩⟩ rfl (Nat.le_of_ble_eq_true rfl) dX3_sumOf_66 (fun wE hE => ?_)
                obtain ⟨FC, rfl, hXc, hC⟩ := hE
                have hXC : (∀ z, z ≠ 11 → FC z = F z) := fun z hz => (hXc z hz).trans (hXB z hz)
                refine xiincN (lv' := [(8, .int (nI (x + 1))), (6, .long (lN (sm (fun i => trN K w p q (dgN K i)) (x + 1)))), (0, .ref (a 5)), (1, .int (nI w)), (2, .int (nI p)), (3, .int (nI q)), (4, .long (lN (stN K)))]) C 6 rfl dX3_sumOf_69 (by decide) rfl ?_
                refine xgoto C 36 dX3_sumOf_72 (by decide) ?_
                refine xsub [2, 3, 4, 5, 6, 1, 0] rfl ?_
                exact ih36 (x + 1) FC (by omega) hC hXC (by omega)
        refine xsub [3, 4, 5, 6, 2, 1, 0] rfl ?_
        exact LP36 _ 0 FA (Nat.zero_le _) hA0 hXA (Nat.lt_succ_self _)
      ·
        refine xaload_n C 0 rfl dX3_sumOf_10 ?_
        refine gX3_9 C dX3_sumOf_11 ?_
        refine xiload C 4 rfl dX3_sumOf_14 ?_
        refine xiconst (v := nI 0) C dX3_sumOf_16 (by decide) ?_
        refine xs_st C 11 (by omega) (by omega) i (by omega) dX3_sumOf_17 ?_
        obtain ⟨FB, eFB⟩ : ∃ z : Nat → Nat → Int32, z = va_up FA 11 (upd (FA 11) i (nI 0)) := ⟨_, rfl⟩
        refine xworld (ws' := WX a t I FB L) (by rw [eFB]) ?_
        refine xiincN (lv' := [(4, .int (nI (i + 1))), (0, .ref (a 5)), (1, .int (nI w)), (2, .int (nI p)), (3, .int (nI q))]) C 4 rfl dX3_sumOf_18 (by decide) rfl ?_
        refine xgoto C 3 dX3_sumOf_21 (by decide) ?_
        refine xsub [1, 2, 3, 4, 0] rfl ?_
        exact ih3 (i + 1) FB (by omega) (fun x hx => by rw [eFB, va_up_self]; unfold upd; by_cases e : x = i; (rw [if_pos e]); (rw [if_neg e]; exact h0A x (by omega))) (fun z hz => by rw [eFB, va_up_ne _ _ hz]; exact hXA z hz) (by omega)
  refine xsub [1, 2, 3, 4, 0] rfl ?_
  exact LP3 _ 0 F (by omega) (fun x h => absurd h (Nat.not_lt_zero _)) (fun _ _ => rfl) (Nat.lt_succ_self _)
theorem dX3_commonDivisor_0 : decode cX3_commonDivisor 0 = .ok (.iconst 0, 1) := by decide +kernel
theorem dX3_commonDivisor_1 : decode cX3_commonDivisor 1 = .ok (.istore 4, 2) := by decide +kernel
theorem dX3_commonDivisor_3 : decode cX3_commonDivisor 3 = .ok (.iload 4, 2) := by decide +kernel
theorem dX3_commonDivisor_5 : decode cX3_commonDivisor 5 = .ok (.bipush 100, 2) := by decide +kernel
theorem dX3_commonDivisor_7 : decode cX3_commonDivisor 7 = .ok (.if_icmp .ge 25, 3) := by decide +kernel
theorem dX3_commonDivisor_10 : decode cX3_commonDivisor 10 = .ok (.lload_n 2, 1) := by decide +kernel
theorem dX3_commonDivisor_11 : decode cX3_commonDivisor 11 = .ok (.lconst 0, 1) := by decide +kernel
theorem dX3_commonDivisor_12 : decode cX3_commonDivisor 12 = .ok (.lcmp, 1) := by decide +kernel
theorem dX3_commonDivisor_13 : decode cX3_commonDivisor 13 = .ok (.ifCond .eq 19, 3) := by decide +kernel
theorem dX3_commonDivisor_16 : decode cX3_commonDivisor 16 = .ok (.lload_n 0, 1) := by decide +kernel
theorem dX3_commonDivisor_17 : decode cX3_commonDivisor 17 = .ok (.lload_n 2, 1) := by decide +kernel
theorem dX3_commonDivisor_18 : decode cX3_commonDivisor 18 = .ok (.lrem, 1) := by decide +kernel
theorem dX3_commonDivisor_19 : decode cX3_commonDivisor 19 = .ok (.lstore 5, 2) := by decide +kernel
theorem dX3_commonDivisor_21 : decode cX3_commonDivisor 21 = .ok (.lload_n 2, 1) := by decide +kernel
theorem dX3_commonDivisor_22 : decode cX3_commonDivisor 22 = .ok (.lstore_n 0, 1) := by decide +kernel
theorem dX3_commonDivisor_23 : decode cX3_commonDivisor 23 = .ok (.lload 5, 2) := by decide +kernel
theorem dX3_commonDivisor_25 : decode cX3_commonDivisor 25 = .ok (.lstore_n 2, 1) := by decide +kernel
theorem dX3_commonDivisor_26 : decode cX3_commonDivisor 26 = .ok (.iinc 4 1, 3) := by decide +kernel
theorem dX3_commonDivisor_29 : decode cX3_commonDivisor 29 = .ok (.goto (-26), 3) := by decide +kernel
theorem dX3_commonDivisor_32 : decode cX3_commonDivisor 32 = .ok (.lload_n 0, 1) := by decide +kernel
theorem dX3_commonDivisor_33 : decode cX3_commonDivisor 33 = .ok (.lreturn, 1) := by decide +kernel
def rX3_commonDivisor : Room := { frames := 0, cells := 0, slots := 0, locals := 0 }
theorem sk_X3_commonDivisor : SK yX3_commonDivisor cX3_commonDivisor 7 (some .long) 2 := ⟨xst_X3_commonDivisor, xin_X3, xco_X3_commonDivisor, by decide +kernel⟩
set_option maxRecDepth 4000 in
theorem c_X3_commonDivisor {l : Launch} {D : va_G} {t : Nat → ClassId} {a : Nat → Nat} {I : Nat → Int32} {F : Nat → Nat → Int32} {L : Nat → Int64} (u v : Nat) (hu : u < 2 ^ 62) (hv : v < 2 ^ 62) : CT l D t yX3_commonDivisor cX3_commonDivisor 7 (some .long) rX3_commonDivisor 0 0 [.long (lN u), .long (lN v)] (WX a t I F L) (RP (.long (lN (Nat.gcd u v))) (WX a t I F L)) := by
  refine CT.of (by decide +kernel) (by simp [lg_sl, Value.category]) (fun X C hR => ?_)
  refine xlocals (lv' := [(0, .long (lN u)), (2, .long (lN v))]) rfl ?_
  refine xiconst (v := nI 0) C dX3_commonDivisor_0 (by decide) ?_
  refine xistore (lv' := [(4, .int (nI 0)), (0, .long (lN u)), (2, .long (lN v))]) C dX3_commonDivisor_1 (by decide) rfl ?_
  have LP3 : ∀ (fu3 : Nat) (i : Nat) (x : Nat) (y : Nat) (hi : i ≤ 100) (hg : Nat.gcd x y = Nat.gcd u v) (hxb : x < 2 ^ 62) (hyb : y < 2 ^ 62) (hE : i = 0 ∨ (y < x ∧ (x < fb (102 - i) ∨ y < fb (101 - i)))), 100 - i < fu3 → XW X 0 0 (WX a t I F L) [(0, .long (lN x)), (2, .long (lN y)), (4, .int (nI i))] 3 [] := by
    intro fu3
    induction fu3 with
    | zero => intro i x y hi hg hxb hyb hE hm3; exact absurd hm3 (Nat.not_lt_zero _)
    | succ fu3 ih3 =>
      intro i x y hi hg hxb hyb hE hm3
      refine xiload C 2 rfl dX3_commonDivisor_3 ?_
      refine xbipush (v := nI 100) C dX3_commonDivisor_5 (by decide) ?_
      refine xicmp_geN C 32 dX3_commonDivisor_7 (by decide) (by omega) (by omega) (fun h7 => ?_) (fun h7 => ?_)
      ·
        refine xlload_n C 0 rfl dX3_commonDivisor_32 ?_
        exact xlret C hR dX3_commonDivisor_33 (RPl (eu_end hg (eu_zero (by omega) hE)))
      ·
        refine xlload_n C 1 rfl dX3_commonDivisor_10 ?_
        refine xlconst (v := lN 0) C dX3_commonDivisor_11 (by decide) ?_
        refine xlcmp_eq C 32 dX3_commonDivisor_12 dX3_commonDivisor_13 (by decide) (by omega) (by decide) (fun h12 => ?_) (fun h12 => ?_)
        ·
          refine xlload_n C 0 rfl dX3_commonDivisor_32 ?_
          exact xlret C hR dX3_commonDivisor_33 (RPl (eu_end hg h12))
        ·
          refine xlload_n C 0 rfl dX3_commonDivisor_16 ?_
          refine xlload_n C 1 rfl dX3_commonDivisor_17 ?_
          refine xlrem C dX3_commonDivisor_18 (fun e => h12 ((pk_lEQ (by omega) (by decide)).mp e)) ?_
          refine xtopl (y := lN (x % y)) (pk_lRem (by omega) (by omega) (by omega)) ?_
          refine xlstore (lv' := [(5, .long (lN (x % y))), (0, .long (lN x)), (2, .long (lN y)), (4, .int (nI i))]) C dX3_commonDivisor_19 (by decide) rfl ?_
          refine xlload_n C 2 rfl dX3_commonDivisor_21 ?_
          refine xlstore_n (lv' := [(0, .long (lN y)), (5, .long (lN (x % y))), (2, .long (lN y)), (4, .int (nI i))]) C dX3_commonDivisor_22 (by decide) rfl ?_
          refine xlload C 1 rfl dX3_commonDivisor_23 ?_
          refine xlstore_n (lv' := [(2, .long (lN (x % y))), (0, .long (lN y)), (5, .long (lN (x % y))), (4, .int (nI i))]) C dX3_commonDivisor_25 (by decide) rfl ?_
          refine xiincN (lv' := [(4, .int (nI (i + 1))), (2, .long (lN (x % y))), (0, .long (lN y)), (5, .long (lN (x % y)))]) C 3 rfl dX3_commonDivisor_26 (by decide) rfl ?_
          refine xgoto C 3 dX3_commonDivisor_29 (by decide) ?_
          refine xsub [2, 1, 0] rfl ?_
          exact ih3 (i + 1) y (x % y) (by omega) (by rw [← hg, Nat.gcd_comm x y, Nat.gcd_rec y x, Nat.gcd_comm]) hyb (Nat.lt_of_lt_of_le (Nat.mod_lt _ (by omega)) (by omega)) (Or.inr (eu_step (by omega) (by omega) hyb hE)) (by omega)
  refine xsub [1, 2, 0] rfl ?_
  exact LP3 _ 0 u v (by omega) rfl hu hv (Or.inl rfl) (Nat.lt_succ_self _)
theorem dX3_share_0 : decode cX3_share 0 = .ok (.aload_n 0, 1) := by decide +kernel
theorem dX3_share_1 : decode cX3_share 1 = .ok (.iconst 1, 1) := by decide +kernel
theorem dX3_share_2 : decode cX3_share 2 = .ok (.iconst 0, 1) := by decide +kernel
theorem dX3_share_3 : decode cX3_share 3 = .ok (.iconst 0, 1) := by decide +kernel
theorem dX3_share_4 : decode cX3_share 4 = .ok (.invokevirtual 55, 3) := by decide +kernel
theorem dX3_share_7 : decode cX3_share 7 = .ok (.lstore 4, 2) := by decide +kernel
theorem dX3_share_9 : decode cX3_share 9 = .ok (.lload_n 1, 1) := by decide +kernel
theorem dX3_share_10 : decode cX3_share 10 = .ok (.lload 4, 2) := by decide +kernel
theorem dX3_share_12 : decode cX3_share 12 = .ok (.invokestatic 58, 3) := by decide +kernel
theorem dX3_share_15 : decode cX3_share 15 = .ok (.lstore 6, 2) := by decide +kernel
theorem dX3_share_17 : decode cX3_share 17 = .ok (.lload 6, 2) := by decide +kernel
theorem dX3_share_19 : decode cX3_share 19 = .ok (.lconst 1, 1) := by decide +kernel
theorem dX3_share_20 : decode cX3_share 20 = .ok (.lcmp, 1) := by decide +kernel
theorem dX3_share_21 : decode cX3_share 21 = .ok (.ifCond .ge 6, 3) := by decide +kernel
theorem dX3_share_27 : decode cX3_share 27 = .ok (.iload_n 3, 1) := by decide +kernel
theorem dX3_share_28 : decode cX3_share 28 = .ok (.ifCond .ne 7, 3) := by decide +kernel
theorem dX3_share_31 : decode cX3_share 31 = .ok (.lload_n 1, 1) := by decide +kernel
theorem dX3_share_32 : decode cX3_share 32 = .ok (.goto 5, 3) := by decide +kernel
theorem dX3_share_35 : decode cX3_share 35 = .ok (.lload 4, 2) := by decide +kernel
theorem dX3_share_37 : decode cX3_share 37 = .ok (.lload 6, 2) := by decide +kernel
theorem dX3_share_39 : decode cX3_share 39 = .ok (.ldiv, 1) := by decide +kernel
theorem dX3_share_40 : decode cX3_share 40 = .ok (.lreturn, 1) := by decide +kernel
def rX3_share : Room := { frames := 5, cells := 0, slots := 0, locals := 120 }
theorem yk_X3_share : YK yX3_share cX3_share 8 (some .long) 2 := ⟨xim_X3_share, xse_X3_share, xin_X3, xco_X3_share, by decide +kernel⟩
set_option maxRecDepth 4000 in
theorem c_X3_share {l : Launch} {D : va_G} {t : Nat → ClassId} {a : Nat → Nat} {I : Nat → Int32} {F : Nat → Nat → Int32} {L : Nat → Int64} {K : Cfg} (hK : CFG K I F) (hW : WFK K) (hs : smlP K) (hn : 0 < kn K) (hpos : 0 < suN K 1 0 0) (A what : Nat) (hA : A < 2 ^ 62) (hw : what ≤ 1) : CT l D t yX3_share cX3_share 8 (some .long) rX3_share 0 0 [.ref (a 5), .long (lN A), .int (nI what)] (WX a t I F L) (EP (fun v w' => v = .long (lN ((if what = 0 then A else suN K 1 0 0) / Nat.gcd A (suN K 1 0 0))) ∧ ∃ F' : Nat → Nat → Int32, w' = WX a t I F' L ∧ ∀ z, z ≠ 11 → F' z = F z)) := by
  refine CT.of (by decide +kernel) (by simp [lg_sl, Value.category]) (fun X C hR => ?_)
  refine xlocals (lv' := [(0, .ref (a 5)), (1, .long (lN A)), (3, .int (nI what))]) rfl ?_
  have fn24 := hW.n24; have fm60 := hW.m60; have fk2 := hW.k2; have fu1 := hW.u1; have fu9 := hW.u9; have fv1 := hW.v1; have fv9 := hW.v9
  refine xaload_n C 0 rfl dX3_share_0 ?_
  refine xiconst (v := nI 1) C dX3_share_1 (by decide) ?_
  refine xiconst (v := nI 0) C dX3_share_2 (by decide) ?_
  refine xiconst (v := nI 0) C dX3_share_3 (by decide) ?_
  refine xcVE C (c_X3_sumOf hK hW hs 1 0 0 (by omega) (by omega) (by omega)) yk_X3_sumOf 5 rfl rfl xml_X3_55 ⟨⟨Nat.le_of_ble_eq_true rfl, Nat.le_of_ble_eq_true rfl⟩, ⟨rfl, rfl⟩, ⟨Nat.zero_le _, Nat.zero_le _⟩⟩ rfl (Nat.le_of_ble_eq_true rfl) dX3_share_4 (fun vE wE hE => ?_)
  obtain ⟨rfl, FA, rfl, hXA⟩ := hE
  refine xlstore (lv' := [(4, .long (lN (suN K 1 0 0))), (0, .ref (a 5)), (1, .long (lN A)), (3, .int (nI what))]) C dX3_share_7 (by decide) rfl ?_
  refine xlload_n C 2 rfl dX3_share_9 ?_
  refine xlload C 0 rfl dX3_share_10 ?_
  have hWb : suN K 1 0 0 < 2 ^ 62 := suN_lt hW hs 1 0 hn
  have hgp : 0 < Nat.gcd A (suN K 1 0 0) := Nat.gcd_pos_of_pos_right _ hpos
  have hgl : Nat.gcd A (suN K 1 0 0) ≤ suN K 1 0 0 := Nat.gcd_le_right _ hpos
  refine xcSR C (c_X3_commonDivisor A (suN K 1 0 0) (by omega) (by omega)) sk_X3_commonDivisor xml_X3_58 ⟨⟨Nat.le_of_ble_eq_true rfl, Nat.le_of_ble_eq_true rfl⟩, ⟨rfl, rfl⟩, ⟨Nat.zero_le _, Nat.zero_le _⟩⟩ rfl (Nat.le_of_ble_eq_true rfl) dX3_share_12 ?_
  refine xlstore (lv' := [(6, .long (lN (Nat.gcd A (suN K 1 0 0)))), (4, .long (lN (suN K 1 0 0))), (0, .ref (a 5)), (1, .long (lN A)), (3, .int (nI what))]) C dX3_share_15 (by decide) rfl ?_
  refine xlload C 0 rfl dX3_share_17 ?_
  refine xlconst (v := lN 1) C dX3_share_19 (by decide) ?_
  refine xlcmp_ge C 27 dX3_share_20 dX3_share_21 (by decide) (by omega) (by decide) (fun h20 => ?_) (fun h20 => ?_)
  ·
    refine xiload_n C 4 rfl dX3_share_27 ?_
    refine xif_neN C 35 dX3_share_28 (by decide) (by omega) (fun h28 => ?_) (fun h28 => ?_)
    ·
      refine xlload C 1 rfl dX3_share_35 ?_
      refine xlload C 0 rfl dX3_share_37 ?_
      refine xldiv C dX3_share_39 (fun e => absurd ((pk_lEQ (by omega) (by decide)).mp e) (show ¬ Nat.gcd A (suN K 1 0 0) = 0 by omega)) ?_
      refine xtopl (y := lN ((if what = 0 then A else suN K 1 0 0) / Nat.gcd A (suN K 1 0 0))) (by rw [if_neg h28]; exact pk_lDiv (by omega) hgp (by omega)) ?_
      exact xlret C hR dX3_share_40 (⟨_, rfl, rfl, FA, rfl, hXA⟩)
    ·
      refine xlload_n C 3 rfl dX3_share_31 ?_
      refine xgoto C 37 dX3_share_32 (by decide) ?_
      refine xlload C 0 rfl dX3_share_37 ?_
      refine xldiv C dX3_share_39 (fun e => absurd ((pk_lEQ (by omega) (by decide)).mp e) (show ¬ Nat.gcd A (suN K 1 0 0) = 0 by omega)) ?_
      refine xtopl (y := lN ((if what = 0 then A else suN K 1 0 0) / Nat.gcd A (suN K 1 0 0))) (by rw [if_pos h28]; exact pk_lDiv (by omega) hgp (by omega)) ?_
      exact xlret C hR dX3_share_40 (⟨_, rfl, rfl, FA, rfl, hXA⟩)
  · exact absurd h20 (by omega)
end
section
/-! WHAT EACH CALL ANSWERS, AND WHAT IT LEAVES: one value that both sides are held against. -/
/-- the system, the seed, the state at hand, whether something is drawn, what, the tick at which they met -/
abbrev Abs : Type := Cfg × Int32 × (Nat → Nat) × Bool × (Nat → Nat) × Int32
noncomputable def ci {α : Type} (P : Prop) (x y : α) : α := @ite α P (Classical.propDecidable P) x y
theorem ci_t {α : Type} {P : Prop} {x y : α} (h : P) : ci P x y = x := @if_pos P (Classical.propDecidable P) h α x y
theorem ci_f {α : Type} {P : Prop} {x y : α} (h : ¬ P) : ci P x y = y := @if_neg P (Classical.propDecidable P) h α x y
def dkN (d : Bool) : Nat := if d = true then 1 else 0
theorem dk0 {d : Bool} (h : dkN d = 0) : d = false := by cases d <;> simp_all [dkN]
theorem dk1 {d : Bool} (h : ¬ dkN d = 0) : d = true := by cases d <;> simp_all [dkN]
theorem dkN_le (d : Bool) : dkN d ≤ 1 := by cases d <;> decide
def RX : Abs → (Nat → Int32) → (Nat → Nat → Int32) → Prop
  | (K, sd, hd, dk, dw, mt), I, F => CFG K I F ∧ I 10 = sd ∧ RA (kn K) (F 12) hd ∧ I 9 = nI (dkN dk) ∧ (dk = true → RA (kn K) (F 10) dw ∧ I 8 = mt) ∧ I 5 = nI (bn (GoodP K)) ∧ RA (kn K) (F 6) (hS K) ∧ RA (kn K) (F 7) (lS K)
def RM : Abs → (Nat → Int32) → (Nat → Nat → Int32) → Prop
  | (K, sd, hd, dk, dw, mt), I, F => CFG K I F ∧ I 10 = sd ∧ RA (kn K) (F 12) hd ∧ I 9 = nI (dkN dk) ∧ (dk = true → RA (kn K) (F 10) dw ∧ I 8 = mt)
/-- what holds of the state between two calls -/
def INV : Abs → Prop
  | (K, _, hd, dk, dw, _) => WFK K ∧ (∀ p, p < kn K → hd p ≤ ktop K p) ∧ (GoodP K → alP K hd) ∧ (dk = true → GoodP K ∧ alP K dw ∧ ∀ p, p < kn K → dw p ≤ ktop K p)
/-- an answer of the class, of the reference -/
def XO (a : Nat → Nat) (t : Nat → ClassId) (r : Value × Abs) : Option Value → va_W → Prop := EP (fun v w => ∃ (I' : Nat → Int32) (F' : Nat → Nat → Int32) (L' : Nat → Int64), w = WX a t I' F' L' ∧ v = r.1 ∧ RX r.2 I' F')
def MO (b : Nat → Nat) (t : Nat → ClassId) (r : Value × Abs) : Option Value → va_W → Prop := EP (fun v w => ∃ (I' : Nat → Int32) (F' : Nat → Nat → Int32), w = WM b t I' F' ∧ v = r.1 ∧ RM r.2 I' F')
theorem XO.mk {a : Nat → Nat} {t : Nat → ClassId} {r : Value × Abs} {v : Value} {σ : Abs} {I : Nat → Int32} {F : Nat → Nat → Int32} {L : Nat → Int64} (e : r = (v, σ)) (h : RX σ I F) : XO a t r (some v) (WX a t I F L) := ⟨v, rfl, I, F, L, rfl, by rw [e], by rw [e]; exact h⟩
theorem MO.mk {b : Nat → Nat} {t : Nat → ClassId} {r : Value × Abs} {v : Value} {σ : Abs} {I : Nat → Int32} {F : Nat → Nat → Int32} (e : r = (v, σ)) (h : RM σ I F) : MO b t r (some v) (WM b t I F) := ⟨v, rfl, I, F, rfl, by rw [e], by rw [e]; exact h⟩
theorem RX.of {K : Cfg} {sd : Int32} {hd : Nat → Nat} {dk : Bool} {dw : Nat → Nat} {mt : Int32} {I I' : Nat → Int32} {F F' : Nat → Nat → Int32} (h : RX (K, sd, hd, dk, dw, mt) I F) (hI : ∀ q, q ≠ 6 → q ≠ 7 → I' q = I q) (hF : ∀ q, q ≠ 8 → q ≠ 9 → q ≠ 11 → F' q = F q) : RX (K, sd, hd, dk, dw, mt) I' F' := by
  obtain ⟨h1, h2, h3, h4, h5, h6, h7, h8⟩ := h
  refine ⟨h1.of (fun q hq => hI q (by omega) (by omega)) (fun q hq => hF q (by omega) (by omega) (by omega)), by rw [hI 10 (by decide) (by decide)]; exact h2, by rw [hF 12 (by decide) (by decide) (by decide)]; exact h3, by rw [hI 9 (by decide) (by decide)]; exact h4, fun q => ?_, by rw [hI 5 (by decide) (by decide)]; exact h6, by rw [hF 6 (by decide) (by decide) (by decide)]; exact h7, by rw [hF 7 (by decide) (by decide) (by decide)]; exact h8⟩
  rw [hF 10 (by decide) (by decide) (by decide), hI 8 (by decide) (by decide)]
  exact h5 q
theorem RM.of {K : Cfg} {sd : Int32} {hd : Nat → Nat} {dk : Bool} {dw : Nat → Nat} {mt : Int32} {I I' : Nat → Int32} {F F' : Nat → Nat → Int32} (h : RM (K, sd, hd, dk, dw, mt) I F) (hI : ∀ q, q ≠ 7 → I' q = I q) (hF : ∀ q, q ≠ 8 → q ≠ 9 → q ≠ 11 → F' q = F q) : RM (K, sd, hd, dk, dw, mt) I' F' := by
  obtain ⟨h1, h2, h3, h4, h5⟩ := h
  refine ⟨h1.of (fun q hq => hI q (by omega)) (fun q hq => hF q (by omega) (by omega) (by omega)), by rw [hI 10 (by decide)]; exact h2, by rw [hF 12 (by decide) (by decide) (by decide)]; exact h3, by rw [hI 9 (by decide)]; exact h4, fun q => ?_⟩
  rw [hF 10 (by decide) (by decide) (by decide), hI 8 (by decide)]
  exact h5 q
/-- a system that has changed -/
noncomputable def freshA (K : Cfg) (sd : Int32) : Abs := (K, sd, fun p => ci (GoodP K) (lS K p) 0, false, fun _ => 0, 0)
def setK (K : Cfg) (x y z : Nat) : Cfg := (kn K, km K, x, y, z, ktop K, ksi K, khd K, kdg K, kla K, klb K, knb K)
def setH (K : Cfg) (p x : Nat) : Cfg := (kn K, km K, kk K, ku K, kv K, ktop K, ksi K, va_up (khd K) p x, kdg K, kla K, klb K, knb K)
abbrev cl (x : Int32) : Nat := x.toNatClampNeg
noncomputable def opPlace : Abs → Int32 → Int32 → Value × Abs
  | (K, sd, hd, dk, dw, mt), x, y => ci (x < 1 ∨ 5 < x ∨ y < 0 ∨ 1 < y) (.int (-2), (K, sd, hd, dk, dw, mt)) (ci (24 ≤ kn K) (.int (-4), (K, sd, hd, dk, dw, mt)) (.int (nI (kn K)), freshA (addP K (cl x) (cl y)) sd))
noncomputable def opLink : Abs → Int32 → Int32 → Value × Abs
  | (K, sd, hd, dk, dw, mt), x, y => ci (¬ hasP K x ∨ ¬ hasP K y) (.int (-1), (K, sd, hd, dk, dw, mt)) (ci (60 ≤ km K ∨ 6 ≤ kdg K (cl x) ∨ 6 ≤ kdg K (cl y)) (.int (-4), (K, sd, hd, dk, dw, mt)) (ci (x = y ∨ lkdP K (cl x) (cl y)) (.int (-5), (K, sd, hd, dk, dw, mt)) (.int (nI (km K + 1)), freshA (addL K (cl x) (cl y)) sd)))
noncomputable def opKind : Abs → Int32 → Int32 → Int32 → Value × Abs
  | (K, sd, hd, dk, dw, mt), x, y, z => ci (x < 0 ∨ 2 < x ∨ y < 1 ∨ 9 < y ∨ z < 1 ∨ 9 < z) (.int (-2), (K, sd, hd, dk, dw, mt)) (.int 1, freshA (setK K (cl x) (cl y) (cl z)) sd)
noncomputable def opHold : Abs → Int32 → Int32 → Value × Abs
  | (K, sd, hd, dk, dw, mt), x, y => ci (¬ hasP K x) (.int (-1), (K, sd, hd, dk, dw, mt)) (ci (y < -1 ∨ nI (ktop K (cl x)) < y) (.int (-2), (K, sd, hd, dk, dw, mt)) (.int (nI (khd K (cl x)) - 1), freshA (setH K (cl x) (cl (y + 1))) sd))
noncomputable def opGood : Abs → Value × Abs
  | (K, sd, hd, dk, dw, mt) => (.int (nI (bn (GoodP K))), (K, sd, hd, dk, dw, mt))
noncomputable def opHigh : Abs → Int32 → Value × Abs
  | (K, sd, hd, dk, dw, mt), x => ci (¬ hasP K x) (.int (-1), (K, sd, hd, dk, dw, mt)) (ci (¬ GoodP K) (.int (-5), (K, sd, hd, dk, dw, mt)) (.int (nI (hS K (cl x))), (K, sd, hd, dk, dw, mt)))
noncomputable def opLow : Abs → Int32 → Value × Abs
  | (K, sd, hd, dk, dw, mt), x => ci (¬ hasP K x) (.int (-1), (K, sd, hd, dk, dw, mt)) (ci (¬ GoodP K) (.int (-5), (K, sd, hd, dk, dw, mt)) (.int (nI (lS K (cl x))), (K, sd, hd, dk, dw, mt)))
noncomputable def opAt : Abs → Int32 → Value × Abs
  | (K, sd, hd, dk, dw, mt), x => ci (¬ hasP K x) (.int (-1), (K, sd, hd, dk, dw, mt)) (.int (nI (hd (cl x))), (K, sd, hd, dk, dw, mt))
noncomputable def opPut : Abs → Int32 → Int32 → Value × Abs
  | (K, sd, hd, dk, dw, mt), x, y => ci (¬ hasP K x) (.int (-1), (K, sd, hd, dk, dw, mt)) (ci (y < 0 ∨ nI (ktop K (cl x)) < y) (.int (-2), (K, sd, hd, dk, dw, mt)) (ci (¬ alP K (va_up hd (cl x) (cl y))) (.int (-5), (K, sd, hd, dk, dw, mt)) (.int (nI (hd (cl x))), (K, sd, va_up hd (cl x) (cl y), dk, dw, mt))))
noncomputable def opTake : Abs → Int32 → Value × Abs
  | (K, sd, hd, dk, dw, mt), x => ci (x < 0 ∨ 2 < x) (.int (-2), (K, sd, hd, dk, dw, mt)) (ci (x = 2 ∧ dk = false) (.int (-3), (K, sd, hd, dk, dw, mt)) (ci (¬ GoodP K) (.int (-5), (K, sd, hd, dk, dw, mt)) (.int 1, (K, sd, ci (x = 0) (hS K) (ci (x = 1) (lS K) dw), dk, dw, mt))))
def opSeed : Abs → Int32 → Value × Abs
  | (K, sd, hd, dk, dw, mt), x => (.int sd, (K, x, hd, dk, dw, mt))
noncomputable def opTick : Abs → Int32 → Int32 → Value × Abs
  | (K, sd, hd, dk, dw, mt), x, y => ci (y < 0 ∨ 1 < y) (.int (-2), (K, sd, hd, dk, dw, mt)) (ci (kn K = 0) (.int (-3), (K, sd, hd, dk, dw, mt)) (.int (nI (ci (y = 0) (plN K (mixI sd x)) (lotN (mixI sd x)))), (K, sd, hd, dk, dw, mt)))
/-- how many ticks of so many change the state -/
noncomputable def rcN (K : Cfg) (sd : Int32) (f : Nat → Nat) (t : Int32) : Nat → Nat
  | 0 => 0
  | k + 1 => rcN K sd f t k + bn (chgP K sd (itN K sd f t k) (t + nI k))
noncomputable def opRun : Abs → Int32 → Int32 → Value × Abs
  | (K, sd, hd, dk, dw, mt), x, y => ci (y.toInt < x.toInt ∨ 20000 < y.toInt - x.toInt) (.int (-2), (K, sd, hd, dk, dw, mt)) (ci (¬ GoodP K) (.int (-5), (K, sd, hd, dk, dw, mt)) (.int (nI (rcN K sd hd x (y.toInt - x.toInt).toNat)), (K, sd, itN K sd hd x (y.toInt - x.toInt).toNat, dk, dw, mt)))
noncomputable def opGap : Abs → Int32 → Value × Abs
  | (K, sd, hd, dk, dw, mt), x => ci (x < 0 ∨ 4096 < x) (.int (-2), (K, sd, hd, dk, dw, mt)) (ci (¬ GoodP K) (.int (-5), (K, sd, hd, dk, dw, mt)) (.int (nI (cn (fun p => itN K sd (hS K) (-nI (cl x)) (cl x) p ≠ itN K sd (lS K) (-nI (cl x)) (cl x) p) (kn K))), (K, sd, hd, dk, dw, mt)))
noncomputable def opDraw : Abs → Value × Abs
  | (K, sd, hd, dk, dw, mt) => ci (¬ GoodP K) (.int (-5), (K, sd, hd, dk, dw, mt)) (match farN K sd with
    | none => (.int (-5), (K, sd, hd, dk, dw, mt))
    | some e => (.int (nI (2 ^ e)), (K, sd, hd, true, itN K sd (lS K) (-nI (2 ^ e)) (2 ^ e), mtN K sd (2 ^ e) (2 ^ e))))
noncomputable def opDrawn : Abs → Int32 → Value × Abs
  | (K, sd, hd, dk, dw, mt), x => ci (¬ hasP K x) (.int (-1), (K, sd, hd, dk, dw, mt)) (ci (dk = false) (.int (-3), (K, sd, hd, dk, dw, mt)) (.int (nI (dw (cl x))), (K, sd, hd, dk, dw, mt)))
noncomputable def opMet : Abs → Value × Abs
  | (K, sd, hd, dk, dw, mt) => (.int (ci (dk = false) 1 mt), (K, sd, hd, dk, dw, mt))
noncomputable def tlN (K : Cfg) (s : Int32) (p : Nat) : Nat → Option Nat
  | 0 => some 0
  | i + 1 => match tlN K s p i with
    | none => none
    | some c => match farN K (s + nI i) with
      | none => none
      | some e => some (c + itN K (s + nI i) (lS K) (-nI (2 ^ e)) (2 ^ e) p)
noncomputable def opTally : Abs → Int32 → Int32 → Int32 → Value × Abs
  | (K, sd, hd, dk, dw, mt), x, y, z => ci (¬ hasP K x) (.int (-1), (K, sd, hd, dk, dw, mt)) (ci (z < 1 ∨ 8 < z) (.int (-2), (K, sd, hd, dk, dw, mt)) (ci (¬ GoodP K) (.int (-5), (K, sd, hd, dk, dw, mt)) (match tlN K y (cl x) (cl z) with
    | none => (.int (-5), (K, sd, hd, dk, dw, mt))
    | some c => (.int (nI c), (K, sd, hd, dk, dw, mt)))))
/-- a fraction's part in lowest terms -/
noncomputable def shN (K : Cfg) (A : Nat) (y : Int32) : Nat := ci (y = 0) A (suN K 1 0 0) / Nat.gcd A (suN K 1 0 0)
noncomputable def opMany : Abs → Value × Abs
  | (K, sd, hd, dk, dw, mt) => ci (¬ GoodP K) (.int (-5), (K, sd, hd, dk, dw, mt)) (ci (¬ smlP K) (.int (-4), (K, sd, hd, dk, dw, mt)) (.int (nI (suN K 0 0 0)), (K, sd, hd, dk, dw, mt)))
noncomputable def opAll : Abs → Value × Abs
  | (K, sd, hd, dk, dw, mt) => ci (¬ GoodP K) (.long (-5), (K, sd, hd, dk, dw, mt)) (ci (¬ smlP K) (.long (-4), (K, sd, hd, dk, dw, mt)) (.long (lN (suN K 1 0 0)), (K, sd, hd, dk, dw, mt)))
noncomputable def opChance : Abs → Int32 → Value × Abs
  | (K, sd, hd, dk, dw, mt), y => ci (y < 0 ∨ 1 < y) (.long (-2), (K, sd, hd, dk, dw, mt)) (ci (¬ GoodP K) (.long (-5), (K, sd, hd, dk, dw, mt)) (ci (¬ smlP K) (.long (-4), (K, sd, hd, dk, dw, mt)) (.long (lN (shN K (woN K hd) y)), (K, sd, hd, dk, dw, mt))))
noncomputable def opMean : Abs → Int32 → Int32 → Value × Abs
  | (K, sd, hd, dk, dw, mt), x, y => ci (¬ hasP K x) (.long (-1), (K, sd, hd, dk, dw, mt)) (ci (y < 0 ∨ 1 < y) (.long (-2), (K, sd, hd, dk, dw, mt)) (ci (¬ GoodP K) (.long (-5), (K, sd, hd, dk, dw, mt)) (ci (¬ smlP K) (.long (-4), (K, sd, hd, dk, dw, mt)) (.long (lN (shN K (suN K 2 (cl x) (cl x)) y)), (K, sd, hd, dk, dw, mt)))))
noncomputable def opAlike : Abs → Int32 → Int32 → Int32 → Value × Abs
  | (K, sd, hd, dk, dw, mt), x, z, y => ci (¬ hasP K x ∨ ¬ hasP K z) (.long (-1), (K, sd, hd, dk, dw, mt)) (ci (y < 0 ∨ 1 < y) (.long (-2), (K, sd, hd, dk, dw, mt)) (ci (¬ GoodP K) (.long (-5), (K, sd, hd, dk, dw, mt)) (ci (¬ smlP K) (.long (-4), (K, sd, hd, dk, dw, mt)) (.long (lN (shN K (suN K 3 (cl x) (cl z)) y)), (K, sd, hd, dk, dw, mt)))))
noncomputable def opTold : Abs → Int32 → Value × Abs
  | (K, sd, hd, dk, dw, mt), x => (.int (ci (x = 0) (nI (kn K)) (ci (x = 1) (nI (km K)) (ci (x = 2) (nI (kk K)) (ci (x = 3) (nI (ku K)) (ci (x = 4) (nI (kv K)) (ci (x = 5) sd (ci (x = 6) (nI (dkN dk)) (ci (x = 7) (nI (cn (likP K hd) (km K))) (-2147483648))))))))), (K, sd, hd, dk, dw, mt))
noncomputable def opAbout : Abs → Int32 → Int32 → Value × Abs
  | (K, sd, hd, dk, dw, mt), x, y => ci (¬ hasP K x) (.int (-1), (K, sd, hd, dk, dw, mt)) (.int (ci (y = 0) (nI (ktop K (cl x))) (ci (y = 1) (nI (ksi K (cl x))) (ci (y = 2) (nI (khd K (cl x)) - 1) (ci (y = 3) (nI (kdg K (cl x))) (ci (y < 10 ∨ 15 < y) (-2) (ci (cl y - 10 < kdg K (cl x)) (nI (knb K (cl x) (cl y - 10))) (-6))))))), (K, sd, hd, dk, dw, mt))
end
section
/-! The class's calls, 1: the system (written by my program parts_x5.py). -/
theorem startAnew_end {K : Cfg} {sd : Int32} {IC : Nat → Int32} {FA FB : Nat → Nat → Int32} (hW : WFK K) (hKC : CFG K IC FB) (hsd : IC 10 = sd) (h9 : IC 9 = nI 0) (hg : IC 5 = nI (bn (GoodP K))) (hH : RA (kn K) (FB 6) (hS K)) (hL : RA (kn K) (FB 7) (lS K)) (hX : ∀ q, q ≠ 12 → FA q = FB q) (hA : ∀ x, x < kn K → FA 12 x = if bn (GoodP K) = 0 then nI 0 else FB 7 x) : RX (freshA K sd) IC FA := by
  refine ⟨hKC.of (fun _ _ => rfl) (fun q hq => hX q (by omega)), hsd, fun p hp => ?_, h9, (fun h => by cases h), hg, by rw [hX 6 (by decide)]; exact hH, by rw [hX 7 (by decide)]; exact hL⟩
  dsimp only
  rw [hA p hp]
  rcases Classical.em (GoodP K) with h | h
  · rw [ci_t h, bn_t h, if_neg (by decide)]; exact hL p hp
  · rw [ci_f h, bn_f h, if_pos rfl]; exact ⟨rfl, by omega⟩
theorem boxN {x : Int32} {a b : Nat} (ha : a < 1000000) (hb : b < 1000000) (h1 : ¬ x < nI a) (h2 : ¬ nI b < x) : ∃ q, a ≤ q ∧ q ≤ b ∧ x = nI q := by
  have h3 := Int32.le_iff_toInt_le.mp (Int32.not_lt.mp h1)
  have h4 := Int32.le_iff_toInt_le.mp (Int32.not_lt.mp h2)
  rw [nI_toInt (by omega)] at h3 h4
  refine ⟨x.toInt.toNat, by omega, by omega, ?_⟩
  apply Int32.toInt_inj.mp
  rw [nI_toInt (by omega)]
  omega
theorem box15 {x : Int32} (h1 : ¬ x < 1) (h2 : ¬ 5 < x) : ∃ q, 1 ≤ q ∧ q ≤ 5 ∧ x = nI q := boxN (a := 1) (b := 5) (by decide) (by decide) h1 h2
theorem box19 {x : Int32} (h1 : ¬ x < 1) (h2 : ¬ 9 < x) : ∃ q, 1 ≤ q ∧ q ≤ 9 ∧ x = nI q := boxN (a := 1) (b := 9) (by decide) (by decide) h1 h2
theorem box01 {x : Int32} (h1 : ¬ x < 0) (h2 : ¬ 1 < x) : ∃ q, q ≤ 1 ∧ x = nI q := by
  obtain ⟨q, _, h3, h4⟩ := boxN (a := 0) (b := 1) (by decide) (by decide) h1 h2
  exact ⟨q, h3, h4⟩
theorem box02 {x : Int32} (h1 : ¬ x < 0) (h2 : ¬ 2 < x) : ∃ q, q ≤ 2 ∧ x = nI q := by
  obtain ⟨q, _, h3, h4⟩ := boxN (a := 0) (b := 2) (by decide) (by decide) h1 h2
  exact ⟨q, h3, h4⟩
theorem box18 {x : Int32} (h1 : ¬ x < 1) (h2 : ¬ 8 < x) : ∃ q, 1 ≤ q ∧ q ≤ 8 ∧ x = nI q := boxN (a := 1) (b := 8) (by decide) (by decide) h1 h2
theorem WFK.addP {K : Cfg} (hW : WFK K) {x y : Nat} (h1 : 1 ≤ x) (h5 : x ≤ 5) (hy : y ≤ 1) (hn : kn K < 24) : WFK (addP K x y) := by
  refine ⟨hn, hW.m60, hW.k2, ⟨hW.u1, hW.u9⟩, ⟨hW.v1, hW.v9⟩, fun p hp => ?_, hW.dg6, fun p hp => hW.dg0 (Nat.le_of_succ_le hp), fun p i hp hi => ?_, fun k hk => ?_⟩
  · have hp1 : p < kn K + 1 := hp
    show 1 ≤ va_up (ktop K) (kn K) x p ∧ va_up (ktop K) (kn K) x p ≤ 5 ∧ va_up (ksi K) (kn K) y p ≤ 1 ∧ va_up (khd K) (kn K) 0 p ≤ va_up (ktop K) (kn K) x p + 1
    by_cases e : p = kn K
    · subst e; rw [va_up_self, va_up_self, va_up_self]; omega
    · rw [va_up_ne _ _ e, va_up_ne _ _ e, va_up_ne _ _ e]; exact hW.pl (by omega)
  · have hp1 : p < kn K + 1 := hp
    have hi1 : i < kdg K p := hi
    by_cases e : p = kn K
    · rw [e, hW.dg0 (Nat.le_refl _)] at hi1; omega
    · exact Nat.lt_succ_of_lt (hW.nb (by omega) hi1)
  · obtain ⟨h1, h2, h3, h4, h5⟩ := hW.lk hk
    exact ⟨Nat.lt_succ_of_lt h1, Nat.lt_succ_of_lt h2, h3, h4, h5⟩
theorem hasP_nat {K : Cfg} {p : Nat} (hW : WFK K) (hp : p < kn K) : hasP K (nI p) := ⟨nI_pos (by have := hW.n24; omega), (nI_ltI (by have := hW.n24; omega) (by have := hW.n24; omega)).mpr hp⟩
theorem nI_one : nI 1 = 1 := by decide +kernel
theorem insN_above {q : Nat} : ∀ {d : Nat} {f : Nat → Nat} {i : Nat}, d < i → insN f q d i = f i
  | 0, f, i, h => va_up_ne f q (by omega)
  | d + 1, f, i, h => by
    show (if q < f d then insN (va_up f (d + 1) (f d)) q d else va_up f (d + 1) q) i = f i
    split
    · rw [insN_above (by omega), va_up_ne _ _ (by omega)]
    · rw [va_up_ne _ _ (by omega)]
theorem insN_mem {q : Nat} : ∀ {d : Nat} {f : Nat → Nat} {i : Nat}, i ≤ d → insN f q d i = q ∨ ∃ j, j < d ∧ insN f q d i = f j
  | 0, f, i, h => by
    obtain rfl : i = 0 := by omega
    exact Or.inl (va_up_self _ _ _)
  | d + 1, f, i, h => by
    show (if q < f d then insN (va_up f (d + 1) (f d)) q d else va_up f (d + 1) q) i = q ∨ ∃ j, j < d + 1 ∧ (if q < f d then insN (va_up f (d + 1) (f d)) q d else va_up f (d + 1) q) i = f j
    split
    · by_cases e : i = d + 1
      · subst e
        rw [insN_above (by omega), va_up_self]
        exact Or.inr ⟨d, by omega, rfl⟩
      · rcases insN_mem (q := q) (f := va_up f (d + 1) (f d)) (show i ≤ d by omega) with h1 | ⟨j, h1, h2⟩
        · exact Or.inl h1
        · exact Or.inr ⟨j, by omega, by rw [h2, va_up_ne _ _ (by omega)]⟩
    · by_cases e : i = d + 1
      · subst e; exact Or.inl (va_up_self _ _ _)
      · exact Or.inr ⟨i, by omega, va_up_ne _ _ e⟩
theorem insN_q {q : Nat} : ∀ {d : Nat} {f : Nat → Nat}, ∃ i, i ≤ d ∧ insN f q d i = q
  | 0, f => ⟨0, Nat.le_refl _, va_up_self _ _ _⟩
  | d + 1, f => by
    show ∃ i, i ≤ d + 1 ∧ (if q < f d then insN (va_up f (d + 1) (f d)) q d else va_up f (d + 1) q) i = q
    split
    · obtain ⟨i, h1, h2⟩ := insN_q (q := q) (d := d) (f := va_up f (d + 1) (f d))
      exact ⟨i, by omega, h2⟩
    · exact ⟨d + 1, Nat.le_refl _, va_up_self _ _ _⟩
theorem insN_has {q : Nat} : ∀ {d : Nat} {f : Nat → Nat} {j : Nat}, j < d → ∃ i, i ≤ d ∧ insN f q d i = f j
  | 0, f, j, h => by omega
  | d + 1, f, j, h => by
    show ∃ i, i ≤ d + 1 ∧ (if q < f d then insN (va_up f (d + 1) (f d)) q d else va_up f (d + 1) q) i = f j
    split
    · by_cases e : j = d
      · subst e; exact ⟨j + 1, Nat.le_refl _, by rw [insN_above (by omega), va_up_self]⟩
      · obtain ⟨i, h1, h2⟩ := insN_has (q := q) (d := d) (f := va_up f (d + 1) (f d)) (show j < d by omega)
        exact ⟨i, by omega, by rw [h2, va_up_ne _ _ (by omega)]⟩
    · exact ⟨j, by omega, va_up_ne _ _ (by omega)⟩
theorem WFK.addL {K : Cfg} (hW : WFK K) {p q : Nat} (hm : km K < 60) (hp : p < kn K) (hq : q < kn K) (hne : p ≠ q) (hdp : kdg K p < 6) (hdq : kdg K q < 6) : WFK (addL K p q) := by
  have key : ∀ x y : Nat, (∃ i, i < kdg K x ∧ knb K x i = y) → ∃ i, i < va_up (va_up (kdg K) p (kdg K p + 1)) q (kdg K q + 1) x ∧ va_up (va_up (knb K) p (insN (knb K p) q (kdg K p))) q (insN (knb K q) p (kdg K q)) x i = y := by
    intro x y ⟨i, h1, h2⟩
    by_cases e1 : x = q
    · subst e1
      rw [va_up_self, va_up_self]
      obtain ⟨i', h3, h4⟩ := insN_has (q := p) (f := knb K x) h1
      exact ⟨i', by omega, h4.trans h2⟩
    · rw [va_up_ne _ _ e1, va_up_ne _ _ e1]
      by_cases e2 : x = p
      · subst e2
        rw [va_up_self, va_up_self]
        obtain ⟨i', h3, h4⟩ := insN_has (q := q) (f := knb K x) h1
        exact ⟨i', by omega, h4.trans h2⟩
      · rw [va_up_ne _ _ e2, va_up_ne _ _ e2]
        exact ⟨i, h1, h2⟩
  refine ⟨hW.n24, hm, hW.k2, ⟨hW.u1, hW.u9⟩, ⟨hW.v1, hW.v9⟩, fun x hx => hW.pl hx, fun x => ?_, fun x hx => ?_, fun x i hx hi => ?_, fun k hk => ?_⟩
  · show va_up (va_up (kdg K) p (kdg K p + 1)) q (kdg K q + 1) x ≤ 6
    by_cases e1 : x = q
    · subst e1; rw [va_up_self]; omega
    · rw [va_up_ne _ _ e1]
      by_cases e2 : x = p
      · subst e2; rw [va_up_self]; omega
      · rw [va_up_ne _ _ e2]; exact hW.dg6 x
  · have hx' : kn K ≤ x := hx
    show va_up (va_up (kdg K) p (kdg K p + 1)) q (kdg K q + 1) x = 0
    rw [va_up_ne _ _ (by omega), va_up_ne _ _ (by omega)]
    exact hW.dg0 hx'
  · have hx' : x < kn K := hx
    have hi' : i < va_up (va_up (kdg K) p (kdg K p + 1)) q (kdg K q + 1) x := hi
    show va_up (va_up (knb K) p (insN (knb K p) q (kdg K p))) q (insN (knb K q) p (kdg K q)) x i < kn K
    by_cases e1 : x = q
    · subst e1
      rw [va_up_self] at hi' ⊢
      rcases insN_mem (q := p) (f := knb K x) (show i ≤ kdg K x by omega) with h | ⟨j, h1, h2⟩
      · rw [h]; exact hp
      · rw [h2]; exact hW.nb hx' h1
    · rw [va_up_ne _ _ e1] at hi' ⊢
      by_cases e2 : x = p
      · subst e2
        rw [va_up_self] at hi' ⊢
        rcases insN_mem (q := q) (f := knb K x) (show i ≤ kdg K x by omega) with h | ⟨j, h1, h2⟩
        · rw [h]; exact hq
        · rw [h2]; exact hW.nb hx' h1
      · rw [va_up_ne _ _ e2] at hi' ⊢
        exact hW.nb hx' hi'
  · have hk' : k < km K + 1 := hk
    show va_up (kla K) (km K) p k < kn K ∧ va_up (klb K) (km K) q k < kn K ∧ va_up (kla K) (km K) p k ≠ va_up (klb K) (km K) q k ∧ (∃ i, i < va_up (va_up (kdg K) p (kdg K p + 1)) q (kdg K q + 1) (va_up (kla K) (km K) p k) ∧ va_up (va_up (knb K) p (insN (knb K p) q (kdg K p))) q (insN (knb K q) p (kdg K q)) (va_up (kla K) (km K) p k) i = va_up (klb K) (km K) q k) ∧ (∃ i, i < va_up (va_up (kdg K) p (kdg K p + 1)) q (kdg K q + 1) (va_up (klb K) (km K) q k) ∧ va_up (va_up (knb K) p (insN (knb K p) q (kdg K p))) q (insN (knb K q) p (kdg K q)) (va_up (klb K) (km K) q k) i = va_up (kla K) (km K) p k)
    by_cases e : k = km K
    · subst e
      rw [va_up_self, va_up_self]
      refine ⟨hp, hq, hne, ?_, ?_⟩
      · rw [va_up_ne _ _ hne, va_up_self, va_up_ne _ _ hne, va_up_self]
        obtain ⟨i, h1, h2⟩ := insN_q (q := q) (d := kdg K p) (f := knb K p)
        exact ⟨i, by omega, h2⟩
      · rw [va_up_self, va_up_self]
        obtain ⟨i, h1, h2⟩ := insN_q (q := p) (d := kdg K q) (f := knb K q)
        exact ⟨i, by omega, h2⟩
    · rw [va_up_ne _ _ e, va_up_ne _ _ e]
      obtain ⟨h1, h2, h3, h4, h5⟩ := hW.lk (show k < km K by omega)
      exact ⟨h1, h2, h3, key _ _ h4, key _ _ h5⟩
theorem CFG.setK {K : Cfg} {I : Nat → Int32} {F : Nat → Nat → Int32} (h : CFG K I F) (x y z : Nat) : CFG (setK K x y z) (va_up (va_up (va_up I 2 (nI x)) 3 (nI y)) 4 (nI z)) F := by
  obtain ⟨h1, h2, h3, h4, h5, h6⟩ := h
  exact ⟨h1, h2, rfl, rfl, rfl, h6⟩
theorem WFK.setK {K : Cfg} (hW : WFK K) {x y z : Nat} (hx : x ≤ 2) (hy1 : 1 ≤ y) (hy9 : y ≤ 9) (hz1 : 1 ≤ z) (hz9 : z ≤ 9) : WFK (setK K x y z) := by
  obtain ⟨h1, h2, h3, h4, h5, h6⟩ := hW
  exact ⟨h1, h2, hx, ⟨hy1, hy9⟩, ⟨hz1, hz9⟩, h6⟩
theorem CFG.setH {K : Cfg} {I : Nat → Int32} {F F' : Nat → Nat → Int32} (h : CFG K I F) {p q : Nat} (hp : p < kn K) (e2 : F' 2 = upd (F 2) p (nI q - 1)) (e : ∀ z, z ≠ 2 → F' z = F z) : CFG (setH K p q) I F' := by
  obtain ⟨h1, h2, h3, h4, h5, h6, h7, h8, h9⟩ := h
  refine ⟨h1, h2, h3, h4, h5, fun x hx => ?_, fun x hx => by rw [e 3 (by decide)]; exact h7 x hx, fun x i hx hi => by rw [e (13 + x) (by omega)]; exact h8 x i hx hi, fun k hk => by rw [e 4 (by decide), e 5 (by decide)]; exact h9 k hk⟩
  rw [e 0 (by decide), e 1 (by decide), e2]
  refine ⟨(h6 x hx).1, (h6 x hx).2.1, ?_⟩
  show upd (F 2) p (nI q - 1) x = nI (va_up (khd K) p q x) - 1
  unfold upd va_up
  by_cases e3 : x = p
  · rw [if_pos e3, if_pos e3]
  · rw [if_neg e3, if_neg e3]; exact (h6 x hx).2.2
theorem WFK.setH {K : Cfg} (hW : WFK K) {p q : Nat} (hp : p < kn K) (hq : q ≤ ktop K p + 1) : WFK (setH K p q) := by
  obtain ⟨h1, h2, h3, h4, h5, h6, h7⟩ := hW
  refine ⟨h1, h2, h3, h4, h5, fun x hx => ?_, h7⟩
  show 1 ≤ ktop K x ∧ ktop K x ≤ 5 ∧ ksi K x ≤ 1 ∧ va_up (khd K) p q x ≤ ktop K x + 1
  obtain ⟨g1, g2, g3, g4⟩ := h6 x hx
  by_cases e3 : x = p
  · subst e3; rw [va_up_self]; exact ⟨g1, g2, g3, hq⟩
  · rw [va_up_ne _ _ e3]; exact ⟨g1, g2, g3, g4⟩
theorem boxH {y : Int32} {T : Nat} (hT : T ≤ 5) (h1 : ¬ y < -1) (h2 : ¬ nI T < y) : ∃ q, q ≤ T + 1 ∧ y = nI q - 1 ∧ y + 1 = nI q := by
  have h3 := Int32.le_iff_toInt_le.mp (Int32.not_lt.mp h1)
  have h4 := Int32.le_iff_toInt_le.mp (Int32.not_lt.mp h2)
  rw [nI_toInt (by omega)] at h4
  have h5 : (-1 : Int32).toInt = -1 := by decide +kernel
  have e : y = nI (y.toInt + 1).toNat - nI 1 := by
    apply Int32.toInt_inj.mp
    rw [pk_sub_toInt (by omega) (by omega)]
    omega
  have e2 : y = nI (y.toInt + 1).toNat - 1 := e
  refine ⟨(y.toInt + 1).toNat, by omega, e2, ?_⟩
  calc y + 1 = (nI (y.toInt + 1).toNat - 1) + 1 := by rw [← e2]
    _ = nI (y.toInt + 1).toNat := by simp
theorem RX.hnd {K : Cfg} {sd : Int32} {hd hd' : Nat → Nat} {dk : Bool} {dw : Nat → Nat} {mt : Int32} {I : Nat → Int32} {F F' : Nat → Nat → Int32} (h : RX (K, sd, hd, dk, dw, mt) I F) (hF : ∀ q, q ≠ 12 → F' q = F q) (hH : RA (kn K) (F' 12) hd') : RX (K, sd, hd', dk, dw, mt) I F' := by
  obtain ⟨h1, h2, h3, h4, h5, h6, h7, h8⟩ := h
  exact ⟨h1.of (fun _ _ => rfl) (fun q hq => hF q (by omega)), h2, hH, h4, by rw [hF 10 (by decide)]; exact h5, h6, by rw [hF 6 (by decide)]; exact h7, by rw [hF 7 (by decide)]; exact h8⟩
theorem RX.seed {K : Cfg} {sd x : Int32} {hd : Nat → Nat} {dk : Bool} {dw : Nat → Nat} {mt : Int32} {I IA : Nat → Int32} {F : Nat → Nat → Int32} (h : RX (K, sd, hd, dk, dw, mt) I F) (e : IA = va_up I 10 x) : RX (K, x, hd, dk, dw, mt) IA F := by
  obtain ⟨h1, h2, h3, h4, h5, h6, h7, h8⟩ := h
  subst e
  exact ⟨h1.upI (by omega) _, va_up_self _ _ _, h3, h4, h5, h6, h7, h8⟩
theorem RA.back {n p : Nat} {g : Nat → Int32} {f : Nat → Nat} {x : Int32} (h : RA n g f) (hp : p < n) : RA n (upd (upd g p x) p (nI (f p))) f := by
  intro q hq
  unfold upd
  by_cases e : q = p
  · subst e; rw [if_pos rfl]; exact ⟨rfl, (h q hq).2⟩
  · rw [if_neg e, if_neg e]; exact h q hq
theorem take2 {x : Int32} (h1 : ¬ x < 0) (h6 : x ≤ 2) (h44 : ¬ x = 0) (h59 : ¬ x = 1) : x = 2 := by
  obtain ⟨q, hq, rfl⟩ := box02 h1 (Int32.not_lt.mpr h6)
  rcases (show q = 0 ∨ q = 1 ∨ q = 2 by omega) with rfl | rfl | rfl
  · exact absurd rfl h44
  · exact absurd rfl h59
  · rfl
theorem dX5_startAnew_0 : decode cX5_startAnew 0 = .ok (.aload_n 0, 1) := by decide +kernel
theorem dX5_startAnew_1 : decode cX5_startAnew 1 = .ok (.getfield 21, 3) := by decide +kernel
theorem dX5_startAnew_4 : decode cX5_startAnew 4 = .ok (.invokevirtual 200, 3) := by decide +kernel
theorem dX5_startAnew_7 : decode cX5_startAnew 7 = .ok (.aload_n 0, 1) := by decide +kernel
theorem dX5_startAnew_8 : decode cX5_startAnew 8 = .ok (.getfield 39, 3) := by decide +kernel
theorem dX5_startAnew_11 : decode cX5_startAnew 11 = .ok (.iconst 0, 1) := by decide +kernel
theorem dX5_startAnew_12 : decode cX5_startAnew 12 = .ok (.putfield 115, 3) := by decide +kernel
theorem dX5_startAnew_15 : decode cX5_startAnew 15 = .ok (.iconst 0, 1) := by decide +kernel
theorem dX5_startAnew_16 : decode cX5_startAnew 16 = .ok (.istore_n 1, 1) := by decide +kernel
theorem dX5_startAnew_17 : decode cX5_startAnew 17 = .ok (.iload_n 1, 1) := by decide +kernel
theorem dX5_startAnew_18 : decode cX5_startAnew 18 = .ok (.bipush 24, 2) := by decide +kernel
theorem dX5_startAnew_20 : decode cX5_startAnew 20 = .ok (.if_icmp .ge 38, 3) := by decide +kernel
theorem dX5_startAnew_23 : decode cX5_startAnew 23 = .ok (.aload_n 0, 1) := by decide +kernel
theorem dX5_startAnew_24 : decode cX5_startAnew 24 = .ok (.getfield 50, 3) := by decide +kernel
theorem dX5_startAnew_27 : decode cX5_startAnew 27 = .ok (.iload_n 1, 1) := by decide +kernel
theorem dX5_startAnew_28 : decode cX5_startAnew 28 = .ok (.aload_n 0, 1) := by decide +kernel
theorem dX5_startAnew_29 : decode cX5_startAnew 29 = .ok (.getfield 21, 3) := by decide +kernel
theorem dX5_startAnew_32 : decode cX5_startAnew 32 = .ok (.getfield 101, 3) := by decide +kernel
theorem dX5_startAnew_35 : decode cX5_startAnew 35 = .ok (.ifCond .eq 15, 3) := by decide +kernel
theorem dX5_startAnew_38 : decode cX5_startAnew 38 = .ok (.aload_n 0, 1) := by decide +kernel
theorem dX5_startAnew_39 : decode cX5_startAnew 39 = .ok (.getfield 21, 3) := by decide +kernel
theorem dX5_startAnew_42 : decode cX5_startAnew 42 = .ok (.getfield 108, 3) := by decide +kernel
theorem dX5_startAnew_45 : decode cX5_startAnew 45 = .ok (.iload_n 1, 1) := by decide +kernel
theorem dX5_startAnew_46 : decode cX5_startAnew 46 = .ok (.iaload, 1) := by decide +kernel
theorem dX5_startAnew_47 : decode cX5_startAnew 47 = .ok (.goto 4, 3) := by decide +kernel
theorem dX5_startAnew_50 : decode cX5_startAnew 50 = .ok (.iconst 0, 1) := by decide +kernel
theorem dX5_startAnew_51 : decode cX5_startAnew 51 = .ok (.iastore, 1) := by decide +kernel
theorem dX5_startAnew_52 : decode cX5_startAnew 52 = .ok (.iinc 1 1, 3) := by decide +kernel
theorem dX5_startAnew_55 : decode cX5_startAnew 55 = .ok (.goto (-38), 3) := by decide +kernel
theorem dX5_startAnew_58 : decode cX5_startAnew 58 = .ok (.return_, 1) := by decide +kernel
def rX5_startAnew : Room := { frames := 3, cells := 0, slots := 0, locals := 66 }
theorem yk_X5_startAnew : YK yX5_startAnew cX5_startAnew 2 none 0 := ⟨xim_X5_startAnew, xse_X5_startAnew, xin_X5, xco_X5_startAnew, by decide +kernel⟩
set_option maxRecDepth 4000 in
theorem c_X5_startAnew {l : Launch} {D : va_G} {t : Nat → ClassId} {a : Nat → Nat} {I : Nat → Int32} {F : Nat → Nat → Int32} {L : Nat → Int64} {K : Cfg} (hK : CFG K I F) (hW : WFK K) (sd : Int32) (hsd : I 10 = sd) : CT l D t yX5_startAnew cX5_startAnew 2 none rX5_startAnew 0 0 [.ref (a 0)] (WX a t I F L) (VP (fun w => ∃ (I' : Nat → Int32) (F' : Nat → Nat → Int32), w = WX a t I' F' L ∧ RX (freshA K sd) I' F')) := by
  refine CT.of (by decide +kernel) (by simp [lg_sl, Value.category]) (fun X C hR => ?_)
  refine xlocals (lv' := [(0, .ref (a 0))]) rfl ?_
  have fn24 := hW.n24; have fm60 := hW.m60; have fk2 := hW.k2; have fu1 := hW.u1; have fu9 := hW.u9; have fv1 := hW.v1; have fv9 := hW.v9
  refine xaload_n C 0 rfl dX5_startAnew_0 ?_
  refine gX5_21 C dX5_startAnew_1 ?_
  refine xcVV C (c_X2_settle hK hW) yk_X2_settle 2 rfl rfl xml_X5_200 ⟨⟨Nat.le_of_ble_eq_true rfl, Nat.le_of_ble_eq_true rfl⟩, ⟨rfl, rfl⟩, ⟨Nat.zero_le _, Nat.zero_le _⟩⟩ rfl (Nat.le_of_ble_eq_true rfl) dX5_startAnew_4 (fun wE hE => ?_)
  obtain ⟨IB, FB, rfl, hIB, hgB, hXB, hHB, hLB⟩ := hE
  have hKB : CFG K IB FB := hK.of (fun q hq => hIB q (by omega)) (fun q hq => hXB q (by omega) (by omega))
  refine xaload_n C 0 rfl dX5_startAnew_7 ?_
  refine gX5_39 C dX5_startAnew_8 ?_
  refine xiconst (v := nI 0) C dX5_startAnew_11 (by decide) ?_
  refine pX5_115 C (by decide +kernel) (by decide +kernel) dX5_startAnew_12 ?_
  obtain ⟨IC, eIC⟩ : ∃ z : Nat → Int32, z = va_up IB 9 (nI 0) := ⟨_, rfl⟩
  refine xworld (ws' := WX a t IC FB L) (by rw [eIC]) ?_
  have hKC : CFG K IC FB := by rw [eIC]; exact hKB.upI (by omega) _
  have hgC : IC 5 = nI (bn (GoodP K)) := by rw [eIC, va_up_ne _ _ (by decide)]; exact hgB
  refine xiconst (v := nI 0) C dX5_startAnew_15 (by decide) ?_
  refine xistore_n (lv' := [(1, .int (nI 0)), (0, .ref (a 0))]) C dX5_startAnew_16 (by decide) rfl ?_
  have LP17 : ∀ (fu17 : Nat) (i : Nat) (FA : Nat → Nat → Int32) (hi : i ≤ 24) (hXA : (∀ q, q ≠ 12 → FA q = FB q)) (hA : ∀ x, x < i → FA 12 x = if bn (GoodP K) = 0 then nI 0 else FB 7 x), 24 - i < fu17 → XW X 0 0 (WX a t IC FA L) [(0, .ref (a 0)), (1, .int (nI i))] 17 [] := by
    intro fu17
    induction fu17 with
    | zero => intro i FA hi hXA hA hm17; exact absurd hm17 (Nat.not_lt_zero _)
    | succ fu17 ih17 =>
      intro i FA hi hXA hA hm17
      refine xiload_n C 1 rfl dX5_startAnew_17 ?_
      refine xbipush (v := nI 24) C dX5_startAnew_18 (by decide) ?_
      refine xicmp_geN C 58 dX5_startAnew_20 (by decide) (by omega) (by omega) (fun h20 => ?_) (fun h20 => ?_)
      ·
        exact xvret C hR dX5_startAnew_58 (⟨rfl, IC, FA, rfl, startAnew_end hW hKC (by rw [eIC, va_up_ne _ _ (by decide), hIB 10 (by decide)]; exact hsd) (by rw [eIC, va_up_self]) hgC hHB hLB hXA (fun x hx => hA x (by have := hW.n24; omega))⟩)
      ·
        refine xaload_n C 0 rfl dX5_startAnew_23 ?_
        refine gX5_50 C dX5_startAnew_24 ?_
        refine xiload_n C 1 rfl dX5_startAnew_27 ?_
        refine xaload_n C 0 rfl dX5_startAnew_28 ?_
        refine gX5_21 C dX5_startAnew_29 ?_
        refine gX5_101 C dX5_startAnew_32 ?_
        refine xtopi (y := nI (bn (GoodP K))) (hgC) ?_
        refine xif_eqN C 50 dX5_startAnew_35 (by decide) (bn_lt _) (fun h35 => ?_) (fun h35 => ?_)
        ·
          refine xiconst (v := nI 0) C dX5_startAnew_50 (by decide) ?_
          refine xtopi (y := (if bn (GoodP K) = 0 then nI 0 else FB 7 i)) (by rw [if_pos h35]) ?_
          refine xs_st C 12 (by omega) (by omega) i (by omega) dX5_startAnew_51 ?_
          obtain ⟨FC, eFC⟩ : ∃ z : Nat → Nat → Int32, z = va_up FA 12 (upd (FA 12) i (if bn (GoodP K) = 0 then nI 0 else FB 7 i)) := ⟨_, rfl⟩
          refine xworld (ws' := WX a t IC FC L) (by rw [eFC]) ?_
          refine xiincN (lv' := [(1, .int (nI (i + 1))), (0, .ref (a 0))]) C 1 rfl dX5_startAnew_52 (by decide) rfl ?_
          refine xgoto C 17 dX5_startAnew_55 (by decide) ?_
          refine xsub [1, 0] rfl ?_
          exact ih17 (i + 1) FC (by omega) (fun q hq => by rw [eFC, va_up_ne _ _ hq]; exact hXA q hq) (fun x hx => by rw [eFC, va_up_self]; unfold upd; by_cases e : x = i; (rw [e, if_pos rfl]); (rw [if_neg e]; exact hA x (by omega))) (by omega)
        ·
          refine xaload_n C 0 rfl dX5_startAnew_38 ?_
          refine gX5_21 C dX5_startAnew_39 ?_
          refine gX5_108 C dX5_startAnew_42 ?_
          refine xiload_n C 1 rfl dX5_startAnew_45 ?_
          refine xa_raw C 7 (by omega) i (show _ < 24 by omega) dX5_startAnew_46 ?_
          refine xgoto C 51 dX5_startAnew_47 (by decide) ?_
          refine xtopi (y := (if bn (GoodP K) = 0 then nI 0 else FB 7 i)) (by rw [if_neg h35, hXA 7 (by decide)]) ?_
          refine xs_st C 12 (by omega) (by omega) i (by omega) dX5_startAnew_51 ?_
          obtain ⟨FC, eFC⟩ : ∃ z : Nat → Nat → Int32, z = va_up FA 12 (upd (FA 12) i (if bn (GoodP K) = 0 then nI 0 else FB 7 i)) := ⟨_, rfl⟩
          refine xworld (ws' := WX a t IC FC L) (by rw [eFC]) ?_
          refine xiincN (lv' := [(1, .int (nI (i + 1))), (0, .ref (a 0))]) C 1 rfl dX5_startAnew_52 (by decide) rfl ?_
          refine xgoto C 17 dX5_startAnew_55 (by decide) ?_
          refine xsub [1, 0] rfl ?_
          exact ih17 (i + 1) FC (by omega) (fun q hq => by rw [eFC, va_up_ne _ _ hq]; exact hXA q hq) (fun x hx => by rw [eFC, va_up_self]; unfold upd; by_cases e : x = i; (rw [e, if_pos rfl]); (rw [if_neg e]; exact hA x (by omega))) (by omega)
  refine xsub [1, 0] rfl ?_
  exact LP17 _ 0 FB (by omega) (fun _ _ => rfl) (fun x h => absurd h (Nat.not_lt_zero _)) (Nat.lt_succ_self _)
theorem dX5_place_0 : decode cX5_place 0 = .ok (.iload_n 1, 1) := by decide +kernel
theorem dX5_place_1 : decode cX5_place 1 = .ok (.iconst 1, 1) := by decide +kernel
theorem dX5_place_2 : decode cX5_place 2 = .ok (.if_icmp .lt 17, 3) := by decide +kernel
theorem dX5_place_5 : decode cX5_place 5 = .ok (.iload_n 1, 1) := by decide +kernel
theorem dX5_place_6 : decode cX5_place 6 = .ok (.iconst 5, 1) := by decide +kernel
theorem dX5_place_7 : decode cX5_place 7 = .ok (.if_icmp .gt 12, 3) := by decide +kernel
theorem dX5_place_10 : decode cX5_place 10 = .ok (.iload_n 2, 1) := by decide +kernel
theorem dX5_place_11 : decode cX5_place 11 = .ok (.ifCond .lt 8, 3) := by decide +kernel
theorem dX5_place_14 : decode cX5_place 14 = .ok (.iload_n 2, 1) := by decide +kernel
theorem dX5_place_15 : decode cX5_place 15 = .ok (.iconst 1, 1) := by decide +kernel
theorem dX5_place_16 : decode cX5_place 16 = .ok (.if_icmp .le 6, 3) := by decide +kernel
theorem dX5_place_19 : decode cX5_place 19 = .ok (.bipush (-2), 2) := by decide +kernel
theorem dX5_place_21 : decode cX5_place 21 = .ok (.ireturn, 1) := by decide +kernel
theorem dX5_place_22 : decode cX5_place 22 = .ok (.aload_n 0, 1) := by decide +kernel
theorem dX5_place_23 : decode cX5_place 23 = .ok (.getfield 10, 3) := by decide +kernel
theorem dX5_place_26 : decode cX5_place 26 = .ok (.getfield 58, 3) := by decide +kernel
theorem dX5_place_29 : decode cX5_place 29 = .ok (.bipush 24, 2) := by decide +kernel
theorem dX5_place_31 : decode cX5_place 31 = .ok (.if_icmp .lt 6, 3) := by decide +kernel
theorem dX5_place_34 : decode cX5_place 34 = .ok (.bipush (-4), 2) := by decide +kernel
theorem dX5_place_36 : decode cX5_place 36 = .ok (.ireturn, 1) := by decide +kernel
theorem dX5_place_37 : decode cX5_place 37 = .ok (.aload_n 0, 1) := by decide +kernel
theorem dX5_place_38 : decode cX5_place 38 = .ok (.getfield 10, 3) := by decide +kernel
theorem dX5_place_41 : decode cX5_place 41 = .ok (.iload_n 1, 1) := by decide +kernel
theorem dX5_place_42 : decode cX5_place 42 = .ok (.iload_n 2, 1) := by decide +kernel
theorem dX5_place_43 : decode cX5_place 43 = .ok (.invokevirtual 61, 3) := by decide +kernel
theorem dX5_place_46 : decode cX5_place 46 = .ok (.istore_n 3, 1) := by decide +kernel
theorem dX5_place_47 : decode cX5_place 47 = .ok (.aload_n 0, 1) := by decide +kernel
theorem dX5_place_48 : decode cX5_place 48 = .ok (.invokevirtual 65, 3) := by decide +kernel
theorem dX5_place_51 : decode cX5_place 51 = .ok (.iload_n 3, 1) := by decide +kernel
theorem dX5_place_52 : decode cX5_place 52 = .ok (.ireturn, 1) := by decide +kernel
def rX5_place : Room := { frames := 4, cells := 0, slots := 0, locals := 87 }
theorem yk_X5_place : YK yX5_place cX5_place 4 (some .int) 2 := ⟨xim_X5_place, xse_X5_place, xin_X5, xco_X5_place, by decide +kernel⟩
set_option maxRecDepth 4000 in
theorem c_X5_place {l : Launch} {D : va_G} {t : Nat → ClassId} {a : Nat → Nat} {I : Nat → Int32} {F : Nat → Nat → Int32} {L : Nat → Int64} {K : Cfg} {sd : Int32} {hd : Nat → Nat} {dk : Bool} {dw : Nat → Nat} {mt : Int32} (hI : INV (K, sd, hd, dk, dw, mt)) (hX : RX (K, sd, hd, dk, dw, mt) I F) (x y : Int32) : CT l D t yX5_place cX5_place 4 (some .int) rX5_place 0 0 [.ref (a 0), .int x, .int y] (WX a t I F L) (XO a t (opPlace (K, sd, hd, dk, dw, mt) x y)) := by
  refine CT.of (by decide +kernel) (by simp [lg_sl, Value.category]) (fun X C hR => ?_)
  refine xlocals (lv' := [(0, .ref (a 0)), (1, .int x), (2, .int y)]) rfl ?_
  obtain ⟨hK, hsd, hHd, hdk, hdr, hgd, hHS, hLS⟩ := id hX
  have hW : WFK K := hI.1
  have hrg := hI.2.1
  have fn24 := hW.n24; have fm60 := hW.m60; have fk2 := hW.k2; have fu1 := hW.u1; have fu9 := hW.u9; have fv1 := hW.v1; have fv9 := hW.v9
  refine xiload_n C 1 rfl dX5_place_0 ?_
  refine xiconst (v := 1) C dX5_place_1 (by decide) ?_
  refine xicmp_lt C 19 dX5_place_2 (by decide) (fun h2 => ?_) (fun h2 => ?_)
  ·
    refine xbipush (v := -2) C dX5_place_19 (by decide) ?_
    exact xret C hR (rfl) dX5_place_21 (XO.mk (by simp only [opPlace]; rw [ci_t (Or.inl h2)]) hX)
  ·
    refine xiload_n C 1 rfl dX5_place_5 ?_
    refine xiconst (v := 5) C dX5_place_6 (by decide) ?_
    refine xicmp_gt C 19 dX5_place_7 (by decide) (fun h7 => ?_) (fun h7 => ?_)
    ·
      refine xbipush (v := -2) C dX5_place_19 (by decide) ?_
      exact xret C hR (rfl) dX5_place_21 (XO.mk (by simp only [opPlace]; rw [ci_t (Or.inr (Or.inl h7))]) hX)
    ·
      refine xiload_n C 2 rfl dX5_place_10 ?_
      refine xif_lt C 19 dX5_place_11 (by decide) (fun h11 => ?_) (fun h11 => ?_)
      ·
        refine xbipush (v := -2) C dX5_place_19 (by decide) ?_
        exact xret C hR (rfl) dX5_place_21 (XO.mk (by simp only [opPlace]; rw [ci_t (Or.inr (Or.inr (Or.inl h11)))]) hX)
      ·
        refine xiload_n C 2 rfl dX5_place_14 ?_
        refine xiconst (v := 1) C dX5_place_15 (by decide) ?_
        refine xicmp_le C 22 dX5_place_16 (by decide) (fun h16 => ?_) (fun h16 => ?_)
        ·
          obtain ⟨p, hp1, hp5, rfl⟩ := box15 h2 h7
          obtain ⟨q, hq1, rfl⟩ := box01 h11 (Int32.not_lt.mpr h16)
          refine xaload_n C 0 rfl dX5_place_22 ?_
          refine gX5_10 C dX5_place_23 ?_
          refine gX5_58K C hK dX5_place_26 ?_
          refine xbipush (v := nI 24) C dX5_place_29 (by decide) ?_
          refine xicmp_ltN C 37 dX5_place_31 (by decide) (by omega) (by omega) (fun h31 => ?_) (fun h31 => ?_)
          ·
            refine xaload_n C 0 rfl dX5_place_37 ?_
            refine gX5_10 C dX5_place_38 ?_
            refine xiload_n C 1 rfl dX5_place_41 ?_
            refine xiload_n C 2 rfl dX5_place_42 ?_
            refine xcVE C (c_X1_addPlace hK hW (by omega) p q (by omega) (by omega)) yk_X1_addPlace 1 rfl rfl xml_X5_61 ⟨⟨Nat.le_of_ble_eq_true rfl, Nat.le_of_ble_eq_true rfl⟩, ⟨rfl, rfl⟩, ⟨Nat.zero_le _, Nat.zero_le _⟩⟩ rfl (Nat.le_of_ble_eq_true rfl) dX5_place_43 (fun vE wE hE => ?_)
            obtain ⟨rfl, IA, FA, rfl, hKA, hFA, hIA⟩ := hE
            refine xistore_n (lv' := [(3, .int (nI (kn K))), (0, .ref (a 0)), (1, .int (nI p)), (2, .int (nI q))]) C dX5_place_46 (by decide) rfl ?_
            refine xaload_n C 1 rfl dX5_place_47 ?_
            refine xcVV C (c_X5_startAnew hKA (hW.addP hp1 hp5 hq1 (by omega)) sd (by rw [hIA 10 (by decide)]; exact hsd)) yk_X5_startAnew 0 rfl rfl xml_X5_65 ⟨⟨Nat.le_of_ble_eq_true rfl, Nat.le_of_ble_eq_true rfl⟩, ⟨rfl, rfl⟩, ⟨Nat.zero_le _, Nat.zero_le _⟩⟩ rfl (Nat.le_of_ble_eq_true rfl) dX5_place_48 (fun wE hE => ?_)
            obtain ⟨IS, FS, rfl, hRS⟩ := hE
            refine xiload_n C 0 rfl dX5_place_51 ?_
            exact xret C hR (rfl) dX5_place_52 (XO.mk (by simp only [opPlace]; rw [ci_f (fun q => q.elim h2 (fun q => q.elim h7 (fun q => q.elim h11 (fun q => absurd q (Int32.not_lt.mpr h16))))), ci_f (by omega), show cl (nI p) = p from nI_clamp (by omega), show cl (nI q) = q from nI_clamp (by omega)]) hRS)
          ·
            refine xbipush (v := -4) C dX5_place_34 (by decide) ?_
            exact xret C hR (rfl) dX5_place_36 (XO.mk (by simp only [opPlace]; rw [ci_f (fun q => q.elim h2 (fun q => q.elim h7 (fun q => q.elim h11 (fun q => absurd q (Int32.not_lt.mpr h16))))), ci_t h31]) hX)
        ·
          refine xbipush (v := -2) C dX5_place_19 (by decide) ?_
          exact xret C hR (rfl) dX5_place_21 (XO.mk (by simp only [opPlace]; rw [ci_t (Or.inr (Or.inr (Or.inr (Int32.not_le.mp h16))))]) hX)
theorem dX5_link_0 : decode cX5_link 0 = .ok (.aload_n 0, 1) := by decide +kernel
theorem dX5_link_1 : decode cX5_link 1 = .ok (.getfield 10, 3) := by decide +kernel
theorem dX5_link_4 : decode cX5_link 4 = .ok (.iload_n 1, 1) := by decide +kernel
theorem dX5_link_5 : decode cX5_link 5 = .ok (.invokevirtual 68, 3) := by decide +kernel
theorem dX5_link_8 : decode cX5_link 8 = .ok (.ifCond .eq 14, 3) := by decide +kernel
theorem dX5_link_11 : decode cX5_link 11 = .ok (.aload_n 0, 1) := by decide +kernel
theorem dX5_link_12 : decode cX5_link 12 = .ok (.getfield 10, 3) := by decide +kernel
theorem dX5_link_15 : decode cX5_link 15 = .ok (.iload_n 2, 1) := by decide +kernel
theorem dX5_link_16 : decode cX5_link 16 = .ok (.invokevirtual 68, 3) := by decide +kernel
theorem dX5_link_19 : decode cX5_link 19 = .ok (.ifCond .ne 5, 3) := by decide +kernel
theorem dX5_link_22 : decode cX5_link 22 = .ok (.iconst (-1), 1) := by decide +kernel
theorem dX5_link_23 : decode cX5_link 23 = .ok (.ireturn, 1) := by decide +kernel
theorem dX5_link_24 : decode cX5_link 24 = .ok (.aload_n 0, 1) := by decide +kernel
theorem dX5_link_25 : decode cX5_link 25 = .ok (.getfield 10, 3) := by decide +kernel
theorem dX5_link_28 : decode cX5_link 28 = .ok (.getfield 72, 3) := by decide +kernel
theorem dX5_link_31 : decode cX5_link 31 = .ok (.bipush 60, 2) := by decide +kernel
theorem dX5_link_33 : decode cX5_link 33 = .ok (.if_icmp .ge 25, 3) := by decide +kernel
theorem dX5_link_36 : decode cX5_link 36 = .ok (.aload_n 0, 1) := by decide +kernel
theorem dX5_link_37 : decode cX5_link 37 = .ok (.getfield 10, 3) := by decide +kernel
theorem dX5_link_40 : decode cX5_link 40 = .ok (.iload_n 1, 1) := by decide +kernel
theorem dX5_link_41 : decode cX5_link 41 = .ok (.invokevirtual 75, 3) := by decide +kernel
theorem dX5_link_44 : decode cX5_link 44 = .ok (.ifCond .ne 14, 3) := by decide +kernel
theorem dX5_link_47 : decode cX5_link 47 = .ok (.aload_n 0, 1) := by decide +kernel
theorem dX5_link_48 : decode cX5_link 48 = .ok (.getfield 10, 3) := by decide +kernel
theorem dX5_link_51 : decode cX5_link 51 = .ok (.iload_n 2, 1) := by decide +kernel
theorem dX5_link_52 : decode cX5_link 52 = .ok (.invokevirtual 75, 3) := by decide +kernel
theorem dX5_link_55 : decode cX5_link 55 = .ok (.ifCond .eq 6, 3) := by decide +kernel
theorem dX5_link_58 : decode cX5_link 58 = .ok (.bipush (-4), 2) := by decide +kernel
theorem dX5_link_60 : decode cX5_link 60 = .ok (.ireturn, 1) := by decide +kernel
theorem dX5_link_61 : decode cX5_link 61 = .ok (.iload_n 1, 1) := by decide +kernel
theorem dX5_link_62 : decode cX5_link 62 = .ok (.iload_n 2, 1) := by decide +kernel
theorem dX5_link_63 : decode cX5_link 63 = .ok (.if_icmp .eq 15, 3) := by decide +kernel
theorem dX5_link_66 : decode cX5_link 66 = .ok (.aload_n 0, 1) := by decide +kernel
theorem dX5_link_67 : decode cX5_link 67 = .ok (.getfield 10, 3) := by decide +kernel
theorem dX5_link_70 : decode cX5_link 70 = .ok (.iload_n 1, 1) := by decide +kernel
theorem dX5_link_71 : decode cX5_link 71 = .ok (.iload_n 2, 1) := by decide +kernel
theorem dX5_link_72 : decode cX5_link 72 = .ok (.invokevirtual 78, 3) := by decide +kernel
theorem dX5_link_75 : decode cX5_link 75 = .ok (.ifCond .eq 6, 3) := by decide +kernel
theorem dX5_link_78 : decode cX5_link 78 = .ok (.bipush (-5), 2) := by decide +kernel
theorem dX5_link_80 : decode cX5_link 80 = .ok (.ireturn, 1) := by decide +kernel
theorem dX5_link_81 : decode cX5_link 81 = .ok (.aload_n 0, 1) := by decide +kernel
theorem dX5_link_82 : decode cX5_link 82 = .ok (.getfield 10, 3) := by decide +kernel
theorem dX5_link_85 : decode cX5_link 85 = .ok (.iload_n 1, 1) := by decide +kernel
theorem dX5_link_86 : decode cX5_link 86 = .ok (.iload_n 2, 1) := by decide +kernel
theorem dX5_link_87 : decode cX5_link 87 = .ok (.invokevirtual 82, 3) := by decide +kernel
theorem dX5_link_90 : decode cX5_link 90 = .ok (.aload_n 0, 1) := by decide +kernel
theorem dX5_link_91 : decode cX5_link 91 = .ok (.invokevirtual 65, 3) := by decide +kernel
theorem dX5_link_94 : decode cX5_link 94 = .ok (.aload_n 0, 1) := by decide +kernel
theorem dX5_link_95 : decode cX5_link 95 = .ok (.getfield 10, 3) := by decide +kernel
theorem dX5_link_98 : decode cX5_link 98 = .ok (.getfield 72, 3) := by decide +kernel
theorem dX5_link_101 : decode cX5_link 101 = .ok (.ireturn, 1) := by decide +kernel
def rX5_link : Room := { frames := 4, cells := 0, slots := 0, locals := 87 }
theorem yk_X5_link : YK yX5_link cX5_link 3 (some .int) 2 := ⟨xim_X5_link, xse_X5_link, xin_X5, xco_X5_link, by decide +kernel⟩
set_option maxRecDepth 4000 in
theorem c_X5_link {l : Launch} {D : va_G} {t : Nat → ClassId} {a : Nat → Nat} {I : Nat → Int32} {F : Nat → Nat → Int32} {L : Nat → Int64} {K : Cfg} {sd : Int32} {hd : Nat → Nat} {dk : Bool} {dw : Nat → Nat} {mt : Int32} (hI : INV (K, sd, hd, dk, dw, mt)) (hX : RX (K, sd, hd, dk, dw, mt) I F) (x y : Int32) : CT l D t yX5_link cX5_link 3 (some .int) rX5_link 0 0 [.ref (a 0), .int x, .int y] (WX a t I F L) (XO a t (opLink (K, sd, hd, dk, dw, mt) x y)) := by
  refine CT.of (by decide +kernel) (by simp [lg_sl, Value.category]) (fun X C hR => ?_)
  refine xlocals (lv' := [(0, .ref (a 0)), (1, .int x), (2, .int y)]) rfl ?_
  obtain ⟨hK, hsd, hHd, hdk, hdr, hgd, hHS, hLS⟩ := id hX
  have hW : WFK K := hI.1
  have hrg := hI.2.1
  have fn24 := hW.n24; have fm60 := hW.m60; have fk2 := hW.k2; have fu1 := hW.u1; have fu9 := hW.u9; have fv1 := hW.v1; have fv9 := hW.v9
  refine xaload_n C 0 rfl dX5_link_0 ?_
  refine gX5_10 C dX5_link_1 ?_
  refine xiload_n C 1 rfl dX5_link_4 ?_
  refine xcVR C (c_X1_has hK hW x) yk_X1_has 1 rfl rfl xml_X5_68 ⟨⟨Nat.le_of_ble_eq_true rfl, Nat.le_of_ble_eq_true rfl⟩, ⟨rfl, rfl⟩, ⟨Nat.zero_le _, Nat.zero_le _⟩⟩ rfl (Nat.le_of_ble_eq_true rfl) dX5_link_5 ?_
  refine xif_eqN C 22 dX5_link_8 (by decide) (bn_lt _) (fun h8 => ?_) (fun h8 => ?_)
  ·
    have h8 := bn_0 h8
    refine xiconst (v := -1) C dX5_link_22 (by decide) ?_
    exact xret C hR (rfl) dX5_link_23 (XO.mk (by simp only [opLink]; rw [ci_t (Or.inl h8)]) hX)
  ·
    obtain ⟨p, hp, rfl⟩ := (bn_1 h8).nat hW
    refine xaload_n C 0 rfl dX5_link_11 ?_
    refine gX5_10 C dX5_link_12 ?_
    refine xiload_n C 2 rfl dX5_link_15 ?_
    refine xcVR C (c_X1_has hK hW y) yk_X1_has 1 rfl rfl xml_X5_68 ⟨⟨Nat.le_of_ble_eq_true rfl, Nat.le_of_ble_eq_true rfl⟩, ⟨rfl, rfl⟩, ⟨Nat.zero_le _, Nat.zero_le _⟩⟩ rfl (Nat.le_of_ble_eq_true rfl) dX5_link_16 ?_
    refine xif_neN C 24 dX5_link_19 (by decide) (bn_lt _) (fun h19 => ?_) (fun h19 => ?_)
    ·
      obtain ⟨q, hq, rfl⟩ := (bn_1 h19).nat hW
      refine xaload_n C 0 rfl dX5_link_24 ?_
      refine gX5_10 C dX5_link_25 ?_
      refine gX5_72K C hK dX5_link_28 ?_
      refine xbipush (v := nI 60) C dX5_link_31 (by decide) ?_
      refine xicmp_geN C 58 dX5_link_33 (by decide) (by omega) (by omega) (fun h33 => ?_) (fun h33 => ?_)
      ·
        refine xbipush (v := -4) C dX5_link_58 (by decide) ?_
        exact xret C hR (rfl) dX5_link_60 (XO.mk (by simp only [opLink]; rw [ci_f (fun q => q.elim (fun q => q (hasP_nat hW hp)) (fun q => q (hasP_nat hW hq))), show cl (nI p) = p from nI_clamp (by omega), show cl (nI q) = q from nI_clamp (by omega), ci_t (Or.inl h33)]) hX)
      ·
        refine xaload_n C 0 rfl dX5_link_36 ?_
        refine gX5_10 C dX5_link_37 ?_
        refine xiload_n C 1 rfl dX5_link_40 ?_
        refine xcVR C (c_X1_isCrowded hK hW p (by omega)) yk_X1_isCrowded 1 rfl rfl xml_X5_75 ⟨⟨Nat.le_of_ble_eq_true rfl, Nat.le_of_ble_eq_true rfl⟩, ⟨rfl, rfl⟩, ⟨Nat.zero_le _, Nat.zero_le _⟩⟩ rfl (Nat.le_of_ble_eq_true rfl) dX5_link_41 ?_
        refine xif_neN C 58 dX5_link_44 (by decide) (bn_lt _) (fun h44 => ?_) (fun h44 => ?_)
        ·
          have h44 := bn_1 h44
          refine xbipush (v := -4) C dX5_link_58 (by decide) ?_
          exact xret C hR (rfl) dX5_link_60 (XO.mk (by simp only [opLink]; rw [ci_f (fun q => q.elim (fun q => q (hasP_nat hW hp)) (fun q => q (hasP_nat hW hq))), show cl (nI p) = p from nI_clamp (by omega), show cl (nI q) = q from nI_clamp (by omega), ci_t (Or.inr (Or.inl h44))]) hX)
        ·
          have h44 := bn_0 h44
          refine xaload_n C 0 rfl dX5_link_47 ?_
          refine gX5_10 C dX5_link_48 ?_
          refine xiload_n C 2 rfl dX5_link_51 ?_
          refine xcVR C (c_X1_isCrowded hK hW q (by omega)) yk_X1_isCrowded 1 rfl rfl xml_X5_75 ⟨⟨Nat.le_of_ble_eq_true rfl, Nat.le_of_ble_eq_true rfl⟩, ⟨rfl, rfl⟩, ⟨Nat.zero_le _, Nat.zero_le _⟩⟩ rfl (Nat.le_of_ble_eq_true rfl) dX5_link_52 ?_
          refine xif_eqN C 61 dX5_link_55 (by decide) (bn_lt _) (fun h55 => ?_) (fun h55 => ?_)
          ·
            have h55 := bn_0 h55
            refine xiload_n C 1 rfl dX5_link_61 ?_
            refine xiload_n C 2 rfl dX5_link_62 ?_
            refine xicmp_eqN C 78 dX5_link_63 (by decide) (by omega) (by omega) (fun h63 => ?_) (fun h63 => ?_)
            ·
              refine xbipush (v := -5) C dX5_link_78 (by decide) ?_
              exact xret C hR (rfl) dX5_link_80 (XO.mk (by simp only [opLink]; rw [ci_f (fun q => q.elim (fun q => q (hasP_nat hW hp)) (fun q => q (hasP_nat hW hq))), show cl (nI p) = p from nI_clamp (by omega), show cl (nI q) = q from nI_clamp (by omega), ci_f (fun q => q.elim (by omega) (fun q => q.elim h44 h55)), ci_t (Or.inl (by rw [h63]))]) hX)
            ·
              refine xaload_n C 0 rfl dX5_link_66 ?_
              refine gX5_10 C dX5_link_67 ?_
              refine xiload_n C 1 rfl dX5_link_70 ?_
              refine xiload_n C 2 rfl dX5_link_71 ?_
              refine xcVR C (c_X1_areLinked hK hW p (by omega) q (by omega)) yk_X1_areLinked 1 rfl rfl xml_X5_78 ⟨⟨Nat.le_of_ble_eq_true rfl, Nat.le_of_ble_eq_true rfl⟩, ⟨rfl, rfl⟩, ⟨Nat.zero_le _, Nat.zero_le _⟩⟩ rfl (Nat.le_of_ble_eq_true rfl) dX5_link_72 ?_
              refine xif_eqN C 81 dX5_link_75 (by decide) (bn_lt _) (fun h75 => ?_) (fun h75 => ?_)
              ·
                have h75 := bn_0 h75
                refine xaload_n C 0 rfl dX5_link_81 ?_
                refine gX5_10 C dX5_link_82 ?_
                refine xiload_n C 1 rfl dX5_link_85 ?_
                refine xiload_n C 2 rfl dX5_link_86 ?_
                refine xcVV C (c_X1_addLink hK hW (by omega) p q (by omega) (by omega) h63 (by omega) (by omega)) yk_X1_addLink 1 rfl rfl xml_X5_82 ⟨⟨Nat.le_of_ble_eq_true rfl, Nat.le_of_ble_eq_true rfl⟩, ⟨rfl, rfl⟩, ⟨Nat.zero_le _, Nat.zero_le _⟩⟩ rfl (Nat.le_of_ble_eq_true rfl) dX5_link_87 (fun wE hE => ?_)
                obtain ⟨IA, FA, rfl, hKA, hFA, hIA⟩ := hE
                refine xaload_n C 0 rfl dX5_link_90 ?_
                refine xcVV C (c_X5_startAnew hKA (hW.addL (by omega) hp hq h63 (by omega) (by omega)) sd (by rw [hIA 10 (by decide)]; exact hsd)) yk_X5_startAnew 0 rfl rfl xml_X5_65 ⟨⟨Nat.le_of_ble_eq_true rfl, Nat.le_of_ble_eq_true rfl⟩, ⟨rfl, rfl⟩, ⟨Nat.zero_le _, Nat.zero_le _⟩⟩ rfl (Nat.le_of_ble_eq_true rfl) dX5_link_91 (fun wE hE => ?_)
                obtain ⟨IS, FS, rfl, hRS⟩ := hE
                refine xaload_n C 0 rfl dX5_link_94 ?_
                refine gX5_10 C dX5_link_95 ?_
                refine gX5_72 C dX5_link_98 ?_
                refine xtopi (y := nI (km K + 1)) (hRS.1.m) ?_
                exact xret C hR (rfl) dX5_link_101 (XO.mk (by simp only [opLink]; rw [ci_f (fun q => q.elim (fun q => q (hasP_nat hW hp)) (fun q => q (hasP_nat hW hq))), show cl (nI p) = p from nI_clamp (by omega), show cl (nI q) = q from nI_clamp (by omega), ci_f (fun q => q.elim (by omega) (fun q => q.elim h44 h55)), ci_f (fun q => q.elim (fun q => h63 ((nI_eq (by omega) (by omega)).mp q)) h75)]) hRS)
              ·
                have h75 := bn_1 h75
                refine xbipush (v := -5) C dX5_link_78 (by decide) ?_
                exact xret C hR (rfl) dX5_link_80 (XO.mk (by simp only [opLink]; rw [ci_f (fun q => q.elim (fun q => q (hasP_nat hW hp)) (fun q => q (hasP_nat hW hq))), show cl (nI p) = p from nI_clamp (by omega), show cl (nI q) = q from nI_clamp (by omega), ci_f (fun q => q.elim (by omega) (fun q => q.elim h44 h55)), ci_t (Or.inr h75)]) hX)
          ·
            have h55 := bn_1 h55
            refine xbipush (v := -4) C dX5_link_58 (by decide) ?_
            exact xret C hR (rfl) dX5_link_60 (XO.mk (by simp only [opLink]; rw [ci_f (fun q => q.elim (fun q => q (hasP_nat hW hp)) (fun q => q (hasP_nat hW hq))), show cl (nI p) = p from nI_clamp (by omega), show cl (nI q) = q from nI_clamp (by omega), ci_t (Or.inr (Or.inr h55))]) hX)
    ·
      have h19 := bn_0 h19
      refine xiconst (v := -1) C dX5_link_22 (by decide) ?_
      exact xret C hR (rfl) dX5_link_23 (XO.mk (by simp only [opLink]; rw [ci_t (Or.inr h19)]) hX)
theorem dX5_kind_0 : decode cX5_kind 0 = .ok (.iload_n 1, 1) := by decide +kernel
theorem dX5_kind_1 : decode cX5_kind 1 = .ok (.ifCond .lt 30, 3) := by decide +kernel
theorem dX5_kind_4 : decode cX5_kind 4 = .ok (.iload_n 1, 1) := by decide +kernel
theorem dX5_kind_5 : decode cX5_kind 5 = .ok (.iconst 2, 1) := by decide +kernel
theorem dX5_kind_6 : decode cX5_kind 6 = .ok (.if_icmp .gt 25, 3) := by decide +kernel
theorem dX5_kind_9 : decode cX5_kind 9 = .ok (.iload_n 2, 1) := by decide +kernel
theorem dX5_kind_10 : decode cX5_kind 10 = .ok (.iconst 1, 1) := by decide +kernel
theorem dX5_kind_11 : decode cX5_kind 11 = .ok (.if_icmp .lt 20, 3) := by decide +kernel
theorem dX5_kind_14 : decode cX5_kind 14 = .ok (.iload_n 2, 1) := by decide +kernel
theorem dX5_kind_15 : decode cX5_kind 15 = .ok (.bipush 9, 2) := by decide +kernel
theorem dX5_kind_17 : decode cX5_kind 17 = .ok (.if_icmp .gt 14, 3) := by decide +kernel
theorem dX5_kind_20 : decode cX5_kind 20 = .ok (.iload_n 3, 1) := by decide +kernel
theorem dX5_kind_21 : decode cX5_kind 21 = .ok (.iconst 1, 1) := by decide +kernel
theorem dX5_kind_22 : decode cX5_kind 22 = .ok (.if_icmp .lt 9, 3) := by decide +kernel
theorem dX5_kind_25 : decode cX5_kind 25 = .ok (.iload_n 3, 1) := by decide +kernel
theorem dX5_kind_26 : decode cX5_kind 26 = .ok (.bipush 9, 2) := by decide +kernel
theorem dX5_kind_28 : decode cX5_kind 28 = .ok (.if_icmp .le 6, 3) := by decide +kernel
theorem dX5_kind_31 : decode cX5_kind 31 = .ok (.bipush (-2), 2) := by decide +kernel
theorem dX5_kind_33 : decode cX5_kind 33 = .ok (.ireturn, 1) := by decide +kernel
theorem dX5_kind_34 : decode cX5_kind 34 = .ok (.aload_n 0, 1) := by decide +kernel
theorem dX5_kind_35 : decode cX5_kind 35 = .ok (.getfield 21, 3) := by decide +kernel
theorem dX5_kind_38 : decode cX5_kind 38 = .ok (.iload_n 1, 1) := by decide +kernel
theorem dX5_kind_39 : decode cX5_kind 39 = .ok (.putfield 86, 3) := by decide +kernel
theorem dX5_kind_42 : decode cX5_kind 42 = .ok (.aload_n 0, 1) := by decide +kernel
theorem dX5_kind_43 : decode cX5_kind 43 = .ok (.getfield 21, 3) := by decide +kernel
theorem dX5_kind_46 : decode cX5_kind 46 = .ok (.iload_n 2, 1) := by decide +kernel
theorem dX5_kind_47 : decode cX5_kind 47 = .ok (.putfield 89, 3) := by decide +kernel
theorem dX5_kind_50 : decode cX5_kind 50 = .ok (.aload_n 0, 1) := by decide +kernel
theorem dX5_kind_51 : decode cX5_kind 51 = .ok (.getfield 21, 3) := by decide +kernel
theorem dX5_kind_54 : decode cX5_kind 54 = .ok (.iload_n 3, 1) := by decide +kernel
theorem dX5_kind_55 : decode cX5_kind 55 = .ok (.putfield 92, 3) := by decide +kernel
theorem dX5_kind_58 : decode cX5_kind 58 = .ok (.aload_n 0, 1) := by decide +kernel
theorem dX5_kind_59 : decode cX5_kind 59 = .ok (.invokevirtual 65, 3) := by decide +kernel
theorem dX5_kind_62 : decode cX5_kind 62 = .ok (.iconst 1, 1) := by decide +kernel
theorem dX5_kind_63 : decode cX5_kind 63 = .ok (.ireturn, 1) := by decide +kernel
def rX5_kind : Room := { frames := 4, cells := 0, slots := 0, locals := 87 }
theorem yk_X5_kind : YK yX5_kind cX5_kind 4 (some .int) 3 := ⟨xim_X5_kind, xse_X5_kind, xin_X5, xco_X5_kind, by decide +kernel⟩
set_option maxRecDepth 4000 in
theorem c_X5_kind {l : Launch} {D : va_G} {t : Nat → ClassId} {a : Nat → Nat} {I : Nat → Int32} {F : Nat → Nat → Int32} {L : Nat → Int64} {K : Cfg} {sd : Int32} {hd : Nat → Nat} {dk : Bool} {dw : Nat → Nat} {mt : Int32} (hI : INV (K, sd, hd, dk, dw, mt)) (hX : RX (K, sd, hd, dk, dw, mt) I F) (x y z : Int32) : CT l D t yX5_kind cX5_kind 4 (some .int) rX5_kind 0 0 [.ref (a 0), .int x, .int y, .int z] (WX a t I F L) (XO a t (opKind (K, sd, hd, dk, dw, mt) x y z)) := by
  refine CT.of (by decide +kernel) (by simp [lg_sl, Value.category]) (fun X C hR => ?_)
  refine xlocals (lv' := [(0, .ref (a 0)), (1, .int x), (2, .int y), (3, .int z)]) rfl ?_
  obtain ⟨hK, hsd, hHd, hdk, hdr, hgd, hHS, hLS⟩ := id hX
  have hW : WFK K := hI.1
  have hrg := hI.2.1
  have fn24 := hW.n24; have fm60 := hW.m60; have fk2 := hW.k2; have fu1 := hW.u1; have fu9 := hW.u9; have fv1 := hW.v1; have fv9 := hW.v9
  refine xiload_n C 1 rfl dX5_kind_0 ?_
  refine xif_lt C 31 dX5_kind_1 (by decide) (fun h1 => ?_) (fun h1 => ?_)
  ·
    refine xbipush (v := -2) C dX5_kind_31 (by decide) ?_
    exact xret C hR (rfl) dX5_kind_33 (XO.mk (by simp only [opKind]; rw [ci_t (Or.inl h1)]) hX)
  ·
    refine xiload_n C 1 rfl dX5_kind_4 ?_
    refine xiconst (v := 2) C dX5_kind_5 (by decide) ?_
    refine xicmp_gt C 31 dX5_kind_6 (by decide) (fun h6 => ?_) (fun h6 => ?_)
    ·
      refine xbipush (v := -2) C dX5_kind_31 (by decide) ?_
      exact xret C hR (rfl) dX5_kind_33 (XO.mk (by simp only [opKind]; rw [ci_t (Or.inr (Or.inl h6))]) hX)
    ·
      refine xiload_n C 2 rfl dX5_kind_9 ?_
      refine xiconst (v := 1) C dX5_kind_10 (by decide) ?_
      refine xicmp_lt C 31 dX5_kind_11 (by decide) (fun h11 => ?_) (fun h11 => ?_)
      ·
        refine xbipush (v := -2) C dX5_kind_31 (by decide) ?_
        exact xret C hR (rfl) dX5_kind_33 (XO.mk (by simp only [opKind]; rw [ci_t (Or.inr (Or.inr (Or.inl h11)))]) hX)
      ·
        refine xiload_n C 2 rfl dX5_kind_14 ?_
        refine xbipush (v := 9) C dX5_kind_15 (by decide) ?_
        refine xicmp_gt C 31 dX5_kind_17 (by decide) (fun h17 => ?_) (fun h17 => ?_)
        ·
          refine xbipush (v := -2) C dX5_kind_31 (by decide) ?_
          exact xret C hR (rfl) dX5_kind_33 (XO.mk (by simp only [opKind]; rw [ci_t (Or.inr (Or.inr (Or.inr (Or.inl h17))))]) hX)
        ·
          refine xiload_n C 3 rfl dX5_kind_20 ?_
          refine xiconst (v := 1) C dX5_kind_21 (by decide) ?_
          refine xicmp_lt C 31 dX5_kind_22 (by decide) (fun h22 => ?_) (fun h22 => ?_)
          ·
            refine xbipush (v := -2) C dX5_kind_31 (by decide) ?_
            exact xret C hR (rfl) dX5_kind_33 (XO.mk (by simp only [opKind]; rw [ci_t (Or.inr (Or.inr (Or.inr (Or.inr (Or.inl h22)))))]) hX)
          ·
            refine xiload_n C 3 rfl dX5_kind_25 ?_
            refine xbipush (v := 9) C dX5_kind_26 (by decide) ?_
            refine xicmp_le C 34 dX5_kind_28 (by decide) (fun h28 => ?_) (fun h28 => ?_)
            ·
              obtain ⟨p, hp2, rfl⟩ := box02 h1 h6
              obtain ⟨q, hq1, hq9, rfl⟩ := box19 h11 h17
              obtain ⟨r, hr1, hr9, rfl⟩ := box19 h22 (Int32.not_lt.mpr h28)
              refine xaload_n C 0 rfl dX5_kind_34 ?_
              refine gX5_21 C dX5_kind_35 ?_
              refine xiload_n C 1 rfl dX5_kind_38 ?_
              refine pX5_86 C dX5_kind_39 ?_
              refine xaload_n C 0 rfl dX5_kind_42 ?_
              refine gX5_21 C dX5_kind_43 ?_
              refine xiload_n C 2 rfl dX5_kind_46 ?_
              refine pX5_89 C dX5_kind_47 ?_
              refine xaload_n C 0 rfl dX5_kind_50 ?_
              refine gX5_21 C dX5_kind_51 ?_
              refine xiload_n C 3 rfl dX5_kind_54 ?_
              refine pX5_92 C dX5_kind_55 ?_
              refine xaload_n C 0 rfl dX5_kind_58 ?_
              refine xcVV C (c_X5_startAnew (hK.setK p q r) (hW.setK hp2 hq1 hq9 hr1 hr9) sd (by rw [va_up_ne _ _ (by decide), va_up_ne _ _ (by decide), va_up_ne _ _ (by decide)]; exact hsd)) yk_X5_startAnew 0 rfl rfl xml_X5_65 ⟨⟨Nat.le_of_ble_eq_true rfl, Nat.le_of_ble_eq_true rfl⟩, ⟨rfl, rfl⟩, ⟨Nat.zero_le _, Nat.zero_le _⟩⟩ rfl (Nat.le_of_ble_eq_true rfl) dX5_kind_59 (fun wE hE => ?_)
              obtain ⟨IS, FS, rfl, hRS⟩ := hE
              refine xiconst (v := nI 1) C dX5_kind_62 (by decide) ?_
              exact xret C hR (rfl) dX5_kind_63 (XO.mk (by simp only [opKind]; rw [ci_f (fun q => q.elim h1 (fun q => q.elim h6 (fun q => q.elim h11 (fun q => q.elim h17 (fun q => q.elim h22 (fun q => absurd q (Int32.not_lt.mpr h28))))))), show cl (nI p) = p from nI_clamp (by omega), show cl (nI q) = q from nI_clamp (by omega), show cl (nI r) = r from nI_clamp (by omega), nI_one]) hRS)
            ·
              refine xbipush (v := -2) C dX5_kind_31 (by decide) ?_
              exact xret C hR (rfl) dX5_kind_33 (XO.mk (by simp only [opKind]; rw [ci_t (Or.inr (Or.inr (Or.inr (Or.inr (Or.inr (Int32.not_le.mp h28))))))]) hX)
theorem dX5_hold_0 : decode cX5_hold 0 = .ok (.aload_n 0, 1) := by decide +kernel
theorem dX5_hold_1 : decode cX5_hold 1 = .ok (.getfield 10, 3) := by decide +kernel
theorem dX5_hold_4 : decode cX5_hold 4 = .ok (.iload_n 1, 1) := by decide +kernel
theorem dX5_hold_5 : decode cX5_hold 5 = .ok (.invokevirtual 68, 3) := by decide +kernel
theorem dX5_hold_8 : decode cX5_hold 8 = .ok (.ifCond .ne 5, 3) := by decide +kernel
theorem dX5_hold_11 : decode cX5_hold 11 = .ok (.iconst (-1), 1) := by decide +kernel
theorem dX5_hold_12 : decode cX5_hold 12 = .ok (.ireturn, 1) := by decide +kernel
theorem dX5_hold_13 : decode cX5_hold 13 = .ok (.iload_n 2, 1) := by decide +kernel
theorem dX5_hold_14 : decode cX5_hold 14 = .ok (.iconst (-1), 1) := by decide +kernel
theorem dX5_hold_15 : decode cX5_hold 15 = .ok (.if_icmp .lt 16, 3) := by decide +kernel
theorem dX5_hold_18 : decode cX5_hold 18 = .ok (.iload_n 2, 1) := by decide +kernel
theorem dX5_hold_19 : decode cX5_hold 19 = .ok (.aload_n 0, 1) := by decide +kernel
theorem dX5_hold_20 : decode cX5_hold 20 = .ok (.getfield 10, 3) := by decide +kernel
theorem dX5_hold_23 : decode cX5_hold 23 = .ok (.getfield 95, 3) := by decide +kernel
theorem dX5_hold_26 : decode cX5_hold 26 = .ok (.iload_n 1, 1) := by decide +kernel
theorem dX5_hold_27 : decode cX5_hold 27 = .ok (.iaload, 1) := by decide +kernel
theorem dX5_hold_28 : decode cX5_hold 28 = .ok (.if_icmp .le 6, 3) := by decide +kernel
theorem dX5_hold_31 : decode cX5_hold 31 = .ok (.bipush (-2), 2) := by decide +kernel
theorem dX5_hold_33 : decode cX5_hold 33 = .ok (.ireturn, 1) := by decide +kernel
theorem dX5_hold_34 : decode cX5_hold 34 = .ok (.aload_n 0, 1) := by decide +kernel
theorem dX5_hold_35 : decode cX5_hold 35 = .ok (.getfield 10, 3) := by decide +kernel
theorem dX5_hold_38 : decode cX5_hold 38 = .ok (.getfield 98, 3) := by decide +kernel
theorem dX5_hold_41 : decode cX5_hold 41 = .ok (.iload_n 1, 1) := by decide +kernel
theorem dX5_hold_42 : decode cX5_hold 42 = .ok (.iaload, 1) := by decide +kernel
theorem dX5_hold_43 : decode cX5_hold 43 = .ok (.istore_n 3, 1) := by decide +kernel
theorem dX5_hold_44 : decode cX5_hold 44 = .ok (.aload_n 0, 1) := by decide +kernel
theorem dX5_hold_45 : decode cX5_hold 45 = .ok (.getfield 10, 3) := by decide +kernel
theorem dX5_hold_48 : decode cX5_hold 48 = .ok (.getfield 98, 3) := by decide +kernel
theorem dX5_hold_51 : decode cX5_hold 51 = .ok (.iload_n 1, 1) := by decide +kernel
theorem dX5_hold_52 : decode cX5_hold 52 = .ok (.iload_n 2, 1) := by decide +kernel
theorem dX5_hold_53 : decode cX5_hold 53 = .ok (.iastore, 1) := by decide +kernel
theorem dX5_hold_54 : decode cX5_hold 54 = .ok (.aload_n 0, 1) := by decide +kernel
theorem dX5_hold_55 : decode cX5_hold 55 = .ok (.invokevirtual 65, 3) := by decide +kernel
theorem dX5_hold_58 : decode cX5_hold 58 = .ok (.iload_n 3, 1) := by decide +kernel
theorem dX5_hold_59 : decode cX5_hold 59 = .ok (.ireturn, 1) := by decide +kernel
def rX5_hold : Room := { frames := 4, cells := 0, slots := 0, locals := 87 }
theorem yk_X5_hold : YK yX5_hold cX5_hold 4 (some .int) 2 := ⟨xim_X5_hold, xse_X5_hold, xin_X5, xco_X5_hold, by decide +kernel⟩
set_option maxRecDepth 4000 in
theorem c_X5_hold {l : Launch} {D : va_G} {t : Nat → ClassId} {a : Nat → Nat} {I : Nat → Int32} {F : Nat → Nat → Int32} {L : Nat → Int64} {K : Cfg} {sd : Int32} {hd : Nat → Nat} {dk : Bool} {dw : Nat → Nat} {mt : Int32} (hI : INV (K, sd, hd, dk, dw, mt)) (hX : RX (K, sd, hd, dk, dw, mt) I F) (x y : Int32) : CT l D t yX5_hold cX5_hold 4 (some .int) rX5_hold 0 0 [.ref (a 0), .int x, .int y] (WX a t I F L) (XO a t (opHold (K, sd, hd, dk, dw, mt) x y)) := by
  refine CT.of (by decide +kernel) (by simp [lg_sl, Value.category]) (fun X C hR => ?_)
  refine xlocals (lv' := [(0, .ref (a 0)), (1, .int x), (2, .int y)]) rfl ?_
  obtain ⟨hK, hsd, hHd, hdk, hdr, hgd, hHS, hLS⟩ := id hX
  have hW : WFK K := hI.1
  have hrg := hI.2.1
  have fn24 := hW.n24; have fm60 := hW.m60; have fk2 := hW.k2; have fu1 := hW.u1; have fu9 := hW.u9; have fv1 := hW.v1; have fv9 := hW.v9
  refine xaload_n C 0 rfl dX5_hold_0 ?_
  refine gX5_10 C dX5_hold_1 ?_
  refine xiload_n C 1 rfl dX5_hold_4 ?_
  refine xcVR C (c_X1_has hK hW x) yk_X1_has 1 rfl rfl xml_X5_68 ⟨⟨Nat.le_of_ble_eq_true rfl, Nat.le_of_ble_eq_true rfl⟩, ⟨rfl, rfl⟩, ⟨Nat.zero_le _, Nat.zero_le _⟩⟩ rfl (Nat.le_of_ble_eq_true rfl) dX5_hold_5 ?_
  refine xif_neN C 13 dX5_hold_8 (by decide) (bn_lt _) (fun h8 => ?_) (fun h8 => ?_)
  ·
    obtain ⟨p, hp, rfl⟩ := (bn_1 h8).nat hW
    refine xiload_n C 2 rfl dX5_hold_13 ?_
    refine xiconst (v := -1) C dX5_hold_14 (by decide) ?_
    refine xicmp_lt C 31 dX5_hold_15 (by decide) (fun h15 => ?_) (fun h15 => ?_)
    ·
      refine xbipush (v := -2) C dX5_hold_31 (by decide) ?_
      exact xret C hR (rfl) dX5_hold_33 (XO.mk (by simp only [opHold]; rw [ci_f (fun q => q (hasP_nat hW hp)), show cl (nI p) = p from nI_clamp (by omega), ci_t (Or.inl h15)]) hX)
    ·
      refine xiload_n C 2 rfl dX5_hold_18 ?_
      refine xaload_n C 0 rfl dX5_hold_19 ?_
      refine gX5_10 C dX5_hold_20 ?_
      refine gX5_95 C dX5_hold_23 ?_
      refine xiload_n C 1 rfl dX5_hold_26 ?_
      refine xa_top C hK hW p (by omega) dX5_hold_27 ?_
      have fb27 := (hW.top5 (by omega))
      refine xicmp_le C 34 dX5_hold_28 (by decide) (fun h28 => ?_) (fun h28 => ?_)
      ·
        obtain ⟨q, hq, hy0, hy1⟩ := boxH (hW.top5 hp) h15 (Int32.not_lt.mpr h28)
        refine xaload_n C 0 rfl dX5_hold_34 ?_
        refine gX5_10 C dX5_hold_35 ?_
        refine gX5_98 C dX5_hold_38 ?_
        refine xiload_n C 1 rfl dX5_hold_41 ?_
        refine xa_hd C hK hW p (by omega) dX5_hold_42 ?_
        have fb42 := (hW.hd6 (by omega))
        refine xistore_n (lv' := [(3, .int (nI (khd K p) - 1)), (0, .ref (a 0)), (1, .int (nI p)), (2, .int y)]) C dX5_hold_43 (by decide) rfl ?_
        refine xaload_n C 1 rfl dX5_hold_44 ?_
        refine gX5_10 C dX5_hold_45 ?_
        refine gX5_98 C dX5_hold_48 ?_
        refine xiload_n C 2 rfl dX5_hold_51 ?_
        refine xiload_n C 3 rfl dX5_hold_52 ?_
        refine xs_raw C 2 (by omega) p (show _ < 24 by omega) dX5_hold_53 ?_
        obtain ⟨FA, eFA⟩ : ∃ z : Nat → Nat → Int32, z = va_up F 2 (upd (F 2) p y) := ⟨_, rfl⟩
        refine xworld (ws' := WX a t I FA L) (by rw [eFA]) ?_
        refine xaload_n C 1 rfl dX5_hold_54 ?_
        refine xcVV C (c_X5_startAnew (hK.setH hp (by rw [eFA, va_up_self, hy0]) (fun z hz => by rw [eFA, va_up_ne _ _ hz])) (hW.setH hp hq) sd hsd) yk_X5_startAnew 0 rfl rfl xml_X5_65 ⟨⟨Nat.le_of_ble_eq_true rfl, Nat.le_of_ble_eq_true rfl⟩, ⟨rfl, rfl⟩, ⟨Nat.zero_le _, Nat.zero_le _⟩⟩ rfl (Nat.le_of_ble_eq_true rfl) dX5_hold_55 (fun wE hE => ?_)
        obtain ⟨IS, FS, rfl, hRS⟩ := hE
        refine xiload_n C 0 rfl dX5_hold_58 ?_
        exact xret C hR (rfl) dX5_hold_59 (XO.mk (by simp only [opHold]; rw [ci_f (fun q => q (hasP_nat hW hp)), show cl (nI p) = p from nI_clamp (by omega), ci_f (fun q => q.elim h15 (fun q => absurd q (Int32.not_lt.mpr h28))), show cl (y + 1) = q from by rw [hy1]; exact nI_clamp (by omega)]) hRS)
      ·
        refine xbipush (v := -2) C dX5_hold_31 (by decide) ?_
        exact xret C hR (rfl) dX5_hold_33 (XO.mk (by simp only [opHold]; rw [ci_f (fun q => q (hasP_nat hW hp)), show cl (nI p) = p from nI_clamp (by omega), ci_t (Or.inr (Int32.not_le.mp h28))]) hX)
  ·
    have h8 := bn_0 h8
    refine xiconst (v := -1) C dX5_hold_11 (by decide) ?_
    exact xret C hR (rfl) dX5_hold_12 (XO.mk (by simp only [opHold]; rw [ci_t h8]) hX)
theorem dX5_good_0 : decode cX5_good 0 = .ok (.aload_n 0, 1) := by decide +kernel
theorem dX5_good_1 : decode cX5_good 1 = .ok (.getfield 21, 3) := by decide +kernel
theorem dX5_good_4 : decode cX5_good 4 = .ok (.getfield 101, 3) := by decide +kernel
theorem dX5_good_7 : decode cX5_good 7 = .ok (.ifCond .eq 7, 3) := by decide +kernel
theorem dX5_good_10 : decode cX5_good 10 = .ok (.iconst 1, 1) := by decide +kernel
theorem dX5_good_11 : decode cX5_good 11 = .ok (.goto 4, 3) := by decide +kernel
theorem dX5_good_14 : decode cX5_good 14 = .ok (.iconst 0, 1) := by decide +kernel
theorem dX5_good_15 : decode cX5_good 15 = .ok (.ireturn, 1) := by decide +kernel
def rX5_good : Room := { frames := 0, cells := 0, slots := 0, locals := 0 }
theorem yk_X5_good : YK yX5_good cX5_good 1 (some .int) 0 := ⟨xim_X5_good, xse_X5_good, xin_X5, xco_X5_good, by decide +kernel⟩
set_option maxRecDepth 4000 in
theorem c_X5_good {l : Launch} {D : va_G} {t : Nat → ClassId} {a : Nat → Nat} {I : Nat → Int32} {F : Nat → Nat → Int32} {L : Nat → Int64} {K : Cfg} {sd : Int32} {hd : Nat → Nat} {dk : Bool} {dw : Nat → Nat} {mt : Int32} (hI : INV (K, sd, hd, dk, dw, mt)) (hX : RX (K, sd, hd, dk, dw, mt) I F)  : CT l D t yX5_good cX5_good 1 (some .int) rX5_good 0 0 [.ref (a 0)] (WX a t I F L) (XO a t (opGood (K, sd, hd, dk, dw, mt))) := by
  refine CT.of (by decide +kernel) (by simp [lg_sl, Value.category]) (fun X C hR => ?_)
  refine xlocals (lv' := [(0, .ref (a 0))]) rfl ?_
  obtain ⟨hK, hsd, hHd, hdk, hdr, hgd, hHS, hLS⟩ := id hX
  have hW : WFK K := hI.1
  have hrg := hI.2.1
  have fn24 := hW.n24; have fm60 := hW.m60; have fk2 := hW.k2; have fu1 := hW.u1; have fu9 := hW.u9; have fv1 := hW.v1; have fv9 := hW.v9
  refine xaload_n C 0 rfl dX5_good_0 ?_
  refine gX5_21 C dX5_good_1 ?_
  refine gX5_101 C dX5_good_4 ?_
  refine xtopi (y := nI (bn (GoodP K))) (hgd) ?_
  refine xif_eqN C 14 dX5_good_7 (by decide) (bn_lt _) (fun h7 => ?_) (fun h7 => ?_)
  ·
    refine xiconst (v := nI 0) C dX5_good_14 (by decide) ?_
    exact xret C hR (rfl) dX5_good_15 (XO.mk (by simp only [opGood]; rw [bn_f (bn_0 h7)]) hX)
  ·
    refine xiconst (v := nI 1) C dX5_good_10 (by decide) ?_
    refine xgoto C 15 dX5_good_11 (by decide) ?_
    exact xret C hR (rfl) dX5_good_15 (XO.mk (by simp only [opGood]; rw [bn_t (bn_1 h7)]) hX)
theorem dX5_highest_0 : decode cX5_highest 0 = .ok (.aload_n 0, 1) := by decide +kernel
theorem dX5_highest_1 : decode cX5_highest 1 = .ok (.getfield 10, 3) := by decide +kernel
theorem dX5_highest_4 : decode cX5_highest 4 = .ok (.iload_n 1, 1) := by decide +kernel
theorem dX5_highest_5 : decode cX5_highest 5 = .ok (.invokevirtual 68, 3) := by decide +kernel
theorem dX5_highest_8 : decode cX5_highest 8 = .ok (.ifCond .ne 5, 3) := by decide +kernel
theorem dX5_highest_11 : decode cX5_highest 11 = .ok (.iconst (-1), 1) := by decide +kernel
theorem dX5_highest_12 : decode cX5_highest 12 = .ok (.ireturn, 1) := by decide +kernel
theorem dX5_highest_13 : decode cX5_highest 13 = .ok (.aload_n 0, 1) := by decide +kernel
theorem dX5_highest_14 : decode cX5_highest 14 = .ok (.getfield 21, 3) := by decide +kernel
theorem dX5_highest_17 : decode cX5_highest 17 = .ok (.getfield 101, 3) := by decide +kernel
theorem dX5_highest_20 : decode cX5_highest 20 = .ok (.ifCond .eq 15, 3) := by decide +kernel
theorem dX5_highest_23 : decode cX5_highest 23 = .ok (.aload_n 0, 1) := by decide +kernel
theorem dX5_highest_24 : decode cX5_highest 24 = .ok (.getfield 21, 3) := by decide +kernel
theorem dX5_highest_27 : decode cX5_highest 27 = .ok (.getfield 105, 3) := by decide +kernel
theorem dX5_highest_30 : decode cX5_highest 30 = .ok (.iload_n 1, 1) := by decide +kernel
theorem dX5_highest_31 : decode cX5_highest 31 = .ok (.iaload, 1) := by decide +kernel
theorem dX5_highest_32 : decode cX5_highest 32 = .ok (.goto 5, 3) := by decide +kernel
theorem dX5_highest_35 : decode cX5_highest 35 = .ok (.bipush (-5), 2) := by decide +kernel
theorem dX5_highest_37 : decode cX5_highest 37 = .ok (.ireturn, 1) := by decide +kernel
def rX5_highest : Room := { frames := 1, cells := 0, slots := 0, locals := 21 }
theorem yk_X5_highest : YK yX5_highest cX5_highest 2 (some .int) 1 := ⟨xim_X5_highest, xse_X5_highest, xin_X5, xco_X5_highest, by decide +kernel⟩
set_option maxRecDepth 4000 in
theorem c_X5_highest {l : Launch} {D : va_G} {t : Nat → ClassId} {a : Nat → Nat} {I : Nat → Int32} {F : Nat → Nat → Int32} {L : Nat → Int64} {K : Cfg} {sd : Int32} {hd : Nat → Nat} {dk : Bool} {dw : Nat → Nat} {mt : Int32} (hI : INV (K, sd, hd, dk, dw, mt)) (hX : RX (K, sd, hd, dk, dw, mt) I F) (x : Int32) : CT l D t yX5_highest cX5_highest 2 (some .int) rX5_highest 0 0 [.ref (a 0), .int x] (WX a t I F L) (XO a t (opHigh (K, sd, hd, dk, dw, mt) x)) := by
  refine CT.of (by decide +kernel) (by simp [lg_sl, Value.category]) (fun X C hR => ?_)
  refine xlocals (lv' := [(0, .ref (a 0)), (1, .int x)]) rfl ?_
  obtain ⟨hK, hsd, hHd, hdk, hdr, hgd, hHS, hLS⟩ := id hX
  have hW : WFK K := hI.1
  have hrg := hI.2.1
  have fn24 := hW.n24; have fm60 := hW.m60; have fk2 := hW.k2; have fu1 := hW.u1; have fu9 := hW.u9; have fv1 := hW.v1; have fv9 := hW.v9
  refine xaload_n C 0 rfl dX5_highest_0 ?_
  refine gX5_10 C dX5_highest_1 ?_
  refine xiload_n C 1 rfl dX5_highest_4 ?_
  refine xcVR C (c_X1_has hK hW x) yk_X1_has 1 rfl rfl xml_X5_68 ⟨⟨Nat.le_of_ble_eq_true rfl, Nat.le_of_ble_eq_true rfl⟩, ⟨rfl, rfl⟩, ⟨Nat.zero_le _, Nat.zero_le _⟩⟩ rfl (Nat.le_of_ble_eq_true rfl) dX5_highest_5 ?_
  refine xif_neN C 13 dX5_highest_8 (by decide) (bn_lt _) (fun h8 => ?_) (fun h8 => ?_)
  ·
    obtain ⟨p, hp, rfl⟩ := (bn_1 h8).nat hW
    refine xaload_n C 0 rfl dX5_highest_13 ?_
    refine gX5_21 C dX5_highest_14 ?_
    refine gX5_101 C dX5_highest_17 ?_
    refine xtopi (y := nI (bn (GoodP K))) (hgd) ?_
    refine xif_eqN C 35 dX5_highest_20 (by decide) (bn_lt _) (fun h20 => ?_) (fun h20 => ?_)
    ·
      refine xbipush (v := -5) C dX5_highest_35 (by decide) ?_
      exact xret C hR (rfl) dX5_highest_37 (XO.mk (by simp only [opHigh]; rw [ci_f (fun q => q (hasP_nat hW hp)), ci_t (bn_0 h20)]) hX)
    ·
      refine xaload_n C 0 rfl dX5_highest_23 ?_
      refine gX5_21 C dX5_highest_24 ?_
      refine gX5_105 C dX5_highest_27 ?_
      refine xiload_n C 1 rfl dX5_highest_30 ?_
      refine xa_st C hW 6 (by omega) (by omega) hHS p (by omega) dX5_highest_31 ?_
      have fb31 := (hHS p (by omega)).2
      refine xgoto C 37 dX5_highest_32 (by decide) ?_
      exact xret C hR (rfl) dX5_highest_37 (XO.mk (by simp only [opHigh]; rw [ci_f (fun q => q (hasP_nat hW hp)), ci_f (fun q => q (bn_1 h20)), show cl (nI p) = p from nI_clamp (by omega)]) hX)
  ·
    have h8 := bn_0 h8
    refine xiconst (v := -1) C dX5_highest_11 (by decide) ?_
    exact xret C hR (rfl) dX5_highest_12 (XO.mk (by simp only [opHigh]; rw [ci_t h8]) hX)
theorem dX5_lowest_0 : decode cX5_lowest 0 = .ok (.aload_n 0, 1) := by decide +kernel
theorem dX5_lowest_1 : decode cX5_lowest 1 = .ok (.getfield 10, 3) := by decide +kernel
theorem dX5_lowest_4 : decode cX5_lowest 4 = .ok (.iload_n 1, 1) := by decide +kernel
theorem dX5_lowest_5 : decode cX5_lowest 5 = .ok (.invokevirtual 68, 3) := by decide +kernel
theorem dX5_lowest_8 : decode cX5_lowest 8 = .ok (.ifCond .ne 5, 3) := by decide +kernel
theorem dX5_lowest_11 : decode cX5_lowest 11 = .ok (.iconst (-1), 1) := by decide +kernel
theorem dX5_lowest_12 : decode cX5_lowest 12 = .ok (.ireturn, 1) := by decide +kernel
theorem dX5_lowest_13 : decode cX5_lowest 13 = .ok (.aload_n 0, 1) := by decide +kernel
theorem dX5_lowest_14 : decode cX5_lowest 14 = .ok (.getfield 21, 3) := by decide +kernel
theorem dX5_lowest_17 : decode cX5_lowest 17 = .ok (.getfield 101, 3) := by decide +kernel
theorem dX5_lowest_20 : decode cX5_lowest 20 = .ok (.ifCond .eq 15, 3) := by decide +kernel
theorem dX5_lowest_23 : decode cX5_lowest 23 = .ok (.aload_n 0, 1) := by decide +kernel
theorem dX5_lowest_24 : decode cX5_lowest 24 = .ok (.getfield 21, 3) := by decide +kernel
theorem dX5_lowest_27 : decode cX5_lowest 27 = .ok (.getfield 108, 3) := by decide +kernel
theorem dX5_lowest_30 : decode cX5_lowest 30 = .ok (.iload_n 1, 1) := by decide +kernel
theorem dX5_lowest_31 : decode cX5_lowest 31 = .ok (.iaload, 1) := by decide +kernel
theorem dX5_lowest_32 : decode cX5_lowest 32 = .ok (.goto 5, 3) := by decide +kernel
theorem dX5_lowest_35 : decode cX5_lowest 35 = .ok (.bipush (-5), 2) := by decide +kernel
theorem dX5_lowest_37 : decode cX5_lowest 37 = .ok (.ireturn, 1) := by decide +kernel
def rX5_lowest : Room := { frames := 1, cells := 0, slots := 0, locals := 21 }
theorem yk_X5_lowest : YK yX5_lowest cX5_lowest 2 (some .int) 1 := ⟨xim_X5_lowest, xse_X5_lowest, xin_X5, xco_X5_lowest, by decide +kernel⟩
set_option maxRecDepth 4000 in
theorem c_X5_lowest {l : Launch} {D : va_G} {t : Nat → ClassId} {a : Nat → Nat} {I : Nat → Int32} {F : Nat → Nat → Int32} {L : Nat → Int64} {K : Cfg} {sd : Int32} {hd : Nat → Nat} {dk : Bool} {dw : Nat → Nat} {mt : Int32} (hI : INV (K, sd, hd, dk, dw, mt)) (hX : RX (K, sd, hd, dk, dw, mt) I F) (x : Int32) : CT l D t yX5_lowest cX5_lowest 2 (some .int) rX5_lowest 0 0 [.ref (a 0), .int x] (WX a t I F L) (XO a t (opLow (K, sd, hd, dk, dw, mt) x)) := by
  refine CT.of (by decide +kernel) (by simp [lg_sl, Value.category]) (fun X C hR => ?_)
  refine xlocals (lv' := [(0, .ref (a 0)), (1, .int x)]) rfl ?_
  obtain ⟨hK, hsd, hHd, hdk, hdr, hgd, hHS, hLS⟩ := id hX
  have hW : WFK K := hI.1
  have hrg := hI.2.1
  have fn24 := hW.n24; have fm60 := hW.m60; have fk2 := hW.k2; have fu1 := hW.u1; have fu9 := hW.u9; have fv1 := hW.v1; have fv9 := hW.v9
  refine xaload_n C 0 rfl dX5_lowest_0 ?_
  refine gX5_10 C dX5_lowest_1 ?_
  refine xiload_n C 1 rfl dX5_lowest_4 ?_
  refine xcVR C (c_X1_has hK hW x) yk_X1_has 1 rfl rfl xml_X5_68 ⟨⟨Nat.le_of_ble_eq_true rfl, Nat.le_of_ble_eq_true rfl⟩, ⟨rfl, rfl⟩, ⟨Nat.zero_le _, Nat.zero_le _⟩⟩ rfl (Nat.le_of_ble_eq_true rfl) dX5_lowest_5 ?_
  refine xif_neN C 13 dX5_lowest_8 (by decide) (bn_lt _) (fun h8 => ?_) (fun h8 => ?_)
  ·
    obtain ⟨p, hp, rfl⟩ := (bn_1 h8).nat hW
    refine xaload_n C 0 rfl dX5_lowest_13 ?_
    refine gX5_21 C dX5_lowest_14 ?_
    refine gX5_101 C dX5_lowest_17 ?_
    refine xtopi (y := nI (bn (GoodP K))) (hgd) ?_
    refine xif_eqN C 35 dX5_lowest_20 (by decide) (bn_lt _) (fun h20 => ?_) (fun h20 => ?_)
    ·
      refine xbipush (v := -5) C dX5_lowest_35 (by decide) ?_
      exact xret C hR (rfl) dX5_lowest_37 (XO.mk (by simp only [opLow]; rw [ci_f (fun q => q (hasP_nat hW hp)), ci_t (bn_0 h20)]) hX)
    ·
      refine xaload_n C 0 rfl dX5_lowest_23 ?_
      refine gX5_21 C dX5_lowest_24 ?_
      refine gX5_108 C dX5_lowest_27 ?_
      refine xiload_n C 1 rfl dX5_lowest_30 ?_
      refine xa_st C hW 7 (by omega) (by omega) hLS p (by omega) dX5_lowest_31 ?_
      have fb31 := (hLS p (by omega)).2
      refine xgoto C 37 dX5_lowest_32 (by decide) ?_
      exact xret C hR (rfl) dX5_lowest_37 (XO.mk (by simp only [opLow]; rw [ci_f (fun q => q (hasP_nat hW hp)), ci_f (fun q => q (bn_1 h20)), show cl (nI p) = p from nI_clamp (by omega)]) hX)
  ·
    have h8 := bn_0 h8
    refine xiconst (v := -1) C dX5_lowest_11 (by decide) ?_
    exact xret C hR (rfl) dX5_lowest_12 (XO.mk (by simp only [opLow]; rw [ci_t h8]) hX)
theorem dX5_at_0 : decode cX5_at 0 = .ok (.aload_n 0, 1) := by decide +kernel
theorem dX5_at_1 : decode cX5_at 1 = .ok (.getfield 10, 3) := by decide +kernel
theorem dX5_at_4 : decode cX5_at 4 = .ok (.iload_n 1, 1) := by decide +kernel
theorem dX5_at_5 : decode cX5_at 5 = .ok (.invokevirtual 68, 3) := by decide +kernel
theorem dX5_at_8 : decode cX5_at 8 = .ok (.ifCond .eq 12, 3) := by decide +kernel
theorem dX5_at_11 : decode cX5_at 11 = .ok (.aload_n 0, 1) := by decide +kernel
theorem dX5_at_12 : decode cX5_at 12 = .ok (.getfield 50, 3) := by decide +kernel
theorem dX5_at_15 : decode cX5_at 15 = .ok (.iload_n 1, 1) := by decide +kernel
theorem dX5_at_16 : decode cX5_at 16 = .ok (.iaload, 1) := by decide +kernel
theorem dX5_at_17 : decode cX5_at 17 = .ok (.goto 4, 3) := by decide +kernel
theorem dX5_at_20 : decode cX5_at 20 = .ok (.iconst (-1), 1) := by decide +kernel
theorem dX5_at_21 : decode cX5_at 21 = .ok (.ireturn, 1) := by decide +kernel
def rX5_at : Room := { frames := 1, cells := 0, slots := 0, locals := 21 }
theorem yk_X5_at : YK yX5_at cX5_at 2 (some .int) 1 := ⟨xim_X5_at, xse_X5_at, xin_X5, xco_X5_at, by decide +kernel⟩
set_option maxRecDepth 4000 in
theorem c_X5_at {l : Launch} {D : va_G} {t : Nat → ClassId} {a : Nat → Nat} {I : Nat → Int32} {F : Nat → Nat → Int32} {L : Nat → Int64} {K : Cfg} {sd : Int32} {hd : Nat → Nat} {dk : Bool} {dw : Nat → Nat} {mt : Int32} (hI : INV (K, sd, hd, dk, dw, mt)) (hX : RX (K, sd, hd, dk, dw, mt) I F) (x : Int32) : CT l D t yX5_at cX5_at 2 (some .int) rX5_at 0 0 [.ref (a 0), .int x] (WX a t I F L) (XO a t (opAt (K, sd, hd, dk, dw, mt) x)) := by
  refine CT.of (by decide +kernel) (by simp [lg_sl, Value.category]) (fun X C hR => ?_)
  refine xlocals (lv' := [(0, .ref (a 0)), (1, .int x)]) rfl ?_
  obtain ⟨hK, hsd, hHd, hdk, hdr, hgd, hHS, hLS⟩ := id hX
  have hW : WFK K := hI.1
  have hrg := hI.2.1
  have fn24 := hW.n24; have fm60 := hW.m60; have fk2 := hW.k2; have fu1 := hW.u1; have fu9 := hW.u9; have fv1 := hW.v1; have fv9 := hW.v9
  refine xaload_n C 0 rfl dX5_at_0 ?_
  refine gX5_10 C dX5_at_1 ?_
  refine xiload_n C 1 rfl dX5_at_4 ?_
  refine xcVR C (c_X1_has hK hW x) yk_X1_has 1 rfl rfl xml_X5_68 ⟨⟨Nat.le_of_ble_eq_true rfl, Nat.le_of_ble_eq_true rfl⟩, ⟨rfl, rfl⟩, ⟨Nat.zero_le _, Nat.zero_le _⟩⟩ rfl (Nat.le_of_ble_eq_true rfl) dX5_at_5 ?_
  refine xif_eqN C 20 dX5_at_8 (by decide) (bn_lt _) (fun h8 => ?_) (fun h8 => ?_)
  ·
    have h8 := bn_0 h8
    refine xiconst (v := -1) C dX5_at_20 (by decide) ?_
    exact xret C hR (rfl) dX5_at_21 (XO.mk (by simp only [opAt]; rw [ci_t h8]) hX)
  ·
    obtain ⟨p, hp, rfl⟩ := (bn_1 h8).nat hW
    refine xaload_n C 0 rfl dX5_at_11 ?_
    refine gX5_50 C dX5_at_12 ?_
    refine xiload_n C 1 rfl dX5_at_15 ?_
    refine xa_st C hW 12 (by omega) (by omega) hHd p (by omega) dX5_at_16 ?_
    have fb16 := (hHd p (by omega)).2
    refine xgoto C 21 dX5_at_17 (by decide) ?_
    exact xret C hR (rfl) dX5_at_21 (XO.mk (by simp only [opAt]; rw [ci_f (fun q => q (hasP_nat hW hp)), show cl (nI p) = p from nI_clamp (by omega)]) hX)
theorem dX5_put_0 : decode cX5_put 0 = .ok (.aload_n 0, 1) := by decide +kernel
theorem dX5_put_1 : decode cX5_put 1 = .ok (.getfield 10, 3) := by decide +kernel
theorem dX5_put_4 : decode cX5_put 4 = .ok (.iload_n 1, 1) := by decide +kernel
theorem dX5_put_5 : decode cX5_put 5 = .ok (.invokevirtual 68, 3) := by decide +kernel
theorem dX5_put_8 : decode cX5_put 8 = .ok (.ifCond .ne 5, 3) := by decide +kernel
theorem dX5_put_11 : decode cX5_put 11 = .ok (.iconst (-1), 1) := by decide +kernel
theorem dX5_put_12 : decode cX5_put 12 = .ok (.ireturn, 1) := by decide +kernel
theorem dX5_put_13 : decode cX5_put 13 = .ok (.iload_n 2, 1) := by decide +kernel
theorem dX5_put_14 : decode cX5_put 14 = .ok (.ifCond .lt 16, 3) := by decide +kernel
theorem dX5_put_17 : decode cX5_put 17 = .ok (.iload_n 2, 1) := by decide +kernel
theorem dX5_put_18 : decode cX5_put 18 = .ok (.aload_n 0, 1) := by decide +kernel
theorem dX5_put_19 : decode cX5_put 19 = .ok (.getfield 10, 3) := by decide +kernel
theorem dX5_put_22 : decode cX5_put 22 = .ok (.getfield 95, 3) := by decide +kernel
theorem dX5_put_25 : decode cX5_put 25 = .ok (.iload_n 1, 1) := by decide +kernel
theorem dX5_put_26 : decode cX5_put 26 = .ok (.iaload, 1) := by decide +kernel
theorem dX5_put_27 : decode cX5_put 27 = .ok (.if_icmp .le 6, 3) := by decide +kernel
theorem dX5_put_30 : decode cX5_put 30 = .ok (.bipush (-2), 2) := by decide +kernel
theorem dX5_put_32 : decode cX5_put 32 = .ok (.ireturn, 1) := by decide +kernel
theorem dX5_put_33 : decode cX5_put 33 = .ok (.aload_n 0, 1) := by decide +kernel
theorem dX5_put_34 : decode cX5_put 34 = .ok (.getfield 50, 3) := by decide +kernel
theorem dX5_put_37 : decode cX5_put 37 = .ok (.iload_n 1, 1) := by decide +kernel
theorem dX5_put_38 : decode cX5_put 38 = .ok (.iaload, 1) := by decide +kernel
theorem dX5_put_39 : decode cX5_put 39 = .ok (.istore_n 3, 1) := by decide +kernel
theorem dX5_put_40 : decode cX5_put 40 = .ok (.aload_n 0, 1) := by decide +kernel
theorem dX5_put_41 : decode cX5_put 41 = .ok (.getfield 50, 3) := by decide +kernel
theorem dX5_put_44 : decode cX5_put 44 = .ok (.iload_n 1, 1) := by decide +kernel
theorem dX5_put_45 : decode cX5_put 45 = .ok (.iload_n 2, 1) := by decide +kernel
theorem dX5_put_46 : decode cX5_put 46 = .ok (.iastore, 1) := by decide +kernel
theorem dX5_put_47 : decode cX5_put 47 = .ok (.aload_n 0, 1) := by decide +kernel
theorem dX5_put_48 : decode cX5_put 48 = .ok (.getfield 21, 3) := by decide +kernel
theorem dX5_put_51 : decode cX5_put 51 = .ok (.aload_n 0, 1) := by decide +kernel
theorem dX5_put_52 : decode cX5_put 52 = .ok (.getfield 50, 3) := by decide +kernel
theorem dX5_put_55 : decode cX5_put 55 = .ok (.invokevirtual 111, 3) := by decide +kernel
theorem dX5_put_58 : decode cX5_put 58 = .ok (.ifCond .ne 13, 3) := by decide +kernel
theorem dX5_put_61 : decode cX5_put 61 = .ok (.aload_n 0, 1) := by decide +kernel
theorem dX5_put_62 : decode cX5_put 62 = .ok (.getfield 50, 3) := by decide +kernel
theorem dX5_put_65 : decode cX5_put 65 = .ok (.iload_n 1, 1) := by decide +kernel
theorem dX5_put_66 : decode cX5_put 66 = .ok (.iload_n 3, 1) := by decide +kernel
theorem dX5_put_67 : decode cX5_put 67 = .ok (.iastore, 1) := by decide +kernel
theorem dX5_put_68 : decode cX5_put 68 = .ok (.bipush (-5), 2) := by decide +kernel
theorem dX5_put_70 : decode cX5_put 70 = .ok (.ireturn, 1) := by decide +kernel
theorem dX5_put_71 : decode cX5_put 71 = .ok (.iload_n 3, 1) := by decide +kernel
theorem dX5_put_72 : decode cX5_put 72 = .ok (.ireturn, 1) := by decide +kernel
def rX5_put : Room := { frames := 3, cells := 0, slots := 0, locals := 65 }
theorem yk_X5_put : YK yX5_put cX5_put 4 (some .int) 2 := ⟨xim_X5_put, xse_X5_put, xin_X5, xco_X5_put, by decide +kernel⟩
set_option maxRecDepth 4000 in
theorem c_X5_put {l : Launch} {D : va_G} {t : Nat → ClassId} {a : Nat → Nat} {I : Nat → Int32} {F : Nat → Nat → Int32} {L : Nat → Int64} {K : Cfg} {sd : Int32} {hd : Nat → Nat} {dk : Bool} {dw : Nat → Nat} {mt : Int32} (hI : INV (K, sd, hd, dk, dw, mt)) (hX : RX (K, sd, hd, dk, dw, mt) I F) (x y : Int32) : CT l D t yX5_put cX5_put 4 (some .int) rX5_put 0 0 [.ref (a 0), .int x, .int y] (WX a t I F L) (XO a t (opPut (K, sd, hd, dk, dw, mt) x y)) := by
  refine CT.of (by decide +kernel) (by simp [lg_sl, Value.category]) (fun X C hR => ?_)
  refine xlocals (lv' := [(0, .ref (a 0)), (1, .int x), (2, .int y)]) rfl ?_
  obtain ⟨hK, hsd, hHd, hdk, hdr, hgd, hHS, hLS⟩ := id hX
  have hW : WFK K := hI.1
  have hrg := hI.2.1
  have fn24 := hW.n24; have fm60 := hW.m60; have fk2 := hW.k2; have fu1 := hW.u1; have fu9 := hW.u9; have fv1 := hW.v1; have fv9 := hW.v9
  refine xaload_n C 0 rfl dX5_put_0 ?_
  refine gX5_10 C dX5_put_1 ?_
  refine xiload_n C 1 rfl dX5_put_4 ?_
  refine xcVR C (c_X1_has hK hW x) yk_X1_has 1 rfl rfl xml_X5_68 ⟨⟨Nat.le_of_ble_eq_true rfl, Nat.le_of_ble_eq_true rfl⟩, ⟨rfl, rfl⟩, ⟨Nat.zero_le _, Nat.zero_le _⟩⟩ rfl (Nat.le_of_ble_eq_true rfl) dX5_put_5 ?_
  refine xif_neN C 13 dX5_put_8 (by decide) (bn_lt _) (fun h8 => ?_) (fun h8 => ?_)
  ·
    obtain ⟨p, hp, rfl⟩ := (bn_1 h8).nat hW
    refine xiload_n C 2 rfl dX5_put_13 ?_
    refine xif_lt C 30 dX5_put_14 (by decide) (fun h14 => ?_) (fun h14 => ?_)
    ·
      refine xbipush (v := -2) C dX5_put_30 (by decide) ?_
      exact xret C hR (rfl) dX5_put_32 (XO.mk (by simp only [opPut]; rw [ci_f (fun q => q (hasP_nat hW hp)), show cl (nI p) = p from nI_clamp (by omega), ci_t (Or.inl h14)]) hX)
    ·
      refine xiload_n C 2 rfl dX5_put_17 ?_
      refine xaload_n C 0 rfl dX5_put_18 ?_
      refine gX5_10 C dX5_put_19 ?_
      refine gX5_95 C dX5_put_22 ?_
      refine xiload_n C 1 rfl dX5_put_25 ?_
      refine xa_top C hK hW p (by omega) dX5_put_26 ?_
      have fb26 := (hW.top5 (by omega))
      refine xicmp_le C 33 dX5_put_27 (by decide) (fun h27 => ?_) (fun h27 => ?_)
      ·
        have ht5 := hW.top5 hp
        obtain ⟨q, _, hq, rfl⟩ := boxN (a := 0) (by decide) (show ktop K p < 1000000 by omega) (by rw [nI_0]; exact h14) (Int32.not_lt.mpr h27)
        refine xaload_n C 0 rfl dX5_put_33 ?_
        refine gX5_50 C dX5_put_34 ?_
        refine xiload_n C 1 rfl dX5_put_37 ?_
        refine xa_st C hW 12 (by omega) (by omega) hHd p (by omega) dX5_put_38 ?_
        have fb38 := (hHd p (by omega)).2
        refine xistore_n (lv' := [(3, .int (nI (hd p))), (0, .ref (a 0)), (1, .int (nI p)), (2, .int (nI q))]) C dX5_put_39 (by decide) rfl ?_
        refine xaload_n C 1 rfl dX5_put_40 ?_
        refine gX5_50 C dX5_put_41 ?_
        refine xiload_n C 2 rfl dX5_put_44 ?_
        refine xiload_n C 3 rfl dX5_put_45 ?_
        refine xs_st C 12 (by omega) (by omega) p (by omega) dX5_put_46 ?_
        obtain ⟨FA, eFA⟩ : ∃ z : Nat → Nat → Int32, z = va_up F 12 (upd (F 12) p (nI q)) := ⟨_, rfl⟩
        refine xworld (ws' := WX a t I FA L) (by rw [eFA]) ?_
        have hHA : RA (kn K) (FA 12) (va_up hd p q) := by rw [eFA, va_up_self]; exact hHd.up (by omega)
        have hKA : CFG K I FA := by rw [eFA]; exact hK.upF (by omega) (by omega) _
        refine xaload_n C 1 rfl dX5_put_47 ?_
        refine gX5_21 C dX5_put_48 ?_
        refine xaload_n C 1 rfl dX5_put_51 ?_
        refine gX5_50 C dX5_put_52 ?_
        refine xcVR C (c_X2_isAllowed hKA hW 12 (by omega) (by omega) hHA) yk_X2_isAllowed 2 rfl rfl xml_X5_111 ⟨⟨Nat.le_of_ble_eq_true rfl, Nat.le_of_ble_eq_true rfl⟩, ⟨rfl, rfl⟩, ⟨Nat.zero_le _, Nat.zero_le _⟩⟩ rfl (Nat.le_of_ble_eq_true rfl) dX5_put_55 ?_
        have fq55 := bn_le (alP K (va_up hd p q))
        refine xif_neN C 71 dX5_put_58 (by decide) (bn_lt _) (fun h58 => ?_) (fun h58 => ?_)
        ·
          refine xiload_n C 0 rfl dX5_put_71 ?_
          exact xret C hR (rfl) dX5_put_72 (XO.mk (by simp only [opPut]; rw [ci_f (fun q => q (hasP_nat hW hp)), show cl (nI p) = p from nI_clamp (by omega), ci_f (fun q => q.elim h14 (fun q => absurd q (Int32.not_lt.mpr h27))), show cl (nI q) = q from nI_clamp (by omega), ci_f (fun q => q (bn_1 h58))]) (hX.hnd (fun z hz => by rw [eFA, va_up_ne _ _ hz]) hHA))
        ·
          refine xaload_n C 1 rfl dX5_put_61 ?_
          refine gX5_50 C dX5_put_62 ?_
          refine xiload_n C 2 rfl dX5_put_65 ?_
          refine xiload_n C 0 rfl dX5_put_66 ?_
          refine xs_st C 12 (by omega) (by omega) p (by omega) dX5_put_67 ?_
          obtain ⟨FB, eFB⟩ : ∃ z : Nat → Nat → Int32, z = va_up FA 12 (upd (FA 12) p (nI (hd p))) := ⟨_, rfl⟩
          refine xworld (ws' := WX a t I FB L) (by rw [eFB]) ?_
          refine xbipush (v := -5) C dX5_put_68 (by decide) ?_
          exact xret C hR (rfl) dX5_put_70 (XO.mk (by simp only [opPut]; rw [ci_f (fun q => q (hasP_nat hW hp)), show cl (nI p) = p from nI_clamp (by omega), ci_f (fun q => q.elim h14 (fun q => absurd q (Int32.not_lt.mpr h27))), show cl (nI q) = q from nI_clamp (by omega), ci_t (bn_0 h58)]) (hX.hnd (fun z hz => by rw [eFB, va_up_ne _ _ hz, eFA, va_up_ne _ _ hz]) (by rw [eFB, va_up_self, eFA, va_up_self]; exact hHd.back hp)))
      ·
        refine xbipush (v := -2) C dX5_put_30 (by decide) ?_
        exact xret C hR (rfl) dX5_put_32 (XO.mk (by simp only [opPut]; rw [ci_f (fun q => q (hasP_nat hW hp)), show cl (nI p) = p from nI_clamp (by omega), ci_t (Or.inr (Int32.not_le.mp h27))]) hX)
  ·
    have h8 := bn_0 h8
    refine xiconst (v := -1) C dX5_put_11 (by decide) ?_
    exact xret C hR (rfl) dX5_put_12 (XO.mk (by simp only [opPut]; rw [ci_t h8]) hX)
theorem dX5_take_0 : decode cX5_take 0 = .ok (.iload_n 1, 1) := by decide +kernel
theorem dX5_take_1 : decode cX5_take 1 = .ok (.ifCond .lt 8, 3) := by decide +kernel
theorem dX5_take_4 : decode cX5_take 4 = .ok (.iload_n 1, 1) := by decide +kernel
theorem dX5_take_5 : decode cX5_take 5 = .ok (.iconst 2, 1) := by decide +kernel
theorem dX5_take_6 : decode cX5_take 6 = .ok (.if_icmp .le 6, 3) := by decide +kernel
theorem dX5_take_9 : decode cX5_take 9 = .ok (.bipush (-2), 2) := by decide +kernel
theorem dX5_take_11 : decode cX5_take 11 = .ok (.ireturn, 1) := by decide +kernel
theorem dX5_take_12 : decode cX5_take 12 = .ok (.iload_n 1, 1) := by decide +kernel
theorem dX5_take_13 : decode cX5_take 13 = .ok (.iconst 2, 1) := by decide +kernel
theorem dX5_take_14 : decode cX5_take 14 = .ok (.if_icmp .ne 16, 3) := by decide +kernel
theorem dX5_take_17 : decode cX5_take 17 = .ok (.aload_n 0, 1) := by decide +kernel
theorem dX5_take_18 : decode cX5_take 18 = .ok (.getfield 39, 3) := by decide +kernel
theorem dX5_take_21 : decode cX5_take 21 = .ok (.getfield 115, 3) := by decide +kernel
theorem dX5_take_24 : decode cX5_take 24 = .ok (.ifCond .ne 6, 3) := by decide +kernel
theorem dX5_take_27 : decode cX5_take 27 = .ok (.bipush (-3), 2) := by decide +kernel
theorem dX5_take_29 : decode cX5_take 29 = .ok (.ireturn, 1) := by decide +kernel
theorem dX5_take_30 : decode cX5_take 30 = .ok (.aload_n 0, 1) := by decide +kernel
theorem dX5_take_31 : decode cX5_take 31 = .ok (.getfield 21, 3) := by decide +kernel
theorem dX5_take_34 : decode cX5_take 34 = .ok (.getfield 101, 3) := by decide +kernel
theorem dX5_take_37 : decode cX5_take 37 = .ok (.ifCond .ne 6, 3) := by decide +kernel
theorem dX5_take_40 : decode cX5_take 40 = .ok (.bipush (-5), 2) := by decide +kernel
theorem dX5_take_42 : decode cX5_take 42 = .ok (.ireturn, 1) := by decide +kernel
theorem dX5_take_43 : decode cX5_take 43 = .ok (.iload_n 1, 1) := by decide +kernel
theorem dX5_take_44 : decode cX5_take 44 = .ok (.ifCond .ne 13, 3) := by decide +kernel
theorem dX5_take_47 : decode cX5_take 47 = .ok (.aload_n 0, 1) := by decide +kernel
theorem dX5_take_48 : decode cX5_take 48 = .ok (.getfield 21, 3) := by decide +kernel
theorem dX5_take_51 : decode cX5_take 51 = .ok (.getfield 105, 3) := by decide +kernel
theorem dX5_take_54 : decode cX5_take 54 = .ok (.goto 25, 3) := by decide +kernel
theorem dX5_take_57 : decode cX5_take 57 = .ok (.iload_n 1, 1) := by decide +kernel
theorem dX5_take_58 : decode cX5_take 58 = .ok (.iconst 1, 1) := by decide +kernel
theorem dX5_take_59 : decode cX5_take 59 = .ok (.if_icmp .ne 13, 3) := by decide +kernel
theorem dX5_take_62 : decode cX5_take 62 = .ok (.aload_n 0, 1) := by decide +kernel
theorem dX5_take_63 : decode cX5_take 63 = .ok (.getfield 21, 3) := by decide +kernel
theorem dX5_take_66 : decode cX5_take 66 = .ok (.getfield 108, 3) := by decide +kernel
theorem dX5_take_69 : decode cX5_take 69 = .ok (.goto 10, 3) := by decide +kernel
theorem dX5_take_72 : decode cX5_take 72 = .ok (.aload_n 0, 1) := by decide +kernel
theorem dX5_take_73 : decode cX5_take 73 = .ok (.getfield 39, 3) := by decide +kernel
theorem dX5_take_76 : decode cX5_take 76 = .ok (.getfield 118, 3) := by decide +kernel
theorem dX5_take_79 : decode cX5_take 79 = .ok (.aload_n 0, 1) := by decide +kernel
theorem dX5_take_80 : decode cX5_take 80 = .ok (.getfield 50, 3) := by decide +kernel
theorem dX5_take_83 : decode cX5_take 83 = .ok (.invokestatic 121, 3) := by decide +kernel
theorem dX5_take_86 : decode cX5_take 86 = .ok (.iconst 1, 1) := by decide +kernel
theorem dX5_take_87 : decode cX5_take 87 = .ok (.ireturn, 1) := by decide +kernel
def rX5_take : Room := { frames := 2, cells := 0, slots := 0, locals := 60 }
theorem yk_X5_take : YK yX5_take cX5_take 2 (some .int) 1 := ⟨xim_X5_take, xse_X5_take, xin_X5, xco_X5_take, by decide +kernel⟩
set_option maxRecDepth 4000 in
theorem c_X5_take {l : Launch} {D : va_G} {t : Nat → ClassId} {a : Nat → Nat} {I : Nat → Int32} {F : Nat → Nat → Int32} {L : Nat → Int64} {K : Cfg} {sd : Int32} {hd : Nat → Nat} {dk : Bool} {dw : Nat → Nat} {mt : Int32} (hI : INV (K, sd, hd, dk, dw, mt)) (hX : RX (K, sd, hd, dk, dw, mt) I F) (x : Int32) : CT l D t yX5_take cX5_take 2 (some .int) rX5_take 0 0 [.ref (a 0), .int x] (WX a t I F L) (XO a t (opTake (K, sd, hd, dk, dw, mt) x)) := by
  refine CT.of (by decide +kernel) (by simp [lg_sl, Value.category]) (fun X C hR => ?_)
  refine xlocals (lv' := [(0, .ref (a 0)), (1, .int x)]) rfl ?_
  obtain ⟨hK, hsd, hHd, hdk, hdr, hgd, hHS, hLS⟩ := id hX
  have hW : WFK K := hI.1
  have hrg := hI.2.1
  have fn24 := hW.n24; have fm60 := hW.m60; have fk2 := hW.k2; have fu1 := hW.u1; have fu9 := hW.u9; have fv1 := hW.v1; have fv9 := hW.v9
  refine xiload_n C 1 rfl dX5_take_0 ?_
  refine xif_lt C 9 dX5_take_1 (by decide) (fun h1 => ?_) (fun h1 => ?_)
  ·
    refine xbipush (v := -2) C dX5_take_9 (by decide) ?_
    exact xret C hR (rfl) dX5_take_11 (XO.mk (by simp only [opTake]; rw [ci_t (Or.inl h1)]) hX)
  ·
    refine xiload_n C 1 rfl dX5_take_4 ?_
    refine xiconst (v := 2) C dX5_take_5 (by decide) ?_
    refine xicmp_le C 12 dX5_take_6 (by decide) (fun h6 => ?_) (fun h6 => ?_)
    ·
      refine xiload_n C 1 rfl dX5_take_12 ?_
      refine xiconst (v := 2) C dX5_take_13 (by decide) ?_
      refine xicmp_ne C 30 dX5_take_14 (by decide) (fun h14 => ?_) (fun h14 => ?_)
      ·
        refine xaload_n C 0 rfl dX5_take_30 ?_
        refine gX5_21 C dX5_take_31 ?_
        refine gX5_101 C dX5_take_34 ?_
        refine xtopi (y := nI (bn (GoodP K))) (hgd) ?_
        refine xif_neN C 43 dX5_take_37 (by decide) (bn_lt _) (fun h37 => ?_) (fun h37 => ?_)
        ·
          refine xiload_n C 1 rfl dX5_take_43 ?_
          refine xif_ne C 57 dX5_take_44 (by decide) (fun h44 => ?_) (fun h44 => ?_)
          ·
            refine xiload_n C 1 rfl dX5_take_57 ?_
            refine xiconst (v := 1) C dX5_take_58 (by decide) ?_
            refine xicmp_ne C 72 dX5_take_59 (by decide) (fun h59 => ?_) (fun h59 => ?_)
            ·
              exact absurd (show x = 2 from take2 h1 h6 h44 h59) h14
            ·
              refine xaload_n C 0 rfl dX5_take_62 ?_
              refine gX5_21 C dX5_take_63 ?_
              refine gX5_108 C dX5_take_66 ?_
              refine xgoto C 79 dX5_take_69 (by decide) ?_
              refine xaload_n C 0 rfl dX5_take_79 ?_
              refine gX5_50 C dX5_take_80 ?_
              refine xcSV C (c_X5_copyRow 7 12 (by decide) (by decide) (by decide) (by decide)) sk_X5_copyRow xml_X5_121 ⟨⟨Nat.le_of_ble_eq_true rfl, Nat.le_of_ble_eq_true rfl⟩, ⟨rfl, rfl⟩, ⟨Nat.zero_le _, Nat.zero_le _⟩⟩ rfl (Nat.le_of_ble_eq_true rfl) dX5_take_83 (fun wE hE => ?_)
              obtain ⟨FA, rfl, hFA, hFc⟩ := hE
              refine xiconst (v := nI 1) C dX5_take_86 (by decide) ?_
              exact xret C hR (rfl) dX5_take_87 (XO.mk (by simp only [opTake]; rw [ci_f (fun q => q.elim h1 (fun q => absurd q (Int32.not_lt.mpr h6))), ci_f (fun q => h14 q.1), ci_f (fun q => q (bn_1 h37)), ci_f h44, ci_t h59, nI_one]) (hX.hnd hFA (fun z hz => by rw [hFc z (by omega)]; exact hLS z hz)))
          ·
            refine xaload_n C 0 rfl dX5_take_47 ?_
            refine gX5_21 C dX5_take_48 ?_
            refine gX5_105 C dX5_take_51 ?_
            refine xgoto C 79 dX5_take_54 (by decide) ?_
            refine xaload_n C 0 rfl dX5_take_79 ?_
            refine gX5_50 C dX5_take_80 ?_
            refine xcSV C (c_X5_copyRow 6 12 (by decide) (by decide) (by decide) (by decide)) sk_X5_copyRow xml_X5_121 ⟨⟨Nat.le_of_ble_eq_true rfl, Nat.le_of_ble_eq_true rfl⟩, ⟨rfl, rfl⟩, ⟨Nat.zero_le _, Nat.zero_le _⟩⟩ rfl (Nat.le_of_ble_eq_true rfl) dX5_take_83 (fun wE hE => ?_)
            obtain ⟨FA, rfl, hFA, hFc⟩ := hE
            refine xiconst (v := nI 1) C dX5_take_86 (by decide) ?_
            exact xret C hR (rfl) dX5_take_87 (XO.mk (by simp only [opTake]; rw [ci_f (fun q => q.elim h1 (fun q => absurd q (Int32.not_lt.mpr h6))), ci_f (fun q => h14 q.1), ci_f (fun q => q (bn_1 h37)), ci_t h44, nI_one]) (hX.hnd hFA (fun z hz => by rw [hFc z (by omega)]; exact hHS z hz)))
        ·
          refine xbipush (v := -5) C dX5_take_40 (by decide) ?_
          exact xret C hR (rfl) dX5_take_42 (XO.mk (by simp only [opTake]; rw [ci_f (fun q => q.elim h1 (fun q => absurd q (Int32.not_lt.mpr h6))), ci_f (fun q => h14 q.1), ci_t (bn_0 h37)]) hX)
      ·
        refine xaload_n C 0 rfl dX5_take_17 ?_
        refine gX5_39 C dX5_take_18 ?_
        refine gX5_115 C dX5_take_21 ?_
        refine xtopi (y := nI (dkN dk)) (hdk) ?_
        have hdl := dkN_le dk
        refine xif_neN C 30 dX5_take_24 (by decide) (by omega) (fun h24 => ?_) (fun h24 => ?_)
        ·
          refine xaload_n C 0 rfl dX5_take_30 ?_
          refine gX5_21 C dX5_take_31 ?_
          refine gX5_101 C dX5_take_34 ?_
          refine xtopi (y := nI (bn (GoodP K))) (hgd) ?_
          refine xif_neN C 43 dX5_take_37 (by decide) (bn_lt _) (fun h37 => ?_) (fun h37 => ?_)
          ·
            refine xiload_n C 1 rfl dX5_take_43 ?_
            refine xif_ne C 57 dX5_take_44 (by decide) (fun h44 => ?_) (fun h44 => ?_)
            ·
              refine xiload_n C 1 rfl dX5_take_57 ?_
              refine xiconst (v := 1) C dX5_take_58 (by decide) ?_
              refine xicmp_ne C 72 dX5_take_59 (by decide) (fun h59 => ?_) (fun h59 => ?_)
              ·
                refine xaload_n C 0 rfl dX5_take_72 ?_
                refine gX5_39 C dX5_take_73 ?_
                refine gX5_118 C dX5_take_76 ?_
                refine xaload_n C 0 rfl dX5_take_79 ?_
                refine gX5_50 C dX5_take_80 ?_
                refine xcSV C (c_X5_copyRow 10 12 (by decide) (by decide) (by decide) (by decide)) sk_X5_copyRow xml_X5_121 ⟨⟨Nat.le_of_ble_eq_true rfl, Nat.le_of_ble_eq_true rfl⟩, ⟨rfl, rfl⟩, ⟨Nat.zero_le _, Nat.zero_le _⟩⟩ rfl (Nat.le_of_ble_eq_true rfl) dX5_take_83 (fun wE hE => ?_)
                obtain ⟨FA, rfl, hFA, hFc⟩ := hE
                refine xiconst (v := nI 1) C dX5_take_86 (by decide) ?_
                exact xret C hR (rfl) dX5_take_87 (XO.mk (by simp only [opTake]; rw [ci_f (fun q => q.elim h1 (fun q => absurd q (Int32.not_lt.mpr h6))), ci_f (fun q => by have := dk1 h24; rw [q.2] at this; cases this), ci_f (fun q => q (bn_1 h37)), ci_f h44, ci_f h59, nI_one]) (hX.hnd hFA (fun z hz => by rw [hFc z (by omega)]; exact (hdr (dk1 h24)).1 z hz)))
              ·
                refine xaload_n C 0 rfl dX5_take_62 ?_
                refine gX5_21 C dX5_take_63 ?_
                refine gX5_108 C dX5_take_66 ?_
                refine xgoto C 79 dX5_take_69 (by decide) ?_
                refine xaload_n C 0 rfl dX5_take_79 ?_
                refine gX5_50 C dX5_take_80 ?_
                refine xcSV C (c_X5_copyRow 7 12 (by decide) (by decide) (by decide) (by decide)) sk_X5_copyRow xml_X5_121 ⟨⟨Nat.le_of_ble_eq_true rfl, Nat.le_of_ble_eq_true rfl⟩, ⟨rfl, rfl⟩, ⟨Nat.zero_le _, Nat.zero_le _⟩⟩ rfl (Nat.le_of_ble_eq_true rfl) dX5_take_83 (fun wE hE => ?_)
                obtain ⟨FA, rfl, hFA, hFc⟩ := hE
                refine xiconst (v := nI 1) C dX5_take_86 (by decide) ?_
                exact xret C hR (rfl) dX5_take_87 (XO.mk (by simp only [opTake]; rw [ci_f (fun q => q.elim h1 (fun q => absurd q (Int32.not_lt.mpr h6))), ci_f (fun q => by have := dk1 h24; rw [q.2] at this; cases this), ci_f (fun q => q (bn_1 h37)), ci_f h44, ci_t h59, nI_one]) (hX.hnd hFA (fun z hz => by rw [hFc z (by omega)]; exact hLS z hz)))
            ·
              refine xaload_n C 0 rfl dX5_take_47 ?_
              refine gX5_21 C dX5_take_48 ?_
              refine gX5_105 C dX5_take_51 ?_
              refine xgoto C 79 dX5_take_54 (by decide) ?_
              refine xaload_n C 0 rfl dX5_take_79 ?_
              refine gX5_50 C dX5_take_80 ?_
              refine xcSV C (c_X5_copyRow 6 12 (by decide) (by decide) (by decide) (by decide)) sk_X5_copyRow xml_X5_121 ⟨⟨Nat.le_of_ble_eq_true rfl, Nat.le_of_ble_eq_true rfl⟩, ⟨rfl, rfl⟩, ⟨Nat.zero_le _, Nat.zero_le _⟩⟩ rfl (Nat.le_of_ble_eq_true rfl) dX5_take_83 (fun wE hE => ?_)
              obtain ⟨FA, rfl, hFA, hFc⟩ := hE
              refine xiconst (v := nI 1) C dX5_take_86 (by decide) ?_
              exact xret C hR (rfl) dX5_take_87 (XO.mk (by simp only [opTake]; rw [ci_f (fun q => q.elim h1 (fun q => absurd q (Int32.not_lt.mpr h6))), ci_f (fun q => by have := dk1 h24; rw [q.2] at this; cases this), ci_f (fun q => q (bn_1 h37)), ci_t h44, nI_one]) (hX.hnd hFA (fun z hz => by rw [hFc z (by omega)]; exact hHS z hz)))
          ·
            refine xbipush (v := -5) C dX5_take_40 (by decide) ?_
            exact xret C hR (rfl) dX5_take_42 (XO.mk (by simp only [opTake]; rw [ci_f (fun q => q.elim h1 (fun q => absurd q (Int32.not_lt.mpr h6))), ci_f (fun q => by have := dk1 h24; rw [q.2] at this; cases this), ci_t (bn_0 h37)]) hX)
        ·
          refine xbipush (v := -3) C dX5_take_27 (by decide) ?_
          exact xret C hR (rfl) dX5_take_29 (XO.mk (by simp only [opTake]; rw [ci_f (fun q => q.elim h1 (fun q => absurd q (Int32.not_lt.mpr h6))), ci_t ⟨h14, dk0 h24⟩]) hX)
    ·
      refine xbipush (v := -2) C dX5_take_9 (by decide) ?_
      exact xret C hR (rfl) dX5_take_11 (XO.mk (by simp only [opTake]; rw [ci_t (Or.inr (Int32.not_le.mp h6))]) hX)
theorem dX5_seed_0 : decode cX5_seed 0 = .ok (.aload_n 0, 1) := by decide +kernel
theorem dX5_seed_1 : decode cX5_seed 1 = .ok (.getfield 54, 3) := by decide +kernel
theorem dX5_seed_4 : decode cX5_seed 4 = .ok (.istore_n 2, 1) := by decide +kernel
theorem dX5_seed_5 : decode cX5_seed 5 = .ok (.aload_n 0, 1) := by decide +kernel
theorem dX5_seed_6 : decode cX5_seed 6 = .ok (.iload_n 1, 1) := by decide +kernel
theorem dX5_seed_7 : decode cX5_seed 7 = .ok (.putfield 54, 3) := by decide +kernel
theorem dX5_seed_10 : decode cX5_seed 10 = .ok (.iload_n 2, 1) := by decide +kernel
theorem dX5_seed_11 : decode cX5_seed 11 = .ok (.ireturn, 1) := by decide +kernel
def rX5_seed : Room := { frames := 0, cells := 0, slots := 0, locals := 0 }
theorem yk_X5_seed : YK yX5_seed cX5_seed 3 (some .int) 1 := ⟨xim_X5_seed, xse_X5_seed, xin_X5, xco_X5_seed, by decide +kernel⟩
set_option maxRecDepth 4000 in
theorem c_X5_seed {l : Launch} {D : va_G} {t : Nat → ClassId} {a : Nat → Nat} {I : Nat → Int32} {F : Nat → Nat → Int32} {L : Nat → Int64} {K : Cfg} {sd : Int32} {hd : Nat → Nat} {dk : Bool} {dw : Nat → Nat} {mt : Int32} (hI : INV (K, sd, hd, dk, dw, mt)) (hX : RX (K, sd, hd, dk, dw, mt) I F) (x : Int32) : CT l D t yX5_seed cX5_seed 3 (some .int) rX5_seed 0 0 [.ref (a 0), .int x] (WX a t I F L) (XO a t (opSeed (K, sd, hd, dk, dw, mt) x)) := by
  refine CT.of (by decide +kernel) (by simp [lg_sl, Value.category]) (fun X C hR => ?_)
  refine xlocals (lv' := [(0, .ref (a 0)), (1, .int x)]) rfl ?_
  obtain ⟨hK, hsd, hHd, hdk, hdr, hgd, hHS, hLS⟩ := id hX
  have hW : WFK K := hI.1
  have hrg := hI.2.1
  have fn24 := hW.n24; have fm60 := hW.m60; have fk2 := hW.k2; have fu1 := hW.u1; have fu9 := hW.u9; have fv1 := hW.v1; have fv9 := hW.v9
  refine xaload_n C 0 rfl dX5_seed_0 ?_
  refine gX5_54 C dX5_seed_1 ?_
  refine xtopi (y := sd) (hsd) ?_
  refine xistore_n (lv' := [(2, .int sd), (0, .ref (a 0)), (1, .int x)]) C dX5_seed_4 (by decide) rfl ?_
  refine xaload_n C 1 rfl dX5_seed_5 ?_
  refine xiload_n C 2 rfl dX5_seed_6 ?_
  refine pX5_54 C dX5_seed_7 ?_
  obtain ⟨IA, eIA⟩ : ∃ z : Nat → Int32, z = va_up I 10 x := ⟨_, rfl⟩
  refine xworld (ws' := WX a t IA F L) (by rw [eIA]) ?_
  refine xiload_n C 0 rfl dX5_seed_10 ?_
  exact xret C hR (rfl) dX5_seed_11 (XO.mk (by simp only [opSeed]) (hX.seed eIA))
end
section
/-! The class's calls, 2 (written by my program parts_x5b.py). -/
theorem lgZ (x y : Int64) : lg_cmp x y = if y.toInt < x.toInt then 1 else if x.toInt = y.toInt then 0 else -1 := by
  unfold lg_cmp
  have e1 : (x > y) = (y.toInt < x.toInt) := propext Int64.lt_iff_toInt_lt
  have e2 : (x = y) = (x.toInt = y.toInt) := propext Int64.toInt_inj.symm
  simp only [e1, e2]
theorem xlcmpZ_lt {X : XC} {l : Launch} {D : va_G} {t : Nat → ClassId} {cc : ByteArray} {own : String} {rm : Room} {nL : Nat} {k n : Nat} {ws : va_W} {lv : List (Nat × Value)} {pc : Nat} {st : List Value} (C : XK X l D t cc own rm nL) {x y : Int64} {off : Int} (tgt : Nat) (hd0 : decode cc pc = .ok (.lcmp, 1)) (hdg : decode cc (pc + 1) = .ok (.ifCond .lt off, 3)) (ht : ((pc + 1 : Nat) : Int) + off = (tgt : Int)) (kt : x.toInt < y.toInt → XW X k n ws lv tgt st) (kf : y.toInt ≤ x.toInt → XW X k n ws lv (pc + 4) st) : XW X k n ws lv pc (.long y :: .long x :: st) := by
  refine xlcmp C hd0 ?_
  rw [lgZ]
  refine xif_lt C tgt hdg ht (fun h => kt ?_) (fun h => kf ?_)
  · by_cases h1 : y.toInt < x.toInt
    · rw [if_pos h1] at h; exact absurd h (by decide)
    · rw [if_neg h1] at h
      by_cases h2 : x.toInt = y.toInt
      · rw [if_pos h2] at h; exact absurd h (by decide)
      · omega
  · by_cases h1 : y.toInt < x.toInt
    · omega
    · rw [if_neg h1] at h
      by_cases h2 : x.toInt = y.toInt
      · omega
      · rw [if_neg h2] at h; exact absurd (by decide) h
theorem xlcmpZ_le {X : XC} {l : Launch} {D : va_G} {t : Nat → ClassId} {cc : ByteArray} {own : String} {rm : Room} {nL : Nat} {k n : Nat} {ws : va_W} {lv : List (Nat × Value)} {pc : Nat} {st : List Value} (C : XK X l D t cc own rm nL) {x y : Int64} {off : Int} (tgt : Nat) (hd0 : decode cc pc = .ok (.lcmp, 1)) (hdg : decode cc (pc + 1) = .ok (.ifCond .le off, 3)) (ht : ((pc + 1 : Nat) : Int) + off = (tgt : Int)) (kt : x.toInt ≤ y.toInt → XW X k n ws lv tgt st) (kf : y.toInt < x.toInt → XW X k n ws lv (pc + 4) st) : XW X k n ws lv pc (.long y :: .long x :: st) := by
  refine xlcmp C hd0 ?_
  rw [lgZ]
  refine xif_le C tgt hdg ht (fun h => kt ?_) (fun h => kf ?_)
  · by_cases h1 : y.toInt < x.toInt
    · rw [if_pos h1] at h; exact absurd h (by decide)
    · omega
  · by_cases h1 : y.toInt < x.toInt
    · exact h1
    · rw [if_neg h1] at h
      by_cases h2 : x.toInt = y.toInt
      · rw [if_pos h2] at h; exact absurd (by decide) h
      · rw [if_neg h2] at h; exact absurd (by decide) h
theorem sub64 (x y : Int32) : (y.toInt64 - x.toInt64).toInt = y.toInt - x.toInt := by
  have h1 := x.toInt_lt
  have h2 := x.le_toInt
  have h3 := y.toInt_lt
  have h4 := y.le_toInt
  rw [Int64.toInt_sub, Int32.toInt_toInt64, Int32.toInt_toInt64]
  apply Int.bmod_eq_of_le <;> omega
theorem lN0 : (lN 0).toInt = 0 := by decide +kernel
theorem l20000 : (20000 : Int64).toInt = 20000 := by decide +kernel
theorem runlt {x y : Int32} (h : (y.toInt64 - x.toInt64).toInt < (lN 0).toInt) : y.toInt < x.toInt := by rw [sub64, lN0] at h; omega
theorem rungt {x y : Int32} (h : (20000 : Int64).toInt < (y.toInt64 - x.toInt64).toInt) : 20000 < y.toInt - x.toInt := by rw [sub64, l20000] at h; omega
theorem runok {x y : Int32} (h1 : (lN 0).toInt ≤ (y.toInt64 - x.toInt64).toInt) (h2 : (y.toInt64 - x.toInt64).toInt ≤ (20000 : Int64).toInt) : ¬ (y.toInt < x.toInt ∨ 20000 < y.toInt - x.toInt) := by rw [sub64, lN0] at h1; rw [sub64, l20000] at h2; omega
theorem runlen {x y : Int32} (h1 : (lN 0).toInt ≤ (y.toInt64 - x.toInt64).toInt) (h2 : (y.toInt64 - x.toInt64).toInt ≤ (20000 : Int64).toInt) : ∃ d : Nat, (y.toInt - x.toInt).toNat = d ∧ d ≤ 20000 ∧ y.toInt64 - x.toInt64 = lN d := by
  rw [sub64, lN0] at h1; rw [sub64, l20000] at h2
  refine ⟨(y.toInt - x.toInt).toNat, rfl, by omega, ?_⟩
  apply Int64.toInt_inj.mp
  rw [sub64, lN_toInt (by omega)]
  omega
theorem RX.draw {K : Cfg} {sd : Int32} {hd : Nat → Nat} {dk : Bool} {dw : Nat → Nat} {mt : Int32} {IB : Nat → Int32} {FB FC : Nat → Nat → Int32} {dw' : Nat → Nat} {mt' : Int32} (h : RX (K, sd, hd, dk, dw, mt) IB FB) (h7 : IB 7 = mt') (hL : RA (kn K) (FB 9) dw') (hF : ∀ q, q ≠ 10 → FC q = FB q) (hc : ∀ p, p < kn K → FC 10 p = FB 9 p) : RX (K, sd, hd, true, dw', mt') (va_up (va_up IB 8 (IB 7)) 9 (nI 1)) FC := by
  obtain ⟨h1, h2, h3, h4, h5, h6, h8, h9⟩ := h
  exact ⟨(h1.of (fun q hq => by rw [va_up_ne _ _ (by omega), va_up_ne _ _ (by omega)]) (fun q hq => hF q (by omega))), h2, by rw [hF 12 (by decide)]; exact h3, rfl, fun _ => ⟨fun p hp => by rw [hc p hp]; exact hL p hp, h7⟩, h6, by rw [hF 6 (by decide)]; exact h8, by rw [hF 7 (by decide)]; exact h9⟩
theorem tlN_go {K : Cfg} {y : Int32} {p i c e : Nat} (hc : tlN K y p i = some c) (hf : farN K (y + nI i) = some e) : tlN K y p (i + 1) = some (c + itN K (y + nI i) (lS K) (-nI (2 ^ e)) (2 ^ e) p) := by
  show (match tlN K y p i with | none => none | some c => match farN K (y + nI i) with | none => none | some e => some (c + itN K (y + nI i) (lS K) (-nI (2 ^ e)) (2 ^ e) p)) = _
  rw [hc, hf]
theorem tlN_fail {K : Cfg} {y : Int32} {p i c : Nat} (hc : tlN K y p i = some c) (hf : farN K (y + nI i) = none) : tlN K y p (i + 1) = none := by
  show (match tlN K y p i with | none => none | some c => match farN K (y + nI i) with | none => none | some e => some (c + itN K (y + nI i) (lS K) (-nI (2 ^ e)) (2 ^ e) p)) = _
  rw [hc, hf]
theorem tlN_none {K : Cfg} {y : Int32} {p i : Nat} (h : tlN K y p i = none) : ∀ {n : Nat}, i ≤ n → tlN K y p n = none
  | 0, hn => by obtain rfl : i = 0 := by omega
                exact h
  | n + 1, hn => by
    by_cases e : i = n + 1
    · subst e; exact h
    · show (match tlN K y p n with | none => none | some c => match farN K (y + nI n) with | none => none | some e => some (c + itN K (y + nI n) (lS K) (-nI (2 ^ e)) (2 ^ e) p)) = _
      rw [tlN_none h (show i ≤ n by omega)]
theorem nneq {c k : Nat} (hc : c < 100) (hk : k < 100) (h : c ≠ k) : ¬ nI c = nI k := fun e => h ((nI_eq (by omega) (by omega)).mp e)
theorem shN_nat {K : Cfg} {A w : Nat} (hw : w ≤ 1) : shN K A (nI w) = (if w = 0 then A else suN K 1 0 0) / Nat.gcd A (suN K 1 0 0) := by
  unfold shN
  by_cases e : w = 0
  · subst e; rw [if_pos rfl, ci_t (show nI 0 = 0 from nI_0)]
  · rw [if_neg e, ci_f (show ¬ nI w = 0 from nneq (k := 0) (by omega) (by omega) e)]
theorem sw07 (x : Int32) : x = 0 ∨ x = 1 ∨ x = 2 ∨ x = 3 ∨ x = 4 ∨ x = 5 ∨ x = 6 ∨ x = 7 ∨ (x.toInt < 0 ∨ 7 < x.toInt) := by
  rcases (show (x.toInt < 0 ∨ 7 < x.toInt) ∨ (0 ≤ x.toInt ∧ x.toInt ≤ 7) by omega) with h | ⟨h1, h2⟩
  · simp [h]
  · obtain ⟨q, _, hq, rfl⟩ := boxN (x := x) (a := 0) (b := 7) (by decide) (by decide) (fun h => by have := Int32.lt_iff_toInt_lt.mp h; rw [nI_toInt (by omega)] at this; omega) (fun h => by have := Int32.lt_iff_toInt_lt.mp h; rw [nI_toInt (by omega)] at this; omega)
    rcases (show q = 0 ∨ q = 1 ∨ q = 2 ∨ q = 3 ∨ q = 4 ∨ q = 5 ∨ q = 6 ∨ q = 7 by omega) with rfl | rfl | rfl | rfl | rfl | rfl | rfl | rfl <;> decide +kernel
theorem sw03 (x : Int32) : x = 0 ∨ x = 1 ∨ x = 2 ∨ x = 3 ∨ (x.toInt < 0 ∨ 3 < x.toInt) := by
  rcases (show (x.toInt < 0 ∨ 3 < x.toInt) ∨ (0 ≤ x.toInt ∧ x.toInt ≤ 3) by omega) with h | ⟨h1, h2⟩
  · simp [h]
  · obtain ⟨q, _, hq, rfl⟩ := boxN (x := x) (a := 0) (b := 3) (by decide) (by decide) (fun h => by have := Int32.lt_iff_toInt_lt.mp h; rw [nI_toInt (by omega)] at this; omega) (fun h => by have := Int32.lt_iff_toInt_lt.mp h; rw [nI_toInt (by omega)] at this; omega)
    rcases (show q = 0 ∨ q = 1 ∨ q = 2 ∨ q = 3 by omega) with rfl | rfl | rfl | rfl <;> decide +kernel
theorem lt16 {y : Int32} (h : y < 16) : ¬ nI 15 < y := by
  intro q
  have h1 := Int32.lt_iff_toInt_lt.mp h
  have h2 := Int32.lt_iff_toInt_lt.mp q
  rw [nI_toInt (by omega)] at h2
  have h3 : (16 : Int32).toInt = 16 := by decide +kernel
  omega
theorem ge16 {y : Int32} (h : ¬ y < 16) : 15 < y := by
  apply Int32.lt_iff_toInt_lt.mpr
  have h1 := Int32.le_iff_toInt_le.mp (Int32.not_lt.mp h)
  have h3 : (16 : Int32).toInt = 16 := by decide +kernel
  have h4 : (15 : Int32).toInt = 15 := by decide +kernel
  omega
theorem not1015 {c : Nat} (h1 : 10 ≤ c) (h2 : c ≤ 15) : ¬ (nI c < 10 ∨ 15 < nI c) := by
  rcases (show c = 10 ∨ c = 11 ∨ c = 12 ∨ c = 13 ∨ c = 14 ∨ c = 15 by omega) with rfl | rfl | rfl | rfl | rfl | rfl <;> decide +kernel
/-- every state of a small system is gone through -/
def enc (K : Cfg) (f : Nat → Nat) : Nat → Nat
  | 0 => 0
  | q + 1 => enc K f q + f q * pr (gN K) q
theorem enc_lt {K : Cfg} {f : Nat → Nat} : ∀ {q : Nat}, (∀ p, p < q → f p ≤ mostN K p) → enc K f q < pr (gN K) q
  | 0, _ => Nat.one_pos
  | q + 1, h => by
    show enc K f q + f q * pr (gN K) q < pr (gN K) q * gN K q
    have h1 := enc_lt (q := q) (fun p hp => h p (by omega))
    have h2 := Nat.mul_le_mul (h q (by omega)) (Nat.le_refl (pr (gN K) q))
    have h3 : pr (gN K) q * gN K q = mostN K q * pr (gN K) q + pr (gN K) q := by
      show pr (gN K) q * (mostN K q + 1) = _
      rw [Nat.mul_add, Nat.mul_one, Nat.mul_comm]
    omega
theorem enc_dg {K : Cfg} {f : Nat → Nat} : ∀ {q : Nat}, (∀ p, p < q → f p ≤ mostN K p) → ∀ p, p < q → dgN K (enc K f q) p = f p
  | 0, _, p, hp => by omega
  | q + 1, h, p, hp => by
    have h1 := enc_lt (q := q) (fun p hp => h p (by omega))
    unfold dgN
    show (enc K f q + f q * pr (gN K) q) / pr (gN K) p % gN K p = f p
    by_cases e : p = q
    · subst e
      rw [Nat.add_mul_div_right _ _ (pr_pos (gN_pos K) p), Nat.div_eq_of_lt h1, Nat.zero_add]
      exact Nat.mod_eq_of_lt (by have := h p (by omega); show f p < mostN K p + 1; omega)
    · obtain ⟨c, hc⟩ := pr_split1 (gN K) (show p < q by omega)
      have e2 : f q * pr (gN K) q = (f q * c * gN K p) * pr (gN K) p := by rw [hc]; simp only [Nat.mul_comm, Nat.mul_left_comm, Nat.mul_assoc]
      rw [e2, Nat.add_mul_div_right _ _ (pr_pos (gN_pos K) p), Nat.add_mul_mod_self_right]
      exact enc_dg (fun p hp => h p (by omega)) p (by omega)
theorem woN_congr {K : Cfg} (hW : WFK K) {f g : Nat → Nat} (h : ∀ p, p < kn K → f p = g p) : woN K f = woN K g := by
  unfold woN
  rw [pr_congr (fun p hp => by rw [h p hp]), pr_congr (k := km K) (g := fun k => lwN K (f (kla K k)) (f (klb K k))) (g' := fun k => lwN K (g (kla K k)) (g (klb K k))) (fun k hk => by rw [h _ (hW.la hk), h _ (hW.lb hk)])]
theorem pr_zero {g : Nat → Nat} : ∀ {k : Nat}, pr g k ≠ 0 ↔ ∀ j, j < k → g j ≠ 0
  | 0 => ⟨fun _ j hj => by omega, fun _ => Nat.one_ne_zero⟩
  | k + 1 => by
    show pr g k * g k ≠ 0 ↔ _
    constructor
    · intro h j hj e
      by_cases ej : j = k
      · subst ej; exact h (by rw [e, Nat.mul_zero])
      · exact (pr_zero (k := k)).mp (fun q => h (by rw [q, Nat.zero_mul])) j (by omega) e
    · intro h q
      rcases Nat.mul_eq_zero.mp q with q | q
      · exact (pr_zero (k := k)).mpr (fun j hj => h j (by omega)) q
      · exact h k (by omega) q
theorem woN_al {K : Cfg} {f : Nat → Nat} : woN K f ≠ 0 ↔ alP K f := by
  unfold woN alP
  rw [← pr_zero (g := fun p => pwN K p (f p)), ← pr_zero (g := fun k => lwN K (f (kla K k)) (f (klb K k)))]
  constructor
  · intro h
    exact ⟨fun q => h (by rw [q, Nat.zero_mul]), fun q => h (by rw [q, Nat.mul_zero])⟩
  · intro ⟨h1, h2⟩ q
    rcases Nat.mul_eq_zero.mp q with q | q
    · exact h1 q
    · exact h2 q
theorem sm_pos {g : Nat → Nat} : ∀ {k i : Nat}, i < k → 0 < g i → 0 < sm g k
  | 0, i, h, _ => by omega
  | k + 1, i, h, hp => by
    show 0 < sm g k + g k
    by_cases e : i = k
    · subst e; omega
    · have := sm_pos (show i < k by omega) hp; omega
theorem al_most {K : Cfg} {f : Nat → Nat} (h : alP K f) {p : Nat} (hp : p < kn K) : f p ≤ mostN K p := by
  rcases Nat.lt_or_ge (mostN K p) (f p) with q | q
  · exact absurd (by unfold pwN; rw [if_pos (Or.inl q)]) (h.1 p hp)
  · exact q
theorem suN_pos {K : Cfg} {hd : Nat → Nat} (hW : WFK K) (hg : GoodP K) (h : alP K hd) : 0 < suN K 1 0 0 := by
  have hm : ∀ p, p < kn K → hd p ≤ mostN K p := fun p hp => al_most h hp
  refine sm_pos (i := enc K hd (kn K)) (enc_lt hm) ?_
  show 0 < woN K (dgN K (enc K hd (kn K)))
  rw [woN_congr hW (enc_dg hm)]
  have := woN_al.mpr h
  omega
theorem dX5_tick_0 : decode cX5_tick 0 = .ok (.iload_n 2, 1) := by decide +kernel
theorem dX5_tick_1 : decode cX5_tick 1 = .ok (.ifCond .lt 8, 3) := by decide +kernel
theorem dX5_tick_4 : decode cX5_tick 4 = .ok (.iload_n 2, 1) := by decide +kernel
theorem dX5_tick_5 : decode cX5_tick 5 = .ok (.iconst 1, 1) := by decide +kernel
theorem dX5_tick_6 : decode cX5_tick 6 = .ok (.if_icmp .le 6, 3) := by decide +kernel
theorem dX5_tick_9 : decode cX5_tick 9 = .ok (.bipush (-2), 2) := by decide +kernel
theorem dX5_tick_11 : decode cX5_tick 11 = .ok (.ireturn, 1) := by decide +kernel
theorem dX5_tick_12 : decode cX5_tick 12 = .ok (.aload_n 0, 1) := by decide +kernel
theorem dX5_tick_13 : decode cX5_tick 13 = .ok (.getfield 10, 3) := by decide +kernel
theorem dX5_tick_16 : decode cX5_tick 16 = .ok (.getfield 58, 3) := by decide +kernel
theorem dX5_tick_19 : decode cX5_tick 19 = .ok (.ifCond .ne 6, 3) := by decide +kernel
theorem dX5_tick_22 : decode cX5_tick 22 = .ok (.bipush (-3), 2) := by decide +kernel
theorem dX5_tick_24 : decode cX5_tick 24 = .ok (.ireturn, 1) := by decide +kernel
theorem dX5_tick_25 : decode cX5_tick 25 = .ok (.aload_n 0, 1) := by decide +kernel
theorem dX5_tick_26 : decode cX5_tick 26 = .ok (.getfield 54, 3) := by decide +kernel
theorem dX5_tick_29 : decode cX5_tick 29 = .ok (.iload_n 1, 1) := by decide +kernel
theorem dX5_tick_30 : decode cX5_tick 30 = .ok (.invokestatic 125, 3) := by decide +kernel
theorem dX5_tick_33 : decode cX5_tick 33 = .ok (.istore_n 3, 1) := by decide +kernel
theorem dX5_tick_34 : decode cX5_tick 34 = .ok (.iload_n 2, 1) := by decide +kernel
theorem dX5_tick_35 : decode cX5_tick 35 = .ok (.ifCond .ne 14, 3) := by decide +kernel
theorem dX5_tick_38 : decode cX5_tick 38 = .ok (.aload_n 0, 1) := by decide +kernel
theorem dX5_tick_39 : decode cX5_tick 39 = .ok (.getfield 30, 3) := by decide +kernel
theorem dX5_tick_42 : decode cX5_tick 42 = .ok (.iload_n 3, 1) := by decide +kernel
theorem dX5_tick_43 : decode cX5_tick 43 = .ok (.invokevirtual 128, 3) := by decide +kernel
theorem dX5_tick_46 : decode cX5_tick 46 = .ok (.goto 7, 3) := by decide +kernel
theorem dX5_tick_49 : decode cX5_tick 49 = .ok (.iload_n 3, 1) := by decide +kernel
theorem dX5_tick_50 : decode cX5_tick 50 = .ok (.invokestatic 132, 3) := by decide +kernel
theorem dX5_tick_53 : decode cX5_tick 53 = .ok (.ireturn, 1) := by decide +kernel
def rX5_tick : Room := { frames := 1, cells := 0, slots := 0, locals := 22 }
theorem yk_X5_tick : YK yX5_tick cX5_tick 4 (some .int) 2 := ⟨xim_X5_tick, xse_X5_tick, xin_X5, xco_X5_tick, by decide +kernel⟩
set_option maxRecDepth 4000 in
theorem c_X5_tick {l : Launch} {D : va_G} {t : Nat → ClassId} {a : Nat → Nat} {I : Nat → Int32} {F : Nat → Nat → Int32} {L : Nat → Int64} {K : Cfg} {sd : Int32} {hd : Nat → Nat} {dk : Bool} {dw : Nat → Nat} {mt : Int32} (hI : INV (K, sd, hd, dk, dw, mt)) (hX : RX (K, sd, hd, dk, dw, mt) I F) (x y : Int32) : CT l D t yX5_tick cX5_tick 4 (some .int) rX5_tick 0 0 [.ref (a 0), .int x, .int y] (WX a t I F L) (XO a t (opTick (K, sd, hd, dk, dw, mt) x y)) := by
  refine CT.of (by decide +kernel) (by simp [lg_sl, Value.category]) (fun X C hR => ?_)
  refine xlocals (lv' := [(0, .ref (a 0)), (1, .int x), (2, .int y)]) rfl ?_
  obtain ⟨hK, hsd, hHd, hdk, hdr, hgd, hHS, hLS⟩ := id hX
  have hW : WFK K := hI.1
  have hrg := hI.2.1
  have fn24 := hW.n24; have fm60 := hW.m60; have fk2 := hW.k2; have fu1 := hW.u1; have fu9 := hW.u9; have fv1 := hW.v1; have fv9 := hW.v9
  refine xiload_n C 2 rfl dX5_tick_0 ?_
  refine xif_lt C 9 dX5_tick_1 (by decide) (fun h1 => ?_) (fun h1 => ?_)
  ·
    refine xbipush (v := -2) C dX5_tick_9 (by decide) ?_
    exact xret C hR (rfl) dX5_tick_11 (XO.mk (by simp only [opTick]; rw [ci_t (Or.inl h1)]) hX)
  ·
    refine xiload_n C 2 rfl dX5_tick_4 ?_
    refine xiconst (v := 1) C dX5_tick_5 (by decide) ?_
    refine xicmp_le C 12 dX5_tick_6 (by decide) (fun h6 => ?_) (fun h6 => ?_)
    ·
      refine xaload_n C 0 rfl dX5_tick_12 ?_
      refine gX5_10 C dX5_tick_13 ?_
      refine gX5_58K C hK dX5_tick_16 ?_
      refine xif_neN C 25 dX5_tick_19 (by decide) (by omega) (fun h19 => ?_) (fun h19 => ?_)
      ·
        have hn : 0 < kn K := by omega
        refine xaload_n C 0 rfl dX5_tick_25 ?_
        refine gX5_54 C dX5_tick_26 ?_
        refine xtopi (y := sd) (hsd) ?_
        refine xiload_n C 1 rfl dX5_tick_29 ?_
        refine xcSR C (c_X4_mixed sd x) sk_X4_mixed xml_X5_125 ⟨⟨Nat.le_of_ble_eq_true rfl, Nat.le_of_ble_eq_true rfl⟩, ⟨rfl, rfl⟩, ⟨Nat.zero_le _, Nat.zero_le _⟩⟩ rfl (Nat.le_of_ble_eq_true rfl) dX5_tick_30 ?_
        refine xistore_n (lv' := [(3, .int (mixI sd x)), (0, .ref (a 0)), (1, .int x), (2, .int y)]) C dX5_tick_33 (by decide) rfl ?_
        refine xiload_n C 3 rfl dX5_tick_34 ?_
        refine xif_ne C 49 dX5_tick_35 (by decide) (fun h35 => ?_) (fun h35 => ?_)
        ·
          refine xiload_n C 0 rfl dX5_tick_49 ?_
          refine xcSR C (c_X4_lotOf (mixI sd x)) sk_X4_lotOf xml_X5_132 ⟨⟨Nat.le_of_ble_eq_true rfl, Nat.le_of_ble_eq_true rfl⟩, ⟨rfl, rfl⟩, ⟨Nat.zero_le _, Nat.zero_le _⟩⟩ rfl (Nat.le_of_ble_eq_true rfl) dX5_tick_50 ?_
          have fl50 := lotN_lt (mixI sd x)
          exact xret C hR (rfl) dX5_tick_53 (XO.mk (by simp only [opTick]; rw [ci_f (fun q => q.elim h1 (fun q => absurd q (Int32.not_lt.mpr h6))), ci_f h19, ci_f h35]) hX)
        ·
          refine xaload_n C 1 rfl dX5_tick_38 ?_
          refine gX5_30 C dX5_tick_39 ?_
          refine xiload_n C 0 rfl dX5_tick_42 ?_
          refine xcVR C (c_X4_placeOf hK hW hn (mixI sd x)) yk_X4_placeOf 3 rfl rfl xml_X5_128 ⟨⟨Nat.le_of_ble_eq_true rfl, Nat.le_of_ble_eq_true rfl⟩, ⟨rfl, rfl⟩, ⟨Nat.zero_le _, Nat.zero_le _⟩⟩ rfl (Nat.le_of_ble_eq_true rfl) dX5_tick_43 ?_
          have fp43 : plN K (mixI sd x) < kn K := Nat.mod_lt _ hn
          refine xgoto C 53 dX5_tick_46 (by decide) ?_
          exact xret C hR (rfl) dX5_tick_53 (XO.mk (by simp only [opTick]; rw [ci_f (fun q => q.elim h1 (fun q => absurd q (Int32.not_lt.mpr h6))), ci_f h19, ci_t h35]) hX)
      ·
        refine xbipush (v := -3) C dX5_tick_22 (by decide) ?_
        exact xret C hR (rfl) dX5_tick_24 (XO.mk (by simp only [opTick]; rw [ci_f (fun q => q.elim h1 (fun q => absurd q (Int32.not_lt.mpr h6))), ci_t h19]) hX)
    ·
      refine xbipush (v := -2) C dX5_tick_9 (by decide) ?_
      exact xret C hR (rfl) dX5_tick_11 (XO.mk (by simp only [opTick]; rw [ci_t (Or.inr (Int32.not_le.mp h6))]) hX)
theorem dX5_run_0 : decode cX5_run 0 = .ok (.iload_n 2, 1) := by decide +kernel
theorem dX5_run_1 : decode cX5_run 1 = .ok (.i2l, 1) := by decide +kernel
theorem dX5_run_2 : decode cX5_run 2 = .ok (.iload_n 1, 1) := by decide +kernel
theorem dX5_run_3 : decode cX5_run 3 = .ok (.i2l, 1) := by decide +kernel
theorem dX5_run_4 : decode cX5_run 4 = .ok (.lsub, 1) := by decide +kernel
theorem dX5_run_5 : decode cX5_run 5 = .ok (.lstore_n 3, 1) := by decide +kernel
theorem dX5_run_6 : decode cX5_run 6 = .ok (.lload_n 3, 1) := by decide +kernel
theorem dX5_run_7 : decode cX5_run 7 = .ok (.lconst 0, 1) := by decide +kernel
theorem dX5_run_8 : decode cX5_run 8 = .ok (.lcmp, 1) := by decide +kernel
theorem dX5_run_9 : decode cX5_run 9 = .ok (.ifCond .lt 11, 3) := by decide +kernel
theorem dX5_run_12 : decode cX5_run 12 = .ok (.lload_n 3, 1) := by decide +kernel
theorem dX5_run_13 : decode cX5_run 13 = .ok (.ldc2_w 135, 3) := by decide +kernel
theorem dX5_run_16 : decode cX5_run 16 = .ok (.lcmp, 1) := by decide +kernel
theorem dX5_run_17 : decode cX5_run 17 = .ok (.ifCond .le 6, 3) := by decide +kernel
theorem dX5_run_20 : decode cX5_run 20 = .ok (.bipush (-2), 2) := by decide +kernel
theorem dX5_run_22 : decode cX5_run 22 = .ok (.ireturn, 1) := by decide +kernel
theorem dX5_run_23 : decode cX5_run 23 = .ok (.aload_n 0, 1) := by decide +kernel
theorem dX5_run_24 : decode cX5_run 24 = .ok (.getfield 21, 3) := by decide +kernel
theorem dX5_run_27 : decode cX5_run 27 = .ok (.getfield 101, 3) := by decide +kernel
theorem dX5_run_30 : decode cX5_run 30 = .ok (.ifCond .ne 6, 3) := by decide +kernel
theorem dX5_run_33 : decode cX5_run 33 = .ok (.bipush (-5), 2) := by decide +kernel
theorem dX5_run_35 : decode cX5_run 35 = .ok (.ireturn, 1) := by decide +kernel
theorem dX5_run_36 : decode cX5_run 36 = .ok (.iconst 0, 1) := by decide +kernel
theorem dX5_run_37 : decode cX5_run 37 = .ok (.istore 5, 2) := by decide +kernel
theorem dX5_run_39 : decode cX5_run 39 = .ok (.iconst 0, 1) := by decide +kernel
theorem dX5_run_40 : decode cX5_run 40 = .ok (.istore 6, 2) := by decide +kernel
theorem dX5_run_42 : decode cX5_run 42 = .ok (.iload 6, 2) := by decide +kernel
theorem dX5_run_44 : decode cX5_run 44 = .ok (.i2l, 1) := by decide +kernel
theorem dX5_run_45 : decode cX5_run 45 = .ok (.lload_n 3, 1) := by decide +kernel
theorem dX5_run_46 : decode cX5_run 46 = .ok (.lcmp, 1) := by decide +kernel
theorem dX5_run_47 : decode cX5_run 47 = .ok (.ifCond .ge 34, 3) := by decide +kernel
theorem dX5_run_50 : decode cX5_run 50 = .ok (.aload_n 0, 1) := by decide +kernel
theorem dX5_run_51 : decode cX5_run 51 = .ok (.getfield 30, 3) := by decide +kernel
theorem dX5_run_54 : decode cX5_run 54 = .ok (.aload_n 0, 1) := by decide +kernel
theorem dX5_run_55 : decode cX5_run 55 = .ok (.getfield 50, 3) := by decide +kernel
theorem dX5_run_58 : decode cX5_run 58 = .ok (.aload_n 0, 1) := by decide +kernel
theorem dX5_run_59 : decode cX5_run 59 = .ok (.getfield 54, 3) := by decide +kernel
theorem dX5_run_62 : decode cX5_run 62 = .ok (.iload_n 1, 1) := by decide +kernel
theorem dX5_run_63 : decode cX5_run 63 = .ok (.iload 6, 2) := by decide +kernel
theorem dX5_run_65 : decode cX5_run 65 = .ok (.iadd, 1) := by decide +kernel
theorem dX5_run_66 : decode cX5_run 66 = .ok (.invokevirtual 137, 3) := by decide +kernel
theorem dX5_run_69 : decode cX5_run 69 = .ok (.ifCond .eq 6, 3) := by decide +kernel
theorem dX5_run_72 : decode cX5_run 72 = .ok (.iinc 5 1, 3) := by decide +kernel
theorem dX5_run_75 : decode cX5_run 75 = .ok (.iinc 6 1, 3) := by decide +kernel
theorem dX5_run_78 : decode cX5_run 78 = .ok (.goto (-36), 3) := by decide +kernel
theorem dX5_run_81 : decode cX5_run 81 = .ok (.iload 5, 2) := by decide +kernel
theorem dX5_run_83 : decode cX5_run 83 = .ok (.ireturn, 1) := by decide +kernel
def rX5_run : Room := { frames := 5, cells := 0, slots := 0, locals := 125 }
theorem yk_X5_run : YK yX5_run cX5_run 7 (some .int) 2 := ⟨xim_X5_run, xse_X5_run, xin_X5, xco_X5_run, by decide +kernel⟩
set_option maxRecDepth 4000 in
theorem c_X5_run {l : Launch} {D : va_G} {t : Nat → ClassId} {a : Nat → Nat} {I : Nat → Int32} {F : Nat → Nat → Int32} {L : Nat → Int64} {K : Cfg} {sd : Int32} {hd : Nat → Nat} {dk : Bool} {dw : Nat → Nat} {mt : Int32} (hI : INV (K, sd, hd, dk, dw, mt)) (hX : RX (K, sd, hd, dk, dw, mt) I F) (x y : Int32) : CT l D t yX5_run cX5_run 7 (some .int) rX5_run 0 0 [.ref (a 0), .int x, .int y] (WX a t I F L) (XO a t (opRun (K, sd, hd, dk, dw, mt) x y)) := by
  refine CT.of (by decide +kernel) (by simp [lg_sl, Value.category]) (fun X C hR => ?_)
  refine xlocals (lv' := [(0, .ref (a 0)), (1, .int x), (2, .int y)]) rfl ?_
  obtain ⟨hK, hsd, hHd, hdk, hdr, hgd, hHS, hLS⟩ := id hX
  have hW : WFK K := hI.1
  have hrg := hI.2.1
  have fn24 := hW.n24; have fm60 := hW.m60; have fk2 := hW.k2; have fu1 := hW.u1; have fu9 := hW.u9; have fv1 := hW.v1; have fv9 := hW.v9
  refine xiload_n C 2 rfl dX5_run_0 ?_
  refine xi2l C dX5_run_1 ?_
  refine xiload_n C 1 rfl dX5_run_2 ?_
  refine xi2l C dX5_run_3 ?_
  refine xlsub C dX5_run_4 ?_
  refine xlstore_n (lv' := [(3, .long (y.toInt64 - x.toInt64)), (0, .ref (a 0)), (1, .int x), (2, .int y)]) C dX5_run_5 (by decide) rfl ?_
  refine xlload_n C 0 rfl dX5_run_6 ?_
  refine xlconst (v := lN 0) C dX5_run_7 (by decide) ?_
  refine xlcmpZ_lt C 20 dX5_run_8 dX5_run_9 (by decide) (fun h8 => ?_) (fun h8 => ?_)
  ·
    refine xbipush (v := -2) C dX5_run_20 (by decide) ?_
    exact xret C hR (rfl) dX5_run_22 (XO.mk (by simp only [opRun]; rw [ci_t (Or.inl (runlt h8))]) hX)
  ·
    refine xlload_n C 0 rfl dX5_run_12 ?_
    refine xldc2 C dX5_run_13 xcn_X5_135 ?_
    refine xlcmpZ_le C 23 dX5_run_16 dX5_run_17 (by decide) (fun h16 => ?_) (fun h16 => ?_)
    ·
      refine xaload_n C 1 rfl dX5_run_23 ?_
      refine gX5_21 C dX5_run_24 ?_
      refine gX5_101 C dX5_run_27 ?_
      refine xtopi (y := nI (bn (GoodP K))) (hgd) ?_
      refine xif_neN C 36 dX5_run_30 (by decide) (bn_lt _) (fun h30 => ?_) (fun h30 => ?_)
      ·
        have hn : 0 < kn K := (bn_1 h30).1
        obtain ⟨d, hd0, hd2, hd3⟩ := runlen h8 h16
        refine xlocals (lv' := [(3, .long (lN d)), (0, .ref (a 0)), (1, .int x), (2, .int y)]) (by rw [hd3]) ?_
        refine xiconst (v := nI 0) C dX5_run_36 (by decide) ?_
        refine xistore (lv' := [(5, .int (nI 0)), (3, .long (lN d)), (0, .ref (a 0)), (1, .int x), (2, .int y)]) C dX5_run_37 (by decide) rfl ?_
        refine xiconst (v := nI 0) C dX5_run_39 (by decide) ?_
        refine xistore (lv' := [(6, .int (nI 0)), (5, .int (nI 0)), (3, .long (lN d)), (0, .ref (a 0)), (1, .int x), (2, .int y)]) C dX5_run_40 (by decide) rfl ?_
        have LP42 : ∀ (fu42 : Nat) (i : Nat) (FA : Nat → Nat → Int32) (LA : Nat → Int64) (hi : i ≤ d) (hXA : (∀ q, q ≠ 12 → FA q = F q)) (hHA : RA (kn K) (FA 12) (itN K sd hd x  i)), d - i < fu42 → XW X 0 0 (WX a t I FA LA) [(0, .ref (a 0)), (1, .int x), (2, .int y), (3, .long (lN d)), (5, .int (nI (rcN K sd hd x i))), (6, .int (nI i))] 42 [] := by
          intro fu42
          induction fu42 with
          | zero => intro i FA LA hi hXA hHA hm42; exact absurd hm42 (Nat.not_lt_zero _)
          | succ fu42 ih42 =>
            intro i FA LA hi hXA hHA hm42
            have hKA : CFG K I FA := hK.of (fun _ _ => rfl) (fun q hq => hXA q (by omega))
            have hbc := bn_le (chgP K sd (itN K sd hd x i) (x + nI i))
            refine xiload C 5 rfl dX5_run_42 ?_
            refine xi2lN C (by omega) dX5_run_44 ?_
            refine xlload_n C 3 rfl dX5_run_45 ?_
            refine xlcmp_ge C 81 dX5_run_46 dX5_run_47 (by decide) (by omega) (by omega) (fun h46 => ?_) (fun h46 => ?_)
            ·
              have ei : i = d := by omega
              subst ei
              refine xiload C 4 rfl dX5_run_81 ?_
              exact xret C hR (rfl) dX5_run_83 (XO.mk (by simp only [opRun]; rw [ci_f (runok h8 h16), ci_f (fun q => q (bn_1 h30)), hd0]) (hX.hnd hXA hHA))
            ·
              refine xaload_n C 0 rfl dX5_run_50 ?_
              refine gX5_30 C dX5_run_51 ?_
              refine xaload_n C 0 rfl dX5_run_54 ?_
              refine gX5_50 C dX5_run_55 ?_
              refine xaload_n C 0 rfl dX5_run_58 ?_
              refine gX5_54 C dX5_run_59 ?_
              refine xtopi (y := sd) (hsd) ?_
              refine xiload_n C 1 rfl dX5_run_62 ?_
              refine xiload C 5 rfl dX5_run_63 ?_
              refine xiadd C dX5_run_65 ?_
              refine xcVE C (c_X4_changes hKA hW 12 (by omega) (by omega) hHA hn sd (x + (nI i))) yk_X4_changes 3 rfl rfl xml_X5_137 ⟨⟨Nat.le_of_ble_eq_true rfl, Nat.le_of_ble_eq_true rfl⟩, ⟨rfl, rfl⟩, ⟨Nat.zero_le _, Nat.zero_le _⟩⟩ rfl (Nat.le_of_ble_eq_true rfl) dX5_run_66 (fun vE wE hE => ?_)
              obtain ⟨rfl, FB, LB, rfl, hFB, hHB⟩ := hE
              refine xif_eqN C 75 dX5_run_69 (by decide) (bn_lt _) (fun h69 => ?_) (fun h69 => ?_)
              ·
                refine xlocals (lv' := [(0, .ref (a 0)), (1, .int x), (2, .int y), (3, .long (lN d)), (5, .int (nI (rcN K sd hd x (i + 1)))), (6, .int (nI i))]) (by rw [show rcN K sd hd x (i + 1) = rcN K sd hd x i + bn (chgP K sd (itN K sd hd x i) (x + nI i)) from rfl, h69, Nat.add_zero]) ?_
                refine xiincN (lv' := [(6, .int (nI (i + 1))), (0, .ref (a 0)), (1, .int x), (2, .int y), (3, .long (lN d)), (5, .int (nI (rcN K sd hd x (i + 1))))]) C 5 rfl dX5_run_75 (by decide) rfl ?_
                refine xgoto C 42 dX5_run_78 (by decide) ?_
                refine xsub [1, 2, 3, 4, 5, 0] rfl ?_
                exact ih42 (i + 1) FB LB (by omega) (fun q hq => (hFB q hq).trans (hXA q hq)) hHB (by omega)
              ·
                refine xiincN (lv' := [(5, .int (nI (rcN K sd hd x i + 1))), (0, .ref (a 0)), (1, .int x), (2, .int y), (3, .long (lN d)), (6, .int (nI i))]) C 4 rfl dX5_run_72 (by decide) rfl ?_
                refine xlocals (lv' := [(5, .int (nI (rcN K sd hd x (i + 1)))), (0, .ref (a 0)), (1, .int x), (2, .int y), (3, .long (lN d)), (6, .int (nI i))]) (by rw [show rcN K sd hd x (i + 1) = rcN K sd hd x i + bn (chgP K sd (itN K sd hd x i) (x + nI i)) from rfl, bn_t (bn_1 h69)]) ?_
                refine xiincN (lv' := [(6, .int (nI (i + 1))), (5, .int (nI (rcN K sd hd x (i + 1)))), (0, .ref (a 0)), (1, .int x), (2, .int y), (3, .long (lN d))]) C 5 rfl dX5_run_75 (by decide) rfl ?_
                refine xgoto C 42 dX5_run_78 (by decide) ?_
                refine xsub [2, 3, 4, 5, 1, 0] rfl ?_
                exact ih42 (i + 1) FB LB (by omega) (fun q hq => (hFB q hq).trans (hXA q hq)) hHB (by omega)
        refine xsub [3, 4, 5, 2, 1, 0] rfl ?_
        exact LP42 _ 0 F L (Nat.zero_le _) (fun _ _ => rfl) hHd (Nat.lt_succ_self _)
      ·
        refine xbipush (v := -5) C dX5_run_33 (by decide) ?_
        exact xret C hR (rfl) dX5_run_35 (XO.mk (by simp only [opRun]; rw [ci_f (runok h8 h16), ci_t (bn_0 h30)]) hX)
    ·
      refine xbipush (v := -2) C dX5_run_20 (by decide) ?_
      exact xret C hR (rfl) dX5_run_22 (XO.mk (by simp only [opRun]; rw [ci_t (Or.inr (rungt h16))]) hX)
theorem dX5_gap_0 : decode cX5_gap 0 = .ok (.iload_n 1, 1) := by decide +kernel
theorem dX5_gap_1 : decode cX5_gap 1 = .ok (.ifCond .lt 10, 3) := by decide +kernel
theorem dX5_gap_4 : decode cX5_gap 4 = .ok (.iload_n 1, 1) := by decide +kernel
theorem dX5_gap_5 : decode cX5_gap 5 = .ok (.sipush 4096, 3) := by decide +kernel
theorem dX5_gap_8 : decode cX5_gap 8 = .ok (.if_icmp .le 6, 3) := by decide +kernel
theorem dX5_gap_11 : decode cX5_gap 11 = .ok (.bipush (-2), 2) := by decide +kernel
theorem dX5_gap_13 : decode cX5_gap 13 = .ok (.ireturn, 1) := by decide +kernel
theorem dX5_gap_14 : decode cX5_gap 14 = .ok (.aload_n 0, 1) := by decide +kernel
theorem dX5_gap_15 : decode cX5_gap 15 = .ok (.getfield 21, 3) := by decide +kernel
theorem dX5_gap_18 : decode cX5_gap 18 = .ok (.getfield 101, 3) := by decide +kernel
theorem dX5_gap_21 : decode cX5_gap 21 = .ok (.ifCond .ne 6, 3) := by decide +kernel
theorem dX5_gap_24 : decode cX5_gap 24 = .ok (.bipush (-5), 2) := by decide +kernel
theorem dX5_gap_26 : decode cX5_gap 26 = .ok (.ireturn, 1) := by decide +kernel
theorem dX5_gap_27 : decode cX5_gap 27 = .ok (.aload_n 0, 1) := by decide +kernel
theorem dX5_gap_28 : decode cX5_gap 28 = .ok (.getfield 39, 3) := by decide +kernel
theorem dX5_gap_31 : decode cX5_gap 31 = .ok (.aload_n 0, 1) := by decide +kernel
theorem dX5_gap_32 : decode cX5_gap 32 = .ok (.getfield 54, 3) := by decide +kernel
theorem dX5_gap_35 : decode cX5_gap 35 = .ok (.iload_n 1, 1) := by decide +kernel
theorem dX5_gap_36 : decode cX5_gap 36 = .ok (.invokevirtual 141, 3) := by decide +kernel
theorem dX5_gap_39 : decode cX5_gap 39 = .ok (.aload_n 0, 1) := by decide +kernel
theorem dX5_gap_40 : decode cX5_gap 40 = .ok (.getfield 39, 3) := by decide +kernel
theorem dX5_gap_43 : decode cX5_gap 43 = .ok (.invokevirtual 144, 3) := by decide +kernel
theorem dX5_gap_46 : decode cX5_gap 46 = .ok (.ireturn, 1) := by decide +kernel
def rX5_gap : Room := { frames := 6, cells := 0, slots := 0, locals := 149 }
theorem yk_X5_gap : YK yX5_gap cX5_gap 2 (some .int) 1 := ⟨xim_X5_gap, xse_X5_gap, xin_X5, xco_X5_gap, by decide +kernel⟩
set_option maxRecDepth 4000 in
theorem c_X5_gap {l : Launch} {D : va_G} {t : Nat → ClassId} {a : Nat → Nat} {I : Nat → Int32} {F : Nat → Nat → Int32} {L : Nat → Int64} {K : Cfg} {sd : Int32} {hd : Nat → Nat} {dk : Bool} {dw : Nat → Nat} {mt : Int32} (hI : INV (K, sd, hd, dk, dw, mt)) (hX : RX (K, sd, hd, dk, dw, mt) I F) (x : Int32) : CT l D t yX5_gap cX5_gap 2 (some .int) rX5_gap 0 0 [.ref (a 0), .int x] (WX a t I F L) (XO a t (opGap (K, sd, hd, dk, dw, mt) x)) := by
  refine CT.of (by decide +kernel) (by simp [lg_sl, Value.category]) (fun X C hR => ?_)
  refine xlocals (lv' := [(0, .ref (a 0)), (1, .int x)]) rfl ?_
  obtain ⟨hK, hsd, hHd, hdk, hdr, hgd, hHS, hLS⟩ := id hX
  have hW : WFK K := hI.1
  have hrg := hI.2.1
  have fn24 := hW.n24; have fm60 := hW.m60; have fk2 := hW.k2; have fu1 := hW.u1; have fu9 := hW.u9; have fv1 := hW.v1; have fv9 := hW.v9
  refine xiload_n C 1 rfl dX5_gap_0 ?_
  refine xif_lt C 11 dX5_gap_1 (by decide) (fun h1 => ?_) (fun h1 => ?_)
  ·
    refine xbipush (v := -2) C dX5_gap_11 (by decide) ?_
    exact xret C hR (rfl) dX5_gap_13 (XO.mk (by simp only [opGap]; rw [ci_t (Or.inl h1)]) hX)
  ·
    refine xiload_n C 1 rfl dX5_gap_4 ?_
    refine xsipush (v := 4096) C dX5_gap_5 (by decide) ?_
    refine xicmp_le C 14 dX5_gap_8 (by decide) (fun h8 => ?_) (fun h8 => ?_)
    ·
      obtain ⟨b, _, hb, rfl⟩ := boxN (a := 0) (b := 4096) (by decide) (by decide) h1 (Int32.not_lt.mpr h8)
      refine xaload_n C 0 rfl dX5_gap_14 ?_
      refine gX5_21 C dX5_gap_15 ?_
      refine gX5_101 C dX5_gap_18 ?_
      refine xtopi (y := nI (bn (GoodP K))) (hgd) ?_
      refine xif_neN C 27 dX5_gap_21 (by decide) (bn_lt _) (fun h21 => ?_) (fun h21 => ?_)
      ·
        have hn : 0 < kn K := (bn_1 h21).1
        refine xaload_n C 0 rfl dX5_gap_27 ?_
        refine gX5_39 C dX5_gap_28 ?_
        refine xaload_n C 0 rfl dX5_gap_31 ?_
        refine gX5_54 C dX5_gap_32 ?_
        refine xtopi (y := sd) (hsd) ?_
        refine xiload_n C 1 rfl dX5_gap_35 ?_
        refine xcVV C (c_X0_runBoth hK hW hHS hLS hn sd b hb) yk_X0_runBoth 4 rfl rfl xml_X5_141 ⟨⟨Nat.le_of_ble_eq_true rfl, Nat.le_of_ble_eq_true rfl⟩, ⟨rfl, rfl⟩, ⟨Nat.zero_le _, Nat.zero_le _⟩⟩ rfl (Nat.le_of_ble_eq_true rfl) dX5_gap_36 (fun wE hE => ?_)
        obtain ⟨IA, FA, LA, rfl, hIA, hMA, hXA, hHA, hLA⟩ := hE
        have hKA : CFG K IA FA := hK.of (fun q hq => hIA q (by omega)) (fun q hq => hXA q (by omega) (by omega))
        refine xaload_n C 0 rfl dX5_gap_39 ?_
        refine gX5_39 C dX5_gap_40 ?_
        refine xcVR C (c_X0_unlikePlaces hKA hW hHA hLA) yk_X0_unlikePlaces 4 rfl rfl xml_X5_144 ⟨⟨Nat.le_of_ble_eq_true rfl, Nat.le_of_ble_eq_true rfl⟩, ⟨rfl, rfl⟩, ⟨Nat.zero_le _, Nat.zero_le _⟩⟩ rfl (Nat.le_of_ble_eq_true rfl) dX5_gap_43 ?_
        exact xret C hR (rfl) dX5_gap_46 (XO.mk (by simp only [opGap]; rw [ci_f (fun q => q.elim h1 (fun q => absurd q (Int32.not_lt.mpr h8))), ci_f (fun q => q (bn_1 h21)), show cl (nI b) = b from nI_clamp (by omega)]) (hX.of (fun q h1 h2 => hIA q h2) (fun q h1 h2 h3 => hXA q h1 h2)))
      ·
        refine xbipush (v := -5) C dX5_gap_24 (by decide) ?_
        exact xret C hR (rfl) dX5_gap_26 (XO.mk (by simp only [opGap]; rw [ci_f (fun q => q.elim h1 (fun q => absurd q (Int32.not_lt.mpr h8))), ci_t (bn_0 h21)]) hX)
    ·
      refine xbipush (v := -2) C dX5_gap_11 (by decide) ?_
      exact xret C hR (rfl) dX5_gap_13 (XO.mk (by simp only [opGap]; rw [ci_t (Or.inr (Int32.not_le.mp h8))]) hX)
theorem dX5_draw_0 : decode cX5_draw 0 = .ok (.aload_n 0, 1) := by decide +kernel
theorem dX5_draw_1 : decode cX5_draw 1 = .ok (.getfield 21, 3) := by decide +kernel
theorem dX5_draw_4 : decode cX5_draw 4 = .ok (.getfield 101, 3) := by decide +kernel
theorem dX5_draw_7 : decode cX5_draw 7 = .ok (.ifCond .eq 17, 3) := by decide +kernel
theorem dX5_draw_10 : decode cX5_draw 10 = .ok (.aload_n 0, 1) := by decide +kernel
theorem dX5_draw_11 : decode cX5_draw 11 = .ok (.getfield 39, 3) := by decide +kernel
theorem dX5_draw_14 : decode cX5_draw 14 = .ok (.aload_n 0, 1) := by decide +kernel
theorem dX5_draw_15 : decode cX5_draw 15 = .ok (.getfield 54, 3) := by decide +kernel
theorem dX5_draw_18 : decode cX5_draw 18 = .ok (.invokevirtual 148, 3) := by decide +kernel
theorem dX5_draw_21 : decode cX5_draw 21 = .ok (.ifCond .ne 6, 3) := by decide +kernel
theorem dX5_draw_24 : decode cX5_draw 24 = .ok (.bipush (-5), 2) := by decide +kernel
theorem dX5_draw_26 : decode cX5_draw 26 = .ok (.ireturn, 1) := by decide +kernel
theorem dX5_draw_27 : decode cX5_draw 27 = .ok (.aload_n 0, 1) := by decide +kernel
theorem dX5_draw_28 : decode cX5_draw 28 = .ok (.getfield 39, 3) := by decide +kernel
theorem dX5_draw_31 : decode cX5_draw 31 = .ok (.invokevirtual 151, 3) := by decide +kernel
theorem dX5_draw_34 : decode cX5_draw 34 = .ok (.aload_n 0, 1) := by decide +kernel
theorem dX5_draw_35 : decode cX5_draw 35 = .ok (.getfield 39, 3) := by decide +kernel
theorem dX5_draw_38 : decode cX5_draw 38 = .ok (.getfield 154, 3) := by decide +kernel
theorem dX5_draw_41 : decode cX5_draw 41 = .ok (.ireturn, 1) := by decide +kernel
def rX5_draw : Room := { frames := 7, cells := 0, slots := 0, locals := 171 }
theorem yk_X5_draw : YK yX5_draw cX5_draw 1 (some .int) 0 := ⟨xim_X5_draw, xse_X5_draw, xin_X5, xco_X5_draw, by decide +kernel⟩
set_option maxRecDepth 4000 in
theorem c_X5_draw {l : Launch} {D : va_G} {t : Nat → ClassId} {a : Nat → Nat} {I : Nat → Int32} {F : Nat → Nat → Int32} {L : Nat → Int64} {K : Cfg} {sd : Int32} {hd : Nat → Nat} {dk : Bool} {dw : Nat → Nat} {mt : Int32} (hI : INV (K, sd, hd, dk, dw, mt)) (hX : RX (K, sd, hd, dk, dw, mt) I F)  : CT l D t yX5_draw cX5_draw 1 (some .int) rX5_draw 0 0 [.ref (a 0)] (WX a t I F L) (XO a t (opDraw (K, sd, hd, dk, dw, mt))) := by
  refine CT.of (by decide +kernel) (by simp [lg_sl, Value.category]) (fun X C hR => ?_)
  refine xlocals (lv' := [(0, .ref (a 0))]) rfl ?_
  obtain ⟨hK, hsd, hHd, hdk, hdr, hgd, hHS, hLS⟩ := id hX
  have hW : WFK K := hI.1
  have hrg := hI.2.1
  have fn24 := hW.n24; have fm60 := hW.m60; have fk2 := hW.k2; have fu1 := hW.u1; have fu9 := hW.u9; have fv1 := hW.v1; have fv9 := hW.v9
  refine xaload_n C 0 rfl dX5_draw_0 ?_
  refine gX5_21 C dX5_draw_1 ?_
  refine gX5_101 C dX5_draw_4 ?_
  refine xtopi (y := nI (bn (GoodP K))) (hgd) ?_
  refine xif_eqN C 24 dX5_draw_7 (by decide) (bn_lt _) (fun h7 => ?_) (fun h7 => ?_)
  ·
    refine xbipush (v := -5) C dX5_draw_24 (by decide) ?_
    exact xret C hR (rfl) dX5_draw_26 (XO.mk (by simp only [opDraw]; rw [ci_t (bn_0 h7)]) hX)
  ·
    have hn : 0 < kn K := (bn_1 h7).1
    refine xaload_n C 0 rfl dX5_draw_10 ?_
    refine gX5_39 C dX5_draw_11 ?_
    refine xaload_n C 0 rfl dX5_draw_14 ?_
    refine gX5_54 C dX5_draw_15 ?_
    refine xtopi (y := sd) (hsd) ?_
    refine xcVE C (c_X0_findsOne hK hW hHS hLS hn sd) yk_X0_findsOne 4 rfl rfl xml_X5_148 ⟨⟨Nat.le_of_ble_eq_true rfl, Nat.le_of_ble_eq_true rfl⟩, ⟨rfl, rfl⟩, ⟨Nat.zero_le _, Nat.zero_le _⟩⟩ rfl (Nat.le_of_ble_eq_true rfl) dX5_draw_18 (fun vE wE hE => ?_)
    obtain ⟨IB, FB, LB, rfl, hIB, hXB, hor⟩ := hE
    rcases hor with ⟨e, hfar, he12, rfl, h6B, h7B, hLB⟩ | ⟨hfar, rfl⟩
    ·
      refine xif_neN C 27 dX5_draw_21 (by decide) (by omega) (fun h21 => ?_) (fun h21 => ?_)
      ·
        refine xaload_n C 0 rfl dX5_draw_27 ?_
        refine gX5_39 C dX5_draw_28 ?_
        refine xcVV C (c_X0_keep) yk_X0_keep 4 rfl rfl xml_X5_151 ⟨⟨Nat.le_of_ble_eq_true rfl, Nat.le_of_ble_eq_true rfl⟩, ⟨rfl, rfl⟩, ⟨Nat.zero_le _, Nat.zero_le _⟩⟩ rfl (Nat.le_of_ble_eq_true rfl) dX5_draw_31 (fun wE hE => ?_)
        obtain ⟨FC, rfl, hFC, hFc⟩ := hE
        refine xaload_n C 0 rfl dX5_draw_34 ?_
        refine gX5_39 C dX5_draw_35 ?_
        refine gX5_154 C dX5_draw_38 ?_
        refine xtopi (y := nI (2 ^ e)) (by rw [va_up_ne _ _ (by decide), va_up_ne _ _ (by decide)]; exact h6B) ?_
        exact xret C hR (rfl) dX5_draw_41 (XO.mk (by simp only [opDraw]; rw [ci_f (fun q => q (bn_1 h7)), hfar]) ((hX.of hIB (fun q h1 h2 h3 => hXB q h1 h2)).draw h7B hLB (fun q hq => hFC q hq) (fun p hp => hFc p (by omega))))
      · exact absurd h21 (by decide)
    ·
      refine xif_neN C 27 dX5_draw_21 (by decide) (by omega) (fun h21 => ?_) (fun h21 => ?_)
      · exact absurd h21 (fun h => h rfl)
      ·
        refine xbipush (v := -5) C dX5_draw_24 (by decide) ?_
        exact xret C hR (rfl) dX5_draw_26 (XO.mk (by simp only [opDraw]; rw [ci_f (fun q => q (bn_1 h7)), hfar]) (hX.of hIB (fun q h1 h2 h3 => hXB q h1 h2)))
theorem dX5_drawn_0 : decode cX5_drawn 0 = .ok (.aload_n 0, 1) := by decide +kernel
theorem dX5_drawn_1 : decode cX5_drawn 1 = .ok (.getfield 10, 3) := by decide +kernel
theorem dX5_drawn_4 : decode cX5_drawn 4 = .ok (.iload_n 1, 1) := by decide +kernel
theorem dX5_drawn_5 : decode cX5_drawn 5 = .ok (.invokevirtual 68, 3) := by decide +kernel
theorem dX5_drawn_8 : decode cX5_drawn 8 = .ok (.ifCond .ne 5, 3) := by decide +kernel
theorem dX5_drawn_11 : decode cX5_drawn 11 = .ok (.iconst (-1), 1) := by decide +kernel
theorem dX5_drawn_12 : decode cX5_drawn 12 = .ok (.ireturn, 1) := by decide +kernel
theorem dX5_drawn_13 : decode cX5_drawn 13 = .ok (.aload_n 0, 1) := by decide +kernel
theorem dX5_drawn_14 : decode cX5_drawn 14 = .ok (.getfield 39, 3) := by decide +kernel
theorem dX5_drawn_17 : decode cX5_drawn 17 = .ok (.getfield 115, 3) := by decide +kernel
theorem dX5_drawn_20 : decode cX5_drawn 20 = .ok (.ifCond .eq 15, 3) := by decide +kernel
theorem dX5_drawn_23 : decode cX5_drawn 23 = .ok (.aload_n 0, 1) := by decide +kernel
theorem dX5_drawn_24 : decode cX5_drawn 24 = .ok (.getfield 39, 3) := by decide +kernel
theorem dX5_drawn_27 : decode cX5_drawn 27 = .ok (.getfield 118, 3) := by decide +kernel
theorem dX5_drawn_30 : decode cX5_drawn 30 = .ok (.iload_n 1, 1) := by decide +kernel
theorem dX5_drawn_31 : decode cX5_drawn 31 = .ok (.iaload, 1) := by decide +kernel
theorem dX5_drawn_32 : decode cX5_drawn 32 = .ok (.goto 5, 3) := by decide +kernel
theorem dX5_drawn_35 : decode cX5_drawn 35 = .ok (.bipush (-3), 2) := by decide +kernel
theorem dX5_drawn_37 : decode cX5_drawn 37 = .ok (.ireturn, 1) := by decide +kernel
def rX5_drawn : Room := { frames := 1, cells := 0, slots := 0, locals := 21 }
theorem yk_X5_drawn : YK yX5_drawn cX5_drawn 2 (some .int) 1 := ⟨xim_X5_drawn, xse_X5_drawn, xin_X5, xco_X5_drawn, by decide +kernel⟩
set_option maxRecDepth 4000 in
theorem c_X5_drawn {l : Launch} {D : va_G} {t : Nat → ClassId} {a : Nat → Nat} {I : Nat → Int32} {F : Nat → Nat → Int32} {L : Nat → Int64} {K : Cfg} {sd : Int32} {hd : Nat → Nat} {dk : Bool} {dw : Nat → Nat} {mt : Int32} (hI : INV (K, sd, hd, dk, dw, mt)) (hX : RX (K, sd, hd, dk, dw, mt) I F) (x : Int32) : CT l D t yX5_drawn cX5_drawn 2 (some .int) rX5_drawn 0 0 [.ref (a 0), .int x] (WX a t I F L) (XO a t (opDrawn (K, sd, hd, dk, dw, mt) x)) := by
  refine CT.of (by decide +kernel) (by simp [lg_sl, Value.category]) (fun X C hR => ?_)
  refine xlocals (lv' := [(0, .ref (a 0)), (1, .int x)]) rfl ?_
  obtain ⟨hK, hsd, hHd, hdk, hdr, hgd, hHS, hLS⟩ := id hX
  have hW : WFK K := hI.1
  have hrg := hI.2.1
  have fn24 := hW.n24; have fm60 := hW.m60; have fk2 := hW.k2; have fu1 := hW.u1; have fu9 := hW.u9; have fv1 := hW.v1; have fv9 := hW.v9
  refine xaload_n C 0 rfl dX5_drawn_0 ?_
  refine gX5_10 C dX5_drawn_1 ?_
  refine xiload_n C 1 rfl dX5_drawn_4 ?_
  refine xcVR C (c_X1_has hK hW x) yk_X1_has 1 rfl rfl xml_X5_68 ⟨⟨Nat.le_of_ble_eq_true rfl, Nat.le_of_ble_eq_true rfl⟩, ⟨rfl, rfl⟩, ⟨Nat.zero_le _, Nat.zero_le _⟩⟩ rfl (Nat.le_of_ble_eq_true rfl) dX5_drawn_5 ?_
  refine xif_neN C 13 dX5_drawn_8 (by decide) (bn_lt _) (fun h8 => ?_) (fun h8 => ?_)
  ·
    obtain ⟨p, hp, rfl⟩ := (bn_1 h8).nat hW
    refine xaload_n C 0 rfl dX5_drawn_13 ?_
    refine gX5_39 C dX5_drawn_14 ?_
    refine gX5_115 C dX5_drawn_17 ?_
    refine xtopi (y := nI (dkN dk)) (hdk) ?_
    have hdl := dkN_le dk
    refine xif_eqN C 35 dX5_drawn_20 (by decide) (by omega) (fun h20 => ?_) (fun h20 => ?_)
    ·
      refine xbipush (v := -3) C dX5_drawn_35 (by decide) ?_
      exact xret C hR (rfl) dX5_drawn_37 (XO.mk (by simp only [opDrawn]; rw [ci_f (fun q => q (hasP_nat hW hp)), ci_t (dk0 h20)]) hX)
    ·
      have hdw := (hdr (dk1 h20)).1
      refine xaload_n C 0 rfl dX5_drawn_23 ?_
      refine gX5_39 C dX5_drawn_24 ?_
      refine gX5_118 C dX5_drawn_27 ?_
      refine xiload_n C 1 rfl dX5_drawn_30 ?_
      refine xa_st C hW 10 (by omega) (by omega) hdw p (by omega) dX5_drawn_31 ?_
      have fb31 := (hdw p (by omega)).2
      refine xgoto C 37 dX5_drawn_32 (by decide) ?_
      exact xret C hR (rfl) dX5_drawn_37 (XO.mk (by simp only [opDrawn]; rw [ci_f (fun q => q (hasP_nat hW hp)), ci_f (by rw [dk1 h20]; decide), show cl (nI p) = p from nI_clamp (by omega)]) hX)
  ·
    have h8 := bn_0 h8
    refine xiconst (v := -1) C dX5_drawn_11 (by decide) ?_
    exact xret C hR (rfl) dX5_drawn_12 (XO.mk (by simp only [opDrawn]; rw [ci_t h8]) hX)
theorem dX5_met_0 : decode cX5_met 0 = .ok (.aload_n 0, 1) := by decide +kernel
theorem dX5_met_1 : decode cX5_met 1 = .ok (.getfield 39, 3) := by decide +kernel
theorem dX5_met_4 : decode cX5_met 4 = .ok (.getfield 115, 3) := by decide +kernel
theorem dX5_met_7 : decode cX5_met 7 = .ok (.ifCond .eq 13, 3) := by decide +kernel
theorem dX5_met_10 : decode cX5_met 10 = .ok (.aload_n 0, 1) := by decide +kernel
theorem dX5_met_11 : decode cX5_met 11 = .ok (.getfield 39, 3) := by decide +kernel
theorem dX5_met_14 : decode cX5_met 14 = .ok (.getfield 157, 3) := by decide +kernel
theorem dX5_met_17 : decode cX5_met 17 = .ok (.goto 4, 3) := by decide +kernel
theorem dX5_met_20 : decode cX5_met 20 = .ok (.iconst 1, 1) := by decide +kernel
theorem dX5_met_21 : decode cX5_met 21 = .ok (.ireturn, 1) := by decide +kernel
def rX5_met : Room := { frames := 0, cells := 0, slots := 0, locals := 0 }
theorem yk_X5_met : YK yX5_met cX5_met 1 (some .int) 0 := ⟨xim_X5_met, xse_X5_met, xin_X5, xco_X5_met, by decide +kernel⟩
set_option maxRecDepth 4000 in
theorem c_X5_met {l : Launch} {D : va_G} {t : Nat → ClassId} {a : Nat → Nat} {I : Nat → Int32} {F : Nat → Nat → Int32} {L : Nat → Int64} {K : Cfg} {sd : Int32} {hd : Nat → Nat} {dk : Bool} {dw : Nat → Nat} {mt : Int32} (hI : INV (K, sd, hd, dk, dw, mt)) (hX : RX (K, sd, hd, dk, dw, mt) I F)  : CT l D t yX5_met cX5_met 1 (some .int) rX5_met 0 0 [.ref (a 0)] (WX a t I F L) (XO a t (opMet (K, sd, hd, dk, dw, mt))) := by
  refine CT.of (by decide +kernel) (by simp [lg_sl, Value.category]) (fun X C hR => ?_)
  refine xlocals (lv' := [(0, .ref (a 0))]) rfl ?_
  obtain ⟨hK, hsd, hHd, hdk, hdr, hgd, hHS, hLS⟩ := id hX
  have hW : WFK K := hI.1
  have hrg := hI.2.1
  have fn24 := hW.n24; have fm60 := hW.m60; have fk2 := hW.k2; have fu1 := hW.u1; have fu9 := hW.u9; have fv1 := hW.v1; have fv9 := hW.v9
  refine xaload_n C 0 rfl dX5_met_0 ?_
  refine gX5_39 C dX5_met_1 ?_
  refine gX5_115 C dX5_met_4 ?_
  refine xtopi (y := nI (dkN dk)) (hdk) ?_
  have hdl := dkN_le dk
  refine xif_eqN C 20 dX5_met_7 (by decide) (by omega) (fun h7 => ?_) (fun h7 => ?_)
  ·
    refine xiconst (v := nI 1) C dX5_met_20 (by decide) ?_
    exact xret C hR (rfl) dX5_met_21 (XO.mk (by simp only [opMet]; rw [ci_t (dk0 h7), nI_one]) hX)
  ·
    refine xaload_n C 0 rfl dX5_met_10 ?_
    refine gX5_39 C dX5_met_11 ?_
    refine gX5_157 C dX5_met_14 ?_
    refine xtopi (y := mt) ((hdr (dk1 h7)).2) ?_
    refine xgoto C 21 dX5_met_17 (by decide) ?_
    exact xret C hR (rfl) dX5_met_21 (XO.mk (by simp only [opMet]; rw [ci_f (by rw [dk1 h7]; decide)]) hX)
theorem dX5_tally_0 : decode cX5_tally 0 = .ok (.aload_n 0, 1) := by decide +kernel
theorem dX5_tally_1 : decode cX5_tally 1 = .ok (.getfield 10, 3) := by decide +kernel
theorem dX5_tally_4 : decode cX5_tally 4 = .ok (.iload_n 1, 1) := by decide +kernel
theorem dX5_tally_5 : decode cX5_tally 5 = .ok (.invokevirtual 68, 3) := by decide +kernel
theorem dX5_tally_8 : decode cX5_tally 8 = .ok (.ifCond .ne 5, 3) := by decide +kernel
theorem dX5_tally_11 : decode cX5_tally 11 = .ok (.iconst (-1), 1) := by decide +kernel
theorem dX5_tally_12 : decode cX5_tally 12 = .ok (.ireturn, 1) := by decide +kernel
theorem dX5_tally_13 : decode cX5_tally 13 = .ok (.iload_n 3, 1) := by decide +kernel
theorem dX5_tally_14 : decode cX5_tally 14 = .ok (.iconst 1, 1) := by decide +kernel
theorem dX5_tally_15 : decode cX5_tally 15 = .ok (.if_icmp .lt 9, 3) := by decide +kernel
theorem dX5_tally_18 : decode cX5_tally 18 = .ok (.iload_n 3, 1) := by decide +kernel
theorem dX5_tally_19 : decode cX5_tally 19 = .ok (.bipush 8, 2) := by decide +kernel
theorem dX5_tally_21 : decode cX5_tally 21 = .ok (.if_icmp .le 6, 3) := by decide +kernel
theorem dX5_tally_24 : decode cX5_tally 24 = .ok (.bipush (-2), 2) := by decide +kernel
theorem dX5_tally_26 : decode cX5_tally 26 = .ok (.ireturn, 1) := by decide +kernel
theorem dX5_tally_27 : decode cX5_tally 27 = .ok (.aload_n 0, 1) := by decide +kernel
theorem dX5_tally_28 : decode cX5_tally 28 = .ok (.getfield 21, 3) := by decide +kernel
theorem dX5_tally_31 : decode cX5_tally 31 = .ok (.getfield 101, 3) := by decide +kernel
theorem dX5_tally_34 : decode cX5_tally 34 = .ok (.ifCond .ne 6, 3) := by decide +kernel
theorem dX5_tally_37 : decode cX5_tally 37 = .ok (.bipush (-5), 2) := by decide +kernel
theorem dX5_tally_39 : decode cX5_tally 39 = .ok (.ireturn, 1) := by decide +kernel
theorem dX5_tally_40 : decode cX5_tally 40 = .ok (.iconst 0, 1) := by decide +kernel
theorem dX5_tally_41 : decode cX5_tally 41 = .ok (.istore 4, 2) := by decide +kernel
theorem dX5_tally_43 : decode cX5_tally 43 = .ok (.iconst 0, 1) := by decide +kernel
theorem dX5_tally_44 : decode cX5_tally 44 = .ok (.istore 5, 2) := by decide +kernel
theorem dX5_tally_46 : decode cX5_tally 46 = .ok (.iload 5, 2) := by decide +kernel
theorem dX5_tally_48 : decode cX5_tally 48 = .ok (.iload_n 3, 1) := by decide +kernel
theorem dX5_tally_49 : decode cX5_tally 49 = .ok (.if_icmp .ge 40, 3) := by decide +kernel
theorem dX5_tally_52 : decode cX5_tally 52 = .ok (.aload_n 0, 1) := by decide +kernel
theorem dX5_tally_53 : decode cX5_tally 53 = .ok (.getfield 39, 3) := by decide +kernel
theorem dX5_tally_56 : decode cX5_tally 56 = .ok (.iload_n 2, 1) := by decide +kernel
theorem dX5_tally_57 : decode cX5_tally 57 = .ok (.iload 5, 2) := by decide +kernel
theorem dX5_tally_59 : decode cX5_tally 59 = .ok (.iadd, 1) := by decide +kernel
theorem dX5_tally_60 : decode cX5_tally 60 = .ok (.invokevirtual 148, 3) := by decide +kernel
theorem dX5_tally_63 : decode cX5_tally 63 = .ok (.ifCond .ne 6, 3) := by decide +kernel
theorem dX5_tally_66 : decode cX5_tally 66 = .ok (.bipush (-5), 2) := by decide +kernel
theorem dX5_tally_68 : decode cX5_tally 68 = .ok (.ireturn, 1) := by decide +kernel
theorem dX5_tally_69 : decode cX5_tally 69 = .ok (.iload 4, 2) := by decide +kernel
theorem dX5_tally_71 : decode cX5_tally 71 = .ok (.aload_n 0, 1) := by decide +kernel
theorem dX5_tally_72 : decode cX5_tally 72 = .ok (.getfield 39, 3) := by decide +kernel
theorem dX5_tally_75 : decode cX5_tally 75 = .ok (.getfield 160, 3) := by decide +kernel
theorem dX5_tally_78 : decode cX5_tally 78 = .ok (.iload_n 1, 1) := by decide +kernel
theorem dX5_tally_79 : decode cX5_tally 79 = .ok (.iaload, 1) := by decide +kernel
theorem dX5_tally_80 : decode cX5_tally 80 = .ok (.iadd, 1) := by decide +kernel
theorem dX5_tally_81 : decode cX5_tally 81 = .ok (.istore 4, 2) := by decide +kernel
theorem dX5_tally_83 : decode cX5_tally 83 = .ok (.iinc 5 1, 3) := by decide +kernel
theorem dX5_tally_86 : decode cX5_tally 86 = .ok (.goto (-40), 3) := by decide +kernel
theorem dX5_tally_89 : decode cX5_tally 89 = .ok (.iload 4, 2) := by decide +kernel
theorem dX5_tally_91 : decode cX5_tally 91 = .ok (.ireturn, 1) := by decide +kernel
def rX5_tally : Room := { frames := 7, cells := 0, slots := 0, locals := 171 }
theorem yk_X5_tally : YK yX5_tally cX5_tally 6 (some .int) 3 := ⟨xim_X5_tally, xse_X5_tally, xin_X5, xco_X5_tally, by decide +kernel⟩
set_option maxRecDepth 4000 in
theorem c_X5_tally {l : Launch} {D : va_G} {t : Nat → ClassId} {a : Nat → Nat} {I : Nat → Int32} {F : Nat → Nat → Int32} {L : Nat → Int64} {K : Cfg} {sd : Int32} {hd : Nat → Nat} {dk : Bool} {dw : Nat → Nat} {mt : Int32} (hI : INV (K, sd, hd, dk, dw, mt)) (hX : RX (K, sd, hd, dk, dw, mt) I F) (x y z : Int32) : CT l D t yX5_tally cX5_tally 6 (some .int) rX5_tally 0 0 [.ref (a 0), .int x, .int y, .int z] (WX a t I F L) (XO a t (opTally (K, sd, hd, dk, dw, mt) x y z)) := by
  refine CT.of (by decide +kernel) (by simp [lg_sl, Value.category]) (fun X C hR => ?_)
  refine xlocals (lv' := [(0, .ref (a 0)), (1, .int x), (2, .int y), (3, .int z)]) rfl ?_
  obtain ⟨hK, hsd, hHd, hdk, hdr, hgd, hHS, hLS⟩ := id hX
  have hW : WFK K := hI.1
  have hrg := hI.2.1
  have fn24 := hW.n24; have fm60 := hW.m60; have fk2 := hW.k2; have fu1 := hW.u1; have fu9 := hW.u9; have fv1 := hW.v1; have fv9 := hW.v9
  refine xaload_n C 0 rfl dX5_tally_0 ?_
  refine gX5_10 C dX5_tally_1 ?_
  refine xiload_n C 1 rfl dX5_tally_4 ?_
  refine xcVR C (c_X1_has hK hW x) yk_X1_has 1 rfl rfl xml_X5_68 ⟨⟨Nat.le_of_ble_eq_true rfl, Nat.le_of_ble_eq_true rfl⟩, ⟨rfl, rfl⟩, ⟨Nat.zero_le _, Nat.zero_le _⟩⟩ rfl (Nat.le_of_ble_eq_true rfl) dX5_tally_5 ?_
  refine xif_neN C 13 dX5_tally_8 (by decide) (bn_lt _) (fun h8 => ?_) (fun h8 => ?_)
  ·
    obtain ⟨p, hp, rfl⟩ := (bn_1 h8).nat hW
    refine xiload_n C 3 rfl dX5_tally_13 ?_
    refine xiconst (v := 1) C dX5_tally_14 (by decide) ?_
    refine xicmp_lt C 24 dX5_tally_15 (by decide) (fun h15 => ?_) (fun h15 => ?_)
    ·
      refine xbipush (v := -2) C dX5_tally_24 (by decide) ?_
      exact xret C hR (rfl) dX5_tally_26 (XO.mk (by simp only [opTally]; rw [ci_f (fun q => q (hasP_nat hW hp)), ci_t (Or.inl h15)]) hX)
    ·
      refine xiload_n C 3 rfl dX5_tally_18 ?_
      refine xbipush (v := 8) C dX5_tally_19 (by decide) ?_
      refine xicmp_le C 27 dX5_tally_21 (by decide) (fun h21 => ?_) (fun h21 => ?_)
      ·
        obtain ⟨n, hn1, hn8, rfl⟩ := box18 h15 (Int32.not_lt.mpr h21)
        refine xaload_n C 0 rfl dX5_tally_27 ?_
        refine gX5_21 C dX5_tally_28 ?_
        refine gX5_101 C dX5_tally_31 ?_
        refine xtopi (y := nI (bn (GoodP K))) (hgd) ?_
        refine xif_neN C 40 dX5_tally_34 (by decide) (bn_lt _) (fun h34 => ?_) (fun h34 => ?_)
        ·
          have hn : 0 < kn K := (bn_1 h34).1
          refine xiconst (v := nI 0) C dX5_tally_40 (by decide) ?_
          refine xistore (lv' := [(4, .int (nI 0)), (0, .ref (a 0)), (1, .int (nI p)), (2, .int y), (3, .int (nI n))]) C dX5_tally_41 (by decide) rfl ?_
          refine xiconst (v := nI 0) C dX5_tally_43 (by decide) ?_
          refine xistore (lv' := [(5, .int (nI 0)), (4, .int (nI 0)), (0, .ref (a 0)), (1, .int (nI p)), (2, .int y), (3, .int (nI n))]) C dX5_tally_44 (by decide) rfl ?_
          have LP46 : ∀ (fu46 : Nat) (i : Nat) (c : Nat) (IA : Nat → Int32) (FA : Nat → Nat → Int32) (LA : Nat → Int64) (hi : i ≤ n) (hc : tlN K y p i = some c) (hIA : ∀ q, q ≠ 6 → q ≠ 7 → IA q = I q) (hXA : (∀ q, q ≠ 8 → q ≠ 9 → FA q = F q)), n - i < fu46 → XW X 0 0 (WX a t IA FA LA) [(0, .ref (a 0)), (1, .int (nI p)), (2, .int y), (3, .int (nI n)), (4, .int (nI c)), (5, .int (nI i))] 46 [] := by
            intro fu46
            induction fu46 with
            | zero => intro i c IA FA LA hi hc hIA hXA hm46; exact absurd hm46 (Nat.not_lt_zero _)
            | succ fu46 ih46 =>
              intro i c IA FA LA hi hc hIA hXA hm46
              have hKA : CFG K IA FA := hK.of (fun q hq => hIA q (by omega) (by omega)) (fun q hq => hXA q (by omega) (by omega))
              refine xiload C 5 rfl dX5_tally_46 ?_
              refine xiload_n C 3 rfl dX5_tally_48 ?_
              refine xicmp_geN C 89 dX5_tally_49 (by decide) (by omega) (by omega) (fun h49 => ?_) (fun h49 => ?_)
              ·
                refine xiload C 4 rfl dX5_tally_89 ?_
                exact xret C hR (rfl) dX5_tally_91 (XO.mk (by simp only [opTally]; rw [ci_f (fun q => q (hasP_nat hW hp)), ci_f (fun q => q.elim h15 (fun q => absurd q (Int32.not_lt.mpr h21))), ci_f (fun q => q (bn_1 h34)), show cl (nI p) = p from nI_clamp (by omega), show cl (nI n) = n from nI_clamp (by omega), show tlN K y p n = some c from (show i = n by omega) ▸ hc]) (hX.of hIA (fun q h1 h2 h3 => hXA q h1 h2)))
              ·
                refine xaload_n C 0 rfl dX5_tally_52 ?_
                refine gX5_39 C dX5_tally_53 ?_
                refine xiload_n C 2 rfl dX5_tally_56 ?_
                refine xiload C 5 rfl dX5_tally_57 ?_
                refine xiadd C dX5_tally_59 ?_
                refine xcVE C (c_X0_findsOne hKA hW (by rw [hXA 6 (by decide) (by decide)]; exact hHS) (by rw [hXA 7 (by decide) (by decide)]; exact hLS) hn (y + (nI i))) yk_X0_findsOne 4 rfl rfl xml_X5_148 ⟨⟨Nat.le_of_ble_eq_true rfl, Nat.le_of_ble_eq_true rfl⟩, ⟨rfl, rfl⟩, ⟨Nat.zero_le _, Nat.zero_le _⟩⟩ rfl (Nat.le_of_ble_eq_true rfl) dX5_tally_60 (fun vE wE hE => ?_)
                obtain ⟨IB, FB, LB, rfl, hIB, hXB, hor⟩ := hE
                rcases hor with ⟨e, hfar, he12, rfl, h6B, h7B, hLB⟩ | ⟨hfar, rfl⟩
                ·
                  have hXC : (∀ q, q ≠ 8 → q ≠ 9 → FB q = F q) := fun q h1 h2 => (hXB q h1 h2).trans (hXA q h1 h2)
                  have hIC : ∀ q, q ≠ 6 → q ≠ 7 → IB q = I q := fun q h1 h2 => (hIB q h1 h2).trans (hIA q h1 h2)
                  have hKB : CFG K IB FB := hK.of (fun q hq => hIC q (by omega) (by omega)) (fun q hq => hXC q (by omega) (by omega))
                  refine xif_neN C 69 dX5_tally_63 (by decide) (by omega) (fun h63 => ?_) (fun h63 => ?_)
                  ·
                    refine xiload C 4 rfl dX5_tally_69 ?_
                    refine xaload_n C 0 rfl dX5_tally_71 ?_
                    refine gX5_39 C dX5_tally_72 ?_
                    refine gX5_160 C dX5_tally_75 ?_
                    refine xiload_n C 1 rfl dX5_tally_78 ?_
                    refine xa_st C hW 9 (by omega) (by omega) hLB p (by omega) dX5_tally_79 ?_
                    have fb79 := (hLB p (by omega)).2
                    refine xiaddN C dX5_tally_80 ?_
                    refine xistore (lv' := [(4, .int (nI (c + ((itN K (y + nI i) (lS K) (-nI (2 ^ e)) (2 ^ e)) p)))), (0, .ref (a 0)), (1, .int (nI p)), (2, .int y), (3, .int (nI n)), (5, .int (nI i))]) C dX5_tally_81 (by decide) rfl ?_
                    refine xiincN (lv' := [(5, .int (nI (i + 1))), (4, .int (nI (c + ((itN K (y + nI i) (lS K) (-nI (2 ^ e)) (2 ^ e)) p)))), (0, .ref (a 0)), (1, .int (nI p)), (2, .int y), (3, .int (nI n))]) C 5 rfl dX5_tally_83 (by decide) rfl ?_
                    refine xgoto C 46 dX5_tally_86 (by decide) ?_
                    refine xsub [2, 3, 4, 5, 1, 0] rfl ?_
                    exact ih46 (i + 1) (c + itN K (y + nI i) (lS K) (-nI (2 ^ e)) (2 ^ e) p) IB FB LB (by omega) (tlN_go hc hfar) hIC hXC (by omega)
                  · exact absurd h63 (by decide)
                ·
                  refine xif_neN C 69 dX5_tally_63 (by decide) (by omega) (fun h63 => ?_) (fun h63 => ?_)
                  · exact absurd h63 (fun h => h rfl)
                  ·
                    refine xbipush (v := -5) C dX5_tally_66 (by decide) ?_
                    exact xret C hR (rfl) dX5_tally_68 (XO.mk (by simp only [opTally]; rw [ci_f (fun q => q (hasP_nat hW hp)), ci_f (fun q => q.elim h15 (fun q => absurd q (Int32.not_lt.mpr h21))), ci_f (fun q => q (bn_1 h34)), show cl (nI p) = p from nI_clamp (by omega), show cl (nI n) = n from nI_clamp (by omega), tlN_none (tlN_fail hc hfar) (by omega)]) (hX.of (fun q h1 h2 => (hIB q h1 h2).trans (hIA q h1 h2)) (fun q h1 h2 h3 => (hXB q h1 h2).trans (hXA q h1 h2))))
          refine xsub [2, 3, 4, 5, 1, 0] rfl ?_
          exact LP46 _ 0 0 I F L (Nat.zero_le _) rfl (fun _ _ _ => rfl) (fun _ _ _ => rfl) (Nat.lt_succ_self _)
        ·
          refine xbipush (v := -5) C dX5_tally_37 (by decide) ?_
          exact xret C hR (rfl) dX5_tally_39 (XO.mk (by simp only [opTally]; rw [ci_f (fun q => q (hasP_nat hW hp)), ci_f (fun q => q.elim h15 (fun q => absurd q (Int32.not_lt.mpr h21))), ci_t (bn_0 h34)]) hX)
      ·
        refine xbipush (v := -2) C dX5_tally_24 (by decide) ?_
        exact xret C hR (rfl) dX5_tally_26 (XO.mk (by simp only [opTally]; rw [ci_f (fun q => q (hasP_nat hW hp)), ci_t (Or.inr (Int32.not_le.mp h21))]) hX)
  ·
    have h8 := bn_0 h8
    refine xiconst (v := -1) C dX5_tally_11 (by decide) ?_
    exact xret C hR (rfl) dX5_tally_12 (XO.mk (by simp only [opTally]; rw [ci_t h8]) hX)
theorem dX5_refusalUnlessSmall_0 : decode cX5_refusalUnlessSmall 0 = .ok (.aload_n 0, 1) := by decide +kernel
theorem dX5_refusalUnlessSmall_1 : decode cX5_refusalUnlessSmall 1 = .ok (.getfield 21, 3) := by decide +kernel
theorem dX5_refusalUnlessSmall_4 : decode cX5_refusalUnlessSmall 4 = .ok (.getfield 101, 3) := by decide +kernel
theorem dX5_refusalUnlessSmall_7 : decode cX5_refusalUnlessSmall 7 = .ok (.ifCond .ne 6, 3) := by decide +kernel
theorem dX5_refusalUnlessSmall_10 : decode cX5_refusalUnlessSmall 10 = .ok (.bipush (-5), 2) := by decide +kernel
theorem dX5_refusalUnlessSmall_12 : decode cX5_refusalUnlessSmall 12 = .ok (.ireturn, 1) := by decide +kernel
theorem dX5_refusalUnlessSmall_13 : decode cX5_refusalUnlessSmall 13 = .ok (.aload_n 0, 1) := by decide +kernel
theorem dX5_refusalUnlessSmall_14 : decode cX5_refusalUnlessSmall 14 = .ok (.getfield 46, 3) := by decide +kernel
theorem dX5_refusalUnlessSmall_17 : decode cX5_refusalUnlessSmall 17 = .ok (.invokevirtual 203, 3) := by decide +kernel
theorem dX5_refusalUnlessSmall_20 : decode cX5_refusalUnlessSmall 20 = .ok (.ifCond .eq 7, 3) := by decide +kernel
theorem dX5_refusalUnlessSmall_23 : decode cX5_refusalUnlessSmall 23 = .ok (.iconst 0, 1) := by decide +kernel
theorem dX5_refusalUnlessSmall_24 : decode cX5_refusalUnlessSmall 24 = .ok (.goto 5, 3) := by decide +kernel
theorem dX5_refusalUnlessSmall_27 : decode cX5_refusalUnlessSmall 27 = .ok (.bipush (-4), 2) := by decide +kernel
theorem dX5_refusalUnlessSmall_29 : decode cX5_refusalUnlessSmall 29 = .ok (.ireturn, 1) := by decide +kernel
def rX5_refusalUnlessSmall : Room := { frames := 3, cells := 0, slots := 0, locals := 64 }
theorem yk_X5_refusalUnlessSmall : YK yX5_refusalUnlessSmall cX5_refusalUnlessSmall 1 (some .int) 0 := ⟨xim_X5_refusalUnlessSmall, xse_X5_refusalUnlessSmall, xin_X5, xco_X5_refusalUnlessSmall, by decide +kernel⟩
set_option maxRecDepth 4000 in
theorem c_X5_refusalUnlessSmall {l : Launch} {D : va_G} {t : Nat → ClassId} {a : Nat → Nat} {I : Nat → Int32} {F : Nat → Nat → Int32} {L : Nat → Int64} {K : Cfg} (hK : CFG K I F) (hW : WFK K) (hgd : I 5 = nI (bn (GoodP K))) : CT l D t yX5_refusalUnlessSmall cX5_refusalUnlessSmall 1 (some .int) rX5_refusalUnlessSmall 0 0 [.ref (a 0)] (WX a t I F L) (EP (fun v w => w = WX a t I F L ∧ ((¬ GoodP K ∧ v = .int (-5)) ∨ (GoodP K ∧ ¬ smlP K ∧ v = .int (-4)) ∨ (GoodP K ∧ smlP K ∧ v = .int (nI 0))))) := by
  refine CT.of (by decide +kernel) (by simp [lg_sl, Value.category]) (fun X C hR => ?_)
  refine xlocals (lv' := [(0, .ref (a 0))]) rfl ?_
  have fn24 := hW.n24; have fm60 := hW.m60; have fk2 := hW.k2; have fu1 := hW.u1; have fu9 := hW.u9; have fv1 := hW.v1; have fv9 := hW.v9
  refine xaload_n C 0 rfl dX5_refusalUnlessSmall_0 ?_
  refine gX5_21 C dX5_refusalUnlessSmall_1 ?_
  refine gX5_101 C dX5_refusalUnlessSmall_4 ?_
  refine xtopi (y := nI (bn (GoodP K))) (hgd) ?_
  refine xif_neN C 13 dX5_refusalUnlessSmall_7 (by decide) (bn_lt _) (fun h7 => ?_) (fun h7 => ?_)
  ·
    refine xaload_n C 0 rfl dX5_refusalUnlessSmall_13 ?_
    refine gX5_46 C dX5_refusalUnlessSmall_14 ?_
    refine xcVR C (c_X3_isSmall hK hW) yk_X3_isSmall 5 rfl rfl xml_X5_203 ⟨⟨Nat.le_of_ble_eq_true rfl, Nat.le_of_ble_eq_true rfl⟩, ⟨rfl, rfl⟩, ⟨Nat.zero_le _, Nat.zero_le _⟩⟩ rfl (Nat.le_of_ble_eq_true rfl) dX5_refusalUnlessSmall_17 ?_
    refine xif_eqN C 27 dX5_refusalUnlessSmall_20 (by decide) (bn_lt _) (fun h20 => ?_) (fun h20 => ?_)
    ·
      refine xbipush (v := -4) C dX5_refusalUnlessSmall_27 (by decide) ?_
      exact xret C hR (rfl) dX5_refusalUnlessSmall_29 (⟨_, rfl, rfl, Or.inr (Or.inl ⟨bn_1 h7, bn_0 h20, rfl⟩)⟩)
    ·
      refine xiconst (v := nI 0) C dX5_refusalUnlessSmall_23 (by decide) ?_
      refine xgoto C 29 dX5_refusalUnlessSmall_24 (by decide) ?_
      exact xret C hR (rfl) dX5_refusalUnlessSmall_29 (⟨_, rfl, rfl, Or.inr (Or.inr ⟨bn_1 h7, bn_1 h20, rfl⟩)⟩)
  ·
    refine xbipush (v := -5) C dX5_refusalUnlessSmall_10 (by decide) ?_
    exact xret C hR (rfl) dX5_refusalUnlessSmall_12 (⟨_, rfl, rfl, Or.inl ⟨bn_0 h7, rfl⟩⟩)
theorem dX5_isNoPart_0 : decode cX5_isNoPart 0 = .ok (.iload_n 0, 1) := by decide +kernel
theorem dX5_isNoPart_1 : decode cX5_isNoPart 1 = .ok (.ifCond .lt 8, 3) := by decide +kernel
theorem dX5_isNoPart_4 : decode cX5_isNoPart 4 = .ok (.iload_n 0, 1) := by decide +kernel
theorem dX5_isNoPart_5 : decode cX5_isNoPart 5 = .ok (.iconst 1, 1) := by decide +kernel
theorem dX5_isNoPart_6 : decode cX5_isNoPart 6 = .ok (.if_icmp .le 7, 3) := by decide +kernel
theorem dX5_isNoPart_9 : decode cX5_isNoPart 9 = .ok (.iconst 1, 1) := by decide +kernel
theorem dX5_isNoPart_10 : decode cX5_isNoPart 10 = .ok (.goto 4, 3) := by decide +kernel
theorem dX5_isNoPart_13 : decode cX5_isNoPart 13 = .ok (.iconst 0, 1) := by decide +kernel
theorem dX5_isNoPart_14 : decode cX5_isNoPart 14 = .ok (.ireturn, 1) := by decide +kernel
def rX5_isNoPart : Room := { frames := 0, cells := 0, slots := 0, locals := 0 }
theorem sk_X5_isNoPart : SK yX5_isNoPart cX5_isNoPart 1 (some .boolean) 1 := ⟨xst_X5_isNoPart, xin_X5, xco_X5_isNoPart, by decide +kernel⟩
set_option maxRecDepth 4000 in
theorem c_X5_isNoPart {l : Launch} {D : va_G} {t : Nat → ClassId} {a : Nat → Nat} {I : Nat → Int32} {F : Nat → Nat → Int32} {L : Nat → Int64} (x : Int32) : CT l D t yX5_isNoPart cX5_isNoPart 1 (some .boolean) rX5_isNoPart 0 0 [.int x] (WX a t I F L) (RP (.int (nI (bn (x < 0 ∨ 1 < x)))) (WX a t I F L)) := by
  refine CT.of (by decide +kernel) (by simp [lg_sl, Value.category]) (fun X C hR => ?_)
  refine xlocals (lv' := [(0, .int x)]) rfl ?_
  refine xiload_n C 0 rfl dX5_isNoPart_0 ?_
  refine xif_lt C 9 dX5_isNoPart_1 (by decide) (fun h1 => ?_) (fun h1 => ?_)
  ·
    refine xiconst (v := nI 1) C dX5_isNoPart_9 (by decide) ?_
    refine xgoto C 14 dX5_isNoPart_10 (by decide) ?_
    exact xret C hR (by rfl) dX5_isNoPart_14 (RPn ((bn_t (Or.inl h1)).symm))
  ·
    refine xiload_n C 0 rfl dX5_isNoPart_4 ?_
    refine xiconst (v := 1) C dX5_isNoPart_5 (by decide) ?_
    refine xicmp_le C 13 dX5_isNoPart_6 (by decide) (fun h6 => ?_) (fun h6 => ?_)
    ·
      refine xiconst (v := nI 0) C dX5_isNoPart_13 (by decide) ?_
      exact xret C hR (by rfl) dX5_isNoPart_14 (RPn ((bn_f (fun q => q.elim h1 (fun q => absurd q (Int32.not_lt.mpr h6)))).symm))
    ·
      refine xiconst (v := nI 1) C dX5_isNoPart_9 (by decide) ?_
      refine xgoto C 14 dX5_isNoPart_10 (by decide) ?_
      exact xret C hR (by rfl) dX5_isNoPart_14 (RPn ((bn_t (Or.inr (Int32.not_le.mp h6))).symm))
theorem dX5_many_0 : decode cX5_many 0 = .ok (.aload_n 0, 1) := by decide +kernel
theorem dX5_many_1 : decode cX5_many 1 = .ok (.invokevirtual 161, 3) := by decide +kernel
theorem dX5_many_4 : decode cX5_many 4 = .ok (.istore_n 1, 1) := by decide +kernel
theorem dX5_many_5 : decode cX5_many 5 = .ok (.iload_n 1, 1) := by decide +kernel
theorem dX5_many_6 : decode cX5_many 6 = .ok (.ifCond .eq 7, 3) := by decide +kernel
theorem dX5_many_9 : decode cX5_many 9 = .ok (.iload_n 1, 1) := by decide +kernel
theorem dX5_many_10 : decode cX5_many 10 = .ok (.goto 14, 3) := by decide +kernel
theorem dX5_many_13 : decode cX5_many 13 = .ok (.aload_n 0, 1) := by decide +kernel
theorem dX5_many_14 : decode cX5_many 14 = .ok (.getfield 46, 3) := by decide +kernel
theorem dX5_many_17 : decode cX5_many 17 = .ok (.iconst 0, 1) := by decide +kernel
theorem dX5_many_18 : decode cX5_many 18 = .ok (.iconst 0, 1) := by decide +kernel
theorem dX5_many_19 : decode cX5_many 19 = .ok (.iconst 0, 1) := by decide +kernel
theorem dX5_many_20 : decode cX5_many 20 = .ok (.invokevirtual 164, 3) := by decide +kernel
theorem dX5_many_23 : decode cX5_many 23 = .ok (.l2i, 1) := by decide +kernel
theorem dX5_many_24 : decode cX5_many 24 = .ok (.ireturn, 1) := by decide +kernel
def rX5_many : Room := { frames := 5, cells := 0, slots := 0, locals := 120 }
theorem yk_X5_many : YK yX5_many cX5_many 2 (some .int) 0 := ⟨xim_X5_many, xse_X5_many, xin_X5, xco_X5_many, by decide +kernel⟩
set_option maxRecDepth 4000 in
theorem c_X5_many {l : Launch} {D : va_G} {t : Nat → ClassId} {a : Nat → Nat} {I : Nat → Int32} {F : Nat → Nat → Int32} {L : Nat → Int64} {K : Cfg} {sd : Int32} {hd : Nat → Nat} {dk : Bool} {dw : Nat → Nat} {mt : Int32} (hI : INV (K, sd, hd, dk, dw, mt)) (hX : RX (K, sd, hd, dk, dw, mt) I F)  : CT l D t yX5_many cX5_many 2 (some .int) rX5_many 0 0 [.ref (a 0)] (WX a t I F L) (XO a t (opMany (K, sd, hd, dk, dw, mt))) := by
  refine CT.of (by decide +kernel) (by simp [lg_sl, Value.category]) (fun X C hR => ?_)
  refine xlocals (lv' := [(0, .ref (a 0))]) rfl ?_
  obtain ⟨hK, hsd, hHd, hdk, hdr, hgd, hHS, hLS⟩ := id hX
  have hW : WFK K := hI.1
  have hrg := hI.2.1
  have fn24 := hW.n24; have fm60 := hW.m60; have fk2 := hW.k2; have fu1 := hW.u1; have fu9 := hW.u9; have fv1 := hW.v1; have fv9 := hW.v9
  refine xaload_n C 0 rfl dX5_many_0 ?_
  refine xcVE C (c_X5_refusalUnlessSmall hK hW hgd) yk_X5_refusalUnlessSmall 0 rfl rfl xml_X5_161 ⟨⟨Nat.le_of_ble_eq_true rfl, Nat.le_of_ble_eq_true rfl⟩, ⟨rfl, rfl⟩, ⟨Nat.zero_le _, Nat.zero_le _⟩⟩ rfl (Nat.le_of_ble_eq_true rfl) dX5_many_1 (fun vE wE hE => ?_)
  obtain ⟨rfl, hor⟩ := hE
  rcases hor with ⟨hg, rfl⟩ | ⟨hg, hsm, rfl⟩ | ⟨hg, hsm, rfl⟩
  ·
    refine xistore_n (lv' := [(1, .int (-5)), (0, .ref (a 0))]) C dX5_many_4 (by decide) rfl ?_
    refine xiload_n C 0 rfl dX5_many_5 ?_
    refine xif_eq C 13 dX5_many_6 (by decide) (fun h6 => ?_) (fun h6 => ?_)
    · exact absurd h6 (by decide)
    ·
      refine xiload_n C 0 rfl dX5_many_9 ?_
      refine xgoto C 24 dX5_many_10 (by decide) ?_
      exact xret C hR (rfl) dX5_many_24 (XO.mk (by simp only [opMany]; rw [ci_t hg]) hX)
  ·
    refine xistore_n (lv' := [(1, .int (-4)), (0, .ref (a 0))]) C dX5_many_4 (by decide) rfl ?_
    refine xiload_n C 0 rfl dX5_many_5 ?_
    refine xif_eq C 13 dX5_many_6 (by decide) (fun h6 => ?_) (fun h6 => ?_)
    · exact absurd h6 (by decide)
    ·
      refine xiload_n C 0 rfl dX5_many_9 ?_
      refine xgoto C 24 dX5_many_10 (by decide) ?_
      exact xret C hR (rfl) dX5_many_24 (XO.mk (by simp only [opMany]; rw [ci_f (fun q => q hg), ci_t hsm]) hX)
  ·
    refine xistore_n (lv' := [(1, .int (nI 0)), (0, .ref (a 0))]) C dX5_many_4 (by decide) rfl ?_
    refine xiload_n C 0 rfl dX5_many_5 ?_
    refine xif_eqN C 13 dX5_many_6 (by decide) (by omega) (fun h6 => ?_) (fun h6 => ?_)
    ·
      refine xaload_n C 1 rfl dX5_many_13 ?_
      refine gX5_46 C dX5_many_14 ?_
      refine xiconst (v := nI 0) C dX5_many_17 (by decide) ?_
      refine xiconst (v := nI 0) C dX5_many_18 (by decide) ?_
      refine xiconst (v := nI 0) C dX5_many_19 (by decide) ?_
      have hn : 0 < kn K := hg.1
      have hs := hsm
      refine xcVE C (c_X3_sumOf hK hW hs 0 0 0 (by omega) (by omega) (by omega)) yk_X3_sumOf 5 rfl rfl xml_X5_164 ⟨⟨Nat.le_of_ble_eq_true rfl, Nat.le_of_ble_eq_true rfl⟩, ⟨rfl, rfl⟩, ⟨Nat.zero_le _, Nat.zero_le _⟩⟩ rfl (Nat.le_of_ble_eq_true rfl) dX5_many_20 (fun vE wE hE => ?_)
      obtain ⟨rfl, FA, rfl, hFA⟩ := hE
      refine xl2i C dX5_many_23 ?_
      refine xtopi (y := nI (suN K 0 0 0)) (lN_i _) ?_
      exact xret C hR (rfl) dX5_many_24 (XO.mk (by simp only [opMany]; rw [ci_f (fun q => q hg), ci_f (fun q => q hsm)]) (hX.of (fun _ _ _ => rfl) (fun q h1 h2 h3 => hFA q h3)))
    · exact absurd rfl h6
theorem dX5_all_0 : decode cX5_all 0 = .ok (.aload_n 0, 1) := by decide +kernel
theorem dX5_all_1 : decode cX5_all 1 = .ok (.invokevirtual 161, 3) := by decide +kernel
theorem dX5_all_4 : decode cX5_all 4 = .ok (.istore_n 1, 1) := by decide +kernel
theorem dX5_all_5 : decode cX5_all 5 = .ok (.iload_n 1, 1) := by decide +kernel
theorem dX5_all_6 : decode cX5_all 6 = .ok (.ifCond .eq 8, 3) := by decide +kernel
theorem dX5_all_9 : decode cX5_all 9 = .ok (.iload_n 1, 1) := by decide +kernel
theorem dX5_all_10 : decode cX5_all 10 = .ok (.i2l, 1) := by decide +kernel
theorem dX5_all_11 : decode cX5_all 11 = .ok (.goto 13, 3) := by decide +kernel
theorem dX5_all_14 : decode cX5_all 14 = .ok (.aload_n 0, 1) := by decide +kernel
theorem dX5_all_15 : decode cX5_all 15 = .ok (.getfield 46, 3) := by decide +kernel
theorem dX5_all_18 : decode cX5_all 18 = .ok (.iconst 1, 1) := by decide +kernel
theorem dX5_all_19 : decode cX5_all 19 = .ok (.iconst 0, 1) := by decide +kernel
theorem dX5_all_20 : decode cX5_all 20 = .ok (.iconst 0, 1) := by decide +kernel
theorem dX5_all_21 : decode cX5_all 21 = .ok (.invokevirtual 164, 3) := by decide +kernel
theorem dX5_all_24 : decode cX5_all 24 = .ok (.lreturn, 1) := by decide +kernel
def rX5_all : Room := { frames := 5, cells := 0, slots := 0, locals := 120 }
theorem yk_X5_all : YK yX5_all cX5_all 2 (some .long) 0 := ⟨xim_X5_all, xse_X5_all, xin_X5, xco_X5_all, by decide +kernel⟩
set_option maxRecDepth 4000 in
theorem c_X5_all {l : Launch} {D : va_G} {t : Nat → ClassId} {a : Nat → Nat} {I : Nat → Int32} {F : Nat → Nat → Int32} {L : Nat → Int64} {K : Cfg} {sd : Int32} {hd : Nat → Nat} {dk : Bool} {dw : Nat → Nat} {mt : Int32} (hI : INV (K, sd, hd, dk, dw, mt)) (hX : RX (K, sd, hd, dk, dw, mt) I F)  : CT l D t yX5_all cX5_all 2 (some .long) rX5_all 0 0 [.ref (a 0)] (WX a t I F L) (XO a t (opAll (K, sd, hd, dk, dw, mt))) := by
  refine CT.of (by decide +kernel) (by simp [lg_sl, Value.category]) (fun X C hR => ?_)
  refine xlocals (lv' := [(0, .ref (a 0))]) rfl ?_
  obtain ⟨hK, hsd, hHd, hdk, hdr, hgd, hHS, hLS⟩ := id hX
  have hW : WFK K := hI.1
  have hrg := hI.2.1
  have fn24 := hW.n24; have fm60 := hW.m60; have fk2 := hW.k2; have fu1 := hW.u1; have fu9 := hW.u9; have fv1 := hW.v1; have fv9 := hW.v9
  refine xaload_n C 0 rfl dX5_all_0 ?_
  refine xcVE C (c_X5_refusalUnlessSmall hK hW hgd) yk_X5_refusalUnlessSmall 0 rfl rfl xml_X5_161 ⟨⟨Nat.le_of_ble_eq_true rfl, Nat.le_of_ble_eq_true rfl⟩, ⟨rfl, rfl⟩, ⟨Nat.zero_le _, Nat.zero_le _⟩⟩ rfl (Nat.le_of_ble_eq_true rfl) dX5_all_1 (fun vE wE hE => ?_)
  obtain ⟨rfl, hor⟩ := hE
  rcases hor with ⟨hg, rfl⟩ | ⟨hg, hsm, rfl⟩ | ⟨hg, hsm, rfl⟩
  ·
    refine xistore_n (lv' := [(1, .int (-5)), (0, .ref (a 0))]) C dX5_all_4 (by decide) rfl ?_
    refine xiload_n C 0 rfl dX5_all_5 ?_
    refine xif_eq C 14 dX5_all_6 (by decide) (fun h6 => ?_) (fun h6 => ?_)
    · exact absurd h6 (by decide)
    ·
      refine xiload_n C 0 rfl dX5_all_9 ?_
      refine xi2l C dX5_all_10 ?_
      refine xtopl (y := -5) (by decide +kernel) ?_
      refine xgoto C 24 dX5_all_11 (by decide) ?_
      exact xlret C hR dX5_all_24 (XO.mk (by simp only [opAll]; rw [ci_t hg]) hX)
  ·
    refine xistore_n (lv' := [(1, .int (-4)), (0, .ref (a 0))]) C dX5_all_4 (by decide) rfl ?_
    refine xiload_n C 0 rfl dX5_all_5 ?_
    refine xif_eq C 14 dX5_all_6 (by decide) (fun h6 => ?_) (fun h6 => ?_)
    · exact absurd h6 (by decide)
    ·
      refine xiload_n C 0 rfl dX5_all_9 ?_
      refine xi2l C dX5_all_10 ?_
      refine xtopl (y := -4) (by decide +kernel) ?_
      refine xgoto C 24 dX5_all_11 (by decide) ?_
      exact xlret C hR dX5_all_24 (XO.mk (by simp only [opAll]; rw [ci_f (fun q => q hg), ci_t hsm]) hX)
  ·
    refine xistore_n (lv' := [(1, .int (nI 0)), (0, .ref (a 0))]) C dX5_all_4 (by decide) rfl ?_
    refine xiload_n C 0 rfl dX5_all_5 ?_
    refine xif_eqN C 14 dX5_all_6 (by decide) (by omega) (fun h6 => ?_) (fun h6 => ?_)
    ·
      refine xaload_n C 1 rfl dX5_all_14 ?_
      refine gX5_46 C dX5_all_15 ?_
      refine xiconst (v := nI 1) C dX5_all_18 (by decide) ?_
      refine xiconst (v := nI 0) C dX5_all_19 (by decide) ?_
      refine xiconst (v := nI 0) C dX5_all_20 (by decide) ?_
      have hn : 0 < kn K := hg.1
      have hs := hsm
      refine xcVE C (c_X3_sumOf hK hW hs 1 0 0 (by omega) (by omega) (by omega)) yk_X3_sumOf 5 rfl rfl xml_X5_164 ⟨⟨Nat.le_of_ble_eq_true rfl, Nat.le_of_ble_eq_true rfl⟩, ⟨rfl, rfl⟩, ⟨Nat.zero_le _, Nat.zero_le _⟩⟩ rfl (Nat.le_of_ble_eq_true rfl) dX5_all_21 (fun vE wE hE => ?_)
      obtain ⟨rfl, FA, rfl, hFA⟩ := hE
      exact xlret C hR dX5_all_24 (XO.mk (by simp only [opAll]; rw [ci_f (fun q => q hg), ci_f (fun q => q hsm)]) (hX.of (fun _ _ _ => rfl) (fun q h1 h2 h3 => hFA q h3)))
    · exact absurd rfl h6
theorem dX5_chance_0 : decode cX5_chance 0 = .ok (.iload_n 1, 1) := by decide +kernel
theorem dX5_chance_1 : decode cX5_chance 1 = .ok (.invokestatic 168, 3) := by decide +kernel
theorem dX5_chance_4 : decode cX5_chance 4 = .ok (.ifCond .eq 7, 3) := by decide +kernel
theorem dX5_chance_7 : decode cX5_chance 7 = .ok (.ldc2_w 171, 3) := by decide +kernel
theorem dX5_chance_10 : decode cX5_chance 10 = .ok (.lreturn, 1) := by decide +kernel
theorem dX5_chance_11 : decode cX5_chance 11 = .ok (.aload_n 0, 1) := by decide +kernel
theorem dX5_chance_12 : decode cX5_chance 12 = .ok (.invokevirtual 161, 3) := by decide +kernel
theorem dX5_chance_15 : decode cX5_chance 15 = .ok (.istore_n 2, 1) := by decide +kernel
theorem dX5_chance_16 : decode cX5_chance 16 = .ok (.iload_n 2, 1) := by decide +kernel
theorem dX5_chance_17 : decode cX5_chance 17 = .ok (.ifCond .eq 8, 3) := by decide +kernel
theorem dX5_chance_20 : decode cX5_chance 20 = .ok (.iload_n 2, 1) := by decide +kernel
theorem dX5_chance_21 : decode cX5_chance 21 = .ok (.i2l, 1) := by decide +kernel
theorem dX5_chance_22 : decode cX5_chance 22 = .ok (.goto 22, 3) := by decide +kernel
theorem dX5_chance_25 : decode cX5_chance 25 = .ok (.aload_n 0, 1) := by decide +kernel
theorem dX5_chance_26 : decode cX5_chance 26 = .ok (.getfield 46, 3) := by decide +kernel
theorem dX5_chance_29 : decode cX5_chance 29 = .ok (.aload_n 0, 1) := by decide +kernel
theorem dX5_chance_30 : decode cX5_chance 30 = .ok (.getfield 21, 3) := by decide +kernel
theorem dX5_chance_33 : decode cX5_chance 33 = .ok (.aload_n 0, 1) := by decide +kernel
theorem dX5_chance_34 : decode cX5_chance 34 = .ok (.getfield 50, 3) := by decide +kernel
theorem dX5_chance_37 : decode cX5_chance 37 = .ok (.invokevirtual 173, 3) := by decide +kernel
theorem dX5_chance_40 : decode cX5_chance 40 = .ok (.iload_n 1, 1) := by decide +kernel
theorem dX5_chance_41 : decode cX5_chance 41 = .ok (.invokevirtual 177, 3) := by decide +kernel
theorem dX5_chance_44 : decode cX5_chance 44 = .ok (.lreturn, 1) := by decide +kernel
def rX5_chance : Room := { frames := 6, cells := 0, slots := 0, locals := 147 }
theorem yk_X5_chance : YK yX5_chance cX5_chance 3 (some .long) 1 := ⟨xim_X5_chance, xse_X5_chance, xin_X5, xco_X5_chance, by decide +kernel⟩
set_option maxRecDepth 4000 in
theorem c_X5_chance {l : Launch} {D : va_G} {t : Nat → ClassId} {a : Nat → Nat} {I : Nat → Int32} {F : Nat → Nat → Int32} {L : Nat → Int64} {K : Cfg} {sd : Int32} {hd : Nat → Nat} {dk : Bool} {dw : Nat → Nat} {mt : Int32} (hI : INV (K, sd, hd, dk, dw, mt)) (hX : RX (K, sd, hd, dk, dw, mt) I F) (y : Int32) : CT l D t yX5_chance cX5_chance 3 (some .long) rX5_chance 0 0 [.ref (a 0), .int y] (WX a t I F L) (XO a t (opChance (K, sd, hd, dk, dw, mt) y)) := by
  refine CT.of (by decide +kernel) (by simp [lg_sl, Value.category]) (fun X C hR => ?_)
  refine xlocals (lv' := [(0, .ref (a 0)), (1, .int y)]) rfl ?_
  obtain ⟨hK, hsd, hHd, hdk, hdr, hgd, hHS, hLS⟩ := id hX
  have hW : WFK K := hI.1
  have hrg := hI.2.1
  have fn24 := hW.n24; have fm60 := hW.m60; have fk2 := hW.k2; have fu1 := hW.u1; have fu9 := hW.u9; have fv1 := hW.v1; have fv9 := hW.v9
  refine xiload_n C 1 rfl dX5_chance_0 ?_
  refine xcSR C (c_X5_isNoPart y) sk_X5_isNoPart xml_X5_168 ⟨⟨Nat.le_of_ble_eq_true rfl, Nat.le_of_ble_eq_true rfl⟩, ⟨rfl, rfl⟩, ⟨Nat.zero_le _, Nat.zero_le _⟩⟩ rfl (Nat.le_of_ble_eq_true rfl) dX5_chance_1 ?_
  refine xif_eqN C 11 dX5_chance_4 (by decide) (bn_lt _) (fun h4 => ?_) (fun h4 => ?_)
  ·
    obtain ⟨w, hw1, rfl⟩ := box01 (fun q => bn_0 h4 (Or.inl q)) (fun q => bn_0 h4 (Or.inr q))
    refine xaload_n C 0 rfl dX5_chance_11 ?_
    refine xcVE C (c_X5_refusalUnlessSmall hK hW hgd) yk_X5_refusalUnlessSmall 0 rfl rfl xml_X5_161 ⟨⟨Nat.le_of_ble_eq_true rfl, Nat.le_of_ble_eq_true rfl⟩, ⟨rfl, rfl⟩, ⟨Nat.zero_le _, Nat.zero_le _⟩⟩ rfl (Nat.le_of_ble_eq_true rfl) dX5_chance_12 (fun vE wE hE => ?_)
    obtain ⟨rfl, hor⟩ := hE
    rcases hor with ⟨hg, rfl⟩ | ⟨hg, hsm, rfl⟩ | ⟨hg, hsm, rfl⟩
    ·
      refine xistore_n (lv' := [(2, .int (-5)), (0, .ref (a 0)), (1, .int (nI w))]) C dX5_chance_15 (by decide) rfl ?_
      refine xiload_n C 0 rfl dX5_chance_16 ?_
      refine xif_eq C 25 dX5_chance_17 (by decide) (fun h17 => ?_) (fun h17 => ?_)
      · exact absurd h17 (by decide)
      ·
        refine xiload_n C 0 rfl dX5_chance_20 ?_
        refine xi2l C dX5_chance_21 ?_
        refine xtopl (y := -5) (by decide +kernel) ?_
        refine xgoto C 44 dX5_chance_22 (by decide) ?_
        exact xlret C hR dX5_chance_44 (XO.mk (by simp only [opChance]; rw [ci_f (bn_0 h4), ci_t hg]) hX)
    ·
      refine xistore_n (lv' := [(2, .int (-4)), (0, .ref (a 0)), (1, .int (nI w))]) C dX5_chance_15 (by decide) rfl ?_
      refine xiload_n C 0 rfl dX5_chance_16 ?_
      refine xif_eq C 25 dX5_chance_17 (by decide) (fun h17 => ?_) (fun h17 => ?_)
      · exact absurd h17 (by decide)
      ·
        refine xiload_n C 0 rfl dX5_chance_20 ?_
        refine xi2l C dX5_chance_21 ?_
        refine xtopl (y := -4) (by decide +kernel) ?_
        refine xgoto C 44 dX5_chance_22 (by decide) ?_
        exact xlret C hR dX5_chance_44 (XO.mk (by simp only [opChance]; rw [ci_f (bn_0 h4), ci_f (fun q => q hg), ci_t hsm]) hX)
    ·
      refine xistore_n (lv' := [(2, .int (nI 0)), (0, .ref (a 0)), (1, .int (nI w))]) C dX5_chance_15 (by decide) rfl ?_
      refine xiload_n C 0 rfl dX5_chance_16 ?_
      refine xif_eqN C 25 dX5_chance_17 (by decide) (by omega) (fun h17 => ?_) (fun h17 => ?_)
      ·
        refine xaload_n C 1 rfl dX5_chance_25 ?_
        refine gX5_46 C dX5_chance_26 ?_
        refine xaload_n C 1 rfl dX5_chance_29 ?_
        refine gX5_21 C dX5_chance_30 ?_
        refine xaload_n C 1 rfl dX5_chance_33 ?_
        refine gX5_50 C dX5_chance_34 ?_
        refine xcVR C (c_X2_weightOf hK hW 12 (by omega) (by omega) hHd) yk_X2_weightOf 2 rfl rfl xml_X5_173 ⟨⟨Nat.le_of_ble_eq_true rfl, Nat.le_of_ble_eq_true rfl⟩, ⟨rfl, rfl⟩, ⟨Nat.zero_le _, Nat.zero_le _⟩⟩ rfl (Nat.le_of_ble_eq_true rfl) dX5_chance_37 ?_
        refine xiload_n C 2 rfl dX5_chance_40 ?_
        have hn : 0 < kn K := hg.1
        have hs := hsm
        have hpos : 0 < suN K 1 0 0 := suN_pos hW hg (hI.2.2.1 hg)
        refine xcVE C (c_X3_share hK hW hs hn hpos (woN K hd) w (Nat.lt_of_le_of_lt (woN_le hW hsm hd) (by decide)) (by omega)) yk_X3_share 5 rfl rfl xml_X5_177 ⟨⟨Nat.le_of_ble_eq_true rfl, Nat.le_of_ble_eq_true rfl⟩, ⟨rfl, rfl⟩, ⟨Nat.zero_le _, Nat.zero_le _⟩⟩ rfl (Nat.le_of_ble_eq_true rfl) dX5_chance_41 (fun vE wE hE => ?_)
        obtain ⟨rfl, FB, rfl, hFB⟩ := hE
        exact xlret C hR dX5_chance_44 (XO.mk (by simp only [opChance]; rw [ci_f (bn_0 h4), ci_f (fun q => q hg), ci_f (fun q => q hsm), shN_nat hw1]) (hX.of (fun _ _ _ => rfl) (fun q h1 h2 h3 => hFB q h3)))
      · exact absurd rfl h17
  ·
    refine xldc2 C dX5_chance_7 xcn_X5_171 ?_
    exact xlret C hR dX5_chance_10 (XO.mk (by simp only [opChance]; rw [ci_t (bn_1 h4)]) hX)
theorem dX5_mean_0 : decode cX5_mean 0 = .ok (.aload_n 0, 1) := by decide +kernel
theorem dX5_mean_1 : decode cX5_mean 1 = .ok (.getfield 10, 3) := by decide +kernel
theorem dX5_mean_4 : decode cX5_mean 4 = .ok (.iload_n 1, 1) := by decide +kernel
theorem dX5_mean_5 : decode cX5_mean 5 = .ok (.invokevirtual 68, 3) := by decide +kernel
theorem dX5_mean_8 : decode cX5_mean 8 = .ok (.ifCond .ne 7, 3) := by decide +kernel
theorem dX5_mean_11 : decode cX5_mean 11 = .ok (.ldc2_w 181, 3) := by decide +kernel
theorem dX5_mean_14 : decode cX5_mean 14 = .ok (.lreturn, 1) := by decide +kernel
theorem dX5_mean_15 : decode cX5_mean 15 = .ok (.iload_n 2, 1) := by decide +kernel
theorem dX5_mean_16 : decode cX5_mean 16 = .ok (.invokestatic 168, 3) := by decide +kernel
theorem dX5_mean_19 : decode cX5_mean 19 = .ok (.ifCond .eq 7, 3) := by decide +kernel
theorem dX5_mean_22 : decode cX5_mean 22 = .ok (.ldc2_w 171, 3) := by decide +kernel
theorem dX5_mean_25 : decode cX5_mean 25 = .ok (.lreturn, 1) := by decide +kernel
theorem dX5_mean_26 : decode cX5_mean 26 = .ok (.aload_n 0, 1) := by decide +kernel
theorem dX5_mean_27 : decode cX5_mean 27 = .ok (.invokevirtual 161, 3) := by decide +kernel
theorem dX5_mean_30 : decode cX5_mean 30 = .ok (.istore_n 3, 1) := by decide +kernel
theorem dX5_mean_31 : decode cX5_mean 31 = .ok (.iload_n 3, 1) := by decide +kernel
theorem dX5_mean_32 : decode cX5_mean 32 = .ok (.ifCond .eq 8, 3) := by decide +kernel
theorem dX5_mean_35 : decode cX5_mean 35 = .ok (.iload_n 3, 1) := by decide +kernel
theorem dX5_mean_36 : decode cX5_mean 36 = .ok (.i2l, 1) := by decide +kernel
theorem dX5_mean_37 : decode cX5_mean 37 = .ok (.goto 21, 3) := by decide +kernel
theorem dX5_mean_40 : decode cX5_mean 40 = .ok (.aload_n 0, 1) := by decide +kernel
theorem dX5_mean_41 : decode cX5_mean 41 = .ok (.getfield 46, 3) := by decide +kernel
theorem dX5_mean_44 : decode cX5_mean 44 = .ok (.aload_n 0, 1) := by decide +kernel
theorem dX5_mean_45 : decode cX5_mean 45 = .ok (.getfield 46, 3) := by decide +kernel
theorem dX5_mean_48 : decode cX5_mean 48 = .ok (.iconst 2, 1) := by decide +kernel
theorem dX5_mean_49 : decode cX5_mean 49 = .ok (.iload_n 1, 1) := by decide +kernel
theorem dX5_mean_50 : decode cX5_mean 50 = .ok (.iload_n 1, 1) := by decide +kernel
theorem dX5_mean_51 : decode cX5_mean 51 = .ok (.invokevirtual 164, 3) := by decide +kernel
theorem dX5_mean_54 : decode cX5_mean 54 = .ok (.iload_n 2, 1) := by decide +kernel
theorem dX5_mean_55 : decode cX5_mean 55 = .ok (.invokevirtual 177, 3) := by decide +kernel
theorem dX5_mean_58 : decode cX5_mean 58 = .ok (.lreturn, 1) := by decide +kernel
def rX5_mean : Room := { frames := 6, cells := 0, slots := 0, locals := 147 }
theorem yk_X5_mean : YK yX5_mean cX5_mean 4 (some .long) 2 := ⟨xim_X5_mean, xse_X5_mean, xin_X5, xco_X5_mean, by decide +kernel⟩
set_option maxRecDepth 4000 in
theorem c_X5_mean {l : Launch} {D : va_G} {t : Nat → ClassId} {a : Nat → Nat} {I : Nat → Int32} {F : Nat → Nat → Int32} {L : Nat → Int64} {K : Cfg} {sd : Int32} {hd : Nat → Nat} {dk : Bool} {dw : Nat → Nat} {mt : Int32} (hI : INV (K, sd, hd, dk, dw, mt)) (hX : RX (K, sd, hd, dk, dw, mt) I F) (x y : Int32) : CT l D t yX5_mean cX5_mean 4 (some .long) rX5_mean 0 0 [.ref (a 0), .int x, .int y] (WX a t I F L) (XO a t (opMean (K, sd, hd, dk, dw, mt) x y)) := by
  refine CT.of (by decide +kernel) (by simp [lg_sl, Value.category]) (fun X C hR => ?_)
  refine xlocals (lv' := [(0, .ref (a 0)), (1, .int x), (2, .int y)]) rfl ?_
  obtain ⟨hK, hsd, hHd, hdk, hdr, hgd, hHS, hLS⟩ := id hX
  have hW : WFK K := hI.1
  have hrg := hI.2.1
  have fn24 := hW.n24; have fm60 := hW.m60; have fk2 := hW.k2; have fu1 := hW.u1; have fu9 := hW.u9; have fv1 := hW.v1; have fv9 := hW.v9
  refine xaload_n C 0 rfl dX5_mean_0 ?_
  refine gX5_10 C dX5_mean_1 ?_
  refine xiload_n C 1 rfl dX5_mean_4 ?_
  refine xcVR C (c_X1_has hK hW x) yk_X1_has 1 rfl rfl xml_X5_68 ⟨⟨Nat.le_of_ble_eq_true rfl, Nat.le_of_ble_eq_true rfl⟩, ⟨rfl, rfl⟩, ⟨Nat.zero_le _, Nat.zero_le _⟩⟩ rfl (Nat.le_of_ble_eq_true rfl) dX5_mean_5 ?_
  refine xif_neN C 15 dX5_mean_8 (by decide) (bn_lt _) (fun h8 => ?_) (fun h8 => ?_)
  ·
    obtain ⟨p, hp, rfl⟩ := (bn_1 h8).nat hW
    refine xiload_n C 2 rfl dX5_mean_15 ?_
    refine xcSR C (c_X5_isNoPart y) sk_X5_isNoPart xml_X5_168 ⟨⟨Nat.le_of_ble_eq_true rfl, Nat.le_of_ble_eq_true rfl⟩, ⟨rfl, rfl⟩, ⟨Nat.zero_le _, Nat.zero_le _⟩⟩ rfl (Nat.le_of_ble_eq_true rfl) dX5_mean_16 ?_
    refine xif_eqN C 26 dX5_mean_19 (by decide) (bn_lt _) (fun h19 => ?_) (fun h19 => ?_)
    ·
      obtain ⟨w, hw1, rfl⟩ := box01 (fun q => bn_0 h19 (Or.inl q)) (fun q => bn_0 h19 (Or.inr q))
      refine xaload_n C 0 rfl dX5_mean_26 ?_
      refine xcVE C (c_X5_refusalUnlessSmall hK hW hgd) yk_X5_refusalUnlessSmall 0 rfl rfl xml_X5_161 ⟨⟨Nat.le_of_ble_eq_true rfl, Nat.le_of_ble_eq_true rfl⟩, ⟨rfl, rfl⟩, ⟨Nat.zero_le _, Nat.zero_le _⟩⟩ rfl (Nat.le_of_ble_eq_true rfl) dX5_mean_27 (fun vE wE hE => ?_)
      obtain ⟨rfl, hor⟩ := hE
      rcases hor with ⟨hg, rfl⟩ | ⟨hg, hsm, rfl⟩ | ⟨hg, hsm, rfl⟩
      ·
        refine xistore_n (lv' := [(3, .int (-5)), (0, .ref (a 0)), (1, .int (nI p)), (2, .int (nI w))]) C dX5_mean_30 (by decide) rfl ?_
        refine xiload_n C 0 rfl dX5_mean_31 ?_
        refine xif_eq C 40 dX5_mean_32 (by decide) (fun h32 => ?_) (fun h32 => ?_)
        · exact absurd h32 (by decide)
        ·
          refine xiload_n C 0 rfl dX5_mean_35 ?_
          refine xi2l C dX5_mean_36 ?_
          refine xtopl (y := -5) (by decide +kernel) ?_
          refine xgoto C 58 dX5_mean_37 (by decide) ?_
          exact xlret C hR dX5_mean_58 (XO.mk (by simp only [opMean]; rw [ci_f (fun q => q (hasP_nat hW hp)), ci_f (bn_0 h19), ci_t hg]) hX)
      ·
        refine xistore_n (lv' := [(3, .int (-4)), (0, .ref (a 0)), (1, .int (nI p)), (2, .int (nI w))]) C dX5_mean_30 (by decide) rfl ?_
        refine xiload_n C 0 rfl dX5_mean_31 ?_
        refine xif_eq C 40 dX5_mean_32 (by decide) (fun h32 => ?_) (fun h32 => ?_)
        · exact absurd h32 (by decide)
        ·
          refine xiload_n C 0 rfl dX5_mean_35 ?_
          refine xi2l C dX5_mean_36 ?_
          refine xtopl (y := -4) (by decide +kernel) ?_
          refine xgoto C 58 dX5_mean_37 (by decide) ?_
          exact xlret C hR dX5_mean_58 (XO.mk (by simp only [opMean]; rw [ci_f (fun q => q (hasP_nat hW hp)), ci_f (bn_0 h19), ci_f (fun q => q hg), ci_t hsm]) hX)
      ·
        refine xistore_n (lv' := [(3, .int (nI 0)), (0, .ref (a 0)), (1, .int (nI p)), (2, .int (nI w))]) C dX5_mean_30 (by decide) rfl ?_
        refine xiload_n C 0 rfl dX5_mean_31 ?_
        refine xif_eqN C 40 dX5_mean_32 (by decide) (by omega) (fun h32 => ?_) (fun h32 => ?_)
        ·
          refine xaload_n C 1 rfl dX5_mean_40 ?_
          refine gX5_46 C dX5_mean_41 ?_
          refine xaload_n C 1 rfl dX5_mean_44 ?_
          refine gX5_46 C dX5_mean_45 ?_
          refine xiconst (v := nI 2) C dX5_mean_48 (by decide) ?_
          refine xiload_n C 2 rfl dX5_mean_49 ?_
          refine xiload_n C 2 rfl dX5_mean_50 ?_
          have hn : 0 < kn K := hg.1
          have hs := hsm
          refine xcVE C (c_X3_sumOf hK hW hs 2 p p (by omega) (by omega) (by omega)) yk_X3_sumOf 5 rfl rfl xml_X5_164 ⟨⟨Nat.le_of_ble_eq_true rfl, Nat.le_of_ble_eq_true rfl⟩, ⟨rfl, rfl⟩, ⟨Nat.zero_le _, Nat.zero_le _⟩⟩ rfl (Nat.le_of_ble_eq_true rfl) dX5_mean_51 (fun vE wE hE => ?_)
          obtain ⟨rfl, FA, rfl, hFA⟩ := hE
          have hKA : CFG K I FA := hK.of (fun _ _ => rfl) (fun q hq => hFA q (by omega))
          refine xiload_n C 3 rfl dX5_mean_54 ?_
          have hn : 0 < kn K := hg.1
          have hs := hsm
          have hpos : 0 < suN K 1 0 0 := suN_pos hW hg (hI.2.2.1 hg)
          refine xcVE C (c_X3_share hKA hW hs hn hpos (suN K 2 p p) w (suN_lt hW hsm 2 p hp) (by omega)) yk_X3_share 5 rfl rfl xml_X5_177 ⟨⟨Nat.le_of_ble_eq_true rfl, Nat.le_of_ble_eq_true rfl⟩, ⟨rfl, rfl⟩, ⟨Nat.zero_le _, Nat.zero_le _⟩⟩ rfl (Nat.le_of_ble_eq_true rfl) dX5_mean_55 (fun vE wE hE => ?_)
          obtain ⟨rfl, FB, rfl, hFB⟩ := hE
          exact xlret C hR dX5_mean_58 (XO.mk (by simp only [opMean]; rw [ci_f (fun q => q (hasP_nat hW hp)), ci_f (bn_0 h19), ci_f (fun q => q hg), ci_f (fun q => q hsm), show cl (nI p) = p from nI_clamp (by omega), shN_nat hw1]) (hX.of (fun _ _ _ => rfl) (fun q h1 h2 h3 => (hFB q h3).trans (hFA q h3))))
        · exact absurd rfl h32
    ·
      refine xldc2 C dX5_mean_22 xcn_X5_171 ?_
      exact xlret C hR dX5_mean_25 (XO.mk (by simp only [opMean]; rw [ci_f (fun q => q (hasP_nat hW hp)), ci_t (bn_1 h19)]) hX)
  ·
    have h8 := bn_0 h8
    refine xldc2 C dX5_mean_11 xcn_X5_181 ?_
    exact xlret C hR dX5_mean_14 (XO.mk (by simp only [opMean]; rw [ci_t h8]) hX)
theorem dX5_alike_0 : decode cX5_alike 0 = .ok (.aload_n 0, 1) := by decide +kernel
theorem dX5_alike_1 : decode cX5_alike 1 = .ok (.getfield 10, 3) := by decide +kernel
theorem dX5_alike_4 : decode cX5_alike 4 = .ok (.iload_n 1, 1) := by decide +kernel
theorem dX5_alike_5 : decode cX5_alike 5 = .ok (.invokevirtual 68, 3) := by decide +kernel
theorem dX5_alike_8 : decode cX5_alike 8 = .ok (.ifCond .eq 14, 3) := by decide +kernel
theorem dX5_alike_11 : decode cX5_alike 11 = .ok (.aload_n 0, 1) := by decide +kernel
theorem dX5_alike_12 : decode cX5_alike 12 = .ok (.getfield 10, 3) := by decide +kernel
theorem dX5_alike_15 : decode cX5_alike 15 = .ok (.iload_n 2, 1) := by decide +kernel
theorem dX5_alike_16 : decode cX5_alike 16 = .ok (.invokevirtual 68, 3) := by decide +kernel
theorem dX5_alike_19 : decode cX5_alike 19 = .ok (.ifCond .ne 7, 3) := by decide +kernel
theorem dX5_alike_22 : decode cX5_alike 22 = .ok (.ldc2_w 181, 3) := by decide +kernel
theorem dX5_alike_25 : decode cX5_alike 25 = .ok (.lreturn, 1) := by decide +kernel
theorem dX5_alike_26 : decode cX5_alike 26 = .ok (.iload_n 3, 1) := by decide +kernel
theorem dX5_alike_27 : decode cX5_alike 27 = .ok (.invokestatic 168, 3) := by decide +kernel
theorem dX5_alike_30 : decode cX5_alike 30 = .ok (.ifCond .eq 7, 3) := by decide +kernel
theorem dX5_alike_33 : decode cX5_alike 33 = .ok (.ldc2_w 171, 3) := by decide +kernel
theorem dX5_alike_36 : decode cX5_alike 36 = .ok (.lreturn, 1) := by decide +kernel
theorem dX5_alike_37 : decode cX5_alike 37 = .ok (.aload_n 0, 1) := by decide +kernel
theorem dX5_alike_38 : decode cX5_alike 38 = .ok (.invokevirtual 161, 3) := by decide +kernel
theorem dX5_alike_41 : decode cX5_alike 41 = .ok (.istore 4, 2) := by decide +kernel
theorem dX5_alike_43 : decode cX5_alike 43 = .ok (.iload 4, 2) := by decide +kernel
theorem dX5_alike_45 : decode cX5_alike 45 = .ok (.ifCond .eq 9, 3) := by decide +kernel
theorem dX5_alike_48 : decode cX5_alike 48 = .ok (.iload 4, 2) := by decide +kernel
theorem dX5_alike_50 : decode cX5_alike 50 = .ok (.i2l, 1) := by decide +kernel
theorem dX5_alike_51 : decode cX5_alike 51 = .ok (.goto 21, 3) := by decide +kernel
theorem dX5_alike_54 : decode cX5_alike 54 = .ok (.aload_n 0, 1) := by decide +kernel
theorem dX5_alike_55 : decode cX5_alike 55 = .ok (.getfield 46, 3) := by decide +kernel
theorem dX5_alike_58 : decode cX5_alike 58 = .ok (.aload_n 0, 1) := by decide +kernel
theorem dX5_alike_59 : decode cX5_alike 59 = .ok (.getfield 46, 3) := by decide +kernel
theorem dX5_alike_62 : decode cX5_alike 62 = .ok (.iconst 3, 1) := by decide +kernel
theorem dX5_alike_63 : decode cX5_alike 63 = .ok (.iload_n 1, 1) := by decide +kernel
theorem dX5_alike_64 : decode cX5_alike 64 = .ok (.iload_n 2, 1) := by decide +kernel
theorem dX5_alike_65 : decode cX5_alike 65 = .ok (.invokevirtual 164, 3) := by decide +kernel
theorem dX5_alike_68 : decode cX5_alike 68 = .ok (.iload_n 3, 1) := by decide +kernel
theorem dX5_alike_69 : decode cX5_alike 69 = .ok (.invokevirtual 177, 3) := by decide +kernel
theorem dX5_alike_72 : decode cX5_alike 72 = .ok (.lreturn, 1) := by decide +kernel
def rX5_alike : Room := { frames := 6, cells := 0, slots := 0, locals := 147 }
theorem yk_X5_alike : YK yX5_alike cX5_alike 5 (some .long) 3 := ⟨xim_X5_alike, xse_X5_alike, xin_X5, xco_X5_alike, by decide +kernel⟩
set_option maxRecDepth 4000 in
theorem c_X5_alike {l : Launch} {D : va_G} {t : Nat → ClassId} {a : Nat → Nat} {I : Nat → Int32} {F : Nat → Nat → Int32} {L : Nat → Int64} {K : Cfg} {sd : Int32} {hd : Nat → Nat} {dk : Bool} {dw : Nat → Nat} {mt : Int32} (hI : INV (K, sd, hd, dk, dw, mt)) (hX : RX (K, sd, hd, dk, dw, mt) I F) (x z y : Int32) : CT l D t yX5_alike cX5_alike 5 (some .long) rX5_alike 0 0 [.ref (a 0), .int x, .int z, .int y] (WX a t I F L) (XO a t (opAlike (K, sd, hd, dk, dw, mt) x z y)) := by
  refine CT.of (by decide +kernel) (by simp [lg_sl, Value.category]) (fun X C hR => ?_)
  refine xlocals (lv' := [(0, .ref (a 0)), (1, .int x), (2, .int z), (3, .int y)]) rfl ?_
  obtain ⟨hK, hsd, hHd, hdk, hdr, hgd, hHS, hLS⟩ := id hX
  have hW : WFK K := hI.1
  have hrg := hI.2.1
  have fn24 := hW.n24; have fm60 := hW.m60; have fk2 := hW.k2; have fu1 := hW.u1; have fu9 := hW.u9; have fv1 := hW.v1; have fv9 := hW.v9
  refine xaload_n C 0 rfl dX5_alike_0 ?_
  refine gX5_10 C dX5_alike_1 ?_
  refine xiload_n C 1 rfl dX5_alike_4 ?_
  refine xcVR C (c_X1_has hK hW x) yk_X1_has 1 rfl rfl xml_X5_68 ⟨⟨Nat.le_of_ble_eq_true rfl, Nat.le_of_ble_eq_true rfl⟩, ⟨rfl, rfl⟩, ⟨Nat.zero_le _, Nat.zero_le _⟩⟩ rfl (Nat.le_of_ble_eq_true rfl) dX5_alike_5 ?_
  refine xif_eqN C 22 dX5_alike_8 (by decide) (bn_lt _) (fun h8 => ?_) (fun h8 => ?_)
  ·
    have h8 := bn_0 h8
    refine xldc2 C dX5_alike_22 xcn_X5_181 ?_
    exact xlret C hR dX5_alike_25 (XO.mk (by simp only [opAlike]; rw [ci_t (Or.inl h8)]) hX)
  ·
    obtain ⟨p, hp, rfl⟩ := (bn_1 h8).nat hW
    refine xaload_n C 0 rfl dX5_alike_11 ?_
    refine gX5_10 C dX5_alike_12 ?_
    refine xiload_n C 2 rfl dX5_alike_15 ?_
    refine xcVR C (c_X1_has hK hW z) yk_X1_has 1 rfl rfl xml_X5_68 ⟨⟨Nat.le_of_ble_eq_true rfl, Nat.le_of_ble_eq_true rfl⟩, ⟨rfl, rfl⟩, ⟨Nat.zero_le _, Nat.zero_le _⟩⟩ rfl (Nat.le_of_ble_eq_true rfl) dX5_alike_16 ?_
    refine xif_neN C 26 dX5_alike_19 (by decide) (bn_lt _) (fun h19 => ?_) (fun h19 => ?_)
    ·
      obtain ⟨q, hq, rfl⟩ := (bn_1 h19).nat hW
      refine xiload_n C 3 rfl dX5_alike_26 ?_
      refine xcSR C (c_X5_isNoPart y) sk_X5_isNoPart xml_X5_168 ⟨⟨Nat.le_of_ble_eq_true rfl, Nat.le_of_ble_eq_true rfl⟩, ⟨rfl, rfl⟩, ⟨Nat.zero_le _, Nat.zero_le _⟩⟩ rfl (Nat.le_of_ble_eq_true rfl) dX5_alike_27 ?_
      refine xif_eqN C 37 dX5_alike_30 (by decide) (bn_lt _) (fun h30 => ?_) (fun h30 => ?_)
      ·
        obtain ⟨w, hw1, rfl⟩ := box01 (fun q => bn_0 h30 (Or.inl q)) (fun q => bn_0 h30 (Or.inr q))
        refine xaload_n C 0 rfl dX5_alike_37 ?_
        refine xcVE C (c_X5_refusalUnlessSmall hK hW hgd) yk_X5_refusalUnlessSmall 0 rfl rfl xml_X5_161 ⟨⟨Nat.le_of_ble_eq_true rfl, Nat.le_of_ble_eq_true rfl⟩, ⟨rfl, rfl⟩, ⟨Nat.zero_le _, Nat.zero_le _⟩⟩ rfl (Nat.le_of_ble_eq_true rfl) dX5_alike_38 (fun vE wE hE => ?_)
        obtain ⟨rfl, hor⟩ := hE
        rcases hor with ⟨hg, rfl⟩ | ⟨hg, hsm, rfl⟩ | ⟨hg, hsm, rfl⟩
        ·
          refine xistore (lv' := [(4, .int (-5)), (0, .ref (a 0)), (1, .int (nI p)), (2, .int (nI q)), (3, .int (nI w))]) C dX5_alike_41 (by decide) rfl ?_
          refine xiload C 0 rfl dX5_alike_43 ?_
          refine xif_eq C 54 dX5_alike_45 (by decide) (fun h45 => ?_) (fun h45 => ?_)
          · exact absurd h45 (by decide)
          ·
            refine xiload C 0 rfl dX5_alike_48 ?_
            refine xi2l C dX5_alike_50 ?_
            refine xtopl (y := -5) (by decide +kernel) ?_
            refine xgoto C 72 dX5_alike_51 (by decide) ?_
            exact xlret C hR dX5_alike_72 (XO.mk (by simp only [opAlike]; rw [ci_f (fun q => q.elim (fun q => q (hasP_nat hW hp)) (fun q => q (hasP_nat hW hq))), ci_f (bn_0 h30), ci_t hg]) hX)
        ·
          refine xistore (lv' := [(4, .int (-4)), (0, .ref (a 0)), (1, .int (nI p)), (2, .int (nI q)), (3, .int (nI w))]) C dX5_alike_41 (by decide) rfl ?_
          refine xiload C 0 rfl dX5_alike_43 ?_
          refine xif_eq C 54 dX5_alike_45 (by decide) (fun h45 => ?_) (fun h45 => ?_)
          · exact absurd h45 (by decide)
          ·
            refine xiload C 0 rfl dX5_alike_48 ?_
            refine xi2l C dX5_alike_50 ?_
            refine xtopl (y := -4) (by decide +kernel) ?_
            refine xgoto C 72 dX5_alike_51 (by decide) ?_
            exact xlret C hR dX5_alike_72 (XO.mk (by simp only [opAlike]; rw [ci_f (fun q => q.elim (fun q => q (hasP_nat hW hp)) (fun q => q (hasP_nat hW hq))), ci_f (bn_0 h30), ci_f (fun q => q hg), ci_t hsm]) hX)
        ·
          refine xistore (lv' := [(4, .int (nI 0)), (0, .ref (a 0)), (1, .int (nI p)), (2, .int (nI q)), (3, .int (nI w))]) C dX5_alike_41 (by decide) rfl ?_
          refine xiload C 0 rfl dX5_alike_43 ?_
          refine xif_eqN C 54 dX5_alike_45 (by decide) (by omega) (fun h45 => ?_) (fun h45 => ?_)
          ·
            refine xaload_n C 1 rfl dX5_alike_54 ?_
            refine gX5_46 C dX5_alike_55 ?_
            refine xaload_n C 1 rfl dX5_alike_58 ?_
            refine gX5_46 C dX5_alike_59 ?_
            refine xiconst (v := nI 3) C dX5_alike_62 (by decide) ?_
            refine xiload_n C 2 rfl dX5_alike_63 ?_
            refine xiload_n C 3 rfl dX5_alike_64 ?_
            have hn : 0 < kn K := hg.1
            have hs := hsm
            refine xcVE C (c_X3_sumOf hK hW hs 3 p q (by omega) (by omega) (by omega)) yk_X3_sumOf 5 rfl rfl xml_X5_164 ⟨⟨Nat.le_of_ble_eq_true rfl, Nat.le_of_ble_eq_true rfl⟩, ⟨rfl, rfl⟩, ⟨Nat.zero_le _, Nat.zero_le _⟩⟩ rfl (Nat.le_of_ble_eq_true rfl) dX5_alike_65 (fun vE wE hE => ?_)
            obtain ⟨rfl, FA, rfl, hFA⟩ := hE
            have hKA : CFG K I FA := hK.of (fun _ _ => rfl) (fun q hq => hFA q (by omega))
            refine xiload_n C 4 rfl dX5_alike_68 ?_
            have hn : 0 < kn K := hg.1
            have hs := hsm
            have hpos : 0 < suN K 1 0 0 := suN_pos hW hg (hI.2.2.1 hg)
            refine xcVE C (c_X3_share hKA hW hs hn hpos (suN K 3 p q) w (suN_lt hW hsm 3 q hp) (by omega)) yk_X3_share 5 rfl rfl xml_X5_177 ⟨⟨Nat.le_of_ble_eq_true rfl, Nat.le_of_ble_eq_true rfl⟩, ⟨rfl, rfl⟩, ⟨Nat.zero_le _, Nat.zero_le _⟩⟩ rfl (Nat.le_of_ble_eq_true rfl) dX5_alike_69 (fun vE wE hE => ?_)
            obtain ⟨rfl, FB, rfl, hFB⟩ := hE
            exact xlret C hR dX5_alike_72 (XO.mk (by simp only [opAlike]; rw [ci_f (fun q => q.elim (fun q => q (hasP_nat hW hp)) (fun q => q (hasP_nat hW hq))), ci_f (bn_0 h30), ci_f (fun q => q hg), ci_f (fun q => q hsm), show cl (nI p) = p from nI_clamp (by omega), show cl (nI q) = q from nI_clamp (by omega), shN_nat hw1]) (hX.of (fun _ _ _ => rfl) (fun q h1 h2 h3 => (hFB q h3).trans (hFA q h3))))
          · exact absurd rfl h45
      ·
        refine xldc2 C dX5_alike_33 xcn_X5_171 ?_
        exact xlret C hR dX5_alike_36 (XO.mk (by simp only [opAlike]; rw [ci_f (fun q => q.elim (fun q => q (hasP_nat hW hp)) (fun q => q (hasP_nat hW hq))), ci_t (bn_1 h30)]) hX)
    ·
      have h19 := bn_0 h19
      refine xldc2 C dX5_alike_22 xcn_X5_181 ?_
      exact xlret C hR dX5_alike_25 (XO.mk (by simp only [opAlike]; rw [ci_t (Or.inr h19)]) hX)
theorem dX5_told_0 : decode cX5_told 0 = .ok (.iload_n 1, 1) := by decide +kernel
theorem dX5_told_1 : decode cX5_told 1 = .ok (.tableswitch 120 0 7 #[47, 55, 63, 71, 79, 87, 92, 108], 47) := by decide +kernel
theorem dX5_told_48 : decode cX5_told 48 = .ok (.aload_n 0, 1) := by decide +kernel
theorem dX5_told_49 : decode cX5_told 49 = .ok (.getfield 10, 3) := by decide +kernel
theorem dX5_told_52 : decode cX5_told 52 = .ok (.getfield 58, 3) := by decide +kernel
theorem dX5_told_55 : decode cX5_told 55 = .ok (.ireturn, 1) := by decide +kernel
theorem dX5_told_56 : decode cX5_told 56 = .ok (.aload_n 0, 1) := by decide +kernel
theorem dX5_told_57 : decode cX5_told 57 = .ok (.getfield 10, 3) := by decide +kernel
theorem dX5_told_60 : decode cX5_told 60 = .ok (.getfield 72, 3) := by decide +kernel
theorem dX5_told_63 : decode cX5_told 63 = .ok (.ireturn, 1) := by decide +kernel
theorem dX5_told_64 : decode cX5_told 64 = .ok (.aload_n 0, 1) := by decide +kernel
theorem dX5_told_65 : decode cX5_told 65 = .ok (.getfield 21, 3) := by decide +kernel
theorem dX5_told_68 : decode cX5_told 68 = .ok (.getfield 86, 3) := by decide +kernel
theorem dX5_told_71 : decode cX5_told 71 = .ok (.ireturn, 1) := by decide +kernel
theorem dX5_told_72 : decode cX5_told 72 = .ok (.aload_n 0, 1) := by decide +kernel
theorem dX5_told_73 : decode cX5_told 73 = .ok (.getfield 21, 3) := by decide +kernel
theorem dX5_told_76 : decode cX5_told 76 = .ok (.getfield 89, 3) := by decide +kernel
theorem dX5_told_79 : decode cX5_told 79 = .ok (.ireturn, 1) := by decide +kernel
theorem dX5_told_80 : decode cX5_told 80 = .ok (.aload_n 0, 1) := by decide +kernel
theorem dX5_told_81 : decode cX5_told 81 = .ok (.getfield 21, 3) := by decide +kernel
theorem dX5_told_84 : decode cX5_told 84 = .ok (.getfield 92, 3) := by decide +kernel
theorem dX5_told_87 : decode cX5_told 87 = .ok (.ireturn, 1) := by decide +kernel
theorem dX5_told_88 : decode cX5_told 88 = .ok (.aload_n 0, 1) := by decide +kernel
theorem dX5_told_89 : decode cX5_told 89 = .ok (.getfield 54, 3) := by decide +kernel
theorem dX5_told_92 : decode cX5_told 92 = .ok (.ireturn, 1) := by decide +kernel
theorem dX5_told_93 : decode cX5_told 93 = .ok (.aload_n 0, 1) := by decide +kernel
theorem dX5_told_94 : decode cX5_told 94 = .ok (.getfield 39, 3) := by decide +kernel
theorem dX5_told_97 : decode cX5_told 97 = .ok (.getfield 115, 3) := by decide +kernel
theorem dX5_told_100 : decode cX5_told 100 = .ok (.ifCond .eq 7, 3) := by decide +kernel
theorem dX5_told_103 : decode cX5_told 103 = .ok (.iconst 1, 1) := by decide +kernel
theorem dX5_told_104 : decode cX5_told 104 = .ok (.goto 4, 3) := by decide +kernel
theorem dX5_told_107 : decode cX5_told 107 = .ok (.iconst 0, 1) := by decide +kernel
theorem dX5_told_108 : decode cX5_told 108 = .ok (.ireturn, 1) := by decide +kernel
theorem dX5_told_109 : decode cX5_told 109 = .ok (.aload_n 0, 1) := by decide +kernel
theorem dX5_told_110 : decode cX5_told 110 = .ok (.getfield 10, 3) := by decide +kernel
theorem dX5_told_113 : decode cX5_told 113 = .ok (.aload_n 0, 1) := by decide +kernel
theorem dX5_told_114 : decode cX5_told 114 = .ok (.getfield 50, 3) := by decide +kernel
theorem dX5_told_117 : decode cX5_told 117 = .ok (.invokevirtual 183, 3) := by decide +kernel
theorem dX5_told_120 : decode cX5_told 120 = .ok (.ireturn, 1) := by decide +kernel
theorem dX5_told_121 : decode cX5_told 121 = .ok (.ldc 189, 2) := by decide +kernel
theorem dX5_told_123 : decode cX5_told 123 = .ok (.ireturn, 1) := by decide +kernel
def rX5_told : Room := { frames := 1, cells := 0, slots := 0, locals := 23 }
theorem yk_X5_told : YK yX5_told cX5_told 2 (some .int) 1 := ⟨xim_X5_told, xse_X5_told, xin_X5, xco_X5_told, by decide +kernel⟩
set_option maxRecDepth 4000 in
theorem c_X5_told {l : Launch} {D : va_G} {t : Nat → ClassId} {a : Nat → Nat} {I : Nat → Int32} {F : Nat → Nat → Int32} {L : Nat → Int64} {K : Cfg} {sd : Int32} {hd : Nat → Nat} {dk : Bool} {dw : Nat → Nat} {mt : Int32} (hI : INV (K, sd, hd, dk, dw, mt)) (hX : RX (K, sd, hd, dk, dw, mt) I F) (x : Int32) : CT l D t yX5_told cX5_told 2 (some .int) rX5_told 0 0 [.ref (a 0), .int x] (WX a t I F L) (XO a t (opTold (K, sd, hd, dk, dw, mt) x)) := by
  refine CT.of (by decide +kernel) (by simp [lg_sl, Value.category]) (fun X C hR => ?_)
  refine xlocals (lv' := [(0, .ref (a 0)), (1, .int x)]) rfl ?_
  obtain ⟨hK, hsd, hHd, hdk, hdr, hgd, hHS, hLS⟩ := id hX
  have hW : WFK K := hI.1
  have hrg := hI.2.1
  have fn24 := hW.n24; have fm60 := hW.m60; have fk2 := hW.k2; have fu1 := hW.u1; have fu9 := hW.u9; have fv1 := hW.v1; have fv9 := hW.v9
  refine xiload_n C 1 rfl dX5_told_0 ?_
  rcases sw07 x with h1 | h1 | h1 | h1 | h1 | h1 | h1 | h1 | h1
  ·
    subst h1
    refine xtabIn C 48 dX5_told_1 (off := 47) (by decide +kernel) (by decide +kernel) (by decide +kernel) (by decide) ?_
    refine xaload_n C 0 rfl dX5_told_48 ?_
    refine gX5_10 C dX5_told_49 ?_
    refine gX5_58K C hK dX5_told_52 ?_
    exact xret C hR (rfl) dX5_told_55 (XO.mk (by rw [opTold, ci_t rfl]) hX)
  ·
    subst h1
    refine xtabIn C 56 dX5_told_1 (off := 55) (by decide +kernel) (by decide +kernel) (by decide +kernel) (by decide) ?_
    refine xaload_n C 0 rfl dX5_told_56 ?_
    refine gX5_10 C dX5_told_57 ?_
    refine gX5_72K C hK dX5_told_60 ?_
    exact xret C hR (rfl) dX5_told_63 (XO.mk (by rw [opTold, ci_f (by decide +kernel), ci_t rfl]) hX)
  ·
    subst h1
    refine xtabIn C 64 dX5_told_1 (off := 63) (by decide +kernel) (by decide +kernel) (by decide +kernel) (by decide) ?_
    refine xaload_n C 0 rfl dX5_told_64 ?_
    refine gX5_21 C dX5_told_65 ?_
    refine gX5_86K C hK dX5_told_68 ?_
    exact xret C hR (rfl) dX5_told_71 (XO.mk (by rw [opTold, ci_f (by decide +kernel), ci_f (by decide +kernel), ci_t rfl]) hX)
  ·
    subst h1
    refine xtabIn C 72 dX5_told_1 (off := 71) (by decide +kernel) (by decide +kernel) (by decide +kernel) (by decide) ?_
    refine xaload_n C 0 rfl dX5_told_72 ?_
    refine gX5_21 C dX5_told_73 ?_
    refine gX5_89K C hK dX5_told_76 ?_
    exact xret C hR (rfl) dX5_told_79 (XO.mk (by rw [opTold, ci_f (by decide +kernel), ci_f (by decide +kernel), ci_f (by decide +kernel), ci_t rfl]) hX)
  ·
    subst h1
    refine xtabIn C 80 dX5_told_1 (off := 79) (by decide +kernel) (by decide +kernel) (by decide +kernel) (by decide) ?_
    refine xaload_n C 0 rfl dX5_told_80 ?_
    refine gX5_21 C dX5_told_81 ?_
    refine gX5_92K C hK dX5_told_84 ?_
    exact xret C hR (rfl) dX5_told_87 (XO.mk (by rw [opTold, ci_f (by decide +kernel), ci_f (by decide +kernel), ci_f (by decide +kernel), ci_f (by decide +kernel), ci_t rfl]) hX)
  ·
    subst h1
    refine xtabIn C 88 dX5_told_1 (off := 87) (by decide +kernel) (by decide +kernel) (by decide +kernel) (by decide) ?_
    refine xaload_n C 0 rfl dX5_told_88 ?_
    refine gX5_54 C dX5_told_89 ?_
    refine xtopi (y := sd) (hsd) ?_
    exact xret C hR (rfl) dX5_told_92 (XO.mk (by rw [opTold, ci_f (by decide +kernel), ci_f (by decide +kernel), ci_f (by decide +kernel), ci_f (by decide +kernel), ci_f (by decide +kernel), ci_t rfl]) hX)
  ·
    subst h1
    refine xtabIn C 93 dX5_told_1 (off := 92) (by decide +kernel) (by decide +kernel) (by decide +kernel) (by decide) ?_
    refine xaload_n C 0 rfl dX5_told_93 ?_
    refine gX5_39 C dX5_told_94 ?_
    refine gX5_115 C dX5_told_97 ?_
    refine xtopi (y := nI (dkN dk)) (hdk) ?_
    have hdl := dkN_le dk
    refine xif_eqN C 107 dX5_told_100 (by decide) (by omega) (fun h100 => ?_) (fun h100 => ?_)
    ·
      refine xiconst (v := nI 0) C dX5_told_107 (by decide) ?_
      exact xret C hR (rfl) dX5_told_108 (XO.mk (by rw [opTold, ci_f (by decide +kernel), ci_f (by decide +kernel), ci_f (by decide +kernel), ci_f (by decide +kernel), ci_f (by decide +kernel), ci_f (by decide +kernel), ci_t rfl, show dkN dk = 0 from h100]) hX)
    ·
      refine xiconst (v := nI 1) C dX5_told_103 (by decide) ?_
      refine xgoto C 108 dX5_told_104 (by decide) ?_
      exact xret C hR (rfl) dX5_told_108 (XO.mk (by rw [opTold, ci_f (by decide +kernel), ci_f (by decide +kernel), ci_f (by decide +kernel), ci_f (by decide +kernel), ci_f (by decide +kernel), ci_f (by decide +kernel), ci_t rfl, show dkN dk = 1 from by rw [dk1 h100]; rfl]) hX)
  ·
    subst h1
    refine xtabIn C 109 dX5_told_1 (off := 108) (by decide +kernel) (by decide +kernel) (by decide +kernel) (by decide) ?_
    refine xaload_n C 0 rfl dX5_told_109 ?_
    refine gX5_10 C dX5_told_110 ?_
    refine xaload_n C 0 rfl dX5_told_113 ?_
    refine gX5_50 C dX5_told_114 ?_
    refine xcVR C (c_X1_likeLinks hK hW 12 (by omega) (by omega) hHd) yk_X1_likeLinks 1 rfl rfl xml_X5_183 ⟨⟨Nat.le_of_ble_eq_true rfl, Nat.le_of_ble_eq_true rfl⟩, ⟨rfl, rfl⟩, ⟨Nat.zero_le _, Nat.zero_le _⟩⟩ rfl (Nat.le_of_ble_eq_true rfl) dX5_told_117 ?_
    exact xret C hR (rfl) dX5_told_120 (XO.mk (by rw [opTold, ci_f (by decide +kernel), ci_f (by decide +kernel), ci_f (by decide +kernel), ci_f (by decide +kernel), ci_f (by decide +kernel), ci_f (by decide +kernel), ci_f (by decide +kernel), ci_t rfl]) hX)
  ·
    refine xtabOut C 121 dX5_told_1 h1 (by decide) ?_
    refine xldc C dX5_told_121 xcn_X5_189 ?_
    exact xret C hR (rfl) dX5_told_123 (XO.mk (by rw [opTold, ci_f (fun e => by subst e; revert h1; decide +kernel), ci_f (fun e => by subst e; revert h1; decide +kernel), ci_f (fun e => by subst e; revert h1; decide +kernel), ci_f (fun e => by subst e; revert h1; decide +kernel), ci_f (fun e => by subst e; revert h1; decide +kernel), ci_f (fun e => by subst e; revert h1; decide +kernel), ci_f (fun e => by subst e; revert h1; decide +kernel), ci_f (fun e => by subst e; revert h1; decide +kernel)]) hX)
theorem dX5_about_0 : decode cX5_about 0 = .ok (.aload_n 0, 1) := by decide +kernel
theorem dX5_about_1 : decode cX5_about 1 = .ok (.getfield 10, 3) := by decide +kernel
theorem dX5_about_4 : decode cX5_about 4 = .ok (.iload_n 1, 1) := by decide +kernel
theorem dX5_about_5 : decode cX5_about 5 = .ok (.invokevirtual 68, 3) := by decide +kernel
theorem dX5_about_8 : decode cX5_about 8 = .ok (.ifCond .ne 5, 3) := by decide +kernel
theorem dX5_about_11 : decode cX5_about 11 = .ok (.iconst (-1), 1) := by decide +kernel
theorem dX5_about_12 : decode cX5_about 12 = .ok (.ireturn, 1) := by decide +kernel
theorem dX5_about_13 : decode cX5_about 13 = .ok (.iload_n 2, 1) := by decide +kernel
theorem dX5_about_14 : decode cX5_about 14 = .ok (.tableswitch 70 0 3 #[30, 40, 50, 60], 30) := by decide +kernel
theorem dX5_about_44 : decode cX5_about 44 = .ok (.aload_n 0, 1) := by decide +kernel
theorem dX5_about_45 : decode cX5_about 45 = .ok (.getfield 10, 3) := by decide +kernel
theorem dX5_about_48 : decode cX5_about 48 = .ok (.getfield 95, 3) := by decide +kernel
theorem dX5_about_51 : decode cX5_about 51 = .ok (.iload_n 1, 1) := by decide +kernel
theorem dX5_about_52 : decode cX5_about 52 = .ok (.iaload, 1) := by decide +kernel
theorem dX5_about_53 : decode cX5_about 53 = .ok (.ireturn, 1) := by decide +kernel
theorem dX5_about_54 : decode cX5_about 54 = .ok (.aload_n 0, 1) := by decide +kernel
theorem dX5_about_55 : decode cX5_about 55 = .ok (.getfield 10, 3) := by decide +kernel
theorem dX5_about_58 : decode cX5_about 58 = .ok (.getfield 190, 3) := by decide +kernel
theorem dX5_about_61 : decode cX5_about 61 = .ok (.iload_n 1, 1) := by decide +kernel
theorem dX5_about_62 : decode cX5_about 62 = .ok (.iaload, 1) := by decide +kernel
theorem dX5_about_63 : decode cX5_about 63 = .ok (.ireturn, 1) := by decide +kernel
theorem dX5_about_64 : decode cX5_about 64 = .ok (.aload_n 0, 1) := by decide +kernel
theorem dX5_about_65 : decode cX5_about 65 = .ok (.getfield 10, 3) := by decide +kernel
theorem dX5_about_68 : decode cX5_about 68 = .ok (.getfield 98, 3) := by decide +kernel
theorem dX5_about_71 : decode cX5_about 71 = .ok (.iload_n 1, 1) := by decide +kernel
theorem dX5_about_72 : decode cX5_about 72 = .ok (.iaload, 1) := by decide +kernel
theorem dX5_about_73 : decode cX5_about 73 = .ok (.ireturn, 1) := by decide +kernel
theorem dX5_about_74 : decode cX5_about 74 = .ok (.aload_n 0, 1) := by decide +kernel
theorem dX5_about_75 : decode cX5_about 75 = .ok (.getfield 10, 3) := by decide +kernel
theorem dX5_about_78 : decode cX5_about 78 = .ok (.getfield 193, 3) := by decide +kernel
theorem dX5_about_81 : decode cX5_about 81 = .ok (.iload_n 1, 1) := by decide +kernel
theorem dX5_about_82 : decode cX5_about 82 = .ok (.iaload, 1) := by decide +kernel
theorem dX5_about_83 : decode cX5_about 83 = .ok (.ireturn, 1) := by decide +kernel
theorem dX5_about_84 : decode cX5_about 84 = .ok (.iload_n 2, 1) := by decide +kernel
theorem dX5_about_85 : decode cX5_about 85 = .ok (.bipush 10, 2) := by decide +kernel
theorem dX5_about_87 : decode cX5_about 87 = .ok (.if_icmp .lt 9, 3) := by decide +kernel
theorem dX5_about_90 : decode cX5_about 90 = .ok (.iload_n 2, 1) := by decide +kernel
theorem dX5_about_91 : decode cX5_about 91 = .ok (.bipush 16, 2) := by decide +kernel
theorem dX5_about_93 : decode cX5_about 93 = .ok (.if_icmp .lt 6, 3) := by decide +kernel
theorem dX5_about_96 : decode cX5_about 96 = .ok (.bipush (-2), 2) := by decide +kernel
theorem dX5_about_98 : decode cX5_about 98 = .ok (.ireturn, 1) := by decide +kernel
theorem dX5_about_99 : decode cX5_about 99 = .ok (.iload_n 2, 1) := by decide +kernel
theorem dX5_about_100 : decode cX5_about 100 = .ok (.bipush 10, 2) := by decide +kernel
theorem dX5_about_102 : decode cX5_about 102 = .ok (.isub, 1) := by decide +kernel
theorem dX5_about_103 : decode cX5_about 103 = .ok (.aload_n 0, 1) := by decide +kernel
theorem dX5_about_104 : decode cX5_about 104 = .ok (.getfield 10, 3) := by decide +kernel
theorem dX5_about_107 : decode cX5_about 107 = .ok (.getfield 193, 3) := by decide +kernel
theorem dX5_about_110 : decode cX5_about 110 = .ok (.iload_n 1, 1) := by decide +kernel
theorem dX5_about_111 : decode cX5_about 111 = .ok (.iaload, 1) := by decide +kernel
theorem dX5_about_112 : decode cX5_about 112 = .ok (.if_icmp .ge 20, 3) := by decide +kernel
theorem dX5_about_115 : decode cX5_about 115 = .ok (.aload_n 0, 1) := by decide +kernel
theorem dX5_about_116 : decode cX5_about 116 = .ok (.getfield 10, 3) := by decide +kernel
theorem dX5_about_119 : decode cX5_about 119 = .ok (.getfield 196, 3) := by decide +kernel
theorem dX5_about_122 : decode cX5_about 122 = .ok (.iload_n 1, 1) := by decide +kernel
theorem dX5_about_123 : decode cX5_about 123 = .ok (.aaload, 1) := by decide +kernel
theorem dX5_about_124 : decode cX5_about 124 = .ok (.iload_n 2, 1) := by decide +kernel
theorem dX5_about_125 : decode cX5_about 125 = .ok (.bipush 10, 2) := by decide +kernel
theorem dX5_about_127 : decode cX5_about 127 = .ok (.isub, 1) := by decide +kernel
theorem dX5_about_128 : decode cX5_about 128 = .ok (.iaload, 1) := by decide +kernel
theorem dX5_about_129 : decode cX5_about 129 = .ok (.goto 5, 3) := by decide +kernel
theorem dX5_about_132 : decode cX5_about 132 = .ok (.bipush (-6), 2) := by decide +kernel
theorem dX5_about_134 : decode cX5_about 134 = .ok (.ireturn, 1) := by decide +kernel
def rX5_about : Room := { frames := 1, cells := 0, slots := 0, locals := 21 }
theorem yk_X5_about : YK yX5_about cX5_about 3 (some .int) 2 := ⟨xim_X5_about, xse_X5_about, xin_X5, xco_X5_about, by decide +kernel⟩
set_option maxRecDepth 4000 in
theorem c_X5_about {l : Launch} {D : va_G} {t : Nat → ClassId} {a : Nat → Nat} {I : Nat → Int32} {F : Nat → Nat → Int32} {L : Nat → Int64} {K : Cfg} {sd : Int32} {hd : Nat → Nat} {dk : Bool} {dw : Nat → Nat} {mt : Int32} (hI : INV (K, sd, hd, dk, dw, mt)) (hX : RX (K, sd, hd, dk, dw, mt) I F) (x y : Int32) : CT l D t yX5_about cX5_about 3 (some .int) rX5_about 0 0 [.ref (a 0), .int x, .int y] (WX a t I F L) (XO a t (opAbout (K, sd, hd, dk, dw, mt) x y)) := by
  refine CT.of (by decide +kernel) (by simp [lg_sl, Value.category]) (fun X C hR => ?_)
  refine xlocals (lv' := [(0, .ref (a 0)), (1, .int x), (2, .int y)]) rfl ?_
  obtain ⟨hK, hsd, hHd, hdk, hdr, hgd, hHS, hLS⟩ := id hX
  have hW : WFK K := hI.1
  have hrg := hI.2.1
  have fn24 := hW.n24; have fm60 := hW.m60; have fk2 := hW.k2; have fu1 := hW.u1; have fu9 := hW.u9; have fv1 := hW.v1; have fv9 := hW.v9
  refine xaload_n C 0 rfl dX5_about_0 ?_
  refine gX5_10 C dX5_about_1 ?_
  refine xiload_n C 1 rfl dX5_about_4 ?_
  refine xcVR C (c_X1_has hK hW x) yk_X1_has 1 rfl rfl xml_X5_68 ⟨⟨Nat.le_of_ble_eq_true rfl, Nat.le_of_ble_eq_true rfl⟩, ⟨rfl, rfl⟩, ⟨Nat.zero_le _, Nat.zero_le _⟩⟩ rfl (Nat.le_of_ble_eq_true rfl) dX5_about_5 ?_
  refine xif_neN C 13 dX5_about_8 (by decide) (bn_lt _) (fun h8 => ?_) (fun h8 => ?_)
  ·
    obtain ⟨p, hp, rfl⟩ := (bn_1 h8).nat hW
    refine xiload_n C 2 rfl dX5_about_13 ?_
    rcases sw03 y with h14 | h14 | h14 | h14 | h14
    ·
      subst h14
      refine xtabIn C 44 dX5_about_14 (off := 30) (by decide +kernel) (by decide +kernel) (by decide +kernel) (by decide) ?_
      refine xaload_n C 0 rfl dX5_about_44 ?_
      refine gX5_10 C dX5_about_45 ?_
      refine gX5_95 C dX5_about_48 ?_
      refine xiload_n C 1 rfl dX5_about_51 ?_
      refine xa_top C hK hW p (by omega) dX5_about_52 ?_
      have fb52 := (hW.top5 (by omega))
      exact xret C hR (rfl) dX5_about_53 (XO.mk (by rw [opAbout, ci_f (fun q => q (hasP_nat hW hp)), show cl (nI p) = p from nI_clamp (by omega), ci_t rfl]) hX)
    ·
      subst h14
      refine xtabIn C 54 dX5_about_14 (off := 40) (by decide +kernel) (by decide +kernel) (by decide +kernel) (by decide) ?_
      refine xaload_n C 0 rfl dX5_about_54 ?_
      refine gX5_10 C dX5_about_55 ?_
      refine gX5_190 C dX5_about_58 ?_
      refine xiload_n C 1 rfl dX5_about_61 ?_
      refine xa_si C hK hW p (by omega) dX5_about_62 ?_
      have fb62 := (hW.si1 (by omega))
      exact xret C hR (rfl) dX5_about_63 (XO.mk (by rw [opAbout, ci_f (fun q => q (hasP_nat hW hp)), show cl (nI p) = p from nI_clamp (by omega), ci_f (by decide +kernel), ci_t rfl]) hX)
    ·
      subst h14
      refine xtabIn C 64 dX5_about_14 (off := 50) (by decide +kernel) (by decide +kernel) (by decide +kernel) (by decide) ?_
      refine xaload_n C 0 rfl dX5_about_64 ?_
      refine gX5_10 C dX5_about_65 ?_
      refine gX5_98 C dX5_about_68 ?_
      refine xiload_n C 1 rfl dX5_about_71 ?_
      refine xa_hd C hK hW p (by omega) dX5_about_72 ?_
      have fb72 := (hW.hd6 (by omega))
      exact xret C hR (rfl) dX5_about_73 (XO.mk (by rw [opAbout, ci_f (fun q => q (hasP_nat hW hp)), show cl (nI p) = p from nI_clamp (by omega), ci_f (by decide +kernel), ci_f (by decide +kernel), ci_t rfl]) hX)
    ·
      subst h14
      refine xtabIn C 74 dX5_about_14 (off := 60) (by decide +kernel) (by decide +kernel) (by decide +kernel) (by decide) ?_
      refine xaload_n C 0 rfl dX5_about_74 ?_
      refine gX5_10 C dX5_about_75 ?_
      refine gX5_193 C dX5_about_78 ?_
      refine xiload_n C 1 rfl dX5_about_81 ?_
      refine xa_dg C hK hW p (by omega) dX5_about_82 ?_
      have fb82 := hW.dg6 p
      exact xret C hR (rfl) dX5_about_83 (XO.mk (by rw [opAbout, ci_f (fun q => q (hasP_nat hW hp)), show cl (nI p) = p from nI_clamp (by omega), ci_f (by decide +kernel), ci_f (by decide +kernel), ci_f (by decide +kernel), ci_t rfl]) hX)
    ·
      refine xtabOut C 84 dX5_about_14 h14 (by decide) ?_
      refine xiload_n C 2 rfl dX5_about_84 ?_
      refine xbipush (v := 10) C dX5_about_85 (by decide) ?_
      refine xicmp_lt C 96 dX5_about_87 (by decide) (fun h87 => ?_) (fun h87 => ?_)
      ·
        refine xbipush (v := -2) C dX5_about_96 (by decide) ?_
        exact xret C hR (rfl) dX5_about_98 (XO.mk (by rw [opAbout, ci_f (fun q => q (hasP_nat hW hp)), show cl (nI p) = p from nI_clamp (by omega), ci_f (fun e => by subst e; revert h14; decide +kernel), ci_f (fun e => by subst e; revert h14; decide +kernel), ci_f (fun e => by subst e; revert h14; decide +kernel), ci_f (fun e => by subst e; revert h14; decide +kernel), ci_t (Or.inl h87)]) hX)
      ·
        refine xiload_n C 2 rfl dX5_about_90 ?_
        refine xbipush (v := 16) C dX5_about_91 (by decide) ?_
        refine xicmp_lt C 99 dX5_about_93 (by decide) (fun h93 => ?_) (fun h93 => ?_)
        ·
          obtain ⟨c, hc10, hc15, rfl⟩ := boxN (a := 10) (b := 15) (by decide) (by decide) h87 (lt16 h93)
          refine xiload_n C 2 rfl dX5_about_99 ?_
          refine xbipush (v := nI 10) C dX5_about_100 (by decide) ?_
          refine xisubN C (by omega) dX5_about_102 ?_
          refine xaload_n C 0 rfl dX5_about_103 ?_
          refine gX5_10 C dX5_about_104 ?_
          refine gX5_193 C dX5_about_107 ?_
          refine xiload_n C 1 rfl dX5_about_110 ?_
          refine xa_dg C hK hW p (by omega) dX5_about_111 ?_
          have fb111 := hW.dg6 p
          refine xicmp_geN C 132 dX5_about_112 (by decide) (by omega) (by omega) (fun h112 => ?_) (fun h112 => ?_)
          ·
            refine xbipush (v := -6) C dX5_about_132 (by decide) ?_
            exact xret C hR (rfl) dX5_about_134 (XO.mk (by rw [opAbout, ci_f (fun q => q (hasP_nat hW hp)), show cl (nI p) = p from nI_clamp (by omega), ci_f (show ¬ nI c = 0 from nneq (k := 0) (by omega) (by omega) (by omega)), ci_f (show ¬ nI c = 1 from nneq (k := 1) (by omega) (by omega) (by omega)), ci_f (show ¬ nI c = 2 from nneq (k := 2) (by omega) (by omega) (by omega)), ci_f (show ¬ nI c = 3 from nneq (k := 3) (by omega) (by omega) (by omega)), ci_f (not1015 hc10 hc15), show cl (nI c) = c from nI_clamp (by omega), ci_f (by omega)]) hX)
          ·
            refine xaload_n C 0 rfl dX5_about_115 ?_
            refine gX5_10 C dX5_about_116 ?_
            refine gX5_196 C dX5_about_119 ?_
            refine xiload_n C 1 rfl dX5_about_122 ?_
            refine xa_out C p (by omega) dX5_about_123 ?_
            refine xiload_n C 2 rfl dX5_about_124 ?_
            refine xbipush (v := nI 10) C dX5_about_125 (by decide) ?_
            refine xisubN C (by omega) dX5_about_127 ?_
            refine xa_nb C hK hW p (c - 10) (by omega) (by omega) dX5_about_128 ?_
            have fb128 := hW.nb (show p < kn K by omega) (show c - 10 < kdg K p by omega)
            refine xgoto C 134 dX5_about_129 (by decide) ?_
            exact xret C hR (rfl) dX5_about_134 (XO.mk (by rw [opAbout, ci_f (fun q => q (hasP_nat hW hp)), show cl (nI p) = p from nI_clamp (by omega), ci_f (show ¬ nI c = 0 from nneq (k := 0) (by omega) (by omega) (by omega)), ci_f (show ¬ nI c = 1 from nneq (k := 1) (by omega) (by omega) (by omega)), ci_f (show ¬ nI c = 2 from nneq (k := 2) (by omega) (by omega) (by omega)), ci_f (show ¬ nI c = 3 from nneq (k := 3) (by omega) (by omega) (by omega)), ci_f (not1015 hc10 hc15), show cl (nI c) = c from nI_clamp (by omega), ci_t h112]) hX)
        ·
          refine xbipush (v := -2) C dX5_about_96 (by decide) ?_
          exact xret C hR (rfl) dX5_about_98 (XO.mk (by rw [opAbout, ci_f (fun q => q (hasP_nat hW hp)), show cl (nI p) = p from nI_clamp (by omega), ci_f (fun e => by subst e; revert h14; decide +kernel), ci_f (fun e => by subst e; revert h14; decide +kernel), ci_f (fun e => by subst e; revert h14; decide +kernel), ci_f (fun e => by subst e; revert h14; decide +kernel), ci_t (Or.inr (ge16 h93))]) hX)
  ·
    have h8 := bn_0 h8
    refine xiconst (v := -1) C dX5_about_11 (by decide) ?_
    exact xret C hR (rfl) dX5_about_12 (XO.mk (by rw [opAbout, ci_t h8]) hX)
end
section
/-! HEIGHTS: rounds over the links reach what drawing until nothing changes reaches. -/
def lnkP (K : Cfg) (f : Nat → Nat) (k : Nat) : Prop := f (kla K k) ≤ f (klb K k) + 1 ∧ f (klb K k) ≤ f (kla K k) + 1
def feasP (K : Cfg) (f : Nat → Nat) : Prop := ∀ k, k < km K → lnkP K f k
def adjP (K : Cfg) (p q : Nat) : Prop := ∃ k, k < km K ∧ ((kla K k = p ∧ klb K k = q) ∨ (kla K k = q ∧ klb K k = p))
theorem cn_mono {P Q : Nat → Prop} : ∀ {k : Nat}, (∀ j, j < k → P j → Q j) → cn P k ≤ cn Q k
  | 0, _ => Nat.le_refl _
  | k + 1, h => by
    show cn P k + bn (P k) ≤ cn Q k + bn (Q k)
    have h1 := cn_mono (k := k) (fun j hj => h j (by omega))
    have h2 : bn (P k) ≤ bn (Q k) := by
      rcases Classical.em (P k) with q | q
      · rw [bn_t q, bn_t (h k (by omega) q)]; omega
      · rw [bn_f q]; omega
    omega
theorem cn_strict {P Q : Nat → Prop} : ∀ {k : Nat}, (∀ j, j < k → P j → Q j) → ∀ j, j < k → Q j → ¬ P j → cn P k < cn Q k
  | 0, _, j, hj, _, _ => by omega
  | k + 1, h, j, hj, hq, hp => by
    show cn P k + bn (P k) < cn Q k + bn (Q k)
    by_cases e : j = k
    · subst e
      have h1 := cn_mono (k := j) (fun i hi => h i (by omega))
      rw [bn_f hp, bn_t hq]; omega
    · have h1 := cn_strict (k := k) (fun i hi => h i (by omega)) j (by omega) hq hp
      have h2 : bn (P k) ≤ bn (Q k) := by
        rcases Classical.em (P k) with q | q
        · rw [bn_t q, bn_t (h k (by omega) q)]; omega
        · rw [bn_f q]; omega
      omega
theorem cn_full {P : Nat → Prop} {k : Nat} (h : k ≤ cn P k) : ∀ j, j < k → P j := by
  intro j hj
  rcases Classical.em (P j) with q | q
  · exact q
  · have h1 := cn_strict (P := P) (Q := fun _ => True) (k := k) (fun _ _ _ => trivial) j hj trivial q
    have h2 := cn_le (fun _ => True) k
    omega
theorem ex_min {P : Nat → Prop} (μ : Nat → Nat) : ∀ (c p : Nat), μ p ≤ c → P p → ∃ p, P p ∧ ∀ q, P q → μ p ≤ μ q
  | 0, p, hc, hp => ⟨p, hp, fun q _ => by omega⟩
  | c + 1, p, hc, hp => by
    rcases Classical.em (∃ q, P q ∧ μ q < μ p) with ⟨q, h1, h2⟩ | h
    · exact ex_min μ c q (by omega) h1
    · exact ⟨p, hp, fun q hq => by
        rcases Nat.lt_or_ge (μ q) (μ p) with h2 | h2
        · exact absurd ⟨q, hq, h2⟩ h
        · exact h2⟩
-- from above
theorem rlH_b {K : Cfg} {f : Nat → Nat} {k : Nat} (h : klb K k ≠ kla K k) : rlH K f k (klb K k) = min (f (klb K k)) (min (f (kla K k)) (f (klb K k) + 1) + 1) := by unfold rlH; rw [va_up_self, va_up_ne _ _ h, va_up_self]
theorem rlH_la {K : Cfg} {f : Nat → Nat} {k : Nat} (h : kla K k ≠ klb K k) : rlH K f k (kla K k) = min (f (kla K k)) (f (klb K k) + 1) := by unfold rlH; rw [va_up_ne _ _ h, va_up_self]
theorem rlH_o {K : Cfg} {f : Nat → Nat} {k p : Nat} (h1 : p ≠ klb K k) (h2 : p ≠ kla K k) : rlH K f k p = f p := by unfold rlH; rw [va_up_ne _ _ h1, va_up_ne _ _ h2]
theorem rlH_e {K : Cfg} {f : Nat → Nat} {k : Nat} (h : klb K k = kla K k) : rlH K f k (kla K k) = f (kla K k) := by unfold rlH; rw [h, va_up_self, va_up_self]; omega
theorem rlH_le (K : Cfg) (f : Nat → Nat) (k p : Nat) : rlH K f k p ≤ f p := by
  by_cases e : klb K k = kla K k
  · by_cases e2 : p = kla K k
    · subst e2; rw [rlH_e e]; exact Nat.le_refl _
    · rw [rlH_o (by rw [e]; exact e2) e2]; exact Nat.le_refl _
  · by_cases e2 : p = klb K k
    · subst e2; rw [rlH_b e]; omega
    · by_cases e3 : p = kla K k
      · subst e3; rw [rlH_la (fun q => e q.symm)]; omega
      · rw [rlH_o e2 e3]; exact Nat.le_refl _
theorem rlH_a (K : Cfg) (f : Nat → Nat) (k : Nat) : rlH K f k (kla K k) ≤ f (klb K k) + 1 ∧ rlH K f k (klb K k) ≤ f (kla K k) + 1 := by
  by_cases e : klb K k = kla K k
  · have := rlH_e (f := f) e
    rw [e, this]; omega
  · rw [rlH_b e, rlH_la (fun q => e q.symm)]; omega
theorem rlH_ge {K : Cfg} {f g : Nat → Nat} {k : Nat} (hk : lnkP K f k) (h : ∀ p, f p ≤ g p) (p : Nat) : f p ≤ rlH K g k p := by
  have h1 := h (kla K k); have h2 := h (klb K k); have h3 := h p
  obtain ⟨h4, h5⟩ := hk
  by_cases e : klb K k = kla K k
  · by_cases e2 : p = kla K k
    · subst e2; rw [rlH_e e]; exact h3
    · rw [rlH_o (by rw [e]; exact e2) e2]; exact h3
  · by_cases e2 : p = klb K k
    · subst e2; rw [rlH_b e]; omega
    · by_cases e3 : p = kla K k
      · subst e3; rw [rlH_la (fun q => e q.symm)]; omega
      · rw [rlH_o e2 e3]; exact h3
theorem rdH_le (K : Cfg) (f : Nat → Nat) : ∀ k p, rdH K f k p ≤ f p
  | 0, p => Nat.le_refl _
  | k + 1, p => Nat.le_trans (rlH_le K _ k p) (rdH_le K f k p)
theorem rdH_anti (K : Cfg) (f : Nat → Nat) {i : Nat} : ∀ {k : Nat}, i ≤ k → ∀ p, rdH K f k p ≤ rdH K f i p
  | 0, h, p => by obtain rfl : i = 0 := by omega
                  exact Nat.le_refl _
  | k + 1, h, p => by
    by_cases e : i = k + 1
    · subst e; exact Nat.le_refl _
    · exact Nat.le_trans (rlH_le K _ k p) (rdH_anti K f (show i ≤ k by omega) p)
theorem rdH_ge {K : Cfg} {f g : Nat → Nat} : ∀ {k : Nat}, (∀ x, x < k → lnkP K f x) → (∀ p, f p ≤ g p) → ∀ p, f p ≤ rdH K g k p
  | 0, _, h, p => h p
  | k + 1, hk, h, p => rlH_ge (hk k (by omega)) (rdH_ge (fun x hx => hk x (by omega)) h) p
theorem rdH_adj {K : Cfg} {g : Nat → Nat} {p q : Nat} (h : adjP K p q) : rdH K g (km K) p ≤ g q + 1 := by
  obtain ⟨k, hk, h⟩ := h
  have h1 := rdH_anti K g (show k + 1 ≤ km K by omega) p
  have h2 : rdH K g (k + 1) p ≤ g q + 1 := by
    have h3 := rdH_le K g k q
    show rlH K (rdH K g k) k p ≤ g q + 1
    rcases h with ⟨e1, e2⟩ | ⟨e1, e2⟩
    · have := (rlH_a K (rdH K g k) k).1
      rw [e1, e2] at this
      omega
    · have := (rlH_a K (rdH K g k) k).2
      rw [e1, e2] at this
      omega
  omega
theorem rrH_le (K : Cfg) (f : Nat → Nat) : ∀ r p, rrH K f r p ≤ f p
  | 0, p => Nat.le_refl _
  | r + 1, p => Nat.le_trans (rdH_le K _ _ p) (rrH_le K f r p)
theorem rrH_ge {K : Cfg} {f g : Nat → Nat} (hf : feasP K f) (h : ∀ p, f p ≤ g p) : ∀ r p, f p ≤ rrH K g r p
  | 0, p => h p
  | r + 1, p => rdH_ge (fun x hx => hf x hx) (rrH_ge hf h r) p
/-- a state with no link left to draw, each number held up by the start or by a neighbour's, is what the rounds reach -/
theorem fix_high {K : Cfg} {f g : Nat → Nat} (hf : feasP K f) (ha : ∀ p, f p ≤ g p) (hb : ∀ p, p < kn K → f p = g p ∨ ∃ q, q < kn K ∧ adjP K p q ∧ f q + 1 ≤ f p) : ∀ p, p < kn K → rrH K g (kn K) p = f p := by
  have hge := rrH_ge hf ha
  have key : ∀ r, r ≤ kn K → r ≤ cn (fun p => rrH K g r p = f p) (kn K) := by
    intro r
    induction r with
    | zero => intro _; exact Nat.zero_le _
    | succ r ih =>
      intro hr
      have ih := ih (by omega)
      have hmono : ∀ p, p < kn K → rrH K g r p = f p → rrH K g (r + 1) p = f p := fun p hp e => by
        have h1 : rrH K g (r + 1) p ≤ rrH K g r p := rdH_le K _ _ p
        have h2 := hge (r + 1) p
        omega
      rcases Classical.em (∃ p, p < kn K ∧ rrH K g r p ≠ f p) with ⟨p0, hp0⟩ | hall
      · obtain ⟨p, ⟨hp, hne⟩, hmin⟩ := ex_min (P := fun p => p < kn K ∧ rrH K g r p ≠ f p) f (f p0) p0 (Nat.le_refl _) hp0
        have h1 : f p ≠ g p := fun e => by
          have h2 := rrH_le K g r p
          have h3 := hge r p
          omega
        obtain ⟨q, hq, hadj, hlt⟩ := (hb p hp).resolve_left h1
        have h2 : rrH K g r q = f q := by
          rcases Classical.em (rrH K g r q = f q) with e | e
          · exact e
          · have := hmin q ⟨hq, e⟩; omega
        have h3 : rrH K g (r + 1) p = f p := by
          have h4 : rrH K g (r + 1) p ≤ rrH K g r q + 1 := rdH_adj hadj
          have h5 := hge (r + 1) p
          omega
        have := cn_strict (k := kn K) hmono p hp h3 hne
        omega
      · have h1 : kn K ≤ cn (fun p => rrH K g (r + 1) p = f p) (kn K) := by
          have h2 : cn (fun _ => True) (kn K) ≤ cn (fun p => rrH K g (r + 1) p = f p) (kn K) := cn_mono (fun p hp _ => hmono p hp (by
            rcases Classical.em (rrH K g r p = f p) with e | e
            · exact e
            · exact absurd ⟨p, hp, e⟩ hall))
          have h3 : ∀ k, cn (fun _ => True) k = k := by
            intro k
            induction k with
            | zero => rfl
            | succ k ih => show cn _ k + bn True = k + 1; rw [ih, bn_t trivial]
          rw [h3] at h2
          exact h2
        omega
  exact cn_full (key (kn K) (Nat.le_refl _))
-- from below
theorem rlL_b {K : Cfg} {f : Nat → Nat} {k : Nat} (h : klb K k ≠ kla K k) : rlL K f k (klb K k) = max (f (klb K k)) (max (f (kla K k)) (f (klb K k) - 1) - 1) := by unfold rlL; rw [va_up_self, va_up_ne _ _ h, va_up_self]
theorem rlL_la {K : Cfg} {f : Nat → Nat} {k : Nat} (h : kla K k ≠ klb K k) : rlL K f k (kla K k) = max (f (kla K k)) (f (klb K k) - 1) := by unfold rlL; rw [va_up_ne _ _ h, va_up_self]
theorem rlL_o {K : Cfg} {f : Nat → Nat} {k p : Nat} (h1 : p ≠ klb K k) (h2 : p ≠ kla K k) : rlL K f k p = f p := by unfold rlL; rw [va_up_ne _ _ h1, va_up_ne _ _ h2]
theorem rlL_e {K : Cfg} {f : Nat → Nat} {k : Nat} (h : klb K k = kla K k) : rlL K f k (kla K k) = f (kla K k) := by unfold rlL; rw [h, va_up_self, va_up_self]; omega
theorem rlL_ge (K : Cfg) (f : Nat → Nat) (k p : Nat) : f p ≤ rlL K f k p := by
  by_cases e : klb K k = kla K k
  · by_cases e2 : p = kla K k
    · subst e2; rw [rlL_e e]; exact Nat.le_refl _
    · rw [rlL_o (by rw [e]; exact e2) e2]; exact Nat.le_refl _
  · by_cases e2 : p = klb K k
    · subst e2; rw [rlL_b e]; omega
    · by_cases e3 : p = kla K k
      · subst e3; rw [rlL_la (fun q => e q.symm)]; omega
      · rw [rlL_o e2 e3]; exact Nat.le_refl _
theorem rlL_a (K : Cfg) (f : Nat → Nat) (k : Nat) : f (klb K k) ≤ rlL K f k (kla K k) + 1 ∧ f (kla K k) ≤ rlL K f k (klb K k) + 1 := by
  by_cases e : klb K k = kla K k
  · have := rlL_e (f := f) e
    rw [e, this]; omega
  · rw [rlL_b e, rlL_la (fun q => e q.symm)]; omega
theorem rlL_le {K : Cfg} {f g : Nat → Nat} {k : Nat} (hk : lnkP K f k) (h : ∀ p, g p ≤ f p) (p : Nat) : rlL K g k p ≤ f p := by
  have h1 := h (kla K k); have h2 := h (klb K k); have h3 := h p
  obtain ⟨h4, h5⟩ := hk
  by_cases e : klb K k = kla K k
  · by_cases e2 : p = kla K k
    · subst e2; rw [rlL_e e]; exact h3
    · rw [rlL_o (by rw [e]; exact e2) e2]; exact h3
  · by_cases e2 : p = klb K k
    · subst e2; rw [rlL_b e]; omega
    · by_cases e3 : p = kla K k
      · subst e3; rw [rlL_la (fun q => e q.symm)]; omega
      · rw [rlL_o e2 e3]; exact h3
theorem rdL_ge (K : Cfg) (f : Nat → Nat) : ∀ k p, f p ≤ rdL K f k p
  | 0, p => Nat.le_refl _
  | k + 1, p => Nat.le_trans (rdL_ge K f k p) (rlL_ge K _ k p)
theorem rdL_mono (K : Cfg) (f : Nat → Nat) {i : Nat} : ∀ {k : Nat}, i ≤ k → ∀ p, rdL K f i p ≤ rdL K f k p
  | 0, h, p => by obtain rfl : i = 0 := by omega
                  exact Nat.le_refl _
  | k + 1, h, p => by
    by_cases e : i = k + 1
    · subst e; exact Nat.le_refl _
    · exact Nat.le_trans (rdL_mono K f (show i ≤ k by omega) p) (rlL_ge K _ k p)
theorem rdL_le {K : Cfg} {f g : Nat → Nat} : ∀ {k : Nat}, (∀ x, x < k → lnkP K f x) → (∀ p, g p ≤ f p) → ∀ p, rdL K g k p ≤ f p
  | 0, _, h, p => h p
  | k + 1, hk, h, p => rlL_le (hk k (by omega)) (rdL_le (fun x hx => hk x (by omega)) h) p
theorem rdL_adj {K : Cfg} {g : Nat → Nat} {p q : Nat} (h : adjP K p q) : g q ≤ rdL K g (km K) p + 1 := by
  obtain ⟨k, hk, h⟩ := h
  have h1 := rdL_mono K g (show k + 1 ≤ km K by omega) p
  have h2 : g q ≤ rdL K g (k + 1) p + 1 := by
    have h3 := rdL_ge K g k q
    show g q ≤ rlL K (rdL K g k) k p + 1
    rcases h with ⟨e1, e2⟩ | ⟨e1, e2⟩
    · have := (rlL_a K (rdL K g k) k).1
      rw [e1, e2] at this
      omega
    · have := (rlL_a K (rdL K g k) k).2
      rw [e1, e2] at this
      omega
  omega
theorem rrL_ge (K : Cfg) (f : Nat → Nat) : ∀ r p, f p ≤ rrL K f r p
  | 0, p => Nat.le_refl _
  | r + 1, p => Nat.le_trans (rrL_ge K f r p) (rdL_ge K _ _ p)
theorem rrL_le {K : Cfg} {f g : Nat → Nat} (hf : feasP K f) (h : ∀ p, g p ≤ f p) : ∀ r p, rrL K g r p ≤ f p
  | 0, p => h p
  | r + 1, p => rdL_le (fun x hx => hf x hx) (rrL_le hf h r) p
theorem fix_low {K : Cfg} {f g : Nat → Nat} (hf : feasP K f) (h5 : ∀ p, p < kn K → f p ≤ 5) (ha : ∀ p, g p ≤ f p) (hb : ∀ p, p < kn K → f p = g p ∨ ∃ q, q < kn K ∧ adjP K p q ∧ f p + 1 ≤ f q) : ∀ p, p < kn K → rrL K g (kn K) p = f p := by
  have hle := rrL_le hf ha
  have key : ∀ r, r ≤ kn K → r ≤ cn (fun p => rrL K g r p = f p) (kn K) := by
    intro r
    induction r with
    | zero => intro _; exact Nat.zero_le _
    | succ r ih =>
      intro hr
      have ih := ih (by omega)
      have hmono : ∀ p, p < kn K → rrL K g r p = f p → rrL K g (r + 1) p = f p := fun p hp e => by
        have h1 : rrL K g r p ≤ rrL K g (r + 1) p := rdL_ge K _ _ p
        have h2 := hle (r + 1) p
        omega
      rcases Classical.em (∃ p, p < kn K ∧ rrL K g r p ≠ f p) with ⟨p0, hp0⟩ | hall
      · obtain ⟨p, ⟨hp, hne⟩, hmin⟩ := ex_min (P := fun p => p < kn K ∧ rrL K g r p ≠ f p) (fun p => 5 - f p) (5 - f p0) p0 (Nat.le_refl _) hp0
        have h1 : f p ≠ g p := fun e => by
          have h2 := rrL_ge K g r p
          have h3 := hle r p
          omega
        obtain ⟨q, hq, hadj, hlt⟩ := (hb p hp).resolve_left h1
        have h2 : rrL K g r q = f q := by
          rcases Classical.em (rrL K g r q = f q) with e | e
          · exact e
          · have := hmin q ⟨hq, e⟩
            have := h5 q hq
            have := h5 p hp
            omega
        have h3 : rrL K g (r + 1) p = f p := by
          have h4 : rrL K g r q ≤ rrL K g (r + 1) p + 1 := rdL_adj hadj
          have h6 := hle (r + 1) p
          omega
        have := cn_strict (k := kn K) hmono p hp h3 hne
        omega
      · have h1 : kn K ≤ cn (fun p => rrL K g (r + 1) p = f p) (kn K) := by
          have h2 : cn (fun _ => True) (kn K) ≤ cn (fun p => rrL K g (r + 1) p = f p) (kn K) := cn_mono (fun p hp _ => hmono p hp (by
            rcases Classical.em (rrL K g r p = f p) with e | e
            · exact e
            · exact absurd ⟨p, hp, e⟩ hall))
          have h3 : ∀ k, cn (fun _ => True) k = k := by
            intro k
            induction k with
            | zero => rfl
            | succ k ih => show cn _ k + bn True = k + 1; rw [ih, bn_t trivial]
          rw [h3] at h2
          exact h2
        omega
  exact cn_full (key (kn K) (Nat.le_refl _))
theorem sm_up {f : Nat → Nat} {p x : Nat} : ∀ {n : Nat}, p < n → sm (va_up f p x) n + f p = sm f n + x
  | 0, h => by omega
  | n + 1, h => by
    show sm (va_up f p x) n + va_up f p x n + f p = sm f n + f n + x
    by_cases e : p = n
    · subst e
      rw [va_up_self, sm_congr (g' := f) (fun j hj => va_up_ne _ _ (by omega))]
      omega
    · have := sm_up (f := f) (x := x) (show p < n by omega)
      rw [va_up_ne _ _ (by omega)]
      omega
end
section
/-! The reference, 1: in, isPlace, layHigh, layLow, isGood (written by my program parts_m1.py). -/
theorem isPl {K : Cfg} (hW : WFK K) (x : Int32) : (¬ x < 0 ∧ ¬ nI (kn K) - 1 < x) ↔ hasP K x := by
  have hn := hW.n24
  unfold hasP
  constructor
  · intro ⟨h1, h2⟩
    refine ⟨h1, ?_⟩
    have h3 := Int32.le_iff_toInt_le.mp (Int32.not_lt.mp h2)
    rw [show nI (kn K) - 1 = nI (kn K) - nI 1 from rfl, pk_sub_toInt (by omega) (by omega)] at h3
    apply Int32.lt_iff_toInt_lt.mpr
    rw [nI_toInt (by omega)]
    omega
  · intro ⟨h1, h2⟩
    refine ⟨h1, fun h3 => ?_⟩
    have h4 := Int32.lt_iff_toInt_lt.mp h3
    rw [show nI (kn K) - 1 = nI (kn K) - nI 1 from rfl, pk_sub_toInt (by omega) (by omega)] at h4
    have h5 := Int32.lt_iff_toInt_lt.mp h2
    rw [nI_toInt (by omega)] at h5
    omega
theorem hdl {y : Nat} (hy : y ≤ 6) (h : nI y - 1 < 0) : y = 0 := by
  have h1 := Int32.lt_iff_toInt_lt.mp h
  rw [show nI y - 1 = nI y - nI 1 from rfl, pk_sub_toInt (by omega) (by omega)] at h1
  have : (0 : Int32).toInt = 0 := by decide +kernel
  omega
theorem hdnl {y : Nat} (hy : y ≤ 6) (h : ¬ nI y - 1 < 0) : ¬ y = 0 := fun e => h (by rw [e]; decide +kernel)
theorem h0_k0 {K : Cfg} {p : Nat} (h : kk K = 0) : 1 = h0 K p := by unfold h0 nohN mostN; rw [if_neg (by omega), if_neg (by omega), if_neg (by omega)]
theorem h0_k2 {K : Cfg} {p : Nat} (h : kk K = 2) (h1 : ksi K p ≤ 1) : 1 - ksi K p = h0 K p := by
  unfold h0 nohN mostN
  rw [if_neg (by omega), if_neg (show ¬ kk K = 1 by omega)]
  split <;> omega
theorem h0_h1 {K : Cfg} {p : Nat} (hk : kk K = 1) (hy : khd K p ≤ 6) (h : ¬ nI (khd K p) - 1 < 0) : nI (khd K p) - 1 = nI (h0 K p) := by
  unfold h0; rw [if_pos ⟨hk, hdnl hy h⟩]; exact hdN (hdnl hy h)
theorem h0_h0 {K : Cfg} {p : Nat} (hk : kk K = 1) (hy : khd K p ≤ 6) (h : nI (khd K p) - 1 < 0) : ktop K p = h0 K p := by
  have := hdl hy h
  unfold h0 nohN mostN
  rw [if_neg (by omega), if_neg (by omega), if_pos hk]
theorem l0_k0 {K : Cfg} {p : Nat} (h : kk K = 0) : 0 = l0 K p := by unfold l0 nohN; rw [if_neg (by omega), if_neg (by omega)]
theorem l0_k2 {K : Cfg} {p : Nat} (h : kk K = 2) (h1 : ksi K p ≤ 1) : ksi K p = l0 K p := by
  unfold l0 nohN
  rw [if_neg (by omega)]
  split <;> omega
theorem l0_h1 {K : Cfg} {p : Nat} (hk : kk K = 1) (hy : khd K p ≤ 6) (h : ¬ nI (khd K p) - 1 < 0) : nI (khd K p) - 1 = nI (l0 K p) := by
  unfold l0; rw [if_pos ⟨hk, hdnl hy h⟩]; exact hdN (hdnl hy h)
theorem l0_h0 {K : Cfg} {p : Nat} (hk : kk K = 1) (hy : khd K p ≤ 6) (h : nI (khd K p) - 1 < 0) : 0 = l0 K p := by
  have := hdl hy h
  unfold l0 nohN
  rw [if_neg (by omega), if_neg (by omega)]
theorem gm1 {x y : Nat} (hx : x ≤ 5) (hy : y ≤ 5) (h : ¬ nI y - nI 1 ≤ nI x) : x < y - 1 := by
  have h1 := Int32.lt_iff_toInt_lt.mp (Int32.not_le.mp h)
  rw [pk_sub_toInt (by omega) (by omega), nI_toInt (by omega)] at h1
  omega
theorem ngm1 {x y : Nat} (hx : x ≤ 5) (hy : y ≤ 5) (h : nI y - nI 1 ≤ nI x) : y - 1 ≤ x := by
  have h1 := Int32.le_iff_toInt_le.mp h
  rw [pk_sub_toInt (by omega) (by omega), nI_toInt (by omega)] at h1
  omega
theorem adj_ab {K : Cfg} {k : Nat} (hk : k < km K) : adjP K (kla K k) (klb K k) := ⟨k, hk, Or.inl ⟨rfl, rfl⟩⟩
theorem adj_ba {K : Cfg} {k : Nat} (hk : k < km K) : adjP K (klb K k) (kla K k) := ⟨k, hk, Or.inr ⟨rfl, rfl⟩⟩
theorem lk_ne {K : Cfg} (hW : WFK K) {k : Nat} (hk : k < km K) : kla K k ≠ klb K k := (hW.lk hk).2.2.1
def HIv (K : Cfg) (f : Nat → Nat) : Prop := (∀ p, f p ≤ h0 K p) ∧ ∀ p, p < kn K → f p = h0 K p ∨ ∃ q, q < kn K ∧ adjP K p q ∧ f q + 1 ≤ f p
def LIv (K : Cfg) (f : Nat → Nat) : Prop := (∀ p, l0 K p ≤ f p) ∧ (∀ p, p < kn K → f p ≤ 5) ∧ ∀ p, p < kn K → f p = l0 K p ∨ ∃ q, q < kn K ∧ adjP K p q ∧ f p + 1 ≤ f q
theorem HIv.start {K : Cfg} (hW : WFK K) : HIv K (h0 K) := ⟨fun _ => Nat.le_refl _, fun _ _ => Or.inl rfl⟩
theorem LIv.start {K : Cfg} (hW : WFK K) : LIv K (l0 K) := ⟨fun _ => Nat.le_refl _, fun _ hp => l0_le hW hp, fun _ _ => Or.inl rfl⟩
theorem HIv.up {K : Cfg} {f : Nat → Nat} (h : HIv K f) (hW : WFK K) {p q : Nat} (hp : p < kn K) (hq : q < kn K) (ha : adjP K p q) (hne : p ≠ q) (hlt : f q + 1 < f p) : HIv K (va_up f p (f q + 1)) := by
  have hle : ∀ x, va_up f p (f q + 1) x ≤ f x := fun x => by
    by_cases e : x = p
    · subst e; rw [va_up_self]; omega
    · rw [va_up_ne _ _ e]; exact Nat.le_refl _
  refine ⟨fun x => Nat.le_trans (hle x) (h.1 x), fun x hx => ?_⟩
  by_cases e : x = p
  · subst e
    exact Or.inr ⟨q, hq, ha, by rw [va_up_self, va_up_ne _ _ (Ne.symm hne)]; omega⟩
  · rw [va_up_ne _ _ e]
    rcases h.2 x hx with h1 | ⟨y, hy, h2, h3⟩
    · exact Or.inl h1
    · exact Or.inr ⟨y, hy, h2, by have := hle y; omega⟩
theorem LIv.up {K : Cfg} {f : Nat → Nat} (h : LIv K f) (hW : WFK K) {p q : Nat} (hp : p < kn K) (hq : q < kn K) (ha : adjP K p q) (hne : p ≠ q) (hlt : f p < f q - 1) : LIv K (va_up f p (f q - 1)) := by
  have hge : ∀ x, f x ≤ va_up f p (f q - 1) x := fun x => by
    by_cases e : x = p
    · subst e; rw [va_up_self]; omega
    · rw [va_up_ne _ _ e]; exact Nat.le_refl _
  refine ⟨fun x => Nat.le_trans (h.1 x) (hge x), fun x hx => ?_, fun x hx => ?_⟩
  · by_cases e : x = p
    · subst e; rw [va_up_self]; have := h.2.1 q hq; omega
    · rw [va_up_ne _ _ e]; exact h.2.1 x hx
  by_cases e : x = p
  · subst e
    exact Or.inr ⟨q, hq, ha, by rw [va_up_self, va_up_ne _ _ (Ne.symm hne)]; omega⟩
  · rw [va_up_ne _ _ e]
    rcases h.2.2 x hx with h1 | ⟨y, hy, h2, h3⟩
    · exact Or.inl h1
    · exact Or.inr ⟨y, hy, h2, by have := hge y; omega⟩
theorem sm_lt {f : Nat → Nat} {p x n : Nat} (hp : p < n) (hlt : x < f p) : sm (va_up f p x) n < sm f n := by
  have := sm_up (f := f) (x := x) hp; omega
theorem sm_gt {f : Nat → Nat} {p x n : Nat} (hp : p < n) (hlt : f p < x) (h5 : x ≤ 5) : sm (fun q => 5 - va_up f p x q) n < sm (fun q => 5 - f q) n := by
  have e : (fun q => 5 - va_up f p x q) = va_up (fun q => 5 - f q) p (5 - x) := funext fun q => by
    by_cases e : q = p
    · subst e; rw [va_up_self, va_up_self]
    · rw [va_up_ne _ _ e, va_up_ne _ _ e]
  rw [e]
  exact sm_lt hp (by omega)
theorem hS_fix {K : Cfg} (hW : WFK K) {f : Nat → Nat} (hk : kk K = 1) (hf : feasP K f) (h : HIv K f) : ∀ p, p < kn K → hS K p = f p := by
  intro p hp
  unfold hS
  rw [if_pos hk]
  exact fix_high hf h.1 h.2 p hp
theorem lS_fix {K : Cfg} (hW : WFK K) {f : Nat → Nat} (hk : kk K = 1) (hf : feasP K f) (h : LIv K f) : ∀ p, p < kn K → lS K p = f p := by
  intro p hp
  unfold lS
  rw [if_pos hk]
  exact fix_low hf h.2.1 h.1 h.2.2 p hp
theorem feas_of {K : Cfg} (hW : WFK K) {f g : Nat → Nat} (hf : feasP K f) (h : ∀ p, p < kn K → g p = f p) : feasP K g := by
  intro k hk
  unfold lnkP
  rw [h _ (hW.la hk), h _ (hW.lb hk)]
  exact hf k hk
theorem good0 {K : Cfg} (h : kk K = 0) (q : GoodP K) : kv K ≤ ku K := by have := q.2; unfold soundP at this; rw [if_pos h] at this; exact this
theorem good0r {K : Cfg} (h : kk K = 0) (hn : 0 < kn K) (h2 : kv K ≤ ku K) : GoodP K := ⟨hn, by unfold soundP; rw [if_pos h]; exact h2⟩
theorem good2 {K : Cfg} {k : Nat} (h : kk K = 2) (hk : k = km K) : (0 < kn K ∧ ∀ x, x < k → ksi K (kla K x) ≠ ksi K (klb K x)) ↔ GoodP K := by
  subst hk
  unfold GoodP soundP crossP
  rw [if_neg (by omega), if_neg (by omega)]
theorem good1 {K : Cfg} (hW : WFK K) {i : Nat} (h : kk K = 1) (hi : i = kn K) (hf : kk K = 1 → feasP K (hS K)) : (0 < kn K ∧ ∀ x, x < i → khd K x = 0 ∨ hS K x + 1 = khd K x) ↔ GoodP K := by
  subst hi
  have hf := hf h
  unfold GoodP soundP
  rw [if_neg (by omega), if_pos h]
  have hS_le : ∀ p, hS K p ≤ h0 K p := fun p => by unfold hS; rw [if_pos h]; exact rrH_le K _ _ p
  have lS_ge : ∀ p, l0 K p ≤ lS K p := fun p => by unfold lS; rw [if_pos h]; exact rrL_ge K _ _ p
  constructor
  · intro ⟨hn, h1⟩
    refine ⟨hn, ?_⟩
    have h2 : ∀ p, p < kn K → l0 K p ≤ hS K p := fun p hp => by
      unfold l0
      by_cases e : khd K p = 0
      · rw [if_neg (by omega)]; unfold nohN; rw [if_neg (by omega)]; omega
      · rw [if_pos ⟨h, e⟩]
        rcases h1 p hp with q | q
        · exact absurd q e
        · omega
    intro p hp
    have h3 : ∀ r q, q < kn K → rrL K (l0 K) r q ≤ hS K q := by
      have key : ∀ (g : Nat → Nat), (∀ q, q < kn K → g q ≤ hS K q) → ∀ k, k ≤ km K → ∀ q, q < kn K → rdL K g k q ≤ hS K q := by
        intro g hg k
        induction k with
        | zero => intro _ q hq; exact hg q hq
        | succ k ih =>
          intro hk q hq
          have ih := ih (by omega)
          have hkm : k < km K := by omega
          have h4 := ih (kla K k) (hW.la hkm)
          have h5 := ih (klb K k) (hW.lb hkm)
          obtain ⟨h6, h7⟩ := hf k hkm
          show rlL K (rdL K g k) k q ≤ hS K q
          have e : klb K k ≠ kla K k := fun z => (hW.lk hkm).2.2.1 z.symm
          by_cases e2 : q = klb K k
          · subst e2; rw [rlL_b e]; omega
          · by_cases e3 : q = kla K k
            · subst e3; rw [rlL_la (fun z => e z.symm)]; omega
            · rw [rlL_o e2 e3]; exact ih q hq
      intro r
      induction r with
      | zero => intro q hq; exact h2 q hq
      | succ r ih => exact key _ ih (km K) (Nat.le_refl _)
    show lS K p ≤ hS K p
    unfold lS
    rw [if_pos h]
    exact h3 (kn K) p hp
  · intro ⟨hn, h1⟩
    refine ⟨hn, fun p hp => ?_⟩
    by_cases e : khd K p = 0
    · exact Or.inl e
    · right
      have h2 := hS_le p
      have h3 := lS_ge p
      have h4 := h1 p hp
      unfold h0 at h2
      unfold l0 at h3
      rw [if_pos ⟨h, e⟩] at h2 h3
      omega
theorem dX6_in_0 : decode cX6_in 0 = .ok (.iload_n 0, 1) := by decide +kernel
theorem dX6_in_1 : decode cX6_in 1 = .ok (.iload_n 1, 1) := by decide +kernel
theorem dX6_in_2 : decode cX6_in 2 = .ok (.if_icmp .lt 12, 3) := by decide +kernel
theorem dX6_in_5 : decode cX6_in 5 = .ok (.iload_n 0, 1) := by decide +kernel
theorem dX6_in_6 : decode cX6_in 6 = .ok (.iload_n 2, 1) := by decide +kernel
theorem dX6_in_7 : decode cX6_in 7 = .ok (.if_icmp .gt 7, 3) := by decide +kernel
theorem dX6_in_10 : decode cX6_in 10 = .ok (.iconst 1, 1) := by decide +kernel
theorem dX6_in_11 : decode cX6_in 11 = .ok (.goto 4, 3) := by decide +kernel
theorem dX6_in_14 : decode cX6_in 14 = .ok (.iconst 0, 1) := by decide +kernel
theorem dX6_in_15 : decode cX6_in 15 = .ok (.ireturn, 1) := by decide +kernel
def rX6_in : Room := { frames := 0, cells := 0, slots := 0, locals := 0 }
theorem sk_X6_in : SK yX6_in cX6_in 3 (some .boolean) 3 := ⟨xst_X6_in, xin_X6, xco_X6_in, by decide +kernel⟩
set_option maxRecDepth 4000 in
theorem c_X6_in {l : Launch} {D : va_G} {t : Nat → ClassId} {b : Nat → Nat} {I : Nat → Int32} {F : Nat → Nat → Int32} (x y z : Int32) : CT l D t yX6_in cX6_in 3 (some .boolean) rX6_in 0 0 [.int x, .int y, .int z] (WM b t I F) (RP (.int (nI (bn (¬ x < y ∧ ¬ z < x)))) (WM b t I F)) := by
  refine CT.of (by decide +kernel) (by simp [lg_sl, Value.category]) (fun X C hR => ?_)
  refine xlocals (lv' := [(0, .int x), (1, .int y), (2, .int z)]) rfl ?_
  refine xiload_n C 0 rfl dX6_in_0 ?_
  refine xiload_n C 1 rfl dX6_in_1 ?_
  refine xicmp_lt C 14 dX6_in_2 (by decide) (fun h2 => ?_) (fun h2 => ?_)
  ·
    refine xiconst (v := nI 0) C dX6_in_14 (by decide) ?_
    exact xret C hR (by rfl) dX6_in_15 (RPn ((bn_f (fun q => q.1 h2)).symm))
  ·
    refine xiload_n C 0 rfl dX6_in_5 ?_
    refine xiload_n C 2 rfl dX6_in_6 ?_
    refine xicmp_gt C 14 dX6_in_7 (by decide) (fun h7 => ?_) (fun h7 => ?_)
    ·
      refine xiconst (v := nI 0) C dX6_in_14 (by decide) ?_
      exact xret C hR (by rfl) dX6_in_15 (RPn ((bn_f (fun q => q.2 h7)).symm))
    ·
      refine xiconst (v := nI 1) C dX6_in_10 (by decide) ?_
      refine xgoto C 15 dX6_in_11 (by decide) ?_
      exact xret C hR (by rfl) dX6_in_15 (RPn ((bn_t ⟨h2, h7⟩).symm))
theorem dX6_isPlace_0 : decode cX6_isPlace 0 = .ok (.iload_n 1, 1) := by decide +kernel
theorem dX6_isPlace_1 : decode cX6_isPlace 1 = .ok (.iconst 0, 1) := by decide +kernel
theorem dX6_isPlace_2 : decode cX6_isPlace 2 = .ok (.aload_n 0, 1) := by decide +kernel
theorem dX6_isPlace_3 : decode cX6_isPlace 3 = .ok (.getfield 53, 3) := by decide +kernel
theorem dX6_isPlace_6 : decode cX6_isPlace 6 = .ok (.iconst 1, 1) := by decide +kernel
theorem dX6_isPlace_7 : decode cX6_isPlace 7 = .ok (.isub, 1) := by decide +kernel
theorem dX6_isPlace_8 : decode cX6_isPlace 8 = .ok (.invokestatic 56, 3) := by decide +kernel
theorem dX6_isPlace_11 : decode cX6_isPlace 11 = .ok (.ireturn, 1) := by decide +kernel
def rX6_isPlace : Room := { frames := 1, cells := 0, slots := 0, locals := 22 }
theorem yk_X6_isPlace : YK yX6_isPlace cX6_isPlace 2 (some .boolean) 1 := ⟨xim_X6_isPlace, xse_X6_isPlace, xin_X6, xco_X6_isPlace, by decide +kernel⟩
set_option maxRecDepth 4000 in
theorem c_X6_isPlace {l : Launch} {D : va_G} {t : Nat → ClassId} {b : Nat → Nat} {I : Nat → Int32} {F : Nat → Nat → Int32} {K : Cfg} (hK : CFG K I F) (hW : WFK K) (x : Int32) : CT l D t yX6_isPlace cX6_isPlace 2 (some .boolean) rX6_isPlace 0 0 [.ref (b 0), .int x] (WM b t I F) (RP (.int (nI (bn (hasP K x)))) (WM b t I F)) := by
  refine CT.of (by decide +kernel) (by simp [lg_sl, Value.category]) (fun X C hR => ?_)
  refine xlocals (lv' := [(0, .ref (b 0)), (1, .int x)]) rfl ?_
  have fn24 := hW.n24; have fm60 := hW.m60; have fk2 := hW.k2; have fu1 := hW.u1; have fu9 := hW.u9; have fv1 := hW.v1; have fv9 := hW.v9
  refine xiload_n C 1 rfl dX6_isPlace_0 ?_
  refine xiconst (v := 0) C dX6_isPlace_1 (by decide) ?_
  refine xaload_n C 0 rfl dX6_isPlace_2 ?_
  refine gX6_53K C hK dX6_isPlace_3 ?_
  refine xiconst (v := 1) C dX6_isPlace_6 (by decide) ?_
  refine xisub C dX6_isPlace_7 ?_
  refine xcSR C (c_X6_in x 0 ((nI (kn K)) - 1)) sk_X6_in xml_X6_56 ⟨⟨Nat.le_of_ble_eq_true rfl, Nat.le_of_ble_eq_true rfl⟩, ⟨rfl, rfl⟩, ⟨Nat.zero_le _, Nat.zero_le _⟩⟩ rfl (Nat.le_of_ble_eq_true rfl) dX6_isPlace_8 ?_
  exact xret C hR (nar_bn _) dX6_isPlace_11 (RPn (bn_iff (isPl hW x)))
theorem dX6_layHigh_0 : decode cX6_layHigh 0 = .ok (.iconst 0, 1) := by decide +kernel
theorem dX6_layHigh_1 : decode cX6_layHigh 1 = .ok (.istore_n 2, 1) := by decide +kernel
theorem dX6_layHigh_2 : decode cX6_layHigh 2 = .ok (.iload_n 2, 1) := by decide +kernel
theorem dX6_layHigh_3 : decode cX6_layHigh 3 = .ok (.aload_n 0, 1) := by decide +kernel
theorem dX6_layHigh_4 : decode cX6_layHigh 4 = .ok (.getfield 53, 3) := by decide +kernel
theorem dX6_layHigh_7 : decode cX6_layHigh 7 = .ok (.if_icmp .ge 66, 3) := by decide +kernel
theorem dX6_layHigh_10 : decode cX6_layHigh 10 = .ok (.aload_n 1, 1) := by decide +kernel
theorem dX6_layHigh_11 : decode cX6_layHigh 11 = .ok (.iload_n 2, 1) := by decide +kernel
theorem dX6_layHigh_12 : decode cX6_layHigh 12 = .ok (.aload_n 0, 1) := by decide +kernel
theorem dX6_layHigh_13 : decode cX6_layHigh 13 = .ok (.getfield 90, 3) := by decide +kernel
theorem dX6_layHigh_16 : decode cX6_layHigh 16 = .ok (.ifCond .ne 7, 3) := by decide +kernel
theorem dX6_layHigh_19 : decode cX6_layHigh 19 = .ok (.iconst 1, 1) := by decide +kernel
theorem dX6_layHigh_20 : decode cX6_layHigh 20 = .ok (.goto 46, 3) := by decide +kernel
theorem dX6_layHigh_23 : decode cX6_layHigh 23 = .ok (.aload_n 0, 1) := by decide +kernel
theorem dX6_layHigh_24 : decode cX6_layHigh 24 = .ok (.getfield 90, 3) := by decide +kernel
theorem dX6_layHigh_27 : decode cX6_layHigh 27 = .ok (.iconst 2, 1) := by decide +kernel
theorem dX6_layHigh_28 : decode cX6_layHigh 28 = .ok (.if_icmp .ne 14, 3) := by decide +kernel
theorem dX6_layHigh_31 : decode cX6_layHigh 31 = .ok (.iconst 1, 1) := by decide +kernel
theorem dX6_layHigh_32 : decode cX6_layHigh 32 = .ok (.aload_n 0, 1) := by decide +kernel
theorem dX6_layHigh_33 : decode cX6_layHigh 33 = .ok (.getfield 13, 3) := by decide +kernel
theorem dX6_layHigh_36 : decode cX6_layHigh 36 = .ok (.iload_n 2, 1) := by decide +kernel
theorem dX6_layHigh_37 : decode cX6_layHigh 37 = .ok (.iaload, 1) := by decide +kernel
theorem dX6_layHigh_38 : decode cX6_layHigh 38 = .ok (.isub, 1) := by decide +kernel
theorem dX6_layHigh_39 : decode cX6_layHigh 39 = .ok (.goto 27, 3) := by decide +kernel
theorem dX6_layHigh_42 : decode cX6_layHigh 42 = .ok (.aload_n 0, 1) := by decide +kernel
theorem dX6_layHigh_43 : decode cX6_layHigh 43 = .ok (.getfield 16, 3) := by decide +kernel
theorem dX6_layHigh_46 : decode cX6_layHigh 46 = .ok (.iload_n 2, 1) := by decide +kernel
theorem dX6_layHigh_47 : decode cX6_layHigh 47 = .ok (.iaload, 1) := by decide +kernel
theorem dX6_layHigh_48 : decode cX6_layHigh 48 = .ok (.ifCond .lt 12, 3) := by decide +kernel
theorem dX6_layHigh_51 : decode cX6_layHigh 51 = .ok (.aload_n 0, 1) := by decide +kernel
theorem dX6_layHigh_52 : decode cX6_layHigh 52 = .ok (.getfield 16, 3) := by decide +kernel
theorem dX6_layHigh_55 : decode cX6_layHigh 55 = .ok (.iload_n 2, 1) := by decide +kernel
theorem dX6_layHigh_56 : decode cX6_layHigh 56 = .ok (.iaload, 1) := by decide +kernel
theorem dX6_layHigh_57 : decode cX6_layHigh 57 = .ok (.goto 9, 3) := by decide +kernel
theorem dX6_layHigh_60 : decode cX6_layHigh 60 = .ok (.aload_n 0, 1) := by decide +kernel
theorem dX6_layHigh_61 : decode cX6_layHigh 61 = .ok (.getfield 7, 3) := by decide +kernel
theorem dX6_layHigh_64 : decode cX6_layHigh 64 = .ok (.iload_n 2, 1) := by decide +kernel
theorem dX6_layHigh_65 : decode cX6_layHigh 65 = .ok (.iaload, 1) := by decide +kernel
theorem dX6_layHigh_66 : decode cX6_layHigh 66 = .ok (.iastore, 1) := by decide +kernel
theorem dX6_layHigh_67 : decode cX6_layHigh 67 = .ok (.iinc 2 1, 3) := by decide +kernel
theorem dX6_layHigh_70 : decode cX6_layHigh 70 = .ok (.goto (-68), 3) := by decide +kernel
theorem dX6_layHigh_73 : decode cX6_layHigh 73 = .ok (.aload_n 0, 1) := by decide +kernel
theorem dX6_layHigh_74 : decode cX6_layHigh 74 = .ok (.getfield 90, 3) := by decide +kernel
theorem dX6_layHigh_77 : decode cX6_layHigh 77 = .ok (.iconst 1, 1) := by decide +kernel
theorem dX6_layHigh_78 : decode cX6_layHigh 78 = .ok (.if_icmp .ne 7, 3) := by decide +kernel
theorem dX6_layHigh_81 : decode cX6_layHigh 81 = .ok (.iconst 1, 1) := by decide +kernel
theorem dX6_layHigh_82 : decode cX6_layHigh 82 = .ok (.goto 4, 3) := by decide +kernel
theorem dX6_layHigh_85 : decode cX6_layHigh 85 = .ok (.iconst 0, 1) := by decide +kernel
theorem dX6_layHigh_86 : decode cX6_layHigh 86 = .ok (.istore_n 2, 1) := by decide +kernel
theorem dX6_layHigh_87 : decode cX6_layHigh 87 = .ok (.iload_n 2, 1) := by decide +kernel
theorem dX6_layHigh_88 : decode cX6_layHigh 88 = .ok (.ifCond .eq 90, 3) := by decide +kernel
theorem dX6_layHigh_91 : decode cX6_layHigh 91 = .ok (.iconst 0, 1) := by decide +kernel
theorem dX6_layHigh_92 : decode cX6_layHigh 92 = .ok (.istore_n 2, 1) := by decide +kernel
theorem dX6_layHigh_93 : decode cX6_layHigh 93 = .ok (.iconst 0, 1) := by decide +kernel
theorem dX6_layHigh_94 : decode cX6_layHigh 94 = .ok (.istore_n 3, 1) := by decide +kernel
theorem dX6_layHigh_95 : decode cX6_layHigh 95 = .ok (.iload_n 3, 1) := by decide +kernel
theorem dX6_layHigh_96 : decode cX6_layHigh 96 = .ok (.aload_n 0, 1) := by decide +kernel
theorem dX6_layHigh_97 : decode cX6_layHigh 97 = .ok (.getfield 79, 3) := by decide +kernel
theorem dX6_layHigh_100 : decode cX6_layHigh 100 = .ok (.if_icmp .ge 75, 3) := by decide +kernel
theorem dX6_layHigh_103 : decode cX6_layHigh 103 = .ok (.aload_n 0, 1) := by decide +kernel
theorem dX6_layHigh_104 : decode cX6_layHigh 104 = .ok (.getfield 25, 3) := by decide +kernel
theorem dX6_layHigh_107 : decode cX6_layHigh 107 = .ok (.iload_n 3, 1) := by decide +kernel
theorem dX6_layHigh_108 : decode cX6_layHigh 108 = .ok (.iaload, 1) := by decide +kernel
theorem dX6_layHigh_109 : decode cX6_layHigh 109 = .ok (.istore 4, 2) := by decide +kernel
theorem dX6_layHigh_111 : decode cX6_layHigh 111 = .ok (.aload_n 0, 1) := by decide +kernel
theorem dX6_layHigh_112 : decode cX6_layHigh 112 = .ok (.getfield 28, 3) := by decide +kernel
theorem dX6_layHigh_115 : decode cX6_layHigh 115 = .ok (.iload_n 3, 1) := by decide +kernel
theorem dX6_layHigh_116 : decode cX6_layHigh 116 = .ok (.iaload, 1) := by decide +kernel
theorem dX6_layHigh_117 : decode cX6_layHigh 117 = .ok (.istore 5, 2) := by decide +kernel
theorem dX6_layHigh_119 : decode cX6_layHigh 119 = .ok (.aload_n 1, 1) := by decide +kernel
theorem dX6_layHigh_120 : decode cX6_layHigh 120 = .ok (.iload 4, 2) := by decide +kernel
theorem dX6_layHigh_122 : decode cX6_layHigh 122 = .ok (.iaload, 1) := by decide +kernel
theorem dX6_layHigh_123 : decode cX6_layHigh 123 = .ok (.aload_n 1, 1) := by decide +kernel
theorem dX6_layHigh_124 : decode cX6_layHigh 124 = .ok (.iload 5, 2) := by decide +kernel
theorem dX6_layHigh_126 : decode cX6_layHigh 126 = .ok (.iaload, 1) := by decide +kernel
theorem dX6_layHigh_127 : decode cX6_layHigh 127 = .ok (.iconst 1, 1) := by decide +kernel
theorem dX6_layHigh_128 : decode cX6_layHigh 128 = .ok (.iadd, 1) := by decide +kernel
theorem dX6_layHigh_129 : decode cX6_layHigh 129 = .ok (.if_icmp .le 15, 3) := by decide +kernel
theorem dX6_layHigh_132 : decode cX6_layHigh 132 = .ok (.aload_n 1, 1) := by decide +kernel
theorem dX6_layHigh_133 : decode cX6_layHigh 133 = .ok (.iload 4, 2) := by decide +kernel
theorem dX6_layHigh_135 : decode cX6_layHigh 135 = .ok (.aload_n 1, 1) := by decide +kernel
theorem dX6_layHigh_136 : decode cX6_layHigh 136 = .ok (.iload 5, 2) := by decide +kernel
theorem dX6_layHigh_138 : decode cX6_layHigh 138 = .ok (.iaload, 1) := by decide +kernel
theorem dX6_layHigh_139 : decode cX6_layHigh 139 = .ok (.iconst 1, 1) := by decide +kernel
theorem dX6_layHigh_140 : decode cX6_layHigh 140 = .ok (.iadd, 1) := by decide +kernel
theorem dX6_layHigh_141 : decode cX6_layHigh 141 = .ok (.iastore, 1) := by decide +kernel
theorem dX6_layHigh_142 : decode cX6_layHigh 142 = .ok (.iconst 1, 1) := by decide +kernel
theorem dX6_layHigh_143 : decode cX6_layHigh 143 = .ok (.istore_n 2, 1) := by decide +kernel
theorem dX6_layHigh_144 : decode cX6_layHigh 144 = .ok (.aload_n 1, 1) := by decide +kernel
theorem dX6_layHigh_145 : decode cX6_layHigh 145 = .ok (.iload 5, 2) := by decide +kernel
theorem dX6_layHigh_147 : decode cX6_layHigh 147 = .ok (.iaload, 1) := by decide +kernel
theorem dX6_layHigh_148 : decode cX6_layHigh 148 = .ok (.aload_n 1, 1) := by decide +kernel
theorem dX6_layHigh_149 : decode cX6_layHigh 149 = .ok (.iload 4, 2) := by decide +kernel
theorem dX6_layHigh_151 : decode cX6_layHigh 151 = .ok (.iaload, 1) := by decide +kernel
theorem dX6_layHigh_152 : decode cX6_layHigh 152 = .ok (.iconst 1, 1) := by decide +kernel
theorem dX6_layHigh_153 : decode cX6_layHigh 153 = .ok (.iadd, 1) := by decide +kernel
theorem dX6_layHigh_154 : decode cX6_layHigh 154 = .ok (.if_icmp .le 15, 3) := by decide +kernel
theorem dX6_layHigh_157 : decode cX6_layHigh 157 = .ok (.aload_n 1, 1) := by decide +kernel
theorem dX6_layHigh_158 : decode cX6_layHigh 158 = .ok (.iload 5, 2) := by decide +kernel
theorem dX6_layHigh_160 : decode cX6_layHigh 160 = .ok (.aload_n 1, 1) := by decide +kernel
theorem dX6_layHigh_161 : decode cX6_layHigh 161 = .ok (.iload 4, 2) := by decide +kernel
theorem dX6_layHigh_163 : decode cX6_layHigh 163 = .ok (.iaload, 1) := by decide +kernel
theorem dX6_layHigh_164 : decode cX6_layHigh 164 = .ok (.iconst 1, 1) := by decide +kernel
theorem dX6_layHigh_165 : decode cX6_layHigh 165 = .ok (.iadd, 1) := by decide +kernel
theorem dX6_layHigh_166 : decode cX6_layHigh 166 = .ok (.iastore, 1) := by decide +kernel
theorem dX6_layHigh_167 : decode cX6_layHigh 167 = .ok (.iconst 1, 1) := by decide +kernel
theorem dX6_layHigh_168 : decode cX6_layHigh 168 = .ok (.istore_n 2, 1) := by decide +kernel
theorem dX6_layHigh_169 : decode cX6_layHigh 169 = .ok (.iinc 3 1, 3) := by decide +kernel
theorem dX6_layHigh_172 : decode cX6_layHigh 172 = .ok (.goto (-77), 3) := by decide +kernel
theorem dX6_layHigh_175 : decode cX6_layHigh 175 = .ok (.goto (-88), 3) := by decide +kernel
theorem dX6_layHigh_178 : decode cX6_layHigh 178 = .ok (.return_, 1) := by decide +kernel
def rX6_layHigh : Room := { frames := 0, cells := 0, slots := 0, locals := 0 }
theorem yk_X6_layHigh : YK yX6_layHigh cX6_layHigh 6 none 1 := ⟨xim_X6_layHigh, xse_X6_layHigh, xin_X6, xco_X6_layHigh, by decide +kernel⟩
set_option maxRecDepth 4000 in
theorem c_X6_layHigh {l : Launch} {D : va_G} {t : Nat → ClassId} {b : Nat → Nat} {I : Nat → Int32} {F : Nat → Nat → Int32} {K : Cfg} (hK : CFG K I F) (hW : WFK K) (j : Nat) (h8 : 8 ≤ j) (hj : j < 13) : CT l D t yX6_layHigh cX6_layHigh 6 none rX6_layHigh 0 0 [.ref (b 0), .ref (b j)] (WM b t I F) (VP (fun w => ∃ F' : Nat → Nat → Int32, w = WM b t I F' ∧ (∀ q, q ≠ j → F' q = F q) ∧ RA (kn K) (F' j) (hS K) ∧ (kk K = 1 → feasP K (hS K)))) := by
  refine CT.of (by decide +kernel) (by simp [lg_sl, Value.category]) (fun X C hR => ?_)
  refine xlocals (lv' := [(0, .ref (b 0)), (1, .ref (b j))]) rfl ?_
  have fn24 := hW.n24; have fm60 := hW.m60; have fk2 := hW.k2; have fu1 := hW.u1; have fu9 := hW.u9; have fv1 := hW.v1; have fv9 := hW.v9
  refine xiconst (v := nI 0) C dX6_layHigh_0 (by decide) ?_
  refine xistore_n (lv' := [(2, .int (nI 0)), (0, .ref (b 0)), (1, .ref (b j))]) C dX6_layHigh_1 (by decide) rfl ?_
  have LP2 : ∀ (fu2 : Nat) (i : Nat) (FA : Nat → Nat → Int32) (hi1 : i ≤ kn K) (hXA : (∀ q, q ≠ j → FA q = F q)) (hA : RA i (FA j) (h0 K)), kn K - i < fu2 → XW X 0 0 (WM b t I FA) [(0, .ref (b 0)), (1, .ref (b j)), (2, .int (nI i))] 2 [] := by
    intro fu2
    induction fu2 with
    | zero => intro i FA hi1 hXA hA hm2; exact absurd hm2 (Nat.not_lt_zero _)
    | succ fu2 ih2 =>
      intro i FA hi1 hXA hA hm2
      have hKA : CFG K I FA := hK.of (fun _ _ => rfl) (fun q hq => hXA q (by omega))
      refine xiload_n C 2 rfl dX6_layHigh_2 ?_
      refine xaload_n C 0 rfl dX6_layHigh_3 ?_
      refine gX6_53K C hKA dX6_layHigh_4 ?_
      refine xicmp_geN C 73 dX6_layHigh_7 (by decide) (by omega) (by omega) (fun h7 => ?_) (fun h7 => ?_)
      ·
        have ei : i = kn K := by omega
        rw [ei] at hA
        refine xaload_n C 0 rfl dX6_layHigh_73 ?_
        refine gX6_90K C hKA dX6_layHigh_74 ?_
        refine xiconst (v := nI 1) C dX6_layHigh_77 (by decide) ?_
        refine xicmp_neN C 85 dX6_layHigh_78 (by decide) (by omega) (by omega) (fun h78 => ?_) (fun h78 => ?_)
        ·
          refine xiconst (v := nI 0) C dX6_layHigh_85 (by decide) ?_
          refine xistore_n (lv' := [(2, .int (nI 0)), (0, .ref (b 0)), (1, .ref (b j))]) C dX6_layHigh_86 (by decide) rfl ?_
          refine xiload_n C 0 rfl dX6_layHigh_87 ?_
          refine xif_eqN C 178 dX6_layHigh_88 (by decide) (by omega) (fun h88 => ?_) (fun h88 => ?_)
          ·
            exact xvret C hR dX6_layHigh_178 (⟨rfl, FA, rfl, hXA, by unfold hS; rw [if_neg h78]; exact hA, fun q => absurd q h78⟩)
          · exact absurd rfl h88
        ·
          refine xiconst (v := nI 1) C dX6_layHigh_81 (by decide) ?_
          refine xgoto C 86 dX6_layHigh_82 (by decide) ?_
          refine xistore_n (lv' := [(2, .int (nI 1)), (0, .ref (b 0)), (1, .ref (b j))]) C dX6_layHigh_86 (by decide) rfl ?_
          have LP87 : ∀ (fu87 : Nat) (mo : Nat) (f : Nat → Nat) (FC : Nat → Nat → Int32) (hmo : mo = 1 ∨ (mo = 0 ∧ feasP K f)) (hIv : HIv K f) (hC : RA (kn K) (FC j) f) (hXC : (∀ q, q ≠ j → FC q = F q)), mo + sm f (kn K) < fu87 → XW X 0 0 (WM b t I FC) [(0, .ref (b 0)), (1, .ref (b j)), (2, .int (nI mo))] 87 [] := by
            intro fu87
            induction fu87 with
            | zero => intro mo f FC hmo hIv hC hXC hm87; exact absurd hm87 (Nat.not_lt_zero _)
            | succ fu87 ih87 =>
              intro mo f FC hmo hIv hC hXC hm87
              have hKC : CFG K I FC := hK.of (fun _ _ => rfl) (fun q hq => hXC q (by omega))
              refine xiload_n C 2 rfl dX6_layHigh_87 ?_
              refine xif_eqN C 178 dX6_layHigh_88 (by decide) (by omega) (fun h88 => ?_) (fun h88 => ?_)
              ·
                have hfe : feasP K f := by rcases hmo with e | e; omega; exact e.2
                exact xvret C hR dX6_layHigh_178 (⟨rfl, FC, rfl, hXC, fun p hp => by rw [hS_fix hW h78 hfe hIv p hp]; exact hC p hp, fun _ => feas_of hW hfe (hS_fix hW h78 hfe hIv)⟩)
              ·
                have hm1 : mo = 1 := by rcases hmo with e | e; exact e; omega
                refine xiconst (v := nI 0) C dX6_layHigh_91 (by decide) ?_
                refine xistore_n (lv' := [(2, .int (nI 0)), (0, .ref (b 0)), (1, .ref (b j))]) C dX6_layHigh_92 (by decide) rfl ?_
                refine xiconst (v := nI 0) C dX6_layHigh_93 (by decide) ?_
                refine xistore_n (lv' := [(3, .int (nI 0)), (2, .int (nI 0)), (0, .ref (b 0)), (1, .ref (b j))]) C dX6_layHigh_94 (by decide) rfl ?_
                have LP95 : ∀ (fu95 : Nat) (k : Nat) (mo2 : Nat) (f2 : Nat → Nat) (FD : Nat → Nat → Int32) (hk : k ≤ km K) (hD : (mo2 = 0 ∧ f2 = f ∧ ∀ x, x < k → lnkP K f2 x) ∨ (mo2 = 1 ∧ sm f2 (kn K) < sm f (kn K))) (hIv2 : HIv K f2) (hD2 : RA (kn K) (FD j) f2) (hXD : (∀ q, q ≠ j → FD q = F q)), km K - k < fu95 → XW X 0 0 (WM b t I FD) [(0, .ref (b 0)), (1, .ref (b j)), (2, .int (nI mo2)), (3, .int (nI k))] 95 [] := by
                  intro fu95
                  induction fu95 with
                  | zero => intro k mo2 f2 FD hk hD hIv2 hD2 hXD hm95; exact absurd hm95 (Nat.not_lt_zero _)
                  | succ fu95 ih95 =>
                    intro k mo2 f2 FD hk hD hIv2 hD2 hXD hm95
                    have hKD : CFG K I FD := hK.of (fun _ _ => rfl) (fun q hq => hXD q (by omega))
                    refine xiload_n C 3 rfl dX6_layHigh_95 ?_
                    refine xaload_n C 0 rfl dX6_layHigh_96 ?_
                    refine gX6_79K C hKD dX6_layHigh_97 ?_
                    refine xicmp_geN C 175 dX6_layHigh_100 (by decide) (by omega) (by omega) (fun h100 => ?_) (fun h100 => ?_)
                    ·
                      refine xgoto C 87 dX6_layHigh_175 (by decide) ?_
                      refine xsub [0, 1, 2] rfl ?_
                      exact ih87 mo2 f2 FD (by rcases hD with ⟨e1, e2, e3⟩ | ⟨e1, e2⟩; exact Or.inr ⟨e1, fun x hx => e3 x (by omega)⟩; exact Or.inl e1) hIv2 hD2 hXD (by rcases hD with ⟨e1, e2, e3⟩ | ⟨e1, e2⟩; (subst e2; omega); omega)
                    ·
                      refine xaload_n C 0 rfl dX6_layHigh_103 ?_
                      refine gX6_25 C dX6_layHigh_104 ?_
                      refine xiload_n C 3 rfl dX6_layHigh_107 ?_
                      refine ma_la C hKD hW k (by omega) dX6_layHigh_108 ?_
                      have fb108 := (hW.la (by omega))
                      refine xistore (lv' := [(4, .int (nI (kla K k))), (0, .ref (b 0)), (1, .ref (b j)), (2, .int (nI mo2)), (3, .int (nI k))]) C dX6_layHigh_109 (by decide) rfl ?_
                      refine xaload_n C 1 rfl dX6_layHigh_111 ?_
                      refine gX6_28 C dX6_layHigh_112 ?_
                      refine xiload_n C 4 rfl dX6_layHigh_115 ?_
                      refine ma_lb C hKD hW k (by omega) dX6_layHigh_116 ?_
                      have fb116 := (hW.lb (by omega))
                      refine xistore (lv' := [(5, .int (nI (klb K k))), (4, .int (nI (kla K k))), (0, .ref (b 0)), (1, .ref (b j)), (2, .int (nI mo2)), (3, .int (nI k))]) C dX6_layHigh_117 (by decide) rfl ?_
                      refine xaload_n C 3 rfl dX6_layHigh_119 ?_
                      refine xiload C 1 rfl dX6_layHigh_120 ?_
                      refine ma_st C hW j h8 hj hD2 (kla K k) (by omega) dX6_layHigh_122 ?_
                      have fb122 := (hD2 (kla K k) (by omega)).2
                      refine xaload_n C 3 rfl dX6_layHigh_123 ?_
                      refine xiload C 0 rfl dX6_layHigh_124 ?_
                      refine ma_st C hW j h8 hj hD2 (klb K k) (by omega) dX6_layHigh_126 ?_
                      have fb126 := (hD2 (klb K k) (by omega)).2
                      refine xiconst (v := nI 1) C dX6_layHigh_127 (by decide) ?_
                      refine xiaddN C dX6_layHigh_128 ?_
                      refine xicmp_leN C 144 dX6_layHigh_129 (by decide) (by omega) (by omega) (fun h129 => ?_) (fun h129 => ?_)
                      ·
                        refine xaload_n C 3 rfl dX6_layHigh_144 ?_
                        refine xiload C 0 rfl dX6_layHigh_145 ?_
                        refine ma_st C hW j h8 hj hD2 (klb K k) (by omega) dX6_layHigh_147 ?_
                        have fb147 := (hD2 (klb K k) (by omega)).2
                        refine xaload_n C 3 rfl dX6_layHigh_148 ?_
                        refine xiload C 1 rfl dX6_layHigh_149 ?_
                        refine ma_st C hW j h8 hj hD2 (kla K k) (by omega) dX6_layHigh_151 ?_
                        have fb151 := (hD2 (kla K k) (by omega)).2
                        refine xiconst (v := nI 1) C dX6_layHigh_152 (by decide) ?_
                        refine xiaddN C dX6_layHigh_153 ?_
                        refine xicmp_leN C 169 dX6_layHigh_154 (by decide) (by omega) (by omega) (fun h154 => ?_) (fun h154 => ?_)
                        ·
                          refine xiincN (lv' := [(3, .int (nI (k + 1))), (5, .int (nI (klb K k))), (4, .int (nI (kla K k))), (0, .ref (b 0)), (1, .ref (b j)), (2, .int (nI mo2))]) C 5 rfl dX6_layHigh_169 (by decide) rfl ?_
                          refine xgoto C 95 dX6_layHigh_172 (by decide) ?_
                          refine xsub [3, 4, 5, 0] rfl ?_
                          exact ih95 (k + 1) mo2 f2 FD (by omega) (by rcases hD with ⟨e1, e2, e3⟩ | ⟨e1, e2⟩; exact Or.inl ⟨e1, e2, lt_s e3 ⟨by omega, by omega⟩⟩; exact Or.inr ⟨e1, e2⟩) hIv2 hD2 hXD (by omega)
                        ·
                          refine xaload_n C 3 rfl dX6_layHigh_157 ?_
                          refine xiload C 0 rfl dX6_layHigh_158 ?_
                          refine xaload_n C 3 rfl dX6_layHigh_160 ?_
                          refine xiload C 1 rfl dX6_layHigh_161 ?_
                          refine ma_st C hW j h8 hj hD2 (kla K k) (by omega) dX6_layHigh_163 ?_
                          have fb163 := (hD2 (kla K k) (by omega)).2
                          refine xiconst (v := nI 1) C dX6_layHigh_164 (by decide) ?_
                          refine xiaddN C dX6_layHigh_165 ?_
                          refine ms_st C j h8 hj (klb K k) (by omega) dX6_layHigh_166 ?_
                          obtain ⟨f4, ef4⟩ : ∃ z : Nat → Nat, z = va_up f2 (klb K k) (f2 (kla K k) + 1) := ⟨_, rfl⟩
                          obtain ⟨FE4, eFE4⟩ : ∃ z : Nat → Nat → Int32, z = va_up FD j (upd (FD j) (klb K k) (nI ((f2 (kla K k)) + 1))) := ⟨_, rfl⟩
                          refine xworld (ws' := WM b t I FE4) (by rw [eFE4]) ?_
                          have hI4 : HIv K f4 := by rw [ef4]; exact hIv2.up hW (by omega) (by omega) (adj_ba h100) (lk_ne hW h100).symm (by omega)
                          have hR4 : RA (kn K) (FE4 j) f4 := by rw [eFE4, va_up_self, ef4]; exact hD2.up (by omega)
                          have hX4 : (∀ q, q ≠ j → FE4 q = F q) := fun q hq => by rw [eFE4, va_up_ne _ _ hq]; exact hXD q hq
                          have hK4 : CFG K I FE4 := hK.of (fun _ _ => rfl) (fun q hq => hX4 q (by omega))
                          have hs4 : sm f4 (kn K) < sm f2 (kn K) := by rw [ef4]; exact sm_lt (by omega) (by omega)
                          refine xiconst (v := nI 1) C dX6_layHigh_167 (by decide) ?_
                          refine xistore_n (lv' := [(2, .int (nI 1)), (5, .int (nI (klb K k))), (4, .int (nI (kla K k))), (0, .ref (b 0)), (1, .ref (b j)), (3, .int (nI k))]) C dX6_layHigh_168 (by decide) rfl ?_
                          refine xiincN (lv' := [(3, .int (nI (k + 1))), (2, .int (nI 1)), (5, .int (nI (klb K k))), (4, .int (nI (kla K k))), (0, .ref (b 0)), (1, .ref (b j))]) C 5 rfl dX6_layHigh_169 (by decide) rfl ?_
                          refine xgoto C 95 dX6_layHigh_172 (by decide) ?_
                          refine xsub [4, 5, 1, 0] rfl ?_
                          exact ih95 (k + 1) 1 f4 FE4 (by omega) (Or.inr ⟨rfl, by rcases hD with ⟨e1, e2, e3⟩ | ⟨e1, e2⟩; (subst e2; omega); omega⟩) hI4 hR4 hX4 (by omega)
                      ·
                        refine xaload_n C 3 rfl dX6_layHigh_132 ?_
                        refine xiload C 1 rfl dX6_layHigh_133 ?_
                        refine xaload_n C 3 rfl dX6_layHigh_135 ?_
                        refine xiload C 0 rfl dX6_layHigh_136 ?_
                        refine ma_st C hW j h8 hj hD2 (klb K k) (by omega) dX6_layHigh_138 ?_
                        have fb138 := (hD2 (klb K k) (by omega)).2
                        refine xiconst (v := nI 1) C dX6_layHigh_139 (by decide) ?_
                        refine xiaddN C dX6_layHigh_140 ?_
                        refine ms_st C j h8 hj (kla K k) (by omega) dX6_layHigh_141 ?_
                        obtain ⟨f3, ef3⟩ : ∃ z : Nat → Nat, z = va_up f2 (kla K k) (f2 (klb K k) + 1) := ⟨_, rfl⟩
                        obtain ⟨FE3, eFE3⟩ : ∃ z : Nat → Nat → Int32, z = va_up FD j (upd (FD j) (kla K k) (nI ((f2 (klb K k)) + 1))) := ⟨_, rfl⟩
                        refine xworld (ws' := WM b t I FE3) (by rw [eFE3]) ?_
                        have hI3 : HIv K f3 := by rw [ef3]; exact hIv2.up hW (by omega) (by omega) (adj_ab h100) (lk_ne hW h100) (by omega)
                        have hR3 : RA (kn K) (FE3 j) f3 := by rw [eFE3, va_up_self, ef3]; exact hD2.up (by omega)
                        have hX3 : (∀ q, q ≠ j → FE3 q = F q) := fun q hq => by rw [eFE3, va_up_ne _ _ hq]; exact hXD q hq
                        have hK3 : CFG K I FE3 := hK.of (fun _ _ => rfl) (fun q hq => hX3 q (by omega))
                        have hs3 : sm f3 (kn K) < sm f2 (kn K) := by rw [ef3]; exact sm_lt (by omega) (by omega)
                        refine xiconst (v := nI 1) C dX6_layHigh_142 (by decide) ?_
                        refine xistore_n (lv' := [(2, .int (nI 1)), (5, .int (nI (klb K k))), (4, .int (nI (kla K k))), (0, .ref (b 0)), (1, .ref (b j)), (3, .int (nI k))]) C dX6_layHigh_143 (by decide) rfl ?_
                        refine xaload_n C 4 rfl dX6_layHigh_144 ?_
                        refine xiload C 1 rfl dX6_layHigh_145 ?_
                        refine ma_st C hW j h8 hj hR3 (klb K k) (by omega) dX6_layHigh_147 ?_
                        have fb147 := (hR3 (klb K k) (by omega)).2
                        refine xaload_n C 4 rfl dX6_layHigh_148 ?_
                        refine xiload C 2 rfl dX6_layHigh_149 ?_
                        refine ma_st C hW j h8 hj hR3 (kla K k) (by omega) dX6_layHigh_151 ?_
                        have fb151 := (hR3 (kla K k) (by omega)).2
                        refine xiconst (v := nI 1) C dX6_layHigh_152 (by decide) ?_
                        refine xiaddN C dX6_layHigh_153 ?_
                        refine xicmp_leN C 169 dX6_layHigh_154 (by decide) (by omega) (by omega) (fun h154 => ?_) (fun h154 => ?_)
                        ·
                          refine xiincN (lv' := [(3, .int (nI (k + 1))), (2, .int (nI 1)), (5, .int (nI (klb K k))), (4, .int (nI (kla K k))), (0, .ref (b 0)), (1, .ref (b j))]) C 5 rfl dX6_layHigh_169 (by decide) rfl ?_
                          refine xgoto C 95 dX6_layHigh_172 (by decide) ?_
                          refine xsub [4, 5, 1, 0] rfl ?_
                          exact ih95 (k + 1) 1 f3 FE3 (by omega) (Or.inr ⟨rfl, by rcases hD with ⟨e1, e2, e3⟩ | ⟨e1, e2⟩; (subst e2; omega); omega⟩) hI3 hR3 hX3 (by omega)
                        ·
                          refine xaload_n C 4 rfl dX6_layHigh_157 ?_
                          refine xiload C 1 rfl dX6_layHigh_158 ?_
                          refine xaload_n C 4 rfl dX6_layHigh_160 ?_
                          refine xiload C 2 rfl dX6_layHigh_161 ?_
                          refine ma_st C hW j h8 hj hR3 (kla K k) (by omega) dX6_layHigh_163 ?_
                          have fb163 := (hR3 (kla K k) (by omega)).2
                          refine xiconst (v := nI 1) C dX6_layHigh_164 (by decide) ?_
                          refine xiaddN C dX6_layHigh_165 ?_
                          refine ms_st C j h8 hj (klb K k) (by omega) dX6_layHigh_166 ?_
                          obtain ⟨f4, ef4⟩ : ∃ z : Nat → Nat, z = va_up f3 (klb K k) (f3 (kla K k) + 1) := ⟨_, rfl⟩
                          obtain ⟨FE4, eFE4⟩ : ∃ z : Nat → Nat → Int32, z = va_up FE3 j (upd (FE3 j) (klb K k) (nI ((f3 (kla K k)) + 1))) := ⟨_, rfl⟩
                          refine xworld (ws' := WM b t I FE4) (by rw [eFE4]) ?_
                          have hI4 : HIv K f4 := by rw [ef4]; exact hI3.up hW (by omega) (by omega) (adj_ba h100) (lk_ne hW h100).symm (by omega)
                          have hR4 : RA (kn K) (FE4 j) f4 := by rw [eFE4, va_up_self, ef4]; exact hR3.up (by omega)
                          have hX4 : (∀ q, q ≠ j → FE4 q = F q) := fun q hq => by rw [eFE4, va_up_ne _ _ hq]; exact hX3 q hq
                          have hK4 : CFG K I FE4 := hK.of (fun _ _ => rfl) (fun q hq => hX4 q (by omega))
                          have hs4 : sm f4 (kn K) < sm f3 (kn K) := by rw [ef4]; exact sm_lt (by omega) (by omega)
                          refine xiconst (v := nI 1) C dX6_layHigh_167 (by decide) ?_
                          refine xistore_n (lv' := [(2, .int (nI 1)), (5, .int (nI (klb K k))), (4, .int (nI (kla K k))), (0, .ref (b 0)), (1, .ref (b j)), (3, .int (nI k))]) C dX6_layHigh_168 (by decide) rfl ?_
                          refine xiincN (lv' := [(3, .int (nI (k + 1))), (2, .int (nI 1)), (5, .int (nI (klb K k))), (4, .int (nI (kla K k))), (0, .ref (b 0)), (1, .ref (b j))]) C 5 rfl dX6_layHigh_169 (by decide) rfl ?_
                          refine xgoto C 95 dX6_layHigh_172 (by decide) ?_
                          refine xsub [4, 5, 1, 0] rfl ?_
                          exact ih95 (k + 1) 1 f4 FE4 (by omega) (Or.inr ⟨rfl, by rcases hD with ⟨e1, e2, e3⟩ | ⟨e1, e2⟩; (subst e2; omega); omega⟩) hI4 hR4 hX4 (by omega)
                refine xsub [2, 3, 1, 0] rfl ?_
                exact LP95 _ 0 0 f FC (Nat.zero_le _) (Or.inl ⟨rfl, rfl, fun x h => absurd h (Nat.not_lt_zero _)⟩) hIv hC hXC (Nat.lt_succ_self _)
          refine xsub [1, 2, 0] rfl ?_
          exact LP87 _ 1 (h0 K) FA (Or.inl rfl) (HIv.start hW) hA hXA (Nat.lt_succ_self _)
      ·
        refine xaload_n C 1 rfl dX6_layHigh_10 ?_
        refine xiload_n C 2 rfl dX6_layHigh_11 ?_
        refine xaload_n C 0 rfl dX6_layHigh_12 ?_
        refine gX6_90K C hKA dX6_layHigh_13 ?_
        refine xif_neN C 23 dX6_layHigh_16 (by decide) (by omega) (fun h16 => ?_) (fun h16 => ?_)
        ·
          refine xaload_n C 0 rfl dX6_layHigh_23 ?_
          refine gX6_90K C hKA dX6_layHigh_24 ?_
          refine xiconst (v := nI 2) C dX6_layHigh_27 (by decide) ?_
          refine xicmp_neN C 42 dX6_layHigh_28 (by decide) (by omega) (by omega) (fun h28 => ?_) (fun h28 => ?_)
          ·
            refine xaload_n C 0 rfl dX6_layHigh_42 ?_
            refine gX6_16 C dX6_layHigh_43 ?_
            refine xiload_n C 2 rfl dX6_layHigh_46 ?_
            refine ma_hd C hKA hW i (by omega) dX6_layHigh_47 ?_
            have fb47 := (hW.hd6 (by omega))
            refine xif_lt C 60 dX6_layHigh_48 (by decide) (fun h48 => ?_) (fun h48 => ?_)
            ·
              refine xaload_n C 0 rfl dX6_layHigh_60 ?_
              refine gX6_7 C dX6_layHigh_61 ?_
              refine xiload_n C 2 rfl dX6_layHigh_64 ?_
              refine ma_top C hKA hW i (by omega) dX6_layHigh_65 ?_
              have fb65 := (hW.top5 (by omega))
              refine xtopi (y := nI (h0 K i)) (by rw [h0_h0 (by omega) (by omega) h48]) ?_
              refine ms_st C j h8 hj i (by omega) dX6_layHigh_66 ?_
              obtain ⟨FB, eFB⟩ : ∃ z : Nat → Nat → Int32, z = va_up FA j (upd (FA j) i (nI (h0 K i))) := ⟨_, rfl⟩
              refine xworld (ws' := WM b t I FB) (by rw [eFB]) ?_
              refine xiincN (lv' := [(2, .int (nI (i + 1))), (0, .ref (b 0)), (1, .ref (b j))]) C 2 rfl dX6_layHigh_67 (by decide) rfl ?_
              refine xgoto C 2 dX6_layHigh_70 (by decide) ?_
              refine xsub [1, 2, 0] rfl ?_
              exact ih2 (i + 1) FB (by omega) (fun q hq => by rw [eFB, va_up_ne _ _ hq]; exact hXA q hq) (by rw [eFB, va_up_self]; exact hA.snoc (h0_le hW (by omega))) (by omega)
            ·
              refine xaload_n C 0 rfl dX6_layHigh_51 ?_
              refine gX6_16 C dX6_layHigh_52 ?_
              refine xiload_n C 2 rfl dX6_layHigh_55 ?_
              refine ma_hd C hKA hW i (by omega) dX6_layHigh_56 ?_
              have fb56 := (hW.hd6 (by omega))
              refine xgoto C 66 dX6_layHigh_57 (by decide) ?_
              refine xtopi (y := nI (h0 K i)) (h0_h1 (by omega) (by omega) h48) ?_
              refine ms_st C j h8 hj i (by omega) dX6_layHigh_66 ?_
              obtain ⟨FB, eFB⟩ : ∃ z : Nat → Nat → Int32, z = va_up FA j (upd (FA j) i (nI (h0 K i))) := ⟨_, rfl⟩
              refine xworld (ws' := WM b t I FB) (by rw [eFB]) ?_
              refine xiincN (lv' := [(2, .int (nI (i + 1))), (0, .ref (b 0)), (1, .ref (b j))]) C 2 rfl dX6_layHigh_67 (by decide) rfl ?_
              refine xgoto C 2 dX6_layHigh_70 (by decide) ?_
              refine xsub [1, 2, 0] rfl ?_
              exact ih2 (i + 1) FB (by omega) (fun q hq => by rw [eFB, va_up_ne _ _ hq]; exact hXA q hq) (by rw [eFB, va_up_self]; exact hA.snoc (h0_le hW (by omega))) (by omega)
          ·
            refine xiconst (v := nI 1) C dX6_layHigh_31 (by decide) ?_
            refine xaload_n C 0 rfl dX6_layHigh_32 ?_
            refine gX6_13 C dX6_layHigh_33 ?_
            refine xiload_n C 2 rfl dX6_layHigh_36 ?_
            refine ma_si C hKA hW i (by omega) dX6_layHigh_37 ?_
            have fb37 := (hW.si1 (by omega))
            refine xisubN C (by omega) dX6_layHigh_38 ?_
            refine xgoto C 66 dX6_layHigh_39 (by decide) ?_
            refine xtopi (y := nI (h0 K i)) (by rw [h0_k2 h28 (by omega)]) ?_
            refine ms_st C j h8 hj i (by omega) dX6_layHigh_66 ?_
            obtain ⟨FB, eFB⟩ : ∃ z : Nat → Nat → Int32, z = va_up FA j (upd (FA j) i (nI (h0 K i))) := ⟨_, rfl⟩
            refine xworld (ws' := WM b t I FB) (by rw [eFB]) ?_
            refine xiincN (lv' := [(2, .int (nI (i + 1))), (0, .ref (b 0)), (1, .ref (b j))]) C 2 rfl dX6_layHigh_67 (by decide) rfl ?_
            refine xgoto C 2 dX6_layHigh_70 (by decide) ?_
            refine xsub [1, 2, 0] rfl ?_
            exact ih2 (i + 1) FB (by omega) (fun q hq => by rw [eFB, va_up_ne _ _ hq]; exact hXA q hq) (by rw [eFB, va_up_self]; exact hA.snoc (h0_le hW (by omega))) (by omega)
        ·
          refine xiconst (v := nI 1) C dX6_layHigh_19 (by decide) ?_
          refine xgoto C 66 dX6_layHigh_20 (by decide) ?_
          refine xtopi (y := nI (h0 K i)) (by rw [h0_k0 h16]) ?_
          refine ms_st C j h8 hj i (by omega) dX6_layHigh_66 ?_
          obtain ⟨FB, eFB⟩ : ∃ z : Nat → Nat → Int32, z = va_up FA j (upd (FA j) i (nI (h0 K i))) := ⟨_, rfl⟩
          refine xworld (ws' := WM b t I FB) (by rw [eFB]) ?_
          refine xiincN (lv' := [(2, .int (nI (i + 1))), (0, .ref (b 0)), (1, .ref (b j))]) C 2 rfl dX6_layHigh_67 (by decide) rfl ?_
          refine xgoto C 2 dX6_layHigh_70 (by decide) ?_
          refine xsub [1, 2, 0] rfl ?_
          exact ih2 (i + 1) FB (by omega) (fun q hq => by rw [eFB, va_up_ne _ _ hq]; exact hXA q hq) (by rw [eFB, va_up_self]; exact hA.snoc (h0_le hW (by omega))) (by omega)
  refine xsub [1, 2, 0] rfl ?_
  exact LP2 _ 0 F (Nat.zero_le _) (fun _ _ => rfl) (fun p h => absurd h (Nat.not_lt_zero _)) (Nat.lt_succ_self _)
theorem dX6_layLow_0 : decode cX6_layLow 0 = .ok (.iconst 0, 1) := by decide +kernel
theorem dX6_layLow_1 : decode cX6_layLow 1 = .ok (.istore_n 2, 1) := by decide +kernel
theorem dX6_layLow_2 : decode cX6_layLow 2 = .ok (.iload_n 2, 1) := by decide +kernel
theorem dX6_layLow_3 : decode cX6_layLow 3 = .ok (.aload_n 0, 1) := by decide +kernel
theorem dX6_layLow_4 : decode cX6_layLow 4 = .ok (.getfield 53, 3) := by decide +kernel
theorem dX6_layLow_7 : decode cX6_layLow 7 = .ok (.if_icmp .ge 59, 3) := by decide +kernel
theorem dX6_layLow_10 : decode cX6_layLow 10 = .ok (.aload_n 1, 1) := by decide +kernel
theorem dX6_layLow_11 : decode cX6_layLow 11 = .ok (.iload_n 2, 1) := by decide +kernel
theorem dX6_layLow_12 : decode cX6_layLow 12 = .ok (.aload_n 0, 1) := by decide +kernel
theorem dX6_layLow_13 : decode cX6_layLow 13 = .ok (.getfield 90, 3) := by decide +kernel
theorem dX6_layLow_16 : decode cX6_layLow 16 = .ok (.ifCond .ne 7, 3) := by decide +kernel
theorem dX6_layLow_19 : decode cX6_layLow 19 = .ok (.iconst 0, 1) := by decide +kernel
theorem dX6_layLow_20 : decode cX6_layLow 20 = .ok (.goto 39, 3) := by decide +kernel
theorem dX6_layLow_23 : decode cX6_layLow 23 = .ok (.aload_n 0, 1) := by decide +kernel
theorem dX6_layLow_24 : decode cX6_layLow 24 = .ok (.getfield 90, 3) := by decide +kernel
theorem dX6_layLow_27 : decode cX6_layLow 27 = .ok (.iconst 2, 1) := by decide +kernel
theorem dX6_layLow_28 : decode cX6_layLow 28 = .ok (.if_icmp .ne 12, 3) := by decide +kernel
theorem dX6_layLow_31 : decode cX6_layLow 31 = .ok (.aload_n 0, 1) := by decide +kernel
theorem dX6_layLow_32 : decode cX6_layLow 32 = .ok (.getfield 13, 3) := by decide +kernel
theorem dX6_layLow_35 : decode cX6_layLow 35 = .ok (.iload_n 2, 1) := by decide +kernel
theorem dX6_layLow_36 : decode cX6_layLow 36 = .ok (.iaload, 1) := by decide +kernel
theorem dX6_layLow_37 : decode cX6_layLow 37 = .ok (.goto 22, 3) := by decide +kernel
theorem dX6_layLow_40 : decode cX6_layLow 40 = .ok (.aload_n 0, 1) := by decide +kernel
theorem dX6_layLow_41 : decode cX6_layLow 41 = .ok (.getfield 16, 3) := by decide +kernel
theorem dX6_layLow_44 : decode cX6_layLow 44 = .ok (.iload_n 2, 1) := by decide +kernel
theorem dX6_layLow_45 : decode cX6_layLow 45 = .ok (.iaload, 1) := by decide +kernel
theorem dX6_layLow_46 : decode cX6_layLow 46 = .ok (.ifCond .lt 12, 3) := by decide +kernel
theorem dX6_layLow_49 : decode cX6_layLow 49 = .ok (.aload_n 0, 1) := by decide +kernel
theorem dX6_layLow_50 : decode cX6_layLow 50 = .ok (.getfield 16, 3) := by decide +kernel
theorem dX6_layLow_53 : decode cX6_layLow 53 = .ok (.iload_n 2, 1) := by decide +kernel
theorem dX6_layLow_54 : decode cX6_layLow 54 = .ok (.iaload, 1) := by decide +kernel
theorem dX6_layLow_55 : decode cX6_layLow 55 = .ok (.goto 4, 3) := by decide +kernel
theorem dX6_layLow_58 : decode cX6_layLow 58 = .ok (.iconst 0, 1) := by decide +kernel
theorem dX6_layLow_59 : decode cX6_layLow 59 = .ok (.iastore, 1) := by decide +kernel
theorem dX6_layLow_60 : decode cX6_layLow 60 = .ok (.iinc 2 1, 3) := by decide +kernel
theorem dX6_layLow_63 : decode cX6_layLow 63 = .ok (.goto (-61), 3) := by decide +kernel
theorem dX6_layLow_66 : decode cX6_layLow 66 = .ok (.aload_n 0, 1) := by decide +kernel
theorem dX6_layLow_67 : decode cX6_layLow 67 = .ok (.getfield 90, 3) := by decide +kernel
theorem dX6_layLow_70 : decode cX6_layLow 70 = .ok (.iconst 1, 1) := by decide +kernel
theorem dX6_layLow_71 : decode cX6_layLow 71 = .ok (.if_icmp .ne 7, 3) := by decide +kernel
theorem dX6_layLow_74 : decode cX6_layLow 74 = .ok (.iconst 1, 1) := by decide +kernel
theorem dX6_layLow_75 : decode cX6_layLow 75 = .ok (.goto 4, 3) := by decide +kernel
theorem dX6_layLow_78 : decode cX6_layLow 78 = .ok (.iconst 0, 1) := by decide +kernel
theorem dX6_layLow_79 : decode cX6_layLow 79 = .ok (.istore_n 2, 1) := by decide +kernel
theorem dX6_layLow_80 : decode cX6_layLow 80 = .ok (.iload_n 2, 1) := by decide +kernel
theorem dX6_layLow_81 : decode cX6_layLow 81 = .ok (.ifCond .eq 90, 3) := by decide +kernel
theorem dX6_layLow_84 : decode cX6_layLow 84 = .ok (.iconst 0, 1) := by decide +kernel
theorem dX6_layLow_85 : decode cX6_layLow 85 = .ok (.istore_n 2, 1) := by decide +kernel
theorem dX6_layLow_86 : decode cX6_layLow 86 = .ok (.iconst 0, 1) := by decide +kernel
theorem dX6_layLow_87 : decode cX6_layLow 87 = .ok (.istore_n 3, 1) := by decide +kernel
theorem dX6_layLow_88 : decode cX6_layLow 88 = .ok (.iload_n 3, 1) := by decide +kernel
theorem dX6_layLow_89 : decode cX6_layLow 89 = .ok (.aload_n 0, 1) := by decide +kernel
theorem dX6_layLow_90 : decode cX6_layLow 90 = .ok (.getfield 79, 3) := by decide +kernel
theorem dX6_layLow_93 : decode cX6_layLow 93 = .ok (.if_icmp .ge 75, 3) := by decide +kernel
theorem dX6_layLow_96 : decode cX6_layLow 96 = .ok (.aload_n 0, 1) := by decide +kernel
theorem dX6_layLow_97 : decode cX6_layLow 97 = .ok (.getfield 25, 3) := by decide +kernel
theorem dX6_layLow_100 : decode cX6_layLow 100 = .ok (.iload_n 3, 1) := by decide +kernel
theorem dX6_layLow_101 : decode cX6_layLow 101 = .ok (.iaload, 1) := by decide +kernel
theorem dX6_layLow_102 : decode cX6_layLow 102 = .ok (.istore 4, 2) := by decide +kernel
theorem dX6_layLow_104 : decode cX6_layLow 104 = .ok (.aload_n 0, 1) := by decide +kernel
theorem dX6_layLow_105 : decode cX6_layLow 105 = .ok (.getfield 28, 3) := by decide +kernel
theorem dX6_layLow_108 : decode cX6_layLow 108 = .ok (.iload_n 3, 1) := by decide +kernel
theorem dX6_layLow_109 : decode cX6_layLow 109 = .ok (.iaload, 1) := by decide +kernel
theorem dX6_layLow_110 : decode cX6_layLow 110 = .ok (.istore 5, 2) := by decide +kernel
theorem dX6_layLow_112 : decode cX6_layLow 112 = .ok (.aload_n 1, 1) := by decide +kernel
theorem dX6_layLow_113 : decode cX6_layLow 113 = .ok (.iload 4, 2) := by decide +kernel
theorem dX6_layLow_115 : decode cX6_layLow 115 = .ok (.iaload, 1) := by decide +kernel
theorem dX6_layLow_116 : decode cX6_layLow 116 = .ok (.aload_n 1, 1) := by decide +kernel
theorem dX6_layLow_117 : decode cX6_layLow 117 = .ok (.iload 5, 2) := by decide +kernel
theorem dX6_layLow_119 : decode cX6_layLow 119 = .ok (.iaload, 1) := by decide +kernel
theorem dX6_layLow_120 : decode cX6_layLow 120 = .ok (.iconst 1, 1) := by decide +kernel
theorem dX6_layLow_121 : decode cX6_layLow 121 = .ok (.isub, 1) := by decide +kernel
theorem dX6_layLow_122 : decode cX6_layLow 122 = .ok (.if_icmp .ge 15, 3) := by decide +kernel
theorem dX6_layLow_125 : decode cX6_layLow 125 = .ok (.aload_n 1, 1) := by decide +kernel
theorem dX6_layLow_126 : decode cX6_layLow 126 = .ok (.iload 4, 2) := by decide +kernel
theorem dX6_layLow_128 : decode cX6_layLow 128 = .ok (.aload_n 1, 1) := by decide +kernel
theorem dX6_layLow_129 : decode cX6_layLow 129 = .ok (.iload 5, 2) := by decide +kernel
theorem dX6_layLow_131 : decode cX6_layLow 131 = .ok (.iaload, 1) := by decide +kernel
theorem dX6_layLow_132 : decode cX6_layLow 132 = .ok (.iconst 1, 1) := by decide +kernel
theorem dX6_layLow_133 : decode cX6_layLow 133 = .ok (.isub, 1) := by decide +kernel
theorem dX6_layLow_134 : decode cX6_layLow 134 = .ok (.iastore, 1) := by decide +kernel
theorem dX6_layLow_135 : decode cX6_layLow 135 = .ok (.iconst 1, 1) := by decide +kernel
theorem dX6_layLow_136 : decode cX6_layLow 136 = .ok (.istore_n 2, 1) := by decide +kernel
theorem dX6_layLow_137 : decode cX6_layLow 137 = .ok (.aload_n 1, 1) := by decide +kernel
theorem dX6_layLow_138 : decode cX6_layLow 138 = .ok (.iload 5, 2) := by decide +kernel
theorem dX6_layLow_140 : decode cX6_layLow 140 = .ok (.iaload, 1) := by decide +kernel
theorem dX6_layLow_141 : decode cX6_layLow 141 = .ok (.aload_n 1, 1) := by decide +kernel
theorem dX6_layLow_142 : decode cX6_layLow 142 = .ok (.iload 4, 2) := by decide +kernel
theorem dX6_layLow_144 : decode cX6_layLow 144 = .ok (.iaload, 1) := by decide +kernel
theorem dX6_layLow_145 : decode cX6_layLow 145 = .ok (.iconst 1, 1) := by decide +kernel
theorem dX6_layLow_146 : decode cX6_layLow 146 = .ok (.isub, 1) := by decide +kernel
theorem dX6_layLow_147 : decode cX6_layLow 147 = .ok (.if_icmp .ge 15, 3) := by decide +kernel
theorem dX6_layLow_150 : decode cX6_layLow 150 = .ok (.aload_n 1, 1) := by decide +kernel
theorem dX6_layLow_151 : decode cX6_layLow 151 = .ok (.iload 5, 2) := by decide +kernel
theorem dX6_layLow_153 : decode cX6_layLow 153 = .ok (.aload_n 1, 1) := by decide +kernel
theorem dX6_layLow_154 : decode cX6_layLow 154 = .ok (.iload 4, 2) := by decide +kernel
theorem dX6_layLow_156 : decode cX6_layLow 156 = .ok (.iaload, 1) := by decide +kernel
theorem dX6_layLow_157 : decode cX6_layLow 157 = .ok (.iconst 1, 1) := by decide +kernel
theorem dX6_layLow_158 : decode cX6_layLow 158 = .ok (.isub, 1) := by decide +kernel
theorem dX6_layLow_159 : decode cX6_layLow 159 = .ok (.iastore, 1) := by decide +kernel
theorem dX6_layLow_160 : decode cX6_layLow 160 = .ok (.iconst 1, 1) := by decide +kernel
theorem dX6_layLow_161 : decode cX6_layLow 161 = .ok (.istore_n 2, 1) := by decide +kernel
theorem dX6_layLow_162 : decode cX6_layLow 162 = .ok (.iinc 3 1, 3) := by decide +kernel
theorem dX6_layLow_165 : decode cX6_layLow 165 = .ok (.goto (-77), 3) := by decide +kernel
theorem dX6_layLow_168 : decode cX6_layLow 168 = .ok (.goto (-88), 3) := by decide +kernel
theorem dX6_layLow_171 : decode cX6_layLow 171 = .ok (.return_, 1) := by decide +kernel
def rX6_layLow : Room := { frames := 0, cells := 0, slots := 0, locals := 0 }
theorem yk_X6_layLow : YK yX6_layLow cX6_layLow 6 none 1 := ⟨xim_X6_layLow, xse_X6_layLow, xin_X6, xco_X6_layLow, by decide +kernel⟩
set_option maxRecDepth 4000 in
theorem c_X6_layLow {l : Launch} {D : va_G} {t : Nat → ClassId} {b : Nat → Nat} {I : Nat → Int32} {F : Nat → Nat → Int32} {K : Cfg} (hK : CFG K I F) (hW : WFK K) (j : Nat) (h8 : 8 ≤ j) (hj : j < 13) : CT l D t yX6_layLow cX6_layLow 6 none rX6_layLow 0 0 [.ref (b 0), .ref (b j)] (WM b t I F) (VP (fun w => ∃ F' : Nat → Nat → Int32, w = WM b t I F' ∧ (∀ q, q ≠ j → F' q = F q) ∧ RA (kn K) (F' j) (lS K) ∧ (kk K = 1 → feasP K (lS K)))) := by
  refine CT.of (by decide +kernel) (by simp [lg_sl, Value.category]) (fun X C hR => ?_)
  refine xlocals (lv' := [(0, .ref (b 0)), (1, .ref (b j))]) rfl ?_
  have fn24 := hW.n24; have fm60 := hW.m60; have fk2 := hW.k2; have fu1 := hW.u1; have fu9 := hW.u9; have fv1 := hW.v1; have fv9 := hW.v9
  refine xiconst (v := nI 0) C dX6_layLow_0 (by decide) ?_
  refine xistore_n (lv' := [(2, .int (nI 0)), (0, .ref (b 0)), (1, .ref (b j))]) C dX6_layLow_1 (by decide) rfl ?_
  have LP2 : ∀ (fu2 : Nat) (i : Nat) (FA : Nat → Nat → Int32) (hi1 : i ≤ kn K) (hXA : (∀ q, q ≠ j → FA q = F q)) (hA : RA i (FA j) (l0 K)), kn K - i < fu2 → XW X 0 0 (WM b t I FA) [(0, .ref (b 0)), (1, .ref (b j)), (2, .int (nI i))] 2 [] := by
    intro fu2
    induction fu2 with
    | zero => intro i FA hi1 hXA hA hm2; exact absurd hm2 (Nat.not_lt_zero _)
    | succ fu2 ih2 =>
      intro i FA hi1 hXA hA hm2
      have hKA : CFG K I FA := hK.of (fun _ _ => rfl) (fun q hq => hXA q (by omega))
      refine xiload_n C 2 rfl dX6_layLow_2 ?_
      refine xaload_n C 0 rfl dX6_layLow_3 ?_
      refine gX6_53K C hKA dX6_layLow_4 ?_
      refine xicmp_geN C 66 dX6_layLow_7 (by decide) (by omega) (by omega) (fun h7 => ?_) (fun h7 => ?_)
      ·
        have ei : i = kn K := by omega
        rw [ei] at hA
        refine xaload_n C 0 rfl dX6_layLow_66 ?_
        refine gX6_90K C hKA dX6_layLow_67 ?_
        refine xiconst (v := nI 1) C dX6_layLow_70 (by decide) ?_
        refine xicmp_neN C 78 dX6_layLow_71 (by decide) (by omega) (by omega) (fun h71 => ?_) (fun h71 => ?_)
        ·
          refine xiconst (v := nI 0) C dX6_layLow_78 (by decide) ?_
          refine xistore_n (lv' := [(2, .int (nI 0)), (0, .ref (b 0)), (1, .ref (b j))]) C dX6_layLow_79 (by decide) rfl ?_
          refine xiload_n C 0 rfl dX6_layLow_80 ?_
          refine xif_eqN C 171 dX6_layLow_81 (by decide) (by omega) (fun h81 => ?_) (fun h81 => ?_)
          ·
            exact xvret C hR dX6_layLow_171 (⟨rfl, FA, rfl, hXA, by unfold lS; rw [if_neg h71]; exact hA, fun q => absurd q h71⟩)
          · exact absurd rfl h81
        ·
          refine xiconst (v := nI 1) C dX6_layLow_74 (by decide) ?_
          refine xgoto C 79 dX6_layLow_75 (by decide) ?_
          refine xistore_n (lv' := [(2, .int (nI 1)), (0, .ref (b 0)), (1, .ref (b j))]) C dX6_layLow_79 (by decide) rfl ?_
          have LP80 : ∀ (fu80 : Nat) (mo : Nat) (f : Nat → Nat) (FC : Nat → Nat → Int32) (hmo : mo = 1 ∨ (mo = 0 ∧ feasP K f)) (hIv : LIv K f) (hC : RA (kn K) (FC j) f) (hXC : (∀ q, q ≠ j → FC q = F q)), mo + sm (fun p => 5 - f p) (kn K) < fu80 → XW X 0 0 (WM b t I FC) [(0, .ref (b 0)), (1, .ref (b j)), (2, .int (nI mo))] 80 [] := by
            intro fu80
            induction fu80 with
            | zero => intro mo f FC hmo hIv hC hXC hm80; exact absurd hm80 (Nat.not_lt_zero _)
            | succ fu80 ih80 =>
              intro mo f FC hmo hIv hC hXC hm80
              have hKC : CFG K I FC := hK.of (fun _ _ => rfl) (fun q hq => hXC q (by omega))
              refine xiload_n C 2 rfl dX6_layLow_80 ?_
              refine xif_eqN C 171 dX6_layLow_81 (by decide) (by omega) (fun h81 => ?_) (fun h81 => ?_)
              ·
                have hfe : feasP K f := by rcases hmo with e | e; omega; exact e.2
                exact xvret C hR dX6_layLow_171 (⟨rfl, FC, rfl, hXC, fun p hp => by rw [lS_fix hW h71 hfe hIv p hp]; exact hC p hp, fun _ => feas_of hW hfe (lS_fix hW h71 hfe hIv)⟩)
              ·
                have hm1 : mo = 1 := by rcases hmo with e | e; exact e; omega
                refine xiconst (v := nI 0) C dX6_layLow_84 (by decide) ?_
                refine xistore_n (lv' := [(2, .int (nI 0)), (0, .ref (b 0)), (1, .ref (b j))]) C dX6_layLow_85 (by decide) rfl ?_
                refine xiconst (v := nI 0) C dX6_layLow_86 (by decide) ?_
                refine xistore_n (lv' := [(3, .int (nI 0)), (2, .int (nI 0)), (0, .ref (b 0)), (1, .ref (b j))]) C dX6_layLow_87 (by decide) rfl ?_
                have LP88 : ∀ (fu88 : Nat) (k : Nat) (mo2 : Nat) (f2 : Nat → Nat) (FD : Nat → Nat → Int32) (hk : k ≤ km K) (hD : (mo2 = 0 ∧ f2 = f ∧ ∀ x, x < k → lnkP K f2 x) ∨ (mo2 = 1 ∧ sm (fun p => 5 - f2 p) (kn K) < sm (fun p => 5 - f p) (kn K))) (hIv2 : LIv K f2) (hD2 : RA (kn K) (FD j) f2) (hXD : (∀ q, q ≠ j → FD q = F q)), km K - k < fu88 → XW X 0 0 (WM b t I FD) [(0, .ref (b 0)), (1, .ref (b j)), (2, .int (nI mo2)), (3, .int (nI k))] 88 [] := by
                  intro fu88
                  induction fu88 with
                  | zero => intro k mo2 f2 FD hk hD hIv2 hD2 hXD hm88; exact absurd hm88 (Nat.not_lt_zero _)
                  | succ fu88 ih88 =>
                    intro k mo2 f2 FD hk hD hIv2 hD2 hXD hm88
                    have hKD : CFG K I FD := hK.of (fun _ _ => rfl) (fun q hq => hXD q (by omega))
                    refine xiload_n C 3 rfl dX6_layLow_88 ?_
                    refine xaload_n C 0 rfl dX6_layLow_89 ?_
                    refine gX6_79K C hKD dX6_layLow_90 ?_
                    refine xicmp_geN C 168 dX6_layLow_93 (by decide) (by omega) (by omega) (fun h93 => ?_) (fun h93 => ?_)
                    ·
                      refine xgoto C 80 dX6_layLow_168 (by decide) ?_
                      refine xsub [0, 1, 2] rfl ?_
                      exact ih80 mo2 f2 FD (by rcases hD with ⟨e1, e2, e3⟩ | ⟨e1, e2⟩; exact Or.inr ⟨e1, fun x hx => e3 x (by omega)⟩; exact Or.inl e1) hIv2 hD2 hXD (by rcases hD with ⟨e1, e2, e3⟩ | ⟨e1, e2⟩; (subst e2; omega); omega)
                    ·
                      refine xaload_n C 0 rfl dX6_layLow_96 ?_
                      refine gX6_25 C dX6_layLow_97 ?_
                      refine xiload_n C 3 rfl dX6_layLow_100 ?_
                      refine ma_la C hKD hW k (by omega) dX6_layLow_101 ?_
                      have fb101 := (hW.la (by omega))
                      refine xistore (lv' := [(4, .int (nI (kla K k))), (0, .ref (b 0)), (1, .ref (b j)), (2, .int (nI mo2)), (3, .int (nI k))]) C dX6_layLow_102 (by decide) rfl ?_
                      refine xaload_n C 1 rfl dX6_layLow_104 ?_
                      refine gX6_28 C dX6_layLow_105 ?_
                      refine xiload_n C 4 rfl dX6_layLow_108 ?_
                      refine ma_lb C hKD hW k (by omega) dX6_layLow_109 ?_
                      have fb109 := (hW.lb (by omega))
                      refine xistore (lv' := [(5, .int (nI (klb K k))), (4, .int (nI (kla K k))), (0, .ref (b 0)), (1, .ref (b j)), (2, .int (nI mo2)), (3, .int (nI k))]) C dX6_layLow_110 (by decide) rfl ?_
                      refine xaload_n C 3 rfl dX6_layLow_112 ?_
                      refine xiload C 1 rfl dX6_layLow_113 ?_
                      refine ma_st C hW j h8 hj hD2 (kla K k) (by omega) dX6_layLow_115 ?_
                      have fb115 := (hD2 (kla K k) (by omega)).2
                      refine xaload_n C 3 rfl dX6_layLow_116 ?_
                      refine xiload C 0 rfl dX6_layLow_117 ?_
                      refine ma_st C hW j h8 hj hD2 (klb K k) (by omega) dX6_layLow_119 ?_
                      have fb119 := (hD2 (klb K k) (by omega)).2
                      refine xiconst (v := nI 1) C dX6_layLow_120 (by decide) ?_
                      refine xisub C dX6_layLow_121 ?_
                      refine xicmp_ge C 137 dX6_layLow_122 (by decide) (fun h122 => ?_) (fun h122 => ?_)
                      ·
                        have h122 := ngm1 (by omega) (by omega) h122
                        refine xaload_n C 3 rfl dX6_layLow_137 ?_
                        refine xiload C 0 rfl dX6_layLow_138 ?_
                        refine ma_st C hW j h8 hj hD2 (klb K k) (by omega) dX6_layLow_140 ?_
                        have fb140 := (hD2 (klb K k) (by omega)).2
                        refine xaload_n C 3 rfl dX6_layLow_141 ?_
                        refine xiload C 1 rfl dX6_layLow_142 ?_
                        refine ma_st C hW j h8 hj hD2 (kla K k) (by omega) dX6_layLow_144 ?_
                        have fb144 := (hD2 (kla K k) (by omega)).2
                        refine xiconst (v := nI 1) C dX6_layLow_145 (by decide) ?_
                        refine xisub C dX6_layLow_146 ?_
                        refine xicmp_ge C 162 dX6_layLow_147 (by decide) (fun h147 => ?_) (fun h147 => ?_)
                        ·
                          have h147 := ngm1 (by omega) (by omega) h147
                          refine xiincN (lv' := [(3, .int (nI (k + 1))), (5, .int (nI (klb K k))), (4, .int (nI (kla K k))), (0, .ref (b 0)), (1, .ref (b j)), (2, .int (nI mo2))]) C 5 rfl dX6_layLow_162 (by decide) rfl ?_
                          refine xgoto C 88 dX6_layLow_165 (by decide) ?_
                          refine xsub [3, 4, 5, 0] rfl ?_
                          exact ih88 (k + 1) mo2 f2 FD (by omega) (by rcases hD with ⟨e1, e2, e3⟩ | ⟨e1, e2⟩; exact Or.inl ⟨e1, e2, lt_s e3 ⟨by omega, by omega⟩⟩; exact Or.inr ⟨e1, e2⟩) hIv2 hD2 hXD (by omega)
                        ·
                          have h147 := gm1 (by omega) (by omega) h147
                          refine xaload_n C 3 rfl dX6_layLow_150 ?_
                          refine xiload C 0 rfl dX6_layLow_151 ?_
                          refine xaload_n C 3 rfl dX6_layLow_153 ?_
                          refine xiload C 1 rfl dX6_layLow_154 ?_
                          refine ma_st C hW j h8 hj hD2 (kla K k) (by omega) dX6_layLow_156 ?_
                          have fb156 := (hD2 (kla K k) (by omega)).2
                          refine xiconst (v := nI 1) C dX6_layLow_157 (by decide) ?_
                          refine xisub C dX6_layLow_158 ?_
                          refine xtopi (y := nI (f2 (kla K k) - 1)) (pk_sub (by omega)) ?_
                          refine ms_st C j h8 hj (klb K k) (by omega) dX6_layLow_159 ?_
                          obtain ⟨f4, ef4⟩ : ∃ z : Nat → Nat, z = va_up f2 (klb K k) (f2 (kla K k) - 1) := ⟨_, rfl⟩
                          obtain ⟨FE4, eFE4⟩ : ∃ z : Nat → Nat → Int32, z = va_up FD j (upd (FD j) (klb K k) (nI (f2 (kla K k) - 1))) := ⟨_, rfl⟩
                          refine xworld (ws' := WM b t I FE4) (by rw [eFE4]) ?_
                          have hI4 : LIv K f4 := by rw [ef4]; exact hIv2.up hW (by omega) (by omega) (adj_ba h93) (lk_ne hW h93).symm (by omega)
                          have hR4 : RA (kn K) (FE4 j) f4 := by rw [eFE4, va_up_self, ef4]; exact hD2.up (by omega)
                          have hX4 : (∀ q, q ≠ j → FE4 q = F q) := fun q hq => by rw [eFE4, va_up_ne _ _ hq]; exact hXD q hq
                          have hK4 : CFG K I FE4 := hK.of (fun _ _ => rfl) (fun q hq => hX4 q (by omega))
                          have hs4 : sm (fun p => 5 - f4 p) (kn K) < sm (fun p => 5 - f2 p) (kn K) := by rw [ef4]; exact sm_gt (by omega) (by omega) (by have := (hD2 (kla K k) (by omega)).2; omega)
                          refine xiconst (v := nI 1) C dX6_layLow_160 (by decide) ?_
                          refine xistore_n (lv' := [(2, .int (nI 1)), (5, .int (nI (klb K k))), (4, .int (nI (kla K k))), (0, .ref (b 0)), (1, .ref (b j)), (3, .int (nI k))]) C dX6_layLow_161 (by decide) rfl ?_
                          refine xiincN (lv' := [(3, .int (nI (k + 1))), (2, .int (nI 1)), (5, .int (nI (klb K k))), (4, .int (nI (kla K k))), (0, .ref (b 0)), (1, .ref (b j))]) C 5 rfl dX6_layLow_162 (by decide) rfl ?_
                          refine xgoto C 88 dX6_layLow_165 (by decide) ?_
                          refine xsub [4, 5, 1, 0] rfl ?_
                          exact ih88 (k + 1) 1 f4 FE4 (by omega) (Or.inr ⟨rfl, by rcases hD with ⟨e1, e2, e3⟩ | ⟨e1, e2⟩; (subst e2; omega); omega⟩) hI4 hR4 hX4 (by omega)
                      ·
                        have h122 := gm1 (by omega) (by omega) h122
                        refine xaload_n C 3 rfl dX6_layLow_125 ?_
                        refine xiload C 1 rfl dX6_layLow_126 ?_
                        refine xaload_n C 3 rfl dX6_layLow_128 ?_
                        refine xiload C 0 rfl dX6_layLow_129 ?_
                        refine ma_st C hW j h8 hj hD2 (klb K k) (by omega) dX6_layLow_131 ?_
                        have fb131 := (hD2 (klb K k) (by omega)).2
                        refine xiconst (v := nI 1) C dX6_layLow_132 (by decide) ?_
                        refine xisub C dX6_layLow_133 ?_
                        refine xtopi (y := nI (f2 (klb K k) - 1)) (pk_sub (by omega)) ?_
                        refine ms_st C j h8 hj (kla K k) (by omega) dX6_layLow_134 ?_
                        obtain ⟨f3, ef3⟩ : ∃ z : Nat → Nat, z = va_up f2 (kla K k) (f2 (klb K k) - 1) := ⟨_, rfl⟩
                        obtain ⟨FE3, eFE3⟩ : ∃ z : Nat → Nat → Int32, z = va_up FD j (upd (FD j) (kla K k) (nI (f2 (klb K k) - 1))) := ⟨_, rfl⟩
                        refine xworld (ws' := WM b t I FE3) (by rw [eFE3]) ?_
                        have hI3 : LIv K f3 := by rw [ef3]; exact hIv2.up hW (by omega) (by omega) (adj_ab h93) (lk_ne hW h93) (by omega)
                        have hR3 : RA (kn K) (FE3 j) f3 := by rw [eFE3, va_up_self, ef3]; exact hD2.up (by omega)
                        have hX3 : (∀ q, q ≠ j → FE3 q = F q) := fun q hq => by rw [eFE3, va_up_ne _ _ hq]; exact hXD q hq
                        have hK3 : CFG K I FE3 := hK.of (fun _ _ => rfl) (fun q hq => hX3 q (by omega))
                        have hs3 : sm (fun p => 5 - f3 p) (kn K) < sm (fun p => 5 - f2 p) (kn K) := by rw [ef3]; exact sm_gt (by omega) (by omega) (by have := (hD2 (klb K k) (by omega)).2; omega)
                        refine xiconst (v := nI 1) C dX6_layLow_135 (by decide) ?_
                        refine xistore_n (lv' := [(2, .int (nI 1)), (5, .int (nI (klb K k))), (4, .int (nI (kla K k))), (0, .ref (b 0)), (1, .ref (b j)), (3, .int (nI k))]) C dX6_layLow_136 (by decide) rfl ?_
                        refine xaload_n C 4 rfl dX6_layLow_137 ?_
                        refine xiload C 1 rfl dX6_layLow_138 ?_
                        refine ma_st C hW j h8 hj hR3 (klb K k) (by omega) dX6_layLow_140 ?_
                        have fb140 := (hR3 (klb K k) (by omega)).2
                        refine xaload_n C 4 rfl dX6_layLow_141 ?_
                        refine xiload C 2 rfl dX6_layLow_142 ?_
                        refine ma_st C hW j h8 hj hR3 (kla K k) (by omega) dX6_layLow_144 ?_
                        have fb144 := (hR3 (kla K k) (by omega)).2
                        refine xiconst (v := nI 1) C dX6_layLow_145 (by decide) ?_
                        refine xisub C dX6_layLow_146 ?_
                        refine xicmp_ge C 162 dX6_layLow_147 (by decide) (fun h147 => ?_) (fun h147 => ?_)
                        ·
                          have h147 := ngm1 (by omega) (by omega) h147
                          refine xiincN (lv' := [(3, .int (nI (k + 1))), (2, .int (nI 1)), (5, .int (nI (klb K k))), (4, .int (nI (kla K k))), (0, .ref (b 0)), (1, .ref (b j))]) C 5 rfl dX6_layLow_162 (by decide) rfl ?_
                          refine xgoto C 88 dX6_layLow_165 (by decide) ?_
                          refine xsub [4, 5, 1, 0] rfl ?_
                          exact ih88 (k + 1) 1 f3 FE3 (by omega) (Or.inr ⟨rfl, by rcases hD with ⟨e1, e2, e3⟩ | ⟨e1, e2⟩; (subst e2; omega); omega⟩) hI3 hR3 hX3 (by omega)
                        ·
                          have h147 := gm1 (by omega) (by omega) h147
                          refine xaload_n C 4 rfl dX6_layLow_150 ?_
                          refine xiload C 1 rfl dX6_layLow_151 ?_
                          refine xaload_n C 4 rfl dX6_layLow_153 ?_
                          refine xiload C 2 rfl dX6_layLow_154 ?_
                          refine ma_st C hW j h8 hj hR3 (kla K k) (by omega) dX6_layLow_156 ?_
                          have fb156 := (hR3 (kla K k) (by omega)).2
                          refine xiconst (v := nI 1) C dX6_layLow_157 (by decide) ?_
                          refine xisub C dX6_layLow_158 ?_
                          refine xtopi (y := nI (f3 (kla K k) - 1)) (pk_sub (by omega)) ?_
                          refine ms_st C j h8 hj (klb K k) (by omega) dX6_layLow_159 ?_
                          obtain ⟨f4, ef4⟩ : ∃ z : Nat → Nat, z = va_up f3 (klb K k) (f3 (kla K k) - 1) := ⟨_, rfl⟩
                          obtain ⟨FE4, eFE4⟩ : ∃ z : Nat → Nat → Int32, z = va_up FE3 j (upd (FE3 j) (klb K k) (nI (f3 (kla K k) - 1))) := ⟨_, rfl⟩
                          refine xworld (ws' := WM b t I FE4) (by rw [eFE4]) ?_
                          have hI4 : LIv K f4 := by rw [ef4]; exact hI3.up hW (by omega) (by omega) (adj_ba h93) (lk_ne hW h93).symm (by omega)
                          have hR4 : RA (kn K) (FE4 j) f4 := by rw [eFE4, va_up_self, ef4]; exact hR3.up (by omega)
                          have hX4 : (∀ q, q ≠ j → FE4 q = F q) := fun q hq => by rw [eFE4, va_up_ne _ _ hq]; exact hX3 q hq
                          have hK4 : CFG K I FE4 := hK.of (fun _ _ => rfl) (fun q hq => hX4 q (by omega))
                          have hs4 : sm (fun p => 5 - f4 p) (kn K) < sm (fun p => 5 - f3 p) (kn K) := by rw [ef4]; exact sm_gt (by omega) (by omega) (by have := (hR3 (kla K k) (by omega)).2; omega)
                          refine xiconst (v := nI 1) C dX6_layLow_160 (by decide) ?_
                          refine xistore_n (lv' := [(2, .int (nI 1)), (5, .int (nI (klb K k))), (4, .int (nI (kla K k))), (0, .ref (b 0)), (1, .ref (b j)), (3, .int (nI k))]) C dX6_layLow_161 (by decide) rfl ?_
                          refine xiincN (lv' := [(3, .int (nI (k + 1))), (2, .int (nI 1)), (5, .int (nI (klb K k))), (4, .int (nI (kla K k))), (0, .ref (b 0)), (1, .ref (b j))]) C 5 rfl dX6_layLow_162 (by decide) rfl ?_
                          refine xgoto C 88 dX6_layLow_165 (by decide) ?_
                          refine xsub [4, 5, 1, 0] rfl ?_
                          exact ih88 (k + 1) 1 f4 FE4 (by omega) (Or.inr ⟨rfl, by rcases hD with ⟨e1, e2, e3⟩ | ⟨e1, e2⟩; (subst e2; omega); omega⟩) hI4 hR4 hX4 (by omega)
                refine xsub [2, 3, 1, 0] rfl ?_
                exact LP88 _ 0 0 f FC (Nat.zero_le _) (Or.inl ⟨rfl, rfl, fun x h => absurd h (Nat.not_lt_zero _)⟩) hIv hC hXC (Nat.lt_succ_self _)
          refine xsub [1, 2, 0] rfl ?_
          exact LP80 _ 1 (l0 K) FA (Or.inl rfl) (LIv.start hW) hA hXA (Nat.lt_succ_self _)
      ·
        refine xaload_n C 1 rfl dX6_layLow_10 ?_
        refine xiload_n C 2 rfl dX6_layLow_11 ?_
        refine xaload_n C 0 rfl dX6_layLow_12 ?_
        refine gX6_90K C hKA dX6_layLow_13 ?_
        refine xif_neN C 23 dX6_layLow_16 (by decide) (by omega) (fun h16 => ?_) (fun h16 => ?_)
        ·
          refine xaload_n C 0 rfl dX6_layLow_23 ?_
          refine gX6_90K C hKA dX6_layLow_24 ?_
          refine xiconst (v := nI 2) C dX6_layLow_27 (by decide) ?_
          refine xicmp_neN C 40 dX6_layLow_28 (by decide) (by omega) (by omega) (fun h28 => ?_) (fun h28 => ?_)
          ·
            refine xaload_n C 0 rfl dX6_layLow_40 ?_
            refine gX6_16 C dX6_layLow_41 ?_
            refine xiload_n C 2 rfl dX6_layLow_44 ?_
            refine ma_hd C hKA hW i (by omega) dX6_layLow_45 ?_
            have fb45 := (hW.hd6 (by omega))
            refine xif_lt C 58 dX6_layLow_46 (by decide) (fun h46 => ?_) (fun h46 => ?_)
            ·
              refine xiconst (v := nI 0) C dX6_layLow_58 (by decide) ?_
              refine xtopi (y := nI (l0 K i)) (by rw [l0_h0 (by omega) (by omega) h46]) ?_
              refine ms_st C j h8 hj i (by omega) dX6_layLow_59 ?_
              obtain ⟨FB, eFB⟩ : ∃ z : Nat → Nat → Int32, z = va_up FA j (upd (FA j) i (nI (l0 K i))) := ⟨_, rfl⟩
              refine xworld (ws' := WM b t I FB) (by rw [eFB]) ?_
              refine xiincN (lv' := [(2, .int (nI (i + 1))), (0, .ref (b 0)), (1, .ref (b j))]) C 2 rfl dX6_layLow_60 (by decide) rfl ?_
              refine xgoto C 2 dX6_layLow_63 (by decide) ?_
              refine xsub [1, 2, 0] rfl ?_
              exact ih2 (i + 1) FB (by omega) (fun q hq => by rw [eFB, va_up_ne _ _ hq]; exact hXA q hq) (by rw [eFB, va_up_self]; exact hA.snoc (l0_le hW (by omega))) (by omega)
            ·
              refine xaload_n C 0 rfl dX6_layLow_49 ?_
              refine gX6_16 C dX6_layLow_50 ?_
              refine xiload_n C 2 rfl dX6_layLow_53 ?_
              refine ma_hd C hKA hW i (by omega) dX6_layLow_54 ?_
              have fb54 := (hW.hd6 (by omega))
              refine xgoto C 59 dX6_layLow_55 (by decide) ?_
              refine xtopi (y := nI (l0 K i)) (l0_h1 (by omega) (by omega) h46) ?_
              refine ms_st C j h8 hj i (by omega) dX6_layLow_59 ?_
              obtain ⟨FB, eFB⟩ : ∃ z : Nat → Nat → Int32, z = va_up FA j (upd (FA j) i (nI (l0 K i))) := ⟨_, rfl⟩
              refine xworld (ws' := WM b t I FB) (by rw [eFB]) ?_
              refine xiincN (lv' := [(2, .int (nI (i + 1))), (0, .ref (b 0)), (1, .ref (b j))]) C 2 rfl dX6_layLow_60 (by decide) rfl ?_
              refine xgoto C 2 dX6_layLow_63 (by decide) ?_
              refine xsub [1, 2, 0] rfl ?_
              exact ih2 (i + 1) FB (by omega) (fun q hq => by rw [eFB, va_up_ne _ _ hq]; exact hXA q hq) (by rw [eFB, va_up_self]; exact hA.snoc (l0_le hW (by omega))) (by omega)
          ·
            refine xaload_n C 0 rfl dX6_layLow_31 ?_
            refine gX6_13 C dX6_layLow_32 ?_
            refine xiload_n C 2 rfl dX6_layLow_35 ?_
            refine ma_si C hKA hW i (by omega) dX6_layLow_36 ?_
            have fb36 := (hW.si1 (by omega))
            refine xgoto C 59 dX6_layLow_37 (by decide) ?_
            refine xtopi (y := nI (l0 K i)) (by rw [l0_k2 h28 (by omega)]) ?_
            refine ms_st C j h8 hj i (by omega) dX6_layLow_59 ?_
            obtain ⟨FB, eFB⟩ : ∃ z : Nat → Nat → Int32, z = va_up FA j (upd (FA j) i (nI (l0 K i))) := ⟨_, rfl⟩
            refine xworld (ws' := WM b t I FB) (by rw [eFB]) ?_
            refine xiincN (lv' := [(2, .int (nI (i + 1))), (0, .ref (b 0)), (1, .ref (b j))]) C 2 rfl dX6_layLow_60 (by decide) rfl ?_
            refine xgoto C 2 dX6_layLow_63 (by decide) ?_
            refine xsub [1, 2, 0] rfl ?_
            exact ih2 (i + 1) FB (by omega) (fun q hq => by rw [eFB, va_up_ne _ _ hq]; exact hXA q hq) (by rw [eFB, va_up_self]; exact hA.snoc (l0_le hW (by omega))) (by omega)
        ·
          refine xiconst (v := nI 0) C dX6_layLow_19 (by decide) ?_
          refine xgoto C 59 dX6_layLow_20 (by decide) ?_
          refine xtopi (y := nI (l0 K i)) (by rw [l0_k0 h16]) ?_
          refine ms_st C j h8 hj i (by omega) dX6_layLow_59 ?_
          obtain ⟨FB, eFB⟩ : ∃ z : Nat → Nat → Int32, z = va_up FA j (upd (FA j) i (nI (l0 K i))) := ⟨_, rfl⟩
          refine xworld (ws' := WM b t I FB) (by rw [eFB]) ?_
          refine xiincN (lv' := [(2, .int (nI (i + 1))), (0, .ref (b 0)), (1, .ref (b j))]) C 2 rfl dX6_layLow_60 (by decide) rfl ?_
          refine xgoto C 2 dX6_layLow_63 (by decide) ?_
          refine xsub [1, 2, 0] rfl ?_
          exact ih2 (i + 1) FB (by omega) (fun q hq => by rw [eFB, va_up_ne _ _ hq]; exact hXA q hq) (by rw [eFB, va_up_self]; exact hA.snoc (l0_le hW (by omega))) (by omega)
  refine xsub [1, 2, 0] rfl ?_
  exact LP2 _ 0 F (Nat.zero_le _) (fun _ _ => rfl) (fun p h => absurd h (Nat.not_lt_zero _)) (Nat.lt_succ_self _)
theorem dX6_isGood_0 : decode cX6_isGood 0 = .ok (.aload_n 0, 1) := by decide +kernel
theorem dX6_isGood_1 : decode cX6_isGood 1 = .ok (.getfield 53, 3) := by decide +kernel
theorem dX6_isGood_4 : decode cX6_isGood 4 = .ok (.ifCond .le 7, 3) := by decide +kernel
theorem dX6_isGood_7 : decode cX6_isGood 7 = .ok (.iconst 1, 1) := by decide +kernel
theorem dX6_isGood_8 : decode cX6_isGood 8 = .ok (.goto 4, 3) := by decide +kernel
theorem dX6_isGood_11 : decode cX6_isGood 11 = .ok (.iconst 0, 1) := by decide +kernel
theorem dX6_isGood_12 : decode cX6_isGood 12 = .ok (.istore_n 1, 1) := by decide +kernel
theorem dX6_isGood_13 : decode cX6_isGood 13 = .ok (.aload_n 0, 1) := by decide +kernel
theorem dX6_isGood_14 : decode cX6_isGood 14 = .ok (.getfield 90, 3) := by decide +kernel
theorem dX6_isGood_17 : decode cX6_isGood 17 = .ok (.ifCond .ne 24, 3) := by decide +kernel
theorem dX6_isGood_20 : decode cX6_isGood 20 = .ok (.iload_n 1, 1) := by decide +kernel
theorem dX6_isGood_21 : decode cX6_isGood 21 = .ok (.ifCond .eq 18, 3) := by decide +kernel
theorem dX6_isGood_24 : decode cX6_isGood 24 = .ok (.aload_n 0, 1) := by decide +kernel
theorem dX6_isGood_25 : decode cX6_isGood 25 = .ok (.getfield 31, 3) := by decide +kernel
theorem dX6_isGood_28 : decode cX6_isGood 28 = .ok (.aload_n 0, 1) := by decide +kernel
theorem dX6_isGood_29 : decode cX6_isGood 29 = .ok (.getfield 35, 3) := by decide +kernel
theorem dX6_isGood_32 : decode cX6_isGood 32 = .ok (.if_icmp .lt 7, 3) := by decide +kernel
theorem dX6_isGood_35 : decode cX6_isGood 35 = .ok (.iconst 1, 1) := by decide +kernel
theorem dX6_isGood_36 : decode cX6_isGood 36 = .ok (.goto 4, 3) := by decide +kernel
theorem dX6_isGood_39 : decode cX6_isGood 39 = .ok (.iconst 0, 1) := by decide +kernel
theorem dX6_isGood_40 : decode cX6_isGood 40 = .ok (.ireturn, 1) := by decide +kernel
theorem dX6_isGood_41 : decode cX6_isGood 41 = .ok (.aload_n 0, 1) := by decide +kernel
theorem dX6_isGood_42 : decode cX6_isGood 42 = .ok (.getfield 90, 3) := by decide +kernel
theorem dX6_isGood_45 : decode cX6_isGood 45 = .ok (.iconst 2, 1) := by decide +kernel
theorem dX6_isGood_46 : decode cX6_isGood 46 = .ok (.if_icmp .ne 56, 3) := by decide +kernel
theorem dX6_isGood_49 : decode cX6_isGood 49 = .ok (.iconst 0, 1) := by decide +kernel
theorem dX6_isGood_50 : decode cX6_isGood 50 = .ok (.istore_n 2, 1) := by decide +kernel
theorem dX6_isGood_51 : decode cX6_isGood 51 = .ok (.iload_n 2, 1) := by decide +kernel
theorem dX6_isGood_52 : decode cX6_isGood 52 = .ok (.aload_n 0, 1) := by decide +kernel
theorem dX6_isGood_53 : decode cX6_isGood 53 = .ok (.getfield 79, 3) := by decide +kernel
theorem dX6_isGood_56 : decode cX6_isGood 56 = .ok (.if_icmp .ge 44, 3) := by decide +kernel
theorem dX6_isGood_59 : decode cX6_isGood 59 = .ok (.iload_n 1, 1) := by decide +kernel
theorem dX6_isGood_60 : decode cX6_isGood 60 = .ok (.ifCond .eq 32, 3) := by decide +kernel
theorem dX6_isGood_63 : decode cX6_isGood 63 = .ok (.aload_n 0, 1) := by decide +kernel
theorem dX6_isGood_64 : decode cX6_isGood 64 = .ok (.getfield 13, 3) := by decide +kernel
theorem dX6_isGood_67 : decode cX6_isGood 67 = .ok (.aload_n 0, 1) := by decide +kernel
theorem dX6_isGood_68 : decode cX6_isGood 68 = .ok (.getfield 25, 3) := by decide +kernel
theorem dX6_isGood_71 : decode cX6_isGood 71 = .ok (.iload_n 2, 1) := by decide +kernel
theorem dX6_isGood_72 : decode cX6_isGood 72 = .ok (.iaload, 1) := by decide +kernel
theorem dX6_isGood_73 : decode cX6_isGood 73 = .ok (.iaload, 1) := by decide +kernel
theorem dX6_isGood_74 : decode cX6_isGood 74 = .ok (.aload_n 0, 1) := by decide +kernel
theorem dX6_isGood_75 : decode cX6_isGood 75 = .ok (.getfield 13, 3) := by decide +kernel
theorem dX6_isGood_78 : decode cX6_isGood 78 = .ok (.aload_n 0, 1) := by decide +kernel
theorem dX6_isGood_79 : decode cX6_isGood 79 = .ok (.getfield 28, 3) := by decide +kernel
theorem dX6_isGood_82 : decode cX6_isGood 82 = .ok (.iload_n 2, 1) := by decide +kernel
theorem dX6_isGood_83 : decode cX6_isGood 83 = .ok (.iaload, 1) := by decide +kernel
theorem dX6_isGood_84 : decode cX6_isGood 84 = .ok (.iaload, 1) := by decide +kernel
theorem dX6_isGood_85 : decode cX6_isGood 85 = .ok (.if_icmp .eq 7, 3) := by decide +kernel
theorem dX6_isGood_88 : decode cX6_isGood 88 = .ok (.iconst 1, 1) := by decide +kernel
theorem dX6_isGood_89 : decode cX6_isGood 89 = .ok (.goto 4, 3) := by decide +kernel
theorem dX6_isGood_92 : decode cX6_isGood 92 = .ok (.iconst 0, 1) := by decide +kernel
theorem dX6_isGood_93 : decode cX6_isGood 93 = .ok (.istore_n 1, 1) := by decide +kernel
theorem dX6_isGood_94 : decode cX6_isGood 94 = .ok (.iinc 2 1, 3) := by decide +kernel
theorem dX6_isGood_97 : decode cX6_isGood 97 = .ok (.goto (-46), 3) := by decide +kernel
theorem dX6_isGood_100 : decode cX6_isGood 100 = .ok (.iload_n 1, 1) := by decide +kernel
theorem dX6_isGood_101 : decode cX6_isGood 101 = .ok (.ireturn, 1) := by decide +kernel
theorem dX6_isGood_102 : decode cX6_isGood 102 = .ok (.aload_n 0, 1) := by decide +kernel
theorem dX6_isGood_103 : decode cX6_isGood 103 = .ok (.aload_n 0, 1) := by decide +kernel
theorem dX6_isGood_104 : decode cX6_isGood 104 = .ok (.getfield 50, 3) := by decide +kernel
theorem dX6_isGood_107 : decode cX6_isGood 107 = .ok (.invokevirtual 93, 3) := by decide +kernel
theorem dX6_isGood_110 : decode cX6_isGood 110 = .ok (.iconst 0, 1) := by decide +kernel
theorem dX6_isGood_111 : decode cX6_isGood 111 = .ok (.istore_n 2, 1) := by decide +kernel
theorem dX6_isGood_112 : decode cX6_isGood 112 = .ok (.iload_n 2, 1) := by decide +kernel
theorem dX6_isGood_113 : decode cX6_isGood 113 = .ok (.aload_n 0, 1) := by decide +kernel
theorem dX6_isGood_114 : decode cX6_isGood 114 = .ok (.getfield 53, 3) := by decide +kernel
theorem dX6_isGood_117 : decode cX6_isGood 117 = .ok (.if_icmp .ge 43, 3) := by decide +kernel
theorem dX6_isGood_120 : decode cX6_isGood 120 = .ok (.iload_n 1, 1) := by decide +kernel
theorem dX6_isGood_121 : decode cX6_isGood 121 = .ok (.ifCond .eq 31, 3) := by decide +kernel
theorem dX6_isGood_124 : decode cX6_isGood 124 = .ok (.aload_n 0, 1) := by decide +kernel
theorem dX6_isGood_125 : decode cX6_isGood 125 = .ok (.getfield 16, 3) := by decide +kernel
theorem dX6_isGood_128 : decode cX6_isGood 128 = .ok (.iload_n 2, 1) := by decide +kernel
theorem dX6_isGood_129 : decode cX6_isGood 129 = .ok (.iaload, 1) := by decide +kernel
theorem dX6_isGood_130 : decode cX6_isGood 130 = .ok (.ifCond .lt 18, 3) := by decide +kernel
theorem dX6_isGood_133 : decode cX6_isGood 133 = .ok (.aload_n 0, 1) := by decide +kernel
theorem dX6_isGood_134 : decode cX6_isGood 134 = .ok (.getfield 50, 3) := by decide +kernel
theorem dX6_isGood_137 : decode cX6_isGood 137 = .ok (.iload_n 2, 1) := by decide +kernel
theorem dX6_isGood_138 : decode cX6_isGood 138 = .ok (.iaload, 1) := by decide +kernel
theorem dX6_isGood_139 : decode cX6_isGood 139 = .ok (.aload_n 0, 1) := by decide +kernel
theorem dX6_isGood_140 : decode cX6_isGood 140 = .ok (.getfield 16, 3) := by decide +kernel
theorem dX6_isGood_143 : decode cX6_isGood 143 = .ok (.iload_n 2, 1) := by decide +kernel
theorem dX6_isGood_144 : decode cX6_isGood 144 = .ok (.iaload, 1) := by decide +kernel
theorem dX6_isGood_145 : decode cX6_isGood 145 = .ok (.if_icmp .ne 7, 3) := by decide +kernel
theorem dX6_isGood_148 : decode cX6_isGood 148 = .ok (.iconst 1, 1) := by decide +kernel
theorem dX6_isGood_149 : decode cX6_isGood 149 = .ok (.goto 4, 3) := by decide +kernel
theorem dX6_isGood_152 : decode cX6_isGood 152 = .ok (.iconst 0, 1) := by decide +kernel
theorem dX6_isGood_153 : decode cX6_isGood 153 = .ok (.istore_n 1, 1) := by decide +kernel
theorem dX6_isGood_154 : decode cX6_isGood 154 = .ok (.iinc 2 1, 3) := by decide +kernel
theorem dX6_isGood_157 : decode cX6_isGood 157 = .ok (.goto (-45), 3) := by decide +kernel
theorem dX6_isGood_160 : decode cX6_isGood 160 = .ok (.iload_n 1, 1) := by decide +kernel
theorem dX6_isGood_161 : decode cX6_isGood 161 = .ok (.ireturn, 1) := by decide +kernel
def rX6_isGood : Room := { frames := 1, cells := 0, slots := 0, locals := 25 }
theorem yk_X6_isGood : YK yX6_isGood cX6_isGood 3 (some .boolean) 0 := ⟨xim_X6_isGood, xse_X6_isGood, xin_X6, xco_X6_isGood, by decide +kernel⟩
set_option maxRecDepth 4000 in
theorem c_X6_isGood {l : Launch} {D : va_G} {t : Nat → ClassId} {b : Nat → Nat} {I : Nat → Int32} {F : Nat → Nat → Int32} {K : Cfg} (hK : CFG K I F) (hW : WFK K)  : CT l D t yX6_isGood cX6_isGood 3 (some .boolean) rX6_isGood 0 0 [.ref (b 0)] (WM b t I F) (EP (fun v w => v = .int (nI (bn (GoodP K))) ∧ ∃ F' : Nat → Nat → Int32, w = WM b t I F' ∧ ∀ q, q ≠ 11 → F' q = F q)) := by
  refine CT.of (by decide +kernel) (by simp [lg_sl, Value.category]) (fun X C hR => ?_)
  refine xlocals (lv' := [(0, .ref (b 0))]) rfl ?_
  have fn24 := hW.n24; have fm60 := hW.m60; have fk2 := hW.k2; have fu1 := hW.u1; have fu9 := hW.u9; have fv1 := hW.v1; have fv9 := hW.v9
  refine xaload_n C 0 rfl dX6_isGood_0 ?_
  refine gX6_53K C hK dX6_isGood_1 ?_
  refine xif_leN C 11 dX6_isGood_4 (by decide) (by omega) (fun h4 => ?_) (fun h4 => ?_)
  ·
    refine xiconst (v := nI 0) C dX6_isGood_11 (by decide) ?_
    refine xistore_n (lv' := [(1, .int (nI 0)), (0, .ref (b 0))]) C dX6_isGood_12 (by decide) rfl ?_
    refine xlocals (lv' := [(1, .int (nI (bn (0 < kn K)))), (0, .ref (b 0))]) (by rw [bn_f (P := 0 < kn K) (by omega)]) ?_
    refine xaload_n C 1 rfl dX6_isGood_13 ?_
    refine gX6_90K C hK dX6_isGood_14 ?_
    refine xif_neN C 41 dX6_isGood_17 (by decide) (by omega) (fun h17 => ?_) (fun h17 => ?_)
    ·
      refine xaload_n C 1 rfl dX6_isGood_41 ?_
      refine gX6_90K C hK dX6_isGood_42 ?_
      refine xiconst (v := nI 2) C dX6_isGood_45 (by decide) ?_
      refine xicmp_neN C 102 dX6_isGood_46 (by decide) (by omega) (by omega) (fun h46 => ?_) (fun h46 => ?_)
      ·
        refine xaload_n C 1 rfl dX6_isGood_102 ?_
        refine xaload_n C 1 rfl dX6_isGood_103 ?_
        refine gX6_50 C dX6_isGood_104 ?_
        refine xcVV C (c_X6_layHigh hK hW 11 (by decide) (by decide)) yk_X6_layHigh 0 rfl rfl xml_X6_93 ⟨⟨Nat.le_of_ble_eq_true rfl, Nat.le_of_ble_eq_true rfl⟩, ⟨rfl, rfl⟩, ⟨Nat.zero_le _, Nat.zero_le _⟩⟩ rfl (Nat.le_of_ble_eq_true rfl) dX6_isGood_107 (fun wE hE => ?_)
        obtain ⟨FA, rfl, hXA, hHA, hfe⟩ := hE
        have hKA : CFG K I FA := hK.of (fun _ _ => rfl) (fun q hq => hXA q (by omega))
        refine xiconst (v := nI 0) C dX6_isGood_110 (by decide) ?_
        refine xistore_n (lv' := [(2, .int (nI 0)), (1, .int (nI (bn (0 < kn K)))), (0, .ref (b 0))]) C dX6_isGood_111 (by decide) rfl ?_
        refine xlocals (lv' := [(2, .int (nI 0)), (1, .int (nI (bn (0 < kn K ∧ ∀ x, x < 0 → khd K x = 0 ∨ hS K x + 1 = khd K x)))), (0, .ref (b 0))]) (by rw [bn_iff (show (0 < kn K ∧ ∀ x, x < 0 → khd K x = 0 ∨ hS K x + 1 = khd K x) ↔ 0 < kn K from ⟨fun q => q.1, fun q => ⟨q, fun x h => absurd h (Nat.not_lt_zero _)⟩⟩)]) ?_
        have LP112 : ∀ (fu112 : Nat) (i : Nat) (hi : i ≤ kn K), kn K - i < fu112 → XW X 0 0 (WM b t I FA) [(0, .ref (b 0)), (1, .int (nI (bn (0 < kn K ∧ ∀ x, x < i → khd K x = 0 ∨ hS K x + 1 = khd K x)))), (2, .int (nI i))] 112 [] := by
          intro fu112
          induction fu112 with
          | zero => intro i hi hm112; exact absurd hm112 (Nat.not_lt_zero _)
          | succ fu112 ih112 =>
            intro i hi hm112
            refine xiload_n C 2 rfl dX6_isGood_112 ?_
            refine xaload_n C 0 rfl dX6_isGood_113 ?_
            refine gX6_53K C hKA dX6_isGood_114 ?_
            refine xicmp_geN C 160 dX6_isGood_117 (by decide) (by omega) (by omega) (fun h117 => ?_) (fun h117 => ?_)
            ·
              refine xiload_n C 1 rfl dX6_isGood_160 ?_
              exact xret C hR (nar_bn _) dX6_isGood_161 (⟨_, rfl, by rw [bn_iff (good1 hW (show kk K = 1 by omega) (show i = kn K by omega) hfe)], FA, rfl, hXA⟩)
            ·
              refine xiload_n C 1 rfl dX6_isGood_120 ?_
              refine xif_eqN C 152 dX6_isGood_121 (by decide) (bn_lt _) (fun h121 => ?_) (fun h121 => ?_)
              ·
                refine xiconst (v := nI 0) C dX6_isGood_152 (by decide) ?_
                refine xtopi (y := nI (bn (0 < kn K ∧ ∀ x, x < (i + 1) → khd K x = 0 ∨ hS K x + 1 = khd K x))) (by rw [bn_f (fun q => bn_0 h121 ⟨q.1, fun x hx => q.2 x (by omega)⟩)]) ?_
                refine xistore_n (lv' := [(1, .int (nI (bn (0 < kn K ∧ ∀ x, x < (i + 1) → khd K x = 0 ∨ hS K x + 1 = khd K x)))), (0, .ref (b 0)), (2, .int (nI i))]) C dX6_isGood_153 (by decide) rfl ?_
                refine xiincN (lv' := [(2, .int (nI (i + 1))), (1, .int (nI (bn (0 < kn K ∧ ∀ x, x < (i + 1) → khd K x = 0 ∨ hS K x + 1 = khd K x)))), (0, .ref (b 0))]) C 2 rfl dX6_isGood_154 (by decide) rfl ?_
                refine xgoto C 112 dX6_isGood_157 (by decide) ?_
                refine xsub [2, 1, 0] rfl ?_
                exact ih112 (i + 1) (by omega) (by omega)
              ·
                refine xaload_n C 0 rfl dX6_isGood_124 ?_
                refine gX6_16 C dX6_isGood_125 ?_
                refine xiload_n C 2 rfl dX6_isGood_128 ?_
                refine ma_hd C hKA hW i (by omega) dX6_isGood_129 ?_
                have fb129 := (hW.hd6 (by omega))
                refine xif_lt C 148 dX6_isGood_130 (by decide) (fun h130 => ?_) (fun h130 => ?_)
                ·
                  refine xiconst (v := nI 1) C dX6_isGood_148 (by decide) ?_
                  refine xgoto C 153 dX6_isGood_149 (by decide) ?_
                  refine xtopi (y := nI (bn (0 < kn K ∧ ∀ x, x < (i + 1) → khd K x = 0 ∨ hS K x + 1 = khd K x))) (by rw [bn_t ⟨(bn_1 h121).1, lt_s (bn_1 h121).2 (Or.inl (hdl (by omega) h130))⟩]) ?_
                  refine xistore_n (lv' := [(1, .int (nI (bn (0 < kn K ∧ ∀ x, x < (i + 1) → khd K x = 0 ∨ hS K x + 1 = khd K x)))), (0, .ref (b 0)), (2, .int (nI i))]) C dX6_isGood_153 (by decide) rfl ?_
                  refine xiincN (lv' := [(2, .int (nI (i + 1))), (1, .int (nI (bn (0 < kn K ∧ ∀ x, x < (i + 1) → khd K x = 0 ∨ hS K x + 1 = khd K x)))), (0, .ref (b 0))]) C 2 rfl dX6_isGood_154 (by decide) rfl ?_
                  refine xgoto C 112 dX6_isGood_157 (by decide) ?_
                  refine xsub [2, 1, 0] rfl ?_
                  exact ih112 (i + 1) (by omega) (by omega)
                ·
                  refine xaload_n C 0 rfl dX6_isGood_133 ?_
                  refine gX6_50 C dX6_isGood_134 ?_
                  refine xiload_n C 2 rfl dX6_isGood_137 ?_
                  refine ma_st C hW 11 (by decide) (by decide) hHA i (by omega) dX6_isGood_138 ?_
                  have fb138 := (hHA i (by omega)).2
                  refine xaload_n C 0 rfl dX6_isGood_139 ?_
                  refine gX6_16 C dX6_isGood_140 ?_
                  refine xiload_n C 2 rfl dX6_isGood_143 ?_
                  refine ma_hd C hKA hW i (by omega) dX6_isGood_144 ?_
                  have fb144 := (hW.hd6 (by omega))
                  refine xicmp_ne C 152 dX6_isGood_145 (by decide) (fun h145 => ?_) (fun h145 => ?_)
                  ·
                    refine xiconst (v := nI 0) C dX6_isGood_152 (by decide) ?_
                    refine xtopi (y := nI (bn (0 < kn K ∧ ∀ x, x < (i + 1) → khd K x = 0 ∨ hS K x + 1 = khd K x))) (by rw [bn_f (fun q => (q.2 i (by omega)).elim (hdnl (by omega) h130) (fun e => h145 (hdx2 e)))]) ?_
                    refine xistore_n (lv' := [(1, .int (nI (bn (0 < kn K ∧ ∀ x, x < (i + 1) → khd K x = 0 ∨ hS K x + 1 = khd K x)))), (0, .ref (b 0)), (2, .int (nI i))]) C dX6_isGood_153 (by decide) rfl ?_
                    refine xiincN (lv' := [(2, .int (nI (i + 1))), (1, .int (nI (bn (0 < kn K ∧ ∀ x, x < (i + 1) → khd K x = 0 ∨ hS K x + 1 = khd K x)))), (0, .ref (b 0))]) C 2 rfl dX6_isGood_154 (by decide) rfl ?_
                    refine xgoto C 112 dX6_isGood_157 (by decide) ?_
                    refine xsub [2, 1, 0] rfl ?_
                    exact ih112 (i + 1) (by omega) (by omega)
                  ·
                    refine xiconst (v := nI 1) C dX6_isGood_148 (by decide) ?_
                    refine xgoto C 153 dX6_isGood_149 (by decide) ?_
                    refine xtopi (y := nI (bn (0 < kn K ∧ ∀ x, x < (i + 1) → khd K x = 0 ∨ hS K x + 1 = khd K x))) (by rw [bn_t ⟨(bn_1 h121).1, lt_s (bn_1 h121).2 (Or.inr (hdx (by omega) (by omega) h145))⟩]) ?_
                    refine xistore_n (lv' := [(1, .int (nI (bn (0 < kn K ∧ ∀ x, x < (i + 1) → khd K x = 0 ∨ hS K x + 1 = khd K x)))), (0, .ref (b 0)), (2, .int (nI i))]) C dX6_isGood_153 (by decide) rfl ?_
                    refine xiincN (lv' := [(2, .int (nI (i + 1))), (1, .int (nI (bn (0 < kn K ∧ ∀ x, x < (i + 1) → khd K x = 0 ∨ hS K x + 1 = khd K x)))), (0, .ref (b 0))]) C 2 rfl dX6_isGood_154 (by decide) rfl ?_
                    refine xgoto C 112 dX6_isGood_157 (by decide) ?_
                    refine xsub [2, 1, 0] rfl ?_
                    exact ih112 (i + 1) (by omega) (by omega)
        refine xsub [2, 1, 0] rfl ?_
        exact LP112 _ 0 (Nat.zero_le _) (Nat.lt_succ_self _)
      ·
        refine xiconst (v := nI 0) C dX6_isGood_49 (by decide) ?_
        refine xistore_n (lv' := [(2, .int (nI 0)), (1, .int (nI (bn (0 < kn K)))), (0, .ref (b 0))]) C dX6_isGood_50 (by decide) rfl ?_
        refine xlocals (lv' := [(2, .int (nI 0)), (1, .int (nI (bn (0 < kn K ∧ ∀ x, x < 0 → ksi K (kla K x) ≠ ksi K (klb K x))))), (0, .ref (b 0))]) (by rw [bn_iff (show (0 < kn K ∧ ∀ x, x < 0 → ksi K (kla K x) ≠ ksi K (klb K x)) ↔ 0 < kn K from ⟨fun q => q.1, fun q => ⟨q, fun x h => absurd h (Nat.not_lt_zero _)⟩⟩)]) ?_
        have LP51 : ∀ (fu51 : Nat) (k : Nat) (hk : k ≤ km K), km K - k < fu51 → XW X 0 0 (WM b t I F) [(0, .ref (b 0)), (1, .int (nI (bn (0 < kn K ∧ ∀ x, x < k → ksi K (kla K x) ≠ ksi K (klb K x))))), (2, .int (nI k))] 51 [] := by
          intro fu51
          induction fu51 with
          | zero => intro k hk hm51; exact absurd hm51 (Nat.not_lt_zero _)
          | succ fu51 ih51 =>
            intro k hk hm51
            refine xiload_n C 2 rfl dX6_isGood_51 ?_
            refine xaload_n C 0 rfl dX6_isGood_52 ?_
            refine gX6_79K C hK dX6_isGood_53 ?_
            refine xicmp_geN C 100 dX6_isGood_56 (by decide) (by omega) (by omega) (fun h56 => ?_) (fun h56 => ?_)
            ·
              refine xiload_n C 1 rfl dX6_isGood_100 ?_
              exact xret C hR (nar_bn _) dX6_isGood_101 (⟨_, rfl, by rw [bn_iff (good2 h46 (show k = km K by omega))], F, rfl, fun _ _ => rfl⟩)
            ·
              refine xiload_n C 1 rfl dX6_isGood_59 ?_
              refine xif_eqN C 92 dX6_isGood_60 (by decide) (bn_lt _) (fun h60 => ?_) (fun h60 => ?_)
              ·
                refine xiconst (v := nI 0) C dX6_isGood_92 (by decide) ?_
                refine xtopi (y := nI (bn (0 < kn K ∧ ∀ x, x < (k + 1) → ksi K (kla K x) ≠ ksi K (klb K x)))) (by rw [bn_f (fun q => bn_0 h60 ⟨q.1, fun x hx => q.2 x (by omega)⟩)]) ?_
                refine xistore_n (lv' := [(1, .int (nI (bn (0 < kn K ∧ ∀ x, x < (k + 1) → ksi K (kla K x) ≠ ksi K (klb K x))))), (0, .ref (b 0)), (2, .int (nI k))]) C dX6_isGood_93 (by decide) rfl ?_
                refine xiincN (lv' := [(2, .int (nI (k + 1))), (1, .int (nI (bn (0 < kn K ∧ ∀ x, x < (k + 1) → ksi K (kla K x) ≠ ksi K (klb K x))))), (0, .ref (b 0))]) C 2 rfl dX6_isGood_94 (by decide) rfl ?_
                refine xgoto C 51 dX6_isGood_97 (by decide) ?_
                refine xsub [2, 1, 0] rfl ?_
                exact ih51 (k + 1) (by omega) (by omega)
              ·
                refine xaload_n C 0 rfl dX6_isGood_63 ?_
                refine gX6_13 C dX6_isGood_64 ?_
                refine xaload_n C 0 rfl dX6_isGood_67 ?_
                refine gX6_25 C dX6_isGood_68 ?_
                refine xiload_n C 2 rfl dX6_isGood_71 ?_
                refine ma_la C hK hW k (by omega) dX6_isGood_72 ?_
                have fb72 := (hW.la (by omega))
                refine ma_si C hK hW (kla K k) (by omega) dX6_isGood_73 ?_
                have fb73 := (hW.si1 (by omega))
                refine xaload_n C 0 rfl dX6_isGood_74 ?_
                refine gX6_13 C dX6_isGood_75 ?_
                refine xaload_n C 0 rfl dX6_isGood_78 ?_
                refine gX6_28 C dX6_isGood_79 ?_
                refine xiload_n C 2 rfl dX6_isGood_82 ?_
                refine ma_lb C hK hW k (by omega) dX6_isGood_83 ?_
                have fb83 := (hW.lb (by omega))
                refine ma_si C hK hW (klb K k) (by omega) dX6_isGood_84 ?_
                have fb84 := (hW.si1 (by omega))
                refine xicmp_eqN C 92 dX6_isGood_85 (by decide) (by omega) (by omega) (fun h85 => ?_) (fun h85 => ?_)
                ·
                  refine xiconst (v := nI 0) C dX6_isGood_92 (by decide) ?_
                  refine xtopi (y := nI (bn (0 < kn K ∧ ∀ x, x < (k + 1) → ksi K (kla K x) ≠ ksi K (klb K x)))) (by rw [bn_f (fun q => q.2 k (by omega) h85)]) ?_
                  refine xistore_n (lv' := [(1, .int (nI (bn (0 < kn K ∧ ∀ x, x < (k + 1) → ksi K (kla K x) ≠ ksi K (klb K x))))), (0, .ref (b 0)), (2, .int (nI k))]) C dX6_isGood_93 (by decide) rfl ?_
                  refine xiincN (lv' := [(2, .int (nI (k + 1))), (1, .int (nI (bn (0 < kn K ∧ ∀ x, x < (k + 1) → ksi K (kla K x) ≠ ksi K (klb K x))))), (0, .ref (b 0))]) C 2 rfl dX6_isGood_94 (by decide) rfl ?_
                  refine xgoto C 51 dX6_isGood_97 (by decide) ?_
                  refine xsub [2, 1, 0] rfl ?_
                  exact ih51 (k + 1) (by omega) (by omega)
                ·
                  refine xiconst (v := nI 1) C dX6_isGood_88 (by decide) ?_
                  refine xgoto C 93 dX6_isGood_89 (by decide) ?_
                  refine xtopi (y := nI (bn (0 < kn K ∧ ∀ x, x < (k + 1) → ksi K (kla K x) ≠ ksi K (klb K x)))) (by rw [bn_t ⟨(bn_1 h60).1, lt_s (bn_1 h60).2 h85⟩]) ?_
                  refine xistore_n (lv' := [(1, .int (nI (bn (0 < kn K ∧ ∀ x, x < (k + 1) → ksi K (kla K x) ≠ ksi K (klb K x))))), (0, .ref (b 0)), (2, .int (nI k))]) C dX6_isGood_93 (by decide) rfl ?_
                  refine xiincN (lv' := [(2, .int (nI (k + 1))), (1, .int (nI (bn (0 < kn K ∧ ∀ x, x < (k + 1) → ksi K (kla K x) ≠ ksi K (klb K x))))), (0, .ref (b 0))]) C 2 rfl dX6_isGood_94 (by decide) rfl ?_
                  refine xgoto C 51 dX6_isGood_97 (by decide) ?_
                  refine xsub [2, 1, 0] rfl ?_
                  exact ih51 (k + 1) (by omega) (by omega)
        refine xsub [2, 1, 0] rfl ?_
        exact LP51 _ 0 (Nat.zero_le _) (Nat.lt_succ_self _)
    ·
      refine xiload_n C 0 rfl dX6_isGood_20 ?_
      refine xif_eqN C 39 dX6_isGood_21 (by decide) (bn_lt _) (fun h21 => ?_) (fun h21 => ?_)
      ·
        refine xiconst (v := nI 0) C dX6_isGood_39 (by decide) ?_
        exact xret C hR (by rfl) dX6_isGood_40 (⟨_, rfl, by rw [bn_f (fun q : GoodP K => bn_0 h21 q.1)], F, rfl, fun _ _ => rfl⟩)
      ·
        refine xaload_n C 1 rfl dX6_isGood_24 ?_
        refine gX6_31K C hK dX6_isGood_25 ?_
        refine xaload_n C 1 rfl dX6_isGood_28 ?_
        refine gX6_35K C hK dX6_isGood_29 ?_
        refine xicmp_ltN C 39 dX6_isGood_32 (by decide) (by omega) (by omega) (fun h32 => ?_) (fun h32 => ?_)
        ·
          refine xiconst (v := nI 0) C dX6_isGood_39 (by decide) ?_
          exact xret C hR (by rfl) dX6_isGood_40 (⟨_, rfl, by rw [bn_f (fun q : GoodP K => absurd (good0 h17 q) (by omega))], F, rfl, fun _ _ => rfl⟩)
        ·
          refine xiconst (v := nI 1) C dX6_isGood_35 (by decide) ?_
          refine xgoto C 40 dX6_isGood_36 (by decide) ?_
          exact xret C hR (by rfl) dX6_isGood_40 (⟨_, rfl, by rw [bn_t (P := GoodP K) (good0r h17 (bn_1 h21) h32)], F, rfl, fun _ _ => rfl⟩)
  ·
    refine xiconst (v := nI 1) C dX6_isGood_7 (by decide) ?_
    refine xgoto C 12 dX6_isGood_8 (by decide) ?_
    refine xistore_n (lv' := [(1, .int (nI 1)), (0, .ref (b 0))]) C dX6_isGood_12 (by decide) rfl ?_
    refine xlocals (lv' := [(1, .int (nI (bn (0 < kn K)))), (0, .ref (b 0))]) (by rw [bn_t (P := 0 < kn K) h4]) ?_
    refine xaload_n C 1 rfl dX6_isGood_13 ?_
    refine gX6_90K C hK dX6_isGood_14 ?_
    refine xif_neN C 41 dX6_isGood_17 (by decide) (by omega) (fun h17 => ?_) (fun h17 => ?_)
    ·
      refine xaload_n C 1 rfl dX6_isGood_41 ?_
      refine gX6_90K C hK dX6_isGood_42 ?_
      refine xiconst (v := nI 2) C dX6_isGood_45 (by decide) ?_
      refine xicmp_neN C 102 dX6_isGood_46 (by decide) (by omega) (by omega) (fun h46 => ?_) (fun h46 => ?_)
      ·
        refine xaload_n C 1 rfl dX6_isGood_102 ?_
        refine xaload_n C 1 rfl dX6_isGood_103 ?_
        refine gX6_50 C dX6_isGood_104 ?_
        refine xcVV C (c_X6_layHigh hK hW 11 (by decide) (by decide)) yk_X6_layHigh 0 rfl rfl xml_X6_93 ⟨⟨Nat.le_of_ble_eq_true rfl, Nat.le_of_ble_eq_true rfl⟩, ⟨rfl, rfl⟩, ⟨Nat.zero_le _, Nat.zero_le _⟩⟩ rfl (Nat.le_of_ble_eq_true rfl) dX6_isGood_107 (fun wE hE => ?_)
        obtain ⟨FA, rfl, hXA, hHA, hfe⟩ := hE
        have hKA : CFG K I FA := hK.of (fun _ _ => rfl) (fun q hq => hXA q (by omega))
        refine xiconst (v := nI 0) C dX6_isGood_110 (by decide) ?_
        refine xistore_n (lv' := [(2, .int (nI 0)), (1, .int (nI (bn (0 < kn K)))), (0, .ref (b 0))]) C dX6_isGood_111 (by decide) rfl ?_
        refine xlocals (lv' := [(2, .int (nI 0)), (1, .int (nI (bn (0 < kn K ∧ ∀ x, x < 0 → khd K x = 0 ∨ hS K x + 1 = khd K x)))), (0, .ref (b 0))]) (by rw [bn_iff (show (0 < kn K ∧ ∀ x, x < 0 → khd K x = 0 ∨ hS K x + 1 = khd K x) ↔ 0 < kn K from ⟨fun q => q.1, fun q => ⟨q, fun x h => absurd h (Nat.not_lt_zero _)⟩⟩)]) ?_
        have LP112 : ∀ (fu112 : Nat) (i : Nat) (hi : i ≤ kn K), kn K - i < fu112 → XW X 0 0 (WM b t I FA) [(0, .ref (b 0)), (1, .int (nI (bn (0 < kn K ∧ ∀ x, x < i → khd K x = 0 ∨ hS K x + 1 = khd K x)))), (2, .int (nI i))] 112 [] := by
          intro fu112
          induction fu112 with
          | zero => intro i hi hm112; exact absurd hm112 (Nat.not_lt_zero _)
          | succ fu112 ih112 =>
            intro i hi hm112
            refine xiload_n C 2 rfl dX6_isGood_112 ?_
            refine xaload_n C 0 rfl dX6_isGood_113 ?_
            refine gX6_53K C hKA dX6_isGood_114 ?_
            refine xicmp_geN C 160 dX6_isGood_117 (by decide) (by omega) (by omega) (fun h117 => ?_) (fun h117 => ?_)
            ·
              refine xiload_n C 1 rfl dX6_isGood_160 ?_
              exact xret C hR (nar_bn _) dX6_isGood_161 (⟨_, rfl, by rw [bn_iff (good1 hW (show kk K = 1 by omega) (show i = kn K by omega) hfe)], FA, rfl, hXA⟩)
            ·
              refine xiload_n C 1 rfl dX6_isGood_120 ?_
              refine xif_eqN C 152 dX6_isGood_121 (by decide) (bn_lt _) (fun h121 => ?_) (fun h121 => ?_)
              ·
                refine xiconst (v := nI 0) C dX6_isGood_152 (by decide) ?_
                refine xtopi (y := nI (bn (0 < kn K ∧ ∀ x, x < (i + 1) → khd K x = 0 ∨ hS K x + 1 = khd K x))) (by rw [bn_f (fun q => bn_0 h121 ⟨q.1, fun x hx => q.2 x (by omega)⟩)]) ?_
                refine xistore_n (lv' := [(1, .int (nI (bn (0 < kn K ∧ ∀ x, x < (i + 1) → khd K x = 0 ∨ hS K x + 1 = khd K x)))), (0, .ref (b 0)), (2, .int (nI i))]) C dX6_isGood_153 (by decide) rfl ?_
                refine xiincN (lv' := [(2, .int (nI (i + 1))), (1, .int (nI (bn (0 < kn K ∧ ∀ x, x < (i + 1) → khd K x = 0 ∨ hS K x + 1 = khd K x)))), (0, .ref (b 0))]) C 2 rfl dX6_isGood_154 (by decide) rfl ?_
                refine xgoto C 112 dX6_isGood_157 (by decide) ?_
                refine xsub [2, 1, 0] rfl ?_
                exact ih112 (i + 1) (by omega) (by omega)
              ·
                refine xaload_n C 0 rfl dX6_isGood_124 ?_
                refine gX6_16 C dX6_isGood_125 ?_
                refine xiload_n C 2 rfl dX6_isGood_128 ?_
                refine ma_hd C hKA hW i (by omega) dX6_isGood_129 ?_
                have fb129 := (hW.hd6 (by omega))
                refine xif_lt C 148 dX6_isGood_130 (by decide) (fun h130 => ?_) (fun h130 => ?_)
                ·
                  refine xiconst (v := nI 1) C dX6_isGood_148 (by decide) ?_
                  refine xgoto C 153 dX6_isGood_149 (by decide) ?_
                  refine xtopi (y := nI (bn (0 < kn K ∧ ∀ x, x < (i + 1) → khd K x = 0 ∨ hS K x + 1 = khd K x))) (by rw [bn_t ⟨(bn_1 h121).1, lt_s (bn_1 h121).2 (Or.inl (hdl (by omega) h130))⟩]) ?_
                  refine xistore_n (lv' := [(1, .int (nI (bn (0 < kn K ∧ ∀ x, x < (i + 1) → khd K x = 0 ∨ hS K x + 1 = khd K x)))), (0, .ref (b 0)), (2, .int (nI i))]) C dX6_isGood_153 (by decide) rfl ?_
                  refine xiincN (lv' := [(2, .int (nI (i + 1))), (1, .int (nI (bn (0 < kn K ∧ ∀ x, x < (i + 1) → khd K x = 0 ∨ hS K x + 1 = khd K x)))), (0, .ref (b 0))]) C 2 rfl dX6_isGood_154 (by decide) rfl ?_
                  refine xgoto C 112 dX6_isGood_157 (by decide) ?_
                  refine xsub [2, 1, 0] rfl ?_
                  exact ih112 (i + 1) (by omega) (by omega)
                ·
                  refine xaload_n C 0 rfl dX6_isGood_133 ?_
                  refine gX6_50 C dX6_isGood_134 ?_
                  refine xiload_n C 2 rfl dX6_isGood_137 ?_
                  refine ma_st C hW 11 (by decide) (by decide) hHA i (by omega) dX6_isGood_138 ?_
                  have fb138 := (hHA i (by omega)).2
                  refine xaload_n C 0 rfl dX6_isGood_139 ?_
                  refine gX6_16 C dX6_isGood_140 ?_
                  refine xiload_n C 2 rfl dX6_isGood_143 ?_
                  refine ma_hd C hKA hW i (by omega) dX6_isGood_144 ?_
                  have fb144 := (hW.hd6 (by omega))
                  refine xicmp_ne C 152 dX6_isGood_145 (by decide) (fun h145 => ?_) (fun h145 => ?_)
                  ·
                    refine xiconst (v := nI 0) C dX6_isGood_152 (by decide) ?_
                    refine xtopi (y := nI (bn (0 < kn K ∧ ∀ x, x < (i + 1) → khd K x = 0 ∨ hS K x + 1 = khd K x))) (by rw [bn_f (fun q => (q.2 i (by omega)).elim (hdnl (by omega) h130) (fun e => h145 (hdx2 e)))]) ?_
                    refine xistore_n (lv' := [(1, .int (nI (bn (0 < kn K ∧ ∀ x, x < (i + 1) → khd K x = 0 ∨ hS K x + 1 = khd K x)))), (0, .ref (b 0)), (2, .int (nI i))]) C dX6_isGood_153 (by decide) rfl ?_
                    refine xiincN (lv' := [(2, .int (nI (i + 1))), (1, .int (nI (bn (0 < kn K ∧ ∀ x, x < (i + 1) → khd K x = 0 ∨ hS K x + 1 = khd K x)))), (0, .ref (b 0))]) C 2 rfl dX6_isGood_154 (by decide) rfl ?_
                    refine xgoto C 112 dX6_isGood_157 (by decide) ?_
                    refine xsub [2, 1, 0] rfl ?_
                    exact ih112 (i + 1) (by omega) (by omega)
                  ·
                    refine xiconst (v := nI 1) C dX6_isGood_148 (by decide) ?_
                    refine xgoto C 153 dX6_isGood_149 (by decide) ?_
                    refine xtopi (y := nI (bn (0 < kn K ∧ ∀ x, x < (i + 1) → khd K x = 0 ∨ hS K x + 1 = khd K x))) (by rw [bn_t ⟨(bn_1 h121).1, lt_s (bn_1 h121).2 (Or.inr (hdx (by omega) (by omega) h145))⟩]) ?_
                    refine xistore_n (lv' := [(1, .int (nI (bn (0 < kn K ∧ ∀ x, x < (i + 1) → khd K x = 0 ∨ hS K x + 1 = khd K x)))), (0, .ref (b 0)), (2, .int (nI i))]) C dX6_isGood_153 (by decide) rfl ?_
                    refine xiincN (lv' := [(2, .int (nI (i + 1))), (1, .int (nI (bn (0 < kn K ∧ ∀ x, x < (i + 1) → khd K x = 0 ∨ hS K x + 1 = khd K x)))), (0, .ref (b 0))]) C 2 rfl dX6_isGood_154 (by decide) rfl ?_
                    refine xgoto C 112 dX6_isGood_157 (by decide) ?_
                    refine xsub [2, 1, 0] rfl ?_
                    exact ih112 (i + 1) (by omega) (by omega)
        refine xsub [2, 1, 0] rfl ?_
        exact LP112 _ 0 (Nat.zero_le _) (Nat.lt_succ_self _)
      ·
        refine xiconst (v := nI 0) C dX6_isGood_49 (by decide) ?_
        refine xistore_n (lv' := [(2, .int (nI 0)), (1, .int (nI (bn (0 < kn K)))), (0, .ref (b 0))]) C dX6_isGood_50 (by decide) rfl ?_
        refine xlocals (lv' := [(2, .int (nI 0)), (1, .int (nI (bn (0 < kn K ∧ ∀ x, x < 0 → ksi K (kla K x) ≠ ksi K (klb K x))))), (0, .ref (b 0))]) (by rw [bn_iff (show (0 < kn K ∧ ∀ x, x < 0 → ksi K (kla K x) ≠ ksi K (klb K x)) ↔ 0 < kn K from ⟨fun q => q.1, fun q => ⟨q, fun x h => absurd h (Nat.not_lt_zero _)⟩⟩)]) ?_
        have LP51 : ∀ (fu51 : Nat) (k : Nat) (hk : k ≤ km K), km K - k < fu51 → XW X 0 0 (WM b t I F) [(0, .ref (b 0)), (1, .int (nI (bn (0 < kn K ∧ ∀ x, x < k → ksi K (kla K x) ≠ ksi K (klb K x))))), (2, .int (nI k))] 51 [] := by
          intro fu51
          induction fu51 with
          | zero => intro k hk hm51; exact absurd hm51 (Nat.not_lt_zero _)
          | succ fu51 ih51 =>
            intro k hk hm51
            refine xiload_n C 2 rfl dX6_isGood_51 ?_
            refine xaload_n C 0 rfl dX6_isGood_52 ?_
            refine gX6_79K C hK dX6_isGood_53 ?_
            refine xicmp_geN C 100 dX6_isGood_56 (by decide) (by omega) (by omega) (fun h56 => ?_) (fun h56 => ?_)
            ·
              refine xiload_n C 1 rfl dX6_isGood_100 ?_
              exact xret C hR (nar_bn _) dX6_isGood_101 (⟨_, rfl, by rw [bn_iff (good2 h46 (show k = km K by omega))], F, rfl, fun _ _ => rfl⟩)
            ·
              refine xiload_n C 1 rfl dX6_isGood_59 ?_
              refine xif_eqN C 92 dX6_isGood_60 (by decide) (bn_lt _) (fun h60 => ?_) (fun h60 => ?_)
              ·
                refine xiconst (v := nI 0) C dX6_isGood_92 (by decide) ?_
                refine xtopi (y := nI (bn (0 < kn K ∧ ∀ x, x < (k + 1) → ksi K (kla K x) ≠ ksi K (klb K x)))) (by rw [bn_f (fun q => bn_0 h60 ⟨q.1, fun x hx => q.2 x (by omega)⟩)]) ?_
                refine xistore_n (lv' := [(1, .int (nI (bn (0 < kn K ∧ ∀ x, x < (k + 1) → ksi K (kla K x) ≠ ksi K (klb K x))))), (0, .ref (b 0)), (2, .int (nI k))]) C dX6_isGood_93 (by decide) rfl ?_
                refine xiincN (lv' := [(2, .int (nI (k + 1))), (1, .int (nI (bn (0 < kn K ∧ ∀ x, x < (k + 1) → ksi K (kla K x) ≠ ksi K (klb K x))))), (0, .ref (b 0))]) C 2 rfl dX6_isGood_94 (by decide) rfl ?_
                refine xgoto C 51 dX6_isGood_97 (by decide) ?_
                refine xsub [2, 1, 0] rfl ?_
                exact ih51 (k + 1) (by omega) (by omega)
              ·
                refine xaload_n C 0 rfl dX6_isGood_63 ?_
                refine gX6_13 C dX6_isGood_64 ?_
                refine xaload_n C 0 rfl dX6_isGood_67 ?_
                refine gX6_25 C dX6_isGood_68 ?_
                refine xiload_n C 2 rfl dX6_isGood_71 ?_
                refine ma_la C hK hW k (by omega) dX6_isGood_72 ?_
                have fb72 := (hW.la (by omega))
                refine ma_si C hK hW (kla K k) (by omega) dX6_isGood_73 ?_
                have fb73 := (hW.si1 (by omega))
                refine xaload_n C 0 rfl dX6_isGood_74 ?_
                refine gX6_13 C dX6_isGood_75 ?_
                refine xaload_n C 0 rfl dX6_isGood_78 ?_
                refine gX6_28 C dX6_isGood_79 ?_
                refine xiload_n C 2 rfl dX6_isGood_82 ?_
                refine ma_lb C hK hW k (by omega) dX6_isGood_83 ?_
                have fb83 := (hW.lb (by omega))
                refine ma_si C hK hW (klb K k) (by omega) dX6_isGood_84 ?_
                have fb84 := (hW.si1 (by omega))
                refine xicmp_eqN C 92 dX6_isGood_85 (by decide) (by omega) (by omega) (fun h85 => ?_) (fun h85 => ?_)
                ·
                  refine xiconst (v := nI 0) C dX6_isGood_92 (by decide) ?_
                  refine xtopi (y := nI (bn (0 < kn K ∧ ∀ x, x < (k + 1) → ksi K (kla K x) ≠ ksi K (klb K x)))) (by rw [bn_f (fun q => q.2 k (by omega) h85)]) ?_
                  refine xistore_n (lv' := [(1, .int (nI (bn (0 < kn K ∧ ∀ x, x < (k + 1) → ksi K (kla K x) ≠ ksi K (klb K x))))), (0, .ref (b 0)), (2, .int (nI k))]) C dX6_isGood_93 (by decide) rfl ?_
                  refine xiincN (lv' := [(2, .int (nI (k + 1))), (1, .int (nI (bn (0 < kn K ∧ ∀ x, x < (k + 1) → ksi K (kla K x) ≠ ksi K (klb K x))))), (0, .ref (b 0))]) C 2 rfl dX6_isGood_94 (by decide) rfl ?_
                  refine xgoto C 51 dX6_isGood_97 (by decide) ?_
                  refine xsub [2, 1, 0] rfl ?_
                  exact ih51 (k + 1) (by omega) (by omega)
                ·
                  refine xiconst (v := nI 1) C dX6_isGood_88 (by decide) ?_
                  refine xgoto C 93 dX6_isGood_89 (by decide) ?_
                  refine xtopi (y := nI (bn (0 < kn K ∧ ∀ x, x < (k + 1) → ksi K (kla K x) ≠ ksi K (klb K x)))) (by rw [bn_t ⟨(bn_1 h60).1, lt_s (bn_1 h60).2 h85⟩]) ?_
                  refine xistore_n (lv' := [(1, .int (nI (bn (0 < kn K ∧ ∀ x, x < (k + 1) → ksi K (kla K x) ≠ ksi K (klb K x))))), (0, .ref (b 0)), (2, .int (nI k))]) C dX6_isGood_93 (by decide) rfl ?_
                  refine xiincN (lv' := [(2, .int (nI (k + 1))), (1, .int (nI (bn (0 < kn K ∧ ∀ x, x < (k + 1) → ksi K (kla K x) ≠ ksi K (klb K x))))), (0, .ref (b 0))]) C 2 rfl dX6_isGood_94 (by decide) rfl ?_
                  refine xgoto C 51 dX6_isGood_97 (by decide) ?_
                  refine xsub [2, 1, 0] rfl ?_
                  exact ih51 (k + 1) (by omega) (by omega)
        refine xsub [2, 1, 0] rfl ?_
        exact LP51 _ 0 (Nat.zero_le _) (Nat.lt_succ_self _)
    ·
      refine xiload_n C 0 rfl dX6_isGood_20 ?_
      refine xif_eqN C 39 dX6_isGood_21 (by decide) (bn_lt _) (fun h21 => ?_) (fun h21 => ?_)
      ·
        refine xiconst (v := nI 0) C dX6_isGood_39 (by decide) ?_
        exact xret C hR (by rfl) dX6_isGood_40 (⟨_, rfl, by rw [bn_f (fun q : GoodP K => bn_0 h21 q.1)], F, rfl, fun _ _ => rfl⟩)
      ·
        refine xaload_n C 1 rfl dX6_isGood_24 ?_
        refine gX6_31K C hK dX6_isGood_25 ?_
        refine xaload_n C 1 rfl dX6_isGood_28 ?_
        refine gX6_35K C hK dX6_isGood_29 ?_
        refine xicmp_ltN C 39 dX6_isGood_32 (by decide) (by omega) (by omega) (fun h32 => ?_) (fun h32 => ?_)
        ·
          refine xiconst (v := nI 0) C dX6_isGood_39 (by decide) ?_
          exact xret C hR (by rfl) dX6_isGood_40 (⟨_, rfl, by rw [bn_f (fun q : GoodP K => absurd (good0 h17 q) (by omega))], F, rfl, fun _ _ => rfl⟩)
        ·
          refine xiconst (v := nI 1) C dX6_isGood_35 (by decide) ?_
          refine xgoto C 40 dX6_isGood_36 (by decide) ?_
          exact xret C hR (by rfl) dX6_isGood_40 (⟨_, rfl, by rw [bn_t (P := GoodP K) (good0r h17 (bn_1 h21) h32)], F, rfl, fun _ _ => rfl⟩)
end
