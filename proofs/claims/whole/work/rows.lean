section
-- ===== PART A: goes FIRST, ahead of the names: the tables' words, and 'selects' of the private methods out of them =====
/-- a private method of a class that the tables say can be made, by its rows of tables_1 -/
def lw_okq (q : MethodName × Nat) : Prop := (q.1.cls ≠ "java/lang/invoke/MethodHandle" ∧ q.1.cls ≠ "java/lang/invoke/VarHandle") ∧ Cond.instantiable q.1.cls q.2 ∈ tables_1 ∧ Cond.privateMethod q.1 ∈ tables_1 ∧ Cond.instanceMethod q.1 ∈ tables_1
theorem lw_p0 : lw_okq (⟨"GuessFetch", "isUnderWay", "()Z"⟩, 10) := ⟨⟨by decide +kernel, by decide +kernel⟩, List.mem_of_getElem? (i := 11) (by decide +kernel), List.mem_of_getElem? (i := 196) (by decide +kernel), List.mem_of_getElem? (i := 197) (by decide +kernel)⟩
theorem lw_p1 : lw_okq (⟨"GuessFetch", "passCycle", "()V"⟩, 10) := ⟨⟨by decide +kernel, by decide +kernel⟩, List.mem_of_getElem? (i := 11) (by decide +kernel), List.mem_of_getElem? (i := 271) (by decide +kernel), List.mem_of_getElem? (i := 272) (by decide +kernel)⟩
theorem lw_p2 : lw_okq (⟨"GuessFetch", "endRun", "(I)V"⟩, 10) := ⟨⟨by decide +kernel, by decide +kernel⟩, List.mem_of_getElem? (i := 11) (by decide +kernel), List.mem_of_getElem? (i := 283) (by decide +kernel), List.mem_of_getElem? (i := 284) (by decide +kernel)⟩
theorem lw_p3 : lw_okq (⟨"GuessFetch", "dropFetched", "()V"⟩, 10) := ⟨⟨by decide +kernel, by decide +kernel⟩, List.mem_of_getElem? (i := 11) (by decide +kernel), List.mem_of_getElem? (i := 287) (by decide +kernel), List.mem_of_getElem? (i := 288) (by decide +kernel)⟩
theorem lw_p4 : lw_okq (⟨"GuessFetch", "finishEldest", "()V"⟩, 10) := ⟨⟨by decide +kernel, by decide +kernel⟩, List.mem_of_getElem? (i := 11) (by decide +kernel), List.mem_of_getElem? (i := 300) (by decide +kernel), List.mem_of_getElem? (i := 301) (by decide +kernel)⟩
theorem lw_p5 : lw_okq (⟨"GuessFetch$Pile", "has", "(I)Z"⟩, 2) := ⟨⟨by decide +kernel, by decide +kernel⟩, List.mem_of_getElem? (i := 54) (by decide +kernel), List.mem_of_getElem? (i := 343) (by decide +kernel), List.mem_of_getElem? (i := 344) (by decide +kernel)⟩
theorem lw_p6 : lw_okq (⟨"GuessFetch", "noteDone", "(II)V"⟩, 10) := ⟨⟨by decide +kernel, by decide +kernel⟩, List.mem_of_getElem? (i := 11) (by decide +kernel), List.mem_of_getElem? (i := 349) (by decide +kernel), List.mem_of_getElem? (i := 350) (by decide +kernel)⟩
theorem lw_p7 : lw_okq (⟨"GuessFetch", "goBack", "(IIZI)V"⟩, 10) := ⟨⟨by decide +kernel, by decide +kernel⟩, List.mem_of_getElem? (i := 11) (by decide +kernel), List.mem_of_getElem? (i := 389) (by decide +kernel), List.mem_of_getElem? (i := 390) (by decide +kernel)⟩
theorem lw_p8 : lw_okq (⟨"GuessFetch$Guesser", "noteBit", "(Z)V"⟩, 8) := ⟨⟨by decide +kernel, by decide +kernel⟩, List.mem_of_getElem? (i := 78) (by decide +kernel), List.mem_of_getElem? (i := 408) (by decide +kernel), List.mem_of_getElem? (i := 409) (by decide +kernel)⟩
theorem lw_p9 : lw_okq (⟨"GuessFetch", "fetchAtPlace", "()V"⟩, 10) := ⟨⟨by decide +kernel, by decide +kernel⟩, List.mem_of_getElem? (i := 11) (by decide +kernel), List.mem_of_getElem? (i := 418) (by decide +kernel), List.mem_of_getElem? (i := 419) (by decide +kernel)⟩
theorem lw_p10 : lw_okq (⟨"GuessFetch$Guesser", "seemsToTurn", "(II)Z"⟩, 8) := ⟨⟨by decide +kernel, by decide +kernel⟩, List.mem_of_getElem? (i := 78) (by decide +kernel), List.mem_of_getElem? (i := 450) (by decide +kernel), List.mem_of_getElem? (i := 451) (by decide +kernel)⟩
theorem lw_p11 : lw_okq (⟨"GuessFetch$Guesser", "row", "(I)LGuessFetch$Row;"⟩, 8) := ⟨⟨by decide +kernel, by decide +kernel⟩, List.mem_of_getElem? (i := 78) (by decide +kernel), List.mem_of_getElem? (i := 485) (by decide +kernel), List.mem_of_getElem? (i := 486) (by decide +kernel)⟩
theorem lw_p12 : lw_okq (⟨"GuessFetch", "digestOfTables", "(J)J"⟩, 10) := ⟨⟨by decide +kernel, by decide +kernel⟩, List.mem_of_getElem? (i := 11) (by decide +kernel), List.mem_of_getElem? (i := 560) (by decide +kernel), List.mem_of_getElem? (i := 561) (by decide +kernel)⟩
theorem lw_p13 : lw_okq (⟨"GuessFetchModel", "first", "()V"⟩, 34) := ⟨⟨by decide +kernel, by decide +kernel⟩, List.mem_of_getElem? (i := 567) (by decide +kernel), List.mem_of_getElem? (i := 573) (by decide +kernel), List.mem_of_getElem? (i := 574) (by decide +kernel)⟩
theorem lw_p14 : lw_okq (⟨"GuessFetchModel", "valueOf", "(I)J"⟩, 34) := ⟨⟨by decide +kernel, by decide +kernel⟩, List.mem_of_getElem? (i := 567) (by decide +kernel), List.mem_of_getElem? (i := 697) (by decide +kernel), List.mem_of_getElem? (i := 698) (by decide +kernel)⟩
theorem lw_p15 : lw_okq (⟨"GuessFetchModel", "cycle", "()V"⟩, 34) := ⟨⟨by decide +kernel, by decide +kernel⟩, List.mem_of_getElem? (i := 567) (by decide +kernel), List.mem_of_getElem? (i := 713) (by decide +kernel), List.mem_of_getElem? (i := 714) (by decide +kernel)⟩
def lw_privs_1 : List (MethodName × Nat) := [(⟨"GuessFetch", "isUnderWay", "()Z"⟩, 10), (⟨"GuessFetch", "passCycle", "()V"⟩, 10), (⟨"GuessFetch", "endRun", "(I)V"⟩, 10), (⟨"GuessFetch", "dropFetched", "()V"⟩, 10), (⟨"GuessFetch", "finishEldest", "()V"⟩, 10), (⟨"GuessFetch$Pile", "has", "(I)Z"⟩, 2), (⟨"GuessFetch", "noteDone", "(II)V"⟩, 10), (⟨"GuessFetch", "goBack", "(IIZI)V"⟩, 10), (⟨"GuessFetch$Guesser", "noteBit", "(Z)V"⟩, 8), (⟨"GuessFetch", "fetchAtPlace", "()V"⟩, 10), (⟨"GuessFetch$Guesser", "seemsToTurn", "(II)Z"⟩, 8), (⟨"GuessFetch$Guesser", "row", "(I)LGuessFetch$Row;"⟩, 8), (⟨"GuessFetch", "digestOfTables", "(J)J"⟩, 10), (⟨"GuessFetchModel", "first", "()V"⟩, 34), (⟨"GuessFetchModel", "valueOf", "(I)J"⟩, 34), (⟨"GuessFetchModel", "cycle", "()V"⟩, 34)]
theorem lw_r1 : ∀ q ∈ lw_privs_1, lw_okq q := List.forall_mem_cons.mpr ⟨lw_p0, List.forall_mem_cons.mpr ⟨lw_p1, List.forall_mem_cons.mpr ⟨lw_p2, List.forall_mem_cons.mpr ⟨lw_p3, List.forall_mem_cons.mpr ⟨lw_p4, List.forall_mem_cons.mpr ⟨lw_p5, List.forall_mem_cons.mpr ⟨lw_p6, List.forall_mem_cons.mpr ⟨lw_p7, List.forall_mem_cons.mpr ⟨lw_p8, List.forall_mem_cons.mpr ⟨lw_p9, List.forall_mem_cons.mpr ⟨lw_p10, List.forall_mem_cons.mpr ⟨lw_p11, List.forall_mem_cons.mpr ⟨lw_p12, List.forall_mem_cons.mpr ⟨lw_p13, List.forall_mem_cons.mpr ⟨lw_p14, List.forall_mem_cons.mpr ⟨lw_p15, fun _ h => absurd h List.not_mem_nil⟩⟩⟩⟩⟩⟩⟩⟩⟩⟩⟩⟩⟩⟩⟩⟩
theorem lw_p16 : lw_okq (⟨"GuessFetchModel", "finish", "(I)V"⟩, 34) := ⟨⟨by decide +kernel, by decide +kernel⟩, List.mem_of_getElem? (i := 567) (by decide +kernel), List.mem_of_getElem? (i := 717) (by decide +kernel), List.mem_of_getElem? (i := 718) (by decide +kernel)⟩
theorem lw_p17 : lw_okq (⟨"GuessFetchModel", "finishFirst", "()V"⟩, 34) := ⟨⟨by decide +kernel, by decide +kernel⟩, List.mem_of_getElem? (i := 567) (by decide +kernel), List.mem_of_getElem? (i := 721) (by decide +kernel), List.mem_of_getElem? (i := 722) (by decide +kernel)⟩
theorem lw_p18 : lw_okq (⟨"GuessFetchModel", "turned", "(I)Z"⟩, 34) := ⟨⟨by decide +kernel, by decide +kernel⟩, List.mem_of_getElem? (i := 567) (by decide +kernel), List.mem_of_getElem? (i := 725) (by decide +kernel), List.mem_of_getElem? (i := 726) (by decide +kernel)⟩
theorem lw_p19 : lw_okq (⟨"GuessFetchModel", "does", "(I)I"⟩, 34) := ⟨⟨by decide +kernel, by decide +kernel⟩, List.mem_of_getElem? (i := 567) (by decide +kernel), List.mem_of_getElem? (i := 729) (by decide +kernel), List.mem_of_getElem? (i := 730) (by decide +kernel)⟩
theorem lw_p20 : lw_okq (⟨"GuessFetchModel", "dropFirst", "()V"⟩, 34) := ⟨⟨by decide +kernel, by decide +kernel⟩, List.mem_of_getElem? (i := 567) (by decide +kernel), List.mem_of_getElem? (i := 734) (by decide +kernel), List.mem_of_getElem? (i := 735) (by decide +kernel)⟩
theorem lw_p21 : lw_okq (⟨"GuessFetchModel", "learn", "(IZI)V"⟩, 34) := ⟨⟨by decide +kernel, by decide +kernel⟩, List.mem_of_getElem? (i := 567) (by decide +kernel), List.mem_of_getElem? (i := 738) (by decide +kernel), List.mem_of_getElem? (i := 739) (by decide +kernel)⟩
theorem lw_p22 : lw_okq (⟨"GuessFetchModel", "mixedAt", "(II)I"⟩, 34) := ⟨⟨by decide +kernel, by decide +kernel⟩, List.mem_of_getElem? (i := 567) (by decide +kernel), List.mem_of_getElem? (i := 742) (by decide +kernel), List.mem_of_getElem? (i := 743) (by decide +kernel)⟩
theorem lw_p23 : lw_okq (⟨"GuessFetchModel", "bit", "(Z)V"⟩, 34) := ⟨⟨by decide +kernel, by decide +kernel⟩, List.mem_of_getElem? (i := 567) (by decide +kernel), List.mem_of_getElem? (i := 749) (by decide +kernel), List.mem_of_getElem? (i := 750) (by decide +kernel)⟩
theorem lw_p24 : lw_okq (⟨"GuessFetchModel", "push", "(I)V"⟩, 34) := ⟨⟨by decide +kernel, by decide +kernel⟩, List.mem_of_getElem? (i := 567) (by decide +kernel), List.mem_of_getElem? (i := 753) (by decide +kernel), List.mem_of_getElem? (i := 754) (by decide +kernel)⟩
theorem lw_p25 : lw_okq (⟨"GuessFetchModel", "fetch", "(I)V"⟩, 34) := ⟨⟨by decide +kernel, by decide +kernel⟩, List.mem_of_getElem? (i := 567) (by decide +kernel), List.mem_of_getElem? (i := 757) (by decide +kernel), List.mem_of_getElem? (i := 758) (by decide +kernel)⟩
theorem lw_p26 : lw_okq (⟨"GuessFetchModel", "guess", "(I)I"⟩, 34) := ⟨⟨by decide +kernel, by decide +kernel⟩, List.mem_of_getElem? (i := 567) (by decide +kernel), List.mem_of_getElem? (i := 761) (by decide +kernel), List.mem_of_getElem? (i := 762) (by decide +kernel)⟩
theorem lw_p27 : lw_okq (⟨"GuessFetchModel", "guessesTurn", "(I)Z"⟩, 34) := ⟨⟨by decide +kernel, by decide +kernel⟩, List.mem_of_getElem? (i := 567) (by decide +kernel), List.mem_of_getElem? (i := 765) (by decide +kernel), List.mem_of_getElem? (i := 766) (by decide +kernel)⟩
theorem lw_p28 : lw_okq (⟨"GuessFetchModel", "isPlace", "(II)Z"⟩, 34) := ⟨⟨by decide +kernel, by decide +kernel⟩, List.mem_of_getElem? (i := 567) (by decide +kernel), List.mem_of_getElem? (i := 781) (by decide +kernel), List.mem_of_getElem? (i := 782) (by decide +kernel)⟩
theorem lw_p29 : lw_okq (⟨"GuessFetchModel", "tableOf", "(II)I"⟩, 34) := ⟨⟨by decide +kernel, by decide +kernel⟩, List.mem_of_getElem? (i := 567) (by decide +kernel), List.mem_of_getElem? (i := 785) (by decide +kernel), List.mem_of_getElem? (i := 786) (by decide +kernel)⟩
theorem lw_p30 : lw_okq (⟨"GuessFetchModel", "mix", "(J)V"⟩, 34) := ⟨⟨by decide +kernel, by decide +kernel⟩, List.mem_of_getElem? (i := 567) (by decide +kernel), List.mem_of_getElem? (i := 831) (by decide +kernel), List.mem_of_getElem? (i := 832) (by decide +kernel)⟩
def lw_privs_2 : List (MethodName × Nat) := [(⟨"GuessFetchModel", "finish", "(I)V"⟩, 34), (⟨"GuessFetchModel", "finishFirst", "()V"⟩, 34), (⟨"GuessFetchModel", "turned", "(I)Z"⟩, 34), (⟨"GuessFetchModel", "does", "(I)I"⟩, 34), (⟨"GuessFetchModel", "dropFirst", "()V"⟩, 34), (⟨"GuessFetchModel", "learn", "(IZI)V"⟩, 34), (⟨"GuessFetchModel", "mixedAt", "(II)I"⟩, 34), (⟨"GuessFetchModel", "bit", "(Z)V"⟩, 34), (⟨"GuessFetchModel", "push", "(I)V"⟩, 34), (⟨"GuessFetchModel", "fetch", "(I)V"⟩, 34), (⟨"GuessFetchModel", "guess", "(I)I"⟩, 34), (⟨"GuessFetchModel", "guessesTurn", "(I)Z"⟩, 34), (⟨"GuessFetchModel", "isPlace", "(II)Z"⟩, 34), (⟨"GuessFetchModel", "tableOf", "(II)I"⟩, 34), (⟨"GuessFetchModel", "mix", "(J)V"⟩, 34)]
theorem lw_r2 : ∀ q ∈ lw_privs_2, lw_okq q := List.forall_mem_cons.mpr ⟨lw_p16, List.forall_mem_cons.mpr ⟨lw_p17, List.forall_mem_cons.mpr ⟨lw_p18, List.forall_mem_cons.mpr ⟨lw_p19, List.forall_mem_cons.mpr ⟨lw_p20, List.forall_mem_cons.mpr ⟨lw_p21, List.forall_mem_cons.mpr ⟨lw_p22, List.forall_mem_cons.mpr ⟨lw_p23, List.forall_mem_cons.mpr ⟨lw_p24, List.forall_mem_cons.mpr ⟨lw_p25, List.forall_mem_cons.mpr ⟨lw_p26, List.forall_mem_cons.mpr ⟨lw_p27, List.forall_mem_cons.mpr ⟨lw_p28, List.forall_mem_cons.mpr ⟨lw_p29, List.forall_mem_cons.mpr ⟨lw_p30, fun _ h => absurd h List.not_mem_nil⟩⟩⟩⟩⟩⟩⟩⟩⟩⟩⟩⟩⟩⟩⟩
def lw_privs : List (MethodName × Nat) := lw_privs_1 ++ (lw_privs_2)
def lw_tbl : List Cond := k2_sels lw_privs ++ tables_1
theorem lw_privs_ok : ∀ q ∈ lw_privs, lw_okq q := by
  show ∀ q ∈ lw_privs_1 ++ (lw_privs_2), lw_okq q
  exact List.forall_mem_append.mpr ⟨lw_r1, lw_r2⟩
-- ===== end of PART A; then your names; then what follows =====
end
section
/-! ===== BEGIN words of one list among another's, by their places ===== -/
theorem goodIn_r {big : List Cond} (ws : List Cond) (ps : List Nat) (hp : ws = ps.filterMap (fun i => big[i]?)) (h : ws.all goodWord = true) : GoodIn big ws := by
  intro w hw
  have h1 := List.all_eq_true.mp h w hw
  rw [hp] at hw
  obtain ⟨i, -, hi⟩ := List.mem_filterMap.mp hw
  have hm : w ∈ big := by first | exact List.mem_of_getElem? hi | exact List.getElem?_mem hi
  exact ⟨hm, good_of_word h1⟩
theorem goodIn_app {big a b : List Cond} (ha : GoodIn big a) (hb : GoodIn big b) : GoodIn big (a ++ b) := fun w h => (List.mem_append.mp h).elim (ha w) (hb w)
theorem goodIn_ca {big a b : List Cond} {c : Cond} (ha : GoodIn big (c :: a)) (hb : GoodIn big b) : GoodIn big (c :: (a ++ b)) := fun w h => (List.mem_cons.mp h).elim (fun e => ha w (List.mem_cons.mpr (Or.inl e))) (fun h => (List.mem_append.mp h).elim (fun h => ha w (List.mem_cons.mpr (Or.inr h))) (hb w))
theorem goodIn_sub {big ws : List Cond} (hm : ∀ w ∈ ws, w ∈ big) (h : ws.all goodWord = true) : GoodIn big ws := fun w hw => ⟨hm w hw, good_of_word (List.all_eq_true.mp h w hw)⟩
/-! ===== END ===== -/

/-! ===== BEGIN printed: names, fields, word lists, decode rows ===== -/
def RX0 : String := "GuessFetch$Core"
def TX0 : u_T := fun k => match k with
  | 0 => ("GuessFetch$Core", "registers", "LGuessFetch$Row;", true)
  | 1 => ("GuessFetch$Core", "memory", "LGuessFetch$Row;", true)
  | _ => ("GuessFetch$Core", "addresses", "LGuessFetch$Pile;", true)
def tyX0 : Nat → FieldType := fun k => match k with
  | 0 => .object "GuessFetch$Row"
  | 1 => .object "GuessFetch$Row"
  | _ => .object "GuessFetch$Pile"
abbrev wsX00 : List Cond := u_ws RX0 TX0 3
theorem nmX0 : ∀ a, a < 3 → ∀ b, b < 3 → a ≠ b → (TX0 a).2.1 ≠ (TX0 b).2.1 := by decide +kernel
theorem tyX0_ok : ∀ k, k < 3 → parseFieldDescriptor (TX0 k).2.2.1 = some (tyX0 k) := by decide +kernel
abbrev cX0_init : ByteArray := prog_2_method_1_code
def yX0_init : MethodName := ⟨RX0, "<init>", "()V"⟩
abbrev cX0_hasCell : ByteArray := prog_2_method_2_code
def yX0_hasCell : MethodName := ⟨RX0, "hasCell", "(I)Z"⟩
abbrev cX0_cell : ByteArray := prog_2_method_3_code
def yX0_cell : MethodName := ⟨RX0, "cell", "(I)I"⟩
abbrev cX0_setCell : ByteArray := prog_2_method_4_code
def yX0_setCell : MethodName := ⟨RX0, "setCell", "(II)I"⟩
abbrev cX0_stackSize : ByteArray := prog_2_method_5_code
def yX0_stackSize : MethodName := ⟨RX0, "stackSize", "()I"⟩
abbrev cX0_stackAddress : ByteArray := prog_2_method_6_code
def yX0_stackAddress : MethodName := ⟨RX0, "stackAddress", "(I)I"⟩
abbrev cX0_emptyStack : ByteArray := prog_2_method_7_code
def yX0_emptyStack : MethodName := ⟨RX0, "emptyStack", "()V"⟩
abbrev cX0_turns : ByteArray := prog_2_method_8_code
def yX0_turns : MethodName := ⟨RX0, "turns", "(LGuessFetch$Program;I)Z"⟩
abbrev cX0_perform : ByteArray := prog_2_method_9_code
def yX0_perform : MethodName := ⟨RX0, "perform", "(LGuessFetch$Program;I)I"⟩
def RX1 : String := "GuessFetch$Guesser"
def TX1 : u_T := fun k => match k with
  | 0 => ("GuessFetch$Guesser", "plain", "LGuessFetch$Row;", true)
  | 1 => ("GuessFetch$Guesser", "mixed", "LGuessFetch$Row;", true)
  | 2 => ("GuessFetch$Guesser", "choice", "LGuessFetch$Row;", true)
  | 3 => ("GuessFetch$Guesser", "targetAddresses", "LGuessFetch$Row;", true)
  | 4 => ("GuessFetch$Guesser", "targetKinds", "LGuessFetch$Row;", true)
  | 5 => ("GuessFetch$Guesser", "targetGoals", "LGuessFetch$Row;", true)
  | 6 => ("GuessFetch$Guesser", "returns", "LGuessFetch$Pile;", true)
  | _ => ("GuessFetch$Guesser", "history", "I", false)
def tyX1 : Nat → FieldType := fun k => match k with
  | 0 => .object "GuessFetch$Row"
  | 1 => .object "GuessFetch$Row"
  | 2 => .object "GuessFetch$Row"
  | 3 => .object "GuessFetch$Row"
  | 4 => .object "GuessFetch$Row"
  | 5 => .object "GuessFetch$Row"
  | 6 => .object "GuessFetch$Pile"
  | _ => .int
abbrev wsX10 : List Cond := u_ws RX1 TX1 8
theorem nmX1 : ∀ a, a < 8 → ∀ b, b < 8 → a ≠ b → (TX1 a).2.1 ≠ (TX1 b).2.1 := by decide +kernel
theorem tyX1_ok : ∀ k, k < 8 → parseFieldDescriptor (TX1 k).2.2.1 = some (tyX1 k) := by decide +kernel
abbrev cX1_init : ByteArray := prog_3_method_1_code
def yX1_init : MethodName := ⟨RX1, "<init>", "()V"⟩
abbrev cX1_forgetTables : ByteArray := prog_3_method_2_code
def yX1_forgetTables : MethodName := ⟨RX1, "forgetTables", "()V"⟩
abbrev cX1_history : ByteArray := prog_3_method_3_code
def yX1_history : MethodName := ⟨RX1, "history", "()I"⟩
abbrev cX1_setHistory : ByteArray := prog_3_method_4_code
def yX1_setHistory : MethodName := ⟨RX1, "setHistory", "(I)V"⟩
abbrev cX1_returns : ByteArray := prog_3_method_5_code
def yX1_returns : MethodName := ⟨RX1, "returns", "()LGuessFetch$Pile;"⟩
abbrev cX1_cell : ByteArray := prog_3_method_6_code
def yX1_cell : MethodName := ⟨RX1, "cell", "(II)I"⟩
abbrev cX1_setCell : ByteArray := prog_3_method_7_code
def yX1_setCell : MethodName := ⟨RX1, "setCell", "(III)I"⟩
abbrev cX1_row : ByteArray := prog_3_method_8_code
def yX1_row : MethodName := ⟨RX1, "row", "(I)LGuessFetch$Row;"⟩
abbrev cX1_isInTargets : ByteArray := prog_3_method_9_code
def yX1_isInTargets : MethodName := ⟨RX1, "isInTargets", "(I)Z"⟩
abbrev cX1_guess : ByteArray := prog_3_method_10_code
def yX1_guess : MethodName := ⟨RX1, "guess", "(II)I"⟩
abbrev cX1_seemsToTurn : ByteArray := prog_3_method_11_code
def yX1_seemsToTurn : MethodName := ⟨RX1, "seemsToTurn", "(II)Z"⟩
abbrev cX1_mixedPlace : ByteArray := prog_3_method_12_code
def yX1_mixedPlace : MethodName := ⟨RX1, "mixedPlace", "(II)I"⟩
abbrev cX1_tellsTurn : ByteArray := prog_3_method_13_code
def yX1_tellsTurn : MethodName := ⟨RX1, "tellsTurn", "(LGuessFetch$Row;I)Z"⟩
abbrev cX1_step : ByteArray := prog_3_method_14_code
def yX1_step : MethodName := ⟨RX1, "step", "(LGuessFetch$Row;IZ)V"⟩
abbrev cX1_noteBit : ByteArray := prog_3_method_15_code
def yX1_noteBit : MethodName := ⟨RX1, "noteBit", "(Z)V"⟩
abbrev cX1_learn : ByteArray := prog_3_method_16_code
def yX1_learn : MethodName := ⟨RX1, "learn", "(IIZ)V"⟩
abbrev cX1_noteTarget : ByteArray := prog_3_method_17_code
def yX1_noteTarget : MethodName := ⟨RX1, "noteTarget", "(III)V"⟩
abbrev cX1_noteWhatWasDone : ByteArray := prog_3_method_18_code
def yX1_noteWhatWasDone : MethodName := ⟨RX1, "noteWhatWasDone", "(IIZ)V"⟩
def RX2 : String := "GuessFetch$Pile"
def TX2 : u_T := fun k => match k with
  | 0 => ("GuessFetch$Pile", "cells", "[I", true)
  | _ => ("GuessFetch$Pile", "size", "I", false)
def tyX2 : Nat → FieldType := fun k => match k with
  | 0 => .array .int
  | _ => .int
abbrev wsX20 : List Cond := u_ws RX2 TX2 2
theorem nmX2 : ∀ a, a < 2 → ∀ b, b < 2 → a ≠ b → (TX2 a).2.1 ≠ (TX2 b).2.1 := by decide +kernel
theorem tyX2_ok : ∀ k, k < 2 → parseFieldDescriptor (TX2 k).2.2.1 = some (tyX2 k) := by decide +kernel
abbrev cX2_init : ByteArray := prog_4_method_1_code
def yX2_init : MethodName := ⟨RX2, "<init>", "(I)V"⟩
abbrev cX2_size : ByteArray := prog_4_method_2_code
def yX2_size : MethodName := ⟨RX2, "size", "()I"⟩
abbrev cX2_get : ByteArray := prog_4_method_3_code
def yX2_get : MethodName := ⟨RX2, "get", "(I)I"⟩
abbrev cX2_set : ByteArray := prog_4_method_4_code
def yX2_set : MethodName := ⟨RX2, "set", "(II)I"⟩
abbrev cX2_push : ByteArray := prog_4_method_5_code
def yX2_push : MethodName := ⟨RX2, "push", "(I)Z"⟩
abbrev cX2_pushEldestOut : ByteArray := prog_4_method_6_code
def yX2_pushEldestOut : MethodName := ⟨RX2, "pushEldestOut", "(I)V"⟩
abbrev cX2_pop : ByteArray := prog_4_method_7_code
def yX2_pop : MethodName := ⟨RX2, "pop", "()I"⟩
abbrev cX2_clear : ByteArray := prog_4_method_8_code
def yX2_clear : MethodName := ⟨RX2, "clear", "()V"⟩
abbrev cX2_has : ByteArray := prog_4_method_9_code
def yX2_has : MethodName := ⟨RX2, "has", "(I)Z"⟩
def RX3 : String := "GuessFetch$Program"
def TX3 : u_T := fun k => match k with
  | 0 => ("GuessFetch$Program", "parts", "LGuessFetch$Row;", true)
  | _ => ("GuessFetch$Program", "size", "I", false)
def tyX3 : Nat → FieldType := fun k => match k with
  | 0 => .object "GuessFetch$Row"
  | _ => .int
abbrev wsX30 : List Cond := u_ws RX3 TX3 2
theorem nmX3 : ∀ a, a < 2 → ∀ b, b < 2 → a ≠ b → (TX3 a).2.1 ≠ (TX3 b).2.1 := by decide +kernel
theorem tyX3_ok : ∀ k, k < 2 → parseFieldDescriptor (TX3 k).2.2.1 = some (tyX3 k) := by decide +kernel
abbrev cX3_init : ByteArray := prog_5_method_1_code
def yX3_init : MethodName := ⟨RX3, "<init>", "()V"⟩
abbrev cX3_size : ByteArray := prog_5_method_2_code
def yX3_size : MethodName := ⟨RX3, "size", "()I"⟩
abbrev cX3_has : ByteArray := prog_5_method_3_code
def yX3_has : MethodName := ⟨RX3, "has", "(I)Z"⟩
abbrev cX3_part : ByteArray := prog_5_method_4_code
def yX3_part : MethodName := ⟨RX3, "part", "(II)I"⟩
abbrev cX3_add : ByteArray := prog_5_method_5_code
def yX3_add : MethodName := ⟨RX3, "add", "(IIII)Z"⟩
abbrev cX3_clear : ByteArray := prog_5_method_6_code
def yX3_clear : MethodName := ⟨RX3, "clear", "()I"⟩
def RX4 : String := "GuessFetch$Queue"
def TX4 : u_T := fun k => match k with
  | 0 => ("GuessFetch$Queue", "addresses", "LGuessFetch$Row;", true)
  | 1 => ("GuessFetch$Queue", "guesses", "LGuessFetch$Row;", true)
  | 2 => ("GuessFetch$Queue", "cycles", "LGuessFetch$Row;", true)
  | 3 => ("GuessFetch$Queue", "histories", "LGuessFetch$Row;", true)
  | 4 => ("GuessFetch$Queue", "returnsSizes", "LGuessFetch$Row;", true)
  | 5 => ("GuessFetch$Queue", "returns", "LGuessFetch$Row;", true)
  | 6 => ("GuessFetch$Queue", "first", "I", false)
  | _ => ("GuessFetch$Queue", "size", "I", false)
def tyX4 : Nat → FieldType := fun k => match k with
  | 0 => .object "GuessFetch$Row"
  | 1 => .object "GuessFetch$Row"
  | 2 => .object "GuessFetch$Row"
  | 3 => .object "GuessFetch$Row"
  | 4 => .object "GuessFetch$Row"
  | 5 => .object "GuessFetch$Row"
  | 6 => .int
  | _ => .int
abbrev wsX40 : List Cond := u_ws RX4 TX4 8
theorem nmX4 : ∀ a, a < 8 → ∀ b, b < 8 → a ≠ b → (TX4 a).2.1 ≠ (TX4 b).2.1 := by decide +kernel
theorem tyX4_ok : ∀ k, k < 8 → parseFieldDescriptor (TX4 k).2.2.1 = some (tyX4 k) := by decide +kernel
abbrev cX4_init : ByteArray := prog_6_method_1_code
def yX4_init : MethodName := ⟨RX4, "<init>", "()V"⟩
abbrev cX4_size : ByteArray := prog_6_method_2_code
def yX4_size : MethodName := ⟨RX4, "size", "()I"⟩
abbrev cX4_clear : ByteArray := prog_6_method_3_code
def yX4_clear : MethodName := ⟨RX4, "clear", "()V"⟩
abbrev cX4_address : ByteArray := prog_6_method_4_code
def yX4_address : MethodName := ⟨RX4, "address", "(I)I"⟩
abbrev cX4_isEldestOf : ByteArray := prog_6_method_5_code
def yX4_isEldestOf : MethodName := ⟨RX4, "isEldestOf", "(I)Z"⟩
abbrev cX4_takeEldest : ByteArray := prog_6_method_6_code
def yX4_takeEldest : MethodName := ⟨RX4, "takeEldest", "()I"⟩
abbrev cX4_addressOf : ByteArray := prog_6_method_7_code
def yX4_addressOf : MethodName := ⟨RX4, "addressOf", "(I)I"⟩
abbrev cX4_guessOf : ByteArray := prog_6_method_8_code
def yX4_guessOf : MethodName := ⟨RX4, "guessOf", "(I)I"⟩
abbrev cX4_historyOf : ByteArray := prog_6_method_9_code
def yX4_historyOf : MethodName := ⟨RX4, "historyOf", "(I)I"⟩
abbrev cX4_setGuess : ByteArray := prog_6_method_10_code
def yX4_setGuess : MethodName := ⟨RX4, "setGuess", "(II)V"⟩
abbrev cX4_add : ByteArray := prog_6_method_11_code
def yX4_add : MethodName := ⟨RX4, "add", "(II)I"⟩
abbrev cX4_keep : ByteArray := prog_6_method_12_code
def yX4_keep : MethodName := ⟨RX4, "keep", "(IILGuessFetch$Pile;)V"⟩
abbrev cX4_giveReturnsBack : ByteArray := prog_6_method_13_code
def yX4_giveReturnsBack : MethodName := ⟨RX4, "giveReturnsBack", "(ILGuessFetch$Pile;)V"⟩
def RX5 : String := "GuessFetch$Row"
def TX5 : u_T := fun k => match k with
  | _ => ("GuessFetch$Row", "cells", "[I", true)
def tyX5 : Nat → FieldType := fun k => match k with
  | _ => .array .int
abbrev wsX50 : List Cond := u_ws RX5 TX5 1
theorem nmX5 : ∀ a, a < 1 → ∀ b, b < 1 → a ≠ b → (TX5 a).2.1 ≠ (TX5 b).2.1 := by decide +kernel
theorem tyX5_ok : ∀ k, k < 1 → parseFieldDescriptor (TX5 k).2.2.1 = some (tyX5 k) := by decide +kernel
abbrev cX5_init : ByteArray := prog_7_method_1_code
def yX5_init : MethodName := ⟨RX5, "<init>", "(I)V"⟩
abbrev cX5_get : ByteArray := prog_7_method_2_code
def yX5_get : MethodName := ⟨RX5, "get", "(I)I"⟩
abbrev cX5_set : ByteArray := prog_7_method_3_code
def yX5_set : MethodName := ⟨RX5, "set", "(II)I"⟩
abbrev cX5_add : ByteArray := prog_7_method_4_code
def yX5_add : MethodName := ⟨RX5, "add", "(II)V"⟩
abbrev cX5_fill : ByteArray := prog_7_method_5_code
def yX5_fill : MethodName := ⟨RX5, "fill", "(I)V"⟩
def RX6 : String := "GuessFetch"
def TX6 : u_T := fun k => match k with
  | 0 => ("GuessFetch", "program", "LGuessFetch$Program;", true)
  | 1 => ("GuessFetch", "core", "LGuessFetch$Core;", true)
  | 2 => ("GuessFetch", "guesser", "LGuessFetch$Guesser;", true)
  | 3 => ("GuessFetch", "queue", "LGuessFetch$Queue;", true)
  | 4 => ("GuessFetch", "counts", "LGuessFetch$Row;", true)
  | 5 => ("GuessFetch", "doneAddresses", "LGuessFetch$Pile;", true)
  | 6 => ("GuessFetch", "guessWay", "I", false)
  | 7 => ("GuessFetch", "guessDepth", "I", false)
  | 8 => ("GuessFetch", "place", "I", false)
  | _ => ("GuessFetch", "runState", "I", false)
def tyX6 : Nat → FieldType := fun k => match k with
  | 0 => .object "GuessFetch$Program"
  | 1 => .object "GuessFetch$Core"
  | 2 => .object "GuessFetch$Guesser"
  | 3 => .object "GuessFetch$Queue"
  | 4 => .object "GuessFetch$Row"
  | 5 => .object "GuessFetch$Pile"
  | 6 => .int
  | 7 => .int
  | 8 => .int
  | _ => .int
abbrev wsX60 : List Cond := u_ws RX6 TX6 10
theorem nmX6 : ∀ a, a < 10 → ∀ b, b < 10 → a ≠ b → (TX6 a).2.1 ≠ (TX6 b).2.1 := by decide +kernel
theorem tyX6_ok : ∀ k, k < 10 → parseFieldDescriptor (TX6 k).2.2.1 = some (tyX6 k) := by decide +kernel
abbrev cX6_init : ByteArray := prog_1_method_1_code
def yX6_init : MethodName := ⟨RX6, "<init>", "()V"⟩
abbrev cX6_act : ByteArray := prog_1_method_2_code
def yX6_act : MethodName := ⟨RX6, "act", "(IIII)I"⟩
abbrev cX6_wipe : ByteArray := prog_1_method_3_code
def yX6_wipe : MethodName := ⟨RX6, "wipe", "()I"⟩
abbrev cX6_put : ByteArray := prog_1_method_4_code
def yX6_put : MethodName := ⟨RX6, "put", "(II)J"⟩
abbrev cX6_way : ByteArray := prog_1_method_5_code
def yX6_way : MethodName := ⟨RX6, "way", "(II)I"⟩
abbrev cX6_begin : ByteArray := prog_1_method_6_code
def yX6_begin : MethodName := ⟨RX6, "begin", "()I"⟩
abbrev cX6_run : ByteArray := prog_1_method_7_code
def yX6_run : MethodName := ⟨RX6, "run", "(I)I"⟩
abbrev cX6_stop : ByteArray := prog_1_method_8_code
def yX6_stop : MethodName := ⟨RX6, "stop", "()I"⟩
abbrev cX6_ended : ByteArray := prog_1_method_9_code
def yX6_ended : MethodName := ⟨RX6, "ended", "()I"⟩
abbrev cX6_harm : ByteArray := prog_1_method_10_code
def yX6_harm : MethodName := ⟨RX6, "harm", "(III)I"⟩
abbrev cX6_forget : ByteArray := prog_1_method_11_code
def yX6_forget : MethodName := ⟨RX6, "forget", "()I"⟩
abbrev cX6_table : ByteArray := prog_1_method_12_code
def yX6_table : MethodName := ⟨RX6, "table", "(II)I"⟩
abbrev cX6_value : ByteArray := prog_1_method_13_code
def yX6_value : MethodName := ⟨RX6, "value", "(I)J"⟩
abbrev cX6_stack : ByteArray := prog_1_method_14_code
def yX6_stack : MethodName := ⟨RX6, "stack", "(I)I"⟩
abbrev cX6_done : ByteArray := prog_1_method_15_code
def yX6_done : MethodName := ⟨RX6, "done", "(I)I"⟩
abbrev cX6_fetched : ByteArray := prog_1_method_16_code
def yX6_fetched : MethodName := ⟨RX6, "fetched", "(I)I"⟩
abbrev cX6_known : ByteArray := prog_1_method_17_code
def yX6_known : MethodName := ⟨RX6, "known", "()I"⟩
abbrev cX6_told : ByteArray := prog_1_method_18_code
def yX6_told : MethodName := ⟨RX6, "told", "(II)I"⟩
abbrev cX6_count : ByteArray := prog_1_method_19_code
def yX6_count : MethodName := ⟨RX6, "count", "(I)I"⟩
abbrev cX6_digest : ByteArray := prog_1_method_20_code
def yX6_digest : MethodName := ⟨RX6, "digest", "()J"⟩
abbrev cX6_digestOfTables : ByteArray := prog_1_method_21_code
def yX6_digestOfTables : MethodName := ⟨RX6, "digestOfTables", "(J)J"⟩
abbrev cX6_isUnderWay : ByteArray := prog_1_method_22_code
def yX6_isUnderWay : MethodName := ⟨RX6, "isUnderWay", "()Z"⟩
abbrev cX6_passCycle : ByteArray := prog_1_method_23_code
def yX6_passCycle : MethodName := ⟨RX6, "passCycle", "()V"⟩
abbrev cX6_fetchAtPlace : ByteArray := prog_1_method_24_code
def yX6_fetchAtPlace : MethodName := ⟨RX6, "fetchAtPlace", "()V"⟩
abbrev cX6_finishEldest : ByteArray := prog_1_method_25_code
def yX6_finishEldest : MethodName := ⟨RX6, "finishEldest", "()V"⟩
abbrev cX6_noteDone : ByteArray := prog_1_method_26_code
def yX6_noteDone : MethodName := ⟨RX6, "noteDone", "(II)V"⟩
abbrev cX6_goBack : ByteArray := prog_1_method_27_code
def yX6_goBack : MethodName := ⟨RX6, "goBack", "(IIZI)V"⟩
abbrev cX6_dropFetched : ByteArray := prog_1_method_28_code
def yX6_dropFetched : MethodName := ⟨RX6, "dropFetched", "()V"⟩
abbrev cX6_endRun : ByteArray := prog_1_method_29_code
def yX6_endRun : MethodName := ⟨RX6, "endRun", "(I)V"⟩
abbrev cX6_isWithin : ByteArray := prog_1_method_30_code
def yX6_isWithin : MethodName := ⟨RX6, "isWithin", "(III)Z"⟩
abbrev cX6_isBranch : ByteArray := prog_1_method_31_code
def yX6_isBranch : MethodName := ⟨RX6, "isBranch", "(I)Z"⟩
abbrev cX6_isTurn : ByteArray := prog_1_method_32_code
def yX6_isTurn : MethodName := ⟨RX6, "isTurn", "(I)Z"⟩
abbrev cX6_isTablePlace : ByteArray := prog_1_method_33_code
def yX6_isTablePlace : MethodName := ⟨RX6, "isTablePlace", "(II)Z"⟩
abbrev cX6_isTableValue : ByteArray := prog_1_method_34_code
def yX6_isTableValue : MethodName := ⟨RX6, "isTableValue", "(II)Z"⟩
def RX7 : String := "GuessFetchModel"
def TX7 : u_T := fun k => match k with
  | 0 => ("GuessFetchModel", "acts", "I", false)
  | 1 => ("GuessFetchModel", "kinds", "[I", true)
  | 2 => ("GuessFetchModel", "as", "[I", true)
  | 3 => ("GuessFetchModel", "bs", "[I", true)
  | 4 => ("GuessFetchModel", "cs", "[I", true)
  | 5 => ("GuessFetchModel", "registers", "[I", true)
  | 6 => ("GuessFetchModel", "memory", "[I", true)
  | 7 => ("GuessFetchModel", "stack", "[I", true)
  | 8 => ("GuessFetchModel", "deep", "I", false)
  | 9 => ("GuessFetchModel", "way", "I", false)
  | 10 => ("GuessFetchModel", "depth", "I", false)
  | 11 => ("GuessFetchModel", "plain", "[I", true)
  | 12 => ("GuessFetchModel", "mixed", "[I", true)
  | 13 => ("GuessFetchModel", "choice", "[I", true)
  | 14 => ("GuessFetchModel", "history", "I", false)
  | 15 => ("GuessFetchModel", "targetAt", "[I", true)
  | 16 => ("GuessFetchModel", "targetKind", "[I", true)
  | 17 => ("GuessFetchModel", "target", "[I", true)
  | 18 => ("GuessFetchModel", "returns", "[I", true)
  | 19 => ("GuessFetchModel", "returned", "I", false)
  | 20 => ("GuessFetchModel", "fetched", "I", false)
  | 21 => ("GuessFetchModel", "fetchAt", "[I", true)
  | 22 => ("GuessFetchModel", "fetchCycle", "[I", true)
  | 23 => ("GuessFetchModel", "fetchGuess", "[I", true)
  | 24 => ("GuessFetchModel", "fetchHistory", "[I", true)
  | 25 => ("GuessFetchModel", "fetchReturned", "[I", true)
  | 26 => ("GuessFetchModel", "fetchReturns", "[I", true)
  | 27 => ("GuessFetchModel", "runs", "Z", false)
  | 28 => ("GuessFetchModel", "ended", "I", false)
  | 29 => ("GuessFetchModel", "place", "I", false)
  | 30 => ("GuessFetchModel", "counts", "[I", true)
  | 31 => ("GuessFetchModel", "doneAt", "[I", true)
  | 32 => ("GuessFetchModel", "keptReturns", "[I", true)
  | _ => ("GuessFetchModel", "h", "J", false)
def tyX7 : Nat → FieldType := fun k => match k with
  | 0 => .int
  | 1 => .array .int
  | 2 => .array .int
  | 3 => .array .int
  | 4 => .array .int
  | 5 => .array .int
  | 6 => .array .int
  | 7 => .array .int
  | 8 => .int
  | 9 => .int
  | 10 => .int
  | 11 => .array .int
  | 12 => .array .int
  | 13 => .array .int
  | 14 => .int
  | 15 => .array .int
  | 16 => .array .int
  | 17 => .array .int
  | 18 => .array .int
  | 19 => .int
  | 20 => .int
  | 21 => .array .int
  | 22 => .array .int
  | 23 => .array .int
  | 24 => .array .int
  | 25 => .array .int
  | 26 => .array .int
  | 27 => .boolean
  | 28 => .int
  | 29 => .int
  | 30 => .array .int
  | 31 => .array .int
  | 32 => .array .int
  | _ => .long
abbrev wsX70 : List Cond := u_ws RX7 TX7 34
theorem nmX7 : ∀ a, a < 34 → ∀ b, b < 34 → a ≠ b → (TX7 a).2.1 ≠ (TX7 b).2.1 := by decide +kernel
theorem tyX7_ok : ∀ k, k < 34 → parseFieldDescriptor (TX7 k).2.2.1 = some (tyX7 k) := by decide +kernel
abbrev cX7_init : ByteArray := prog_9_method_1_code
def yX7_init : MethodName := ⟨RX7, "<init>", "()V"⟩
abbrev cX7_in : ByteArray := prog_9_method_3_code
def yX7_in : MethodName := ⟨RX7, "in", "(III)Z"⟩
abbrev cX7_first : ByteArray := prog_9_method_4_code
def yX7_first : MethodName := ⟨RX7, "first", "()V"⟩
abbrev cX7_act : ByteArray := prog_9_method_5_code
def yX7_act : MethodName := ⟨RX7, "act", "(IIII)I"⟩
abbrev cX7_wipe : ByteArray := prog_9_method_6_code
def yX7_wipe : MethodName := ⟨RX7, "wipe", "()I"⟩
abbrev cX7_put : ByteArray := prog_9_method_7_code
def yX7_put : MethodName := ⟨RX7, "put", "(II)J"⟩
abbrev cX7_valueOf : ByteArray := prog_9_method_8_code
def yX7_valueOf : MethodName := ⟨RX7, "valueOf", "(I)J"⟩
abbrev cX7_way : ByteArray := prog_9_method_9_code
def yX7_way : MethodName := ⟨RX7, "way", "(II)I"⟩
abbrev cX7_begin : ByteArray := prog_9_method_10_code
def yX7_begin : MethodName := ⟨RX7, "begin", "()I"⟩
abbrev cX7_finish : ByteArray := prog_9_method_11_code
def yX7_finish : MethodName := ⟨RX7, "finish", "(I)V"⟩
abbrev cX7_more : ByteArray := prog_9_method_12_code
def yX7_more : MethodName := ⟨RX7, "more", "(IZ)I"⟩
abbrev cX7_push : ByteArray := prog_9_method_13_code
def yX7_push : MethodName := ⟨RX7, "push", "(I)V"⟩
abbrev cX7_bit : ByteArray := prog_9_method_14_code
def yX7_bit : MethodName := ⟨RX7, "bit", "(Z)V"⟩
abbrev cX7_mixedAt : ByteArray := prog_9_method_15_code
def yX7_mixedAt : MethodName := ⟨RX7, "mixedAt", "(II)I"⟩
abbrev cX7_guessesTurn : ByteArray := prog_9_method_16_code
def yX7_guessesTurn : MethodName := ⟨RX7, "guessesTurn", "(I)Z"⟩
abbrev cX7_guess : ByteArray := prog_9_method_17_code
def yX7_guess : MethodName := ⟨RX7, "guess", "(I)I"⟩
abbrev cX7_fetch : ByteArray := prog_9_method_18_code
def yX7_fetch : MethodName := ⟨RX7, "fetch", "(I)V"⟩
abbrev cX7_dropFirst : ByteArray := prog_9_method_19_code
def yX7_dropFirst : MethodName := ⟨RX7, "dropFirst", "()V"⟩
abbrev cX7_does : ByteArray := prog_9_method_20_code
def yX7_does : MethodName := ⟨RX7, "does", "(I)I"⟩
abbrev cX7_turned : ByteArray := prog_9_method_21_code
def yX7_turned : MethodName := ⟨RX7, "turned", "(I)Z"⟩
abbrev cX7_learn : ByteArray := prog_9_method_22_code
def yX7_learn : MethodName := ⟨RX7, "learn", "(IZI)V"⟩
abbrev cX7_finishFirst : ByteArray := prog_9_method_23_code
def yX7_finishFirst : MethodName := ⟨RX7, "finishFirst", "()V"⟩
abbrev cX7_cycle : ByteArray := prog_9_method_24_code
def yX7_cycle : MethodName := ⟨RX7, "cycle", "()V"⟩
abbrev cX7_run : ByteArray := prog_9_method_25_code
def yX7_run : MethodName := ⟨RX7, "run", "(I)I"⟩
abbrev cX7_stop : ByteArray := prog_9_method_26_code
def yX7_stop : MethodName := ⟨RX7, "stop", "()I"⟩
abbrev cX7_ended : ByteArray := prog_9_method_27_code
def yX7_ended : MethodName := ⟨RX7, "ended", "()I"⟩
abbrev cX7_tableOf : ByteArray := prog_9_method_28_code
def yX7_tableOf : MethodName := ⟨RX7, "tableOf", "(II)I"⟩
abbrev cX7_isPlace : ByteArray := prog_9_method_29_code
def yX7_isPlace : MethodName := ⟨RX7, "isPlace", "(II)Z"⟩
abbrev cX7_harm : ByteArray := prog_9_method_30_code
def yX7_harm : MethodName := ⟨RX7, "harm", "(III)I"⟩
abbrev cX7_forget : ByteArray := prog_9_method_31_code
def yX7_forget : MethodName := ⟨RX7, "forget", "()I"⟩
abbrev cX7_table : ByteArray := prog_9_method_32_code
def yX7_table : MethodName := ⟨RX7, "table", "(II)I"⟩
abbrev cX7_value : ByteArray := prog_9_method_33_code
def yX7_value : MethodName := ⟨RX7, "value", "(I)J"⟩
abbrev cX7_stack : ByteArray := prog_9_method_34_code
def yX7_stack : MethodName := ⟨RX7, "stack", "(I)I"⟩
abbrev cX7_done : ByteArray := prog_9_method_35_code
def yX7_done : MethodName := ⟨RX7, "done", "(I)I"⟩
abbrev cX7_fetched : ByteArray := prog_9_method_36_code
def yX7_fetched : MethodName := ⟨RX7, "fetched", "(I)I"⟩
abbrev cX7_known : ByteArray := prog_9_method_37_code
def yX7_known : MethodName := ⟨RX7, "known", "()I"⟩
abbrev cX7_told : ByteArray := prog_9_method_38_code
def yX7_told : MethodName := ⟨RX7, "told", "(II)I"⟩
abbrev cX7_count : ByteArray := prog_9_method_39_code
def yX7_count : MethodName := ⟨RX7, "count", "(I)I"⟩
abbrev cX7_mix : ByteArray := prog_9_method_40_code
def yX7_mix : MethodName := ⟨RX7, "mix", "(J)V"⟩
abbrev cX7_digest : ByteArray := prog_9_method_41_code
def yX7_digest : MethodName := ⟨RX7, "digest", "()J"⟩
def RJ9 : String := "java/lang/Math"
def TJ9 : u_T := fun k => match k with
  | _ => ("", "", "", false)
def tyJ9 : Nat → FieldType := fun k => match k with
  | _ => .int
abbrev wsJ90 : List Cond := u_ws RJ9 TJ9 0
theorem nmJ9 : ∀ a, a < 0 → ∀ b, b < 0 → a ≠ b → (TJ9 a).2.1 ≠ (TJ9 b).2.1 := by decide +kernel
theorem tyJ9_ok : ∀ k, k < 0 → parseFieldDescriptor (TJ9 k).2.2.1 = some (tyJ9 k) := by decide +kernel
abbrev cJ9_max_7cf53 : ByteArray := prog_10_method_65_code
def yJ9_max_7cf53 : MethodName := ⟨RJ9, "max", "(II)I"⟩
abbrev cJ9_min_7cf53 : ByteArray := prog_10_method_69_code
def yJ9_min_7cf53 : MethodName := ⟨RJ9, "min", "(II)I"⟩
def RL : String := "GuessFetchLaw"
abbrev cL_law : ByteArray := code
def yL_law : MethodName := ⟨RL, "law", "([I)Z"⟩
def wsX5_init : List Cond := .code yX5_init cX5_init 2 none :: ([.methodLink RX5 1 objectInit, .instanceMethod objectInit, .code objectInit ⟨#[0xb1]⟩ 1 none, .methodLink RX5 7 Lib.Math.max.name, .static Lib.Math.max.name, .initialized "java/lang/Math", .code Lib.Math.max.name Lib.Math.max.code 2 (some .int), .arrayClass .int, .fieldLink RX5 13 "GuessFetch$Row" "cells" "[I"] ++ wsX50)
def wsX2_init : List Cond := .code yX2_init cX2_init 2 none :: ([.methodLink RX2 3 objectInit, .instanceMethod objectInit, .code objectInit ⟨#[0xb1]⟩ 1 none, .fieldLink RX2 9 "GuessFetch$Pile" "size" "I", .methodLink RX2 15 Lib.Math.max.name, .static Lib.Math.max.name, .initialized "java/lang/Math", .code Lib.Math.max.name Lib.Math.max.code 2 (some .int), .arrayClass .int, .fieldLink RX2 21 "GuessFetch$Pile" "cells" "[I"] ++ wsX20)
def wsX0_init_r1 : List Cond := [Cond.methodLink RX0 3 objectInit, Cond.instanceMethod objectInit, Cond.code objectInit ⟨#[0xb1]⟩ 1 none, Cond.classLink RX0 9 RX5, Cond.instantiable RX5 1, Cond.initialized RX5, Cond.fieldLink RX0 14 "GuessFetch$Core" "registers" "LGuessFetch$Row;", Cond.fieldLink RX0 20 "GuessFetch$Core" "memory" "LGuessFetch$Row;", Cond.classLink RX0 23 RX2, Cond.instantiable RX2 2, Cond.initialized RX2, Cond.fieldLink RX0 26 "GuessFetch$Core" "addresses" "LGuessFetch$Pile;", Cond.methodLink RX0 11 yX5_init, Cond.instanceMethod yX5_init, Cond.code yX5_init cX5_init 2 none, Cond.methodLink RX5 1 objectInit, Cond.methodLink RX5 7 Lib.Math.max.name, Cond.static Lib.Math.max.name, Cond.initialized "java/lang/Math", Cond.code Lib.Math.max.name Lib.Math.max.code 2 (some .int), Cond.arrayClass .int, Cond.fieldLink RX5 13 "GuessFetch$Row" "cells" "[I", Cond.methodLink RX0 25 yX2_init, Cond.instanceMethod yX2_init]
def wsX0_init_r2 : List Cond := [Cond.code yX2_init cX2_init 2 none, Cond.methodLink RX2 3 objectInit, Cond.fieldLink RX2 9 "GuessFetch$Pile" "size" "I", Cond.methodLink RX2 15 Lib.Math.max.name, Cond.fieldLink RX2 21 "GuessFetch$Pile" "cells" "[I"]
def wsX0_init : List Cond := .code yX0_init cX0_init 1 none :: ((wsX0_init_r1 ++ wsX0_init_r2) ++ wsX50 ++ wsX00 ++ wsX20)
def wsX0_hasCell : List Cond := .code yX0_hasCell cX0_hasCell 2 (some .boolean) :: ([])
def wsX5_get : List Cond := .code yX5_get cX5_get 2 (some .int) :: ([.fieldLink RX5 13 "GuessFetch$Row" "cells" "[I"] ++ wsX50)
def wsX0_cell : List Cond := .code yX0_cell cX0_cell 2 (some .int) :: ([.fieldLink RX0 14 "GuessFetch$Core" "registers" "LGuessFetch$Row;", .fieldLink RX0 20 "GuessFetch$Core" "memory" "LGuessFetch$Row;", .methodLink RX0 30 yX5_get, .instanceMethod yX5_get, .selects RX5 yX5_get yX5_get, .initialized RX5, .code yX5_get cX5_get 2 (some .int), .fieldLink RX5 13 "GuessFetch$Row" "cells" "[I"] ++ wsX00 ++ wsX50)
def wsX5_set : List Cond := .code yX5_set cX5_set 4 (some .int) :: ([.fieldLink RX5 13 "GuessFetch$Row" "cells" "[I"] ++ wsX50)
def wsX0_setCell : List Cond := .code yX0_setCell cX0_setCell 3 (some .int) :: ([.fieldLink RX0 14 "GuessFetch$Core" "registers" "LGuessFetch$Row;", .fieldLink RX0 20 "GuessFetch$Core" "memory" "LGuessFetch$Row;", .methodLink RX0 34 yX5_set, .instanceMethod yX5_set, .selects RX5 yX5_set yX5_set, .initialized RX5, .code yX5_set cX5_set 4 (some .int), .fieldLink RX5 13 "GuessFetch$Row" "cells" "[I"] ++ wsX00 ++ wsX50)
def wsX2_size : List Cond := .code yX2_size cX2_size 1 (some .int) :: ([.fieldLink RX2 9 "GuessFetch$Pile" "size" "I"] ++ wsX20)
def wsX0_stackSize : List Cond := .code yX0_stackSize cX0_stackSize 1 (some .int) :: ([.fieldLink RX0 26 "GuessFetch$Core" "addresses" "LGuessFetch$Pile;", .methodLink RX0 38 yX2_size, .instanceMethod yX2_size, .selects RX2 yX2_size yX2_size, .initialized RX2, .code yX2_size cX2_size 1 (some .int), .fieldLink RX2 9 "GuessFetch$Pile" "size" "I"] ++ wsX00 ++ wsX20)
def wsX2_has : List Cond := .code yX2_has cX2_has 2 (some .boolean) :: ([.fieldLink RX2 9 "GuessFetch$Pile" "size" "I", .fieldLink RX2 21 "GuessFetch$Pile" "cells" "[I"] ++ wsX20)
def wsX2_get : List Cond := .code yX2_get cX2_get 2 (some .int) :: ([.fieldLink RX2 21 "GuessFetch$Pile" "cells" "[I", .methodLink RX2 25 yX2_has, .instanceMethod yX2_has, .selects RX2 yX2_has yX2_has, .initialized RX2, .code yX2_has cX2_has 2 (some .boolean), .fieldLink RX2 9 "GuessFetch$Pile" "size" "I"] ++ wsX20)
def wsX0_stackAddress : List Cond := .code yX0_stackAddress cX0_stackAddress 2 (some .int) :: ([.fieldLink RX0 26 "GuessFetch$Core" "addresses" "LGuessFetch$Pile;", .methodLink RX0 42 yX2_get, .instanceMethod yX2_get, .selects RX2 yX2_get yX2_get, .initialized RX2, .code yX2_get cX2_get 2 (some .int), .fieldLink RX2 21 "GuessFetch$Pile" "cells" "[I", .methodLink RX2 25 yX2_has, .instanceMethod yX2_has, .selects RX2 yX2_has yX2_has, .code yX2_has cX2_has 2 (some .boolean), .fieldLink RX2 9 "GuessFetch$Pile" "size" "I"] ++ wsX00 ++ wsX20)
def wsX2_clear : List Cond := .code yX2_clear cX2_clear 1 none :: ([.fieldLink RX2 9 "GuessFetch$Pile" "size" "I"] ++ wsX20)
def wsX0_emptyStack : List Cond := .code yX0_emptyStack cX0_emptyStack 1 none :: ([.fieldLink RX0 26 "GuessFetch$Core" "addresses" "LGuessFetch$Pile;", .methodLink RX0 43 yX2_clear, .instanceMethod yX2_clear, .selects RX2 yX2_clear yX2_clear, .initialized RX2, .code yX2_clear cX2_clear 1 none, .fieldLink RX2 9 "GuessFetch$Pile" "size" "I"] ++ wsX00 ++ wsX20)
def wsX3_part : List Cond := .code yX3_part cX3_part 3 (some .int) :: ([.fieldLink RX3 14 "GuessFetch$Program" "parts" "LGuessFetch$Row;", .methodLink RX3 24 yX5_get, .instanceMethod yX5_get, .selects RX5 yX5_get yX5_get, .initialized RX5, .code yX5_get cX5_get 2 (some .int), .fieldLink RX5 13 "GuessFetch$Row" "cells" "[I"] ++ wsX30 ++ wsX50)
def wsX6_isWithin : List Cond := .code yX6_isWithin cX6_isWithin 3 (some .boolean) :: ([])
def wsX6_isTurn : List Cond := .code yX6_isTurn cX6_isTurn 1 (some .boolean) :: ([.methodLink RX6 66 yX6_isWithin, .static yX6_isWithin, .initialized RX6, .code yX6_isWithin cX6_isWithin 3 (some .boolean)])
def wsX0_turns : List Cond := .code yX0_turns cX0_turns 6 (some .boolean) :: ([.fieldLink RX0 14 "GuessFetch$Core" "registers" "LGuessFetch$Row;", .methodLink RX0 46 yX3_part, .instanceMethod yX3_part, .selects RX3 yX3_part yX3_part, .initialized RX3, .code yX3_part cX3_part 3 (some .int), .fieldLink RX3 14 "GuessFetch$Program" "parts" "LGuessFetch$Row;", .methodLink RX3 24 yX5_get, .instanceMethod yX5_get, .selects RX5 yX5_get yX5_get, .initialized RX5, .code yX5_get cX5_get 2 (some .int), .fieldLink RX5 13 "GuessFetch$Row" "cells" "[I", .methodLink RX0 30 yX5_get, .static yX6_isTurn, .initialized RX6, .code yX6_isTurn cX6_isTurn 1 (some .boolean), .methodLink RX6 66 yX6_isWithin, .static yX6_isWithin, .code yX6_isWithin cX6_isWithin 3 (some .boolean)] ++ wsX00 ++ wsX30 ++ wsX50)
def wsX2_push : List Cond := .code yX2_push cX2_push 2 (some .boolean) :: ([.fieldLink RX2 9 "GuessFetch$Pile" "size" "I", .fieldLink RX2 21 "GuessFetch$Pile" "cells" "[I"] ++ wsX20)
def wsX2_pop : List Cond := .code yX2_pop cX2_pop 2 (some .int) :: ([.fieldLink RX2 9 "GuessFetch$Pile" "size" "I", .methodLink RX2 15 Lib.Math.max.name, .static Lib.Math.max.name, .initialized "java/lang/Math", .code Lib.Math.max.name Lib.Math.max.code 2 (some .int), .methodLink RX2 32 yX2_get, .instanceMethod yX2_get, .selects RX2 yX2_get yX2_get, .initialized RX2, .code yX2_get cX2_get 2 (some .int), .fieldLink RX2 21 "GuessFetch$Pile" "cells" "[I", .methodLink RX2 25 yX2_has, .instanceMethod yX2_has, .selects RX2 yX2_has yX2_has, .code yX2_has cX2_has 2 (some .boolean)] ++ wsX20)
def wsX3_size : List Cond := .code yX3_size cX3_size 1 (some .int) :: ([.fieldLink RX3 20 "GuessFetch$Program" "size" "I"] ++ wsX30)
def wsX0_perform_r1 : List Cond := [Cond.fieldLink RX0 14 "GuessFetch$Core" "registers" "LGuessFetch$Row;", Cond.fieldLink RX0 20 "GuessFetch$Core" "memory" "LGuessFetch$Row;", Cond.fieldLink RX0 26 "GuessFetch$Core" "addresses" "LGuessFetch$Pile;", Cond.constant RX0 62 (2147483647), Cond.methodLink RX0 46 yX3_part, Cond.instanceMethod yX3_part, Cond.selects RX3 yX3_part yX3_part, Cond.initialized RX3, Cond.code yX3_part cX3_part 3 (some .int), Cond.fieldLink RX3 14 "GuessFetch$Program" "parts" "LGuessFetch$Row;", Cond.methodLink RX3 24 yX5_get, Cond.instanceMethod yX5_get, Cond.selects RX5 yX5_get yX5_get, Cond.initialized RX5, Cond.code yX5_get cX5_get 2 (some .int), Cond.fieldLink RX5 13 "GuessFetch$Row" "cells" "[I", Cond.methodLink RX0 30 yX5_get, Cond.methodLink RX0 34 yX5_set, Cond.instanceMethod yX5_set, Cond.selects RX5 yX5_set yX5_set, Cond.code yX5_set cX5_set 4 (some .int), Cond.methodLink RX0 55 yX2_push, Cond.instanceMethod yX2_push, Cond.selects RX2 yX2_push yX2_push]
def wsX0_perform_r2 : List Cond := [Cond.initialized RX2, Cond.code yX2_push cX2_push 2 (some .boolean), Cond.fieldLink RX2 9 "GuessFetch$Pile" "size" "I", Cond.fieldLink RX2 21 "GuessFetch$Pile" "cells" "[I", Cond.methodLink RX0 58 yX2_pop, Cond.instanceMethod yX2_pop, Cond.selects RX2 yX2_pop yX2_pop, Cond.code yX2_pop cX2_pop 2 (some .int), Cond.methodLink RX2 15 Lib.Math.max.name, Cond.static Lib.Math.max.name, Cond.initialized "java/lang/Math", Cond.code Lib.Math.max.name Lib.Math.max.code 2 (some .int), Cond.methodLink RX2 32 yX2_get, Cond.instanceMethod yX2_get, Cond.selects RX2 yX2_get yX2_get, Cond.code yX2_get cX2_get 2 (some .int), Cond.methodLink RX2 25 yX2_has, Cond.instanceMethod yX2_has, Cond.selects RX2 yX2_has yX2_has, Cond.code yX2_has cX2_has 2 (some .boolean), Cond.methodLink RX0 61 yX3_size, Cond.instanceMethod yX3_size, Cond.selects RX3 yX3_size yX3_size, Cond.code yX3_size cX3_size 1 (some .int)]
def wsX0_perform_r3 : List Cond := [Cond.fieldLink RX3 20 "GuessFetch$Program" "size" "I"]
def wsX0_perform : List Cond := .code yX0_perform cX0_perform 7 (some .int) :: ((wsX0_perform_r1 ++ (wsX0_perform_r2 ++ wsX0_perform_r3)) ++ wsX00 ++ wsX30 ++ wsX50 ++ wsX20)
def wsX5_fill : List Cond := .code yX5_fill cX5_fill 3 none :: ([.fieldLink RX5 13 "GuessFetch$Row" "cells" "[I"] ++ wsX50)
def wsX1_forgetTables : List Cond := .code yX1_forgetTables cX1_forgetTables 1 none :: ([.fieldLink RX1 14 "GuessFetch$Guesser" "plain" "LGuessFetch$Row;", .fieldLink RX1 20 "GuessFetch$Guesser" "mixed" "LGuessFetch$Row;", .fieldLink RX1 23 "GuessFetch$Guesser" "choice" "LGuessFetch$Row;", .fieldLink RX1 26 "GuessFetch$Guesser" "targetAddresses" "LGuessFetch$Row;", .fieldLink RX1 29 "GuessFetch$Guesser" "targetKinds" "LGuessFetch$Row;", .fieldLink RX1 32 "GuessFetch$Guesser" "targetGoals" "LGuessFetch$Row;", .fieldLink RX1 42 "GuessFetch$Guesser" "history" "I", .methodLink RX1 49 yX5_fill, .instanceMethod yX5_fill, .selects RX5 yX5_fill yX5_fill, .initialized RX5, .code yX5_fill cX5_fill 3 none, .fieldLink RX5 13 "GuessFetch$Row" "cells" "[I"] ++ wsX10 ++ wsX50)
def wsX1_init_r1 : List Cond := [Cond.methodLink RX1 3 objectInit, Cond.instanceMethod objectInit, Cond.code objectInit ⟨#[0xb1]⟩ 1 none, Cond.classLink RX1 9 RX5, Cond.instantiable RX5 1, Cond.initialized RX5, Cond.fieldLink RX1 14 "GuessFetch$Guesser" "plain" "LGuessFetch$Row;", Cond.fieldLink RX1 20 "GuessFetch$Guesser" "mixed" "LGuessFetch$Row;", Cond.fieldLink RX1 23 "GuessFetch$Guesser" "choice" "LGuessFetch$Row;", Cond.fieldLink RX1 26 "GuessFetch$Guesser" "targetAddresses" "LGuessFetch$Row;", Cond.fieldLink RX1 29 "GuessFetch$Guesser" "targetKinds" "LGuessFetch$Row;", Cond.fieldLink RX1 32 "GuessFetch$Guesser" "targetGoals" "LGuessFetch$Row;", Cond.classLink RX1 35 RX2, Cond.instantiable RX2 2, Cond.initialized RX2, Cond.fieldLink RX1 38 "GuessFetch$Guesser" "returns" "LGuessFetch$Pile;", Cond.fieldLink RX1 42 "GuessFetch$Guesser" "history" "I", Cond.methodLink RX1 11 yX5_init, Cond.instanceMethod yX5_init, Cond.code yX5_init cX5_init 2 none, Cond.methodLink RX5 1 objectInit, Cond.methodLink RX5 7 Lib.Math.max.name, Cond.static Lib.Math.max.name, Cond.initialized "java/lang/Math"]
def wsX1_init_r2 : List Cond := [Cond.code Lib.Math.max.name Lib.Math.max.code 2 (some .int), Cond.arrayClass .int, Cond.fieldLink RX5 13 "GuessFetch$Row" "cells" "[I", Cond.methodLink RX1 37 yX2_init, Cond.instanceMethod yX2_init, Cond.code yX2_init cX2_init 2 none, Cond.methodLink RX2 3 objectInit, Cond.fieldLink RX2 9 "GuessFetch$Pile" "size" "I", Cond.methodLink RX2 15 Lib.Math.max.name, Cond.fieldLink RX2 21 "GuessFetch$Pile" "cells" "[I", Cond.methodLink RX1 46 yX1_forgetTables, Cond.instanceMethod yX1_forgetTables, Cond.selects RX1 yX1_forgetTables yX1_forgetTables, Cond.initialized RX1, Cond.code yX1_forgetTables cX1_forgetTables 1 none, Cond.methodLink RX1 49 yX5_fill, Cond.instanceMethod yX5_fill, Cond.selects RX5 yX5_fill yX5_fill, Cond.code yX5_fill cX5_fill 3 none]
def wsX1_init : List Cond := .code yX1_init cX1_init 1 none :: ((wsX1_init_r1 ++ wsX1_init_r2) ++ wsX50 ++ wsX10 ++ wsX20)
def wsX1_history : List Cond := .code yX1_history cX1_history 1 (some .int) :: ([.fieldLink RX1 42 "GuessFetch$Guesser" "history" "I"] ++ wsX10)
def wsX1_setHistory : List Cond := .code yX1_setHistory cX1_setHistory 2 none :: ([.fieldLink RX1 42 "GuessFetch$Guesser" "history" "I"] ++ wsX10)
def wsX1_returns : List Cond := .code yX1_returns cX1_returns 1 (some (.object "GuessFetch$Pile")) :: ([.fieldLink RX1 38 "GuessFetch$Guesser" "returns" "LGuessFetch$Pile;"] ++ wsX10)
def wsX1_row : List Cond := .code yX1_row cX1_row 2 (some (.object "GuessFetch$Row")) :: ([.fieldLink RX1 14 "GuessFetch$Guesser" "plain" "LGuessFetch$Row;", .fieldLink RX1 20 "GuessFetch$Guesser" "mixed" "LGuessFetch$Row;", .fieldLink RX1 23 "GuessFetch$Guesser" "choice" "LGuessFetch$Row;", .fieldLink RX1 26 "GuessFetch$Guesser" "targetAddresses" "LGuessFetch$Row;", .fieldLink RX1 29 "GuessFetch$Guesser" "targetKinds" "LGuessFetch$Row;", .fieldLink RX1 32 "GuessFetch$Guesser" "targetGoals" "LGuessFetch$Row;"] ++ wsX10)
def wsX1_cell_r1 : List Cond := [Cond.fieldLink RX1 42 "GuessFetch$Guesser" "history" "I", Cond.fieldLink RX1 38 "GuessFetch$Guesser" "returns" "LGuessFetch$Pile;", Cond.methodLink RX1 52 yX2_get, Cond.instanceMethod yX2_get, Cond.selects RX2 yX2_get yX2_get, Cond.initialized RX2, Cond.code yX2_get cX2_get 2 (some .int), Cond.fieldLink RX2 21 "GuessFetch$Pile" "cells" "[I", Cond.methodLink RX2 25 yX2_has, Cond.instanceMethod yX2_has, Cond.selects RX2 yX2_has yX2_has, Cond.code yX2_has cX2_has 2 (some .boolean), Cond.fieldLink RX2 9 "GuessFetch$Pile" "size" "I", Cond.methodLink RX1 56 yX2_size, Cond.instanceMethod yX2_size, Cond.selects RX2 yX2_size yX2_size, Cond.code yX2_size cX2_size 1 (some .int), Cond.methodLink RX1 60 yX1_row, Cond.instanceMethod yX1_row, Cond.selects RX1 yX1_row yX1_row, Cond.initialized RX1, Cond.code yX1_row cX1_row 2 (some (.object "GuessFetch$Row")), Cond.fieldLink RX1 14 "GuessFetch$Guesser" "plain" "LGuessFetch$Row;", Cond.fieldLink RX1 20 "GuessFetch$Guesser" "mixed" "LGuessFetch$Row;"]
def wsX1_cell_r2 : List Cond := [Cond.fieldLink RX1 23 "GuessFetch$Guesser" "choice" "LGuessFetch$Row;", Cond.fieldLink RX1 26 "GuessFetch$Guesser" "targetAddresses" "LGuessFetch$Row;", Cond.fieldLink RX1 29 "GuessFetch$Guesser" "targetKinds" "LGuessFetch$Row;", Cond.fieldLink RX1 32 "GuessFetch$Guesser" "targetGoals" "LGuessFetch$Row;", Cond.methodLink RX1 64 yX5_get, Cond.instanceMethod yX5_get, Cond.selects RX5 yX5_get yX5_get, Cond.initialized RX5, Cond.code yX5_get cX5_get 2 (some .int), Cond.fieldLink RX5 13 "GuessFetch$Row" "cells" "[I"]
def wsX1_cell : List Cond := .code yX1_cell cX1_cell 3 (some .int) :: ((wsX1_cell_r1 ++ wsX1_cell_r2) ++ wsX10 ++ wsX20 ++ wsX50)
def wsX2_set : List Cond := .code yX2_set cX2_set 4 (some .int) :: ([.fieldLink RX2 21 "GuessFetch$Pile" "cells" "[I", .methodLink RX2 25 yX2_has, .instanceMethod yX2_has, .selects RX2 yX2_has yX2_has, .initialized RX2, .code yX2_has cX2_has 2 (some .boolean), .fieldLink RX2 9 "GuessFetch$Pile" "size" "I"] ++ wsX20)
def wsX1_setCell_r1 : List Cond := [Cond.fieldLink RX1 38 "GuessFetch$Guesser" "returns" "LGuessFetch$Pile;", Cond.fieldLink RX1 42 "GuessFetch$Guesser" "history" "I", Cond.methodLink RX1 65 yX2_set, Cond.instanceMethod yX2_set, Cond.selects RX2 yX2_set yX2_set, Cond.initialized RX2, Cond.code yX2_set cX2_set 4 (some .int), Cond.fieldLink RX2 21 "GuessFetch$Pile" "cells" "[I", Cond.methodLink RX2 25 yX2_has, Cond.instanceMethod yX2_has, Cond.selects RX2 yX2_has yX2_has, Cond.code yX2_has cX2_has 2 (some .boolean), Cond.fieldLink RX2 9 "GuessFetch$Pile" "size" "I", Cond.methodLink RX1 60 yX1_row, Cond.instanceMethod yX1_row, Cond.selects RX1 yX1_row yX1_row, Cond.initialized RX1, Cond.code yX1_row cX1_row 2 (some (.object "GuessFetch$Row")), Cond.fieldLink RX1 14 "GuessFetch$Guesser" "plain" "LGuessFetch$Row;", Cond.fieldLink RX1 20 "GuessFetch$Guesser" "mixed" "LGuessFetch$Row;", Cond.fieldLink RX1 23 "GuessFetch$Guesser" "choice" "LGuessFetch$Row;", Cond.fieldLink RX1 26 "GuessFetch$Guesser" "targetAddresses" "LGuessFetch$Row;", Cond.fieldLink RX1 29 "GuessFetch$Guesser" "targetKinds" "LGuessFetch$Row;", Cond.fieldLink RX1 32 "GuessFetch$Guesser" "targetGoals" "LGuessFetch$Row;"]
def wsX1_setCell_r2 : List Cond := [Cond.methodLink RX1 69 yX5_set, Cond.instanceMethod yX5_set, Cond.selects RX5 yX5_set yX5_set, Cond.initialized RX5, Cond.code yX5_set cX5_set 4 (some .int), Cond.fieldLink RX5 13 "GuessFetch$Row" "cells" "[I"]
def wsX1_setCell : List Cond := .code yX1_setCell cX1_setCell 5 (some .int) :: ((wsX1_setCell_r1 ++ wsX1_setCell_r2) ++ wsX10 ++ wsX20 ++ wsX50)
def wsX1_isInTargets : List Cond := .code yX1_isInTargets cX1_isInTargets 2 (some .boolean) :: ([.fieldLink RX1 26 "GuessFetch$Guesser" "targetAddresses" "LGuessFetch$Row;", .methodLink RX1 64 yX5_get, .instanceMethod yX5_get, .selects RX5 yX5_get yX5_get, .initialized RX5, .code yX5_get cX5_get 2 (some .int), .fieldLink RX5 13 "GuessFetch$Row" "cells" "[I"] ++ wsX10 ++ wsX50)
def wsX6_isBranch : List Cond := .code yX6_isBranch cX6_isBranch 1 (some .boolean) :: ([])
def wsX1_tellsTurn : List Cond := .code yX1_tellsTurn cX1_tellsTurn 2 (some .boolean) :: ([.methodLink RX1 64 yX5_get, .instanceMethod yX5_get, .selects RX5 yX5_get yX5_get, .initialized RX5, .code yX5_get cX5_get 2 (some .int), .fieldLink RX5 13 "GuessFetch$Row" "cells" "[I"] ++ wsX50)
def wsX1_mixedPlace : List Cond := .code yX1_mixedPlace cX1_mixedPlace 2 (some .int) :: ([])
def wsX1_seemsToTurn : List Cond := .code yX1_seemsToTurn cX1_seemsToTurn 3 (some .boolean) :: ([.fieldLink RX1 14 "GuessFetch$Guesser" "plain" "LGuessFetch$Row;", .fieldLink RX1 20 "GuessFetch$Guesser" "mixed" "LGuessFetch$Row;", .fieldLink RX1 42 "GuessFetch$Guesser" "history" "I", .fieldLink RX1 23 "GuessFetch$Guesser" "choice" "LGuessFetch$Row;", .methodLink RX1 91 yX1_tellsTurn, .static yX1_tellsTurn, .initialized RX1, .code yX1_tellsTurn cX1_tellsTurn 2 (some .boolean), .methodLink RX1 64 yX5_get, .instanceMethod yX5_get, .selects RX5 yX5_get yX5_get, .initialized RX5, .code yX5_get cX5_get 2 (some .int), .fieldLink RX5 13 "GuessFetch$Row" "cells" "[I", .methodLink RX1 95 yX1_mixedPlace, .static yX1_mixedPlace, .code yX1_mixedPlace cX1_mixedPlace 2 (some .int)] ++ wsX10 ++ wsX50)
def wsX1_noteBit : List Cond := .code yX1_noteBit cX1_noteBit 2 none :: ([.fieldLink RX1 42 "GuessFetch$Guesser" "history" "I"] ++ wsX10)
def wsX2_pushEldestOut : List Cond := .code yX2_pushEldestOut cX2_pushEldestOut 3 none :: ([.fieldLink RX2 9 "GuessFetch$Pile" "size" "I", .fieldLink RX2 21 "GuessFetch$Pile" "cells" "[I", .methodLink RX2 15 Lib.Math.max.name, .static Lib.Math.max.name, .initialized "java/lang/Math", .code Lib.Math.max.name Lib.Math.max.code 2 (some .int), .methodLink RX2 29 yX2_push, .instanceMethod yX2_push, .selects RX2 yX2_push yX2_push, .initialized RX2, .code yX2_push cX2_push 2 (some .boolean)] ++ wsX20)
def wsX1_guess_r1 : List Cond := [Cond.fieldLink RX1 32 "GuessFetch$Guesser" "targetGoals" "LGuessFetch$Row;", Cond.fieldLink RX1 29 "GuessFetch$Guesser" "targetKinds" "LGuessFetch$Row;", Cond.fieldLink RX1 38 "GuessFetch$Guesser" "returns" "LGuessFetch$Pile;", Cond.methodLink RX1 70 yX1_isInTargets, Cond.instanceMethod yX1_isInTargets, Cond.selects RX1 yX1_isInTargets yX1_isInTargets, Cond.initialized RX1, Cond.code yX1_isInTargets cX1_isInTargets 2 (some .boolean), Cond.fieldLink RX1 26 "GuessFetch$Guesser" "targetAddresses" "LGuessFetch$Row;", Cond.methodLink RX1 64 yX5_get, Cond.instanceMethod yX5_get, Cond.selects RX5 yX5_get yX5_get, Cond.initialized RX5, Cond.code yX5_get cX5_get 2 (some .int), Cond.fieldLink RX5 13 "GuessFetch$Row" "cells" "[I", Cond.static yX6_isBranch, Cond.initialized RX6, Cond.code yX6_isBranch cX6_isBranch 1 (some .boolean), Cond.methodLink RX1 77 yX1_seemsToTurn, Cond.instanceMethod yX1_seemsToTurn, Cond.selects RX1 yX1_seemsToTurn yX1_seemsToTurn, Cond.code yX1_seemsToTurn cX1_seemsToTurn 3 (some .boolean), Cond.fieldLink RX1 14 "GuessFetch$Guesser" "plain" "LGuessFetch$Row;", Cond.fieldLink RX1 20 "GuessFetch$Guesser" "mixed" "LGuessFetch$Row;"]
def wsX1_guess_r2 : List Cond := [Cond.fieldLink RX1 42 "GuessFetch$Guesser" "history" "I", Cond.fieldLink RX1 23 "GuessFetch$Guesser" "choice" "LGuessFetch$Row;", Cond.methodLink RX1 91 yX1_tellsTurn, Cond.static yX1_tellsTurn, Cond.code yX1_tellsTurn cX1_tellsTurn 2 (some .boolean), Cond.methodLink RX1 95 yX1_mixedPlace, Cond.static yX1_mixedPlace, Cond.code yX1_mixedPlace cX1_mixedPlace 2 (some .int), Cond.methodLink RX1 81 yX1_noteBit, Cond.instanceMethod yX1_noteBit, Cond.selects RX1 yX1_noteBit yX1_noteBit, Cond.code yX1_noteBit cX1_noteBit 2 none, Cond.methodLink RX1 85 yX2_pop, Cond.instanceMethod yX2_pop, Cond.selects RX2 yX2_pop yX2_pop, Cond.initialized RX2, Cond.code yX2_pop cX2_pop 2 (some .int), Cond.fieldLink RX2 9 "GuessFetch$Pile" "size" "I", Cond.methodLink RX2 15 Lib.Math.max.name, Cond.static Lib.Math.max.name, Cond.initialized "java/lang/Math", Cond.code Lib.Math.max.name Lib.Math.max.code 2 (some .int), Cond.methodLink RX2 32 yX2_get, Cond.instanceMethod yX2_get]
def wsX1_guess_r3 : List Cond := [Cond.selects RX2 yX2_get yX2_get, Cond.code yX2_get cX2_get 2 (some .int), Cond.fieldLink RX2 21 "GuessFetch$Pile" "cells" "[I", Cond.methodLink RX2 25 yX2_has, Cond.instanceMethod yX2_has, Cond.selects RX2 yX2_has yX2_has, Cond.code yX2_has cX2_has 2 (some .boolean), Cond.methodLink RX1 88 yX2_pushEldestOut, Cond.instanceMethod yX2_pushEldestOut, Cond.selects RX2 yX2_pushEldestOut yX2_pushEldestOut, Cond.code yX2_pushEldestOut cX2_pushEldestOut 3 none, Cond.methodLink RX2 29 yX2_push, Cond.instanceMethod yX2_push, Cond.selects RX2 yX2_push yX2_push, Cond.code yX2_push cX2_push 2 (some .boolean)]
def wsX1_guess : List Cond := .code yX1_guess cX1_guess 6 (some .int) :: ((wsX1_guess_r1 ++ (wsX1_guess_r2 ++ wsX1_guess_r3)) ++ wsX10 ++ wsX50 ++ wsX20)
def wsX1_step : List Cond := .code yX1_step cX1_step 4 none :: ([.methodLink RX1 98 Lib.Math.min.name, .static Lib.Math.min.name, .initialized "java/lang/Math", .code Lib.Math.min.name Lib.Math.min.code 2 (some .int), .methodLink RX1 103 Lib.Math.max.name, .static Lib.Math.max.name, .code Lib.Math.max.name Lib.Math.max.code 2 (some .int), .methodLink RX1 64 yX5_get, .instanceMethod yX5_get, .selects RX5 yX5_get yX5_get, .initialized RX5, .code yX5_get cX5_get 2 (some .int), .fieldLink RX5 13 "GuessFetch$Row" "cells" "[I", .methodLink RX1 69 yX5_set, .instanceMethod yX5_set, .selects RX5 yX5_set yX5_set, .code yX5_set cX5_set 4 (some .int)] ++ wsX50)
def wsX1_learn_r1 : List Cond := [Cond.fieldLink RX1 14 "GuessFetch$Guesser" "plain" "LGuessFetch$Row;", Cond.fieldLink RX1 20 "GuessFetch$Guesser" "mixed" "LGuessFetch$Row;", Cond.fieldLink RX1 23 "GuessFetch$Guesser" "choice" "LGuessFetch$Row;", Cond.methodLink RX1 95 yX1_mixedPlace, Cond.static yX1_mixedPlace, Cond.initialized RX1, Cond.code yX1_mixedPlace cX1_mixedPlace 2 (some .int), Cond.methodLink RX1 91 yX1_tellsTurn, Cond.static yX1_tellsTurn, Cond.code yX1_tellsTurn cX1_tellsTurn 2 (some .boolean), Cond.methodLink RX1 64 yX5_get, Cond.instanceMethod yX5_get, Cond.selects RX5 yX5_get yX5_get, Cond.initialized RX5, Cond.code yX5_get cX5_get 2 (some .int), Cond.fieldLink RX5 13 "GuessFetch$Row" "cells" "[I", Cond.methodLink RX1 106 yX1_step, Cond.static yX1_step, Cond.code yX1_step cX1_step 4 none, Cond.methodLink RX1 98 Lib.Math.min.name, Cond.static Lib.Math.min.name, Cond.initialized "java/lang/Math", Cond.code Lib.Math.min.name Lib.Math.min.code 2 (some .int), Cond.methodLink RX1 103 Lib.Math.max.name]
def wsX1_learn_r2 : List Cond := [Cond.static Lib.Math.max.name, Cond.code Lib.Math.max.name Lib.Math.max.code 2 (some .int), Cond.methodLink RX1 69 yX5_set, Cond.instanceMethod yX5_set, Cond.selects RX5 yX5_set yX5_set, Cond.code yX5_set cX5_set 4 (some .int)]
def wsX1_learn : List Cond := .code yX1_learn cX1_learn 8 none :: ((wsX1_learn_r1 ++ wsX1_learn_r2) ++ wsX10 ++ wsX50)
def wsX1_noteTarget : List Cond := .code yX1_noteTarget cX1_noteTarget 4 none :: ([.fieldLink RX1 26 "GuessFetch$Guesser" "targetAddresses" "LGuessFetch$Row;", .fieldLink RX1 29 "GuessFetch$Guesser" "targetKinds" "LGuessFetch$Row;", .fieldLink RX1 32 "GuessFetch$Guesser" "targetGoals" "LGuessFetch$Row;", .methodLink RX1 69 yX5_set, .instanceMethod yX5_set, .selects RX5 yX5_set yX5_set, .initialized RX5, .code yX5_set cX5_set 4 (some .int), .fieldLink RX5 13 "GuessFetch$Row" "cells" "[I"] ++ wsX10 ++ wsX50)
def wsX1_noteWhatWasDone_r1 : List Cond := [Cond.fieldLink RX1 38 "GuessFetch$Guesser" "returns" "LGuessFetch$Pile;", Cond.static yX6_isBranch, Cond.initialized RX6, Cond.code yX6_isBranch cX6_isBranch 1 (some .boolean), Cond.methodLink RX1 81 yX1_noteBit, Cond.instanceMethod yX1_noteBit, Cond.selects RX1 yX1_noteBit yX1_noteBit, Cond.initialized RX1, Cond.code yX1_noteBit cX1_noteBit 2 none, Cond.fieldLink RX1 42 "GuessFetch$Guesser" "history" "I", Cond.methodLink RX1 88 yX2_pushEldestOut, Cond.instanceMethod yX2_pushEldestOut, Cond.selects RX2 yX2_pushEldestOut yX2_pushEldestOut, Cond.initialized RX2, Cond.code yX2_pushEldestOut cX2_pushEldestOut 3 none, Cond.fieldLink RX2 9 "GuessFetch$Pile" "size" "I", Cond.fieldLink RX2 21 "GuessFetch$Pile" "cells" "[I", Cond.methodLink RX2 15 Lib.Math.max.name, Cond.static Lib.Math.max.name, Cond.initialized "java/lang/Math", Cond.code Lib.Math.max.name Lib.Math.max.code 2 (some .int), Cond.methodLink RX2 29 yX2_push, Cond.instanceMethod yX2_push, Cond.selects RX2 yX2_push yX2_push]
def wsX1_noteWhatWasDone_r2 : List Cond := [Cond.code yX2_push cX2_push 2 (some .boolean), Cond.methodLink RX1 85 yX2_pop, Cond.instanceMethod yX2_pop, Cond.selects RX2 yX2_pop yX2_pop, Cond.code yX2_pop cX2_pop 2 (some .int), Cond.methodLink RX2 32 yX2_get, Cond.instanceMethod yX2_get, Cond.selects RX2 yX2_get yX2_get, Cond.code yX2_get cX2_get 2 (some .int), Cond.methodLink RX2 25 yX2_has, Cond.instanceMethod yX2_has, Cond.selects RX2 yX2_has yX2_has, Cond.code yX2_has cX2_has 2 (some .boolean)]
def wsX1_noteWhatWasDone : List Cond := .code yX1_noteWhatWasDone cX1_noteWhatWasDone 4 none :: ((wsX1_noteWhatWasDone_r1 ++ wsX1_noteWhatWasDone_r2) ++ wsX10 ++ wsX20)
def wsX3_init : List Cond := .code yX3_init cX3_init 1 none :: ([.methodLink RX3 3 objectInit, .instanceMethod objectInit, .code objectInit ⟨#[0xb1]⟩ 1 none, .classLink RX3 9 RX5, .instantiable RX5 1, .initialized RX5, .fieldLink RX3 14 "GuessFetch$Program" "parts" "LGuessFetch$Row;", .fieldLink RX3 20 "GuessFetch$Program" "size" "I", .methodLink RX3 11 yX5_init, .instanceMethod yX5_init, .code yX5_init cX5_init 2 none, .methodLink RX5 1 objectInit, .methodLink RX5 7 Lib.Math.max.name, .static Lib.Math.max.name, .initialized "java/lang/Math", .code Lib.Math.max.name Lib.Math.max.code 2 (some .int), .arrayClass .int, .fieldLink RX5 13 "GuessFetch$Row" "cells" "[I"] ++ wsX50 ++ wsX30)
def wsX3_has : List Cond := .code yX3_has cX3_has 2 (some .boolean) :: ([.fieldLink RX3 20 "GuessFetch$Program" "size" "I"] ++ wsX30)
def wsX3_add : List Cond := .code yX3_add cX3_add 5 (some .boolean) :: ([.fieldLink RX3 20 "GuessFetch$Program" "size" "I", .fieldLink RX3 14 "GuessFetch$Program" "parts" "LGuessFetch$Row;", .methodLink RX3 28 yX5_set, .instanceMethod yX5_set, .selects RX5 yX5_set yX5_set, .initialized RX5, .code yX5_set cX5_set 4 (some .int), .fieldLink RX5 13 "GuessFetch$Row" "cells" "[I"] ++ wsX30 ++ wsX50)
def wsX3_clear : List Cond := .code yX3_clear cX3_clear 2 (some .int) :: ([.fieldLink RX3 20 "GuessFetch$Program" "size" "I"] ++ wsX30)
def wsX4_init : List Cond := .code yX4_init cX4_init 1 none :: ([.methodLink RX4 3 objectInit, .instanceMethod objectInit, .code objectInit ⟨#[0xb1]⟩ 1 none, .classLink RX4 9 RX5, .instantiable RX5 1, .initialized RX5, .fieldLink RX4 14 "GuessFetch$Queue" "addresses" "LGuessFetch$Row;", .fieldLink RX4 20 "GuessFetch$Queue" "guesses" "LGuessFetch$Row;", .fieldLink RX4 23 "GuessFetch$Queue" "cycles" "LGuessFetch$Row;", .fieldLink RX4 26 "GuessFetch$Queue" "histories" "LGuessFetch$Row;", .fieldLink RX4 29 "GuessFetch$Queue" "returnsSizes" "LGuessFetch$Row;", .fieldLink RX4 32 "GuessFetch$Queue" "returns" "LGuessFetch$Row;", .fieldLink RX4 35 "GuessFetch$Queue" "first" "I", .fieldLink RX4 39 "GuessFetch$Queue" "size" "I", .methodLink RX4 11 yX5_init, .instanceMethod yX5_init, .code yX5_init cX5_init 2 none, .methodLink RX5 1 objectInit, .methodLink RX5 7 Lib.Math.max.name, .static Lib.Math.max.name, .initialized "java/lang/Math", .code Lib.Math.max.name Lib.Math.max.code 2 (some .int), .arrayClass .int, .fieldLink RX5 13 "GuessFetch$Row" "cells" "[I"] ++ wsX50 ++ wsX40)
def wsX4_size : List Cond := .code yX4_size cX4_size 1 (some .int) :: ([.fieldLink RX4 39 "GuessFetch$Queue" "size" "I"] ++ wsX40)
def wsX4_clear : List Cond := .code yX4_clear cX4_clear 1 none :: ([.fieldLink RX4 39 "GuessFetch$Queue" "size" "I"] ++ wsX40)
def wsX4_address : List Cond := .code yX4_address cX4_address 2 (some .int) :: ([.fieldLink RX4 39 "GuessFetch$Queue" "size" "I", .fieldLink RX4 14 "GuessFetch$Queue" "addresses" "LGuessFetch$Row;", .fieldLink RX4 35 "GuessFetch$Queue" "first" "I", .methodLink RX4 42 yX5_get, .instanceMethod yX5_get, .selects RX5 yX5_get yX5_get, .initialized RX5, .code yX5_get cX5_get 2 (some .int), .fieldLink RX5 13 "GuessFetch$Row" "cells" "[I"] ++ wsX40 ++ wsX50)
def wsX4_isEldestOf : List Cond := .code yX4_isEldestOf cX4_isEldestOf 2 (some .boolean) :: ([.fieldLink RX4 39 "GuessFetch$Queue" "size" "I", .fieldLink RX4 23 "GuessFetch$Queue" "cycles" "LGuessFetch$Row;", .fieldLink RX4 35 "GuessFetch$Queue" "first" "I", .methodLink RX4 42 yX5_get, .instanceMethod yX5_get, .selects RX5 yX5_get yX5_get, .initialized RX5, .code yX5_get cX5_get 2 (some .int), .fieldLink RX5 13 "GuessFetch$Row" "cells" "[I"] ++ wsX40 ++ wsX50)
def wsX4_takeEldest : List Cond := .code yX4_takeEldest cX4_takeEldest 2 (some .int) :: ([.fieldLink RX4 35 "GuessFetch$Queue" "first" "I", .fieldLink RX4 39 "GuessFetch$Queue" "size" "I", .methodLink RX4 46 Lib.Math.max.name, .static Lib.Math.max.name, .initialized "java/lang/Math", .code Lib.Math.max.name Lib.Math.max.code 2 (some .int)] ++ wsX40)
def wsX4_addressOf : List Cond := .code yX4_addressOf cX4_addressOf 2 (some .int) :: ([.fieldLink RX4 14 "GuessFetch$Queue" "addresses" "LGuessFetch$Row;", .methodLink RX4 42 yX5_get, .instanceMethod yX5_get, .selects RX5 yX5_get yX5_get, .initialized RX5, .code yX5_get cX5_get 2 (some .int), .fieldLink RX5 13 "GuessFetch$Row" "cells" "[I"] ++ wsX40 ++ wsX50)
def wsX4_guessOf : List Cond := .code yX4_guessOf cX4_guessOf 2 (some .int) :: ([.fieldLink RX4 20 "GuessFetch$Queue" "guesses" "LGuessFetch$Row;", .methodLink RX4 42 yX5_get, .instanceMethod yX5_get, .selects RX5 yX5_get yX5_get, .initialized RX5, .code yX5_get cX5_get 2 (some .int), .fieldLink RX5 13 "GuessFetch$Row" "cells" "[I"] ++ wsX40 ++ wsX50)
def wsX4_historyOf : List Cond := .code yX4_historyOf cX4_historyOf 2 (some .int) :: ([.fieldLink RX4 26 "GuessFetch$Queue" "histories" "LGuessFetch$Row;", .methodLink RX4 42 yX5_get, .instanceMethod yX5_get, .selects RX5 yX5_get yX5_get, .initialized RX5, .code yX5_get cX5_get 2 (some .int), .fieldLink RX5 13 "GuessFetch$Row" "cells" "[I"] ++ wsX40 ++ wsX50)
def wsX4_setGuess : List Cond := .code yX4_setGuess cX4_setGuess 3 none :: ([.fieldLink RX4 20 "GuessFetch$Queue" "guesses" "LGuessFetch$Row;", .methodLink RX4 52 yX5_set, .instanceMethod yX5_set, .selects RX5 yX5_set yX5_set, .initialized RX5, .code yX5_set cX5_set 4 (some .int), .fieldLink RX5 13 "GuessFetch$Row" "cells" "[I"] ++ wsX40 ++ wsX50)
def wsX4_add : List Cond := .code yX4_add cX4_add 4 (some .int) :: ([.fieldLink RX4 35 "GuessFetch$Queue" "first" "I", .fieldLink RX4 39 "GuessFetch$Queue" "size" "I", .methodLink RX4 55 Lib.Math.min.name, .static Lib.Math.min.name, .initialized "java/lang/Math", .code Lib.Math.min.name Lib.Math.min.code 2 (some .int), .fieldLink RX4 14 "GuessFetch$Queue" "addresses" "LGuessFetch$Row;", .fieldLink RX4 23 "GuessFetch$Queue" "cycles" "LGuessFetch$Row;", .methodLink RX4 52 yX5_set, .instanceMethod yX5_set, .selects RX5 yX5_set yX5_set, .initialized RX5, .code yX5_set cX5_set 4 (some .int), .fieldLink RX5 13 "GuessFetch$Row" "cells" "[I"] ++ wsX40 ++ wsX50)
def wsX4_keep : List Cond := .code yX4_keep cX4_keep 5 none :: ([.fieldLink RX4 26 "GuessFetch$Queue" "histories" "LGuessFetch$Row;", .fieldLink RX4 29 "GuessFetch$Queue" "returnsSizes" "LGuessFetch$Row;", .fieldLink RX4 32 "GuessFetch$Queue" "returns" "LGuessFetch$Row;", .methodLink RX4 52 yX5_set, .instanceMethod yX5_set, .selects RX5 yX5_set yX5_set, .initialized RX5, .code yX5_set cX5_set 4 (some .int), .fieldLink RX5 13 "GuessFetch$Row" "cells" "[I", .methodLink RX4 58 yX2_size, .instanceMethod yX2_size, .selects RX2 yX2_size yX2_size, .initialized RX2, .code yX2_size cX2_size 1 (some .int), .fieldLink RX2 9 "GuessFetch$Pile" "size" "I", .methodLink RX4 63 yX2_get, .instanceMethod yX2_get, .selects RX2 yX2_get yX2_get, .code yX2_get cX2_get 2 (some .int), .fieldLink RX2 21 "GuessFetch$Pile" "cells" "[I", .methodLink RX2 25 yX2_has, .instanceMethod yX2_has, .selects RX2 yX2_has yX2_has, .code yX2_has cX2_has 2 (some .boolean)] ++ wsX40 ++ wsX50 ++ wsX20)
def wsX4_giveReturnsBack : List Cond := .code yX4_giveReturnsBack cX4_giveReturnsBack 4 none :: ([.fieldLink RX4 29 "GuessFetch$Queue" "returnsSizes" "LGuessFetch$Row;", .fieldLink RX4 32 "GuessFetch$Queue" "returns" "LGuessFetch$Row;", .methodLink RX4 64 yX2_clear, .instanceMethod yX2_clear, .selects RX2 yX2_clear yX2_clear, .initialized RX2, .code yX2_clear cX2_clear 1 none, .fieldLink RX2 9 "GuessFetch$Pile" "size" "I", .methodLink RX4 42 yX5_get, .instanceMethod yX5_get, .selects RX5 yX5_get yX5_get, .initialized RX5, .code yX5_get cX5_get 2 (some .int), .fieldLink RX5 13 "GuessFetch$Row" "cells" "[I", .methodLink RX4 67 yX2_push, .instanceMethod yX2_push, .selects RX2 yX2_push yX2_push, .code yX2_push cX2_push 2 (some .boolean), .fieldLink RX2 21 "GuessFetch$Pile" "cells" "[I"] ++ wsX40 ++ wsX20 ++ wsX50)
def wsX5_add : List Cond := .code yX5_add cX5_add 3 none :: ([.methodLink RX5 19 yX5_get, .instanceMethod yX5_get, .selects RX5 yX5_get yX5_get, .initialized RX5, .code yX5_get cX5_get 2 (some .int), .fieldLink RX5 13 "GuessFetch$Row" "cells" "[I", .methodLink RX5 23 yX5_set, .instanceMethod yX5_set, .selects RX5 yX5_set yX5_set, .code yX5_set cX5_set 4 (some .int)] ++ wsX50)
def wsX6_init_r1 : List Cond := [Cond.methodLink RX6 1 objectInit, Cond.instanceMethod objectInit, Cond.code objectInit ⟨#[0xb1]⟩ 1 none, Cond.classLink RX6 7 RX3, Cond.instantiable RX3 2, Cond.initialized RX3, Cond.fieldLink RX6 10 "GuessFetch" "program" "LGuessFetch$Program;", Cond.classLink RX6 16 RX0, Cond.instantiable RX0 3, Cond.initialized RX0, Cond.fieldLink RX6 19 "GuessFetch" "core" "LGuessFetch$Core;", Cond.classLink RX6 23 RX1, Cond.instantiable RX1 8, Cond.initialized RX1, Cond.fieldLink RX6 26 "GuessFetch" "guesser" "LGuessFetch$Guesser;", Cond.classLink RX6 30 RX4, Cond.instantiable RX4 8, Cond.initialized RX4, Cond.fieldLink RX6 33 "GuessFetch" "queue" "LGuessFetch$Queue;", Cond.classLink RX6 37 RX5, Cond.instantiable RX5 1, Cond.initialized RX5, Cond.fieldLink RX6 42 "GuessFetch" "counts" "LGuessFetch$Row;", Cond.classLink RX6 46 RX2]
def wsX6_init_r2 : List Cond := [Cond.instantiable RX2 2, Cond.initialized RX2, Cond.fieldLink RX6 49 "GuessFetch" "doneAddresses" "LGuessFetch$Pile;", Cond.fieldLink RX6 53 "GuessFetch" "guessWay" "I", Cond.fieldLink RX6 57 "GuessFetch" "guessDepth" "I", Cond.fieldLink RX6 60 "GuessFetch" "place" "I", Cond.fieldLink RX6 63 "GuessFetch" "runState" "I", Cond.instanceMethod yX3_init, Cond.code yX3_init cX3_init 1 none, Cond.methodLink RX3 3 objectInit, Cond.classLink RX3 9 RX5, Cond.fieldLink RX3 14 "GuessFetch$Program" "parts" "LGuessFetch$Row;", Cond.fieldLink RX3 20 "GuessFetch$Program" "size" "I", Cond.methodLink RX3 11 yX5_init, Cond.instanceMethod yX5_init, Cond.code yX5_init cX5_init 2 none, Cond.methodLink RX5 1 objectInit, Cond.methodLink RX5 7 Lib.Math.max.name, Cond.static Lib.Math.max.name, Cond.initialized "java/lang/Math", Cond.code Lib.Math.max.name Lib.Math.max.code 2 (some .int), Cond.arrayClass .int, Cond.fieldLink RX5 13 "GuessFetch$Row" "cells" "[I", Cond.instanceMethod yX0_init]
def wsX6_init_r3 : List Cond := [Cond.code yX0_init cX0_init 1 none, Cond.methodLink RX0 3 objectInit, Cond.classLink RX0 9 RX5, Cond.fieldLink RX0 14 "GuessFetch$Core" "registers" "LGuessFetch$Row;", Cond.fieldLink RX0 20 "GuessFetch$Core" "memory" "LGuessFetch$Row;", Cond.classLink RX0 23 RX2, Cond.fieldLink RX0 26 "GuessFetch$Core" "addresses" "LGuessFetch$Pile;", Cond.methodLink RX0 11 yX5_init, Cond.methodLink RX0 25 yX2_init, Cond.instanceMethod yX2_init, Cond.code yX2_init cX2_init 2 none, Cond.methodLink RX2 3 objectInit, Cond.fieldLink RX2 9 "GuessFetch$Pile" "size" "I", Cond.methodLink RX2 15 Lib.Math.max.name, Cond.fieldLink RX2 21 "GuessFetch$Pile" "cells" "[I", Cond.methodLink RX6 25 yX1_init, Cond.instanceMethod yX1_init, Cond.code yX1_init cX1_init 1 none, Cond.methodLink RX1 3 objectInit, Cond.classLink RX1 9 RX5, Cond.fieldLink RX1 14 "GuessFetch$Guesser" "plain" "LGuessFetch$Row;", Cond.fieldLink RX1 20 "GuessFetch$Guesser" "mixed" "LGuessFetch$Row;", Cond.fieldLink RX1 23 "GuessFetch$Guesser" "choice" "LGuessFetch$Row;", Cond.fieldLink RX1 26 "GuessFetch$Guesser" "targetAddresses" "LGuessFetch$Row;"]
def wsX6_init_r4 : List Cond := [Cond.fieldLink RX1 29 "GuessFetch$Guesser" "targetKinds" "LGuessFetch$Row;", Cond.fieldLink RX1 32 "GuessFetch$Guesser" "targetGoals" "LGuessFetch$Row;", Cond.classLink RX1 35 RX2, Cond.fieldLink RX1 38 "GuessFetch$Guesser" "returns" "LGuessFetch$Pile;", Cond.fieldLink RX1 42 "GuessFetch$Guesser" "history" "I", Cond.methodLink RX1 11 yX5_init, Cond.methodLink RX1 37 yX2_init, Cond.methodLink RX1 46 yX1_forgetTables, Cond.instanceMethod yX1_forgetTables, Cond.selects RX1 yX1_forgetTables yX1_forgetTables, Cond.code yX1_forgetTables cX1_forgetTables 1 none, Cond.methodLink RX1 49 yX5_fill, Cond.instanceMethod yX5_fill, Cond.selects RX5 yX5_fill yX5_fill, Cond.code yX5_fill cX5_fill 3 none, Cond.instanceMethod yX4_init, Cond.code yX4_init cX4_init 1 none, Cond.methodLink RX4 3 objectInit, Cond.classLink RX4 9 RX5, Cond.fieldLink RX4 14 "GuessFetch$Queue" "addresses" "LGuessFetch$Row;", Cond.fieldLink RX4 20 "GuessFetch$Queue" "guesses" "LGuessFetch$Row;", Cond.fieldLink RX4 23 "GuessFetch$Queue" "cycles" "LGuessFetch$Row;", Cond.fieldLink RX4 26 "GuessFetch$Queue" "histories" "LGuessFetch$Row;", Cond.fieldLink RX4 29 "GuessFetch$Queue" "returnsSizes" "LGuessFetch$Row;"]
def wsX6_init_r5 : List Cond := [Cond.fieldLink RX4 32 "GuessFetch$Queue" "returns" "LGuessFetch$Row;", Cond.fieldLink RX4 35 "GuessFetch$Queue" "first" "I", Cond.fieldLink RX4 39 "GuessFetch$Queue" "size" "I", Cond.methodLink RX4 11 yX5_init, Cond.methodLink RX6 39 yX5_init, Cond.methodLink RX6 48 yX2_init]
def wsX6_init : List Cond := .code yX6_init cX6_init 1 none :: ((wsX6_init_r1 ++ (wsX6_init_r2 ++ (wsX6_init_r3 ++ (wsX6_init_r4 ++ wsX6_init_r5)))) ++ wsX30 ++ wsX60 ++ wsX00 ++ wsX10 ++ wsX40 ++ wsX50 ++ wsX20)
def wsX6_isUnderWay : List Cond := .code yX6_isUnderWay cX6_isUnderWay 1 (some .boolean) :: ([.fieldLink RX6 63 "GuessFetch" "runState" "I"] ++ wsX60)
def wsX6_act_r1 : List Cond := [Cond.fieldLink RX6 10 "GuessFetch" "program" "LGuessFetch$Program;", Cond.methodLink RX6 66 yX6_isWithin, Cond.static yX6_isWithin, Cond.initialized RX6, Cond.code yX6_isWithin cX6_isWithin 3 (some .boolean), Cond.methodLink RX6 70 yX6_isUnderWay, Cond.instanceMethod yX6_isUnderWay, Cond.selects RX6 yX6_isUnderWay yX6_isUnderWay, Cond.code yX6_isUnderWay cX6_isUnderWay 1 (some .boolean), Cond.fieldLink RX6 63 "GuessFetch" "runState" "I", Cond.methodLink RX6 74 yX3_add, Cond.instanceMethod yX3_add, Cond.selects RX3 yX3_add yX3_add, Cond.initialized RX3, Cond.code yX3_add cX3_add 5 (some .boolean), Cond.fieldLink RX3 20 "GuessFetch$Program" "size" "I", Cond.fieldLink RX3 14 "GuessFetch$Program" "parts" "LGuessFetch$Row;", Cond.methodLink RX3 28 yX5_set, Cond.instanceMethod yX5_set, Cond.selects RX5 yX5_set yX5_set, Cond.initialized RX5, Cond.code yX5_set cX5_set 4 (some .int), Cond.fieldLink RX5 13 "GuessFetch$Row" "cells" "[I", Cond.methodLink RX6 78 yX3_size]
def wsX6_act_r2 : List Cond := [Cond.instanceMethod yX3_size, Cond.selects RX3 yX3_size yX3_size, Cond.code yX3_size cX3_size 1 (some .int)]
def wsX6_act : List Cond := .code yX6_act cX6_act 6 (some .int) :: ((wsX6_act_r1 ++ wsX6_act_r2) ++ wsX60 ++ wsX30 ++ wsX50)
def wsX6_wipe : List Cond := .code yX6_wipe cX6_wipe 1 (some .int) :: ([.fieldLink RX6 10 "GuessFetch" "program" "LGuessFetch$Program;", .methodLink RX6 70 yX6_isUnderWay, .instanceMethod yX6_isUnderWay, .selects RX6 yX6_isUnderWay yX6_isUnderWay, .initialized RX6, .code yX6_isUnderWay cX6_isUnderWay 1 (some .boolean), .fieldLink RX6 63 "GuessFetch" "runState" "I", .methodLink RX6 82 yX3_clear, .instanceMethod yX3_clear, .selects RX3 yX3_clear yX3_clear, .initialized RX3, .code yX3_clear cX3_clear 2 (some .int), .fieldLink RX3 20 "GuessFetch$Program" "size" "I"] ++ wsX60 ++ wsX30)
def wsX6_put_r1 : List Cond := [Cond.fieldLink RX6 19 "GuessFetch" "core" "LGuessFetch$Core;", Cond.constantLong RX6 89 (-101), Cond.constantLong RX6 91 (-103), Cond.methodLink RX6 85 yX0_hasCell, Cond.instanceMethod yX0_hasCell, Cond.selects RX0 yX0_hasCell yX0_hasCell, Cond.initialized RX0, Cond.code yX0_hasCell cX0_hasCell 2 (some .boolean), Cond.methodLink RX6 70 yX6_isUnderWay, Cond.instanceMethod yX6_isUnderWay, Cond.selects RX6 yX6_isUnderWay yX6_isUnderWay, Cond.initialized RX6, Cond.code yX6_isUnderWay cX6_isUnderWay 1 (some .boolean), Cond.fieldLink RX6 63 "GuessFetch" "runState" "I", Cond.methodLink RX6 93 yX0_setCell, Cond.instanceMethod yX0_setCell, Cond.selects RX0 yX0_setCell yX0_setCell, Cond.code yX0_setCell cX0_setCell 3 (some .int), Cond.fieldLink RX0 14 "GuessFetch$Core" "registers" "LGuessFetch$Row;", Cond.fieldLink RX0 20 "GuessFetch$Core" "memory" "LGuessFetch$Row;", Cond.methodLink RX0 34 yX5_set, Cond.instanceMethod yX5_set, Cond.selects RX5 yX5_set yX5_set, Cond.initialized RX5]
def wsX6_put_r2 : List Cond := [Cond.code yX5_set cX5_set 4 (some .int), Cond.fieldLink RX5 13 "GuessFetch$Row" "cells" "[I"]
def wsX6_put : List Cond := .code yX6_put cX6_put 3 (some .long) :: ((wsX6_put_r1 ++ wsX6_put_r2) ++ wsX60 ++ wsX00 ++ wsX50)
def wsX6_way : List Cond := .code yX6_way cX6_way 3 (some .int) :: ([.fieldLink RX6 53 "GuessFetch" "guessWay" "I", .fieldLink RX6 57 "GuessFetch" "guessDepth" "I", .methodLink RX6 66 yX6_isWithin, .static yX6_isWithin, .initialized RX6, .code yX6_isWithin cX6_isWithin 3 (some .boolean), .methodLink RX6 70 yX6_isUnderWay, .instanceMethod yX6_isUnderWay, .selects RX6 yX6_isUnderWay yX6_isUnderWay, .code yX6_isUnderWay cX6_isUnderWay 1 (some .boolean), .fieldLink RX6 63 "GuessFetch" "runState" "I"] ++ wsX60)
def wsX6_begin_r1 : List Cond := [Cond.fieldLink RX6 42 "GuessFetch" "counts" "LGuessFetch$Row;", Cond.fieldLink RX6 49 "GuessFetch" "doneAddresses" "LGuessFetch$Pile;", Cond.fieldLink RX6 19 "GuessFetch" "core" "LGuessFetch$Core;", Cond.fieldLink RX6 26 "GuessFetch" "guesser" "LGuessFetch$Guesser;", Cond.fieldLink RX6 60 "GuessFetch" "place" "I", Cond.fieldLink RX6 63 "GuessFetch" "runState" "I", Cond.methodLink RX6 70 yX6_isUnderWay, Cond.instanceMethod yX6_isUnderWay, Cond.selects RX6 yX6_isUnderWay yX6_isUnderWay, Cond.initialized RX6, Cond.code yX6_isUnderWay cX6_isUnderWay 1 (some .boolean), Cond.methodLink RX6 97 yX5_set, Cond.instanceMethod yX5_set, Cond.selects RX5 yX5_set yX5_set, Cond.initialized RX5, Cond.code yX5_set cX5_set 4 (some .int), Cond.fieldLink RX5 13 "GuessFetch$Row" "cells" "[I", Cond.methodLink RX6 100 yX5_add, Cond.instanceMethod yX5_add, Cond.selects RX5 yX5_add yX5_add, Cond.code yX5_add cX5_add 3 none, Cond.methodLink RX5 19 yX5_get, Cond.instanceMethod yX5_get, Cond.selects RX5 yX5_get yX5_get]
def wsX6_begin_r2 : List Cond := [Cond.code yX5_get cX5_get 2 (some .int), Cond.methodLink RX5 23 yX5_set, Cond.methodLink RX6 103 yX2_clear, Cond.instanceMethod yX2_clear, Cond.selects RX2 yX2_clear yX2_clear, Cond.initialized RX2, Cond.code yX2_clear cX2_clear 1 none, Cond.fieldLink RX2 9 "GuessFetch$Pile" "size" "I", Cond.methodLink RX6 105 yX0_emptyStack, Cond.instanceMethod yX0_emptyStack, Cond.selects RX0 yX0_emptyStack yX0_emptyStack, Cond.initialized RX0, Cond.code yX0_emptyStack cX0_emptyStack 1 none, Cond.fieldLink RX0 26 "GuessFetch$Core" "addresses" "LGuessFetch$Pile;", Cond.methodLink RX0 43 yX2_clear, Cond.methodLink RX6 108 yX1_returns, Cond.instanceMethod yX1_returns, Cond.selects RX1 yX1_returns yX1_returns, Cond.initialized RX1, Cond.code yX1_returns cX1_returns 1 (some (.object "GuessFetch$Pile")), Cond.fieldLink RX1 38 "GuessFetch$Guesser" "returns" "LGuessFetch$Pile;"]
def wsX6_begin : List Cond := .code yX6_begin cX6_begin 2 (some .int) :: ((wsX6_begin_r1 ++ wsX6_begin_r2) ++ wsX60 ++ wsX50 ++ wsX20 ++ wsX00 ++ wsX10)
def wsX6_dropFetched_r1 : List Cond := [Cond.fieldLink RX6 42 "GuessFetch" "counts" "LGuessFetch$Row;", Cond.fieldLink RX6 33 "GuessFetch" "queue" "LGuessFetch$Queue;", Cond.methodLink RX6 148 yX4_size, Cond.instanceMethod yX4_size, Cond.selects RX4 yX4_size yX4_size, Cond.initialized RX4, Cond.code yX4_size cX4_size 1 (some .int), Cond.fieldLink RX4 39 "GuessFetch$Queue" "size" "I", Cond.methodLink RX6 100 yX5_add, Cond.instanceMethod yX5_add, Cond.selects RX5 yX5_add yX5_add, Cond.initialized RX5, Cond.code yX5_add cX5_add 3 none, Cond.methodLink RX5 19 yX5_get, Cond.instanceMethod yX5_get, Cond.selects RX5 yX5_get yX5_get, Cond.code yX5_get cX5_get 2 (some .int), Cond.fieldLink RX5 13 "GuessFetch$Row" "cells" "[I", Cond.methodLink RX5 23 yX5_set, Cond.instanceMethod yX5_set, Cond.selects RX5 yX5_set yX5_set, Cond.code yX5_set cX5_set 4 (some .int), Cond.methodLink RX6 269 yX4_clear, Cond.instanceMethod yX4_clear]
def wsX6_dropFetched_r2 : List Cond := [Cond.selects RX4 yX4_clear yX4_clear, Cond.code yX4_clear cX4_clear 1 none]
def wsX6_dropFetched : List Cond := .code yX6_dropFetched cX6_dropFetched 1 none :: ((wsX6_dropFetched_r1 ++ wsX6_dropFetched_r2) ++ wsX60 ++ wsX40 ++ wsX50)
def wsX6_endRun_r1 : List Cond := [Cond.fieldLink RX6 63 "GuessFetch" "runState" "I", Cond.methodLink RX6 256 yX6_dropFetched, Cond.instanceMethod yX6_dropFetched, Cond.selects RX6 yX6_dropFetched yX6_dropFetched, Cond.initialized RX6, Cond.code yX6_dropFetched cX6_dropFetched 1 none, Cond.fieldLink RX6 42 "GuessFetch" "counts" "LGuessFetch$Row;", Cond.fieldLink RX6 33 "GuessFetch" "queue" "LGuessFetch$Queue;", Cond.methodLink RX6 148 yX4_size, Cond.instanceMethod yX4_size, Cond.selects RX4 yX4_size yX4_size, Cond.initialized RX4, Cond.code yX4_size cX4_size 1 (some .int), Cond.fieldLink RX4 39 "GuessFetch$Queue" "size" "I", Cond.methodLink RX6 100 yX5_add, Cond.instanceMethod yX5_add, Cond.selects RX5 yX5_add yX5_add, Cond.initialized RX5, Cond.code yX5_add cX5_add 3 none, Cond.methodLink RX5 19 yX5_get, Cond.instanceMethod yX5_get, Cond.selects RX5 yX5_get yX5_get, Cond.code yX5_get cX5_get 2 (some .int), Cond.fieldLink RX5 13 "GuessFetch$Row" "cells" "[I"]
def wsX6_endRun_r2 : List Cond := [Cond.methodLink RX5 23 yX5_set, Cond.instanceMethod yX5_set, Cond.selects RX5 yX5_set yX5_set, Cond.code yX5_set cX5_set 4 (some .int), Cond.methodLink RX6 269 yX4_clear, Cond.instanceMethod yX4_clear, Cond.selects RX4 yX4_clear yX4_clear, Cond.code yX4_clear cX4_clear 1 none]
def wsX6_endRun : List Cond := .code yX6_endRun cX6_endRun 2 none :: ((wsX6_endRun_r1 ++ wsX6_endRun_r2) ++ wsX60 ++ wsX40 ++ wsX50)
def wsX6_noteDone_r1 : List Cond := [Cond.fieldLink RX6 42 "GuessFetch" "counts" "LGuessFetch$Row;", Cond.fieldLink RX6 49 "GuessFetch" "doneAddresses" "LGuessFetch$Pile;", Cond.methodLink RX6 100 yX5_add, Cond.instanceMethod yX5_add, Cond.selects RX5 yX5_add yX5_add, Cond.initialized RX5, Cond.code yX5_add cX5_add 3 none, Cond.methodLink RX5 19 yX5_get, Cond.instanceMethod yX5_get, Cond.selects RX5 yX5_get yX5_get, Cond.code yX5_get cX5_get 2 (some .int), Cond.fieldLink RX5 13 "GuessFetch$Row" "cells" "[I", Cond.methodLink RX5 23 yX5_set, Cond.instanceMethod yX5_set, Cond.selects RX5 yX5_set yX5_set, Cond.code yX5_set cX5_set 4 (some .int), Cond.methodLink RX6 250 yX2_push, Cond.instanceMethod yX2_push, Cond.selects RX2 yX2_push yX2_push, Cond.initialized RX2, Cond.code yX2_push cX2_push 2 (some .boolean), Cond.fieldLink RX2 9 "GuessFetch$Pile" "size" "I", Cond.fieldLink RX2 21 "GuessFetch$Pile" "cells" "[I", Cond.methodLink RX6 253 yX6_isTurn]
def wsX6_noteDone_r2 : List Cond := [Cond.static yX6_isTurn, Cond.initialized RX6, Cond.code yX6_isTurn cX6_isTurn 1 (some .boolean), Cond.methodLink RX6 66 yX6_isWithin, Cond.static yX6_isWithin, Cond.code yX6_isWithin cX6_isWithin 3 (some .boolean), Cond.methodLink RX6 229 yX6_isBranch, Cond.static yX6_isBranch, Cond.code yX6_isBranch cX6_isBranch 1 (some .boolean)]
def wsX6_noteDone : List Cond := .code yX6_noteDone cX6_noteDone 3 none :: ((wsX6_noteDone_r1 ++ wsX6_noteDone_r2) ++ wsX60 ++ wsX50 ++ wsX20)
def wsX6_goBack_r1 : List Cond := [Cond.fieldLink RX6 42 "GuessFetch" "counts" "LGuessFetch$Row;", Cond.fieldLink RX6 60 "GuessFetch" "place" "I", Cond.fieldLink RX6 26 "GuessFetch" "guesser" "LGuessFetch$Guesser;", Cond.fieldLink RX6 33 "GuessFetch" "queue" "LGuessFetch$Queue;", Cond.methodLink RX6 100 yX5_add, Cond.instanceMethod yX5_add, Cond.selects RX5 yX5_add yX5_add, Cond.initialized RX5, Cond.code yX5_add cX5_add 3 none, Cond.methodLink RX5 19 yX5_get, Cond.instanceMethod yX5_get, Cond.selects RX5 yX5_get yX5_get, Cond.code yX5_get cX5_get 2 (some .int), Cond.fieldLink RX5 13 "GuessFetch$Row" "cells" "[I", Cond.methodLink RX5 23 yX5_set, Cond.instanceMethod yX5_set, Cond.selects RX5 yX5_set yX5_set, Cond.code yX5_set cX5_set 4 (some .int), Cond.methodLink RX6 229 yX6_isBranch, Cond.static yX6_isBranch, Cond.initialized RX6, Cond.code yX6_isBranch cX6_isBranch 1 (some .boolean), Cond.methodLink RX6 256 yX6_dropFetched, Cond.instanceMethod yX6_dropFetched]
def wsX6_goBack_r2 : List Cond := [Cond.selects RX6 yX6_dropFetched yX6_dropFetched, Cond.code yX6_dropFetched cX6_dropFetched 1 none, Cond.methodLink RX6 148 yX4_size, Cond.instanceMethod yX4_size, Cond.selects RX4 yX4_size yX4_size, Cond.initialized RX4, Cond.code yX4_size cX4_size 1 (some .int), Cond.fieldLink RX4 39 "GuessFetch$Queue" "size" "I", Cond.methodLink RX6 269 yX4_clear, Cond.instanceMethod yX4_clear, Cond.selects RX4 yX4_clear yX4_clear, Cond.code yX4_clear cX4_clear 1 none, Cond.methodLink RX6 232 yX4_historyOf, Cond.instanceMethod yX4_historyOf, Cond.selects RX4 yX4_historyOf yX4_historyOf, Cond.code yX4_historyOf cX4_historyOf 2 (some .int), Cond.fieldLink RX4 26 "GuessFetch$Queue" "histories" "LGuessFetch$Row;", Cond.methodLink RX4 42 yX5_get, Cond.methodLink RX6 259 yX1_setHistory, Cond.instanceMethod yX1_setHistory, Cond.selects RX1 yX1_setHistory yX1_setHistory, Cond.initialized RX1, Cond.code yX1_setHistory cX1_setHistory 2 none, Cond.fieldLink RX1 42 "GuessFetch$Guesser" "history" "I"]
def wsX6_goBack_r3 : List Cond := [Cond.methodLink RX6 108 yX1_returns, Cond.instanceMethod yX1_returns, Cond.selects RX1 yX1_returns yX1_returns, Cond.code yX1_returns cX1_returns 1 (some (.object "GuessFetch$Pile")), Cond.fieldLink RX1 38 "GuessFetch$Guesser" "returns" "LGuessFetch$Pile;", Cond.methodLink RX6 262 yX4_giveReturnsBack, Cond.instanceMethod yX4_giveReturnsBack, Cond.selects RX4 yX4_giveReturnsBack yX4_giveReturnsBack, Cond.code yX4_giveReturnsBack cX4_giveReturnsBack 4 none, Cond.fieldLink RX4 29 "GuessFetch$Queue" "returnsSizes" "LGuessFetch$Row;", Cond.fieldLink RX4 32 "GuessFetch$Queue" "returns" "LGuessFetch$Row;", Cond.methodLink RX4 64 yX2_clear, Cond.instanceMethod yX2_clear, Cond.selects RX2 yX2_clear yX2_clear, Cond.initialized RX2, Cond.code yX2_clear cX2_clear 1 none, Cond.fieldLink RX2 9 "GuessFetch$Pile" "size" "I", Cond.methodLink RX4 67 yX2_push, Cond.instanceMethod yX2_push, Cond.selects RX2 yX2_push yX2_push, Cond.code yX2_push cX2_push 2 (some .boolean), Cond.fieldLink RX2 21 "GuessFetch$Pile" "cells" "[I", Cond.methodLink RX6 215 yX4_addressOf, Cond.instanceMethod yX4_addressOf]
def wsX6_goBack_r4 : List Cond := [Cond.selects RX4 yX4_addressOf yX4_addressOf, Cond.code yX4_addressOf cX4_addressOf 2 (some .int), Cond.fieldLink RX4 14 "GuessFetch$Queue" "addresses" "LGuessFetch$Row;", Cond.methodLink RX6 266 yX1_noteWhatWasDone, Cond.instanceMethod yX1_noteWhatWasDone, Cond.selects RX1 yX1_noteWhatWasDone yX1_noteWhatWasDone, Cond.code yX1_noteWhatWasDone cX1_noteWhatWasDone 4 none, Cond.methodLink RX1 81 yX1_noteBit, Cond.instanceMethod yX1_noteBit, Cond.selects RX1 yX1_noteBit yX1_noteBit, Cond.code yX1_noteBit cX1_noteBit 2 none, Cond.methodLink RX1 88 yX2_pushEldestOut, Cond.instanceMethod yX2_pushEldestOut, Cond.selects RX2 yX2_pushEldestOut yX2_pushEldestOut, Cond.code yX2_pushEldestOut cX2_pushEldestOut 3 none, Cond.methodLink RX2 15 Lib.Math.max.name, Cond.static Lib.Math.max.name, Cond.initialized "java/lang/Math", Cond.code Lib.Math.max.name Lib.Math.max.code 2 (some .int), Cond.methodLink RX2 29 yX2_push, Cond.methodLink RX1 85 yX2_pop, Cond.instanceMethod yX2_pop, Cond.selects RX2 yX2_pop yX2_pop, Cond.code yX2_pop cX2_pop 2 (some .int)]
def wsX6_goBack_r5 : List Cond := [Cond.methodLink RX2 32 yX2_get, Cond.instanceMethod yX2_get, Cond.selects RX2 yX2_get yX2_get, Cond.code yX2_get cX2_get 2 (some .int), Cond.methodLink RX2 25 yX2_has, Cond.instanceMethod yX2_has, Cond.selects RX2 yX2_has yX2_has, Cond.code yX2_has cX2_has 2 (some .boolean)]
def wsX6_goBack : List Cond := .code yX6_goBack cX6_goBack 5 none :: ((wsX6_goBack_r1 ++ (wsX6_goBack_r2 ++ (wsX6_goBack_r3 ++ (wsX6_goBack_r4 ++ wsX6_goBack_r5)))) ++ wsX60 ++ wsX50 ++ wsX40 ++ wsX10 ++ wsX20)
def wsX6_finishEldest_r1 : List Cond := [Cond.fieldLink RX6 33 "GuessFetch" "queue" "LGuessFetch$Queue;", Cond.fieldLink RX6 10 "GuessFetch" "program" "LGuessFetch$Program;", Cond.fieldLink RX6 19 "GuessFetch" "core" "LGuessFetch$Core;", Cond.fieldLink RX6 26 "GuessFetch" "guesser" "LGuessFetch$Guesser;", Cond.methodLink RX6 212 yX4_takeEldest, Cond.instanceMethod yX4_takeEldest, Cond.selects RX4 yX4_takeEldest yX4_takeEldest, Cond.initialized RX4, Cond.code yX4_takeEldest cX4_takeEldest 2 (some .int), Cond.fieldLink RX4 35 "GuessFetch$Queue" "first" "I", Cond.fieldLink RX4 39 "GuessFetch$Queue" "size" "I", Cond.methodLink RX4 46 Lib.Math.max.name, Cond.static Lib.Math.max.name, Cond.initialized "java/lang/Math", Cond.code Lib.Math.max.name Lib.Math.max.code 2 (some .int), Cond.methodLink RX6 215 yX4_addressOf, Cond.instanceMethod yX4_addressOf, Cond.selects RX4 yX4_addressOf yX4_addressOf, Cond.code yX4_addressOf cX4_addressOf 2 (some .int), Cond.fieldLink RX4 14 "GuessFetch$Queue" "addresses" "LGuessFetch$Row;", Cond.methodLink RX4 42 yX5_get, Cond.instanceMethod yX5_get, Cond.selects RX5 yX5_get yX5_get, Cond.initialized RX5]
def wsX6_finishEldest_r2 : List Cond := [Cond.code yX5_get cX5_get 2 (some .int), Cond.fieldLink RX5 13 "GuessFetch$Row" "cells" "[I", Cond.methodLink RX6 152 yX3_part, Cond.instanceMethod yX3_part, Cond.selects RX3 yX3_part yX3_part, Cond.initialized RX3, Cond.code yX3_part cX3_part 3 (some .int), Cond.fieldLink RX3 14 "GuessFetch$Program" "parts" "LGuessFetch$Row;", Cond.methodLink RX3 24 yX5_get, Cond.methodLink RX6 218 yX0_turns, Cond.instanceMethod yX0_turns, Cond.selects RX0 yX0_turns yX0_turns, Cond.initialized RX0, Cond.code yX0_turns cX0_turns 6 (some .boolean), Cond.fieldLink RX0 14 "GuessFetch$Core" "registers" "LGuessFetch$Row;", Cond.methodLink RX0 46 yX3_part, Cond.methodLink RX0 30 yX5_get, Cond.static yX6_isTurn, Cond.initialized RX6, Cond.code yX6_isTurn cX6_isTurn 1 (some .boolean), Cond.methodLink RX6 66 yX6_isWithin, Cond.static yX6_isWithin, Cond.code yX6_isWithin cX6_isWithin 3 (some .boolean), Cond.methodLink RX6 222 yX0_perform]
def wsX6_finishEldest_r3 : List Cond := [Cond.instanceMethod yX0_perform, Cond.selects RX0 yX0_perform yX0_perform, Cond.code yX0_perform cX0_perform 7 (some .int), Cond.fieldLink RX0 20 "GuessFetch$Core" "memory" "LGuessFetch$Row;", Cond.fieldLink RX0 26 "GuessFetch$Core" "addresses" "LGuessFetch$Pile;", Cond.constant RX0 62 (2147483647), Cond.methodLink RX0 34 yX5_set, Cond.instanceMethod yX5_set, Cond.selects RX5 yX5_set yX5_set, Cond.code yX5_set cX5_set 4 (some .int), Cond.methodLink RX0 55 yX2_push, Cond.instanceMethod yX2_push, Cond.selects RX2 yX2_push yX2_push, Cond.initialized RX2, Cond.code yX2_push cX2_push 2 (some .boolean), Cond.fieldLink RX2 9 "GuessFetch$Pile" "size" "I", Cond.fieldLink RX2 21 "GuessFetch$Pile" "cells" "[I", Cond.methodLink RX0 58 yX2_pop, Cond.instanceMethod yX2_pop, Cond.selects RX2 yX2_pop yX2_pop, Cond.code yX2_pop cX2_pop 2 (some .int), Cond.methodLink RX2 15 Lib.Math.max.name, Cond.methodLink RX2 32 yX2_get, Cond.instanceMethod yX2_get]
def wsX6_finishEldest_r4 : List Cond := [Cond.selects RX2 yX2_get yX2_get, Cond.code yX2_get cX2_get 2 (some .int), Cond.methodLink RX2 25 yX2_has, Cond.instanceMethod yX2_has, Cond.selects RX2 yX2_has yX2_has, Cond.code yX2_has cX2_has 2 (some .boolean), Cond.methodLink RX0 61 yX3_size, Cond.instanceMethod yX3_size, Cond.selects RX3 yX3_size yX3_size, Cond.code yX3_size cX3_size 1 (some .int), Cond.fieldLink RX3 20 "GuessFetch$Program" "size" "I", Cond.methodLink RX6 119 yX6_endRun, Cond.instanceMethod yX6_endRun, Cond.selects RX6 yX6_endRun yX6_endRun, Cond.code yX6_endRun cX6_endRun 2 none, Cond.fieldLink RX6 63 "GuessFetch" "runState" "I", Cond.methodLink RX6 256 yX6_dropFetched, Cond.instanceMethod yX6_dropFetched, Cond.selects RX6 yX6_dropFetched yX6_dropFetched, Cond.code yX6_dropFetched cX6_dropFetched 1 none, Cond.fieldLink RX6 42 "GuessFetch" "counts" "LGuessFetch$Row;", Cond.methodLink RX6 148 yX4_size, Cond.instanceMethod yX4_size, Cond.selects RX4 yX4_size yX4_size]
def wsX6_finishEldest_r5 : List Cond := [Cond.code yX4_size cX4_size 1 (some .int), Cond.methodLink RX6 100 yX5_add, Cond.instanceMethod yX5_add, Cond.selects RX5 yX5_add yX5_add, Cond.code yX5_add cX5_add 3 none, Cond.methodLink RX5 19 yX5_get, Cond.methodLink RX5 23 yX5_set, Cond.methodLink RX6 269 yX4_clear, Cond.instanceMethod yX4_clear, Cond.selects RX4 yX4_clear yX4_clear, Cond.code yX4_clear cX4_clear 1 none, Cond.methodLink RX6 226 yX6_noteDone, Cond.instanceMethod yX6_noteDone, Cond.selects RX6 yX6_noteDone yX6_noteDone, Cond.code yX6_noteDone cX6_noteDone 3 none, Cond.fieldLink RX6 49 "GuessFetch" "doneAddresses" "LGuessFetch$Pile;", Cond.methodLink RX6 250 yX2_push, Cond.methodLink RX6 253 yX6_isTurn, Cond.methodLink RX6 229 yX6_isBranch, Cond.static yX6_isBranch, Cond.code yX6_isBranch cX6_isBranch 1 (some .boolean), Cond.methodLink RX6 232 yX4_historyOf, Cond.instanceMethod yX4_historyOf, Cond.selects RX4 yX4_historyOf yX4_historyOf]
def wsX6_finishEldest_r6 : List Cond := [Cond.code yX4_historyOf cX4_historyOf 2 (some .int), Cond.fieldLink RX4 26 "GuessFetch$Queue" "histories" "LGuessFetch$Row;", Cond.methodLink RX6 235 yX1_learn, Cond.instanceMethod yX1_learn, Cond.selects RX1 yX1_learn yX1_learn, Cond.initialized RX1, Cond.code yX1_learn cX1_learn 8 none, Cond.fieldLink RX1 14 "GuessFetch$Guesser" "plain" "LGuessFetch$Row;", Cond.fieldLink RX1 20 "GuessFetch$Guesser" "mixed" "LGuessFetch$Row;", Cond.fieldLink RX1 23 "GuessFetch$Guesser" "choice" "LGuessFetch$Row;", Cond.methodLink RX1 95 yX1_mixedPlace, Cond.static yX1_mixedPlace, Cond.code yX1_mixedPlace cX1_mixedPlace 2 (some .int), Cond.methodLink RX1 91 yX1_tellsTurn, Cond.static yX1_tellsTurn, Cond.code yX1_tellsTurn cX1_tellsTurn 2 (some .boolean), Cond.methodLink RX1 64 yX5_get, Cond.methodLink RX1 106 yX1_step, Cond.static yX1_step, Cond.code yX1_step cX1_step 4 none, Cond.methodLink RX1 98 Lib.Math.min.name, Cond.static Lib.Math.min.name, Cond.code Lib.Math.min.name Lib.Math.min.code 2 (some .int), Cond.methodLink RX1 103 Lib.Math.max.name]
def wsX6_finishEldest_r7 : List Cond := [Cond.methodLink RX1 69 yX5_set, Cond.methodLink RX6 239 yX1_noteTarget, Cond.instanceMethod yX1_noteTarget, Cond.selects RX1 yX1_noteTarget yX1_noteTarget, Cond.code yX1_noteTarget cX1_noteTarget 4 none, Cond.fieldLink RX1 26 "GuessFetch$Guesser" "targetAddresses" "LGuessFetch$Row;", Cond.fieldLink RX1 29 "GuessFetch$Guesser" "targetKinds" "LGuessFetch$Row;", Cond.fieldLink RX1 32 "GuessFetch$Guesser" "targetGoals" "LGuessFetch$Row;", Cond.methodLink RX6 243 yX4_guessOf, Cond.instanceMethod yX4_guessOf, Cond.selects RX4 yX4_guessOf yX4_guessOf, Cond.code yX4_guessOf cX4_guessOf 2 (some .int), Cond.fieldLink RX4 20 "GuessFetch$Queue" "guesses" "LGuessFetch$Row;", Cond.methodLink RX6 246 yX6_goBack, Cond.instanceMethod yX6_goBack, Cond.selects RX6 yX6_goBack yX6_goBack, Cond.code yX6_goBack cX6_goBack 5 none, Cond.fieldLink RX6 60 "GuessFetch" "place" "I", Cond.methodLink RX6 259 yX1_setHistory, Cond.instanceMethod yX1_setHistory, Cond.selects RX1 yX1_setHistory yX1_setHistory, Cond.code yX1_setHistory cX1_setHistory 2 none, Cond.fieldLink RX1 42 "GuessFetch$Guesser" "history" "I", Cond.methodLink RX6 108 yX1_returns]
def wsX6_finishEldest_r8 : List Cond := [Cond.instanceMethod yX1_returns, Cond.selects RX1 yX1_returns yX1_returns, Cond.code yX1_returns cX1_returns 1 (some (.object "GuessFetch$Pile")), Cond.fieldLink RX1 38 "GuessFetch$Guesser" "returns" "LGuessFetch$Pile;", Cond.methodLink RX6 262 yX4_giveReturnsBack, Cond.instanceMethod yX4_giveReturnsBack, Cond.selects RX4 yX4_giveReturnsBack yX4_giveReturnsBack, Cond.code yX4_giveReturnsBack cX4_giveReturnsBack 4 none, Cond.fieldLink RX4 29 "GuessFetch$Queue" "returnsSizes" "LGuessFetch$Row;", Cond.fieldLink RX4 32 "GuessFetch$Queue" "returns" "LGuessFetch$Row;", Cond.methodLink RX4 64 yX2_clear, Cond.instanceMethod yX2_clear, Cond.selects RX2 yX2_clear yX2_clear, Cond.code yX2_clear cX2_clear 1 none, Cond.methodLink RX4 67 yX2_push, Cond.methodLink RX6 266 yX1_noteWhatWasDone, Cond.instanceMethod yX1_noteWhatWasDone, Cond.selects RX1 yX1_noteWhatWasDone yX1_noteWhatWasDone, Cond.code yX1_noteWhatWasDone cX1_noteWhatWasDone 4 none, Cond.methodLink RX1 81 yX1_noteBit, Cond.instanceMethod yX1_noteBit, Cond.selects RX1 yX1_noteBit yX1_noteBit, Cond.code yX1_noteBit cX1_noteBit 2 none, Cond.methodLink RX1 88 yX2_pushEldestOut]
def wsX6_finishEldest_r9 : List Cond := [Cond.instanceMethod yX2_pushEldestOut, Cond.selects RX2 yX2_pushEldestOut yX2_pushEldestOut, Cond.code yX2_pushEldestOut cX2_pushEldestOut 3 none, Cond.methodLink RX2 29 yX2_push, Cond.methodLink RX1 85 yX2_pop]
def wsX6_finishEldest : List Cond := .code yX6_finishEldest cX6_finishEldest 6 none :: ((wsX6_finishEldest_r1 ++ (wsX6_finishEldest_r2 ++ (wsX6_finishEldest_r3 ++ (wsX6_finishEldest_r4 ++ (wsX6_finishEldest_r5 ++ (wsX6_finishEldest_r6 ++ (wsX6_finishEldest_r7 ++ (wsX6_finishEldest_r8 ++ wsX6_finishEldest_r9)))))))) ++ wsX60 ++ wsX40 ++ wsX50 ++ wsX30 ++ wsX00 ++ wsX20 ++ wsX10)
def wsX6_fetchAtPlace_r1 : List Cond := [Cond.fieldLink RX6 33 "GuessFetch" "queue" "LGuessFetch$Queue;", Cond.fieldLink RX6 60 "GuessFetch" "place" "I", Cond.fieldLink RX6 42 "GuessFetch" "counts" "LGuessFetch$Row;", Cond.fieldLink RX6 26 "GuessFetch" "guesser" "LGuessFetch$Guesser;", Cond.fieldLink RX6 53 "GuessFetch" "guessWay" "I", Cond.methodLink RX6 112 yX5_get, Cond.instanceMethod yX5_get, Cond.selects RX5 yX5_get yX5_get, Cond.initialized RX5, Cond.code yX5_get cX5_get 2 (some .int), Cond.fieldLink RX5 13 "GuessFetch$Row" "cells" "[I", Cond.methodLink RX6 194 yX4_add, Cond.instanceMethod yX4_add, Cond.selects RX4 yX4_add yX4_add, Cond.initialized RX4, Cond.code yX4_add cX4_add 4 (some .int), Cond.fieldLink RX4 35 "GuessFetch$Queue" "first" "I", Cond.fieldLink RX4 39 "GuessFetch$Queue" "size" "I", Cond.methodLink RX4 55 Lib.Math.min.name, Cond.static Lib.Math.min.name, Cond.initialized "java/lang/Math", Cond.code Lib.Math.min.name Lib.Math.min.code 2 (some .int), Cond.fieldLink RX4 14 "GuessFetch$Queue" "addresses" "LGuessFetch$Row;", Cond.fieldLink RX4 23 "GuessFetch$Queue" "cycles" "LGuessFetch$Row;"]
def wsX6_fetchAtPlace_r2 : List Cond := [Cond.methodLink RX4 52 yX5_set, Cond.instanceMethod yX5_set, Cond.selects RX5 yX5_set yX5_set, Cond.code yX5_set cX5_set 4 (some .int), Cond.methodLink RX6 196 yX1_history, Cond.instanceMethod yX1_history, Cond.selects RX1 yX1_history yX1_history, Cond.initialized RX1, Cond.code yX1_history cX1_history 1 (some .int), Cond.fieldLink RX1 42 "GuessFetch$Guesser" "history" "I", Cond.methodLink RX6 108 yX1_returns, Cond.instanceMethod yX1_returns, Cond.selects RX1 yX1_returns yX1_returns, Cond.code yX1_returns cX1_returns 1 (some (.object "GuessFetch$Pile")), Cond.fieldLink RX1 38 "GuessFetch$Guesser" "returns" "LGuessFetch$Pile;", Cond.methodLink RX6 199 yX4_keep, Cond.instanceMethod yX4_keep, Cond.selects RX4 yX4_keep yX4_keep, Cond.code yX4_keep cX4_keep 5 none, Cond.fieldLink RX4 26 "GuessFetch$Queue" "histories" "LGuessFetch$Row;", Cond.fieldLink RX4 29 "GuessFetch$Queue" "returnsSizes" "LGuessFetch$Row;", Cond.fieldLink RX4 32 "GuessFetch$Queue" "returns" "LGuessFetch$Row;", Cond.methodLink RX4 58 yX2_size, Cond.instanceMethod yX2_size]
def wsX6_fetchAtPlace_r3 : List Cond := [Cond.selects RX2 yX2_size yX2_size, Cond.initialized RX2, Cond.code yX2_size cX2_size 1 (some .int), Cond.fieldLink RX2 9 "GuessFetch$Pile" "size" "I", Cond.methodLink RX4 63 yX2_get, Cond.instanceMethod yX2_get, Cond.selects RX2 yX2_get yX2_get, Cond.code yX2_get cX2_get 2 (some .int), Cond.fieldLink RX2 21 "GuessFetch$Pile" "cells" "[I", Cond.methodLink RX2 25 yX2_has, Cond.instanceMethod yX2_has, Cond.selects RX2 yX2_has yX2_has, Cond.code yX2_has cX2_has 2 (some .boolean), Cond.methodLink RX6 203 yX1_isInTargets, Cond.instanceMethod yX1_isInTargets, Cond.selects RX1 yX1_isInTargets yX1_isInTargets, Cond.code yX1_isInTargets cX1_isInTargets 2 (some .boolean), Cond.fieldLink RX1 26 "GuessFetch$Guesser" "targetAddresses" "LGuessFetch$Row;", Cond.methodLink RX1 64 yX5_get, Cond.methodLink RX6 100 yX5_add, Cond.instanceMethod yX5_add, Cond.selects RX5 yX5_add yX5_add, Cond.code yX5_add cX5_add 3 none, Cond.methodLink RX5 19 yX5_get]
def wsX6_fetchAtPlace_r4 : List Cond := [Cond.methodLink RX5 23 yX5_set, Cond.methodLink RX6 206 yX1_guess, Cond.instanceMethod yX1_guess, Cond.selects RX1 yX1_guess yX1_guess, Cond.code yX1_guess cX1_guess 6 (some .int), Cond.fieldLink RX1 32 "GuessFetch$Guesser" "targetGoals" "LGuessFetch$Row;", Cond.fieldLink RX1 29 "GuessFetch$Guesser" "targetKinds" "LGuessFetch$Row;", Cond.methodLink RX1 70 yX1_isInTargets, Cond.static yX6_isBranch, Cond.initialized RX6, Cond.code yX6_isBranch cX6_isBranch 1 (some .boolean), Cond.methodLink RX1 77 yX1_seemsToTurn, Cond.instanceMethod yX1_seemsToTurn, Cond.selects RX1 yX1_seemsToTurn yX1_seemsToTurn, Cond.code yX1_seemsToTurn cX1_seemsToTurn 3 (some .boolean), Cond.fieldLink RX1 14 "GuessFetch$Guesser" "plain" "LGuessFetch$Row;", Cond.fieldLink RX1 20 "GuessFetch$Guesser" "mixed" "LGuessFetch$Row;", Cond.fieldLink RX1 23 "GuessFetch$Guesser" "choice" "LGuessFetch$Row;", Cond.methodLink RX1 91 yX1_tellsTurn, Cond.static yX1_tellsTurn, Cond.code yX1_tellsTurn cX1_tellsTurn 2 (some .boolean), Cond.methodLink RX1 95 yX1_mixedPlace, Cond.static yX1_mixedPlace, Cond.code yX1_mixedPlace cX1_mixedPlace 2 (some .int)]
def wsX6_fetchAtPlace_r5 : List Cond := [Cond.methodLink RX1 81 yX1_noteBit, Cond.instanceMethod yX1_noteBit, Cond.selects RX1 yX1_noteBit yX1_noteBit, Cond.code yX1_noteBit cX1_noteBit 2 none, Cond.methodLink RX1 85 yX2_pop, Cond.instanceMethod yX2_pop, Cond.selects RX2 yX2_pop yX2_pop, Cond.code yX2_pop cX2_pop 2 (some .int), Cond.methodLink RX2 15 Lib.Math.max.name, Cond.static Lib.Math.max.name, Cond.code Lib.Math.max.name Lib.Math.max.code 2 (some .int), Cond.methodLink RX2 32 yX2_get, Cond.methodLink RX1 88 yX2_pushEldestOut, Cond.instanceMethod yX2_pushEldestOut, Cond.selects RX2 yX2_pushEldestOut yX2_pushEldestOut, Cond.code yX2_pushEldestOut cX2_pushEldestOut 3 none, Cond.methodLink RX2 29 yX2_push, Cond.instanceMethod yX2_push, Cond.selects RX2 yX2_push yX2_push, Cond.code yX2_push cX2_push 2 (some .boolean), Cond.methodLink RX6 209 yX4_setGuess, Cond.instanceMethod yX4_setGuess, Cond.selects RX4 yX4_setGuess yX4_setGuess, Cond.code yX4_setGuess cX4_setGuess 3 none]
def wsX6_fetchAtPlace_r6 : List Cond := [Cond.fieldLink RX4 20 "GuessFetch$Queue" "guesses" "LGuessFetch$Row;"]
def wsX6_fetchAtPlace : List Cond := .code yX6_fetchAtPlace cX6_fetchAtPlace 2 none :: ((wsX6_fetchAtPlace_r1 ++ (wsX6_fetchAtPlace_r2 ++ (wsX6_fetchAtPlace_r3 ++ (wsX6_fetchAtPlace_r4 ++ (wsX6_fetchAtPlace_r5 ++ wsX6_fetchAtPlace_r6))))) ++ wsX60 ++ wsX50 ++ wsX40 ++ wsX10 ++ wsX20)
def wsX6_passCycle_r1 : List Cond := [Cond.fieldLink RX6 42 "GuessFetch" "counts" "LGuessFetch$Row;", Cond.fieldLink RX6 33 "GuessFetch" "queue" "LGuessFetch$Queue;", Cond.fieldLink RX6 10 "GuessFetch" "program" "LGuessFetch$Program;", Cond.fieldLink RX6 60 "GuessFetch" "place" "I", Cond.fieldLink RX6 57 "GuessFetch" "guessDepth" "I", Cond.methodLink RX6 100 yX5_add, Cond.instanceMethod yX5_add, Cond.selects RX5 yX5_add yX5_add, Cond.initialized RX5, Cond.code yX5_add cX5_add 3 none, Cond.methodLink RX5 19 yX5_get, Cond.instanceMethod yX5_get, Cond.selects RX5 yX5_get yX5_get, Cond.code yX5_get cX5_get 2 (some .int), Cond.fieldLink RX5 13 "GuessFetch$Row" "cells" "[I", Cond.methodLink RX5 23 yX5_set, Cond.instanceMethod yX5_set, Cond.selects RX5 yX5_set yX5_set, Cond.code yX5_set cX5_set 4 (some .int), Cond.methodLink RX6 148 yX4_size, Cond.instanceMethod yX4_size, Cond.selects RX4 yX4_size yX4_size, Cond.initialized RX4, Cond.code yX4_size cX4_size 1 (some .int)]
def wsX6_passCycle_r2 : List Cond := [Cond.fieldLink RX4 39 "GuessFetch$Queue" "size" "I", Cond.methodLink RX6 149 yX3_has, Cond.instanceMethod yX3_has, Cond.selects RX3 yX3_has yX3_has, Cond.initialized RX3, Cond.code yX3_has cX3_has 2 (some .boolean), Cond.fieldLink RX3 20 "GuessFetch$Program" "size" "I", Cond.methodLink RX6 119 yX6_endRun, Cond.instanceMethod yX6_endRun, Cond.selects RX6 yX6_endRun yX6_endRun, Cond.initialized RX6, Cond.code yX6_endRun cX6_endRun 2 none, Cond.fieldLink RX6 63 "GuessFetch" "runState" "I", Cond.methodLink RX6 256 yX6_dropFetched, Cond.instanceMethod yX6_dropFetched, Cond.selects RX6 yX6_dropFetched yX6_dropFetched, Cond.code yX6_dropFetched cX6_dropFetched 1 none, Cond.methodLink RX6 269 yX4_clear, Cond.instanceMethod yX4_clear, Cond.selects RX4 yX4_clear yX4_clear, Cond.code yX4_clear cX4_clear 1 none, Cond.methodLink RX6 112 yX5_get, Cond.methodLink RX6 185 yX4_isEldestOf, Cond.instanceMethod yX4_isEldestOf]
def wsX6_passCycle_r3 : List Cond := [Cond.selects RX4 yX4_isEldestOf yX4_isEldestOf, Cond.code yX4_isEldestOf cX4_isEldestOf 2 (some .boolean), Cond.fieldLink RX4 23 "GuessFetch$Queue" "cycles" "LGuessFetch$Row;", Cond.fieldLink RX4 35 "GuessFetch$Queue" "first" "I", Cond.methodLink RX4 42 yX5_get, Cond.methodLink RX6 188 yX6_finishEldest, Cond.instanceMethod yX6_finishEldest, Cond.selects RX6 yX6_finishEldest yX6_finishEldest, Cond.code yX6_finishEldest cX6_finishEldest 6 none, Cond.fieldLink RX6 19 "GuessFetch" "core" "LGuessFetch$Core;", Cond.fieldLink RX6 26 "GuessFetch" "guesser" "LGuessFetch$Guesser;", Cond.methodLink RX6 212 yX4_takeEldest, Cond.instanceMethod yX4_takeEldest, Cond.selects RX4 yX4_takeEldest yX4_takeEldest, Cond.code yX4_takeEldest cX4_takeEldest 2 (some .int), Cond.methodLink RX4 46 Lib.Math.max.name, Cond.static Lib.Math.max.name, Cond.initialized "java/lang/Math", Cond.code Lib.Math.max.name Lib.Math.max.code 2 (some .int), Cond.methodLink RX6 215 yX4_addressOf, Cond.instanceMethod yX4_addressOf, Cond.selects RX4 yX4_addressOf yX4_addressOf, Cond.code yX4_addressOf cX4_addressOf 2 (some .int), Cond.fieldLink RX4 14 "GuessFetch$Queue" "addresses" "LGuessFetch$Row;"]
def wsX6_passCycle_r4 : List Cond := [Cond.methodLink RX6 152 yX3_part, Cond.instanceMethod yX3_part, Cond.selects RX3 yX3_part yX3_part, Cond.code yX3_part cX3_part 3 (some .int), Cond.fieldLink RX3 14 "GuessFetch$Program" "parts" "LGuessFetch$Row;", Cond.methodLink RX3 24 yX5_get, Cond.methodLink RX6 218 yX0_turns, Cond.instanceMethod yX0_turns, Cond.selects RX0 yX0_turns yX0_turns, Cond.initialized RX0, Cond.code yX0_turns cX0_turns 6 (some .boolean), Cond.fieldLink RX0 14 "GuessFetch$Core" "registers" "LGuessFetch$Row;", Cond.methodLink RX0 46 yX3_part, Cond.methodLink RX0 30 yX5_get, Cond.static yX6_isTurn, Cond.code yX6_isTurn cX6_isTurn 1 (some .boolean), Cond.methodLink RX6 66 yX6_isWithin, Cond.static yX6_isWithin, Cond.code yX6_isWithin cX6_isWithin 3 (some .boolean), Cond.methodLink RX6 222 yX0_perform, Cond.instanceMethod yX0_perform, Cond.selects RX0 yX0_perform yX0_perform, Cond.code yX0_perform cX0_perform 7 (some .int), Cond.fieldLink RX0 20 "GuessFetch$Core" "memory" "LGuessFetch$Row;"]
def wsX6_passCycle_r5 : List Cond := [Cond.fieldLink RX0 26 "GuessFetch$Core" "addresses" "LGuessFetch$Pile;", Cond.constant RX0 62 (2147483647), Cond.methodLink RX0 34 yX5_set, Cond.methodLink RX0 55 yX2_push, Cond.instanceMethod yX2_push, Cond.selects RX2 yX2_push yX2_push, Cond.initialized RX2, Cond.code yX2_push cX2_push 2 (some .boolean), Cond.fieldLink RX2 9 "GuessFetch$Pile" "size" "I", Cond.fieldLink RX2 21 "GuessFetch$Pile" "cells" "[I", Cond.methodLink RX0 58 yX2_pop, Cond.instanceMethod yX2_pop, Cond.selects RX2 yX2_pop yX2_pop, Cond.code yX2_pop cX2_pop 2 (some .int), Cond.methodLink RX2 15 Lib.Math.max.name, Cond.methodLink RX2 32 yX2_get, Cond.instanceMethod yX2_get, Cond.selects RX2 yX2_get yX2_get, Cond.code yX2_get cX2_get 2 (some .int), Cond.methodLink RX2 25 yX2_has, Cond.instanceMethod yX2_has, Cond.selects RX2 yX2_has yX2_has, Cond.code yX2_has cX2_has 2 (some .boolean), Cond.methodLink RX0 61 yX3_size]
def wsX6_passCycle_r6 : List Cond := [Cond.instanceMethod yX3_size, Cond.selects RX3 yX3_size yX3_size, Cond.code yX3_size cX3_size 1 (some .int), Cond.methodLink RX6 226 yX6_noteDone, Cond.instanceMethod yX6_noteDone, Cond.selects RX6 yX6_noteDone yX6_noteDone, Cond.code yX6_noteDone cX6_noteDone 3 none, Cond.fieldLink RX6 49 "GuessFetch" "doneAddresses" "LGuessFetch$Pile;", Cond.methodLink RX6 250 yX2_push, Cond.methodLink RX6 253 yX6_isTurn, Cond.methodLink RX6 229 yX6_isBranch, Cond.static yX6_isBranch, Cond.code yX6_isBranch cX6_isBranch 1 (some .boolean), Cond.methodLink RX6 232 yX4_historyOf, Cond.instanceMethod yX4_historyOf, Cond.selects RX4 yX4_historyOf yX4_historyOf, Cond.code yX4_historyOf cX4_historyOf 2 (some .int), Cond.fieldLink RX4 26 "GuessFetch$Queue" "histories" "LGuessFetch$Row;", Cond.methodLink RX6 235 yX1_learn, Cond.instanceMethod yX1_learn, Cond.selects RX1 yX1_learn yX1_learn, Cond.initialized RX1, Cond.code yX1_learn cX1_learn 8 none, Cond.fieldLink RX1 14 "GuessFetch$Guesser" "plain" "LGuessFetch$Row;"]
def wsX6_passCycle_r7 : List Cond := [Cond.fieldLink RX1 20 "GuessFetch$Guesser" "mixed" "LGuessFetch$Row;", Cond.fieldLink RX1 23 "GuessFetch$Guesser" "choice" "LGuessFetch$Row;", Cond.methodLink RX1 95 yX1_mixedPlace, Cond.static yX1_mixedPlace, Cond.code yX1_mixedPlace cX1_mixedPlace 2 (some .int), Cond.methodLink RX1 91 yX1_tellsTurn, Cond.static yX1_tellsTurn, Cond.code yX1_tellsTurn cX1_tellsTurn 2 (some .boolean), Cond.methodLink RX1 64 yX5_get, Cond.methodLink RX1 106 yX1_step, Cond.static yX1_step, Cond.code yX1_step cX1_step 4 none, Cond.methodLink RX1 98 Lib.Math.min.name, Cond.static Lib.Math.min.name, Cond.code Lib.Math.min.name Lib.Math.min.code 2 (some .int), Cond.methodLink RX1 103 Lib.Math.max.name, Cond.methodLink RX1 69 yX5_set, Cond.methodLink RX6 239 yX1_noteTarget, Cond.instanceMethod yX1_noteTarget, Cond.selects RX1 yX1_noteTarget yX1_noteTarget, Cond.code yX1_noteTarget cX1_noteTarget 4 none, Cond.fieldLink RX1 26 "GuessFetch$Guesser" "targetAddresses" "LGuessFetch$Row;", Cond.fieldLink RX1 29 "GuessFetch$Guesser" "targetKinds" "LGuessFetch$Row;", Cond.fieldLink RX1 32 "GuessFetch$Guesser" "targetGoals" "LGuessFetch$Row;"]
def wsX6_passCycle_r8 : List Cond := [Cond.methodLink RX6 243 yX4_guessOf, Cond.instanceMethod yX4_guessOf, Cond.selects RX4 yX4_guessOf yX4_guessOf, Cond.code yX4_guessOf cX4_guessOf 2 (some .int), Cond.fieldLink RX4 20 "GuessFetch$Queue" "guesses" "LGuessFetch$Row;", Cond.methodLink RX6 246 yX6_goBack, Cond.instanceMethod yX6_goBack, Cond.selects RX6 yX6_goBack yX6_goBack, Cond.code yX6_goBack cX6_goBack 5 none, Cond.methodLink RX6 259 yX1_setHistory, Cond.instanceMethod yX1_setHistory, Cond.selects RX1 yX1_setHistory yX1_setHistory, Cond.code yX1_setHistory cX1_setHistory 2 none, Cond.fieldLink RX1 42 "GuessFetch$Guesser" "history" "I", Cond.methodLink RX6 108 yX1_returns, Cond.instanceMethod yX1_returns, Cond.selects RX1 yX1_returns yX1_returns, Cond.code yX1_returns cX1_returns 1 (some (.object "GuessFetch$Pile")), Cond.fieldLink RX1 38 "GuessFetch$Guesser" "returns" "LGuessFetch$Pile;", Cond.methodLink RX6 262 yX4_giveReturnsBack, Cond.instanceMethod yX4_giveReturnsBack, Cond.selects RX4 yX4_giveReturnsBack yX4_giveReturnsBack, Cond.code yX4_giveReturnsBack cX4_giveReturnsBack 4 none, Cond.fieldLink RX4 29 "GuessFetch$Queue" "returnsSizes" "LGuessFetch$Row;"]
def wsX6_passCycle_r9 : List Cond := [Cond.fieldLink RX4 32 "GuessFetch$Queue" "returns" "LGuessFetch$Row;", Cond.methodLink RX4 64 yX2_clear, Cond.instanceMethod yX2_clear, Cond.selects RX2 yX2_clear yX2_clear, Cond.code yX2_clear cX2_clear 1 none, Cond.methodLink RX4 67 yX2_push, Cond.methodLink RX6 266 yX1_noteWhatWasDone, Cond.instanceMethod yX1_noteWhatWasDone, Cond.selects RX1 yX1_noteWhatWasDone yX1_noteWhatWasDone, Cond.code yX1_noteWhatWasDone cX1_noteWhatWasDone 4 none, Cond.methodLink RX1 81 yX1_noteBit, Cond.instanceMethod yX1_noteBit, Cond.selects RX1 yX1_noteBit yX1_noteBit, Cond.code yX1_noteBit cX1_noteBit 2 none, Cond.methodLink RX1 88 yX2_pushEldestOut, Cond.instanceMethod yX2_pushEldestOut, Cond.selects RX2 yX2_pushEldestOut yX2_pushEldestOut, Cond.code yX2_pushEldestOut cX2_pushEldestOut 3 none, Cond.methodLink RX2 29 yX2_push, Cond.methodLink RX1 85 yX2_pop, Cond.methodLink RX6 70 yX6_isUnderWay, Cond.instanceMethod yX6_isUnderWay, Cond.selects RX6 yX6_isUnderWay yX6_isUnderWay, Cond.code yX6_isUnderWay cX6_isUnderWay 1 (some .boolean)]
def wsX6_passCycle_r10 : List Cond := [Cond.methodLink RX6 191 yX6_fetchAtPlace, Cond.instanceMethod yX6_fetchAtPlace, Cond.selects RX6 yX6_fetchAtPlace yX6_fetchAtPlace, Cond.code yX6_fetchAtPlace cX6_fetchAtPlace 2 none, Cond.fieldLink RX6 53 "GuessFetch" "guessWay" "I", Cond.methodLink RX6 194 yX4_add, Cond.instanceMethod yX4_add, Cond.selects RX4 yX4_add yX4_add, Cond.code yX4_add cX4_add 4 (some .int), Cond.methodLink RX4 55 Lib.Math.min.name, Cond.methodLink RX4 52 yX5_set, Cond.methodLink RX6 196 yX1_history, Cond.instanceMethod yX1_history, Cond.selects RX1 yX1_history yX1_history, Cond.code yX1_history cX1_history 1 (some .int), Cond.methodLink RX6 199 yX4_keep, Cond.instanceMethod yX4_keep, Cond.selects RX4 yX4_keep yX4_keep, Cond.code yX4_keep cX4_keep 5 none, Cond.methodLink RX4 58 yX2_size, Cond.instanceMethod yX2_size, Cond.selects RX2 yX2_size yX2_size, Cond.code yX2_size cX2_size 1 (some .int), Cond.methodLink RX4 63 yX2_get]
def wsX6_passCycle_r11 : List Cond := [Cond.methodLink RX6 203 yX1_isInTargets, Cond.instanceMethod yX1_isInTargets, Cond.selects RX1 yX1_isInTargets yX1_isInTargets, Cond.code yX1_isInTargets cX1_isInTargets 2 (some .boolean), Cond.methodLink RX6 206 yX1_guess, Cond.instanceMethod yX1_guess, Cond.selects RX1 yX1_guess yX1_guess, Cond.code yX1_guess cX1_guess 6 (some .int), Cond.methodLink RX1 70 yX1_isInTargets, Cond.methodLink RX1 77 yX1_seemsToTurn, Cond.instanceMethod yX1_seemsToTurn, Cond.selects RX1 yX1_seemsToTurn yX1_seemsToTurn, Cond.code yX1_seemsToTurn cX1_seemsToTurn 3 (some .boolean), Cond.methodLink RX6 209 yX4_setGuess, Cond.instanceMethod yX4_setGuess, Cond.selects RX4 yX4_setGuess yX4_setGuess, Cond.code yX4_setGuess cX4_setGuess 3 none]
def wsX6_passCycle : List Cond := .code yX6_passCycle cX6_passCycle 1 none :: ((wsX6_passCycle_r1 ++ (wsX6_passCycle_r2 ++ (wsX6_passCycle_r3 ++ (wsX6_passCycle_r4 ++ (wsX6_passCycle_r5 ++ (wsX6_passCycle_r6 ++ (wsX6_passCycle_r7 ++ (wsX6_passCycle_r8 ++ (wsX6_passCycle_r9 ++ (wsX6_passCycle_r10 ++ wsX6_passCycle_r11)))))))))) ++ wsX60 ++ wsX50 ++ wsX40 ++ wsX30 ++ wsX00 ++ wsX20 ++ wsX10)
def wsX6_run_r1 : List Cond := [Cond.fieldLink RX6 42 "GuessFetch" "counts" "LGuessFetch$Row;", Cond.methodLink RX6 66 yX6_isWithin, Cond.static yX6_isWithin, Cond.initialized RX6, Cond.code yX6_isWithin cX6_isWithin 3 (some .boolean), Cond.methodLink RX6 70 yX6_isUnderWay, Cond.instanceMethod yX6_isUnderWay, Cond.selects RX6 yX6_isUnderWay yX6_isUnderWay, Cond.code yX6_isUnderWay cX6_isUnderWay 1 (some .boolean), Cond.fieldLink RX6 63 "GuessFetch" "runState" "I", Cond.methodLink RX6 112 yX5_get, Cond.instanceMethod yX5_get, Cond.selects RX5 yX5_get yX5_get, Cond.initialized RX5, Cond.code yX5_get cX5_get 2 (some .int), Cond.fieldLink RX5 13 "GuessFetch$Row" "cells" "[I", Cond.methodLink RX6 116 yX6_passCycle, Cond.instanceMethod yX6_passCycle, Cond.selects RX6 yX6_passCycle yX6_passCycle, Cond.code yX6_passCycle cX6_passCycle 1 none, Cond.fieldLink RX6 33 "GuessFetch" "queue" "LGuessFetch$Queue;", Cond.fieldLink RX6 10 "GuessFetch" "program" "LGuessFetch$Program;", Cond.fieldLink RX6 60 "GuessFetch" "place" "I", Cond.fieldLink RX6 57 "GuessFetch" "guessDepth" "I"]
def wsX6_run_r2 : List Cond := [Cond.methodLink RX6 100 yX5_add, Cond.instanceMethod yX5_add, Cond.selects RX5 yX5_add yX5_add, Cond.code yX5_add cX5_add 3 none, Cond.methodLink RX5 19 yX5_get, Cond.methodLink RX5 23 yX5_set, Cond.instanceMethod yX5_set, Cond.selects RX5 yX5_set yX5_set, Cond.code yX5_set cX5_set 4 (some .int), Cond.methodLink RX6 148 yX4_size, Cond.instanceMethod yX4_size, Cond.selects RX4 yX4_size yX4_size, Cond.initialized RX4, Cond.code yX4_size cX4_size 1 (some .int), Cond.fieldLink RX4 39 "GuessFetch$Queue" "size" "I", Cond.methodLink RX6 149 yX3_has, Cond.instanceMethod yX3_has, Cond.selects RX3 yX3_has yX3_has, Cond.initialized RX3, Cond.code yX3_has cX3_has 2 (some .boolean), Cond.fieldLink RX3 20 "GuessFetch$Program" "size" "I", Cond.methodLink RX6 119 yX6_endRun, Cond.instanceMethod yX6_endRun, Cond.selects RX6 yX6_endRun yX6_endRun]
def wsX6_run_r3 : List Cond := [Cond.code yX6_endRun cX6_endRun 2 none, Cond.methodLink RX6 256 yX6_dropFetched, Cond.instanceMethod yX6_dropFetched, Cond.selects RX6 yX6_dropFetched yX6_dropFetched, Cond.code yX6_dropFetched cX6_dropFetched 1 none, Cond.methodLink RX6 269 yX4_clear, Cond.instanceMethod yX4_clear, Cond.selects RX4 yX4_clear yX4_clear, Cond.code yX4_clear cX4_clear 1 none, Cond.methodLink RX6 185 yX4_isEldestOf, Cond.instanceMethod yX4_isEldestOf, Cond.selects RX4 yX4_isEldestOf yX4_isEldestOf, Cond.code yX4_isEldestOf cX4_isEldestOf 2 (some .boolean), Cond.fieldLink RX4 23 "GuessFetch$Queue" "cycles" "LGuessFetch$Row;", Cond.fieldLink RX4 35 "GuessFetch$Queue" "first" "I", Cond.methodLink RX4 42 yX5_get, Cond.methodLink RX6 188 yX6_finishEldest, Cond.instanceMethod yX6_finishEldest, Cond.selects RX6 yX6_finishEldest yX6_finishEldest, Cond.code yX6_finishEldest cX6_finishEldest 6 none, Cond.fieldLink RX6 19 "GuessFetch" "core" "LGuessFetch$Core;", Cond.fieldLink RX6 26 "GuessFetch" "guesser" "LGuessFetch$Guesser;", Cond.methodLink RX6 212 yX4_takeEldest, Cond.instanceMethod yX4_takeEldest]
def wsX6_run_r4 : List Cond := [Cond.selects RX4 yX4_takeEldest yX4_takeEldest, Cond.code yX4_takeEldest cX4_takeEldest 2 (some .int), Cond.methodLink RX4 46 Lib.Math.max.name, Cond.static Lib.Math.max.name, Cond.initialized "java/lang/Math", Cond.code Lib.Math.max.name Lib.Math.max.code 2 (some .int), Cond.methodLink RX6 215 yX4_addressOf, Cond.instanceMethod yX4_addressOf, Cond.selects RX4 yX4_addressOf yX4_addressOf, Cond.code yX4_addressOf cX4_addressOf 2 (some .int), Cond.fieldLink RX4 14 "GuessFetch$Queue" "addresses" "LGuessFetch$Row;", Cond.methodLink RX6 152 yX3_part, Cond.instanceMethod yX3_part, Cond.selects RX3 yX3_part yX3_part, Cond.code yX3_part cX3_part 3 (some .int), Cond.fieldLink RX3 14 "GuessFetch$Program" "parts" "LGuessFetch$Row;", Cond.methodLink RX3 24 yX5_get, Cond.methodLink RX6 218 yX0_turns, Cond.instanceMethod yX0_turns, Cond.selects RX0 yX0_turns yX0_turns, Cond.initialized RX0, Cond.code yX0_turns cX0_turns 6 (some .boolean), Cond.fieldLink RX0 14 "GuessFetch$Core" "registers" "LGuessFetch$Row;", Cond.methodLink RX0 46 yX3_part]
def wsX6_run_r5 : List Cond := [Cond.methodLink RX0 30 yX5_get, Cond.static yX6_isTurn, Cond.code yX6_isTurn cX6_isTurn 1 (some .boolean), Cond.methodLink RX6 222 yX0_perform, Cond.instanceMethod yX0_perform, Cond.selects RX0 yX0_perform yX0_perform, Cond.code yX0_perform cX0_perform 7 (some .int), Cond.fieldLink RX0 20 "GuessFetch$Core" "memory" "LGuessFetch$Row;", Cond.fieldLink RX0 26 "GuessFetch$Core" "addresses" "LGuessFetch$Pile;", Cond.constant RX0 62 (2147483647), Cond.methodLink RX0 34 yX5_set, Cond.methodLink RX0 55 yX2_push, Cond.instanceMethod yX2_push, Cond.selects RX2 yX2_push yX2_push, Cond.initialized RX2, Cond.code yX2_push cX2_push 2 (some .boolean), Cond.fieldLink RX2 9 "GuessFetch$Pile" "size" "I", Cond.fieldLink RX2 21 "GuessFetch$Pile" "cells" "[I", Cond.methodLink RX0 58 yX2_pop, Cond.instanceMethod yX2_pop, Cond.selects RX2 yX2_pop yX2_pop, Cond.code yX2_pop cX2_pop 2 (some .int), Cond.methodLink RX2 15 Lib.Math.max.name, Cond.methodLink RX2 32 yX2_get]
def wsX6_run_r6 : List Cond := [Cond.instanceMethod yX2_get, Cond.selects RX2 yX2_get yX2_get, Cond.code yX2_get cX2_get 2 (some .int), Cond.methodLink RX2 25 yX2_has, Cond.instanceMethod yX2_has, Cond.selects RX2 yX2_has yX2_has, Cond.code yX2_has cX2_has 2 (some .boolean), Cond.methodLink RX0 61 yX3_size, Cond.instanceMethod yX3_size, Cond.selects RX3 yX3_size yX3_size, Cond.code yX3_size cX3_size 1 (some .int), Cond.methodLink RX6 226 yX6_noteDone, Cond.instanceMethod yX6_noteDone, Cond.selects RX6 yX6_noteDone yX6_noteDone, Cond.code yX6_noteDone cX6_noteDone 3 none, Cond.fieldLink RX6 49 "GuessFetch" "doneAddresses" "LGuessFetch$Pile;", Cond.methodLink RX6 250 yX2_push, Cond.methodLink RX6 253 yX6_isTurn, Cond.methodLink RX6 229 yX6_isBranch, Cond.static yX6_isBranch, Cond.code yX6_isBranch cX6_isBranch 1 (some .boolean), Cond.methodLink RX6 232 yX4_historyOf, Cond.instanceMethod yX4_historyOf, Cond.selects RX4 yX4_historyOf yX4_historyOf]
def wsX6_run_r7 : List Cond := [Cond.code yX4_historyOf cX4_historyOf 2 (some .int), Cond.fieldLink RX4 26 "GuessFetch$Queue" "histories" "LGuessFetch$Row;", Cond.methodLink RX6 235 yX1_learn, Cond.instanceMethod yX1_learn, Cond.selects RX1 yX1_learn yX1_learn, Cond.initialized RX1, Cond.code yX1_learn cX1_learn 8 none, Cond.fieldLink RX1 14 "GuessFetch$Guesser" "plain" "LGuessFetch$Row;", Cond.fieldLink RX1 20 "GuessFetch$Guesser" "mixed" "LGuessFetch$Row;", Cond.fieldLink RX1 23 "GuessFetch$Guesser" "choice" "LGuessFetch$Row;", Cond.methodLink RX1 95 yX1_mixedPlace, Cond.static yX1_mixedPlace, Cond.code yX1_mixedPlace cX1_mixedPlace 2 (some .int), Cond.methodLink RX1 91 yX1_tellsTurn, Cond.static yX1_tellsTurn, Cond.code yX1_tellsTurn cX1_tellsTurn 2 (some .boolean), Cond.methodLink RX1 64 yX5_get, Cond.methodLink RX1 106 yX1_step, Cond.static yX1_step, Cond.code yX1_step cX1_step 4 none, Cond.methodLink RX1 98 Lib.Math.min.name, Cond.static Lib.Math.min.name, Cond.code Lib.Math.min.name Lib.Math.min.code 2 (some .int), Cond.methodLink RX1 103 Lib.Math.max.name]
def wsX6_run_r8 : List Cond := [Cond.methodLink RX1 69 yX5_set, Cond.methodLink RX6 239 yX1_noteTarget, Cond.instanceMethod yX1_noteTarget, Cond.selects RX1 yX1_noteTarget yX1_noteTarget, Cond.code yX1_noteTarget cX1_noteTarget 4 none, Cond.fieldLink RX1 26 "GuessFetch$Guesser" "targetAddresses" "LGuessFetch$Row;", Cond.fieldLink RX1 29 "GuessFetch$Guesser" "targetKinds" "LGuessFetch$Row;", Cond.fieldLink RX1 32 "GuessFetch$Guesser" "targetGoals" "LGuessFetch$Row;", Cond.methodLink RX6 243 yX4_guessOf, Cond.instanceMethod yX4_guessOf, Cond.selects RX4 yX4_guessOf yX4_guessOf, Cond.code yX4_guessOf cX4_guessOf 2 (some .int), Cond.fieldLink RX4 20 "GuessFetch$Queue" "guesses" "LGuessFetch$Row;", Cond.methodLink RX6 246 yX6_goBack, Cond.instanceMethod yX6_goBack, Cond.selects RX6 yX6_goBack yX6_goBack, Cond.code yX6_goBack cX6_goBack 5 none, Cond.methodLink RX6 259 yX1_setHistory, Cond.instanceMethod yX1_setHistory, Cond.selects RX1 yX1_setHistory yX1_setHistory, Cond.code yX1_setHistory cX1_setHistory 2 none, Cond.fieldLink RX1 42 "GuessFetch$Guesser" "history" "I", Cond.methodLink RX6 108 yX1_returns, Cond.instanceMethod yX1_returns]
def wsX6_run_r9 : List Cond := [Cond.selects RX1 yX1_returns yX1_returns, Cond.code yX1_returns cX1_returns 1 (some (.object "GuessFetch$Pile")), Cond.fieldLink RX1 38 "GuessFetch$Guesser" "returns" "LGuessFetch$Pile;", Cond.methodLink RX6 262 yX4_giveReturnsBack, Cond.instanceMethod yX4_giveReturnsBack, Cond.selects RX4 yX4_giveReturnsBack yX4_giveReturnsBack, Cond.code yX4_giveReturnsBack cX4_giveReturnsBack 4 none, Cond.fieldLink RX4 29 "GuessFetch$Queue" "returnsSizes" "LGuessFetch$Row;", Cond.fieldLink RX4 32 "GuessFetch$Queue" "returns" "LGuessFetch$Row;", Cond.methodLink RX4 64 yX2_clear, Cond.instanceMethod yX2_clear, Cond.selects RX2 yX2_clear yX2_clear, Cond.code yX2_clear cX2_clear 1 none, Cond.methodLink RX4 67 yX2_push, Cond.methodLink RX6 266 yX1_noteWhatWasDone, Cond.instanceMethod yX1_noteWhatWasDone, Cond.selects RX1 yX1_noteWhatWasDone yX1_noteWhatWasDone, Cond.code yX1_noteWhatWasDone cX1_noteWhatWasDone 4 none, Cond.methodLink RX1 81 yX1_noteBit, Cond.instanceMethod yX1_noteBit, Cond.selects RX1 yX1_noteBit yX1_noteBit, Cond.code yX1_noteBit cX1_noteBit 2 none, Cond.methodLink RX1 88 yX2_pushEldestOut, Cond.instanceMethod yX2_pushEldestOut]
def wsX6_run_r10 : List Cond := [Cond.selects RX2 yX2_pushEldestOut yX2_pushEldestOut, Cond.code yX2_pushEldestOut cX2_pushEldestOut 3 none, Cond.methodLink RX2 29 yX2_push, Cond.methodLink RX1 85 yX2_pop, Cond.methodLink RX6 191 yX6_fetchAtPlace, Cond.instanceMethod yX6_fetchAtPlace, Cond.selects RX6 yX6_fetchAtPlace yX6_fetchAtPlace, Cond.code yX6_fetchAtPlace cX6_fetchAtPlace 2 none, Cond.fieldLink RX6 53 "GuessFetch" "guessWay" "I", Cond.methodLink RX6 194 yX4_add, Cond.instanceMethod yX4_add, Cond.selects RX4 yX4_add yX4_add, Cond.code yX4_add cX4_add 4 (some .int), Cond.methodLink RX4 55 Lib.Math.min.name, Cond.methodLink RX4 52 yX5_set, Cond.methodLink RX6 196 yX1_history, Cond.instanceMethod yX1_history, Cond.selects RX1 yX1_history yX1_history, Cond.code yX1_history cX1_history 1 (some .int), Cond.methodLink RX6 199 yX4_keep, Cond.instanceMethod yX4_keep, Cond.selects RX4 yX4_keep yX4_keep, Cond.code yX4_keep cX4_keep 5 none, Cond.methodLink RX4 58 yX2_size]
def wsX6_run_r11 : List Cond := [Cond.instanceMethod yX2_size, Cond.selects RX2 yX2_size yX2_size, Cond.code yX2_size cX2_size 1 (some .int), Cond.methodLink RX4 63 yX2_get, Cond.methodLink RX6 203 yX1_isInTargets, Cond.instanceMethod yX1_isInTargets, Cond.selects RX1 yX1_isInTargets yX1_isInTargets, Cond.code yX1_isInTargets cX1_isInTargets 2 (some .boolean), Cond.methodLink RX6 206 yX1_guess, Cond.instanceMethod yX1_guess, Cond.selects RX1 yX1_guess yX1_guess, Cond.code yX1_guess cX1_guess 6 (some .int), Cond.methodLink RX1 70 yX1_isInTargets, Cond.methodLink RX1 77 yX1_seemsToTurn, Cond.instanceMethod yX1_seemsToTurn, Cond.selects RX1 yX1_seemsToTurn yX1_seemsToTurn, Cond.code yX1_seemsToTurn cX1_seemsToTurn 3 (some .boolean), Cond.methodLink RX6 209 yX4_setGuess, Cond.instanceMethod yX4_setGuess, Cond.selects RX4 yX4_setGuess yX4_setGuess, Cond.code yX4_setGuess cX4_setGuess 3 none]
def wsX6_run : List Cond := .code yX6_run cX6_run 4 (some .int) :: ((wsX6_run_r1 ++ (wsX6_run_r2 ++ (wsX6_run_r3 ++ (wsX6_run_r4 ++ (wsX6_run_r5 ++ (wsX6_run_r6 ++ (wsX6_run_r7 ++ (wsX6_run_r8 ++ (wsX6_run_r9 ++ (wsX6_run_r10 ++ wsX6_run_r11)))))))))) ++ wsX60 ++ wsX50 ++ wsX40 ++ wsX30 ++ wsX00 ++ wsX20 ++ wsX10)
def wsX6_stop_r1 : List Cond := [Cond.fieldLink RX6 42 "GuessFetch" "counts" "LGuessFetch$Row;", Cond.methodLink RX6 70 yX6_isUnderWay, Cond.instanceMethod yX6_isUnderWay, Cond.selects RX6 yX6_isUnderWay yX6_isUnderWay, Cond.initialized RX6, Cond.code yX6_isUnderWay cX6_isUnderWay 1 (some .boolean), Cond.fieldLink RX6 63 "GuessFetch" "runState" "I", Cond.methodLink RX6 119 yX6_endRun, Cond.instanceMethod yX6_endRun, Cond.selects RX6 yX6_endRun yX6_endRun, Cond.code yX6_endRun cX6_endRun 2 none, Cond.methodLink RX6 256 yX6_dropFetched, Cond.instanceMethod yX6_dropFetched, Cond.selects RX6 yX6_dropFetched yX6_dropFetched, Cond.code yX6_dropFetched cX6_dropFetched 1 none, Cond.fieldLink RX6 33 "GuessFetch" "queue" "LGuessFetch$Queue;", Cond.methodLink RX6 148 yX4_size, Cond.instanceMethod yX4_size, Cond.selects RX4 yX4_size yX4_size, Cond.initialized RX4, Cond.code yX4_size cX4_size 1 (some .int), Cond.fieldLink RX4 39 "GuessFetch$Queue" "size" "I", Cond.methodLink RX6 100 yX5_add, Cond.instanceMethod yX5_add]
def wsX6_stop_r2 : List Cond := [Cond.selects RX5 yX5_add yX5_add, Cond.initialized RX5, Cond.code yX5_add cX5_add 3 none, Cond.methodLink RX5 19 yX5_get, Cond.instanceMethod yX5_get, Cond.selects RX5 yX5_get yX5_get, Cond.code yX5_get cX5_get 2 (some .int), Cond.fieldLink RX5 13 "GuessFetch$Row" "cells" "[I", Cond.methodLink RX5 23 yX5_set, Cond.instanceMethod yX5_set, Cond.selects RX5 yX5_set yX5_set, Cond.code yX5_set cX5_set 4 (some .int), Cond.methodLink RX6 269 yX4_clear, Cond.instanceMethod yX4_clear, Cond.selects RX4 yX4_clear yX4_clear, Cond.code yX4_clear cX4_clear 1 none, Cond.methodLink RX6 112 yX5_get]
def wsX6_stop : List Cond := .code yX6_stop cX6_stop 1 (some .int) :: ((wsX6_stop_r1 ++ wsX6_stop_r2) ++ wsX60 ++ wsX40 ++ wsX50)
def wsX6_ended : List Cond := .code yX6_ended cX6_ended 1 (some .int) :: ([.fieldLink RX6 63 "GuessFetch" "runState" "I"] ++ wsX60)
def wsX6_isTablePlace : List Cond := .code yX6_isTablePlace cX6_isTablePlace 2 (some .boolean) :: ([.methodLink RX6 66 yX6_isWithin, .static yX6_isWithin, .initialized RX6, .code yX6_isWithin cX6_isWithin 3 (some .boolean)])
def wsX6_isTableValue : List Cond := .code yX6_isTableValue cX6_isTableValue 2 (some .boolean) :: ([.methodLink RX6 66 yX6_isWithin, .static yX6_isWithin, .initialized RX6, .code yX6_isWithin cX6_isWithin 3 (some .boolean)])
def wsX6_harm_r1 : List Cond := [Cond.fieldLink RX6 26 "GuessFetch" "guesser" "LGuessFetch$Guesser;", Cond.methodLink RX6 66 yX6_isWithin, Cond.static yX6_isWithin, Cond.initialized RX6, Cond.code yX6_isWithin cX6_isWithin 3 (some .boolean), Cond.methodLink RX6 122 yX6_isTablePlace, Cond.static yX6_isTablePlace, Cond.code yX6_isTablePlace cX6_isTablePlace 2 (some .boolean), Cond.methodLink RX6 108 yX1_returns, Cond.instanceMethod yX1_returns, Cond.selects RX1 yX1_returns yX1_returns, Cond.initialized RX1, Cond.code yX1_returns cX1_returns 1 (some (.object "GuessFetch$Pile")), Cond.fieldLink RX1 38 "GuessFetch$Guesser" "returns" "LGuessFetch$Pile;", Cond.methodLink RX6 126 yX2_size, Cond.instanceMethod yX2_size, Cond.selects RX2 yX2_size yX2_size, Cond.initialized RX2, Cond.code yX2_size cX2_size 1 (some .int), Cond.fieldLink RX2 9 "GuessFetch$Pile" "size" "I", Cond.methodLink RX6 127 yX6_isTableValue, Cond.static yX6_isTableValue, Cond.code yX6_isTableValue cX6_isTableValue 2 (some .boolean), Cond.methodLink RX6 130 yX1_setCell]
def wsX6_harm_r2 : List Cond := [Cond.instanceMethod yX1_setCell, Cond.selects RX1 yX1_setCell yX1_setCell, Cond.code yX1_setCell cX1_setCell 5 (some .int), Cond.fieldLink RX1 42 "GuessFetch$Guesser" "history" "I", Cond.methodLink RX1 65 yX2_set, Cond.instanceMethod yX2_set, Cond.selects RX2 yX2_set yX2_set, Cond.code yX2_set cX2_set 4 (some .int), Cond.fieldLink RX2 21 "GuessFetch$Pile" "cells" "[I", Cond.methodLink RX2 25 yX2_has, Cond.instanceMethod yX2_has, Cond.selects RX2 yX2_has yX2_has, Cond.code yX2_has cX2_has 2 (some .boolean), Cond.methodLink RX1 60 yX1_row, Cond.instanceMethod yX1_row, Cond.selects RX1 yX1_row yX1_row, Cond.code yX1_row cX1_row 2 (some (.object "GuessFetch$Row")), Cond.fieldLink RX1 14 "GuessFetch$Guesser" "plain" "LGuessFetch$Row;", Cond.fieldLink RX1 20 "GuessFetch$Guesser" "mixed" "LGuessFetch$Row;", Cond.fieldLink RX1 23 "GuessFetch$Guesser" "choice" "LGuessFetch$Row;", Cond.fieldLink RX1 26 "GuessFetch$Guesser" "targetAddresses" "LGuessFetch$Row;", Cond.fieldLink RX1 29 "GuessFetch$Guesser" "targetKinds" "LGuessFetch$Row;", Cond.fieldLink RX1 32 "GuessFetch$Guesser" "targetGoals" "LGuessFetch$Row;", Cond.methodLink RX1 69 yX5_set]
def wsX6_harm_r3 : List Cond := [Cond.instanceMethod yX5_set, Cond.selects RX5 yX5_set yX5_set, Cond.initialized RX5, Cond.code yX5_set cX5_set 4 (some .int), Cond.fieldLink RX5 13 "GuessFetch$Row" "cells" "[I"]
def wsX6_harm : List Cond := .code yX6_harm cX6_harm 4 (some .int) :: ((wsX6_harm_r1 ++ (wsX6_harm_r2 ++ wsX6_harm_r3)) ++ wsX60 ++ wsX10 ++ wsX20 ++ wsX50)
def wsX6_forget_r1 : List Cond := [Cond.fieldLink RX6 26 "GuessFetch" "guesser" "LGuessFetch$Guesser;", Cond.methodLink RX6 70 yX6_isUnderWay, Cond.instanceMethod yX6_isUnderWay, Cond.selects RX6 yX6_isUnderWay yX6_isUnderWay, Cond.initialized RX6, Cond.code yX6_isUnderWay cX6_isUnderWay 1 (some .boolean), Cond.fieldLink RX6 63 "GuessFetch" "runState" "I", Cond.methodLink RX6 133 yX1_forgetTables, Cond.instanceMethod yX1_forgetTables, Cond.selects RX1 yX1_forgetTables yX1_forgetTables, Cond.initialized RX1, Cond.code yX1_forgetTables cX1_forgetTables 1 none, Cond.fieldLink RX1 14 "GuessFetch$Guesser" "plain" "LGuessFetch$Row;", Cond.fieldLink RX1 20 "GuessFetch$Guesser" "mixed" "LGuessFetch$Row;", Cond.fieldLink RX1 23 "GuessFetch$Guesser" "choice" "LGuessFetch$Row;", Cond.fieldLink RX1 26 "GuessFetch$Guesser" "targetAddresses" "LGuessFetch$Row;", Cond.fieldLink RX1 29 "GuessFetch$Guesser" "targetKinds" "LGuessFetch$Row;", Cond.fieldLink RX1 32 "GuessFetch$Guesser" "targetGoals" "LGuessFetch$Row;", Cond.fieldLink RX1 42 "GuessFetch$Guesser" "history" "I", Cond.methodLink RX1 49 yX5_fill, Cond.instanceMethod yX5_fill, Cond.selects RX5 yX5_fill yX5_fill, Cond.initialized RX5, Cond.code yX5_fill cX5_fill 3 none]
def wsX6_forget_r2 : List Cond := [Cond.fieldLink RX5 13 "GuessFetch$Row" "cells" "[I"]
def wsX6_forget : List Cond := .code yX6_forget cX6_forget 1 (some .int) :: ((wsX6_forget_r1 ++ wsX6_forget_r2) ++ wsX60 ++ wsX10 ++ wsX50)
def wsX6_table_r1 : List Cond := [Cond.fieldLink RX6 26 "GuessFetch" "guesser" "LGuessFetch$Guesser;", Cond.methodLink RX6 66 yX6_isWithin, Cond.static yX6_isWithin, Cond.initialized RX6, Cond.code yX6_isWithin cX6_isWithin 3 (some .boolean), Cond.methodLink RX6 122 yX6_isTablePlace, Cond.static yX6_isTablePlace, Cond.code yX6_isTablePlace cX6_isTablePlace 2 (some .boolean), Cond.methodLink RX6 136 yX1_cell, Cond.instanceMethod yX1_cell, Cond.selects RX1 yX1_cell yX1_cell, Cond.initialized RX1, Cond.code yX1_cell cX1_cell 3 (some .int), Cond.fieldLink RX1 42 "GuessFetch$Guesser" "history" "I", Cond.fieldLink RX1 38 "GuessFetch$Guesser" "returns" "LGuessFetch$Pile;", Cond.methodLink RX1 52 yX2_get, Cond.instanceMethod yX2_get, Cond.selects RX2 yX2_get yX2_get, Cond.initialized RX2, Cond.code yX2_get cX2_get 2 (some .int), Cond.fieldLink RX2 21 "GuessFetch$Pile" "cells" "[I", Cond.methodLink RX2 25 yX2_has, Cond.instanceMethod yX2_has, Cond.selects RX2 yX2_has yX2_has]
def wsX6_table_r2 : List Cond := [Cond.code yX2_has cX2_has 2 (some .boolean), Cond.fieldLink RX2 9 "GuessFetch$Pile" "size" "I", Cond.methodLink RX1 56 yX2_size, Cond.instanceMethod yX2_size, Cond.selects RX2 yX2_size yX2_size, Cond.code yX2_size cX2_size 1 (some .int), Cond.methodLink RX1 60 yX1_row, Cond.instanceMethod yX1_row, Cond.selects RX1 yX1_row yX1_row, Cond.code yX1_row cX1_row 2 (some (.object "GuessFetch$Row")), Cond.fieldLink RX1 14 "GuessFetch$Guesser" "plain" "LGuessFetch$Row;", Cond.fieldLink RX1 20 "GuessFetch$Guesser" "mixed" "LGuessFetch$Row;", Cond.fieldLink RX1 23 "GuessFetch$Guesser" "choice" "LGuessFetch$Row;", Cond.fieldLink RX1 26 "GuessFetch$Guesser" "targetAddresses" "LGuessFetch$Row;", Cond.fieldLink RX1 29 "GuessFetch$Guesser" "targetKinds" "LGuessFetch$Row;", Cond.fieldLink RX1 32 "GuessFetch$Guesser" "targetGoals" "LGuessFetch$Row;", Cond.methodLink RX1 64 yX5_get, Cond.instanceMethod yX5_get, Cond.selects RX5 yX5_get yX5_get, Cond.initialized RX5, Cond.code yX5_get cX5_get 2 (some .int), Cond.fieldLink RX5 13 "GuessFetch$Row" "cells" "[I"]
def wsX6_table : List Cond := .code yX6_table cX6_table 3 (some .int) :: ((wsX6_table_r1 ++ wsX6_table_r2) ++ wsX60 ++ wsX10 ++ wsX20 ++ wsX50)
def wsX6_value : List Cond := .code yX6_value cX6_value 2 (some .long) :: ([.fieldLink RX6 19 "GuessFetch" "core" "LGuessFetch$Core;", .constantLong RX6 89 (-101), .methodLink RX6 85 yX0_hasCell, .instanceMethod yX0_hasCell, .selects RX0 yX0_hasCell yX0_hasCell, .initialized RX0, .code yX0_hasCell cX0_hasCell 2 (some .boolean), .methodLink RX6 139 yX0_cell, .instanceMethod yX0_cell, .selects RX0 yX0_cell yX0_cell, .code yX0_cell cX0_cell 2 (some .int), .fieldLink RX0 14 "GuessFetch$Core" "registers" "LGuessFetch$Row;", .fieldLink RX0 20 "GuessFetch$Core" "memory" "LGuessFetch$Row;", .methodLink RX0 30 yX5_get, .instanceMethod yX5_get, .selects RX5 yX5_get yX5_get, .initialized RX5, .code yX5_get cX5_get 2 (some .int), .fieldLink RX5 13 "GuessFetch$Row" "cells" "[I"] ++ wsX60 ++ wsX00 ++ wsX50)
def wsX6_stack : List Cond := .code yX6_stack cX6_stack 2 (some .int) :: ([.fieldLink RX6 19 "GuessFetch" "core" "LGuessFetch$Core;", .methodLink RX6 141 yX0_stackAddress, .instanceMethod yX0_stackAddress, .selects RX0 yX0_stackAddress yX0_stackAddress, .initialized RX0, .code yX0_stackAddress cX0_stackAddress 2 (some .int), .fieldLink RX0 26 "GuessFetch$Core" "addresses" "LGuessFetch$Pile;", .methodLink RX0 42 yX2_get, .instanceMethod yX2_get, .selects RX2 yX2_get yX2_get, .initialized RX2, .code yX2_get cX2_get 2 (some .int), .fieldLink RX2 21 "GuessFetch$Pile" "cells" "[I", .methodLink RX2 25 yX2_has, .instanceMethod yX2_has, .selects RX2 yX2_has yX2_has, .code yX2_has cX2_has 2 (some .boolean), .fieldLink RX2 9 "GuessFetch$Pile" "size" "I"] ++ wsX60 ++ wsX00 ++ wsX20)
def wsX6_done : List Cond := .code yX6_done cX6_done 2 (some .int) :: ([.fieldLink RX6 49 "GuessFetch" "doneAddresses" "LGuessFetch$Pile;", .methodLink RX6 144 yX2_get, .instanceMethod yX2_get, .selects RX2 yX2_get yX2_get, .initialized RX2, .code yX2_get cX2_get 2 (some .int), .fieldLink RX2 21 "GuessFetch$Pile" "cells" "[I", .methodLink RX2 25 yX2_has, .instanceMethod yX2_has, .selects RX2 yX2_has yX2_has, .code yX2_has cX2_has 2 (some .boolean), .fieldLink RX2 9 "GuessFetch$Pile" "size" "I"] ++ wsX60 ++ wsX20)
def wsX6_fetched : List Cond := .code yX6_fetched cX6_fetched 2 (some .int) :: ([.fieldLink RX6 33 "GuessFetch" "queue" "LGuessFetch$Queue;", .methodLink RX6 145 yX4_address, .instanceMethod yX4_address, .selects RX4 yX4_address yX4_address, .initialized RX4, .code yX4_address cX4_address 2 (some .int), .fieldLink RX4 39 "GuessFetch$Queue" "size" "I", .fieldLink RX4 14 "GuessFetch$Queue" "addresses" "LGuessFetch$Row;", .fieldLink RX4 35 "GuessFetch$Queue" "first" "I", .methodLink RX4 42 yX5_get, .instanceMethod yX5_get, .selects RX5 yX5_get yX5_get, .initialized RX5, .code yX5_get cX5_get 2 (some .int), .fieldLink RX5 13 "GuessFetch$Row" "cells" "[I"] ++ wsX60 ++ wsX40 ++ wsX50)
def wsX6_known_r1 : List Cond := [Cond.fieldLink RX6 33 "GuessFetch" "queue" "LGuessFetch$Queue;", Cond.fieldLink RX6 60 "GuessFetch" "place" "I", Cond.methodLink RX6 70 yX6_isUnderWay, Cond.instanceMethod yX6_isUnderWay, Cond.selects RX6 yX6_isUnderWay yX6_isUnderWay, Cond.initialized RX6, Cond.code yX6_isUnderWay cX6_isUnderWay 1 (some .boolean), Cond.fieldLink RX6 63 "GuessFetch" "runState" "I", Cond.methodLink RX6 148 yX4_size, Cond.instanceMethod yX4_size, Cond.selects RX4 yX4_size yX4_size, Cond.initialized RX4, Cond.code yX4_size cX4_size 1 (some .int), Cond.fieldLink RX4 39 "GuessFetch$Queue" "size" "I", Cond.methodLink RX6 145 yX4_address, Cond.instanceMethod yX4_address, Cond.selects RX4 yX4_address yX4_address, Cond.code yX4_address cX4_address 2 (some .int), Cond.fieldLink RX4 14 "GuessFetch$Queue" "addresses" "LGuessFetch$Row;", Cond.fieldLink RX4 35 "GuessFetch$Queue" "first" "I", Cond.methodLink RX4 42 yX5_get, Cond.instanceMethod yX5_get, Cond.selects RX5 yX5_get yX5_get, Cond.initialized RX5]
def wsX6_known_r2 : List Cond := [Cond.code yX5_get cX5_get 2 (some .int), Cond.fieldLink RX5 13 "GuessFetch$Row" "cells" "[I"]
def wsX6_known : List Cond := .code yX6_known cX6_known 1 (some .int) :: ((wsX6_known_r1 ++ wsX6_known_r2) ++ wsX60 ++ wsX40 ++ wsX50)
def wsX6_told : List Cond := .code yX6_told cX6_told 3 (some .int) :: ([.fieldLink RX6 10 "GuessFetch" "program" "LGuessFetch$Program;", .methodLink RX6 149 yX3_has, .instanceMethod yX3_has, .selects RX3 yX3_has yX3_has, .initialized RX3, .code yX3_has cX3_has 2 (some .boolean), .fieldLink RX3 20 "GuessFetch$Program" "size" "I", .methodLink RX6 66 yX6_isWithin, .static yX6_isWithin, .initialized RX6, .code yX6_isWithin cX6_isWithin 3 (some .boolean), .methodLink RX6 152 yX3_part, .instanceMethod yX3_part, .selects RX3 yX3_part yX3_part, .code yX3_part cX3_part 3 (some .int), .fieldLink RX3 14 "GuessFetch$Program" "parts" "LGuessFetch$Row;", .methodLink RX3 24 yX5_get, .instanceMethod yX5_get, .selects RX5 yX5_get yX5_get, .initialized RX5, .code yX5_get cX5_get 2 (some .int), .fieldLink RX5 13 "GuessFetch$Row" "cells" "[I"] ++ wsX60 ++ wsX30 ++ wsX50)
def wsX6_count_r1 : List Cond := [Cond.fieldLink RX6 19 "GuessFetch" "core" "LGuessFetch$Core;", Cond.fieldLink RX6 33 "GuessFetch" "queue" "LGuessFetch$Queue;", Cond.fieldLink RX6 60 "GuessFetch" "place" "I", Cond.fieldLink RX6 10 "GuessFetch" "program" "LGuessFetch$Program;", Cond.fieldLink RX6 53 "GuessFetch" "guessWay" "I", Cond.fieldLink RX6 57 "GuessFetch" "guessDepth" "I", Cond.fieldLink RX6 42 "GuessFetch" "counts" "LGuessFetch$Row;", Cond.methodLink RX6 155 yX0_stackSize, Cond.instanceMethod yX0_stackSize, Cond.selects RX0 yX0_stackSize yX0_stackSize, Cond.initialized RX0, Cond.code yX0_stackSize cX0_stackSize 1 (some .int), Cond.fieldLink RX0 26 "GuessFetch$Core" "addresses" "LGuessFetch$Pile;", Cond.methodLink RX0 38 yX2_size, Cond.instanceMethod yX2_size, Cond.selects RX2 yX2_size yX2_size, Cond.initialized RX2, Cond.code yX2_size cX2_size 1 (some .int), Cond.fieldLink RX2 9 "GuessFetch$Pile" "size" "I", Cond.methodLink RX6 148 yX4_size, Cond.instanceMethod yX4_size, Cond.selects RX4 yX4_size yX4_size, Cond.initialized RX4, Cond.code yX4_size cX4_size 1 (some .int)]
def wsX6_count_r2 : List Cond := [Cond.fieldLink RX4 39 "GuessFetch$Queue" "size" "I", Cond.methodLink RX6 78 yX3_size, Cond.instanceMethod yX3_size, Cond.selects RX3 yX3_size yX3_size, Cond.initialized RX3, Cond.code yX3_size cX3_size 1 (some .int), Cond.fieldLink RX3 20 "GuessFetch$Program" "size" "I", Cond.methodLink RX6 66 yX6_isWithin, Cond.static yX6_isWithin, Cond.initialized RX6, Cond.code yX6_isWithin cX6_isWithin 3 (some .boolean), Cond.methodLink RX6 112 yX5_get, Cond.instanceMethod yX5_get, Cond.selects RX5 yX5_get yX5_get, Cond.initialized RX5, Cond.code yX5_get cX5_get 2 (some .int), Cond.fieldLink RX5 13 "GuessFetch$Row" "cells" "[I"]
def wsX6_count : List Cond := .code yX6_count cX6_count 2 (some .int) :: ((wsX6_count_r1 ++ wsX6_count_r2) ++ wsX60 ++ wsX00 ++ wsX20 ++ wsX40 ++ wsX30 ++ wsX50)
def wsX6_digestOfTables_r1 : List Cond := [Cond.constantLong RX6 160 (31), Cond.fieldLink RX6 26 "GuessFetch" "guesser" "LGuessFetch$Guesser;", Cond.methodLink RX6 182 yX6_table, Cond.instanceMethod yX6_table, Cond.selects RX6 yX6_table yX6_table, Cond.initialized RX6, Cond.code yX6_table cX6_table 3 (some .int), Cond.methodLink RX6 66 yX6_isWithin, Cond.static yX6_isWithin, Cond.code yX6_isWithin cX6_isWithin 3 (some .boolean), Cond.methodLink RX6 122 yX6_isTablePlace, Cond.static yX6_isTablePlace, Cond.code yX6_isTablePlace cX6_isTablePlace 2 (some .boolean), Cond.methodLink RX6 136 yX1_cell, Cond.instanceMethod yX1_cell, Cond.selects RX1 yX1_cell yX1_cell, Cond.initialized RX1, Cond.code yX1_cell cX1_cell 3 (some .int), Cond.fieldLink RX1 42 "GuessFetch$Guesser" "history" "I", Cond.fieldLink RX1 38 "GuessFetch$Guesser" "returns" "LGuessFetch$Pile;", Cond.methodLink RX1 52 yX2_get, Cond.instanceMethod yX2_get, Cond.selects RX2 yX2_get yX2_get, Cond.initialized RX2]
def wsX6_digestOfTables_r2 : List Cond := [Cond.code yX2_get cX2_get 2 (some .int), Cond.fieldLink RX2 21 "GuessFetch$Pile" "cells" "[I", Cond.methodLink RX2 25 yX2_has, Cond.instanceMethod yX2_has, Cond.selects RX2 yX2_has yX2_has, Cond.code yX2_has cX2_has 2 (some .boolean), Cond.fieldLink RX2 9 "GuessFetch$Pile" "size" "I", Cond.methodLink RX1 56 yX2_size, Cond.instanceMethod yX2_size, Cond.selects RX2 yX2_size yX2_size, Cond.code yX2_size cX2_size 1 (some .int), Cond.methodLink RX1 60 yX1_row, Cond.instanceMethod yX1_row, Cond.selects RX1 yX1_row yX1_row, Cond.code yX1_row cX1_row 2 (some (.object "GuessFetch$Row")), Cond.fieldLink RX1 14 "GuessFetch$Guesser" "plain" "LGuessFetch$Row;", Cond.fieldLink RX1 20 "GuessFetch$Guesser" "mixed" "LGuessFetch$Row;", Cond.fieldLink RX1 23 "GuessFetch$Guesser" "choice" "LGuessFetch$Row;", Cond.fieldLink RX1 26 "GuessFetch$Guesser" "targetAddresses" "LGuessFetch$Row;", Cond.fieldLink RX1 29 "GuessFetch$Guesser" "targetKinds" "LGuessFetch$Row;", Cond.fieldLink RX1 32 "GuessFetch$Guesser" "targetGoals" "LGuessFetch$Row;", Cond.methodLink RX1 64 yX5_get, Cond.instanceMethod yX5_get, Cond.selects RX5 yX5_get yX5_get]
def wsX6_digestOfTables_r3 : List Cond := [Cond.initialized RX5, Cond.code yX5_get cX5_get 2 (some .int), Cond.fieldLink RX5 13 "GuessFetch$Row" "cells" "[I", Cond.methodLink RX6 108 yX1_returns, Cond.instanceMethod yX1_returns, Cond.selects RX1 yX1_returns yX1_returns, Cond.code yX1_returns cX1_returns 1 (some (.object "GuessFetch$Pile")), Cond.methodLink RX6 126 yX2_size]
def wsX6_digestOfTables : List Cond := .code yX6_digestOfTables cX6_digestOfTables 8 (some .long) :: ((wsX6_digestOfTables_r1 ++ (wsX6_digestOfTables_r2 ++ wsX6_digestOfTables_r3)) ++ wsX60 ++ wsX10 ++ wsX20 ++ wsX50)
def wsX6_digest_r1 : List Cond := [Cond.constantLong RX6 158 (73), Cond.fieldLink RX6 10 "GuessFetch" "program" "LGuessFetch$Program;", Cond.constantLong RX6 160 (31), Cond.fieldLink RX6 19 "GuessFetch" "core" "LGuessFetch$Core;", Cond.fieldLink RX6 33 "GuessFetch" "queue" "LGuessFetch$Queue;", Cond.methodLink RX6 78 yX3_size, Cond.instanceMethod yX3_size, Cond.selects RX3 yX3_size yX3_size, Cond.initialized RX3, Cond.code yX3_size cX3_size 1 (some .int), Cond.fieldLink RX3 20 "GuessFetch$Program" "size" "I", Cond.methodLink RX6 162 yX6_told, Cond.instanceMethod yX6_told, Cond.selects RX6 yX6_told yX6_told, Cond.initialized RX6, Cond.code yX6_told cX6_told 3 (some .int), Cond.methodLink RX6 149 yX3_has, Cond.instanceMethod yX3_has, Cond.selects RX3 yX3_has yX3_has, Cond.code yX3_has cX3_has 2 (some .boolean), Cond.methodLink RX6 66 yX6_isWithin, Cond.static yX6_isWithin, Cond.code yX6_isWithin cX6_isWithin 3 (some .boolean), Cond.methodLink RX6 152 yX3_part]
def wsX6_digest_r2 : List Cond := [Cond.instanceMethod yX3_part, Cond.selects RX3 yX3_part yX3_part, Cond.code yX3_part cX3_part 3 (some .int), Cond.fieldLink RX3 14 "GuessFetch$Program" "parts" "LGuessFetch$Row;", Cond.methodLink RX3 24 yX5_get, Cond.instanceMethod yX5_get, Cond.selects RX5 yX5_get yX5_get, Cond.initialized RX5, Cond.code yX5_get cX5_get 2 (some .int), Cond.fieldLink RX5 13 "GuessFetch$Row" "cells" "[I", Cond.methodLink RX6 165 yX6_value, Cond.instanceMethod yX6_value, Cond.selects RX6 yX6_value yX6_value, Cond.code yX6_value cX6_value 2 (some .long), Cond.constantLong RX6 89 (-101), Cond.methodLink RX6 85 yX0_hasCell, Cond.instanceMethod yX0_hasCell, Cond.selects RX0 yX0_hasCell yX0_hasCell, Cond.initialized RX0, Cond.code yX0_hasCell cX0_hasCell 2 (some .boolean), Cond.methodLink RX6 139 yX0_cell, Cond.instanceMethod yX0_cell, Cond.selects RX0 yX0_cell yX0_cell, Cond.code yX0_cell cX0_cell 2 (some .int)]
def wsX6_digest_r3 : List Cond := [Cond.fieldLink RX0 14 "GuessFetch$Core" "registers" "LGuessFetch$Row;", Cond.fieldLink RX0 20 "GuessFetch$Core" "memory" "LGuessFetch$Row;", Cond.methodLink RX0 30 yX5_get, Cond.methodLink RX6 155 yX0_stackSize, Cond.instanceMethod yX0_stackSize, Cond.selects RX0 yX0_stackSize yX0_stackSize, Cond.code yX0_stackSize cX0_stackSize 1 (some .int), Cond.fieldLink RX0 26 "GuessFetch$Core" "addresses" "LGuessFetch$Pile;", Cond.methodLink RX0 38 yX2_size, Cond.instanceMethod yX2_size, Cond.selects RX2 yX2_size yX2_size, Cond.initialized RX2, Cond.code yX2_size cX2_size 1 (some .int), Cond.fieldLink RX2 9 "GuessFetch$Pile" "size" "I", Cond.methodLink RX6 169 yX6_stack, Cond.instanceMethod yX6_stack, Cond.selects RX6 yX6_stack yX6_stack, Cond.code yX6_stack cX6_stack 2 (some .int), Cond.methodLink RX6 141 yX0_stackAddress, Cond.instanceMethod yX0_stackAddress, Cond.selects RX0 yX0_stackAddress yX0_stackAddress, Cond.code yX0_stackAddress cX0_stackAddress 2 (some .int), Cond.methodLink RX0 42 yX2_get, Cond.instanceMethod yX2_get]
def wsX6_digest_r4 : List Cond := [Cond.selects RX2 yX2_get yX2_get, Cond.code yX2_get cX2_get 2 (some .int), Cond.fieldLink RX2 21 "GuessFetch$Pile" "cells" "[I", Cond.methodLink RX2 25 yX2_has, Cond.instanceMethod yX2_has, Cond.selects RX2 yX2_has yX2_has, Cond.code yX2_has cX2_has 2 (some .boolean), Cond.methodLink RX6 172 yX6_digestOfTables, Cond.instanceMethod yX6_digestOfTables, Cond.selects RX6 yX6_digestOfTables yX6_digestOfTables, Cond.code yX6_digestOfTables cX6_digestOfTables 8 (some .long), Cond.fieldLink RX6 26 "GuessFetch" "guesser" "LGuessFetch$Guesser;", Cond.methodLink RX6 182 yX6_table, Cond.instanceMethod yX6_table, Cond.selects RX6 yX6_table yX6_table, Cond.code yX6_table cX6_table 3 (some .int), Cond.methodLink RX6 122 yX6_isTablePlace, Cond.static yX6_isTablePlace, Cond.code yX6_isTablePlace cX6_isTablePlace 2 (some .boolean), Cond.methodLink RX6 136 yX1_cell, Cond.instanceMethod yX1_cell, Cond.selects RX1 yX1_cell yX1_cell, Cond.initialized RX1, Cond.code yX1_cell cX1_cell 3 (some .int)]
def wsX6_digest_r5 : List Cond := [Cond.fieldLink RX1 42 "GuessFetch$Guesser" "history" "I", Cond.fieldLink RX1 38 "GuessFetch$Guesser" "returns" "LGuessFetch$Pile;", Cond.methodLink RX1 52 yX2_get, Cond.methodLink RX1 56 yX2_size, Cond.methodLink RX1 60 yX1_row, Cond.instanceMethod yX1_row, Cond.selects RX1 yX1_row yX1_row, Cond.code yX1_row cX1_row 2 (some (.object "GuessFetch$Row")), Cond.fieldLink RX1 14 "GuessFetch$Guesser" "plain" "LGuessFetch$Row;", Cond.fieldLink RX1 20 "GuessFetch$Guesser" "mixed" "LGuessFetch$Row;", Cond.fieldLink RX1 23 "GuessFetch$Guesser" "choice" "LGuessFetch$Row;", Cond.fieldLink RX1 26 "GuessFetch$Guesser" "targetAddresses" "LGuessFetch$Row;", Cond.fieldLink RX1 29 "GuessFetch$Guesser" "targetKinds" "LGuessFetch$Row;", Cond.fieldLink RX1 32 "GuessFetch$Guesser" "targetGoals" "LGuessFetch$Row;", Cond.methodLink RX1 64 yX5_get, Cond.methodLink RX6 108 yX1_returns, Cond.instanceMethod yX1_returns, Cond.selects RX1 yX1_returns yX1_returns, Cond.code yX1_returns cX1_returns 1 (some (.object "GuessFetch$Pile")), Cond.methodLink RX6 126 yX2_size, Cond.methodLink RX6 148 yX4_size, Cond.instanceMethod yX4_size, Cond.selects RX4 yX4_size yX4_size, Cond.initialized RX4]
def wsX6_digest_r6 : List Cond := [Cond.code yX4_size cX4_size 1 (some .int), Cond.fieldLink RX4 39 "GuessFetch$Queue" "size" "I", Cond.methodLink RX6 176 yX6_fetched, Cond.instanceMethod yX6_fetched, Cond.selects RX6 yX6_fetched yX6_fetched, Cond.code yX6_fetched cX6_fetched 2 (some .int), Cond.methodLink RX6 145 yX4_address, Cond.instanceMethod yX4_address, Cond.selects RX4 yX4_address yX4_address, Cond.code yX4_address cX4_address 2 (some .int), Cond.fieldLink RX4 14 "GuessFetch$Queue" "addresses" "LGuessFetch$Row;", Cond.fieldLink RX4 35 "GuessFetch$Queue" "first" "I", Cond.methodLink RX4 42 yX5_get, Cond.methodLink RX6 179 yX6_count, Cond.instanceMethod yX6_count, Cond.selects RX6 yX6_count yX6_count, Cond.code yX6_count cX6_count 2 (some .int), Cond.fieldLink RX6 60 "GuessFetch" "place" "I", Cond.fieldLink RX6 53 "GuessFetch" "guessWay" "I", Cond.fieldLink RX6 57 "GuessFetch" "guessDepth" "I", Cond.fieldLink RX6 42 "GuessFetch" "counts" "LGuessFetch$Row;", Cond.methodLink RX6 112 yX5_get]
def wsX6_digest : List Cond := .code yX6_digest cX6_digest 5 (some .long) :: ((wsX6_digest_r1 ++ (wsX6_digest_r2 ++ (wsX6_digest_r3 ++ (wsX6_digest_r4 ++ (wsX6_digest_r5 ++ wsX6_digest_r6))))) ++ wsX60 ++ wsX30 ++ wsX50 ++ wsX00 ++ wsX20 ++ wsX10 ++ wsX40)
def wsX7_first : List Cond := .code yX7_first cX7_first 2 none :: ([.fieldLink RX7 35 "GuessFetchModel" "plain" "[I", .fieldLink RX7 38 "GuessFetchModel" "mixed" "[I", .fieldLink RX7 41 "GuessFetchModel" "choice" "[I", .fieldLink RX7 44 "GuessFetchModel" "targetAt" "[I", .fieldLink RX7 47 "GuessFetchModel" "targetKind" "[I", .fieldLink RX7 50 "GuessFetchModel" "target" "[I", .fieldLink RX7 89 "GuessFetchModel" "history" "I"] ++ wsX70)
def wsX7_init_r1 : List Cond := [Cond.methodLink RX7 1 objectInit, Cond.instanceMethod objectInit, Cond.code objectInit ⟨#[0xb1]⟩ 1 none, Cond.arrayClass .int, Cond.fieldLink RX7 7 "GuessFetchModel" "kinds" "[I", Cond.fieldLink RX7 13 "GuessFetchModel" "as" "[I", Cond.fieldLink RX7 16 "GuessFetchModel" "bs" "[I", Cond.fieldLink RX7 19 "GuessFetchModel" "cs" "[I", Cond.fieldLink RX7 22 "GuessFetchModel" "registers" "[I", Cond.fieldLink RX7 25 "GuessFetchModel" "memory" "[I", Cond.fieldLink RX7 28 "GuessFetchModel" "stack" "[I", Cond.fieldLink RX7 31 "GuessFetchModel" "depth" "I", Cond.fieldLink RX7 35 "GuessFetchModel" "plain" "[I", Cond.fieldLink RX7 38 "GuessFetchModel" "mixed" "[I", Cond.fieldLink RX7 41 "GuessFetchModel" "choice" "[I", Cond.fieldLink RX7 44 "GuessFetchModel" "targetAt" "[I", Cond.fieldLink RX7 47 "GuessFetchModel" "targetKind" "[I", Cond.fieldLink RX7 50 "GuessFetchModel" "target" "[I", Cond.fieldLink RX7 53 "GuessFetchModel" "returns" "[I", Cond.fieldLink RX7 56 "GuessFetchModel" "fetchAt" "[I", Cond.fieldLink RX7 59 "GuessFetchModel" "fetchCycle" "[I", Cond.fieldLink RX7 62 "GuessFetchModel" "fetchGuess" "[I", Cond.fieldLink RX7 65 "GuessFetchModel" "fetchHistory" "[I", Cond.fieldLink RX7 68 "GuessFetchModel" "fetchReturned" "[I"]
def wsX7_init_r2 : List Cond := [Cond.fieldLink RX7 71 "GuessFetchModel" "fetchReturns" "[I", Cond.fieldLink RX7 74 "GuessFetchModel" "ended" "I", Cond.fieldLink RX7 77 "GuessFetchModel" "counts" "[I", Cond.fieldLink RX7 80 "GuessFetchModel" "doneAt" "[I", Cond.fieldLink RX7 83 "GuessFetchModel" "keptReturns" "[I", Cond.methodLink RX7 86 yX7_first, Cond.instanceMethod yX7_first, Cond.selects RX7 yX7_first yX7_first, Cond.initialized RX7, Cond.code yX7_first cX7_first 2 none, Cond.fieldLink RX7 89 "GuessFetchModel" "history" "I"]
def wsX7_init : List Cond := .code yX7_init cX7_init 1 none :: ((wsX7_init_r1 ++ wsX7_init_r2) ++ wsX70)
def wsX7_in : List Cond := .code yX7_in cX7_in 3 (some .boolean) :: ([])
def wsX7_act : List Cond := .code yX7_act cX7_act 5 (some .int) :: ([.fieldLink RX7 96 "GuessFetchModel" "runs" "Z", .fieldLink RX7 100 "GuessFetchModel" "acts" "I", .fieldLink RX7 7 "GuessFetchModel" "kinds" "[I", .fieldLink RX7 13 "GuessFetchModel" "as" "[I", .fieldLink RX7 16 "GuessFetchModel" "bs" "[I", .fieldLink RX7 19 "GuessFetchModel" "cs" "[I", .methodLink RX7 92 yX7_in, .static yX7_in, .initialized RX7, .code yX7_in cX7_in 3 (some .boolean)] ++ wsX70)
def wsX7_wipe : List Cond := .code yX7_wipe cX7_wipe 2 (some .int) :: ([.fieldLink RX7 96 "GuessFetchModel" "runs" "Z", .fieldLink RX7 100 "GuessFetchModel" "acts" "I"] ++ wsX70)
def wsX7_valueOf : List Cond := .code yX7_valueOf cX7_valueOf 2 (some .long) :: ([.fieldLink RX7 22 "GuessFetchModel" "registers" "[I", .fieldLink RX7 25 "GuessFetchModel" "memory" "[I"] ++ wsX70)
def wsX7_put : List Cond := .code yX7_put cX7_put 5 (some .long) :: ([.constantLong RX7 103 (-101), .fieldLink RX7 96 "GuessFetchModel" "runs" "Z", .constantLong RX7 105 (-103), .fieldLink RX7 22 "GuessFetchModel" "registers" "[I", .fieldLink RX7 25 "GuessFetchModel" "memory" "[I", .methodLink RX7 92 yX7_in, .static yX7_in, .initialized RX7, .code yX7_in cX7_in 3 (some .boolean), .methodLink RX7 107 yX7_valueOf, .instanceMethod yX7_valueOf, .selects RX7 yX7_valueOf yX7_valueOf, .code yX7_valueOf cX7_valueOf 2 (some .long)] ++ wsX70)
def wsX7_way : List Cond := .code yX7_way cX7_way 3 (some .int) :: ([.fieldLink RX7 96 "GuessFetchModel" "runs" "Z", .fieldLink RX7 111 "GuessFetchModel" "way" "I", .fieldLink RX7 31 "GuessFetchModel" "depth" "I", .methodLink RX7 92 yX7_in, .static yX7_in, .initialized RX7, .code yX7_in cX7_in 3 (some .boolean)] ++ wsX70)
def wsX7_begin : List Cond := .code yX7_begin cX7_begin 2 (some .int) :: ([.fieldLink RX7 96 "GuessFetchModel" "runs" "Z", .fieldLink RX7 74 "GuessFetchModel" "ended" "I", .fieldLink RX7 114 "GuessFetchModel" "deep" "I", .fieldLink RX7 117 "GuessFetchModel" "fetched" "I", .fieldLink RX7 120 "GuessFetchModel" "returned" "I", .fieldLink RX7 123 "GuessFetchModel" "place" "I", .fieldLink RX7 77 "GuessFetchModel" "counts" "[I"] ++ wsX70)
def wsX7_finish : List Cond := .code yX7_finish cX7_finish 2 none :: ([.fieldLink RX7 96 "GuessFetchModel" "runs" "Z", .fieldLink RX7 74 "GuessFetchModel" "ended" "I", .fieldLink RX7 77 "GuessFetchModel" "counts" "[I", .fieldLink RX7 117 "GuessFetchModel" "fetched" "I"] ++ wsX70)
def wsX7_more : List Cond := .code yX7_more cX7_more 2 (some .int) :: ([])
def wsX7_push : List Cond := .code yX7_push cX7_push 3 none :: ([.fieldLink RX7 120 "GuessFetchModel" "returned" "I", .fieldLink RX7 53 "GuessFetchModel" "returns" "[I"] ++ wsX70)
def wsX7_bit : List Cond := .code yX7_bit cX7_bit 2 none :: ([.fieldLink RX7 89 "GuessFetchModel" "history" "I"] ++ wsX70)
def wsX7_mixedAt : List Cond := .code yX7_mixedAt cX7_mixedAt 3 (some .int) :: ([])
def wsX7_guessesTurn : List Cond := .code yX7_guessesTurn cX7_guessesTurn 2 (some .boolean) :: ([.fieldLink RX7 111 "GuessFetchModel" "way" "I", .fieldLink RX7 35 "GuessFetchModel" "plain" "[I", .fieldLink RX7 38 "GuessFetchModel" "mixed" "[I", .fieldLink RX7 89 "GuessFetchModel" "history" "I", .fieldLink RX7 41 "GuessFetchModel" "choice" "[I", .methodLink RX7 126 yX7_mixedAt, .instanceMethod yX7_mixedAt, .selects RX7 yX7_mixedAt yX7_mixedAt, .initialized RX7, .code yX7_mixedAt cX7_mixedAt 3 (some .int)] ++ wsX70)
def wsX7_guess_r1 : List Cond := [Cond.fieldLink RX7 44 "GuessFetchModel" "targetAt" "[I", Cond.fieldLink RX7 77 "GuessFetchModel" "counts" "[I", Cond.fieldLink RX7 47 "GuessFetchModel" "targetKind" "[I", Cond.fieldLink RX7 50 "GuessFetchModel" "target" "[I", Cond.fieldLink RX7 120 "GuessFetchModel" "returned" "I", Cond.fieldLink RX7 53 "GuessFetchModel" "returns" "[I", Cond.methodLink RX7 130 yX7_guessesTurn, Cond.instanceMethod yX7_guessesTurn, Cond.selects RX7 yX7_guessesTurn yX7_guessesTurn, Cond.initialized RX7, Cond.code yX7_guessesTurn cX7_guessesTurn 2 (some .boolean), Cond.fieldLink RX7 111 "GuessFetchModel" "way" "I", Cond.fieldLink RX7 35 "GuessFetchModel" "plain" "[I", Cond.fieldLink RX7 38 "GuessFetchModel" "mixed" "[I", Cond.fieldLink RX7 89 "GuessFetchModel" "history" "I", Cond.fieldLink RX7 41 "GuessFetchModel" "choice" "[I", Cond.methodLink RX7 126 yX7_mixedAt, Cond.instanceMethod yX7_mixedAt, Cond.selects RX7 yX7_mixedAt yX7_mixedAt, Cond.code yX7_mixedAt cX7_mixedAt 3 (some .int), Cond.methodLink RX7 134 yX7_bit, Cond.instanceMethod yX7_bit, Cond.selects RX7 yX7_bit yX7_bit, Cond.code yX7_bit cX7_bit 2 none]
def wsX7_guess_r2 : List Cond := [Cond.methodLink RX7 138 yX7_push, Cond.instanceMethod yX7_push, Cond.selects RX7 yX7_push yX7_push, Cond.code yX7_push cX7_push 3 none]
def wsX7_guess : List Cond := .code yX7_guess cX7_guess 5 (some .int) :: ((wsX7_guess_r1 ++ wsX7_guess_r2) ++ wsX70)
def wsX7_fetch_r1 : List Cond := [Cond.fieldLink RX7 123 "GuessFetchModel" "place" "I", Cond.fieldLink RX7 100 "GuessFetchModel" "acts" "I", Cond.fieldLink RX7 56 "GuessFetchModel" "fetchAt" "[I", Cond.fieldLink RX7 117 "GuessFetchModel" "fetched" "I", Cond.fieldLink RX7 59 "GuessFetchModel" "fetchCycle" "[I", Cond.fieldLink RX7 65 "GuessFetchModel" "fetchHistory" "[I", Cond.fieldLink RX7 89 "GuessFetchModel" "history" "I", Cond.fieldLink RX7 68 "GuessFetchModel" "fetchReturned" "[I", Cond.fieldLink RX7 120 "GuessFetchModel" "returned" "I", Cond.fieldLink RX7 71 "GuessFetchModel" "fetchReturns" "[I", Cond.fieldLink RX7 53 "GuessFetchModel" "returns" "[I", Cond.fieldLink RX7 62 "GuessFetchModel" "fetchGuess" "[I", Cond.methodLink RX7 92 yX7_in, Cond.static yX7_in, Cond.initialized RX7, Cond.code yX7_in cX7_in 3 (some .boolean), Cond.methodLink RX7 142 yX7_guess, Cond.instanceMethod yX7_guess, Cond.selects RX7 yX7_guess yX7_guess, Cond.code yX7_guess cX7_guess 5 (some .int), Cond.fieldLink RX7 44 "GuessFetchModel" "targetAt" "[I", Cond.fieldLink RX7 77 "GuessFetchModel" "counts" "[I", Cond.fieldLink RX7 47 "GuessFetchModel" "targetKind" "[I", Cond.fieldLink RX7 50 "GuessFetchModel" "target" "[I"]
def wsX7_fetch_r2 : List Cond := [Cond.methodLink RX7 130 yX7_guessesTurn, Cond.instanceMethod yX7_guessesTurn, Cond.selects RX7 yX7_guessesTurn yX7_guessesTurn, Cond.code yX7_guessesTurn cX7_guessesTurn 2 (some .boolean), Cond.fieldLink RX7 111 "GuessFetchModel" "way" "I", Cond.fieldLink RX7 35 "GuessFetchModel" "plain" "[I", Cond.fieldLink RX7 38 "GuessFetchModel" "mixed" "[I", Cond.fieldLink RX7 41 "GuessFetchModel" "choice" "[I", Cond.methodLink RX7 126 yX7_mixedAt, Cond.instanceMethod yX7_mixedAt, Cond.selects RX7 yX7_mixedAt yX7_mixedAt, Cond.code yX7_mixedAt cX7_mixedAt 3 (some .int), Cond.methodLink RX7 134 yX7_bit, Cond.instanceMethod yX7_bit, Cond.selects RX7 yX7_bit yX7_bit, Cond.code yX7_bit cX7_bit 2 none, Cond.methodLink RX7 138 yX7_push, Cond.instanceMethod yX7_push, Cond.selects RX7 yX7_push yX7_push, Cond.code yX7_push cX7_push 3 none]
def wsX7_fetch : List Cond := .code yX7_fetch cX7_fetch 3 none :: ((wsX7_fetch_r1 ++ wsX7_fetch_r2) ++ wsX70)
def wsX7_dropFirst : List Cond := .code yX7_dropFirst cX7_dropFirst 3 none :: ([.fieldLink RX7 117 "GuessFetchModel" "fetched" "I", .fieldLink RX7 56 "GuessFetchModel" "fetchAt" "[I", .fieldLink RX7 59 "GuessFetchModel" "fetchCycle" "[I", .fieldLink RX7 62 "GuessFetchModel" "fetchGuess" "[I", .fieldLink RX7 65 "GuessFetchModel" "fetchHistory" "[I", .fieldLink RX7 68 "GuessFetchModel" "fetchReturned" "[I", .fieldLink RX7 71 "GuessFetchModel" "fetchReturns" "[I"] ++ wsX70)
def wsX7_does : List Cond := .code yX7_does cX7_does 5 (some .int) :: ([.fieldLink RX7 13 "GuessFetchModel" "as" "[I", .fieldLink RX7 16 "GuessFetchModel" "bs" "[I", .fieldLink RX7 7 "GuessFetchModel" "kinds" "[I", .fieldLink RX7 22 "GuessFetchModel" "registers" "[I", .fieldLink RX7 19 "GuessFetchModel" "cs" "[I", .fieldLink RX7 25 "GuessFetchModel" "memory" "[I", .fieldLink RX7 114 "GuessFetchModel" "deep" "I", .fieldLink RX7 28 "GuessFetchModel" "stack" "[I", .constant RX7 146 (2147483647), .fieldLink RX7 100 "GuessFetchModel" "acts" "I"] ++ wsX70)
def wsX7_turned : List Cond := .code yX7_turned cX7_turned 2 (some .boolean) :: ([.fieldLink RX7 7 "GuessFetchModel" "kinds" "[I", .fieldLink RX7 22 "GuessFetchModel" "registers" "[I", .fieldLink RX7 13 "GuessFetchModel" "as" "[I", .fieldLink RX7 16 "GuessFetchModel" "bs" "[I"] ++ wsX70)
def wsX7_learn : List Cond := .code yX7_learn cX7_learn 8 none :: ([.fieldLink RX7 35 "GuessFetchModel" "plain" "[I", .fieldLink RX7 38 "GuessFetchModel" "mixed" "[I", .fieldLink RX7 41 "GuessFetchModel" "choice" "[I", .methodLink RX7 126 yX7_mixedAt, .instanceMethod yX7_mixedAt, .selects RX7 yX7_mixedAt yX7_mixedAt, .initialized RX7, .code yX7_mixedAt cX7_mixedAt 3 (some .int), .methodLink RX7 147 yX7_more, .static yX7_more, .code yX7_more cX7_more 2 (some .int)] ++ wsX70)
def wsX7_finishFirst_r1 : List Cond := [Cond.fieldLink RX7 56 "GuessFetchModel" "fetchAt" "[I", Cond.fieldLink RX7 7 "GuessFetchModel" "kinds" "[I", Cond.fieldLink RX7 62 "GuessFetchModel" "fetchGuess" "[I", Cond.fieldLink RX7 65 "GuessFetchModel" "fetchHistory" "[I", Cond.fieldLink RX7 68 "GuessFetchModel" "fetchReturned" "[I", Cond.fieldLink RX7 83 "GuessFetchModel" "keptReturns" "[I", Cond.fieldLink RX7 71 "GuessFetchModel" "fetchReturns" "[I", Cond.fieldLink RX7 77 "GuessFetchModel" "counts" "[I", Cond.fieldLink RX7 80 "GuessFetchModel" "doneAt" "[I", Cond.fieldLink RX7 44 "GuessFetchModel" "targetAt" "[I", Cond.fieldLink RX7 47 "GuessFetchModel" "targetKind" "[I", Cond.fieldLink RX7 50 "GuessFetchModel" "target" "[I", Cond.fieldLink RX7 117 "GuessFetchModel" "fetched" "I", Cond.fieldLink RX7 123 "GuessFetchModel" "place" "I", Cond.fieldLink RX7 89 "GuessFetchModel" "history" "I", Cond.fieldLink RX7 120 "GuessFetchModel" "returned" "I", Cond.fieldLink RX7 53 "GuessFetchModel" "returns" "[I", Cond.methodLink RX7 92 yX7_in, Cond.static yX7_in, Cond.initialized RX7, Cond.code yX7_in cX7_in 3 (some .boolean), Cond.methodLink RX7 151 yX7_turned, Cond.instanceMethod yX7_turned, Cond.selects RX7 yX7_turned yX7_turned]
def wsX7_finishFirst_r2 : List Cond := [Cond.code yX7_turned cX7_turned 2 (some .boolean), Cond.fieldLink RX7 22 "GuessFetchModel" "registers" "[I", Cond.fieldLink RX7 13 "GuessFetchModel" "as" "[I", Cond.fieldLink RX7 16 "GuessFetchModel" "bs" "[I", Cond.methodLink RX7 154 yX7_does, Cond.instanceMethod yX7_does, Cond.selects RX7 yX7_does yX7_does, Cond.code yX7_does cX7_does 5 (some .int), Cond.fieldLink RX7 19 "GuessFetchModel" "cs" "[I", Cond.fieldLink RX7 25 "GuessFetchModel" "memory" "[I", Cond.fieldLink RX7 114 "GuessFetchModel" "deep" "I", Cond.fieldLink RX7 28 "GuessFetchModel" "stack" "[I", Cond.constant RX7 146 (2147483647), Cond.fieldLink RX7 100 "GuessFetchModel" "acts" "I", Cond.methodLink RX7 157 yX7_dropFirst, Cond.instanceMethod yX7_dropFirst, Cond.selects RX7 yX7_dropFirst yX7_dropFirst, Cond.code yX7_dropFirst cX7_dropFirst 3 none, Cond.fieldLink RX7 59 "GuessFetchModel" "fetchCycle" "[I", Cond.methodLink RX7 160 yX7_finish, Cond.instanceMethod yX7_finish, Cond.selects RX7 yX7_finish yX7_finish, Cond.code yX7_finish cX7_finish 2 none, Cond.fieldLink RX7 96 "GuessFetchModel" "runs" "Z"]
def wsX7_finishFirst_r3 : List Cond := [Cond.fieldLink RX7 74 "GuessFetchModel" "ended" "I", Cond.methodLink RX7 163 yX7_learn, Cond.instanceMethod yX7_learn, Cond.selects RX7 yX7_learn yX7_learn, Cond.code yX7_learn cX7_learn 8 none, Cond.fieldLink RX7 35 "GuessFetchModel" "plain" "[I", Cond.fieldLink RX7 38 "GuessFetchModel" "mixed" "[I", Cond.fieldLink RX7 41 "GuessFetchModel" "choice" "[I", Cond.methodLink RX7 126 yX7_mixedAt, Cond.instanceMethod yX7_mixedAt, Cond.selects RX7 yX7_mixedAt yX7_mixedAt, Cond.code yX7_mixedAt cX7_mixedAt 3 (some .int), Cond.methodLink RX7 147 yX7_more, Cond.static yX7_more, Cond.code yX7_more cX7_more 2 (some .int), Cond.methodLink RX7 134 yX7_bit, Cond.instanceMethod yX7_bit, Cond.selects RX7 yX7_bit yX7_bit, Cond.code yX7_bit cX7_bit 2 none, Cond.methodLink RX7 138 yX7_push, Cond.instanceMethod yX7_push, Cond.selects RX7 yX7_push yX7_push, Cond.code yX7_push cX7_push 3 none]
def wsX7_finishFirst : List Cond := .code yX7_finishFirst cX7_finishFirst 10 none :: ((wsX7_finishFirst_r1 ++ (wsX7_finishFirst_r2 ++ wsX7_finishFirst_r3)) ++ wsX70)
def wsX7_cycle_r1 : List Cond := [Cond.fieldLink RX7 77 "GuessFetchModel" "counts" "[I", Cond.fieldLink RX7 117 "GuessFetchModel" "fetched" "I", Cond.fieldLink RX7 123 "GuessFetchModel" "place" "I", Cond.fieldLink RX7 100 "GuessFetchModel" "acts" "I", Cond.fieldLink RX7 59 "GuessFetchModel" "fetchCycle" "[I", Cond.fieldLink RX7 31 "GuessFetchModel" "depth" "I", Cond.fieldLink RX7 96 "GuessFetchModel" "runs" "Z", Cond.methodLink RX7 92 yX7_in, Cond.static yX7_in, Cond.initialized RX7, Cond.code yX7_in cX7_in 3 (some .boolean), Cond.methodLink RX7 160 yX7_finish, Cond.instanceMethod yX7_finish, Cond.selects RX7 yX7_finish yX7_finish, Cond.code yX7_finish cX7_finish 2 none, Cond.fieldLink RX7 74 "GuessFetchModel" "ended" "I", Cond.methodLink RX7 167 yX7_finishFirst, Cond.instanceMethod yX7_finishFirst, Cond.selects RX7 yX7_finishFirst yX7_finishFirst, Cond.code yX7_finishFirst cX7_finishFirst 10 none, Cond.fieldLink RX7 56 "GuessFetchModel" "fetchAt" "[I", Cond.fieldLink RX7 7 "GuessFetchModel" "kinds" "[I", Cond.fieldLink RX7 62 "GuessFetchModel" "fetchGuess" "[I", Cond.fieldLink RX7 65 "GuessFetchModel" "fetchHistory" "[I"]
def wsX7_cycle_r2 : List Cond := [Cond.fieldLink RX7 68 "GuessFetchModel" "fetchReturned" "[I", Cond.fieldLink RX7 83 "GuessFetchModel" "keptReturns" "[I", Cond.fieldLink RX7 71 "GuessFetchModel" "fetchReturns" "[I", Cond.fieldLink RX7 80 "GuessFetchModel" "doneAt" "[I", Cond.fieldLink RX7 44 "GuessFetchModel" "targetAt" "[I", Cond.fieldLink RX7 47 "GuessFetchModel" "targetKind" "[I", Cond.fieldLink RX7 50 "GuessFetchModel" "target" "[I", Cond.fieldLink RX7 89 "GuessFetchModel" "history" "I", Cond.fieldLink RX7 120 "GuessFetchModel" "returned" "I", Cond.fieldLink RX7 53 "GuessFetchModel" "returns" "[I", Cond.methodLink RX7 151 yX7_turned, Cond.instanceMethod yX7_turned, Cond.selects RX7 yX7_turned yX7_turned, Cond.code yX7_turned cX7_turned 2 (some .boolean), Cond.fieldLink RX7 22 "GuessFetchModel" "registers" "[I", Cond.fieldLink RX7 13 "GuessFetchModel" "as" "[I", Cond.fieldLink RX7 16 "GuessFetchModel" "bs" "[I", Cond.methodLink RX7 154 yX7_does, Cond.instanceMethod yX7_does, Cond.selects RX7 yX7_does yX7_does, Cond.code yX7_does cX7_does 5 (some .int), Cond.fieldLink RX7 19 "GuessFetchModel" "cs" "[I", Cond.fieldLink RX7 25 "GuessFetchModel" "memory" "[I", Cond.fieldLink RX7 114 "GuessFetchModel" "deep" "I"]
def wsX7_cycle_r3 : List Cond := [Cond.fieldLink RX7 28 "GuessFetchModel" "stack" "[I", Cond.constant RX7 146 (2147483647), Cond.methodLink RX7 157 yX7_dropFirst, Cond.instanceMethod yX7_dropFirst, Cond.selects RX7 yX7_dropFirst yX7_dropFirst, Cond.code yX7_dropFirst cX7_dropFirst 3 none, Cond.methodLink RX7 163 yX7_learn, Cond.instanceMethod yX7_learn, Cond.selects RX7 yX7_learn yX7_learn, Cond.code yX7_learn cX7_learn 8 none, Cond.fieldLink RX7 35 "GuessFetchModel" "plain" "[I", Cond.fieldLink RX7 38 "GuessFetchModel" "mixed" "[I", Cond.fieldLink RX7 41 "GuessFetchModel" "choice" "[I", Cond.methodLink RX7 126 yX7_mixedAt, Cond.instanceMethod yX7_mixedAt, Cond.selects RX7 yX7_mixedAt yX7_mixedAt, Cond.code yX7_mixedAt cX7_mixedAt 3 (some .int), Cond.methodLink RX7 147 yX7_more, Cond.static yX7_more, Cond.code yX7_more cX7_more 2 (some .int), Cond.methodLink RX7 134 yX7_bit, Cond.instanceMethod yX7_bit, Cond.selects RX7 yX7_bit yX7_bit, Cond.code yX7_bit cX7_bit 2 none]
def wsX7_cycle_r4 : List Cond := [Cond.methodLink RX7 138 yX7_push, Cond.instanceMethod yX7_push, Cond.selects RX7 yX7_push yX7_push, Cond.code yX7_push cX7_push 3 none, Cond.methodLink RX7 170 yX7_fetch, Cond.instanceMethod yX7_fetch, Cond.selects RX7 yX7_fetch yX7_fetch, Cond.code yX7_fetch cX7_fetch 3 none, Cond.methodLink RX7 142 yX7_guess, Cond.instanceMethod yX7_guess, Cond.selects RX7 yX7_guess yX7_guess, Cond.code yX7_guess cX7_guess 5 (some .int), Cond.methodLink RX7 130 yX7_guessesTurn, Cond.instanceMethod yX7_guessesTurn, Cond.selects RX7 yX7_guessesTurn yX7_guessesTurn, Cond.code yX7_guessesTurn cX7_guessesTurn 2 (some .boolean), Cond.fieldLink RX7 111 "GuessFetchModel" "way" "I"]
def wsX7_cycle : List Cond := .code yX7_cycle cX7_cycle 1 none :: ((wsX7_cycle_r1 ++ (wsX7_cycle_r2 ++ (wsX7_cycle_r3 ++ wsX7_cycle_r4))) ++ wsX70)
def wsX7_run_r1 : List Cond := [Cond.fieldLink RX7 96 "GuessFetchModel" "runs" "Z", Cond.fieldLink RX7 77 "GuessFetchModel" "counts" "[I", Cond.methodLink RX7 92 yX7_in, Cond.static yX7_in, Cond.initialized RX7, Cond.code yX7_in cX7_in 3 (some .boolean), Cond.methodLink RX7 173 yX7_cycle, Cond.instanceMethod yX7_cycle, Cond.selects RX7 yX7_cycle yX7_cycle, Cond.code yX7_cycle cX7_cycle 1 none, Cond.fieldLink RX7 117 "GuessFetchModel" "fetched" "I", Cond.fieldLink RX7 123 "GuessFetchModel" "place" "I", Cond.fieldLink RX7 100 "GuessFetchModel" "acts" "I", Cond.fieldLink RX7 59 "GuessFetchModel" "fetchCycle" "[I", Cond.fieldLink RX7 31 "GuessFetchModel" "depth" "I", Cond.methodLink RX7 160 yX7_finish, Cond.instanceMethod yX7_finish, Cond.selects RX7 yX7_finish yX7_finish, Cond.code yX7_finish cX7_finish 2 none, Cond.fieldLink RX7 74 "GuessFetchModel" "ended" "I", Cond.methodLink RX7 167 yX7_finishFirst, Cond.instanceMethod yX7_finishFirst, Cond.selects RX7 yX7_finishFirst yX7_finishFirst, Cond.code yX7_finishFirst cX7_finishFirst 10 none]
def wsX7_run_r2 : List Cond := [Cond.fieldLink RX7 56 "GuessFetchModel" "fetchAt" "[I", Cond.fieldLink RX7 7 "GuessFetchModel" "kinds" "[I", Cond.fieldLink RX7 62 "GuessFetchModel" "fetchGuess" "[I", Cond.fieldLink RX7 65 "GuessFetchModel" "fetchHistory" "[I", Cond.fieldLink RX7 68 "GuessFetchModel" "fetchReturned" "[I", Cond.fieldLink RX7 83 "GuessFetchModel" "keptReturns" "[I", Cond.fieldLink RX7 71 "GuessFetchModel" "fetchReturns" "[I", Cond.fieldLink RX7 80 "GuessFetchModel" "doneAt" "[I", Cond.fieldLink RX7 44 "GuessFetchModel" "targetAt" "[I", Cond.fieldLink RX7 47 "GuessFetchModel" "targetKind" "[I", Cond.fieldLink RX7 50 "GuessFetchModel" "target" "[I", Cond.fieldLink RX7 89 "GuessFetchModel" "history" "I", Cond.fieldLink RX7 120 "GuessFetchModel" "returned" "I", Cond.fieldLink RX7 53 "GuessFetchModel" "returns" "[I", Cond.methodLink RX7 151 yX7_turned, Cond.instanceMethod yX7_turned, Cond.selects RX7 yX7_turned yX7_turned, Cond.code yX7_turned cX7_turned 2 (some .boolean), Cond.fieldLink RX7 22 "GuessFetchModel" "registers" "[I", Cond.fieldLink RX7 13 "GuessFetchModel" "as" "[I", Cond.fieldLink RX7 16 "GuessFetchModel" "bs" "[I", Cond.methodLink RX7 154 yX7_does, Cond.instanceMethod yX7_does, Cond.selects RX7 yX7_does yX7_does]
def wsX7_run_r3 : List Cond := [Cond.code yX7_does cX7_does 5 (some .int), Cond.fieldLink RX7 19 "GuessFetchModel" "cs" "[I", Cond.fieldLink RX7 25 "GuessFetchModel" "memory" "[I", Cond.fieldLink RX7 114 "GuessFetchModel" "deep" "I", Cond.fieldLink RX7 28 "GuessFetchModel" "stack" "[I", Cond.constant RX7 146 (2147483647), Cond.methodLink RX7 157 yX7_dropFirst, Cond.instanceMethod yX7_dropFirst, Cond.selects RX7 yX7_dropFirst yX7_dropFirst, Cond.code yX7_dropFirst cX7_dropFirst 3 none, Cond.methodLink RX7 163 yX7_learn, Cond.instanceMethod yX7_learn, Cond.selects RX7 yX7_learn yX7_learn, Cond.code yX7_learn cX7_learn 8 none, Cond.fieldLink RX7 35 "GuessFetchModel" "plain" "[I", Cond.fieldLink RX7 38 "GuessFetchModel" "mixed" "[I", Cond.fieldLink RX7 41 "GuessFetchModel" "choice" "[I", Cond.methodLink RX7 126 yX7_mixedAt, Cond.instanceMethod yX7_mixedAt, Cond.selects RX7 yX7_mixedAt yX7_mixedAt, Cond.code yX7_mixedAt cX7_mixedAt 3 (some .int), Cond.methodLink RX7 147 yX7_more, Cond.static yX7_more, Cond.code yX7_more cX7_more 2 (some .int)]
def wsX7_run_r4 : List Cond := [Cond.methodLink RX7 134 yX7_bit, Cond.instanceMethod yX7_bit, Cond.selects RX7 yX7_bit yX7_bit, Cond.code yX7_bit cX7_bit 2 none, Cond.methodLink RX7 138 yX7_push, Cond.instanceMethod yX7_push, Cond.selects RX7 yX7_push yX7_push, Cond.code yX7_push cX7_push 3 none, Cond.methodLink RX7 170 yX7_fetch, Cond.instanceMethod yX7_fetch, Cond.selects RX7 yX7_fetch yX7_fetch, Cond.code yX7_fetch cX7_fetch 3 none, Cond.methodLink RX7 142 yX7_guess, Cond.instanceMethod yX7_guess, Cond.selects RX7 yX7_guess yX7_guess, Cond.code yX7_guess cX7_guess 5 (some .int), Cond.methodLink RX7 130 yX7_guessesTurn, Cond.instanceMethod yX7_guessesTurn, Cond.selects RX7 yX7_guessesTurn yX7_guessesTurn, Cond.code yX7_guessesTurn cX7_guessesTurn 2 (some .boolean), Cond.fieldLink RX7 111 "GuessFetchModel" "way" "I"]
def wsX7_run : List Cond := .code yX7_run cX7_run 4 (some .int) :: ((wsX7_run_r1 ++ (wsX7_run_r2 ++ (wsX7_run_r3 ++ wsX7_run_r4))) ++ wsX70)
def wsX7_stop : List Cond := .code yX7_stop cX7_stop 1 (some .int) :: ([.fieldLink RX7 96 "GuessFetchModel" "runs" "Z", .fieldLink RX7 77 "GuessFetchModel" "counts" "[I", .methodLink RX7 160 yX7_finish, .instanceMethod yX7_finish, .selects RX7 yX7_finish yX7_finish, .initialized RX7, .code yX7_finish cX7_finish 2 none, .fieldLink RX7 74 "GuessFetchModel" "ended" "I", .fieldLink RX7 117 "GuessFetchModel" "fetched" "I"] ++ wsX70)
def wsX7_ended : List Cond := .code yX7_ended cX7_ended 1 (some .int) :: ([.fieldLink RX7 74 "GuessFetchModel" "ended" "I"] ++ wsX70)
def wsX7_tableOf : List Cond := .code yX7_tableOf cX7_tableOf 3 (some .int) :: ([.fieldLink RX7 35 "GuessFetchModel" "plain" "[I", .fieldLink RX7 38 "GuessFetchModel" "mixed" "[I", .fieldLink RX7 41 "GuessFetchModel" "choice" "[I", .fieldLink RX7 44 "GuessFetchModel" "targetAt" "[I", .fieldLink RX7 47 "GuessFetchModel" "targetKind" "[I", .fieldLink RX7 50 "GuessFetchModel" "target" "[I", .fieldLink RX7 89 "GuessFetchModel" "history" "I", .fieldLink RX7 120 "GuessFetchModel" "returned" "I", .fieldLink RX7 53 "GuessFetchModel" "returns" "[I", .methodLink RX7 92 yX7_in, .static yX7_in, .initialized RX7, .code yX7_in cX7_in 3 (some .boolean)] ++ wsX70)
def wsX7_isPlace : List Cond := .code yX7_isPlace cX7_isPlace 3 (some .boolean) :: ([.methodLink RX7 92 yX7_in, .static yX7_in, .initialized RX7, .code yX7_in cX7_in 3 (some .boolean)])
def wsX7_harm : List Cond := .code yX7_harm cX7_harm 6 (some .int) :: ([.fieldLink RX7 120 "GuessFetchModel" "returned" "I", .fieldLink RX7 35 "GuessFetchModel" "plain" "[I", .fieldLink RX7 38 "GuessFetchModel" "mixed" "[I", .fieldLink RX7 41 "GuessFetchModel" "choice" "[I", .fieldLink RX7 44 "GuessFetchModel" "targetAt" "[I", .fieldLink RX7 47 "GuessFetchModel" "targetKind" "[I", .fieldLink RX7 50 "GuessFetchModel" "target" "[I", .fieldLink RX7 89 "GuessFetchModel" "history" "I", .fieldLink RX7 53 "GuessFetchModel" "returns" "[I", .methodLink RX7 92 yX7_in, .static yX7_in, .initialized RX7, .code yX7_in cX7_in 3 (some .boolean), .methodLink RX7 176 yX7_isPlace, .instanceMethod yX7_isPlace, .selects RX7 yX7_isPlace yX7_isPlace, .code yX7_isPlace cX7_isPlace 3 (some .boolean), .methodLink RX7 180 yX7_tableOf, .instanceMethod yX7_tableOf, .selects RX7 yX7_tableOf yX7_tableOf, .code yX7_tableOf cX7_tableOf 3 (some .int)] ++ wsX70)
def wsX7_forget : List Cond := .code yX7_forget cX7_forget 1 (some .int) :: ([.fieldLink RX7 96 "GuessFetchModel" "runs" "Z", .methodLink RX7 86 yX7_first, .instanceMethod yX7_first, .selects RX7 yX7_first yX7_first, .initialized RX7, .code yX7_first cX7_first 2 none, .fieldLink RX7 35 "GuessFetchModel" "plain" "[I", .fieldLink RX7 38 "GuessFetchModel" "mixed" "[I", .fieldLink RX7 41 "GuessFetchModel" "choice" "[I", .fieldLink RX7 44 "GuessFetchModel" "targetAt" "[I", .fieldLink RX7 47 "GuessFetchModel" "targetKind" "[I", .fieldLink RX7 50 "GuessFetchModel" "target" "[I", .fieldLink RX7 89 "GuessFetchModel" "history" "I"] ++ wsX70)
def wsX7_table : List Cond := .code yX7_table cX7_table 3 (some .int) :: ([.methodLink RX7 92 yX7_in, .static yX7_in, .initialized RX7, .code yX7_in cX7_in 3 (some .boolean), .methodLink RX7 176 yX7_isPlace, .instanceMethod yX7_isPlace, .selects RX7 yX7_isPlace yX7_isPlace, .code yX7_isPlace cX7_isPlace 3 (some .boolean), .methodLink RX7 180 yX7_tableOf, .instanceMethod yX7_tableOf, .selects RX7 yX7_tableOf yX7_tableOf, .code yX7_tableOf cX7_tableOf 3 (some .int), .fieldLink RX7 35 "GuessFetchModel" "plain" "[I", .fieldLink RX7 38 "GuessFetchModel" "mixed" "[I", .fieldLink RX7 41 "GuessFetchModel" "choice" "[I", .fieldLink RX7 44 "GuessFetchModel" "targetAt" "[I", .fieldLink RX7 47 "GuessFetchModel" "targetKind" "[I", .fieldLink RX7 50 "GuessFetchModel" "target" "[I", .fieldLink RX7 89 "GuessFetchModel" "history" "I", .fieldLink RX7 120 "GuessFetchModel" "returned" "I", .fieldLink RX7 53 "GuessFetchModel" "returns" "[I"] ++ wsX70)
def wsX7_value : List Cond := .code yX7_value cX7_value 2 (some .long) :: ([.constantLong RX7 103 (-101), .methodLink RX7 92 yX7_in, .static yX7_in, .initialized RX7, .code yX7_in cX7_in 3 (some .boolean), .methodLink RX7 107 yX7_valueOf, .instanceMethod yX7_valueOf, .selects RX7 yX7_valueOf yX7_valueOf, .code yX7_valueOf cX7_valueOf 2 (some .long), .fieldLink RX7 22 "GuessFetchModel" "registers" "[I", .fieldLink RX7 25 "GuessFetchModel" "memory" "[I"] ++ wsX70)
def wsX7_stack : List Cond := .code yX7_stack cX7_stack 2 (some .int) :: ([.fieldLink RX7 114 "GuessFetchModel" "deep" "I", .fieldLink RX7 28 "GuessFetchModel" "stack" "[I", .methodLink RX7 92 yX7_in, .static yX7_in, .initialized RX7, .code yX7_in cX7_in 3 (some .boolean)] ++ wsX70)
def wsX7_done : List Cond := .code yX7_done cX7_done 3 (some .int) :: ([.fieldLink RX7 77 "GuessFetchModel" "counts" "[I", .fieldLink RX7 80 "GuessFetchModel" "doneAt" "[I", .methodLink RX7 92 yX7_in, .static yX7_in, .initialized RX7, .code yX7_in cX7_in 3 (some .boolean)] ++ wsX70)
def wsX7_fetched : List Cond := .code yX7_fetched cX7_fetched 2 (some .int) :: ([.fieldLink RX7 117 "GuessFetchModel" "fetched" "I", .fieldLink RX7 56 "GuessFetchModel" "fetchAt" "[I", .methodLink RX7 92 yX7_in, .static yX7_in, .initialized RX7, .code yX7_in cX7_in 3 (some .boolean)] ++ wsX70)
def wsX7_known : List Cond := .code yX7_known cX7_known 1 (some .int) :: ([.fieldLink RX7 96 "GuessFetchModel" "runs" "Z", .fieldLink RX7 117 "GuessFetchModel" "fetched" "I", .fieldLink RX7 56 "GuessFetchModel" "fetchAt" "[I", .fieldLink RX7 123 "GuessFetchModel" "place" "I"] ++ wsX70)
def wsX7_told : List Cond := .code yX7_told cX7_told 3 (some .int) :: ([.fieldLink RX7 100 "GuessFetchModel" "acts" "I", .fieldLink RX7 7 "GuessFetchModel" "kinds" "[I", .fieldLink RX7 13 "GuessFetchModel" "as" "[I", .fieldLink RX7 16 "GuessFetchModel" "bs" "[I", .fieldLink RX7 19 "GuessFetchModel" "cs" "[I", .methodLink RX7 92 yX7_in, .static yX7_in, .initialized RX7, .code yX7_in cX7_in 3 (some .boolean)] ++ wsX70)
def wsX7_count : List Cond := .code yX7_count cX7_count 2 (some .int) :: ([.fieldLink RX7 114 "GuessFetchModel" "deep" "I", .fieldLink RX7 117 "GuessFetchModel" "fetched" "I", .fieldLink RX7 123 "GuessFetchModel" "place" "I", .fieldLink RX7 100 "GuessFetchModel" "acts" "I", .fieldLink RX7 111 "GuessFetchModel" "way" "I", .fieldLink RX7 31 "GuessFetchModel" "depth" "I", .fieldLink RX7 77 "GuessFetchModel" "counts" "[I", .methodLink RX7 92 yX7_in, .static yX7_in, .initialized RX7, .code yX7_in cX7_in 3 (some .boolean)] ++ wsX70)
def wsX7_mix : List Cond := .code yX7_mix cX7_mix 3 none :: ([.constantLong RX7 183 (31), .fieldLink RX7 185 "GuessFetchModel" "h" "J"] ++ wsX70)
def wsX7_digest_r1 : List Cond := [Cond.constantLong RX7 189 (73), Cond.fieldLink RX7 185 "GuessFetchModel" "h" "J", Cond.fieldLink RX7 100 "GuessFetchModel" "acts" "I", Cond.fieldLink RX7 114 "GuessFetchModel" "deep" "I", Cond.fieldLink RX7 28 "GuessFetchModel" "stack" "[I", Cond.fieldLink RX7 89 "GuessFetchModel" "history" "I", Cond.fieldLink RX7 120 "GuessFetchModel" "returned" "I", Cond.fieldLink RX7 53 "GuessFetchModel" "returns" "[I", Cond.fieldLink RX7 117 "GuessFetchModel" "fetched" "I", Cond.fieldLink RX7 56 "GuessFetchModel" "fetchAt" "[I", Cond.methodLink RX7 191 yX7_told, Cond.instanceMethod yX7_told, Cond.selects RX7 yX7_told yX7_told, Cond.initialized RX7, Cond.code yX7_told cX7_told 3 (some .int), Cond.fieldLink RX7 7 "GuessFetchModel" "kinds" "[I", Cond.fieldLink RX7 13 "GuessFetchModel" "as" "[I", Cond.fieldLink RX7 16 "GuessFetchModel" "bs" "[I", Cond.fieldLink RX7 19 "GuessFetchModel" "cs" "[I", Cond.methodLink RX7 92 yX7_in, Cond.static yX7_in, Cond.code yX7_in cX7_in 3 (some .boolean), Cond.methodLink RX7 194 yX7_mix, Cond.instanceMethod yX7_mix]
def wsX7_digest_r2 : List Cond := [Cond.selects RX7 yX7_mix yX7_mix, Cond.code yX7_mix cX7_mix 3 none, Cond.constantLong RX7 183 (31), Cond.methodLink RX7 107 yX7_valueOf, Cond.instanceMethod yX7_valueOf, Cond.selects RX7 yX7_valueOf yX7_valueOf, Cond.code yX7_valueOf cX7_valueOf 2 (some .long), Cond.fieldLink RX7 22 "GuessFetchModel" "registers" "[I", Cond.fieldLink RX7 25 "GuessFetchModel" "memory" "[I", Cond.methodLink RX7 180 yX7_tableOf, Cond.instanceMethod yX7_tableOf, Cond.selects RX7 yX7_tableOf yX7_tableOf, Cond.code yX7_tableOf cX7_tableOf 3 (some .int), Cond.fieldLink RX7 35 "GuessFetchModel" "plain" "[I", Cond.fieldLink RX7 38 "GuessFetchModel" "mixed" "[I", Cond.fieldLink RX7 41 "GuessFetchModel" "choice" "[I", Cond.fieldLink RX7 44 "GuessFetchModel" "targetAt" "[I", Cond.fieldLink RX7 47 "GuessFetchModel" "targetKind" "[I", Cond.fieldLink RX7 50 "GuessFetchModel" "target" "[I", Cond.methodLink RX7 198 yX7_count, Cond.instanceMethod yX7_count, Cond.selects RX7 yX7_count yX7_count, Cond.code yX7_count cX7_count 2 (some .int), Cond.fieldLink RX7 123 "GuessFetchModel" "place" "I"]
def wsX7_digest_r3 : List Cond := [Cond.fieldLink RX7 111 "GuessFetchModel" "way" "I", Cond.fieldLink RX7 31 "GuessFetchModel" "depth" "I", Cond.fieldLink RX7 77 "GuessFetchModel" "counts" "[I"]
def wsX7_digest : List Cond := .code yX7_digest cX7_digest 3 (some .long) :: ((wsX7_digest_r1 ++ (wsX7_digest_r2 ++ wsX7_digest_r3)) ++ wsX70)
def wsJ9_max_7cf53 : List Cond := .code yJ9_max_7cf53 cJ9_max_7cf53 2 (some .int) :: ([])
def wsJ9_min_7cf53 : List Cond := .code yJ9_min_7cf53 cJ9_min_7cf53 2 (some .int) :: ([])
def wsL_law_r1 : List Cond := [Cond.classLink RL 7 RX6, Cond.instantiable RX6 10, Cond.initialized RX6, Cond.classLink RL 10 RX7, Cond.instantiable RX7 34, Cond.initialized RX7, Cond.methodLink RL 9 yX6_init, Cond.instanceMethod yX6_init, Cond.code yX6_init cX6_init 1 none, Cond.methodLink RX6 1 objectInit, Cond.instanceMethod objectInit, Cond.code objectInit ⟨#[0xb1]⟩ 1 none, Cond.classLink RX6 7 RX3, Cond.instantiable RX3 2, Cond.initialized RX3, Cond.fieldLink RX6 10 "GuessFetch" "program" "LGuessFetch$Program;", Cond.classLink RX6 16 RX0, Cond.instantiable RX0 3, Cond.initialized RX0, Cond.fieldLink RX6 19 "GuessFetch" "core" "LGuessFetch$Core;", Cond.classLink RX6 23 RX1, Cond.instantiable RX1 8, Cond.initialized RX1, Cond.fieldLink RX6 26 "GuessFetch" "guesser" "LGuessFetch$Guesser;"]
def wsL_law_r2 : List Cond := [Cond.classLink RX6 30 RX4, Cond.instantiable RX4 8, Cond.initialized RX4, Cond.fieldLink RX6 33 "GuessFetch" "queue" "LGuessFetch$Queue;", Cond.classLink RX6 37 RX5, Cond.instantiable RX5 1, Cond.initialized RX5, Cond.fieldLink RX6 42 "GuessFetch" "counts" "LGuessFetch$Row;", Cond.classLink RX6 46 RX2, Cond.instantiable RX2 2, Cond.initialized RX2, Cond.fieldLink RX6 49 "GuessFetch" "doneAddresses" "LGuessFetch$Pile;", Cond.fieldLink RX6 53 "GuessFetch" "guessWay" "I", Cond.fieldLink RX6 57 "GuessFetch" "guessDepth" "I", Cond.fieldLink RX6 60 "GuessFetch" "place" "I", Cond.fieldLink RX6 63 "GuessFetch" "runState" "I", Cond.instanceMethod yX3_init, Cond.code yX3_init cX3_init 1 none, Cond.methodLink RX3 3 objectInit, Cond.classLink RX3 9 RX5, Cond.fieldLink RX3 14 "GuessFetch$Program" "parts" "LGuessFetch$Row;", Cond.fieldLink RX3 20 "GuessFetch$Program" "size" "I", Cond.methodLink RX3 11 yX5_init, Cond.instanceMethod yX5_init]
def wsL_law_r3 : List Cond := [Cond.code yX5_init cX5_init 2 none, Cond.methodLink RX5 1 objectInit, Cond.methodLink RX5 7 Lib.Math.max.name, Cond.static Lib.Math.max.name, Cond.initialized "java/lang/Math", Cond.code Lib.Math.max.name Lib.Math.max.code 2 (some .int), Cond.arrayClass .int, Cond.fieldLink RX5 13 "GuessFetch$Row" "cells" "[I", Cond.instanceMethod yX0_init, Cond.code yX0_init cX0_init 1 none, Cond.methodLink RX0 3 objectInit, Cond.classLink RX0 9 RX5, Cond.fieldLink RX0 14 "GuessFetch$Core" "registers" "LGuessFetch$Row;", Cond.fieldLink RX0 20 "GuessFetch$Core" "memory" "LGuessFetch$Row;", Cond.classLink RX0 23 RX2, Cond.fieldLink RX0 26 "GuessFetch$Core" "addresses" "LGuessFetch$Pile;", Cond.methodLink RX0 11 yX5_init, Cond.methodLink RX0 25 yX2_init, Cond.instanceMethod yX2_init, Cond.code yX2_init cX2_init 2 none, Cond.methodLink RX2 3 objectInit, Cond.fieldLink RX2 9 "GuessFetch$Pile" "size" "I", Cond.methodLink RX2 15 Lib.Math.max.name, Cond.fieldLink RX2 21 "GuessFetch$Pile" "cells" "[I"]
def wsL_law_r4 : List Cond := [Cond.methodLink RX6 25 yX1_init, Cond.instanceMethod yX1_init, Cond.code yX1_init cX1_init 1 none, Cond.methodLink RX1 3 objectInit, Cond.classLink RX1 9 RX5, Cond.fieldLink RX1 14 "GuessFetch$Guesser" "plain" "LGuessFetch$Row;", Cond.fieldLink RX1 20 "GuessFetch$Guesser" "mixed" "LGuessFetch$Row;", Cond.fieldLink RX1 23 "GuessFetch$Guesser" "choice" "LGuessFetch$Row;", Cond.fieldLink RX1 26 "GuessFetch$Guesser" "targetAddresses" "LGuessFetch$Row;", Cond.fieldLink RX1 29 "GuessFetch$Guesser" "targetKinds" "LGuessFetch$Row;", Cond.fieldLink RX1 32 "GuessFetch$Guesser" "targetGoals" "LGuessFetch$Row;", Cond.classLink RX1 35 RX2, Cond.fieldLink RX1 38 "GuessFetch$Guesser" "returns" "LGuessFetch$Pile;", Cond.fieldLink RX1 42 "GuessFetch$Guesser" "history" "I", Cond.methodLink RX1 11 yX5_init, Cond.methodLink RX1 37 yX2_init, Cond.methodLink RX1 46 yX1_forgetTables, Cond.instanceMethod yX1_forgetTables, Cond.selects RX1 yX1_forgetTables yX1_forgetTables, Cond.code yX1_forgetTables cX1_forgetTables 1 none, Cond.methodLink RX1 49 yX5_fill, Cond.instanceMethod yX5_fill, Cond.selects RX5 yX5_fill yX5_fill, Cond.code yX5_fill cX5_fill 3 none]
def wsL_law_r5 : List Cond := [Cond.instanceMethod yX4_init, Cond.code yX4_init cX4_init 1 none, Cond.methodLink RX4 3 objectInit, Cond.classLink RX4 9 RX5, Cond.fieldLink RX4 14 "GuessFetch$Queue" "addresses" "LGuessFetch$Row;", Cond.fieldLink RX4 20 "GuessFetch$Queue" "guesses" "LGuessFetch$Row;", Cond.fieldLink RX4 23 "GuessFetch$Queue" "cycles" "LGuessFetch$Row;", Cond.fieldLink RX4 26 "GuessFetch$Queue" "histories" "LGuessFetch$Row;", Cond.fieldLink RX4 29 "GuessFetch$Queue" "returnsSizes" "LGuessFetch$Row;", Cond.fieldLink RX4 32 "GuessFetch$Queue" "returns" "LGuessFetch$Row;", Cond.fieldLink RX4 35 "GuessFetch$Queue" "first" "I", Cond.fieldLink RX4 39 "GuessFetch$Queue" "size" "I", Cond.methodLink RX4 11 yX5_init, Cond.methodLink RX6 39 yX5_init, Cond.methodLink RX6 48 yX2_init, Cond.methodLink RL 12 yX7_init, Cond.instanceMethod yX7_init, Cond.code yX7_init cX7_init 1 none, Cond.methodLink RX7 1 objectInit, Cond.fieldLink RX7 7 "GuessFetchModel" "kinds" "[I", Cond.fieldLink RX7 13 "GuessFetchModel" "as" "[I", Cond.fieldLink RX7 16 "GuessFetchModel" "bs" "[I", Cond.fieldLink RX7 19 "GuessFetchModel" "cs" "[I", Cond.fieldLink RX7 22 "GuessFetchModel" "registers" "[I"]
def wsL_law_r6 : List Cond := [Cond.fieldLink RX7 25 "GuessFetchModel" "memory" "[I", Cond.fieldLink RX7 28 "GuessFetchModel" "stack" "[I", Cond.fieldLink RX7 31 "GuessFetchModel" "depth" "I", Cond.fieldLink RX7 35 "GuessFetchModel" "plain" "[I", Cond.fieldLink RX7 38 "GuessFetchModel" "mixed" "[I", Cond.fieldLink RX7 41 "GuessFetchModel" "choice" "[I", Cond.fieldLink RX7 44 "GuessFetchModel" "targetAt" "[I", Cond.fieldLink RX7 47 "GuessFetchModel" "targetKind" "[I", Cond.fieldLink RX7 50 "GuessFetchModel" "target" "[I", Cond.fieldLink RX7 53 "GuessFetchModel" "returns" "[I", Cond.fieldLink RX7 56 "GuessFetchModel" "fetchAt" "[I", Cond.fieldLink RX7 59 "GuessFetchModel" "fetchCycle" "[I", Cond.fieldLink RX7 62 "GuessFetchModel" "fetchGuess" "[I", Cond.fieldLink RX7 65 "GuessFetchModel" "fetchHistory" "[I", Cond.fieldLink RX7 68 "GuessFetchModel" "fetchReturned" "[I", Cond.fieldLink RX7 71 "GuessFetchModel" "fetchReturns" "[I", Cond.fieldLink RX7 74 "GuessFetchModel" "ended" "I", Cond.fieldLink RX7 77 "GuessFetchModel" "counts" "[I", Cond.fieldLink RX7 80 "GuessFetchModel" "doneAt" "[I", Cond.fieldLink RX7 83 "GuessFetchModel" "keptReturns" "[I", Cond.methodLink RX7 86 yX7_first, Cond.instanceMethod yX7_first, Cond.selects RX7 yX7_first yX7_first, Cond.code yX7_first cX7_first 2 none]
def wsL_law_r7 : List Cond := [Cond.fieldLink RX7 89 "GuessFetchModel" "history" "I", Cond.methodLink RL 13 yX6_act, Cond.instanceMethod yX6_act, Cond.selects RX6 yX6_act yX6_act, Cond.code yX6_act cX6_act 6 (some .int), Cond.methodLink RX6 66 yX6_isWithin, Cond.static yX6_isWithin, Cond.code yX6_isWithin cX6_isWithin 3 (some .boolean), Cond.methodLink RX6 70 yX6_isUnderWay, Cond.instanceMethod yX6_isUnderWay, Cond.selects RX6 yX6_isUnderWay yX6_isUnderWay, Cond.code yX6_isUnderWay cX6_isUnderWay 1 (some .boolean), Cond.methodLink RX6 74 yX3_add, Cond.instanceMethod yX3_add, Cond.selects RX3 yX3_add yX3_add, Cond.code yX3_add cX3_add 5 (some .boolean), Cond.methodLink RX3 28 yX5_set, Cond.instanceMethod yX5_set, Cond.selects RX5 yX5_set yX5_set, Cond.code yX5_set cX5_set 4 (some .int), Cond.methodLink RX6 78 yX3_size, Cond.instanceMethod yX3_size, Cond.selects RX3 yX3_size yX3_size, Cond.code yX3_size cX3_size 1 (some .int)]
def wsL_law_r8 : List Cond := [Cond.methodLink RL 17 yX7_act, Cond.instanceMethod yX7_act, Cond.selects RX7 yX7_act yX7_act, Cond.code yX7_act cX7_act 5 (some .int), Cond.fieldLink RX7 96 "GuessFetchModel" "runs" "Z", Cond.fieldLink RX7 100 "GuessFetchModel" "acts" "I", Cond.methodLink RX7 92 yX7_in, Cond.static yX7_in, Cond.code yX7_in cX7_in 3 (some .boolean), Cond.methodLink RL 18 yX6_wipe, Cond.instanceMethod yX6_wipe, Cond.selects RX6 yX6_wipe yX6_wipe, Cond.code yX6_wipe cX6_wipe 1 (some .int), Cond.methodLink RX6 82 yX3_clear, Cond.instanceMethod yX3_clear, Cond.selects RX3 yX3_clear yX3_clear, Cond.code yX3_clear cX3_clear 2 (some .int), Cond.methodLink RL 22 yX7_wipe, Cond.instanceMethod yX7_wipe, Cond.selects RX7 yX7_wipe yX7_wipe, Cond.code yX7_wipe cX7_wipe 2 (some .int), Cond.methodLink RL 23 yX6_put, Cond.instanceMethod yX6_put, Cond.selects RX6 yX6_put yX6_put]
def wsL_law_r9 : List Cond := [Cond.code yX6_put cX6_put 3 (some .long), Cond.constantLong RX6 89 (-101), Cond.constantLong RX6 91 (-103), Cond.methodLink RX6 85 yX0_hasCell, Cond.instanceMethod yX0_hasCell, Cond.selects RX0 yX0_hasCell yX0_hasCell, Cond.code yX0_hasCell cX0_hasCell 2 (some .boolean), Cond.methodLink RX6 93 yX0_setCell, Cond.instanceMethod yX0_setCell, Cond.selects RX0 yX0_setCell yX0_setCell, Cond.code yX0_setCell cX0_setCell 3 (some .int), Cond.methodLink RX0 34 yX5_set, Cond.methodLink RL 27 yX7_put, Cond.instanceMethod yX7_put, Cond.selects RX7 yX7_put yX7_put, Cond.code yX7_put cX7_put 5 (some .long), Cond.constantLong RX7 103 (-101), Cond.constantLong RX7 105 (-103), Cond.methodLink RX7 107 yX7_valueOf, Cond.instanceMethod yX7_valueOf, Cond.selects RX7 yX7_valueOf yX7_valueOf, Cond.code yX7_valueOf cX7_valueOf 2 (some .long), Cond.methodLink RL 28 yX6_way, Cond.instanceMethod yX6_way]
def wsL_law_r10 : List Cond := [Cond.selects RX6 yX6_way yX6_way, Cond.code yX6_way cX6_way 3 (some .int), Cond.methodLink RL 32 yX7_way, Cond.instanceMethod yX7_way, Cond.selects RX7 yX7_way yX7_way, Cond.code yX7_way cX7_way 3 (some .int), Cond.fieldLink RX7 111 "GuessFetchModel" "way" "I", Cond.methodLink RL 33 yX6_begin, Cond.instanceMethod yX6_begin, Cond.selects RX6 yX6_begin yX6_begin, Cond.code yX6_begin cX6_begin 2 (some .int), Cond.methodLink RX6 97 yX5_set, Cond.methodLink RX6 100 yX5_add, Cond.instanceMethod yX5_add, Cond.selects RX5 yX5_add yX5_add, Cond.code yX5_add cX5_add 3 none, Cond.methodLink RX5 19 yX5_get, Cond.instanceMethod yX5_get, Cond.selects RX5 yX5_get yX5_get, Cond.code yX5_get cX5_get 2 (some .int), Cond.methodLink RX5 23 yX5_set, Cond.methodLink RX6 103 yX2_clear, Cond.instanceMethod yX2_clear, Cond.selects RX2 yX2_clear yX2_clear]
def wsL_law_r11 : List Cond := [Cond.code yX2_clear cX2_clear 1 none, Cond.methodLink RX6 105 yX0_emptyStack, Cond.instanceMethod yX0_emptyStack, Cond.selects RX0 yX0_emptyStack yX0_emptyStack, Cond.code yX0_emptyStack cX0_emptyStack 1 none, Cond.methodLink RX0 43 yX2_clear, Cond.methodLink RX6 108 yX1_returns, Cond.instanceMethod yX1_returns, Cond.selects RX1 yX1_returns yX1_returns, Cond.code yX1_returns cX1_returns 1 (some (.object "GuessFetch$Pile")), Cond.methodLink RL 36 yX7_begin, Cond.instanceMethod yX7_begin, Cond.selects RX7 yX7_begin yX7_begin, Cond.code yX7_begin cX7_begin 2 (some .int), Cond.fieldLink RX7 114 "GuessFetchModel" "deep" "I", Cond.fieldLink RX7 117 "GuessFetchModel" "fetched" "I", Cond.fieldLink RX7 120 "GuessFetchModel" "returned" "I", Cond.fieldLink RX7 123 "GuessFetchModel" "place" "I", Cond.methodLink RL 37 yX6_run, Cond.instanceMethod yX6_run, Cond.selects RX6 yX6_run yX6_run, Cond.code yX6_run cX6_run 4 (some .int), Cond.methodLink RX6 112 yX5_get, Cond.methodLink RX6 116 yX6_passCycle]
def wsL_law_r12 : List Cond := [Cond.instanceMethod yX6_passCycle, Cond.selects RX6 yX6_passCycle yX6_passCycle, Cond.code yX6_passCycle cX6_passCycle 1 none, Cond.methodLink RX6 148 yX4_size, Cond.instanceMethod yX4_size, Cond.selects RX4 yX4_size yX4_size, Cond.code yX4_size cX4_size 1 (some .int), Cond.methodLink RX6 149 yX3_has, Cond.instanceMethod yX3_has, Cond.selects RX3 yX3_has yX3_has, Cond.code yX3_has cX3_has 2 (some .boolean), Cond.methodLink RX6 119 yX6_endRun, Cond.instanceMethod yX6_endRun, Cond.selects RX6 yX6_endRun yX6_endRun, Cond.code yX6_endRun cX6_endRun 2 none, Cond.methodLink RX6 256 yX6_dropFetched, Cond.instanceMethod yX6_dropFetched, Cond.selects RX6 yX6_dropFetched yX6_dropFetched, Cond.code yX6_dropFetched cX6_dropFetched 1 none, Cond.methodLink RX6 269 yX4_clear, Cond.instanceMethod yX4_clear, Cond.selects RX4 yX4_clear yX4_clear, Cond.code yX4_clear cX4_clear 1 none, Cond.methodLink RX6 185 yX4_isEldestOf]
def wsL_law_r13 : List Cond := [Cond.instanceMethod yX4_isEldestOf, Cond.selects RX4 yX4_isEldestOf yX4_isEldestOf, Cond.code yX4_isEldestOf cX4_isEldestOf 2 (some .boolean), Cond.methodLink RX4 42 yX5_get, Cond.methodLink RX6 188 yX6_finishEldest, Cond.instanceMethod yX6_finishEldest, Cond.selects RX6 yX6_finishEldest yX6_finishEldest, Cond.code yX6_finishEldest cX6_finishEldest 6 none, Cond.methodLink RX6 212 yX4_takeEldest, Cond.instanceMethod yX4_takeEldest, Cond.selects RX4 yX4_takeEldest yX4_takeEldest, Cond.code yX4_takeEldest cX4_takeEldest 2 (some .int), Cond.methodLink RX4 46 Lib.Math.max.name, Cond.methodLink RX6 215 yX4_addressOf, Cond.instanceMethod yX4_addressOf, Cond.selects RX4 yX4_addressOf yX4_addressOf, Cond.code yX4_addressOf cX4_addressOf 2 (some .int), Cond.methodLink RX6 152 yX3_part, Cond.instanceMethod yX3_part, Cond.selects RX3 yX3_part yX3_part, Cond.code yX3_part cX3_part 3 (some .int), Cond.methodLink RX3 24 yX5_get, Cond.methodLink RX6 218 yX0_turns, Cond.instanceMethod yX0_turns]
def wsL_law_r14 : List Cond := [Cond.selects RX0 yX0_turns yX0_turns, Cond.code yX0_turns cX0_turns 6 (some .boolean), Cond.methodLink RX0 46 yX3_part, Cond.methodLink RX0 30 yX5_get, Cond.static yX6_isTurn, Cond.code yX6_isTurn cX6_isTurn 1 (some .boolean), Cond.methodLink RX6 222 yX0_perform, Cond.instanceMethod yX0_perform, Cond.selects RX0 yX0_perform yX0_perform, Cond.code yX0_perform cX0_perform 7 (some .int), Cond.constant RX0 62 (2147483647), Cond.methodLink RX0 55 yX2_push, Cond.instanceMethod yX2_push, Cond.selects RX2 yX2_push yX2_push, Cond.code yX2_push cX2_push 2 (some .boolean), Cond.methodLink RX0 58 yX2_pop, Cond.instanceMethod yX2_pop, Cond.selects RX2 yX2_pop yX2_pop, Cond.code yX2_pop cX2_pop 2 (some .int), Cond.methodLink RX2 32 yX2_get, Cond.instanceMethod yX2_get, Cond.selects RX2 yX2_get yX2_get, Cond.code yX2_get cX2_get 2 (some .int), Cond.methodLink RX2 25 yX2_has]
def wsL_law_r15 : List Cond := [Cond.instanceMethod yX2_has, Cond.selects RX2 yX2_has yX2_has, Cond.code yX2_has cX2_has 2 (some .boolean), Cond.methodLink RX0 61 yX3_size, Cond.methodLink RX6 226 yX6_noteDone, Cond.instanceMethod yX6_noteDone, Cond.selects RX6 yX6_noteDone yX6_noteDone, Cond.code yX6_noteDone cX6_noteDone 3 none, Cond.methodLink RX6 250 yX2_push, Cond.methodLink RX6 253 yX6_isTurn, Cond.methodLink RX6 229 yX6_isBranch, Cond.static yX6_isBranch, Cond.code yX6_isBranch cX6_isBranch 1 (some .boolean), Cond.methodLink RX6 232 yX4_historyOf, Cond.instanceMethod yX4_historyOf, Cond.selects RX4 yX4_historyOf yX4_historyOf, Cond.code yX4_historyOf cX4_historyOf 2 (some .int), Cond.methodLink RX6 235 yX1_learn, Cond.instanceMethod yX1_learn, Cond.selects RX1 yX1_learn yX1_learn, Cond.code yX1_learn cX1_learn 8 none, Cond.methodLink RX1 95 yX1_mixedPlace, Cond.static yX1_mixedPlace, Cond.code yX1_mixedPlace cX1_mixedPlace 2 (some .int)]
def wsL_law_r16 : List Cond := [Cond.methodLink RX1 91 yX1_tellsTurn, Cond.static yX1_tellsTurn, Cond.code yX1_tellsTurn cX1_tellsTurn 2 (some .boolean), Cond.methodLink RX1 64 yX5_get, Cond.methodLink RX1 106 yX1_step, Cond.static yX1_step, Cond.code yX1_step cX1_step 4 none, Cond.methodLink RX1 98 Lib.Math.min.name, Cond.static Lib.Math.min.name, Cond.code Lib.Math.min.name Lib.Math.min.code 2 (some .int), Cond.methodLink RX1 103 Lib.Math.max.name, Cond.methodLink RX1 69 yX5_set, Cond.methodLink RX6 239 yX1_noteTarget, Cond.instanceMethod yX1_noteTarget, Cond.selects RX1 yX1_noteTarget yX1_noteTarget, Cond.code yX1_noteTarget cX1_noteTarget 4 none, Cond.methodLink RX6 243 yX4_guessOf, Cond.instanceMethod yX4_guessOf, Cond.selects RX4 yX4_guessOf yX4_guessOf, Cond.code yX4_guessOf cX4_guessOf 2 (some .int), Cond.methodLink RX6 246 yX6_goBack, Cond.instanceMethod yX6_goBack, Cond.selects RX6 yX6_goBack yX6_goBack, Cond.code yX6_goBack cX6_goBack 5 none]
def wsL_law_r17 : List Cond := [Cond.methodLink RX6 259 yX1_setHistory, Cond.instanceMethod yX1_setHistory, Cond.selects RX1 yX1_setHistory yX1_setHistory, Cond.code yX1_setHistory cX1_setHistory 2 none, Cond.methodLink RX6 262 yX4_giveReturnsBack, Cond.instanceMethod yX4_giveReturnsBack, Cond.selects RX4 yX4_giveReturnsBack yX4_giveReturnsBack, Cond.code yX4_giveReturnsBack cX4_giveReturnsBack 4 none, Cond.methodLink RX4 64 yX2_clear, Cond.methodLink RX4 67 yX2_push, Cond.methodLink RX6 266 yX1_noteWhatWasDone, Cond.instanceMethod yX1_noteWhatWasDone, Cond.selects RX1 yX1_noteWhatWasDone yX1_noteWhatWasDone, Cond.code yX1_noteWhatWasDone cX1_noteWhatWasDone 4 none, Cond.methodLink RX1 81 yX1_noteBit, Cond.instanceMethod yX1_noteBit, Cond.selects RX1 yX1_noteBit yX1_noteBit, Cond.code yX1_noteBit cX1_noteBit 2 none, Cond.methodLink RX1 88 yX2_pushEldestOut, Cond.instanceMethod yX2_pushEldestOut, Cond.selects RX2 yX2_pushEldestOut yX2_pushEldestOut, Cond.code yX2_pushEldestOut cX2_pushEldestOut 3 none, Cond.methodLink RX2 29 yX2_push, Cond.methodLink RX1 85 yX2_pop]
def wsL_law_r18 : List Cond := [Cond.methodLink RX6 191 yX6_fetchAtPlace, Cond.instanceMethod yX6_fetchAtPlace, Cond.selects RX6 yX6_fetchAtPlace yX6_fetchAtPlace, Cond.code yX6_fetchAtPlace cX6_fetchAtPlace 2 none, Cond.methodLink RX6 194 yX4_add, Cond.instanceMethod yX4_add, Cond.selects RX4 yX4_add yX4_add, Cond.code yX4_add cX4_add 4 (some .int), Cond.methodLink RX4 55 Lib.Math.min.name, Cond.methodLink RX4 52 yX5_set, Cond.methodLink RX6 196 yX1_history, Cond.instanceMethod yX1_history, Cond.selects RX1 yX1_history yX1_history, Cond.code yX1_history cX1_history 1 (some .int), Cond.methodLink RX6 199 yX4_keep, Cond.instanceMethod yX4_keep, Cond.selects RX4 yX4_keep yX4_keep, Cond.code yX4_keep cX4_keep 5 none, Cond.methodLink RX4 58 yX2_size, Cond.instanceMethod yX2_size, Cond.selects RX2 yX2_size yX2_size, Cond.code yX2_size cX2_size 1 (some .int), Cond.methodLink RX4 63 yX2_get, Cond.methodLink RX6 203 yX1_isInTargets]
def wsL_law_r19 : List Cond := [Cond.instanceMethod yX1_isInTargets, Cond.selects RX1 yX1_isInTargets yX1_isInTargets, Cond.code yX1_isInTargets cX1_isInTargets 2 (some .boolean), Cond.methodLink RX6 206 yX1_guess, Cond.instanceMethod yX1_guess, Cond.selects RX1 yX1_guess yX1_guess, Cond.code yX1_guess cX1_guess 6 (some .int), Cond.methodLink RX1 70 yX1_isInTargets, Cond.methodLink RX1 77 yX1_seemsToTurn, Cond.instanceMethod yX1_seemsToTurn, Cond.selects RX1 yX1_seemsToTurn yX1_seemsToTurn, Cond.code yX1_seemsToTurn cX1_seemsToTurn 3 (some .boolean), Cond.methodLink RX6 209 yX4_setGuess, Cond.instanceMethod yX4_setGuess, Cond.selects RX4 yX4_setGuess yX4_setGuess, Cond.code yX4_setGuess cX4_setGuess 3 none, Cond.methodLink RL 41 yX7_run, Cond.instanceMethod yX7_run, Cond.selects RX7 yX7_run yX7_run, Cond.code yX7_run cX7_run 4 (some .int), Cond.methodLink RX7 173 yX7_cycle, Cond.instanceMethod yX7_cycle, Cond.selects RX7 yX7_cycle yX7_cycle, Cond.code yX7_cycle cX7_cycle 1 none]
def wsL_law_r20 : List Cond := [Cond.methodLink RX7 160 yX7_finish, Cond.instanceMethod yX7_finish, Cond.selects RX7 yX7_finish yX7_finish, Cond.code yX7_finish cX7_finish 2 none, Cond.methodLink RX7 167 yX7_finishFirst, Cond.instanceMethod yX7_finishFirst, Cond.selects RX7 yX7_finishFirst yX7_finishFirst, Cond.code yX7_finishFirst cX7_finishFirst 10 none, Cond.methodLink RX7 151 yX7_turned, Cond.instanceMethod yX7_turned, Cond.selects RX7 yX7_turned yX7_turned, Cond.code yX7_turned cX7_turned 2 (some .boolean), Cond.methodLink RX7 154 yX7_does, Cond.instanceMethod yX7_does, Cond.selects RX7 yX7_does yX7_does, Cond.code yX7_does cX7_does 5 (some .int), Cond.constant RX7 146 (2147483647), Cond.methodLink RX7 157 yX7_dropFirst, Cond.instanceMethod yX7_dropFirst, Cond.selects RX7 yX7_dropFirst yX7_dropFirst, Cond.code yX7_dropFirst cX7_dropFirst 3 none, Cond.methodLink RX7 163 yX7_learn, Cond.instanceMethod yX7_learn, Cond.selects RX7 yX7_learn yX7_learn]
def wsL_law_r21 : List Cond := [Cond.code yX7_learn cX7_learn 8 none, Cond.methodLink RX7 126 yX7_mixedAt, Cond.instanceMethod yX7_mixedAt, Cond.selects RX7 yX7_mixedAt yX7_mixedAt, Cond.code yX7_mixedAt cX7_mixedAt 3 (some .int), Cond.methodLink RX7 147 yX7_more, Cond.static yX7_more, Cond.code yX7_more cX7_more 2 (some .int), Cond.methodLink RX7 134 yX7_bit, Cond.instanceMethod yX7_bit, Cond.selects RX7 yX7_bit yX7_bit, Cond.code yX7_bit cX7_bit 2 none, Cond.methodLink RX7 138 yX7_push, Cond.instanceMethod yX7_push, Cond.selects RX7 yX7_push yX7_push, Cond.code yX7_push cX7_push 3 none, Cond.methodLink RX7 170 yX7_fetch, Cond.instanceMethod yX7_fetch, Cond.selects RX7 yX7_fetch yX7_fetch, Cond.code yX7_fetch cX7_fetch 3 none, Cond.methodLink RX7 142 yX7_guess, Cond.instanceMethod yX7_guess, Cond.selects RX7 yX7_guess yX7_guess, Cond.code yX7_guess cX7_guess 5 (some .int)]
def wsL_law_r22 : List Cond := [Cond.methodLink RX7 130 yX7_guessesTurn, Cond.instanceMethod yX7_guessesTurn, Cond.selects RX7 yX7_guessesTurn yX7_guessesTurn, Cond.code yX7_guessesTurn cX7_guessesTurn 2 (some .boolean), Cond.methodLink RL 42 yX6_stop, Cond.instanceMethod yX6_stop, Cond.selects RX6 yX6_stop yX6_stop, Cond.code yX6_stop cX6_stop 1 (some .int), Cond.methodLink RL 45 yX7_stop, Cond.instanceMethod yX7_stop, Cond.selects RX7 yX7_stop yX7_stop, Cond.code yX7_stop cX7_stop 1 (some .int), Cond.methodLink RL 46 yX6_ended, Cond.instanceMethod yX6_ended, Cond.selects RX6 yX6_ended yX6_ended, Cond.code yX6_ended cX6_ended 1 (some .int), Cond.methodLink RL 49 yX7_ended, Cond.instanceMethod yX7_ended, Cond.selects RX7 yX7_ended yX7_ended, Cond.code yX7_ended cX7_ended 1 (some .int), Cond.methodLink RL 50 yX6_harm, Cond.instanceMethod yX6_harm, Cond.selects RX6 yX6_harm yX6_harm, Cond.code yX6_harm cX6_harm 4 (some .int)]
def wsL_law_r23 : List Cond := [Cond.methodLink RX6 122 yX6_isTablePlace, Cond.static yX6_isTablePlace, Cond.code yX6_isTablePlace cX6_isTablePlace 2 (some .boolean), Cond.methodLink RX6 126 yX2_size, Cond.methodLink RX6 127 yX6_isTableValue, Cond.static yX6_isTableValue, Cond.code yX6_isTableValue cX6_isTableValue 2 (some .boolean), Cond.methodLink RX6 130 yX1_setCell, Cond.instanceMethod yX1_setCell, Cond.selects RX1 yX1_setCell yX1_setCell, Cond.code yX1_setCell cX1_setCell 5 (some .int), Cond.methodLink RX1 65 yX2_set, Cond.instanceMethod yX2_set, Cond.selects RX2 yX2_set yX2_set, Cond.code yX2_set cX2_set 4 (some .int), Cond.methodLink RX1 60 yX1_row, Cond.instanceMethod yX1_row, Cond.selects RX1 yX1_row yX1_row, Cond.code yX1_row cX1_row 2 (some (.object "GuessFetch$Row")), Cond.methodLink RL 54 yX7_harm, Cond.instanceMethod yX7_harm, Cond.selects RX7 yX7_harm yX7_harm, Cond.code yX7_harm cX7_harm 6 (some .int), Cond.methodLink RX7 176 yX7_isPlace]
def wsL_law_r24 : List Cond := [Cond.instanceMethod yX7_isPlace, Cond.selects RX7 yX7_isPlace yX7_isPlace, Cond.code yX7_isPlace cX7_isPlace 3 (some .boolean), Cond.methodLink RX7 180 yX7_tableOf, Cond.instanceMethod yX7_tableOf, Cond.selects RX7 yX7_tableOf yX7_tableOf, Cond.code yX7_tableOf cX7_tableOf 3 (some .int), Cond.methodLink RL 55 yX6_forget, Cond.instanceMethod yX6_forget, Cond.selects RX6 yX6_forget yX6_forget, Cond.code yX6_forget cX6_forget 1 (some .int), Cond.methodLink RX6 133 yX1_forgetTables, Cond.methodLink RL 58 yX7_forget, Cond.instanceMethod yX7_forget, Cond.selects RX7 yX7_forget yX7_forget, Cond.code yX7_forget cX7_forget 1 (some .int), Cond.methodLink RL 59 yX6_table, Cond.instanceMethod yX6_table, Cond.selects RX6 yX6_table yX6_table, Cond.code yX6_table cX6_table 3 (some .int), Cond.methodLink RX6 136 yX1_cell, Cond.instanceMethod yX1_cell, Cond.selects RX1 yX1_cell yX1_cell, Cond.code yX1_cell cX1_cell 3 (some .int)]
def wsL_law_r25 : List Cond := [Cond.methodLink RX1 52 yX2_get, Cond.methodLink RX1 56 yX2_size, Cond.methodLink RL 62 yX7_table, Cond.instanceMethod yX7_table, Cond.selects RX7 yX7_table yX7_table, Cond.code yX7_table cX7_table 3 (some .int), Cond.methodLink RL 63 yX6_value, Cond.instanceMethod yX6_value, Cond.selects RX6 yX6_value yX6_value, Cond.code yX6_value cX6_value 2 (some .long), Cond.methodLink RX6 139 yX0_cell, Cond.instanceMethod yX0_cell, Cond.selects RX0 yX0_cell yX0_cell, Cond.code yX0_cell cX0_cell 2 (some .int), Cond.methodLink RL 67 yX7_value, Cond.instanceMethod yX7_value, Cond.selects RX7 yX7_value yX7_value, Cond.code yX7_value cX7_value 2 (some .long), Cond.methodLink RL 68 yX6_stack, Cond.instanceMethod yX6_stack, Cond.selects RX6 yX6_stack yX6_stack, Cond.code yX6_stack cX6_stack 2 (some .int), Cond.methodLink RX6 141 yX0_stackAddress, Cond.instanceMethod yX0_stackAddress]
def wsL_law_r26 : List Cond := [Cond.selects RX0 yX0_stackAddress yX0_stackAddress, Cond.code yX0_stackAddress cX0_stackAddress 2 (some .int), Cond.methodLink RX0 42 yX2_get, Cond.methodLink RL 71 yX7_stack, Cond.instanceMethod yX7_stack, Cond.selects RX7 yX7_stack yX7_stack, Cond.code yX7_stack cX7_stack 2 (some .int), Cond.methodLink RL 72 yX6_done, Cond.instanceMethod yX6_done, Cond.selects RX6 yX6_done yX6_done, Cond.code yX6_done cX6_done 2 (some .int), Cond.methodLink RX6 144 yX2_get, Cond.methodLink RL 75 yX7_done, Cond.instanceMethod yX7_done, Cond.selects RX7 yX7_done yX7_done, Cond.code yX7_done cX7_done 3 (some .int), Cond.methodLink RL 76 yX6_fetched, Cond.instanceMethod yX6_fetched, Cond.selects RX6 yX6_fetched yX6_fetched, Cond.code yX6_fetched cX6_fetched 2 (some .int), Cond.methodLink RX6 145 yX4_address, Cond.instanceMethod yX4_address, Cond.selects RX4 yX4_address yX4_address, Cond.code yX4_address cX4_address 2 (some .int)]
def wsL_law_r27 : List Cond := [Cond.methodLink RL 79 yX7_fetched, Cond.instanceMethod yX7_fetched, Cond.selects RX7 yX7_fetched yX7_fetched, Cond.code yX7_fetched cX7_fetched 2 (some .int), Cond.methodLink RL 80 yX6_known, Cond.instanceMethod yX6_known, Cond.selects RX6 yX6_known yX6_known, Cond.code yX6_known cX6_known 1 (some .int), Cond.methodLink RL 83 yX7_known, Cond.instanceMethod yX7_known, Cond.selects RX7 yX7_known yX7_known, Cond.code yX7_known cX7_known 1 (some .int), Cond.methodLink RL 84 yX6_told, Cond.instanceMethod yX6_told, Cond.selects RX6 yX6_told yX6_told, Cond.code yX6_told cX6_told 3 (some .int), Cond.methodLink RL 87 yX7_told, Cond.instanceMethod yX7_told, Cond.selects RX7 yX7_told yX7_told, Cond.code yX7_told cX7_told 3 (some .int), Cond.methodLink RL 88 yX6_count, Cond.instanceMethod yX6_count, Cond.selects RX6 yX6_count yX6_count, Cond.code yX6_count cX6_count 2 (some .int)]
def wsL_law_r28 : List Cond := [Cond.methodLink RX6 155 yX0_stackSize, Cond.instanceMethod yX0_stackSize, Cond.selects RX0 yX0_stackSize yX0_stackSize, Cond.code yX0_stackSize cX0_stackSize 1 (some .int), Cond.methodLink RX0 38 yX2_size, Cond.methodLink RL 91 yX7_count, Cond.instanceMethod yX7_count, Cond.selects RX7 yX7_count yX7_count, Cond.code yX7_count cX7_count 2 (some .int), Cond.methodLink RL 92 yX6_digest, Cond.instanceMethod yX6_digest, Cond.selects RX6 yX6_digest yX6_digest, Cond.code yX6_digest cX6_digest 5 (some .long), Cond.constantLong RX6 158 (73), Cond.constantLong RX6 160 (31), Cond.methodLink RX6 162 yX6_told, Cond.methodLink RX6 165 yX6_value, Cond.methodLink RX6 169 yX6_stack, Cond.methodLink RX6 172 yX6_digestOfTables, Cond.instanceMethod yX6_digestOfTables, Cond.selects RX6 yX6_digestOfTables yX6_digestOfTables, Cond.code yX6_digestOfTables cX6_digestOfTables 8 (some .long), Cond.methodLink RX6 182 yX6_table, Cond.methodLink RX6 176 yX6_fetched]
def wsL_law_r29 : List Cond := [Cond.methodLink RX6 179 yX6_count, Cond.methodLink RL 96 yX7_digest, Cond.instanceMethod yX7_digest, Cond.selects RX7 yX7_digest yX7_digest, Cond.code yX7_digest cX7_digest 3 (some .long), Cond.constantLong RX7 189 (73), Cond.fieldLink RX7 185 "GuessFetchModel" "h" "J", Cond.methodLink RX7 191 yX7_told, Cond.methodLink RX7 194 yX7_mix, Cond.instanceMethod yX7_mix, Cond.selects RX7 yX7_mix yX7_mix, Cond.code yX7_mix cX7_mix 3 none, Cond.constantLong RX7 183 (31), Cond.methodLink RX7 198 yX7_count]
def wsL_law : List Cond := (wsL_law_r1 ++ (wsL_law_r2 ++ (wsL_law_r3 ++ (wsL_law_r4 ++ (wsL_law_r5 ++ (wsL_law_r6 ++ (wsL_law_r7 ++ (wsL_law_r8 ++ (wsL_law_r9 ++ (wsL_law_r10 ++ (wsL_law_r11 ++ (wsL_law_r12 ++ (wsL_law_r13 ++ (wsL_law_r14 ++ (wsL_law_r15 ++ (wsL_law_r16 ++ (wsL_law_r17 ++ (wsL_law_r18 ++ (wsL_law_r19 ++ (wsL_law_r20 ++ (wsL_law_r21 ++ (wsL_law_r22 ++ (wsL_law_r23 ++ (wsL_law_r24 ++ (wsL_law_r25 ++ (wsL_law_r26 ++ (wsL_law_r27 ++ (wsL_law_r28 ++ wsL_law_r29)))))))))))))))))))))))))))) ++ wsX60 ++ wsX70 ++ wsX30 ++ wsX00 ++ wsX10 ++ wsX40 ++ wsX50 ++ wsX20 ++ ([] : List Cond)
abbrev vwCl : List vw_C := [(RX0, TX0, 3), (RX1, TX1, 8), (RX2, TX2, 2), (RX3, TX3, 2), (RX4, TX4, 8), (RX5, TX5, 1), (RX6, TX6, 10), (RX7, TX7, 34)]
end
section
theorem inlX0 : ∀ w ∈ wsX00, w ∈ wsL_law := fun _ h => List.mem_append_left _ (List.mem_append_left _ (List.mem_append_left _ (List.mem_append_left _ (List.mem_append_left _ (List.mem_append_right _ h)))))
theorem inlX1 : ∀ w ∈ wsX10, w ∈ wsL_law := fun _ h => List.mem_append_left _ (List.mem_append_left _ (List.mem_append_left _ (List.mem_append_left _ (List.mem_append_right _ h))))
theorem inlX2 : ∀ w ∈ wsX20, w ∈ wsL_law := fun _ h => List.mem_append_left _ (List.mem_append_right _ h)
theorem inlX3 : ∀ w ∈ wsX30, w ∈ wsL_law := fun _ h => List.mem_append_left _ (List.mem_append_left _ (List.mem_append_left _ (List.mem_append_left _ (List.mem_append_left _ (List.mem_append_left _ (List.mem_append_right _ h))))))
theorem inlX4 : ∀ w ∈ wsX40, w ∈ wsL_law := fun _ h => List.mem_append_left _ (List.mem_append_left _ (List.mem_append_left _ (List.mem_append_right _ h)))
theorem inlX5 : ∀ w ∈ wsX50, w ∈ wsL_law := fun _ h => List.mem_append_left _ (List.mem_append_left _ (List.mem_append_right _ h))
theorem inlX6 : ∀ w ∈ wsX60, w ∈ wsL_law := fun _ h => List.mem_append_left _ (List.mem_append_left _ (List.mem_append_left _ (List.mem_append_left _ (List.mem_append_left _ (List.mem_append_left _ (List.mem_append_left _ (List.mem_append_left _ (List.mem_append_right _ h))))))))
theorem inlX7 : ∀ w ∈ wsX70, w ∈ wsL_law := fun _ h => List.mem_append_left _ (List.mem_append_left _ (List.mem_append_left _ (List.mem_append_left _ (List.mem_append_left _ (List.mem_append_left _ (List.mem_append_left _ (List.mem_append_right _ h)))))))
theorem inJ9 : ∀ w ∈ wsJ90, w ∈ lw_tbl := by decide +kernel
set_option maxRecDepth 20000 in
theorem ggX0_init_X5_init : GoodIn wsX0_init wsX5_init := goodIn_r _ [15, 16, 2, 3, 17, 18, 19, 20, 21, 22, 30] (by decide +kernel) (by decide +kernel)
set_option maxRecDepth 20000 in
theorem gX0_init_X5_init : GoodIn wsX0_init (wsX5_init) := ggX0_init_X5_init
set_option maxRecDepth 20000 in
theorem ggX0_init_X2_init : GoodIn wsX0_init wsX2_init := goodIn_r _ [25, 26, 2, 3, 27, 28, 18, 19, 20, 21, 29, 34, 35] (by decide +kernel) (by decide +kernel)
set_option maxRecDepth 20000 in
theorem gX0_init_X2_init : GoodIn wsX0_init (wsX2_init) := ggX0_init_X2_init
theorem dX0_init_0 : decode cX0_init 0 = .ok (.aload_n 0, 1) := by decide +kernel
theorem dX0_init_1 : decode cX0_init 1 = .ok (.invokespecial 3, 3) := by decide +kernel
theorem dX0_init_4 : decode cX0_init 4 = .ok (.aload_n 0, 1) := by decide +kernel
theorem dX0_init_5 : decode cX0_init 5 = .ok (.new 9, 3) := by decide +kernel
theorem dX0_init_8 : decode cX0_init 8 = .ok (.dup, 1) := by decide +kernel
theorem dX0_init_9 : decode cX0_init 9 = .ok (.bipush 8, 2) := by decide +kernel
theorem dX0_init_11 : decode cX0_init 11 = .ok (.invokespecial 11, 3) := by decide +kernel
theorem dX0_init_14 : decode cX0_init 14 = .ok (.putfield 14, 3) := by decide +kernel
theorem dX0_init_17 : decode cX0_init 17 = .ok (.aload_n 0, 1) := by decide +kernel
theorem dX0_init_18 : decode cX0_init 18 = .ok (.new 9, 3) := by decide +kernel
theorem dX0_init_21 : decode cX0_init 21 = .ok (.dup, 1) := by decide +kernel
theorem dX0_init_22 : decode cX0_init 22 = .ok (.bipush 16, 2) := by decide +kernel
theorem dX0_init_24 : decode cX0_init 24 = .ok (.invokespecial 11, 3) := by decide +kernel
theorem dX0_init_27 : decode cX0_init 27 = .ok (.putfield 20, 3) := by decide +kernel
theorem dX0_init_30 : decode cX0_init 30 = .ok (.aload_n 0, 1) := by decide +kernel
theorem dX0_init_31 : decode cX0_init 31 = .ok (.new 23, 3) := by decide +kernel
theorem dX0_init_34 : decode cX0_init 34 = .ok (.dup, 1) := by decide +kernel
theorem dX0_init_35 : decode cX0_init 35 = .ok (.bipush 16, 2) := by decide +kernel
theorem dX0_init_37 : decode cX0_init 37 = .ok (.invokespecial 25, 3) := by decide +kernel
theorem dX0_init_40 : decode cX0_init 40 = .ok (.putfield 26, 3) := by decide +kernel
theorem dX0_init_43 : decode cX0_init 43 = .ok (.return_, 1) := by decide +kernel
theorem dX0_hasCell_0 : decode cX0_hasCell 0 = .ok (.iload_n 1, 1) := by decide +kernel
theorem dX0_hasCell_1 : decode cX0_hasCell 1 = .ok (.ifCond .lt 13, 3) := by decide +kernel
theorem dX0_hasCell_4 : decode cX0_hasCell 4 = .ok (.iload_n 1, 1) := by decide +kernel
theorem dX0_hasCell_5 : decode cX0_hasCell 5 = .ok (.bipush 24, 2) := by decide +kernel
theorem dX0_hasCell_7 : decode cX0_hasCell 7 = .ok (.if_icmp .ge 7, 3) := by decide +kernel
theorem dX0_hasCell_10 : decode cX0_hasCell 10 = .ok (.iconst 1, 1) := by decide +kernel
theorem dX0_hasCell_11 : decode cX0_hasCell 11 = .ok (.goto 4, 3) := by decide +kernel
theorem dX0_hasCell_14 : decode cX0_hasCell 14 = .ok (.iconst 0, 1) := by decide +kernel
theorem dX0_hasCell_15 : decode cX0_hasCell 15 = .ok (.ireturn, 1) := by decide +kernel
set_option maxRecDepth 20000 in
theorem ggX0_cell_X5_get : GoodIn wsX0_cell wsX5_get := goodIn_r _ [7, 8, 12] (by decide +kernel) (by decide +kernel)
set_option maxRecDepth 20000 in
theorem gX0_cell_X5_get : GoodIn wsX0_cell (wsV RX0 30 RX5 yX5_get wsX5_get) := goodIn_app (goodIn_of _ (by decide +kernel)) ggX0_cell_X5_get
theorem dX0_cell_0 : decode cX0_cell 0 = .ok (.iload_n 1, 1) := by decide +kernel
theorem dX0_cell_1 : decode cX0_cell 1 = .ok (.bipush 8, 2) := by decide +kernel
theorem dX0_cell_3 : decode cX0_cell 3 = .ok (.if_icmp .ge 14, 3) := by decide +kernel
theorem dX0_cell_6 : decode cX0_cell 6 = .ok (.aload_n 0, 1) := by decide +kernel
theorem dX0_cell_7 : decode cX0_cell 7 = .ok (.getfield 14, 3) := by decide +kernel
theorem dX0_cell_10 : decode cX0_cell 10 = .ok (.iload_n 1, 1) := by decide +kernel
theorem dX0_cell_11 : decode cX0_cell 11 = .ok (.invokevirtual 30, 3) := by decide +kernel
theorem dX0_cell_14 : decode cX0_cell 14 = .ok (.goto 14, 3) := by decide +kernel
theorem dX0_cell_17 : decode cX0_cell 17 = .ok (.aload_n 0, 1) := by decide +kernel
theorem dX0_cell_18 : decode cX0_cell 18 = .ok (.getfield 20, 3) := by decide +kernel
theorem dX0_cell_21 : decode cX0_cell 21 = .ok (.iload_n 1, 1) := by decide +kernel
theorem dX0_cell_22 : decode cX0_cell 22 = .ok (.bipush 8, 2) := by decide +kernel
theorem dX0_cell_24 : decode cX0_cell 24 = .ok (.isub, 1) := by decide +kernel
theorem dX0_cell_25 : decode cX0_cell 25 = .ok (.invokevirtual 30, 3) := by decide +kernel
theorem dX0_cell_28 : decode cX0_cell 28 = .ok (.ireturn, 1) := by decide +kernel
set_option maxRecDepth 20000 in
theorem ggX0_setCell_X5_set : GoodIn wsX0_setCell wsX5_set := goodIn_r _ [7, 8, 12] (by decide +kernel) (by decide +kernel)
set_option maxRecDepth 20000 in
theorem gX0_setCell_X5_set : GoodIn wsX0_setCell (wsV RX0 34 RX5 yX5_set wsX5_set) := goodIn_app (goodIn_of _ (by decide +kernel)) ggX0_setCell_X5_set
theorem dX0_setCell_0 : decode cX0_setCell 0 = .ok (.iload_n 1, 1) := by decide +kernel
theorem dX0_setCell_1 : decode cX0_setCell 1 = .ok (.bipush 8, 2) := by decide +kernel
theorem dX0_setCell_3 : decode cX0_setCell 3 = .ok (.if_icmp .ge 15, 3) := by decide +kernel
theorem dX0_setCell_6 : decode cX0_setCell 6 = .ok (.aload_n 0, 1) := by decide +kernel
theorem dX0_setCell_7 : decode cX0_setCell 7 = .ok (.getfield 14, 3) := by decide +kernel
theorem dX0_setCell_10 : decode cX0_setCell 10 = .ok (.iload_n 1, 1) := by decide +kernel
theorem dX0_setCell_11 : decode cX0_setCell 11 = .ok (.iload_n 2, 1) := by decide +kernel
theorem dX0_setCell_12 : decode cX0_setCell 12 = .ok (.invokevirtual 34, 3) := by decide +kernel
theorem dX0_setCell_15 : decode cX0_setCell 15 = .ok (.goto 15, 3) := by decide +kernel
theorem dX0_setCell_18 : decode cX0_setCell 18 = .ok (.aload_n 0, 1) := by decide +kernel
theorem dX0_setCell_19 : decode cX0_setCell 19 = .ok (.getfield 20, 3) := by decide +kernel
theorem dX0_setCell_22 : decode cX0_setCell 22 = .ok (.iload_n 1, 1) := by decide +kernel
theorem dX0_setCell_23 : decode cX0_setCell 23 = .ok (.bipush 8, 2) := by decide +kernel
theorem dX0_setCell_25 : decode cX0_setCell 25 = .ok (.isub, 1) := by decide +kernel
theorem dX0_setCell_26 : decode cX0_setCell 26 = .ok (.iload_n 2, 1) := by decide +kernel
theorem dX0_setCell_27 : decode cX0_setCell 27 = .ok (.invokevirtual 34, 3) := by decide +kernel
theorem dX0_setCell_30 : decode cX0_setCell 30 = .ok (.ireturn, 1) := by decide +kernel
set_option maxRecDepth 20000 in
theorem ggX0_stackSize_X2_size : GoodIn wsX0_stackSize wsX2_size := goodIn_r _ [6, 7, 11, 12] (by decide +kernel) (by decide +kernel)
set_option maxRecDepth 20000 in
theorem gX0_stackSize_X2_size : GoodIn wsX0_stackSize (wsV RX0 38 RX2 yX2_size wsX2_size) := goodIn_app (goodIn_of _ (by decide +kernel)) ggX0_stackSize_X2_size
theorem dX0_stackSize_0 : decode cX0_stackSize 0 = .ok (.aload_n 0, 1) := by decide +kernel
theorem dX0_stackSize_1 : decode cX0_stackSize 1 = .ok (.getfield 26, 3) := by decide +kernel
theorem dX0_stackSize_4 : decode cX0_stackSize 4 = .ok (.invokevirtual 38, 3) := by decide +kernel
theorem dX0_stackSize_7 : decode cX0_stackSize 7 = .ok (.ireturn, 1) := by decide +kernel
set_option maxRecDepth 20000 in
theorem ggX0_stackAddress_X2_get : GoodIn wsX0_stackAddress wsX2_get := goodIn_r _ [6, 7, 8, 9, 10, 5, 11, 12, 16, 17] (by decide +kernel) (by decide +kernel)
set_option maxRecDepth 20000 in
theorem gX0_stackAddress_X2_get : GoodIn wsX0_stackAddress (wsV RX0 42 RX2 yX2_get wsX2_get) := goodIn_app (goodIn_of _ (by decide +kernel)) ggX0_stackAddress_X2_get
theorem dX0_stackAddress_0 : decode cX0_stackAddress 0 = .ok (.aload_n 0, 1) := by decide +kernel
theorem dX0_stackAddress_1 : decode cX0_stackAddress 1 = .ok (.getfield 26, 3) := by decide +kernel
theorem dX0_stackAddress_4 : decode cX0_stackAddress 4 = .ok (.iload_n 1, 1) := by decide +kernel
theorem dX0_stackAddress_5 : decode cX0_stackAddress 5 = .ok (.invokevirtual 42, 3) := by decide +kernel
theorem dX0_stackAddress_8 : decode cX0_stackAddress 8 = .ok (.ireturn, 1) := by decide +kernel
set_option maxRecDepth 20000 in
theorem ggX0_emptyStack_X2_clear : GoodIn wsX0_emptyStack wsX2_clear := goodIn_r _ [6, 7, 11, 12] (by decide +kernel) (by decide +kernel)
set_option maxRecDepth 20000 in
theorem gX0_emptyStack_X2_clear : GoodIn wsX0_emptyStack (wsV RX0 43 RX2 yX2_clear wsX2_clear) := goodIn_app (goodIn_of _ (by decide +kernel)) ggX0_emptyStack_X2_clear
theorem dX0_emptyStack_0 : decode cX0_emptyStack 0 = .ok (.aload_n 0, 1) := by decide +kernel
theorem dX0_emptyStack_1 : decode cX0_emptyStack 1 = .ok (.getfield 26, 3) := by decide +kernel
theorem dX0_emptyStack_4 : decode cX0_emptyStack 4 = .ok (.invokevirtual 43, 3) := by decide +kernel
theorem dX0_emptyStack_7 : decode cX0_emptyStack 7 = .ok (.return_, 1) := by decide +kernel
set_option maxRecDepth 20000 in
theorem ggX0_turns_X3_part : GoodIn wsX0_turns wsX3_part := goodIn_r _ [6, 7, 8, 9, 10, 11, 12, 13, 24, 25, 26] (by decide +kernel) (by decide +kernel)
set_option maxRecDepth 20000 in
theorem gX0_turns_X3_part : GoodIn wsX0_turns (wsV RX0 46 RX3 yX3_part wsX3_part) := goodIn_app (goodIn_of _ (by decide +kernel)) ggX0_turns_X3_part
set_option maxRecDepth 20000 in
theorem ggX0_turns_X5_get : GoodIn wsX0_turns wsX5_get := goodIn_r _ [12, 13, 26] (by decide +kernel) (by decide +kernel)
set_option maxRecDepth 20000 in
theorem gX0_turns_X5_get : GoodIn wsX0_turns (wsV RX0 30 RX5 yX5_get wsX5_get) := goodIn_app (goodIn_of _ (by decide +kernel)) ggX0_turns_X5_get
set_option maxRecDepth 20000 in
theorem ggX0_turns_X6_isTurn : GoodIn wsX0_turns wsX6_isTurn := goodIn_r _ [17, 18, 19, 16, 20] (by decide +kernel) (by decide +kernel)
set_option maxRecDepth 20000 in
theorem gX0_turns_X6_isTurn_n51 : GoodIn wsX0_turns (wsX6_isTurn) := ggX0_turns_X6_isTurn
theorem dX0_turns_0 : decode cX0_turns 0 = .ok (.aload_n 1, 1) := by decide +kernel
theorem dX0_turns_1 : decode cX0_turns 1 = .ok (.iload_n 2, 1) := by decide +kernel
theorem dX0_turns_2 : decode cX0_turns 2 = .ok (.iconst 0, 1) := by decide +kernel
theorem dX0_turns_3 : decode cX0_turns 3 = .ok (.invokevirtual 46, 3) := by decide +kernel
theorem dX0_turns_6 : decode cX0_turns 6 = .ok (.istore_n 3, 1) := by decide +kernel
theorem dX0_turns_7 : decode cX0_turns 7 = .ok (.aload_n 0, 1) := by decide +kernel
theorem dX0_turns_8 : decode cX0_turns 8 = .ok (.getfield 14, 3) := by decide +kernel
theorem dX0_turns_11 : decode cX0_turns 11 = .ok (.aload_n 1, 1) := by decide +kernel
theorem dX0_turns_12 : decode cX0_turns 12 = .ok (.iload_n 2, 1) := by decide +kernel
theorem dX0_turns_13 : decode cX0_turns 13 = .ok (.iconst 1, 1) := by decide +kernel
theorem dX0_turns_14 : decode cX0_turns 14 = .ok (.invokevirtual 46, 3) := by decide +kernel
theorem dX0_turns_17 : decode cX0_turns 17 = .ok (.invokevirtual 30, 3) := by decide +kernel
theorem dX0_turns_20 : decode cX0_turns 20 = .ok (.istore 4, 2) := by decide +kernel
theorem dX0_turns_22 : decode cX0_turns 22 = .ok (.aload_n 0, 1) := by decide +kernel
theorem dX0_turns_23 : decode cX0_turns 23 = .ok (.getfield 14, 3) := by decide +kernel
theorem dX0_turns_26 : decode cX0_turns 26 = .ok (.aload_n 1, 1) := by decide +kernel
theorem dX0_turns_27 : decode cX0_turns 27 = .ok (.iload_n 2, 1) := by decide +kernel
theorem dX0_turns_28 : decode cX0_turns 28 = .ok (.iconst 2, 1) := by decide +kernel
theorem dX0_turns_29 : decode cX0_turns 29 = .ok (.invokevirtual 46, 3) := by decide +kernel
theorem dX0_turns_32 : decode cX0_turns 32 = .ok (.invokevirtual 30, 3) := by decide +kernel
theorem dX0_turns_35 : decode cX0_turns 35 = .ok (.istore 5, 2) := by decide +kernel
theorem dX0_turns_37 : decode cX0_turns 37 = .ok (.iload_n 3, 1) := by decide +kernel
theorem dX0_turns_38 : decode cX0_turns 38 = .ok (.lookupswitch 52 #[(5, 26), (6, 39)], 26) := by decide +kernel
theorem dX0_turns_64 : decode cX0_turns 64 = .ok (.iload 4, 2) := by decide +kernel
theorem dX0_turns_66 : decode cX0_turns 66 = .ok (.iload 5, 2) := by decide +kernel
theorem dX0_turns_68 : decode cX0_turns 68 = .ok (.if_icmp .ge 7, 3) := by decide +kernel
theorem dX0_turns_71 : decode cX0_turns 71 = .ok (.iconst 1, 1) := by decide +kernel
theorem dX0_turns_72 : decode cX0_turns 72 = .ok (.goto 4, 3) := by decide +kernel
theorem dX0_turns_75 : decode cX0_turns 75 = .ok (.iconst 0, 1) := by decide +kernel
theorem dX0_turns_76 : decode cX0_turns 76 = .ok (.ireturn, 1) := by decide +kernel
theorem dX0_turns_77 : decode cX0_turns 77 = .ok (.iload 4, 2) := by decide +kernel
theorem dX0_turns_79 : decode cX0_turns 79 = .ok (.iload 5, 2) := by decide +kernel
theorem dX0_turns_81 : decode cX0_turns 81 = .ok (.if_icmp .ne 7, 3) := by decide +kernel
theorem dX0_turns_84 : decode cX0_turns 84 = .ok (.iconst 1, 1) := by decide +kernel
theorem dX0_turns_85 : decode cX0_turns 85 = .ok (.goto 4, 3) := by decide +kernel
theorem dX0_turns_88 : decode cX0_turns 88 = .ok (.iconst 0, 1) := by decide +kernel
theorem dX0_turns_89 : decode cX0_turns 89 = .ok (.ireturn, 1) := by decide +kernel
theorem dX0_turns_90 : decode cX0_turns 90 = .ok (.iload_n 3, 1) := by decide +kernel
theorem dX0_turns_91 : decode cX0_turns 91 = .ok (.invokestatic 51, 3) := by decide +kernel
theorem dX0_turns_94 : decode cX0_turns 94 = .ok (.ireturn, 1) := by decide +kernel
set_option maxRecDepth 20000 in
theorem ggX0_perform_X3_part : GoodIn wsX0_perform wsX3_part := goodIn_r _ [9, 10, 11, 12, 13, 14, 15, 16, 53, 54, 55] (by decide +kernel) (by decide +kernel)
set_option maxRecDepth 20000 in
theorem gX0_perform_X3_part : GoodIn wsX0_perform (wsV RX0 46 RX3 yX3_part wsX3_part) := goodIn_app (goodIn_of _ (by decide +kernel)) ggX0_perform_X3_part
set_option maxRecDepth 20000 in
theorem ggX0_perform_X5_get : GoodIn wsX0_perform wsX5_get := goodIn_r _ [15, 16, 55] (by decide +kernel) (by decide +kernel)
set_option maxRecDepth 20000 in
theorem gX0_perform_X5_get : GoodIn wsX0_perform (wsV RX0 30 RX5 yX5_get wsX5_get) := goodIn_app (goodIn_of _ (by decide +kernel)) ggX0_perform_X5_get
set_option maxRecDepth 20000 in
theorem ggX0_perform_X5_set : GoodIn wsX0_perform wsX5_set := goodIn_r _ [21, 16, 55] (by decide +kernel) (by decide +kernel)
set_option maxRecDepth 20000 in
theorem gX0_perform_X5_set : GoodIn wsX0_perform (wsV RX0 34 RX5 yX5_set wsX5_set) := goodIn_app (goodIn_of _ (by decide +kernel)) ggX0_perform_X5_set
set_option maxRecDepth 20000 in
theorem ggX0_perform_X2_push : GoodIn wsX0_perform wsX2_push := goodIn_r _ [26, 27, 28, 56, 57] (by decide +kernel) (by decide +kernel)
set_option maxRecDepth 20000 in
theorem gX0_perform_X2_push : GoodIn wsX0_perform (wsV RX0 55 RX2 yX2_push wsX2_push) := goodIn_app (goodIn_of _ (by decide +kernel)) ggX0_perform_X2_push
set_option maxRecDepth 20000 in
theorem ggX0_perform_X2_pop : GoodIn wsX0_perform wsX2_pop := goodIn_r _ [32, 27, 33, 34, 35, 36, 37, 38, 39, 25, 40, 28, 41, 42, 43, 44, 56, 57] (by decide +kernel) (by decide +kernel)
set_option maxRecDepth 20000 in
theorem gX0_perform_X2_pop : GoodIn wsX0_perform (wsV RX0 58 RX2 yX2_pop wsX2_pop) := goodIn_app (goodIn_of _ (by decide +kernel)) ggX0_perform_X2_pop
set_option maxRecDepth 20000 in
theorem ggX0_perform_X3_size : GoodIn wsX0_perform wsX3_size := goodIn_r _ [48, 49, 53, 54] (by decide +kernel) (by decide +kernel)
set_option maxRecDepth 20000 in
theorem gX0_perform_X3_size : GoodIn wsX0_perform (wsV RX0 61 RX3 yX3_size wsX3_size) := goodIn_app (goodIn_of _ (by decide +kernel)) ggX0_perform_X3_size
theorem dX0_perform_0 : decode cX0_perform 0 = .ok (.aload_n 1, 1) := by decide +kernel
theorem dX0_perform_1 : decode cX0_perform 1 = .ok (.iload_n 2, 1) := by decide +kernel
theorem dX0_perform_2 : decode cX0_perform 2 = .ok (.iconst 1, 1) := by decide +kernel
theorem dX0_perform_3 : decode cX0_perform 3 = .ok (.invokevirtual 46, 3) := by decide +kernel
theorem dX0_perform_6 : decode cX0_perform 6 = .ok (.istore_n 3, 1) := by decide +kernel
theorem dX0_perform_7 : decode cX0_perform 7 = .ok (.aload_n 1, 1) := by decide +kernel
theorem dX0_perform_8 : decode cX0_perform 8 = .ok (.iload_n 2, 1) := by decide +kernel
theorem dX0_perform_9 : decode cX0_perform 9 = .ok (.iconst 3, 1) := by decide +kernel
theorem dX0_perform_10 : decode cX0_perform 10 = .ok (.invokevirtual 46, 3) := by decide +kernel
theorem dX0_perform_13 : decode cX0_perform 13 = .ok (.istore 4, 2) := by decide +kernel
theorem dX0_perform_15 : decode cX0_perform 15 = .ok (.aload_n 0, 1) := by decide +kernel
theorem dX0_perform_16 : decode cX0_perform 16 = .ok (.getfield 14, 3) := by decide +kernel
theorem dX0_perform_19 : decode cX0_perform 19 = .ok (.iload_n 3, 1) := by decide +kernel
theorem dX0_perform_20 : decode cX0_perform 20 = .ok (.invokevirtual 30, 3) := by decide +kernel
theorem dX0_perform_23 : decode cX0_perform 23 = .ok (.istore 5, 2) := by decide +kernel
theorem dX0_perform_25 : decode cX0_perform 25 = .ok (.aload_n 0, 1) := by decide +kernel
theorem dX0_perform_26 : decode cX0_perform 26 = .ok (.getfield 14, 3) := by decide +kernel
theorem dX0_perform_29 : decode cX0_perform 29 = .ok (.aload_n 1, 1) := by decide +kernel
theorem dX0_perform_30 : decode cX0_perform 30 = .ok (.iload_n 2, 1) := by decide +kernel
theorem dX0_perform_31 : decode cX0_perform 31 = .ok (.iconst 2, 1) := by decide +kernel
theorem dX0_perform_32 : decode cX0_perform 32 = .ok (.invokevirtual 46, 3) := by decide +kernel
theorem dX0_perform_35 : decode cX0_perform 35 = .ok (.invokevirtual 30, 3) := by decide +kernel
theorem dX0_perform_38 : decode cX0_perform 38 = .ok (.istore 6, 2) := by decide +kernel
theorem dX0_perform_40 : decode cX0_perform 40 = .ok (.aload_n 1, 1) := by decide +kernel
theorem dX0_perform_41 : decode cX0_perform 41 = .ok (.iload_n 2, 1) := by decide +kernel
theorem dX0_perform_42 : decode cX0_perform 42 = .ok (.iconst 0, 1) := by decide +kernel
theorem dX0_perform_43 : decode cX0_perform 43 = .ok (.invokevirtual 46, 3) := by decide +kernel
theorem dX0_perform_46 : decode cX0_perform 46 = .ok (.tableswitch 233 0 10 #[58, 72, 89, 106, 130, 148, 164, 180, 183, 203, 211], 58) := by decide +kernel
theorem dX0_perform_104 : decode cX0_perform 104 = .ok (.aload_n 0, 1) := by decide +kernel
theorem dX0_perform_105 : decode cX0_perform 105 = .ok (.getfield 14, 3) := by decide +kernel
theorem dX0_perform_108 : decode cX0_perform 108 = .ok (.iload_n 3, 1) := by decide +kernel
theorem dX0_perform_109 : decode cX0_perform 109 = .ok (.iload 4, 2) := by decide +kernel
theorem dX0_perform_111 : decode cX0_perform 111 = .ok (.invokevirtual 34, 3) := by decide +kernel
theorem dX0_perform_114 : decode cX0_perform 114 = .ok (.pop, 1) := by decide +kernel
theorem dX0_perform_115 : decode cX0_perform 115 = .ok (.goto 164, 3) := by decide +kernel
theorem dX0_perform_118 : decode cX0_perform 118 = .ok (.aload_n 0, 1) := by decide +kernel
theorem dX0_perform_119 : decode cX0_perform 119 = .ok (.getfield 14, 3) := by decide +kernel
theorem dX0_perform_122 : decode cX0_perform 122 = .ok (.iload_n 3, 1) := by decide +kernel
theorem dX0_perform_123 : decode cX0_perform 123 = .ok (.iload 5, 2) := by decide +kernel
theorem dX0_perform_125 : decode cX0_perform 125 = .ok (.iload 6, 2) := by decide +kernel
theorem dX0_perform_127 : decode cX0_perform 127 = .ok (.iadd, 1) := by decide +kernel
theorem dX0_perform_128 : decode cX0_perform 128 = .ok (.invokevirtual 34, 3) := by decide +kernel
theorem dX0_perform_131 : decode cX0_perform 131 = .ok (.pop, 1) := by decide +kernel
theorem dX0_perform_132 : decode cX0_perform 132 = .ok (.goto 147, 3) := by decide +kernel
theorem dX0_perform_135 : decode cX0_perform 135 = .ok (.aload_n 0, 1) := by decide +kernel
theorem dX0_perform_136 : decode cX0_perform 136 = .ok (.getfield 14, 3) := by decide +kernel
theorem dX0_perform_139 : decode cX0_perform 139 = .ok (.iload_n 3, 1) := by decide +kernel
theorem dX0_perform_140 : decode cX0_perform 140 = .ok (.iload 5, 2) := by decide +kernel
theorem dX0_perform_142 : decode cX0_perform 142 = .ok (.iload 6, 2) := by decide +kernel
theorem dX0_perform_144 : decode cX0_perform 144 = .ok (.isub, 1) := by decide +kernel
theorem dX0_perform_145 : decode cX0_perform 145 = .ok (.invokevirtual 34, 3) := by decide +kernel
theorem dX0_perform_148 : decode cX0_perform 148 = .ok (.pop, 1) := by decide +kernel
theorem dX0_perform_149 : decode cX0_perform 149 = .ok (.goto 130, 3) := by decide +kernel
theorem dX0_perform_152 : decode cX0_perform 152 = .ok (.aload_n 0, 1) := by decide +kernel
theorem dX0_perform_153 : decode cX0_perform 153 = .ok (.getfield 14, 3) := by decide +kernel
theorem dX0_perform_156 : decode cX0_perform 156 = .ok (.iload_n 3, 1) := by decide +kernel
theorem dX0_perform_157 : decode cX0_perform 157 = .ok (.aload_n 0, 1) := by decide +kernel
theorem dX0_perform_158 : decode cX0_perform 158 = .ok (.getfield 20, 3) := by decide +kernel
theorem dX0_perform_161 : decode cX0_perform 161 = .ok (.iload 6, 2) := by decide +kernel
theorem dX0_perform_163 : decode cX0_perform 163 = .ok (.bipush 15, 2) := by decide +kernel
theorem dX0_perform_165 : decode cX0_perform 165 = .ok (.iand, 1) := by decide +kernel
theorem dX0_perform_166 : decode cX0_perform 166 = .ok (.invokevirtual 30, 3) := by decide +kernel
theorem dX0_perform_169 : decode cX0_perform 169 = .ok (.invokevirtual 34, 3) := by decide +kernel
theorem dX0_perform_172 : decode cX0_perform 172 = .ok (.pop, 1) := by decide +kernel
theorem dX0_perform_173 : decode cX0_perform 173 = .ok (.goto 106, 3) := by decide +kernel
theorem dX0_perform_176 : decode cX0_perform 176 = .ok (.aload_n 0, 1) := by decide +kernel
theorem dX0_perform_177 : decode cX0_perform 177 = .ok (.getfield 20, 3) := by decide +kernel
theorem dX0_perform_180 : decode cX0_perform 180 = .ok (.iload 6, 2) := by decide +kernel
theorem dX0_perform_182 : decode cX0_perform 182 = .ok (.bipush 15, 2) := by decide +kernel
theorem dX0_perform_184 : decode cX0_perform 184 = .ok (.iand, 1) := by decide +kernel
theorem dX0_perform_185 : decode cX0_perform 185 = .ok (.iload 5, 2) := by decide +kernel
theorem dX0_perform_187 : decode cX0_perform 187 = .ok (.invokevirtual 34, 3) := by decide +kernel
theorem dX0_perform_190 : decode cX0_perform 190 = .ok (.pop, 1) := by decide +kernel
theorem dX0_perform_191 : decode cX0_perform 191 = .ok (.goto 88, 3) := by decide +kernel
theorem dX0_perform_194 : decode cX0_perform 194 = .ok (.iload 5, 2) := by decide +kernel
theorem dX0_perform_196 : decode cX0_perform 196 = .ok (.iload 6, 2) := by decide +kernel
theorem dX0_perform_198 : decode cX0_perform 198 = .ok (.if_icmp .ge 8, 3) := by decide +kernel
theorem dX0_perform_201 : decode cX0_perform 201 = .ok (.iload 4, 2) := by decide +kernel
theorem dX0_perform_203 : decode cX0_perform 203 = .ok (.goto 6, 3) := by decide +kernel
theorem dX0_perform_206 : decode cX0_perform 206 = .ok (.iload_n 2, 1) := by decide +kernel
theorem dX0_perform_207 : decode cX0_perform 207 = .ok (.iconst 1, 1) := by decide +kernel
theorem dX0_perform_208 : decode cX0_perform 208 = .ok (.iadd, 1) := by decide +kernel
theorem dX0_perform_209 : decode cX0_perform 209 = .ok (.ireturn, 1) := by decide +kernel
theorem dX0_perform_210 : decode cX0_perform 210 = .ok (.iload 5, 2) := by decide +kernel
theorem dX0_perform_212 : decode cX0_perform 212 = .ok (.iload 6, 2) := by decide +kernel
theorem dX0_perform_214 : decode cX0_perform 214 = .ok (.if_icmp .ne 8, 3) := by decide +kernel
theorem dX0_perform_217 : decode cX0_perform 217 = .ok (.iload 4, 2) := by decide +kernel
theorem dX0_perform_219 : decode cX0_perform 219 = .ok (.goto 6, 3) := by decide +kernel
theorem dX0_perform_222 : decode cX0_perform 222 = .ok (.iload_n 2, 1) := by decide +kernel
theorem dX0_perform_223 : decode cX0_perform 223 = .ok (.iconst 1, 1) := by decide +kernel
theorem dX0_perform_224 : decode cX0_perform 224 = .ok (.iadd, 1) := by decide +kernel
theorem dX0_perform_225 : decode cX0_perform 225 = .ok (.ireturn, 1) := by decide +kernel
theorem dX0_perform_226 : decode cX0_perform 226 = .ok (.iload 4, 2) := by decide +kernel
theorem dX0_perform_228 : decode cX0_perform 228 = .ok (.ireturn, 1) := by decide +kernel
theorem dX0_perform_229 : decode cX0_perform 229 = .ok (.aload_n 0, 1) := by decide +kernel
theorem dX0_perform_230 : decode cX0_perform 230 = .ok (.getfield 26, 3) := by decide +kernel
theorem dX0_perform_233 : decode cX0_perform 233 = .ok (.iload_n 2, 1) := by decide +kernel
theorem dX0_perform_234 : decode cX0_perform 234 = .ok (.iconst 1, 1) := by decide +kernel
theorem dX0_perform_235 : decode cX0_perform 235 = .ok (.iadd, 1) := by decide +kernel
theorem dX0_perform_236 : decode cX0_perform 236 = .ok (.invokevirtual 55, 3) := by decide +kernel
theorem dX0_perform_239 : decode cX0_perform 239 = .ok (.ifCond .eq 8, 3) := by decide +kernel
theorem dX0_perform_242 : decode cX0_perform 242 = .ok (.iload 4, 2) := by decide +kernel
theorem dX0_perform_244 : decode cX0_perform 244 = .ok (.goto 4, 3) := by decide +kernel
theorem dX0_perform_247 : decode cX0_perform 247 = .ok (.iconst (-1), 1) := by decide +kernel
theorem dX0_perform_248 : decode cX0_perform 248 = .ok (.ireturn, 1) := by decide +kernel
theorem dX0_perform_249 : decode cX0_perform 249 = .ok (.aload_n 0, 1) := by decide +kernel
theorem dX0_perform_250 : decode cX0_perform 250 = .ok (.getfield 26, 3) := by decide +kernel
theorem dX0_perform_253 : decode cX0_perform 253 = .ok (.invokevirtual 58, 3) := by decide +kernel
theorem dX0_perform_256 : decode cX0_perform 256 = .ok (.ireturn, 1) := by decide +kernel
theorem dX0_perform_257 : decode cX0_perform 257 = .ok (.aload_n 1, 1) := by decide +kernel
theorem dX0_perform_258 : decode cX0_perform 258 = .ok (.invokevirtual 61, 3) := by decide +kernel
theorem dX0_perform_261 : decode cX0_perform 261 = .ok (.ifCond .le 16, 3) := by decide +kernel
theorem dX0_perform_264 : decode cX0_perform 264 = .ok (.iload 5, 2) := by decide +kernel
theorem dX0_perform_266 : decode cX0_perform 266 = .ok (.ldc 62, 2) := by decide +kernel
theorem dX0_perform_268 : decode cX0_perform 268 = .ok (.iand, 1) := by decide +kernel
theorem dX0_perform_269 : decode cX0_perform 269 = .ok (.aload_n 1, 1) := by decide +kernel
theorem dX0_perform_270 : decode cX0_perform 270 = .ok (.invokevirtual 61, 3) := by decide +kernel
theorem dX0_perform_273 : decode cX0_perform 273 = .ok (.irem, 1) := by decide +kernel
theorem dX0_perform_274 : decode cX0_perform 274 = .ok (.goto 4, 3) := by decide +kernel
theorem dX0_perform_277 : decode cX0_perform 277 = .ok (.iconst (-1), 1) := by decide +kernel
theorem dX0_perform_278 : decode cX0_perform 278 = .ok (.ireturn, 1) := by decide +kernel
theorem dX0_perform_279 : decode cX0_perform 279 = .ok (.iload_n 2, 1) := by decide +kernel
theorem dX0_perform_280 : decode cX0_perform 280 = .ok (.iconst 1, 1) := by decide +kernel
theorem dX0_perform_281 : decode cX0_perform 281 = .ok (.iadd, 1) := by decide +kernel
theorem dX0_perform_282 : decode cX0_perform 282 = .ok (.ireturn, 1) := by decide +kernel
set_option maxRecDepth 20000 in
theorem ggX1_init_X5_init : GoodIn wsX1_init wsX5_init := goodIn_r _ [20, 21, 2, 3, 22, 23, 24, 25, 26, 27, 44] (by decide +kernel) (by decide +kernel)
set_option maxRecDepth 20000 in
theorem gX1_init_X5_init : GoodIn wsX1_init (wsX5_init) := ggX1_init_X5_init
set_option maxRecDepth 20000 in
theorem ggX1_init_X2_init : GoodIn wsX1_init wsX2_init := goodIn_r _ [30, 31, 2, 3, 32, 33, 23, 24, 25, 26, 34, 53, 54] (by decide +kernel) (by decide +kernel)
set_option maxRecDepth 20000 in
theorem gX1_init_X2_init : GoodIn wsX1_init (wsX2_init) := ggX1_init_X2_init
set_option maxRecDepth 20000 in
theorem ggX1_init_X1_forgetTables : GoodIn wsX1_init wsX1_forgetTables := goodIn_r _ [39, 7, 8, 9, 10, 11, 12, 17, 40, 41, 42, 6, 43, 27, 45, 46, 47, 48, 49, 50, 51, 52, 44] (by decide +kernel) (by decide +kernel)
set_option maxRecDepth 20000 in
theorem gX1_init_X1_forgetTables : GoodIn wsX1_init (wsV RX1 46 RX1 yX1_forgetTables wsX1_forgetTables) := goodIn_app (goodIn_of _ (by decide +kernel)) ggX1_init_X1_forgetTables
theorem dX1_init_0 : decode cX1_init 0 = .ok (.aload_n 0, 1) := by decide +kernel
theorem dX1_init_1 : decode cX1_init 1 = .ok (.invokespecial 3, 3) := by decide +kernel
theorem dX1_init_4 : decode cX1_init 4 = .ok (.aload_n 0, 1) := by decide +kernel
theorem dX1_init_5 : decode cX1_init 5 = .ok (.new 9, 3) := by decide +kernel
theorem dX1_init_8 : decode cX1_init 8 = .ok (.dup, 1) := by decide +kernel
theorem dX1_init_9 : decode cX1_init 9 = .ok (.bipush 16, 2) := by decide +kernel
theorem dX1_init_11 : decode cX1_init 11 = .ok (.invokespecial 11, 3) := by decide +kernel
theorem dX1_init_14 : decode cX1_init 14 = .ok (.putfield 14, 3) := by decide +kernel
theorem dX1_init_17 : decode cX1_init 17 = .ok (.aload_n 0, 1) := by decide +kernel
theorem dX1_init_18 : decode cX1_init 18 = .ok (.new 9, 3) := by decide +kernel
theorem dX1_init_21 : decode cX1_init 21 = .ok (.dup, 1) := by decide +kernel
theorem dX1_init_22 : decode cX1_init 22 = .ok (.bipush 16, 2) := by decide +kernel
theorem dX1_init_24 : decode cX1_init 24 = .ok (.invokespecial 11, 3) := by decide +kernel
theorem dX1_init_27 : decode cX1_init 27 = .ok (.putfield 20, 3) := by decide +kernel
theorem dX1_init_30 : decode cX1_init 30 = .ok (.aload_n 0, 1) := by decide +kernel
theorem dX1_init_31 : decode cX1_init 31 = .ok (.new 9, 3) := by decide +kernel
theorem dX1_init_34 : decode cX1_init 34 = .ok (.dup, 1) := by decide +kernel
theorem dX1_init_35 : decode cX1_init 35 = .ok (.bipush 16, 2) := by decide +kernel
theorem dX1_init_37 : decode cX1_init 37 = .ok (.invokespecial 11, 3) := by decide +kernel
theorem dX1_init_40 : decode cX1_init 40 = .ok (.putfield 23, 3) := by decide +kernel
theorem dX1_init_43 : decode cX1_init 43 = .ok (.aload_n 0, 1) := by decide +kernel
theorem dX1_init_44 : decode cX1_init 44 = .ok (.new 9, 3) := by decide +kernel
theorem dX1_init_47 : decode cX1_init 47 = .ok (.dup, 1) := by decide +kernel
theorem dX1_init_48 : decode cX1_init 48 = .ok (.bipush 8, 2) := by decide +kernel
theorem dX1_init_50 : decode cX1_init 50 = .ok (.invokespecial 11, 3) := by decide +kernel
theorem dX1_init_53 : decode cX1_init 53 = .ok (.putfield 26, 3) := by decide +kernel
theorem dX1_init_56 : decode cX1_init 56 = .ok (.aload_n 0, 1) := by decide +kernel
theorem dX1_init_57 : decode cX1_init 57 = .ok (.new 9, 3) := by decide +kernel
theorem dX1_init_60 : decode cX1_init 60 = .ok (.dup, 1) := by decide +kernel
theorem dX1_init_61 : decode cX1_init 61 = .ok (.bipush 8, 2) := by decide +kernel
theorem dX1_init_63 : decode cX1_init 63 = .ok (.invokespecial 11, 3) := by decide +kernel
theorem dX1_init_66 : decode cX1_init 66 = .ok (.putfield 29, 3) := by decide +kernel
theorem dX1_init_69 : decode cX1_init 69 = .ok (.aload_n 0, 1) := by decide +kernel
theorem dX1_init_70 : decode cX1_init 70 = .ok (.new 9, 3) := by decide +kernel
theorem dX1_init_73 : decode cX1_init 73 = .ok (.dup, 1) := by decide +kernel
theorem dX1_init_74 : decode cX1_init 74 = .ok (.bipush 8, 2) := by decide +kernel
theorem dX1_init_76 : decode cX1_init 76 = .ok (.invokespecial 11, 3) := by decide +kernel
theorem dX1_init_79 : decode cX1_init 79 = .ok (.putfield 32, 3) := by decide +kernel
theorem dX1_init_82 : decode cX1_init 82 = .ok (.aload_n 0, 1) := by decide +kernel
theorem dX1_init_83 : decode cX1_init 83 = .ok (.new 35, 3) := by decide +kernel
theorem dX1_init_86 : decode cX1_init 86 = .ok (.dup, 1) := by decide +kernel
theorem dX1_init_87 : decode cX1_init 87 = .ok (.iconst 4, 1) := by decide +kernel
theorem dX1_init_88 : decode cX1_init 88 = .ok (.invokespecial 37, 3) := by decide +kernel
theorem dX1_init_91 : decode cX1_init 91 = .ok (.putfield 38, 3) := by decide +kernel
theorem dX1_init_94 : decode cX1_init 94 = .ok (.aload_n 0, 1) := by decide +kernel
theorem dX1_init_95 : decode cX1_init 95 = .ok (.iconst 0, 1) := by decide +kernel
theorem dX1_init_96 : decode cX1_init 96 = .ok (.putfield 42, 3) := by decide +kernel
theorem dX1_init_99 : decode cX1_init 99 = .ok (.aload_n 0, 1) := by decide +kernel
theorem dX1_init_100 : decode cX1_init 100 = .ok (.invokevirtual 46, 3) := by decide +kernel
theorem dX1_init_103 : decode cX1_init 103 = .ok (.return_, 1) := by decide +kernel
set_option maxRecDepth 20000 in
theorem ggX1_forgetTables_X5_fill : GoodIn wsX1_forgetTables wsX5_fill := goodIn_r _ [12, 13, 22] (by decide +kernel) (by decide +kernel)
set_option maxRecDepth 20000 in
theorem gX1_forgetTables_X5_fill : GoodIn wsX1_forgetTables (wsV RX1 49 RX5 yX5_fill wsX5_fill) := goodIn_app (goodIn_of _ (by decide +kernel)) ggX1_forgetTables_X5_fill
theorem dX1_forgetTables_0 : decode cX1_forgetTables 0 = .ok (.aload_n 0, 1) := by decide +kernel
theorem dX1_forgetTables_1 : decode cX1_forgetTables 1 = .ok (.getfield 14, 3) := by decide +kernel
theorem dX1_forgetTables_4 : decode cX1_forgetTables 4 = .ok (.iconst 1, 1) := by decide +kernel
theorem dX1_forgetTables_5 : decode cX1_forgetTables 5 = .ok (.invokevirtual 49, 3) := by decide +kernel
theorem dX1_forgetTables_8 : decode cX1_forgetTables 8 = .ok (.aload_n 0, 1) := by decide +kernel
theorem dX1_forgetTables_9 : decode cX1_forgetTables 9 = .ok (.getfield 20, 3) := by decide +kernel
theorem dX1_forgetTables_12 : decode cX1_forgetTables 12 = .ok (.iconst 1, 1) := by decide +kernel
theorem dX1_forgetTables_13 : decode cX1_forgetTables 13 = .ok (.invokevirtual 49, 3) := by decide +kernel
theorem dX1_forgetTables_16 : decode cX1_forgetTables 16 = .ok (.aload_n 0, 1) := by decide +kernel
theorem dX1_forgetTables_17 : decode cX1_forgetTables 17 = .ok (.getfield 23, 3) := by decide +kernel
theorem dX1_forgetTables_20 : decode cX1_forgetTables 20 = .ok (.iconst 1, 1) := by decide +kernel
theorem dX1_forgetTables_21 : decode cX1_forgetTables 21 = .ok (.invokevirtual 49, 3) := by decide +kernel
theorem dX1_forgetTables_24 : decode cX1_forgetTables 24 = .ok (.aload_n 0, 1) := by decide +kernel
theorem dX1_forgetTables_25 : decode cX1_forgetTables 25 = .ok (.getfield 26, 3) := by decide +kernel
theorem dX1_forgetTables_28 : decode cX1_forgetTables 28 = .ok (.iconst (-1), 1) := by decide +kernel
theorem dX1_forgetTables_29 : decode cX1_forgetTables 29 = .ok (.invokevirtual 49, 3) := by decide +kernel
theorem dX1_forgetTables_32 : decode cX1_forgetTables 32 = .ok (.aload_n 0, 1) := by decide +kernel
theorem dX1_forgetTables_33 : decode cX1_forgetTables 33 = .ok (.getfield 29, 3) := by decide +kernel
theorem dX1_forgetTables_36 : decode cX1_forgetTables 36 = .ok (.iconst 5, 1) := by decide +kernel
theorem dX1_forgetTables_37 : decode cX1_forgetTables 37 = .ok (.invokevirtual 49, 3) := by decide +kernel
theorem dX1_forgetTables_40 : decode cX1_forgetTables 40 = .ok (.aload_n 0, 1) := by decide +kernel
theorem dX1_forgetTables_41 : decode cX1_forgetTables 41 = .ok (.getfield 32, 3) := by decide +kernel
theorem dX1_forgetTables_44 : decode cX1_forgetTables 44 = .ok (.iconst 0, 1) := by decide +kernel
theorem dX1_forgetTables_45 : decode cX1_forgetTables 45 = .ok (.invokevirtual 49, 3) := by decide +kernel
theorem dX1_forgetTables_48 : decode cX1_forgetTables 48 = .ok (.aload_n 0, 1) := by decide +kernel
theorem dX1_forgetTables_49 : decode cX1_forgetTables 49 = .ok (.iconst 0, 1) := by decide +kernel
theorem dX1_forgetTables_50 : decode cX1_forgetTables 50 = .ok (.putfield 42, 3) := by decide +kernel
theorem dX1_forgetTables_53 : decode cX1_forgetTables 53 = .ok (.return_, 1) := by decide +kernel
theorem dX1_history_0 : decode cX1_history 0 = .ok (.aload_n 0, 1) := by decide +kernel
theorem dX1_history_1 : decode cX1_history 1 = .ok (.getfield 42, 3) := by decide +kernel
theorem dX1_history_4 : decode cX1_history 4 = .ok (.ireturn, 1) := by decide +kernel
theorem dX1_setHistory_0 : decode cX1_setHistory 0 = .ok (.aload_n 0, 1) := by decide +kernel
theorem dX1_setHistory_1 : decode cX1_setHistory 1 = .ok (.iload_n 1, 1) := by decide +kernel
theorem dX1_setHistory_2 : decode cX1_setHistory 2 = .ok (.putfield 42, 3) := by decide +kernel
theorem dX1_setHistory_5 : decode cX1_setHistory 5 = .ok (.return_, 1) := by decide +kernel
theorem dX1_returns_0 : decode cX1_returns 0 = .ok (.aload_n 0, 1) := by decide +kernel
theorem dX1_returns_1 : decode cX1_returns 1 = .ok (.getfield 38, 3) := by decide +kernel
theorem dX1_returns_4 : decode cX1_returns 4 = .ok (.areturn, 1) := by decide +kernel
set_option maxRecDepth 20000 in
theorem ggX1_cell_X2_get : GoodIn wsX1_cell wsX2_get := goodIn_r _ [7, 8, 9, 10, 11, 6, 12, 13, 43, 44] (by decide +kernel) (by decide +kernel)
set_option maxRecDepth 20000 in
theorem gX1_cell_X2_get : GoodIn wsX1_cell (wsV RX1 52 RX2 yX2_get wsX2_get) := goodIn_app (goodIn_of _ (by decide +kernel)) ggX1_cell_X2_get
set_option maxRecDepth 20000 in
theorem ggX1_cell_X2_size : GoodIn wsX1_cell wsX2_size := goodIn_r _ [17, 13, 43, 44] (by decide +kernel) (by decide +kernel)
set_option maxRecDepth 20000 in
theorem gX1_cell_X2_size : GoodIn wsX1_cell (wsV RX1 56 RX2 yX2_size wsX2_size) := goodIn_app (goodIn_of _ (by decide +kernel)) ggX1_cell_X2_size
set_option maxRecDepth 20000 in
theorem ggX1_cell_X1_row : GoodIn wsX1_cell wsX1_row := goodIn_r _ [22, 23, 24, 25, 26, 27, 28, 35, 36, 37, 38, 39, 40, 41, 42] (by decide +kernel) (by decide +kernel)
set_option maxRecDepth 20000 in
theorem gX1_cell_X1_row : GoodIn wsX1_cell (wsV RX1 60 RX1 yX1_row wsX1_row) := goodIn_app (goodIn_of _ (by decide +kernel)) ggX1_cell_X1_row
set_option maxRecDepth 20000 in
theorem ggX1_cell_X5_get : GoodIn wsX1_cell wsX5_get := goodIn_r _ [33, 34, 45] (by decide +kernel) (by decide +kernel)
set_option maxRecDepth 20000 in
theorem gX1_cell_X5_get : GoodIn wsX1_cell (wsV RX1 64 RX5 yX5_get wsX5_get) := goodIn_app (goodIn_of _ (by decide +kernel)) ggX1_cell_X5_get
theorem dX1_cell_0 : decode cX1_cell 0 = .ok (.iload_n 1, 1) := by decide +kernel
theorem dX1_cell_1 : decode cX1_cell 1 = .ok (.tableswitch 49 6 8 #[27, 32, 41], 27) := by decide +kernel
theorem dX1_cell_28 : decode cX1_cell 28 = .ok (.aload_n 0, 1) := by decide +kernel
theorem dX1_cell_29 : decode cX1_cell 29 = .ok (.getfield 42, 3) := by decide +kernel
theorem dX1_cell_32 : decode cX1_cell 32 = .ok (.ireturn, 1) := by decide +kernel
theorem dX1_cell_33 : decode cX1_cell 33 = .ok (.aload_n 0, 1) := by decide +kernel
theorem dX1_cell_34 : decode cX1_cell 34 = .ok (.getfield 38, 3) := by decide +kernel
theorem dX1_cell_37 : decode cX1_cell 37 = .ok (.iload_n 2, 1) := by decide +kernel
theorem dX1_cell_38 : decode cX1_cell 38 = .ok (.invokevirtual 52, 3) := by decide +kernel
theorem dX1_cell_41 : decode cX1_cell 41 = .ok (.ireturn, 1) := by decide +kernel
theorem dX1_cell_42 : decode cX1_cell 42 = .ok (.aload_n 0, 1) := by decide +kernel
theorem dX1_cell_43 : decode cX1_cell 43 = .ok (.getfield 38, 3) := by decide +kernel
theorem dX1_cell_46 : decode cX1_cell 46 = .ok (.invokevirtual 56, 3) := by decide +kernel
theorem dX1_cell_49 : decode cX1_cell 49 = .ok (.ireturn, 1) := by decide +kernel
theorem dX1_cell_50 : decode cX1_cell 50 = .ok (.aload_n 0, 1) := by decide +kernel
theorem dX1_cell_51 : decode cX1_cell 51 = .ok (.iload_n 1, 1) := by decide +kernel
theorem dX1_cell_52 : decode cX1_cell 52 = .ok (.invokevirtual 60, 3) := by decide +kernel
theorem dX1_cell_55 : decode cX1_cell 55 = .ok (.iload_n 2, 1) := by decide +kernel
theorem dX1_cell_56 : decode cX1_cell 56 = .ok (.invokevirtual 64, 3) := by decide +kernel
theorem dX1_cell_59 : decode cX1_cell 59 = .ok (.ireturn, 1) := by decide +kernel
set_option maxRecDepth 20000 in
theorem ggX1_setCell_X2_set : GoodIn wsX1_setCell wsX2_set := goodIn_r _ [7, 8, 9, 10, 11, 6, 12, 13, 39, 40] (by decide +kernel) (by decide +kernel)
set_option maxRecDepth 20000 in
theorem gX1_setCell_X2_set : GoodIn wsX1_setCell (wsV RX1 65 RX2 yX2_set wsX2_set) := goodIn_app (goodIn_of _ (by decide +kernel)) ggX1_setCell_X2_set
set_option maxRecDepth 20000 in
theorem ggX1_setCell_X1_row : GoodIn wsX1_setCell wsX1_row := goodIn_r _ [18, 19, 20, 21, 22, 23, 24, 31, 32, 33, 34, 35, 36, 37, 38] (by decide +kernel) (by decide +kernel)
set_option maxRecDepth 20000 in
theorem gX1_setCell_X1_row : GoodIn wsX1_setCell (wsV RX1 60 RX1 yX1_row wsX1_row) := goodIn_app (goodIn_of _ (by decide +kernel)) ggX1_setCell_X1_row
set_option maxRecDepth 20000 in
theorem ggX1_setCell_X5_set : GoodIn wsX1_setCell wsX5_set := goodIn_r _ [29, 30, 41] (by decide +kernel) (by decide +kernel)
set_option maxRecDepth 20000 in
theorem gX1_setCell_X5_set : GoodIn wsX1_setCell (wsV RX1 69 RX5 yX5_set wsX5_set) := goodIn_app (goodIn_of _ (by decide +kernel)) ggX1_setCell_X5_set
theorem dX1_setCell_0 : decode cX1_setCell 0 = .ok (.iload_n 1, 1) := by decide +kernel
theorem dX1_setCell_1 : decode cX1_setCell 1 = .ok (.bipush 7, 2) := by decide +kernel
theorem dX1_setCell_3 : decode cX1_setCell 3 = .ok (.if_icmp .ne 13, 3) := by decide +kernel
theorem dX1_setCell_6 : decode cX1_setCell 6 = .ok (.aload_n 0, 1) := by decide +kernel
theorem dX1_setCell_7 : decode cX1_setCell 7 = .ok (.getfield 38, 3) := by decide +kernel
theorem dX1_setCell_10 : decode cX1_setCell 10 = .ok (.iload_n 2, 1) := by decide +kernel
theorem dX1_setCell_11 : decode cX1_setCell 11 = .ok (.iload_n 3, 1) := by decide +kernel
theorem dX1_setCell_12 : decode cX1_setCell 12 = .ok (.invokevirtual 65, 3) := by decide +kernel
theorem dX1_setCell_15 : decode cX1_setCell 15 = .ok (.ireturn, 1) := by decide +kernel
theorem dX1_setCell_16 : decode cX1_setCell 16 = .ok (.iload_n 1, 1) := by decide +kernel
theorem dX1_setCell_17 : decode cX1_setCell 17 = .ok (.bipush 6, 2) := by decide +kernel
theorem dX1_setCell_19 : decode cX1_setCell 19 = .ok (.if_icmp .ne 17, 3) := by decide +kernel
theorem dX1_setCell_22 : decode cX1_setCell 22 = .ok (.aload_n 0, 1) := by decide +kernel
theorem dX1_setCell_23 : decode cX1_setCell 23 = .ok (.getfield 42, 3) := by decide +kernel
theorem dX1_setCell_26 : decode cX1_setCell 26 = .ok (.istore 4, 2) := by decide +kernel
theorem dX1_setCell_28 : decode cX1_setCell 28 = .ok (.aload_n 0, 1) := by decide +kernel
theorem dX1_setCell_29 : decode cX1_setCell 29 = .ok (.iload_n 3, 1) := by decide +kernel
theorem dX1_setCell_30 : decode cX1_setCell 30 = .ok (.putfield 42, 3) := by decide +kernel
theorem dX1_setCell_33 : decode cX1_setCell 33 = .ok (.iload 4, 2) := by decide +kernel
theorem dX1_setCell_35 : decode cX1_setCell 35 = .ok (.ireturn, 1) := by decide +kernel
theorem dX1_setCell_36 : decode cX1_setCell 36 = .ok (.aload_n 0, 1) := by decide +kernel
theorem dX1_setCell_37 : decode cX1_setCell 37 = .ok (.iload_n 1, 1) := by decide +kernel
theorem dX1_setCell_38 : decode cX1_setCell 38 = .ok (.invokevirtual 60, 3) := by decide +kernel
theorem dX1_setCell_41 : decode cX1_setCell 41 = .ok (.iload_n 2, 1) := by decide +kernel
theorem dX1_setCell_42 : decode cX1_setCell 42 = .ok (.iload_n 3, 1) := by decide +kernel
theorem dX1_setCell_43 : decode cX1_setCell 43 = .ok (.invokevirtual 69, 3) := by decide +kernel
theorem dX1_setCell_46 : decode cX1_setCell 46 = .ok (.ireturn, 1) := by decide +kernel
theorem dX1_row_0 : decode cX1_row 0 = .ok (.iload_n 1, 1) := by decide +kernel
theorem dX1_row_1 : decode cX1_row 1 = .ok (.tableswitch 60 0 4 #[35, 40, 45, 50, 55], 35) := by decide +kernel
theorem dX1_row_36 : decode cX1_row 36 = .ok (.aload_n 0, 1) := by decide +kernel
theorem dX1_row_37 : decode cX1_row 37 = .ok (.getfield 14, 3) := by decide +kernel
theorem dX1_row_40 : decode cX1_row 40 = .ok (.areturn, 1) := by decide +kernel
theorem dX1_row_41 : decode cX1_row 41 = .ok (.aload_n 0, 1) := by decide +kernel
theorem dX1_row_42 : decode cX1_row 42 = .ok (.getfield 20, 3) := by decide +kernel
theorem dX1_row_45 : decode cX1_row 45 = .ok (.areturn, 1) := by decide +kernel
theorem dX1_row_46 : decode cX1_row 46 = .ok (.aload_n 0, 1) := by decide +kernel
theorem dX1_row_47 : decode cX1_row 47 = .ok (.getfield 23, 3) := by decide +kernel
theorem dX1_row_50 : decode cX1_row 50 = .ok (.areturn, 1) := by decide +kernel
theorem dX1_row_51 : decode cX1_row 51 = .ok (.aload_n 0, 1) := by decide +kernel
theorem dX1_row_52 : decode cX1_row 52 = .ok (.getfield 26, 3) := by decide +kernel
theorem dX1_row_55 : decode cX1_row 55 = .ok (.areturn, 1) := by decide +kernel
theorem dX1_row_56 : decode cX1_row 56 = .ok (.aload_n 0, 1) := by decide +kernel
theorem dX1_row_57 : decode cX1_row 57 = .ok (.getfield 29, 3) := by decide +kernel
theorem dX1_row_60 : decode cX1_row 60 = .ok (.areturn, 1) := by decide +kernel
theorem dX1_row_61 : decode cX1_row 61 = .ok (.aload_n 0, 1) := by decide +kernel
theorem dX1_row_62 : decode cX1_row 62 = .ok (.getfield 32, 3) := by decide +kernel
theorem dX1_row_65 : decode cX1_row 65 = .ok (.areturn, 1) := by decide +kernel
set_option maxRecDepth 20000 in
theorem ggX1_isInTargets_X5_get : GoodIn wsX1_isInTargets wsX5_get := goodIn_r _ [6, 7, 16] (by decide +kernel) (by decide +kernel)
set_option maxRecDepth 20000 in
theorem gX1_isInTargets_X5_get : GoodIn wsX1_isInTargets (wsV RX1 64 RX5 yX5_get wsX5_get) := goodIn_app (goodIn_of _ (by decide +kernel)) ggX1_isInTargets_X5_get
theorem dX1_isInTargets_0 : decode cX1_isInTargets 0 = .ok (.aload_n 0, 1) := by decide +kernel
theorem dX1_isInTargets_1 : decode cX1_isInTargets 1 = .ok (.getfield 26, 3) := by decide +kernel
theorem dX1_isInTargets_4 : decode cX1_isInTargets 4 = .ok (.iload_n 1, 1) := by decide +kernel
theorem dX1_isInTargets_5 : decode cX1_isInTargets 5 = .ok (.bipush 8, 2) := by decide +kernel
theorem dX1_isInTargets_7 : decode cX1_isInTargets 7 = .ok (.irem, 1) := by decide +kernel
theorem dX1_isInTargets_8 : decode cX1_isInTargets 8 = .ok (.invokevirtual 64, 3) := by decide +kernel
theorem dX1_isInTargets_11 : decode cX1_isInTargets 11 = .ok (.iload_n 1, 1) := by decide +kernel
theorem dX1_isInTargets_12 : decode cX1_isInTargets 12 = .ok (.if_icmp .ne 7, 3) := by decide +kernel
theorem dX1_isInTargets_15 : decode cX1_isInTargets 15 = .ok (.iconst 1, 1) := by decide +kernel
theorem dX1_isInTargets_16 : decode cX1_isInTargets 16 = .ok (.goto 4, 3) := by decide +kernel
theorem dX1_isInTargets_19 : decode cX1_isInTargets 19 = .ok (.iconst 0, 1) := by decide +kernel
theorem dX1_isInTargets_20 : decode cX1_isInTargets 20 = .ok (.ireturn, 1) := by decide +kernel
set_option maxRecDepth 20000 in
theorem ggX1_guess_X1_isInTargets : GoodIn wsX1_guess wsX1_isInTargets := goodIn_r _ [8, 9, 10, 11, 12, 13, 14, 15, 64, 65, 66, 67, 68, 69, 70, 71, 72] (by decide +kernel) (by decide +kernel)
set_option maxRecDepth 20000 in
theorem gX1_guess_X1_isInTargets : GoodIn wsX1_guess (wsV RX1 70 RX1 yX1_isInTargets wsX1_isInTargets) := goodIn_app (goodIn_of _ (by decide +kernel)) ggX1_guess_X1_isInTargets
set_option maxRecDepth 20000 in
theorem ggX1_guess_X5_get : GoodIn wsX1_guess wsX5_get := goodIn_r _ [14, 15, 72] (by decide +kernel) (by decide +kernel)
set_option maxRecDepth 20000 in
theorem gX1_guess_X5_get : GoodIn wsX1_guess (wsV RX1 64 RX5 yX5_get wsX5_get) := goodIn_app (goodIn_of _ (by decide +kernel)) ggX1_guess_X5_get
set_option maxRecDepth 20000 in
theorem ggX1_guess_X6_isBranch : GoodIn wsX1_guess wsX6_isBranch := goodIn_r _ [18] (by decide +kernel) (by decide +kernel)
set_option maxRecDepth 20000 in
theorem gX1_guess_X6_isBranch_n74 : GoodIn wsX1_guess (wsX6_isBranch) := ggX1_guess_X6_isBranch
set_option maxRecDepth 20000 in
theorem ggX1_guess_X1_seemsToTurn : GoodIn wsX1_guess wsX1_seemsToTurn := goodIn_r _ [22, 23, 24, 25, 26, 27, 28, 7, 29, 10, 11, 12, 13, 14, 15, 30, 31, 32, 64, 65, 66, 67, 68, 69, 70, 71, 72] (by decide +kernel) (by decide +kernel)
set_option maxRecDepth 20000 in
theorem gX1_guess_X1_seemsToTurn : GoodIn wsX1_guess (wsV RX1 77 RX1 yX1_seemsToTurn wsX1_seemsToTurn) := goodIn_app (goodIn_of _ (by decide +kernel)) ggX1_guess_X1_seemsToTurn
set_option maxRecDepth 20000 in
theorem ggX1_guess_X1_noteBit : GoodIn wsX1_guess wsX1_noteBit := goodIn_r _ [36, 25, 64, 65, 66, 67, 68, 69, 70, 71] (by decide +kernel) (by decide +kernel)
set_option maxRecDepth 20000 in
theorem gX1_guess_X1_noteBit : GoodIn wsX1_guess (wsV RX1 81 RX1 yX1_noteBit wsX1_noteBit) := goodIn_app (goodIn_of _ (by decide +kernel)) ggX1_guess_X1_noteBit
set_option maxRecDepth 20000 in
theorem ggX1_guess_X2_pop : GoodIn wsX1_guess wsX2_pop := goodIn_r _ [41, 42, 43, 44, 45, 46, 47, 48, 49, 40, 50, 51, 52, 53, 54, 55, 73, 74] (by decide +kernel) (by decide +kernel)
set_option maxRecDepth 20000 in
theorem gX1_guess_X2_pop : GoodIn wsX1_guess (wsV RX1 85 RX2 yX2_pop wsX2_pop) := goodIn_app (goodIn_of _ (by decide +kernel)) ggX1_guess_X2_pop
set_option maxRecDepth 20000 in
theorem ggX1_guess_X2_pushEldestOut : GoodIn wsX1_guess wsX2_pushEldestOut := goodIn_r _ [59, 42, 51, 43, 44, 45, 46, 60, 61, 62, 40, 63, 73, 74] (by decide +kernel) (by decide +kernel)
set_option maxRecDepth 20000 in
theorem gX1_guess_X2_pushEldestOut : GoodIn wsX1_guess (wsV RX1 88 RX2 yX2_pushEldestOut wsX2_pushEldestOut) := goodIn_app (goodIn_of _ (by decide +kernel)) ggX1_guess_X2_pushEldestOut
theorem dX1_guess_0 : decode cX1_guess 0 = .ok (.aload_n 0, 1) := by decide +kernel
theorem dX1_guess_1 : decode cX1_guess 1 = .ok (.iload_n 1, 1) := by decide +kernel
theorem dX1_guess_2 : decode cX1_guess 2 = .ok (.invokevirtual 70, 3) := by decide +kernel
theorem dX1_guess_5 : decode cX1_guess 5 = .ok (.ifCond .ne 7, 3) := by decide +kernel
theorem dX1_guess_8 : decode cX1_guess 8 = .ok (.iload_n 1, 1) := by decide +kernel
theorem dX1_guess_9 : decode cX1_guess 9 = .ok (.iconst 1, 1) := by decide +kernel
theorem dX1_guess_10 : decode cX1_guess 10 = .ok (.iadd, 1) := by decide +kernel
theorem dX1_guess_11 : decode cX1_guess 11 = .ok (.ireturn, 1) := by decide +kernel
theorem dX1_guess_12 : decode cX1_guess 12 = .ok (.aload_n 0, 1) := by decide +kernel
theorem dX1_guess_13 : decode cX1_guess 13 = .ok (.getfield 32, 3) := by decide +kernel
theorem dX1_guess_16 : decode cX1_guess 16 = .ok (.iload_n 1, 1) := by decide +kernel
theorem dX1_guess_17 : decode cX1_guess 17 = .ok (.bipush 8, 2) := by decide +kernel
theorem dX1_guess_19 : decode cX1_guess 19 = .ok (.irem, 1) := by decide +kernel
theorem dX1_guess_20 : decode cX1_guess 20 = .ok (.invokevirtual 64, 3) := by decide +kernel
theorem dX1_guess_23 : decode cX1_guess 23 = .ok (.istore_n 3, 1) := by decide +kernel
theorem dX1_guess_24 : decode cX1_guess 24 = .ok (.aload_n 0, 1) := by decide +kernel
theorem dX1_guess_25 : decode cX1_guess 25 = .ok (.getfield 29, 3) := by decide +kernel
theorem dX1_guess_28 : decode cX1_guess 28 = .ok (.iload_n 1, 1) := by decide +kernel
theorem dX1_guess_29 : decode cX1_guess 29 = .ok (.bipush 8, 2) := by decide +kernel
theorem dX1_guess_31 : decode cX1_guess 31 = .ok (.irem, 1) := by decide +kernel
theorem dX1_guess_32 : decode cX1_guess 32 = .ok (.invokevirtual 64, 3) := by decide +kernel
theorem dX1_guess_35 : decode cX1_guess 35 = .ok (.istore 4, 2) := by decide +kernel
theorem dX1_guess_37 : decode cX1_guess 37 = .ok (.iload 4, 2) := by decide +kernel
theorem dX1_guess_39 : decode cX1_guess 39 = .ok (.invokestatic 74, 3) := by decide +kernel
theorem dX1_guess_42 : decode cX1_guess 42 = .ok (.ifCond .eq 30, 3) := by decide +kernel
theorem dX1_guess_45 : decode cX1_guess 45 = .ok (.aload_n 0, 1) := by decide +kernel
theorem dX1_guess_46 : decode cX1_guess 46 = .ok (.iload_n 1, 1) := by decide +kernel
theorem dX1_guess_47 : decode cX1_guess 47 = .ok (.iload_n 2, 1) := by decide +kernel
theorem dX1_guess_48 : decode cX1_guess 48 = .ok (.invokevirtual 77, 3) := by decide +kernel
theorem dX1_guess_51 : decode cX1_guess 51 = .ok (.istore 5, 2) := by decide +kernel
theorem dX1_guess_53 : decode cX1_guess 53 = .ok (.aload_n 0, 1) := by decide +kernel
theorem dX1_guess_54 : decode cX1_guess 54 = .ok (.iload 5, 2) := by decide +kernel
theorem dX1_guess_56 : decode cX1_guess 56 = .ok (.invokevirtual 81, 3) := by decide +kernel
theorem dX1_guess_59 : decode cX1_guess 59 = .ok (.iload 5, 2) := by decide +kernel
theorem dX1_guess_61 : decode cX1_guess 61 = .ok (.ifCond .eq 7, 3) := by decide +kernel
theorem dX1_guess_64 : decode cX1_guess 64 = .ok (.iload_n 3, 1) := by decide +kernel
theorem dX1_guess_65 : decode cX1_guess 65 = .ok (.goto 6, 3) := by decide +kernel
theorem dX1_guess_68 : decode cX1_guess 68 = .ok (.iload_n 1, 1) := by decide +kernel
theorem dX1_guess_69 : decode cX1_guess 69 = .ok (.iconst 1, 1) := by decide +kernel
theorem dX1_guess_70 : decode cX1_guess 70 = .ok (.iadd, 1) := by decide +kernel
theorem dX1_guess_71 : decode cX1_guess 71 = .ok (.ireturn, 1) := by decide +kernel
theorem dX1_guess_72 : decode cX1_guess 72 = .ok (.iload 4, 2) := by decide +kernel
theorem dX1_guess_74 : decode cX1_guess 74 = .ok (.bipush 9, 2) := by decide +kernel
theorem dX1_guess_76 : decode cX1_guess 76 = .ok (.if_icmp .ne 27, 3) := by decide +kernel
theorem dX1_guess_79 : decode cX1_guess 79 = .ok (.aload_n 0, 1) := by decide +kernel
theorem dX1_guess_80 : decode cX1_guess 80 = .ok (.getfield 38, 3) := by decide +kernel
theorem dX1_guess_83 : decode cX1_guess 83 = .ok (.invokevirtual 85, 3) := by decide +kernel
theorem dX1_guess_86 : decode cX1_guess 86 = .ok (.istore 5, 2) := by decide +kernel
theorem dX1_guess_88 : decode cX1_guess 88 = .ok (.iload 5, 2) := by decide +kernel
theorem dX1_guess_90 : decode cX1_guess 90 = .ok (.iconst (-1), 1) := by decide +kernel
theorem dX1_guess_91 : decode cX1_guess 91 = .ok (.if_icmp .ne 9, 3) := by decide +kernel
theorem dX1_guess_94 : decode cX1_guess 94 = .ok (.iload_n 1, 1) := by decide +kernel
theorem dX1_guess_95 : decode cX1_guess 95 = .ok (.iconst 1, 1) := by decide +kernel
theorem dX1_guess_96 : decode cX1_guess 96 = .ok (.iadd, 1) := by decide +kernel
theorem dX1_guess_97 : decode cX1_guess 97 = .ok (.goto 5, 3) := by decide +kernel
theorem dX1_guess_100 : decode cX1_guess 100 = .ok (.iload 5, 2) := by decide +kernel
theorem dX1_guess_102 : decode cX1_guess 102 = .ok (.ireturn, 1) := by decide +kernel
theorem dX1_guess_103 : decode cX1_guess 103 = .ok (.iload 4, 2) := by decide +kernel
theorem dX1_guess_105 : decode cX1_guess 105 = .ok (.bipush 8, 2) := by decide +kernel
theorem dX1_guess_107 : decode cX1_guess 107 = .ok (.if_icmp .ne 13, 3) := by decide +kernel
theorem dX1_guess_110 : decode cX1_guess 110 = .ok (.aload_n 0, 1) := by decide +kernel
theorem dX1_guess_111 : decode cX1_guess 111 = .ok (.getfield 38, 3) := by decide +kernel
theorem dX1_guess_114 : decode cX1_guess 114 = .ok (.iload_n 1, 1) := by decide +kernel
theorem dX1_guess_115 : decode cX1_guess 115 = .ok (.iconst 1, 1) := by decide +kernel
theorem dX1_guess_116 : decode cX1_guess 116 = .ok (.iadd, 1) := by decide +kernel
theorem dX1_guess_117 : decode cX1_guess 117 = .ok (.invokevirtual 88, 3) := by decide +kernel
theorem dX1_guess_120 : decode cX1_guess 120 = .ok (.iload_n 3, 1) := by decide +kernel
theorem dX1_guess_121 : decode cX1_guess 121 = .ok (.ireturn, 1) := by decide +kernel
set_option maxRecDepth 20000 in
theorem ggX1_seemsToTurn_X1_tellsTurn : GoodIn wsX1_seemsToTurn wsX1_tellsTurn := goodIn_r _ [8, 9, 10, 11, 12, 13, 14, 26] (by decide +kernel) (by decide +kernel)
set_option maxRecDepth 20000 in
theorem gX1_seemsToTurn_X1_tellsTurn : GoodIn wsX1_seemsToTurn (va_wsS RX1 91 yX1_tellsTurn wsX1_tellsTurn) := goodIn_app (goodIn_of _ (by decide +kernel)) ggX1_seemsToTurn_X1_tellsTurn
set_option maxRecDepth 20000 in
theorem ggX1_seemsToTurn_X1_mixedPlace : GoodIn wsX1_seemsToTurn wsX1_mixedPlace := goodIn_r _ [17] (by decide +kernel) (by decide +kernel)
set_option maxRecDepth 20000 in
theorem gX1_seemsToTurn_X1_mixedPlace : GoodIn wsX1_seemsToTurn (va_wsS RX1 95 yX1_mixedPlace wsX1_mixedPlace) := goodIn_app (goodIn_of _ (by decide +kernel)) ggX1_seemsToTurn_X1_mixedPlace
theorem dX1_seemsToTurn_0 : decode cX1_seemsToTurn 0 = .ok (.iload_n 2, 1) := by decide +kernel
theorem dX1_seemsToTurn_1 : decode cX1_seemsToTurn 1 = .ok (.tableswitch 99 1 3 #[27, 39, 55], 27) := by decide +kernel
theorem dX1_seemsToTurn_28 : decode cX1_seemsToTurn 28 = .ok (.aload_n 0, 1) := by decide +kernel
theorem dX1_seemsToTurn_29 : decode cX1_seemsToTurn 29 = .ok (.getfield 14, 3) := by decide +kernel
theorem dX1_seemsToTurn_32 : decode cX1_seemsToTurn 32 = .ok (.iload_n 1, 1) := by decide +kernel
theorem dX1_seemsToTurn_33 : decode cX1_seemsToTurn 33 = .ok (.bipush 16, 2) := by decide +kernel
theorem dX1_seemsToTurn_35 : decode cX1_seemsToTurn 35 = .ok (.irem, 1) := by decide +kernel
theorem dX1_seemsToTurn_36 : decode cX1_seemsToTurn 36 = .ok (.invokestatic 91, 3) := by decide +kernel
theorem dX1_seemsToTurn_39 : decode cX1_seemsToTurn 39 = .ok (.ireturn, 1) := by decide +kernel
theorem dX1_seemsToTurn_40 : decode cX1_seemsToTurn 40 = .ok (.aload_n 0, 1) := by decide +kernel
theorem dX1_seemsToTurn_41 : decode cX1_seemsToTurn 41 = .ok (.getfield 20, 3) := by decide +kernel
theorem dX1_seemsToTurn_44 : decode cX1_seemsToTurn 44 = .ok (.iload_n 1, 1) := by decide +kernel
theorem dX1_seemsToTurn_45 : decode cX1_seemsToTurn 45 = .ok (.aload_n 0, 1) := by decide +kernel
theorem dX1_seemsToTurn_46 : decode cX1_seemsToTurn 46 = .ok (.getfield 42, 3) := by decide +kernel
theorem dX1_seemsToTurn_49 : decode cX1_seemsToTurn 49 = .ok (.invokestatic 95, 3) := by decide +kernel
theorem dX1_seemsToTurn_52 : decode cX1_seemsToTurn 52 = .ok (.invokestatic 91, 3) := by decide +kernel
theorem dX1_seemsToTurn_55 : decode cX1_seemsToTurn 55 = .ok (.ireturn, 1) := by decide +kernel
theorem dX1_seemsToTurn_56 : decode cX1_seemsToTurn 56 = .ok (.aload_n 0, 1) := by decide +kernel
theorem dX1_seemsToTurn_57 : decode cX1_seemsToTurn 57 = .ok (.getfield 23, 3) := by decide +kernel
theorem dX1_seemsToTurn_60 : decode cX1_seemsToTurn 60 = .ok (.iload_n 1, 1) := by decide +kernel
theorem dX1_seemsToTurn_61 : decode cX1_seemsToTurn 61 = .ok (.bipush 16, 2) := by decide +kernel
theorem dX1_seemsToTurn_63 : decode cX1_seemsToTurn 63 = .ok (.irem, 1) := by decide +kernel
theorem dX1_seemsToTurn_64 : decode cX1_seemsToTurn 64 = .ok (.invokestatic 91, 3) := by decide +kernel
theorem dX1_seemsToTurn_67 : decode cX1_seemsToTurn 67 = .ok (.ifCond .eq 21, 3) := by decide +kernel
theorem dX1_seemsToTurn_70 : decode cX1_seemsToTurn 70 = .ok (.aload_n 0, 1) := by decide +kernel
theorem dX1_seemsToTurn_71 : decode cX1_seemsToTurn 71 = .ok (.getfield 20, 3) := by decide +kernel
theorem dX1_seemsToTurn_74 : decode cX1_seemsToTurn 74 = .ok (.iload_n 1, 1) := by decide +kernel
theorem dX1_seemsToTurn_75 : decode cX1_seemsToTurn 75 = .ok (.aload_n 0, 1) := by decide +kernel
theorem dX1_seemsToTurn_76 : decode cX1_seemsToTurn 76 = .ok (.getfield 42, 3) := by decide +kernel
theorem dX1_seemsToTurn_79 : decode cX1_seemsToTurn 79 = .ok (.invokestatic 95, 3) := by decide +kernel
theorem dX1_seemsToTurn_82 : decode cX1_seemsToTurn 82 = .ok (.invokestatic 91, 3) := by decide +kernel
theorem dX1_seemsToTurn_85 : decode cX1_seemsToTurn 85 = .ok (.goto 14, 3) := by decide +kernel
theorem dX1_seemsToTurn_88 : decode cX1_seemsToTurn 88 = .ok (.aload_n 0, 1) := by decide +kernel
theorem dX1_seemsToTurn_89 : decode cX1_seemsToTurn 89 = .ok (.getfield 14, 3) := by decide +kernel
theorem dX1_seemsToTurn_92 : decode cX1_seemsToTurn 92 = .ok (.iload_n 1, 1) := by decide +kernel
theorem dX1_seemsToTurn_93 : decode cX1_seemsToTurn 93 = .ok (.bipush 16, 2) := by decide +kernel
theorem dX1_seemsToTurn_95 : decode cX1_seemsToTurn 95 = .ok (.irem, 1) := by decide +kernel
theorem dX1_seemsToTurn_96 : decode cX1_seemsToTurn 96 = .ok (.invokestatic 91, 3) := by decide +kernel
theorem dX1_seemsToTurn_99 : decode cX1_seemsToTurn 99 = .ok (.ireturn, 1) := by decide +kernel
theorem dX1_seemsToTurn_100 : decode cX1_seemsToTurn 100 = .ok (.iconst 0, 1) := by decide +kernel
theorem dX1_seemsToTurn_101 : decode cX1_seemsToTurn 101 = .ok (.ireturn, 1) := by decide +kernel
theorem dX1_mixedPlace_0 : decode cX1_mixedPlace 0 = .ok (.iload_n 0, 1) := by decide +kernel
theorem dX1_mixedPlace_1 : decode cX1_mixedPlace 1 = .ok (.bipush 16, 2) := by decide +kernel
theorem dX1_mixedPlace_3 : decode cX1_mixedPlace 3 = .ok (.irem, 1) := by decide +kernel
theorem dX1_mixedPlace_4 : decode cX1_mixedPlace 4 = .ok (.iload_n 1, 1) := by decide +kernel
theorem dX1_mixedPlace_5 : decode cX1_mixedPlace 5 = .ok (.ixor, 1) := by decide +kernel
theorem dX1_mixedPlace_6 : decode cX1_mixedPlace 6 = .ok (.ireturn, 1) := by decide +kernel
set_option maxRecDepth 20000 in
theorem ggX1_tellsTurn_X5_get : GoodIn wsX1_tellsTurn wsX5_get := goodIn_r _ [5, 6, 7] (by decide +kernel) (by decide +kernel)
set_option maxRecDepth 20000 in
theorem gX1_tellsTurn_X5_get : GoodIn wsX1_tellsTurn (wsV RX1 64 RX5 yX5_get wsX5_get) := goodIn_app (goodIn_of _ (by decide +kernel)) ggX1_tellsTurn_X5_get
theorem dX1_tellsTurn_0 : decode cX1_tellsTurn 0 = .ok (.aload_n 0, 1) := by decide +kernel
theorem dX1_tellsTurn_1 : decode cX1_tellsTurn 1 = .ok (.iload_n 1, 1) := by decide +kernel
theorem dX1_tellsTurn_2 : decode cX1_tellsTurn 2 = .ok (.invokevirtual 64, 3) := by decide +kernel
theorem dX1_tellsTurn_5 : decode cX1_tellsTurn 5 = .ok (.iconst 2, 1) := by decide +kernel
theorem dX1_tellsTurn_6 : decode cX1_tellsTurn 6 = .ok (.if_icmp .lt 7, 3) := by decide +kernel
theorem dX1_tellsTurn_9 : decode cX1_tellsTurn 9 = .ok (.iconst 1, 1) := by decide +kernel
theorem dX1_tellsTurn_10 : decode cX1_tellsTurn 10 = .ok (.goto 4, 3) := by decide +kernel
theorem dX1_tellsTurn_13 : decode cX1_tellsTurn 13 = .ok (.iconst 0, 1) := by decide +kernel
theorem dX1_tellsTurn_14 : decode cX1_tellsTurn 14 = .ok (.ireturn, 1) := by decide +kernel
set_option maxRecDepth 20000 in
theorem ggX1_step_X5_get : GoodIn wsX1_step wsX5_get := goodIn_r _ [12, 13, 18] (by decide +kernel) (by decide +kernel)
set_option maxRecDepth 20000 in
theorem gX1_step_X5_get : GoodIn wsX1_step (wsV RX1 64 RX5 yX5_get wsX5_get) := goodIn_app (goodIn_of _ (by decide +kernel)) ggX1_step_X5_get
set_option maxRecDepth 20000 in
theorem ggX1_step_X5_set : GoodIn wsX1_step wsX5_set := goodIn_r _ [17, 13, 18] (by decide +kernel) (by decide +kernel)
set_option maxRecDepth 20000 in
theorem gX1_step_X5_set : GoodIn wsX1_step (wsV RX1 69 RX5 yX5_set wsX5_set) := goodIn_app (goodIn_of _ (by decide +kernel)) ggX1_step_X5_set
theorem dX1_step_0 : decode cX1_step 0 = .ok (.aload_n 0, 1) := by decide +kernel
theorem dX1_step_1 : decode cX1_step 1 = .ok (.iload_n 1, 1) := by decide +kernel
theorem dX1_step_2 : decode cX1_step 2 = .ok (.invokevirtual 64, 3) := by decide +kernel
theorem dX1_step_5 : decode cX1_step 5 = .ok (.iload_n 2, 1) := by decide +kernel
theorem dX1_step_6 : decode cX1_step 6 = .ok (.ifCond .eq 7, 3) := by decide +kernel
theorem dX1_step_9 : decode cX1_step 9 = .ok (.iconst 1, 1) := by decide +kernel
theorem dX1_step_10 : decode cX1_step 10 = .ok (.goto 4, 3) := by decide +kernel
theorem dX1_step_13 : decode cX1_step 13 = .ok (.iconst (-1), 1) := by decide +kernel
theorem dX1_step_14 : decode cX1_step 14 = .ok (.iadd, 1) := by decide +kernel
theorem dX1_step_15 : decode cX1_step 15 = .ok (.istore_n 3, 1) := by decide +kernel
theorem dX1_step_16 : decode cX1_step 16 = .ok (.aload_n 0, 1) := by decide +kernel
theorem dX1_step_17 : decode cX1_step 17 = .ok (.iload_n 1, 1) := by decide +kernel
theorem dX1_step_18 : decode cX1_step 18 = .ok (.iconst 0, 1) := by decide +kernel
theorem dX1_step_19 : decode cX1_step 19 = .ok (.iconst 3, 1) := by decide +kernel
theorem dX1_step_20 : decode cX1_step 20 = .ok (.iload_n 3, 1) := by decide +kernel
theorem dX1_step_21 : decode cX1_step 21 = .ok (.invokestatic 98, 3) := by decide +kernel
theorem dX1_step_24 : decode cX1_step 24 = .ok (.invokestatic 103, 3) := by decide +kernel
theorem dX1_step_27 : decode cX1_step 27 = .ok (.invokevirtual 69, 3) := by decide +kernel
theorem dX1_step_30 : decode cX1_step 30 = .ok (.pop, 1) := by decide +kernel
theorem dX1_step_31 : decode cX1_step 31 = .ok (.return_, 1) := by decide +kernel
theorem dX1_noteBit_0 : decode cX1_noteBit 0 = .ok (.aload_n 0, 1) := by decide +kernel
theorem dX1_noteBit_1 : decode cX1_noteBit 1 = .ok (.aload_n 0, 1) := by decide +kernel
theorem dX1_noteBit_2 : decode cX1_noteBit 2 = .ok (.getfield 42, 3) := by decide +kernel
theorem dX1_noteBit_5 : decode cX1_noteBit 5 = .ok (.iconst 1, 1) := by decide +kernel
theorem dX1_noteBit_6 : decode cX1_noteBit 6 = .ok (.ishl, 1) := by decide +kernel
theorem dX1_noteBit_7 : decode cX1_noteBit 7 = .ok (.iload_n 1, 1) := by decide +kernel
theorem dX1_noteBit_8 : decode cX1_noteBit 8 = .ok (.ifCond .eq 7, 3) := by decide +kernel
theorem dX1_noteBit_11 : decode cX1_noteBit 11 = .ok (.iconst 1, 1) := by decide +kernel
theorem dX1_noteBit_12 : decode cX1_noteBit 12 = .ok (.goto 4, 3) := by decide +kernel
theorem dX1_noteBit_15 : decode cX1_noteBit 15 = .ok (.iconst 0, 1) := by decide +kernel
theorem dX1_noteBit_16 : decode cX1_noteBit 16 = .ok (.ior, 1) := by decide +kernel
theorem dX1_noteBit_17 : decode cX1_noteBit 17 = .ok (.bipush 15, 2) := by decide +kernel
theorem dX1_noteBit_19 : decode cX1_noteBit 19 = .ok (.iand, 1) := by decide +kernel
theorem dX1_noteBit_20 : decode cX1_noteBit 20 = .ok (.putfield 42, 3) := by decide +kernel
theorem dX1_noteBit_23 : decode cX1_noteBit 23 = .ok (.return_, 1) := by decide +kernel
set_option maxRecDepth 20000 in
theorem ggX1_learn_X1_mixedPlace : GoodIn wsX1_learn wsX1_mixedPlace := goodIn_r _ [7] (by decide +kernel) (by decide +kernel)
set_option maxRecDepth 20000 in
theorem gX1_learn_X1_mixedPlace : GoodIn wsX1_learn (va_wsS RX1 95 yX1_mixedPlace wsX1_mixedPlace) := goodIn_app (goodIn_of _ (by decide +kernel)) ggX1_learn_X1_mixedPlace
set_option maxRecDepth 20000 in
theorem ggX1_learn_X1_tellsTurn : GoodIn wsX1_learn wsX1_tellsTurn := goodIn_r _ [10, 11, 12, 13, 14, 15, 16, 39] (by decide +kernel) (by decide +kernel)
set_option maxRecDepth 20000 in
theorem gX1_learn_X1_tellsTurn : GoodIn wsX1_learn (va_wsS RX1 91 yX1_tellsTurn wsX1_tellsTurn) := goodIn_app (goodIn_of _ (by decide +kernel)) ggX1_learn_X1_tellsTurn
set_option maxRecDepth 20000 in
theorem ggX1_learn_X1_step : GoodIn wsX1_learn wsX1_step := goodIn_r _ [19, 20, 21, 22, 23, 24, 25, 26, 11, 12, 13, 14, 15, 16, 27, 28, 29, 30, 39] (by decide +kernel) (by decide +kernel)
set_option maxRecDepth 20000 in
theorem gX1_learn_X1_step : GoodIn wsX1_learn (va_wsS RX1 106 yX1_step wsX1_step) := goodIn_app (goodIn_of _ (by decide +kernel)) ggX1_learn_X1_step
theorem dX1_learn_0 : decode cX1_learn 0 = .ok (.iload_n 1, 1) := by decide +kernel
theorem dX1_learn_1 : decode cX1_learn 1 = .ok (.bipush 16, 2) := by decide +kernel
theorem dX1_learn_3 : decode cX1_learn 3 = .ok (.irem, 1) := by decide +kernel
theorem dX1_learn_4 : decode cX1_learn 4 = .ok (.istore 4, 2) := by decide +kernel
theorem dX1_learn_6 : decode cX1_learn 6 = .ok (.iload_n 1, 1) := by decide +kernel
theorem dX1_learn_7 : decode cX1_learn 7 = .ok (.iload_n 2, 1) := by decide +kernel
theorem dX1_learn_8 : decode cX1_learn 8 = .ok (.invokestatic 95, 3) := by decide +kernel
theorem dX1_learn_11 : decode cX1_learn 11 = .ok (.istore 5, 2) := by decide +kernel
theorem dX1_learn_13 : decode cX1_learn 13 = .ok (.aload_n 0, 1) := by decide +kernel
theorem dX1_learn_14 : decode cX1_learn 14 = .ok (.getfield 14, 3) := by decide +kernel
theorem dX1_learn_17 : decode cX1_learn 17 = .ok (.iload 4, 2) := by decide +kernel
theorem dX1_learn_19 : decode cX1_learn 19 = .ok (.invokestatic 91, 3) := by decide +kernel
theorem dX1_learn_22 : decode cX1_learn 22 = .ok (.istore 6, 2) := by decide +kernel
theorem dX1_learn_24 : decode cX1_learn 24 = .ok (.aload_n 0, 1) := by decide +kernel
theorem dX1_learn_25 : decode cX1_learn 25 = .ok (.getfield 20, 3) := by decide +kernel
theorem dX1_learn_28 : decode cX1_learn 28 = .ok (.iload 5, 2) := by decide +kernel
theorem dX1_learn_30 : decode cX1_learn 30 = .ok (.invokestatic 91, 3) := by decide +kernel
theorem dX1_learn_33 : decode cX1_learn 33 = .ok (.istore 7, 2) := by decide +kernel
theorem dX1_learn_35 : decode cX1_learn 35 = .ok (.aload_n 0, 1) := by decide +kernel
theorem dX1_learn_36 : decode cX1_learn 36 = .ok (.getfield 14, 3) := by decide +kernel
theorem dX1_learn_39 : decode cX1_learn 39 = .ok (.iload 4, 2) := by decide +kernel
theorem dX1_learn_41 : decode cX1_learn 41 = .ok (.iload_n 3, 1) := by decide +kernel
theorem dX1_learn_42 : decode cX1_learn 42 = .ok (.invokestatic 106, 3) := by decide +kernel
theorem dX1_learn_45 : decode cX1_learn 45 = .ok (.aload_n 0, 1) := by decide +kernel
theorem dX1_learn_46 : decode cX1_learn 46 = .ok (.getfield 20, 3) := by decide +kernel
theorem dX1_learn_49 : decode cX1_learn 49 = .ok (.iload 5, 2) := by decide +kernel
theorem dX1_learn_51 : decode cX1_learn 51 = .ok (.iload_n 3, 1) := by decide +kernel
theorem dX1_learn_52 : decode cX1_learn 52 = .ok (.invokestatic 106, 3) := by decide +kernel
theorem dX1_learn_55 : decode cX1_learn 55 = .ok (.iload 6, 2) := by decide +kernel
theorem dX1_learn_57 : decode cX1_learn 57 = .ok (.iload 7, 2) := by decide +kernel
theorem dX1_learn_59 : decode cX1_learn 59 = .ok (.if_icmp .eq 23, 3) := by decide +kernel
theorem dX1_learn_62 : decode cX1_learn 62 = .ok (.aload_n 0, 1) := by decide +kernel
theorem dX1_learn_63 : decode cX1_learn 63 = .ok (.getfield 23, 3) := by decide +kernel
theorem dX1_learn_66 : decode cX1_learn 66 = .ok (.iload 4, 2) := by decide +kernel
theorem dX1_learn_68 : decode cX1_learn 68 = .ok (.iload 7, 2) := by decide +kernel
theorem dX1_learn_70 : decode cX1_learn 70 = .ok (.iload_n 3, 1) := by decide +kernel
theorem dX1_learn_71 : decode cX1_learn 71 = .ok (.if_icmp .ne 7, 3) := by decide +kernel
theorem dX1_learn_74 : decode cX1_learn 74 = .ok (.iconst 1, 1) := by decide +kernel
theorem dX1_learn_75 : decode cX1_learn 75 = .ok (.goto 4, 3) := by decide +kernel
theorem dX1_learn_78 : decode cX1_learn 78 = .ok (.iconst 0, 1) := by decide +kernel
theorem dX1_learn_79 : decode cX1_learn 79 = .ok (.invokestatic 106, 3) := by decide +kernel
theorem dX1_learn_82 : decode cX1_learn 82 = .ok (.return_, 1) := by decide +kernel
set_option maxRecDepth 20000 in
theorem ggX1_noteTarget_X5_set : GoodIn wsX1_noteTarget wsX5_set := goodIn_r _ [8, 9, 18] (by decide +kernel) (by decide +kernel)
set_option maxRecDepth 20000 in
theorem gX1_noteTarget_X5_set : GoodIn wsX1_noteTarget (wsV RX1 69 RX5 yX5_set wsX5_set) := goodIn_app (goodIn_of _ (by decide +kernel)) ggX1_noteTarget_X5_set
theorem dX1_noteTarget_0 : decode cX1_noteTarget 0 = .ok (.aload_n 0, 1) := by decide +kernel
theorem dX1_noteTarget_1 : decode cX1_noteTarget 1 = .ok (.getfield 26, 3) := by decide +kernel
theorem dX1_noteTarget_4 : decode cX1_noteTarget 4 = .ok (.iload_n 1, 1) := by decide +kernel
theorem dX1_noteTarget_5 : decode cX1_noteTarget 5 = .ok (.bipush 8, 2) := by decide +kernel
theorem dX1_noteTarget_7 : decode cX1_noteTarget 7 = .ok (.irem, 1) := by decide +kernel
theorem dX1_noteTarget_8 : decode cX1_noteTarget 8 = .ok (.iload_n 1, 1) := by decide +kernel
theorem dX1_noteTarget_9 : decode cX1_noteTarget 9 = .ok (.invokevirtual 69, 3) := by decide +kernel
theorem dX1_noteTarget_12 : decode cX1_noteTarget 12 = .ok (.pop, 1) := by decide +kernel
theorem dX1_noteTarget_13 : decode cX1_noteTarget 13 = .ok (.aload_n 0, 1) := by decide +kernel
theorem dX1_noteTarget_14 : decode cX1_noteTarget 14 = .ok (.getfield 29, 3) := by decide +kernel
theorem dX1_noteTarget_17 : decode cX1_noteTarget 17 = .ok (.iload_n 1, 1) := by decide +kernel
theorem dX1_noteTarget_18 : decode cX1_noteTarget 18 = .ok (.bipush 8, 2) := by decide +kernel
theorem dX1_noteTarget_20 : decode cX1_noteTarget 20 = .ok (.irem, 1) := by decide +kernel
theorem dX1_noteTarget_21 : decode cX1_noteTarget 21 = .ok (.iload_n 2, 1) := by decide +kernel
theorem dX1_noteTarget_22 : decode cX1_noteTarget 22 = .ok (.invokevirtual 69, 3) := by decide +kernel
theorem dX1_noteTarget_25 : decode cX1_noteTarget 25 = .ok (.pop, 1) := by decide +kernel
theorem dX1_noteTarget_26 : decode cX1_noteTarget 26 = .ok (.aload_n 0, 1) := by decide +kernel
theorem dX1_noteTarget_27 : decode cX1_noteTarget 27 = .ok (.getfield 32, 3) := by decide +kernel
theorem dX1_noteTarget_30 : decode cX1_noteTarget 30 = .ok (.iload_n 1, 1) := by decide +kernel
theorem dX1_noteTarget_31 : decode cX1_noteTarget 31 = .ok (.bipush 8, 2) := by decide +kernel
theorem dX1_noteTarget_33 : decode cX1_noteTarget 33 = .ok (.irem, 1) := by decide +kernel
theorem dX1_noteTarget_34 : decode cX1_noteTarget 34 = .ok (.iload_n 3, 1) := by decide +kernel
theorem dX1_noteTarget_35 : decode cX1_noteTarget 35 = .ok (.invokevirtual 69, 3) := by decide +kernel
theorem dX1_noteTarget_38 : decode cX1_noteTarget 38 = .ok (.pop, 1) := by decide +kernel
theorem dX1_noteTarget_39 : decode cX1_noteTarget 39 = .ok (.return_, 1) := by decide +kernel
set_option maxRecDepth 20000 in
theorem ggX1_noteWhatWasDone_X6_isBranch : GoodIn wsX1_noteWhatWasDone wsX6_isBranch := goodIn_r _ [4] (by decide +kernel) (by decide +kernel)
set_option maxRecDepth 20000 in
theorem gX1_noteWhatWasDone_X6_isBranch_n74 : GoodIn wsX1_noteWhatWasDone (wsX6_isBranch) := ggX1_noteWhatWasDone_X6_isBranch
set_option maxRecDepth 20000 in
theorem ggX1_noteWhatWasDone_X1_noteBit : GoodIn wsX1_noteWhatWasDone wsX1_noteBit := goodIn_r _ [9, 10, 38, 39, 40, 41, 42, 43, 44, 45] (by decide +kernel) (by decide +kernel)
set_option maxRecDepth 20000 in
theorem gX1_noteWhatWasDone_X1_noteBit : GoodIn wsX1_noteWhatWasDone (wsV RX1 81 RX1 yX1_noteBit wsX1_noteBit) := goodIn_app (goodIn_of _ (by decide +kernel)) ggX1_noteWhatWasDone_X1_noteBit
set_option maxRecDepth 20000 in
theorem ggX1_noteWhatWasDone_X2_pushEldestOut : GoodIn wsX1_noteWhatWasDone wsX2_pushEldestOut := goodIn_r _ [15, 16, 17, 18, 19, 20, 21, 22, 23, 24, 14, 25, 46, 47] (by decide +kernel) (by decide +kernel)
set_option maxRecDepth 20000 in
theorem gX1_noteWhatWasDone_X2_pushEldestOut : GoodIn wsX1_noteWhatWasDone (wsV RX1 88 RX2 yX2_pushEldestOut wsX2_pushEldestOut) := goodIn_app (goodIn_of _ (by decide +kernel)) ggX1_noteWhatWasDone_X2_pushEldestOut
set_option maxRecDepth 20000 in
theorem ggX1_noteWhatWasDone_X2_pop : GoodIn wsX1_noteWhatWasDone wsX2_pop := goodIn_r _ [29, 16, 18, 19, 20, 21, 30, 31, 32, 14, 33, 17, 34, 35, 36, 37, 46, 47] (by decide +kernel) (by decide +kernel)
set_option maxRecDepth 20000 in
theorem gX1_noteWhatWasDone_X2_pop : GoodIn wsX1_noteWhatWasDone (wsV RX1 85 RX2 yX2_pop wsX2_pop) := goodIn_app (goodIn_of _ (by decide +kernel)) ggX1_noteWhatWasDone_X2_pop
theorem dX1_noteWhatWasDone_0 : decode cX1_noteWhatWasDone 0 = .ok (.iload_n 2, 1) := by decide +kernel
theorem dX1_noteWhatWasDone_1 : decode cX1_noteWhatWasDone 1 = .ok (.invokestatic 74, 3) := by decide +kernel
theorem dX1_noteWhatWasDone_4 : decode cX1_noteWhatWasDone 4 = .ok (.ifCond .eq 8, 3) := by decide +kernel
theorem dX1_noteWhatWasDone_7 : decode cX1_noteWhatWasDone 7 = .ok (.aload_n 0, 1) := by decide +kernel
theorem dX1_noteWhatWasDone_8 : decode cX1_noteWhatWasDone 8 = .ok (.iload_n 3, 1) := by decide +kernel
theorem dX1_noteWhatWasDone_9 : decode cX1_noteWhatWasDone 9 = .ok (.invokevirtual 81, 3) := by decide +kernel
theorem dX1_noteWhatWasDone_12 : decode cX1_noteWhatWasDone 12 = .ok (.iload_n 2, 1) := by decide +kernel
theorem dX1_noteWhatWasDone_13 : decode cX1_noteWhatWasDone 13 = .ok (.bipush 8, 2) := by decide +kernel
theorem dX1_noteWhatWasDone_15 : decode cX1_noteWhatWasDone 15 = .ok (.if_icmp .ne 13, 3) := by decide +kernel
theorem dX1_noteWhatWasDone_18 : decode cX1_noteWhatWasDone 18 = .ok (.aload_n 0, 1) := by decide +kernel
theorem dX1_noteWhatWasDone_19 : decode cX1_noteWhatWasDone 19 = .ok (.getfield 38, 3) := by decide +kernel
theorem dX1_noteWhatWasDone_22 : decode cX1_noteWhatWasDone 22 = .ok (.iload_n 1, 1) := by decide +kernel
theorem dX1_noteWhatWasDone_23 : decode cX1_noteWhatWasDone 23 = .ok (.iconst 1, 1) := by decide +kernel
theorem dX1_noteWhatWasDone_24 : decode cX1_noteWhatWasDone 24 = .ok (.iadd, 1) := by decide +kernel
theorem dX1_noteWhatWasDone_25 : decode cX1_noteWhatWasDone 25 = .ok (.invokevirtual 88, 3) := by decide +kernel
theorem dX1_noteWhatWasDone_28 : decode cX1_noteWhatWasDone 28 = .ok (.iload_n 2, 1) := by decide +kernel
theorem dX1_noteWhatWasDone_29 : decode cX1_noteWhatWasDone 29 = .ok (.bipush 9, 2) := by decide +kernel
theorem dX1_noteWhatWasDone_31 : decode cX1_noteWhatWasDone 31 = .ok (.if_icmp .ne 11, 3) := by decide +kernel
theorem dX1_noteWhatWasDone_34 : decode cX1_noteWhatWasDone 34 = .ok (.aload_n 0, 1) := by decide +kernel
theorem dX1_noteWhatWasDone_35 : decode cX1_noteWhatWasDone 35 = .ok (.getfield 38, 3) := by decide +kernel
theorem dX1_noteWhatWasDone_38 : decode cX1_noteWhatWasDone 38 = .ok (.invokevirtual 85, 3) := by decide +kernel
theorem dX1_noteWhatWasDone_41 : decode cX1_noteWhatWasDone 41 = .ok (.pop, 1) := by decide +kernel
theorem dX1_noteWhatWasDone_42 : decode cX1_noteWhatWasDone 42 = .ok (.return_, 1) := by decide +kernel
theorem dX2_init_0 : decode cX2_init 0 = .ok (.aload_n 0, 1) := by decide +kernel
theorem dX2_init_1 : decode cX2_init 1 = .ok (.invokespecial 3, 3) := by decide +kernel
theorem dX2_init_4 : decode cX2_init 4 = .ok (.aload_n 0, 1) := by decide +kernel
theorem dX2_init_5 : decode cX2_init 5 = .ok (.iconst 0, 1) := by decide +kernel
theorem dX2_init_6 : decode cX2_init 6 = .ok (.putfield 9, 3) := by decide +kernel
theorem dX2_init_9 : decode cX2_init 9 = .ok (.aload_n 0, 1) := by decide +kernel
theorem dX2_init_10 : decode cX2_init 10 = .ok (.iconst 0, 1) := by decide +kernel
theorem dX2_init_11 : decode cX2_init 11 = .ok (.iload_n 1, 1) := by decide +kernel
theorem dX2_init_12 : decode cX2_init 12 = .ok (.invokestatic 15, 3) := by decide +kernel
theorem dX2_init_15 : decode cX2_init 15 = .ok (.newarray .int, 2) := by decide +kernel
theorem dX2_init_17 : decode cX2_init 17 = .ok (.putfield 21, 3) := by decide +kernel
theorem dX2_init_20 : decode cX2_init 20 = .ok (.return_, 1) := by decide +kernel
theorem dX2_size_0 : decode cX2_size 0 = .ok (.aload_n 0, 1) := by decide +kernel
theorem dX2_size_1 : decode cX2_size 1 = .ok (.getfield 9, 3) := by decide +kernel
theorem dX2_size_4 : decode cX2_size 4 = .ok (.ireturn, 1) := by decide +kernel
set_option maxRecDepth 20000 in
theorem ggX2_get_X2_has : GoodIn wsX2_get wsX2_has := goodIn_r _ [6, 7, 1, 8, 9] (by decide +kernel) (by decide +kernel)
set_option maxRecDepth 20000 in
theorem gX2_get_X2_has : GoodIn wsX2_get (wsV RX2 25 RX2 yX2_has wsX2_has) := goodIn_app (goodIn_of _ (by decide +kernel)) ggX2_get_X2_has
theorem dX2_get_0 : decode cX2_get 0 = .ok (.aload_n 0, 1) := by decide +kernel
theorem dX2_get_1 : decode cX2_get 1 = .ok (.iload_n 1, 1) := by decide +kernel
theorem dX2_get_2 : decode cX2_get 2 = .ok (.invokevirtual 25, 3) := by decide +kernel
theorem dX2_get_5 : decode cX2_get 5 = .ok (.ifCond .eq 12, 3) := by decide +kernel
theorem dX2_get_8 : decode cX2_get 8 = .ok (.aload_n 0, 1) := by decide +kernel
theorem dX2_get_9 : decode cX2_get 9 = .ok (.getfield 21, 3) := by decide +kernel
theorem dX2_get_12 : decode cX2_get 12 = .ok (.iload_n 1, 1) := by decide +kernel
theorem dX2_get_13 : decode cX2_get 13 = .ok (.iaload, 1) := by decide +kernel
theorem dX2_get_14 : decode cX2_get 14 = .ok (.goto 4, 3) := by decide +kernel
theorem dX2_get_17 : decode cX2_get 17 = .ok (.iconst (-1), 1) := by decide +kernel
theorem dX2_get_18 : decode cX2_get 18 = .ok (.ireturn, 1) := by decide +kernel
set_option maxRecDepth 20000 in
theorem ggX2_set_X2_has : GoodIn wsX2_set wsX2_has := goodIn_r _ [6, 7, 1, 8, 9] (by decide +kernel) (by decide +kernel)
set_option maxRecDepth 20000 in
theorem gX2_set_X2_has : GoodIn wsX2_set (wsV RX2 25 RX2 yX2_has wsX2_has) := goodIn_app (goodIn_of _ (by decide +kernel)) ggX2_set_X2_has
theorem dX2_set_0 : decode cX2_set 0 = .ok (.aload_n 0, 1) := by decide +kernel
theorem dX2_set_1 : decode cX2_set 1 = .ok (.iload_n 1, 1) := by decide +kernel
theorem dX2_set_2 : decode cX2_set 2 = .ok (.invokevirtual 25, 3) := by decide +kernel
theorem dX2_set_5 : decode cX2_set 5 = .ok (.ifCond .ne 5, 3) := by decide +kernel
theorem dX2_set_8 : decode cX2_set 8 = .ok (.iconst (-1), 1) := by decide +kernel
theorem dX2_set_9 : decode cX2_set 9 = .ok (.ireturn, 1) := by decide +kernel
theorem dX2_set_10 : decode cX2_set 10 = .ok (.aload_n 0, 1) := by decide +kernel
theorem dX2_set_11 : decode cX2_set 11 = .ok (.getfield 21, 3) := by decide +kernel
theorem dX2_set_14 : decode cX2_set 14 = .ok (.iload_n 1, 1) := by decide +kernel
theorem dX2_set_15 : decode cX2_set 15 = .ok (.iaload, 1) := by decide +kernel
theorem dX2_set_16 : decode cX2_set 16 = .ok (.istore_n 3, 1) := by decide +kernel
theorem dX2_set_17 : decode cX2_set 17 = .ok (.aload_n 0, 1) := by decide +kernel
theorem dX2_set_18 : decode cX2_set 18 = .ok (.getfield 21, 3) := by decide +kernel
theorem dX2_set_21 : decode cX2_set 21 = .ok (.iload_n 1, 1) := by decide +kernel
theorem dX2_set_22 : decode cX2_set 22 = .ok (.iload_n 2, 1) := by decide +kernel
theorem dX2_set_23 : decode cX2_set 23 = .ok (.iastore, 1) := by decide +kernel
theorem dX2_set_24 : decode cX2_set 24 = .ok (.iload_n 3, 1) := by decide +kernel
theorem dX2_set_25 : decode cX2_set 25 = .ok (.ireturn, 1) := by decide +kernel
theorem dX2_push_0 : decode cX2_push 0 = .ok (.aload_n 0, 1) := by decide +kernel
theorem dX2_push_1 : decode cX2_push 1 = .ok (.getfield 9, 3) := by decide +kernel
theorem dX2_push_4 : decode cX2_push 4 = .ok (.ifCond .lt 15, 3) := by decide +kernel
theorem dX2_push_7 : decode cX2_push 7 = .ok (.aload_n 0, 1) := by decide +kernel
theorem dX2_push_8 : decode cX2_push 8 = .ok (.getfield 9, 3) := by decide +kernel
theorem dX2_push_11 : decode cX2_push 11 = .ok (.aload_n 0, 1) := by decide +kernel
theorem dX2_push_12 : decode cX2_push 12 = .ok (.getfield 21, 3) := by decide +kernel
theorem dX2_push_15 : decode cX2_push 15 = .ok (.arraylength, 1) := by decide +kernel
theorem dX2_push_16 : decode cX2_push 16 = .ok (.if_icmp .lt 5, 3) := by decide +kernel
theorem dX2_push_19 : decode cX2_push 19 = .ok (.iconst 0, 1) := by decide +kernel
theorem dX2_push_20 : decode cX2_push 20 = .ok (.ireturn, 1) := by decide +kernel
theorem dX2_push_21 : decode cX2_push 21 = .ok (.aload_n 0, 1) := by decide +kernel
theorem dX2_push_22 : decode cX2_push 22 = .ok (.getfield 21, 3) := by decide +kernel
theorem dX2_push_25 : decode cX2_push 25 = .ok (.aload_n 0, 1) := by decide +kernel
theorem dX2_push_26 : decode cX2_push 26 = .ok (.getfield 9, 3) := by decide +kernel
theorem dX2_push_29 : decode cX2_push 29 = .ok (.iload_n 1, 1) := by decide +kernel
theorem dX2_push_30 : decode cX2_push 30 = .ok (.iastore, 1) := by decide +kernel
theorem dX2_push_31 : decode cX2_push 31 = .ok (.aload_n 0, 1) := by decide +kernel
theorem dX2_push_32 : decode cX2_push 32 = .ok (.dup, 1) := by decide +kernel
theorem dX2_push_33 : decode cX2_push 33 = .ok (.getfield 9, 3) := by decide +kernel
theorem dX2_push_36 : decode cX2_push 36 = .ok (.iconst 1, 1) := by decide +kernel
theorem dX2_push_37 : decode cX2_push 37 = .ok (.iadd, 1) := by decide +kernel
theorem dX2_push_38 : decode cX2_push 38 = .ok (.putfield 9, 3) := by decide +kernel
theorem dX2_push_41 : decode cX2_push 41 = .ok (.iconst 1, 1) := by decide +kernel
theorem dX2_push_42 : decode cX2_push 42 = .ok (.ireturn, 1) := by decide +kernel
set_option maxRecDepth 20000 in
theorem ggX2_pushEldestOut_X2_push : GoodIn wsX2_pushEldestOut wsX2_push := goodIn_r _ [11, 1, 2, 12, 13] (by decide +kernel) (by decide +kernel)
set_option maxRecDepth 20000 in
theorem gX2_pushEldestOut_X2_push : GoodIn wsX2_pushEldestOut (wsV RX2 29 RX2 yX2_push wsX2_push) := goodIn_app (goodIn_of _ (by decide +kernel)) ggX2_pushEldestOut_X2_push
theorem dX2_pushEldestOut_0 : decode cX2_pushEldestOut 0 = .ok (.aload_n 0, 1) := by decide +kernel
theorem dX2_pushEldestOut_1 : decode cX2_pushEldestOut 1 = .ok (.getfield 9, 3) := by decide +kernel
theorem dX2_pushEldestOut_4 : decode cX2_pushEldestOut 4 = .ok (.aload_n 0, 1) := by decide +kernel
theorem dX2_pushEldestOut_5 : decode cX2_pushEldestOut 5 = .ok (.getfield 21, 3) := by decide +kernel
theorem dX2_pushEldestOut_8 : decode cX2_pushEldestOut 8 = .ok (.arraylength, 1) := by decide +kernel
theorem dX2_pushEldestOut_9 : decode cX2_pushEldestOut 9 = .ok (.if_icmp .lt 49, 3) := by decide +kernel
theorem dX2_pushEldestOut_12 : decode cX2_pushEldestOut 12 = .ok (.iconst 1, 1) := by decide +kernel
theorem dX2_pushEldestOut_13 : decode cX2_pushEldestOut 13 = .ok (.istore_n 2, 1) := by decide +kernel
theorem dX2_pushEldestOut_14 : decode cX2_pushEldestOut 14 = .ok (.iload_n 2, 1) := by decide +kernel
theorem dX2_pushEldestOut_15 : decode cX2_pushEldestOut 15 = .ok (.aload_n 0, 1) := by decide +kernel
theorem dX2_pushEldestOut_16 : decode cX2_pushEldestOut 16 = .ok (.getfield 21, 3) := by decide +kernel
theorem dX2_pushEldestOut_19 : decode cX2_pushEldestOut 19 = .ok (.arraylength, 1) := by decide +kernel
theorem dX2_pushEldestOut_20 : decode cX2_pushEldestOut 20 = .ok (.if_icmp .ge 23, 3) := by decide +kernel
theorem dX2_pushEldestOut_23 : decode cX2_pushEldestOut 23 = .ok (.aload_n 0, 1) := by decide +kernel
theorem dX2_pushEldestOut_24 : decode cX2_pushEldestOut 24 = .ok (.getfield 21, 3) := by decide +kernel
theorem dX2_pushEldestOut_27 : decode cX2_pushEldestOut 27 = .ok (.iload_n 2, 1) := by decide +kernel
theorem dX2_pushEldestOut_28 : decode cX2_pushEldestOut 28 = .ok (.iconst 1, 1) := by decide +kernel
theorem dX2_pushEldestOut_29 : decode cX2_pushEldestOut 29 = .ok (.isub, 1) := by decide +kernel
theorem dX2_pushEldestOut_30 : decode cX2_pushEldestOut 30 = .ok (.aload_n 0, 1) := by decide +kernel
theorem dX2_pushEldestOut_31 : decode cX2_pushEldestOut 31 = .ok (.getfield 21, 3) := by decide +kernel
theorem dX2_pushEldestOut_34 : decode cX2_pushEldestOut 34 = .ok (.iload_n 2, 1) := by decide +kernel
theorem dX2_pushEldestOut_35 : decode cX2_pushEldestOut 35 = .ok (.iaload, 1) := by decide +kernel
theorem dX2_pushEldestOut_36 : decode cX2_pushEldestOut 36 = .ok (.iastore, 1) := by decide +kernel
theorem dX2_pushEldestOut_37 : decode cX2_pushEldestOut 37 = .ok (.iinc 2 1, 3) := by decide +kernel
theorem dX2_pushEldestOut_40 : decode cX2_pushEldestOut 40 = .ok (.goto (-26), 3) := by decide +kernel
theorem dX2_pushEldestOut_43 : decode cX2_pushEldestOut 43 = .ok (.aload_n 0, 1) := by decide +kernel
theorem dX2_pushEldestOut_44 : decode cX2_pushEldestOut 44 = .ok (.iconst 0, 1) := by decide +kernel
theorem dX2_pushEldestOut_45 : decode cX2_pushEldestOut 45 = .ok (.aload_n 0, 1) := by decide +kernel
theorem dX2_pushEldestOut_46 : decode cX2_pushEldestOut 46 = .ok (.getfield 21, 3) := by decide +kernel
theorem dX2_pushEldestOut_49 : decode cX2_pushEldestOut 49 = .ok (.arraylength, 1) := by decide +kernel
theorem dX2_pushEldestOut_50 : decode cX2_pushEldestOut 50 = .ok (.iconst 1, 1) := by decide +kernel
theorem dX2_pushEldestOut_51 : decode cX2_pushEldestOut 51 = .ok (.isub, 1) := by decide +kernel
theorem dX2_pushEldestOut_52 : decode cX2_pushEldestOut 52 = .ok (.invokestatic 15, 3) := by decide +kernel
theorem dX2_pushEldestOut_55 : decode cX2_pushEldestOut 55 = .ok (.putfield 9, 3) := by decide +kernel
theorem dX2_pushEldestOut_58 : decode cX2_pushEldestOut 58 = .ok (.aload_n 0, 1) := by decide +kernel
theorem dX2_pushEldestOut_59 : decode cX2_pushEldestOut 59 = .ok (.iload_n 1, 1) := by decide +kernel
theorem dX2_pushEldestOut_60 : decode cX2_pushEldestOut 60 = .ok (.invokevirtual 29, 3) := by decide +kernel
theorem dX2_pushEldestOut_63 : decode cX2_pushEldestOut 63 = .ok (.pop, 1) := by decide +kernel
theorem dX2_pushEldestOut_64 : decode cX2_pushEldestOut 64 = .ok (.return_, 1) := by decide +kernel
set_option maxRecDepth 20000 in
theorem ggX2_pop_X2_get : GoodIn wsX2_pop wsX2_get := goodIn_r _ [10, 11, 12, 13, 14, 9, 15, 1, 16, 17] (by decide +kernel) (by decide +kernel)
set_option maxRecDepth 20000 in
theorem gX2_pop_X2_get : GoodIn wsX2_pop (wsV RX2 32 RX2 yX2_get wsX2_get) := goodIn_app (goodIn_of _ (by decide +kernel)) ggX2_pop_X2_get
theorem dX2_pop_0 : decode cX2_pop 0 = .ok (.aload_n 0, 1) := by decide +kernel
theorem dX2_pop_1 : decode cX2_pop 1 = .ok (.aload_n 0, 1) := by decide +kernel
theorem dX2_pop_2 : decode cX2_pop 2 = .ok (.getfield 9, 3) := by decide +kernel
theorem dX2_pop_5 : decode cX2_pop 5 = .ok (.iconst 1, 1) := by decide +kernel
theorem dX2_pop_6 : decode cX2_pop 6 = .ok (.isub, 1) := by decide +kernel
theorem dX2_pop_7 : decode cX2_pop 7 = .ok (.invokevirtual 32, 3) := by decide +kernel
theorem dX2_pop_10 : decode cX2_pop 10 = .ok (.istore_n 1, 1) := by decide +kernel
theorem dX2_pop_11 : decode cX2_pop 11 = .ok (.aload_n 0, 1) := by decide +kernel
theorem dX2_pop_12 : decode cX2_pop 12 = .ok (.iconst 0, 1) := by decide +kernel
theorem dX2_pop_13 : decode cX2_pop 13 = .ok (.aload_n 0, 1) := by decide +kernel
theorem dX2_pop_14 : decode cX2_pop 14 = .ok (.getfield 9, 3) := by decide +kernel
theorem dX2_pop_17 : decode cX2_pop 17 = .ok (.iconst 1, 1) := by decide +kernel
theorem dX2_pop_18 : decode cX2_pop 18 = .ok (.isub, 1) := by decide +kernel
theorem dX2_pop_19 : decode cX2_pop 19 = .ok (.invokestatic 15, 3) := by decide +kernel
theorem dX2_pop_22 : decode cX2_pop 22 = .ok (.putfield 9, 3) := by decide +kernel
theorem dX2_pop_25 : decode cX2_pop 25 = .ok (.iload_n 1, 1) := by decide +kernel
theorem dX2_pop_26 : decode cX2_pop 26 = .ok (.ireturn, 1) := by decide +kernel
theorem dX2_clear_0 : decode cX2_clear 0 = .ok (.aload_n 0, 1) := by decide +kernel
theorem dX2_clear_1 : decode cX2_clear 1 = .ok (.iconst 0, 1) := by decide +kernel
theorem dX2_clear_2 : decode cX2_clear 2 = .ok (.putfield 9, 3) := by decide +kernel
theorem dX2_clear_5 : decode cX2_clear 5 = .ok (.return_, 1) := by decide +kernel
theorem dX2_has_0 : decode cX2_has 0 = .ok (.iload_n 1, 1) := by decide +kernel
theorem dX2_has_1 : decode cX2_has 1 = .ok (.ifCond .lt 24, 3) := by decide +kernel
theorem dX2_has_4 : decode cX2_has 4 = .ok (.iload_n 1, 1) := by decide +kernel
theorem dX2_has_5 : decode cX2_has 5 = .ok (.aload_n 0, 1) := by decide +kernel
theorem dX2_has_6 : decode cX2_has 6 = .ok (.getfield 9, 3) := by decide +kernel
theorem dX2_has_9 : decode cX2_has 9 = .ok (.if_icmp .ge 16, 3) := by decide +kernel
theorem dX2_has_12 : decode cX2_has 12 = .ok (.iload_n 1, 1) := by decide +kernel
theorem dX2_has_13 : decode cX2_has 13 = .ok (.aload_n 0, 1) := by decide +kernel
theorem dX2_has_14 : decode cX2_has 14 = .ok (.getfield 21, 3) := by decide +kernel
theorem dX2_has_17 : decode cX2_has 17 = .ok (.arraylength, 1) := by decide +kernel
theorem dX2_has_18 : decode cX2_has 18 = .ok (.if_icmp .ge 7, 3) := by decide +kernel
theorem dX2_has_21 : decode cX2_has 21 = .ok (.iconst 1, 1) := by decide +kernel
theorem dX2_has_22 : decode cX2_has 22 = .ok (.goto 4, 3) := by decide +kernel
theorem dX2_has_25 : decode cX2_has 25 = .ok (.iconst 0, 1) := by decide +kernel
theorem dX2_has_26 : decode cX2_has 26 = .ok (.ireturn, 1) := by decide +kernel
set_option maxRecDepth 20000 in
theorem ggX3_init_X5_init : GoodIn wsX3_init wsX5_init := goodIn_r _ [11, 12, 2, 3, 13, 14, 15, 16, 17, 18, 19] (by decide +kernel) (by decide +kernel)
set_option maxRecDepth 20000 in
theorem gX3_init_X5_init : GoodIn wsX3_init (wsX5_init) := ggX3_init_X5_init
theorem dX3_init_0 : decode cX3_init 0 = .ok (.aload_n 0, 1) := by decide +kernel
theorem dX3_init_1 : decode cX3_init 1 = .ok (.invokespecial 3, 3) := by decide +kernel
theorem dX3_init_4 : decode cX3_init 4 = .ok (.aload_n 0, 1) := by decide +kernel
theorem dX3_init_5 : decode cX3_init 5 = .ok (.new 9, 3) := by decide +kernel
theorem dX3_init_8 : decode cX3_init 8 = .ok (.dup, 1) := by decide +kernel
theorem dX3_init_9 : decode cX3_init 9 = .ok (.sipush 240, 3) := by decide +kernel
theorem dX3_init_12 : decode cX3_init 12 = .ok (.invokespecial 11, 3) := by decide +kernel
theorem dX3_init_15 : decode cX3_init 15 = .ok (.putfield 14, 3) := by decide +kernel
theorem dX3_init_18 : decode cX3_init 18 = .ok (.aload_n 0, 1) := by decide +kernel
theorem dX3_init_19 : decode cX3_init 19 = .ok (.iconst 0, 1) := by decide +kernel
theorem dX3_init_20 : decode cX3_init 20 = .ok (.putfield 20, 3) := by decide +kernel
theorem dX3_init_23 : decode cX3_init 23 = .ok (.return_, 1) := by decide +kernel
theorem dX3_size_0 : decode cX3_size 0 = .ok (.aload_n 0, 1) := by decide +kernel
theorem dX3_size_1 : decode cX3_size 1 = .ok (.getfield 20, 3) := by decide +kernel
theorem dX3_size_4 : decode cX3_size 4 = .ok (.ireturn, 1) := by decide +kernel
theorem dX3_has_0 : decode cX3_has 0 = .ok (.iload_n 1, 1) := by decide +kernel
theorem dX3_has_1 : decode cX3_has 1 = .ok (.ifCond .lt 15, 3) := by decide +kernel
theorem dX3_has_4 : decode cX3_has 4 = .ok (.iload_n 1, 1) := by decide +kernel
theorem dX3_has_5 : decode cX3_has 5 = .ok (.aload_n 0, 1) := by decide +kernel
theorem dX3_has_6 : decode cX3_has 6 = .ok (.getfield 20, 3) := by decide +kernel
theorem dX3_has_9 : decode cX3_has 9 = .ok (.if_icmp .ge 7, 3) := by decide +kernel
theorem dX3_has_12 : decode cX3_has 12 = .ok (.iconst 1, 1) := by decide +kernel
theorem dX3_has_13 : decode cX3_has 13 = .ok (.goto 4, 3) := by decide +kernel
theorem dX3_has_16 : decode cX3_has 16 = .ok (.iconst 0, 1) := by decide +kernel
theorem dX3_has_17 : decode cX3_has 17 = .ok (.ireturn, 1) := by decide +kernel
set_option maxRecDepth 20000 in
theorem ggX3_part_X5_get : GoodIn wsX3_part wsX5_get := goodIn_r _ [6, 7, 10] (by decide +kernel) (by decide +kernel)
set_option maxRecDepth 20000 in
theorem gX3_part_X5_get : GoodIn wsX3_part (wsV RX3 24 RX5 yX5_get wsX5_get) := goodIn_app (goodIn_of _ (by decide +kernel)) ggX3_part_X5_get
theorem dX3_part_0 : decode cX3_part 0 = .ok (.aload_n 0, 1) := by decide +kernel
theorem dX3_part_1 : decode cX3_part 1 = .ok (.getfield 14, 3) := by decide +kernel
theorem dX3_part_4 : decode cX3_part 4 = .ok (.iload_n 1, 1) := by decide +kernel
theorem dX3_part_5 : decode cX3_part 5 = .ok (.iconst 4, 1) := by decide +kernel
theorem dX3_part_6 : decode cX3_part 6 = .ok (.imul, 1) := by decide +kernel
theorem dX3_part_7 : decode cX3_part 7 = .ok (.iload_n 2, 1) := by decide +kernel
theorem dX3_part_8 : decode cX3_part 8 = .ok (.iadd, 1) := by decide +kernel
theorem dX3_part_9 : decode cX3_part 9 = .ok (.invokevirtual 24, 3) := by decide +kernel
theorem dX3_part_12 : decode cX3_part 12 = .ok (.ireturn, 1) := by decide +kernel
set_option maxRecDepth 20000 in
theorem ggX3_add_X5_set : GoodIn wsX3_add wsX5_set := goodIn_r _ [7, 8, 11] (by decide +kernel) (by decide +kernel)
set_option maxRecDepth 20000 in
theorem gX3_add_X5_set : GoodIn wsX3_add (wsV RX3 28 RX5 yX5_set wsX5_set) := goodIn_app (goodIn_of _ (by decide +kernel)) ggX3_add_X5_set
theorem dX3_add_0 : decode cX3_add 0 = .ok (.aload_n 0, 1) := by decide +kernel
theorem dX3_add_1 : decode cX3_add 1 = .ok (.getfield 20, 3) := by decide +kernel
theorem dX3_add_4 : decode cX3_add 4 = .ok (.bipush 60, 2) := by decide +kernel
theorem dX3_add_6 : decode cX3_add 6 = .ok (.if_icmp .lt 5, 3) := by decide +kernel
theorem dX3_add_9 : decode cX3_add 9 = .ok (.iconst 0, 1) := by decide +kernel
theorem dX3_add_10 : decode cX3_add 10 = .ok (.ireturn, 1) := by decide +kernel
theorem dX3_add_11 : decode cX3_add 11 = .ok (.aload_n 0, 1) := by decide +kernel
theorem dX3_add_12 : decode cX3_add 12 = .ok (.getfield 14, 3) := by decide +kernel
theorem dX3_add_15 : decode cX3_add 15 = .ok (.aload_n 0, 1) := by decide +kernel
theorem dX3_add_16 : decode cX3_add 16 = .ok (.getfield 20, 3) := by decide +kernel
theorem dX3_add_19 : decode cX3_add 19 = .ok (.iconst 4, 1) := by decide +kernel
theorem dX3_add_20 : decode cX3_add 20 = .ok (.imul, 1) := by decide +kernel
theorem dX3_add_21 : decode cX3_add 21 = .ok (.iconst 0, 1) := by decide +kernel
theorem dX3_add_22 : decode cX3_add 22 = .ok (.iadd, 1) := by decide +kernel
theorem dX3_add_23 : decode cX3_add 23 = .ok (.iload_n 1, 1) := by decide +kernel
theorem dX3_add_24 : decode cX3_add 24 = .ok (.invokevirtual 28, 3) := by decide +kernel
theorem dX3_add_27 : decode cX3_add 27 = .ok (.pop, 1) := by decide +kernel
theorem dX3_add_28 : decode cX3_add 28 = .ok (.aload_n 0, 1) := by decide +kernel
theorem dX3_add_29 : decode cX3_add 29 = .ok (.getfield 14, 3) := by decide +kernel
theorem dX3_add_32 : decode cX3_add 32 = .ok (.aload_n 0, 1) := by decide +kernel
theorem dX3_add_33 : decode cX3_add 33 = .ok (.getfield 20, 3) := by decide +kernel
theorem dX3_add_36 : decode cX3_add 36 = .ok (.iconst 4, 1) := by decide +kernel
theorem dX3_add_37 : decode cX3_add 37 = .ok (.imul, 1) := by decide +kernel
theorem dX3_add_38 : decode cX3_add 38 = .ok (.iconst 1, 1) := by decide +kernel
theorem dX3_add_39 : decode cX3_add 39 = .ok (.iadd, 1) := by decide +kernel
theorem dX3_add_40 : decode cX3_add 40 = .ok (.iload_n 2, 1) := by decide +kernel
theorem dX3_add_41 : decode cX3_add 41 = .ok (.invokevirtual 28, 3) := by decide +kernel
theorem dX3_add_44 : decode cX3_add 44 = .ok (.pop, 1) := by decide +kernel
theorem dX3_add_45 : decode cX3_add 45 = .ok (.aload_n 0, 1) := by decide +kernel
theorem dX3_add_46 : decode cX3_add 46 = .ok (.getfield 14, 3) := by decide +kernel
theorem dX3_add_49 : decode cX3_add 49 = .ok (.aload_n 0, 1) := by decide +kernel
theorem dX3_add_50 : decode cX3_add 50 = .ok (.getfield 20, 3) := by decide +kernel
theorem dX3_add_53 : decode cX3_add 53 = .ok (.iconst 4, 1) := by decide +kernel
theorem dX3_add_54 : decode cX3_add 54 = .ok (.imul, 1) := by decide +kernel
theorem dX3_add_55 : decode cX3_add 55 = .ok (.iconst 2, 1) := by decide +kernel
theorem dX3_add_56 : decode cX3_add 56 = .ok (.iadd, 1) := by decide +kernel
theorem dX3_add_57 : decode cX3_add 57 = .ok (.iload_n 3, 1) := by decide +kernel
theorem dX3_add_58 : decode cX3_add 58 = .ok (.invokevirtual 28, 3) := by decide +kernel
theorem dX3_add_61 : decode cX3_add 61 = .ok (.pop, 1) := by decide +kernel
theorem dX3_add_62 : decode cX3_add 62 = .ok (.aload_n 0, 1) := by decide +kernel
theorem dX3_add_63 : decode cX3_add 63 = .ok (.getfield 14, 3) := by decide +kernel
theorem dX3_add_66 : decode cX3_add 66 = .ok (.aload_n 0, 1) := by decide +kernel
theorem dX3_add_67 : decode cX3_add 67 = .ok (.getfield 20, 3) := by decide +kernel
theorem dX3_add_70 : decode cX3_add 70 = .ok (.iconst 4, 1) := by decide +kernel
theorem dX3_add_71 : decode cX3_add 71 = .ok (.imul, 1) := by decide +kernel
theorem dX3_add_72 : decode cX3_add 72 = .ok (.iconst 3, 1) := by decide +kernel
theorem dX3_add_73 : decode cX3_add 73 = .ok (.iadd, 1) := by decide +kernel
theorem dX3_add_74 : decode cX3_add 74 = .ok (.iload 4, 2) := by decide +kernel
theorem dX3_add_76 : decode cX3_add 76 = .ok (.invokevirtual 28, 3) := by decide +kernel
theorem dX3_add_79 : decode cX3_add 79 = .ok (.pop, 1) := by decide +kernel
theorem dX3_add_80 : decode cX3_add 80 = .ok (.aload_n 0, 1) := by decide +kernel
theorem dX3_add_81 : decode cX3_add 81 = .ok (.dup, 1) := by decide +kernel
theorem dX3_add_82 : decode cX3_add 82 = .ok (.getfield 20, 3) := by decide +kernel
theorem dX3_add_85 : decode cX3_add 85 = .ok (.iconst 1, 1) := by decide +kernel
theorem dX3_add_86 : decode cX3_add 86 = .ok (.iadd, 1) := by decide +kernel
theorem dX3_add_87 : decode cX3_add 87 = .ok (.putfield 20, 3) := by decide +kernel
theorem dX3_add_90 : decode cX3_add 90 = .ok (.iconst 1, 1) := by decide +kernel
theorem dX3_add_91 : decode cX3_add 91 = .ok (.ireturn, 1) := by decide +kernel
theorem dX3_clear_0 : decode cX3_clear 0 = .ok (.aload_n 0, 1) := by decide +kernel
theorem dX3_clear_1 : decode cX3_clear 1 = .ok (.getfield 20, 3) := by decide +kernel
theorem dX3_clear_4 : decode cX3_clear 4 = .ok (.istore_n 1, 1) := by decide +kernel
theorem dX3_clear_5 : decode cX3_clear 5 = .ok (.aload_n 0, 1) := by decide +kernel
theorem dX3_clear_6 : decode cX3_clear 6 = .ok (.iconst 0, 1) := by decide +kernel
theorem dX3_clear_7 : decode cX3_clear 7 = .ok (.putfield 20, 3) := by decide +kernel
theorem dX3_clear_10 : decode cX3_clear 10 = .ok (.iload_n 1, 1) := by decide +kernel
theorem dX3_clear_11 : decode cX3_clear 11 = .ok (.ireturn, 1) := by decide +kernel
set_option maxRecDepth 20000 in
theorem ggX4_init_X5_init : GoodIn wsX4_init wsX5_init := goodIn_r _ [17, 18, 2, 3, 19, 20, 21, 22, 23, 24, 25] (by decide +kernel) (by decide +kernel)
set_option maxRecDepth 20000 in
theorem gX4_init_X5_init : GoodIn wsX4_init (wsX5_init) := ggX4_init_X5_init
theorem dX4_init_0 : decode cX4_init 0 = .ok (.aload_n 0, 1) := by decide +kernel
theorem dX4_init_1 : decode cX4_init 1 = .ok (.invokespecial 3, 3) := by decide +kernel
theorem dX4_init_4 : decode cX4_init 4 = .ok (.aload_n 0, 1) := by decide +kernel
theorem dX4_init_5 : decode cX4_init 5 = .ok (.new 9, 3) := by decide +kernel
theorem dX4_init_8 : decode cX4_init 8 = .ok (.dup, 1) := by decide +kernel
theorem dX4_init_9 : decode cX4_init 9 = .ok (.bipush 6, 2) := by decide +kernel
theorem dX4_init_11 : decode cX4_init 11 = .ok (.invokespecial 11, 3) := by decide +kernel
theorem dX4_init_14 : decode cX4_init 14 = .ok (.putfield 14, 3) := by decide +kernel
theorem dX4_init_17 : decode cX4_init 17 = .ok (.aload_n 0, 1) := by decide +kernel
theorem dX4_init_18 : decode cX4_init 18 = .ok (.new 9, 3) := by decide +kernel
theorem dX4_init_21 : decode cX4_init 21 = .ok (.dup, 1) := by decide +kernel
theorem dX4_init_22 : decode cX4_init 22 = .ok (.bipush 6, 2) := by decide +kernel
theorem dX4_init_24 : decode cX4_init 24 = .ok (.invokespecial 11, 3) := by decide +kernel
theorem dX4_init_27 : decode cX4_init 27 = .ok (.putfield 20, 3) := by decide +kernel
theorem dX4_init_30 : decode cX4_init 30 = .ok (.aload_n 0, 1) := by decide +kernel
theorem dX4_init_31 : decode cX4_init 31 = .ok (.new 9, 3) := by decide +kernel
theorem dX4_init_34 : decode cX4_init 34 = .ok (.dup, 1) := by decide +kernel
theorem dX4_init_35 : decode cX4_init 35 = .ok (.bipush 6, 2) := by decide +kernel
theorem dX4_init_37 : decode cX4_init 37 = .ok (.invokespecial 11, 3) := by decide +kernel
theorem dX4_init_40 : decode cX4_init 40 = .ok (.putfield 23, 3) := by decide +kernel
theorem dX4_init_43 : decode cX4_init 43 = .ok (.aload_n 0, 1) := by decide +kernel
theorem dX4_init_44 : decode cX4_init 44 = .ok (.new 9, 3) := by decide +kernel
theorem dX4_init_47 : decode cX4_init 47 = .ok (.dup, 1) := by decide +kernel
theorem dX4_init_48 : decode cX4_init 48 = .ok (.bipush 6, 2) := by decide +kernel
theorem dX4_init_50 : decode cX4_init 50 = .ok (.invokespecial 11, 3) := by decide +kernel
theorem dX4_init_53 : decode cX4_init 53 = .ok (.putfield 26, 3) := by decide +kernel
theorem dX4_init_56 : decode cX4_init 56 = .ok (.aload_n 0, 1) := by decide +kernel
theorem dX4_init_57 : decode cX4_init 57 = .ok (.new 9, 3) := by decide +kernel
theorem dX4_init_60 : decode cX4_init 60 = .ok (.dup, 1) := by decide +kernel
theorem dX4_init_61 : decode cX4_init 61 = .ok (.bipush 6, 2) := by decide +kernel
theorem dX4_init_63 : decode cX4_init 63 = .ok (.invokespecial 11, 3) := by decide +kernel
theorem dX4_init_66 : decode cX4_init 66 = .ok (.putfield 29, 3) := by decide +kernel
theorem dX4_init_69 : decode cX4_init 69 = .ok (.aload_n 0, 1) := by decide +kernel
theorem dX4_init_70 : decode cX4_init 70 = .ok (.new 9, 3) := by decide +kernel
theorem dX4_init_73 : decode cX4_init 73 = .ok (.dup, 1) := by decide +kernel
theorem dX4_init_74 : decode cX4_init 74 = .ok (.bipush 24, 2) := by decide +kernel
theorem dX4_init_76 : decode cX4_init 76 = .ok (.invokespecial 11, 3) := by decide +kernel
theorem dX4_init_79 : decode cX4_init 79 = .ok (.putfield 32, 3) := by decide +kernel
theorem dX4_init_82 : decode cX4_init 82 = .ok (.aload_n 0, 1) := by decide +kernel
theorem dX4_init_83 : decode cX4_init 83 = .ok (.iconst 0, 1) := by decide +kernel
theorem dX4_init_84 : decode cX4_init 84 = .ok (.putfield 35, 3) := by decide +kernel
theorem dX4_init_87 : decode cX4_init 87 = .ok (.aload_n 0, 1) := by decide +kernel
theorem dX4_init_88 : decode cX4_init 88 = .ok (.iconst 0, 1) := by decide +kernel
theorem dX4_init_89 : decode cX4_init 89 = .ok (.putfield 39, 3) := by decide +kernel
theorem dX4_init_92 : decode cX4_init 92 = .ok (.return_, 1) := by decide +kernel
theorem dX4_size_0 : decode cX4_size 0 = .ok (.aload_n 0, 1) := by decide +kernel
theorem dX4_size_1 : decode cX4_size 1 = .ok (.getfield 39, 3) := by decide +kernel
theorem dX4_size_4 : decode cX4_size 4 = .ok (.ireturn, 1) := by decide +kernel
theorem dX4_clear_0 : decode cX4_clear 0 = .ok (.aload_n 0, 1) := by decide +kernel
theorem dX4_clear_1 : decode cX4_clear 1 = .ok (.iconst 0, 1) := by decide +kernel
theorem dX4_clear_2 : decode cX4_clear 2 = .ok (.putfield 39, 3) := by decide +kernel
theorem dX4_clear_5 : decode cX4_clear 5 = .ok (.return_, 1) := by decide +kernel
set_option maxRecDepth 20000 in
theorem ggX4_address_X5_get : GoodIn wsX4_address wsX5_get := goodIn_r _ [8, 9, 18] (by decide +kernel) (by decide +kernel)
set_option maxRecDepth 20000 in
theorem gX4_address_X5_get : GoodIn wsX4_address (wsV RX4 42 RX5 yX5_get wsX5_get) := goodIn_app (goodIn_of _ (by decide +kernel)) ggX4_address_X5_get
theorem dX4_address_0 : decode cX4_address 0 = .ok (.iload_n 1, 1) := by decide +kernel
theorem dX4_address_1 : decode cX4_address 1 = .ok (.ifCond .lt 30, 3) := by decide +kernel
theorem dX4_address_4 : decode cX4_address 4 = .ok (.iload_n 1, 1) := by decide +kernel
theorem dX4_address_5 : decode cX4_address 5 = .ok (.aload_n 0, 1) := by decide +kernel
theorem dX4_address_6 : decode cX4_address 6 = .ok (.getfield 39, 3) := by decide +kernel
theorem dX4_address_9 : decode cX4_address 9 = .ok (.if_icmp .ge 22, 3) := by decide +kernel
theorem dX4_address_12 : decode cX4_address 12 = .ok (.aload_n 0, 1) := by decide +kernel
theorem dX4_address_13 : decode cX4_address 13 = .ok (.getfield 14, 3) := by decide +kernel
theorem dX4_address_16 : decode cX4_address 16 = .ok (.aload_n 0, 1) := by decide +kernel
theorem dX4_address_17 : decode cX4_address 17 = .ok (.getfield 35, 3) := by decide +kernel
theorem dX4_address_20 : decode cX4_address 20 = .ok (.iload_n 1, 1) := by decide +kernel
theorem dX4_address_21 : decode cX4_address 21 = .ok (.iadd, 1) := by decide +kernel
theorem dX4_address_22 : decode cX4_address 22 = .ok (.bipush 6, 2) := by decide +kernel
theorem dX4_address_24 : decode cX4_address 24 = .ok (.irem, 1) := by decide +kernel
theorem dX4_address_25 : decode cX4_address 25 = .ok (.invokevirtual 42, 3) := by decide +kernel
theorem dX4_address_28 : decode cX4_address 28 = .ok (.goto 4, 3) := by decide +kernel
theorem dX4_address_31 : decode cX4_address 31 = .ok (.iconst (-1), 1) := by decide +kernel
theorem dX4_address_32 : decode cX4_address 32 = .ok (.ireturn, 1) := by decide +kernel
set_option maxRecDepth 20000 in
theorem ggX4_isEldestOf_X5_get : GoodIn wsX4_isEldestOf wsX5_get := goodIn_r _ [8, 9, 18] (by decide +kernel) (by decide +kernel)
set_option maxRecDepth 20000 in
theorem gX4_isEldestOf_X5_get : GoodIn wsX4_isEldestOf (wsV RX4 42 RX5 yX5_get wsX5_get) := goodIn_app (goodIn_of _ (by decide +kernel)) ggX4_isEldestOf_X5_get
theorem dX4_isEldestOf_0 : decode cX4_isEldestOf 0 = .ok (.aload_n 0, 1) := by decide +kernel
theorem dX4_isEldestOf_1 : decode cX4_isEldestOf 1 = .ok (.getfield 39, 3) := by decide +kernel
theorem dX4_isEldestOf_4 : decode cX4_isEldestOf 4 = .ok (.ifCond .le 22, 3) := by decide +kernel
theorem dX4_isEldestOf_7 : decode cX4_isEldestOf 7 = .ok (.aload_n 0, 1) := by decide +kernel
theorem dX4_isEldestOf_8 : decode cX4_isEldestOf 8 = .ok (.getfield 23, 3) := by decide +kernel
theorem dX4_isEldestOf_11 : decode cX4_isEldestOf 11 = .ok (.aload_n 0, 1) := by decide +kernel
theorem dX4_isEldestOf_12 : decode cX4_isEldestOf 12 = .ok (.getfield 35, 3) := by decide +kernel
theorem dX4_isEldestOf_15 : decode cX4_isEldestOf 15 = .ok (.invokevirtual 42, 3) := by decide +kernel
theorem dX4_isEldestOf_18 : decode cX4_isEldestOf 18 = .ok (.iload_n 1, 1) := by decide +kernel
theorem dX4_isEldestOf_19 : decode cX4_isEldestOf 19 = .ok (.if_icmp .ne 7, 3) := by decide +kernel
theorem dX4_isEldestOf_22 : decode cX4_isEldestOf 22 = .ok (.iconst 1, 1) := by decide +kernel
theorem dX4_isEldestOf_23 : decode cX4_isEldestOf 23 = .ok (.goto 4, 3) := by decide +kernel
theorem dX4_isEldestOf_26 : decode cX4_isEldestOf 26 = .ok (.iconst 0, 1) := by decide +kernel
theorem dX4_isEldestOf_27 : decode cX4_isEldestOf 27 = .ok (.ireturn, 1) := by decide +kernel
theorem dX4_takeEldest_0 : decode cX4_takeEldest 0 = .ok (.aload_n 0, 1) := by decide +kernel
theorem dX4_takeEldest_1 : decode cX4_takeEldest 1 = .ok (.getfield 35, 3) := by decide +kernel
theorem dX4_takeEldest_4 : decode cX4_takeEldest 4 = .ok (.istore_n 1, 1) := by decide +kernel
theorem dX4_takeEldest_5 : decode cX4_takeEldest 5 = .ok (.aload_n 0, 1) := by decide +kernel
theorem dX4_takeEldest_6 : decode cX4_takeEldest 6 = .ok (.aload_n 0, 1) := by decide +kernel
theorem dX4_takeEldest_7 : decode cX4_takeEldest 7 = .ok (.getfield 35, 3) := by decide +kernel
theorem dX4_takeEldest_10 : decode cX4_takeEldest 10 = .ok (.iconst 1, 1) := by decide +kernel
theorem dX4_takeEldest_11 : decode cX4_takeEldest 11 = .ok (.iadd, 1) := by decide +kernel
theorem dX4_takeEldest_12 : decode cX4_takeEldest 12 = .ok (.bipush 6, 2) := by decide +kernel
theorem dX4_takeEldest_14 : decode cX4_takeEldest 14 = .ok (.irem, 1) := by decide +kernel
theorem dX4_takeEldest_15 : decode cX4_takeEldest 15 = .ok (.putfield 35, 3) := by decide +kernel
theorem dX4_takeEldest_18 : decode cX4_takeEldest 18 = .ok (.aload_n 0, 1) := by decide +kernel
theorem dX4_takeEldest_19 : decode cX4_takeEldest 19 = .ok (.iconst 0, 1) := by decide +kernel
theorem dX4_takeEldest_20 : decode cX4_takeEldest 20 = .ok (.aload_n 0, 1) := by decide +kernel
theorem dX4_takeEldest_21 : decode cX4_takeEldest 21 = .ok (.getfield 39, 3) := by decide +kernel
theorem dX4_takeEldest_24 : decode cX4_takeEldest 24 = .ok (.iconst 1, 1) := by decide +kernel
theorem dX4_takeEldest_25 : decode cX4_takeEldest 25 = .ok (.isub, 1) := by decide +kernel
theorem dX4_takeEldest_26 : decode cX4_takeEldest 26 = .ok (.invokestatic 46, 3) := by decide +kernel
theorem dX4_takeEldest_29 : decode cX4_takeEldest 29 = .ok (.putfield 39, 3) := by decide +kernel
theorem dX4_takeEldest_32 : decode cX4_takeEldest 32 = .ok (.iload_n 1, 1) := by decide +kernel
theorem dX4_takeEldest_33 : decode cX4_takeEldest 33 = .ok (.ireturn, 1) := by decide +kernel
set_option maxRecDepth 20000 in
theorem ggX4_addressOf_X5_get : GoodIn wsX4_addressOf wsX5_get := goodIn_r _ [6, 7, 16] (by decide +kernel) (by decide +kernel)
set_option maxRecDepth 20000 in
theorem gX4_addressOf_X5_get : GoodIn wsX4_addressOf (wsV RX4 42 RX5 yX5_get wsX5_get) := goodIn_app (goodIn_of _ (by decide +kernel)) ggX4_addressOf_X5_get
theorem dX4_addressOf_0 : decode cX4_addressOf 0 = .ok (.aload_n 0, 1) := by decide +kernel
theorem dX4_addressOf_1 : decode cX4_addressOf 1 = .ok (.getfield 14, 3) := by decide +kernel
theorem dX4_addressOf_4 : decode cX4_addressOf 4 = .ok (.iload_n 1, 1) := by decide +kernel
theorem dX4_addressOf_5 : decode cX4_addressOf 5 = .ok (.invokevirtual 42, 3) := by decide +kernel
theorem dX4_addressOf_8 : decode cX4_addressOf 8 = .ok (.ireturn, 1) := by decide +kernel
set_option maxRecDepth 20000 in
theorem ggX4_guessOf_X5_get : GoodIn wsX4_guessOf wsX5_get := goodIn_r _ [6, 7, 16] (by decide +kernel) (by decide +kernel)
set_option maxRecDepth 20000 in
theorem gX4_guessOf_X5_get : GoodIn wsX4_guessOf (wsV RX4 42 RX5 yX5_get wsX5_get) := goodIn_app (goodIn_of _ (by decide +kernel)) ggX4_guessOf_X5_get
theorem dX4_guessOf_0 : decode cX4_guessOf 0 = .ok (.aload_n 0, 1) := by decide +kernel
theorem dX4_guessOf_1 : decode cX4_guessOf 1 = .ok (.getfield 20, 3) := by decide +kernel
theorem dX4_guessOf_4 : decode cX4_guessOf 4 = .ok (.iload_n 1, 1) := by decide +kernel
theorem dX4_guessOf_5 : decode cX4_guessOf 5 = .ok (.invokevirtual 42, 3) := by decide +kernel
theorem dX4_guessOf_8 : decode cX4_guessOf 8 = .ok (.ireturn, 1) := by decide +kernel
set_option maxRecDepth 20000 in
theorem ggX4_historyOf_X5_get : GoodIn wsX4_historyOf wsX5_get := goodIn_r _ [6, 7, 16] (by decide +kernel) (by decide +kernel)
set_option maxRecDepth 20000 in
theorem gX4_historyOf_X5_get : GoodIn wsX4_historyOf (wsV RX4 42 RX5 yX5_get wsX5_get) := goodIn_app (goodIn_of _ (by decide +kernel)) ggX4_historyOf_X5_get
theorem dX4_historyOf_0 : decode cX4_historyOf 0 = .ok (.aload_n 0, 1) := by decide +kernel
theorem dX4_historyOf_1 : decode cX4_historyOf 1 = .ok (.getfield 26, 3) := by decide +kernel
theorem dX4_historyOf_4 : decode cX4_historyOf 4 = .ok (.iload_n 1, 1) := by decide +kernel
theorem dX4_historyOf_5 : decode cX4_historyOf 5 = .ok (.invokevirtual 42, 3) := by decide +kernel
theorem dX4_historyOf_8 : decode cX4_historyOf 8 = .ok (.ireturn, 1) := by decide +kernel
set_option maxRecDepth 20000 in
theorem ggX4_setGuess_X5_set : GoodIn wsX4_setGuess wsX5_set := goodIn_r _ [6, 7, 16] (by decide +kernel) (by decide +kernel)
set_option maxRecDepth 20000 in
theorem gX4_setGuess_X5_set : GoodIn wsX4_setGuess (wsV RX4 52 RX5 yX5_set wsX5_set) := goodIn_app (goodIn_of _ (by decide +kernel)) ggX4_setGuess_X5_set
theorem dX4_setGuess_0 : decode cX4_setGuess 0 = .ok (.aload_n 0, 1) := by decide +kernel
theorem dX4_setGuess_1 : decode cX4_setGuess 1 = .ok (.getfield 20, 3) := by decide +kernel
theorem dX4_setGuess_4 : decode cX4_setGuess 4 = .ok (.iload_n 1, 1) := by decide +kernel
theorem dX4_setGuess_5 : decode cX4_setGuess 5 = .ok (.iload_n 2, 1) := by decide +kernel
theorem dX4_setGuess_6 : decode cX4_setGuess 6 = .ok (.invokevirtual 52, 3) := by decide +kernel
theorem dX4_setGuess_9 : decode cX4_setGuess 9 = .ok (.pop, 1) := by decide +kernel
theorem dX4_setGuess_10 : decode cX4_setGuess 10 = .ok (.return_, 1) := by decide +kernel
set_option maxRecDepth 20000 in
theorem ggX4_add_X5_set : GoodIn wsX4_add wsX5_set := goodIn_r _ [13, 14, 23] (by decide +kernel) (by decide +kernel)
set_option maxRecDepth 20000 in
theorem gX4_add_X5_set : GoodIn wsX4_add (wsV RX4 52 RX5 yX5_set wsX5_set) := goodIn_app (goodIn_of _ (by decide +kernel)) ggX4_add_X5_set
theorem dX4_add_0 : decode cX4_add 0 = .ok (.aload_n 0, 1) := by decide +kernel
theorem dX4_add_1 : decode cX4_add 1 = .ok (.getfield 35, 3) := by decide +kernel
theorem dX4_add_4 : decode cX4_add 4 = .ok (.aload_n 0, 1) := by decide +kernel
theorem dX4_add_5 : decode cX4_add 5 = .ok (.getfield 39, 3) := by decide +kernel
theorem dX4_add_8 : decode cX4_add 8 = .ok (.iadd, 1) := by decide +kernel
theorem dX4_add_9 : decode cX4_add 9 = .ok (.bipush 6, 2) := by decide +kernel
theorem dX4_add_11 : decode cX4_add 11 = .ok (.irem, 1) := by decide +kernel
theorem dX4_add_12 : decode cX4_add 12 = .ok (.istore_n 3, 1) := by decide +kernel
theorem dX4_add_13 : decode cX4_add 13 = .ok (.aload_n 0, 1) := by decide +kernel
theorem dX4_add_14 : decode cX4_add 14 = .ok (.bipush 6, 2) := by decide +kernel
theorem dX4_add_16 : decode cX4_add 16 = .ok (.aload_n 0, 1) := by decide +kernel
theorem dX4_add_17 : decode cX4_add 17 = .ok (.getfield 39, 3) := by decide +kernel
theorem dX4_add_20 : decode cX4_add 20 = .ok (.iconst 1, 1) := by decide +kernel
theorem dX4_add_21 : decode cX4_add 21 = .ok (.iadd, 1) := by decide +kernel
theorem dX4_add_22 : decode cX4_add 22 = .ok (.invokestatic 55, 3) := by decide +kernel
theorem dX4_add_25 : decode cX4_add 25 = .ok (.putfield 39, 3) := by decide +kernel
theorem dX4_add_28 : decode cX4_add 28 = .ok (.aload_n 0, 1) := by decide +kernel
theorem dX4_add_29 : decode cX4_add 29 = .ok (.getfield 14, 3) := by decide +kernel
theorem dX4_add_32 : decode cX4_add 32 = .ok (.iload_n 3, 1) := by decide +kernel
theorem dX4_add_33 : decode cX4_add 33 = .ok (.iload_n 1, 1) := by decide +kernel
theorem dX4_add_34 : decode cX4_add 34 = .ok (.invokevirtual 52, 3) := by decide +kernel
theorem dX4_add_37 : decode cX4_add 37 = .ok (.pop, 1) := by decide +kernel
theorem dX4_add_38 : decode cX4_add 38 = .ok (.aload_n 0, 1) := by decide +kernel
theorem dX4_add_39 : decode cX4_add 39 = .ok (.getfield 23, 3) := by decide +kernel
theorem dX4_add_42 : decode cX4_add 42 = .ok (.iload_n 3, 1) := by decide +kernel
theorem dX4_add_43 : decode cX4_add 43 = .ok (.iload_n 2, 1) := by decide +kernel
theorem dX4_add_44 : decode cX4_add 44 = .ok (.invokevirtual 52, 3) := by decide +kernel
theorem dX4_add_47 : decode cX4_add 47 = .ok (.pop, 1) := by decide +kernel
theorem dX4_add_48 : decode cX4_add 48 = .ok (.iload_n 3, 1) := by decide +kernel
theorem dX4_add_49 : decode cX4_add 49 = .ok (.ireturn, 1) := by decide +kernel
set_option maxRecDepth 20000 in
theorem ggX4_keep_X5_set : GoodIn wsX4_keep wsX5_set := goodIn_r _ [8, 9, 33] (by decide +kernel) (by decide +kernel)
set_option maxRecDepth 20000 in
theorem gX4_keep_X5_set : GoodIn wsX4_keep (wsV RX4 52 RX5 yX5_set wsX5_set) := goodIn_app (goodIn_of _ (by decide +kernel)) ggX4_keep_X5_set
set_option maxRecDepth 20000 in
theorem ggX4_keep_X2_size : GoodIn wsX4_keep wsX2_size := goodIn_r _ [14, 15, 34, 35] (by decide +kernel) (by decide +kernel)
set_option maxRecDepth 20000 in
theorem gX4_keep_X2_size : GoodIn wsX4_keep (wsV RX4 58 RX2 yX2_size wsX2_size) := goodIn_app (goodIn_of _ (by decide +kernel)) ggX4_keep_X2_size
set_option maxRecDepth 20000 in
theorem ggX4_keep_X2_get : GoodIn wsX4_keep wsX2_get := goodIn_r _ [19, 20, 21, 22, 23, 13, 24, 15, 34, 35] (by decide +kernel) (by decide +kernel)
set_option maxRecDepth 20000 in
theorem gX4_keep_X2_get : GoodIn wsX4_keep (wsV RX4 63 RX2 yX2_get wsX2_get) := goodIn_app (goodIn_of _ (by decide +kernel)) ggX4_keep_X2_get
theorem dX4_keep_0 : decode cX4_keep 0 = .ok (.aload_n 0, 1) := by decide +kernel
theorem dX4_keep_1 : decode cX4_keep 1 = .ok (.getfield 26, 3) := by decide +kernel
theorem dX4_keep_4 : decode cX4_keep 4 = .ok (.iload_n 1, 1) := by decide +kernel
theorem dX4_keep_5 : decode cX4_keep 5 = .ok (.iload_n 2, 1) := by decide +kernel
theorem dX4_keep_6 : decode cX4_keep 6 = .ok (.invokevirtual 52, 3) := by decide +kernel
theorem dX4_keep_9 : decode cX4_keep 9 = .ok (.pop, 1) := by decide +kernel
theorem dX4_keep_10 : decode cX4_keep 10 = .ok (.aload_n 0, 1) := by decide +kernel
theorem dX4_keep_11 : decode cX4_keep 11 = .ok (.getfield 29, 3) := by decide +kernel
theorem dX4_keep_14 : decode cX4_keep 14 = .ok (.iload_n 1, 1) := by decide +kernel
theorem dX4_keep_15 : decode cX4_keep 15 = .ok (.aload_n 3, 1) := by decide +kernel
theorem dX4_keep_16 : decode cX4_keep 16 = .ok (.invokevirtual 58, 3) := by decide +kernel
theorem dX4_keep_19 : decode cX4_keep 19 = .ok (.invokevirtual 52, 3) := by decide +kernel
theorem dX4_keep_22 : decode cX4_keep 22 = .ok (.pop, 1) := by decide +kernel
theorem dX4_keep_23 : decode cX4_keep 23 = .ok (.iconst 0, 1) := by decide +kernel
theorem dX4_keep_24 : decode cX4_keep 24 = .ok (.istore 4, 2) := by decide +kernel
theorem dX4_keep_26 : decode cX4_keep 26 = .ok (.iload 4, 2) := by decide +kernel
theorem dX4_keep_28 : decode cX4_keep 28 = .ok (.iconst 4, 1) := by decide +kernel
theorem dX4_keep_29 : decode cX4_keep 29 = .ok (.if_icmp .ge 29, 3) := by decide +kernel
theorem dX4_keep_32 : decode cX4_keep 32 = .ok (.aload_n 0, 1) := by decide +kernel
theorem dX4_keep_33 : decode cX4_keep 33 = .ok (.getfield 32, 3) := by decide +kernel
theorem dX4_keep_36 : decode cX4_keep 36 = .ok (.iload_n 1, 1) := by decide +kernel
theorem dX4_keep_37 : decode cX4_keep 37 = .ok (.iconst 4, 1) := by decide +kernel
theorem dX4_keep_38 : decode cX4_keep 38 = .ok (.imul, 1) := by decide +kernel
theorem dX4_keep_39 : decode cX4_keep 39 = .ok (.iload 4, 2) := by decide +kernel
theorem dX4_keep_41 : decode cX4_keep 41 = .ok (.iadd, 1) := by decide +kernel
theorem dX4_keep_42 : decode cX4_keep 42 = .ok (.aload_n 3, 1) := by decide +kernel
theorem dX4_keep_43 : decode cX4_keep 43 = .ok (.iload 4, 2) := by decide +kernel
theorem dX4_keep_45 : decode cX4_keep 45 = .ok (.invokevirtual 63, 3) := by decide +kernel
theorem dX4_keep_48 : decode cX4_keep 48 = .ok (.invokevirtual 52, 3) := by decide +kernel
theorem dX4_keep_51 : decode cX4_keep 51 = .ok (.pop, 1) := by decide +kernel
theorem dX4_keep_52 : decode cX4_keep 52 = .ok (.iinc 4 1, 3) := by decide +kernel
theorem dX4_keep_55 : decode cX4_keep 55 = .ok (.goto (-29), 3) := by decide +kernel
theorem dX4_keep_58 : decode cX4_keep 58 = .ok (.return_, 1) := by decide +kernel
set_option maxRecDepth 20000 in
theorem ggX4_giveReturnsBack_X2_clear : GoodIn wsX4_giveReturnsBack wsX2_clear := goodIn_r _ [7, 8, 28, 29] (by decide +kernel) (by decide +kernel)
set_option maxRecDepth 20000 in
theorem gX4_giveReturnsBack_X2_clear : GoodIn wsX4_giveReturnsBack (wsV RX4 64 RX2 yX2_clear wsX2_clear) := goodIn_app (goodIn_of _ (by decide +kernel)) ggX4_giveReturnsBack_X2_clear
set_option maxRecDepth 20000 in
theorem ggX4_giveReturnsBack_X5_get : GoodIn wsX4_giveReturnsBack wsX5_get := goodIn_r _ [13, 14, 30] (by decide +kernel) (by decide +kernel)
set_option maxRecDepth 20000 in
theorem gX4_giveReturnsBack_X5_get : GoodIn wsX4_giveReturnsBack (wsV RX4 42 RX5 yX5_get wsX5_get) := goodIn_app (goodIn_of _ (by decide +kernel)) ggX4_giveReturnsBack_X5_get
set_option maxRecDepth 20000 in
theorem ggX4_giveReturnsBack_X2_push : GoodIn wsX4_giveReturnsBack wsX2_push := goodIn_r _ [18, 8, 19, 28, 29] (by decide +kernel) (by decide +kernel)
set_option maxRecDepth 20000 in
theorem gX4_giveReturnsBack_X2_push : GoodIn wsX4_giveReturnsBack (wsV RX4 67 RX2 yX2_push wsX2_push) := goodIn_app (goodIn_of _ (by decide +kernel)) ggX4_giveReturnsBack_X2_push
theorem dX4_giveReturnsBack_0 : decode cX4_giveReturnsBack 0 = .ok (.aload_n 2, 1) := by decide +kernel
theorem dX4_giveReturnsBack_1 : decode cX4_giveReturnsBack 1 = .ok (.invokevirtual 64, 3) := by decide +kernel
theorem dX4_giveReturnsBack_4 : decode cX4_giveReturnsBack 4 = .ok (.iconst 0, 1) := by decide +kernel
theorem dX4_giveReturnsBack_5 : decode cX4_giveReturnsBack 5 = .ok (.istore_n 3, 1) := by decide +kernel
theorem dX4_giveReturnsBack_6 : decode cX4_giveReturnsBack 6 = .ok (.iload_n 3, 1) := by decide +kernel
theorem dX4_giveReturnsBack_7 : decode cX4_giveReturnsBack 7 = .ok (.iconst 4, 1) := by decide +kernel
theorem dX4_giveReturnsBack_8 : decode cX4_giveReturnsBack 8 = .ok (.if_icmp .ge 38, 3) := by decide +kernel
theorem dX4_giveReturnsBack_11 : decode cX4_giveReturnsBack 11 = .ok (.iload_n 3, 1) := by decide +kernel
theorem dX4_giveReturnsBack_12 : decode cX4_giveReturnsBack 12 = .ok (.aload_n 0, 1) := by decide +kernel
theorem dX4_giveReturnsBack_13 : decode cX4_giveReturnsBack 13 = .ok (.getfield 29, 3) := by decide +kernel
theorem dX4_giveReturnsBack_16 : decode cX4_giveReturnsBack 16 = .ok (.iload_n 1, 1) := by decide +kernel
theorem dX4_giveReturnsBack_17 : decode cX4_giveReturnsBack 17 = .ok (.invokevirtual 42, 3) := by decide +kernel
theorem dX4_giveReturnsBack_20 : decode cX4_giveReturnsBack 20 = .ok (.if_icmp .ge 26, 3) := by decide +kernel
theorem dX4_giveReturnsBack_23 : decode cX4_giveReturnsBack 23 = .ok (.aload_n 2, 1) := by decide +kernel
theorem dX4_giveReturnsBack_24 : decode cX4_giveReturnsBack 24 = .ok (.aload_n 0, 1) := by decide +kernel
theorem dX4_giveReturnsBack_25 : decode cX4_giveReturnsBack 25 = .ok (.getfield 32, 3) := by decide +kernel
theorem dX4_giveReturnsBack_28 : decode cX4_giveReturnsBack 28 = .ok (.iload_n 1, 1) := by decide +kernel
theorem dX4_giveReturnsBack_29 : decode cX4_giveReturnsBack 29 = .ok (.iconst 4, 1) := by decide +kernel
theorem dX4_giveReturnsBack_30 : decode cX4_giveReturnsBack 30 = .ok (.imul, 1) := by decide +kernel
theorem dX4_giveReturnsBack_31 : decode cX4_giveReturnsBack 31 = .ok (.iload_n 3, 1) := by decide +kernel
theorem dX4_giveReturnsBack_32 : decode cX4_giveReturnsBack 32 = .ok (.iadd, 1) := by decide +kernel
theorem dX4_giveReturnsBack_33 : decode cX4_giveReturnsBack 33 = .ok (.invokevirtual 42, 3) := by decide +kernel
theorem dX4_giveReturnsBack_36 : decode cX4_giveReturnsBack 36 = .ok (.invokevirtual 67, 3) := by decide +kernel
theorem dX4_giveReturnsBack_39 : decode cX4_giveReturnsBack 39 = .ok (.pop, 1) := by decide +kernel
theorem dX4_giveReturnsBack_40 : decode cX4_giveReturnsBack 40 = .ok (.iinc 3 1, 3) := by decide +kernel
theorem dX4_giveReturnsBack_43 : decode cX4_giveReturnsBack 43 = .ok (.goto (-37), 3) := by decide +kernel
theorem dX4_giveReturnsBack_46 : decode cX4_giveReturnsBack 46 = .ok (.return_, 1) := by decide +kernel
theorem dX5_init_0 : decode cX5_init 0 = .ok (.aload_n 0, 1) := by decide +kernel
theorem dX5_init_1 : decode cX5_init 1 = .ok (.invokespecial 1, 3) := by decide +kernel
end
section
theorem dX5_init_4 : decode cX5_init 4 = .ok (.aload_n 0, 1) := by decide +kernel
theorem dX5_init_5 : decode cX5_init 5 = .ok (.iconst 0, 1) := by decide +kernel
theorem dX5_init_6 : decode cX5_init 6 = .ok (.iload_n 1, 1) := by decide +kernel
theorem dX5_init_7 : decode cX5_init 7 = .ok (.invokestatic 7, 3) := by decide +kernel
theorem dX5_init_10 : decode cX5_init 10 = .ok (.newarray .int, 2) := by decide +kernel
theorem dX5_init_12 : decode cX5_init 12 = .ok (.putfield 13, 3) := by decide +kernel
theorem dX5_init_15 : decode cX5_init 15 = .ok (.return_, 1) := by decide +kernel
theorem dX5_get_0 : decode cX5_get 0 = .ok (.iload_n 1, 1) := by decide +kernel
theorem dX5_get_1 : decode cX5_get 1 = .ok (.ifCond .lt 21, 3) := by decide +kernel
theorem dX5_get_4 : decode cX5_get 4 = .ok (.iload_n 1, 1) := by decide +kernel
theorem dX5_get_5 : decode cX5_get 5 = .ok (.aload_n 0, 1) := by decide +kernel
theorem dX5_get_6 : decode cX5_get 6 = .ok (.getfield 13, 3) := by decide +kernel
theorem dX5_get_9 : decode cX5_get 9 = .ok (.arraylength, 1) := by decide +kernel
theorem dX5_get_10 : decode cX5_get 10 = .ok (.if_icmp .ge 12, 3) := by decide +kernel
theorem dX5_get_13 : decode cX5_get 13 = .ok (.aload_n 0, 1) := by decide +kernel
theorem dX5_get_14 : decode cX5_get 14 = .ok (.getfield 13, 3) := by decide +kernel
theorem dX5_get_17 : decode cX5_get 17 = .ok (.iload_n 1, 1) := by decide +kernel
theorem dX5_get_18 : decode cX5_get 18 = .ok (.iaload, 1) := by decide +kernel
theorem dX5_get_19 : decode cX5_get 19 = .ok (.goto 4, 3) := by decide +kernel
theorem dX5_get_22 : decode cX5_get 22 = .ok (.iconst 0, 1) := by decide +kernel
theorem dX5_get_23 : decode cX5_get 23 = .ok (.ireturn, 1) := by decide +kernel
theorem dX5_set_0 : decode cX5_set 0 = .ok (.iload_n 1, 1) := by decide +kernel
theorem dX5_set_1 : decode cX5_set 1 = .ok (.ifCond .lt 12, 3) := by decide +kernel
theorem dX5_set_4 : decode cX5_set 4 = .ok (.iload_n 1, 1) := by decide +kernel
theorem dX5_set_5 : decode cX5_set 5 = .ok (.aload_n 0, 1) := by decide +kernel
theorem dX5_set_6 : decode cX5_set 6 = .ok (.getfield 13, 3) := by decide +kernel
theorem dX5_set_9 : decode cX5_set 9 = .ok (.arraylength, 1) := by decide +kernel
theorem dX5_set_10 : decode cX5_set 10 = .ok (.if_icmp .lt 5, 3) := by decide +kernel
theorem dX5_set_13 : decode cX5_set 13 = .ok (.iconst 0, 1) := by decide +kernel
theorem dX5_set_14 : decode cX5_set 14 = .ok (.ireturn, 1) := by decide +kernel
theorem dX5_set_15 : decode cX5_set 15 = .ok (.aload_n 0, 1) := by decide +kernel
theorem dX5_set_16 : decode cX5_set 16 = .ok (.getfield 13, 3) := by decide +kernel
theorem dX5_set_19 : decode cX5_set 19 = .ok (.iload_n 1, 1) := by decide +kernel
theorem dX5_set_20 : decode cX5_set 20 = .ok (.iaload, 1) := by decide +kernel
theorem dX5_set_21 : decode cX5_set 21 = .ok (.istore_n 3, 1) := by decide +kernel
theorem dX5_set_22 : decode cX5_set 22 = .ok (.aload_n 0, 1) := by decide +kernel
theorem dX5_set_23 : decode cX5_set 23 = .ok (.getfield 13, 3) := by decide +kernel
theorem dX5_set_26 : decode cX5_set 26 = .ok (.iload_n 1, 1) := by decide +kernel
theorem dX5_set_27 : decode cX5_set 27 = .ok (.iload_n 2, 1) := by decide +kernel
theorem dX5_set_28 : decode cX5_set 28 = .ok (.iastore, 1) := by decide +kernel
theorem dX5_set_29 : decode cX5_set 29 = .ok (.iload_n 3, 1) := by decide +kernel
theorem dX5_set_30 : decode cX5_set 30 = .ok (.ireturn, 1) := by decide +kernel
set_option maxRecDepth 20000 in
theorem ggX5_add_X5_get : GoodIn wsX5_add wsX5_get := goodIn_r _ [5, 6, 11] (by decide +kernel) (by decide +kernel)
set_option maxRecDepth 20000 in
theorem gX5_add_X5_get : GoodIn wsX5_add (wsV RX5 19 RX5 yX5_get wsX5_get) := goodIn_app (goodIn_of _ (by decide +kernel)) ggX5_add_X5_get
set_option maxRecDepth 20000 in
theorem ggX5_add_X5_set : GoodIn wsX5_add wsX5_set := goodIn_r _ [10, 6, 11] (by decide +kernel) (by decide +kernel)
set_option maxRecDepth 20000 in
theorem gX5_add_X5_set : GoodIn wsX5_add (wsV RX5 23 RX5 yX5_set wsX5_set) := goodIn_app (goodIn_of _ (by decide +kernel)) ggX5_add_X5_set
theorem dX5_add_0 : decode cX5_add 0 = .ok (.aload_n 0, 1) := by decide +kernel
theorem dX5_add_1 : decode cX5_add 1 = .ok (.iload_n 1, 1) := by decide +kernel
theorem dX5_add_2 : decode cX5_add 2 = .ok (.aload_n 0, 1) := by decide +kernel
theorem dX5_add_3 : decode cX5_add 3 = .ok (.iload_n 1, 1) := by decide +kernel
theorem dX5_add_4 : decode cX5_add 4 = .ok (.invokevirtual 19, 3) := by decide +kernel
theorem dX5_add_7 : decode cX5_add 7 = .ok (.iload_n 2, 1) := by decide +kernel
theorem dX5_add_8 : decode cX5_add 8 = .ok (.iadd, 1) := by decide +kernel
theorem dX5_add_9 : decode cX5_add 9 = .ok (.invokevirtual 23, 3) := by decide +kernel
theorem dX5_add_12 : decode cX5_add 12 = .ok (.pop, 1) := by decide +kernel
theorem dX5_add_13 : decode cX5_add 13 = .ok (.return_, 1) := by decide +kernel
theorem dX5_fill_0 : decode cX5_fill 0 = .ok (.iconst 0, 1) := by decide +kernel
theorem dX5_fill_1 : decode cX5_fill 1 = .ok (.istore_n 2, 1) := by decide +kernel
theorem dX5_fill_2 : decode cX5_fill 2 = .ok (.iload_n 2, 1) := by decide +kernel
theorem dX5_fill_3 : decode cX5_fill 3 = .ok (.aload_n 0, 1) := by decide +kernel
theorem dX5_fill_4 : decode cX5_fill 4 = .ok (.getfield 13, 3) := by decide +kernel
theorem dX5_fill_7 : decode cX5_fill 7 = .ok (.arraylength, 1) := by decide +kernel
theorem dX5_fill_8 : decode cX5_fill 8 = .ok (.if_icmp .ge 16, 3) := by decide +kernel
theorem dX5_fill_11 : decode cX5_fill 11 = .ok (.aload_n 0, 1) := by decide +kernel
theorem dX5_fill_12 : decode cX5_fill 12 = .ok (.getfield 13, 3) := by decide +kernel
theorem dX5_fill_15 : decode cX5_fill 15 = .ok (.iload_n 2, 1) := by decide +kernel
theorem dX5_fill_16 : decode cX5_fill 16 = .ok (.iload_n 1, 1) := by decide +kernel
theorem dX5_fill_17 : decode cX5_fill 17 = .ok (.iastore, 1) := by decide +kernel
theorem dX5_fill_18 : decode cX5_fill 18 = .ok (.iinc 2 1, 3) := by decide +kernel
theorem dX5_fill_21 : decode cX5_fill 21 = .ok (.goto (-19), 3) := by decide +kernel
theorem dX5_fill_24 : decode cX5_fill 24 = .ok (.return_, 1) := by decide +kernel
set_option maxRecDepth 20000 in
theorem ggX6_init_X3_init : GoodIn wsX6_init wsX3_init := goodIn_r _ [33, 34, 2, 3, 35, 21, 22, 36, 37, 38, 39, 40, 41, 42, 43, 44, 45, 46, 47, 134, 103, 104] (by decide +kernel) (by decide +kernel)
set_option maxRecDepth 20000 in
theorem gX6_init_X3_init_n9 : GoodIn wsX6_init (wsX3_init) := ggX6_init_X3_init
set_option maxRecDepth 20000 in
theorem ggX6_init_X0_init : GoodIn wsX6_init wsX0_init := goodIn_r _ [49, 50, 2, 3, 51, 21, 22, 52, 53, 54, 25, 26, 55, 56, 39, 40, 41, 42, 43, 44, 45, 46, 47, 57, 58, 59, 60, 61, 62, 63, 134, 115, 116, 117, 135, 136] (by decide +kernel) (by decide +kernel)
set_option maxRecDepth 20000 in
theorem gX6_init_X0_init_n18 : GoodIn wsX6_init (wsX0_init) := ggX6_init_X0_init
set_option maxRecDepth 20000 in
theorem ggX6_init_X1_init : GoodIn wsX6_init wsX1_init := goodIn_r _ [66, 67, 2, 3, 68, 21, 22, 69, 70, 71, 72, 73, 74, 75, 25, 26, 76, 77, 78, 39, 40, 41, 42, 43, 44, 45, 46, 47, 79, 58, 59, 60, 61, 62, 63, 80, 81, 82, 14, 83, 84, 85, 86, 87, 134, 118, 119, 120, 121, 122, 123, 124, 125, 135, 136] (by decide +kernel) (by decide +kernel)
set_option maxRecDepth 20000 in
theorem gX6_init_X1_init : GoodIn wsX6_init (wsX1_init) := ggX6_init_X1_init
set_option maxRecDepth 20000 in
theorem ggX6_init_X4_init : GoodIn wsX6_init wsX4_init := goodIn_r _ [89, 90, 2, 3, 91, 21, 22, 92, 93, 94, 95, 96, 97, 98, 99, 100, 39, 40, 41, 42, 43, 44, 45, 46, 47, 134, 126, 127, 128, 129, 130, 131, 132, 133] (by decide +kernel) (by decide +kernel)
set_option maxRecDepth 20000 in
theorem gX6_init_X4_init_n32 : GoodIn wsX6_init (wsX4_init) := ggX6_init_X4_init
set_option maxRecDepth 20000 in
theorem ggX6_init_X5_init : GoodIn wsX6_init wsX5_init := goodIn_r _ [40, 41, 2, 3, 42, 43, 44, 45, 46, 47, 134] (by decide +kernel) (by decide +kernel)
set_option maxRecDepth 20000 in
theorem gX6_init_X5_init : GoodIn wsX6_init (wsX5_init) := ggX6_init_X5_init
set_option maxRecDepth 20000 in
theorem ggX6_init_X2_init : GoodIn wsX6_init wsX2_init := goodIn_r _ [59, 60, 2, 3, 61, 62, 43, 44, 45, 46, 63, 135, 136] (by decide +kernel) (by decide +kernel)
set_option maxRecDepth 20000 in
theorem gX6_init_X2_init : GoodIn wsX6_init (wsX2_init) := ggX6_init_X2_init
theorem dX6_init_0 : decode cX6_init 0 = .ok (.aload_n 0, 1) := by decide +kernel
theorem dX6_init_1 : decode cX6_init 1 = .ok (.invokespecial 1, 3) := by decide +kernel
theorem dX6_init_4 : decode cX6_init 4 = .ok (.aload_n 0, 1) := by decide +kernel
theorem dX6_init_5 : decode cX6_init 5 = .ok (.new 7, 3) := by decide +kernel
theorem dX6_init_8 : decode cX6_init 8 = .ok (.dup, 1) := by decide +kernel
theorem dX6_init_9 : decode cX6_init 9 = .ok (.invokespecial 9, 3) := by decide +kernel
theorem dX6_init_12 : decode cX6_init 12 = .ok (.putfield 10, 3) := by decide +kernel
theorem dX6_init_15 : decode cX6_init 15 = .ok (.aload_n 0, 1) := by decide +kernel
theorem dX6_init_16 : decode cX6_init 16 = .ok (.new 16, 3) := by decide +kernel
theorem dX6_init_19 : decode cX6_init 19 = .ok (.dup, 1) := by decide +kernel
theorem dX6_init_20 : decode cX6_init 20 = .ok (.invokespecial 18, 3) := by decide +kernel
theorem dX6_init_23 : decode cX6_init 23 = .ok (.putfield 19, 3) := by decide +kernel
theorem dX6_init_26 : decode cX6_init 26 = .ok (.aload_n 0, 1) := by decide +kernel
theorem dX6_init_27 : decode cX6_init 27 = .ok (.new 23, 3) := by decide +kernel
theorem dX6_init_30 : decode cX6_init 30 = .ok (.dup, 1) := by decide +kernel
theorem dX6_init_31 : decode cX6_init 31 = .ok (.invokespecial 25, 3) := by decide +kernel
theorem dX6_init_34 : decode cX6_init 34 = .ok (.putfield 26, 3) := by decide +kernel
theorem dX6_init_37 : decode cX6_init 37 = .ok (.aload_n 0, 1) := by decide +kernel
theorem dX6_init_38 : decode cX6_init 38 = .ok (.new 30, 3) := by decide +kernel
theorem dX6_init_41 : decode cX6_init 41 = .ok (.dup, 1) := by decide +kernel
theorem dX6_init_42 : decode cX6_init 42 = .ok (.invokespecial 32, 3) := by decide +kernel
theorem dX6_init_45 : decode cX6_init 45 = .ok (.putfield 33, 3) := by decide +kernel
theorem dX6_init_48 : decode cX6_init 48 = .ok (.aload_n 0, 1) := by decide +kernel
theorem dX6_init_49 : decode cX6_init 49 = .ok (.new 37, 3) := by decide +kernel
theorem dX6_init_52 : decode cX6_init 52 = .ok (.dup, 1) := by decide +kernel
theorem dX6_init_53 : decode cX6_init 53 = .ok (.bipush 18, 2) := by decide +kernel
theorem dX6_init_55 : decode cX6_init 55 = .ok (.invokespecial 39, 3) := by decide +kernel
theorem dX6_init_58 : decode cX6_init 58 = .ok (.putfield 42, 3) := by decide +kernel
theorem dX6_init_61 : decode cX6_init 61 = .ok (.aload_n 0, 1) := by decide +kernel
theorem dX6_init_62 : decode cX6_init 62 = .ok (.new 46, 3) := by decide +kernel
theorem dX6_init_65 : decode cX6_init 65 = .ok (.dup, 1) := by decide +kernel
theorem dX6_init_66 : decode cX6_init 66 = .ok (.sipush 300, 3) := by decide +kernel
theorem dX6_init_69 : decode cX6_init 69 = .ok (.invokespecial 48, 3) := by decide +kernel
theorem dX6_init_72 : decode cX6_init 72 = .ok (.putfield 49, 3) := by decide +kernel
theorem dX6_init_75 : decode cX6_init 75 = .ok (.aload_n 0, 1) := by decide +kernel
theorem dX6_init_76 : decode cX6_init 76 = .ok (.iconst 0, 1) := by decide +kernel
theorem dX6_init_77 : decode cX6_init 77 = .ok (.putfield 53, 3) := by decide +kernel
theorem dX6_init_80 : decode cX6_init 80 = .ok (.aload_n 0, 1) := by decide +kernel
theorem dX6_init_81 : decode cX6_init 81 = .ok (.iconst 3, 1) := by decide +kernel
theorem dX6_init_82 : decode cX6_init 82 = .ok (.putfield 57, 3) := by decide +kernel
theorem dX6_init_85 : decode cX6_init 85 = .ok (.aload_n 0, 1) := by decide +kernel
theorem dX6_init_86 : decode cX6_init 86 = .ok (.iconst 0, 1) := by decide +kernel
theorem dX6_init_87 : decode cX6_init 87 = .ok (.putfield 60, 3) := by decide +kernel
theorem dX6_init_90 : decode cX6_init 90 = .ok (.aload_n 0, 1) := by decide +kernel
theorem dX6_init_91 : decode cX6_init 91 = .ok (.iconst (-1), 1) := by decide +kernel
theorem dX6_init_92 : decode cX6_init 92 = .ok (.putfield 63, 3) := by decide +kernel
theorem dX6_init_95 : decode cX6_init 95 = .ok (.return_, 1) := by decide +kernel
set_option maxRecDepth 20000 in
theorem ggX6_act_X6_isWithin : GoodIn wsX6_act wsX6_isWithin := goodIn_r _ [5] (by decide +kernel) (by decide +kernel)
set_option maxRecDepth 20000 in
theorem gX6_act_X6_isWithin : GoodIn wsX6_act (va_wsS RX6 66 yX6_isWithin wsX6_isWithin) := goodIn_app (goodIn_of _ (by decide +kernel)) ggX6_act_X6_isWithin
set_option maxRecDepth 20000 in
theorem ggX6_act_X6_isUnderWay : GoodIn wsX6_act wsX6_isUnderWay := goodIn_r _ [9, 10, 28, 29, 30, 31, 32, 33, 34, 35, 36, 37] (by decide +kernel) (by decide +kernel)
set_option maxRecDepth 20000 in
theorem gX6_act_X6_isUnderWay : GoodIn wsX6_act (wsV RX6 70 RX6 yX6_isUnderWay wsX6_isUnderWay) := goodIn_app (goodIn_of _ (by decide +kernel)) ggX6_act_X6_isUnderWay
set_option maxRecDepth 20000 in
theorem ggX6_act_X3_add : GoodIn wsX6_act wsX3_add := goodIn_r _ [15, 16, 17, 18, 19, 20, 21, 22, 23, 38, 39, 40] (by decide +kernel) (by decide +kernel)
set_option maxRecDepth 20000 in
theorem gX6_act_X3_add : GoodIn wsX6_act (wsV RX6 74 RX3 yX3_add wsX3_add) := goodIn_app (goodIn_of _ (by decide +kernel)) ggX6_act_X3_add
set_option maxRecDepth 20000 in
theorem ggX6_act_X3_size : GoodIn wsX6_act wsX3_size := goodIn_r _ [27, 16, 38, 39] (by decide +kernel) (by decide +kernel)
set_option maxRecDepth 20000 in
theorem gX6_act_X3_size : GoodIn wsX6_act (wsV RX6 78 RX3 yX3_size wsX3_size) := goodIn_app (goodIn_of _ (by decide +kernel)) ggX6_act_X3_size
theorem dX6_act_0 : decode cX6_act 0 = .ok (.iload_n 1, 1) := by decide +kernel
theorem dX6_act_1 : decode cX6_act 1 = .ok (.iconst 5, 1) := by decide +kernel
theorem dX6_act_2 : decode cX6_act 2 = .ok (.if_icmp .lt 13, 3) := by decide +kernel
theorem dX6_act_5 : decode cX6_act 5 = .ok (.iload_n 1, 1) := by decide +kernel
theorem dX6_act_6 : decode cX6_act 6 = .ok (.bipush 8, 2) := by decide +kernel
theorem dX6_act_8 : decode cX6_act 8 = .ok (.if_icmp .gt 7, 3) := by decide +kernel
theorem dX6_act_11 : decode cX6_act 11 = .ok (.iconst 1, 1) := by decide +kernel
theorem dX6_act_12 : decode cX6_act 12 = .ok (.goto 4, 3) := by decide +kernel
theorem dX6_act_15 : decode cX6_act 15 = .ok (.iconst 0, 1) := by decide +kernel
theorem dX6_act_16 : decode cX6_act 16 = .ok (.istore 5, 2) := by decide +kernel
theorem dX6_act_18 : decode cX6_act 18 = .ok (.iload_n 1, 1) := by decide +kernel
theorem dX6_act_19 : decode cX6_act 19 = .ok (.iconst 0, 1) := by decide +kernel
theorem dX6_act_20 : decode cX6_act 20 = .ok (.bipush 11, 2) := by decide +kernel
theorem dX6_act_22 : decode cX6_act 22 = .ok (.invokestatic 66, 3) := by decide +kernel
theorem dX6_act_25 : decode cX6_act 25 = .ok (.ifCond .eq 39, 3) := by decide +kernel
theorem dX6_act_28 : decode cX6_act 28 = .ok (.iload_n 2, 1) := by decide +kernel
theorem dX6_act_29 : decode cX6_act 29 = .ok (.iconst 0, 1) := by decide +kernel
theorem dX6_act_30 : decode cX6_act 30 = .ok (.bipush 7, 2) := by decide +kernel
theorem dX6_act_32 : decode cX6_act 32 = .ok (.invokestatic 66, 3) := by decide +kernel
theorem dX6_act_35 : decode cX6_act 35 = .ok (.ifCond .eq 29, 3) := by decide +kernel
theorem dX6_act_38 : decode cX6_act 38 = .ok (.iload_n 3, 1) := by decide +kernel
theorem dX6_act_39 : decode cX6_act 39 = .ok (.iconst 0, 1) := by decide +kernel
theorem dX6_act_40 : decode cX6_act 40 = .ok (.bipush 7, 2) := by decide +kernel
theorem dX6_act_42 : decode cX6_act 42 = .ok (.invokestatic 66, 3) := by decide +kernel
theorem dX6_act_45 : decode cX6_act 45 = .ok (.ifCond .eq 19, 3) := by decide +kernel
theorem dX6_act_48 : decode cX6_act 48 = .ok (.iload 5, 2) := by decide +kernel
theorem dX6_act_50 : decode cX6_act 50 = .ok (.ifCond .eq 17, 3) := by decide +kernel
theorem dX6_act_53 : decode cX6_act 53 = .ok (.iload 4, 2) := by decide +kernel
theorem dX6_act_55 : decode cX6_act 55 = .ok (.iconst 0, 1) := by decide +kernel
theorem dX6_act_56 : decode cX6_act 56 = .ok (.bipush 60, 2) := by decide +kernel
theorem dX6_act_58 : decode cX6_act 58 = .ok (.invokestatic 66, 3) := by decide +kernel
theorem dX6_act_61 : decode cX6_act 61 = .ok (.ifCond .ne 6, 3) := by decide +kernel
theorem dX6_act_64 : decode cX6_act 64 = .ok (.bipush (-102), 2) := by decide +kernel
theorem dX6_act_66 : decode cX6_act 66 = .ok (.ireturn, 1) := by decide +kernel
theorem dX6_act_67 : decode cX6_act 67 = .ok (.aload_n 0, 1) := by decide +kernel
theorem dX6_act_68 : decode cX6_act 68 = .ok (.invokevirtual 70, 3) := by decide +kernel
theorem dX6_act_71 : decode cX6_act 71 = .ok (.ifCond .eq 6, 3) := by decide +kernel
theorem dX6_act_74 : decode cX6_act 74 = .ok (.bipush (-103), 2) := by decide +kernel
theorem dX6_act_76 : decode cX6_act 76 = .ok (.ireturn, 1) := by decide +kernel
theorem dX6_act_77 : decode cX6_act 77 = .ok (.aload_n 0, 1) := by decide +kernel
theorem dX6_act_78 : decode cX6_act 78 = .ok (.getfield 10, 3) := by decide +kernel
theorem dX6_act_81 : decode cX6_act 81 = .ok (.iload_n 1, 1) := by decide +kernel
theorem dX6_act_82 : decode cX6_act 82 = .ok (.iload_n 2, 1) := by decide +kernel
theorem dX6_act_83 : decode cX6_act 83 = .ok (.iload_n 3, 1) := by decide +kernel
theorem dX6_act_84 : decode cX6_act 84 = .ok (.iload 4, 2) := by decide +kernel
theorem dX6_act_86 : decode cX6_act 86 = .ok (.invokevirtual 74, 3) := by decide +kernel
theorem dX6_act_89 : decode cX6_act 89 = .ok (.ifCond .eq 15, 3) := by decide +kernel
theorem dX6_act_92 : decode cX6_act 92 = .ok (.aload_n 0, 1) := by decide +kernel
theorem dX6_act_93 : decode cX6_act 93 = .ok (.getfield 10, 3) := by decide +kernel
theorem dX6_act_96 : decode cX6_act 96 = .ok (.invokevirtual 78, 3) := by decide +kernel
theorem dX6_act_99 : decode cX6_act 99 = .ok (.iconst 1, 1) := by decide +kernel
theorem dX6_act_100 : decode cX6_act 100 = .ok (.isub, 1) := by decide +kernel
theorem dX6_act_101 : decode cX6_act 101 = .ok (.goto 5, 3) := by decide +kernel
theorem dX6_act_104 : decode cX6_act 104 = .ok (.bipush (-104), 2) := by decide +kernel
theorem dX6_act_106 : decode cX6_act 106 = .ok (.ireturn, 1) := by decide +kernel
set_option maxRecDepth 20000 in
theorem ggX6_wipe_X6_isUnderWay : GoodIn wsX6_wipe wsX6_isUnderWay := goodIn_r _ [6, 7, 14, 15, 16, 17, 18, 19, 20, 21, 22, 23] (by decide +kernel) (by decide +kernel)
set_option maxRecDepth 20000 in
theorem gX6_wipe_X6_isUnderWay : GoodIn wsX6_wipe (wsV RX6 70 RX6 yX6_isUnderWay wsX6_isUnderWay) := goodIn_app (goodIn_of _ (by decide +kernel)) ggX6_wipe_X6_isUnderWay
set_option maxRecDepth 20000 in
theorem ggX6_wipe_X3_clear : GoodIn wsX6_wipe wsX3_clear := goodIn_r _ [12, 13, 24, 25] (by decide +kernel) (by decide +kernel)
set_option maxRecDepth 20000 in
theorem gX6_wipe_X3_clear : GoodIn wsX6_wipe (wsV RX6 82 RX3 yX3_clear wsX3_clear) := goodIn_app (goodIn_of _ (by decide +kernel)) ggX6_wipe_X3_clear
theorem dX6_wipe_0 : decode cX6_wipe 0 = .ok (.aload_n 0, 1) := by decide +kernel
theorem dX6_wipe_1 : decode cX6_wipe 1 = .ok (.invokevirtual 70, 3) := by decide +kernel
theorem dX6_wipe_4 : decode cX6_wipe 4 = .ok (.ifCond .eq 8, 3) := by decide +kernel
theorem dX6_wipe_7 : decode cX6_wipe 7 = .ok (.bipush (-103), 2) := by decide +kernel
theorem dX6_wipe_9 : decode cX6_wipe 9 = .ok (.goto 10, 3) := by decide +kernel
theorem dX6_wipe_12 : decode cX6_wipe 12 = .ok (.aload_n 0, 1) := by decide +kernel
theorem dX6_wipe_13 : decode cX6_wipe 13 = .ok (.getfield 10, 3) := by decide +kernel
theorem dX6_wipe_16 : decode cX6_wipe 16 = .ok (.invokevirtual 82, 3) := by decide +kernel
theorem dX6_wipe_19 : decode cX6_wipe 19 = .ok (.ireturn, 1) := by decide +kernel
set_option maxRecDepth 20000 in
theorem ggX6_put_X0_hasCell : GoodIn wsX6_put wsX0_hasCell := goodIn_r _ [8] (by decide +kernel) (by decide +kernel)
set_option maxRecDepth 20000 in
theorem gX6_put_X0_hasCell : GoodIn wsX6_put (wsV RX6 85 RX0 yX0_hasCell wsX0_hasCell) := goodIn_app (goodIn_of _ (by decide +kernel)) ggX6_put_X0_hasCell
set_option maxRecDepth 20000 in
theorem ggX6_put_X6_isUnderWay : GoodIn wsX6_put wsX6_isUnderWay := goodIn_r _ [13, 14, 27, 28, 29, 30, 31, 32, 33, 34, 35, 36] (by decide +kernel) (by decide +kernel)
set_option maxRecDepth 20000 in
theorem gX6_put_X6_isUnderWay : GoodIn wsX6_put (wsV RX6 70 RX6 yX6_isUnderWay wsX6_isUnderWay) := goodIn_app (goodIn_of _ (by decide +kernel)) ggX6_put_X6_isUnderWay
set_option maxRecDepth 20000 in
theorem ggX6_put_X0_setCell : GoodIn wsX6_put wsX0_setCell := goodIn_r _ [18, 19, 20, 21, 22, 23, 24, 25, 26, 37, 38, 39, 40] (by decide +kernel) (by decide +kernel)
set_option maxRecDepth 20000 in
theorem gX6_put_X0_setCell : GoodIn wsX6_put (wsV RX6 93 RX0 yX0_setCell wsX0_setCell) := goodIn_app (goodIn_of _ (by decide +kernel)) ggX6_put_X0_setCell
theorem dX6_put_0 : decode cX6_put 0 = .ok (.aload_n 0, 1) := by decide +kernel
theorem dX6_put_1 : decode cX6_put 1 = .ok (.getfield 19, 3) := by decide +kernel
theorem dX6_put_4 : decode cX6_put 4 = .ok (.iload_n 1, 1) := by decide +kernel
theorem dX6_put_5 : decode cX6_put 5 = .ok (.invokevirtual 85, 3) := by decide +kernel
theorem dX6_put_8 : decode cX6_put 8 = .ok (.ifCond .ne 7, 3) := by decide +kernel
theorem dX6_put_11 : decode cX6_put 11 = .ok (.ldc2_w 89, 3) := by decide +kernel
theorem dX6_put_14 : decode cX6_put 14 = .ok (.lreturn, 1) := by decide +kernel
theorem dX6_put_15 : decode cX6_put 15 = .ok (.aload_n 0, 1) := by decide +kernel
theorem dX6_put_16 : decode cX6_put 16 = .ok (.invokevirtual 70, 3) := by decide +kernel
theorem dX6_put_19 : decode cX6_put 19 = .ok (.ifCond .eq 9, 3) := by decide +kernel
theorem dX6_put_22 : decode cX6_put 22 = .ok (.ldc2_w 91, 3) := by decide +kernel
theorem dX6_put_25 : decode cX6_put 25 = .ok (.goto 13, 3) := by decide +kernel
theorem dX6_put_28 : decode cX6_put 28 = .ok (.aload_n 0, 1) := by decide +kernel
theorem dX6_put_29 : decode cX6_put 29 = .ok (.getfield 19, 3) := by decide +kernel
theorem dX6_put_32 : decode cX6_put 32 = .ok (.iload_n 1, 1) := by decide +kernel
theorem dX6_put_33 : decode cX6_put 33 = .ok (.iload_n 2, 1) := by decide +kernel
theorem dX6_put_34 : decode cX6_put 34 = .ok (.invokevirtual 93, 3) := by decide +kernel
theorem dX6_put_37 : decode cX6_put 37 = .ok (.i2l, 1) := by decide +kernel
theorem dX6_put_38 : decode cX6_put 38 = .ok (.lreturn, 1) := by decide +kernel
set_option maxRecDepth 20000 in
theorem ggX6_way_X6_isWithin : GoodIn wsX6_way wsX6_isWithin := goodIn_r _ [6] (by decide +kernel) (by decide +kernel)
set_option maxRecDepth 20000 in
theorem gX6_way_X6_isWithin : GoodIn wsX6_way (va_wsS RX6 66 yX6_isWithin wsX6_isWithin) := goodIn_app (goodIn_of _ (by decide +kernel)) ggX6_way_X6_isWithin
set_option maxRecDepth 20000 in
theorem ggX6_way_X6_isUnderWay : GoodIn wsX6_way wsX6_isUnderWay := goodIn_r _ [10, 11, 12, 13, 14, 15, 16, 17, 18, 19, 20, 21] (by decide +kernel) (by decide +kernel)
set_option maxRecDepth 20000 in
theorem gX6_way_X6_isUnderWay : GoodIn wsX6_way (wsV RX6 70 RX6 yX6_isUnderWay wsX6_isUnderWay) := goodIn_app (goodIn_of _ (by decide +kernel)) ggX6_way_X6_isUnderWay
theorem dX6_way_0 : decode cX6_way 0 = .ok (.iload_n 1, 1) := by decide +kernel
theorem dX6_way_1 : decode cX6_way 1 = .ok (.iconst 0, 1) := by decide +kernel
theorem dX6_way_2 : decode cX6_way 2 = .ok (.iconst 3, 1) := by decide +kernel
theorem dX6_way_3 : decode cX6_way 3 = .ok (.invokestatic 66, 3) := by decide +kernel
theorem dX6_way_6 : decode cX6_way 6 = .ok (.ifCond .eq 13, 3) := by decide +kernel
theorem dX6_way_9 : decode cX6_way 9 = .ok (.iload_n 2, 1) := by decide +kernel
theorem dX6_way_10 : decode cX6_way 10 = .ok (.iconst 1, 1) := by decide +kernel
theorem dX6_way_11 : decode cX6_way 11 = .ok (.bipush 6, 2) := by decide +kernel
theorem dX6_way_13 : decode cX6_way 13 = .ok (.invokestatic 66, 3) := by decide +kernel
theorem dX6_way_16 : decode cX6_way 16 = .ok (.ifCond .ne 6, 3) := by decide +kernel
theorem dX6_way_19 : decode cX6_way 19 = .ok (.bipush (-102), 2) := by decide +kernel
theorem dX6_way_21 : decode cX6_way 21 = .ok (.ireturn, 1) := by decide +kernel
theorem dX6_way_22 : decode cX6_way 22 = .ok (.aload_n 0, 1) := by decide +kernel
theorem dX6_way_23 : decode cX6_way 23 = .ok (.invokevirtual 70, 3) := by decide +kernel
theorem dX6_way_26 : decode cX6_way 26 = .ok (.ifCond .eq 6, 3) := by decide +kernel
theorem dX6_way_29 : decode cX6_way 29 = .ok (.bipush (-103), 2) := by decide +kernel
theorem dX6_way_31 : decode cX6_way 31 = .ok (.ireturn, 1) := by decide +kernel
theorem dX6_way_32 : decode cX6_way 32 = .ok (.aload_n 0, 1) := by decide +kernel
theorem dX6_way_33 : decode cX6_way 33 = .ok (.iload_n 1, 1) := by decide +kernel
theorem dX6_way_34 : decode cX6_way 34 = .ok (.putfield 53, 3) := by decide +kernel
theorem dX6_way_37 : decode cX6_way 37 = .ok (.aload_n 0, 1) := by decide +kernel
theorem dX6_way_38 : decode cX6_way 38 = .ok (.iload_n 2, 1) := by decide +kernel
theorem dX6_way_39 : decode cX6_way 39 = .ok (.putfield 57, 3) := by decide +kernel
theorem dX6_way_42 : decode cX6_way 42 = .ok (.iconst 1, 1) := by decide +kernel
theorem dX6_way_43 : decode cX6_way 43 = .ok (.ireturn, 1) := by decide +kernel
set_option maxRecDepth 20000 in
theorem ggX6_begin_X6_isUnderWay : GoodIn wsX6_begin wsX6_isUnderWay := goodIn_r _ [11, 6, 46, 47, 48, 49, 50, 51, 52, 53, 54, 55] (by decide +kernel) (by decide +kernel)
set_option maxRecDepth 20000 in
theorem gX6_begin_X6_isUnderWay : GoodIn wsX6_begin (wsV RX6 70 RX6 yX6_isUnderWay wsX6_isUnderWay) := goodIn_app (goodIn_of _ (by decide +kernel)) ggX6_begin_X6_isUnderWay
set_option maxRecDepth 20000 in
theorem ggX6_begin_X5_set : GoodIn wsX6_begin wsX5_set := goodIn_r _ [16, 17, 56] (by decide +kernel) (by decide +kernel)
set_option maxRecDepth 20000 in
theorem gX6_begin_X5_set : GoodIn wsX6_begin (wsV RX6 97 RX5 yX5_set wsX5_set) := goodIn_app (goodIn_of _ (by decide +kernel)) ggX6_begin_X5_set
set_option maxRecDepth 20000 in
theorem ggX6_begin_X5_add : GoodIn wsX6_begin wsX5_add := goodIn_r _ [21, 22, 23, 24, 15, 25, 17, 26, 13, 14, 16, 56] (by decide +kernel) (by decide +kernel)
set_option maxRecDepth 20000 in
theorem gX6_begin_X5_add : GoodIn wsX6_begin (wsV RX6 100 RX5 yX5_add wsX5_add) := goodIn_app (goodIn_of _ (by decide +kernel)) ggX6_begin_X5_add
set_option maxRecDepth 20000 in
theorem ggX6_begin_X2_clear : GoodIn wsX6_begin wsX2_clear := goodIn_r _ [31, 32, 57, 58] (by decide +kernel) (by decide +kernel)
set_option maxRecDepth 20000 in
theorem gX6_begin_X2_clear : GoodIn wsX6_begin (wsV RX6 103 RX2 yX2_clear wsX2_clear) := goodIn_app (goodIn_of _ (by decide +kernel)) ggX6_begin_X2_clear
set_option maxRecDepth 20000 in
theorem ggX6_begin_X0_emptyStack : GoodIn wsX6_begin wsX0_emptyStack := goodIn_r _ [37, 38, 39, 28, 29, 30, 31, 32, 59, 60, 61, 57, 58] (by decide +kernel) (by decide +kernel)
set_option maxRecDepth 20000 in
theorem gX6_begin_X0_emptyStack : GoodIn wsX6_begin (wsV RX6 105 RX0 yX0_emptyStack wsX0_emptyStack) := goodIn_app (goodIn_of _ (by decide +kernel)) ggX6_begin_X0_emptyStack
set_option maxRecDepth 20000 in
theorem ggX6_begin_X1_returns : GoodIn wsX6_begin wsX1_returns := goodIn_r _ [44, 45, 62, 63, 64, 65, 66, 67, 68, 69] (by decide +kernel) (by decide +kernel)
set_option maxRecDepth 20000 in
theorem gX6_begin_X1_returns : GoodIn wsX6_begin (wsV RX6 108 RX1 yX1_returns wsX1_returns) := goodIn_app (goodIn_of _ (by decide +kernel)) ggX6_begin_X1_returns
theorem dX6_begin_0 : decode cX6_begin 0 = .ok (.aload_n 0, 1) := by decide +kernel
theorem dX6_begin_1 : decode cX6_begin 1 = .ok (.invokevirtual 70, 3) := by decide +kernel
theorem dX6_begin_4 : decode cX6_begin 4 = .ok (.ifCond .eq 6, 3) := by decide +kernel
theorem dX6_begin_7 : decode cX6_begin 7 = .ok (.bipush (-103), 2) := by decide +kernel
theorem dX6_begin_9 : decode cX6_begin 9 = .ok (.ireturn, 1) := by decide +kernel
theorem dX6_begin_10 : decode cX6_begin 10 = .ok (.iconst 0, 1) := by decide +kernel
theorem dX6_begin_11 : decode cX6_begin 11 = .ok (.istore_n 1, 1) := by decide +kernel
theorem dX6_begin_12 : decode cX6_begin 12 = .ok (.iload_n 1, 1) := by decide +kernel
theorem dX6_begin_13 : decode cX6_begin 13 = .ok (.bipush 8, 2) := by decide +kernel
theorem dX6_begin_15 : decode cX6_begin 15 = .ok (.if_icmp .gt 19, 3) := by decide +kernel
theorem dX6_begin_18 : decode cX6_begin 18 = .ok (.aload_n 0, 1) := by decide +kernel
theorem dX6_begin_19 : decode cX6_begin 19 = .ok (.getfield 42, 3) := by decide +kernel
theorem dX6_begin_22 : decode cX6_begin 22 = .ok (.iload_n 1, 1) := by decide +kernel
theorem dX6_begin_23 : decode cX6_begin 23 = .ok (.iconst 0, 1) := by decide +kernel
theorem dX6_begin_24 : decode cX6_begin 24 = .ok (.invokevirtual 97, 3) := by decide +kernel
theorem dX6_begin_27 : decode cX6_begin 27 = .ok (.pop, 1) := by decide +kernel
theorem dX6_begin_28 : decode cX6_begin 28 = .ok (.iinc 1 1, 3) := by decide +kernel
theorem dX6_begin_31 : decode cX6_begin 31 = .ok (.goto (-19), 3) := by decide +kernel
theorem dX6_begin_34 : decode cX6_begin 34 = .ok (.aload_n 0, 1) := by decide +kernel
theorem dX6_begin_35 : decode cX6_begin 35 = .ok (.getfield 42, 3) := by decide +kernel
theorem dX6_begin_38 : decode cX6_begin 38 = .ok (.bipush 12, 2) := by decide +kernel
theorem dX6_begin_40 : decode cX6_begin 40 = .ok (.iconst 1, 1) := by decide +kernel
theorem dX6_begin_41 : decode cX6_begin 41 = .ok (.invokevirtual 100, 3) := by decide +kernel
theorem dX6_begin_44 : decode cX6_begin 44 = .ok (.aload_n 0, 1) := by decide +kernel
theorem dX6_begin_45 : decode cX6_begin 45 = .ok (.getfield 49, 3) := by decide +kernel
theorem dX6_begin_48 : decode cX6_begin 48 = .ok (.invokevirtual 103, 3) := by decide +kernel
theorem dX6_begin_51 : decode cX6_begin 51 = .ok (.aload_n 0, 1) := by decide +kernel
theorem dX6_begin_52 : decode cX6_begin 52 = .ok (.getfield 19, 3) := by decide +kernel
theorem dX6_begin_55 : decode cX6_begin 55 = .ok (.invokevirtual 105, 3) := by decide +kernel
theorem dX6_begin_58 : decode cX6_begin 58 = .ok (.aload_n 0, 1) := by decide +kernel
theorem dX6_begin_59 : decode cX6_begin 59 = .ok (.getfield 26, 3) := by decide +kernel
theorem dX6_begin_62 : decode cX6_begin 62 = .ok (.invokevirtual 108, 3) := by decide +kernel
theorem dX6_begin_65 : decode cX6_begin 65 = .ok (.invokevirtual 103, 3) := by decide +kernel
theorem dX6_begin_68 : decode cX6_begin 68 = .ok (.aload_n 0, 1) := by decide +kernel
theorem dX6_begin_69 : decode cX6_begin 69 = .ok (.iconst 0, 1) := by decide +kernel
theorem dX6_begin_70 : decode cX6_begin 70 = .ok (.putfield 60, 3) := by decide +kernel
theorem dX6_begin_73 : decode cX6_begin 73 = .ok (.aload_n 0, 1) := by decide +kernel
theorem dX6_begin_74 : decode cX6_begin 74 = .ok (.iconst 0, 1) := by decide +kernel
theorem dX6_begin_75 : decode cX6_begin 75 = .ok (.putfield 63, 3) := by decide +kernel
theorem dX6_begin_78 : decode cX6_begin 78 = .ok (.iconst 1, 1) := by decide +kernel
theorem dX6_begin_79 : decode cX6_begin 79 = .ok (.ireturn, 1) := by decide +kernel
set_option maxRecDepth 20000 in
theorem ggX6_run_X6_isWithin : GoodIn wsX6_run wsX6_isWithin := goodIn_r _ [5] (by decide +kernel) (by decide +kernel)
set_option maxRecDepth 20000 in
theorem gX6_run_X6_isWithin : GoodIn wsX6_run (va_wsS RX6 66 yX6_isWithin wsX6_isWithin) := goodIn_app (goodIn_of _ (by decide +kernel)) ggX6_run_X6_isWithin
set_option maxRecDepth 20000 in
theorem ggX6_run_X6_isUnderWay : GoodIn wsX6_run wsX6_isUnderWay := goodIn_r _ [9, 10, 262, 263, 264, 265, 266, 267, 268, 269, 270, 271] (by decide +kernel) (by decide +kernel)
set_option maxRecDepth 20000 in
theorem gX6_run_X6_isUnderWay : GoodIn wsX6_run (wsV RX6 70 RX6 yX6_isUnderWay wsX6_isUnderWay) := goodIn_app (goodIn_of _ (by decide +kernel)) ggX6_run_X6_isUnderWay
set_option maxRecDepth 20000 in
theorem ggX6_run_X5_get : GoodIn wsX6_run wsX5_get := goodIn_r _ [15, 16, 272] (by decide +kernel) (by decide +kernel)
set_option maxRecDepth 20000 in
theorem gX6_run_X5_get : GoodIn wsX6_run (wsV RX6 112 RX5 yX5_get wsX5_get) := goodIn_app (goodIn_of _ (by decide +kernel)) ggX6_run_X5_get
set_option maxRecDepth 20000 in
theorem ggX6_run_X6_passCycle : GoodIn wsX6_run wsX6_passCycle := goodIn_r _ [20, 1, 21, 22, 23, 24, 25, 26, 27, 14, 28, 29, 12, 13, 15, 16, 30, 31, 32, 33, 34, 35, 36, 37, 38, 39, 40, 41, 42, 43, 44, 45, 46, 47, 48, 4, 49, 10, 50, 51, 52, 53, 54, 55, 56, 57, 11, 58, 59, 60, 61, 62, 63, 64, 65, 66, 67, 68, 69, 70, 71, 72, 73, 74, 75, 76, 77, 78, 79, 80, 81, 82, 83, 84, 85, 86, 87, 88, 89, 90, 91, 92, 93, 94, 95, 96, 97, 98, 99, 2, 3, 5, 100, 101, 102, 103, 104, 105, 106, 107, 108, 109, 110, 111, 112, 113, 114, 115, 116, 117, 118, 119, 120, 121, 122, 123, 124, 125, 126, 127, 128, 129, 130, 131, 132, 133, 134, 135, 136, 137, 138, 139, 140, 141, 142, 143, 144, 145, 146, 147, 148, 149, 150, 151, 152, 153, 154, 155, 156, 157, 158, 159, 160, 161, 162, 163, 164, 165, 166, 167, 168, 169, 170, 171, 172, 173, 174, 175, 176, 177, 178, 179, 180, 181, 182, 183, 184, 185, 186, 187, 188, 189, 190, 191, 192, 193, 194, 195, 196, 197, 198, 199, 200, 201, 202, 203, 204, 205, 206, 207, 208, 209, 210, 211, 212, 213, 214, 215, 216, 217, 218, 219, 220, 6, 7, 8, 9, 221, 222, 223, 224, 225, 226, 227, 228, 229, 230, 231, 232, 233, 234, 235, 236, 237, 238, 239, 240, 241, 242, 243, 244, 245, 246, 247, 248, 249, 250, 251, 252, 253, 254, 255, 256, 257, 258, 259, 260, 261, 262, 263, 264, 265, 266, 267, 268, 269, 270, 271, 272, 273, 274, 275, 276, 277, 278, 279, 280, 281, 282, 283, 284, 285, 286, 287, 288, 289, 290, 291, 292, 293, 294, 295] (by decide +kernel) (by decide +kernel)
set_option maxRecDepth 20000 in
theorem gX6_run_X6_passCycle : GoodIn wsX6_run (wsV RX6 116 RX6 yX6_passCycle wsX6_passCycle) := goodIn_app (goodIn_of _ (by decide +kernel)) ggX6_run_X6_passCycle
theorem dX6_run_0 : decode cX6_run 0 = .ok (.iload_n 1, 1) := by decide +kernel
theorem dX6_run_1 : decode cX6_run 1 = .ok (.iconst 1, 1) := by decide +kernel
theorem dX6_run_2 : decode cX6_run 2 = .ok (.sipush 5000, 3) := by decide +kernel
theorem dX6_run_5 : decode cX6_run 5 = .ok (.invokestatic 66, 3) := by decide +kernel
theorem dX6_run_8 : decode cX6_run 8 = .ok (.ifCond .ne 6, 3) := by decide +kernel
theorem dX6_run_11 : decode cX6_run 11 = .ok (.bipush (-102), 2) := by decide +kernel
theorem dX6_run_13 : decode cX6_run 13 = .ok (.ireturn, 1) := by decide +kernel
theorem dX6_run_14 : decode cX6_run 14 = .ok (.aload_n 0, 1) := by decide +kernel
theorem dX6_run_15 : decode cX6_run 15 = .ok (.invokevirtual 70, 3) := by decide +kernel
theorem dX6_run_18 : decode cX6_run 18 = .ok (.ifCond .ne 6, 3) := by decide +kernel
theorem dX6_run_21 : decode cX6_run 21 = .ok (.bipush (-103), 2) := by decide +kernel
theorem dX6_run_23 : decode cX6_run 23 = .ok (.ireturn, 1) := by decide +kernel
theorem dX6_run_24 : decode cX6_run 24 = .ok (.aload_n 0, 1) := by decide +kernel
theorem dX6_run_25 : decode cX6_run 25 = .ok (.getfield 42, 3) := by decide +kernel
theorem dX6_run_28 : decode cX6_run 28 = .ok (.iconst 1, 1) := by decide +kernel
theorem dX6_run_29 : decode cX6_run 29 = .ok (.invokevirtual 112, 3) := by decide +kernel
theorem dX6_run_32 : decode cX6_run 32 = .ok (.istore_n 2, 1) := by decide +kernel
theorem dX6_run_33 : decode cX6_run 33 = .ok (.iconst 0, 1) := by decide +kernel
theorem dX6_run_34 : decode cX6_run 34 = .ok (.istore_n 3, 1) := by decide +kernel
theorem dX6_run_35 : decode cX6_run 35 = .ok (.iload_n 3, 1) := by decide +kernel
theorem dX6_run_36 : decode cX6_run 36 = .ok (.iload_n 1, 1) := by decide +kernel
theorem dX6_run_37 : decode cX6_run 37 = .ok (.if_icmp .ge 20, 3) := by decide +kernel
theorem dX6_run_40 : decode cX6_run 40 = .ok (.aload_n 0, 1) := by decide +kernel
theorem dX6_run_41 : decode cX6_run 41 = .ok (.invokevirtual 70, 3) := by decide +kernel
theorem dX6_run_44 : decode cX6_run 44 = .ok (.ifCond .eq 13, 3) := by decide +kernel
theorem dX6_run_47 : decode cX6_run 47 = .ok (.aload_n 0, 1) := by decide +kernel
theorem dX6_run_48 : decode cX6_run 48 = .ok (.invokevirtual 116, 3) := by decide +kernel
theorem dX6_run_51 : decode cX6_run 51 = .ok (.iinc 3 1, 3) := by decide +kernel
theorem dX6_run_54 : decode cX6_run 54 = .ok (.goto (-19), 3) := by decide +kernel
theorem dX6_run_57 : decode cX6_run 57 = .ok (.aload_n 0, 1) := by decide +kernel
theorem dX6_run_58 : decode cX6_run 58 = .ok (.getfield 42, 3) := by decide +kernel
theorem dX6_run_61 : decode cX6_run 61 = .ok (.iconst 1, 1) := by decide +kernel
theorem dX6_run_62 : decode cX6_run 62 = .ok (.invokevirtual 112, 3) := by decide +kernel
theorem dX6_run_65 : decode cX6_run 65 = .ok (.iload_n 2, 1) := by decide +kernel
theorem dX6_run_66 : decode cX6_run 66 = .ok (.isub, 1) := by decide +kernel
theorem dX6_run_67 : decode cX6_run 67 = .ok (.ireturn, 1) := by decide +kernel
set_option maxRecDepth 20000 in
theorem ggX6_stop_X6_isUnderWay : GoodIn wsX6_stop wsX6_isUnderWay := goodIn_r _ [6, 7, 42, 43, 44, 45, 46, 47, 48, 49, 50, 51] (by decide +kernel) (by decide +kernel)
set_option maxRecDepth 20000 in
theorem gX6_stop_X6_isUnderWay : GoodIn wsX6_stop (wsV RX6 70 RX6 yX6_isUnderWay wsX6_isUnderWay) := goodIn_app (goodIn_of _ (by decide +kernel)) ggX6_stop_X6_isUnderWay
set_option maxRecDepth 20000 in
theorem ggX6_stop_X6_endRun : GoodIn wsX6_stop wsX6_endRun := goodIn_r _ [11, 7, 12, 13, 14, 5, 15, 1, 16, 17, 18, 19, 20, 21, 22, 23, 24, 25, 26, 27, 28, 29, 30, 31, 32, 33, 34, 35, 36, 37, 38, 39, 40, 42, 43, 44, 45, 46, 47, 48, 49, 50, 51, 52, 53, 54, 55, 56, 57, 58, 59, 60] (by decide +kernel) (by decide +kernel)
set_option maxRecDepth 20000 in
theorem gX6_stop_X6_endRun : GoodIn wsX6_stop (wsV RX6 119 RX6 yX6_endRun wsX6_endRun) := goodIn_app (goodIn_of _ (by decide +kernel)) ggX6_stop_X6_endRun
set_option maxRecDepth 20000 in
theorem ggX6_stop_X5_get : GoodIn wsX6_stop wsX5_get := goodIn_r _ [31, 32, 60] (by decide +kernel) (by decide +kernel)
set_option maxRecDepth 20000 in
theorem gX6_stop_X5_get : GoodIn wsX6_stop (wsV RX6 112 RX5 yX5_get wsX5_get) := goodIn_app (goodIn_of _ (by decide +kernel)) ggX6_stop_X5_get
theorem dX6_stop_0 : decode cX6_stop 0 = .ok (.aload_n 0, 1) := by decide +kernel
theorem dX6_stop_1 : decode cX6_stop 1 = .ok (.invokevirtual 70, 3) := by decide +kernel
theorem dX6_stop_4 : decode cX6_stop 4 = .ok (.ifCond .ne 6, 3) := by decide +kernel
theorem dX6_stop_7 : decode cX6_stop 7 = .ok (.bipush (-103), 2) := by decide +kernel
theorem dX6_stop_9 : decode cX6_stop 9 = .ok (.ireturn, 1) := by decide +kernel
theorem dX6_stop_10 : decode cX6_stop 10 = .ok (.aload_n 0, 1) := by decide +kernel
theorem dX6_stop_11 : decode cX6_stop 11 = .ok (.iconst 3, 1) := by decide +kernel
theorem dX6_stop_12 : decode cX6_stop 12 = .ok (.invokevirtual 119, 3) := by decide +kernel
theorem dX6_stop_15 : decode cX6_stop 15 = .ok (.aload_n 0, 1) := by decide +kernel
theorem dX6_stop_16 : decode cX6_stop 16 = .ok (.getfield 42, 3) := by decide +kernel
theorem dX6_stop_19 : decode cX6_stop 19 = .ok (.iconst 1, 1) := by decide +kernel
theorem dX6_stop_20 : decode cX6_stop 20 = .ok (.invokevirtual 112, 3) := by decide +kernel
theorem dX6_stop_23 : decode cX6_stop 23 = .ok (.ireturn, 1) := by decide +kernel
theorem dX6_ended_0 : decode cX6_ended 0 = .ok (.aload_n 0, 1) := by decide +kernel
theorem dX6_ended_1 : decode cX6_ended 1 = .ok (.getfield 63, 3) := by decide +kernel
theorem dX6_ended_4 : decode cX6_ended 4 = .ok (.ireturn, 1) := by decide +kernel
set_option maxRecDepth 20000 in
theorem ggX6_harm_X6_isWithin : GoodIn wsX6_harm wsX6_isWithin := goodIn_r _ [5] (by decide +kernel) (by decide +kernel)
set_option maxRecDepth 20000 in
theorem gX6_harm_X6_isWithin : GoodIn wsX6_harm (va_wsS RX6 66 yX6_isWithin wsX6_isWithin) := goodIn_app (goodIn_of _ (by decide +kernel)) ggX6_harm_X6_isWithin
set_option maxRecDepth 20000 in
theorem ggX6_harm_X6_isTablePlace : GoodIn wsX6_harm wsX6_isTablePlace := goodIn_r _ [8, 2, 3, 4, 5] (by decide +kernel) (by decide +kernel)
set_option maxRecDepth 20000 in
theorem gX6_harm_X6_isTablePlace : GoodIn wsX6_harm (va_wsS RX6 122 yX6_isTablePlace wsX6_isTablePlace) := goodIn_app (goodIn_of _ (by decide +kernel)) ggX6_harm_X6_isTablePlace
set_option maxRecDepth 20000 in
theorem ggX6_harm_X1_returns : GoodIn wsX6_harm wsX1_returns := goodIn_r _ [13, 14, 64, 65, 66, 67, 68, 69, 70, 71] (by decide +kernel) (by decide +kernel)
set_option maxRecDepth 20000 in
theorem gX6_harm_X1_returns : GoodIn wsX6_harm (wsV RX6 108 RX1 yX1_returns wsX1_returns) := goodIn_app (goodIn_of _ (by decide +kernel)) ggX6_harm_X1_returns
set_option maxRecDepth 20000 in
theorem ggX6_harm_X2_size : GoodIn wsX6_harm wsX2_size := goodIn_r _ [19, 20, 72, 73] (by decide +kernel) (by decide +kernel)
set_option maxRecDepth 20000 in
theorem gX6_harm_X2_size : GoodIn wsX6_harm (wsV RX6 126 RX2 yX2_size wsX2_size) := goodIn_app (goodIn_of _ (by decide +kernel)) ggX6_harm_X2_size
set_option maxRecDepth 20000 in
theorem ggX6_harm_X6_isTableValue : GoodIn wsX6_harm wsX6_isTableValue := goodIn_r _ [23, 2, 3, 4, 5] (by decide +kernel) (by decide +kernel)
set_option maxRecDepth 20000 in
theorem gX6_harm_X6_isTableValue : GoodIn wsX6_harm (va_wsS RX6 127 yX6_isTableValue wsX6_isTableValue) := goodIn_app (goodIn_of _ (by decide +kernel)) ggX6_harm_X6_isTableValue
set_option maxRecDepth 20000 in
theorem ggX6_harm_X1_setCell : GoodIn wsX6_harm wsX1_setCell := goodIn_r _ [27, 14, 28, 29, 30, 31, 18, 32, 33, 34, 35, 36, 37, 20, 38, 39, 40, 12, 41, 42, 43, 44, 45, 46, 47, 48, 49, 50, 51, 52, 53, 64, 65, 66, 67, 68, 69, 70, 71, 72, 73, 74] (by decide +kernel) (by decide +kernel)
set_option maxRecDepth 20000 in
theorem gX6_harm_X1_setCell : GoodIn wsX6_harm (wsV RX6 130 RX1 yX1_setCell wsX1_setCell) := goodIn_app (goodIn_of _ (by decide +kernel)) ggX6_harm_X1_setCell
theorem dX6_harm_0 : decode cX6_harm 0 = .ok (.iload_n 1, 1) := by decide +kernel
theorem dX6_harm_1 : decode cX6_harm 1 = .ok (.iconst 0, 1) := by decide +kernel
theorem dX6_harm_2 : decode cX6_harm 2 = .ok (.bipush 7, 2) := by decide +kernel
theorem dX6_harm_4 : decode cX6_harm 4 = .ok (.invokestatic 66, 3) := by decide +kernel
theorem dX6_harm_7 : decode cX6_harm 7 = .ok (.ifCond .ne 6, 3) := by decide +kernel
theorem dX6_harm_10 : decode cX6_harm 10 = .ok (.bipush (-102), 2) := by decide +kernel
theorem dX6_harm_12 : decode cX6_harm 12 = .ok (.ireturn, 1) := by decide +kernel
theorem dX6_harm_13 : decode cX6_harm 13 = .ok (.iload_n 1, 1) := by decide +kernel
theorem dX6_harm_14 : decode cX6_harm 14 = .ok (.iload_n 2, 1) := by decide +kernel
theorem dX6_harm_15 : decode cX6_harm 15 = .ok (.invokestatic 122, 3) := by decide +kernel
theorem dX6_harm_18 : decode cX6_harm 18 = .ok (.ifCond .eq 23, 3) := by decide +kernel
theorem dX6_harm_21 : decode cX6_harm 21 = .ok (.iload_n 1, 1) := by decide +kernel
theorem dX6_harm_22 : decode cX6_harm 22 = .ok (.bipush 7, 2) := by decide +kernel
theorem dX6_harm_24 : decode cX6_harm 24 = .ok (.if_icmp .ne 20, 3) := by decide +kernel
theorem dX6_harm_27 : decode cX6_harm 27 = .ok (.iload_n 2, 1) := by decide +kernel
theorem dX6_harm_28 : decode cX6_harm 28 = .ok (.aload_n 0, 1) := by decide +kernel
theorem dX6_harm_29 : decode cX6_harm 29 = .ok (.getfield 26, 3) := by decide +kernel
theorem dX6_harm_32 : decode cX6_harm 32 = .ok (.invokevirtual 108, 3) := by decide +kernel
theorem dX6_harm_35 : decode cX6_harm 35 = .ok (.invokevirtual 126, 3) := by decide +kernel
theorem dX6_harm_38 : decode cX6_harm 38 = .ok (.if_icmp .lt 6, 3) := by decide +kernel
theorem dX6_harm_41 : decode cX6_harm 41 = .ok (.bipush (-101), 2) := by decide +kernel
theorem dX6_harm_43 : decode cX6_harm 43 = .ok (.ireturn, 1) := by decide +kernel
theorem dX6_harm_44 : decode cX6_harm 44 = .ok (.iload_n 1, 1) := by decide +kernel
theorem dX6_harm_45 : decode cX6_harm 45 = .ok (.iload_n 3, 1) := by decide +kernel
theorem dX6_harm_46 : decode cX6_harm 46 = .ok (.invokestatic 127, 3) := by decide +kernel
theorem dX6_harm_49 : decode cX6_harm 49 = .ok (.ifCond .eq 16, 3) := by decide +kernel
theorem dX6_harm_52 : decode cX6_harm 52 = .ok (.aload_n 0, 1) := by decide +kernel
theorem dX6_harm_53 : decode cX6_harm 53 = .ok (.getfield 26, 3) := by decide +kernel
theorem dX6_harm_56 : decode cX6_harm 56 = .ok (.iload_n 1, 1) := by decide +kernel
theorem dX6_harm_57 : decode cX6_harm 57 = .ok (.iload_n 2, 1) := by decide +kernel
theorem dX6_harm_58 : decode cX6_harm 58 = .ok (.iload_n 3, 1) := by decide +kernel
theorem dX6_harm_59 : decode cX6_harm 59 = .ok (.invokevirtual 130, 3) := by decide +kernel
theorem dX6_harm_62 : decode cX6_harm 62 = .ok (.goto 5, 3) := by decide +kernel
theorem dX6_harm_65 : decode cX6_harm 65 = .ok (.bipush (-102), 2) := by decide +kernel
theorem dX6_harm_67 : decode cX6_harm 67 = .ok (.ireturn, 1) := by decide +kernel
set_option maxRecDepth 20000 in
theorem ggX6_forget_X6_isUnderWay : GoodIn wsX6_forget wsX6_isUnderWay := goodIn_r _ [6, 7, 26, 27, 28, 29, 30, 31, 32, 33, 34, 35] (by decide +kernel) (by decide +kernel)
set_option maxRecDepth 20000 in
theorem gX6_forget_X6_isUnderWay : GoodIn wsX6_forget (wsV RX6 70 RX6 yX6_isUnderWay wsX6_isUnderWay) := goodIn_app (goodIn_of _ (by decide +kernel)) ggX6_forget_X6_isUnderWay
set_option maxRecDepth 20000 in
theorem ggX6_forget_X1_forgetTables : GoodIn wsX6_forget wsX1_forgetTables := goodIn_r _ [12, 13, 14, 15, 16, 17, 18, 19, 20, 21, 22, 23, 24, 25, 36, 37, 38, 39, 40, 41, 42, 43, 44] (by decide +kernel) (by decide +kernel)
set_option maxRecDepth 20000 in
theorem gX6_forget_X1_forgetTables : GoodIn wsX6_forget (wsV RX6 133 RX1 yX1_forgetTables wsX1_forgetTables) := goodIn_app (goodIn_of _ (by decide +kernel)) ggX6_forget_X1_forgetTables
theorem dX6_forget_0 : decode cX6_forget 0 = .ok (.aload_n 0, 1) := by decide +kernel
theorem dX6_forget_1 : decode cX6_forget 1 = .ok (.invokevirtual 70, 3) := by decide +kernel
theorem dX6_forget_4 : decode cX6_forget 4 = .ok (.ifCond .eq 6, 3) := by decide +kernel
theorem dX6_forget_7 : decode cX6_forget 7 = .ok (.bipush (-103), 2) := by decide +kernel
theorem dX6_forget_9 : decode cX6_forget 9 = .ok (.ireturn, 1) := by decide +kernel
theorem dX6_forget_10 : decode cX6_forget 10 = .ok (.aload_n 0, 1) := by decide +kernel
theorem dX6_forget_11 : decode cX6_forget 11 = .ok (.getfield 26, 3) := by decide +kernel
theorem dX6_forget_14 : decode cX6_forget 14 = .ok (.invokevirtual 133, 3) := by decide +kernel
theorem dX6_forget_17 : decode cX6_forget 17 = .ok (.iconst 1, 1) := by decide +kernel
theorem dX6_forget_18 : decode cX6_forget 18 = .ok (.ireturn, 1) := by decide +kernel
set_option maxRecDepth 20000 in
theorem ggX6_table_X6_isWithin : GoodIn wsX6_table wsX6_isWithin := goodIn_r _ [5] (by decide +kernel) (by decide +kernel)
set_option maxRecDepth 20000 in
theorem gX6_table_X6_isWithin : GoodIn wsX6_table (va_wsS RX6 66 yX6_isWithin wsX6_isWithin) := goodIn_app (goodIn_of _ (by decide +kernel)) ggX6_table_X6_isWithin
set_option maxRecDepth 20000 in
theorem ggX6_table_X6_isTablePlace : GoodIn wsX6_table wsX6_isTablePlace := goodIn_r _ [8, 2, 3, 4, 5] (by decide +kernel) (by decide +kernel)
set_option maxRecDepth 20000 in
theorem gX6_table_X6_isTablePlace : GoodIn wsX6_table (va_wsS RX6 122 yX6_isTablePlace wsX6_isTablePlace) := goodIn_app (goodIn_of _ (by decide +kernel)) ggX6_table_X6_isTablePlace
set_option maxRecDepth 20000 in
theorem ggX6_table_X1_cell : GoodIn wsX6_table wsX1_cell := goodIn_r _ [13, 14, 15, 16, 17, 18, 19, 20, 21, 22, 23, 24, 25, 26, 27, 28, 29, 30, 31, 32, 33, 12, 34, 35, 36, 37, 38, 39, 40, 41, 42, 43, 44, 45, 46, 57, 58, 59, 60, 61, 62, 63, 64, 65, 66, 67] (by decide +kernel) (by decide +kernel)
set_option maxRecDepth 20000 in
theorem gX6_table_X1_cell : GoodIn wsX6_table (wsV RX6 136 RX1 yX1_cell wsX1_cell) := goodIn_app (goodIn_of _ (by decide +kernel)) ggX6_table_X1_cell
theorem dX6_table_0 : decode cX6_table 0 = .ok (.iload_n 1, 1) := by decide +kernel
theorem dX6_table_1 : decode cX6_table 1 = .ok (.iconst 0, 1) := by decide +kernel
theorem dX6_table_2 : decode cX6_table 2 = .ok (.bipush 8, 2) := by decide +kernel
theorem dX6_table_4 : decode cX6_table 4 = .ok (.invokestatic 66, 3) := by decide +kernel
theorem dX6_table_7 : decode cX6_table 7 = .ok (.ifCond .ne 6, 3) := by decide +kernel
theorem dX6_table_10 : decode cX6_table 10 = .ok (.bipush (-102), 2) := by decide +kernel
theorem dX6_table_12 : decode cX6_table 12 = .ok (.ireturn, 1) := by decide +kernel
theorem dX6_table_13 : decode cX6_table 13 = .ok (.iload_n 1, 1) := by decide +kernel
theorem dX6_table_14 : decode cX6_table 14 = .ok (.iload_n 2, 1) := by decide +kernel
theorem dX6_table_15 : decode cX6_table 15 = .ok (.invokestatic 122, 3) := by decide +kernel
theorem dX6_table_18 : decode cX6_table 18 = .ok (.ifCond .eq 15, 3) := by decide +kernel
theorem dX6_table_21 : decode cX6_table 21 = .ok (.aload_n 0, 1) := by decide +kernel
theorem dX6_table_22 : decode cX6_table 22 = .ok (.getfield 26, 3) := by decide +kernel
theorem dX6_table_25 : decode cX6_table 25 = .ok (.iload_n 1, 1) := by decide +kernel
theorem dX6_table_26 : decode cX6_table 26 = .ok (.iload_n 2, 1) := by decide +kernel
theorem dX6_table_27 : decode cX6_table 27 = .ok (.invokevirtual 136, 3) := by decide +kernel
theorem dX6_table_30 : decode cX6_table 30 = .ok (.goto 5, 3) := by decide +kernel
theorem dX6_table_33 : decode cX6_table 33 = .ok (.bipush (-101), 2) := by decide +kernel
theorem dX6_table_35 : decode cX6_table 35 = .ok (.ireturn, 1) := by decide +kernel
set_option maxRecDepth 20000 in
theorem ggX6_value_X0_hasCell : GoodIn wsX6_value wsX0_hasCell := goodIn_r _ [7] (by decide +kernel) (by decide +kernel)
set_option maxRecDepth 20000 in
theorem gX6_value_X0_hasCell : GoodIn wsX6_value (wsV RX6 85 RX0 yX0_hasCell wsX0_hasCell) := goodIn_app (goodIn_of _ (by decide +kernel)) ggX6_value_X0_hasCell
set_option maxRecDepth 20000 in
theorem ggX6_value_X0_cell : GoodIn wsX6_value wsX0_cell := goodIn_r _ [11, 12, 13, 14, 15, 16, 17, 18, 19, 30, 31, 32, 33] (by decide +kernel) (by decide +kernel)
set_option maxRecDepth 20000 in
theorem gX6_value_X0_cell : GoodIn wsX6_value (wsV RX6 139 RX0 yX0_cell wsX0_cell) := goodIn_app (goodIn_of _ (by decide +kernel)) ggX6_value_X0_cell
theorem dX6_value_0 : decode cX6_value 0 = .ok (.aload_n 0, 1) := by decide +kernel
theorem dX6_value_1 : decode cX6_value 1 = .ok (.getfield 19, 3) := by decide +kernel
theorem dX6_value_4 : decode cX6_value 4 = .ok (.iload_n 1, 1) := by decide +kernel
theorem dX6_value_5 : decode cX6_value 5 = .ok (.invokevirtual 85, 3) := by decide +kernel
theorem dX6_value_8 : decode cX6_value 8 = .ok (.ifCond .eq 15, 3) := by decide +kernel
theorem dX6_value_11 : decode cX6_value 11 = .ok (.aload_n 0, 1) := by decide +kernel
theorem dX6_value_12 : decode cX6_value 12 = .ok (.getfield 19, 3) := by decide +kernel
theorem dX6_value_15 : decode cX6_value 15 = .ok (.iload_n 1, 1) := by decide +kernel
theorem dX6_value_16 : decode cX6_value 16 = .ok (.invokevirtual 139, 3) := by decide +kernel
theorem dX6_value_19 : decode cX6_value 19 = .ok (.i2l, 1) := by decide +kernel
theorem dX6_value_20 : decode cX6_value 20 = .ok (.goto 6, 3) := by decide +kernel
theorem dX6_value_23 : decode cX6_value 23 = .ok (.ldc2_w 89, 3) := by decide +kernel
theorem dX6_value_26 : decode cX6_value 26 = .ok (.lreturn, 1) := by decide +kernel
set_option maxRecDepth 20000 in
theorem ggX6_stack_X0_stackAddress : GoodIn wsX6_stack wsX0_stackAddress := goodIn_r _ [6, 7, 8, 9, 10, 11, 12, 13, 14, 15, 16, 17, 18, 29, 30, 31, 32, 33] (by decide +kernel) (by decide +kernel)
set_option maxRecDepth 20000 in
theorem gX6_stack_X0_stackAddress : GoodIn wsX6_stack (wsV RX6 141 RX0 yX0_stackAddress wsX0_stackAddress) := goodIn_app (goodIn_of _ (by decide +kernel)) ggX6_stack_X0_stackAddress
theorem dX6_stack_0 : decode cX6_stack 0 = .ok (.aload_n 0, 1) := by decide +kernel
theorem dX6_stack_1 : decode cX6_stack 1 = .ok (.getfield 19, 3) := by decide +kernel
theorem dX6_stack_4 : decode cX6_stack 4 = .ok (.iload_n 1, 1) := by decide +kernel
theorem dX6_stack_5 : decode cX6_stack 5 = .ok (.invokevirtual 141, 3) := by decide +kernel
theorem dX6_stack_8 : decode cX6_stack 8 = .ok (.ireturn, 1) := by decide +kernel
set_option maxRecDepth 20000 in
theorem ggX6_done_X2_get : GoodIn wsX6_done wsX2_get := goodIn_r _ [6, 7, 8, 9, 10, 5, 11, 12, 23, 24] (by decide +kernel) (by decide +kernel)
set_option maxRecDepth 20000 in
theorem gX6_done_X2_get : GoodIn wsX6_done (wsV RX6 144 RX2 yX2_get wsX2_get) := goodIn_app (goodIn_of _ (by decide +kernel)) ggX6_done_X2_get
theorem dX6_done_0 : decode cX6_done 0 = .ok (.aload_n 0, 1) := by decide +kernel
theorem dX6_done_1 : decode cX6_done 1 = .ok (.getfield 49, 3) := by decide +kernel
theorem dX6_done_4 : decode cX6_done 4 = .ok (.iload_n 1, 1) := by decide +kernel
theorem dX6_done_5 : decode cX6_done 5 = .ok (.invokevirtual 144, 3) := by decide +kernel
theorem dX6_done_8 : decode cX6_done 8 = .ok (.ireturn, 1) := by decide +kernel
set_option maxRecDepth 20000 in
theorem ggX6_fetched_X4_address : GoodIn wsX6_fetched wsX4_address := goodIn_r _ [6, 7, 8, 9, 10, 11, 12, 13, 14, 15, 26, 27, 28, 29, 30, 31, 32, 33, 34] (by decide +kernel) (by decide +kernel)
set_option maxRecDepth 20000 in
theorem gX6_fetched_X4_address : GoodIn wsX6_fetched (wsV RX6 145 RX4 yX4_address wsX4_address) := goodIn_app (goodIn_of _ (by decide +kernel)) ggX6_fetched_X4_address
theorem dX6_fetched_0 : decode cX6_fetched 0 = .ok (.aload_n 0, 1) := by decide +kernel
theorem dX6_fetched_1 : decode cX6_fetched 1 = .ok (.getfield 33, 3) := by decide +kernel
theorem dX6_fetched_4 : decode cX6_fetched 4 = .ok (.iload_n 1, 1) := by decide +kernel
theorem dX6_fetched_5 : decode cX6_fetched 5 = .ok (.invokevirtual 145, 3) := by decide +kernel
theorem dX6_fetched_8 : decode cX6_fetched 8 = .ok (.ireturn, 1) := by decide +kernel
set_option maxRecDepth 20000 in
theorem ggX6_known_X6_isUnderWay : GoodIn wsX6_known wsX6_isUnderWay := goodIn_r _ [7, 8, 27, 28, 29, 30, 31, 32, 33, 34, 35, 36] (by decide +kernel) (by decide +kernel)
set_option maxRecDepth 20000 in
theorem gX6_known_X6_isUnderWay : GoodIn wsX6_known (wsV RX6 70 RX6 yX6_isUnderWay wsX6_isUnderWay) := goodIn_app (goodIn_of _ (by decide +kernel)) ggX6_known_X6_isUnderWay
set_option maxRecDepth 20000 in
theorem ggX6_known_X4_size : GoodIn wsX6_known wsX4_size := goodIn_r _ [13, 14, 37, 38, 39, 40, 41, 42, 43, 44] (by decide +kernel) (by decide +kernel)
set_option maxRecDepth 20000 in
theorem gX6_known_X4_size : GoodIn wsX6_known (wsV RX6 148 RX4 yX4_size wsX4_size) := goodIn_app (goodIn_of _ (by decide +kernel)) ggX6_known_X4_size
set_option maxRecDepth 20000 in
theorem ggX6_known_X4_address : GoodIn wsX6_known wsX4_address := goodIn_r _ [18, 14, 19, 20, 21, 22, 23, 24, 25, 26, 37, 38, 39, 40, 41, 42, 43, 44, 45] (by decide +kernel) (by decide +kernel)
set_option maxRecDepth 20000 in
theorem gX6_known_X4_address : GoodIn wsX6_known (wsV RX6 145 RX4 yX4_address wsX4_address) := goodIn_app (goodIn_of _ (by decide +kernel)) ggX6_known_X4_address
theorem dX6_known_0 : decode cX6_known 0 = .ok (.aload_n 0, 1) := by decide +kernel
theorem dX6_known_1 : decode cX6_known 1 = .ok (.invokevirtual 70, 3) := by decide +kernel
theorem dX6_known_4 : decode cX6_known 4 = .ok (.ifCond .ne 6, 3) := by decide +kernel
theorem dX6_known_7 : decode cX6_known 7 = .ok (.bipush (-103), 2) := by decide +kernel
theorem dX6_known_9 : decode cX6_known 9 = .ok (.ireturn, 1) := by decide +kernel
theorem dX6_known_10 : decode cX6_known 10 = .ok (.aload_n 0, 1) := by decide +kernel
theorem dX6_known_11 : decode cX6_known 11 = .ok (.getfield 33, 3) := by decide +kernel
theorem dX6_known_14 : decode cX6_known 14 = .ok (.invokevirtual 148, 3) := by decide +kernel
theorem dX6_known_17 : decode cX6_known 17 = .ok (.ifCond .le 14, 3) := by decide +kernel
theorem dX6_known_20 : decode cX6_known 20 = .ok (.aload_n 0, 1) := by decide +kernel
theorem dX6_known_21 : decode cX6_known 21 = .ok (.getfield 33, 3) := by decide +kernel
theorem dX6_known_24 : decode cX6_known 24 = .ok (.iconst 0, 1) := by decide +kernel
theorem dX6_known_25 : decode cX6_known 25 = .ok (.invokevirtual 145, 3) := by decide +kernel
theorem dX6_known_28 : decode cX6_known 28 = .ok (.goto 7, 3) := by decide +kernel
theorem dX6_known_31 : decode cX6_known 31 = .ok (.aload_n 0, 1) := by decide +kernel
theorem dX6_known_32 : decode cX6_known 32 = .ok (.getfield 60, 3) := by decide +kernel
theorem dX6_known_35 : decode cX6_known 35 = .ok (.ireturn, 1) := by decide +kernel
set_option maxRecDepth 20000 in
theorem ggX6_told_X3_has : GoodIn wsX6_told wsX3_has := goodIn_r _ [6, 7, 33, 34] (by decide +kernel) (by decide +kernel)
set_option maxRecDepth 20000 in
theorem gX6_told_X3_has : GoodIn wsX6_told (wsV RX6 149 RX3 yX3_has wsX3_has) := goodIn_app (goodIn_of _ (by decide +kernel)) ggX6_told_X3_has
set_option maxRecDepth 20000 in
theorem ggX6_told_X6_isWithin : GoodIn wsX6_told wsX6_isWithin := goodIn_r _ [11] (by decide +kernel) (by decide +kernel)
set_option maxRecDepth 20000 in
theorem gX6_told_X6_isWithin : GoodIn wsX6_told (va_wsS RX6 66 yX6_isWithin wsX6_isWithin) := goodIn_app (goodIn_of _ (by decide +kernel)) ggX6_told_X6_isWithin
set_option maxRecDepth 20000 in
theorem ggX6_told_X3_part : GoodIn wsX6_told wsX3_part := goodIn_r _ [15, 16, 17, 18, 19, 20, 21, 22, 33, 34, 35] (by decide +kernel) (by decide +kernel)
set_option maxRecDepth 20000 in
theorem gX6_told_X3_part : GoodIn wsX6_told (wsV RX6 152 RX3 yX3_part wsX3_part) := goodIn_app (goodIn_of _ (by decide +kernel)) ggX6_told_X3_part
theorem dX6_told_0 : decode cX6_told 0 = .ok (.aload_n 0, 1) := by decide +kernel
theorem dX6_told_1 : decode cX6_told 1 = .ok (.getfield 10, 3) := by decide +kernel
theorem dX6_told_4 : decode cX6_told 4 = .ok (.iload_n 1, 1) := by decide +kernel
theorem dX6_told_5 : decode cX6_told 5 = .ok (.invokevirtual 149, 3) := by decide +kernel
theorem dX6_told_8 : decode cX6_told 8 = .ok (.ifCond .ne 6, 3) := by decide +kernel
theorem dX6_told_11 : decode cX6_told 11 = .ok (.bipush (-101), 2) := by decide +kernel
theorem dX6_told_13 : decode cX6_told 13 = .ok (.ireturn, 1) := by decide +kernel
theorem dX6_told_14 : decode cX6_told 14 = .ok (.iload_n 2, 1) := by decide +kernel
theorem dX6_told_15 : decode cX6_told 15 = .ok (.iconst 0, 1) := by decide +kernel
theorem dX6_told_16 : decode cX6_told 16 = .ok (.iconst 3, 1) := by decide +kernel
theorem dX6_told_17 : decode cX6_told 17 = .ok (.invokestatic 66, 3) := by decide +kernel
theorem dX6_told_20 : decode cX6_told 20 = .ok (.ifCond .eq 15, 3) := by decide +kernel
theorem dX6_told_23 : decode cX6_told 23 = .ok (.aload_n 0, 1) := by decide +kernel
theorem dX6_told_24 : decode cX6_told 24 = .ok (.getfield 10, 3) := by decide +kernel
theorem dX6_told_27 : decode cX6_told 27 = .ok (.iload_n 1, 1) := by decide +kernel
theorem dX6_told_28 : decode cX6_told 28 = .ok (.iload_n 2, 1) := by decide +kernel
theorem dX6_told_29 : decode cX6_told 29 = .ok (.invokevirtual 152, 3) := by decide +kernel
theorem dX6_told_32 : decode cX6_told 32 = .ok (.goto 5, 3) := by decide +kernel
theorem dX6_told_35 : decode cX6_told 35 = .ok (.bipush (-102), 2) := by decide +kernel
theorem dX6_told_37 : decode cX6_told 37 = .ok (.ireturn, 1) := by decide +kernel
set_option maxRecDepth 20000 in
theorem ggX6_count_X0_stackSize : GoodIn wsX6_count wsX0_stackSize := goodIn_r _ [12, 13, 14, 15, 16, 17, 18, 19, 52, 53, 54, 55, 56] (by decide +kernel) (by decide +kernel)
set_option maxRecDepth 20000 in
theorem gX6_count_X0_stackSize : GoodIn wsX6_count (wsV RX6 155 RX0 yX0_stackSize wsX0_stackSize) := goodIn_app (goodIn_of _ (by decide +kernel)) ggX6_count_X0_stackSize
set_option maxRecDepth 20000 in
theorem ggX6_count_X4_size : GoodIn wsX6_count wsX4_size := goodIn_r _ [24, 25, 57, 58, 59, 60, 61, 62, 63, 64] (by decide +kernel) (by decide +kernel)
set_option maxRecDepth 20000 in
theorem gX6_count_X4_size : GoodIn wsX6_count (wsV RX6 148 RX4 yX4_size wsX4_size) := goodIn_app (goodIn_of _ (by decide +kernel)) ggX6_count_X4_size
set_option maxRecDepth 20000 in
theorem ggX6_count_X3_size : GoodIn wsX6_count wsX3_size := goodIn_r _ [30, 31, 65, 66] (by decide +kernel) (by decide +kernel)
set_option maxRecDepth 20000 in
theorem gX6_count_X3_size : GoodIn wsX6_count (wsV RX6 78 RX3 yX3_size wsX3_size) := goodIn_app (goodIn_of _ (by decide +kernel)) ggX6_count_X3_size
set_option maxRecDepth 20000 in
theorem ggX6_count_X6_isWithin : GoodIn wsX6_count wsX6_isWithin := goodIn_r _ [35] (by decide +kernel) (by decide +kernel)
set_option maxRecDepth 20000 in
theorem gX6_count_X6_isWithin : GoodIn wsX6_count (va_wsS RX6 66 yX6_isWithin wsX6_isWithin) := goodIn_app (goodIn_of _ (by decide +kernel)) ggX6_count_X6_isWithin
set_option maxRecDepth 20000 in
theorem ggX6_count_X5_get : GoodIn wsX6_count wsX5_get := goodIn_r _ [40, 41, 67] (by decide +kernel) (by decide +kernel)
set_option maxRecDepth 20000 in
theorem gX6_count_X5_get : GoodIn wsX6_count (wsV RX6 112 RX5 yX5_get wsX5_get) := goodIn_app (goodIn_of _ (by decide +kernel)) ggX6_count_X5_get
theorem dX6_count_0 : decode cX6_count 0 = .ok (.iload_n 1, 1) := by decide +kernel
theorem dX6_count_1 : decode cX6_count 1 = .ok (.tableswitch 90 9 17 #[51, 59, 67, 90, 90, 90, 72, 80, 85], 51) := by decide +kernel
theorem dX6_count_52 : decode cX6_count 52 = .ok (.aload_n 0, 1) := by decide +kernel
theorem dX6_count_53 : decode cX6_count 53 = .ok (.getfield 19, 3) := by decide +kernel
theorem dX6_count_56 : decode cX6_count 56 = .ok (.invokevirtual 155, 3) := by decide +kernel
theorem dX6_count_59 : decode cX6_count 59 = .ok (.ireturn, 1) := by decide +kernel
theorem dX6_count_60 : decode cX6_count 60 = .ok (.aload_n 0, 1) := by decide +kernel
theorem dX6_count_61 : decode cX6_count 61 = .ok (.getfield 33, 3) := by decide +kernel
theorem dX6_count_64 : decode cX6_count 64 = .ok (.invokevirtual 148, 3) := by decide +kernel
theorem dX6_count_67 : decode cX6_count 67 = .ok (.ireturn, 1) := by decide +kernel
theorem dX6_count_68 : decode cX6_count 68 = .ok (.aload_n 0, 1) := by decide +kernel
theorem dX6_count_69 : decode cX6_count 69 = .ok (.getfield 60, 3) := by decide +kernel
theorem dX6_count_72 : decode cX6_count 72 = .ok (.ireturn, 1) := by decide +kernel
theorem dX6_count_73 : decode cX6_count 73 = .ok (.aload_n 0, 1) := by decide +kernel
theorem dX6_count_74 : decode cX6_count 74 = .ok (.getfield 10, 3) := by decide +kernel
theorem dX6_count_77 : decode cX6_count 77 = .ok (.invokevirtual 78, 3) := by decide +kernel
theorem dX6_count_80 : decode cX6_count 80 = .ok (.ireturn, 1) := by decide +kernel
theorem dX6_count_81 : decode cX6_count 81 = .ok (.aload_n 0, 1) := by decide +kernel
theorem dX6_count_82 : decode cX6_count 82 = .ok (.getfield 53, 3) := by decide +kernel
theorem dX6_count_85 : decode cX6_count 85 = .ok (.ireturn, 1) := by decide +kernel
theorem dX6_count_86 : decode cX6_count 86 = .ok (.aload_n 0, 1) := by decide +kernel
theorem dX6_count_87 : decode cX6_count 87 = .ok (.getfield 57, 3) := by decide +kernel
theorem dX6_count_90 : decode cX6_count 90 = .ok (.ireturn, 1) := by decide +kernel
theorem dX6_count_91 : decode cX6_count 91 = .ok (.iload_n 1, 1) := by decide +kernel
theorem dX6_count_92 : decode cX6_count 92 = .ok (.iconst 0, 1) := by decide +kernel
theorem dX6_count_93 : decode cX6_count 93 = .ok (.bipush 14, 2) := by decide +kernel
theorem dX6_count_95 : decode cX6_count 95 = .ok (.invokestatic 66, 3) := by decide +kernel
theorem dX6_count_98 : decode cX6_count 98 = .ok (.ifCond .eq 14, 3) := by decide +kernel
theorem dX6_count_101 : decode cX6_count 101 = .ok (.aload_n 0, 1) := by decide +kernel
theorem dX6_count_102 : decode cX6_count 102 = .ok (.getfield 42, 3) := by decide +kernel
theorem dX6_count_105 : decode cX6_count 105 = .ok (.iload_n 1, 1) := by decide +kernel
theorem dX6_count_106 : decode cX6_count 106 = .ok (.invokevirtual 112, 3) := by decide +kernel
theorem dX6_count_109 : decode cX6_count 109 = .ok (.goto 5, 3) := by decide +kernel
theorem dX6_count_112 : decode cX6_count 112 = .ok (.bipush (-102), 2) := by decide +kernel
theorem dX6_count_114 : decode cX6_count 114 = .ok (.ireturn, 1) := by decide +kernel
set_option maxRecDepth 20000 in
theorem ggX6_digest_X3_size : GoodIn wsX6_digest wsX3_size := goodIn_r _ [10, 11, 153, 154] (by decide +kernel) (by decide +kernel)
set_option maxRecDepth 20000 in
theorem gX6_digest_X3_size : GoodIn wsX6_digest (wsV RX6 78 RX3 yX3_size wsX3_size) := goodIn_app (goodIn_of _ (by decide +kernel)) ggX6_digest_X3_size
set_option maxRecDepth 20000 in
theorem ggX6_digest_X6_told : GoodIn wsX6_digest wsX6_told := goodIn_r _ [16, 2, 17, 18, 19, 9, 20, 11, 21, 22, 15, 23, 24, 25, 26, 27, 28, 29, 30, 31, 32, 33, 34, 143, 144, 145, 146, 147, 148, 149, 150, 151, 152, 153, 154, 155] (by decide +kernel) (by decide +kernel)
set_option maxRecDepth 20000 in
theorem gX6_digest_X6_told : GoodIn wsX6_digest (wsV RX6 162 RX6 yX6_told wsX6_told) := goodIn_app (goodIn_of _ (by decide +kernel)) ggX6_digest_X6_told
set_option maxRecDepth 20000 in
theorem ggX6_digest_X6_value : GoodIn wsX6_digest wsX6_value := goodIn_r _ [38, 4, 39, 40, 41, 42, 43, 44, 45, 46, 47, 48, 49, 50, 51, 30, 31, 32, 33, 34, 143, 144, 145, 146, 147, 148, 149, 150, 151, 152, 156, 157, 158, 155] (by decide +kernel) (by decide +kernel)
set_option maxRecDepth 20000 in
theorem gX6_digest_X6_value : GoodIn wsX6_digest (wsV RX6 165 RX6 yX6_value wsX6_value) := goodIn_app (goodIn_of _ (by decide +kernel)) ggX6_digest_X6_value
set_option maxRecDepth 20000 in
theorem ggX6_digest_X0_stackSize : GoodIn wsX6_digest wsX0_stackSize := goodIn_r _ [55, 56, 57, 58, 59, 60, 61, 62, 156, 157, 158, 159, 160] (by decide +kernel) (by decide +kernel)
set_option maxRecDepth 20000 in
theorem gX6_digest_X0_stackSize : GoodIn wsX6_digest (wsV RX6 155 RX0 yX0_stackSize wsX0_stackSize) := goodIn_app (goodIn_of _ (by decide +kernel)) ggX6_digest_X0_stackSize
set_option maxRecDepth 20000 in
theorem ggX6_digest_X6_stack : GoodIn wsX6_digest wsX6_stack := goodIn_r _ [66, 4, 67, 68, 69, 43, 70, 56, 71, 72, 73, 60, 74, 75, 76, 77, 78, 79, 62, 143, 144, 145, 146, 147, 148, 149, 150, 151, 152, 156, 157, 158, 159, 160] (by decide +kernel) (by decide +kernel)
set_option maxRecDepth 20000 in
theorem gX6_digest_X6_stack : GoodIn wsX6_digest (wsV RX6 169 RX6 yX6_stack wsX6_stack) := goodIn_app (goodIn_of _ (by decide +kernel)) ggX6_digest_X6_stack
set_option maxRecDepth 20000 in
theorem ggX6_digest_X6_digestOfTables : GoodIn wsX6_digest wsX6_digestOfTables := goodIn_r _ [83, 3, 84, 85, 86, 87, 15, 88, 21, 22, 23, 89, 90, 91, 92, 93, 94, 95, 96, 97, 98, 99, 72, 73, 60, 74, 75, 76, 77, 78, 79, 62, 100, 58, 59, 61, 101, 102, 103, 104, 105, 106, 107, 108, 109, 110, 111, 30, 31, 32, 33, 34, 112, 113, 114, 115, 116, 143, 144, 145, 146, 147, 148, 149, 150, 151, 152, 161, 162, 163, 164, 165, 166, 167, 168, 159, 160, 155] (by decide +kernel) (by decide +kernel)
set_option maxRecDepth 20000 in
theorem gX6_digest_X6_digestOfTables : GoodIn wsX6_digest (wsV RX6 172 RX6 yX6_digestOfTables wsX6_digestOfTables) := goodIn_app (goodIn_of _ (by decide +kernel)) ggX6_digest_X6_digestOfTables
set_option maxRecDepth 20000 in
theorem ggX6_digest_X4_size : GoodIn wsX6_digest wsX4_size := goodIn_r _ [121, 122, 169, 170, 171, 172, 173, 174, 175, 176] (by decide +kernel) (by decide +kernel)
set_option maxRecDepth 20000 in
theorem gX6_digest_X4_size : GoodIn wsX6_digest (wsV RX6 148 RX4 yX4_size wsX4_size) := goodIn_app (goodIn_of _ (by decide +kernel)) ggX6_digest_X4_size
set_option maxRecDepth 20000 in
theorem ggX6_digest_X6_fetched : GoodIn wsX6_digest wsX6_fetched := goodIn_r _ [126, 5, 127, 128, 129, 120, 130, 122, 131, 132, 133, 30, 31, 32, 33, 34, 143, 144, 145, 146, 147, 148, 149, 150, 151, 152, 169, 170, 171, 172, 173, 174, 175, 176, 155] (by decide +kernel) (by decide +kernel)
set_option maxRecDepth 20000 in
theorem gX6_digest_X6_fetched : GoodIn wsX6_digest (wsV RX6 176 RX6 yX6_fetched wsX6_fetched) := goodIn_app (goodIn_of _ (by decide +kernel)) ggX6_digest_X6_fetched
set_option maxRecDepth 20000 in
theorem ggX6_digest_X6_count : GoodIn wsX6_digest wsX6_count := goodIn_r _ [137, 4, 5, 138, 2, 139, 140, 141, 52, 53, 54, 43, 55, 56, 57, 58, 59, 60, 61, 62, 117, 118, 119, 120, 121, 122, 6, 7, 8, 9, 10, 11, 21, 22, 15, 23, 142, 30, 31, 32, 33, 34, 143, 144, 145, 146, 147, 148, 149, 150, 151, 152, 156, 157, 158, 159, 160, 169, 170, 171, 172, 173, 174, 175, 176, 153, 154, 155] (by decide +kernel) (by decide +kernel)
set_option maxRecDepth 20000 in
theorem gX6_digest_X6_count : GoodIn wsX6_digest (wsV RX6 179 RX6 yX6_count wsX6_count) := goodIn_app (goodIn_of _ (by decide +kernel)) ggX6_digest_X6_count
theorem dX6_digest_0 : decode cX6_digest 0 = .ok (.ldc2_w 158, 3) := by decide +kernel
theorem dX6_digest_3 : decode cX6_digest 3 = .ok (.lstore_n 1, 1) := by decide +kernel
theorem dX6_digest_4 : decode cX6_digest 4 = .ok (.iconst 0, 1) := by decide +kernel
theorem dX6_digest_5 : decode cX6_digest 5 = .ok (.istore_n 3, 1) := by decide +kernel
theorem dX6_digest_6 : decode cX6_digest 6 = .ok (.iload_n 3, 1) := by decide +kernel
theorem dX6_digest_7 : decode cX6_digest 7 = .ok (.aload_n 0, 1) := by decide +kernel
theorem dX6_digest_8 : decode cX6_digest 8 = .ok (.getfield 10, 3) := by decide +kernel
theorem dX6_digest_11 : decode cX6_digest 11 = .ok (.invokevirtual 78, 3) := by decide +kernel
theorem dX6_digest_14 : decode cX6_digest 14 = .ok (.if_icmp .ge 39, 3) := by decide +kernel
theorem dX6_digest_17 : decode cX6_digest 17 = .ok (.iconst 0, 1) := by decide +kernel
theorem dX6_digest_18 : decode cX6_digest 18 = .ok (.istore 4, 2) := by decide +kernel
theorem dX6_digest_20 : decode cX6_digest 20 = .ok (.iload 4, 2) := by decide +kernel
theorem dX6_digest_22 : decode cX6_digest 22 = .ok (.iconst 3, 1) := by decide +kernel
theorem dX6_digest_23 : decode cX6_digest 23 = .ok (.if_icmp .gt 24, 3) := by decide +kernel
theorem dX6_digest_26 : decode cX6_digest 26 = .ok (.ldc2_w 160, 3) := by decide +kernel
theorem dX6_digest_29 : decode cX6_digest 29 = .ok (.lload_n 1, 1) := by decide +kernel
theorem dX6_digest_30 : decode cX6_digest 30 = .ok (.lmul, 1) := by decide +kernel
theorem dX6_digest_31 : decode cX6_digest 31 = .ok (.aload_n 0, 1) := by decide +kernel
theorem dX6_digest_32 : decode cX6_digest 32 = .ok (.iload_n 3, 1) := by decide +kernel
theorem dX6_digest_33 : decode cX6_digest 33 = .ok (.iload 4, 2) := by decide +kernel
theorem dX6_digest_35 : decode cX6_digest 35 = .ok (.invokevirtual 162, 3) := by decide +kernel
theorem dX6_digest_38 : decode cX6_digest 38 = .ok (.i2l, 1) := by decide +kernel
theorem dX6_digest_39 : decode cX6_digest 39 = .ok (.ladd, 1) := by decide +kernel
theorem dX6_digest_40 : decode cX6_digest 40 = .ok (.lstore_n 1, 1) := by decide +kernel
theorem dX6_digest_41 : decode cX6_digest 41 = .ok (.iinc 4 1, 3) := by decide +kernel
theorem dX6_digest_44 : decode cX6_digest 44 = .ok (.goto (-24), 3) := by decide +kernel
theorem dX6_digest_47 : decode cX6_digest 47 = .ok (.iinc 3 1, 3) := by decide +kernel
theorem dX6_digest_50 : decode cX6_digest 50 = .ok (.goto (-44), 3) := by decide +kernel
theorem dX6_digest_53 : decode cX6_digest 53 = .ok (.iconst 0, 1) := by decide +kernel
theorem dX6_digest_54 : decode cX6_digest 54 = .ok (.istore_n 3, 1) := by decide +kernel
theorem dX6_digest_55 : decode cX6_digest 55 = .ok (.iload_n 3, 1) := by decide +kernel
theorem dX6_digest_56 : decode cX6_digest 56 = .ok (.bipush 24, 2) := by decide +kernel
theorem dX6_digest_58 : decode cX6_digest 58 = .ok (.if_icmp .ge 21, 3) := by decide +kernel
theorem dX6_digest_61 : decode cX6_digest 61 = .ok (.ldc2_w 160, 3) := by decide +kernel
theorem dX6_digest_64 : decode cX6_digest 64 = .ok (.lload_n 1, 1) := by decide +kernel
theorem dX6_digest_65 : decode cX6_digest 65 = .ok (.lmul, 1) := by decide +kernel
theorem dX6_digest_66 : decode cX6_digest 66 = .ok (.aload_n 0, 1) := by decide +kernel
theorem dX6_digest_67 : decode cX6_digest 67 = .ok (.iload_n 3, 1) := by decide +kernel
theorem dX6_digest_68 : decode cX6_digest 68 = .ok (.invokevirtual 165, 3) := by decide +kernel
theorem dX6_digest_71 : decode cX6_digest 71 = .ok (.ladd, 1) := by decide +kernel
theorem dX6_digest_72 : decode cX6_digest 72 = .ok (.lstore_n 1, 1) := by decide +kernel
theorem dX6_digest_73 : decode cX6_digest 73 = .ok (.iinc 3 1, 3) := by decide +kernel
theorem dX6_digest_76 : decode cX6_digest 76 = .ok (.goto (-21), 3) := by decide +kernel
theorem dX6_digest_79 : decode cX6_digest 79 = .ok (.iconst 0, 1) := by decide +kernel
theorem dX6_digest_80 : decode cX6_digest 80 = .ok (.istore_n 3, 1) := by decide +kernel
theorem dX6_digest_81 : decode cX6_digest 81 = .ok (.iload_n 3, 1) := by decide +kernel
theorem dX6_digest_82 : decode cX6_digest 82 = .ok (.aload_n 0, 1) := by decide +kernel
theorem dX6_digest_83 : decode cX6_digest 83 = .ok (.getfield 19, 3) := by decide +kernel
theorem dX6_digest_86 : decode cX6_digest 86 = .ok (.invokevirtual 155, 3) := by decide +kernel
theorem dX6_digest_89 : decode cX6_digest 89 = .ok (.if_icmp .ge 22, 3) := by decide +kernel
theorem dX6_digest_92 : decode cX6_digest 92 = .ok (.ldc2_w 160, 3) := by decide +kernel
theorem dX6_digest_95 : decode cX6_digest 95 = .ok (.lload_n 1, 1) := by decide +kernel
theorem dX6_digest_96 : decode cX6_digest 96 = .ok (.lmul, 1) := by decide +kernel
theorem dX6_digest_97 : decode cX6_digest 97 = .ok (.aload_n 0, 1) := by decide +kernel
theorem dX6_digest_98 : decode cX6_digest 98 = .ok (.iload_n 3, 1) := by decide +kernel
theorem dX6_digest_99 : decode cX6_digest 99 = .ok (.invokevirtual 169, 3) := by decide +kernel
theorem dX6_digest_102 : decode cX6_digest 102 = .ok (.i2l, 1) := by decide +kernel
theorem dX6_digest_103 : decode cX6_digest 103 = .ok (.ladd, 1) := by decide +kernel
theorem dX6_digest_104 : decode cX6_digest 104 = .ok (.lstore_n 1, 1) := by decide +kernel
theorem dX6_digest_105 : decode cX6_digest 105 = .ok (.iinc 3 1, 3) := by decide +kernel
theorem dX6_digest_108 : decode cX6_digest 108 = .ok (.goto (-27), 3) := by decide +kernel
theorem dX6_digest_111 : decode cX6_digest 111 = .ok (.aload_n 0, 1) := by decide +kernel
theorem dX6_digest_112 : decode cX6_digest 112 = .ok (.lload_n 1, 1) := by decide +kernel
theorem dX6_digest_113 : decode cX6_digest 113 = .ok (.invokevirtual 172, 3) := by decide +kernel
theorem dX6_digest_116 : decode cX6_digest 116 = .ok (.lstore_n 1, 1) := by decide +kernel
theorem dX6_digest_117 : decode cX6_digest 117 = .ok (.iconst 0, 1) := by decide +kernel
theorem dX6_digest_118 : decode cX6_digest 118 = .ok (.istore_n 3, 1) := by decide +kernel
theorem dX6_digest_119 : decode cX6_digest 119 = .ok (.iload_n 3, 1) := by decide +kernel
theorem dX6_digest_120 : decode cX6_digest 120 = .ok (.aload_n 0, 1) := by decide +kernel
theorem dX6_digest_121 : decode cX6_digest 121 = .ok (.getfield 33, 3) := by decide +kernel
theorem dX6_digest_124 : decode cX6_digest 124 = .ok (.invokevirtual 148, 3) := by decide +kernel
theorem dX6_digest_127 : decode cX6_digest 127 = .ok (.if_icmp .ge 22, 3) := by decide +kernel
theorem dX6_digest_130 : decode cX6_digest 130 = .ok (.ldc2_w 160, 3) := by decide +kernel
theorem dX6_digest_133 : decode cX6_digest 133 = .ok (.lload_n 1, 1) := by decide +kernel
theorem dX6_digest_134 : decode cX6_digest 134 = .ok (.lmul, 1) := by decide +kernel
theorem dX6_digest_135 : decode cX6_digest 135 = .ok (.aload_n 0, 1) := by decide +kernel
theorem dX6_digest_136 : decode cX6_digest 136 = .ok (.iload_n 3, 1) := by decide +kernel
theorem dX6_digest_137 : decode cX6_digest 137 = .ok (.invokevirtual 176, 3) := by decide +kernel
theorem dX6_digest_140 : decode cX6_digest 140 = .ok (.i2l, 1) := by decide +kernel
theorem dX6_digest_141 : decode cX6_digest 141 = .ok (.ladd, 1) := by decide +kernel
theorem dX6_digest_142 : decode cX6_digest 142 = .ok (.lstore_n 1, 1) := by decide +kernel
theorem dX6_digest_143 : decode cX6_digest 143 = .ok (.iinc 3 1, 3) := by decide +kernel
theorem dX6_digest_146 : decode cX6_digest 146 = .ok (.goto (-27), 3) := by decide +kernel
theorem dX6_digest_149 : decode cX6_digest 149 = .ok (.iconst 0, 1) := by decide +kernel
theorem dX6_digest_150 : decode cX6_digest 150 = .ok (.istore_n 3, 1) := by decide +kernel
theorem dX6_digest_151 : decode cX6_digest 151 = .ok (.iload_n 3, 1) := by decide +kernel
theorem dX6_digest_152 : decode cX6_digest 152 = .ok (.bipush 18, 2) := by decide +kernel
theorem dX6_digest_154 : decode cX6_digest 154 = .ok (.if_icmp .ge 22, 3) := by decide +kernel
theorem dX6_digest_157 : decode cX6_digest 157 = .ok (.ldc2_w 160, 3) := by decide +kernel
theorem dX6_digest_160 : decode cX6_digest 160 = .ok (.lload_n 1, 1) := by decide +kernel
theorem dX6_digest_161 : decode cX6_digest 161 = .ok (.lmul, 1) := by decide +kernel
theorem dX6_digest_162 : decode cX6_digest 162 = .ok (.aload_n 0, 1) := by decide +kernel
theorem dX6_digest_163 : decode cX6_digest 163 = .ok (.iload_n 3, 1) := by decide +kernel
theorem dX6_digest_164 : decode cX6_digest 164 = .ok (.invokevirtual 179, 3) := by decide +kernel
theorem dX6_digest_167 : decode cX6_digest 167 = .ok (.i2l, 1) := by decide +kernel
theorem dX6_digest_168 : decode cX6_digest 168 = .ok (.ladd, 1) := by decide +kernel
theorem dX6_digest_169 : decode cX6_digest 169 = .ok (.lstore_n 1, 1) := by decide +kernel
theorem dX6_digest_170 : decode cX6_digest 170 = .ok (.iinc 3 1, 3) := by decide +kernel
theorem dX6_digest_173 : decode cX6_digest 173 = .ok (.goto (-22), 3) := by decide +kernel
theorem dX6_digest_176 : decode cX6_digest 176 = .ok (.lload_n 1, 1) := by decide +kernel
theorem dX6_digest_177 : decode cX6_digest 177 = .ok (.lreturn, 1) := by decide +kernel
set_option maxRecDepth 20000 in
theorem ggX6_digestOfTables_X6_table : GoodIn wsX6_digestOfTables wsX6_table := goodIn_r _ [7, 2, 8, 9, 6, 10, 11, 12, 13, 14, 15, 16, 17, 18, 19, 20, 21, 22, 23, 24, 25, 26, 27, 28, 29, 30, 31, 32, 33, 34, 35, 36, 37, 38, 39, 40, 41, 42, 43, 44, 45, 46, 47, 48, 49, 50, 51, 57, 58, 59, 60, 61, 62, 63, 64, 65, 66, 67, 68, 69, 70, 71, 72, 73, 74, 75, 76, 77] (by decide +kernel) (by decide +kernel)
set_option maxRecDepth 20000 in
theorem gX6_digestOfTables_X6_table : GoodIn wsX6_digestOfTables (wsV RX6 182 RX6 yX6_table wsX6_table) := goodIn_app (goodIn_of _ (by decide +kernel)) ggX6_digestOfTables_X6_table
set_option maxRecDepth 20000 in
theorem ggX6_digestOfTables_X1_returns : GoodIn wsX6_digestOfTables wsX1_returns := goodIn_r _ [55, 20, 67, 68, 69, 70, 71, 72, 73, 74] (by decide +kernel) (by decide +kernel)
set_option maxRecDepth 20000 in
theorem gX6_digestOfTables_X1_returns : GoodIn wsX6_digestOfTables (wsV RX6 108 RX1 yX1_returns wsX1_returns) := goodIn_app (goodIn_of _ (by decide +kernel)) ggX6_digestOfTables_X1_returns
set_option maxRecDepth 20000 in
theorem ggX6_digestOfTables_X2_size : GoodIn wsX6_digestOfTables wsX2_size := goodIn_r _ [35, 31, 75, 76] (by decide +kernel) (by decide +kernel)
set_option maxRecDepth 20000 in
theorem gX6_digestOfTables_X2_size : GoodIn wsX6_digestOfTables (wsV RX6 126 RX2 yX2_size wsX2_size) := goodIn_app (goodIn_of _ (by decide +kernel)) ggX6_digestOfTables_X2_size
theorem dX6_digestOfTables_0 : decode cX6_digestOfTables 0 = .ok (.lload_n 1, 1) := by decide +kernel
theorem dX6_digestOfTables_1 : decode cX6_digestOfTables 1 = .ok (.lstore_n 3, 1) := by decide +kernel
theorem dX6_digestOfTables_2 : decode cX6_digestOfTables 2 = .ok (.iconst 0, 1) := by decide +kernel
theorem dX6_digestOfTables_3 : decode cX6_digestOfTables 3 = .ok (.istore 5, 2) := by decide +kernel
theorem dX6_digestOfTables_5 : decode cX6_digestOfTables 5 = .ok (.iload 5, 2) := by decide +kernel
theorem dX6_digestOfTables_7 : decode cX6_digestOfTables 7 = .ok (.iconst 5, 1) := by decide +kernel
theorem dX6_digestOfTables_8 : decode cX6_digestOfTables 8 = .ok (.if_icmp .gt 56, 3) := by decide +kernel
theorem dX6_digestOfTables_11 : decode cX6_digestOfTables 11 = .ok (.iload 5, 2) := by decide +kernel
theorem dX6_digestOfTables_13 : decode cX6_digestOfTables 13 = .ok (.iconst 2, 1) := by decide +kernel
theorem dX6_digestOfTables_14 : decode cX6_digestOfTables 14 = .ok (.if_icmp .gt 8, 3) := by decide +kernel
theorem dX6_digestOfTables_17 : decode cX6_digestOfTables 17 = .ok (.bipush 16, 2) := by decide +kernel
theorem dX6_digestOfTables_19 : decode cX6_digestOfTables 19 = .ok (.goto 5, 3) := by decide +kernel
theorem dX6_digestOfTables_22 : decode cX6_digestOfTables 22 = .ok (.bipush 8, 2) := by decide +kernel
theorem dX6_digestOfTables_24 : decode cX6_digestOfTables 24 = .ok (.istore 6, 2) := by decide +kernel
theorem dX6_digestOfTables_26 : decode cX6_digestOfTables 26 = .ok (.iconst 0, 1) := by decide +kernel
theorem dX6_digestOfTables_27 : decode cX6_digestOfTables 27 = .ok (.istore 7, 2) := by decide +kernel
theorem dX6_digestOfTables_29 : decode cX6_digestOfTables 29 = .ok (.iload 7, 2) := by decide +kernel
theorem dX6_digestOfTables_31 : decode cX6_digestOfTables 31 = .ok (.iload 6, 2) := by decide +kernel
theorem dX6_digestOfTables_33 : decode cX6_digestOfTables 33 = .ok (.if_icmp .ge 25, 3) := by decide +kernel
theorem dX6_digestOfTables_36 : decode cX6_digestOfTables 36 = .ok (.ldc2_w 160, 3) := by decide +kernel
theorem dX6_digestOfTables_39 : decode cX6_digestOfTables 39 = .ok (.lload_n 3, 1) := by decide +kernel
theorem dX6_digestOfTables_40 : decode cX6_digestOfTables 40 = .ok (.lmul, 1) := by decide +kernel
theorem dX6_digestOfTables_41 : decode cX6_digestOfTables 41 = .ok (.aload_n 0, 1) := by decide +kernel
theorem dX6_digestOfTables_42 : decode cX6_digestOfTables 42 = .ok (.iload 5, 2) := by decide +kernel
theorem dX6_digestOfTables_44 : decode cX6_digestOfTables 44 = .ok (.iload 7, 2) := by decide +kernel
theorem dX6_digestOfTables_46 : decode cX6_digestOfTables 46 = .ok (.invokevirtual 182, 3) := by decide +kernel
theorem dX6_digestOfTables_49 : decode cX6_digestOfTables 49 = .ok (.i2l, 1) := by decide +kernel
theorem dX6_digestOfTables_50 : decode cX6_digestOfTables 50 = .ok (.ladd, 1) := by decide +kernel
theorem dX6_digestOfTables_51 : decode cX6_digestOfTables 51 = .ok (.lstore_n 3, 1) := by decide +kernel
theorem dX6_digestOfTables_52 : decode cX6_digestOfTables 52 = .ok (.iinc 7 1, 3) := by decide +kernel
theorem dX6_digestOfTables_55 : decode cX6_digestOfTables 55 = .ok (.goto (-26), 3) := by decide +kernel
theorem dX6_digestOfTables_58 : decode cX6_digestOfTables 58 = .ok (.iinc 5 1, 3) := by decide +kernel
theorem dX6_digestOfTables_61 : decode cX6_digestOfTables 61 = .ok (.goto (-56), 3) := by decide +kernel
theorem dX6_digestOfTables_64 : decode cX6_digestOfTables 64 = .ok (.ldc2_w 160, 3) := by decide +kernel
theorem dX6_digestOfTables_67 : decode cX6_digestOfTables 67 = .ok (.lload_n 3, 1) := by decide +kernel
theorem dX6_digestOfTables_68 : decode cX6_digestOfTables 68 = .ok (.lmul, 1) := by decide +kernel
theorem dX6_digestOfTables_69 : decode cX6_digestOfTables 69 = .ok (.aload_n 0, 1) := by decide +kernel
theorem dX6_digestOfTables_70 : decode cX6_digestOfTables 70 = .ok (.bipush 6, 2) := by decide +kernel
theorem dX6_digestOfTables_72 : decode cX6_digestOfTables 72 = .ok (.iconst 0, 1) := by decide +kernel
theorem dX6_digestOfTables_73 : decode cX6_digestOfTables 73 = .ok (.invokevirtual 182, 3) := by decide +kernel
theorem dX6_digestOfTables_76 : decode cX6_digestOfTables 76 = .ok (.i2l, 1) := by decide +kernel
theorem dX6_digestOfTables_77 : decode cX6_digestOfTables 77 = .ok (.ladd, 1) := by decide +kernel
theorem dX6_digestOfTables_78 : decode cX6_digestOfTables 78 = .ok (.lstore_n 3, 1) := by decide +kernel
theorem dX6_digestOfTables_79 : decode cX6_digestOfTables 79 = .ok (.ldc2_w 160, 3) := by decide +kernel
theorem dX6_digestOfTables_82 : decode cX6_digestOfTables 82 = .ok (.lload_n 3, 1) := by decide +kernel
theorem dX6_digestOfTables_83 : decode cX6_digestOfTables 83 = .ok (.lmul, 1) := by decide +kernel
theorem dX6_digestOfTables_84 : decode cX6_digestOfTables 84 = .ok (.aload_n 0, 1) := by decide +kernel
theorem dX6_digestOfTables_85 : decode cX6_digestOfTables 85 = .ok (.bipush 8, 2) := by decide +kernel
theorem dX6_digestOfTables_87 : decode cX6_digestOfTables 87 = .ok (.iconst 0, 1) := by decide +kernel
theorem dX6_digestOfTables_88 : decode cX6_digestOfTables 88 = .ok (.invokevirtual 182, 3) := by decide +kernel
theorem dX6_digestOfTables_91 : decode cX6_digestOfTables 91 = .ok (.i2l, 1) := by decide +kernel
theorem dX6_digestOfTables_92 : decode cX6_digestOfTables 92 = .ok (.ladd, 1) := by decide +kernel
theorem dX6_digestOfTables_93 : decode cX6_digestOfTables 93 = .ok (.lstore_n 3, 1) := by decide +kernel
theorem dX6_digestOfTables_94 : decode cX6_digestOfTables 94 = .ok (.iconst 0, 1) := by decide +kernel
theorem dX6_digestOfTables_95 : decode cX6_digestOfTables 95 = .ok (.istore 5, 2) := by decide +kernel
theorem dX6_digestOfTables_97 : decode cX6_digestOfTables 97 = .ok (.iload 5, 2) := by decide +kernel
theorem dX6_digestOfTables_99 : decode cX6_digestOfTables 99 = .ok (.aload_n 0, 1) := by decide +kernel
theorem dX6_digestOfTables_100 : decode cX6_digestOfTables 100 = .ok (.getfield 26, 3) := by decide +kernel
theorem dX6_digestOfTables_103 : decode cX6_digestOfTables 103 = .ok (.invokevirtual 108, 3) := by decide +kernel
theorem dX6_digestOfTables_106 : decode cX6_digestOfTables 106 = .ok (.invokevirtual 126, 3) := by decide +kernel
theorem dX6_digestOfTables_109 : decode cX6_digestOfTables 109 = .ok (.if_icmp .ge 25, 3) := by decide +kernel
theorem dX6_digestOfTables_112 : decode cX6_digestOfTables 112 = .ok (.ldc2_w 160, 3) := by decide +kernel
theorem dX6_digestOfTables_115 : decode cX6_digestOfTables 115 = .ok (.lload_n 3, 1) := by decide +kernel
theorem dX6_digestOfTables_116 : decode cX6_digestOfTables 116 = .ok (.lmul, 1) := by decide +kernel
theorem dX6_digestOfTables_117 : decode cX6_digestOfTables 117 = .ok (.aload_n 0, 1) := by decide +kernel
theorem dX6_digestOfTables_118 : decode cX6_digestOfTables 118 = .ok (.bipush 7, 2) := by decide +kernel
theorem dX6_digestOfTables_120 : decode cX6_digestOfTables 120 = .ok (.iload 5, 2) := by decide +kernel
theorem dX6_digestOfTables_122 : decode cX6_digestOfTables 122 = .ok (.invokevirtual 182, 3) := by decide +kernel
theorem dX6_digestOfTables_125 : decode cX6_digestOfTables 125 = .ok (.i2l, 1) := by decide +kernel
theorem dX6_digestOfTables_126 : decode cX6_digestOfTables 126 = .ok (.ladd, 1) := by decide +kernel
theorem dX6_digestOfTables_127 : decode cX6_digestOfTables 127 = .ok (.lstore_n 3, 1) := by decide +kernel
theorem dX6_digestOfTables_128 : decode cX6_digestOfTables 128 = .ok (.iinc 5 1, 3) := by decide +kernel
theorem dX6_digestOfTables_131 : decode cX6_digestOfTables 131 = .ok (.goto (-34), 3) := by decide +kernel
theorem dX6_digestOfTables_134 : decode cX6_digestOfTables 134 = .ok (.lload_n 3, 1) := by decide +kernel
theorem dX6_digestOfTables_135 : decode cX6_digestOfTables 135 = .ok (.lreturn, 1) := by decide +kernel
theorem dX6_isUnderWay_0 : decode cX6_isUnderWay 0 = .ok (.aload_n 0, 1) := by decide +kernel
theorem dX6_isUnderWay_1 : decode cX6_isUnderWay 1 = .ok (.getfield 63, 3) := by decide +kernel
theorem dX6_isUnderWay_4 : decode cX6_isUnderWay 4 = .ok (.ifCond .ne 7, 3) := by decide +kernel
theorem dX6_isUnderWay_7 : decode cX6_isUnderWay 7 = .ok (.iconst 1, 1) := by decide +kernel
theorem dX6_isUnderWay_8 : decode cX6_isUnderWay 8 = .ok (.goto 4, 3) := by decide +kernel
theorem dX6_isUnderWay_11 : decode cX6_isUnderWay 11 = .ok (.iconst 0, 1) := by decide +kernel
theorem dX6_isUnderWay_12 : decode cX6_isUnderWay 12 = .ok (.ireturn, 1) := by decide +kernel
set_option maxRecDepth 20000 in
theorem ggX6_passCycle_X5_add : GoodIn wsX6_passCycle wsX5_add := goodIn_r _ [10, 11, 12, 13, 9, 14, 15, 16, 17, 18, 19, 268] (by decide +kernel) (by decide +kernel)
set_option maxRecDepth 20000 in
theorem gX6_passCycle_X5_add : GoodIn wsX6_passCycle (wsV RX6 100 RX5 yX5_add wsX5_add) := goodIn_app (goodIn_of _ (by decide +kernel)) ggX6_passCycle_X5_add
set_option maxRecDepth 20000 in
theorem ggX6_passCycle_X4_size : GoodIn wsX6_passCycle wsX4_size := goodIn_r _ [24, 25, 269, 270, 271, 272, 273, 274, 275, 276] (by decide +kernel) (by decide +kernel)
set_option maxRecDepth 20000 in
theorem gX6_passCycle_X4_size : GoodIn wsX6_passCycle (wsV RX6 148 RX4 yX4_size wsX4_size) := goodIn_app (goodIn_of _ (by decide +kernel)) ggX6_passCycle_X4_size
set_option maxRecDepth 20000 in
theorem ggX6_passCycle_X3_has : GoodIn wsX6_passCycle wsX3_has := goodIn_r _ [30, 31, 277, 278] (by decide +kernel) (by decide +kernel)
set_option maxRecDepth 20000 in
theorem gX6_passCycle_X3_has : GoodIn wsX6_passCycle (wsV RX6 149 RX3 yX3_has wsX3_has) := goodIn_app (goodIn_of _ (by decide +kernel)) ggX6_passCycle_X3_has
set_option maxRecDepth 20000 in
theorem ggX6_passCycle_X6_endRun : GoodIn wsX6_passCycle wsX6_endRun := goodIn_r _ [36, 37, 38, 39, 40, 35, 41, 1, 2, 20, 21, 22, 23, 24, 25, 6, 7, 8, 9, 10, 11, 12, 13, 14, 15, 16, 17, 18, 19, 42, 43, 44, 45, 258, 259, 260, 261, 262, 263, 264, 265, 266, 267, 269, 270, 271, 272, 273, 274, 275, 276, 268] (by decide +kernel) (by decide +kernel)
set_option maxRecDepth 20000 in
theorem gX6_passCycle_X6_endRun : GoodIn wsX6_passCycle (wsV RX6 119 RX6 yX6_endRun wsX6_endRun) := goodIn_app (goodIn_of _ (by decide +kernel)) ggX6_passCycle_X6_endRun
set_option maxRecDepth 20000 in
theorem ggX6_passCycle_X5_get : GoodIn wsX6_passCycle wsX5_get := goodIn_r _ [14, 15, 268] (by decide +kernel) (by decide +kernel)
set_option maxRecDepth 20000 in
theorem gX6_passCycle_X5_get : GoodIn wsX6_passCycle (wsV RX6 112 RX5 yX5_get wsX5_get) := goodIn_app (goodIn_of _ (by decide +kernel)) ggX6_passCycle_X5_get
set_option maxRecDepth 20000 in
theorem ggX6_passCycle_X4_isEldestOf : GoodIn wsX6_passCycle wsX4_isEldestOf := goodIn_r _ [50, 25, 51, 52, 53, 12, 13, 9, 14, 15, 269, 270, 271, 272, 273, 274, 275, 276, 268] (by decide +kernel) (by decide +kernel)
set_option maxRecDepth 20000 in
theorem gX6_passCycle_X4_isEldestOf : GoodIn wsX6_passCycle (wsV RX6 185 RX4 yX4_isEldestOf wsX4_isEldestOf) := goodIn_app (goodIn_of _ (by decide +kernel)) ggX6_passCycle_X4_isEldestOf
set_option maxRecDepth 20000 in
theorem ggX6_passCycle_X6_finishEldest : GoodIn wsX6_passCycle wsX6_finishEldest := goodIn_r _ [57, 2, 3, 58, 59, 60, 61, 62, 23, 63, 52, 25, 64, 65, 66, 67, 68, 69, 70, 71, 72, 53, 12, 13, 9, 14, 15, 73, 74, 75, 29, 76, 77, 78, 79, 80, 81, 82, 83, 84, 85, 86, 87, 35, 88, 89, 90, 91, 92, 93, 94, 95, 96, 97, 98, 99, 17, 18, 19, 100, 101, 102, 103, 104, 105, 106, 107, 108, 109, 110, 111, 112, 113, 114, 115, 116, 117, 118, 119, 120, 121, 122, 123, 31, 32, 33, 34, 36, 37, 38, 39, 40, 41, 1, 20, 21, 22, 24, 6, 7, 8, 10, 11, 16, 42, 43, 44, 45, 124, 125, 126, 127, 128, 129, 130, 131, 132, 133, 134, 135, 136, 137, 138, 139, 140, 141, 142, 143, 144, 145, 146, 147, 148, 149, 150, 151, 152, 153, 154, 155, 156, 157, 158, 159, 160, 161, 162, 163, 164, 165, 166, 167, 168, 169, 170, 171, 172, 173, 174, 175, 176, 177, 4, 178, 179, 180, 181, 182, 183, 184, 185, 186, 187, 188, 189, 190, 191, 192, 193, 194, 195, 196, 197, 198, 199, 200, 201, 202, 203, 204, 205, 206, 207, 208, 209, 210, 211, 212, 258, 259, 260, 261, 262, 263, 264, 265, 266, 267, 269, 270, 271, 272, 273, 274, 275, 276, 268, 277, 278, 279, 280, 281, 282, 283, 284, 285, 286, 287, 288, 289, 290, 291] (by decide +kernel) (by decide +kernel)
set_option maxRecDepth 20000 in
theorem gX6_passCycle_X6_finishEldest : GoodIn wsX6_passCycle (wsV RX6 188 RX6 yX6_finishEldest wsX6_finishEldest) := goodIn_app (goodIn_of _ (by decide +kernel)) ggX6_passCycle_X6_finishEldest
set_option maxRecDepth 20000 in
theorem ggX6_passCycle_X6_isUnderWay : GoodIn wsX6_passCycle wsX6_isUnderWay := goodIn_r _ [216, 37, 258, 259, 260, 261, 262, 263, 264, 265, 266, 267] (by decide +kernel) (by decide +kernel)
set_option maxRecDepth 20000 in
theorem gX6_passCycle_X6_isUnderWay : GoodIn wsX6_passCycle (wsV RX6 70 RX6 yX6_isUnderWay wsX6_isUnderWay) := goodIn_app (goodIn_of _ (by decide +kernel)) ggX6_passCycle_X6_isUnderWay
set_option maxRecDepth 20000 in
theorem ggX6_passCycle_X6_fetchAtPlace : GoodIn wsX6_passCycle wsX6_fetchAtPlace := goodIn_r _ [220, 2, 4, 1, 59, 221, 46, 12, 13, 9, 14, 15, 222, 223, 224, 23, 225, 52, 25, 226, 158, 66, 159, 72, 51, 227, 17, 18, 19, 228, 229, 230, 142, 231, 182, 183, 184, 185, 186, 187, 232, 233, 234, 235, 138, 192, 193, 236, 237, 238, 103, 239, 105, 240, 113, 114, 115, 106, 116, 117, 118, 119, 241, 242, 243, 244, 166, 153, 6, 7, 8, 10, 11, 16, 245, 246, 247, 248, 168, 167, 249, 132, 35, 133, 250, 251, 252, 253, 144, 145, 146, 150, 151, 152, 147, 148, 149, 203, 204, 205, 206, 212, 108, 109, 110, 111, 65, 67, 112, 207, 208, 209, 210, 211, 101, 102, 104, 254, 255, 256, 257, 173, 258, 259, 260, 261, 262, 263, 264, 265, 266, 267, 268, 269, 270, 271, 272, 273, 274, 275, 276, 284, 285, 286, 287, 288, 289, 290, 291, 282, 283] (by decide +kernel) (by decide +kernel)
set_option maxRecDepth 20000 in
theorem gX6_passCycle_X6_fetchAtPlace : GoodIn wsX6_passCycle (wsV RX6 191 RX6 yX6_fetchAtPlace wsX6_fetchAtPlace) := goodIn_app (goodIn_of _ (by decide +kernel)) ggX6_passCycle_X6_fetchAtPlace
theorem dX6_passCycle_0 : decode cX6_passCycle 0 = .ok (.aload_n 0, 1) := by decide +kernel
theorem dX6_passCycle_1 : decode cX6_passCycle 1 = .ok (.getfield 42, 3) := by decide +kernel
theorem dX6_passCycle_4 : decode cX6_passCycle 4 = .ok (.iconst 0, 1) := by decide +kernel
theorem dX6_passCycle_5 : decode cX6_passCycle 5 = .ok (.iconst 1, 1) := by decide +kernel
theorem dX6_passCycle_6 : decode cX6_passCycle 6 = .ok (.invokevirtual 100, 3) := by decide +kernel
theorem dX6_passCycle_9 : decode cX6_passCycle 9 = .ok (.aload_n 0, 1) := by decide +kernel
theorem dX6_passCycle_10 : decode cX6_passCycle 10 = .ok (.getfield 33, 3) := by decide +kernel
theorem dX6_passCycle_13 : decode cX6_passCycle 13 = .ok (.invokevirtual 148, 3) := by decide +kernel
theorem dX6_passCycle_16 : decode cX6_passCycle 16 = .ok (.ifCond .ne 23, 3) := by decide +kernel
theorem dX6_passCycle_19 : decode cX6_passCycle 19 = .ok (.aload_n 0, 1) := by decide +kernel
theorem dX6_passCycle_20 : decode cX6_passCycle 20 = .ok (.getfield 10, 3) := by decide +kernel
theorem dX6_passCycle_23 : decode cX6_passCycle 23 = .ok (.aload_n 0, 1) := by decide +kernel
theorem dX6_passCycle_24 : decode cX6_passCycle 24 = .ok (.getfield 60, 3) := by decide +kernel
theorem dX6_passCycle_27 : decode cX6_passCycle 27 = .ok (.invokevirtual 149, 3) := by decide +kernel
theorem dX6_passCycle_30 : decode cX6_passCycle 30 = .ok (.ifCond .ne 9, 3) := by decide +kernel
theorem dX6_passCycle_33 : decode cX6_passCycle 33 = .ok (.aload_n 0, 1) := by decide +kernel
theorem dX6_passCycle_34 : decode cX6_passCycle 34 = .ok (.iconst 2, 1) := by decide +kernel
theorem dX6_passCycle_35 : decode cX6_passCycle 35 = .ok (.invokevirtual 119, 3) := by decide +kernel
theorem dX6_passCycle_38 : decode cX6_passCycle 38 = .ok (.return_, 1) := by decide +kernel
theorem dX6_passCycle_39 : decode cX6_passCycle 39 = .ok (.aload_n 0, 1) := by decide +kernel
theorem dX6_passCycle_40 : decode cX6_passCycle 40 = .ok (.getfield 33, 3) := by decide +kernel
theorem dX6_passCycle_43 : decode cX6_passCycle 43 = .ok (.aload_n 0, 1) := by decide +kernel
theorem dX6_passCycle_44 : decode cX6_passCycle 44 = .ok (.getfield 42, 3) := by decide +kernel
theorem dX6_passCycle_47 : decode cX6_passCycle 47 = .ok (.iconst 0, 1) := by decide +kernel
theorem dX6_passCycle_48 : decode cX6_passCycle 48 = .ok (.invokevirtual 112, 3) := by decide +kernel
theorem dX6_passCycle_51 : decode cX6_passCycle 51 = .ok (.aload_n 0, 1) := by decide +kernel
theorem dX6_passCycle_52 : decode cX6_passCycle 52 = .ok (.getfield 57, 3) := by decide +kernel
theorem dX6_passCycle_55 : decode cX6_passCycle 55 = .ok (.isub, 1) := by decide +kernel
theorem dX6_passCycle_56 : decode cX6_passCycle 56 = .ok (.invokevirtual 185, 3) := by decide +kernel
theorem dX6_passCycle_59 : decode cX6_passCycle 59 = .ok (.ifCond .eq 7, 3) := by decide +kernel
theorem dX6_passCycle_62 : decode cX6_passCycle 62 = .ok (.aload_n 0, 1) := by decide +kernel
theorem dX6_passCycle_63 : decode cX6_passCycle 63 = .ok (.invokevirtual 188, 3) := by decide +kernel
theorem dX6_passCycle_66 : decode cX6_passCycle 66 = .ok (.aload_n 0, 1) := by decide +kernel
theorem dX6_passCycle_67 : decode cX6_passCycle 67 = .ok (.invokevirtual 70, 3) := by decide +kernel
theorem dX6_passCycle_70 : decode cX6_passCycle 70 = .ok (.ifCond .eq 21, 3) := by decide +kernel
theorem dX6_passCycle_73 : decode cX6_passCycle 73 = .ok (.aload_n 0, 1) := by decide +kernel
theorem dX6_passCycle_74 : decode cX6_passCycle 74 = .ok (.getfield 10, 3) := by decide +kernel
theorem dX6_passCycle_77 : decode cX6_passCycle 77 = .ok (.aload_n 0, 1) := by decide +kernel
theorem dX6_passCycle_78 : decode cX6_passCycle 78 = .ok (.getfield 60, 3) := by decide +kernel
theorem dX6_passCycle_81 : decode cX6_passCycle 81 = .ok (.invokevirtual 149, 3) := by decide +kernel
theorem dX6_passCycle_84 : decode cX6_passCycle 84 = .ok (.ifCond .eq 7, 3) := by decide +kernel
theorem dX6_passCycle_87 : decode cX6_passCycle 87 = .ok (.aload_n 0, 1) := by decide +kernel
theorem dX6_passCycle_88 : decode cX6_passCycle 88 = .ok (.invokevirtual 191, 3) := by decide +kernel
theorem dX6_passCycle_91 : decode cX6_passCycle 91 = .ok (.return_, 1) := by decide +kernel
set_option maxRecDepth 20000 in
theorem ggX6_fetchAtPlace_X5_get : GoodIn wsX6_fetchAtPlace wsX5_get := goodIn_r _ [10, 11, 132] (by decide +kernel) (by decide +kernel)
set_option maxRecDepth 20000 in
theorem gX6_fetchAtPlace_X5_get : GoodIn wsX6_fetchAtPlace (wsV RX6 112 RX5 yX5_get wsX5_get) := goodIn_app (goodIn_of _ (by decide +kernel)) ggX6_fetchAtPlace_X5_get
set_option maxRecDepth 20000 in
theorem ggX6_fetchAtPlace_X4_add : GoodIn wsX6_fetchAtPlace wsX4_add := goodIn_r _ [16, 17, 18, 19, 20, 21, 22, 23, 24, 25, 26, 27, 9, 28, 11, 133, 134, 135, 136, 137, 138, 139, 140, 132] (by decide +kernel) (by decide +kernel)
set_option maxRecDepth 20000 in
theorem gX6_fetchAtPlace_X4_add : GoodIn wsX6_fetchAtPlace (wsV RX6 194 RX4 yX4_add wsX4_add) := goodIn_app (goodIn_of _ (by decide +kernel)) ggX6_fetchAtPlace_X4_add
set_option maxRecDepth 20000 in
theorem ggX6_fetchAtPlace_X1_history : GoodIn wsX6_fetchAtPlace wsX1_history := goodIn_r _ [33, 34, 141, 142, 143, 144, 145, 146, 147, 148] (by decide +kernel) (by decide +kernel)
set_option maxRecDepth 20000 in
theorem gX6_fetchAtPlace_X1_history : GoodIn wsX6_fetchAtPlace (wsV RX6 196 RX1 yX1_history wsX1_history) := goodIn_app (goodIn_of _ (by decide +kernel)) ggX6_fetchAtPlace_X1_history
set_option maxRecDepth 20000 in
theorem ggX6_fetchAtPlace_X1_returns : GoodIn wsX6_fetchAtPlace wsX1_returns := goodIn_r _ [38, 39, 141, 142, 143, 144, 145, 146, 147, 148] (by decide +kernel) (by decide +kernel)
set_option maxRecDepth 20000 in
theorem gX6_fetchAtPlace_X1_returns : GoodIn wsX6_fetchAtPlace (wsV RX6 108 RX1 yX1_returns wsX1_returns) := goodIn_app (goodIn_of _ (by decide +kernel)) ggX6_fetchAtPlace_X1_returns
set_option maxRecDepth 20000 in
theorem ggX6_fetchAtPlace_X4_keep : GoodIn wsX6_fetchAtPlace wsX4_keep := goodIn_r _ [43, 44, 45, 46, 25, 26, 27, 9, 28, 11, 47, 48, 49, 50, 51, 52, 53, 54, 55, 56, 57, 58, 59, 60, 61, 133, 134, 135, 136, 137, 138, 139, 140, 132, 149, 150] (by decide +kernel) (by decide +kernel)
set_option maxRecDepth 20000 in
theorem gX6_fetchAtPlace_X4_keep : GoodIn wsX6_fetchAtPlace (wsV RX6 199 RX4 yX4_keep wsX4_keep) := goodIn_app (goodIn_of _ (by decide +kernel)) ggX6_fetchAtPlace_X4_keep
set_option maxRecDepth 20000 in
theorem ggX6_fetchAtPlace_X1_isInTargets : GoodIn wsX6_fetchAtPlace wsX1_isInTargets := goodIn_r _ [65, 66, 67, 7, 8, 9, 10, 11, 141, 142, 143, 144, 145, 146, 147, 148, 132] (by decide +kernel) (by decide +kernel)
set_option maxRecDepth 20000 in
theorem gX6_fetchAtPlace_X1_isInTargets : GoodIn wsX6_fetchAtPlace (wsV RX6 203 RX1 yX1_isInTargets wsX1_isInTargets) := goodIn_app (goodIn_of _ (by decide +kernel)) ggX6_fetchAtPlace_X1_isInTargets
set_option maxRecDepth 20000 in
theorem ggX6_fetchAtPlace_X5_add : GoodIn wsX6_fetchAtPlace wsX5_add := goodIn_r _ [71, 72, 7, 8, 9, 10, 11, 73, 26, 27, 28, 132] (by decide +kernel) (by decide +kernel)
set_option maxRecDepth 20000 in
theorem gX6_fetchAtPlace_X5_add : GoodIn wsX6_fetchAtPlace (wsV RX6 100 RX5 yX5_add wsX5_add) := goodIn_app (goodIn_of _ (by decide +kernel)) ggX6_fetchAtPlace_X5_add
set_option maxRecDepth 20000 in
theorem ggX6_fetchAtPlace_X1_guess : GoodIn wsX6_fetchAtPlace wsX1_guess := goodIn_r _ [77, 78, 79, 39, 80, 63, 64, 32, 65, 66, 67, 7, 8, 9, 10, 11, 81, 82, 83, 84, 85, 86, 87, 88, 89, 34, 90, 91, 92, 93, 94, 95, 96, 97, 98, 99, 100, 101, 102, 103, 50, 104, 52, 105, 106, 21, 107, 108, 54, 55, 56, 57, 58, 59, 60, 61, 109, 110, 111, 112, 113, 114, 115, 116, 141, 142, 143, 144, 145, 146, 147, 148, 132, 149, 150] (by decide +kernel) (by decide +kernel)
set_option maxRecDepth 20000 in
theorem gX6_fetchAtPlace_X1_guess : GoodIn wsX6_fetchAtPlace (wsV RX6 206 RX1 yX1_guess wsX1_guess) := goodIn_app (goodIn_of _ (by decide +kernel)) ggX6_fetchAtPlace_X1_guess
set_option maxRecDepth 20000 in
theorem ggX6_fetchAtPlace_X4_setGuess : GoodIn wsX6_fetchAtPlace wsX4_setGuess := goodIn_r _ [120, 121, 25, 26, 27, 9, 28, 11, 133, 134, 135, 136, 137, 138, 139, 140, 132] (by decide +kernel) (by decide +kernel)
set_option maxRecDepth 20000 in
theorem gX6_fetchAtPlace_X4_setGuess : GoodIn wsX6_fetchAtPlace (wsV RX6 209 RX4 yX4_setGuess wsX4_setGuess) := goodIn_app (goodIn_of _ (by decide +kernel)) ggX6_fetchAtPlace_X4_setGuess
theorem dX6_fetchAtPlace_0 : decode cX6_fetchAtPlace 0 = .ok (.aload_n 0, 1) := by decide +kernel
theorem dX6_fetchAtPlace_1 : decode cX6_fetchAtPlace 1 = .ok (.getfield 33, 3) := by decide +kernel
theorem dX6_fetchAtPlace_4 : decode cX6_fetchAtPlace 4 = .ok (.aload_n 0, 1) := by decide +kernel
theorem dX6_fetchAtPlace_5 : decode cX6_fetchAtPlace 5 = .ok (.getfield 60, 3) := by decide +kernel
theorem dX6_fetchAtPlace_8 : decode cX6_fetchAtPlace 8 = .ok (.aload_n 0, 1) := by decide +kernel
theorem dX6_fetchAtPlace_9 : decode cX6_fetchAtPlace 9 = .ok (.getfield 42, 3) := by decide +kernel
theorem dX6_fetchAtPlace_12 : decode cX6_fetchAtPlace 12 = .ok (.iconst 0, 1) := by decide +kernel
theorem dX6_fetchAtPlace_13 : decode cX6_fetchAtPlace 13 = .ok (.invokevirtual 112, 3) := by decide +kernel
theorem dX6_fetchAtPlace_16 : decode cX6_fetchAtPlace 16 = .ok (.invokevirtual 194, 3) := by decide +kernel
theorem dX6_fetchAtPlace_19 : decode cX6_fetchAtPlace 19 = .ok (.istore_n 1, 1) := by decide +kernel
theorem dX6_fetchAtPlace_20 : decode cX6_fetchAtPlace 20 = .ok (.aload_n 0, 1) := by decide +kernel
theorem dX6_fetchAtPlace_21 : decode cX6_fetchAtPlace 21 = .ok (.getfield 33, 3) := by decide +kernel
theorem dX6_fetchAtPlace_24 : decode cX6_fetchAtPlace 24 = .ok (.iload_n 1, 1) := by decide +kernel
theorem dX6_fetchAtPlace_25 : decode cX6_fetchAtPlace 25 = .ok (.aload_n 0, 1) := by decide +kernel
theorem dX6_fetchAtPlace_26 : decode cX6_fetchAtPlace 26 = .ok (.getfield 26, 3) := by decide +kernel
theorem dX6_fetchAtPlace_29 : decode cX6_fetchAtPlace 29 = .ok (.invokevirtual 196, 3) := by decide +kernel
theorem dX6_fetchAtPlace_32 : decode cX6_fetchAtPlace 32 = .ok (.aload_n 0, 1) := by decide +kernel
theorem dX6_fetchAtPlace_33 : decode cX6_fetchAtPlace 33 = .ok (.getfield 26, 3) := by decide +kernel
theorem dX6_fetchAtPlace_36 : decode cX6_fetchAtPlace 36 = .ok (.invokevirtual 108, 3) := by decide +kernel
theorem dX6_fetchAtPlace_39 : decode cX6_fetchAtPlace 39 = .ok (.invokevirtual 199, 3) := by decide +kernel
theorem dX6_fetchAtPlace_42 : decode cX6_fetchAtPlace 42 = .ok (.aload_n 0, 1) := by decide +kernel
theorem dX6_fetchAtPlace_43 : decode cX6_fetchAtPlace 43 = .ok (.getfield 26, 3) := by decide +kernel
theorem dX6_fetchAtPlace_46 : decode cX6_fetchAtPlace 46 = .ok (.aload_n 0, 1) := by decide +kernel
theorem dX6_fetchAtPlace_47 : decode cX6_fetchAtPlace 47 = .ok (.getfield 60, 3) := by decide +kernel
theorem dX6_fetchAtPlace_50 : decode cX6_fetchAtPlace 50 = .ok (.invokevirtual 203, 3) := by decide +kernel
theorem dX6_fetchAtPlace_53 : decode cX6_fetchAtPlace 53 = .ok (.ifCond .eq 13, 3) := by decide +kernel
theorem dX6_fetchAtPlace_56 : decode cX6_fetchAtPlace 56 = .ok (.aload_n 0, 1) := by decide +kernel
theorem dX6_fetchAtPlace_57 : decode cX6_fetchAtPlace 57 = .ok (.getfield 42, 3) := by decide +kernel
theorem dX6_fetchAtPlace_60 : decode cX6_fetchAtPlace 60 = .ok (.bipush 8, 2) := by decide +kernel
theorem dX6_fetchAtPlace_62 : decode cX6_fetchAtPlace 62 = .ok (.iconst 1, 1) := by decide +kernel
theorem dX6_fetchAtPlace_63 : decode cX6_fetchAtPlace 63 = .ok (.invokevirtual 100, 3) := by decide +kernel
theorem dX6_fetchAtPlace_66 : decode cX6_fetchAtPlace 66 = .ok (.aload_n 0, 1) := by decide +kernel
theorem dX6_fetchAtPlace_67 : decode cX6_fetchAtPlace 67 = .ok (.aload_n 0, 1) := by decide +kernel
theorem dX6_fetchAtPlace_68 : decode cX6_fetchAtPlace 68 = .ok (.getfield 26, 3) := by decide +kernel
theorem dX6_fetchAtPlace_71 : decode cX6_fetchAtPlace 71 = .ok (.aload_n 0, 1) := by decide +kernel
theorem dX6_fetchAtPlace_72 : decode cX6_fetchAtPlace 72 = .ok (.getfield 60, 3) := by decide +kernel
theorem dX6_fetchAtPlace_75 : decode cX6_fetchAtPlace 75 = .ok (.aload_n 0, 1) := by decide +kernel
theorem dX6_fetchAtPlace_76 : decode cX6_fetchAtPlace 76 = .ok (.getfield 53, 3) := by decide +kernel
theorem dX6_fetchAtPlace_79 : decode cX6_fetchAtPlace 79 = .ok (.invokevirtual 206, 3) := by decide +kernel
theorem dX6_fetchAtPlace_82 : decode cX6_fetchAtPlace 82 = .ok (.putfield 60, 3) := by decide +kernel
theorem dX6_fetchAtPlace_85 : decode cX6_fetchAtPlace 85 = .ok (.aload_n 0, 1) := by decide +kernel
theorem dX6_fetchAtPlace_86 : decode cX6_fetchAtPlace 86 = .ok (.getfield 33, 3) := by decide +kernel
theorem dX6_fetchAtPlace_89 : decode cX6_fetchAtPlace 89 = .ok (.iload_n 1, 1) := by decide +kernel
theorem dX6_fetchAtPlace_90 : decode cX6_fetchAtPlace 90 = .ok (.aload_n 0, 1) := by decide +kernel
theorem dX6_fetchAtPlace_91 : decode cX6_fetchAtPlace 91 = .ok (.getfield 60, 3) := by decide +kernel
theorem dX6_fetchAtPlace_94 : decode cX6_fetchAtPlace 94 = .ok (.invokevirtual 209, 3) := by decide +kernel
theorem dX6_fetchAtPlace_97 : decode cX6_fetchAtPlace 97 = .ok (.return_, 1) := by decide +kernel
set_option maxRecDepth 20000 in
theorem ggX6_finishEldest_X4_takeEldest : GoodIn wsX6_finishEldest wsX4_takeEldest := goodIn_r _ [9, 10, 11, 12, 13, 14, 15, 208, 209, 210, 211, 212, 213, 214, 215] (by decide +kernel) (by decide +kernel)
set_option maxRecDepth 20000 in
theorem gX6_finishEldest_X4_takeEldest : GoodIn wsX6_finishEldest (wsV RX6 212 RX4 yX4_takeEldest wsX4_takeEldest) := goodIn_app (goodIn_of _ (by decide +kernel)) ggX6_finishEldest_X4_takeEldest
set_option maxRecDepth 20000 in
theorem ggX6_finishEldest_X4_addressOf : GoodIn wsX6_finishEldest wsX4_addressOf := goodIn_r _ [19, 20, 21, 22, 23, 24, 25, 26, 208, 209, 210, 211, 212, 213, 214, 215, 216] (by decide +kernel) (by decide +kernel)
set_option maxRecDepth 20000 in
theorem gX6_finishEldest_X4_addressOf : GoodIn wsX6_finishEldest (wsV RX6 215 RX4 yX4_addressOf wsX4_addressOf) := goodIn_app (goodIn_of _ (by decide +kernel)) ggX6_finishEldest_X4_addressOf
set_option maxRecDepth 20000 in
theorem ggX6_finishEldest_X3_part : GoodIn wsX6_finishEldest wsX3_part := goodIn_r _ [31, 32, 33, 22, 23, 24, 25, 26, 217, 218, 216] (by decide +kernel) (by decide +kernel)
set_option maxRecDepth 20000 in
theorem gX6_finishEldest_X3_part : GoodIn wsX6_finishEldest (wsV RX6 152 RX3 yX3_part wsX3_part) := goodIn_app (goodIn_of _ (by decide +kernel)) ggX6_finishEldest_X3_part
set_option maxRecDepth 20000 in
theorem ggX6_finishEldest_X0_turns : GoodIn wsX6_finishEldest wsX0_turns := goodIn_r _ [38, 39, 40, 28, 29, 30, 31, 32, 33, 22, 23, 24, 25, 26, 41, 42, 43, 44, 45, 46, 47, 219, 220, 221, 217, 218, 216] (by decide +kernel) (by decide +kernel)
set_option maxRecDepth 20000 in
theorem gX6_finishEldest_X0_turns : GoodIn wsX6_finishEldest (wsV RX6 218 RX0 yX0_turns wsX0_turns) := goodIn_app (goodIn_of _ (by decide +kernel)) ggX6_finishEldest_X0_turns
set_option maxRecDepth 20000 in
theorem ggX6_finishEldest_X0_perform : GoodIn wsX6_finishEldest wsX0_perform := goodIn_r _ [51, 39, 52, 53, 54, 40, 28, 29, 30, 31, 32, 33, 22, 23, 24, 25, 26, 41, 55, 56, 57, 58, 59, 60, 61, 62, 63, 64, 65, 66, 67, 68, 69, 70, 13, 14, 15, 71, 72, 73, 74, 75, 76, 77, 78, 79, 80, 81, 82, 83, 219, 220, 221, 217, 218, 216, 222, 223] (by decide +kernel) (by decide +kernel)
set_option maxRecDepth 20000 in
theorem gX6_finishEldest_X0_perform : GoodIn wsX6_finishEldest (wsV RX6 222 RX0 yX0_perform wsX0_perform) := goodIn_app (goodIn_of _ (by decide +kernel)) ggX6_finishEldest_X0_perform
set_option maxRecDepth 20000 in
theorem ggX6_finishEldest_X6_endRun : GoodIn wsX6_finishEldest wsX6_endRun := goodIn_r _ [87, 88, 89, 90, 91, 43, 92, 93, 1, 94, 95, 96, 8, 97, 11, 98, 99, 100, 24, 101, 102, 22, 23, 25, 26, 103, 56, 57, 58, 104, 105, 106, 107, 198, 199, 200, 201, 202, 203, 204, 205, 206, 207, 208, 209, 210, 211, 212, 213, 214, 215, 216] (by decide +kernel) (by decide +kernel)
set_option maxRecDepth 20000 in
theorem gX6_finishEldest_X6_endRun : GoodIn wsX6_finishEldest (wsV RX6 119 RX6 yX6_endRun wsX6_endRun) := goodIn_app (goodIn_of _ (by decide +kernel)) ggX6_finishEldest_X6_endRun
set_option maxRecDepth 20000 in
theorem ggX6_finishEldest_X6_noteDone : GoodIn wsX6_finishEldest wsX6_noteDone := goodIn_r _ [111, 93, 112, 98, 99, 100, 24, 101, 102, 22, 23, 25, 26, 103, 56, 57, 58, 113, 60, 61, 62, 63, 64, 65, 114, 42, 43, 44, 45, 46, 47, 115, 116, 117, 198, 199, 200, 201, 202, 203, 204, 205, 206, 207, 216, 222, 223] (by decide +kernel) (by decide +kernel)
set_option maxRecDepth 20000 in
theorem gX6_finishEldest_X6_noteDone : GoodIn wsX6_finishEldest (wsV RX6 226 RX6 yX6_noteDone wsX6_noteDone) := goodIn_app (goodIn_of _ (by decide +kernel)) ggX6_finishEldest_X6_noteDone
set_option maxRecDepth 20000 in
theorem ggX6_finishEldest_X6_isBranch : GoodIn wsX6_finishEldest wsX6_isBranch := goodIn_r _ [117] (by decide +kernel) (by decide +kernel)
set_option maxRecDepth 20000 in
theorem gX6_finishEldest_X6_isBranch : GoodIn wsX6_finishEldest (va_wsS RX6 229 yX6_isBranch wsX6_isBranch) := goodIn_app (goodIn_of _ (by decide +kernel)) ggX6_finishEldest_X6_isBranch
set_option maxRecDepth 20000 in
theorem ggX6_finishEldest_X4_historyOf : GoodIn wsX6_finishEldest wsX4_historyOf := goodIn_r _ [121, 122, 21, 22, 23, 24, 25, 26, 208, 209, 210, 211, 212, 213, 214, 215, 216] (by decide +kernel) (by decide +kernel)
set_option maxRecDepth 20000 in
theorem gX6_finishEldest_X4_historyOf : GoodIn wsX6_finishEldest (wsV RX6 232 RX4 yX4_historyOf wsX4_historyOf) := goodIn_app (goodIn_of _ (by decide +kernel)) ggX6_finishEldest_X4_historyOf
set_option maxRecDepth 20000 in
theorem ggX6_finishEldest_X1_learn : GoodIn wsX6_finishEldest wsX1_learn := goodIn_r _ [127, 128, 129, 130, 131, 132, 126, 133, 134, 135, 136, 137, 22, 23, 24, 25, 26, 138, 139, 140, 141, 142, 14, 143, 144, 13, 15, 145, 56, 57, 58, 224, 225, 226, 227, 228, 229, 230, 231, 216] (by decide +kernel) (by decide +kernel)
set_option maxRecDepth 20000 in
theorem gX6_finishEldest_X1_learn : GoodIn wsX6_finishEldest (wsV RX6 235 RX1 yX1_learn wsX1_learn) := goodIn_app (goodIn_of _ (by decide +kernel)) ggX6_finishEldest_X1_learn
set_option maxRecDepth 20000 in
theorem ggX6_finishEldest_X1_noteTarget : GoodIn wsX6_finishEldest wsX1_noteTarget := goodIn_r _ [149, 150, 151, 152, 145, 56, 57, 24, 58, 26, 224, 225, 226, 227, 228, 229, 230, 231, 216] (by decide +kernel) (by decide +kernel)
set_option maxRecDepth 20000 in
theorem gX6_finishEldest_X1_noteTarget : GoodIn wsX6_finishEldest (wsV RX6 239 RX1 yX1_noteTarget wsX1_noteTarget) := goodIn_app (goodIn_of _ (by decide +kernel)) ggX6_finishEldest_X1_noteTarget
set_option maxRecDepth 20000 in
theorem ggX6_finishEldest_X4_guessOf : GoodIn wsX6_finishEldest wsX4_guessOf := goodIn_r _ [156, 157, 21, 22, 23, 24, 25, 26, 208, 209, 210, 211, 212, 213, 214, 215, 216] (by decide +kernel) (by decide +kernel)
set_option maxRecDepth 20000 in
theorem gX6_finishEldest_X4_guessOf : GoodIn wsX6_finishEldest (wsV RX6 243 RX4 yX4_guessOf wsX4_guessOf) := goodIn_app (goodIn_of _ (by decide +kernel)) ggX6_finishEldest_X4_guessOf
set_option maxRecDepth 20000 in
theorem ggX6_finishEldest_X6_goBack : GoodIn wsX6_finishEldest wsX6_goBack := goodIn_r _ [161, 93, 162, 4, 1, 98, 99, 100, 24, 101, 102, 22, 23, 25, 26, 103, 56, 57, 58, 115, 116, 43, 117, 89, 90, 91, 92, 94, 95, 96, 8, 97, 11, 104, 105, 106, 107, 118, 119, 120, 121, 122, 21, 163, 164, 165, 126, 166, 167, 168, 169, 170, 171, 172, 173, 174, 175, 176, 177, 178, 179, 180, 181, 62, 182, 64, 183, 60, 61, 63, 65, 16, 17, 18, 19, 20, 184, 185, 186, 187, 188, 189, 190, 191, 192, 193, 194, 195, 70, 13, 14, 15, 196, 197, 67, 68, 69, 71, 72, 73, 74, 75, 76, 77, 78, 198, 199, 200, 201, 202, 203, 204, 205, 206, 207, 216, 208, 209, 210, 211, 212, 213, 214, 215, 224, 225, 226, 227, 228, 229, 230, 231, 222, 223] (by decide +kernel) (by decide +kernel)
set_option maxRecDepth 20000 in
theorem gX6_finishEldest_X6_goBack : GoodIn wsX6_finishEldest (wsV RX6 246 RX6 yX6_goBack wsX6_goBack) := goodIn_app (goodIn_of _ (by decide +kernel)) ggX6_finishEldest_X6_goBack
theorem dX6_finishEldest_0 : decode cX6_finishEldest 0 = .ok (.aload_n 0, 1) := by decide +kernel
theorem dX6_finishEldest_1 : decode cX6_finishEldest 1 = .ok (.getfield 33, 3) := by decide +kernel
theorem dX6_finishEldest_4 : decode cX6_finishEldest 4 = .ok (.invokevirtual 212, 3) := by decide +kernel
theorem dX6_finishEldest_7 : decode cX6_finishEldest 7 = .ok (.istore_n 1, 1) := by decide +kernel
theorem dX6_finishEldest_8 : decode cX6_finishEldest 8 = .ok (.aload_n 0, 1) := by decide +kernel
theorem dX6_finishEldest_9 : decode cX6_finishEldest 9 = .ok (.getfield 33, 3) := by decide +kernel
theorem dX6_finishEldest_12 : decode cX6_finishEldest 12 = .ok (.iload_n 1, 1) := by decide +kernel
theorem dX6_finishEldest_13 : decode cX6_finishEldest 13 = .ok (.invokevirtual 215, 3) := by decide +kernel
theorem dX6_finishEldest_16 : decode cX6_finishEldest 16 = .ok (.istore_n 2, 1) := by decide +kernel
theorem dX6_finishEldest_17 : decode cX6_finishEldest 17 = .ok (.aload_n 0, 1) := by decide +kernel
theorem dX6_finishEldest_18 : decode cX6_finishEldest 18 = .ok (.getfield 10, 3) := by decide +kernel
theorem dX6_finishEldest_21 : decode cX6_finishEldest 21 = .ok (.iload_n 2, 1) := by decide +kernel
theorem dX6_finishEldest_22 : decode cX6_finishEldest 22 = .ok (.iconst 0, 1) := by decide +kernel
theorem dX6_finishEldest_23 : decode cX6_finishEldest 23 = .ok (.invokevirtual 152, 3) := by decide +kernel
theorem dX6_finishEldest_26 : decode cX6_finishEldest 26 = .ok (.istore_n 3, 1) := by decide +kernel
theorem dX6_finishEldest_27 : decode cX6_finishEldest 27 = .ok (.aload_n 0, 1) := by decide +kernel
theorem dX6_finishEldest_28 : decode cX6_finishEldest 28 = .ok (.getfield 19, 3) := by decide +kernel
theorem dX6_finishEldest_31 : decode cX6_finishEldest 31 = .ok (.aload_n 0, 1) := by decide +kernel
theorem dX6_finishEldest_32 : decode cX6_finishEldest 32 = .ok (.getfield 10, 3) := by decide +kernel
theorem dX6_finishEldest_35 : decode cX6_finishEldest 35 = .ok (.iload_n 2, 1) := by decide +kernel
theorem dX6_finishEldest_36 : decode cX6_finishEldest 36 = .ok (.invokevirtual 218, 3) := by decide +kernel
theorem dX6_finishEldest_39 : decode cX6_finishEldest 39 = .ok (.istore 4, 2) := by decide +kernel
theorem dX6_finishEldest_41 : decode cX6_finishEldest 41 = .ok (.iload_n 3, 1) := by decide +kernel
theorem dX6_finishEldest_42 : decode cX6_finishEldest 42 = .ok (.bipush 11, 2) := by decide +kernel
theorem dX6_finishEldest_44 : decode cX6_finishEldest 44 = .ok (.if_icmp .ne 7, 3) := by decide +kernel
theorem dX6_finishEldest_47 : decode cX6_finishEldest 47 = .ok (.iconst (-1), 1) := by decide +kernel
theorem dX6_finishEldest_48 : decode cX6_finishEldest 48 = .ok (.goto 15, 3) := by decide +kernel
theorem dX6_finishEldest_51 : decode cX6_finishEldest 51 = .ok (.aload_n 0, 1) := by decide +kernel
theorem dX6_finishEldest_52 : decode cX6_finishEldest 52 = .ok (.getfield 19, 3) := by decide +kernel
theorem dX6_finishEldest_55 : decode cX6_finishEldest 55 = .ok (.aload_n 0, 1) := by decide +kernel
theorem dX6_finishEldest_56 : decode cX6_finishEldest 56 = .ok (.getfield 10, 3) := by decide +kernel
theorem dX6_finishEldest_59 : decode cX6_finishEldest 59 = .ok (.iload_n 2, 1) := by decide +kernel
theorem dX6_finishEldest_60 : decode cX6_finishEldest 60 = .ok (.invokevirtual 222, 3) := by decide +kernel
theorem dX6_finishEldest_63 : decode cX6_finishEldest 63 = .ok (.istore 5, 2) := by decide +kernel
theorem dX6_finishEldest_65 : decode cX6_finishEldest 65 = .ok (.iload 5, 2) := by decide +kernel
theorem dX6_finishEldest_67 : decode cX6_finishEldest 67 = .ok (.iconst (-1), 1) := by decide +kernel
theorem dX6_finishEldest_68 : decode cX6_finishEldest 68 = .ok (.if_icmp .ne 15, 3) := by decide +kernel
theorem dX6_finishEldest_71 : decode cX6_finishEldest 71 = .ok (.iload_n 3, 1) := by decide +kernel
theorem dX6_finishEldest_72 : decode cX6_finishEldest 72 = .ok (.bipush 11, 2) := by decide +kernel
theorem dX6_finishEldest_74 : decode cX6_finishEldest 74 = .ok (.if_icmp .eq 9, 3) := by decide +kernel
theorem dX6_finishEldest_77 : decode cX6_finishEldest 77 = .ok (.aload_n 0, 1) := by decide +kernel
theorem dX6_finishEldest_78 : decode cX6_finishEldest 78 = .ok (.iconst 2, 1) := by decide +kernel
theorem dX6_finishEldest_79 : decode cX6_finishEldest 79 = .ok (.invokevirtual 119, 3) := by decide +kernel
theorem dX6_finishEldest_82 : decode cX6_finishEldest 82 = .ok (.return_, 1) := by decide +kernel
theorem dX6_finishEldest_83 : decode cX6_finishEldest 83 = .ok (.aload_n 0, 1) := by decide +kernel
theorem dX6_finishEldest_84 : decode cX6_finishEldest 84 = .ok (.iload_n 2, 1) := by decide +kernel
theorem dX6_finishEldest_85 : decode cX6_finishEldest 85 = .ok (.iload_n 3, 1) := by decide +kernel
theorem dX6_finishEldest_86 : decode cX6_finishEldest 86 = .ok (.invokevirtual 226, 3) := by decide +kernel
theorem dX6_finishEldest_89 : decode cX6_finishEldest 89 = .ok (.iload_n 3, 1) := by decide +kernel
theorem dX6_finishEldest_90 : decode cX6_finishEldest 90 = .ok (.bipush 11, 2) := by decide +kernel
theorem dX6_finishEldest_92 : decode cX6_finishEldest 92 = .ok (.if_icmp .ne 9, 3) := by decide +kernel
theorem dX6_finishEldest_95 : decode cX6_finishEldest 95 = .ok (.aload_n 0, 1) := by decide +kernel
theorem dX6_finishEldest_96 : decode cX6_finishEldest 96 = .ok (.iconst 1, 1) := by decide +kernel
theorem dX6_finishEldest_97 : decode cX6_finishEldest 97 = .ok (.invokevirtual 119, 3) := by decide +kernel
theorem dX6_finishEldest_100 : decode cX6_finishEldest 100 = .ok (.return_, 1) := by decide +kernel
theorem dX6_finishEldest_101 : decode cX6_finishEldest 101 = .ok (.iload_n 3, 1) := by decide +kernel
theorem dX6_finishEldest_102 : decode cX6_finishEldest 102 = .ok (.invokestatic 229, 3) := by decide +kernel
theorem dX6_finishEldest_105 : decode cX6_finishEldest 105 = .ok (.ifCond .eq 21, 3) := by decide +kernel
theorem dX6_finishEldest_108 : decode cX6_finishEldest 108 = .ok (.aload_n 0, 1) := by decide +kernel
theorem dX6_finishEldest_109 : decode cX6_finishEldest 109 = .ok (.getfield 26, 3) := by decide +kernel
theorem dX6_finishEldest_112 : decode cX6_finishEldest 112 = .ok (.iload_n 2, 1) := by decide +kernel
theorem dX6_finishEldest_113 : decode cX6_finishEldest 113 = .ok (.aload_n 0, 1) := by decide +kernel
theorem dX6_finishEldest_114 : decode cX6_finishEldest 114 = .ok (.getfield 33, 3) := by decide +kernel
theorem dX6_finishEldest_117 : decode cX6_finishEldest 117 = .ok (.iload_n 1, 1) := by decide +kernel
theorem dX6_finishEldest_118 : decode cX6_finishEldest 118 = .ok (.invokevirtual 232, 3) := by decide +kernel
theorem dX6_finishEldest_121 : decode cX6_finishEldest 121 = .ok (.iload 4, 2) := by decide +kernel
theorem dX6_finishEldest_123 : decode cX6_finishEldest 123 = .ok (.invokevirtual 235, 3) := by decide +kernel
theorem dX6_finishEldest_126 : decode cX6_finishEldest 126 = .ok (.iload 4, 2) := by decide +kernel
theorem dX6_finishEldest_128 : decode cX6_finishEldest 128 = .ok (.ifCond .eq 14, 3) := by decide +kernel
theorem dX6_finishEldest_131 : decode cX6_finishEldest 131 = .ok (.aload_n 0, 1) := by decide +kernel
theorem dX6_finishEldest_132 : decode cX6_finishEldest 132 = .ok (.getfield 26, 3) := by decide +kernel
theorem dX6_finishEldest_135 : decode cX6_finishEldest 135 = .ok (.iload_n 2, 1) := by decide +kernel
theorem dX6_finishEldest_136 : decode cX6_finishEldest 136 = .ok (.iload_n 3, 1) := by decide +kernel
theorem dX6_finishEldest_137 : decode cX6_finishEldest 137 = .ok (.iload 5, 2) := by decide +kernel
theorem dX6_finishEldest_139 : decode cX6_finishEldest 139 = .ok (.invokevirtual 239, 3) := by decide +kernel
theorem dX6_finishEldest_142 : decode cX6_finishEldest 142 = .ok (.iload 5, 2) := by decide +kernel
theorem dX6_finishEldest_144 : decode cX6_finishEldest 144 = .ok (.aload_n 0, 1) := by decide +kernel
theorem dX6_finishEldest_145 : decode cX6_finishEldest 145 = .ok (.getfield 33, 3) := by decide +kernel
theorem dX6_finishEldest_148 : decode cX6_finishEldest 148 = .ok (.iload_n 1, 1) := by decide +kernel
theorem dX6_finishEldest_149 : decode cX6_finishEldest 149 = .ok (.invokevirtual 243, 3) := by decide +kernel
theorem dX6_finishEldest_152 : decode cX6_finishEldest 152 = .ok (.if_icmp .eq 13, 3) := by decide +kernel
theorem dX6_finishEldest_155 : decode cX6_finishEldest 155 = .ok (.aload_n 0, 1) := by decide +kernel
theorem dX6_finishEldest_156 : decode cX6_finishEldest 156 = .ok (.iload_n 1, 1) := by decide +kernel
theorem dX6_finishEldest_157 : decode cX6_finishEldest 157 = .ok (.iload_n 3, 1) := by decide +kernel
theorem dX6_finishEldest_158 : decode cX6_finishEldest 158 = .ok (.iload 4, 2) := by decide +kernel
theorem dX6_finishEldest_160 : decode cX6_finishEldest 160 = .ok (.iload 5, 2) := by decide +kernel
theorem dX6_finishEldest_162 : decode cX6_finishEldest 162 = .ok (.invokevirtual 246, 3) := by decide +kernel
theorem dX6_finishEldest_165 : decode cX6_finishEldest 165 = .ok (.return_, 1) := by decide +kernel
set_option maxRecDepth 20000 in
theorem ggX6_noteDone_X5_add : GoodIn wsX6_noteDone wsX5_add := goodIn_r _ [7, 8, 9, 10, 6, 11, 12, 13, 14, 15, 16, 44] (by decide +kernel) (by decide +kernel)
set_option maxRecDepth 20000 in
theorem gX6_noteDone_X5_add : GoodIn wsX6_noteDone (wsV RX6 100 RX5 yX5_add wsX5_add) := goodIn_app (goodIn_of _ (by decide +kernel)) ggX6_noteDone_X5_add
set_option maxRecDepth 20000 in
theorem ggX6_noteDone_X2_push : GoodIn wsX6_noteDone wsX2_push := goodIn_r _ [21, 22, 23, 45, 46] (by decide +kernel) (by decide +kernel)
set_option maxRecDepth 20000 in
theorem gX6_noteDone_X2_push : GoodIn wsX6_noteDone (wsV RX6 250 RX2 yX2_push wsX2_push) := goodIn_app (goodIn_of _ (by decide +kernel)) ggX6_noteDone_X2_push
set_option maxRecDepth 20000 in
theorem ggX6_noteDone_X6_isTurn : GoodIn wsX6_noteDone wsX6_isTurn := goodIn_r _ [27, 28, 29, 26, 30] (by decide +kernel) (by decide +kernel)
set_option maxRecDepth 20000 in
theorem gX6_noteDone_X6_isTurn : GoodIn wsX6_noteDone (va_wsS RX6 253 yX6_isTurn wsX6_isTurn) := goodIn_app (goodIn_of _ (by decide +kernel)) ggX6_noteDone_X6_isTurn
set_option maxRecDepth 20000 in
theorem ggX6_noteDone_X6_isBranch : GoodIn wsX6_noteDone wsX6_isBranch := goodIn_r _ [33] (by decide +kernel) (by decide +kernel)
set_option maxRecDepth 20000 in
theorem gX6_noteDone_X6_isBranch : GoodIn wsX6_noteDone (va_wsS RX6 229 yX6_isBranch wsX6_isBranch) := goodIn_app (goodIn_of _ (by decide +kernel)) ggX6_noteDone_X6_isBranch
theorem dX6_noteDone_0 : decode cX6_noteDone 0 = .ok (.aload_n 0, 1) := by decide +kernel
theorem dX6_noteDone_1 : decode cX6_noteDone 1 = .ok (.getfield 42, 3) := by decide +kernel
theorem dX6_noteDone_4 : decode cX6_noteDone 4 = .ok (.iconst 1, 1) := by decide +kernel
theorem dX6_noteDone_5 : decode cX6_noteDone 5 = .ok (.iconst 1, 1) := by decide +kernel
theorem dX6_noteDone_6 : decode cX6_noteDone 6 = .ok (.invokevirtual 100, 3) := by decide +kernel
theorem dX6_noteDone_9 : decode cX6_noteDone 9 = .ok (.aload_n 0, 1) := by decide +kernel
theorem dX6_noteDone_10 : decode cX6_noteDone 10 = .ok (.getfield 42, 3) := by decide +kernel
theorem dX6_noteDone_13 : decode cX6_noteDone 13 = .ok (.bipush 13, 2) := by decide +kernel
theorem dX6_noteDone_15 : decode cX6_noteDone 15 = .ok (.iconst 1, 1) := by decide +kernel
theorem dX6_noteDone_16 : decode cX6_noteDone 16 = .ok (.invokevirtual 100, 3) := by decide +kernel
theorem dX6_noteDone_19 : decode cX6_noteDone 19 = .ok (.aload_n 0, 1) := by decide +kernel
theorem dX6_noteDone_20 : decode cX6_noteDone 20 = .ok (.getfield 49, 3) := by decide +kernel
theorem dX6_noteDone_23 : decode cX6_noteDone 23 = .ok (.iload_n 1, 1) := by decide +kernel
theorem dX6_noteDone_24 : decode cX6_noteDone 24 = .ok (.invokevirtual 250, 3) := by decide +kernel
theorem dX6_noteDone_27 : decode cX6_noteDone 27 = .ok (.pop, 1) := by decide +kernel
theorem dX6_noteDone_28 : decode cX6_noteDone 28 = .ok (.iload_n 2, 1) := by decide +kernel
theorem dX6_noteDone_29 : decode cX6_noteDone 29 = .ok (.invokestatic 253, 3) := by decide +kernel
theorem dX6_noteDone_32 : decode cX6_noteDone 32 = .ok (.ifCond .eq 12, 3) := by decide +kernel
theorem dX6_noteDone_35 : decode cX6_noteDone 35 = .ok (.aload_n 0, 1) := by decide +kernel
theorem dX6_noteDone_36 : decode cX6_noteDone 36 = .ok (.getfield 42, 3) := by decide +kernel
theorem dX6_noteDone_39 : decode cX6_noteDone 39 = .ok (.iconst 4, 1) := by decide +kernel
theorem dX6_noteDone_40 : decode cX6_noteDone 40 = .ok (.iconst 1, 1) := by decide +kernel
theorem dX6_noteDone_41 : decode cX6_noteDone 41 = .ok (.invokevirtual 100, 3) := by decide +kernel
theorem dX6_noteDone_44 : decode cX6_noteDone 44 = .ok (.iload_n 2, 1) := by decide +kernel
theorem dX6_noteDone_45 : decode cX6_noteDone 45 = .ok (.invokestatic 229, 3) := by decide +kernel
theorem dX6_noteDone_48 : decode cX6_noteDone 48 = .ok (.ifCond .eq 12, 3) := by decide +kernel
theorem dX6_noteDone_51 : decode cX6_noteDone 51 = .ok (.aload_n 0, 1) := by decide +kernel
theorem dX6_noteDone_52 : decode cX6_noteDone 52 = .ok (.getfield 42, 3) := by decide +kernel
theorem dX6_noteDone_55 : decode cX6_noteDone 55 = .ok (.iconst 5, 1) := by decide +kernel
theorem dX6_noteDone_56 : decode cX6_noteDone 56 = .ok (.iconst 1, 1) := by decide +kernel
theorem dX6_noteDone_57 : decode cX6_noteDone 57 = .ok (.invokevirtual 100, 3) := by decide +kernel
theorem dX6_noteDone_60 : decode cX6_noteDone 60 = .ok (.return_, 1) := by decide +kernel
set_option maxRecDepth 20000 in
theorem ggX6_goBack_X5_add : GoodIn wsX6_goBack wsX5_add := goodIn_r _ [9, 10, 11, 12, 8, 13, 14, 15, 16, 17, 18, 115] (by decide +kernel) (by decide +kernel)
set_option maxRecDepth 20000 in
theorem gX6_goBack_X5_add : GoodIn wsX6_goBack (wsV RX6 100 RX5 yX5_add wsX5_add) := goodIn_app (goodIn_of _ (by decide +kernel)) ggX6_goBack_X5_add
set_option maxRecDepth 20000 in
theorem ggX6_goBack_X6_isBranch : GoodIn wsX6_goBack wsX6_isBranch := goodIn_r _ [22] (by decide +kernel) (by decide +kernel)
set_option maxRecDepth 20000 in
theorem gX6_goBack_X6_isBranch : GoodIn wsX6_goBack (va_wsS RX6 229 yX6_isBranch wsX6_isBranch) := goodIn_app (goodIn_of _ (by decide +kernel)) ggX6_goBack_X6_isBranch
set_option maxRecDepth 20000 in
theorem ggX6_goBack_X6_dropFetched : GoodIn wsX6_goBack wsX6_dropFetched := goodIn_r _ [26, 1, 4, 27, 28, 29, 30, 31, 32, 5, 6, 7, 8, 9, 10, 11, 12, 13, 14, 15, 16, 17, 18, 33, 34, 35, 36, 105, 106, 107, 108, 109, 110, 111, 112, 113, 114, 116, 117, 118, 119, 120, 121, 122, 123, 115] (by decide +kernel) (by decide +kernel)
set_option maxRecDepth 20000 in
theorem gX6_goBack_X6_dropFetched : GoodIn wsX6_goBack (wsV RX6 256 RX6 yX6_dropFetched wsX6_dropFetched) := goodIn_app (goodIn_of _ (by decide +kernel)) ggX6_goBack_X6_dropFetched
set_option maxRecDepth 20000 in
theorem ggX6_goBack_X4_historyOf : GoodIn wsX6_goBack wsX4_historyOf := goodIn_r _ [40, 41, 42, 11, 12, 8, 13, 14, 116, 117, 118, 119, 120, 121, 122, 123, 115] (by decide +kernel) (by decide +kernel)
set_option maxRecDepth 20000 in
theorem gX6_goBack_X4_historyOf : GoodIn wsX6_goBack (wsV RX6 232 RX4 yX4_historyOf wsX4_historyOf) := goodIn_app (goodIn_of _ (by decide +kernel)) ggX6_goBack_X4_historyOf
set_option maxRecDepth 20000 in
theorem ggX6_goBack_X1_setHistory : GoodIn wsX6_goBack wsX1_setHistory := goodIn_r _ [47, 48, 124, 125, 126, 127, 128, 129, 130, 131] (by decide +kernel) (by decide +kernel)
set_option maxRecDepth 20000 in
theorem gX6_goBack_X1_setHistory : GoodIn wsX6_goBack (wsV RX6 259 RX1 yX1_setHistory wsX1_setHistory) := goodIn_app (goodIn_of _ (by decide +kernel)) ggX6_goBack_X1_setHistory
set_option maxRecDepth 20000 in
theorem ggX6_goBack_X1_returns : GoodIn wsX6_goBack wsX1_returns := goodIn_r _ [52, 53, 124, 125, 126, 127, 128, 129, 130, 131] (by decide +kernel) (by decide +kernel)
set_option maxRecDepth 20000 in
theorem gX6_goBack_X1_returns : GoodIn wsX6_goBack (wsV RX6 108 RX1 yX1_returns wsX1_returns) := goodIn_app (goodIn_of _ (by decide +kernel)) ggX6_goBack_X1_returns
set_option maxRecDepth 20000 in
theorem ggX6_goBack_X4_giveReturnsBack : GoodIn wsX6_goBack wsX4_giveReturnsBack := goodIn_r _ [57, 58, 59, 60, 61, 62, 63, 64, 65, 42, 11, 12, 8, 13, 14, 66, 67, 68, 69, 70, 116, 117, 118, 119, 120, 121, 122, 123, 132, 133, 115] (by decide +kernel) (by decide +kernel)
set_option maxRecDepth 20000 in
theorem gX6_goBack_X4_giveReturnsBack : GoodIn wsX6_goBack (wsV RX6 262 RX4 yX4_giveReturnsBack wsX4_giveReturnsBack) := goodIn_app (goodIn_of _ (by decide +kernel)) ggX6_goBack_X4_giveReturnsBack
set_option maxRecDepth 20000 in
theorem ggX6_goBack_X4_addressOf : GoodIn wsX6_goBack wsX4_addressOf := goodIn_r _ [74, 75, 42, 11, 12, 8, 13, 14, 116, 117, 118, 119, 120, 121, 122, 123, 115] (by decide +kernel) (by decide +kernel)
set_option maxRecDepth 20000 in
theorem gX6_goBack_X4_addressOf : GoodIn wsX6_goBack (wsV RX6 215 RX4 yX4_addressOf wsX4_addressOf) := goodIn_app (goodIn_of _ (by decide +kernel)) ggX6_goBack_X4_addressOf
set_option maxRecDepth 20000 in
theorem ggX6_goBack_X1_noteWhatWasDone : GoodIn wsX6_goBack wsX1_noteWhatWasDone := goodIn_r _ [79, 53, 20, 21, 22, 80, 81, 82, 46, 83, 48, 84, 85, 86, 63, 87, 65, 70, 88, 89, 90, 91, 92, 67, 68, 69, 93, 94, 95, 96, 97, 98, 99, 100, 101, 102, 103, 104, 124, 125, 126, 127, 128, 129, 130, 131, 132, 133] (by decide +kernel) (by decide +kernel)
set_option maxRecDepth 20000 in
theorem gX6_goBack_X1_noteWhatWasDone : GoodIn wsX6_goBack (wsV RX6 266 RX1 yX1_noteWhatWasDone wsX1_noteWhatWasDone) := goodIn_app (goodIn_of _ (by decide +kernel)) ggX6_goBack_X1_noteWhatWasDone
theorem dX6_goBack_0 : decode cX6_goBack 0 = .ok (.aload_n 0, 1) := by decide +kernel
theorem dX6_goBack_1 : decode cX6_goBack 1 = .ok (.getfield 42, 3) := by decide +kernel
theorem dX6_goBack_4 : decode cX6_goBack 4 = .ok (.iconst 2, 1) := by decide +kernel
theorem dX6_goBack_5 : decode cX6_goBack 5 = .ok (.iconst 1, 1) := by decide +kernel
theorem dX6_goBack_6 : decode cX6_goBack 6 = .ok (.invokevirtual 100, 3) := by decide +kernel
theorem dX6_goBack_9 : decode cX6_goBack 9 = .ok (.aload_n 0, 1) := by decide +kernel
theorem dX6_goBack_10 : decode cX6_goBack 10 = .ok (.getfield 42, 3) := by decide +kernel
theorem dX6_goBack_13 : decode cX6_goBack 13 = .ok (.bipush 14, 2) := by decide +kernel
theorem dX6_goBack_15 : decode cX6_goBack 15 = .ok (.iconst 1, 1) := by decide +kernel
theorem dX6_goBack_16 : decode cX6_goBack 16 = .ok (.invokevirtual 100, 3) := by decide +kernel
theorem dX6_goBack_19 : decode cX6_goBack 19 = .ok (.iload_n 2, 1) := by decide +kernel
theorem dX6_goBack_20 : decode cX6_goBack 20 = .ok (.invokestatic 229, 3) := by decide +kernel
theorem dX6_goBack_23 : decode cX6_goBack 23 = .ok (.ifCond .eq 13, 3) := by decide +kernel
theorem dX6_goBack_26 : decode cX6_goBack 26 = .ok (.aload_n 0, 1) := by decide +kernel
theorem dX6_goBack_27 : decode cX6_goBack 27 = .ok (.getfield 42, 3) := by decide +kernel
theorem dX6_goBack_30 : decode cX6_goBack 30 = .ok (.bipush 6, 2) := by decide +kernel
theorem dX6_goBack_32 : decode cX6_goBack 32 = .ok (.iconst 1, 1) := by decide +kernel
theorem dX6_goBack_33 : decode cX6_goBack 33 = .ok (.invokevirtual 100, 3) := by decide +kernel
theorem dX6_goBack_36 : decode cX6_goBack 36 = .ok (.iload_n 2, 1) := by decide +kernel
theorem dX6_goBack_37 : decode cX6_goBack 37 = .ok (.bipush 9, 2) := by decide +kernel
theorem dX6_goBack_39 : decode cX6_goBack 39 = .ok (.if_icmp .ne 13, 3) := by decide +kernel
theorem dX6_goBack_42 : decode cX6_goBack 42 = .ok (.aload_n 0, 1) := by decide +kernel
theorem dX6_goBack_43 : decode cX6_goBack 43 = .ok (.getfield 42, 3) := by decide +kernel
theorem dX6_goBack_46 : decode cX6_goBack 46 = .ok (.bipush 7, 2) := by decide +kernel
theorem dX6_goBack_48 : decode cX6_goBack 48 = .ok (.iconst 1, 1) := by decide +kernel
theorem dX6_goBack_49 : decode cX6_goBack 49 = .ok (.invokevirtual 100, 3) := by decide +kernel
theorem dX6_goBack_52 : decode cX6_goBack 52 = .ok (.aload_n 0, 1) := by decide +kernel
theorem dX6_goBack_53 : decode cX6_goBack 53 = .ok (.invokevirtual 256, 3) := by decide +kernel
theorem dX6_goBack_56 : decode cX6_goBack 56 = .ok (.aload_n 0, 1) := by decide +kernel
theorem dX6_goBack_57 : decode cX6_goBack 57 = .ok (.iload 4, 2) := by decide +kernel
theorem dX6_goBack_59 : decode cX6_goBack 59 = .ok (.putfield 60, 3) := by decide +kernel
theorem dX6_goBack_62 : decode cX6_goBack 62 = .ok (.aload_n 0, 1) := by decide +kernel
theorem dX6_goBack_63 : decode cX6_goBack 63 = .ok (.getfield 26, 3) := by decide +kernel
theorem dX6_goBack_66 : decode cX6_goBack 66 = .ok (.aload_n 0, 1) := by decide +kernel
theorem dX6_goBack_67 : decode cX6_goBack 67 = .ok (.getfield 33, 3) := by decide +kernel
theorem dX6_goBack_70 : decode cX6_goBack 70 = .ok (.iload_n 1, 1) := by decide +kernel
theorem dX6_goBack_71 : decode cX6_goBack 71 = .ok (.invokevirtual 232, 3) := by decide +kernel
theorem dX6_goBack_74 : decode cX6_goBack 74 = .ok (.invokevirtual 259, 3) := by decide +kernel
theorem dX6_goBack_77 : decode cX6_goBack 77 = .ok (.aload_n 0, 1) := by decide +kernel
theorem dX6_goBack_78 : decode cX6_goBack 78 = .ok (.getfield 33, 3) := by decide +kernel
theorem dX6_goBack_81 : decode cX6_goBack 81 = .ok (.iload_n 1, 1) := by decide +kernel
theorem dX6_goBack_82 : decode cX6_goBack 82 = .ok (.aload_n 0, 1) := by decide +kernel
theorem dX6_goBack_83 : decode cX6_goBack 83 = .ok (.getfield 26, 3) := by decide +kernel
theorem dX6_goBack_86 : decode cX6_goBack 86 = .ok (.invokevirtual 108, 3) := by decide +kernel
theorem dX6_goBack_89 : decode cX6_goBack 89 = .ok (.invokevirtual 262, 3) := by decide +kernel
theorem dX6_goBack_92 : decode cX6_goBack 92 = .ok (.aload_n 0, 1) := by decide +kernel
theorem dX6_goBack_93 : decode cX6_goBack 93 = .ok (.getfield 26, 3) := by decide +kernel
theorem dX6_goBack_96 : decode cX6_goBack 96 = .ok (.aload_n 0, 1) := by decide +kernel
theorem dX6_goBack_97 : decode cX6_goBack 97 = .ok (.getfield 33, 3) := by decide +kernel
theorem dX6_goBack_100 : decode cX6_goBack 100 = .ok (.iload_n 1, 1) := by decide +kernel
theorem dX6_goBack_101 : decode cX6_goBack 101 = .ok (.invokevirtual 215, 3) := by decide +kernel
theorem dX6_goBack_104 : decode cX6_goBack 104 = .ok (.iload_n 2, 1) := by decide +kernel
theorem dX6_goBack_105 : decode cX6_goBack 105 = .ok (.iload_n 3, 1) := by decide +kernel
theorem dX6_goBack_106 : decode cX6_goBack 106 = .ok (.invokevirtual 266, 3) := by decide +kernel
theorem dX6_goBack_109 : decode cX6_goBack 109 = .ok (.return_, 1) := by decide +kernel
set_option maxRecDepth 20000 in
theorem ggX6_dropFetched_X4_size : GoodIn wsX6_dropFetched wsX4_size := goodIn_r _ [7, 8, 37, 38, 39, 40, 41, 42, 43, 44] (by decide +kernel) (by decide +kernel)
set_option maxRecDepth 20000 in
theorem gX6_dropFetched_X4_size : GoodIn wsX6_dropFetched (wsV RX6 148 RX4 yX4_size wsX4_size) := goodIn_app (goodIn_of _ (by decide +kernel)) ggX6_dropFetched_X4_size
set_option maxRecDepth 20000 in
theorem ggX6_dropFetched_X5_add : GoodIn wsX6_dropFetched wsX5_add := goodIn_r _ [13, 14, 15, 16, 12, 17, 18, 19, 20, 21, 22, 45] (by decide +kernel) (by decide +kernel)
set_option maxRecDepth 20000 in
theorem gX6_dropFetched_X5_add : GoodIn wsX6_dropFetched (wsV RX6 100 RX5 yX5_add wsX5_add) := goodIn_app (goodIn_of _ (by decide +kernel)) ggX6_dropFetched_X5_add
set_option maxRecDepth 20000 in
theorem ggX6_dropFetched_X4_clear : GoodIn wsX6_dropFetched wsX4_clear := goodIn_r _ [26, 8, 37, 38, 39, 40, 41, 42, 43, 44] (by decide +kernel) (by decide +kernel)
set_option maxRecDepth 20000 in
theorem gX6_dropFetched_X4_clear : GoodIn wsX6_dropFetched (wsV RX6 269 RX4 yX4_clear wsX4_clear) := goodIn_app (goodIn_of _ (by decide +kernel)) ggX6_dropFetched_X4_clear
theorem dX6_dropFetched_0 : decode cX6_dropFetched 0 = .ok (.aload_n 0, 1) := by decide +kernel
theorem dX6_dropFetched_1 : decode cX6_dropFetched 1 = .ok (.getfield 42, 3) := by decide +kernel
theorem dX6_dropFetched_4 : decode cX6_dropFetched 4 = .ok (.iconst 3, 1) := by decide +kernel
theorem dX6_dropFetched_5 : decode cX6_dropFetched 5 = .ok (.aload_n 0, 1) := by decide +kernel
theorem dX6_dropFetched_6 : decode cX6_dropFetched 6 = .ok (.getfield 33, 3) := by decide +kernel
theorem dX6_dropFetched_9 : decode cX6_dropFetched 9 = .ok (.invokevirtual 148, 3) := by decide +kernel
theorem dX6_dropFetched_12 : decode cX6_dropFetched 12 = .ok (.invokevirtual 100, 3) := by decide +kernel
theorem dX6_dropFetched_15 : decode cX6_dropFetched 15 = .ok (.aload_n 0, 1) := by decide +kernel
theorem dX6_dropFetched_16 : decode cX6_dropFetched 16 = .ok (.getfield 33, 3) := by decide +kernel
theorem dX6_dropFetched_19 : decode cX6_dropFetched 19 = .ok (.invokevirtual 269, 3) := by decide +kernel
theorem dX6_dropFetched_22 : decode cX6_dropFetched 22 = .ok (.return_, 1) := by decide +kernel
set_option maxRecDepth 20000 in
theorem ggX6_endRun_X6_dropFetched : GoodIn wsX6_endRun wsX6_dropFetched := goodIn_r _ [6, 7, 8, 9, 10, 11, 12, 13, 14, 15, 16, 17, 18, 19, 20, 21, 22, 23, 24, 25, 26, 27, 28, 29, 30, 31, 32, 33, 34, 35, 36, 37, 38, 39, 40, 41, 42, 43, 44, 45, 46, 47, 48, 49, 50, 51] (by decide +kernel) (by decide +kernel)
set_option maxRecDepth 20000 in
theorem gX6_endRun_X6_dropFetched : GoodIn wsX6_endRun (wsV RX6 256 RX6 yX6_dropFetched wsX6_dropFetched) := goodIn_app (goodIn_of _ (by decide +kernel)) ggX6_endRun_X6_dropFetched
theorem dX6_endRun_0 : decode cX6_endRun 0 = .ok (.aload_n 0, 1) := by decide +kernel
theorem dX6_endRun_1 : decode cX6_endRun 1 = .ok (.invokevirtual 256, 3) := by decide +kernel
theorem dX6_endRun_4 : decode cX6_endRun 4 = .ok (.aload_n 0, 1) := by decide +kernel
theorem dX6_endRun_5 : decode cX6_endRun 5 = .ok (.iload_n 1, 1) := by decide +kernel
theorem dX6_endRun_6 : decode cX6_endRun 6 = .ok (.putfield 63, 3) := by decide +kernel
theorem dX6_endRun_9 : decode cX6_endRun 9 = .ok (.return_, 1) := by decide +kernel
theorem dX6_isWithin_0 : decode cX6_isWithin 0 = .ok (.iload_n 0, 1) := by decide +kernel
theorem dX6_isWithin_1 : decode cX6_isWithin 1 = .ok (.iload_n 1, 1) := by decide +kernel
theorem dX6_isWithin_2 : decode cX6_isWithin 2 = .ok (.if_icmp .lt 12, 3) := by decide +kernel
theorem dX6_isWithin_5 : decode cX6_isWithin 5 = .ok (.iload_n 0, 1) := by decide +kernel
theorem dX6_isWithin_6 : decode cX6_isWithin 6 = .ok (.iload_n 2, 1) := by decide +kernel
theorem dX6_isWithin_7 : decode cX6_isWithin 7 = .ok (.if_icmp .gt 7, 3) := by decide +kernel
theorem dX6_isWithin_10 : decode cX6_isWithin 10 = .ok (.iconst 1, 1) := by decide +kernel
theorem dX6_isWithin_11 : decode cX6_isWithin 11 = .ok (.goto 4, 3) := by decide +kernel
theorem dX6_isWithin_14 : decode cX6_isWithin 14 = .ok (.iconst 0, 1) := by decide +kernel
theorem dX6_isWithin_15 : decode cX6_isWithin 15 = .ok (.ireturn, 1) := by decide +kernel
theorem dX6_isBranch_0 : decode cX6_isBranch 0 = .ok (.iload_n 0, 1) := by decide +kernel
theorem dX6_isBranch_1 : decode cX6_isBranch 1 = .ok (.iconst 5, 1) := by decide +kernel
theorem dX6_isBranch_2 : decode cX6_isBranch 2 = .ok (.if_icmp .eq 9, 3) := by decide +kernel
theorem dX6_isBranch_5 : decode cX6_isBranch 5 = .ok (.iload_n 0, 1) := by decide +kernel
theorem dX6_isBranch_6 : decode cX6_isBranch 6 = .ok (.bipush 6, 2) := by decide +kernel
theorem dX6_isBranch_8 : decode cX6_isBranch 8 = .ok (.if_icmp .ne 7, 3) := by decide +kernel
theorem dX6_isBranch_11 : decode cX6_isBranch 11 = .ok (.iconst 1, 1) := by decide +kernel
theorem dX6_isBranch_12 : decode cX6_isBranch 12 = .ok (.goto 4, 3) := by decide +kernel
theorem dX6_isBranch_15 : decode cX6_isBranch 15 = .ok (.iconst 0, 1) := by decide +kernel
theorem dX6_isBranch_16 : decode cX6_isBranch 16 = .ok (.ireturn, 1) := by decide +kernel
set_option maxRecDepth 20000 in
theorem ggX6_isTurn_X6_isWithin : GoodIn wsX6_isTurn wsX6_isWithin := goodIn_r _ [4] (by decide +kernel) (by decide +kernel)
set_option maxRecDepth 20000 in
theorem gX6_isTurn_X6_isWithin : GoodIn wsX6_isTurn (va_wsS RX6 66 yX6_isWithin wsX6_isWithin) := goodIn_app (goodIn_of _ (by decide +kernel)) ggX6_isTurn_X6_isWithin
theorem dX6_isTurn_0 : decode cX6_isTurn 0 = .ok (.iload_n 0, 1) := by decide +kernel
theorem dX6_isTurn_1 : decode cX6_isTurn 1 = .ok (.iconst 5, 1) := by decide +kernel
theorem dX6_isTurn_2 : decode cX6_isTurn 2 = .ok (.bipush 10, 2) := by decide +kernel
theorem dX6_isTurn_4 : decode cX6_isTurn 4 = .ok (.invokestatic 66, 3) := by decide +kernel
theorem dX6_isTurn_7 : decode cX6_isTurn 7 = .ok (.ireturn, 1) := by decide +kernel
set_option maxRecDepth 20000 in
theorem ggX6_isTablePlace_X6_isWithin : GoodIn wsX6_isTablePlace wsX6_isWithin := goodIn_r _ [4] (by decide +kernel) (by decide +kernel)
set_option maxRecDepth 20000 in
theorem gX6_isTablePlace_X6_isWithin : GoodIn wsX6_isTablePlace (va_wsS RX6 66 yX6_isWithin wsX6_isWithin) := goodIn_app (goodIn_of _ (by decide +kernel)) ggX6_isTablePlace_X6_isWithin
theorem dX6_isTablePlace_0 : decode cX6_isTablePlace 0 = .ok (.iload_n 0, 1) := by decide +kernel
theorem dX6_isTablePlace_1 : decode cX6_isTablePlace 1 = .ok (.tableswitch 70 0 7 #[47, 47, 47, 55, 55, 55, 70, 63], 47) := by decide +kernel
theorem dX6_isTablePlace_48 : decode cX6_isTablePlace 48 = .ok (.iload_n 1, 1) := by decide +kernel
theorem dX6_isTablePlace_49 : decode cX6_isTablePlace 49 = .ok (.iconst 0, 1) := by decide +kernel
theorem dX6_isTablePlace_50 : decode cX6_isTablePlace 50 = .ok (.bipush 15, 2) := by decide +kernel
theorem dX6_isTablePlace_52 : decode cX6_isTablePlace 52 = .ok (.invokestatic 66, 3) := by decide +kernel
theorem dX6_isTablePlace_55 : decode cX6_isTablePlace 55 = .ok (.ireturn, 1) := by decide +kernel
theorem dX6_isTablePlace_56 : decode cX6_isTablePlace 56 = .ok (.iload_n 1, 1) := by decide +kernel
theorem dX6_isTablePlace_57 : decode cX6_isTablePlace 57 = .ok (.iconst 0, 1) := by decide +kernel
theorem dX6_isTablePlace_58 : decode cX6_isTablePlace 58 = .ok (.bipush 7, 2) := by decide +kernel
theorem dX6_isTablePlace_60 : decode cX6_isTablePlace 60 = .ok (.invokestatic 66, 3) := by decide +kernel
theorem dX6_isTablePlace_63 : decode cX6_isTablePlace 63 = .ok (.ireturn, 1) := by decide +kernel
theorem dX6_isTablePlace_64 : decode cX6_isTablePlace 64 = .ok (.iload_n 1, 1) := by decide +kernel
theorem dX6_isTablePlace_65 : decode cX6_isTablePlace 65 = .ok (.iconst 0, 1) := by decide +kernel
theorem dX6_isTablePlace_66 : decode cX6_isTablePlace 66 = .ok (.iconst 3, 1) := by decide +kernel
theorem dX6_isTablePlace_67 : decode cX6_isTablePlace 67 = .ok (.invokestatic 66, 3) := by decide +kernel
theorem dX6_isTablePlace_70 : decode cX6_isTablePlace 70 = .ok (.ireturn, 1) := by decide +kernel
theorem dX6_isTablePlace_71 : decode cX6_isTablePlace 71 = .ok (.iconst 1, 1) := by decide +kernel
theorem dX6_isTablePlace_72 : decode cX6_isTablePlace 72 = .ok (.ireturn, 1) := by decide +kernel
set_option maxRecDepth 20000 in
theorem ggX6_isTableValue_X6_isWithin : GoodIn wsX6_isTableValue wsX6_isWithin := goodIn_r _ [4] (by decide +kernel) (by decide +kernel)
set_option maxRecDepth 20000 in
theorem gX6_isTableValue_X6_isWithin : GoodIn wsX6_isTableValue (va_wsS RX6 66 yX6_isWithin wsX6_isWithin) := goodIn_app (goodIn_of _ (by decide +kernel)) ggX6_isTableValue_X6_isWithin
theorem dX6_isTableValue_0 : decode cX6_isTableValue 0 = .ok (.iload_n 0, 1) := by decide +kernel
theorem dX6_isTableValue_1 : decode cX6_isTableValue 1 = .ok (.tableswitch 75 0 6 #[43, 43, 43, 50, 59, 75, 67], 43) := by decide +kernel
theorem dX6_isTableValue_44 : decode cX6_isTableValue 44 = .ok (.iload_n 1, 1) := by decide +kernel
theorem dX6_isTableValue_45 : decode cX6_isTableValue 45 = .ok (.iconst 0, 1) := by decide +kernel
theorem dX6_isTableValue_46 : decode cX6_isTableValue 46 = .ok (.iconst 3, 1) := by decide +kernel
theorem dX6_isTableValue_47 : decode cX6_isTableValue 47 = .ok (.invokestatic 66, 3) := by decide +kernel
theorem dX6_isTableValue_50 : decode cX6_isTableValue 50 = .ok (.ireturn, 1) := by decide +kernel
theorem dX6_isTableValue_51 : decode cX6_isTableValue 51 = .ok (.iload_n 1, 1) := by decide +kernel
theorem dX6_isTableValue_52 : decode cX6_isTableValue 52 = .ok (.iconst (-1), 1) := by decide +kernel
theorem dX6_isTableValue_53 : decode cX6_isTableValue 53 = .ok (.sipush 200, 3) := by decide +kernel
theorem dX6_isTableValue_56 : decode cX6_isTableValue 56 = .ok (.invokestatic 66, 3) := by decide +kernel
theorem dX6_isTableValue_59 : decode cX6_isTableValue 59 = .ok (.ireturn, 1) := by decide +kernel
theorem dX6_isTableValue_60 : decode cX6_isTableValue 60 = .ok (.iload_n 1, 1) := by decide +kernel
theorem dX6_isTableValue_61 : decode cX6_isTableValue 61 = .ok (.iconst 5, 1) := by decide +kernel
theorem dX6_isTableValue_62 : decode cX6_isTableValue 62 = .ok (.bipush 10, 2) := by decide +kernel
theorem dX6_isTableValue_64 : decode cX6_isTableValue 64 = .ok (.invokestatic 66, 3) := by decide +kernel
theorem dX6_isTableValue_67 : decode cX6_isTableValue 67 = .ok (.ireturn, 1) := by decide +kernel
theorem dX6_isTableValue_68 : decode cX6_isTableValue 68 = .ok (.iload_n 1, 1) := by decide +kernel
theorem dX6_isTableValue_69 : decode cX6_isTableValue 69 = .ok (.iconst 0, 1) := by decide +kernel
theorem dX6_isTableValue_70 : decode cX6_isTableValue 70 = .ok (.bipush 15, 2) := by decide +kernel
theorem dX6_isTableValue_72 : decode cX6_isTableValue 72 = .ok (.invokestatic 66, 3) := by decide +kernel
theorem dX6_isTableValue_75 : decode cX6_isTableValue 75 = .ok (.ireturn, 1) := by decide +kernel
theorem dX6_isTableValue_76 : decode cX6_isTableValue 76 = .ok (.iload_n 1, 1) := by decide +kernel
theorem dX6_isTableValue_77 : decode cX6_isTableValue 77 = .ok (.iconst 0, 1) := by decide +kernel
theorem dX6_isTableValue_78 : decode cX6_isTableValue 78 = .ok (.sipush 200, 3) := by decide +kernel
theorem dX6_isTableValue_81 : decode cX6_isTableValue 81 = .ok (.invokestatic 66, 3) := by decide +kernel
theorem dX6_isTableValue_84 : decode cX6_isTableValue 84 = .ok (.ireturn, 1) := by decide +kernel
set_option maxRecDepth 20000 in
theorem ggX7_init_X7_first : GoodIn wsX7_init wsX7_first := goodIn_r _ [34, 13, 14, 15, 16, 17, 18, 35, 36, 37, 38, 39, 40, 41, 42, 43, 44, 45, 46, 47, 48, 49, 50, 51, 52, 53, 54, 55, 56, 57, 58, 59, 60, 61, 62, 63, 64, 65, 66, 67, 68, 69] (by decide +kernel) (by decide +kernel)
set_option maxRecDepth 20000 in
theorem gX7_init_X7_first : GoodIn wsX7_init (wsV RX7 86 RX7 yX7_first wsX7_first) := goodIn_app (goodIn_of _ (by decide +kernel)) ggX7_init_X7_first
theorem dX7_init_0 : decode cX7_init 0 = .ok (.aload_n 0, 1) := by decide +kernel
theorem dX7_init_1 : decode cX7_init 1 = .ok (.invokespecial 1, 3) := by decide +kernel
theorem dX7_init_4 : decode cX7_init 4 = .ok (.aload_n 0, 1) := by decide +kernel
theorem dX7_init_5 : decode cX7_init 5 = .ok (.bipush 60, 2) := by decide +kernel
theorem dX7_init_7 : decode cX7_init 7 = .ok (.newarray .int, 2) := by decide +kernel
theorem dX7_init_9 : decode cX7_init 9 = .ok (.putfield 7, 3) := by decide +kernel
theorem dX7_init_12 : decode cX7_init 12 = .ok (.aload_n 0, 1) := by decide +kernel
theorem dX7_init_13 : decode cX7_init 13 = .ok (.bipush 60, 2) := by decide +kernel
theorem dX7_init_15 : decode cX7_init 15 = .ok (.newarray .int, 2) := by decide +kernel
theorem dX7_init_17 : decode cX7_init 17 = .ok (.putfield 13, 3) := by decide +kernel
theorem dX7_init_20 : decode cX7_init 20 = .ok (.aload_n 0, 1) := by decide +kernel
theorem dX7_init_21 : decode cX7_init 21 = .ok (.bipush 60, 2) := by decide +kernel
end
section
theorem dX7_init_23 : decode cX7_init 23 = .ok (.newarray .int, 2) := by decide +kernel
theorem dX7_init_25 : decode cX7_init 25 = .ok (.putfield 16, 3) := by decide +kernel
theorem dX7_init_28 : decode cX7_init 28 = .ok (.aload_n 0, 1) := by decide +kernel
theorem dX7_init_29 : decode cX7_init 29 = .ok (.bipush 60, 2) := by decide +kernel
theorem dX7_init_31 : decode cX7_init 31 = .ok (.newarray .int, 2) := by decide +kernel
theorem dX7_init_33 : decode cX7_init 33 = .ok (.putfield 19, 3) := by decide +kernel
theorem dX7_init_36 : decode cX7_init 36 = .ok (.aload_n 0, 1) := by decide +kernel
theorem dX7_init_37 : decode cX7_init 37 = .ok (.bipush 8, 2) := by decide +kernel
theorem dX7_init_39 : decode cX7_init 39 = .ok (.newarray .int, 2) := by decide +kernel
theorem dX7_init_41 : decode cX7_init 41 = .ok (.putfield 22, 3) := by decide +kernel
theorem dX7_init_44 : decode cX7_init 44 = .ok (.aload_n 0, 1) := by decide +kernel
theorem dX7_init_45 : decode cX7_init 45 = .ok (.bipush 16, 2) := by decide +kernel
theorem dX7_init_47 : decode cX7_init 47 = .ok (.newarray .int, 2) := by decide +kernel
theorem dX7_init_49 : decode cX7_init 49 = .ok (.putfield 25, 3) := by decide +kernel
theorem dX7_init_52 : decode cX7_init 52 = .ok (.aload_n 0, 1) := by decide +kernel
theorem dX7_init_53 : decode cX7_init 53 = .ok (.bipush 16, 2) := by decide +kernel
theorem dX7_init_55 : decode cX7_init 55 = .ok (.newarray .int, 2) := by decide +kernel
theorem dX7_init_57 : decode cX7_init 57 = .ok (.putfield 28, 3) := by decide +kernel
theorem dX7_init_60 : decode cX7_init 60 = .ok (.aload_n 0, 1) := by decide +kernel
theorem dX7_init_61 : decode cX7_init 61 = .ok (.iconst 3, 1) := by decide +kernel
theorem dX7_init_62 : decode cX7_init 62 = .ok (.putfield 31, 3) := by decide +kernel
theorem dX7_init_65 : decode cX7_init 65 = .ok (.aload_n 0, 1) := by decide +kernel
theorem dX7_init_66 : decode cX7_init 66 = .ok (.bipush 16, 2) := by decide +kernel
theorem dX7_init_68 : decode cX7_init 68 = .ok (.newarray .int, 2) := by decide +kernel
theorem dX7_init_70 : decode cX7_init 70 = .ok (.putfield 35, 3) := by decide +kernel
theorem dX7_init_73 : decode cX7_init 73 = .ok (.aload_n 0, 1) := by decide +kernel
theorem dX7_init_74 : decode cX7_init 74 = .ok (.bipush 16, 2) := by decide +kernel
theorem dX7_init_76 : decode cX7_init 76 = .ok (.newarray .int, 2) := by decide +kernel
theorem dX7_init_78 : decode cX7_init 78 = .ok (.putfield 38, 3) := by decide +kernel
theorem dX7_init_81 : decode cX7_init 81 = .ok (.aload_n 0, 1) := by decide +kernel
theorem dX7_init_82 : decode cX7_init 82 = .ok (.bipush 16, 2) := by decide +kernel
theorem dX7_init_84 : decode cX7_init 84 = .ok (.newarray .int, 2) := by decide +kernel
theorem dX7_init_86 : decode cX7_init 86 = .ok (.putfield 41, 3) := by decide +kernel
theorem dX7_init_89 : decode cX7_init 89 = .ok (.aload_n 0, 1) := by decide +kernel
theorem dX7_init_90 : decode cX7_init 90 = .ok (.bipush 8, 2) := by decide +kernel
theorem dX7_init_92 : decode cX7_init 92 = .ok (.newarray .int, 2) := by decide +kernel
theorem dX7_init_94 : decode cX7_init 94 = .ok (.putfield 44, 3) := by decide +kernel
theorem dX7_init_97 : decode cX7_init 97 = .ok (.aload_n 0, 1) := by decide +kernel
theorem dX7_init_98 : decode cX7_init 98 = .ok (.bipush 8, 2) := by decide +kernel
theorem dX7_init_100 : decode cX7_init 100 = .ok (.newarray .int, 2) := by decide +kernel
theorem dX7_init_102 : decode cX7_init 102 = .ok (.putfield 47, 3) := by decide +kernel
theorem dX7_init_105 : decode cX7_init 105 = .ok (.aload_n 0, 1) := by decide +kernel
theorem dX7_init_106 : decode cX7_init 106 = .ok (.bipush 8, 2) := by decide +kernel
theorem dX7_init_108 : decode cX7_init 108 = .ok (.newarray .int, 2) := by decide +kernel
theorem dX7_init_110 : decode cX7_init 110 = .ok (.putfield 50, 3) := by decide +kernel
theorem dX7_init_113 : decode cX7_init 113 = .ok (.aload_n 0, 1) := by decide +kernel
theorem dX7_init_114 : decode cX7_init 114 = .ok (.iconst 4, 1) := by decide +kernel
theorem dX7_init_115 : decode cX7_init 115 = .ok (.newarray .int, 2) := by decide +kernel
theorem dX7_init_117 : decode cX7_init 117 = .ok (.putfield 53, 3) := by decide +kernel
theorem dX7_init_120 : decode cX7_init 120 = .ok (.aload_n 0, 1) := by decide +kernel
theorem dX7_init_121 : decode cX7_init 121 = .ok (.bipush 8, 2) := by decide +kernel
theorem dX7_init_123 : decode cX7_init 123 = .ok (.newarray .int, 2) := by decide +kernel
theorem dX7_init_125 : decode cX7_init 125 = .ok (.putfield 56, 3) := by decide +kernel
theorem dX7_init_128 : decode cX7_init 128 = .ok (.aload_n 0, 1) := by decide +kernel
theorem dX7_init_129 : decode cX7_init 129 = .ok (.bipush 8, 2) := by decide +kernel
theorem dX7_init_131 : decode cX7_init 131 = .ok (.newarray .int, 2) := by decide +kernel
theorem dX7_init_133 : decode cX7_init 133 = .ok (.putfield 59, 3) := by decide +kernel
theorem dX7_init_136 : decode cX7_init 136 = .ok (.aload_n 0, 1) := by decide +kernel
theorem dX7_init_137 : decode cX7_init 137 = .ok (.bipush 8, 2) := by decide +kernel
theorem dX7_init_139 : decode cX7_init 139 = .ok (.newarray .int, 2) := by decide +kernel
theorem dX7_init_141 : decode cX7_init 141 = .ok (.putfield 62, 3) := by decide +kernel
theorem dX7_init_144 : decode cX7_init 144 = .ok (.aload_n 0, 1) := by decide +kernel
theorem dX7_init_145 : decode cX7_init 145 = .ok (.bipush 8, 2) := by decide +kernel
theorem dX7_init_147 : decode cX7_init 147 = .ok (.newarray .int, 2) := by decide +kernel
theorem dX7_init_149 : decode cX7_init 149 = .ok (.putfield 65, 3) := by decide +kernel
theorem dX7_init_152 : decode cX7_init 152 = .ok (.aload_n 0, 1) := by decide +kernel
theorem dX7_init_153 : decode cX7_init 153 = .ok (.bipush 8, 2) := by decide +kernel
theorem dX7_init_155 : decode cX7_init 155 = .ok (.newarray .int, 2) := by decide +kernel
theorem dX7_init_157 : decode cX7_init 157 = .ok (.putfield 68, 3) := by decide +kernel
theorem dX7_init_160 : decode cX7_init 160 = .ok (.aload_n 0, 1) := by decide +kernel
theorem dX7_init_161 : decode cX7_init 161 = .ok (.bipush 32, 2) := by decide +kernel
theorem dX7_init_163 : decode cX7_init 163 = .ok (.newarray .int, 2) := by decide +kernel
theorem dX7_init_165 : decode cX7_init 165 = .ok (.putfield 71, 3) := by decide +kernel
theorem dX7_init_168 : decode cX7_init 168 = .ok (.aload_n 0, 1) := by decide +kernel
theorem dX7_init_169 : decode cX7_init 169 = .ok (.iconst (-1), 1) := by decide +kernel
theorem dX7_init_170 : decode cX7_init 170 = .ok (.putfield 74, 3) := by decide +kernel
theorem dX7_init_173 : decode cX7_init 173 = .ok (.aload_n 0, 1) := by decide +kernel
theorem dX7_init_174 : decode cX7_init 174 = .ok (.bipush 16, 2) := by decide +kernel
theorem dX7_init_176 : decode cX7_init 176 = .ok (.newarray .int, 2) := by decide +kernel
theorem dX7_init_178 : decode cX7_init 178 = .ok (.putfield 77, 3) := by decide +kernel
theorem dX7_init_181 : decode cX7_init 181 = .ok (.aload_n 0, 1) := by decide +kernel
theorem dX7_init_182 : decode cX7_init 182 = .ok (.sipush 300, 3) := by decide +kernel
theorem dX7_init_185 : decode cX7_init 185 = .ok (.newarray .int, 2) := by decide +kernel
theorem dX7_init_187 : decode cX7_init 187 = .ok (.putfield 80, 3) := by decide +kernel
theorem dX7_init_190 : decode cX7_init 190 = .ok (.aload_n 0, 1) := by decide +kernel
theorem dX7_init_191 : decode cX7_init 191 = .ok (.iconst 4, 1) := by decide +kernel
theorem dX7_init_192 : decode cX7_init 192 = .ok (.newarray .int, 2) := by decide +kernel
theorem dX7_init_194 : decode cX7_init 194 = .ok (.putfield 83, 3) := by decide +kernel
theorem dX7_init_197 : decode cX7_init 197 = .ok (.aload_n 0, 1) := by decide +kernel
theorem dX7_init_198 : decode cX7_init 198 = .ok (.invokevirtual 86, 3) := by decide +kernel
theorem dX7_init_201 : decode cX7_init 201 = .ok (.return_, 1) := by decide +kernel
theorem dX7_in_0 : decode cX7_in 0 = .ok (.iload_n 0, 1) := by decide +kernel
theorem dX7_in_1 : decode cX7_in 1 = .ok (.iload_n 1, 1) := by decide +kernel
theorem dX7_in_2 : decode cX7_in 2 = .ok (.if_icmp .lt 12, 3) := by decide +kernel
theorem dX7_in_5 : decode cX7_in 5 = .ok (.iload_n 0, 1) := by decide +kernel
theorem dX7_in_6 : decode cX7_in 6 = .ok (.iload_n 2, 1) := by decide +kernel
theorem dX7_in_7 : decode cX7_in 7 = .ok (.if_icmp .gt 7, 3) := by decide +kernel
theorem dX7_in_10 : decode cX7_in 10 = .ok (.iconst 1, 1) := by decide +kernel
theorem dX7_in_11 : decode cX7_in 11 = .ok (.goto 4, 3) := by decide +kernel
theorem dX7_in_14 : decode cX7_in 14 = .ok (.iconst 0, 1) := by decide +kernel
theorem dX7_in_15 : decode cX7_in 15 = .ok (.ireturn, 1) := by decide +kernel
theorem dX7_first_0 : decode cX7_first 0 = .ok (.iconst 0, 1) := by decide +kernel
theorem dX7_first_1 : decode cX7_first 1 = .ok (.istore_n 1, 1) := by decide +kernel
theorem dX7_first_2 : decode cX7_first 2 = .ok (.iload_n 1, 1) := by decide +kernel
theorem dX7_first_3 : decode cX7_first 3 = .ok (.bipush 16, 2) := by decide +kernel
theorem dX7_first_5 : decode cX7_first 5 = .ok (.if_icmp .ge 30, 3) := by decide +kernel
theorem dX7_first_8 : decode cX7_first 8 = .ok (.aload_n 0, 1) := by decide +kernel
theorem dX7_first_9 : decode cX7_first 9 = .ok (.getfield 35, 3) := by decide +kernel
theorem dX7_first_12 : decode cX7_first 12 = .ok (.iload_n 1, 1) := by decide +kernel
theorem dX7_first_13 : decode cX7_first 13 = .ok (.iconst 1, 1) := by decide +kernel
theorem dX7_first_14 : decode cX7_first 14 = .ok (.iastore, 1) := by decide +kernel
theorem dX7_first_15 : decode cX7_first 15 = .ok (.aload_n 0, 1) := by decide +kernel
theorem dX7_first_16 : decode cX7_first 16 = .ok (.getfield 38, 3) := by decide +kernel
theorem dX7_first_19 : decode cX7_first 19 = .ok (.iload_n 1, 1) := by decide +kernel
theorem dX7_first_20 : decode cX7_first 20 = .ok (.iconst 1, 1) := by decide +kernel
theorem dX7_first_21 : decode cX7_first 21 = .ok (.iastore, 1) := by decide +kernel
theorem dX7_first_22 : decode cX7_first 22 = .ok (.aload_n 0, 1) := by decide +kernel
theorem dX7_first_23 : decode cX7_first 23 = .ok (.getfield 41, 3) := by decide +kernel
theorem dX7_first_26 : decode cX7_first 26 = .ok (.iload_n 1, 1) := by decide +kernel
theorem dX7_first_27 : decode cX7_first 27 = .ok (.iconst 1, 1) := by decide +kernel
theorem dX7_first_28 : decode cX7_first 28 = .ok (.iastore, 1) := by decide +kernel
theorem dX7_first_29 : decode cX7_first 29 = .ok (.iinc 1 1, 3) := by decide +kernel
theorem dX7_first_32 : decode cX7_first 32 = .ok (.goto (-30), 3) := by decide +kernel
theorem dX7_first_35 : decode cX7_first 35 = .ok (.iconst 0, 1) := by decide +kernel
theorem dX7_first_36 : decode cX7_first 36 = .ok (.istore_n 1, 1) := by decide +kernel
theorem dX7_first_37 : decode cX7_first 37 = .ok (.iload_n 1, 1) := by decide +kernel
theorem dX7_first_38 : decode cX7_first 38 = .ok (.bipush 8, 2) := by decide +kernel
theorem dX7_first_40 : decode cX7_first 40 = .ok (.if_icmp .ge 30, 3) := by decide +kernel
theorem dX7_first_43 : decode cX7_first 43 = .ok (.aload_n 0, 1) := by decide +kernel
theorem dX7_first_44 : decode cX7_first 44 = .ok (.getfield 44, 3) := by decide +kernel
theorem dX7_first_47 : decode cX7_first 47 = .ok (.iload_n 1, 1) := by decide +kernel
theorem dX7_first_48 : decode cX7_first 48 = .ok (.iconst (-1), 1) := by decide +kernel
theorem dX7_first_49 : decode cX7_first 49 = .ok (.iastore, 1) := by decide +kernel
theorem dX7_first_50 : decode cX7_first 50 = .ok (.aload_n 0, 1) := by decide +kernel
theorem dX7_first_51 : decode cX7_first 51 = .ok (.getfield 47, 3) := by decide +kernel
theorem dX7_first_54 : decode cX7_first 54 = .ok (.iload_n 1, 1) := by decide +kernel
theorem dX7_first_55 : decode cX7_first 55 = .ok (.iconst 5, 1) := by decide +kernel
theorem dX7_first_56 : decode cX7_first 56 = .ok (.iastore, 1) := by decide +kernel
theorem dX7_first_57 : decode cX7_first 57 = .ok (.aload_n 0, 1) := by decide +kernel
theorem dX7_first_58 : decode cX7_first 58 = .ok (.getfield 50, 3) := by decide +kernel
theorem dX7_first_61 : decode cX7_first 61 = .ok (.iload_n 1, 1) := by decide +kernel
theorem dX7_first_62 : decode cX7_first 62 = .ok (.iconst 0, 1) := by decide +kernel
theorem dX7_first_63 : decode cX7_first 63 = .ok (.iastore, 1) := by decide +kernel
theorem dX7_first_64 : decode cX7_first 64 = .ok (.iinc 1 1, 3) := by decide +kernel
theorem dX7_first_67 : decode cX7_first 67 = .ok (.goto (-30), 3) := by decide +kernel
theorem dX7_first_70 : decode cX7_first 70 = .ok (.aload_n 0, 1) := by decide +kernel
theorem dX7_first_71 : decode cX7_first 71 = .ok (.iconst 0, 1) := by decide +kernel
theorem dX7_first_72 : decode cX7_first 72 = .ok (.putfield 89, 3) := by decide +kernel
theorem dX7_first_75 : decode cX7_first 75 = .ok (.return_, 1) := by decide +kernel
set_option maxRecDepth 20000 in
theorem ggX7_act_X7_in : GoodIn wsX7_act wsX7_in := goodIn_r _ [10] (by decide +kernel) (by decide +kernel)
set_option maxRecDepth 20000 in
theorem gX7_act_X7_in : GoodIn wsX7_act (va_wsS RX7 92 yX7_in wsX7_in) := goodIn_app (goodIn_of _ (by decide +kernel)) ggX7_act_X7_in
theorem dX7_act_0 : decode cX7_act 0 = .ok (.iload_n 1, 1) := by decide +kernel
theorem dX7_act_1 : decode cX7_act 1 = .ok (.iconst 0, 1) := by decide +kernel
theorem dX7_act_2 : decode cX7_act 2 = .ok (.bipush 11, 2) := by decide +kernel
theorem dX7_act_4 : decode cX7_act 4 = .ok (.invokestatic 92, 3) := by decide +kernel
theorem dX7_act_7 : decode cX7_act 7 = .ok (.ifCond .eq 44, 3) := by decide +kernel
theorem dX7_act_10 : decode cX7_act 10 = .ok (.iload_n 2, 1) := by decide +kernel
theorem dX7_act_11 : decode cX7_act 11 = .ok (.iconst 0, 1) := by decide +kernel
theorem dX7_act_12 : decode cX7_act 12 = .ok (.bipush 7, 2) := by decide +kernel
theorem dX7_act_14 : decode cX7_act 14 = .ok (.invokestatic 92, 3) := by decide +kernel
theorem dX7_act_17 : decode cX7_act 17 = .ok (.ifCond .eq 34, 3) := by decide +kernel
theorem dX7_act_20 : decode cX7_act 20 = .ok (.iload_n 3, 1) := by decide +kernel
theorem dX7_act_21 : decode cX7_act 21 = .ok (.iconst 0, 1) := by decide +kernel
theorem dX7_act_22 : decode cX7_act 22 = .ok (.bipush 7, 2) := by decide +kernel
theorem dX7_act_24 : decode cX7_act 24 = .ok (.invokestatic 92, 3) := by decide +kernel
theorem dX7_act_27 : decode cX7_act 27 = .ok (.ifCond .eq 24, 3) := by decide +kernel
theorem dX7_act_30 : decode cX7_act 30 = .ok (.iload_n 1, 1) := by decide +kernel
theorem dX7_act_31 : decode cX7_act 31 = .ok (.iconst 5, 1) := by decide +kernel
theorem dX7_act_32 : decode cX7_act 32 = .ok (.bipush 8, 2) := by decide +kernel
theorem dX7_act_34 : decode cX7_act 34 = .ok (.invokestatic 92, 3) := by decide +kernel
theorem dX7_act_37 : decode cX7_act 37 = .ok (.ifCond .eq 17, 3) := by decide +kernel
theorem dX7_act_40 : decode cX7_act 40 = .ok (.iload 4, 2) := by decide +kernel
theorem dX7_act_42 : decode cX7_act 42 = .ok (.iconst 0, 1) := by decide +kernel
theorem dX7_act_43 : decode cX7_act 43 = .ok (.bipush 60, 2) := by decide +kernel
theorem dX7_act_45 : decode cX7_act 45 = .ok (.invokestatic 92, 3) := by decide +kernel
theorem dX7_act_48 : decode cX7_act 48 = .ok (.ifCond .ne 6, 3) := by decide +kernel
theorem dX7_act_51 : decode cX7_act 51 = .ok (.bipush (-102), 2) := by decide +kernel
theorem dX7_act_53 : decode cX7_act 53 = .ok (.ireturn, 1) := by decide +kernel
theorem dX7_act_54 : decode cX7_act 54 = .ok (.aload_n 0, 1) := by decide +kernel
theorem dX7_act_55 : decode cX7_act 55 = .ok (.getfield 96, 3) := by decide +kernel
theorem dX7_act_58 : decode cX7_act 58 = .ok (.ifCond .eq 6, 3) := by decide +kernel
theorem dX7_act_61 : decode cX7_act 61 = .ok (.bipush (-103), 2) := by decide +kernel
theorem dX7_act_63 : decode cX7_act 63 = .ok (.ireturn, 1) := by decide +kernel
theorem dX7_act_64 : decode cX7_act 64 = .ok (.aload_n 0, 1) := by decide +kernel
theorem dX7_act_65 : decode cX7_act 65 = .ok (.getfield 100, 3) := by decide +kernel
theorem dX7_act_68 : decode cX7_act 68 = .ok (.bipush 60, 2) := by decide +kernel
theorem dX7_act_70 : decode cX7_act 70 = .ok (.if_icmp .ne 6, 3) := by decide +kernel
theorem dX7_act_73 : decode cX7_act 73 = .ok (.bipush (-104), 2) := by decide +kernel
theorem dX7_act_75 : decode cX7_act 75 = .ok (.ireturn, 1) := by decide +kernel
theorem dX7_act_76 : decode cX7_act 76 = .ok (.aload_n 0, 1) := by decide +kernel
theorem dX7_act_77 : decode cX7_act 77 = .ok (.getfield 7, 3) := by decide +kernel
theorem dX7_act_80 : decode cX7_act 80 = .ok (.aload_n 0, 1) := by decide +kernel
theorem dX7_act_81 : decode cX7_act 81 = .ok (.getfield 100, 3) := by decide +kernel
theorem dX7_act_84 : decode cX7_act 84 = .ok (.iload_n 1, 1) := by decide +kernel
theorem dX7_act_85 : decode cX7_act 85 = .ok (.iastore, 1) := by decide +kernel
theorem dX7_act_86 : decode cX7_act 86 = .ok (.aload_n 0, 1) := by decide +kernel
theorem dX7_act_87 : decode cX7_act 87 = .ok (.getfield 13, 3) := by decide +kernel
theorem dX7_act_90 : decode cX7_act 90 = .ok (.aload_n 0, 1) := by decide +kernel
theorem dX7_act_91 : decode cX7_act 91 = .ok (.getfield 100, 3) := by decide +kernel
theorem dX7_act_94 : decode cX7_act 94 = .ok (.iload_n 2, 1) := by decide +kernel
theorem dX7_act_95 : decode cX7_act 95 = .ok (.iastore, 1) := by decide +kernel
theorem dX7_act_96 : decode cX7_act 96 = .ok (.aload_n 0, 1) := by decide +kernel
theorem dX7_act_97 : decode cX7_act 97 = .ok (.getfield 16, 3) := by decide +kernel
theorem dX7_act_100 : decode cX7_act 100 = .ok (.aload_n 0, 1) := by decide +kernel
theorem dX7_act_101 : decode cX7_act 101 = .ok (.getfield 100, 3) := by decide +kernel
theorem dX7_act_104 : decode cX7_act 104 = .ok (.iload_n 3, 1) := by decide +kernel
theorem dX7_act_105 : decode cX7_act 105 = .ok (.iastore, 1) := by decide +kernel
theorem dX7_act_106 : decode cX7_act 106 = .ok (.aload_n 0, 1) := by decide +kernel
theorem dX7_act_107 : decode cX7_act 107 = .ok (.getfield 19, 3) := by decide +kernel
theorem dX7_act_110 : decode cX7_act 110 = .ok (.aload_n 0, 1) := by decide +kernel
theorem dX7_act_111 : decode cX7_act 111 = .ok (.getfield 100, 3) := by decide +kernel
theorem dX7_act_114 : decode cX7_act 114 = .ok (.iload 4, 2) := by decide +kernel
theorem dX7_act_116 : decode cX7_act 116 = .ok (.iastore, 1) := by decide +kernel
theorem dX7_act_117 : decode cX7_act 117 = .ok (.aload_n 0, 1) := by decide +kernel
theorem dX7_act_118 : decode cX7_act 118 = .ok (.dup, 1) := by decide +kernel
theorem dX7_act_119 : decode cX7_act 119 = .ok (.getfield 100, 3) := by decide +kernel
theorem dX7_act_122 : decode cX7_act 122 = .ok (.iconst 1, 1) := by decide +kernel
theorem dX7_act_123 : decode cX7_act 123 = .ok (.iadd, 1) := by decide +kernel
theorem dX7_act_124 : decode cX7_act 124 = .ok (.putfield 100, 3) := by decide +kernel
theorem dX7_act_127 : decode cX7_act 127 = .ok (.aload_n 0, 1) := by decide +kernel
theorem dX7_act_128 : decode cX7_act 128 = .ok (.getfield 100, 3) := by decide +kernel
theorem dX7_act_131 : decode cX7_act 131 = .ok (.iconst 1, 1) := by decide +kernel
theorem dX7_act_132 : decode cX7_act 132 = .ok (.isub, 1) := by decide +kernel
theorem dX7_act_133 : decode cX7_act 133 = .ok (.ireturn, 1) := by decide +kernel
theorem dX7_wipe_0 : decode cX7_wipe 0 = .ok (.aload_n 0, 1) := by decide +kernel
theorem dX7_wipe_1 : decode cX7_wipe 1 = .ok (.getfield 96, 3) := by decide +kernel
theorem dX7_wipe_4 : decode cX7_wipe 4 = .ok (.ifCond .eq 6, 3) := by decide +kernel
theorem dX7_wipe_7 : decode cX7_wipe 7 = .ok (.bipush (-103), 2) := by decide +kernel
theorem dX7_wipe_9 : decode cX7_wipe 9 = .ok (.ireturn, 1) := by decide +kernel
theorem dX7_wipe_10 : decode cX7_wipe 10 = .ok (.aload_n 0, 1) := by decide +kernel
theorem dX7_wipe_11 : decode cX7_wipe 11 = .ok (.getfield 100, 3) := by decide +kernel
theorem dX7_wipe_14 : decode cX7_wipe 14 = .ok (.istore_n 1, 1) := by decide +kernel
theorem dX7_wipe_15 : decode cX7_wipe 15 = .ok (.aload_n 0, 1) := by decide +kernel
theorem dX7_wipe_16 : decode cX7_wipe 16 = .ok (.iconst 0, 1) := by decide +kernel
theorem dX7_wipe_17 : decode cX7_wipe 17 = .ok (.putfield 100, 3) := by decide +kernel
theorem dX7_wipe_20 : decode cX7_wipe 20 = .ok (.iload_n 1, 1) := by decide +kernel
theorem dX7_wipe_21 : decode cX7_wipe 21 = .ok (.ireturn, 1) := by decide +kernel
set_option maxRecDepth 20000 in
theorem ggX7_put_X7_in : GoodIn wsX7_put wsX7_in := goodIn_r _ [9] (by decide +kernel) (by decide +kernel)
set_option maxRecDepth 20000 in
theorem gX7_put_X7_in : GoodIn wsX7_put (va_wsS RX7 92 yX7_in wsX7_in) := goodIn_app (goodIn_of _ (by decide +kernel)) ggX7_put_X7_in
set_option maxRecDepth 20000 in
theorem ggX7_put_X7_valueOf : GoodIn wsX7_put wsX7_valueOf := goodIn_r _ [13, 4, 5, 14, 15, 16, 17, 18, 19, 20, 21, 22, 23, 24, 25, 26, 27, 28, 29, 30, 31, 32, 33, 34, 35, 36, 37, 38, 39, 40, 41, 42, 43, 44, 45, 46, 47] (by decide +kernel) (by decide +kernel)
set_option maxRecDepth 20000 in
theorem gX7_put_X7_valueOf : GoodIn wsX7_put (wsV RX7 107 RX7 yX7_valueOf wsX7_valueOf) := goodIn_app (goodIn_of _ (by decide +kernel)) ggX7_put_X7_valueOf
theorem dX7_put_0 : decode cX7_put 0 = .ok (.iload_n 1, 1) := by decide +kernel
theorem dX7_put_1 : decode cX7_put 1 = .ok (.iconst 0, 1) := by decide +kernel
theorem dX7_put_2 : decode cX7_put 2 = .ok (.bipush 23, 2) := by decide +kernel
theorem dX7_put_4 : decode cX7_put 4 = .ok (.invokestatic 92, 3) := by decide +kernel
theorem dX7_put_7 : decode cX7_put 7 = .ok (.ifCond .ne 7, 3) := by decide +kernel
theorem dX7_put_10 : decode cX7_put 10 = .ok (.ldc2_w 103, 3) := by decide +kernel
theorem dX7_put_13 : decode cX7_put 13 = .ok (.lreturn, 1) := by decide +kernel
theorem dX7_put_14 : decode cX7_put 14 = .ok (.aload_n 0, 1) := by decide +kernel
theorem dX7_put_15 : decode cX7_put 15 = .ok (.getfield 96, 3) := by decide +kernel
theorem dX7_put_18 : decode cX7_put 18 = .ok (.ifCond .eq 7, 3) := by decide +kernel
theorem dX7_put_21 : decode cX7_put 21 = .ok (.ldc2_w 105, 3) := by decide +kernel
theorem dX7_put_24 : decode cX7_put 24 = .ok (.lreturn, 1) := by decide +kernel
theorem dX7_put_25 : decode cX7_put 25 = .ok (.aload_n 0, 1) := by decide +kernel
theorem dX7_put_26 : decode cX7_put 26 = .ok (.iload_n 1, 1) := by decide +kernel
theorem dX7_put_27 : decode cX7_put 27 = .ok (.invokevirtual 107, 3) := by decide +kernel
theorem dX7_put_30 : decode cX7_put 30 = .ok (.lstore_n 3, 1) := by decide +kernel
theorem dX7_put_31 : decode cX7_put 31 = .ok (.iload_n 1, 1) := by decide +kernel
theorem dX7_put_32 : decode cX7_put 32 = .ok (.bipush 8, 2) := by decide +kernel
theorem dX7_put_34 : decode cX7_put 34 = .ok (.if_icmp .ge 13, 3) := by decide +kernel
theorem dX7_put_37 : decode cX7_put 37 = .ok (.aload_n 0, 1) := by decide +kernel
theorem dX7_put_38 : decode cX7_put 38 = .ok (.getfield 22, 3) := by decide +kernel
theorem dX7_put_41 : decode cX7_put 41 = .ok (.iload_n 1, 1) := by decide +kernel
theorem dX7_put_42 : decode cX7_put 42 = .ok (.iload_n 2, 1) := by decide +kernel
theorem dX7_put_43 : decode cX7_put 43 = .ok (.iastore, 1) := by decide +kernel
theorem dX7_put_44 : decode cX7_put 44 = .ok (.goto 13, 3) := by decide +kernel
theorem dX7_put_47 : decode cX7_put 47 = .ok (.aload_n 0, 1) := by decide +kernel
theorem dX7_put_48 : decode cX7_put 48 = .ok (.getfield 25, 3) := by decide +kernel
theorem dX7_put_51 : decode cX7_put 51 = .ok (.iload_n 1, 1) := by decide +kernel
theorem dX7_put_52 : decode cX7_put 52 = .ok (.bipush 8, 2) := by decide +kernel
theorem dX7_put_54 : decode cX7_put 54 = .ok (.isub, 1) := by decide +kernel
theorem dX7_put_55 : decode cX7_put 55 = .ok (.iload_n 2, 1) := by decide +kernel
theorem dX7_put_56 : decode cX7_put 56 = .ok (.iastore, 1) := by decide +kernel
theorem dX7_put_57 : decode cX7_put 57 = .ok (.lload_n 3, 1) := by decide +kernel
theorem dX7_put_58 : decode cX7_put 58 = .ok (.lreturn, 1) := by decide +kernel
theorem dX7_valueOf_0 : decode cX7_valueOf 0 = .ok (.iload_n 1, 1) := by decide +kernel
theorem dX7_valueOf_1 : decode cX7_valueOf 1 = .ok (.bipush 8, 2) := by decide +kernel
theorem dX7_valueOf_3 : decode cX7_valueOf 3 = .ok (.if_icmp .ge 13, 3) := by decide +kernel
theorem dX7_valueOf_6 : decode cX7_valueOf 6 = .ok (.aload_n 0, 1) := by decide +kernel
theorem dX7_valueOf_7 : decode cX7_valueOf 7 = .ok (.getfield 22, 3) := by decide +kernel
theorem dX7_valueOf_10 : decode cX7_valueOf 10 = .ok (.iload_n 1, 1) := by decide +kernel
theorem dX7_valueOf_11 : decode cX7_valueOf 11 = .ok (.iaload, 1) := by decide +kernel
theorem dX7_valueOf_12 : decode cX7_valueOf 12 = .ok (.i2l, 1) := by decide +kernel
theorem dX7_valueOf_13 : decode cX7_valueOf 13 = .ok (.goto 13, 3) := by decide +kernel
theorem dX7_valueOf_16 : decode cX7_valueOf 16 = .ok (.aload_n 0, 1) := by decide +kernel
theorem dX7_valueOf_17 : decode cX7_valueOf 17 = .ok (.getfield 25, 3) := by decide +kernel
theorem dX7_valueOf_20 : decode cX7_valueOf 20 = .ok (.iload_n 1, 1) := by decide +kernel
theorem dX7_valueOf_21 : decode cX7_valueOf 21 = .ok (.bipush 8, 2) := by decide +kernel
theorem dX7_valueOf_23 : decode cX7_valueOf 23 = .ok (.isub, 1) := by decide +kernel
theorem dX7_valueOf_24 : decode cX7_valueOf 24 = .ok (.iaload, 1) := by decide +kernel
theorem dX7_valueOf_25 : decode cX7_valueOf 25 = .ok (.i2l, 1) := by decide +kernel
theorem dX7_valueOf_26 : decode cX7_valueOf 26 = .ok (.lreturn, 1) := by decide +kernel
set_option maxRecDepth 20000 in
theorem ggX7_way_X7_in : GoodIn wsX7_way wsX7_in := goodIn_r _ [7] (by decide +kernel) (by decide +kernel)
set_option maxRecDepth 20000 in
theorem gX7_way_X7_in : GoodIn wsX7_way (va_wsS RX7 92 yX7_in wsX7_in) := goodIn_app (goodIn_of _ (by decide +kernel)) ggX7_way_X7_in
theorem dX7_way_0 : decode cX7_way 0 = .ok (.iload_n 1, 1) := by decide +kernel
theorem dX7_way_1 : decode cX7_way 1 = .ok (.iconst 0, 1) := by decide +kernel
theorem dX7_way_2 : decode cX7_way 2 = .ok (.iconst 3, 1) := by decide +kernel
theorem dX7_way_3 : decode cX7_way 3 = .ok (.invokestatic 92, 3) := by decide +kernel
theorem dX7_way_6 : decode cX7_way 6 = .ok (.ifCond .eq 13, 3) := by decide +kernel
theorem dX7_way_9 : decode cX7_way 9 = .ok (.iload_n 2, 1) := by decide +kernel
theorem dX7_way_10 : decode cX7_way 10 = .ok (.iconst 1, 1) := by decide +kernel
theorem dX7_way_11 : decode cX7_way 11 = .ok (.bipush 6, 2) := by decide +kernel
theorem dX7_way_13 : decode cX7_way 13 = .ok (.invokestatic 92, 3) := by decide +kernel
theorem dX7_way_16 : decode cX7_way 16 = .ok (.ifCond .ne 6, 3) := by decide +kernel
theorem dX7_way_19 : decode cX7_way 19 = .ok (.bipush (-102), 2) := by decide +kernel
theorem dX7_way_21 : decode cX7_way 21 = .ok (.ireturn, 1) := by decide +kernel
theorem dX7_way_22 : decode cX7_way 22 = .ok (.aload_n 0, 1) := by decide +kernel
theorem dX7_way_23 : decode cX7_way 23 = .ok (.getfield 96, 3) := by decide +kernel
theorem dX7_way_26 : decode cX7_way 26 = .ok (.ifCond .eq 6, 3) := by decide +kernel
theorem dX7_way_29 : decode cX7_way 29 = .ok (.bipush (-103), 2) := by decide +kernel
theorem dX7_way_31 : decode cX7_way 31 = .ok (.ireturn, 1) := by decide +kernel
theorem dX7_way_32 : decode cX7_way 32 = .ok (.aload_n 0, 1) := by decide +kernel
theorem dX7_way_33 : decode cX7_way 33 = .ok (.iload_n 1, 1) := by decide +kernel
theorem dX7_way_34 : decode cX7_way 34 = .ok (.putfield 111, 3) := by decide +kernel
theorem dX7_way_37 : decode cX7_way 37 = .ok (.aload_n 0, 1) := by decide +kernel
theorem dX7_way_38 : decode cX7_way 38 = .ok (.iload_n 2, 1) := by decide +kernel
theorem dX7_way_39 : decode cX7_way 39 = .ok (.putfield 31, 3) := by decide +kernel
theorem dX7_way_42 : decode cX7_way 42 = .ok (.iconst 1, 1) := by decide +kernel
theorem dX7_way_43 : decode cX7_way 43 = .ok (.ireturn, 1) := by decide +kernel
theorem dX7_begin_0 : decode cX7_begin 0 = .ok (.aload_n 0, 1) := by decide +kernel
theorem dX7_begin_1 : decode cX7_begin 1 = .ok (.getfield 96, 3) := by decide +kernel
theorem dX7_begin_4 : decode cX7_begin 4 = .ok (.ifCond .eq 6, 3) := by decide +kernel
theorem dX7_begin_7 : decode cX7_begin 7 = .ok (.bipush (-103), 2) := by decide +kernel
theorem dX7_begin_9 : decode cX7_begin 9 = .ok (.ireturn, 1) := by decide +kernel
theorem dX7_begin_10 : decode cX7_begin 10 = .ok (.aload_n 0, 1) := by decide +kernel
theorem dX7_begin_11 : decode cX7_begin 11 = .ok (.iconst 1, 1) := by decide +kernel
theorem dX7_begin_12 : decode cX7_begin 12 = .ok (.putfield 96, 3) := by decide +kernel
theorem dX7_begin_15 : decode cX7_begin 15 = .ok (.aload_n 0, 1) := by decide +kernel
theorem dX7_begin_16 : decode cX7_begin 16 = .ok (.iconst 0, 1) := by decide +kernel
theorem dX7_begin_17 : decode cX7_begin 17 = .ok (.putfield 74, 3) := by decide +kernel
theorem dX7_begin_20 : decode cX7_begin 20 = .ok (.aload_n 0, 1) := by decide +kernel
theorem dX7_begin_21 : decode cX7_begin 21 = .ok (.iconst 0, 1) := by decide +kernel
theorem dX7_begin_22 : decode cX7_begin 22 = .ok (.putfield 114, 3) := by decide +kernel
theorem dX7_begin_25 : decode cX7_begin 25 = .ok (.aload_n 0, 1) := by decide +kernel
theorem dX7_begin_26 : decode cX7_begin 26 = .ok (.iconst 0, 1) := by decide +kernel
theorem dX7_begin_27 : decode cX7_begin 27 = .ok (.putfield 117, 3) := by decide +kernel
theorem dX7_begin_30 : decode cX7_begin 30 = .ok (.aload_n 0, 1) := by decide +kernel
theorem dX7_begin_31 : decode cX7_begin 31 = .ok (.iconst 0, 1) := by decide +kernel
theorem dX7_begin_32 : decode cX7_begin 32 = .ok (.putfield 120, 3) := by decide +kernel
theorem dX7_begin_35 : decode cX7_begin 35 = .ok (.aload_n 0, 1) := by decide +kernel
theorem dX7_begin_36 : decode cX7_begin 36 = .ok (.iconst 0, 1) := by decide +kernel
theorem dX7_begin_37 : decode cX7_begin 37 = .ok (.putfield 123, 3) := by decide +kernel
theorem dX7_begin_40 : decode cX7_begin 40 = .ok (.iconst 0, 1) := by decide +kernel
theorem dX7_begin_41 : decode cX7_begin 41 = .ok (.istore_n 1, 1) := by decide +kernel
theorem dX7_begin_42 : decode cX7_begin 42 = .ok (.iload_n 1, 1) := by decide +kernel
theorem dX7_begin_43 : decode cX7_begin 43 = .ok (.bipush 9, 2) := by decide +kernel
theorem dX7_begin_45 : decode cX7_begin 45 = .ok (.if_icmp .ge 16, 3) := by decide +kernel
theorem dX7_begin_48 : decode cX7_begin 48 = .ok (.aload_n 0, 1) := by decide +kernel
theorem dX7_begin_49 : decode cX7_begin 49 = .ok (.getfield 77, 3) := by decide +kernel
theorem dX7_begin_52 : decode cX7_begin 52 = .ok (.iload_n 1, 1) := by decide +kernel
theorem dX7_begin_53 : decode cX7_begin 53 = .ok (.iconst 0, 1) := by decide +kernel
theorem dX7_begin_54 : decode cX7_begin 54 = .ok (.iastore, 1) := by decide +kernel
theorem dX7_begin_55 : decode cX7_begin 55 = .ok (.iinc 1 1, 3) := by decide +kernel
theorem dX7_begin_58 : decode cX7_begin 58 = .ok (.goto (-16), 3) := by decide +kernel
theorem dX7_begin_61 : decode cX7_begin 61 = .ok (.aload_n 0, 1) := by decide +kernel
theorem dX7_begin_62 : decode cX7_begin 62 = .ok (.getfield 77, 3) := by decide +kernel
theorem dX7_begin_65 : decode cX7_begin 65 = .ok (.bipush 12, 2) := by decide +kernel
theorem dX7_begin_67 : decode cX7_begin 67 = .ok (.dup2, 1) := by decide +kernel
theorem dX7_begin_68 : decode cX7_begin 68 = .ok (.iaload, 1) := by decide +kernel
theorem dX7_begin_69 : decode cX7_begin 69 = .ok (.iconst 1, 1) := by decide +kernel
theorem dX7_begin_70 : decode cX7_begin 70 = .ok (.iadd, 1) := by decide +kernel
theorem dX7_begin_71 : decode cX7_begin 71 = .ok (.iastore, 1) := by decide +kernel
theorem dX7_begin_72 : decode cX7_begin 72 = .ok (.iconst 1, 1) := by decide +kernel
theorem dX7_begin_73 : decode cX7_begin 73 = .ok (.ireturn, 1) := by decide +kernel
theorem dX7_finish_0 : decode cX7_finish 0 = .ok (.aload_n 0, 1) := by decide +kernel
theorem dX7_finish_1 : decode cX7_finish 1 = .ok (.iconst 0, 1) := by decide +kernel
theorem dX7_finish_2 : decode cX7_finish 2 = .ok (.putfield 96, 3) := by decide +kernel
theorem dX7_finish_5 : decode cX7_finish 5 = .ok (.aload_n 0, 1) := by decide +kernel
theorem dX7_finish_6 : decode cX7_finish 6 = .ok (.iload_n 1, 1) := by decide +kernel
theorem dX7_finish_7 : decode cX7_finish 7 = .ok (.putfield 74, 3) := by decide +kernel
theorem dX7_finish_10 : decode cX7_finish 10 = .ok (.aload_n 0, 1) := by decide +kernel
theorem dX7_finish_11 : decode cX7_finish 11 = .ok (.getfield 77, 3) := by decide +kernel
theorem dX7_finish_14 : decode cX7_finish 14 = .ok (.iconst 3, 1) := by decide +kernel
theorem dX7_finish_15 : decode cX7_finish 15 = .ok (.dup2, 1) := by decide +kernel
theorem dX7_finish_16 : decode cX7_finish 16 = .ok (.iaload, 1) := by decide +kernel
theorem dX7_finish_17 : decode cX7_finish 17 = .ok (.aload_n 0, 1) := by decide +kernel
theorem dX7_finish_18 : decode cX7_finish 18 = .ok (.getfield 117, 3) := by decide +kernel
theorem dX7_finish_21 : decode cX7_finish 21 = .ok (.iadd, 1) := by decide +kernel
theorem dX7_finish_22 : decode cX7_finish 22 = .ok (.iastore, 1) := by decide +kernel
theorem dX7_finish_23 : decode cX7_finish 23 = .ok (.aload_n 0, 1) := by decide +kernel
theorem dX7_finish_24 : decode cX7_finish 24 = .ok (.iconst 0, 1) := by decide +kernel
theorem dX7_finish_25 : decode cX7_finish 25 = .ok (.putfield 117, 3) := by decide +kernel
theorem dX7_finish_28 : decode cX7_finish 28 = .ok (.return_, 1) := by decide +kernel
theorem dX7_more_0 : decode cX7_more 0 = .ok (.iload_n 1, 1) := by decide +kernel
theorem dX7_more_1 : decode cX7_more 1 = .ok (.ifCond .eq 18, 3) := by decide +kernel
theorem dX7_more_4 : decode cX7_more 4 = .ok (.iload_n 0, 1) := by decide +kernel
theorem dX7_more_5 : decode cX7_more 5 = .ok (.iconst 3, 1) := by decide +kernel
theorem dX7_more_6 : decode cX7_more 6 = .ok (.if_icmp .ge 9, 3) := by decide +kernel
theorem dX7_more_9 : decode cX7_more 9 = .ok (.iload_n 0, 1) := by decide +kernel
theorem dX7_more_10 : decode cX7_more 10 = .ok (.iconst 1, 1) := by decide +kernel
theorem dX7_more_11 : decode cX7_more 11 = .ok (.iadd, 1) := by decide +kernel
theorem dX7_more_12 : decode cX7_more 12 = .ok (.goto 18, 3) := by decide +kernel
theorem dX7_more_15 : decode cX7_more 15 = .ok (.iconst 3, 1) := by decide +kernel
theorem dX7_more_16 : decode cX7_more 16 = .ok (.goto 14, 3) := by decide +kernel
theorem dX7_more_19 : decode cX7_more 19 = .ok (.iload_n 0, 1) := by decide +kernel
theorem dX7_more_20 : decode cX7_more 20 = .ok (.ifCond .le 9, 3) := by decide +kernel
theorem dX7_more_23 : decode cX7_more 23 = .ok (.iload_n 0, 1) := by decide +kernel
theorem dX7_more_24 : decode cX7_more 24 = .ok (.iconst 1, 1) := by decide +kernel
theorem dX7_more_25 : decode cX7_more 25 = .ok (.isub, 1) := by decide +kernel
theorem dX7_more_26 : decode cX7_more 26 = .ok (.goto 4, 3) := by decide +kernel
theorem dX7_more_29 : decode cX7_more 29 = .ok (.iconst 0, 1) := by decide +kernel
theorem dX7_more_30 : decode cX7_more 30 = .ok (.ireturn, 1) := by decide +kernel
theorem dX7_push_0 : decode cX7_push 0 = .ok (.aload_n 0, 1) := by decide +kernel
theorem dX7_push_1 : decode cX7_push 1 = .ok (.getfield 120, 3) := by decide +kernel
theorem dX7_push_4 : decode cX7_push 4 = .ok (.iconst 4, 1) := by decide +kernel
theorem dX7_push_5 : decode cX7_push 5 = .ok (.if_icmp .ne 40, 3) := by decide +kernel
theorem dX7_push_8 : decode cX7_push 8 = .ok (.iconst 0, 1) := by decide +kernel
theorem dX7_push_9 : decode cX7_push 9 = .ok (.istore_n 2, 1) := by decide +kernel
theorem dX7_push_10 : decode cX7_push 10 = .ok (.iload_n 2, 1) := by decide +kernel
theorem dX7_push_11 : decode cX7_push 11 = .ok (.iconst 3, 1) := by decide +kernel
theorem dX7_push_12 : decode cX7_push 12 = .ok (.if_icmp .ge 23, 3) := by decide +kernel
theorem dX7_push_15 : decode cX7_push 15 = .ok (.aload_n 0, 1) := by decide +kernel
theorem dX7_push_16 : decode cX7_push 16 = .ok (.getfield 53, 3) := by decide +kernel
theorem dX7_push_19 : decode cX7_push 19 = .ok (.iload_n 2, 1) := by decide +kernel
theorem dX7_push_20 : decode cX7_push 20 = .ok (.aload_n 0, 1) := by decide +kernel
theorem dX7_push_21 : decode cX7_push 21 = .ok (.getfield 53, 3) := by decide +kernel
theorem dX7_push_24 : decode cX7_push 24 = .ok (.iload_n 2, 1) := by decide +kernel
theorem dX7_push_25 : decode cX7_push 25 = .ok (.iconst 1, 1) := by decide +kernel
theorem dX7_push_26 : decode cX7_push 26 = .ok (.iadd, 1) := by decide +kernel
theorem dX7_push_27 : decode cX7_push 27 = .ok (.iaload, 1) := by decide +kernel
theorem dX7_push_28 : decode cX7_push 28 = .ok (.iastore, 1) := by decide +kernel
theorem dX7_push_29 : decode cX7_push 29 = .ok (.iinc 2 1, 3) := by decide +kernel
theorem dX7_push_32 : decode cX7_push 32 = .ok (.goto (-22), 3) := by decide +kernel
theorem dX7_push_35 : decode cX7_push 35 = .ok (.aload_n 0, 1) := by decide +kernel
theorem dX7_push_36 : decode cX7_push 36 = .ok (.dup, 1) := by decide +kernel
theorem dX7_push_37 : decode cX7_push 37 = .ok (.getfield 120, 3) := by decide +kernel
theorem dX7_push_40 : decode cX7_push 40 = .ok (.iconst 1, 1) := by decide +kernel
theorem dX7_push_41 : decode cX7_push 41 = .ok (.isub, 1) := by decide +kernel
theorem dX7_push_42 : decode cX7_push 42 = .ok (.putfield 120, 3) := by decide +kernel
theorem dX7_push_45 : decode cX7_push 45 = .ok (.aload_n 0, 1) := by decide +kernel
theorem dX7_push_46 : decode cX7_push 46 = .ok (.getfield 53, 3) := by decide +kernel
theorem dX7_push_49 : decode cX7_push 49 = .ok (.aload_n 0, 1) := by decide +kernel
theorem dX7_push_50 : decode cX7_push 50 = .ok (.getfield 120, 3) := by decide +kernel
theorem dX7_push_53 : decode cX7_push 53 = .ok (.iload_n 1, 1) := by decide +kernel
theorem dX7_push_54 : decode cX7_push 54 = .ok (.iastore, 1) := by decide +kernel
theorem dX7_push_55 : decode cX7_push 55 = .ok (.aload_n 0, 1) := by decide +kernel
theorem dX7_push_56 : decode cX7_push 56 = .ok (.dup, 1) := by decide +kernel
theorem dX7_push_57 : decode cX7_push 57 = .ok (.getfield 120, 3) := by decide +kernel
theorem dX7_push_60 : decode cX7_push 60 = .ok (.iconst 1, 1) := by decide +kernel
theorem dX7_push_61 : decode cX7_push 61 = .ok (.iadd, 1) := by decide +kernel
theorem dX7_push_62 : decode cX7_push 62 = .ok (.putfield 120, 3) := by decide +kernel
theorem dX7_push_65 : decode cX7_push 65 = .ok (.return_, 1) := by decide +kernel
theorem dX7_bit_0 : decode cX7_bit 0 = .ok (.aload_n 0, 1) := by decide +kernel
theorem dX7_bit_1 : decode cX7_bit 1 = .ok (.iconst 2, 1) := by decide +kernel
theorem dX7_bit_2 : decode cX7_bit 2 = .ok (.aload_n 0, 1) := by decide +kernel
theorem dX7_bit_3 : decode cX7_bit 3 = .ok (.getfield 89, 3) := by decide +kernel
theorem dX7_bit_6 : decode cX7_bit 6 = .ok (.imul, 1) := by decide +kernel
theorem dX7_bit_7 : decode cX7_bit 7 = .ok (.bipush 16, 2) := by decide +kernel
theorem dX7_bit_9 : decode cX7_bit 9 = .ok (.irem, 1) := by decide +kernel
theorem dX7_bit_10 : decode cX7_bit 10 = .ok (.iload_n 1, 1) := by decide +kernel
theorem dX7_bit_11 : decode cX7_bit 11 = .ok (.ifCond .eq 7, 3) := by decide +kernel
theorem dX7_bit_14 : decode cX7_bit 14 = .ok (.iconst 1, 1) := by decide +kernel
theorem dX7_bit_15 : decode cX7_bit 15 = .ok (.goto 4, 3) := by decide +kernel
theorem dX7_bit_18 : decode cX7_bit 18 = .ok (.iconst 0, 1) := by decide +kernel
theorem dX7_bit_19 : decode cX7_bit 19 = .ok (.iadd, 1) := by decide +kernel
theorem dX7_bit_20 : decode cX7_bit 20 = .ok (.putfield 89, 3) := by decide +kernel
theorem dX7_bit_23 : decode cX7_bit 23 = .ok (.return_, 1) := by decide +kernel
theorem dX7_mixedAt_0 : decode cX7_mixedAt 0 = .ok (.iload_n 1, 1) := by decide +kernel
theorem dX7_mixedAt_1 : decode cX7_mixedAt 1 = .ok (.bipush 16, 2) := by decide +kernel
theorem dX7_mixedAt_3 : decode cX7_mixedAt 3 = .ok (.irem, 1) := by decide +kernel
theorem dX7_mixedAt_4 : decode cX7_mixedAt 4 = .ok (.iload_n 2, 1) := by decide +kernel
theorem dX7_mixedAt_5 : decode cX7_mixedAt 5 = .ok (.ixor, 1) := by decide +kernel
theorem dX7_mixedAt_6 : decode cX7_mixedAt 6 = .ok (.ireturn, 1) := by decide +kernel
set_option maxRecDepth 20000 in
theorem ggX7_guessesTurn_X7_mixedAt : GoodIn wsX7_guessesTurn wsX7_mixedAt := goodIn_r _ [10] (by decide +kernel) (by decide +kernel)
set_option maxRecDepth 20000 in
theorem gX7_guessesTurn_X7_mixedAt : GoodIn wsX7_guessesTurn (wsV RX7 126 RX7 yX7_mixedAt wsX7_mixedAt) := goodIn_app (goodIn_of _ (by decide +kernel)) ggX7_guessesTurn_X7_mixedAt
theorem dX7_guessesTurn_0 : decode cX7_guessesTurn 0 = .ok (.aload_n 0, 1) := by decide +kernel
theorem dX7_guessesTurn_1 : decode cX7_guessesTurn 1 = .ok (.getfield 111, 3) := by decide +kernel
theorem dX7_guessesTurn_4 : decode cX7_guessesTurn 4 = .ok (.tableswitch 73 0 2 #[28, 30, 49], 28) := by decide +kernel
theorem dX7_guessesTurn_32 : decode cX7_guessesTurn 32 = .ok (.iconst 0, 1) := by decide +kernel
theorem dX7_guessesTurn_33 : decode cX7_guessesTurn 33 = .ok (.ireturn, 1) := by decide +kernel
theorem dX7_guessesTurn_34 : decode cX7_guessesTurn 34 = .ok (.aload_n 0, 1) := by decide +kernel
theorem dX7_guessesTurn_35 : decode cX7_guessesTurn 35 = .ok (.getfield 35, 3) := by decide +kernel
theorem dX7_guessesTurn_38 : decode cX7_guessesTurn 38 = .ok (.iload_n 1, 1) := by decide +kernel
theorem dX7_guessesTurn_39 : decode cX7_guessesTurn 39 = .ok (.bipush 16, 2) := by decide +kernel
theorem dX7_guessesTurn_41 : decode cX7_guessesTurn 41 = .ok (.irem, 1) := by decide +kernel
theorem dX7_guessesTurn_42 : decode cX7_guessesTurn 42 = .ok (.iaload, 1) := by decide +kernel
theorem dX7_guessesTurn_43 : decode cX7_guessesTurn 43 = .ok (.iconst 1, 1) := by decide +kernel
theorem dX7_guessesTurn_44 : decode cX7_guessesTurn 44 = .ok (.if_icmp .le 7, 3) := by decide +kernel
theorem dX7_guessesTurn_47 : decode cX7_guessesTurn 47 = .ok (.iconst 1, 1) := by decide +kernel
theorem dX7_guessesTurn_48 : decode cX7_guessesTurn 48 = .ok (.goto 4, 3) := by decide +kernel
theorem dX7_guessesTurn_51 : decode cX7_guessesTurn 51 = .ok (.iconst 0, 1) := by decide +kernel
theorem dX7_guessesTurn_52 : decode cX7_guessesTurn 52 = .ok (.ireturn, 1) := by decide +kernel
theorem dX7_guessesTurn_53 : decode cX7_guessesTurn 53 = .ok (.aload_n 0, 1) := by decide +kernel
theorem dX7_guessesTurn_54 : decode cX7_guessesTurn 54 = .ok (.getfield 38, 3) := by decide +kernel
theorem dX7_guessesTurn_57 : decode cX7_guessesTurn 57 = .ok (.aload_n 0, 1) := by decide +kernel
theorem dX7_guessesTurn_58 : decode cX7_guessesTurn 58 = .ok (.iload_n 1, 1) := by decide +kernel
theorem dX7_guessesTurn_59 : decode cX7_guessesTurn 59 = .ok (.aload_n 0, 1) := by decide +kernel
theorem dX7_guessesTurn_60 : decode cX7_guessesTurn 60 = .ok (.getfield 89, 3) := by decide +kernel
theorem dX7_guessesTurn_63 : decode cX7_guessesTurn 63 = .ok (.invokevirtual 126, 3) := by decide +kernel
theorem dX7_guessesTurn_66 : decode cX7_guessesTurn 66 = .ok (.iaload, 1) := by decide +kernel
theorem dX7_guessesTurn_67 : decode cX7_guessesTurn 67 = .ok (.iconst 1, 1) := by decide +kernel
theorem dX7_guessesTurn_68 : decode cX7_guessesTurn 68 = .ok (.if_icmp .le 7, 3) := by decide +kernel
theorem dX7_guessesTurn_71 : decode cX7_guessesTurn 71 = .ok (.iconst 1, 1) := by decide +kernel
theorem dX7_guessesTurn_72 : decode cX7_guessesTurn 72 = .ok (.goto 4, 3) := by decide +kernel
theorem dX7_guessesTurn_75 : decode cX7_guessesTurn 75 = .ok (.iconst 0, 1) := by decide +kernel
theorem dX7_guessesTurn_76 : decode cX7_guessesTurn 76 = .ok (.ireturn, 1) := by decide +kernel
theorem dX7_guessesTurn_77 : decode cX7_guessesTurn 77 = .ok (.aload_n 0, 1) := by decide +kernel
theorem dX7_guessesTurn_78 : decode cX7_guessesTurn 78 = .ok (.getfield 41, 3) := by decide +kernel
theorem dX7_guessesTurn_81 : decode cX7_guessesTurn 81 = .ok (.iload_n 1, 1) := by decide +kernel
theorem dX7_guessesTurn_82 : decode cX7_guessesTurn 82 = .ok (.bipush 16, 2) := by decide +kernel
theorem dX7_guessesTurn_84 : decode cX7_guessesTurn 84 = .ok (.irem, 1) := by decide +kernel
theorem dX7_guessesTurn_85 : decode cX7_guessesTurn 85 = .ok (.iaload, 1) := by decide +kernel
theorem dX7_guessesTurn_86 : decode cX7_guessesTurn 86 = .ok (.iconst 1, 1) := by decide +kernel
theorem dX7_guessesTurn_87 : decode cX7_guessesTurn 87 = .ok (.if_icmp .le 29, 3) := by decide +kernel
theorem dX7_guessesTurn_90 : decode cX7_guessesTurn 90 = .ok (.aload_n 0, 1) := by decide +kernel
theorem dX7_guessesTurn_91 : decode cX7_guessesTurn 91 = .ok (.getfield 38, 3) := by decide +kernel
theorem dX7_guessesTurn_94 : decode cX7_guessesTurn 94 = .ok (.aload_n 0, 1) := by decide +kernel
theorem dX7_guessesTurn_95 : decode cX7_guessesTurn 95 = .ok (.iload_n 1, 1) := by decide +kernel
theorem dX7_guessesTurn_96 : decode cX7_guessesTurn 96 = .ok (.aload_n 0, 1) := by decide +kernel
theorem dX7_guessesTurn_97 : decode cX7_guessesTurn 97 = .ok (.getfield 89, 3) := by decide +kernel
theorem dX7_guessesTurn_100 : decode cX7_guessesTurn 100 = .ok (.invokevirtual 126, 3) := by decide +kernel
theorem dX7_guessesTurn_103 : decode cX7_guessesTurn 103 = .ok (.iaload, 1) := by decide +kernel
theorem dX7_guessesTurn_104 : decode cX7_guessesTurn 104 = .ok (.iconst 1, 1) := by decide +kernel
theorem dX7_guessesTurn_105 : decode cX7_guessesTurn 105 = .ok (.if_icmp .le 7, 3) := by decide +kernel
theorem dX7_guessesTurn_108 : decode cX7_guessesTurn 108 = .ok (.iconst 1, 1) := by decide +kernel
theorem dX7_guessesTurn_109 : decode cX7_guessesTurn 109 = .ok (.goto 25, 3) := by decide +kernel
theorem dX7_guessesTurn_112 : decode cX7_guessesTurn 112 = .ok (.iconst 0, 1) := by decide +kernel
theorem dX7_guessesTurn_113 : decode cX7_guessesTurn 113 = .ok (.goto 21, 3) := by decide +kernel
theorem dX7_guessesTurn_116 : decode cX7_guessesTurn 116 = .ok (.aload_n 0, 1) := by decide +kernel
theorem dX7_guessesTurn_117 : decode cX7_guessesTurn 117 = .ok (.getfield 35, 3) := by decide +kernel
theorem dX7_guessesTurn_120 : decode cX7_guessesTurn 120 = .ok (.iload_n 1, 1) := by decide +kernel
theorem dX7_guessesTurn_121 : decode cX7_guessesTurn 121 = .ok (.bipush 16, 2) := by decide +kernel
theorem dX7_guessesTurn_123 : decode cX7_guessesTurn 123 = .ok (.irem, 1) := by decide +kernel
theorem dX7_guessesTurn_124 : decode cX7_guessesTurn 124 = .ok (.iaload, 1) := by decide +kernel
theorem dX7_guessesTurn_125 : decode cX7_guessesTurn 125 = .ok (.iconst 1, 1) := by decide +kernel
theorem dX7_guessesTurn_126 : decode cX7_guessesTurn 126 = .ok (.if_icmp .le 7, 3) := by decide +kernel
theorem dX7_guessesTurn_129 : decode cX7_guessesTurn 129 = .ok (.iconst 1, 1) := by decide +kernel
theorem dX7_guessesTurn_130 : decode cX7_guessesTurn 130 = .ok (.goto 4, 3) := by decide +kernel
theorem dX7_guessesTurn_133 : decode cX7_guessesTurn 133 = .ok (.iconst 0, 1) := by decide +kernel
theorem dX7_guessesTurn_134 : decode cX7_guessesTurn 134 = .ok (.ireturn, 1) := by decide +kernel
set_option maxRecDepth 20000 in
theorem ggX7_guess_X7_guessesTurn : GoodIn wsX7_guess wsX7_guessesTurn := goodIn_r _ [11, 12, 13, 14, 15, 16, 17, 18, 19, 10, 20, 29, 30, 31, 32, 33, 34, 35, 36, 37, 38, 39, 40, 41, 42, 43, 44, 45, 46, 47, 48, 49, 50, 51, 52, 53, 54, 55, 56, 57, 58, 59, 60, 61, 62] (by decide +kernel) (by decide +kernel)
set_option maxRecDepth 20000 in
theorem gX7_guess_X7_guessesTurn : GoodIn wsX7_guess (wsV RX7 130 RX7 yX7_guessesTurn wsX7_guessesTurn) := goodIn_app (goodIn_of _ (by decide +kernel)) ggX7_guess_X7_guessesTurn
set_option maxRecDepth 20000 in
theorem ggX7_guess_X7_bit : GoodIn wsX7_guess wsX7_bit := goodIn_r _ [24, 15, 29, 30, 31, 32, 33, 34, 35, 36, 37, 38, 39, 40, 41, 42, 43, 44, 45, 46, 47, 48, 49, 50, 51, 52, 53, 54, 55, 56, 57, 58, 59, 60, 61, 62] (by decide +kernel) (by decide +kernel)
set_option maxRecDepth 20000 in
theorem gX7_guess_X7_bit : GoodIn wsX7_guess (wsV RX7 134 RX7 yX7_bit wsX7_bit) := goodIn_app (goodIn_of _ (by decide +kernel)) ggX7_guess_X7_bit
set_option maxRecDepth 20000 in
theorem ggX7_guess_X7_push : GoodIn wsX7_guess wsX7_push := goodIn_r _ [28, 5, 6, 29, 30, 31, 32, 33, 34, 35, 36, 37, 38, 39, 40, 41, 42, 43, 44, 45, 46, 47, 48, 49, 50, 51, 52, 53, 54, 55, 56, 57, 58, 59, 60, 61, 62] (by decide +kernel) (by decide +kernel)
set_option maxRecDepth 20000 in
theorem gX7_guess_X7_push : GoodIn wsX7_guess (wsV RX7 138 RX7 yX7_push wsX7_push) := goodIn_app (goodIn_of _ (by decide +kernel)) ggX7_guess_X7_push
theorem dX7_guess_0 : decode cX7_guess 0 = .ok (.iload_n 1, 1) := by decide +kernel
theorem dX7_guess_1 : decode cX7_guess 1 = .ok (.bipush 8, 2) := by decide +kernel
theorem dX7_guess_3 : decode cX7_guess 3 = .ok (.irem, 1) := by decide +kernel
theorem dX7_guess_4 : decode cX7_guess 4 = .ok (.istore_n 2, 1) := by decide +kernel
theorem dX7_guess_5 : decode cX7_guess 5 = .ok (.aload_n 0, 1) := by decide +kernel
theorem dX7_guess_6 : decode cX7_guess 6 = .ok (.getfield 44, 3) := by decide +kernel
theorem dX7_guess_9 : decode cX7_guess 9 = .ok (.iload_n 2, 1) := by decide +kernel
theorem dX7_guess_10 : decode cX7_guess 10 = .ok (.iaload, 1) := by decide +kernel
theorem dX7_guess_11 : decode cX7_guess 11 = .ok (.iload_n 1, 1) := by decide +kernel
theorem dX7_guess_12 : decode cX7_guess 12 = .ok (.if_icmp .eq 7, 3) := by decide +kernel
theorem dX7_guess_15 : decode cX7_guess 15 = .ok (.iload_n 1, 1) := by decide +kernel
theorem dX7_guess_16 : decode cX7_guess 16 = .ok (.iconst 1, 1) := by decide +kernel
theorem dX7_guess_17 : decode cX7_guess 17 = .ok (.iadd, 1) := by decide +kernel
theorem dX7_guess_18 : decode cX7_guess 18 = .ok (.ireturn, 1) := by decide +kernel
theorem dX7_guess_19 : decode cX7_guess 19 = .ok (.aload_n 0, 1) := by decide +kernel
theorem dX7_guess_20 : decode cX7_guess 20 = .ok (.getfield 77, 3) := by decide +kernel
theorem dX7_guess_23 : decode cX7_guess 23 = .ok (.bipush 8, 2) := by decide +kernel
theorem dX7_guess_25 : decode cX7_guess 25 = .ok (.dup2, 1) := by decide +kernel
theorem dX7_guess_26 : decode cX7_guess 26 = .ok (.iaload, 1) := by decide +kernel
theorem dX7_guess_27 : decode cX7_guess 27 = .ok (.iconst 1, 1) := by decide +kernel
theorem dX7_guess_28 : decode cX7_guess 28 = .ok (.iadd, 1) := by decide +kernel
theorem dX7_guess_29 : decode cX7_guess 29 = .ok (.iastore, 1) := by decide +kernel
theorem dX7_guess_30 : decode cX7_guess 30 = .ok (.aload_n 0, 1) := by decide +kernel
theorem dX7_guess_31 : decode cX7_guess 31 = .ok (.getfield 47, 3) := by decide +kernel
theorem dX7_guess_34 : decode cX7_guess 34 = .ok (.iload_n 2, 1) := by decide +kernel
theorem dX7_guess_35 : decode cX7_guess 35 = .ok (.iaload, 1) := by decide +kernel
theorem dX7_guess_36 : decode cX7_guess 36 = .ok (.istore_n 3, 1) := by decide +kernel
theorem dX7_guess_37 : decode cX7_guess 37 = .ok (.iload_n 3, 1) := by decide +kernel
theorem dX7_guess_38 : decode cX7_guess 38 = .ok (.iconst 5, 1) := by decide +kernel
theorem dX7_guess_39 : decode cX7_guess 39 = .ok (.if_icmp .eq 9, 3) := by decide +kernel
theorem dX7_guess_42 : decode cX7_guess 42 = .ok (.iload_n 3, 1) := by decide +kernel
theorem dX7_guess_43 : decode cX7_guess 43 = .ok (.bipush 6, 2) := by decide +kernel
theorem dX7_guess_45 : decode cX7_guess 45 = .ok (.if_icmp .ne 34, 3) := by decide +kernel
theorem dX7_guess_48 : decode cX7_guess 48 = .ok (.aload_n 0, 1) := by decide +kernel
theorem dX7_guess_49 : decode cX7_guess 49 = .ok (.iload_n 1, 1) := by decide +kernel
theorem dX7_guess_50 : decode cX7_guess 50 = .ok (.invokevirtual 130, 3) := by decide +kernel
theorem dX7_guess_53 : decode cX7_guess 53 = .ok (.istore 4, 2) := by decide +kernel
theorem dX7_guess_55 : decode cX7_guess 55 = .ok (.aload_n 0, 1) := by decide +kernel
theorem dX7_guess_56 : decode cX7_guess 56 = .ok (.iload 4, 2) := by decide +kernel
theorem dX7_guess_58 : decode cX7_guess 58 = .ok (.invokevirtual 134, 3) := by decide +kernel
theorem dX7_guess_61 : decode cX7_guess 61 = .ok (.iload 4, 2) := by decide +kernel
theorem dX7_guess_63 : decode cX7_guess 63 = .ok (.ifCond .eq 12, 3) := by decide +kernel
theorem dX7_guess_66 : decode cX7_guess 66 = .ok (.aload_n 0, 1) := by decide +kernel
theorem dX7_guess_67 : decode cX7_guess 67 = .ok (.getfield 50, 3) := by decide +kernel
theorem dX7_guess_70 : decode cX7_guess 70 = .ok (.iload_n 2, 1) := by decide +kernel
theorem dX7_guess_71 : decode cX7_guess 71 = .ok (.iaload, 1) := by decide +kernel
theorem dX7_guess_72 : decode cX7_guess 72 = .ok (.goto 6, 3) := by decide +kernel
theorem dX7_guess_75 : decode cX7_guess 75 = .ok (.iload_n 1, 1) := by decide +kernel
theorem dX7_guess_76 : decode cX7_guess 76 = .ok (.iconst 1, 1) := by decide +kernel
theorem dX7_guess_77 : decode cX7_guess 77 = .ok (.iadd, 1) := by decide +kernel
theorem dX7_guess_78 : decode cX7_guess 78 = .ok (.ireturn, 1) := by decide +kernel
theorem dX7_guess_79 : decode cX7_guess 79 = .ok (.iload_n 3, 1) := by decide +kernel
theorem dX7_guess_80 : decode cX7_guess 80 = .ok (.bipush 8, 2) := by decide +kernel
theorem dX7_guess_82 : decode cX7_guess 82 = .ok (.if_icmp .ne 13, 3) := by decide +kernel
theorem dX7_guess_85 : decode cX7_guess 85 = .ok (.aload_n 0, 1) := by decide +kernel
theorem dX7_guess_86 : decode cX7_guess 86 = .ok (.iload_n 1, 1) := by decide +kernel
theorem dX7_guess_87 : decode cX7_guess 87 = .ok (.iconst 1, 1) := by decide +kernel
theorem dX7_guess_88 : decode cX7_guess 88 = .ok (.iadd, 1) := by decide +kernel
theorem dX7_guess_89 : decode cX7_guess 89 = .ok (.invokevirtual 138, 3) := by decide +kernel
theorem dX7_guess_92 : decode cX7_guess 92 = .ok (.goto 40, 3) := by decide +kernel
theorem dX7_guess_95 : decode cX7_guess 95 = .ok (.iload_n 3, 1) := by decide +kernel
theorem dX7_guess_96 : decode cX7_guess 96 = .ok (.bipush 9, 2) := by decide +kernel
theorem dX7_guess_98 : decode cX7_guess 98 = .ok (.if_icmp .ne 34, 3) := by decide +kernel
theorem dX7_guess_101 : decode cX7_guess 101 = .ok (.aload_n 0, 1) := by decide +kernel
theorem dX7_guess_102 : decode cX7_guess 102 = .ok (.getfield 120, 3) := by decide +kernel
theorem dX7_guess_105 : decode cX7_guess 105 = .ok (.ifCond .ne 7, 3) := by decide +kernel
theorem dX7_guess_108 : decode cX7_guess 108 = .ok (.iload_n 1, 1) := by decide +kernel
theorem dX7_guess_109 : decode cX7_guess 109 = .ok (.iconst 1, 1) := by decide +kernel
theorem dX7_guess_110 : decode cX7_guess 110 = .ok (.iadd, 1) := by decide +kernel
theorem dX7_guess_111 : decode cX7_guess 111 = .ok (.ireturn, 1) := by decide +kernel
theorem dX7_guess_112 : decode cX7_guess 112 = .ok (.aload_n 0, 1) := by decide +kernel
theorem dX7_guess_113 : decode cX7_guess 113 = .ok (.dup, 1) := by decide +kernel
theorem dX7_guess_114 : decode cX7_guess 114 = .ok (.getfield 120, 3) := by decide +kernel
theorem dX7_guess_117 : decode cX7_guess 117 = .ok (.iconst 1, 1) := by decide +kernel
theorem dX7_guess_118 : decode cX7_guess 118 = .ok (.isub, 1) := by decide +kernel
theorem dX7_guess_119 : decode cX7_guess 119 = .ok (.putfield 120, 3) := by decide +kernel
theorem dX7_guess_122 : decode cX7_guess 122 = .ok (.aload_n 0, 1) := by decide +kernel
theorem dX7_guess_123 : decode cX7_guess 123 = .ok (.getfield 53, 3) := by decide +kernel
theorem dX7_guess_126 : decode cX7_guess 126 = .ok (.aload_n 0, 1) := by decide +kernel
theorem dX7_guess_127 : decode cX7_guess 127 = .ok (.getfield 120, 3) := by decide +kernel
theorem dX7_guess_130 : decode cX7_guess 130 = .ok (.iaload, 1) := by decide +kernel
theorem dX7_guess_131 : decode cX7_guess 131 = .ok (.ireturn, 1) := by decide +kernel
theorem dX7_guess_132 : decode cX7_guess 132 = .ok (.aload_n 0, 1) := by decide +kernel
theorem dX7_guess_133 : decode cX7_guess 133 = .ok (.getfield 50, 3) := by decide +kernel
theorem dX7_guess_136 : decode cX7_guess 136 = .ok (.iload_n 2, 1) := by decide +kernel
theorem dX7_guess_137 : decode cX7_guess 137 = .ok (.iaload, 1) := by decide +kernel
theorem dX7_guess_138 : decode cX7_guess 138 = .ok (.ireturn, 1) := by decide +kernel
set_option maxRecDepth 20000 in
theorem ggX7_fetch_X7_in : GoodIn wsX7_fetch wsX7_in := goodIn_r _ [16] (by decide +kernel) (by decide +kernel)
set_option maxRecDepth 20000 in
theorem gX7_fetch_X7_in : GoodIn wsX7_fetch (va_wsS RX7 92 yX7_in wsX7_in) := goodIn_app (goodIn_of _ (by decide +kernel)) ggX7_fetch_X7_in
set_option maxRecDepth 20000 in
theorem ggX7_fetch_X7_guess : GoodIn wsX7_fetch wsX7_guess := goodIn_r _ [20, 21, 22, 23, 24, 9, 11, 25, 26, 27, 15, 28, 29, 30, 31, 7, 32, 33, 34, 35, 36, 37, 38, 39, 40, 41, 42, 43, 44, 45, 46, 47, 48, 49, 50, 51, 52, 53, 54, 55, 56, 57, 58, 59, 60, 61, 62, 63, 64, 65, 66, 67, 68, 69, 70, 71, 72, 73, 74, 75, 76, 77, 78] (by decide +kernel) (by decide +kernel)
set_option maxRecDepth 20000 in
theorem gX7_fetch_X7_guess : GoodIn wsX7_fetch (wsV RX7 142 RX7 yX7_guess wsX7_guess) := goodIn_app (goodIn_of _ (by decide +kernel)) ggX7_fetch_X7_guess
theorem dX7_fetch_0 : decode cX7_fetch 0 = .ok (.aload_n 0, 1) := by decide +kernel
theorem dX7_fetch_1 : decode cX7_fetch 1 = .ok (.getfield 123, 3) := by decide +kernel
theorem dX7_fetch_4 : decode cX7_fetch 4 = .ok (.iconst 0, 1) := by decide +kernel
theorem dX7_fetch_5 : decode cX7_fetch 5 = .ok (.aload_n 0, 1) := by decide +kernel
theorem dX7_fetch_6 : decode cX7_fetch 6 = .ok (.getfield 100, 3) := by decide +kernel
theorem dX7_fetch_9 : decode cX7_fetch 9 = .ok (.iconst 1, 1) := by decide +kernel
theorem dX7_fetch_10 : decode cX7_fetch 10 = .ok (.isub, 1) := by decide +kernel
theorem dX7_fetch_11 : decode cX7_fetch 11 = .ok (.invokestatic 92, 3) := by decide +kernel
theorem dX7_fetch_14 : decode cX7_fetch 14 = .ok (.ifCond .ne 4, 3) := by decide +kernel
theorem dX7_fetch_17 : decode cX7_fetch 17 = .ok (.return_, 1) := by decide +kernel
theorem dX7_fetch_18 : decode cX7_fetch 18 = .ok (.aload_n 0, 1) := by decide +kernel
theorem dX7_fetch_19 : decode cX7_fetch 19 = .ok (.getfield 56, 3) := by decide +kernel
theorem dX7_fetch_22 : decode cX7_fetch 22 = .ok (.aload_n 0, 1) := by decide +kernel
theorem dX7_fetch_23 : decode cX7_fetch 23 = .ok (.getfield 117, 3) := by decide +kernel
theorem dX7_fetch_26 : decode cX7_fetch 26 = .ok (.aload_n 0, 1) := by decide +kernel
theorem dX7_fetch_27 : decode cX7_fetch 27 = .ok (.getfield 123, 3) := by decide +kernel
theorem dX7_fetch_30 : decode cX7_fetch 30 = .ok (.iastore, 1) := by decide +kernel
theorem dX7_fetch_31 : decode cX7_fetch 31 = .ok (.aload_n 0, 1) := by decide +kernel
theorem dX7_fetch_32 : decode cX7_fetch 32 = .ok (.getfield 59, 3) := by decide +kernel
theorem dX7_fetch_35 : decode cX7_fetch 35 = .ok (.aload_n 0, 1) := by decide +kernel
theorem dX7_fetch_36 : decode cX7_fetch 36 = .ok (.getfield 117, 3) := by decide +kernel
theorem dX7_fetch_39 : decode cX7_fetch 39 = .ok (.iload_n 1, 1) := by decide +kernel
theorem dX7_fetch_40 : decode cX7_fetch 40 = .ok (.iastore, 1) := by decide +kernel
theorem dX7_fetch_41 : decode cX7_fetch 41 = .ok (.aload_n 0, 1) := by decide +kernel
theorem dX7_fetch_42 : decode cX7_fetch 42 = .ok (.getfield 65, 3) := by decide +kernel
theorem dX7_fetch_45 : decode cX7_fetch 45 = .ok (.aload_n 0, 1) := by decide +kernel
theorem dX7_fetch_46 : decode cX7_fetch 46 = .ok (.getfield 117, 3) := by decide +kernel
theorem dX7_fetch_49 : decode cX7_fetch 49 = .ok (.aload_n 0, 1) := by decide +kernel
theorem dX7_fetch_50 : decode cX7_fetch 50 = .ok (.getfield 89, 3) := by decide +kernel
theorem dX7_fetch_53 : decode cX7_fetch 53 = .ok (.iastore, 1) := by decide +kernel
theorem dX7_fetch_54 : decode cX7_fetch 54 = .ok (.aload_n 0, 1) := by decide +kernel
theorem dX7_fetch_55 : decode cX7_fetch 55 = .ok (.getfield 68, 3) := by decide +kernel
theorem dX7_fetch_58 : decode cX7_fetch 58 = .ok (.aload_n 0, 1) := by decide +kernel
theorem dX7_fetch_59 : decode cX7_fetch 59 = .ok (.getfield 117, 3) := by decide +kernel
theorem dX7_fetch_62 : decode cX7_fetch 62 = .ok (.aload_n 0, 1) := by decide +kernel
theorem dX7_fetch_63 : decode cX7_fetch 63 = .ok (.getfield 120, 3) := by decide +kernel
theorem dX7_fetch_66 : decode cX7_fetch 66 = .ok (.iastore, 1) := by decide +kernel
theorem dX7_fetch_67 : decode cX7_fetch 67 = .ok (.iconst 0, 1) := by decide +kernel
theorem dX7_fetch_68 : decode cX7_fetch 68 = .ok (.istore_n 2, 1) := by decide +kernel
theorem dX7_fetch_69 : decode cX7_fetch 69 = .ok (.iload_n 2, 1) := by decide +kernel
theorem dX7_fetch_70 : decode cX7_fetch 70 = .ok (.iconst 4, 1) := by decide +kernel
theorem dX7_fetch_71 : decode cX7_fetch 71 = .ok (.if_icmp .ge 28, 3) := by decide +kernel
theorem dX7_fetch_74 : decode cX7_fetch 74 = .ok (.aload_n 0, 1) := by decide +kernel
theorem dX7_fetch_75 : decode cX7_fetch 75 = .ok (.getfield 71, 3) := by decide +kernel
theorem dX7_fetch_78 : decode cX7_fetch 78 = .ok (.iconst 4, 1) := by decide +kernel
theorem dX7_fetch_79 : decode cX7_fetch 79 = .ok (.aload_n 0, 1) := by decide +kernel
theorem dX7_fetch_80 : decode cX7_fetch 80 = .ok (.getfield 117, 3) := by decide +kernel
theorem dX7_fetch_83 : decode cX7_fetch 83 = .ok (.imul, 1) := by decide +kernel
theorem dX7_fetch_84 : decode cX7_fetch 84 = .ok (.iload_n 2, 1) := by decide +kernel
theorem dX7_fetch_85 : decode cX7_fetch 85 = .ok (.iadd, 1) := by decide +kernel
theorem dX7_fetch_86 : decode cX7_fetch 86 = .ok (.aload_n 0, 1) := by decide +kernel
theorem dX7_fetch_87 : decode cX7_fetch 87 = .ok (.getfield 53, 3) := by decide +kernel
theorem dX7_fetch_90 : decode cX7_fetch 90 = .ok (.iload_n 2, 1) := by decide +kernel
theorem dX7_fetch_91 : decode cX7_fetch 91 = .ok (.iaload, 1) := by decide +kernel
theorem dX7_fetch_92 : decode cX7_fetch 92 = .ok (.iastore, 1) := by decide +kernel
theorem dX7_fetch_93 : decode cX7_fetch 93 = .ok (.iinc 2 1, 3) := by decide +kernel
theorem dX7_fetch_96 : decode cX7_fetch 96 = .ok (.goto (-27), 3) := by decide +kernel
theorem dX7_fetch_99 : decode cX7_fetch 99 = .ok (.aload_n 0, 1) := by decide +kernel
theorem dX7_fetch_100 : decode cX7_fetch 100 = .ok (.aload_n 0, 1) := by decide +kernel
theorem dX7_fetch_101 : decode cX7_fetch 101 = .ok (.aload_n 0, 1) := by decide +kernel
theorem dX7_fetch_102 : decode cX7_fetch 102 = .ok (.getfield 123, 3) := by decide +kernel
theorem dX7_fetch_105 : decode cX7_fetch 105 = .ok (.invokevirtual 142, 3) := by decide +kernel
theorem dX7_fetch_108 : decode cX7_fetch 108 = .ok (.putfield 123, 3) := by decide +kernel
theorem dX7_fetch_111 : decode cX7_fetch 111 = .ok (.aload_n 0, 1) := by decide +kernel
theorem dX7_fetch_112 : decode cX7_fetch 112 = .ok (.getfield 62, 3) := by decide +kernel
theorem dX7_fetch_115 : decode cX7_fetch 115 = .ok (.aload_n 0, 1) := by decide +kernel
theorem dX7_fetch_116 : decode cX7_fetch 116 = .ok (.getfield 117, 3) := by decide +kernel
theorem dX7_fetch_119 : decode cX7_fetch 119 = .ok (.aload_n 0, 1) := by decide +kernel
theorem dX7_fetch_120 : decode cX7_fetch 120 = .ok (.getfield 123, 3) := by decide +kernel
theorem dX7_fetch_123 : decode cX7_fetch 123 = .ok (.iastore, 1) := by decide +kernel
theorem dX7_fetch_124 : decode cX7_fetch 124 = .ok (.aload_n 0, 1) := by decide +kernel
theorem dX7_fetch_125 : decode cX7_fetch 125 = .ok (.dup, 1) := by decide +kernel
theorem dX7_fetch_126 : decode cX7_fetch 126 = .ok (.getfield 117, 3) := by decide +kernel
theorem dX7_fetch_129 : decode cX7_fetch 129 = .ok (.iconst 1, 1) := by decide +kernel
theorem dX7_fetch_130 : decode cX7_fetch 130 = .ok (.iadd, 1) := by decide +kernel
theorem dX7_fetch_131 : decode cX7_fetch 131 = .ok (.putfield 117, 3) := by decide +kernel
theorem dX7_fetch_134 : decode cX7_fetch 134 = .ok (.return_, 1) := by decide +kernel
theorem dX7_dropFirst_0 : decode cX7_dropFirst 0 = .ok (.iconst 1, 1) := by decide +kernel
theorem dX7_dropFirst_1 : decode cX7_dropFirst 1 = .ok (.istore_n 1, 1) := by decide +kernel
theorem dX7_dropFirst_2 : decode cX7_dropFirst 2 = .ok (.iload_n 1, 1) := by decide +kernel
theorem dX7_dropFirst_3 : decode cX7_dropFirst 3 = .ok (.aload_n 0, 1) := by decide +kernel
theorem dX7_dropFirst_4 : decode cX7_dropFirst 4 = .ok (.getfield 117, 3) := by decide +kernel
theorem dX7_dropFirst_7 : decode cX7_dropFirst 7 = .ok (.if_icmp .ge 114, 3) := by decide +kernel
theorem dX7_dropFirst_10 : decode cX7_dropFirst 10 = .ok (.aload_n 0, 1) := by decide +kernel
theorem dX7_dropFirst_11 : decode cX7_dropFirst 11 = .ok (.getfield 56, 3) := by decide +kernel
theorem dX7_dropFirst_14 : decode cX7_dropFirst 14 = .ok (.iload_n 1, 1) := by decide +kernel
theorem dX7_dropFirst_15 : decode cX7_dropFirst 15 = .ok (.iconst 1, 1) := by decide +kernel
theorem dX7_dropFirst_16 : decode cX7_dropFirst 16 = .ok (.isub, 1) := by decide +kernel
theorem dX7_dropFirst_17 : decode cX7_dropFirst 17 = .ok (.aload_n 0, 1) := by decide +kernel
theorem dX7_dropFirst_18 : decode cX7_dropFirst 18 = .ok (.getfield 56, 3) := by decide +kernel
theorem dX7_dropFirst_21 : decode cX7_dropFirst 21 = .ok (.iload_n 1, 1) := by decide +kernel
theorem dX7_dropFirst_22 : decode cX7_dropFirst 22 = .ok (.iaload, 1) := by decide +kernel
theorem dX7_dropFirst_23 : decode cX7_dropFirst 23 = .ok (.iastore, 1) := by decide +kernel
theorem dX7_dropFirst_24 : decode cX7_dropFirst 24 = .ok (.aload_n 0, 1) := by decide +kernel
theorem dX7_dropFirst_25 : decode cX7_dropFirst 25 = .ok (.getfield 59, 3) := by decide +kernel
theorem dX7_dropFirst_28 : decode cX7_dropFirst 28 = .ok (.iload_n 1, 1) := by decide +kernel
theorem dX7_dropFirst_29 : decode cX7_dropFirst 29 = .ok (.iconst 1, 1) := by decide +kernel
theorem dX7_dropFirst_30 : decode cX7_dropFirst 30 = .ok (.isub, 1) := by decide +kernel
theorem dX7_dropFirst_31 : decode cX7_dropFirst 31 = .ok (.aload_n 0, 1) := by decide +kernel
theorem dX7_dropFirst_32 : decode cX7_dropFirst 32 = .ok (.getfield 59, 3) := by decide +kernel
theorem dX7_dropFirst_35 : decode cX7_dropFirst 35 = .ok (.iload_n 1, 1) := by decide +kernel
theorem dX7_dropFirst_36 : decode cX7_dropFirst 36 = .ok (.iaload, 1) := by decide +kernel
theorem dX7_dropFirst_37 : decode cX7_dropFirst 37 = .ok (.iastore, 1) := by decide +kernel
theorem dX7_dropFirst_38 : decode cX7_dropFirst 38 = .ok (.aload_n 0, 1) := by decide +kernel
theorem dX7_dropFirst_39 : decode cX7_dropFirst 39 = .ok (.getfield 62, 3) := by decide +kernel
theorem dX7_dropFirst_42 : decode cX7_dropFirst 42 = .ok (.iload_n 1, 1) := by decide +kernel
theorem dX7_dropFirst_43 : decode cX7_dropFirst 43 = .ok (.iconst 1, 1) := by decide +kernel
theorem dX7_dropFirst_44 : decode cX7_dropFirst 44 = .ok (.isub, 1) := by decide +kernel
theorem dX7_dropFirst_45 : decode cX7_dropFirst 45 = .ok (.aload_n 0, 1) := by decide +kernel
theorem dX7_dropFirst_46 : decode cX7_dropFirst 46 = .ok (.getfield 62, 3) := by decide +kernel
theorem dX7_dropFirst_49 : decode cX7_dropFirst 49 = .ok (.iload_n 1, 1) := by decide +kernel
theorem dX7_dropFirst_50 : decode cX7_dropFirst 50 = .ok (.iaload, 1) := by decide +kernel
theorem dX7_dropFirst_51 : decode cX7_dropFirst 51 = .ok (.iastore, 1) := by decide +kernel
theorem dX7_dropFirst_52 : decode cX7_dropFirst 52 = .ok (.aload_n 0, 1) := by decide +kernel
theorem dX7_dropFirst_53 : decode cX7_dropFirst 53 = .ok (.getfield 65, 3) := by decide +kernel
theorem dX7_dropFirst_56 : decode cX7_dropFirst 56 = .ok (.iload_n 1, 1) := by decide +kernel
theorem dX7_dropFirst_57 : decode cX7_dropFirst 57 = .ok (.iconst 1, 1) := by decide +kernel
theorem dX7_dropFirst_58 : decode cX7_dropFirst 58 = .ok (.isub, 1) := by decide +kernel
theorem dX7_dropFirst_59 : decode cX7_dropFirst 59 = .ok (.aload_n 0, 1) := by decide +kernel
theorem dX7_dropFirst_60 : decode cX7_dropFirst 60 = .ok (.getfield 65, 3) := by decide +kernel
theorem dX7_dropFirst_63 : decode cX7_dropFirst 63 = .ok (.iload_n 1, 1) := by decide +kernel
theorem dX7_dropFirst_64 : decode cX7_dropFirst 64 = .ok (.iaload, 1) := by decide +kernel
theorem dX7_dropFirst_65 : decode cX7_dropFirst 65 = .ok (.iastore, 1) := by decide +kernel
theorem dX7_dropFirst_66 : decode cX7_dropFirst 66 = .ok (.aload_n 0, 1) := by decide +kernel
theorem dX7_dropFirst_67 : decode cX7_dropFirst 67 = .ok (.getfield 68, 3) := by decide +kernel
theorem dX7_dropFirst_70 : decode cX7_dropFirst 70 = .ok (.iload_n 1, 1) := by decide +kernel
theorem dX7_dropFirst_71 : decode cX7_dropFirst 71 = .ok (.iconst 1, 1) := by decide +kernel
theorem dX7_dropFirst_72 : decode cX7_dropFirst 72 = .ok (.isub, 1) := by decide +kernel
theorem dX7_dropFirst_73 : decode cX7_dropFirst 73 = .ok (.aload_n 0, 1) := by decide +kernel
theorem dX7_dropFirst_74 : decode cX7_dropFirst 74 = .ok (.getfield 68, 3) := by decide +kernel
theorem dX7_dropFirst_77 : decode cX7_dropFirst 77 = .ok (.iload_n 1, 1) := by decide +kernel
theorem dX7_dropFirst_78 : decode cX7_dropFirst 78 = .ok (.iaload, 1) := by decide +kernel
theorem dX7_dropFirst_79 : decode cX7_dropFirst 79 = .ok (.iastore, 1) := by decide +kernel
theorem dX7_dropFirst_80 : decode cX7_dropFirst 80 = .ok (.iconst 0, 1) := by decide +kernel
theorem dX7_dropFirst_81 : decode cX7_dropFirst 81 = .ok (.istore_n 2, 1) := by decide +kernel
theorem dX7_dropFirst_82 : decode cX7_dropFirst 82 = .ok (.iload_n 2, 1) := by decide +kernel
theorem dX7_dropFirst_83 : decode cX7_dropFirst 83 = .ok (.iconst 4, 1) := by decide +kernel
theorem dX7_dropFirst_84 : decode cX7_dropFirst 84 = .ok (.if_icmp .ge 31, 3) := by decide +kernel
theorem dX7_dropFirst_87 : decode cX7_dropFirst 87 = .ok (.aload_n 0, 1) := by decide +kernel
theorem dX7_dropFirst_88 : decode cX7_dropFirst 88 = .ok (.getfield 71, 3) := by decide +kernel
theorem dX7_dropFirst_91 : decode cX7_dropFirst 91 = .ok (.iconst 4, 1) := by decide +kernel
theorem dX7_dropFirst_92 : decode cX7_dropFirst 92 = .ok (.iload_n 1, 1) := by decide +kernel
theorem dX7_dropFirst_93 : decode cX7_dropFirst 93 = .ok (.iconst 1, 1) := by decide +kernel
theorem dX7_dropFirst_94 : decode cX7_dropFirst 94 = .ok (.isub, 1) := by decide +kernel
theorem dX7_dropFirst_95 : decode cX7_dropFirst 95 = .ok (.imul, 1) := by decide +kernel
theorem dX7_dropFirst_96 : decode cX7_dropFirst 96 = .ok (.iload_n 2, 1) := by decide +kernel
theorem dX7_dropFirst_97 : decode cX7_dropFirst 97 = .ok (.iadd, 1) := by decide +kernel
theorem dX7_dropFirst_98 : decode cX7_dropFirst 98 = .ok (.aload_n 0, 1) := by decide +kernel
theorem dX7_dropFirst_99 : decode cX7_dropFirst 99 = .ok (.getfield 71, 3) := by decide +kernel
theorem dX7_dropFirst_102 : decode cX7_dropFirst 102 = .ok (.iconst 4, 1) := by decide +kernel
theorem dX7_dropFirst_103 : decode cX7_dropFirst 103 = .ok (.iload_n 1, 1) := by decide +kernel
theorem dX7_dropFirst_104 : decode cX7_dropFirst 104 = .ok (.imul, 1) := by decide +kernel
theorem dX7_dropFirst_105 : decode cX7_dropFirst 105 = .ok (.iload_n 2, 1) := by decide +kernel
theorem dX7_dropFirst_106 : decode cX7_dropFirst 106 = .ok (.iadd, 1) := by decide +kernel
theorem dX7_dropFirst_107 : decode cX7_dropFirst 107 = .ok (.iaload, 1) := by decide +kernel
theorem dX7_dropFirst_108 : decode cX7_dropFirst 108 = .ok (.iastore, 1) := by decide +kernel
theorem dX7_dropFirst_109 : decode cX7_dropFirst 109 = .ok (.iinc 2 1, 3) := by decide +kernel
theorem dX7_dropFirst_112 : decode cX7_dropFirst 112 = .ok (.goto (-30), 3) := by decide +kernel
theorem dX7_dropFirst_115 : decode cX7_dropFirst 115 = .ok (.iinc 1 1, 3) := by decide +kernel
theorem dX7_dropFirst_118 : decode cX7_dropFirst 118 = .ok (.goto (-116), 3) := by decide +kernel
theorem dX7_dropFirst_121 : decode cX7_dropFirst 121 = .ok (.aload_n 0, 1) := by decide +kernel
theorem dX7_dropFirst_122 : decode cX7_dropFirst 122 = .ok (.dup, 1) := by decide +kernel
theorem dX7_dropFirst_123 : decode cX7_dropFirst 123 = .ok (.getfield 117, 3) := by decide +kernel
theorem dX7_dropFirst_126 : decode cX7_dropFirst 126 = .ok (.iconst 1, 1) := by decide +kernel
theorem dX7_dropFirst_127 : decode cX7_dropFirst 127 = .ok (.isub, 1) := by decide +kernel
theorem dX7_dropFirst_128 : decode cX7_dropFirst 128 = .ok (.putfield 117, 3) := by decide +kernel
theorem dX7_dropFirst_131 : decode cX7_dropFirst 131 = .ok (.return_, 1) := by decide +kernel
theorem dX7_does_0 : decode cX7_does 0 = .ok (.aload_n 0, 1) := by decide +kernel
theorem dX7_does_1 : decode cX7_does 1 = .ok (.getfield 13, 3) := by decide +kernel
theorem dX7_does_4 : decode cX7_does 4 = .ok (.iload_n 1, 1) := by decide +kernel
theorem dX7_does_5 : decode cX7_does 5 = .ok (.iaload, 1) := by decide +kernel
theorem dX7_does_6 : decode cX7_does 6 = .ok (.istore_n 2, 1) := by decide +kernel
theorem dX7_does_7 : decode cX7_does 7 = .ok (.aload_n 0, 1) := by decide +kernel
theorem dX7_does_8 : decode cX7_does 8 = .ok (.getfield 16, 3) := by decide +kernel
theorem dX7_does_11 : decode cX7_does 11 = .ok (.iload_n 1, 1) := by decide +kernel
theorem dX7_does_12 : decode cX7_does 12 = .ok (.iaload, 1) := by decide +kernel
theorem dX7_does_13 : decode cX7_does 13 = .ok (.istore_n 3, 1) := by decide +kernel
theorem dX7_does_14 : decode cX7_does 14 = .ok (.iload_n 1, 1) := by decide +kernel
theorem dX7_does_15 : decode cX7_does 15 = .ok (.iconst 1, 1) := by decide +kernel
theorem dX7_does_16 : decode cX7_does 16 = .ok (.iadd, 1) := by decide +kernel
theorem dX7_does_17 : decode cX7_does 17 = .ok (.istore 4, 2) := by decide +kernel
theorem dX7_does_19 : decode cX7_does 19 = .ok (.aload_n 0, 1) := by decide +kernel
theorem dX7_does_20 : decode cX7_does 20 = .ok (.getfield 7, 3) := by decide +kernel
theorem dX7_does_23 : decode cX7_does 23 = .ok (.iload_n 1, 1) := by decide +kernel
theorem dX7_does_24 : decode cX7_does 24 = .ok (.iaload, 1) := by decide +kernel
theorem dX7_does_25 : decode cX7_does 25 = .ok (.tableswitch 332 0 10 #[59, 74, 96, 118, 141, 164, 195, 226, 237, 280, 313], 59) := by decide +kernel
theorem dX7_does_84 : decode cX7_does 84 = .ok (.aload_n 0, 1) := by decide +kernel
theorem dX7_does_85 : decode cX7_does 85 = .ok (.getfield 22, 3) := by decide +kernel
theorem dX7_does_88 : decode cX7_does 88 = .ok (.iload_n 2, 1) := by decide +kernel
theorem dX7_does_89 : decode cX7_does 89 = .ok (.aload_n 0, 1) := by decide +kernel
theorem dX7_does_90 : decode cX7_does 90 = .ok (.getfield 19, 3) := by decide +kernel
theorem dX7_does_93 : decode cX7_does 93 = .ok (.iload_n 1, 1) := by decide +kernel
theorem dX7_does_94 : decode cX7_does 94 = .ok (.iaload, 1) := by decide +kernel
theorem dX7_does_95 : decode cX7_does 95 = .ok (.iastore, 1) := by decide +kernel
theorem dX7_does_96 : decode cX7_does 96 = .ok (.goto 261, 3) := by decide +kernel
theorem dX7_does_99 : decode cX7_does 99 = .ok (.aload_n 0, 1) := by decide +kernel
theorem dX7_does_100 : decode cX7_does 100 = .ok (.getfield 22, 3) := by decide +kernel
theorem dX7_does_103 : decode cX7_does 103 = .ok (.iload_n 2, 1) := by decide +kernel
theorem dX7_does_104 : decode cX7_does 104 = .ok (.aload_n 0, 1) := by decide +kernel
theorem dX7_does_105 : decode cX7_does 105 = .ok (.getfield 22, 3) := by decide +kernel
theorem dX7_does_108 : decode cX7_does 108 = .ok (.iload_n 2, 1) := by decide +kernel
theorem dX7_does_109 : decode cX7_does 109 = .ok (.iaload, 1) := by decide +kernel
theorem dX7_does_110 : decode cX7_does 110 = .ok (.aload_n 0, 1) := by decide +kernel
theorem dX7_does_111 : decode cX7_does 111 = .ok (.getfield 22, 3) := by decide +kernel
theorem dX7_does_114 : decode cX7_does 114 = .ok (.iload_n 3, 1) := by decide +kernel
theorem dX7_does_115 : decode cX7_does 115 = .ok (.iaload, 1) := by decide +kernel
theorem dX7_does_116 : decode cX7_does 116 = .ok (.iadd, 1) := by decide +kernel
theorem dX7_does_117 : decode cX7_does 117 = .ok (.iastore, 1) := by decide +kernel
theorem dX7_does_118 : decode cX7_does 118 = .ok (.goto 239, 3) := by decide +kernel
theorem dX7_does_121 : decode cX7_does 121 = .ok (.aload_n 0, 1) := by decide +kernel
theorem dX7_does_122 : decode cX7_does 122 = .ok (.getfield 22, 3) := by decide +kernel
theorem dX7_does_125 : decode cX7_does 125 = .ok (.iload_n 2, 1) := by decide +kernel
theorem dX7_does_126 : decode cX7_does 126 = .ok (.aload_n 0, 1) := by decide +kernel
theorem dX7_does_127 : decode cX7_does 127 = .ok (.getfield 22, 3) := by decide +kernel
theorem dX7_does_130 : decode cX7_does 130 = .ok (.iload_n 2, 1) := by decide +kernel
theorem dX7_does_131 : decode cX7_does 131 = .ok (.iaload, 1) := by decide +kernel
theorem dX7_does_132 : decode cX7_does 132 = .ok (.aload_n 0, 1) := by decide +kernel
theorem dX7_does_133 : decode cX7_does 133 = .ok (.getfield 22, 3) := by decide +kernel
theorem dX7_does_136 : decode cX7_does 136 = .ok (.iload_n 3, 1) := by decide +kernel
theorem dX7_does_137 : decode cX7_does 137 = .ok (.iaload, 1) := by decide +kernel
theorem dX7_does_138 : decode cX7_does 138 = .ok (.isub, 1) := by decide +kernel
theorem dX7_does_139 : decode cX7_does 139 = .ok (.iastore, 1) := by decide +kernel
theorem dX7_does_140 : decode cX7_does 140 = .ok (.goto 217, 3) := by decide +kernel
theorem dX7_does_143 : decode cX7_does 143 = .ok (.aload_n 0, 1) := by decide +kernel
theorem dX7_does_144 : decode cX7_does 144 = .ok (.getfield 22, 3) := by decide +kernel
theorem dX7_does_147 : decode cX7_does 147 = .ok (.iload_n 2, 1) := by decide +kernel
theorem dX7_does_148 : decode cX7_does 148 = .ok (.aload_n 0, 1) := by decide +kernel
theorem dX7_does_149 : decode cX7_does 149 = .ok (.getfield 25, 3) := by decide +kernel
theorem dX7_does_152 : decode cX7_does 152 = .ok (.aload_n 0, 1) := by decide +kernel
theorem dX7_does_153 : decode cX7_does 153 = .ok (.getfield 22, 3) := by decide +kernel
theorem dX7_does_156 : decode cX7_does 156 = .ok (.iload_n 3, 1) := by decide +kernel
theorem dX7_does_157 : decode cX7_does 157 = .ok (.iaload, 1) := by decide +kernel
theorem dX7_does_158 : decode cX7_does 158 = .ok (.bipush 15, 2) := by decide +kernel
theorem dX7_does_160 : decode cX7_does 160 = .ok (.iand, 1) := by decide +kernel
theorem dX7_does_161 : decode cX7_does 161 = .ok (.iaload, 1) := by decide +kernel
theorem dX7_does_162 : decode cX7_does 162 = .ok (.iastore, 1) := by decide +kernel
theorem dX7_does_163 : decode cX7_does 163 = .ok (.goto 194, 3) := by decide +kernel
theorem dX7_does_166 : decode cX7_does 166 = .ok (.aload_n 0, 1) := by decide +kernel
theorem dX7_does_167 : decode cX7_does 167 = .ok (.getfield 25, 3) := by decide +kernel
theorem dX7_does_170 : decode cX7_does 170 = .ok (.aload_n 0, 1) := by decide +kernel
theorem dX7_does_171 : decode cX7_does 171 = .ok (.getfield 22, 3) := by decide +kernel
theorem dX7_does_174 : decode cX7_does 174 = .ok (.iload_n 3, 1) := by decide +kernel
theorem dX7_does_175 : decode cX7_does 175 = .ok (.iaload, 1) := by decide +kernel
theorem dX7_does_176 : decode cX7_does 176 = .ok (.bipush 15, 2) := by decide +kernel
theorem dX7_does_178 : decode cX7_does 178 = .ok (.iand, 1) := by decide +kernel
theorem dX7_does_179 : decode cX7_does 179 = .ok (.aload_n 0, 1) := by decide +kernel
theorem dX7_does_180 : decode cX7_does 180 = .ok (.getfield 22, 3) := by decide +kernel
theorem dX7_does_183 : decode cX7_does 183 = .ok (.iload_n 2, 1) := by decide +kernel
theorem dX7_does_184 : decode cX7_does 184 = .ok (.iaload, 1) := by decide +kernel
theorem dX7_does_185 : decode cX7_does 185 = .ok (.iastore, 1) := by decide +kernel
theorem dX7_does_186 : decode cX7_does 186 = .ok (.goto 171, 3) := by decide +kernel
theorem dX7_does_189 : decode cX7_does 189 = .ok (.aload_n 0, 1) := by decide +kernel
theorem dX7_does_190 : decode cX7_does 190 = .ok (.getfield 22, 3) := by decide +kernel
theorem dX7_does_193 : decode cX7_does 193 = .ok (.iload_n 2, 1) := by decide +kernel
theorem dX7_does_194 : decode cX7_does 194 = .ok (.iaload, 1) := by decide +kernel
theorem dX7_does_195 : decode cX7_does 195 = .ok (.aload_n 0, 1) := by decide +kernel
theorem dX7_does_196 : decode cX7_does 196 = .ok (.getfield 22, 3) := by decide +kernel
theorem dX7_does_199 : decode cX7_does 199 = .ok (.iload_n 3, 1) := by decide +kernel
theorem dX7_does_200 : decode cX7_does 200 = .ok (.iaload, 1) := by decide +kernel
theorem dX7_does_201 : decode cX7_does 201 = .ok (.if_icmp .ge 12, 3) := by decide +kernel
theorem dX7_does_204 : decode cX7_does 204 = .ok (.aload_n 0, 1) := by decide +kernel
theorem dX7_does_205 : decode cX7_does 205 = .ok (.getfield 19, 3) := by decide +kernel
theorem dX7_does_208 : decode cX7_does 208 = .ok (.iload_n 1, 1) := by decide +kernel
theorem dX7_does_209 : decode cX7_does 209 = .ok (.iaload, 1) := by decide +kernel
theorem dX7_does_210 : decode cX7_does 210 = .ok (.goto 5, 3) := by decide +kernel
theorem dX7_does_213 : decode cX7_does 213 = .ok (.iload 4, 2) := by decide +kernel
theorem dX7_does_215 : decode cX7_does 215 = .ok (.istore 4, 2) := by decide +kernel
theorem dX7_does_217 : decode cX7_does 217 = .ok (.goto 140, 3) := by decide +kernel
theorem dX7_does_220 : decode cX7_does 220 = .ok (.aload_n 0, 1) := by decide +kernel
theorem dX7_does_221 : decode cX7_does 221 = .ok (.getfield 22, 3) := by decide +kernel
theorem dX7_does_224 : decode cX7_does 224 = .ok (.iload_n 2, 1) := by decide +kernel
theorem dX7_does_225 : decode cX7_does 225 = .ok (.iaload, 1) := by decide +kernel
theorem dX7_does_226 : decode cX7_does 226 = .ok (.aload_n 0, 1) := by decide +kernel
theorem dX7_does_227 : decode cX7_does 227 = .ok (.getfield 22, 3) := by decide +kernel
theorem dX7_does_230 : decode cX7_does 230 = .ok (.iload_n 3, 1) := by decide +kernel
theorem dX7_does_231 : decode cX7_does 231 = .ok (.iaload, 1) := by decide +kernel
theorem dX7_does_232 : decode cX7_does 232 = .ok (.if_icmp .ne 12, 3) := by decide +kernel
theorem dX7_does_235 : decode cX7_does 235 = .ok (.aload_n 0, 1) := by decide +kernel
theorem dX7_does_236 : decode cX7_does 236 = .ok (.getfield 19, 3) := by decide +kernel
theorem dX7_does_239 : decode cX7_does 239 = .ok (.iload_n 1, 1) := by decide +kernel
theorem dX7_does_240 : decode cX7_does 240 = .ok (.iaload, 1) := by decide +kernel
theorem dX7_does_241 : decode cX7_does 241 = .ok (.goto 5, 3) := by decide +kernel
theorem dX7_does_244 : decode cX7_does 244 = .ok (.iload 4, 2) := by decide +kernel
theorem dX7_does_246 : decode cX7_does 246 = .ok (.istore 4, 2) := by decide +kernel
theorem dX7_does_248 : decode cX7_does 248 = .ok (.goto 109, 3) := by decide +kernel
theorem dX7_does_251 : decode cX7_does 251 = .ok (.aload_n 0, 1) := by decide +kernel
theorem dX7_does_252 : decode cX7_does 252 = .ok (.getfield 19, 3) := by decide +kernel
theorem dX7_does_255 : decode cX7_does 255 = .ok (.iload_n 1, 1) := by decide +kernel
theorem dX7_does_256 : decode cX7_does 256 = .ok (.iaload, 1) := by decide +kernel
theorem dX7_does_257 : decode cX7_does 257 = .ok (.istore 4, 2) := by decide +kernel
theorem dX7_does_259 : decode cX7_does 259 = .ok (.goto 98, 3) := by decide +kernel
theorem dX7_does_262 : decode cX7_does 262 = .ok (.aload_n 0, 1) := by decide +kernel
theorem dX7_does_263 : decode cX7_does 263 = .ok (.getfield 114, 3) := by decide +kernel
theorem dX7_does_266 : decode cX7_does 266 = .ok (.bipush 16, 2) := by decide +kernel
theorem dX7_does_268 : decode cX7_does 268 = .ok (.if_icmp .ne 5, 3) := by decide +kernel
theorem dX7_does_271 : decode cX7_does 271 = .ok (.iconst (-1), 1) := by decide +kernel
theorem dX7_does_272 : decode cX7_does 272 = .ok (.ireturn, 1) := by decide +kernel
theorem dX7_does_273 : decode cX7_does 273 = .ok (.aload_n 0, 1) := by decide +kernel
theorem dX7_does_274 : decode cX7_does 274 = .ok (.getfield 28, 3) := by decide +kernel
theorem dX7_does_277 : decode cX7_does 277 = .ok (.aload_n 0, 1) := by decide +kernel
theorem dX7_does_278 : decode cX7_does 278 = .ok (.getfield 114, 3) := by decide +kernel
theorem dX7_does_281 : decode cX7_does 281 = .ok (.iload 4, 2) := by decide +kernel
theorem dX7_does_283 : decode cX7_does 283 = .ok (.iastore, 1) := by decide +kernel
theorem dX7_does_284 : decode cX7_does 284 = .ok (.aload_n 0, 1) := by decide +kernel
theorem dX7_does_285 : decode cX7_does 285 = .ok (.dup, 1) := by decide +kernel
theorem dX7_does_286 : decode cX7_does 286 = .ok (.getfield 114, 3) := by decide +kernel
theorem dX7_does_289 : decode cX7_does 289 = .ok (.iconst 1, 1) := by decide +kernel
theorem dX7_does_290 : decode cX7_does 290 = .ok (.iadd, 1) := by decide +kernel
theorem dX7_does_291 : decode cX7_does 291 = .ok (.putfield 114, 3) := by decide +kernel
theorem dX7_does_294 : decode cX7_does 294 = .ok (.aload_n 0, 1) := by decide +kernel
theorem dX7_does_295 : decode cX7_does 295 = .ok (.getfield 19, 3) := by decide +kernel
theorem dX7_does_298 : decode cX7_does 298 = .ok (.iload_n 1, 1) := by decide +kernel
theorem dX7_does_299 : decode cX7_does 299 = .ok (.iaload, 1) := by decide +kernel
theorem dX7_does_300 : decode cX7_does 300 = .ok (.istore 4, 2) := by decide +kernel
theorem dX7_does_302 : decode cX7_does 302 = .ok (.goto 55, 3) := by decide +kernel
theorem dX7_does_305 : decode cX7_does 305 = .ok (.aload_n 0, 1) := by decide +kernel
theorem dX7_does_306 : decode cX7_does 306 = .ok (.getfield 114, 3) := by decide +kernel
theorem dX7_does_309 : decode cX7_does 309 = .ok (.ifCond .ne 5, 3) := by decide +kernel
theorem dX7_does_312 : decode cX7_does 312 = .ok (.iconst (-1), 1) := by decide +kernel
theorem dX7_does_313 : decode cX7_does 313 = .ok (.ireturn, 1) := by decide +kernel
theorem dX7_does_314 : decode cX7_does 314 = .ok (.aload_n 0, 1) := by decide +kernel
theorem dX7_does_315 : decode cX7_does 315 = .ok (.dup, 1) := by decide +kernel
theorem dX7_does_316 : decode cX7_does 316 = .ok (.getfield 114, 3) := by decide +kernel
theorem dX7_does_319 : decode cX7_does 319 = .ok (.iconst 1, 1) := by decide +kernel
theorem dX7_does_320 : decode cX7_does 320 = .ok (.isub, 1) := by decide +kernel
theorem dX7_does_321 : decode cX7_does 321 = .ok (.putfield 114, 3) := by decide +kernel
theorem dX7_does_324 : decode cX7_does 324 = .ok (.aload_n 0, 1) := by decide +kernel
theorem dX7_does_325 : decode cX7_does 325 = .ok (.getfield 28, 3) := by decide +kernel
theorem dX7_does_328 : decode cX7_does 328 = .ok (.aload_n 0, 1) := by decide +kernel
theorem dX7_does_329 : decode cX7_does 329 = .ok (.getfield 114, 3) := by decide +kernel
theorem dX7_does_332 : decode cX7_does 332 = .ok (.iaload, 1) := by decide +kernel
theorem dX7_does_333 : decode cX7_does 333 = .ok (.istore 4, 2) := by decide +kernel
theorem dX7_does_335 : decode cX7_does 335 = .ok (.goto 22, 3) := by decide +kernel
theorem dX7_does_338 : decode cX7_does 338 = .ok (.aload_n 0, 1) := by decide +kernel
theorem dX7_does_339 : decode cX7_does 339 = .ok (.getfield 22, 3) := by decide +kernel
theorem dX7_does_342 : decode cX7_does 342 = .ok (.iload_n 2, 1) := by decide +kernel
theorem dX7_does_343 : decode cX7_does 343 = .ok (.iaload, 1) := by decide +kernel
theorem dX7_does_344 : decode cX7_does 344 = .ok (.ldc 146, 2) := by decide +kernel
theorem dX7_does_346 : decode cX7_does 346 = .ok (.iand, 1) := by decide +kernel
theorem dX7_does_347 : decode cX7_does 347 = .ok (.aload_n 0, 1) := by decide +kernel
theorem dX7_does_348 : decode cX7_does 348 = .ok (.getfield 100, 3) := by decide +kernel
theorem dX7_does_351 : decode cX7_does 351 = .ok (.irem, 1) := by decide +kernel
theorem dX7_does_352 : decode cX7_does 352 = .ok (.istore 4, 2) := by decide +kernel
theorem dX7_does_354 : decode cX7_does 354 = .ok (.goto 3, 3) := by decide +kernel
theorem dX7_does_357 : decode cX7_does 357 = .ok (.iload 4, 2) := by decide +kernel
theorem dX7_does_359 : decode cX7_does 359 = .ok (.ireturn, 1) := by decide +kernel
theorem dX7_turned_0 : decode cX7_turned 0 = .ok (.aload_n 0, 1) := by decide +kernel
theorem dX7_turned_1 : decode cX7_turned 1 = .ok (.getfield 7, 3) := by decide +kernel
theorem dX7_turned_4 : decode cX7_turned 4 = .ok (.iload_n 1, 1) := by decide +kernel
theorem dX7_turned_5 : decode cX7_turned 5 = .ok (.iaload, 1) := by decide +kernel
theorem dX7_turned_6 : decode cX7_turned 6 = .ok (.iconst 5, 1) := by decide +kernel
theorem dX7_turned_7 : decode cX7_turned 7 = .ok (.if_icmp .ne 36, 3) := by decide +kernel
theorem dX7_turned_10 : decode cX7_turned 10 = .ok (.aload_n 0, 1) := by decide +kernel
theorem dX7_turned_11 : decode cX7_turned 11 = .ok (.getfield 22, 3) := by decide +kernel
theorem dX7_turned_14 : decode cX7_turned 14 = .ok (.aload_n 0, 1) := by decide +kernel
theorem dX7_turned_15 : decode cX7_turned 15 = .ok (.getfield 13, 3) := by decide +kernel
theorem dX7_turned_18 : decode cX7_turned 18 = .ok (.iload_n 1, 1) := by decide +kernel
theorem dX7_turned_19 : decode cX7_turned 19 = .ok (.iaload, 1) := by decide +kernel
theorem dX7_turned_20 : decode cX7_turned 20 = .ok (.iaload, 1) := by decide +kernel
theorem dX7_turned_21 : decode cX7_turned 21 = .ok (.aload_n 0, 1) := by decide +kernel
theorem dX7_turned_22 : decode cX7_turned 22 = .ok (.getfield 22, 3) := by decide +kernel
theorem dX7_turned_25 : decode cX7_turned 25 = .ok (.aload_n 0, 1) := by decide +kernel
theorem dX7_turned_26 : decode cX7_turned 26 = .ok (.getfield 16, 3) := by decide +kernel
theorem dX7_turned_29 : decode cX7_turned 29 = .ok (.iload_n 1, 1) := by decide +kernel
theorem dX7_turned_30 : decode cX7_turned 30 = .ok (.iaload, 1) := by decide +kernel
theorem dX7_turned_31 : decode cX7_turned 31 = .ok (.iaload, 1) := by decide +kernel
theorem dX7_turned_32 : decode cX7_turned 32 = .ok (.if_icmp .ge 7, 3) := by decide +kernel
theorem dX7_turned_35 : decode cX7_turned 35 = .ok (.iconst 1, 1) := by decide +kernel
theorem dX7_turned_36 : decode cX7_turned 36 = .ok (.goto 48, 3) := by decide +kernel
theorem dX7_turned_39 : decode cX7_turned 39 = .ok (.iconst 0, 1) := by decide +kernel
theorem dX7_turned_40 : decode cX7_turned 40 = .ok (.goto 44, 3) := by decide +kernel
theorem dX7_turned_43 : decode cX7_turned 43 = .ok (.aload_n 0, 1) := by decide +kernel
theorem dX7_turned_44 : decode cX7_turned 44 = .ok (.getfield 7, 3) := by decide +kernel
theorem dX7_turned_47 : decode cX7_turned 47 = .ok (.iload_n 1, 1) := by decide +kernel
theorem dX7_turned_48 : decode cX7_turned 48 = .ok (.iaload, 1) := by decide +kernel
theorem dX7_turned_49 : decode cX7_turned 49 = .ok (.bipush 6, 2) := by decide +kernel
theorem dX7_turned_51 : decode cX7_turned 51 = .ok (.if_icmp .ne 28, 3) := by decide +kernel
theorem dX7_turned_54 : decode cX7_turned 54 = .ok (.aload_n 0, 1) := by decide +kernel
theorem dX7_turned_55 : decode cX7_turned 55 = .ok (.getfield 22, 3) := by decide +kernel
theorem dX7_turned_58 : decode cX7_turned 58 = .ok (.aload_n 0, 1) := by decide +kernel
theorem dX7_turned_59 : decode cX7_turned 59 = .ok (.getfield 13, 3) := by decide +kernel
theorem dX7_turned_62 : decode cX7_turned 62 = .ok (.iload_n 1, 1) := by decide +kernel
theorem dX7_turned_63 : decode cX7_turned 63 = .ok (.iaload, 1) := by decide +kernel
theorem dX7_turned_64 : decode cX7_turned 64 = .ok (.iaload, 1) := by decide +kernel
theorem dX7_turned_65 : decode cX7_turned 65 = .ok (.aload_n 0, 1) := by decide +kernel
theorem dX7_turned_66 : decode cX7_turned 66 = .ok (.getfield 22, 3) := by decide +kernel
theorem dX7_turned_69 : decode cX7_turned 69 = .ok (.aload_n 0, 1) := by decide +kernel
theorem dX7_turned_70 : decode cX7_turned 70 = .ok (.getfield 16, 3) := by decide +kernel
theorem dX7_turned_73 : decode cX7_turned 73 = .ok (.iload_n 1, 1) := by decide +kernel
theorem dX7_turned_74 : decode cX7_turned 74 = .ok (.iaload, 1) := by decide +kernel
theorem dX7_turned_75 : decode cX7_turned 75 = .ok (.iaload, 1) := by decide +kernel
theorem dX7_turned_76 : decode cX7_turned 76 = .ok (.if_icmp .ne 7, 3) := by decide +kernel
theorem dX7_turned_79 : decode cX7_turned 79 = .ok (.iconst 1, 1) := by decide +kernel
theorem dX7_turned_80 : decode cX7_turned 80 = .ok (.goto 4, 3) := by decide +kernel
theorem dX7_turned_83 : decode cX7_turned 83 = .ok (.iconst 0, 1) := by decide +kernel
theorem dX7_turned_84 : decode cX7_turned 84 = .ok (.ireturn, 1) := by decide +kernel
set_option maxRecDepth 20000 in
theorem ggX7_learn_X7_mixedAt : GoodIn wsX7_learn wsX7_mixedAt := goodIn_r _ [8] (by decide +kernel) (by decide +kernel)
set_option maxRecDepth 20000 in
theorem gX7_learn_X7_mixedAt : GoodIn wsX7_learn (wsV RX7 126 RX7 yX7_mixedAt wsX7_mixedAt) := goodIn_app (goodIn_of _ (by decide +kernel)) ggX7_learn_X7_mixedAt
set_option maxRecDepth 20000 in
theorem ggX7_learn_X7_more : GoodIn wsX7_learn wsX7_more := goodIn_r _ [11] (by decide +kernel) (by decide +kernel)
set_option maxRecDepth 20000 in
theorem gX7_learn_X7_more : GoodIn wsX7_learn (va_wsS RX7 147 yX7_more wsX7_more) := goodIn_app (goodIn_of _ (by decide +kernel)) ggX7_learn_X7_more
theorem dX7_learn_0 : decode cX7_learn 0 = .ok (.iload_n 1, 1) := by decide +kernel
theorem dX7_learn_1 : decode cX7_learn 1 = .ok (.bipush 16, 2) := by decide +kernel
theorem dX7_learn_3 : decode cX7_learn 3 = .ok (.irem, 1) := by decide +kernel
theorem dX7_learn_4 : decode cX7_learn 4 = .ok (.istore 4, 2) := by decide +kernel
theorem dX7_learn_6 : decode cX7_learn 6 = .ok (.aload_n 0, 1) := by decide +kernel
theorem dX7_learn_7 : decode cX7_learn 7 = .ok (.iload_n 1, 1) := by decide +kernel
theorem dX7_learn_8 : decode cX7_learn 8 = .ok (.iload_n 3, 1) := by decide +kernel
theorem dX7_learn_9 : decode cX7_learn 9 = .ok (.invokevirtual 126, 3) := by decide +kernel
theorem dX7_learn_12 : decode cX7_learn 12 = .ok (.istore 5, 2) := by decide +kernel
theorem dX7_learn_14 : decode cX7_learn 14 = .ok (.aload_n 0, 1) := by decide +kernel
theorem dX7_learn_15 : decode cX7_learn 15 = .ok (.getfield 35, 3) := by decide +kernel
theorem dX7_learn_18 : decode cX7_learn 18 = .ok (.iload 4, 2) := by decide +kernel
theorem dX7_learn_20 : decode cX7_learn 20 = .ok (.iaload, 1) := by decide +kernel
theorem dX7_learn_21 : decode cX7_learn 21 = .ok (.iconst 1, 1) := by decide +kernel
theorem dX7_learn_22 : decode cX7_learn 22 = .ok (.if_icmp .le 7, 3) := by decide +kernel
theorem dX7_learn_25 : decode cX7_learn 25 = .ok (.iconst 1, 1) := by decide +kernel
theorem dX7_learn_26 : decode cX7_learn 26 = .ok (.goto 4, 3) := by decide +kernel
theorem dX7_learn_29 : decode cX7_learn 29 = .ok (.iconst 0, 1) := by decide +kernel
theorem dX7_learn_30 : decode cX7_learn 30 = .ok (.istore 6, 2) := by decide +kernel
theorem dX7_learn_32 : decode cX7_learn 32 = .ok (.aload_n 0, 1) := by decide +kernel
theorem dX7_learn_33 : decode cX7_learn 33 = .ok (.getfield 38, 3) := by decide +kernel
theorem dX7_learn_36 : decode cX7_learn 36 = .ok (.iload 5, 2) := by decide +kernel
theorem dX7_learn_38 : decode cX7_learn 38 = .ok (.iaload, 1) := by decide +kernel
theorem dX7_learn_39 : decode cX7_learn 39 = .ok (.iconst 1, 1) := by decide +kernel
theorem dX7_learn_40 : decode cX7_learn 40 = .ok (.if_icmp .le 7, 3) := by decide +kernel
theorem dX7_learn_43 : decode cX7_learn 43 = .ok (.iconst 1, 1) := by decide +kernel
theorem dX7_learn_44 : decode cX7_learn 44 = .ok (.goto 4, 3) := by decide +kernel
theorem dX7_learn_47 : decode cX7_learn 47 = .ok (.iconst 0, 1) := by decide +kernel
theorem dX7_learn_48 : decode cX7_learn 48 = .ok (.istore 7, 2) := by decide +kernel
theorem dX7_learn_50 : decode cX7_learn 50 = .ok (.aload_n 0, 1) := by decide +kernel
theorem dX7_learn_51 : decode cX7_learn 51 = .ok (.getfield 35, 3) := by decide +kernel
theorem dX7_learn_54 : decode cX7_learn 54 = .ok (.iload 4, 2) := by decide +kernel
theorem dX7_learn_56 : decode cX7_learn 56 = .ok (.aload_n 0, 1) := by decide +kernel
theorem dX7_learn_57 : decode cX7_learn 57 = .ok (.getfield 35, 3) := by decide +kernel
theorem dX7_learn_60 : decode cX7_learn 60 = .ok (.iload 4, 2) := by decide +kernel
theorem dX7_learn_62 : decode cX7_learn 62 = .ok (.iaload, 1) := by decide +kernel
theorem dX7_learn_63 : decode cX7_learn 63 = .ok (.iload_n 2, 1) := by decide +kernel
theorem dX7_learn_64 : decode cX7_learn 64 = .ok (.invokestatic 147, 3) := by decide +kernel
theorem dX7_learn_67 : decode cX7_learn 67 = .ok (.iastore, 1) := by decide +kernel
theorem dX7_learn_68 : decode cX7_learn 68 = .ok (.aload_n 0, 1) := by decide +kernel
theorem dX7_learn_69 : decode cX7_learn 69 = .ok (.getfield 38, 3) := by decide +kernel
theorem dX7_learn_72 : decode cX7_learn 72 = .ok (.iload 5, 2) := by decide +kernel
theorem dX7_learn_74 : decode cX7_learn 74 = .ok (.aload_n 0, 1) := by decide +kernel
theorem dX7_learn_75 : decode cX7_learn 75 = .ok (.getfield 38, 3) := by decide +kernel
theorem dX7_learn_78 : decode cX7_learn 78 = .ok (.iload 5, 2) := by decide +kernel
theorem dX7_learn_80 : decode cX7_learn 80 = .ok (.iaload, 1) := by decide +kernel
theorem dX7_learn_81 : decode cX7_learn 81 = .ok (.iload_n 2, 1) := by decide +kernel
theorem dX7_learn_82 : decode cX7_learn 82 = .ok (.invokestatic 147, 3) := by decide +kernel
theorem dX7_learn_85 : decode cX7_learn 85 = .ok (.iastore, 1) := by decide +kernel
theorem dX7_learn_86 : decode cX7_learn 86 = .ok (.iload 6, 2) := by decide +kernel
theorem dX7_learn_88 : decode cX7_learn 88 = .ok (.iload 7, 2) := by decide +kernel
theorem dX7_learn_90 : decode cX7_learn 90 = .ok (.if_icmp .eq 31, 3) := by decide +kernel
theorem dX7_learn_93 : decode cX7_learn 93 = .ok (.aload_n 0, 1) := by decide +kernel
theorem dX7_learn_94 : decode cX7_learn 94 = .ok (.getfield 41, 3) := by decide +kernel
theorem dX7_learn_97 : decode cX7_learn 97 = .ok (.iload 4, 2) := by decide +kernel
theorem dX7_learn_99 : decode cX7_learn 99 = .ok (.aload_n 0, 1) := by decide +kernel
theorem dX7_learn_100 : decode cX7_learn 100 = .ok (.getfield 41, 3) := by decide +kernel
theorem dX7_learn_103 : decode cX7_learn 103 = .ok (.iload 4, 2) := by decide +kernel
theorem dX7_learn_105 : decode cX7_learn 105 = .ok (.iaload, 1) := by decide +kernel
theorem dX7_learn_106 : decode cX7_learn 106 = .ok (.iload 7, 2) := by decide +kernel
theorem dX7_learn_108 : decode cX7_learn 108 = .ok (.iload_n 2, 1) := by decide +kernel
theorem dX7_learn_109 : decode cX7_learn 109 = .ok (.if_icmp .ne 7, 3) := by decide +kernel
theorem dX7_learn_112 : decode cX7_learn 112 = .ok (.iconst 1, 1) := by decide +kernel
theorem dX7_learn_113 : decode cX7_learn 113 = .ok (.goto 4, 3) := by decide +kernel
theorem dX7_learn_116 : decode cX7_learn 116 = .ok (.iconst 0, 1) := by decide +kernel
theorem dX7_learn_117 : decode cX7_learn 117 = .ok (.invokestatic 147, 3) := by decide +kernel
theorem dX7_learn_120 : decode cX7_learn 120 = .ok (.iastore, 1) := by decide +kernel
theorem dX7_learn_121 : decode cX7_learn 121 = .ok (.return_, 1) := by decide +kernel
set_option maxRecDepth 20000 in
theorem ggX7_finishFirst_X7_in : GoodIn wsX7_finishFirst wsX7_in := goodIn_r _ [21] (by decide +kernel) (by decide +kernel)
set_option maxRecDepth 20000 in
theorem gX7_finishFirst_X7_in : GoodIn wsX7_finishFirst (va_wsS RX7 92 yX7_in wsX7_in) := goodIn_app (goodIn_of _ (by decide +kernel)) ggX7_finishFirst_X7_in
set_option maxRecDepth 20000 in
theorem ggX7_finishFirst_X7_turned : GoodIn wsX7_finishFirst wsX7_turned := goodIn_r _ [25, 2, 26, 27, 28, 72, 73, 74, 75, 76, 77, 78, 79, 80, 81, 82, 83, 84, 85, 86, 87, 88, 89, 90, 91, 92, 93, 94, 95, 96, 97, 98, 99, 100, 101, 102, 103, 104, 105] (by decide +kernel) (by decide +kernel)
set_option maxRecDepth 20000 in
theorem gX7_finishFirst_X7_turned : GoodIn wsX7_finishFirst (wsV RX7 151 RX7 yX7_turned wsX7_turned) := goodIn_app (goodIn_of _ (by decide +kernel)) ggX7_finishFirst_X7_turned
set_option maxRecDepth 20000 in
theorem ggX7_finishFirst_X7_does : GoodIn wsX7_finishFirst wsX7_does := goodIn_r _ [32, 27, 28, 2, 26, 33, 34, 35, 36, 37, 38, 72, 73, 74, 75, 76, 77, 78, 79, 80, 81, 82, 83, 84, 85, 86, 87, 88, 89, 90, 91, 92, 93, 94, 95, 96, 97, 98, 99, 100, 101, 102, 103, 104, 105] (by decide +kernel) (by decide +kernel)
set_option maxRecDepth 20000 in
theorem gX7_finishFirst_X7_does : GoodIn wsX7_finishFirst (wsV RX7 154 RX7 yX7_does wsX7_does) := goodIn_app (goodIn_of _ (by decide +kernel)) ggX7_finishFirst_X7_does
set_option maxRecDepth 20000 in
theorem ggX7_finishFirst_X7_dropFirst : GoodIn wsX7_finishFirst wsX7_dropFirst := goodIn_r _ [42, 13, 1, 43, 3, 4, 5, 7, 72, 73, 74, 75, 76, 77, 78, 79, 80, 81, 82, 83, 84, 85, 86, 87, 88, 89, 90, 91, 92, 93, 94, 95, 96, 97, 98, 99, 100, 101, 102, 103, 104, 105] (by decide +kernel) (by decide +kernel)
set_option maxRecDepth 20000 in
theorem gX7_finishFirst_X7_dropFirst : GoodIn wsX7_finishFirst (wsV RX7 157 RX7 yX7_dropFirst wsX7_dropFirst) := goodIn_app (goodIn_of _ (by decide +kernel)) ggX7_finishFirst_X7_dropFirst
set_option maxRecDepth 20000 in
theorem ggX7_finishFirst_X7_finish : GoodIn wsX7_finishFirst wsX7_finish := goodIn_r _ [47, 48, 49, 8, 13, 72, 73, 74, 75, 76, 77, 78, 79, 80, 81, 82, 83, 84, 85, 86, 87, 88, 89, 90, 91, 92, 93, 94, 95, 96, 97, 98, 99, 100, 101, 102, 103, 104, 105] (by decide +kernel) (by decide +kernel)
set_option maxRecDepth 20000 in
theorem gX7_finishFirst_X7_finish : GoodIn wsX7_finishFirst (wsV RX7 160 RX7 yX7_finish wsX7_finish) := goodIn_app (goodIn_of _ (by decide +kernel)) ggX7_finishFirst_X7_finish
set_option maxRecDepth 20000 in
theorem ggX7_finishFirst_X7_learn : GoodIn wsX7_finishFirst wsX7_learn := goodIn_r _ [53, 54, 55, 56, 57, 58, 59, 20, 60, 61, 62, 63, 72, 73, 74, 75, 76, 77, 78, 79, 80, 81, 82, 83, 84, 85, 86, 87, 88, 89, 90, 91, 92, 93, 94, 95, 96, 97, 98, 99, 100, 101, 102, 103, 104, 105] (by decide +kernel) (by decide +kernel)
set_option maxRecDepth 20000 in
theorem gX7_finishFirst_X7_learn : GoodIn wsX7_finishFirst (wsV RX7 163 RX7 yX7_learn wsX7_learn) := goodIn_app (goodIn_of _ (by decide +kernel)) ggX7_finishFirst_X7_learn
set_option maxRecDepth 20000 in
theorem ggX7_finishFirst_X7_bit : GoodIn wsX7_finishFirst wsX7_bit := goodIn_r _ [67, 15, 72, 73, 74, 75, 76, 77, 78, 79, 80, 81, 82, 83, 84, 85, 86, 87, 88, 89, 90, 91, 92, 93, 94, 95, 96, 97, 98, 99, 100, 101, 102, 103, 104, 105] (by decide +kernel) (by decide +kernel)
set_option maxRecDepth 20000 in
theorem gX7_finishFirst_X7_bit : GoodIn wsX7_finishFirst (wsV RX7 134 RX7 yX7_bit wsX7_bit) := goodIn_app (goodIn_of _ (by decide +kernel)) ggX7_finishFirst_X7_bit
set_option maxRecDepth 20000 in
theorem ggX7_finishFirst_X7_push : GoodIn wsX7_finishFirst wsX7_push := goodIn_r _ [71, 16, 17, 72, 73, 74, 75, 76, 77, 78, 79, 80, 81, 82, 83, 84, 85, 86, 87, 88, 89, 90, 91, 92, 93, 94, 95, 96, 97, 98, 99, 100, 101, 102, 103, 104, 105] (by decide +kernel) (by decide +kernel)
set_option maxRecDepth 20000 in
theorem gX7_finishFirst_X7_push : GoodIn wsX7_finishFirst (wsV RX7 138 RX7 yX7_push wsX7_push) := goodIn_app (goodIn_of _ (by decide +kernel)) ggX7_finishFirst_X7_push
theorem dX7_finishFirst_0 : decode cX7_finishFirst 0 = .ok (.aload_n 0, 1) := by decide +kernel
theorem dX7_finishFirst_1 : decode cX7_finishFirst 1 = .ok (.getfield 56, 3) := by decide +kernel
theorem dX7_finishFirst_4 : decode cX7_finishFirst 4 = .ok (.iconst 0, 1) := by decide +kernel
theorem dX7_finishFirst_5 : decode cX7_finishFirst 5 = .ok (.iaload, 1) := by decide +kernel
theorem dX7_finishFirst_6 : decode cX7_finishFirst 6 = .ok (.istore_n 1, 1) := by decide +kernel
theorem dX7_finishFirst_7 : decode cX7_finishFirst 7 = .ok (.aload_n 0, 1) := by decide +kernel
theorem dX7_finishFirst_8 : decode cX7_finishFirst 8 = .ok (.getfield 7, 3) := by decide +kernel
theorem dX7_finishFirst_11 : decode cX7_finishFirst 11 = .ok (.iload_n 1, 1) := by decide +kernel
theorem dX7_finishFirst_12 : decode cX7_finishFirst 12 = .ok (.iaload, 1) := by decide +kernel
theorem dX7_finishFirst_13 : decode cX7_finishFirst 13 = .ok (.istore_n 2, 1) := by decide +kernel
theorem dX7_finishFirst_14 : decode cX7_finishFirst 14 = .ok (.iload_n 2, 1) := by decide +kernel
theorem dX7_finishFirst_15 : decode cX7_finishFirst 15 = .ok (.iconst 5, 1) := by decide +kernel
theorem dX7_finishFirst_16 : decode cX7_finishFirst 16 = .ok (.if_icmp .eq 9, 3) := by decide +kernel
theorem dX7_finishFirst_19 : decode cX7_finishFirst 19 = .ok (.iload_n 2, 1) := by decide +kernel
theorem dX7_finishFirst_20 : decode cX7_finishFirst 20 = .ok (.bipush 6, 2) := by decide +kernel
theorem dX7_finishFirst_22 : decode cX7_finishFirst 22 = .ok (.if_icmp .ne 7, 3) := by decide +kernel
theorem dX7_finishFirst_25 : decode cX7_finishFirst 25 = .ok (.iconst 1, 1) := by decide +kernel
theorem dX7_finishFirst_26 : decode cX7_finishFirst 26 = .ok (.goto 4, 3) := by decide +kernel
theorem dX7_finishFirst_29 : decode cX7_finishFirst 29 = .ok (.iconst 0, 1) := by decide +kernel
theorem dX7_finishFirst_30 : decode cX7_finishFirst 30 = .ok (.istore_n 3, 1) := by decide +kernel
theorem dX7_finishFirst_31 : decode cX7_finishFirst 31 = .ok (.iload_n 2, 1) := by decide +kernel
theorem dX7_finishFirst_32 : decode cX7_finishFirst 32 = .ok (.iconst 5, 1) := by decide +kernel
theorem dX7_finishFirst_33 : decode cX7_finishFirst 33 = .ok (.bipush 10, 2) := by decide +kernel
theorem dX7_finishFirst_35 : decode cX7_finishFirst 35 = .ok (.invokestatic 92, 3) := by decide +kernel
theorem dX7_finishFirst_38 : decode cX7_finishFirst 38 = .ok (.ifCond .eq 15, 3) := by decide +kernel
theorem dX7_finishFirst_41 : decode cX7_finishFirst 41 = .ok (.aload_n 0, 1) := by decide +kernel
theorem dX7_finishFirst_42 : decode cX7_finishFirst 42 = .ok (.iload_n 1, 1) := by decide +kernel
theorem dX7_finishFirst_43 : decode cX7_finishFirst 43 = .ok (.invokevirtual 151, 3) := by decide +kernel
theorem dX7_finishFirst_46 : decode cX7_finishFirst 46 = .ok (.ifCond .eq 7, 3) := by decide +kernel
theorem dX7_finishFirst_49 : decode cX7_finishFirst 49 = .ok (.iconst 1, 1) := by decide +kernel
theorem dX7_finishFirst_50 : decode cX7_finishFirst 50 = .ok (.goto 4, 3) := by decide +kernel
theorem dX7_finishFirst_53 : decode cX7_finishFirst 53 = .ok (.iconst 0, 1) := by decide +kernel
theorem dX7_finishFirst_54 : decode cX7_finishFirst 54 = .ok (.istore 4, 2) := by decide +kernel
theorem dX7_finishFirst_56 : decode cX7_finishFirst 56 = .ok (.aload_n 0, 1) := by decide +kernel
theorem dX7_finishFirst_57 : decode cX7_finishFirst 57 = .ok (.iload_n 1, 1) := by decide +kernel
theorem dX7_finishFirst_58 : decode cX7_finishFirst 58 = .ok (.invokevirtual 154, 3) := by decide +kernel
theorem dX7_finishFirst_61 : decode cX7_finishFirst 61 = .ok (.istore 5, 2) := by decide +kernel
theorem dX7_finishFirst_63 : decode cX7_finishFirst 63 = .ok (.aload_n 0, 1) := by decide +kernel
theorem dX7_finishFirst_64 : decode cX7_finishFirst 64 = .ok (.getfield 62, 3) := by decide +kernel
theorem dX7_finishFirst_67 : decode cX7_finishFirst 67 = .ok (.iconst 0, 1) := by decide +kernel
theorem dX7_finishFirst_68 : decode cX7_finishFirst 68 = .ok (.iaload, 1) := by decide +kernel
theorem dX7_finishFirst_69 : decode cX7_finishFirst 69 = .ok (.istore 6, 2) := by decide +kernel
theorem dX7_finishFirst_71 : decode cX7_finishFirst 71 = .ok (.aload_n 0, 1) := by decide +kernel
theorem dX7_finishFirst_72 : decode cX7_finishFirst 72 = .ok (.getfield 65, 3) := by decide +kernel
theorem dX7_finishFirst_75 : decode cX7_finishFirst 75 = .ok (.iconst 0, 1) := by decide +kernel
theorem dX7_finishFirst_76 : decode cX7_finishFirst 76 = .ok (.iaload, 1) := by decide +kernel
theorem dX7_finishFirst_77 : decode cX7_finishFirst 77 = .ok (.istore 7, 2) := by decide +kernel
theorem dX7_finishFirst_79 : decode cX7_finishFirst 79 = .ok (.aload_n 0, 1) := by decide +kernel
theorem dX7_finishFirst_80 : decode cX7_finishFirst 80 = .ok (.getfield 68, 3) := by decide +kernel
theorem dX7_finishFirst_83 : decode cX7_finishFirst 83 = .ok (.iconst 0, 1) := by decide +kernel
theorem dX7_finishFirst_84 : decode cX7_finishFirst 84 = .ok (.iaload, 1) := by decide +kernel
theorem dX7_finishFirst_85 : decode cX7_finishFirst 85 = .ok (.istore 8, 2) := by decide +kernel
theorem dX7_finishFirst_87 : decode cX7_finishFirst 87 = .ok (.iconst 0, 1) := by decide +kernel
theorem dX7_finishFirst_88 : decode cX7_finishFirst 88 = .ok (.istore 9, 2) := by decide +kernel
theorem dX7_finishFirst_90 : decode cX7_finishFirst 90 = .ok (.iload 9, 2) := by decide +kernel
theorem dX7_finishFirst_92 : decode cX7_finishFirst 92 = .ok (.iconst 4, 1) := by decide +kernel
theorem dX7_finishFirst_93 : decode cX7_finishFirst 93 = .ok (.if_icmp .ge 23, 3) := by decide +kernel
theorem dX7_finishFirst_96 : decode cX7_finishFirst 96 = .ok (.aload_n 0, 1) := by decide +kernel
theorem dX7_finishFirst_97 : decode cX7_finishFirst 97 = .ok (.getfield 83, 3) := by decide +kernel
theorem dX7_finishFirst_100 : decode cX7_finishFirst 100 = .ok (.iload 9, 2) := by decide +kernel
theorem dX7_finishFirst_102 : decode cX7_finishFirst 102 = .ok (.aload_n 0, 1) := by decide +kernel
theorem dX7_finishFirst_103 : decode cX7_finishFirst 103 = .ok (.getfield 71, 3) := by decide +kernel
theorem dX7_finishFirst_106 : decode cX7_finishFirst 106 = .ok (.iload 9, 2) := by decide +kernel
theorem dX7_finishFirst_108 : decode cX7_finishFirst 108 = .ok (.iaload, 1) := by decide +kernel
theorem dX7_finishFirst_109 : decode cX7_finishFirst 109 = .ok (.iastore, 1) := by decide +kernel
theorem dX7_finishFirst_110 : decode cX7_finishFirst 110 = .ok (.iinc 9 1, 3) := by decide +kernel
theorem dX7_finishFirst_113 : decode cX7_finishFirst 113 = .ok (.goto (-23), 3) := by decide +kernel
theorem dX7_finishFirst_116 : decode cX7_finishFirst 116 = .ok (.aload_n 0, 1) := by decide +kernel
theorem dX7_finishFirst_117 : decode cX7_finishFirst 117 = .ok (.invokevirtual 157, 3) := by decide +kernel
theorem dX7_finishFirst_120 : decode cX7_finishFirst 120 = .ok (.iload 5, 2) := by decide +kernel
theorem dX7_finishFirst_122 : decode cX7_finishFirst 122 = .ok (.iconst (-1), 1) := by decide +kernel
theorem dX7_finishFirst_123 : decode cX7_finishFirst 123 = .ok (.if_icmp .ne 9, 3) := by decide +kernel
theorem dX7_finishFirst_126 : decode cX7_finishFirst 126 = .ok (.aload_n 0, 1) := by decide +kernel
theorem dX7_finishFirst_127 : decode cX7_finishFirst 127 = .ok (.iconst 2, 1) := by decide +kernel
theorem dX7_finishFirst_128 : decode cX7_finishFirst 128 = .ok (.invokevirtual 160, 3) := by decide +kernel
theorem dX7_finishFirst_131 : decode cX7_finishFirst 131 = .ok (.return_, 1) := by decide +kernel
theorem dX7_finishFirst_132 : decode cX7_finishFirst 132 = .ok (.aload_n 0, 1) := by decide +kernel
theorem dX7_finishFirst_133 : decode cX7_finishFirst 133 = .ok (.getfield 77, 3) := by decide +kernel
theorem dX7_finishFirst_136 : decode cX7_finishFirst 136 = .ok (.iconst 1, 1) := by decide +kernel
theorem dX7_finishFirst_137 : decode cX7_finishFirst 137 = .ok (.iaload, 1) := by decide +kernel
theorem dX7_finishFirst_138 : decode cX7_finishFirst 138 = .ok (.sipush 300, 3) := by decide +kernel
theorem dX7_finishFirst_141 : decode cX7_finishFirst 141 = .ok (.if_icmp .ge 15, 3) := by decide +kernel
theorem dX7_finishFirst_144 : decode cX7_finishFirst 144 = .ok (.aload_n 0, 1) := by decide +kernel
theorem dX7_finishFirst_145 : decode cX7_finishFirst 145 = .ok (.getfield 80, 3) := by decide +kernel
theorem dX7_finishFirst_148 : decode cX7_finishFirst 148 = .ok (.aload_n 0, 1) := by decide +kernel
theorem dX7_finishFirst_149 : decode cX7_finishFirst 149 = .ok (.getfield 77, 3) := by decide +kernel
theorem dX7_finishFirst_152 : decode cX7_finishFirst 152 = .ok (.iconst 1, 1) := by decide +kernel
theorem dX7_finishFirst_153 : decode cX7_finishFirst 153 = .ok (.iaload, 1) := by decide +kernel
theorem dX7_finishFirst_154 : decode cX7_finishFirst 154 = .ok (.iload_n 1, 1) := by decide +kernel
theorem dX7_finishFirst_155 : decode cX7_finishFirst 155 = .ok (.iastore, 1) := by decide +kernel
theorem dX7_finishFirst_156 : decode cX7_finishFirst 156 = .ok (.aload_n 0, 1) := by decide +kernel
theorem dX7_finishFirst_157 : decode cX7_finishFirst 157 = .ok (.getfield 77, 3) := by decide +kernel
theorem dX7_finishFirst_160 : decode cX7_finishFirst 160 = .ok (.iconst 1, 1) := by decide +kernel
theorem dX7_finishFirst_161 : decode cX7_finishFirst 161 = .ok (.dup2, 1) := by decide +kernel
theorem dX7_finishFirst_162 : decode cX7_finishFirst 162 = .ok (.iaload, 1) := by decide +kernel
theorem dX7_finishFirst_163 : decode cX7_finishFirst 163 = .ok (.iconst 1, 1) := by decide +kernel
theorem dX7_finishFirst_164 : decode cX7_finishFirst 164 = .ok (.iadd, 1) := by decide +kernel
theorem dX7_finishFirst_165 : decode cX7_finishFirst 165 = .ok (.iastore, 1) := by decide +kernel
theorem dX7_finishFirst_166 : decode cX7_finishFirst 166 = .ok (.aload_n 0, 1) := by decide +kernel
theorem dX7_finishFirst_167 : decode cX7_finishFirst 167 = .ok (.getfield 77, 3) := by decide +kernel
theorem dX7_finishFirst_170 : decode cX7_finishFirst 170 = .ok (.bipush 13, 2) := by decide +kernel
theorem dX7_finishFirst_172 : decode cX7_finishFirst 172 = .ok (.dup2, 1) := by decide +kernel
theorem dX7_finishFirst_173 : decode cX7_finishFirst 173 = .ok (.iaload, 1) := by decide +kernel
theorem dX7_finishFirst_174 : decode cX7_finishFirst 174 = .ok (.iconst 1, 1) := by decide +kernel
theorem dX7_finishFirst_175 : decode cX7_finishFirst 175 = .ok (.iadd, 1) := by decide +kernel
theorem dX7_finishFirst_176 : decode cX7_finishFirst 176 = .ok (.iastore, 1) := by decide +kernel
theorem dX7_finishFirst_177 : decode cX7_finishFirst 177 = .ok (.aload_n 0, 1) := by decide +kernel
theorem dX7_finishFirst_178 : decode cX7_finishFirst 178 = .ok (.getfield 77, 3) := by decide +kernel
theorem dX7_finishFirst_181 : decode cX7_finishFirst 181 = .ok (.iconst 4, 1) := by decide +kernel
theorem dX7_finishFirst_182 : decode cX7_finishFirst 182 = .ok (.dup2, 1) := by decide +kernel
theorem dX7_finishFirst_183 : decode cX7_finishFirst 183 = .ok (.iaload, 1) := by decide +kernel
theorem dX7_finishFirst_184 : decode cX7_finishFirst 184 = .ok (.iload_n 2, 1) := by decide +kernel
theorem dX7_finishFirst_185 : decode cX7_finishFirst 185 = .ok (.iconst 5, 1) := by decide +kernel
theorem dX7_finishFirst_186 : decode cX7_finishFirst 186 = .ok (.bipush 10, 2) := by decide +kernel
theorem dX7_finishFirst_188 : decode cX7_finishFirst 188 = .ok (.invokestatic 92, 3) := by decide +kernel
theorem dX7_finishFirst_191 : decode cX7_finishFirst 191 = .ok (.ifCond .eq 7, 3) := by decide +kernel
theorem dX7_finishFirst_194 : decode cX7_finishFirst 194 = .ok (.iconst 1, 1) := by decide +kernel
theorem dX7_finishFirst_195 : decode cX7_finishFirst 195 = .ok (.goto 4, 3) := by decide +kernel
theorem dX7_finishFirst_198 : decode cX7_finishFirst 198 = .ok (.iconst 0, 1) := by decide +kernel
theorem dX7_finishFirst_199 : decode cX7_finishFirst 199 = .ok (.iadd, 1) := by decide +kernel
theorem dX7_finishFirst_200 : decode cX7_finishFirst 200 = .ok (.iastore, 1) := by decide +kernel
theorem dX7_finishFirst_201 : decode cX7_finishFirst 201 = .ok (.aload_n 0, 1) := by decide +kernel
theorem dX7_finishFirst_202 : decode cX7_finishFirst 202 = .ok (.getfield 77, 3) := by decide +kernel
theorem dX7_finishFirst_205 : decode cX7_finishFirst 205 = .ok (.iconst 5, 1) := by decide +kernel
theorem dX7_finishFirst_206 : decode cX7_finishFirst 206 = .ok (.dup2, 1) := by decide +kernel
theorem dX7_finishFirst_207 : decode cX7_finishFirst 207 = .ok (.iaload, 1) := by decide +kernel
theorem dX7_finishFirst_208 : decode cX7_finishFirst 208 = .ok (.iload_n 3, 1) := by decide +kernel
theorem dX7_finishFirst_209 : decode cX7_finishFirst 209 = .ok (.ifCond .eq 7, 3) := by decide +kernel
theorem dX7_finishFirst_212 : decode cX7_finishFirst 212 = .ok (.iconst 1, 1) := by decide +kernel
theorem dX7_finishFirst_213 : decode cX7_finishFirst 213 = .ok (.goto 4, 3) := by decide +kernel
theorem dX7_finishFirst_216 : decode cX7_finishFirst 216 = .ok (.iconst 0, 1) := by decide +kernel
theorem dX7_finishFirst_217 : decode cX7_finishFirst 217 = .ok (.iadd, 1) := by decide +kernel
theorem dX7_finishFirst_218 : decode cX7_finishFirst 218 = .ok (.iastore, 1) := by decide +kernel
theorem dX7_finishFirst_219 : decode cX7_finishFirst 219 = .ok (.iload_n 2, 1) := by decide +kernel
theorem dX7_finishFirst_220 : decode cX7_finishFirst 220 = .ok (.bipush 11, 2) := by decide +kernel
theorem dX7_finishFirst_222 : decode cX7_finishFirst 222 = .ok (.if_icmp .ne 9, 3) := by decide +kernel
theorem dX7_finishFirst_225 : decode cX7_finishFirst 225 = .ok (.aload_n 0, 1) := by decide +kernel
theorem dX7_finishFirst_226 : decode cX7_finishFirst 226 = .ok (.iconst 1, 1) := by decide +kernel
theorem dX7_finishFirst_227 : decode cX7_finishFirst 227 = .ok (.invokevirtual 160, 3) := by decide +kernel
theorem dX7_finishFirst_230 : decode cX7_finishFirst 230 = .ok (.return_, 1) := by decide +kernel
theorem dX7_finishFirst_231 : decode cX7_finishFirst 231 = .ok (.iload_n 3, 1) := by decide +kernel
theorem dX7_finishFirst_232 : decode cX7_finishFirst 232 = .ok (.ifCond .eq 12, 3) := by decide +kernel
theorem dX7_finishFirst_235 : decode cX7_finishFirst 235 = .ok (.aload_n 0, 1) := by decide +kernel
theorem dX7_finishFirst_236 : decode cX7_finishFirst 236 = .ok (.iload_n 1, 1) := by decide +kernel
theorem dX7_finishFirst_237 : decode cX7_finishFirst 237 = .ok (.iload 4, 2) := by decide +kernel
theorem dX7_finishFirst_239 : decode cX7_finishFirst 239 = .ok (.iload 7, 2) := by decide +kernel
theorem dX7_finishFirst_241 : decode cX7_finishFirst 241 = .ok (.invokevirtual 163, 3) := by decide +kernel
theorem dX7_finishFirst_244 : decode cX7_finishFirst 244 = .ok (.iload 4, 2) := by decide +kernel
theorem dX7_finishFirst_246 : decode cX7_finishFirst 246 = .ok (.ifCond .eq 34, 3) := by decide +kernel
theorem dX7_finishFirst_249 : decode cX7_finishFirst 249 = .ok (.aload_n 0, 1) := by decide +kernel
theorem dX7_finishFirst_250 : decode cX7_finishFirst 250 = .ok (.getfield 44, 3) := by decide +kernel
theorem dX7_finishFirst_253 : decode cX7_finishFirst 253 = .ok (.iload_n 1, 1) := by decide +kernel
theorem dX7_finishFirst_254 : decode cX7_finishFirst 254 = .ok (.bipush 8, 2) := by decide +kernel
theorem dX7_finishFirst_256 : decode cX7_finishFirst 256 = .ok (.irem, 1) := by decide +kernel
theorem dX7_finishFirst_257 : decode cX7_finishFirst 257 = .ok (.iload_n 1, 1) := by decide +kernel
theorem dX7_finishFirst_258 : decode cX7_finishFirst 258 = .ok (.iastore, 1) := by decide +kernel
theorem dX7_finishFirst_259 : decode cX7_finishFirst 259 = .ok (.aload_n 0, 1) := by decide +kernel
theorem dX7_finishFirst_260 : decode cX7_finishFirst 260 = .ok (.getfield 47, 3) := by decide +kernel
theorem dX7_finishFirst_263 : decode cX7_finishFirst 263 = .ok (.iload_n 1, 1) := by decide +kernel
theorem dX7_finishFirst_264 : decode cX7_finishFirst 264 = .ok (.bipush 8, 2) := by decide +kernel
theorem dX7_finishFirst_266 : decode cX7_finishFirst 266 = .ok (.irem, 1) := by decide +kernel
theorem dX7_finishFirst_267 : decode cX7_finishFirst 267 = .ok (.iload_n 2, 1) := by decide +kernel
theorem dX7_finishFirst_268 : decode cX7_finishFirst 268 = .ok (.iastore, 1) := by decide +kernel
end
section
theorem dX7_finishFirst_269 : decode cX7_finishFirst 269 = .ok (.aload_n 0, 1) := by decide +kernel
theorem dX7_finishFirst_270 : decode cX7_finishFirst 270 = .ok (.getfield 50, 3) := by decide +kernel
theorem dX7_finishFirst_273 : decode cX7_finishFirst 273 = .ok (.iload_n 1, 1) := by decide +kernel
theorem dX7_finishFirst_274 : decode cX7_finishFirst 274 = .ok (.bipush 8, 2) := by decide +kernel
theorem dX7_finishFirst_276 : decode cX7_finishFirst 276 = .ok (.irem, 1) := by decide +kernel
theorem dX7_finishFirst_277 : decode cX7_finishFirst 277 = .ok (.iload 5, 2) := by decide +kernel
theorem dX7_finishFirst_279 : decode cX7_finishFirst 279 = .ok (.iastore, 1) := by decide +kernel
theorem dX7_finishFirst_280 : decode cX7_finishFirst 280 = .ok (.iload 5, 2) := by decide +kernel
theorem dX7_finishFirst_282 : decode cX7_finishFirst 282 = .ok (.iload 6, 2) := by decide +kernel
theorem dX7_finishFirst_284 : decode cX7_finishFirst 284 = .ok (.if_icmp .eq 181, 3) := by decide +kernel
theorem dX7_finishFirst_287 : decode cX7_finishFirst 287 = .ok (.aload_n 0, 1) := by decide +kernel
theorem dX7_finishFirst_288 : decode cX7_finishFirst 288 = .ok (.getfield 77, 3) := by decide +kernel
theorem dX7_finishFirst_291 : decode cX7_finishFirst 291 = .ok (.iconst 2, 1) := by decide +kernel
theorem dX7_finishFirst_292 : decode cX7_finishFirst 292 = .ok (.dup2, 1) := by decide +kernel
theorem dX7_finishFirst_293 : decode cX7_finishFirst 293 = .ok (.iaload, 1) := by decide +kernel
theorem dX7_finishFirst_294 : decode cX7_finishFirst 294 = .ok (.iconst 1, 1) := by decide +kernel
theorem dX7_finishFirst_295 : decode cX7_finishFirst 295 = .ok (.iadd, 1) := by decide +kernel
theorem dX7_finishFirst_296 : decode cX7_finishFirst 296 = .ok (.iastore, 1) := by decide +kernel
theorem dX7_finishFirst_297 : decode cX7_finishFirst 297 = .ok (.aload_n 0, 1) := by decide +kernel
theorem dX7_finishFirst_298 : decode cX7_finishFirst 298 = .ok (.getfield 77, 3) := by decide +kernel
theorem dX7_finishFirst_301 : decode cX7_finishFirst 301 = .ok (.bipush 14, 2) := by decide +kernel
theorem dX7_finishFirst_303 : decode cX7_finishFirst 303 = .ok (.dup2, 1) := by decide +kernel
theorem dX7_finishFirst_304 : decode cX7_finishFirst 304 = .ok (.iaload, 1) := by decide +kernel
theorem dX7_finishFirst_305 : decode cX7_finishFirst 305 = .ok (.iconst 1, 1) := by decide +kernel
theorem dX7_finishFirst_306 : decode cX7_finishFirst 306 = .ok (.iadd, 1) := by decide +kernel
theorem dX7_finishFirst_307 : decode cX7_finishFirst 307 = .ok (.iastore, 1) := by decide +kernel
theorem dX7_finishFirst_308 : decode cX7_finishFirst 308 = .ok (.aload_n 0, 1) := by decide +kernel
theorem dX7_finishFirst_309 : decode cX7_finishFirst 309 = .ok (.getfield 77, 3) := by decide +kernel
theorem dX7_finishFirst_312 : decode cX7_finishFirst 312 = .ok (.bipush 6, 2) := by decide +kernel
theorem dX7_finishFirst_314 : decode cX7_finishFirst 314 = .ok (.dup2, 1) := by decide +kernel
theorem dX7_finishFirst_315 : decode cX7_finishFirst 315 = .ok (.iaload, 1) := by decide +kernel
theorem dX7_finishFirst_316 : decode cX7_finishFirst 316 = .ok (.iload_n 3, 1) := by decide +kernel
theorem dX7_finishFirst_317 : decode cX7_finishFirst 317 = .ok (.ifCond .eq 7, 3) := by decide +kernel
theorem dX7_finishFirst_320 : decode cX7_finishFirst 320 = .ok (.iconst 1, 1) := by decide +kernel
theorem dX7_finishFirst_321 : decode cX7_finishFirst 321 = .ok (.goto 4, 3) := by decide +kernel
theorem dX7_finishFirst_324 : decode cX7_finishFirst 324 = .ok (.iconst 0, 1) := by decide +kernel
theorem dX7_finishFirst_325 : decode cX7_finishFirst 325 = .ok (.iadd, 1) := by decide +kernel
theorem dX7_finishFirst_326 : decode cX7_finishFirst 326 = .ok (.iastore, 1) := by decide +kernel
theorem dX7_finishFirst_327 : decode cX7_finishFirst 327 = .ok (.aload_n 0, 1) := by decide +kernel
theorem dX7_finishFirst_328 : decode cX7_finishFirst 328 = .ok (.getfield 77, 3) := by decide +kernel
theorem dX7_finishFirst_331 : decode cX7_finishFirst 331 = .ok (.bipush 7, 2) := by decide +kernel
theorem dX7_finishFirst_333 : decode cX7_finishFirst 333 = .ok (.dup2, 1) := by decide +kernel
theorem dX7_finishFirst_334 : decode cX7_finishFirst 334 = .ok (.iaload, 1) := by decide +kernel
theorem dX7_finishFirst_335 : decode cX7_finishFirst 335 = .ok (.iload_n 2, 1) := by decide +kernel
theorem dX7_finishFirst_336 : decode cX7_finishFirst 336 = .ok (.bipush 9, 2) := by decide +kernel
theorem dX7_finishFirst_338 : decode cX7_finishFirst 338 = .ok (.if_icmp .ne 7, 3) := by decide +kernel
theorem dX7_finishFirst_341 : decode cX7_finishFirst 341 = .ok (.iconst 1, 1) := by decide +kernel
theorem dX7_finishFirst_342 : decode cX7_finishFirst 342 = .ok (.goto 4, 3) := by decide +kernel
theorem dX7_finishFirst_345 : decode cX7_finishFirst 345 = .ok (.iconst 0, 1) := by decide +kernel
theorem dX7_finishFirst_346 : decode cX7_finishFirst 346 = .ok (.iadd, 1) := by decide +kernel
theorem dX7_finishFirst_347 : decode cX7_finishFirst 347 = .ok (.iastore, 1) := by decide +kernel
theorem dX7_finishFirst_348 : decode cX7_finishFirst 348 = .ok (.aload_n 0, 1) := by decide +kernel
theorem dX7_finishFirst_349 : decode cX7_finishFirst 349 = .ok (.getfield 77, 3) := by decide +kernel
theorem dX7_finishFirst_352 : decode cX7_finishFirst 352 = .ok (.iconst 3, 1) := by decide +kernel
theorem dX7_finishFirst_353 : decode cX7_finishFirst 353 = .ok (.dup2, 1) := by decide +kernel
theorem dX7_finishFirst_354 : decode cX7_finishFirst 354 = .ok (.iaload, 1) := by decide +kernel
theorem dX7_finishFirst_355 : decode cX7_finishFirst 355 = .ok (.aload_n 0, 1) := by decide +kernel
theorem dX7_finishFirst_356 : decode cX7_finishFirst 356 = .ok (.getfield 117, 3) := by decide +kernel
theorem dX7_finishFirst_359 : decode cX7_finishFirst 359 = .ok (.iadd, 1) := by decide +kernel
theorem dX7_finishFirst_360 : decode cX7_finishFirst 360 = .ok (.iastore, 1) := by decide +kernel
theorem dX7_finishFirst_361 : decode cX7_finishFirst 361 = .ok (.aload_n 0, 1) := by decide +kernel
theorem dX7_finishFirst_362 : decode cX7_finishFirst 362 = .ok (.iconst 0, 1) := by decide +kernel
theorem dX7_finishFirst_363 : decode cX7_finishFirst 363 = .ok (.putfield 117, 3) := by decide +kernel
theorem dX7_finishFirst_366 : decode cX7_finishFirst 366 = .ok (.aload_n 0, 1) := by decide +kernel
theorem dX7_finishFirst_367 : decode cX7_finishFirst 367 = .ok (.iload 5, 2) := by decide +kernel
theorem dX7_finishFirst_369 : decode cX7_finishFirst 369 = .ok (.putfield 123, 3) := by decide +kernel
theorem dX7_finishFirst_372 : decode cX7_finishFirst 372 = .ok (.aload_n 0, 1) := by decide +kernel
theorem dX7_finishFirst_373 : decode cX7_finishFirst 373 = .ok (.iload 7, 2) := by decide +kernel
theorem dX7_finishFirst_375 : decode cX7_finishFirst 375 = .ok (.putfield 89, 3) := by decide +kernel
theorem dX7_finishFirst_378 : decode cX7_finishFirst 378 = .ok (.aload_n 0, 1) := by decide +kernel
theorem dX7_finishFirst_379 : decode cX7_finishFirst 379 = .ok (.iload 8, 2) := by decide +kernel
theorem dX7_finishFirst_381 : decode cX7_finishFirst 381 = .ok (.putfield 120, 3) := by decide +kernel
theorem dX7_finishFirst_384 : decode cX7_finishFirst 384 = .ok (.iconst 0, 1) := by decide +kernel
theorem dX7_finishFirst_385 : decode cX7_finishFirst 385 = .ok (.istore 9, 2) := by decide +kernel
theorem dX7_finishFirst_387 : decode cX7_finishFirst 387 = .ok (.iload 9, 2) := by decide +kernel
theorem dX7_finishFirst_389 : decode cX7_finishFirst 389 = .ok (.iconst 4, 1) := by decide +kernel
theorem dX7_finishFirst_390 : decode cX7_finishFirst 390 = .ok (.if_icmp .ge 23, 3) := by decide +kernel
theorem dX7_finishFirst_393 : decode cX7_finishFirst 393 = .ok (.aload_n 0, 1) := by decide +kernel
theorem dX7_finishFirst_394 : decode cX7_finishFirst 394 = .ok (.getfield 53, 3) := by decide +kernel
theorem dX7_finishFirst_397 : decode cX7_finishFirst 397 = .ok (.iload 9, 2) := by decide +kernel
theorem dX7_finishFirst_399 : decode cX7_finishFirst 399 = .ok (.aload_n 0, 1) := by decide +kernel
theorem dX7_finishFirst_400 : decode cX7_finishFirst 400 = .ok (.getfield 83, 3) := by decide +kernel
theorem dX7_finishFirst_403 : decode cX7_finishFirst 403 = .ok (.iload 9, 2) := by decide +kernel
theorem dX7_finishFirst_405 : decode cX7_finishFirst 405 = .ok (.iaload, 1) := by decide +kernel
theorem dX7_finishFirst_406 : decode cX7_finishFirst 406 = .ok (.iastore, 1) := by decide +kernel
theorem dX7_finishFirst_407 : decode cX7_finishFirst 407 = .ok (.iinc 9 1, 3) := by decide +kernel
theorem dX7_finishFirst_410 : decode cX7_finishFirst 410 = .ok (.goto (-23), 3) := by decide +kernel
theorem dX7_finishFirst_413 : decode cX7_finishFirst 413 = .ok (.iload_n 3, 1) := by decide +kernel
theorem dX7_finishFirst_414 : decode cX7_finishFirst 414 = .ok (.ifCond .eq 12, 3) := by decide +kernel
theorem dX7_finishFirst_417 : decode cX7_finishFirst 417 = .ok (.aload_n 0, 1) := by decide +kernel
theorem dX7_finishFirst_418 : decode cX7_finishFirst 418 = .ok (.iload 4, 2) := by decide +kernel
theorem dX7_finishFirst_420 : decode cX7_finishFirst 420 = .ok (.invokevirtual 134, 3) := by decide +kernel
theorem dX7_finishFirst_423 : decode cX7_finishFirst 423 = .ok (.goto 42, 3) := by decide +kernel
theorem dX7_finishFirst_426 : decode cX7_finishFirst 426 = .ok (.iload_n 2, 1) := by decide +kernel
theorem dX7_finishFirst_427 : decode cX7_finishFirst 427 = .ok (.bipush 8, 2) := by decide +kernel
theorem dX7_finishFirst_429 : decode cX7_finishFirst 429 = .ok (.if_icmp .ne 13, 3) := by decide +kernel
theorem dX7_finishFirst_432 : decode cX7_finishFirst 432 = .ok (.aload_n 0, 1) := by decide +kernel
theorem dX7_finishFirst_433 : decode cX7_finishFirst 433 = .ok (.iload_n 1, 1) := by decide +kernel
theorem dX7_finishFirst_434 : decode cX7_finishFirst 434 = .ok (.iconst 1, 1) := by decide +kernel
theorem dX7_finishFirst_435 : decode cX7_finishFirst 435 = .ok (.iadd, 1) := by decide +kernel
theorem dX7_finishFirst_436 : decode cX7_finishFirst 436 = .ok (.invokevirtual 138, 3) := by decide +kernel
theorem dX7_finishFirst_439 : decode cX7_finishFirst 439 = .ok (.goto 26, 3) := by decide +kernel
theorem dX7_finishFirst_442 : decode cX7_finishFirst 442 = .ok (.iload_n 2, 1) := by decide +kernel
theorem dX7_finishFirst_443 : decode cX7_finishFirst 443 = .ok (.bipush 9, 2) := by decide +kernel
theorem dX7_finishFirst_445 : decode cX7_finishFirst 445 = .ok (.if_icmp .ne 20, 3) := by decide +kernel
theorem dX7_finishFirst_448 : decode cX7_finishFirst 448 = .ok (.aload_n 0, 1) := by decide +kernel
theorem dX7_finishFirst_449 : decode cX7_finishFirst 449 = .ok (.getfield 120, 3) := by decide +kernel
theorem dX7_finishFirst_452 : decode cX7_finishFirst 452 = .ok (.ifCond .le 13, 3) := by decide +kernel
theorem dX7_finishFirst_455 : decode cX7_finishFirst 455 = .ok (.aload_n 0, 1) := by decide +kernel
theorem dX7_finishFirst_456 : decode cX7_finishFirst 456 = .ok (.dup, 1) := by decide +kernel
theorem dX7_finishFirst_457 : decode cX7_finishFirst 457 = .ok (.getfield 120, 3) := by decide +kernel
theorem dX7_finishFirst_460 : decode cX7_finishFirst 460 = .ok (.iconst 1, 1) := by decide +kernel
theorem dX7_finishFirst_461 : decode cX7_finishFirst 461 = .ok (.isub, 1) := by decide +kernel
theorem dX7_finishFirst_462 : decode cX7_finishFirst 462 = .ok (.putfield 120, 3) := by decide +kernel
theorem dX7_finishFirst_465 : decode cX7_finishFirst 465 = .ok (.return_, 1) := by decide +kernel
set_option maxRecDepth 20000 in
theorem ggX7_cycle_X7_in : GoodIn wsX7_cycle wsX7_in := goodIn_r _ [11] (by decide +kernel) (by decide +kernel)
set_option maxRecDepth 20000 in
theorem gX7_cycle_X7_in : GoodIn wsX7_cycle (va_wsS RX7 92 yX7_in wsX7_in) := goodIn_app (goodIn_of _ (by decide +kernel)) ggX7_cycle_X7_in
set_option maxRecDepth 20000 in
theorem ggX7_cycle_X7_finish : GoodIn wsX7_cycle wsX7_finish := goodIn_r _ [15, 7, 16, 1, 2, 90, 91, 92, 93, 94, 95, 96, 97, 98, 99, 100, 101, 102, 103, 104, 105, 106, 107, 108, 109, 110, 111, 112, 113, 114, 115, 116, 117, 118, 119, 120, 121, 122, 123] (by decide +kernel) (by decide +kernel)
set_option maxRecDepth 20000 in
theorem gX7_cycle_X7_finish : GoodIn wsX7_cycle (wsV RX7 160 RX7 yX7_finish wsX7_finish) := goodIn_app (goodIn_of _ (by decide +kernel)) ggX7_cycle_X7_finish
set_option maxRecDepth 20000 in
theorem ggX7_cycle_X7_finishFirst : GoodIn wsX7_cycle wsX7_finishFirst := goodIn_r _ [20, 21, 22, 23, 24, 25, 26, 27, 1, 28, 29, 30, 31, 2, 3, 32, 33, 34, 8, 9, 10, 11, 35, 36, 37, 38, 39, 40, 41, 42, 43, 44, 45, 46, 47, 48, 49, 50, 4, 51, 52, 53, 54, 5, 12, 13, 14, 15, 7, 16, 55, 56, 57, 58, 59, 60, 61, 62, 63, 64, 65, 66, 67, 68, 69, 70, 71, 72, 73, 74, 75, 76, 90, 91, 92, 93, 94, 95, 96, 97, 98, 99, 100, 101, 102, 103, 104, 105, 106, 107, 108, 109, 110, 111, 112, 113, 114, 115, 116, 117, 118, 119, 120, 121, 122, 123] (by decide +kernel) (by decide +kernel)
set_option maxRecDepth 20000 in
theorem gX7_cycle_X7_finishFirst : GoodIn wsX7_cycle (wsV RX7 167 RX7 yX7_finishFirst wsX7_finishFirst) := goodIn_app (goodIn_of _ (by decide +kernel)) ggX7_cycle_X7_finishFirst
set_option maxRecDepth 20000 in
theorem ggX7_cycle_X7_fetch : GoodIn wsX7_cycle wsX7_fetch := goodIn_r _ [80, 3, 4, 21, 2, 5, 24, 32, 25, 33, 27, 34, 23, 8, 9, 10, 11, 81, 82, 83, 84, 29, 1, 30, 31, 85, 86, 87, 88, 89, 59, 60, 61, 62, 63, 64, 65, 69, 70, 71, 72, 73, 74, 75, 76, 90, 91, 92, 93, 94, 95, 96, 97, 98, 99, 100, 101, 102, 103, 104, 105, 106, 107, 108, 109, 110, 111, 112, 113, 114, 115, 116, 117, 118, 119, 120, 121, 122, 123] (by decide +kernel) (by decide +kernel)
set_option maxRecDepth 20000 in
theorem gX7_cycle_X7_fetch : GoodIn wsX7_cycle (wsV RX7 170 RX7 yX7_fetch wsX7_fetch) := goodIn_app (goodIn_of _ (by decide +kernel)) ggX7_cycle_X7_fetch
theorem dX7_cycle_0 : decode cX7_cycle 0 = .ok (.aload_n 0, 1) := by decide +kernel
theorem dX7_cycle_1 : decode cX7_cycle 1 = .ok (.getfield 77, 3) := by decide +kernel
theorem dX7_cycle_4 : decode cX7_cycle 4 = .ok (.iconst 0, 1) := by decide +kernel
theorem dX7_cycle_5 : decode cX7_cycle 5 = .ok (.dup2, 1) := by decide +kernel
theorem dX7_cycle_6 : decode cX7_cycle 6 = .ok (.iaload, 1) := by decide +kernel
theorem dX7_cycle_7 : decode cX7_cycle 7 = .ok (.iconst 1, 1) := by decide +kernel
theorem dX7_cycle_8 : decode cX7_cycle 8 = .ok (.iadd, 1) := by decide +kernel
theorem dX7_cycle_9 : decode cX7_cycle 9 = .ok (.iastore, 1) := by decide +kernel
theorem dX7_cycle_10 : decode cX7_cycle 10 = .ok (.aload_n 0, 1) := by decide +kernel
theorem dX7_cycle_11 : decode cX7_cycle 11 = .ok (.getfield 117, 3) := by decide +kernel
theorem dX7_cycle_14 : decode cX7_cycle 14 = .ok (.ifCond .ne 26, 3) := by decide +kernel
theorem dX7_cycle_17 : decode cX7_cycle 17 = .ok (.aload_n 0, 1) := by decide +kernel
theorem dX7_cycle_18 : decode cX7_cycle 18 = .ok (.getfield 123, 3) := by decide +kernel
theorem dX7_cycle_21 : decode cX7_cycle 21 = .ok (.iconst 0, 1) := by decide +kernel
theorem dX7_cycle_22 : decode cX7_cycle 22 = .ok (.aload_n 0, 1) := by decide +kernel
theorem dX7_cycle_23 : decode cX7_cycle 23 = .ok (.getfield 100, 3) := by decide +kernel
theorem dX7_cycle_26 : decode cX7_cycle 26 = .ok (.iconst 1, 1) := by decide +kernel
theorem dX7_cycle_27 : decode cX7_cycle 27 = .ok (.isub, 1) := by decide +kernel
theorem dX7_cycle_28 : decode cX7_cycle 28 = .ok (.invokestatic 92, 3) := by decide +kernel
theorem dX7_cycle_31 : decode cX7_cycle 31 = .ok (.ifCond .ne 9, 3) := by decide +kernel
theorem dX7_cycle_34 : decode cX7_cycle 34 = .ok (.aload_n 0, 1) := by decide +kernel
theorem dX7_cycle_35 : decode cX7_cycle 35 = .ok (.iconst 2, 1) := by decide +kernel
theorem dX7_cycle_36 : decode cX7_cycle 36 = .ok (.invokevirtual 160, 3) := by decide +kernel
theorem dX7_cycle_39 : decode cX7_cycle 39 = .ok (.return_, 1) := by decide +kernel
theorem dX7_cycle_40 : decode cX7_cycle 40 = .ok (.aload_n 0, 1) := by decide +kernel
theorem dX7_cycle_41 : decode cX7_cycle 41 = .ok (.getfield 117, 3) := by decide +kernel
theorem dX7_cycle_44 : decode cX7_cycle 44 = .ok (.ifCond .le 27, 3) := by decide +kernel
theorem dX7_cycle_47 : decode cX7_cycle 47 = .ok (.aload_n 0, 1) := by decide +kernel
theorem dX7_cycle_48 : decode cX7_cycle 48 = .ok (.getfield 59, 3) := by decide +kernel
theorem dX7_cycle_51 : decode cX7_cycle 51 = .ok (.iconst 0, 1) := by decide +kernel
theorem dX7_cycle_52 : decode cX7_cycle 52 = .ok (.iaload, 1) := by decide +kernel
theorem dX7_cycle_53 : decode cX7_cycle 53 = .ok (.aload_n 0, 1) := by decide +kernel
theorem dX7_cycle_54 : decode cX7_cycle 54 = .ok (.getfield 31, 3) := by decide +kernel
theorem dX7_cycle_57 : decode cX7_cycle 57 = .ok (.iadd, 1) := by decide +kernel
theorem dX7_cycle_58 : decode cX7_cycle 58 = .ok (.aload_n 0, 1) := by decide +kernel
theorem dX7_cycle_59 : decode cX7_cycle 59 = .ok (.getfield 77, 3) := by decide +kernel
theorem dX7_cycle_62 : decode cX7_cycle 62 = .ok (.iconst 0, 1) := by decide +kernel
theorem dX7_cycle_63 : decode cX7_cycle 63 = .ok (.iaload, 1) := by decide +kernel
theorem dX7_cycle_64 : decode cX7_cycle 64 = .ok (.if_icmp .ne 7, 3) := by decide +kernel
theorem dX7_cycle_67 : decode cX7_cycle 67 = .ok (.aload_n 0, 1) := by decide +kernel
theorem dX7_cycle_68 : decode cX7_cycle 68 = .ok (.invokevirtual 167, 3) := by decide +kernel
theorem dX7_cycle_71 : decode cX7_cycle 71 = .ok (.aload_n 0, 1) := by decide +kernel
theorem dX7_cycle_72 : decode cX7_cycle 72 = .ok (.getfield 96, 3) := by decide +kernel
theorem dX7_cycle_75 : decode cX7_cycle 75 = .ok (.ifCond .eq 13, 3) := by decide +kernel
theorem dX7_cycle_78 : decode cX7_cycle 78 = .ok (.aload_n 0, 1) := by decide +kernel
theorem dX7_cycle_79 : decode cX7_cycle 79 = .ok (.aload_n 0, 1) := by decide +kernel
theorem dX7_cycle_80 : decode cX7_cycle 80 = .ok (.getfield 77, 3) := by decide +kernel
theorem dX7_cycle_83 : decode cX7_cycle 83 = .ok (.iconst 0, 1) := by decide +kernel
theorem dX7_cycle_84 : decode cX7_cycle 84 = .ok (.iaload, 1) := by decide +kernel
theorem dX7_cycle_85 : decode cX7_cycle 85 = .ok (.invokevirtual 170, 3) := by decide +kernel
theorem dX7_cycle_88 : decode cX7_cycle 88 = .ok (.return_, 1) := by decide +kernel
set_option maxRecDepth 20000 in
theorem ggX7_run_X7_in : GoodIn wsX7_run wsX7_in := goodIn_r _ [6] (by decide +kernel) (by decide +kernel)
set_option maxRecDepth 20000 in
theorem gX7_run_X7_in : GoodIn wsX7_run (va_wsS RX7 92 yX7_in wsX7_in) := goodIn_app (goodIn_of _ (by decide +kernel)) ggX7_run_X7_in
set_option maxRecDepth 20000 in
theorem ggX7_run_X7_cycle : GoodIn wsX7_run wsX7_cycle := goodIn_r _ [10, 2, 11, 12, 13, 14, 15, 1, 3, 4, 5, 6, 16, 17, 18, 19, 20, 21, 22, 23, 24, 25, 26, 27, 28, 29, 30, 31, 32, 33, 34, 35, 36, 37, 38, 39, 40, 41, 42, 43, 44, 45, 46, 47, 48, 49, 50, 51, 52, 53, 54, 55, 56, 57, 58, 59, 60, 61, 62, 63, 64, 65, 66, 67, 68, 69, 70, 71, 72, 73, 74, 75, 76, 77, 78, 79, 80, 81, 82, 83, 84, 85, 86, 87, 88, 89, 90, 91, 92, 93, 94, 95, 96, 97, 98, 99, 100, 101, 102, 103, 104, 105, 106, 107, 108, 109, 110, 111, 112, 113, 114, 115, 116, 117, 118, 119, 120, 121, 122, 123, 124, 125, 126, 127] (by decide +kernel) (by decide +kernel)
set_option maxRecDepth 20000 in
theorem gX7_run_X7_cycle : GoodIn wsX7_run (wsV RX7 173 RX7 yX7_cycle wsX7_cycle) := goodIn_app (goodIn_of _ (by decide +kernel)) ggX7_run_X7_cycle
theorem dX7_run_0 : decode cX7_run 0 = .ok (.iload_n 1, 1) := by decide +kernel
theorem dX7_run_1 : decode cX7_run 1 = .ok (.iconst 1, 1) := by decide +kernel
theorem dX7_run_2 : decode cX7_run 2 = .ok (.sipush 5000, 3) := by decide +kernel
theorem dX7_run_5 : decode cX7_run 5 = .ok (.invokestatic 92, 3) := by decide +kernel
theorem dX7_run_8 : decode cX7_run 8 = .ok (.ifCond .ne 6, 3) := by decide +kernel
theorem dX7_run_11 : decode cX7_run 11 = .ok (.bipush (-102), 2) := by decide +kernel
theorem dX7_run_13 : decode cX7_run 13 = .ok (.ireturn, 1) := by decide +kernel
theorem dX7_run_14 : decode cX7_run 14 = .ok (.aload_n 0, 1) := by decide +kernel
theorem dX7_run_15 : decode cX7_run 15 = .ok (.getfield 96, 3) := by decide +kernel
theorem dX7_run_18 : decode cX7_run 18 = .ok (.ifCond .ne 6, 3) := by decide +kernel
theorem dX7_run_21 : decode cX7_run 21 = .ok (.bipush (-103), 2) := by decide +kernel
theorem dX7_run_23 : decode cX7_run 23 = .ok (.ireturn, 1) := by decide +kernel
theorem dX7_run_24 : decode cX7_run 24 = .ok (.aload_n 0, 1) := by decide +kernel
theorem dX7_run_25 : decode cX7_run 25 = .ok (.getfield 77, 3) := by decide +kernel
theorem dX7_run_28 : decode cX7_run 28 = .ok (.iconst 1, 1) := by decide +kernel
theorem dX7_run_29 : decode cX7_run 29 = .ok (.iaload, 1) := by decide +kernel
theorem dX7_run_30 : decode cX7_run 30 = .ok (.istore_n 2, 1) := by decide +kernel
theorem dX7_run_31 : decode cX7_run 31 = .ok (.iconst 0, 1) := by decide +kernel
theorem dX7_run_32 : decode cX7_run 32 = .ok (.istore_n 3, 1) := by decide +kernel
theorem dX7_run_33 : decode cX7_run 33 = .ok (.iload_n 3, 1) := by decide +kernel
theorem dX7_run_34 : decode cX7_run 34 = .ok (.iload_n 1, 1) := by decide +kernel
theorem dX7_run_35 : decode cX7_run 35 = .ok (.if_icmp .ge 20, 3) := by decide +kernel
theorem dX7_run_38 : decode cX7_run 38 = .ok (.aload_n 0, 1) := by decide +kernel
theorem dX7_run_39 : decode cX7_run 39 = .ok (.getfield 96, 3) := by decide +kernel
theorem dX7_run_42 : decode cX7_run 42 = .ok (.ifCond .eq 13, 3) := by decide +kernel
theorem dX7_run_45 : decode cX7_run 45 = .ok (.aload_n 0, 1) := by decide +kernel
theorem dX7_run_46 : decode cX7_run 46 = .ok (.invokevirtual 173, 3) := by decide +kernel
theorem dX7_run_49 : decode cX7_run 49 = .ok (.iinc 3 1, 3) := by decide +kernel
theorem dX7_run_52 : decode cX7_run 52 = .ok (.goto (-19), 3) := by decide +kernel
theorem dX7_run_55 : decode cX7_run 55 = .ok (.aload_n 0, 1) := by decide +kernel
theorem dX7_run_56 : decode cX7_run 56 = .ok (.getfield 77, 3) := by decide +kernel
theorem dX7_run_59 : decode cX7_run 59 = .ok (.iconst 1, 1) := by decide +kernel
theorem dX7_run_60 : decode cX7_run 60 = .ok (.iaload, 1) := by decide +kernel
theorem dX7_run_61 : decode cX7_run 61 = .ok (.iload_n 2, 1) := by decide +kernel
theorem dX7_run_62 : decode cX7_run 62 = .ok (.isub, 1) := by decide +kernel
theorem dX7_run_63 : decode cX7_run 63 = .ok (.ireturn, 1) := by decide +kernel
set_option maxRecDepth 20000 in
theorem ggX7_stop_X7_finish : GoodIn wsX7_stop wsX7_finish := goodIn_r _ [7, 1, 8, 2, 9, 10, 11, 12, 13, 14, 15, 16, 17, 18, 19, 20, 21, 22, 23, 24, 25, 26, 27, 28, 29, 30, 31, 32, 33, 34, 35, 36, 37, 38, 39, 40, 41, 42, 43] (by decide +kernel) (by decide +kernel)
set_option maxRecDepth 20000 in
theorem gX7_stop_X7_finish : GoodIn wsX7_stop (wsV RX7 160 RX7 yX7_finish wsX7_finish) := goodIn_app (goodIn_of _ (by decide +kernel)) ggX7_stop_X7_finish
theorem dX7_stop_0 : decode cX7_stop 0 = .ok (.aload_n 0, 1) := by decide +kernel
theorem dX7_stop_1 : decode cX7_stop 1 = .ok (.getfield 96, 3) := by decide +kernel
theorem dX7_stop_4 : decode cX7_stop 4 = .ok (.ifCond .ne 6, 3) := by decide +kernel
theorem dX7_stop_7 : decode cX7_stop 7 = .ok (.bipush (-103), 2) := by decide +kernel
theorem dX7_stop_9 : decode cX7_stop 9 = .ok (.ireturn, 1) := by decide +kernel
theorem dX7_stop_10 : decode cX7_stop 10 = .ok (.aload_n 0, 1) := by decide +kernel
theorem dX7_stop_11 : decode cX7_stop 11 = .ok (.iconst 3, 1) := by decide +kernel
theorem dX7_stop_12 : decode cX7_stop 12 = .ok (.invokevirtual 160, 3) := by decide +kernel
theorem dX7_stop_15 : decode cX7_stop 15 = .ok (.aload_n 0, 1) := by decide +kernel
theorem dX7_stop_16 : decode cX7_stop 16 = .ok (.getfield 77, 3) := by decide +kernel
theorem dX7_stop_19 : decode cX7_stop 19 = .ok (.iconst 1, 1) := by decide +kernel
theorem dX7_stop_20 : decode cX7_stop 20 = .ok (.iaload, 1) := by decide +kernel
theorem dX7_stop_21 : decode cX7_stop 21 = .ok (.ireturn, 1) := by decide +kernel
theorem dX7_ended_0 : decode cX7_ended 0 = .ok (.aload_n 0, 1) := by decide +kernel
theorem dX7_ended_1 : decode cX7_ended 1 = .ok (.getfield 74, 3) := by decide +kernel
theorem dX7_ended_4 : decode cX7_ended 4 = .ok (.ireturn, 1) := by decide +kernel
set_option maxRecDepth 20000 in
theorem ggX7_tableOf_X7_in : GoodIn wsX7_tableOf wsX7_in := goodIn_r _ [13] (by decide +kernel) (by decide +kernel)
set_option maxRecDepth 20000 in
theorem gX7_tableOf_X7_in : GoodIn wsX7_tableOf (va_wsS RX7 92 yX7_in wsX7_in) := goodIn_app (goodIn_of _ (by decide +kernel)) ggX7_tableOf_X7_in
theorem dX7_tableOf_0 : decode cX7_tableOf 0 = .ok (.iload_n 1, 1) := by decide +kernel
theorem dX7_tableOf_1 : decode cX7_tableOf 1 = .ok (.tableswitch 119 0 7 #[47, 54, 61, 68, 75, 82, 89, 94], 47) := by decide +kernel
theorem dX7_tableOf_48 : decode cX7_tableOf 48 = .ok (.aload_n 0, 1) := by decide +kernel
theorem dX7_tableOf_49 : decode cX7_tableOf 49 = .ok (.getfield 35, 3) := by decide +kernel
theorem dX7_tableOf_52 : decode cX7_tableOf 52 = .ok (.iload_n 2, 1) := by decide +kernel
theorem dX7_tableOf_53 : decode cX7_tableOf 53 = .ok (.iaload, 1) := by decide +kernel
theorem dX7_tableOf_54 : decode cX7_tableOf 54 = .ok (.ireturn, 1) := by decide +kernel
theorem dX7_tableOf_55 : decode cX7_tableOf 55 = .ok (.aload_n 0, 1) := by decide +kernel
theorem dX7_tableOf_56 : decode cX7_tableOf 56 = .ok (.getfield 38, 3) := by decide +kernel
theorem dX7_tableOf_59 : decode cX7_tableOf 59 = .ok (.iload_n 2, 1) := by decide +kernel
theorem dX7_tableOf_60 : decode cX7_tableOf 60 = .ok (.iaload, 1) := by decide +kernel
theorem dX7_tableOf_61 : decode cX7_tableOf 61 = .ok (.ireturn, 1) := by decide +kernel
theorem dX7_tableOf_62 : decode cX7_tableOf 62 = .ok (.aload_n 0, 1) := by decide +kernel
theorem dX7_tableOf_63 : decode cX7_tableOf 63 = .ok (.getfield 41, 3) := by decide +kernel
theorem dX7_tableOf_66 : decode cX7_tableOf 66 = .ok (.iload_n 2, 1) := by decide +kernel
theorem dX7_tableOf_67 : decode cX7_tableOf 67 = .ok (.iaload, 1) := by decide +kernel
theorem dX7_tableOf_68 : decode cX7_tableOf 68 = .ok (.ireturn, 1) := by decide +kernel
theorem dX7_tableOf_69 : decode cX7_tableOf 69 = .ok (.aload_n 0, 1) := by decide +kernel
theorem dX7_tableOf_70 : decode cX7_tableOf 70 = .ok (.getfield 44, 3) := by decide +kernel
theorem dX7_tableOf_73 : decode cX7_tableOf 73 = .ok (.iload_n 2, 1) := by decide +kernel
theorem dX7_tableOf_74 : decode cX7_tableOf 74 = .ok (.iaload, 1) := by decide +kernel
theorem dX7_tableOf_75 : decode cX7_tableOf 75 = .ok (.ireturn, 1) := by decide +kernel
theorem dX7_tableOf_76 : decode cX7_tableOf 76 = .ok (.aload_n 0, 1) := by decide +kernel
theorem dX7_tableOf_77 : decode cX7_tableOf 77 = .ok (.getfield 47, 3) := by decide +kernel
theorem dX7_tableOf_80 : decode cX7_tableOf 80 = .ok (.iload_n 2, 1) := by decide +kernel
theorem dX7_tableOf_81 : decode cX7_tableOf 81 = .ok (.iaload, 1) := by decide +kernel
theorem dX7_tableOf_82 : decode cX7_tableOf 82 = .ok (.ireturn, 1) := by decide +kernel
theorem dX7_tableOf_83 : decode cX7_tableOf 83 = .ok (.aload_n 0, 1) := by decide +kernel
theorem dX7_tableOf_84 : decode cX7_tableOf 84 = .ok (.getfield 50, 3) := by decide +kernel
theorem dX7_tableOf_87 : decode cX7_tableOf 87 = .ok (.iload_n 2, 1) := by decide +kernel
theorem dX7_tableOf_88 : decode cX7_tableOf 88 = .ok (.iaload, 1) := by decide +kernel
theorem dX7_tableOf_89 : decode cX7_tableOf 89 = .ok (.ireturn, 1) := by decide +kernel
theorem dX7_tableOf_90 : decode cX7_tableOf 90 = .ok (.aload_n 0, 1) := by decide +kernel
theorem dX7_tableOf_91 : decode cX7_tableOf 91 = .ok (.getfield 89, 3) := by decide +kernel
theorem dX7_tableOf_94 : decode cX7_tableOf 94 = .ok (.ireturn, 1) := by decide +kernel
theorem dX7_tableOf_95 : decode cX7_tableOf 95 = .ok (.iload_n 2, 1) := by decide +kernel
theorem dX7_tableOf_96 : decode cX7_tableOf 96 = .ok (.iconst 0, 1) := by decide +kernel
theorem dX7_tableOf_97 : decode cX7_tableOf 97 = .ok (.aload_n 0, 1) := by decide +kernel
theorem dX7_tableOf_98 : decode cX7_tableOf 98 = .ok (.getfield 120, 3) := by decide +kernel
theorem dX7_tableOf_101 : decode cX7_tableOf 101 = .ok (.iconst 1, 1) := by decide +kernel
theorem dX7_tableOf_102 : decode cX7_tableOf 102 = .ok (.isub, 1) := by decide +kernel
theorem dX7_tableOf_103 : decode cX7_tableOf 103 = .ok (.invokestatic 92, 3) := by decide +kernel
theorem dX7_tableOf_106 : decode cX7_tableOf 106 = .ok (.ifCond .eq 12, 3) := by decide +kernel
theorem dX7_tableOf_109 : decode cX7_tableOf 109 = .ok (.aload_n 0, 1) := by decide +kernel
theorem dX7_tableOf_110 : decode cX7_tableOf 110 = .ok (.getfield 53, 3) := by decide +kernel
theorem dX7_tableOf_113 : decode cX7_tableOf 113 = .ok (.iload_n 2, 1) := by decide +kernel
theorem dX7_tableOf_114 : decode cX7_tableOf 114 = .ok (.iaload, 1) := by decide +kernel
theorem dX7_tableOf_115 : decode cX7_tableOf 115 = .ok (.goto 4, 3) := by decide +kernel
theorem dX7_tableOf_118 : decode cX7_tableOf 118 = .ok (.iconst (-1), 1) := by decide +kernel
theorem dX7_tableOf_119 : decode cX7_tableOf 119 = .ok (.ireturn, 1) := by decide +kernel
theorem dX7_tableOf_120 : decode cX7_tableOf 120 = .ok (.aload_n 0, 1) := by decide +kernel
theorem dX7_tableOf_121 : decode cX7_tableOf 121 = .ok (.getfield 120, 3) := by decide +kernel
theorem dX7_tableOf_124 : decode cX7_tableOf 124 = .ok (.ireturn, 1) := by decide +kernel
set_option maxRecDepth 20000 in
theorem ggX7_isPlace_X7_in : GoodIn wsX7_isPlace wsX7_in := goodIn_r _ [4] (by decide +kernel) (by decide +kernel)
set_option maxRecDepth 20000 in
theorem gX7_isPlace_X7_in : GoodIn wsX7_isPlace (va_wsS RX7 92 yX7_in wsX7_in) := goodIn_app (goodIn_of _ (by decide +kernel)) ggX7_isPlace_X7_in
theorem dX7_isPlace_0 : decode cX7_isPlace 0 = .ok (.iload_n 1, 1) := by decide +kernel
theorem dX7_isPlace_1 : decode cX7_isPlace 1 = .ok (.iconst 3, 1) := by decide +kernel
theorem dX7_isPlace_2 : decode cX7_isPlace 2 = .ok (.if_icmp .ge 13, 3) := by decide +kernel
theorem dX7_isPlace_5 : decode cX7_isPlace 5 = .ok (.iload_n 2, 1) := by decide +kernel
theorem dX7_isPlace_6 : decode cX7_isPlace 6 = .ok (.iconst 0, 1) := by decide +kernel
theorem dX7_isPlace_7 : decode cX7_isPlace 7 = .ok (.bipush 15, 2) := by decide +kernel
theorem dX7_isPlace_9 : decode cX7_isPlace 9 = .ok (.invokestatic 92, 3) := by decide +kernel
theorem dX7_isPlace_12 : decode cX7_isPlace 12 = .ok (.goto 39, 3) := by decide +kernel
theorem dX7_isPlace_15 : decode cX7_isPlace 15 = .ok (.iload_n 1, 1) := by decide +kernel
theorem dX7_isPlace_16 : decode cX7_isPlace 16 = .ok (.bipush 6, 2) := by decide +kernel
theorem dX7_isPlace_18 : decode cX7_isPlace 18 = .ok (.if_icmp .ge 13, 3) := by decide +kernel
theorem dX7_isPlace_21 : decode cX7_isPlace 21 = .ok (.iload_n 2, 1) := by decide +kernel
theorem dX7_isPlace_22 : decode cX7_isPlace 22 = .ok (.iconst 0, 1) := by decide +kernel
theorem dX7_isPlace_23 : decode cX7_isPlace 23 = .ok (.bipush 7, 2) := by decide +kernel
theorem dX7_isPlace_25 : decode cX7_isPlace 25 = .ok (.invokestatic 92, 3) := by decide +kernel
theorem dX7_isPlace_28 : decode cX7_isPlace 28 = .ok (.goto 23, 3) := by decide +kernel
theorem dX7_isPlace_31 : decode cX7_isPlace 31 = .ok (.iload_n 1, 1) := by decide +kernel
theorem dX7_isPlace_32 : decode cX7_isPlace 32 = .ok (.bipush 7, 2) := by decide +kernel
theorem dX7_isPlace_34 : decode cX7_isPlace 34 = .ok (.if_icmp .ne 12, 3) := by decide +kernel
theorem dX7_isPlace_37 : decode cX7_isPlace 37 = .ok (.iload_n 2, 1) := by decide +kernel
theorem dX7_isPlace_38 : decode cX7_isPlace 38 = .ok (.iconst 0, 1) := by decide +kernel
theorem dX7_isPlace_39 : decode cX7_isPlace 39 = .ok (.iconst 3, 1) := by decide +kernel
theorem dX7_isPlace_40 : decode cX7_isPlace 40 = .ok (.invokestatic 92, 3) := by decide +kernel
theorem dX7_isPlace_43 : decode cX7_isPlace 43 = .ok (.ifCond .eq 7, 3) := by decide +kernel
theorem dX7_isPlace_46 : decode cX7_isPlace 46 = .ok (.iconst 1, 1) := by decide +kernel
theorem dX7_isPlace_47 : decode cX7_isPlace 47 = .ok (.goto 4, 3) := by decide +kernel
theorem dX7_isPlace_50 : decode cX7_isPlace 50 = .ok (.iconst 0, 1) := by decide +kernel
theorem dX7_isPlace_51 : decode cX7_isPlace 51 = .ok (.ireturn, 1) := by decide +kernel
set_option maxRecDepth 20000 in
theorem ggX7_harm_X7_in : GoodIn wsX7_harm wsX7_in := goodIn_r _ [13] (by decide +kernel) (by decide +kernel)
set_option maxRecDepth 20000 in
theorem gX7_harm_X7_in : GoodIn wsX7_harm (va_wsS RX7 92 yX7_in wsX7_in) := goodIn_app (goodIn_of _ (by decide +kernel)) ggX7_harm_X7_in
set_option maxRecDepth 20000 in
theorem ggX7_harm_X7_isPlace : GoodIn wsX7_harm wsX7_isPlace := goodIn_r _ [17, 10, 11, 12, 13] (by decide +kernel) (by decide +kernel)
set_option maxRecDepth 20000 in
theorem gX7_harm_X7_isPlace : GoodIn wsX7_harm (wsV RX7 176 RX7 yX7_isPlace wsX7_isPlace) := goodIn_app (goodIn_of _ (by decide +kernel)) ggX7_harm_X7_isPlace
set_option maxRecDepth 20000 in
theorem ggX7_harm_X7_tableOf : GoodIn wsX7_harm wsX7_tableOf := goodIn_r _ [21, 2, 3, 4, 5, 6, 7, 8, 1, 9, 10, 11, 12, 13, 22, 23, 24, 25, 26, 27, 28, 29, 30, 31, 32, 33, 34, 35, 36, 37, 38, 39, 40, 41, 42, 43, 44, 45, 46, 47, 48, 49, 50, 51, 52, 53, 54, 55] (by decide +kernel) (by decide +kernel)
set_option maxRecDepth 20000 in
theorem gX7_harm_X7_tableOf : GoodIn wsX7_harm (wsV RX7 180 RX7 yX7_tableOf wsX7_tableOf) := goodIn_app (goodIn_of _ (by decide +kernel)) ggX7_harm_X7_tableOf
theorem dX7_harm_0 : decode cX7_harm 0 = .ok (.iload_n 1, 1) := by decide +kernel
theorem dX7_harm_1 : decode cX7_harm 1 = .ok (.iconst 0, 1) := by decide +kernel
theorem dX7_harm_2 : decode cX7_harm 2 = .ok (.bipush 7, 2) := by decide +kernel
theorem dX7_harm_4 : decode cX7_harm 4 = .ok (.invokestatic 92, 3) := by decide +kernel
theorem dX7_harm_7 : decode cX7_harm 7 = .ok (.ifCond .ne 6, 3) := by decide +kernel
theorem dX7_harm_10 : decode cX7_harm 10 = .ok (.bipush (-102), 2) := by decide +kernel
theorem dX7_harm_12 : decode cX7_harm 12 = .ok (.ireturn, 1) := by decide +kernel
theorem dX7_harm_13 : decode cX7_harm 13 = .ok (.aload_n 0, 1) := by decide +kernel
theorem dX7_harm_14 : decode cX7_harm 14 = .ok (.iload_n 1, 1) := by decide +kernel
theorem dX7_harm_15 : decode cX7_harm 15 = .ok (.iload_n 2, 1) := by decide +kernel
theorem dX7_harm_16 : decode cX7_harm 16 = .ok (.invokevirtual 176, 3) := by decide +kernel
theorem dX7_harm_19 : decode cX7_harm 19 = .ok (.ifCond .eq 23, 3) := by decide +kernel
theorem dX7_harm_22 : decode cX7_harm 22 = .ok (.iload_n 1, 1) := by decide +kernel
theorem dX7_harm_23 : decode cX7_harm 23 = .ok (.bipush 7, 2) := by decide +kernel
theorem dX7_harm_25 : decode cX7_harm 25 = .ok (.if_icmp .ne 20, 3) := by decide +kernel
theorem dX7_harm_28 : decode cX7_harm 28 = .ok (.iload_n 2, 1) := by decide +kernel
theorem dX7_harm_29 : decode cX7_harm 29 = .ok (.iconst 0, 1) := by decide +kernel
theorem dX7_harm_30 : decode cX7_harm 30 = .ok (.aload_n 0, 1) := by decide +kernel
theorem dX7_harm_31 : decode cX7_harm 31 = .ok (.getfield 120, 3) := by decide +kernel
theorem dX7_harm_34 : decode cX7_harm 34 = .ok (.iconst 1, 1) := by decide +kernel
theorem dX7_harm_35 : decode cX7_harm 35 = .ok (.isub, 1) := by decide +kernel
theorem dX7_harm_36 : decode cX7_harm 36 = .ok (.invokestatic 92, 3) := by decide +kernel
theorem dX7_harm_39 : decode cX7_harm 39 = .ok (.ifCond .ne 6, 3) := by decide +kernel
theorem dX7_harm_42 : decode cX7_harm 42 = .ok (.bipush (-101), 2) := by decide +kernel
theorem dX7_harm_44 : decode cX7_harm 44 = .ok (.ireturn, 1) := by decide +kernel
theorem dX7_harm_45 : decode cX7_harm 45 = .ok (.iload_n 1, 1) := by decide +kernel
theorem dX7_harm_46 : decode cX7_harm 46 = .ok (.iconst 3, 1) := by decide +kernel
theorem dX7_harm_47 : decode cX7_harm 47 = .ok (.if_icmp .ge 12, 3) := by decide +kernel
theorem dX7_harm_50 : decode cX7_harm 50 = .ok (.iload_n 3, 1) := by decide +kernel
theorem dX7_harm_51 : decode cX7_harm 51 = .ok (.iconst 0, 1) := by decide +kernel
theorem dX7_harm_52 : decode cX7_harm 52 = .ok (.iconst 3, 1) := by decide +kernel
theorem dX7_harm_53 : decode cX7_harm 53 = .ok (.invokestatic 92, 3) := by decide +kernel
theorem dX7_harm_56 : decode cX7_harm 56 = .ok (.goto 58, 3) := by decide +kernel
theorem dX7_harm_59 : decode cX7_harm 59 = .ok (.iload_n 1, 1) := by decide +kernel
theorem dX7_harm_60 : decode cX7_harm 60 = .ok (.iconst 3, 1) := by decide +kernel
theorem dX7_harm_61 : decode cX7_harm 61 = .ok (.if_icmp .ne 14, 3) := by decide +kernel
theorem dX7_harm_64 : decode cX7_harm 64 = .ok (.iload_n 3, 1) := by decide +kernel
theorem dX7_harm_65 : decode cX7_harm 65 = .ok (.iconst (-1), 1) := by decide +kernel
theorem dX7_harm_66 : decode cX7_harm 66 = .ok (.sipush 200, 3) := by decide +kernel
theorem dX7_harm_69 : decode cX7_harm 69 = .ok (.invokestatic 92, 3) := by decide +kernel
theorem dX7_harm_72 : decode cX7_harm 72 = .ok (.goto 42, 3) := by decide +kernel
theorem dX7_harm_75 : decode cX7_harm 75 = .ok (.iload_n 1, 1) := by decide +kernel
theorem dX7_harm_76 : decode cX7_harm 76 = .ok (.iconst 4, 1) := by decide +kernel
theorem dX7_harm_77 : decode cX7_harm 77 = .ok (.if_icmp .ne 13, 3) := by decide +kernel
theorem dX7_harm_80 : decode cX7_harm 80 = .ok (.iload_n 3, 1) := by decide +kernel
theorem dX7_harm_81 : decode cX7_harm 81 = .ok (.iconst 5, 1) := by decide +kernel
theorem dX7_harm_82 : decode cX7_harm 82 = .ok (.bipush 10, 2) := by decide +kernel
theorem dX7_harm_84 : decode cX7_harm 84 = .ok (.invokestatic 92, 3) := by decide +kernel
theorem dX7_harm_87 : decode cX7_harm 87 = .ok (.goto 27, 3) := by decide +kernel
theorem dX7_harm_90 : decode cX7_harm 90 = .ok (.iload_n 1, 1) := by decide +kernel
theorem dX7_harm_91 : decode cX7_harm 91 = .ok (.bipush 6, 2) := by decide +kernel
theorem dX7_harm_93 : decode cX7_harm 93 = .ok (.if_icmp .ne 13, 3) := by decide +kernel
theorem dX7_harm_96 : decode cX7_harm 96 = .ok (.iload_n 3, 1) := by decide +kernel
theorem dX7_harm_97 : decode cX7_harm 97 = .ok (.iconst 0, 1) := by decide +kernel
theorem dX7_harm_98 : decode cX7_harm 98 = .ok (.bipush 15, 2) := by decide +kernel
theorem dX7_harm_100 : decode cX7_harm 100 = .ok (.invokestatic 92, 3) := by decide +kernel
theorem dX7_harm_103 : decode cX7_harm 103 = .ok (.goto 11, 3) := by decide +kernel
theorem dX7_harm_106 : decode cX7_harm 106 = .ok (.iload_n 3, 1) := by decide +kernel
theorem dX7_harm_107 : decode cX7_harm 107 = .ok (.iconst 0, 1) := by decide +kernel
theorem dX7_harm_108 : decode cX7_harm 108 = .ok (.sipush 200, 3) := by decide +kernel
theorem dX7_harm_111 : decode cX7_harm 111 = .ok (.invokestatic 92, 3) := by decide +kernel
theorem dX7_harm_114 : decode cX7_harm 114 = .ok (.istore 4, 2) := by decide +kernel
theorem dX7_harm_116 : decode cX7_harm 116 = .ok (.iload 4, 2) := by decide +kernel
theorem dX7_harm_118 : decode cX7_harm 118 = .ok (.ifCond .ne 6, 3) := by decide +kernel
theorem dX7_harm_121 : decode cX7_harm 121 = .ok (.bipush (-102), 2) := by decide +kernel
theorem dX7_harm_123 : decode cX7_harm 123 = .ok (.ireturn, 1) := by decide +kernel
theorem dX7_harm_124 : decode cX7_harm 124 = .ok (.aload_n 0, 1) := by decide +kernel
theorem dX7_harm_125 : decode cX7_harm 125 = .ok (.iload_n 1, 1) := by decide +kernel
theorem dX7_harm_126 : decode cX7_harm 126 = .ok (.iload_n 2, 1) := by decide +kernel
theorem dX7_harm_127 : decode cX7_harm 127 = .ok (.invokevirtual 180, 3) := by decide +kernel
theorem dX7_harm_130 : decode cX7_harm 130 = .ok (.istore 5, 2) := by decide +kernel
theorem dX7_harm_132 : decode cX7_harm 132 = .ok (.iload_n 1, 1) := by decide +kernel
theorem dX7_harm_133 : decode cX7_harm 133 = .ok (.tableswitch 111 0 6 #[43, 53, 63, 73, 83, 93, 103], 43) := by decide +kernel
theorem dX7_harm_176 : decode cX7_harm 176 = .ok (.aload_n 0, 1) := by decide +kernel
theorem dX7_harm_177 : decode cX7_harm 177 = .ok (.getfield 35, 3) := by decide +kernel
theorem dX7_harm_180 : decode cX7_harm 180 = .ok (.iload_n 2, 1) := by decide +kernel
theorem dX7_harm_181 : decode cX7_harm 181 = .ok (.iload_n 3, 1) := by decide +kernel
theorem dX7_harm_182 : decode cX7_harm 182 = .ok (.iastore, 1) := by decide +kernel
theorem dX7_harm_183 : decode cX7_harm 183 = .ok (.goto 68, 3) := by decide +kernel
theorem dX7_harm_186 : decode cX7_harm 186 = .ok (.aload_n 0, 1) := by decide +kernel
theorem dX7_harm_187 : decode cX7_harm 187 = .ok (.getfield 38, 3) := by decide +kernel
theorem dX7_harm_190 : decode cX7_harm 190 = .ok (.iload_n 2, 1) := by decide +kernel
theorem dX7_harm_191 : decode cX7_harm 191 = .ok (.iload_n 3, 1) := by decide +kernel
theorem dX7_harm_192 : decode cX7_harm 192 = .ok (.iastore, 1) := by decide +kernel
theorem dX7_harm_193 : decode cX7_harm 193 = .ok (.goto 58, 3) := by decide +kernel
theorem dX7_harm_196 : decode cX7_harm 196 = .ok (.aload_n 0, 1) := by decide +kernel
theorem dX7_harm_197 : decode cX7_harm 197 = .ok (.getfield 41, 3) := by decide +kernel
theorem dX7_harm_200 : decode cX7_harm 200 = .ok (.iload_n 2, 1) := by decide +kernel
theorem dX7_harm_201 : decode cX7_harm 201 = .ok (.iload_n 3, 1) := by decide +kernel
theorem dX7_harm_202 : decode cX7_harm 202 = .ok (.iastore, 1) := by decide +kernel
theorem dX7_harm_203 : decode cX7_harm 203 = .ok (.goto 48, 3) := by decide +kernel
theorem dX7_harm_206 : decode cX7_harm 206 = .ok (.aload_n 0, 1) := by decide +kernel
theorem dX7_harm_207 : decode cX7_harm 207 = .ok (.getfield 44, 3) := by decide +kernel
theorem dX7_harm_210 : decode cX7_harm 210 = .ok (.iload_n 2, 1) := by decide +kernel
theorem dX7_harm_211 : decode cX7_harm 211 = .ok (.iload_n 3, 1) := by decide +kernel
theorem dX7_harm_212 : decode cX7_harm 212 = .ok (.iastore, 1) := by decide +kernel
theorem dX7_harm_213 : decode cX7_harm 213 = .ok (.goto 38, 3) := by decide +kernel
theorem dX7_harm_216 : decode cX7_harm 216 = .ok (.aload_n 0, 1) := by decide +kernel
theorem dX7_harm_217 : decode cX7_harm 217 = .ok (.getfield 47, 3) := by decide +kernel
theorem dX7_harm_220 : decode cX7_harm 220 = .ok (.iload_n 2, 1) := by decide +kernel
theorem dX7_harm_221 : decode cX7_harm 221 = .ok (.iload_n 3, 1) := by decide +kernel
theorem dX7_harm_222 : decode cX7_harm 222 = .ok (.iastore, 1) := by decide +kernel
theorem dX7_harm_223 : decode cX7_harm 223 = .ok (.goto 28, 3) := by decide +kernel
theorem dX7_harm_226 : decode cX7_harm 226 = .ok (.aload_n 0, 1) := by decide +kernel
theorem dX7_harm_227 : decode cX7_harm 227 = .ok (.getfield 50, 3) := by decide +kernel
theorem dX7_harm_230 : decode cX7_harm 230 = .ok (.iload_n 2, 1) := by decide +kernel
theorem dX7_harm_231 : decode cX7_harm 231 = .ok (.iload_n 3, 1) := by decide +kernel
theorem dX7_harm_232 : decode cX7_harm 232 = .ok (.iastore, 1) := by decide +kernel
theorem dX7_harm_233 : decode cX7_harm 233 = .ok (.goto 18, 3) := by decide +kernel
theorem dX7_harm_236 : decode cX7_harm 236 = .ok (.aload_n 0, 1) := by decide +kernel
theorem dX7_harm_237 : decode cX7_harm 237 = .ok (.iload_n 3, 1) := by decide +kernel
theorem dX7_harm_238 : decode cX7_harm 238 = .ok (.putfield 89, 3) := by decide +kernel
theorem dX7_harm_241 : decode cX7_harm 241 = .ok (.goto 10, 3) := by decide +kernel
theorem dX7_harm_244 : decode cX7_harm 244 = .ok (.aload_n 0, 1) := by decide +kernel
theorem dX7_harm_245 : decode cX7_harm 245 = .ok (.getfield 53, 3) := by decide +kernel
theorem dX7_harm_248 : decode cX7_harm 248 = .ok (.iload_n 2, 1) := by decide +kernel
theorem dX7_harm_249 : decode cX7_harm 249 = .ok (.iload_n 3, 1) := by decide +kernel
theorem dX7_harm_250 : decode cX7_harm 250 = .ok (.iastore, 1) := by decide +kernel
theorem dX7_harm_251 : decode cX7_harm 251 = .ok (.iload 5, 2) := by decide +kernel
theorem dX7_harm_253 : decode cX7_harm 253 = .ok (.ireturn, 1) := by decide +kernel
set_option maxRecDepth 20000 in
theorem ggX7_forget_X7_first : GoodIn wsX7_forget wsX7_first := goodIn_r _ [6, 7, 8, 9, 10, 11, 12, 13, 14, 15, 16, 17, 18, 19, 20, 21, 22, 23, 24, 25, 26, 27, 28, 29, 30, 31, 32, 33, 34, 35, 36, 37, 38, 39, 40, 41, 42, 43, 44, 45, 46, 47] (by decide +kernel) (by decide +kernel)
set_option maxRecDepth 20000 in
theorem gX7_forget_X7_first : GoodIn wsX7_forget (wsV RX7 86 RX7 yX7_first wsX7_first) := goodIn_app (goodIn_of _ (by decide +kernel)) ggX7_forget_X7_first
theorem dX7_forget_0 : decode cX7_forget 0 = .ok (.aload_n 0, 1) := by decide +kernel
theorem dX7_forget_1 : decode cX7_forget 1 = .ok (.getfield 96, 3) := by decide +kernel
theorem dX7_forget_4 : decode cX7_forget 4 = .ok (.ifCond .eq 6, 3) := by decide +kernel
theorem dX7_forget_7 : decode cX7_forget 7 = .ok (.bipush (-103), 2) := by decide +kernel
theorem dX7_forget_9 : decode cX7_forget 9 = .ok (.ireturn, 1) := by decide +kernel
theorem dX7_forget_10 : decode cX7_forget 10 = .ok (.aload_n 0, 1) := by decide +kernel
theorem dX7_forget_11 : decode cX7_forget 11 = .ok (.invokevirtual 86, 3) := by decide +kernel
theorem dX7_forget_14 : decode cX7_forget 14 = .ok (.iconst 1, 1) := by decide +kernel
theorem dX7_forget_15 : decode cX7_forget 15 = .ok (.ireturn, 1) := by decide +kernel
set_option maxRecDepth 20000 in
theorem ggX7_table_X7_in : GoodIn wsX7_table wsX7_in := goodIn_r _ [4] (by decide +kernel) (by decide +kernel)
set_option maxRecDepth 20000 in
theorem gX7_table_X7_in : GoodIn wsX7_table (va_wsS RX7 92 yX7_in wsX7_in) := goodIn_app (goodIn_of _ (by decide +kernel)) ggX7_table_X7_in
set_option maxRecDepth 20000 in
theorem ggX7_table_X7_isPlace : GoodIn wsX7_table wsX7_isPlace := goodIn_r _ [8, 1, 2, 3, 4] (by decide +kernel) (by decide +kernel)
set_option maxRecDepth 20000 in
theorem gX7_table_X7_isPlace : GoodIn wsX7_table (wsV RX7 176 RX7 yX7_isPlace wsX7_isPlace) := goodIn_app (goodIn_of _ (by decide +kernel)) ggX7_table_X7_isPlace
set_option maxRecDepth 20000 in
theorem ggX7_table_X7_tableOf : GoodIn wsX7_table wsX7_tableOf := goodIn_r _ [12, 13, 14, 15, 16, 17, 18, 19, 20, 21, 1, 2, 3, 4, 22, 23, 24, 25, 26, 27, 28, 29, 30, 31, 32, 33, 34, 35, 36, 37, 38, 39, 40, 41, 42, 43, 44, 45, 46, 47, 48, 49, 50, 51, 52, 53, 54, 55] (by decide +kernel) (by decide +kernel)
set_option maxRecDepth 20000 in
theorem gX7_table_X7_tableOf : GoodIn wsX7_table (wsV RX7 180 RX7 yX7_tableOf wsX7_tableOf) := goodIn_app (goodIn_of _ (by decide +kernel)) ggX7_table_X7_tableOf
theorem dX7_table_0 : decode cX7_table 0 = .ok (.iload_n 1, 1) := by decide +kernel
theorem dX7_table_1 : decode cX7_table 1 = .ok (.iconst 0, 1) := by decide +kernel
theorem dX7_table_2 : decode cX7_table 2 = .ok (.bipush 8, 2) := by decide +kernel
theorem dX7_table_4 : decode cX7_table 4 = .ok (.invokestatic 92, 3) := by decide +kernel
theorem dX7_table_7 : decode cX7_table 7 = .ok (.ifCond .ne 6, 3) := by decide +kernel
theorem dX7_table_10 : decode cX7_table 10 = .ok (.bipush (-102), 2) := by decide +kernel
theorem dX7_table_12 : decode cX7_table 12 = .ok (.ireturn, 1) := by decide +kernel
theorem dX7_table_13 : decode cX7_table 13 = .ok (.aload_n 0, 1) := by decide +kernel
theorem dX7_table_14 : decode cX7_table 14 = .ok (.iload_n 1, 1) := by decide +kernel
theorem dX7_table_15 : decode cX7_table 15 = .ok (.iload_n 2, 1) := by decide +kernel
theorem dX7_table_16 : decode cX7_table 16 = .ok (.invokevirtual 176, 3) := by decide +kernel
theorem dX7_table_19 : decode cX7_table 19 = .ok (.ifCond .eq 12, 3) := by decide +kernel
theorem dX7_table_22 : decode cX7_table 22 = .ok (.aload_n 0, 1) := by decide +kernel
theorem dX7_table_23 : decode cX7_table 23 = .ok (.iload_n 1, 1) := by decide +kernel
theorem dX7_table_24 : decode cX7_table 24 = .ok (.iload_n 2, 1) := by decide +kernel
theorem dX7_table_25 : decode cX7_table 25 = .ok (.invokevirtual 180, 3) := by decide +kernel
theorem dX7_table_28 : decode cX7_table 28 = .ok (.goto 5, 3) := by decide +kernel
theorem dX7_table_31 : decode cX7_table 31 = .ok (.bipush (-101), 2) := by decide +kernel
theorem dX7_table_33 : decode cX7_table 33 = .ok (.ireturn, 1) := by decide +kernel
set_option maxRecDepth 20000 in
theorem ggX7_value_X7_in : GoodIn wsX7_value wsX7_in := goodIn_r _ [5] (by decide +kernel) (by decide +kernel)
set_option maxRecDepth 20000 in
theorem gX7_value_X7_in : GoodIn wsX7_value (va_wsS RX7 92 yX7_in wsX7_in) := goodIn_app (goodIn_of _ (by decide +kernel)) ggX7_value_X7_in
set_option maxRecDepth 20000 in
theorem ggX7_value_X7_valueOf : GoodIn wsX7_value wsX7_valueOf := goodIn_r _ [9, 10, 11, 12, 13, 14, 15, 16, 17, 18, 19, 20, 21, 22, 23, 24, 25, 26, 27, 28, 29, 30, 31, 32, 33, 34, 35, 36, 37, 38, 39, 40, 41, 42, 43, 44, 45] (by decide +kernel) (by decide +kernel)
set_option maxRecDepth 20000 in
theorem gX7_value_X7_valueOf : GoodIn wsX7_value (wsV RX7 107 RX7 yX7_valueOf wsX7_valueOf) := goodIn_app (goodIn_of _ (by decide +kernel)) ggX7_value_X7_valueOf
theorem dX7_value_0 : decode cX7_value 0 = .ok (.iload_n 1, 1) := by decide +kernel
theorem dX7_value_1 : decode cX7_value 1 = .ok (.iconst 0, 1) := by decide +kernel
theorem dX7_value_2 : decode cX7_value 2 = .ok (.bipush 23, 2) := by decide +kernel
theorem dX7_value_4 : decode cX7_value 4 = .ok (.invokestatic 92, 3) := by decide +kernel
theorem dX7_value_7 : decode cX7_value 7 = .ok (.ifCond .eq 11, 3) := by decide +kernel
theorem dX7_value_10 : decode cX7_value 10 = .ok (.aload_n 0, 1) := by decide +kernel
theorem dX7_value_11 : decode cX7_value 11 = .ok (.iload_n 1, 1) := by decide +kernel
theorem dX7_value_12 : decode cX7_value 12 = .ok (.invokevirtual 107, 3) := by decide +kernel
theorem dX7_value_15 : decode cX7_value 15 = .ok (.goto 6, 3) := by decide +kernel
theorem dX7_value_18 : decode cX7_value 18 = .ok (.ldc2_w 103, 3) := by decide +kernel
theorem dX7_value_21 : decode cX7_value 21 = .ok (.lreturn, 1) := by decide +kernel
set_option maxRecDepth 20000 in
theorem ggX7_stack_X7_in : GoodIn wsX7_stack wsX7_in := goodIn_r _ [6] (by decide +kernel) (by decide +kernel)
set_option maxRecDepth 20000 in
theorem gX7_stack_X7_in : GoodIn wsX7_stack (va_wsS RX7 92 yX7_in wsX7_in) := goodIn_app (goodIn_of _ (by decide +kernel)) ggX7_stack_X7_in
theorem dX7_stack_0 : decode cX7_stack 0 = .ok (.iload_n 1, 1) := by decide +kernel
theorem dX7_stack_1 : decode cX7_stack 1 = .ok (.iconst 0, 1) := by decide +kernel
theorem dX7_stack_2 : decode cX7_stack 2 = .ok (.aload_n 0, 1) := by decide +kernel
theorem dX7_stack_3 : decode cX7_stack 3 = .ok (.getfield 114, 3) := by decide +kernel
theorem dX7_stack_6 : decode cX7_stack 6 = .ok (.iconst 1, 1) := by decide +kernel
theorem dX7_stack_7 : decode cX7_stack 7 = .ok (.isub, 1) := by decide +kernel
theorem dX7_stack_8 : decode cX7_stack 8 = .ok (.invokestatic 92, 3) := by decide +kernel
theorem dX7_stack_11 : decode cX7_stack 11 = .ok (.ifCond .eq 12, 3) := by decide +kernel
theorem dX7_stack_14 : decode cX7_stack 14 = .ok (.aload_n 0, 1) := by decide +kernel
theorem dX7_stack_15 : decode cX7_stack 15 = .ok (.getfield 28, 3) := by decide +kernel
theorem dX7_stack_18 : decode cX7_stack 18 = .ok (.iload_n 1, 1) := by decide +kernel
theorem dX7_stack_19 : decode cX7_stack 19 = .ok (.iaload, 1) := by decide +kernel
theorem dX7_stack_20 : decode cX7_stack 20 = .ok (.goto 4, 3) := by decide +kernel
theorem dX7_stack_23 : decode cX7_stack 23 = .ok (.iconst (-1), 1) := by decide +kernel
theorem dX7_stack_24 : decode cX7_stack 24 = .ok (.ireturn, 1) := by decide +kernel
set_option maxRecDepth 20000 in
theorem ggX7_done_X7_in : GoodIn wsX7_done wsX7_in := goodIn_r _ [6] (by decide +kernel) (by decide +kernel)
set_option maxRecDepth 20000 in
theorem gX7_done_X7_in : GoodIn wsX7_done (va_wsS RX7 92 yX7_in wsX7_in) := goodIn_app (goodIn_of _ (by decide +kernel)) ggX7_done_X7_in
theorem dX7_done_0 : decode cX7_done 0 = .ok (.aload_n 0, 1) := by decide +kernel
theorem dX7_done_1 : decode cX7_done 1 = .ok (.getfield 77, 3) := by decide +kernel
theorem dX7_done_4 : decode cX7_done 4 = .ok (.iconst 1, 1) := by decide +kernel
theorem dX7_done_5 : decode cX7_done 5 = .ok (.iaload, 1) := by decide +kernel
theorem dX7_done_6 : decode cX7_done 6 = .ok (.sipush 300, 3) := by decide +kernel
theorem dX7_done_9 : decode cX7_done 9 = .ok (.if_icmp .ge 12, 3) := by decide +kernel
theorem dX7_done_12 : decode cX7_done 12 = .ok (.aload_n 0, 1) := by decide +kernel
theorem dX7_done_13 : decode cX7_done 13 = .ok (.getfield 77, 3) := by decide +kernel
theorem dX7_done_16 : decode cX7_done 16 = .ok (.iconst 1, 1) := by decide +kernel
theorem dX7_done_17 : decode cX7_done 17 = .ok (.iaload, 1) := by decide +kernel
theorem dX7_done_18 : decode cX7_done 18 = .ok (.goto 6, 3) := by decide +kernel
theorem dX7_done_21 : decode cX7_done 21 = .ok (.sipush 300, 3) := by decide +kernel
theorem dX7_done_24 : decode cX7_done 24 = .ok (.istore_n 2, 1) := by decide +kernel
theorem dX7_done_25 : decode cX7_done 25 = .ok (.iload_n 1, 1) := by decide +kernel
theorem dX7_done_26 : decode cX7_done 26 = .ok (.iconst 0, 1) := by decide +kernel
theorem dX7_done_27 : decode cX7_done 27 = .ok (.iload_n 2, 1) := by decide +kernel
theorem dX7_done_28 : decode cX7_done 28 = .ok (.iconst 1, 1) := by decide +kernel
theorem dX7_done_29 : decode cX7_done 29 = .ok (.isub, 1) := by decide +kernel
theorem dX7_done_30 : decode cX7_done 30 = .ok (.invokestatic 92, 3) := by decide +kernel
theorem dX7_done_33 : decode cX7_done 33 = .ok (.ifCond .eq 12, 3) := by decide +kernel
theorem dX7_done_36 : decode cX7_done 36 = .ok (.aload_n 0, 1) := by decide +kernel
theorem dX7_done_37 : decode cX7_done 37 = .ok (.getfield 80, 3) := by decide +kernel
theorem dX7_done_40 : decode cX7_done 40 = .ok (.iload_n 1, 1) := by decide +kernel
theorem dX7_done_41 : decode cX7_done 41 = .ok (.iaload, 1) := by decide +kernel
theorem dX7_done_42 : decode cX7_done 42 = .ok (.goto 4, 3) := by decide +kernel
theorem dX7_done_45 : decode cX7_done 45 = .ok (.iconst (-1), 1) := by decide +kernel
theorem dX7_done_46 : decode cX7_done 46 = .ok (.ireturn, 1) := by decide +kernel
set_option maxRecDepth 20000 in
theorem ggX7_fetched_X7_in : GoodIn wsX7_fetched wsX7_in := goodIn_r _ [6] (by decide +kernel) (by decide +kernel)
set_option maxRecDepth 20000 in
theorem gX7_fetched_X7_in : GoodIn wsX7_fetched (va_wsS RX7 92 yX7_in wsX7_in) := goodIn_app (goodIn_of _ (by decide +kernel)) ggX7_fetched_X7_in
theorem dX7_fetched_0 : decode cX7_fetched 0 = .ok (.iload_n 1, 1) := by decide +kernel
theorem dX7_fetched_1 : decode cX7_fetched 1 = .ok (.iconst 0, 1) := by decide +kernel
theorem dX7_fetched_2 : decode cX7_fetched 2 = .ok (.aload_n 0, 1) := by decide +kernel
theorem dX7_fetched_3 : decode cX7_fetched 3 = .ok (.getfield 117, 3) := by decide +kernel
theorem dX7_fetched_6 : decode cX7_fetched 6 = .ok (.iconst 1, 1) := by decide +kernel
theorem dX7_fetched_7 : decode cX7_fetched 7 = .ok (.isub, 1) := by decide +kernel
theorem dX7_fetched_8 : decode cX7_fetched 8 = .ok (.invokestatic 92, 3) := by decide +kernel
theorem dX7_fetched_11 : decode cX7_fetched 11 = .ok (.ifCond .eq 12, 3) := by decide +kernel
theorem dX7_fetched_14 : decode cX7_fetched 14 = .ok (.aload_n 0, 1) := by decide +kernel
theorem dX7_fetched_15 : decode cX7_fetched 15 = .ok (.getfield 56, 3) := by decide +kernel
theorem dX7_fetched_18 : decode cX7_fetched 18 = .ok (.iload_n 1, 1) := by decide +kernel
theorem dX7_fetched_19 : decode cX7_fetched 19 = .ok (.iaload, 1) := by decide +kernel
theorem dX7_fetched_20 : decode cX7_fetched 20 = .ok (.goto 4, 3) := by decide +kernel
theorem dX7_fetched_23 : decode cX7_fetched 23 = .ok (.iconst (-1), 1) := by decide +kernel
theorem dX7_fetched_24 : decode cX7_fetched 24 = .ok (.ireturn, 1) := by decide +kernel
theorem dX7_known_0 : decode cX7_known 0 = .ok (.aload_n 0, 1) := by decide +kernel
theorem dX7_known_1 : decode cX7_known 1 = .ok (.getfield 96, 3) := by decide +kernel
theorem dX7_known_4 : decode cX7_known 4 = .ok (.ifCond .ne 6, 3) := by decide +kernel
theorem dX7_known_7 : decode cX7_known 7 = .ok (.bipush (-103), 2) := by decide +kernel
theorem dX7_known_9 : decode cX7_known 9 = .ok (.ireturn, 1) := by decide +kernel
theorem dX7_known_10 : decode cX7_known 10 = .ok (.aload_n 0, 1) := by decide +kernel
theorem dX7_known_11 : decode cX7_known 11 = .ok (.getfield 117, 3) := by decide +kernel
theorem dX7_known_14 : decode cX7_known 14 = .ok (.ifCond .le 12, 3) := by decide +kernel
theorem dX7_known_17 : decode cX7_known 17 = .ok (.aload_n 0, 1) := by decide +kernel
theorem dX7_known_18 : decode cX7_known 18 = .ok (.getfield 56, 3) := by decide +kernel
theorem dX7_known_21 : decode cX7_known 21 = .ok (.iconst 0, 1) := by decide +kernel
theorem dX7_known_22 : decode cX7_known 22 = .ok (.iaload, 1) := by decide +kernel
theorem dX7_known_23 : decode cX7_known 23 = .ok (.goto 7, 3) := by decide +kernel
theorem dX7_known_26 : decode cX7_known 26 = .ok (.aload_n 0, 1) := by decide +kernel
theorem dX7_known_27 : decode cX7_known 27 = .ok (.getfield 123, 3) := by decide +kernel
theorem dX7_known_30 : decode cX7_known 30 = .ok (.ireturn, 1) := by decide +kernel
set_option maxRecDepth 20000 in
theorem ggX7_told_X7_in : GoodIn wsX7_told wsX7_in := goodIn_r _ [9] (by decide +kernel) (by decide +kernel)
set_option maxRecDepth 20000 in
theorem gX7_told_X7_in : GoodIn wsX7_told (va_wsS RX7 92 yX7_in wsX7_in) := goodIn_app (goodIn_of _ (by decide +kernel)) ggX7_told_X7_in
theorem dX7_told_0 : decode cX7_told 0 = .ok (.iload_n 1, 1) := by decide +kernel
theorem dX7_told_1 : decode cX7_told 1 = .ok (.iconst 0, 1) := by decide +kernel
theorem dX7_told_2 : decode cX7_told 2 = .ok (.aload_n 0, 1) := by decide +kernel
theorem dX7_told_3 : decode cX7_told 3 = .ok (.getfield 100, 3) := by decide +kernel
theorem dX7_told_6 : decode cX7_told 6 = .ok (.iconst 1, 1) := by decide +kernel
theorem dX7_told_7 : decode cX7_told 7 = .ok (.isub, 1) := by decide +kernel
theorem dX7_told_8 : decode cX7_told 8 = .ok (.invokestatic 92, 3) := by decide +kernel
theorem dX7_told_11 : decode cX7_told 11 = .ok (.ifCond .ne 6, 3) := by decide +kernel
theorem dX7_told_14 : decode cX7_told 14 = .ok (.bipush (-101), 2) := by decide +kernel
theorem dX7_told_16 : decode cX7_told 16 = .ok (.ireturn, 1) := by decide +kernel
theorem dX7_told_17 : decode cX7_told 17 = .ok (.iload_n 2, 1) := by decide +kernel
theorem dX7_told_18 : decode cX7_told 18 = .ok (.ifCond .ne 12, 3) := by decide +kernel
theorem dX7_told_21 : decode cX7_told 21 = .ok (.aload_n 0, 1) := by decide +kernel
theorem dX7_told_22 : decode cX7_told 22 = .ok (.getfield 7, 3) := by decide +kernel
theorem dX7_told_25 : decode cX7_told 25 = .ok (.iload_n 1, 1) := by decide +kernel
theorem dX7_told_26 : decode cX7_told 26 = .ok (.iaload, 1) := by decide +kernel
theorem dX7_told_27 : decode cX7_told 27 = .ok (.goto 47, 3) := by decide +kernel
theorem dX7_told_30 : decode cX7_told 30 = .ok (.iload_n 2, 1) := by decide +kernel
theorem dX7_told_31 : decode cX7_told 31 = .ok (.iconst 1, 1) := by decide +kernel
theorem dX7_told_32 : decode cX7_told 32 = .ok (.if_icmp .ne 12, 3) := by decide +kernel
theorem dX7_told_35 : decode cX7_told 35 = .ok (.aload_n 0, 1) := by decide +kernel
theorem dX7_told_36 : decode cX7_told 36 = .ok (.getfield 13, 3) := by decide +kernel
theorem dX7_told_39 : decode cX7_told 39 = .ok (.iload_n 1, 1) := by decide +kernel
theorem dX7_told_40 : decode cX7_told 40 = .ok (.iaload, 1) := by decide +kernel
theorem dX7_told_41 : decode cX7_told 41 = .ok (.goto 33, 3) := by decide +kernel
theorem dX7_told_44 : decode cX7_told 44 = .ok (.iload_n 2, 1) := by decide +kernel
theorem dX7_told_45 : decode cX7_told 45 = .ok (.iconst 2, 1) := by decide +kernel
theorem dX7_told_46 : decode cX7_told 46 = .ok (.if_icmp .ne 12, 3) := by decide +kernel
theorem dX7_told_49 : decode cX7_told 49 = .ok (.aload_n 0, 1) := by decide +kernel
theorem dX7_told_50 : decode cX7_told 50 = .ok (.getfield 16, 3) := by decide +kernel
theorem dX7_told_53 : decode cX7_told 53 = .ok (.iload_n 1, 1) := by decide +kernel
theorem dX7_told_54 : decode cX7_told 54 = .ok (.iaload, 1) := by decide +kernel
theorem dX7_told_55 : decode cX7_told 55 = .ok (.goto 19, 3) := by decide +kernel
theorem dX7_told_58 : decode cX7_told 58 = .ok (.iload_n 2, 1) := by decide +kernel
theorem dX7_told_59 : decode cX7_told 59 = .ok (.iconst 3, 1) := by decide +kernel
theorem dX7_told_60 : decode cX7_told 60 = .ok (.if_icmp .ne 12, 3) := by decide +kernel
theorem dX7_told_63 : decode cX7_told 63 = .ok (.aload_n 0, 1) := by decide +kernel
theorem dX7_told_64 : decode cX7_told 64 = .ok (.getfield 19, 3) := by decide +kernel
theorem dX7_told_67 : decode cX7_told 67 = .ok (.iload_n 1, 1) := by decide +kernel
theorem dX7_told_68 : decode cX7_told 68 = .ok (.iaload, 1) := by decide +kernel
theorem dX7_told_69 : decode cX7_told 69 = .ok (.goto 5, 3) := by decide +kernel
theorem dX7_told_72 : decode cX7_told 72 = .ok (.bipush (-102), 2) := by decide +kernel
theorem dX7_told_74 : decode cX7_told 74 = .ok (.ireturn, 1) := by decide +kernel
set_option maxRecDepth 20000 in
theorem ggX7_count_X7_in : GoodIn wsX7_count wsX7_in := goodIn_r _ [11] (by decide +kernel) (by decide +kernel)
set_option maxRecDepth 20000 in
theorem gX7_count_X7_in : GoodIn wsX7_count (va_wsS RX7 92 yX7_in wsX7_in) := goodIn_app (goodIn_of _ (by decide +kernel)) ggX7_count_X7_in
theorem dX7_count_0 : decode cX7_count 0 = .ok (.iload_n 1, 1) := by decide +kernel
theorem dX7_count_1 : decode cX7_count 1 = .ok (.tableswitch 81 9 17 #[51, 56, 61, 81, 81, 81, 66, 71, 76], 51) := by decide +kernel
theorem dX7_count_52 : decode cX7_count 52 = .ok (.aload_n 0, 1) := by decide +kernel
theorem dX7_count_53 : decode cX7_count 53 = .ok (.getfield 114, 3) := by decide +kernel
theorem dX7_count_56 : decode cX7_count 56 = .ok (.ireturn, 1) := by decide +kernel
theorem dX7_count_57 : decode cX7_count 57 = .ok (.aload_n 0, 1) := by decide +kernel
theorem dX7_count_58 : decode cX7_count 58 = .ok (.getfield 117, 3) := by decide +kernel
theorem dX7_count_61 : decode cX7_count 61 = .ok (.ireturn, 1) := by decide +kernel
theorem dX7_count_62 : decode cX7_count 62 = .ok (.aload_n 0, 1) := by decide +kernel
theorem dX7_count_63 : decode cX7_count 63 = .ok (.getfield 123, 3) := by decide +kernel
theorem dX7_count_66 : decode cX7_count 66 = .ok (.ireturn, 1) := by decide +kernel
theorem dX7_count_67 : decode cX7_count 67 = .ok (.aload_n 0, 1) := by decide +kernel
theorem dX7_count_68 : decode cX7_count 68 = .ok (.getfield 100, 3) := by decide +kernel
theorem dX7_count_71 : decode cX7_count 71 = .ok (.ireturn, 1) := by decide +kernel
theorem dX7_count_72 : decode cX7_count 72 = .ok (.aload_n 0, 1) := by decide +kernel
theorem dX7_count_73 : decode cX7_count 73 = .ok (.getfield 111, 3) := by decide +kernel
theorem dX7_count_76 : decode cX7_count 76 = .ok (.ireturn, 1) := by decide +kernel
theorem dX7_count_77 : decode cX7_count 77 = .ok (.aload_n 0, 1) := by decide +kernel
theorem dX7_count_78 : decode cX7_count 78 = .ok (.getfield 31, 3) := by decide +kernel
theorem dX7_count_81 : decode cX7_count 81 = .ok (.ireturn, 1) := by decide +kernel
theorem dX7_count_82 : decode cX7_count 82 = .ok (.iload_n 1, 1) := by decide +kernel
theorem dX7_count_83 : decode cX7_count 83 = .ok (.iconst 0, 1) := by decide +kernel
theorem dX7_count_84 : decode cX7_count 84 = .ok (.bipush 14, 2) := by decide +kernel
theorem dX7_count_86 : decode cX7_count 86 = .ok (.invokestatic 92, 3) := by decide +kernel
theorem dX7_count_89 : decode cX7_count 89 = .ok (.ifCond .eq 12, 3) := by decide +kernel
theorem dX7_count_92 : decode cX7_count 92 = .ok (.aload_n 0, 1) := by decide +kernel
theorem dX7_count_93 : decode cX7_count 93 = .ok (.getfield 77, 3) := by decide +kernel
theorem dX7_count_96 : decode cX7_count 96 = .ok (.iload_n 1, 1) := by decide +kernel
theorem dX7_count_97 : decode cX7_count 97 = .ok (.iaload, 1) := by decide +kernel
theorem dX7_count_98 : decode cX7_count 98 = .ok (.goto 5, 3) := by decide +kernel
theorem dX7_count_101 : decode cX7_count 101 = .ok (.bipush (-102), 2) := by decide +kernel
theorem dX7_count_103 : decode cX7_count 103 = .ok (.ireturn, 1) := by decide +kernel
theorem dX7_mix_0 : decode cX7_mix 0 = .ok (.aload_n 0, 1) := by decide +kernel
theorem dX7_mix_1 : decode cX7_mix 1 = .ok (.ldc2_w 183, 3) := by decide +kernel
theorem dX7_mix_4 : decode cX7_mix 4 = .ok (.aload_n 0, 1) := by decide +kernel
theorem dX7_mix_5 : decode cX7_mix 5 = .ok (.getfield 185, 3) := by decide +kernel
theorem dX7_mix_8 : decode cX7_mix 8 = .ok (.lmul, 1) := by decide +kernel
theorem dX7_mix_9 : decode cX7_mix 9 = .ok (.lload_n 1, 1) := by decide +kernel
theorem dX7_mix_10 : decode cX7_mix 10 = .ok (.ladd, 1) := by decide +kernel
theorem dX7_mix_11 : decode cX7_mix 11 = .ok (.putfield 185, 3) := by decide +kernel
theorem dX7_mix_14 : decode cX7_mix 14 = .ok (.return_, 1) := by decide +kernel
set_option maxRecDepth 20000 in
theorem ggX7_digest_X7_told : GoodIn wsX7_digest wsX7_told := goodIn_r _ [15, 3, 16, 17, 18, 19, 20, 21, 14, 22, 52, 53, 54, 55, 56, 57, 58, 59, 60, 61, 62, 63, 64, 65, 66, 67, 68, 69, 70, 71, 72, 73, 74, 75, 76, 77, 78, 79, 80, 81, 82, 83, 84, 85] (by decide +kernel) (by decide +kernel)
set_option maxRecDepth 20000 in
theorem gX7_digest_X7_told : GoodIn wsX7_digest (wsV RX7 191 RX7 yX7_told wsX7_told) := goodIn_app (goodIn_of _ (by decide +kernel)) ggX7_digest_X7_told
set_option maxRecDepth 20000 in
theorem ggX7_digest_X7_mix : GoodIn wsX7_digest wsX7_mix := goodIn_r _ [26, 27, 2, 52, 53, 54, 55, 56, 57, 58, 59, 60, 61, 62, 63, 64, 65, 66, 67, 68, 69, 70, 71, 72, 73, 74, 75, 76, 77, 78, 79, 80, 81, 82, 83, 84, 85] (by decide +kernel) (by decide +kernel)
set_option maxRecDepth 20000 in
theorem gX7_digest_X7_mix : GoodIn wsX7_digest (wsV RX7 194 RX7 yX7_mix wsX7_mix) := goodIn_app (goodIn_of _ (by decide +kernel)) ggX7_digest_X7_mix
set_option maxRecDepth 20000 in
theorem ggX7_digest_X7_valueOf : GoodIn wsX7_digest wsX7_valueOf := goodIn_r _ [31, 32, 33, 52, 53, 54, 55, 56, 57, 58, 59, 60, 61, 62, 63, 64, 65, 66, 67, 68, 69, 70, 71, 72, 73, 74, 75, 76, 77, 78, 79, 80, 81, 82, 83, 84, 85] (by decide +kernel) (by decide +kernel)
set_option maxRecDepth 20000 in
theorem gX7_digest_X7_valueOf : GoodIn wsX7_digest (wsV RX7 107 RX7 yX7_valueOf wsX7_valueOf) := goodIn_app (goodIn_of _ (by decide +kernel)) ggX7_digest_X7_valueOf
set_option maxRecDepth 20000 in
theorem ggX7_digest_X7_tableOf : GoodIn wsX7_digest wsX7_tableOf := goodIn_r _ [37, 38, 39, 40, 41, 42, 43, 6, 7, 8, 20, 21, 14, 22, 52, 53, 54, 55, 56, 57, 58, 59, 60, 61, 62, 63, 64, 65, 66, 67, 68, 69, 70, 71, 72, 73, 74, 75, 76, 77, 78, 79, 80, 81, 82, 83, 84, 85] (by decide +kernel) (by decide +kernel)
set_option maxRecDepth 20000 in
theorem gX7_digest_X7_tableOf : GoodIn wsX7_digest (wsV RX7 180 RX7 yX7_tableOf wsX7_tableOf) := goodIn_app (goodIn_of _ (by decide +kernel)) ggX7_digest_X7_tableOf
set_option maxRecDepth 20000 in
theorem ggX7_digest_X7_count : GoodIn wsX7_digest wsX7_count := goodIn_r _ [47, 4, 9, 48, 3, 49, 50, 51, 20, 21, 14, 22, 52, 53, 54, 55, 56, 57, 58, 59, 60, 61, 62, 63, 64, 65, 66, 67, 68, 69, 70, 71, 72, 73, 74, 75, 76, 77, 78, 79, 80, 81, 82, 83, 84, 85] (by decide +kernel) (by decide +kernel)
set_option maxRecDepth 20000 in
theorem gX7_digest_X7_count : GoodIn wsX7_digest (wsV RX7 198 RX7 yX7_count wsX7_count) := goodIn_app (goodIn_of _ (by decide +kernel)) ggX7_digest_X7_count
theorem dX7_digest_0 : decode cX7_digest 0 = .ok (.aload_n 0, 1) := by decide +kernel
theorem dX7_digest_1 : decode cX7_digest 1 = .ok (.ldc2_w 189, 3) := by decide +kernel
theorem dX7_digest_4 : decode cX7_digest 4 = .ok (.putfield 185, 3) := by decide +kernel
theorem dX7_digest_7 : decode cX7_digest 7 = .ok (.iconst 0, 1) := by decide +kernel
theorem dX7_digest_8 : decode cX7_digest 8 = .ok (.istore_n 1, 1) := by decide +kernel
theorem dX7_digest_9 : decode cX7_digest 9 = .ok (.iload_n 1, 1) := by decide +kernel
theorem dX7_digest_10 : decode cX7_digest 10 = .ok (.aload_n 0, 1) := by decide +kernel
theorem dX7_digest_11 : decode cX7_digest 11 = .ok (.getfield 100, 3) := by decide +kernel
theorem dX7_digest_14 : decode cX7_digest 14 = .ok (.if_icmp .ge 33, 3) := by decide +kernel
theorem dX7_digest_17 : decode cX7_digest 17 = .ok (.iconst 0, 1) := by decide +kernel
theorem dX7_digest_18 : decode cX7_digest 18 = .ok (.istore_n 2, 1) := by decide +kernel
theorem dX7_digest_19 : decode cX7_digest 19 = .ok (.iload_n 2, 1) := by decide +kernel
theorem dX7_digest_20 : decode cX7_digest 20 = .ok (.iconst 4, 1) := by decide +kernel
theorem dX7_digest_21 : decode cX7_digest 21 = .ok (.if_icmp .ge 20, 3) := by decide +kernel
theorem dX7_digest_24 : decode cX7_digest 24 = .ok (.aload_n 0, 1) := by decide +kernel
theorem dX7_digest_25 : decode cX7_digest 25 = .ok (.aload_n 0, 1) := by decide +kernel
theorem dX7_digest_26 : decode cX7_digest 26 = .ok (.iload_n 1, 1) := by decide +kernel
theorem dX7_digest_27 : decode cX7_digest 27 = .ok (.iload_n 2, 1) := by decide +kernel
theorem dX7_digest_28 : decode cX7_digest 28 = .ok (.invokevirtual 191, 3) := by decide +kernel
theorem dX7_digest_31 : decode cX7_digest 31 = .ok (.i2l, 1) := by decide +kernel
theorem dX7_digest_32 : decode cX7_digest 32 = .ok (.invokevirtual 194, 3) := by decide +kernel
theorem dX7_digest_35 : decode cX7_digest 35 = .ok (.iinc 2 1, 3) := by decide +kernel
theorem dX7_digest_38 : decode cX7_digest 38 = .ok (.goto (-19), 3) := by decide +kernel
theorem dX7_digest_41 : decode cX7_digest 41 = .ok (.iinc 1 1, 3) := by decide +kernel
theorem dX7_digest_44 : decode cX7_digest 44 = .ok (.goto (-35), 3) := by decide +kernel
theorem dX7_digest_47 : decode cX7_digest 47 = .ok (.iconst 0, 1) := by decide +kernel
theorem dX7_digest_48 : decode cX7_digest 48 = .ok (.istore_n 1, 1) := by decide +kernel
theorem dX7_digest_49 : decode cX7_digest 49 = .ok (.iload_n 1, 1) := by decide +kernel
theorem dX7_digest_50 : decode cX7_digest 50 = .ok (.bipush 24, 2) := by decide +kernel
theorem dX7_digest_52 : decode cX7_digest 52 = .ok (.if_icmp .ge 18, 3) := by decide +kernel
theorem dX7_digest_55 : decode cX7_digest 55 = .ok (.aload_n 0, 1) := by decide +kernel
theorem dX7_digest_56 : decode cX7_digest 56 = .ok (.aload_n 0, 1) := by decide +kernel
theorem dX7_digest_57 : decode cX7_digest 57 = .ok (.iload_n 1, 1) := by decide +kernel
theorem dX7_digest_58 : decode cX7_digest 58 = .ok (.invokevirtual 107, 3) := by decide +kernel
theorem dX7_digest_61 : decode cX7_digest 61 = .ok (.invokevirtual 194, 3) := by decide +kernel
theorem dX7_digest_64 : decode cX7_digest 64 = .ok (.iinc 1 1, 3) := by decide +kernel
theorem dX7_digest_67 : decode cX7_digest 67 = .ok (.goto (-18), 3) := by decide +kernel
theorem dX7_digest_70 : decode cX7_digest 70 = .ok (.iconst 0, 1) := by decide +kernel
theorem dX7_digest_71 : decode cX7_digest 71 = .ok (.istore_n 1, 1) := by decide +kernel
theorem dX7_digest_72 : decode cX7_digest 72 = .ok (.iload_n 1, 1) := by decide +kernel
theorem dX7_digest_73 : decode cX7_digest 73 = .ok (.aload_n 0, 1) := by decide +kernel
theorem dX7_digest_74 : decode cX7_digest 74 = .ok (.getfield 114, 3) := by decide +kernel
theorem dX7_digest_77 : decode cX7_digest 77 = .ok (.if_icmp .ge 20, 3) := by decide +kernel
theorem dX7_digest_80 : decode cX7_digest 80 = .ok (.aload_n 0, 1) := by decide +kernel
theorem dX7_digest_81 : decode cX7_digest 81 = .ok (.aload_n 0, 1) := by decide +kernel
theorem dX7_digest_82 : decode cX7_digest 82 = .ok (.getfield 28, 3) := by decide +kernel
theorem dX7_digest_85 : decode cX7_digest 85 = .ok (.iload_n 1, 1) := by decide +kernel
theorem dX7_digest_86 : decode cX7_digest 86 = .ok (.iaload, 1) := by decide +kernel
theorem dX7_digest_87 : decode cX7_digest 87 = .ok (.i2l, 1) := by decide +kernel
theorem dX7_digest_88 : decode cX7_digest 88 = .ok (.invokevirtual 194, 3) := by decide +kernel
theorem dX7_digest_91 : decode cX7_digest 91 = .ok (.iinc 1 1, 3) := by decide +kernel
theorem dX7_digest_94 : decode cX7_digest 94 = .ok (.goto (-22), 3) := by decide +kernel
theorem dX7_digest_97 : decode cX7_digest 97 = .ok (.iconst 0, 1) := by decide +kernel
theorem dX7_digest_98 : decode cX7_digest 98 = .ok (.istore_n 1, 1) := by decide +kernel
theorem dX7_digest_99 : decode cX7_digest 99 = .ok (.iload_n 1, 1) := by decide +kernel
theorem dX7_digest_100 : decode cX7_digest 100 = .ok (.bipush 6, 2) := by decide +kernel
theorem dX7_digest_102 : decode cX7_digest 102 = .ok (.if_icmp .ge 44, 3) := by decide +kernel
theorem dX7_digest_105 : decode cX7_digest 105 = .ok (.iconst 0, 1) := by decide +kernel
theorem dX7_digest_106 : decode cX7_digest 106 = .ok (.istore_n 2, 1) := by decide +kernel
theorem dX7_digest_107 : decode cX7_digest 107 = .ok (.iload_n 2, 1) := by decide +kernel
theorem dX7_digest_108 : decode cX7_digest 108 = .ok (.iload_n 1, 1) := by decide +kernel
theorem dX7_digest_109 : decode cX7_digest 109 = .ok (.iconst 3, 1) := by decide +kernel
theorem dX7_digest_110 : decode cX7_digest 110 = .ok (.if_icmp .ge 8, 3) := by decide +kernel
theorem dX7_digest_113 : decode cX7_digest 113 = .ok (.bipush 16, 2) := by decide +kernel
theorem dX7_digest_115 : decode cX7_digest 115 = .ok (.goto 5, 3) := by decide +kernel
theorem dX7_digest_118 : decode cX7_digest 118 = .ok (.bipush 8, 2) := by decide +kernel
theorem dX7_digest_120 : decode cX7_digest 120 = .ok (.if_icmp .ge 20, 3) := by decide +kernel
theorem dX7_digest_123 : decode cX7_digest 123 = .ok (.aload_n 0, 1) := by decide +kernel
theorem dX7_digest_124 : decode cX7_digest 124 = .ok (.aload_n 0, 1) := by decide +kernel
theorem dX7_digest_125 : decode cX7_digest 125 = .ok (.iload_n 1, 1) := by decide +kernel
theorem dX7_digest_126 : decode cX7_digest 126 = .ok (.iload_n 2, 1) := by decide +kernel
theorem dX7_digest_127 : decode cX7_digest 127 = .ok (.invokevirtual 180, 3) := by decide +kernel
theorem dX7_digest_130 : decode cX7_digest 130 = .ok (.i2l, 1) := by decide +kernel
theorem dX7_digest_131 : decode cX7_digest 131 = .ok (.invokevirtual 194, 3) := by decide +kernel
theorem dX7_digest_134 : decode cX7_digest 134 = .ok (.iinc 2 1, 3) := by decide +kernel
theorem dX7_digest_137 : decode cX7_digest 137 = .ok (.goto (-30), 3) := by decide +kernel
theorem dX7_digest_140 : decode cX7_digest 140 = .ok (.iinc 1 1, 3) := by decide +kernel
theorem dX7_digest_143 : decode cX7_digest 143 = .ok (.goto (-44), 3) := by decide +kernel
theorem dX7_digest_146 : decode cX7_digest 146 = .ok (.aload_n 0, 1) := by decide +kernel
theorem dX7_digest_147 : decode cX7_digest 147 = .ok (.aload_n 0, 1) := by decide +kernel
theorem dX7_digest_148 : decode cX7_digest 148 = .ok (.getfield 89, 3) := by decide +kernel
theorem dX7_digest_151 : decode cX7_digest 151 = .ok (.i2l, 1) := by decide +kernel
theorem dX7_digest_152 : decode cX7_digest 152 = .ok (.invokevirtual 194, 3) := by decide +kernel
theorem dX7_digest_155 : decode cX7_digest 155 = .ok (.aload_n 0, 1) := by decide +kernel
theorem dX7_digest_156 : decode cX7_digest 156 = .ok (.aload_n 0, 1) := by decide +kernel
theorem dX7_digest_157 : decode cX7_digest 157 = .ok (.getfield 120, 3) := by decide +kernel
theorem dX7_digest_160 : decode cX7_digest 160 = .ok (.i2l, 1) := by decide +kernel
theorem dX7_digest_161 : decode cX7_digest 161 = .ok (.invokevirtual 194, 3) := by decide +kernel
theorem dX7_digest_164 : decode cX7_digest 164 = .ok (.iconst 0, 1) := by decide +kernel
theorem dX7_digest_165 : decode cX7_digest 165 = .ok (.istore_n 1, 1) := by decide +kernel
theorem dX7_digest_166 : decode cX7_digest 166 = .ok (.iload_n 1, 1) := by decide +kernel
theorem dX7_digest_167 : decode cX7_digest 167 = .ok (.aload_n 0, 1) := by decide +kernel
theorem dX7_digest_168 : decode cX7_digest 168 = .ok (.getfield 120, 3) := by decide +kernel
theorem dX7_digest_171 : decode cX7_digest 171 = .ok (.if_icmp .ge 20, 3) := by decide +kernel
theorem dX7_digest_174 : decode cX7_digest 174 = .ok (.aload_n 0, 1) := by decide +kernel
theorem dX7_digest_175 : decode cX7_digest 175 = .ok (.aload_n 0, 1) := by decide +kernel
theorem dX7_digest_176 : decode cX7_digest 176 = .ok (.getfield 53, 3) := by decide +kernel
theorem dX7_digest_179 : decode cX7_digest 179 = .ok (.iload_n 1, 1) := by decide +kernel
theorem dX7_digest_180 : decode cX7_digest 180 = .ok (.iaload, 1) := by decide +kernel
theorem dX7_digest_181 : decode cX7_digest 181 = .ok (.i2l, 1) := by decide +kernel
theorem dX7_digest_182 : decode cX7_digest 182 = .ok (.invokevirtual 194, 3) := by decide +kernel
theorem dX7_digest_185 : decode cX7_digest 185 = .ok (.iinc 1 1, 3) := by decide +kernel
theorem dX7_digest_188 : decode cX7_digest 188 = .ok (.goto (-22), 3) := by decide +kernel
theorem dX7_digest_191 : decode cX7_digest 191 = .ok (.iconst 0, 1) := by decide +kernel
theorem dX7_digest_192 : decode cX7_digest 192 = .ok (.istore_n 1, 1) := by decide +kernel
theorem dX7_digest_193 : decode cX7_digest 193 = .ok (.iload_n 1, 1) := by decide +kernel
theorem dX7_digest_194 : decode cX7_digest 194 = .ok (.aload_n 0, 1) := by decide +kernel
theorem dX7_digest_195 : decode cX7_digest 195 = .ok (.getfield 117, 3) := by decide +kernel
theorem dX7_digest_198 : decode cX7_digest 198 = .ok (.if_icmp .ge 20, 3) := by decide +kernel
theorem dX7_digest_201 : decode cX7_digest 201 = .ok (.aload_n 0, 1) := by decide +kernel
theorem dX7_digest_202 : decode cX7_digest 202 = .ok (.aload_n 0, 1) := by decide +kernel
theorem dX7_digest_203 : decode cX7_digest 203 = .ok (.getfield 56, 3) := by decide +kernel
theorem dX7_digest_206 : decode cX7_digest 206 = .ok (.iload_n 1, 1) := by decide +kernel
theorem dX7_digest_207 : decode cX7_digest 207 = .ok (.iaload, 1) := by decide +kernel
theorem dX7_digest_208 : decode cX7_digest 208 = .ok (.i2l, 1) := by decide +kernel
theorem dX7_digest_209 : decode cX7_digest 209 = .ok (.invokevirtual 194, 3) := by decide +kernel
theorem dX7_digest_212 : decode cX7_digest 212 = .ok (.iinc 1 1, 3) := by decide +kernel
theorem dX7_digest_215 : decode cX7_digest 215 = .ok (.goto (-22), 3) := by decide +kernel
theorem dX7_digest_218 : decode cX7_digest 218 = .ok (.iconst 0, 1) := by decide +kernel
theorem dX7_digest_219 : decode cX7_digest 219 = .ok (.istore_n 1, 1) := by decide +kernel
theorem dX7_digest_220 : decode cX7_digest 220 = .ok (.iload_n 1, 1) := by decide +kernel
theorem dX7_digest_221 : decode cX7_digest 221 = .ok (.bipush 18, 2) := by decide +kernel
theorem dX7_digest_223 : decode cX7_digest 223 = .ok (.if_icmp .ge 19, 3) := by decide +kernel
theorem dX7_digest_226 : decode cX7_digest 226 = .ok (.aload_n 0, 1) := by decide +kernel
theorem dX7_digest_227 : decode cX7_digest 227 = .ok (.aload_n 0, 1) := by decide +kernel
theorem dX7_digest_228 : decode cX7_digest 228 = .ok (.iload_n 1, 1) := by decide +kernel
theorem dX7_digest_229 : decode cX7_digest 229 = .ok (.invokevirtual 198, 3) := by decide +kernel
theorem dX7_digest_232 : decode cX7_digest 232 = .ok (.i2l, 1) := by decide +kernel
theorem dX7_digest_233 : decode cX7_digest 233 = .ok (.invokevirtual 194, 3) := by decide +kernel
theorem dX7_digest_236 : decode cX7_digest 236 = .ok (.iinc 1 1, 3) := by decide +kernel
theorem dX7_digest_239 : decode cX7_digest 239 = .ok (.goto (-19), 3) := by decide +kernel
theorem dX7_digest_242 : decode cX7_digest 242 = .ok (.aload_n 0, 1) := by decide +kernel
theorem dX7_digest_243 : decode cX7_digest 243 = .ok (.getfield 185, 3) := by decide +kernel
theorem dX7_digest_246 : decode cX7_digest 246 = .ok (.lreturn, 1) := by decide +kernel
theorem dJ9_max_7cf53_0 : decode cJ9_max_7cf53 0 = .ok (.iload_n 0, 1) := by decide +kernel
theorem dJ9_max_7cf53_1 : decode cJ9_max_7cf53 1 = .ok (.iload_n 1, 1) := by decide +kernel
theorem dJ9_max_7cf53_2 : decode cJ9_max_7cf53 2 = .ok (.if_icmp .lt 7, 3) := by decide +kernel
theorem dJ9_max_7cf53_5 : decode cJ9_max_7cf53 5 = .ok (.iload_n 0, 1) := by decide +kernel
theorem dJ9_max_7cf53_6 : decode cJ9_max_7cf53 6 = .ok (.goto 4, 3) := by decide +kernel
theorem dJ9_max_7cf53_9 : decode cJ9_max_7cf53 9 = .ok (.iload_n 1, 1) := by decide +kernel
theorem dJ9_max_7cf53_10 : decode cJ9_max_7cf53 10 = .ok (.ireturn, 1) := by decide +kernel
theorem dJ9_min_7cf53_0 : decode cJ9_min_7cf53 0 = .ok (.iload_n 0, 1) := by decide +kernel
theorem dJ9_min_7cf53_1 : decode cJ9_min_7cf53 1 = .ok (.iload_n 1, 1) := by decide +kernel
theorem dJ9_min_7cf53_2 : decode cJ9_min_7cf53 2 = .ok (.if_icmp .gt 7, 3) := by decide +kernel
theorem dJ9_min_7cf53_5 : decode cJ9_min_7cf53 5 = .ok (.iload_n 0, 1) := by decide +kernel
theorem dJ9_min_7cf53_6 : decode cJ9_min_7cf53 6 = .ok (.goto 4, 3) := by decide +kernel
theorem dJ9_min_7cf53_9 : decode cJ9_min_7cf53 9 = .ok (.iload_n 1, 1) := by decide +kernel
theorem dJ9_min_7cf53_10 : decode cJ9_min_7cf53 10 = .ok (.ireturn, 1) := by decide +kernel
set_option maxRecDepth 20000 in
theorem ggL_law_X6_init : GoodIn wsL_law wsX6_init := goodIn_r _ [8, 9, 10, 11, 12, 13, 14, 15, 16, 17, 18, 19, 20, 21, 22, 23, 24, 25, 26, 27, 28, 29, 30, 31, 32, 33, 34, 35, 36, 37, 38, 39, 40, 41, 42, 43, 44, 45, 46, 47, 48, 49, 50, 51, 52, 53, 54, 55, 56, 57, 58, 59, 60, 61, 62, 63, 64, 65, 66, 67, 68, 69, 70, 71, 72, 73, 74, 75, 76, 77, 78, 79, 80, 81, 82, 83, 84, 85, 86, 87, 88, 89, 90, 91, 92, 93, 94, 95, 96, 97, 98, 99, 100, 101, 102, 103, 104, 105, 106, 107, 108, 109, 110, 730, 731, 686, 687, 688, 689, 690, 691, 692, 693, 694, 695, 732, 733, 734, 735, 736, 737, 738, 739, 740, 741, 742, 743, 744, 745, 746, 747, 748, 749, 750, 751, 752, 753] (by decide +kernel) (by decide +kernel)
set_option maxRecDepth 20000 in
theorem gL_law_X6_init : GoodIn wsL_law (wsX6_init) := ggL_law_X6_init
set_option maxRecDepth 20000 in
theorem ggL_law_X7_init : GoodIn wsL_law wsX7_init := goodIn_r _ [113, 114, 10, 11, 54, 115, 116, 117, 118, 119, 120, 121, 122, 123, 124, 125, 126, 127, 128, 129, 130, 131, 132, 133, 134, 135, 136, 137, 138, 139, 140, 141, 142, 5, 143, 144, 696, 697, 698, 699, 700, 701, 702, 703, 704, 705, 706, 707, 708, 709, 710, 711, 712, 713, 714, 715, 716, 717, 718, 719, 720, 721, 722, 723, 724, 725, 726, 727, 728, 729] (by decide +kernel) (by decide +kernel)
set_option maxRecDepth 20000 in
theorem gL_law_X7_init : GoodIn wsL_law (wsX7_init) := ggL_law_X7_init
set_option maxRecDepth 20000 in
theorem ggL_law_X6_act : GoodIn wsL_law wsX6_act := goodIn_r _ [148, 15, 149, 150, 2, 151, 152, 153, 154, 155, 39, 156, 157, 158, 14, 159, 45, 44, 160, 161, 162, 30, 163, 55, 164, 165, 166, 167, 686, 687, 688, 689, 690, 691, 692, 693, 694, 695, 730, 731, 751] (by decide +kernel) (by decide +kernel)
set_option maxRecDepth 20000 in
theorem gL_law_X6_act : GoodIn wsL_law (wsV RL 13 RX6 yX6_act wsX6_act) := goodIn_app (goodIn_of _ (by decide +kernel)) ggL_law_X6_act
set_option maxRecDepth 20000 in
theorem ggL_law_X7_act : GoodIn wsL_law wsX7_act := goodIn_r _ [171, 172, 173, 115, 116, 117, 118, 174, 175, 5, 176, 696, 697, 698, 699, 700, 701, 702, 703, 704, 705, 706, 707, 708, 709, 710, 711, 712, 713, 714, 715, 716, 717, 718, 719, 720, 721, 722, 723, 724, 725, 726, 727, 728, 729] (by decide +kernel) (by decide +kernel)
set_option maxRecDepth 20000 in
theorem gL_law_X7_act : GoodIn wsL_law (wsV RL 17 RX7 yX7_act wsX7_act) := goodIn_app (goodIn_of _ (by decide +kernel)) ggL_law_X7_act
set_option maxRecDepth 20000 in
theorem ggL_law_X6_wipe : GoodIn wsL_law wsX6_wipe := goodIn_r _ [180, 15, 152, 153, 154, 2, 155, 39, 181, 182, 183, 14, 184, 45, 686, 687, 688, 689, 690, 691, 692, 693, 694, 695, 730, 731] (by decide +kernel) (by decide +kernel)
set_option maxRecDepth 20000 in
theorem gL_law_X6_wipe : GoodIn wsL_law (wsV RL 18 RX6 yX6_wipe wsX6_wipe) := goodIn_app (goodIn_of _ (by decide +kernel)) ggL_law_X6_wipe
set_option maxRecDepth 20000 in
theorem ggL_law_X7_wipe : GoodIn wsL_law wsX7_wipe := goodIn_r _ [188, 172, 173, 696, 697, 698, 699, 700, 701, 702, 703, 704, 705, 706, 707, 708, 709, 710, 711, 712, 713, 714, 715, 716, 717, 718, 719, 720, 721, 722, 723, 724, 725, 726, 727, 728, 729] (by decide +kernel) (by decide +kernel)
set_option maxRecDepth 20000 in
theorem gL_law_X7_wipe : GoodIn wsL_law (wsV RL 22 RX7 yX7_wipe wsX7_wipe) := goodIn_app (goodIn_of _ (by decide +kernel)) ggL_law_X7_wipe
set_option maxRecDepth 20000 in
theorem ggL_law_X6_put : GoodIn wsL_law wsX6_put := goodIn_r _ [192, 19, 193, 194, 195, 196, 197, 18, 198, 152, 153, 154, 2, 155, 39, 199, 200, 201, 202, 60, 61, 203, 161, 162, 30, 163, 55, 686, 687, 688, 689, 690, 691, 692, 693, 694, 695, 732, 733, 734, 751] (by decide +kernel) (by decide +kernel)
set_option maxRecDepth 20000 in
theorem gL_law_X6_put : GoodIn wsL_law (wsV RL 23 RX6 yX6_put wsX6_put) := goodIn_app (goodIn_of _ (by decide +kernel)) ggL_law_X6_put
set_option maxRecDepth 20000 in
theorem ggL_law_X7_put : GoodIn wsL_law wsX7_put := goodIn_r _ [207, 208, 172, 209, 119, 120, 174, 175, 5, 176, 210, 211, 212, 213, 696, 697, 698, 699, 700, 701, 702, 703, 704, 705, 706, 707, 708, 709, 710, 711, 712, 713, 714, 715, 716, 717, 718, 719, 720, 721, 722, 723, 724, 725, 726, 727, 728, 729] (by decide +kernel) (by decide +kernel)
set_option maxRecDepth 20000 in
theorem gL_law_X7_put : GoodIn wsL_law (wsV RL 27 RX7 yX7_put wsX7_put) := goodIn_app (goodIn_of _ (by decide +kernel)) ggL_law_X7_put
set_option maxRecDepth 20000 in
theorem ggL_law_X6_way : GoodIn wsL_law wsX6_way := goodIn_r _ [217, 36, 37, 149, 150, 2, 151, 152, 153, 154, 155, 39, 686, 687, 688, 689, 690, 691, 692, 693, 694, 695] (by decide +kernel) (by decide +kernel)
set_option maxRecDepth 20000 in
theorem gL_law_X6_way : GoodIn wsL_law (wsV RL 28 RX6 yX6_way wsX6_way) := goodIn_app (goodIn_of _ (by decide +kernel)) ggL_law_X6_way
set_option maxRecDepth 20000 in
theorem ggL_law_X7_way : GoodIn wsL_law wsX7_way := goodIn_r _ [221, 172, 222, 122, 174, 175, 5, 176, 696, 697, 698, 699, 700, 701, 702, 703, 704, 705, 706, 707, 708, 709, 710, 711, 712, 713, 714, 715, 716, 717, 718, 719, 720, 721, 722, 723, 724, 725, 726, 727, 728, 729] (by decide +kernel) (by decide +kernel)
set_option maxRecDepth 20000 in
theorem gL_law_X7_way : GoodIn wsL_law (wsV RL 32 RX7 yX7_way wsX7_way) := goodIn_app (goodIn_of _ (by decide +kernel)) ggL_law_X7_way
set_option maxRecDepth 20000 in
theorem ggL_law_X6_begin : GoodIn wsL_law wsX6_begin := goodIn_r _ [226, 31, 35, 19, 23, 38, 39, 152, 153, 154, 2, 155, 227, 161, 162, 30, 163, 55, 228, 229, 230, 231, 232, 233, 234, 235, 236, 237, 238, 239, 34, 240, 69, 241, 242, 243, 18, 244, 63, 245, 246, 247, 248, 22, 249, 84, 686, 687, 688, 689, 690, 691, 692, 693, 694, 695, 751, 752, 753, 732, 733, 734, 735, 736, 737, 738, 739, 740, 741, 742] (by decide +kernel) (by decide +kernel)
set_option maxRecDepth 20000 in
theorem gL_law_X6_begin : GoodIn wsL_law (wsV RL 33 RX6 yX6_begin wsX6_begin) := goodIn_app (goodIn_of _ (by decide +kernel)) ggL_law_X6_begin
set_option maxRecDepth 20000 in
theorem ggL_law_X7_begin : GoodIn wsL_law wsX7_begin := goodIn_r _ [253, 172, 136, 254, 255, 256, 257, 137, 696, 697, 698, 699, 700, 701, 702, 703, 704, 705, 706, 707, 708, 709, 710, 711, 712, 713, 714, 715, 716, 717, 718, 719, 720, 721, 722, 723, 724, 725, 726, 727, 728, 729] (by decide +kernel) (by decide +kernel)
set_option maxRecDepth 20000 in
theorem gL_law_X7_begin : GoodIn wsL_law (wsV RL 36 RX7 yX7_begin wsX7_begin) := goodIn_app (goodIn_of _ (by decide +kernel)) ggL_law_X7_begin
set_option maxRecDepth 20000 in
theorem ggL_law_X6_run : GoodIn wsL_law wsX6_run := goodIn_r _ [261, 31, 149, 150, 2, 151, 152, 153, 154, 155, 39, 262, 233, 234, 30, 235, 55, 263, 264, 265, 266, 27, 15, 38, 37, 228, 229, 230, 231, 232, 236, 161, 162, 163, 267, 268, 269, 26, 270, 107, 271, 272, 273, 14, 274, 45, 275, 276, 277, 278, 279, 280, 281, 282, 283, 284, 285, 286, 287, 288, 289, 290, 102, 106, 291, 292, 293, 294, 295, 19, 23, 296, 297, 298, 299, 300, 51, 52, 53, 301, 302, 303, 304, 100, 305, 306, 307, 308, 44, 309, 310, 311, 312, 18, 313, 60, 314, 315, 316, 317, 318, 319, 320, 321, 61, 63, 322, 203, 323, 324, 325, 34, 326, 69, 71, 327, 328, 329, 330, 70, 331, 332, 333, 334, 335, 336, 337, 338, 339, 165, 166, 167, 340, 341, 342, 343, 35, 344, 345, 346, 347, 348, 349, 350, 351, 352, 103, 353, 354, 355, 22, 356, 77, 78, 79, 357, 358, 359, 360, 361, 362, 363, 364, 365, 366, 367, 368, 369, 370, 371, 372, 373, 374, 375, 80, 81, 82, 376, 377, 378, 379, 101, 380, 381, 382, 383, 384, 385, 386, 387, 85, 246, 247, 248, 249, 84, 388, 389, 390, 391, 104, 105, 392, 238, 239, 240, 393, 394, 395, 396, 397, 398, 399, 400, 401, 402, 403, 404, 405, 406, 407, 408, 409, 410, 411, 36, 412, 413, 414, 415, 416, 417, 418, 419, 420, 421, 422, 423, 424, 425, 426, 427, 428, 429, 430, 431, 432, 433, 434, 435, 436, 437, 438, 439, 440, 441, 442, 443, 444, 445, 446, 447, 686, 687, 688, 689, 690, 691, 692, 693, 694, 695, 751, 743, 744, 745, 746, 747, 748, 749, 750, 730, 731, 732, 733, 734, 752, 753, 735, 736, 737, 738, 739, 740, 741, 742] (by decide +kernel) (by decide +kernel)
set_option maxRecDepth 20000 in
theorem gL_law_X6_run : GoodIn wsL_law (wsV RL 37 RX6 yX6_run wsX6_run) := goodIn_app (goodIn_of _ (by decide +kernel)) ggL_law_X6_run
set_option maxRecDepth 20000 in
theorem ggL_law_X7_run : GoodIn wsL_law wsX7_run := goodIn_r _ [451, 172, 137, 174, 175, 5, 176, 452, 453, 454, 455, 255, 257, 173, 131, 122, 456, 457, 458, 459, 136, 460, 461, 462, 463, 130, 115, 132, 133, 134, 139, 135, 138, 126, 127, 128, 144, 256, 129, 464, 465, 466, 467, 119, 116, 117, 468, 469, 470, 471, 118, 120, 254, 121, 472, 473, 474, 475, 476, 477, 478, 479, 480, 123, 124, 125, 481, 482, 483, 484, 485, 486, 487, 488, 489, 490, 491, 492, 493, 494, 495, 496, 497, 498, 499, 500, 501, 502, 503, 504, 505, 506, 507, 222, 696, 697, 698, 699, 700, 701, 702, 703, 704, 705, 706, 707, 708, 709, 710, 711, 712, 713, 714, 715, 716, 717, 718, 719, 720, 721, 722, 723, 724, 725, 726, 727, 728, 729] (by decide +kernel) (by decide +kernel)
set_option maxRecDepth 20000 in
theorem gL_law_X7_run : GoodIn wsL_law (wsV RL 41 RX7 yX7_run wsX7_run) := goodIn_app (goodIn_of _ (by decide +kernel)) ggL_law_X7_run
set_option maxRecDepth 20000 in
theorem ggL_law_X6_stop : GoodIn wsL_law wsX6_stop := goodIn_r _ [511, 31, 152, 153, 154, 2, 155, 39, 275, 276, 277, 278, 279, 280, 281, 282, 27, 267, 268, 269, 26, 270, 107, 228, 229, 230, 30, 231, 232, 233, 234, 235, 55, 236, 161, 162, 163, 283, 284, 285, 286, 262, 686, 687, 688, 689, 690, 691, 692, 693, 694, 695, 743, 744, 745, 746, 747, 748, 749, 750, 751] (by decide +kernel) (by decide +kernel)
set_option maxRecDepth 20000 in
theorem gL_law_X6_stop : GoodIn wsL_law (wsV RL 42 RX6 yX6_stop wsX6_stop) := goodIn_app (goodIn_of _ (by decide +kernel)) ggL_law_X6_stop
set_option maxRecDepth 20000 in
theorem ggL_law_X7_stop : GoodIn wsL_law wsX7_stop := goodIn_r _ [515, 172, 137, 456, 457, 458, 5, 459, 136, 255, 696, 697, 698, 699, 700, 701, 702, 703, 704, 705, 706, 707, 708, 709, 710, 711, 712, 713, 714, 715, 716, 717, 718, 719, 720, 721, 722, 723, 724, 725, 726, 727, 728, 729] (by decide +kernel) (by decide +kernel)
set_option maxRecDepth 20000 in
theorem gL_law_X7_stop : GoodIn wsL_law (wsV RL 45 RX7 yX7_stop wsX7_stop) := goodIn_app (goodIn_of _ (by decide +kernel)) ggL_law_X7_stop
set_option maxRecDepth 20000 in
theorem ggL_law_X6_ended : GoodIn wsL_law wsX6_ended := goodIn_r _ [519, 39, 686, 687, 688, 689, 690, 691, 692, 693, 694, 695] (by decide +kernel) (by decide +kernel)
set_option maxRecDepth 20000 in
theorem gL_law_X6_ended : GoodIn wsL_law (wsV RL 46 RX6 yX6_ended wsX6_ended) := goodIn_app (goodIn_of _ (by decide +kernel)) ggL_law_X6_ended
set_option maxRecDepth 20000 in
theorem ggL_law_X7_ended : GoodIn wsL_law wsX7_ended := goodIn_r _ [523, 136, 696, 697, 698, 699, 700, 701, 702, 703, 704, 705, 706, 707, 708, 709, 710, 711, 712, 713, 714, 715, 716, 717, 718, 719, 720, 721, 722, 723, 724, 725, 726, 727, 728, 729] (by decide +kernel) (by decide +kernel)
set_option maxRecDepth 20000 in
theorem gL_law_X7_ended : GoodIn wsL_law (wsV RL 49 RX7 yX7_ended wsX7_ended) := goodIn_app (goodIn_of _ (by decide +kernel)) ggL_law_X7_ended
set_option maxRecDepth 20000 in
theorem ggL_law_X6_harm : GoodIn wsL_law wsX6_harm := goodIn_r _ [527, 23, 149, 150, 2, 151, 528, 529, 530, 246, 247, 248, 22, 249, 84, 531, 427, 428, 34, 429, 69, 532, 533, 534, 535, 536, 537, 538, 85, 539, 540, 541, 542, 71, 335, 336, 337, 338, 543, 544, 545, 546, 77, 78, 79, 80, 81, 82, 371, 161, 162, 30, 163, 55, 686, 687, 688, 689, 690, 691, 692, 693, 694, 695, 735, 736, 737, 738, 739, 740, 741, 742, 752, 753, 751] (by decide +kernel) (by decide +kernel)
set_option maxRecDepth 20000 in
theorem gL_law_X6_harm : GoodIn wsL_law (wsV RL 50 RX6 yX6_harm wsX6_harm) := goodIn_app (goodIn_of _ (by decide +kernel)) ggL_law_X6_harm
set_option maxRecDepth 20000 in
theorem ggL_law_X7_harm : GoodIn wsL_law wsX7_harm := goodIn_r _ [550, 256, 123, 124, 125, 126, 127, 128, 144, 129, 174, 175, 5, 176, 551, 552, 553, 554, 555, 556, 557, 558, 696, 697, 698, 699, 700, 701, 702, 703, 704, 705, 706, 707, 708, 709, 710, 711, 712, 713, 714, 715, 716, 717, 718, 719, 720, 721, 722, 723, 724, 725, 726, 727, 728, 729] (by decide +kernel) (by decide +kernel)
set_option maxRecDepth 20000 in
theorem gL_law_X7_harm : GoodIn wsL_law (wsV RL 54 RX7 yX7_harm wsX7_harm) := goodIn_app (goodIn_of _ (by decide +kernel)) ggL_law_X7_harm
set_option maxRecDepth 20000 in
theorem ggL_law_X6_forget : GoodIn wsL_law wsX6_forget := goodIn_r _ [562, 23, 152, 153, 154, 2, 155, 39, 563, 89, 90, 22, 91, 77, 78, 79, 80, 81, 82, 85, 92, 93, 94, 30, 95, 55, 686, 687, 688, 689, 690, 691, 692, 693, 694, 695, 735, 736, 737, 738, 739, 740, 741, 742, 751] (by decide +kernel) (by decide +kernel)
set_option maxRecDepth 20000 in
theorem gL_law_X6_forget : GoodIn wsL_law (wsV RL 55 RX6 yX6_forget wsX6_forget) := goodIn_app (goodIn_of _ (by decide +kernel)) ggL_law_X6_forget
set_option maxRecDepth 20000 in
theorem ggL_law_X7_forget : GoodIn wsL_law wsX7_forget := goodIn_r _ [567, 172, 140, 141, 142, 5, 143, 123, 124, 125, 126, 127, 128, 144, 696, 697, 698, 699, 700, 701, 702, 703, 704, 705, 706, 707, 708, 709, 710, 711, 712, 713, 714, 715, 716, 717, 718, 719, 720, 721, 722, 723, 724, 725, 726, 727, 728, 729] (by decide +kernel) (by decide +kernel)
set_option maxRecDepth 20000 in
theorem gL_law_X7_forget : GoodIn wsL_law (wsV RL 58 RX7 yX7_forget wsX7_forget) := goodIn_app (goodIn_of _ (by decide +kernel)) ggL_law_X7_forget
set_option maxRecDepth 20000 in
theorem ggL_law_X6_table : GoodIn wsL_law wsX6_table := goodIn_r _ [571, 23, 149, 150, 2, 151, 528, 529, 530, 572, 573, 574, 22, 575, 85, 84, 576, 332, 333, 34, 334, 71, 335, 336, 337, 338, 69, 577, 427, 428, 429, 543, 544, 545, 546, 77, 78, 79, 80, 81, 82, 363, 233, 234, 30, 235, 55, 686, 687, 688, 689, 690, 691, 692, 693, 694, 695, 735, 736, 737, 738, 739, 740, 741, 742, 752, 753, 751] (by decide +kernel) (by decide +kernel)
set_option maxRecDepth 20000 in
theorem gL_law_X6_table : GoodIn wsL_law (wsV RL 59 RX6 yX6_table wsX6_table) := goodIn_app (goodIn_of _ (by decide +kernel)) ggL_law_X6_table
set_option maxRecDepth 20000 in
theorem ggL_law_X7_table : GoodIn wsL_law wsX7_table := goodIn_r _ [581, 174, 175, 5, 176, 551, 552, 553, 554, 555, 556, 557, 558, 123, 124, 125, 126, 127, 128, 144, 256, 129, 696, 697, 698, 699, 700, 701, 702, 703, 704, 705, 706, 707, 708, 709, 710, 711, 712, 713, 714, 715, 716, 717, 718, 719, 720, 721, 722, 723, 724, 725, 726, 727, 728, 729] (by decide +kernel) (by decide +kernel)
set_option maxRecDepth 20000 in
theorem gL_law_X7_table : GoodIn wsL_law (wsV RL 62 RX7 yX7_table wsX7_table) := goodIn_app (goodIn_of _ (by decide +kernel)) ggL_law_X7_table
set_option maxRecDepth 20000 in
theorem ggL_law_X6_value : GoodIn wsL_law wsX6_value := goodIn_r _ [585, 19, 193, 195, 196, 197, 18, 198, 586, 587, 588, 589, 60, 61, 315, 233, 234, 30, 235, 55, 686, 687, 688, 689, 690, 691, 692, 693, 694, 695, 732, 733, 734, 751] (by decide +kernel) (by decide +kernel)
set_option maxRecDepth 20000 in
theorem gL_law_X6_value : GoodIn wsL_law (wsV RL 63 RX6 yX6_value wsX6_value) := goodIn_app (goodIn_of _ (by decide +kernel)) ggL_law_X6_value
set_option maxRecDepth 20000 in
theorem ggL_law_X7_value : GoodIn wsL_law wsX7_value := goodIn_r _ [593, 208, 174, 175, 5, 176, 210, 211, 212, 213, 119, 120, 696, 697, 698, 699, 700, 701, 702, 703, 704, 705, 706, 707, 708, 709, 710, 711, 712, 713, 714, 715, 716, 717, 718, 719, 720, 721, 722, 723, 724, 725, 726, 727, 728, 729] (by decide +kernel) (by decide +kernel)
set_option maxRecDepth 20000 in
theorem gL_law_X7_value : GoodIn wsL_law (wsV RL 67 RX7 yX7_value wsX7_value) := goodIn_app (goodIn_of _ (by decide +kernel)) ggL_law_X7_value
set_option maxRecDepth 20000 in
theorem ggL_law_X6_stack : GoodIn wsL_law wsX6_stack := goodIn_r _ [597, 19, 598, 599, 600, 18, 601, 63, 602, 332, 333, 34, 334, 71, 335, 336, 337, 338, 69, 686, 687, 688, 689, 690, 691, 692, 693, 694, 695, 732, 733, 734, 752, 753] (by decide +kernel) (by decide +kernel)
set_option maxRecDepth 20000 in
theorem gL_law_X6_stack : GoodIn wsL_law (wsV RL 68 RX6 yX6_stack wsX6_stack) := goodIn_app (goodIn_of _ (by decide +kernel)) ggL_law_X6_stack
set_option maxRecDepth 20000 in
theorem ggL_law_X7_stack : GoodIn wsL_law wsX7_stack := goodIn_r _ [606, 254, 121, 174, 175, 5, 176, 696, 697, 698, 699, 700, 701, 702, 703, 704, 705, 706, 707, 708, 709, 710, 711, 712, 713, 714, 715, 716, 717, 718, 719, 720, 721, 722, 723, 724, 725, 726, 727, 728, 729] (by decide +kernel) (by decide +kernel)
set_option maxRecDepth 20000 in
theorem gL_law_X7_stack : GoodIn wsL_law (wsV RL 71 RX7 yX7_stack wsX7_stack) := goodIn_app (goodIn_of _ (by decide +kernel)) ggL_law_X7_stack
set_option maxRecDepth 20000 in
theorem ggL_law_X6_done : GoodIn wsL_law wsX6_done := goodIn_r _ [610, 35, 611, 332, 333, 34, 334, 71, 335, 336, 337, 338, 69, 686, 687, 688, 689, 690, 691, 692, 693, 694, 695, 752, 753] (by decide +kernel) (by decide +kernel)
set_option maxRecDepth 20000 in
theorem gL_law_X6_done : GoodIn wsL_law (wsV RL 72 RX6 yX6_done wsX6_done) := goodIn_app (goodIn_of _ (by decide +kernel)) ggL_law_X6_done
set_option maxRecDepth 20000 in
theorem ggL_law_X7_done : GoodIn wsL_law wsX7_done := goodIn_r _ [615, 137, 138, 174, 175, 5, 176, 696, 697, 698, 699, 700, 701, 702, 703, 704, 705, 706, 707, 708, 709, 710, 711, 712, 713, 714, 715, 716, 717, 718, 719, 720, 721, 722, 723, 724, 725, 726, 727, 728, 729] (by decide +kernel) (by decide +kernel)
set_option maxRecDepth 20000 in
theorem gL_law_X7_done : GoodIn wsL_law (wsV RL 75 RX7 yX7_done wsX7_done) := goodIn_app (goodIn_of _ (by decide +kernel)) ggL_law_X7_done
set_option maxRecDepth 20000 in
theorem ggL_law_X6_fetched : GoodIn wsL_law wsX6_fetched := goodIn_r _ [619, 27, 620, 621, 622, 26, 623, 107, 100, 106, 291, 233, 234, 30, 235, 55, 686, 687, 688, 689, 690, 691, 692, 693, 694, 695, 743, 744, 745, 746, 747, 748, 749, 750, 751] (by decide +kernel) (by decide +kernel)
set_option maxRecDepth 20000 in
theorem gL_law_X6_fetched : GoodIn wsL_law (wsV RL 76 RX6 yX6_fetched wsX6_fetched) := goodIn_app (goodIn_of _ (by decide +kernel)) ggL_law_X6_fetched
set_option maxRecDepth 20000 in
theorem ggL_law_X7_fetched : GoodIn wsL_law wsX7_fetched := goodIn_r _ [627, 255, 130, 174, 175, 5, 176, 696, 697, 698, 699, 700, 701, 702, 703, 704, 705, 706, 707, 708, 709, 710, 711, 712, 713, 714, 715, 716, 717, 718, 719, 720, 721, 722, 723, 724, 725, 726, 727, 728, 729] (by decide +kernel) (by decide +kernel)
set_option maxRecDepth 20000 in
theorem gL_law_X7_fetched : GoodIn wsL_law (wsV RL 79 RX7 yX7_fetched wsX7_fetched) := goodIn_app (goodIn_of _ (by decide +kernel)) ggL_law_X7_fetched
set_option maxRecDepth 20000 in
theorem ggL_law_X6_known : GoodIn wsL_law wsX6_known := goodIn_r _ [631, 27, 38, 152, 153, 154, 2, 155, 39, 267, 268, 269, 26, 270, 107, 620, 621, 622, 623, 100, 106, 291, 233, 234, 30, 235, 55, 686, 687, 688, 689, 690, 691, 692, 693, 694, 695, 743, 744, 745, 746, 747, 748, 749, 750, 751] (by decide +kernel) (by decide +kernel)
set_option maxRecDepth 20000 in
theorem gL_law_X6_known : GoodIn wsL_law (wsV RL 80 RX6 yX6_known wsX6_known) := goodIn_app (goodIn_of _ (by decide +kernel)) ggL_law_X6_known
set_option maxRecDepth 20000 in
theorem ggL_law_X7_known : GoodIn wsL_law wsX7_known := goodIn_r _ [635, 172, 255, 130, 257, 696, 697, 698, 699, 700, 701, 702, 703, 704, 705, 706, 707, 708, 709, 710, 711, 712, 713, 714, 715, 716, 717, 718, 719, 720, 721, 722, 723, 724, 725, 726, 727, 728, 729] (by decide +kernel) (by decide +kernel)
set_option maxRecDepth 20000 in
theorem gL_law_X7_known : GoodIn wsL_law (wsV RL 83 RX7 yX7_known wsX7_known) := goodIn_app (goodIn_of _ (by decide +kernel)) ggL_law_X7_known
set_option maxRecDepth 20000 in
theorem ggL_law_X6_told : GoodIn wsL_law wsX6_told := goodIn_r _ [639, 15, 271, 272, 273, 14, 274, 45, 149, 150, 2, 151, 305, 306, 307, 308, 44, 309, 233, 234, 30, 235, 55, 686, 687, 688, 689, 690, 691, 692, 693, 694, 695, 730, 731, 751] (by decide +kernel) (by decide +kernel)
set_option maxRecDepth 20000 in
theorem gL_law_X6_told : GoodIn wsL_law (wsV RL 84 RX6 yX6_told wsX6_told) := goodIn_app (goodIn_of _ (by decide +kernel)) ggL_law_X6_told
set_option maxRecDepth 20000 in
theorem ggL_law_X7_told : GoodIn wsL_law wsX7_told := goodIn_r _ [643, 173, 115, 116, 117, 118, 174, 175, 5, 176, 696, 697, 698, 699, 700, 701, 702, 703, 704, 705, 706, 707, 708, 709, 710, 711, 712, 713, 714, 715, 716, 717, 718, 719, 720, 721, 722, 723, 724, 725, 726, 727, 728, 729] (by decide +kernel) (by decide +kernel)
set_option maxRecDepth 20000 in
theorem gL_law_X7_told : GoodIn wsL_law (wsV RL 87 RX7 yX7_told wsX7_told) := goodIn_app (goodIn_of _ (by decide +kernel)) ggL_law_X7_told
set_option maxRecDepth 20000 in
theorem ggL_law_X6_count : GoodIn wsL_law wsX6_count := goodIn_r _ [647, 19, 27, 38, 15, 36, 37, 31, 648, 649, 650, 18, 651, 63, 652, 427, 428, 34, 429, 69, 267, 268, 269, 26, 270, 107, 164, 165, 166, 14, 167, 45, 149, 150, 2, 151, 262, 233, 234, 30, 235, 55, 686, 687, 688, 689, 690, 691, 692, 693, 694, 695, 732, 733, 734, 752, 753, 743, 744, 745, 746, 747, 748, 749, 750, 730, 731, 751] (by decide +kernel) (by decide +kernel)
set_option maxRecDepth 20000 in
theorem gL_law_X6_count : GoodIn wsL_law (wsV RL 88 RX6 yX6_count wsX6_count) := goodIn_app (goodIn_of _ (by decide +kernel)) ggL_law_X6_count
set_option maxRecDepth 20000 in
theorem ggL_law_X7_count : GoodIn wsL_law wsX7_count := goodIn_r _ [656, 254, 255, 257, 173, 222, 122, 137, 174, 175, 5, 176, 696, 697, 698, 699, 700, 701, 702, 703, 704, 705, 706, 707, 708, 709, 710, 711, 712, 713, 714, 715, 716, 717, 718, 719, 720, 721, 722, 723, 724, 725, 726, 727, 728, 729] (by decide +kernel) (by decide +kernel)
set_option maxRecDepth 20000 in
theorem gL_law_X7_count : GoodIn wsL_law (wsV RL 91 RX7 yX7_count wsX7_count) := goodIn_app (goodIn_of _ (by decide +kernel)) ggL_law_X7_count
set_option maxRecDepth 20000 in
theorem ggL_law_X6_digest : GoodIn wsL_law wsX6_digest := goodIn_r _ [660, 661, 15, 662, 19, 27, 164, 165, 166, 14, 167, 45, 663, 637, 638, 2, 639, 271, 272, 273, 274, 149, 150, 151, 305, 306, 307, 308, 44, 309, 233, 234, 30, 235, 55, 664, 583, 584, 585, 193, 195, 196, 197, 18, 198, 586, 587, 588, 589, 60, 61, 315, 648, 649, 650, 651, 63, 652, 427, 428, 34, 429, 69, 665, 595, 596, 597, 598, 599, 600, 601, 602, 332, 333, 334, 71, 335, 336, 337, 338, 666, 667, 668, 669, 23, 670, 569, 570, 571, 528, 529, 530, 572, 573, 574, 22, 575, 85, 84, 576, 577, 543, 544, 545, 546, 77, 78, 79, 80, 81, 82, 363, 246, 247, 248, 249, 531, 267, 268, 269, 26, 270, 107, 671, 617, 618, 619, 620, 621, 622, 623, 100, 106, 291, 672, 645, 646, 647, 38, 36, 37, 31, 262, 686, 687, 688, 689, 690, 691, 692, 693, 694, 695, 730, 731, 751, 732, 733, 734, 752, 753, 735, 736, 737, 738, 739, 740, 741, 742, 743, 744, 745, 746, 747, 748, 749, 750] (by decide +kernel) (by decide +kernel)
set_option maxRecDepth 20000 in
theorem gL_law_X6_digest : GoodIn wsL_law (wsV RL 92 RX6 yX6_digest wsX6_digest) := goodIn_app (goodIn_of _ (by decide +kernel)) ggL_law_X6_digest
set_option maxRecDepth 20000 in
theorem ggL_law_X7_digest : GoodIn wsL_law wsX7_digest := goodIn_r _ [676, 677, 678, 173, 254, 121, 144, 256, 129, 255, 130, 679, 641, 642, 5, 643, 115, 116, 117, 118, 174, 175, 176, 680, 681, 682, 683, 684, 210, 211, 212, 213, 119, 120, 555, 556, 557, 558, 123, 124, 125, 126, 127, 128, 685, 654, 655, 656, 257, 222, 122, 137, 696, 697, 698, 699, 700, 701, 702, 703, 704, 705, 706, 707, 708, 709, 710, 711, 712, 713, 714, 715, 716, 717, 718, 719, 720, 721, 722, 723, 724, 725, 726, 727, 728, 729] (by decide +kernel) (by decide +kernel)
set_option maxRecDepth 20000 in
theorem gL_law_X7_digest : GoodIn wsL_law (wsV RL 96 RX7 yX7_digest wsX7_digest) := goodIn_app (goodIn_of _ (by decide +kernel)) ggL_law_X7_digest
theorem dL_law_0 : decode cL_law 0 = .ok (.new 7, 3) := by decide +kernel
theorem dL_law_3 : decode cL_law 3 = .ok (.dup, 1) := by decide +kernel
theorem dL_law_4 : decode cL_law 4 = .ok (.invokespecial 9, 3) := by decide +kernel
theorem dL_law_7 : decode cL_law 7 = .ok (.astore_n 1, 1) := by decide +kernel
theorem dL_law_8 : decode cL_law 8 = .ok (.new 10, 3) := by decide +kernel
theorem dL_law_11 : decode cL_law 11 = .ok (.dup, 1) := by decide +kernel
theorem dL_law_12 : decode cL_law 12 = .ok (.invokespecial 12, 3) := by decide +kernel
theorem dL_law_15 : decode cL_law 15 = .ok (.astore_n 2, 1) := by decide +kernel
theorem dL_law_16 : decode cL_law 16 = .ok (.iconst 0, 1) := by decide +kernel
theorem dL_law_17 : decode cL_law 17 = .ok (.istore_n 3, 1) := by decide +kernel
theorem dL_law_18 : decode cL_law 18 = .ok (.iload_n 3, 1) := by decide +kernel
theorem dL_law_19 : decode cL_law 19 = .ok (.aload_n 0, 1) := by decide +kernel
theorem dL_law_20 : decode cL_law 20 = .ok (.arraylength, 1) := by decide +kernel
theorem dL_law_21 : decode cL_law 21 = .ok (.iconst 5, 1) := by decide +kernel
theorem dL_law_22 : decode cL_law 22 = .ok (.isub, 1) := by decide +kernel
theorem dL_law_23 : decode cL_law 23 = .ok (.if_icmp .gt 567, 3) := by decide +kernel
theorem dL_law_26 : decode cL_law 26 = .ok (.aload_n 0, 1) := by decide +kernel
theorem dL_law_27 : decode cL_law 27 = .ok (.iload_n 3, 1) := by decide +kernel
theorem dL_law_28 : decode cL_law 28 = .ok (.iaload, 1) := by decide +kernel
theorem dL_law_29 : decode cL_law 29 = .ok (.bipush 31, 2) := by decide +kernel
theorem dL_law_31 : decode cL_law 31 = .ok (.iand, 1) := by decide +kernel
theorem dL_law_32 : decode cL_law 32 = .ok (.tableswitch 552 0 18 #[92, 145, 158, 192, 225, 238, 261, 274, 287, 330, 343, 376, 400, 423, 446, 469, 482, 515, 538], 92) := by decide +kernel
theorem dL_law_124 : decode cL_law 124 = .ok (.aload_n 1, 1) := by decide +kernel
theorem dL_law_125 : decode cL_law 125 = .ok (.aload_n 0, 1) := by decide +kernel
theorem dL_law_126 : decode cL_law 126 = .ok (.iload_n 3, 1) := by decide +kernel
theorem dL_law_127 : decode cL_law 127 = .ok (.iconst 1, 1) := by decide +kernel
theorem dL_law_128 : decode cL_law 128 = .ok (.iadd, 1) := by decide +kernel
theorem dL_law_129 : decode cL_law 129 = .ok (.iaload, 1) := by decide +kernel
theorem dL_law_130 : decode cL_law 130 = .ok (.aload_n 0, 1) := by decide +kernel
theorem dL_law_131 : decode cL_law 131 = .ok (.iload_n 3, 1) := by decide +kernel
theorem dL_law_132 : decode cL_law 132 = .ok (.iconst 2, 1) := by decide +kernel
theorem dL_law_133 : decode cL_law 133 = .ok (.iadd, 1) := by decide +kernel
theorem dL_law_134 : decode cL_law 134 = .ok (.iaload, 1) := by decide +kernel
theorem dL_law_135 : decode cL_law 135 = .ok (.aload_n 0, 1) := by decide +kernel
theorem dL_law_136 : decode cL_law 136 = .ok (.iload_n 3, 1) := by decide +kernel
theorem dL_law_137 : decode cL_law 137 = .ok (.iconst 3, 1) := by decide +kernel
theorem dL_law_138 : decode cL_law 138 = .ok (.iadd, 1) := by decide +kernel
theorem dL_law_139 : decode cL_law 139 = .ok (.iaload, 1) := by decide +kernel
theorem dL_law_140 : decode cL_law 140 = .ok (.aload_n 0, 1) := by decide +kernel
theorem dL_law_141 : decode cL_law 141 = .ok (.iload_n 3, 1) := by decide +kernel
theorem dL_law_142 : decode cL_law 142 = .ok (.iconst 4, 1) := by decide +kernel
theorem dL_law_143 : decode cL_law 143 = .ok (.iadd, 1) := by decide +kernel
theorem dL_law_144 : decode cL_law 144 = .ok (.iaload, 1) := by decide +kernel
theorem dL_law_145 : decode cL_law 145 = .ok (.invokevirtual 13, 3) := by decide +kernel
theorem dL_law_148 : decode cL_law 148 = .ok (.aload_n 2, 1) := by decide +kernel
theorem dL_law_149 : decode cL_law 149 = .ok (.aload_n 0, 1) := by decide +kernel
theorem dL_law_150 : decode cL_law 150 = .ok (.iload_n 3, 1) := by decide +kernel
theorem dL_law_151 : decode cL_law 151 = .ok (.iconst 1, 1) := by decide +kernel
theorem dL_law_152 : decode cL_law 152 = .ok (.iadd, 1) := by decide +kernel
theorem dL_law_153 : decode cL_law 153 = .ok (.iaload, 1) := by decide +kernel
theorem dL_law_154 : decode cL_law 154 = .ok (.aload_n 0, 1) := by decide +kernel
theorem dL_law_155 : decode cL_law 155 = .ok (.iload_n 3, 1) := by decide +kernel
theorem dL_law_156 : decode cL_law 156 = .ok (.iconst 2, 1) := by decide +kernel
theorem dL_law_157 : decode cL_law 157 = .ok (.iadd, 1) := by decide +kernel
theorem dL_law_158 : decode cL_law 158 = .ok (.iaload, 1) := by decide +kernel
theorem dL_law_159 : decode cL_law 159 = .ok (.aload_n 0, 1) := by decide +kernel
theorem dL_law_160 : decode cL_law 160 = .ok (.iload_n 3, 1) := by decide +kernel
theorem dL_law_161 : decode cL_law 161 = .ok (.iconst 3, 1) := by decide +kernel
theorem dL_law_162 : decode cL_law 162 = .ok (.iadd, 1) := by decide +kernel
theorem dL_law_163 : decode cL_law 163 = .ok (.iaload, 1) := by decide +kernel
theorem dL_law_164 : decode cL_law 164 = .ok (.aload_n 0, 1) := by decide +kernel
theorem dL_law_165 : decode cL_law 165 = .ok (.iload_n 3, 1) := by decide +kernel
theorem dL_law_166 : decode cL_law 166 = .ok (.iconst 4, 1) := by decide +kernel
theorem dL_law_167 : decode cL_law 167 = .ok (.iadd, 1) := by decide +kernel
theorem dL_law_168 : decode cL_law 168 = .ok (.iaload, 1) := by decide +kernel
theorem dL_law_169 : decode cL_law 169 = .ok (.invokevirtual 17, 3) := by decide +kernel
theorem dL_law_172 : decode cL_law 172 = .ok (.if_icmp .eq 412, 3) := by decide +kernel
theorem dL_law_175 : decode cL_law 175 = .ok (.iconst 0, 1) := by decide +kernel
theorem dL_law_176 : decode cL_law 176 = .ok (.ireturn, 1) := by decide +kernel
theorem dL_law_177 : decode cL_law 177 = .ok (.aload_n 1, 1) := by decide +kernel
theorem dL_law_178 : decode cL_law 178 = .ok (.invokevirtual 18, 3) := by decide +kernel
theorem dL_law_181 : decode cL_law 181 = .ok (.aload_n 2, 1) := by decide +kernel
theorem dL_law_182 : decode cL_law 182 = .ok (.invokevirtual 22, 3) := by decide +kernel
theorem dL_law_185 : decode cL_law 185 = .ok (.if_icmp .eq 399, 3) := by decide +kernel
theorem dL_law_188 : decode cL_law 188 = .ok (.iconst 0, 1) := by decide +kernel
theorem dL_law_189 : decode cL_law 189 = .ok (.ireturn, 1) := by decide +kernel
theorem dL_law_190 : decode cL_law 190 = .ok (.aload_n 1, 1) := by decide +kernel
theorem dL_law_191 : decode cL_law 191 = .ok (.aload_n 0, 1) := by decide +kernel
theorem dL_law_192 : decode cL_law 192 = .ok (.iload_n 3, 1) := by decide +kernel
theorem dL_law_193 : decode cL_law 193 = .ok (.iconst 1, 1) := by decide +kernel
theorem dL_law_194 : decode cL_law 194 = .ok (.iadd, 1) := by decide +kernel
theorem dL_law_195 : decode cL_law 195 = .ok (.iaload, 1) := by decide +kernel
theorem dL_law_196 : decode cL_law 196 = .ok (.aload_n 0, 1) := by decide +kernel
theorem dL_law_197 : decode cL_law 197 = .ok (.iload_n 3, 1) := by decide +kernel
theorem dL_law_198 : decode cL_law 198 = .ok (.iconst 2, 1) := by decide +kernel
theorem dL_law_199 : decode cL_law 199 = .ok (.iadd, 1) := by decide +kernel
theorem dL_law_200 : decode cL_law 200 = .ok (.iaload, 1) := by decide +kernel
theorem dL_law_201 : decode cL_law 201 = .ok (.invokevirtual 23, 3) := by decide +kernel
theorem dL_law_204 : decode cL_law 204 = .ok (.aload_n 2, 1) := by decide +kernel
theorem dL_law_205 : decode cL_law 205 = .ok (.aload_n 0, 1) := by decide +kernel
theorem dL_law_206 : decode cL_law 206 = .ok (.iload_n 3, 1) := by decide +kernel
theorem dL_law_207 : decode cL_law 207 = .ok (.iconst 1, 1) := by decide +kernel
theorem dL_law_208 : decode cL_law 208 = .ok (.iadd, 1) := by decide +kernel
theorem dL_law_209 : decode cL_law 209 = .ok (.iaload, 1) := by decide +kernel
theorem dL_law_210 : decode cL_law 210 = .ok (.aload_n 0, 1) := by decide +kernel
theorem dL_law_211 : decode cL_law 211 = .ok (.iload_n 3, 1) := by decide +kernel
theorem dL_law_212 : decode cL_law 212 = .ok (.iconst 2, 1) := by decide +kernel
theorem dL_law_213 : decode cL_law 213 = .ok (.iadd, 1) := by decide +kernel
theorem dL_law_214 : decode cL_law 214 = .ok (.iaload, 1) := by decide +kernel
theorem dL_law_215 : decode cL_law 215 = .ok (.invokevirtual 27, 3) := by decide +kernel
theorem dL_law_218 : decode cL_law 218 = .ok (.lcmp, 1) := by decide +kernel
theorem dL_law_219 : decode cL_law 219 = .ok (.ifCond .eq 365, 3) := by decide +kernel
theorem dL_law_222 : decode cL_law 222 = .ok (.iconst 0, 1) := by decide +kernel
theorem dL_law_223 : decode cL_law 223 = .ok (.ireturn, 1) := by decide +kernel
theorem dL_law_224 : decode cL_law 224 = .ok (.aload_n 1, 1) := by decide +kernel
theorem dL_law_225 : decode cL_law 225 = .ok (.aload_n 0, 1) := by decide +kernel
theorem dL_law_226 : decode cL_law 226 = .ok (.iload_n 3, 1) := by decide +kernel
theorem dL_law_227 : decode cL_law 227 = .ok (.iconst 1, 1) := by decide +kernel
theorem dL_law_228 : decode cL_law 228 = .ok (.iadd, 1) := by decide +kernel
theorem dL_law_229 : decode cL_law 229 = .ok (.iaload, 1) := by decide +kernel
theorem dL_law_230 : decode cL_law 230 = .ok (.aload_n 0, 1) := by decide +kernel
theorem dL_law_231 : decode cL_law 231 = .ok (.iload_n 3, 1) := by decide +kernel
theorem dL_law_232 : decode cL_law 232 = .ok (.iconst 2, 1) := by decide +kernel
theorem dL_law_233 : decode cL_law 233 = .ok (.iadd, 1) := by decide +kernel
theorem dL_law_234 : decode cL_law 234 = .ok (.iaload, 1) := by decide +kernel
theorem dL_law_235 : decode cL_law 235 = .ok (.invokevirtual 28, 3) := by decide +kernel
theorem dL_law_238 : decode cL_law 238 = .ok (.aload_n 2, 1) := by decide +kernel
theorem dL_law_239 : decode cL_law 239 = .ok (.aload_n 0, 1) := by decide +kernel
theorem dL_law_240 : decode cL_law 240 = .ok (.iload_n 3, 1) := by decide +kernel
theorem dL_law_241 : decode cL_law 241 = .ok (.iconst 1, 1) := by decide +kernel
theorem dL_law_242 : decode cL_law 242 = .ok (.iadd, 1) := by decide +kernel
theorem dL_law_243 : decode cL_law 243 = .ok (.iaload, 1) := by decide +kernel
theorem dL_law_244 : decode cL_law 244 = .ok (.aload_n 0, 1) := by decide +kernel
theorem dL_law_245 : decode cL_law 245 = .ok (.iload_n 3, 1) := by decide +kernel
theorem dL_law_246 : decode cL_law 246 = .ok (.iconst 2, 1) := by decide +kernel
theorem dL_law_247 : decode cL_law 247 = .ok (.iadd, 1) := by decide +kernel
theorem dL_law_248 : decode cL_law 248 = .ok (.iaload, 1) := by decide +kernel
theorem dL_law_249 : decode cL_law 249 = .ok (.invokevirtual 32, 3) := by decide +kernel
theorem dL_law_252 : decode cL_law 252 = .ok (.if_icmp .eq 332, 3) := by decide +kernel
theorem dL_law_255 : decode cL_law 255 = .ok (.iconst 0, 1) := by decide +kernel
theorem dL_law_256 : decode cL_law 256 = .ok (.ireturn, 1) := by decide +kernel
theorem dL_law_257 : decode cL_law 257 = .ok (.aload_n 1, 1) := by decide +kernel
theorem dL_law_258 : decode cL_law 258 = .ok (.invokevirtual 33, 3) := by decide +kernel
theorem dL_law_261 : decode cL_law 261 = .ok (.aload_n 2, 1) := by decide +kernel
theorem dL_law_262 : decode cL_law 262 = .ok (.invokevirtual 36, 3) := by decide +kernel
theorem dL_law_265 : decode cL_law 265 = .ok (.if_icmp .eq 319, 3) := by decide +kernel
theorem dL_law_268 : decode cL_law 268 = .ok (.iconst 0, 1) := by decide +kernel
theorem dL_law_269 : decode cL_law 269 = .ok (.ireturn, 1) := by decide +kernel
theorem dL_law_270 : decode cL_law 270 = .ok (.aload_n 1, 1) := by decide +kernel
theorem dL_law_271 : decode cL_law 271 = .ok (.aload_n 0, 1) := by decide +kernel
theorem dL_law_272 : decode cL_law 272 = .ok (.iload_n 3, 1) := by decide +kernel
theorem dL_law_273 : decode cL_law 273 = .ok (.iconst 1, 1) := by decide +kernel
theorem dL_law_274 : decode cL_law 274 = .ok (.iadd, 1) := by decide +kernel
theorem dL_law_275 : decode cL_law 275 = .ok (.iaload, 1) := by decide +kernel
theorem dL_law_276 : decode cL_law 276 = .ok (.invokevirtual 37, 3) := by decide +kernel
theorem dL_law_279 : decode cL_law 279 = .ok (.aload_n 2, 1) := by decide +kernel
theorem dL_law_280 : decode cL_law 280 = .ok (.aload_n 0, 1) := by decide +kernel
theorem dL_law_281 : decode cL_law 281 = .ok (.iload_n 3, 1) := by decide +kernel
theorem dL_law_282 : decode cL_law 282 = .ok (.iconst 1, 1) := by decide +kernel
theorem dL_law_283 : decode cL_law 283 = .ok (.iadd, 1) := by decide +kernel
theorem dL_law_284 : decode cL_law 284 = .ok (.iaload, 1) := by decide +kernel
theorem dL_law_285 : decode cL_law 285 = .ok (.invokevirtual 41, 3) := by decide +kernel
theorem dL_law_288 : decode cL_law 288 = .ok (.if_icmp .eq 296, 3) := by decide +kernel
theorem dL_law_291 : decode cL_law 291 = .ok (.iconst 0, 1) := by decide +kernel
theorem dL_law_292 : decode cL_law 292 = .ok (.ireturn, 1) := by decide +kernel
theorem dL_law_293 : decode cL_law 293 = .ok (.aload_n 1, 1) := by decide +kernel
theorem dL_law_294 : decode cL_law 294 = .ok (.invokevirtual 42, 3) := by decide +kernel
theorem dL_law_297 : decode cL_law 297 = .ok (.aload_n 2, 1) := by decide +kernel
theorem dL_law_298 : decode cL_law 298 = .ok (.invokevirtual 45, 3) := by decide +kernel
theorem dL_law_301 : decode cL_law 301 = .ok (.if_icmp .eq 283, 3) := by decide +kernel
theorem dL_law_304 : decode cL_law 304 = .ok (.iconst 0, 1) := by decide +kernel
theorem dL_law_305 : decode cL_law 305 = .ok (.ireturn, 1) := by decide +kernel
theorem dL_law_306 : decode cL_law 306 = .ok (.aload_n 1, 1) := by decide +kernel
theorem dL_law_307 : decode cL_law 307 = .ok (.invokevirtual 46, 3) := by decide +kernel
theorem dL_law_310 : decode cL_law 310 = .ok (.aload_n 2, 1) := by decide +kernel
theorem dL_law_311 : decode cL_law 311 = .ok (.invokevirtual 49, 3) := by decide +kernel
theorem dL_law_314 : decode cL_law 314 = .ok (.if_icmp .eq 270, 3) := by decide +kernel
theorem dL_law_317 : decode cL_law 317 = .ok (.iconst 0, 1) := by decide +kernel
theorem dL_law_318 : decode cL_law 318 = .ok (.ireturn, 1) := by decide +kernel
theorem dL_law_319 : decode cL_law 319 = .ok (.aload_n 1, 1) := by decide +kernel
theorem dL_law_320 : decode cL_law 320 = .ok (.aload_n 0, 1) := by decide +kernel
theorem dL_law_321 : decode cL_law 321 = .ok (.iload_n 3, 1) := by decide +kernel
theorem dL_law_322 : decode cL_law 322 = .ok (.iconst 1, 1) := by decide +kernel
theorem dL_law_323 : decode cL_law 323 = .ok (.iadd, 1) := by decide +kernel
theorem dL_law_324 : decode cL_law 324 = .ok (.iaload, 1) := by decide +kernel
theorem dL_law_325 : decode cL_law 325 = .ok (.aload_n 0, 1) := by decide +kernel
theorem dL_law_326 : decode cL_law 326 = .ok (.iload_n 3, 1) := by decide +kernel
theorem dL_law_327 : decode cL_law 327 = .ok (.iconst 2, 1) := by decide +kernel
theorem dL_law_328 : decode cL_law 328 = .ok (.iadd, 1) := by decide +kernel
theorem dL_law_329 : decode cL_law 329 = .ok (.iaload, 1) := by decide +kernel
theorem dL_law_330 : decode cL_law 330 = .ok (.aload_n 0, 1) := by decide +kernel
theorem dL_law_331 : decode cL_law 331 = .ok (.iload_n 3, 1) := by decide +kernel
theorem dL_law_332 : decode cL_law 332 = .ok (.iconst 3, 1) := by decide +kernel
theorem dL_law_333 : decode cL_law 333 = .ok (.iadd, 1) := by decide +kernel
theorem dL_law_334 : decode cL_law 334 = .ok (.iaload, 1) := by decide +kernel
theorem dL_law_335 : decode cL_law 335 = .ok (.invokevirtual 50, 3) := by decide +kernel
theorem dL_law_338 : decode cL_law 338 = .ok (.aload_n 2, 1) := by decide +kernel
theorem dL_law_339 : decode cL_law 339 = .ok (.aload_n 0, 1) := by decide +kernel
theorem dL_law_340 : decode cL_law 340 = .ok (.iload_n 3, 1) := by decide +kernel
theorem dL_law_341 : decode cL_law 341 = .ok (.iconst 1, 1) := by decide +kernel
theorem dL_law_342 : decode cL_law 342 = .ok (.iadd, 1) := by decide +kernel
theorem dL_law_343 : decode cL_law 343 = .ok (.iaload, 1) := by decide +kernel
theorem dL_law_344 : decode cL_law 344 = .ok (.aload_n 0, 1) := by decide +kernel
theorem dL_law_345 : decode cL_law 345 = .ok (.iload_n 3, 1) := by decide +kernel
theorem dL_law_346 : decode cL_law 346 = .ok (.iconst 2, 1) := by decide +kernel
theorem dL_law_347 : decode cL_law 347 = .ok (.iadd, 1) := by decide +kernel
theorem dL_law_348 : decode cL_law 348 = .ok (.iaload, 1) := by decide +kernel
theorem dL_law_349 : decode cL_law 349 = .ok (.aload_n 0, 1) := by decide +kernel
theorem dL_law_350 : decode cL_law 350 = .ok (.iload_n 3, 1) := by decide +kernel
theorem dL_law_351 : decode cL_law 351 = .ok (.iconst 3, 1) := by decide +kernel
theorem dL_law_352 : decode cL_law 352 = .ok (.iadd, 1) := by decide +kernel
theorem dL_law_353 : decode cL_law 353 = .ok (.iaload, 1) := by decide +kernel
theorem dL_law_354 : decode cL_law 354 = .ok (.invokevirtual 54, 3) := by decide +kernel
theorem dL_law_357 : decode cL_law 357 = .ok (.if_icmp .eq 227, 3) := by decide +kernel
theorem dL_law_360 : decode cL_law 360 = .ok (.iconst 0, 1) := by decide +kernel
theorem dL_law_361 : decode cL_law 361 = .ok (.ireturn, 1) := by decide +kernel
theorem dL_law_362 : decode cL_law 362 = .ok (.aload_n 1, 1) := by decide +kernel
theorem dL_law_363 : decode cL_law 363 = .ok (.invokevirtual 55, 3) := by decide +kernel
theorem dL_law_366 : decode cL_law 366 = .ok (.aload_n 2, 1) := by decide +kernel
theorem dL_law_367 : decode cL_law 367 = .ok (.invokevirtual 58, 3) := by decide +kernel
theorem dL_law_370 : decode cL_law 370 = .ok (.if_icmp .eq 214, 3) := by decide +kernel
theorem dL_law_373 : decode cL_law 373 = .ok (.iconst 0, 1) := by decide +kernel
theorem dL_law_374 : decode cL_law 374 = .ok (.ireturn, 1) := by decide +kernel
theorem dL_law_375 : decode cL_law 375 = .ok (.aload_n 1, 1) := by decide +kernel
theorem dL_law_376 : decode cL_law 376 = .ok (.aload_n 0, 1) := by decide +kernel
theorem dL_law_377 : decode cL_law 377 = .ok (.iload_n 3, 1) := by decide +kernel
theorem dL_law_378 : decode cL_law 378 = .ok (.iconst 1, 1) := by decide +kernel
theorem dL_law_379 : decode cL_law 379 = .ok (.iadd, 1) := by decide +kernel
theorem dL_law_380 : decode cL_law 380 = .ok (.iaload, 1) := by decide +kernel
theorem dL_law_381 : decode cL_law 381 = .ok (.aload_n 0, 1) := by decide +kernel
theorem dL_law_382 : decode cL_law 382 = .ok (.iload_n 3, 1) := by decide +kernel
theorem dL_law_383 : decode cL_law 383 = .ok (.iconst 2, 1) := by decide +kernel
theorem dL_law_384 : decode cL_law 384 = .ok (.iadd, 1) := by decide +kernel
theorem dL_law_385 : decode cL_law 385 = .ok (.iaload, 1) := by decide +kernel
theorem dL_law_386 : decode cL_law 386 = .ok (.invokevirtual 59, 3) := by decide +kernel
theorem dL_law_389 : decode cL_law 389 = .ok (.aload_n 2, 1) := by decide +kernel
theorem dL_law_390 : decode cL_law 390 = .ok (.aload_n 0, 1) := by decide +kernel
theorem dL_law_391 : decode cL_law 391 = .ok (.iload_n 3, 1) := by decide +kernel
theorem dL_law_392 : decode cL_law 392 = .ok (.iconst 1, 1) := by decide +kernel
theorem dL_law_393 : decode cL_law 393 = .ok (.iadd, 1) := by decide +kernel
theorem dL_law_394 : decode cL_law 394 = .ok (.iaload, 1) := by decide +kernel
theorem dL_law_395 : decode cL_law 395 = .ok (.aload_n 0, 1) := by decide +kernel
theorem dL_law_396 : decode cL_law 396 = .ok (.iload_n 3, 1) := by decide +kernel
theorem dL_law_397 : decode cL_law 397 = .ok (.iconst 2, 1) := by decide +kernel
theorem dL_law_398 : decode cL_law 398 = .ok (.iadd, 1) := by decide +kernel
theorem dL_law_399 : decode cL_law 399 = .ok (.iaload, 1) := by decide +kernel
theorem dL_law_400 : decode cL_law 400 = .ok (.invokevirtual 62, 3) := by decide +kernel
theorem dL_law_403 : decode cL_law 403 = .ok (.if_icmp .eq 181, 3) := by decide +kernel
theorem dL_law_406 : decode cL_law 406 = .ok (.iconst 0, 1) := by decide +kernel
theorem dL_law_407 : decode cL_law 407 = .ok (.ireturn, 1) := by decide +kernel
theorem dL_law_408 : decode cL_law 408 = .ok (.aload_n 1, 1) := by decide +kernel
theorem dL_law_409 : decode cL_law 409 = .ok (.aload_n 0, 1) := by decide +kernel
theorem dL_law_410 : decode cL_law 410 = .ok (.iload_n 3, 1) := by decide +kernel
theorem dL_law_411 : decode cL_law 411 = .ok (.iconst 1, 1) := by decide +kernel
theorem dL_law_412 : decode cL_law 412 = .ok (.iadd, 1) := by decide +kernel
theorem dL_law_413 : decode cL_law 413 = .ok (.iaload, 1) := by decide +kernel
theorem dL_law_414 : decode cL_law 414 = .ok (.invokevirtual 63, 3) := by decide +kernel
theorem dL_law_417 : decode cL_law 417 = .ok (.aload_n 2, 1) := by decide +kernel
theorem dL_law_418 : decode cL_law 418 = .ok (.aload_n 0, 1) := by decide +kernel
theorem dL_law_419 : decode cL_law 419 = .ok (.iload_n 3, 1) := by decide +kernel
theorem dL_law_420 : decode cL_law 420 = .ok (.iconst 1, 1) := by decide +kernel
theorem dL_law_421 : decode cL_law 421 = .ok (.iadd, 1) := by decide +kernel
theorem dL_law_422 : decode cL_law 422 = .ok (.iaload, 1) := by decide +kernel
theorem dL_law_423 : decode cL_law 423 = .ok (.invokevirtual 67, 3) := by decide +kernel
theorem dL_law_426 : decode cL_law 426 = .ok (.lcmp, 1) := by decide +kernel
theorem dL_law_427 : decode cL_law 427 = .ok (.ifCond .eq 157, 3) := by decide +kernel
theorem dL_law_430 : decode cL_law 430 = .ok (.iconst 0, 1) := by decide +kernel
theorem dL_law_431 : decode cL_law 431 = .ok (.ireturn, 1) := by decide +kernel
theorem dL_law_432 : decode cL_law 432 = .ok (.aload_n 1, 1) := by decide +kernel
theorem dL_law_433 : decode cL_law 433 = .ok (.aload_n 0, 1) := by decide +kernel
theorem dL_law_434 : decode cL_law 434 = .ok (.iload_n 3, 1) := by decide +kernel
theorem dL_law_435 : decode cL_law 435 = .ok (.iconst 1, 1) := by decide +kernel
theorem dL_law_436 : decode cL_law 436 = .ok (.iadd, 1) := by decide +kernel
theorem dL_law_437 : decode cL_law 437 = .ok (.iaload, 1) := by decide +kernel
theorem dL_law_438 : decode cL_law 438 = .ok (.invokevirtual 68, 3) := by decide +kernel
theorem dL_law_441 : decode cL_law 441 = .ok (.aload_n 2, 1) := by decide +kernel
theorem dL_law_442 : decode cL_law 442 = .ok (.aload_n 0, 1) := by decide +kernel
theorem dL_law_443 : decode cL_law 443 = .ok (.iload_n 3, 1) := by decide +kernel
theorem dL_law_444 : decode cL_law 444 = .ok (.iconst 1, 1) := by decide +kernel
theorem dL_law_445 : decode cL_law 445 = .ok (.iadd, 1) := by decide +kernel
theorem dL_law_446 : decode cL_law 446 = .ok (.iaload, 1) := by decide +kernel
theorem dL_law_447 : decode cL_law 447 = .ok (.invokevirtual 71, 3) := by decide +kernel
theorem dL_law_450 : decode cL_law 450 = .ok (.if_icmp .eq 134, 3) := by decide +kernel
theorem dL_law_453 : decode cL_law 453 = .ok (.iconst 0, 1) := by decide +kernel
theorem dL_law_454 : decode cL_law 454 = .ok (.ireturn, 1) := by decide +kernel
theorem dL_law_455 : decode cL_law 455 = .ok (.aload_n 1, 1) := by decide +kernel
theorem dL_law_456 : decode cL_law 456 = .ok (.aload_n 0, 1) := by decide +kernel
theorem dL_law_457 : decode cL_law 457 = .ok (.iload_n 3, 1) := by decide +kernel
theorem dL_law_458 : decode cL_law 458 = .ok (.iconst 1, 1) := by decide +kernel
theorem dL_law_459 : decode cL_law 459 = .ok (.iadd, 1) := by decide +kernel
theorem dL_law_460 : decode cL_law 460 = .ok (.iaload, 1) := by decide +kernel
theorem dL_law_461 : decode cL_law 461 = .ok (.invokevirtual 72, 3) := by decide +kernel
theorem dL_law_464 : decode cL_law 464 = .ok (.aload_n 2, 1) := by decide +kernel
theorem dL_law_465 : decode cL_law 465 = .ok (.aload_n 0, 1) := by decide +kernel
theorem dL_law_466 : decode cL_law 466 = .ok (.iload_n 3, 1) := by decide +kernel
theorem dL_law_467 : decode cL_law 467 = .ok (.iconst 1, 1) := by decide +kernel
theorem dL_law_468 : decode cL_law 468 = .ok (.iadd, 1) := by decide +kernel
theorem dL_law_469 : decode cL_law 469 = .ok (.iaload, 1) := by decide +kernel
theorem dL_law_470 : decode cL_law 470 = .ok (.invokevirtual 75, 3) := by decide +kernel
theorem dL_law_473 : decode cL_law 473 = .ok (.if_icmp .eq 111, 3) := by decide +kernel
theorem dL_law_476 : decode cL_law 476 = .ok (.iconst 0, 1) := by decide +kernel
theorem dL_law_477 : decode cL_law 477 = .ok (.ireturn, 1) := by decide +kernel
theorem dL_law_478 : decode cL_law 478 = .ok (.aload_n 1, 1) := by decide +kernel
theorem dL_law_479 : decode cL_law 479 = .ok (.aload_n 0, 1) := by decide +kernel
theorem dL_law_480 : decode cL_law 480 = .ok (.iload_n 3, 1) := by decide +kernel
theorem dL_law_481 : decode cL_law 481 = .ok (.iconst 1, 1) := by decide +kernel
theorem dL_law_482 : decode cL_law 482 = .ok (.iadd, 1) := by decide +kernel
theorem dL_law_483 : decode cL_law 483 = .ok (.iaload, 1) := by decide +kernel
theorem dL_law_484 : decode cL_law 484 = .ok (.invokevirtual 76, 3) := by decide +kernel
theorem dL_law_487 : decode cL_law 487 = .ok (.aload_n 2, 1) := by decide +kernel
theorem dL_law_488 : decode cL_law 488 = .ok (.aload_n 0, 1) := by decide +kernel
theorem dL_law_489 : decode cL_law 489 = .ok (.iload_n 3, 1) := by decide +kernel
theorem dL_law_490 : decode cL_law 490 = .ok (.iconst 1, 1) := by decide +kernel
theorem dL_law_491 : decode cL_law 491 = .ok (.iadd, 1) := by decide +kernel
theorem dL_law_492 : decode cL_law 492 = .ok (.iaload, 1) := by decide +kernel
theorem dL_law_493 : decode cL_law 493 = .ok (.invokevirtual 79, 3) := by decide +kernel
theorem dL_law_496 : decode cL_law 496 = .ok (.if_icmp .eq 88, 3) := by decide +kernel
theorem dL_law_499 : decode cL_law 499 = .ok (.iconst 0, 1) := by decide +kernel
theorem dL_law_500 : decode cL_law 500 = .ok (.ireturn, 1) := by decide +kernel
theorem dL_law_501 : decode cL_law 501 = .ok (.aload_n 1, 1) := by decide +kernel
theorem dL_law_502 : decode cL_law 502 = .ok (.invokevirtual 80, 3) := by decide +kernel
theorem dL_law_505 : decode cL_law 505 = .ok (.aload_n 2, 1) := by decide +kernel
theorem dL_law_506 : decode cL_law 506 = .ok (.invokevirtual 83, 3) := by decide +kernel
theorem dL_law_509 : decode cL_law 509 = .ok (.if_icmp .eq 75, 3) := by decide +kernel
theorem dL_law_512 : decode cL_law 512 = .ok (.iconst 0, 1) := by decide +kernel
theorem dL_law_513 : decode cL_law 513 = .ok (.ireturn, 1) := by decide +kernel
theorem dL_law_514 : decode cL_law 514 = .ok (.aload_n 1, 1) := by decide +kernel
theorem dL_law_515 : decode cL_law 515 = .ok (.aload_n 0, 1) := by decide +kernel
theorem dL_law_516 : decode cL_law 516 = .ok (.iload_n 3, 1) := by decide +kernel
theorem dL_law_517 : decode cL_law 517 = .ok (.iconst 1, 1) := by decide +kernel
theorem dL_law_518 : decode cL_law 518 = .ok (.iadd, 1) := by decide +kernel
theorem dL_law_519 : decode cL_law 519 = .ok (.iaload, 1) := by decide +kernel
theorem dL_law_520 : decode cL_law 520 = .ok (.aload_n 0, 1) := by decide +kernel
theorem dL_law_521 : decode cL_law 521 = .ok (.iload_n 3, 1) := by decide +kernel
theorem dL_law_522 : decode cL_law 522 = .ok (.iconst 2, 1) := by decide +kernel
theorem dL_law_523 : decode cL_law 523 = .ok (.iadd, 1) := by decide +kernel
theorem dL_law_524 : decode cL_law 524 = .ok (.iaload, 1) := by decide +kernel
theorem dL_law_525 : decode cL_law 525 = .ok (.invokevirtual 84, 3) := by decide +kernel
theorem dL_law_528 : decode cL_law 528 = .ok (.aload_n 2, 1) := by decide +kernel
theorem dL_law_529 : decode cL_law 529 = .ok (.aload_n 0, 1) := by decide +kernel
theorem dL_law_530 : decode cL_law 530 = .ok (.iload_n 3, 1) := by decide +kernel
theorem dL_law_531 : decode cL_law 531 = .ok (.iconst 1, 1) := by decide +kernel
theorem dL_law_532 : decode cL_law 532 = .ok (.iadd, 1) := by decide +kernel
theorem dL_law_533 : decode cL_law 533 = .ok (.iaload, 1) := by decide +kernel
theorem dL_law_534 : decode cL_law 534 = .ok (.aload_n 0, 1) := by decide +kernel
theorem dL_law_535 : decode cL_law 535 = .ok (.iload_n 3, 1) := by decide +kernel
theorem dL_law_536 : decode cL_law 536 = .ok (.iconst 2, 1) := by decide +kernel
theorem dL_law_537 : decode cL_law 537 = .ok (.iadd, 1) := by decide +kernel
theorem dL_law_538 : decode cL_law 538 = .ok (.iaload, 1) := by decide +kernel
theorem dL_law_539 : decode cL_law 539 = .ok (.invokevirtual 87, 3) := by decide +kernel
theorem dL_law_542 : decode cL_law 542 = .ok (.if_icmp .eq 42, 3) := by decide +kernel
theorem dL_law_545 : decode cL_law 545 = .ok (.iconst 0, 1) := by decide +kernel
theorem dL_law_546 : decode cL_law 546 = .ok (.ireturn, 1) := by decide +kernel
theorem dL_law_547 : decode cL_law 547 = .ok (.aload_n 1, 1) := by decide +kernel
theorem dL_law_548 : decode cL_law 548 = .ok (.aload_n 0, 1) := by decide +kernel
theorem dL_law_549 : decode cL_law 549 = .ok (.iload_n 3, 1) := by decide +kernel
theorem dL_law_550 : decode cL_law 550 = .ok (.iconst 1, 1) := by decide +kernel
theorem dL_law_551 : decode cL_law 551 = .ok (.iadd, 1) := by decide +kernel
theorem dL_law_552 : decode cL_law 552 = .ok (.iaload, 1) := by decide +kernel
theorem dL_law_553 : decode cL_law 553 = .ok (.invokevirtual 88, 3) := by decide +kernel
theorem dL_law_556 : decode cL_law 556 = .ok (.aload_n 2, 1) := by decide +kernel
theorem dL_law_557 : decode cL_law 557 = .ok (.aload_n 0, 1) := by decide +kernel
theorem dL_law_558 : decode cL_law 558 = .ok (.iload_n 3, 1) := by decide +kernel
theorem dL_law_559 : decode cL_law 559 = .ok (.iconst 1, 1) := by decide +kernel
theorem dL_law_560 : decode cL_law 560 = .ok (.iadd, 1) := by decide +kernel
theorem dL_law_561 : decode cL_law 561 = .ok (.iaload, 1) := by decide +kernel
theorem dL_law_562 : decode cL_law 562 = .ok (.invokevirtual 91, 3) := by decide +kernel
theorem dL_law_565 : decode cL_law 565 = .ok (.if_icmp .eq 19, 3) := by decide +kernel
theorem dL_law_568 : decode cL_law 568 = .ok (.iconst 0, 1) := by decide +kernel
theorem dL_law_569 : decode cL_law 569 = .ok (.ireturn, 1) := by decide +kernel
theorem dL_law_570 : decode cL_law 570 = .ok (.aload_n 1, 1) := by decide +kernel
theorem dL_law_571 : decode cL_law 571 = .ok (.invokevirtual 92, 3) := by decide +kernel
theorem dL_law_574 : decode cL_law 574 = .ok (.aload_n 2, 1) := by decide +kernel
theorem dL_law_575 : decode cL_law 575 = .ok (.invokevirtual 96, 3) := by decide +kernel
theorem dL_law_578 : decode cL_law 578 = .ok (.lcmp, 1) := by decide +kernel
theorem dL_law_579 : decode cL_law 579 = .ok (.ifCond .eq 5, 3) := by decide +kernel
theorem dL_law_582 : decode cL_law 582 = .ok (.iconst 0, 1) := by decide +kernel
theorem dL_law_583 : decode cL_law 583 = .ok (.ireturn, 1) := by decide +kernel
theorem dL_law_584 : decode cL_law 584 = .ok (.iinc 3 5, 3) := by decide +kernel
theorem dL_law_587 : decode cL_law 587 = .ok (.goto (-569), 3) := by decide +kernel
theorem dL_law_590 : decode cL_law 590 = .ok (.iconst 1, 1) := by decide +kernel
theorem dL_law_591 : decode cL_law 591 = .ok (.ireturn, 1) := by decide +kernel
end
section
/-! what holds through a method, and the judgement over worlds: gq_V -/
def gq_N (U : State) : Prop := va_Nw (.methodLinkNest RX6 9 yX3_init "GuessFetch") U ∧ va_Nw (.methodLinkNest RX6 18 yX0_init "GuessFetch") U ∧ va_Nw (.methodLinkNest RX6 32 yX4_init "GuessFetch") U ∧ va_Nw (.methodLinkNest RX0 51 yX6_isTurn "GuessFetch") U ∧ va_Nw (.methodLinkNest RX1 74 yX6_isBranch "GuessFetch") U
def gq_K (D : va_G) (cA : ClassId) (U : State) : Prop := va_K D vwCl [(cA, .int)] U ∧ gq_N U
theorem gq_K.warm {D : va_G} {cA : ClassId} {s U : State} (h : gq_K D cA s) (hW : s.WarmedH U.vm) : gq_K D cA U :=
  ⟨va_K.moved hW.alike h.1, va_Nw.warmM hW h.2.1, va_Nw.warmM hW h.2.2.1, va_Nw.warmM hW h.2.2.2.1, va_Nw.warmM hW h.2.2.2.2.1, va_Nw.warmM hW h.2.2.2.2.2⟩
theorem gq_K.calling {D : va_G} {cA : ClassId} {U : State} {g : JFrame} {mk : MethodId} {a : Array Value} (h : gq_K D cA U) : gq_K D cA (U.calling g mk a) :=
  ⟨va_K.moved (u := U) (U := U.calling g mk a) (Vm.Alike.refl U.vm) h.1, va_Nw.same rfl (u := U) (U := U.calling g mk a) rfl h.2.1, va_Nw.same rfl (u := U) (U := U.calling g mk a) rfl h.2.2.1, va_Nw.same rfl (u := U) (U := U.calling g mk a) rfl h.2.2.2.1, va_Nw.same rfl (u := U) (U := U.calling g mk a) rfl h.2.2.2.2.1, va_Nw.same rfl (u := U) (U := U.calling g mk a) rfl h.2.2.2.2.2⟩
def gq_X (p : Program) (s : State) (m : MethodId) (args : Array Value) (meth : Method) (c : Code) (cc : ByteArray) (nL : Nat) (Ts : List Cond) (own : String) (ret : Option FieldType) (D : va_G) (cA : ClassId) (A : Nat → Prop) : Prop :=
  p.tables.exec = Jvm.exec ∧ c.code = cc ∧ c.maxLocals = nL ∧ s.vm.findClass own = some m.cls ∧ (∀ w ∈ Ts, w.before args s = true) ∧ meth.sig.returnType = ret ∧ meth.locks = false ∧ gq_K D cA s ∧ ∀ q : Nat, s.heap.size ≤ q → A q
def gq_V (p : Program) (l : Launch) (e : Env) (R : Room) (s : State) (m : MethodId) (args : Array Value) (below : List Frame) (meth : Method) (c : Code) (nL : Nat) (D : va_G) (A : Nat → Prop) (cells slots : Nat) (Z : State → Prop) (ws : va_W) (lv : List (Nat × Value)) (pc : Nat) (st : List Value) : Prop :=
  ∀ (H : Heap) (locs : List Loc) (ls : Array Slot), va_P D vwCl ws H → va_D A ws → va_S A s.heap H locs → lv_has ls nL lv → W p l e R s m args below meth c H locs cells slots Z (F0 m pc ls st)
def gq_b (b : Bool) : Int32 := if b then 1 else 0
theorem gq_b0 {b : Bool} : gq_b b = 0 ↔ b = false := by cases b <;> simp [gq_b] <;> decide
theorem gq_bt {b : Bool} (h : b = true) : (1 : Int32) = gq_b b := by rw [h]; rfl
theorem gq_bf {b : Bool} (h : b = false) : (0 : Int32) = gq_b b := by rw [h]; rfl
/-- remainder, as the machine has it -/
def gq_rem (x y : Int32) : Int32 := x - x / y * y
/-- an index of an array -/
abbrev gq_ix (i : Int32) : Nat := i.toNatClampNeg
section GQR
variable {p : Program} {l : Launch} {e : Env} {R : Room} {s : State} {m : MethodId} {args : Array Value} {below : List Frame} {meth : Method} {c : Code} {cells slots : Nat} {Z : State → Prop}
variable {cc : ByteArray} {pc nL : Nat} {st : List Value} {lv : List (Nat × Value)} {ws : va_W} {Ts : List Cond} {own : String} {ret : Option FieldType} {D : va_G} {cA : ClassId} {A : Nat → Prop}
theorem gq_eqw {ws' : va_W} (h : ws = ws') (kk : gq_V p l e R s m args below meth c nL D A cells slots Z ws' lv pc st) : gq_V p l e R s m args below meth c nL D A cells slots Z ws lv pc st := by subst h; exact kk
theorem gq_eqst {st' : List Value} (h : st = st') (kk : gq_V p l e R s m args below meth c nL D A cells slots Z ws lv pc st') : gq_V p l e R s m args below meth c nL D A cells slots Z ws lv pc st := by subst h; exact kk
theorem gq_eqlv {lv' : List (Nat × Value)} (ks : List Nat) (h : lv_pick lv ks = lv') (kk : gq_V p l e R s m args below meth c nL D A cells slots Z ws lv' pc st) : gq_V p l e R s m args below meth c nL D A cells slots Z ws lv pc st := fun H locs ls hP hD hS hl => kk H locs ls hP hD hS (lv_sub hl ks h)
theorem gq_widen {k n : Nat} (hk : cells ≤ k) (hn : slots ≤ n) (kk : gq_V p l e R s m args below meth c nL D A k n Z ws lv pc st) : gq_V p l e R s m args below meth c nL D A cells slots Z ws lv pc st := fun H locs ls hP hD hS hl => W.widen hk hn (kk H locs ls hP hD hS hl)

theorem gq_iload_n (X : gq_X p s m args meth c cc nL Ts own ret D cA A) {k : Fin 4} {x : Int32} (hdg : decode cc pc = .ok (.iload_n k, 1)) (j : Nat) (hj : lv[j]? = some ((k : Nat), .int x)) (kk : gq_V p l e R s m args below meth c nL D A cells slots Z ws lv (pc + 1) (.int x :: st)) : gq_V p l e R s m args below meth c nL D A cells slots Z ws lv pc st := fun H locs ls hP hD hS hl => lv_iload_n X.1 X.2.1 hdg rfl (lv_at hl j hj) (kk H locs ls hP hD hS hl)
theorem gq_aload_n (X : gq_X p s m args meth c cc nL Ts own ret D cA A) {k : Fin 4} {x : Nat} (hdg : decode cc pc = .ok (.aload_n k, 1)) (j : Nat) (hj : lv[j]? = some ((k : Nat), .ref x)) (kk : gq_V p l e R s m args below meth c nL D A cells slots Z ws lv (pc + 1) (.ref x :: st)) : gq_V p l e R s m args below meth c nL D A cells slots Z ws lv pc st := fun H locs ls hP hD hS hl => lv_aload_n X.1 X.2.1 hdg rfl (lv_at hl j hj) (kk H locs ls hP hD hS hl)
theorem gq_lload_n (X : gq_X p s m args meth c cc nL Ts own ret D cA A) {k : Fin 4} {x : Int64} (hdg : decode cc pc = .ok (.lload_n k, 1)) (j : Nat) (hj : lv[j]? = some ((k : Nat), .long x)) (kk : gq_V p l e R s m args below meth c nL D A cells slots Z ws lv (pc + 1) (.long x :: st)) : gq_V p l e R s m args below meth c nL D A cells slots Z ws lv pc st := fun H locs ls hP hD hS hl => lv_lload_n X.1 X.2.1 hdg rfl (lv_at hl j hj) (kk H locs ls hP hD hS hl)
theorem gq_iload (X : gq_X p s m args meth c cc nL Ts own ret D cA A) {i : Nat} {x : Int32} (hdg : decode cc pc = .ok (.iload i, 2)) (j : Nat) (hj : lv[j]? = some (i, .int x)) (kk : gq_V p l e R s m args below meth c nL D A cells slots Z ws lv (pc + 2) (.int x :: st)) : gq_V p l e R s m args below meth c nL D A cells slots Z ws lv pc st := fun H locs ls hP hD hS hl => lv_iload X.1 X.2.1 hdg (lv_at hl j hj) (kk H locs ls hP hD hS hl)
theorem gq_aload (X : gq_X p s m args meth c cc nL Ts own ret D cA A) {i : Nat} {x : Nat} (hdg : decode cc pc = .ok (.aload i, 2)) (j : Nat) (hj : lv[j]? = some (i, .ref x)) (kk : gq_V p l e R s m args below meth c nL D A cells slots Z ws lv (pc + 2) (.ref x :: st)) : gq_V p l e R s m args below meth c nL D A cells slots Z ws lv pc st := fun H locs ls hP hD hS hl => lv_aload X.1 X.2.1 hdg (lv_at hl j hj) (kk H locs ls hP hD hS hl)
theorem gq_istore_n (X : gq_X p s m args meth c cc nL Ts own ret D cA A) {k : Fin 4} {x : Int32} {lv' : List (Nat × Value)} (hdg : decode cc pc = .ok (.istore_n k, 1)) (hn : (k : Nat) < nL) (hv : ((k : Nat), Value.int x) :: lv.filter (fun q => !(q.1 == (k : Nat)) && !(q.1 + 1 == (k : Nat) && q.2.category == 2)) = lv') (kk : gq_V p l e R s m args below meth c nL D A cells slots Z ws lv' (pc + 1) st) : gq_V p l e R s m args below meth c nL D A cells slots Z ws lv pc (.int x :: st) := fun H locs ls hP hD hS hl => lv_istore_n X.1 X.2.1 hdg rfl hl hn hv (fun ls hl => kk H locs ls hP hD hS hl)
theorem gq_istore (X : gq_X p s m args meth c cc nL Ts own ret D cA A) {i : Nat} {x : Int32} {lv' : List (Nat × Value)} (hdg : decode cc pc = .ok (.istore i, 2)) (hn : i < nL) (hv : (i, Value.int x) :: lv.filter (fun q => !(q.1 == i) && !(q.1 + 1 == i && q.2.category == 2)) = lv') (kk : gq_V p l e R s m args below meth c nL D A cells slots Z ws lv' (pc + 2) st) : gq_V p l e R s m args below meth c nL D A cells slots Z ws lv pc (.int x :: st) := fun H locs ls hP hD hS hl => lv_istore X.1 X.2.1 hdg hl hn hv (fun ls hl => kk H locs ls hP hD hS hl)
theorem gq_astore_n (X : gq_X p s m args meth c cc nL Ts own ret D cA A) {k : Fin 4} {x : Nat} {lv' : List (Nat × Value)} (hdg : decode cc pc = .ok (.astore_n k, 1)) (hn : (k : Nat) < nL) (hv : ((k : Nat), Value.ref x) :: lv.filter (fun q => !(q.1 == (k : Nat)) && !(q.1 + 1 == (k : Nat) && q.2.category == 2)) = lv') (kk : gq_V p l e R s m args below meth c nL D A cells slots Z ws lv' (pc + 1) st) : gq_V p l e R s m args below meth c nL D A cells slots Z ws lv pc (.ref x :: st) := fun H locs ls hP hD hS hl => lv_astore_n X.1 X.2.1 hdg rfl hl hn hv (fun ls hl => kk H locs ls hP hD hS hl)
theorem gq_astore (X : gq_X p s m args meth c cc nL Ts own ret D cA A) {i : Nat} {x : Nat} {lv' : List (Nat × Value)} (hdg : decode cc pc = .ok (.astore i, 2)) (hn : i < nL) (hv : (i, Value.ref x) :: lv.filter (fun q => !(q.1 == i) && !(q.1 + 1 == i && q.2.category == 2)) = lv') (kk : gq_V p l e R s m args below meth c nL D A cells slots Z ws lv' (pc + 2) st) : gq_V p l e R s m args below meth c nL D A cells slots Z ws lv pc (.ref x :: st) := fun H locs ls hP hD hS hl => lv_astore X.1 X.2.1 hdg hl hn hv (fun ls hl => kk H locs ls hP hD hS hl)
theorem gq_lstore_n (X : gq_X p s m args meth c cc nL Ts own ret D cA A) {k : Fin 4} {x : Int64} {lv' : List (Nat × Value)} (hdg : decode cc pc = .ok (.lstore_n k, 1)) (hn : (k : Nat) + 1 < nL) (hv : ((k : Nat), Value.long x) :: lv.filter (fun q => !(q.1 == (k : Nat)) && (!(q.1 == (k : Nat) + 1) && !(q.1 + 1 == (k : Nat) && q.2.category == 2))) = lv') (kk : gq_V p l e R s m args below meth c nL D A cells slots Z ws lv' (pc + 1) st) : gq_V p l e R s m args below meth c nL D A cells slots Z ws lv pc (.long x :: st) := fun H locs ls hP hD hS hl => lv_lstore_n X.1 X.2.1 hdg rfl hl hn hv (fun ls hl => kk H locs ls hP hD hS hl)
theorem gq_iinc (X : gq_X p s m args meth c cc nL Ts own ret D cA A) {i : Nat} {n : Int} {x v : Int32} {lv' : List (Nat × Value)} (hdg : decode cc pc = .ok (.iinc i n, 3)) (j : Nat) (hj : lv[j]? = some (i, .int x)) (hx : x + Int32.ofInt n = v) (hn : i < nL) (hv : (i, Value.int v) :: lv.filter (fun q => !(q.1 == i) && !(q.1 + 1 == i && q.2.category == 2)) = lv') (kk : gq_V p l e R s m args below meth c nL D A cells slots Z ws lv' (pc + 3) st) : gq_V p l e R s m args below meth c nL D A cells slots Z ws lv pc st := fun H locs ls hP hD hS hl => lv_iinc X.1 X.2.1 hdg hl (k := j) hj hx hn hv (fun ls hl => kk H locs ls hP hD hS hl)
theorem gq_iconst (X : gq_X p s m args meth c cc nL Ts own ret D cA A) {n : Int} {v : Int32} (hdg : decode cc pc = .ok (.iconst n, 1)) (hv : Int32.ofInt n = v) (kk : gq_V p l e R s m args below meth c nL D A cells slots Z ws lv (pc + 1) (.int v :: st)) : gq_V p l e R s m args below meth c nL D A cells slots Z ws lv pc st := fun H locs ls hP hD hS hl => lv_iconst X.1 X.2.1 hdg hv (kk H locs ls hP hD hS hl)
theorem gq_bipush (X : gq_X p s m args meth c cc nL Ts own ret D cA A) {n : Int} {v : Int32} (hdg : decode cc pc = .ok (.bipush n, 2)) (hv : (Int8.ofInt n).toInt32 = v) (kk : gq_V p l e R s m args below meth c nL D A cells slots Z ws lv (pc + 2) (.int v :: st)) : gq_V p l e R s m args below meth c nL D A cells slots Z ws lv pc st := fun H locs ls hP hD hS hl => lv_bipush X.1 X.2.1 hdg hv (kk H locs ls hP hD hS hl)
theorem gq_sipush (X : gq_X p s m args meth c cc nL Ts own ret D cA A) {n : Int} {v : Int32} (hdg : decode cc pc = .ok (.sipush n, 3)) (hv : (Int16.ofInt n).toInt32 = v) (kk : gq_V p l e R s m args below meth c nL D A cells slots Z ws lv (pc + 3) (.int v :: st)) : gq_V p l e R s m args below meth c nL D A cells slots Z ws lv pc st := fun H locs ls hP hD hS hl => lv_sipush X.1 X.2.1 hdg hv (kk H locs ls hP hD hS hl)
theorem gq_ldc (X : gq_X p s m args meth c cc nL Ts own ret D cA A) {index : Nat} {v : Int32} (hc : Cond.constant own index v ∈ Ts) (hdg : decode cc pc = .ok (.ldc index, 2)) (kk : gq_V p l e R s m args below meth c nL D A cells slots Z ws lv (pc + 2) (.int v :: st)) : gq_V p l e R s m args below meth c nL D A cells slots Z ws lv pc st := fun H locs ls hP hD hS hl => lv_ldc X.1 X.2.1 X.2.2.2.1 (X.2.2.2.2.1 _ hc) hdg (kk H locs ls hP hD hS hl)
theorem gq_ldc2 (X : gq_X p s m args meth c cc nL Ts own ret D cA A) {index : Nat} {v : Int64} (hc : Cond.constantLong own index v ∈ Ts) (hdg : decode cc pc = .ok (.ldc2_w index, 3)) (kk : gq_V p l e R s m args below meth c nL D A cells slots Z ws lv (pc + 3) (.long v :: st)) : gq_V p l e R s m args below meth c nL D A cells slots Z ws lv pc st := fun H locs ls hP hD hS hl => lv_ldc2 X.1 X.2.1 X.2.2.2.1 (X.2.2.2.2.1 _ hc) hdg (kk H locs ls hP hD hS hl)
theorem gq_iadd (X : gq_X p s m args meth c cc nL Ts own ret D cA A) {x y : Int32} (hdg : decode cc pc = .ok (.iadd, 1)) (kk : gq_V p l e R s m args below meth c nL D A cells slots Z ws lv (pc + 1) (.int (x + y) :: st)) : gq_V p l e R s m args below meth c nL D A cells slots Z ws lv pc (.int y :: .int x :: st) := fun H locs ls hP hD hS hl => lv_iadd X.1 X.2.1 hdg (kk H locs ls hP hD hS hl)
theorem gq_isub (X : gq_X p s m args meth c cc nL Ts own ret D cA A) {x y : Int32} (hdg : decode cc pc = .ok (.isub, 1)) (kk : gq_V p l e R s m args below meth c nL D A cells slots Z ws lv (pc + 1) (.int (x - y) :: st)) : gq_V p l e R s m args below meth c nL D A cells slots Z ws lv pc (.int y :: .int x :: st) := fun H locs ls hP hD hS hl => lv_isub X.1 X.2.1 hdg (kk H locs ls hP hD hS hl)
theorem gq_imul (X : gq_X p s m args meth c cc nL Ts own ret D cA A) {x y : Int32} (hdg : decode cc pc = .ok (.imul, 1)) (kk : gq_V p l e R s m args below meth c nL D A cells slots Z ws lv (pc + 1) (.int (x * y) :: st)) : gq_V p l e R s m args below meth c nL D A cells slots Z ws lv pc (.int y :: .int x :: st) := fun H locs ls hP hD hS hl => lv_imul X.1 X.2.1 hdg (kk H locs ls hP hD hS hl)
theorem gq_iand (X : gq_X p s m args meth c cc nL Ts own ret D cA A) {x y : Int32} (hdg : decode cc pc = .ok (.iand, 1)) (kk : gq_V p l e R s m args below meth c nL D A cells slots Z ws lv (pc + 1) (.int (x &&& y) :: st)) : gq_V p l e R s m args below meth c nL D A cells slots Z ws lv pc (.int y :: .int x :: st) := fun H locs ls hP hD hS hl => lv_iand X.1 X.2.1 hdg (kk H locs ls hP hD hS hl)
theorem gq_ior (X : gq_X p s m args meth c cc nL Ts own ret D cA A) {x y : Int32} (hdg : decode cc pc = .ok (.ior, 1)) (kk : gq_V p l e R s m args below meth c nL D A cells slots Z ws lv (pc + 1) (.int (x ||| y) :: st)) : gq_V p l e R s m args below meth c nL D A cells slots Z ws lv pc (.int y :: .int x :: st) := fun H locs ls hP hD hS hl => lv_ior X.1 X.2.1 hdg (kk H locs ls hP hD hS hl)
theorem gq_ixor (X : gq_X p s m args meth c cc nL Ts own ret D cA A) {x y : Int32} (hdg : decode cc pc = .ok (.ixor, 1)) (kk : gq_V p l e R s m args below meth c nL D A cells slots Z ws lv (pc + 1) (.int (x ^^^ y) :: st)) : gq_V p l e R s m args below meth c nL D A cells slots Z ws lv pc (.int y :: .int x :: st) := fun H locs ls hP hD hS hl => lv_ixor X.1 X.2.1 hdg (kk H locs ls hP hD hS hl)
theorem gq_ishl (X : gq_X p s m args meth c cc nL Ts own ret D cA A) {x y : Int32} (hdg : decode cc pc = .ok (.ishl, 1)) (kk : gq_V p l e R s m args below meth c nL D A cells slots Z ws lv (pc + 1) (.int (x <<< (y &&& 31)) :: st)) : gq_V p l e R s m args below meth c nL D A cells slots Z ws lv pc (.int y :: .int x :: st) := fun H locs ls hP hD hS hl => lv_ishl X.1 X.2.1 hdg (kk H locs ls hP hD hS hl)
theorem gq_irem (X : gq_X p s m args meth c cc nL Ts own ret D cA A) {x y : Int32} (hdg : decode cc pc = .ok (.irem, 1)) (hne : ¬ y = 0) (kk : gq_V p l e R s m args below meth c nL D A cells slots Z ws lv (pc + 1) (.int (gq_rem x y) :: st)) : gq_V p l e R s m args below meth c nL D A cells slots Z ws lv pc (.int y :: .int x :: st) := fun H locs ls hP hD hS hl => lv_irem X.1 X.2.1 hdg hne (kk H locs ls hP hD hS hl)
theorem gq_ladd (X : gq_X p s m args meth c cc nL Ts own ret D cA A) {x y : Int64} (hdg : decode cc pc = .ok (.ladd, 1)) (kk : gq_V p l e R s m args below meth c nL D A cells slots Z ws lv (pc + 1) (.long (x + y) :: st)) : gq_V p l e R s m args below meth c nL D A cells slots Z ws lv pc (.long y :: .long x :: st) := fun H locs ls hP hD hS hl => lv_ladd X.1 X.2.1 hdg (kk H locs ls hP hD hS hl)
theorem gq_lmul (X : gq_X p s m args meth c cc nL Ts own ret D cA A) {x y : Int64} (hdg : decode cc pc = .ok (.lmul, 1)) (kk : gq_V p l e R s m args below meth c nL D A cells slots Z ws lv (pc + 1) (.long (x * y) :: st)) : gq_V p l e R s m args below meth c nL D A cells slots Z ws lv pc (.long y :: .long x :: st) := fun H locs ls hP hD hS hl => lv_lmul X.1 X.2.1 hdg (kk H locs ls hP hD hS hl)
theorem gq_i2l (X : gq_X p s m args meth c cc nL Ts own ret D cA A) {x : Int32} (hdg : decode cc pc = .ok (.i2l, 1)) (kk : gq_V p l e R s m args below meth c nL D A cells slots Z ws lv (pc + 1) (.long x.toInt64 :: st)) : gq_V p l e R s m args below meth c nL D A cells slots Z ws lv pc (.int x :: st) := fun H locs ls hP hD hS hl => lv_i2l X.1 X.2.1 hdg rfl (kk H locs ls hP hD hS hl)
theorem gq_lcmp (X : gq_X p s m args meth c cc nL Ts own ret D cA A) {x y : Int64} (hdg : decode cc pc = .ok (.lcmp, 1)) (kk : gq_V p l e R s m args below meth c nL D A cells slots Z ws lv (pc + 1) (.int (lg_cmp x y) :: st)) : gq_V p l e R s m args below meth c nL D A cells slots Z ws lv pc (.long y :: .long x :: st) := fun H locs ls hP hD hS hl => W.lcmp X.1 X.2.1 hdg (kk H locs ls hP hD hS hl)
theorem gq_dup (X : gq_X p s m args meth c cc nL Ts own ret D cA A) {a : Value} (hdg : decode cc pc = .ok (.dup, 1)) (ha : a.category = 1) (kk : gq_V p l e R s m args below meth c nL D A cells slots Z ws lv (pc + 1) (a :: a :: st)) : gq_V p l e R s m args below meth c nL D A cells slots Z ws lv pc (a :: st) := fun H locs ls hP hD hS hl => lv_dup X.1 X.2.1 hdg ha (kk H locs ls hP hD hS hl)
theorem gq_dup2 (X : gq_X p s m args meth c cc nL Ts own ret D cA A) {a b : Value} (hdg : decode cc pc = .ok (.dup2, 1)) (ha : a.category = 1) (hb : b.category = 1) (kk : gq_V p l e R s m args below meth c nL D A cells slots Z ws lv (pc + 1) (a :: b :: a :: b :: st)) : gq_V p l e R s m args below meth c nL D A cells slots Z ws lv pc (a :: b :: st) := fun H locs ls hP hD hS hl => lv_dup2_11 X.1 X.2.1 hdg ha hb (kk H locs ls hP hD hS hl)
theorem gq_pop (X : gq_X p s m args meth c cc nL Ts own ret D cA A) {a : Value} (hdg : decode cc pc = .ok (.pop, 1)) (ha : a.category = 1) (kk : gq_V p l e R s m args below meth c nL D A cells slots Z ws lv (pc + 1) st) : gq_V p l e R s m args below meth c nL D A cells slots Z ws lv pc (a :: st) := fun H locs ls hP hD hS hl => lv_pop X.1 X.2.1 hdg ha (kk H locs ls hP hD hS hl)
theorem gq_goto (X : gq_X p s m args meth c cc nL Ts own ret D cA A) {off : Int} {tgt : Nat} (hdg : decode cc pc = .ok (.goto off, 3)) (ht : (pc : Int) + off = (tgt : Int)) (kk : gq_V p l e R s m args below meth c nL D A cells slots Z ws lv tgt st) : gq_V p l e R s m args below meth c nL D A cells slots Z ws lv pc st := fun H locs ls hP hD hS hl => lv_goto X.1 X.2.1 hdg ht (kk H locs ls hP hD hS hl)
theorem gq_if_eq (X : gq_X p s m args meth c cc nL Ts own ret D cA A) {x : Int32} {off : Int} {tgt : Nat} (hdg : decode cc pc = .ok (.ifCond .eq off, 3)) (ht : (pc : Int) + off = (tgt : Int)) (kt : x = 0 → gq_V p l e R s m args below meth c nL D A cells slots Z ws lv tgt st) (kf : ¬ x = 0 → gq_V p l e R s m args below meth c nL D A cells slots Z ws lv (pc + 3) st) : gq_V p l e R s m args below meth c nL D A cells slots Z ws lv pc (.int x :: st) := fun H locs ls hP hD hS hl => lv_if_eq X.1 X.2.1 hdg ht (fun h => kt h H locs ls hP hD hS hl) (fun h => kf h H locs ls hP hD hS hl)
theorem gq_if_ne (X : gq_X p s m args meth c cc nL Ts own ret D cA A) {x : Int32} {off : Int} {tgt : Nat} (hdg : decode cc pc = .ok (.ifCond .ne off, 3)) (ht : (pc : Int) + off = (tgt : Int)) (kt : ¬ x = 0 → gq_V p l e R s m args below meth c nL D A cells slots Z ws lv tgt st) (kf : x = 0 → gq_V p l e R s m args below meth c nL D A cells slots Z ws lv (pc + 3) st) : gq_V p l e R s m args below meth c nL D A cells slots Z ws lv pc (.int x :: st) := fun H locs ls hP hD hS hl => lv_if_ne X.1 X.2.1 hdg ht (fun h => kt h H locs ls hP hD hS hl) (fun h => kf h H locs ls hP hD hS hl)
theorem gq_if_lt (X : gq_X p s m args meth c cc nL Ts own ret D cA A) {x : Int32} {off : Int} {tgt : Nat} (hdg : decode cc pc = .ok (.ifCond .lt off, 3)) (ht : (pc : Int) + off = (tgt : Int)) (kt : x < 0 → gq_V p l e R s m args below meth c nL D A cells slots Z ws lv tgt st) (kf : ¬ x < 0 → gq_V p l e R s m args below meth c nL D A cells slots Z ws lv (pc + 3) st) : gq_V p l e R s m args below meth c nL D A cells slots Z ws lv pc (.int x :: st) := fun H locs ls hP hD hS hl => lv_if_lt X.1 X.2.1 hdg ht (fun h => kt h H locs ls hP hD hS hl) (fun h => kf h H locs ls hP hD hS hl)
theorem gq_if_ge (X : gq_X p s m args meth c cc nL Ts own ret D cA A) {x : Int32} {off : Int} {tgt : Nat} (hdg : decode cc pc = .ok (.ifCond .ge off, 3)) (ht : (pc : Int) + off = (tgt : Int)) (kt : 0 ≤ x → gq_V p l e R s m args below meth c nL D A cells slots Z ws lv tgt st) (kf : ¬ 0 ≤ x → gq_V p l e R s m args below meth c nL D A cells slots Z ws lv (pc + 3) st) : gq_V p l e R s m args below meth c nL D A cells slots Z ws lv pc (.int x :: st) := fun H locs ls hP hD hS hl => lv_if_ge X.1 X.2.1 hdg ht (fun h => kt h H locs ls hP hD hS hl) (fun h => kf h H locs ls hP hD hS hl)
theorem gq_if_gt (X : gq_X p s m args meth c cc nL Ts own ret D cA A) {x : Int32} {off : Int} {tgt : Nat} (hdg : decode cc pc = .ok (.ifCond .gt off, 3)) (ht : (pc : Int) + off = (tgt : Int)) (kt : 0 < x → gq_V p l e R s m args below meth c nL D A cells slots Z ws lv tgt st) (kf : ¬ 0 < x → gq_V p l e R s m args below meth c nL D A cells slots Z ws lv (pc + 3) st) : gq_V p l e R s m args below meth c nL D A cells slots Z ws lv pc (.int x :: st) := fun H locs ls hP hD hS hl => lv_if_gt X.1 X.2.1 hdg ht (fun h => kt h H locs ls hP hD hS hl) (fun h => kf h H locs ls hP hD hS hl)
theorem gq_if_le (X : gq_X p s m args meth c cc nL Ts own ret D cA A) {x : Int32} {off : Int} {tgt : Nat} (hdg : decode cc pc = .ok (.ifCond .le off, 3)) (ht : (pc : Int) + off = (tgt : Int)) (kt : x ≤ 0 → gq_V p l e R s m args below meth c nL D A cells slots Z ws lv tgt st) (kf : ¬ x ≤ 0 → gq_V p l e R s m args below meth c nL D A cells slots Z ws lv (pc + 3) st) : gq_V p l e R s m args below meth c nL D A cells slots Z ws lv pc (.int x :: st) := fun H locs ls hP hD hS hl => lv_if_le X.1 X.2.1 hdg ht (fun h => kt h H locs ls hP hD hS hl) (fun h => kf h H locs ls hP hD hS hl)
theorem gq_icmp_eq (X : gq_X p s m args meth c cc nL Ts own ret D cA A) {x y : Int32} {off : Int} {tgt : Nat} (hdg : decode cc pc = .ok (.if_icmp .eq off, 3)) (ht : (pc : Int) + off = (tgt : Int)) (kt : x = y → gq_V p l e R s m args below meth c nL D A cells slots Z ws lv tgt st) (kf : ¬ x = y → gq_V p l e R s m args below meth c nL D A cells slots Z ws lv (pc + 3) st) : gq_V p l e R s m args below meth c nL D A cells slots Z ws lv pc (.int y :: .int x :: st) := fun H locs ls hP hD hS hl => lv_icmp_eq X.1 X.2.1 hdg ht (fun h => kt h H locs ls hP hD hS hl) (fun h => kf h H locs ls hP hD hS hl)
theorem gq_icmp_ne (X : gq_X p s m args meth c cc nL Ts own ret D cA A) {x y : Int32} {off : Int} {tgt : Nat} (hdg : decode cc pc = .ok (.if_icmp .ne off, 3)) (ht : (pc : Int) + off = (tgt : Int)) (kt : ¬ x = y → gq_V p l e R s m args below meth c nL D A cells slots Z ws lv tgt st) (kf : x = y → gq_V p l e R s m args below meth c nL D A cells slots Z ws lv (pc + 3) st) : gq_V p l e R s m args below meth c nL D A cells slots Z ws lv pc (.int y :: .int x :: st) := fun H locs ls hP hD hS hl => lv_icmp_ne X.1 X.2.1 hdg ht (fun h => kt h H locs ls hP hD hS hl) (fun h => kf h H locs ls hP hD hS hl)
theorem gq_icmp_lt (X : gq_X p s m args meth c cc nL Ts own ret D cA A) {x y : Int32} {off : Int} {tgt : Nat} (hdg : decode cc pc = .ok (.if_icmp .lt off, 3)) (ht : (pc : Int) + off = (tgt : Int)) (kt : x < y → gq_V p l e R s m args below meth c nL D A cells slots Z ws lv tgt st) (kf : ¬ x < y → gq_V p l e R s m args below meth c nL D A cells slots Z ws lv (pc + 3) st) : gq_V p l e R s m args below meth c nL D A cells slots Z ws lv pc (.int y :: .int x :: st) := fun H locs ls hP hD hS hl => lv_icmp_lt X.1 X.2.1 hdg ht (fun h => kt h H locs ls hP hD hS hl) (fun h => kf h H locs ls hP hD hS hl)
theorem gq_icmp_ge (X : gq_X p s m args meth c cc nL Ts own ret D cA A) {x y : Int32} {off : Int} {tgt : Nat} (hdg : decode cc pc = .ok (.if_icmp .ge off, 3)) (ht : (pc : Int) + off = (tgt : Int)) (kt : y ≤ x → gq_V p l e R s m args below meth c nL D A cells slots Z ws lv tgt st) (kf : ¬ y ≤ x → gq_V p l e R s m args below meth c nL D A cells slots Z ws lv (pc + 3) st) : gq_V p l e R s m args below meth c nL D A cells slots Z ws lv pc (.int y :: .int x :: st) := fun H locs ls hP hD hS hl => lv_icmp_ge X.1 X.2.1 hdg ht (fun h => kt h H locs ls hP hD hS hl) (fun h => kf h H locs ls hP hD hS hl)
theorem gq_icmp_gt (X : gq_X p s m args meth c cc nL Ts own ret D cA A) {x y : Int32} {off : Int} {tgt : Nat} (hdg : decode cc pc = .ok (.if_icmp .gt off, 3)) (ht : (pc : Int) + off = (tgt : Int)) (kt : y < x → gq_V p l e R s m args below meth c nL D A cells slots Z ws lv tgt st) (kf : ¬ y < x → gq_V p l e R s m args below meth c nL D A cells slots Z ws lv (pc + 3) st) : gq_V p l e R s m args below meth c nL D A cells slots Z ws lv pc (.int y :: .int x :: st) := fun H locs ls hP hD hS hl => lv_icmp_gt X.1 X.2.1 hdg ht (fun h => kt h H locs ls hP hD hS hl) (fun h => kf h H locs ls hP hD hS hl)
theorem gq_icmp_le (X : gq_X p s m args meth c cc nL Ts own ret D cA A) {x y : Int32} {off : Int} {tgt : Nat} (hdg : decode cc pc = .ok (.if_icmp .le off, 3)) (ht : (pc : Int) + off = (tgt : Int)) (kt : x ≤ y → gq_V p l e R s m args below meth c nL D A cells slots Z ws lv tgt st) (kf : ¬ x ≤ y → gq_V p l e R s m args below meth c nL D A cells slots Z ws lv (pc + 3) st) : gq_V p l e R s m args below meth c nL D A cells slots Z ws lv pc (.int y :: .int x :: st) := fun H locs ls hP hD hS hl => lv_icmp_le X.1 X.2.1 hdg ht (fun h => kt h H locs ls hP hD hS hl) (fun h => kf h H locs ls hP hD hS hl)
theorem gq_bif_eq (X : gq_X p s m args meth c cc nL Ts own ret D cA A) {x : Bool} {off : Int} {tgt : Nat} (hdg : decode cc pc = .ok (.ifCond .eq off, 3)) (ht : (pc : Int) + off = (tgt : Int)) (kt : x = false → gq_V p l e R s m args below meth c nL D A cells slots Z ws lv tgt st) (kf : x = true → gq_V p l e R s m args below meth c nL D A cells slots Z ws lv (pc + 3) st) : gq_V p l e R s m args below meth c nL D A cells slots Z ws lv pc (.int (gq_b x) :: st) := fun H locs ls hP hD hS hl => lv_if_eq X.1 X.2.1 hdg ht (fun h => kt (gq_b0.mp h) H locs ls hP hD hS hl) (fun h => kf (by cases x; exact absurd rfl h; rfl) H locs ls hP hD hS hl)
theorem gq_bif_ne (X : gq_X p s m args meth c cc nL Ts own ret D cA A) {x : Bool} {off : Int} {tgt : Nat} (hdg : decode cc pc = .ok (.ifCond .ne off, 3)) (ht : (pc : Int) + off = (tgt : Int)) (kt : x = true → gq_V p l e R s m args below meth c nL D A cells slots Z ws lv tgt st) (kf : x = false → gq_V p l e R s m args below meth c nL D A cells slots Z ws lv (pc + 3) st) : gq_V p l e R s m args below meth c nL D A cells slots Z ws lv pc (.int (gq_b x) :: st) := fun H locs ls hP hD hS hl => lv_if_ne X.1 X.2.1 hdg ht (fun h => kt (by cases x; exact absurd rfl h; rfl) H locs ls hP hD hS hl) (fun h => kf (gq_b0.mp h) H locs ls hP hD hS hl)
theorem gq_tin (X : gq_X p s m args meth c cc nL Ts own ret D cA A) {dflt lo hi : Int} {offs : Array Int} {len : Nat} {x k : Int32} {off : Int} {tgt : Nat} (hdg : decode cc pc = .ok (.tableswitch dflt lo hi offs, len)) (hx : x = k) (h1 : ¬ k.toInt < lo) (h2 : ¬ hi < k.toInt) (ho : offs[(k.toInt - lo).toNat]? = some off) (ht : (pc : Int) + off = (tgt : Int)) (kk : gq_V p l e R s m args below meth c nL D A cells slots Z ws lv tgt st) : gq_V p l e R s m args below meth c nL D A cells slots Z ws lv pc (.int x :: st) := fun H locs ls hP hD hS hl => lv_tableIn X.1 X.2.1 hdg (by rw [hx]; exact h1) (by rw [hx]; exact h2) (by rw [hx]; exact ho) ht (kk H locs ls hP hD hS hl)
theorem gq_tout (X : gq_X p s m args meth c cc nL Ts own ret D cA A) {dflt lo hi : Int} {offs : Array Int} {len : Nat} {x : Int32} {tgt : Nat} (hdg : decode cc pc = .ok (.tableswitch dflt lo hi offs, len)) (h : x.toInt < lo ∨ hi < x.toInt) (ht : (pc : Int) + dflt = (tgt : Int)) (kk : gq_V p l e R s m args below meth c nL D A cells slots Z ws lv tgt st) : gq_V p l e R s m args below meth c nL D A cells slots Z ws lv pc (.int x :: st) := fun H locs ls hP hD hS hl => lv_tableOut X.1 X.2.1 hdg h ht (kk H locs ls hP hD hS hl)
theorem gq_lsw (X : gq_X p s m args meth c cc nL Ts own ret D cA A) {dflt : Int} {ps : Array (Int × Int)} {len : Nat} {x : Int32} {off : Int} {tgt : Nat} (hdg : decode cc pc = .ok (.lookupswitch dflt ps, len)) (hp : (ps.toList.zip (ps.toList.drop 1)).all (fun (a, next) => a.1 < next.1) = true) (ho : Op.lookupswitch.offset ps.toList dflt x.toInt = off) (ht : (pc : Int) + off = (tgt : Int)) (kk : gq_V p l e R s m args below meth c nL D A cells slots Z ws lv tgt st) : gq_V p l e R s m args below meth c nL D A cells slots Z ws lv pc (.int x :: st) := fun H locs ls hP hD hS hl => lv_lookup X.1 X.2.1 hdg hp ho ht (kk H locs ls hP hD hS hl)
theorem gq_get (X : gq_X p s m args meth c cc nL Ts own ret D cA A) {C : String} {T : u_T} {N ci index a : Nat} (hin : ∀ w ∈ u_ws C T N, w ∈ Ts) (q0 : Nat) {fs : List Value} (he : ws[q0]? = some (a, .inr (ci, fs))) (hc : vwCl[ci]? = some (C, T, N)) (k : Nat) (hk : k < N) (hlink : Cond.fieldLink own index (T k).1 (T k).2.1 (T k).2.2.1 ∈ Ts) {v : Value} (hv : fs[k]? = some v) (hdg : decode cc pc = .ok (.getfield index, 3)) (kk : gq_V p l e R s m args below meth c nL D A cells slots Z ws lv (pc + 3) (v :: st)) : gq_V p l e R s m args below meth c nL D A cells slots Z ws lv pc (.ref a :: st) := fun H locs ls hP hD hS hl => va_get X.1 X.2.1 X.2.2.2.2.1 hin X.2.2.2.1 X.2.2.2.2.2.2.2.1.1 hP q0 he hc k hk (X.2.2.2.2.1 _ hlink) (fun _ h9 => h9) hv hdg (kk H locs ls hP hD hS hl)
theorem gq_put (X : gq_X p s m args meth c cc nL Ts own ret D cA A) {C : String} {T : u_T} {N ci index a : Nat} {ws' : va_W} (hin : ∀ w ∈ u_ws C T N, w ∈ Ts) (ty0 : Nat → FieldType) (hty : ∀ k, k < N → parseFieldDescriptor (T k).2.2.1 = some (ty0 k)) (hnm : ∀ a, a < N → ∀ b, b < N → a ≠ b → (T a).2.1 ≠ (T b).2.1) (q0 : Nat) {fs : List Value} (he : ws[q0]? = some (a, .inr (ci, fs))) (hc : vwCl[ci]? = some (C, T, N)) (k : Nat) (hk : k < N) (hlink : Cond.fieldLink own index (T k).1 (T k).2.1 (T k).2.2.1 ∈ Ts) (hfin : (T k).2.2.2 = false) {v : Value} (hn : narrow (ty0 k) v = v) (hfit : fits (ty0 k) v = true) (hl0 : k < fs.length) (hw : ws.set q0 (a, .inr (ci, fs.set k v)) = ws') (hdg : decode cc pc = .ok (.putfield index, 3)) (kk : gq_V p l e R s m args below meth c nL D A cells slots Z ws' lv (pc + 3) st) : gq_V p l e R s m args below meth c nL D A cells slots Z ws lv pc (v :: .ref a :: st) := fun H locs ls hP hD hS hl => va_put X.1 X.2.1 X.2.2.2.2.1 hin ty0 hty hnm X.2.2.2.1 X.2.2.2.2.2.2.2.1.1 hP hD hS q0 he hc k hk (X.2.2.2.2.1 _ hlink) (fun _ h9 => h9) hfin (hty k hk) hn hfit hl0 hdg (fun H locs hP hD hS => kk H locs ls (hw ▸ hP) (hw ▸ hD) hS hl)
theorem gq_putF (X : gq_X p s m args meth c cc nL Ts own ret D cA A) {C : String} {T : u_T} {N ci index a : Nat} {ws' : va_W} (hin2 : meth.name = "<init>") (hin : ∀ w ∈ u_ws C T N, w ∈ Ts) (ty0 : Nat → FieldType) (hty : ∀ k, k < N → parseFieldDescriptor (T k).2.2.1 = some (ty0 k)) (hnm : ∀ a, a < N → ∀ b, b < N → a ≠ b → (T a).2.1 ≠ (T b).2.1) (q0 : Nat) {fs : List Value} (he : ws[q0]? = some (a, .inr (ci, fs))) (hc : vwCl[ci]? = some (C, T, N)) (k : Nat) (hk : k < N) (hlink : Cond.fieldLink own index (T k).1 (T k).2.1 (T k).2.2.1 ∈ Ts) (hfin : (T k).2.2.2 = true) (hdecl : (T k).1 = own) {v : Value} (hn : narrow (ty0 k) v = v) (hfit : fits (ty0 k) v = true) (hl0 : k < fs.length) (hw : ws.set q0 (a, .inr (ci, fs.set k v)) = ws') (hdg : decode cc pc = .ok (.putfield index, 3)) (kk : gq_V p l e R s m args below meth c nL D A cells slots Z ws' lv (pc + 3) st) : gq_V p l e R s m args below meth c nL D A cells slots Z ws lv pc (v :: .ref a :: st) := fun H locs ls hP hD hS hl => va_putF X.1 X.2.1 X.2.2.2.2.1 hin ty0 hty hnm X.2.2.2.1 X.2.2.2.2.2.2.2.1.1 hP hD hS q0 he hc k hk (X.2.2.2.2.1 _ hlink) (fun _ h9 => h9) hfin hin2 hdecl (hty k hk) hn hfit hl0 hdg (fun H locs hP hD hS => kk H locs ls (hw ▸ hP) (hw ▸ hD) hS hl)
theorem gq_ald (X : gq_X p s m args meth c cc nL Ts own ret D cA A) {a n : Nat} {f : Nat → Int32} {i : Int32} (q0 : Nat) (ha : ws[q0]? = some (a, .inl (cA, n, .inl f))) (hi : vp_in i n) (hdg : decode cc pc = .ok (.iaload, 1)) (kk : gq_V p l e R s m args below meth c nL D A cells slots Z ws lv (pc + 1) (.int (f (gq_ix i)) :: st)) : gq_V p l e R s m args below meth c nL D A cells slots Z ws lv pc (.int i :: .ref a :: st) := fun H locs ls hP hD hS hl => va_iald X.1 X.2.1 X.2.2.2.2.2.2.2.1.1 hP q0 0 ha rfl hi hdg (kk H locs ls hP hD hS hl)
theorem gq_ast (X : gq_X p s m args meth c cc nL Ts own ret D cA A) {a n : Nat} {f : Nat → Int32} {i x : Int32} {ws' : va_W} (q0 : Nat) (ha : ws[q0]? = some (a, .inl (cA, n, .inl f))) (hi : vp_in i n) (hw : ws.set q0 (a, .inl (cA, n, .inl (upd f (gq_ix i) x))) = ws') (hdg : decode cc pc = .ok (.iastore, 1)) (kk : gq_V p l e R s m args below meth c nL D A cells slots Z ws' lv (pc + 1) st) : gq_V p l e R s m args below meth c nL D A cells slots Z ws lv pc (.int x :: .int i :: .ref a :: st) := fun H locs ls hP hD hS hl => va_iast X.1 X.2.1 X.2.2.2.2.2.2.2.1.1 hP hD hS q0 0 ha rfl hi hdg (fun H locs hP hD hS => kk H locs ls (hw ▸ hP) (hw ▸ hD) hS hl)
theorem gq_alen (X : gq_X p s m args meth c cc nL Ts own ret D cA A) {a n : Nat} {f : Nat → Int32} {v : Int32} (q0 : Nat) (ha : ws[q0]? = some (a, .inl (cA, n, .inl f))) (hv : Int32.ofNat n = v) (hdg : decode cc pc = .ok (.arraylength, 1)) (kk : gq_V p l e R s m args below meth c nL D A cells slots Z ws lv (pc + 1) (.int v :: st)) : gq_V p l e R s m args below meth c nL D A cells slots Z ws lv pc (.ref a :: st) := fun H locs ls hP hD hS hl => va_alen X.1 X.2.1 X.2.2.2.2.2.2.2.1.1 hP q0 0 ha rfl hv hdg (kk H locs ls hP hD hS hl)
theorem gq_mmax (X : gq_X p s m args meth c cc nL Ts own ret D cA A) {index : Nat} {x y : Int32} (h1 : Cond.methodLink own index Lib.Math.max.name ∈ Ts) (h2 : Cond.static Lib.Math.max.name ∈ Ts) (h3 : Cond.initialized "java/lang/Math" ∈ Ts) (h4 : Cond.code Lib.Math.max.name Lib.Math.max.code 2 (some .int) ∈ Ts) (hf : 1 ≤ R.frames) (hr : (st.map fun v => v.category).sum + 13 ≤ R.locals) (hcs : cells ≤ R.cells ∧ slots ≤ R.slots) (hdg : decode cc pc = .ok (.invokestatic index, 3)) (kk : gq_V p l e R s m args below meth c nL D A cells slots Z ws lv (pc + 3) (.int (if x < y then y else x) :: st)) : gq_V p l e R s m args below meth c nL D A cells slots Z ws lv pc (.int y :: .int x :: st) := fun H locs ls hP hD hS hl => va_mmax X.1 X.2.1 (X.2.2.1.trans hl.1.symm) X.2.2.2.1 (X.2.2.2.2.1 _ h1) (X.2.2.2.2.1 _ h2) (X.2.2.2.2.1 _ h3) (X.2.2.2.2.1 _ h4) hf hr hcs.1 hcs.2 hdg (kk H locs ls hP hD hS hl)
theorem gq_mmin (X : gq_X p s m args meth c cc nL Ts own ret D cA A) {index : Nat} {x y : Int32} (h1 : Cond.methodLink own index Lib.Math.min.name ∈ Ts) (h2 : Cond.static Lib.Math.min.name ∈ Ts) (h3 : Cond.initialized "java/lang/Math" ∈ Ts) (h4 : Cond.code Lib.Math.min.name Lib.Math.min.code 2 (some .int) ∈ Ts) (hf : 1 ≤ R.frames) (hr : (st.map fun v => v.category).sum + 13 ≤ R.locals) (hcs : cells ≤ R.cells ∧ slots ≤ R.slots) (hdg : decode cc pc = .ok (.invokestatic index, 3)) (kk : gq_V p l e R s m args below meth c nL D A cells slots Z ws lv (pc + 3) (.int (if y < x then y else x) :: st)) : gq_V p l e R s m args below meth c nL D A cells slots Z ws lv pc (.int y :: .int x :: st) := fun H locs ls hP hD hS hl => va_mmin X.1 X.2.1 (X.2.2.1.trans hl.1.symm) X.2.2.2.1 (X.2.2.2.2.1 _ h1) (X.2.2.2.2.1 _ h2) (X.2.2.2.2.1 _ h3) (X.2.2.2.2.1 _ h4) hf hr hcs.1 hcs.2 hdg (kk H locs ls hP hD hS hl)
end GQR
def gq_Q (D : va_G) (res : Option Value) (w' : va_W) (A : Nat → Prop) : Array Value → State → Outcome → State → Prop := fun _ st oc t => (oc = .returned res ∧ va_P D vwCl w' t.heap) ∧ va_F A st t
def gq_B (D : va_G) (cA : ClassId) (w : va_W) (sz : Nat) : State → Prop := fun U => U.heap.size = sz ∧ va_P D vwCl w U.heap ∧ gq_K D cA U ∧ va_D (fun _ => True) w
/-- a method's contract: it makes nothing, its answer is res, its world w becomes w' -/
def gq_C (l : Launch) (y : MethodName) (Ts : List Cond) (rm : Room) (D : va_G) (cA : ClassId) (av : List Value) (w : va_W) (res : Option Value) (w' : va_W) : Prop :=
  ∀ sz : Nat, Met l y Ts rm (va_Pc av (gq_B D cA w sz)) (gq_Q D res w' (va_A w sz)) 0 0 (va_A w sz)
def gq_Zm (below : List Frame) (D : va_G) (res : Option Value) (w' : va_W) (A : Nat → Prop) (args : Array Value) (s : State) (mc ms : Nat) : State → Prop := MQ below (gq_Q D res w' A) args s mc ms A
theorem gq_open {l : Launch} {y : MethodName} {Ts ws' : List Cond} {rm : Room} {D : va_G} {cA : ClassId} {av : List Value} {w : va_W} {res : Option Value} {w' : va_W} {cc : ByteArray} {maxL : Nat} {ret : Option FieldType} {own : String} {lv : List (Nat × Value)}
    (hy : plainName y.cls = true) (hw : Ts = Cond.code y cc maxL ret :: ws') (ho : y.cls = own) (hlen : (lg_sl av).length ≤ maxL) (hlv : lv_args 0 av = lv)
    (body : ∀ (p : Program) (e : Env) (s : State) (m : MethodId) (args : Array Value) (below : List Frame) (meth : Method) (c : Code) (A : Nat → Prop), gq_X p s m args meth c cc maxL Ts own ret D cA A → gq_V p l e rm s m args below meth c maxL D A 0 0 (gq_Zm below D res w' A args s 0 0) w lv 0 []) : gq_C l y Ts rm D cA av w res w' := by
  intro sz
  refine Met.ofW (cc := cc) (maxL := maxL) (ret := ret) hy hw ?_
  intro p e s m args below meth c s₁ B hml hv
  obtain ⟨rfl, hsz, hP, hK, hD0⟩ := hv
  have hown : s.vm.findClass own = some m.cls := by rw [← ho]; exact findClass_of_methodNamed B.named
  subst hsz
  have hD := hD0.self (sz := s.heap.size)
  have hA : ∀ q : Nat, s.heap.size ≤ q → va_A w s.heap.size q := fun q h => Or.inr h
  have hl := lv_entry av (n := maxL) hlen
  rw [lg_entry_eq]
  exact body p e s m av.toArray below meth c (va_A w s.heap.size) ⟨B.exec, B.bytes, hml, hown, atoms_spec (ws := Ts) B.pre, B.returns, B.notSynchronized, hK, hA⟩ s.heap [] _ hP hD va_S.rf (hlv ▸ hl)
section GQE
variable {p : Program} {l : Launch} {e : Env} {R : Room} {s : State} {m : MethodId} {args : Array Value} {below : List Frame} {meth : Method} {c : Code} {cells slots : Nat} {Z : State → Prop}
variable {cc : ByteArray} {pc nL : Nat} {st : List Value} {lv : List (Nat × Value)} {ws : va_W} {Ts : List Cond} {own : String} {ret : Option FieldType} {D : va_G} {cA : ClassId} {A : Nat → Prop}

theorem gq_iret (X : gq_X p s m args meth c cc nL Ts own (some .int) D cA A) {v : Int32} {res : Option Value} {w' : va_W} (hdg : decode cc pc = .ok (.ireturn, 1)) (hr : some (.int v) = res) (hw : ws = w') : gq_V p l e R s m args below meth c nL D A cells slots (gq_Zm below D res w' A args s cells slots) ws lv pc [.int v] := fun H locs ls hP hD hS hl => by subst hr; exact W.iret X.1 X.2.1 X.2.2.2.2.2.1 (fun t ht _ => ⟨⟨rfl, by rw [ht, ← hw]; exact hP⟩, hS.F ht⟩) hS.2.2 hdg X.2.2.2.2.2.2.1
theorem gq_zret (X : gq_X p s m args meth c cc nL Ts own (some .boolean) D cA A) {v : Int32} {b : Bool} {res : Option Value} {w' : va_W} (hdg : decode cc pc = .ok (.ireturn, 1)) (hv : v = gq_b b) (hr : some (.int (gq_b b)) = res) (hw : ws = w') : gq_V p l e R s m args below meth c nL D A cells slots (gq_Zm below D res w' A args s cells slots) ws lv pc [.int v] := fun H locs ls hP hD hS hl => by subst hr; subst hv; exact W.zret X.1 X.2.1 X.2.2.2.2.2.1 (by cases b <;> rfl) (fun t ht _ => ⟨⟨rfl, by rw [ht, ← hw]; exact hP⟩, hS.F ht⟩) hS.2.2 hdg X.2.2.2.2.2.2.1
theorem gq_lret (X : gq_X p s m args meth c cc nL Ts own (some .long) D cA A) {v : Int64} {res : Option Value} {w' : va_W} (hdg : decode cc pc = .ok (.lreturn, 1)) (hr : some (.long v) = res) (hw : ws = w') : gq_V p l e R s m args below meth c nL D A cells slots (gq_Zm below D res w' A args s cells slots) ws lv pc [.long v] := fun H locs ls hP hD hS hl => by subst hr; exact W.lret X.1 X.2.1 X.2.2.2.2.2.1 (fun t ht _ => ⟨⟨rfl, by rw [ht, ← hw]; exact hP⟩, hS.F ht⟩) hS.2.2 hdg X.2.2.2.2.2.2.1
theorem gq_vret (X : gq_X p s m args meth c cc nL Ts own none D cA A) {res : Option Value} {w' : va_W} (hdg : decode cc pc = .ok (.return_, 1)) (hr : none = res) (hw : ws = w') : gq_V p l e R s m args below meth c nL D A cells slots (gq_Zm below D res w' A args s cells slots) ws lv pc [] := fun H locs ls hP hD hS hl => by subst hr; exact W.vret X.1 X.2.1 X.2.2.2.2.2.1 (fun t ht _ => ⟨⟨rfl, by rw [ht, ← hw]; exact hP⟩, hS.F ht⟩) hS.2.2 hdg X.2.2.2.2.2.2.1
theorem gq_aret {cn : String} (X : gq_X p s m args meth c cc nL Ts own (some (.object cn)) D cA A) {a : Nat} {res : Option Value} {w' : va_W} (hdg : decode cc pc = .ok (.areturn, 1)) (hr : some (.ref a) = res) (hw : ws = w') : gq_V p l e R s m args below meth c nL D A cells slots (gq_Zm below D res w' A args s cells slots) ws lv pc [.ref a] := fun H locs ls hP hD hS hl => by subst hr; exact W.aret X.1 X.2.1 X.2.2.2.2.2.1 (Or.inl ⟨_, rfl⟩) (Or.inr ⟨_, rfl⟩) (fun t ht _ => ⟨⟨rfl, by rw [ht, ← hw]; exact hP⟩, hS.F ht⟩) hS.2.2 hdg X.2.2.2.2.2.2.1
end GQE
/-- a row of cells put back in its places -/
def gq_set (ws : va_W) : List Nat → va_W → va_W
  | i :: is, q :: w => gq_set (ws.set i q) is w
  | _, _ => ws
theorem gq_set_at : ∀ (is : List Nat) (w ws : va_W), is.length = w.length → ∀ (k : Nat) (q : Nat × va_E), (gq_set ws is w)[k]? = some q → (∃ j, is[j]? = some k ∧ w[j]? = some q) ∨ (k ∉ is ∧ ws[k]? = some q)
  | [], [], ws, _, k, q, h => Or.inr ⟨List.not_mem_nil, h⟩
  | i :: is, x :: w, ws, hlen, k, q, h => by
    have hl : is.length = w.length := by simpa using hlen
    rcases gq_set_at is w (ws.set i x) hl k q h with ⟨j, h1, h2⟩ | ⟨h1, h2⟩
    · exact Or.inl ⟨j + 1, h1, h2⟩
    · by_cases hk : i = k
      · subst hk
        left
        refine ⟨0, rfl, ?_⟩
        rw [List.getElem?_set] at h2
        simp only [if_true] at h2
        split at h2
        · exact h2
        · cases h2
      · right
        rw [List.getElem?_set, if_neg hk] at h2
        exact ⟨fun hm => (List.mem_cons.mp hm).elim (fun e => hk e.symm) h1, h2⟩
  | [], _ :: _, _, hlen, _, _, _ => by simp at hlen
  | _ :: _, [], _, hlen, _, _, _ => by simp at hlen
theorem gq_back {A : Nat → Prop} {D : va_G} {ws w w1 : va_W} {H H1 : Heap} (hP : va_P D vwCl ws H) (hD : va_D A ws) (is : List Nat) (hC : is.map (fun i => ws[i]?) = w.map some) (ha : w1.map Prod.fst = w.map Prod.fst)
    (hk : ∀ q : Nat, q < H.size → ¬ va_A w H.size q → H1[q]? = H[q]?) (hP1 : va_P D vwCl w1 H1) : va_P D vwCl (gq_set ws is w1) H1 ∧ va_D A (gq_set ws is w1) := by
  have hlen : is.length = w1.length := by
    have h1 := congrArg List.length hC
    have h2 := congrArg List.length ha
    simp only [List.length_map] at h1 h2
    rw [h1, h2]
  have hat : ∀ (j k : Nat) (q : Nat × va_E), is[j]? = some k → w1[j]? = some q → ∃ q0, w[j]? = some q0 ∧ ws[k]? = some q0 ∧ q0.1 = q.1 := by
    intro j k q h1 h2
    have h3 : (is.map (fun i => ws[i]?))[j]? = some (ws[k]?) := by rw [List.getElem?_map, h1]; rfl
    rw [hC, List.getElem?_map] at h3
    cases h4 : w[j]? with
    | none => rw [h4] at h3; cases h3
    | some q0 =>
      rw [h4] at h3
      have h5 : (w1.map Prod.fst)[j]? = some q.1 := by rw [List.getElem?_map, h2]; rfl
      rw [ha, List.getElem?_map, h4] at h5
      exact ⟨q0, rfl, (Option.some.inj h3).symm, Option.some.inj h5⟩
  have had : ∀ (k : Nat) (q : Nat × va_E), (gq_set ws is w1)[k]? = some q → ∃ q0, ws[k]? = some q0 ∧ q0.1 = q.1 := by
    intro k q h
    rcases gq_set_at is w1 ws hlen k q h with ⟨j, h1, h2⟩ | ⟨h1, h2⟩
    · obtain ⟨q0, -, h4, h5⟩ := hat j k q h1 h2
      exact ⟨q0, h4, h5⟩
    · exact ⟨q, h2, rfl⟩
  refine ⟨fun k q h => ?_, fun i j x y hx hy hxy => ?_, fun k q h => ?_⟩
  · rcases gq_set_at is w1 ws hlen k q h with ⟨j, h1, h2⟩ | ⟨h1, h2⟩
    · exact hP1 j q h2
    · have hlt := (hP k q h2).lt
      refine (hP k q h2).kept (hk q.1 hlt (fun hA => ?_))
      rcases hA with ⟨k2, e, h3⟩ | h3
      · have h4 : (is.map (fun i => ws[i]?))[k2]? = some (some (q.1, e)) := by rw [hC, List.getElem?_map, h3]; rfl
        rw [List.getElem?_map] at h4
        cases h5 : is[k2]? with
        | none => rw [h5] at h4; cases h4
        | some i =>
          rw [h5] at h4
          have h6 : ws[i]? = some (q.1, e) := Option.some.inj h4
          have h7 := hD.1 i k (q.1, e) q h6 h2 rfl
          subst h7
          exact h1 (List.mem_of_getElem? h5)
      · omega
  · obtain ⟨x0, h1, h2⟩ := had i x hx
    obtain ⟨y0, h3, h4⟩ := had j y hy
    exact hD.1 i j x0 y0 h1 h3 (by rw [h2, h4, hxy])
  · obtain ⟨q0, h1, h2⟩ := had k q h
    rw [← h2]
    exact hD.2 k q0 h1
section GQCALL
variable {p : Program} {l : Launch} {e : Env} {R : Room} {s : State} {m : MethodId} {args : Array Value} {below : List Frame} {meth : Method} {c : Code} {cells slots : Nat} {Z : State → Prop}
variable {cc : ByteArray} {pc nL : Nat} {st : List Value} {lv : List (Nat × Value)} {ws : va_W} {Ts : List Cond} {own : String} {ret : Option FieldType} {D : va_G} {cA : ClassId} {A : Nat → Prop}
theorem gq_callK {H H0 : Heap} {locs : List Loc} {ls : Array Slot} {st0 rest : List Value} {res : Option Value} {w' : va_W} {A0 A1 : Nat → Prop} {a : Array Value} {free : Addr → Prop} (hr : va_Run p l e R s m args below meth c H locs cells slots 0 0 (F0 m pc ls st0) rest (gq_Q D res w' A1 a) free) (hS : va_S A0 H0 H locs) (hA : ∀ q, q < H.size → A1 q → A0 q) (hf : ∀ q, free q → A0 q)
    (kk : ∀ (H1 : Heap) (locs1 : List Loc), va_P D vwCl w' H1 → (∀ q : Nat, q < H.size → ¬ A1 q → H1[q]? = H[q]?) → va_S A0 H0 H1 locs1 → W p l e R s m args below meth c H1 locs1 cells slots Z (F0 m (pc + 3) ls (res.toList ++ rest))) : W p l e R s m args below meth c H locs cells slots Z (F0 m pc ls st0) := by
  intro T hT X
  obtain ⟨v, st₀, t, T', L, h0, X', hL, e1, e2, ⟨⟨hv, hp⟩, hz, hk⟩, st⟩ := hr T hT X
  cases hv
  rw [h0] at hz hk
  obtain ⟨t2, a1, b1⟩ := kk T'.heap (locs ++ L) (by rw [e1]; exact hp) (fun q h1 h2 => by rw [e1]; exact hk q h1 h2)
    ⟨Nat.le_trans hS.1 (by rw [e1]; exact hz), fun q h1 h2 => by rw [e1, hk q (Nat.lt_of_lt_of_le h1 hS.1) (fun z => h2 (hA q (Nat.lt_of_lt_of_le h1 hS.1) z))]; exact hS.2.1 q h1 h2, fun q hq => by
      rcases List.mem_append.mp hq with h | h
      · exact hS.2.2 q h
      · exact hf _ (hL q h)⟩ T' rfl X'
  exact ⟨t2, st t2 a1, b1⟩
theorem gq_blind {av : List Value} {w : va_W} {sz : Nat} : FrameBlind (va_Pc av (gq_B D cA w sz)) := fun a U g mk q => by
  obtain ⟨q0, q1, qP, qK, qD⟩ := q
  exact ⟨q0, q1, qP, qK.calling, qD⟩
theorem gq_pre (hK : gq_K D cA s) {av : List Value} {w : va_W} {H : Heap} (hP : va_P D vwCl ws H) (hD : va_D A ws) (is : List Nat) (hC : is.map (fun i => ws[i]?) = w.map some) (hn : va_nd is = true) : ∀ U : State, U.heap = H → s.WarmedH U.vm → va_Pc av (gq_B D cA w H.size) av.toArray U := by
  intro U hU hW
  have hP1 : va_P D vwCl w H := fun k q hq => by
    have h1 : (is.map (fun i => ws[i]?))[k]? = some (some q) := by rw [hC, List.getElem?_map, hq]; rfl
    rw [List.getElem?_map] at h1
    cases hi : is[k]? with
    | none => rw [hi] at h1; cases h1
    | some i => rw [hi] at h1; exact hP i q (Option.some.inj h1)
  exact ⟨rfl, by rw [hU], by rw [hU]; exact hP1, hK.warm hW, (hD.sub is hn hC).weaken (fun _ _ _ _ => trivial)⟩

theorem gq_callVr (X : gq_X p s m args meth c cc nL Ts own ret D cA A) {y : MethodName} {bytes : ByteArray} {maxL n index : Nat} {wy wy' : List Cond} {rm : Room} {rt : Option FieldType} {w w' ws' : va_W} {As rest : List Value} {b : Nat} {r : Value} (hM : gq_C l y wy rm D cA (.ref b :: As) w (some r) w') (hwy : wy = Cond.code y bytes maxL rt :: wy') (hz : rm.cells = 0 ∧ rm.slots = 0) (hR : rm.frames + 1 ≤ R.frames ∧ 8 + (maxL + 11) + rm.locals ≤ R.locals) {C : String} {T : u_T} {N ci : Nat} {fs : List Value} (hG : GoodIn Ts (wsV own index C y wy)) (hd : y.cls = C ∧ y.cls ≠ "java/lang/invoke/MethodHandle" ∧ y.cls ≠ "java/lang/invoke/VarHandle" ∧ (parseMethodDescriptor y.desc).map (fun d => d.parameters.length) = some n) (q0 : Nat) (hq : ws[q0]? = some (b, .inr (ci, fs))) (hci : vwCl[ci]? = some (C, T, N)) (is : List Nat) (hC : is.map (fun i => ws[i]?) = w.map some) (hn : va_nd is = true) (ha : w'.map Prod.fst = w.map Prod.fst) (hw : gq_set ws is w' = ws') (hAn : As.length = n) (hst : st = As.reverse ++ .ref b :: rest) (hr : (rest.map fun v => v.category).sum ≤ 8) (hcs : cells ≤ R.cells ∧ slots ≤ R.slots) (hdg : decode cc pc = .ok (.invokevirtual index, 3)) (kk : gq_V p l e R s m args below meth c nL D A cells slots Z ws' lv (pc + 3) (r :: rest)) : gq_V p l e R s m args below meth c nL D A cells slots Z ws lv pc st := by
  intro H locs ls hP hD hS hl
  subst hst
  subst hw
  obtain ⟨hz1, hz2⟩ := hz
  have hFc : ∀ q, va_A w H.size q → A q := va_free hD hS X.2.2.2.2.2.2.2.2 is hC
  refine gq_callK (va_runV (As := As) (rest := rest) ⟨X.1, X.2.1, X.2.2.1, X.2.2.2.1, X.2.2.2.2.1⟩ (hM H.size) (cwV n X.2.2.2.2.1 hG hwy hz1 hz2 hd hR) ⟨gq_blind, va_recv X.2.2.2.2.2.2.2.1.1 hP hci hq, gq_pre X.2.2.2.2.2.2.2.1 hP hD is hC hn⟩ rfl hAn hl.1 rfl (lv_room hr) hdg hcs) hS (fun q _ h => hFc q h) hFc (fun H1 locs1 hP1 hk hS1 => ?_)
  obtain ⟨hP2, hD2⟩ := gq_back hP hD is hC ha hk hP1
  exact kk H1 locs1 ls hP2 hD2 hS1 hl
theorem gq_callVv (X : gq_X p s m args meth c cc nL Ts own ret D cA A) {y : MethodName} {bytes : ByteArray} {maxL n index : Nat} {wy wy' : List Cond} {rm : Room} {rt : Option FieldType} {w w' ws' : va_W} {As rest : List Value} {b : Nat} (hM : gq_C l y wy rm D cA (.ref b :: As) w none w') (hwy : wy = Cond.code y bytes maxL rt :: wy') (hz : rm.cells = 0 ∧ rm.slots = 0) (hR : rm.frames + 1 ≤ R.frames ∧ 8 + (maxL + 11) + rm.locals ≤ R.locals) {C : String} {T : u_T} {N ci : Nat} {fs : List Value} (hG : GoodIn Ts (wsV own index C y wy)) (hd : y.cls = C ∧ y.cls ≠ "java/lang/invoke/MethodHandle" ∧ y.cls ≠ "java/lang/invoke/VarHandle" ∧ (parseMethodDescriptor y.desc).map (fun d => d.parameters.length) = some n) (q0 : Nat) (hq : ws[q0]? = some (b, .inr (ci, fs))) (hci : vwCl[ci]? = some (C, T, N)) (is : List Nat) (hC : is.map (fun i => ws[i]?) = w.map some) (hn : va_nd is = true) (ha : w'.map Prod.fst = w.map Prod.fst) (hw : gq_set ws is w' = ws') (hAn : As.length = n) (hst : st = As.reverse ++ .ref b :: rest) (hr : (rest.map fun v => v.category).sum ≤ 8) (hcs : cells ≤ R.cells ∧ slots ≤ R.slots) (hdg : decode cc pc = .ok (.invokevirtual index, 3)) (kk : gq_V p l e R s m args below meth c nL D A cells slots Z ws' lv (pc + 3) rest) : gq_V p l e R s m args below meth c nL D A cells slots Z ws lv pc st := by
  intro H locs ls hP hD hS hl
  subst hst
  subst hw
  obtain ⟨hz1, hz2⟩ := hz
  have hFc : ∀ q, va_A w H.size q → A q := va_free hD hS X.2.2.2.2.2.2.2.2 is hC
  refine gq_callK (va_runV (As := As) (rest := rest) ⟨X.1, X.2.1, X.2.2.1, X.2.2.2.1, X.2.2.2.2.1⟩ (hM H.size) (cwV n X.2.2.2.2.1 hG hwy hz1 hz2 hd hR) ⟨gq_blind, va_recv X.2.2.2.2.2.2.2.1.1 hP hci hq, gq_pre X.2.2.2.2.2.2.2.1 hP hD is hC hn⟩ rfl hAn hl.1 rfl (lv_room hr) hdg hcs) hS (fun q _ h => hFc q h) hFc (fun H1 locs1 hP1 hk hS1 => ?_)
  obtain ⟨hP2, hD2⟩ := gq_back hP hD is hC ha hk hP1
  exact kk H1 locs1 ls hP2 hD2 hS1 hl
theorem gq_callSr (X : gq_X p s m args meth c cc nL Ts own ret D cA A) {y : MethodName} {bytes : ByteArray} {maxL n index : Nat} {wy wy' : List Cond} {rm : Room} {rt : Option FieldType} {w w' ws' : va_W} {As rest : List Value} {r : Value} (hM : gq_C l y wy rm D cA As w (some r) w') (hwy : wy = Cond.code y bytes maxL rt :: wy') (hz : rm.cells = 0 ∧ rm.slots = 0) (hR : rm.frames + 1 ≤ R.frames ∧ 8 + (maxL + 11) + rm.locals ≤ R.locals) (hG : GoodIn Ts (va_wsS own index y wy)) (hd : y.cls ≠ "java/lang/invoke/MethodHandle" ∧ y.cls ≠ "java/lang/invoke/VarHandle" ∧ (parseMethodDescriptor y.desc).map (fun d => d.parameters.length) = some n) (is : List Nat) (hC : is.map (fun i => ws[i]?) = w.map some) (hn : va_nd is = true) (ha : w'.map Prod.fst = w.map Prod.fst) (hw : gq_set ws is w' = ws') (hAn : As.length = n) (hst : st = As.reverse ++ rest) (hr : (rest.map fun v => v.category).sum ≤ 8) (hcs : cells ≤ R.cells ∧ slots ≤ R.slots) (hdg : decode cc pc = .ok (.invokestatic index, 3)) (kk : gq_V p l e R s m args below meth c nL D A cells slots Z ws' lv (pc + 3) (r :: rest)) : gq_V p l e R s m args below meth c nL D A cells slots Z ws lv pc st := by
  intro H locs ls hP hD hS hl
  subst hst
  subst hw
  obtain ⟨hz1, hz2⟩ := hz
  have hFc : ∀ q, va_A w H.size q → A q := va_free hD hS X.2.2.2.2.2.2.2.2 is hC
  refine gq_callK (va_runS (As := As) (rest := rest) ⟨X.1, X.2.1, X.2.2.1, X.2.2.2.1, X.2.2.2.2.1⟩ (hM H.size) (va_cwS n X.2.2.2.2.1 hG hwy hz1 hz2 hd hR) ⟨gq_blind, gq_pre X.2.2.2.2.2.2.2.1 hP hD is hC hn⟩ rfl hAn hl.1 rfl (lv_room hr) hdg hcs) hS (fun q _ h => hFc q h) hFc (fun H1 locs1 hP1 hk hS1 => ?_)
  obtain ⟨hP2, hD2⟩ := gq_back hP hD is hC ha hk hP1
  exact kk H1 locs1 ls hP2 hD2 hS1 hl
theorem gq_callSv (X : gq_X p s m args meth c cc nL Ts own ret D cA A) {y : MethodName} {bytes : ByteArray} {maxL n index : Nat} {wy wy' : List Cond} {rm : Room} {rt : Option FieldType} {w w' ws' : va_W} {As rest : List Value} (hM : gq_C l y wy rm D cA As w none w') (hwy : wy = Cond.code y bytes maxL rt :: wy') (hz : rm.cells = 0 ∧ rm.slots = 0) (hR : rm.frames + 1 ≤ R.frames ∧ 8 + (maxL + 11) + rm.locals ≤ R.locals) (hG : GoodIn Ts (va_wsS own index y wy)) (hd : y.cls ≠ "java/lang/invoke/MethodHandle" ∧ y.cls ≠ "java/lang/invoke/VarHandle" ∧ (parseMethodDescriptor y.desc).map (fun d => d.parameters.length) = some n) (is : List Nat) (hC : is.map (fun i => ws[i]?) = w.map some) (hn : va_nd is = true) (ha : w'.map Prod.fst = w.map Prod.fst) (hw : gq_set ws is w' = ws') (hAn : As.length = n) (hst : st = As.reverse ++ rest) (hr : (rest.map fun v => v.category).sum ≤ 8) (hcs : cells ≤ R.cells ∧ slots ≤ R.slots) (hdg : decode cc pc = .ok (.invokestatic index, 3)) (kk : gq_V p l e R s m args below meth c nL D A cells slots Z ws' lv (pc + 3) rest) : gq_V p l e R s m args below meth c nL D A cells slots Z ws lv pc st := by
  intro H locs ls hP hD hS hl
  subst hst
  subst hw
  obtain ⟨hz1, hz2⟩ := hz
  have hFc : ∀ q, va_A w H.size q → A q := va_free hD hS X.2.2.2.2.2.2.2.2 is hC
  refine gq_callK (va_runS (As := As) (rest := rest) ⟨X.1, X.2.1, X.2.2.1, X.2.2.2.1, X.2.2.2.2.1⟩ (hM H.size) (va_cwS n X.2.2.2.2.1 hG hwy hz1 hz2 hd hR) ⟨gq_blind, gq_pre X.2.2.2.2.2.2.2.1 hP hD is hC hn⟩ rfl hAn hl.1 rfl (lv_room hr) hdg hcs) hS (fun q _ h => hFc q h) hFc (fun H1 locs1 hP1 hk hS1 => ?_)
  obtain ⟨hP2, hD2⟩ := gq_back hP hD is hC ha hk hP1
  exact kk H1 locs1 ls hP2 hD2 hS1 hl
theorem gq_callSNr (X : gq_X p s m args meth c cc nL Ts own ret D cA A) {y : MethodName} {bytes : ByteArray} {maxL n index : Nat} {wy wy' : List Cond} {rm : Room} {rt : Option FieldType} {w w' ws' : va_W} {As rest : List Value} {r : Value} (hM : gq_C l y wy rm D cA As w (some r) w') (hwy : wy = Cond.code y bytes maxL rt :: wy') (hz : rm.cells = 0 ∧ rm.slots = 0) (hR : rm.frames + 1 ≤ R.frames ∧ 8 + (maxL + 11) + rm.locals ≤ R.locals) {host : String} (hG : GoodIn Ts wy) (hN : va_Nw (.methodLinkNest own index y host) s) (hi : Cond.initialized y.cls ∈ Ts) (hs : Cond.static y ∈ Ts) (hd : y.cls ≠ "java/lang/invoke/MethodHandle" ∧ y.cls ≠ "java/lang/invoke/VarHandle" ∧ (parseMethodDescriptor y.desc).map (fun d => d.parameters.length) = some n) (is : List Nat) (hC : is.map (fun i => ws[i]?) = w.map some) (hn : va_nd is = true) (ha : w'.map Prod.fst = w.map Prod.fst) (hw : gq_set ws is w' = ws') (hAn : As.length = n) (hst : st = As.reverse ++ rest) (hr : (rest.map fun v => v.category).sum ≤ 8) (hcs : cells ≤ R.cells ∧ slots ≤ R.slots) (hdg : decode cc pc = .ok (.invokestatic index, 3)) (kk : gq_V p l e R s m args below meth c nL D A cells slots Z ws' lv (pc + 3) (r :: rest)) : gq_V p l e R s m args below meth c nL D A cells slots Z ws lv pc st := by
  intro H locs ls hP hD hS hl
  subst hst
  subst hw
  obtain ⟨hz1, hz2⟩ := hz
  have hFc : ∀ q, va_A w H.size q → A q := va_free hD hS X.2.2.2.2.2.2.2.2 is hC
  refine gq_callK (va_runSN (As := As) (rest := rest) ⟨X.1, X.2.1, X.2.2.1, X.2.2.2.1, X.2.2.2.2.1⟩ (hM H.size) (⟨va_cnB n X.2.2.2.2.1 hG hwy hz1 hz2 hN (X.2.2.2.2.1 _ hi) hd hR, X.2.2.2.2.1 _ hs, trivial⟩) ⟨gq_blind, gq_pre X.2.2.2.2.2.2.2.1 hP hD is hC hn⟩ rfl hAn hl.1 rfl (lv_room hr) hdg hcs) hS (fun q _ h => hFc q h) hFc (fun H1 locs1 hP1 hk hS1 => ?_)
  obtain ⟨hP2, hD2⟩ := gq_back hP hD is hC ha hk hP1
  exact kk H1 locs1 ls hP2 hD2 hS1 hl
theorem gq_callSNv (X : gq_X p s m args meth c cc nL Ts own ret D cA A) {y : MethodName} {bytes : ByteArray} {maxL n index : Nat} {wy wy' : List Cond} {rm : Room} {rt : Option FieldType} {w w' ws' : va_W} {As rest : List Value} (hM : gq_C l y wy rm D cA As w none w') (hwy : wy = Cond.code y bytes maxL rt :: wy') (hz : rm.cells = 0 ∧ rm.slots = 0) (hR : rm.frames + 1 ≤ R.frames ∧ 8 + (maxL + 11) + rm.locals ≤ R.locals) {host : String} (hG : GoodIn Ts wy) (hN : va_Nw (.methodLinkNest own index y host) s) (hi : Cond.initialized y.cls ∈ Ts) (hs : Cond.static y ∈ Ts) (hd : y.cls ≠ "java/lang/invoke/MethodHandle" ∧ y.cls ≠ "java/lang/invoke/VarHandle" ∧ (parseMethodDescriptor y.desc).map (fun d => d.parameters.length) = some n) (is : List Nat) (hC : is.map (fun i => ws[i]?) = w.map some) (hn : va_nd is = true) (ha : w'.map Prod.fst = w.map Prod.fst) (hw : gq_set ws is w' = ws') (hAn : As.length = n) (hst : st = As.reverse ++ rest) (hr : (rest.map fun v => v.category).sum ≤ 8) (hcs : cells ≤ R.cells ∧ slots ≤ R.slots) (hdg : decode cc pc = .ok (.invokestatic index, 3)) (kk : gq_V p l e R s m args below meth c nL D A cells slots Z ws' lv (pc + 3) rest) : gq_V p l e R s m args below meth c nL D A cells slots Z ws lv pc st := by
  intro H locs ls hP hD hS hl
  subst hst
  subst hw
  obtain ⟨hz1, hz2⟩ := hz
  have hFc : ∀ q, va_A w H.size q → A q := va_free hD hS X.2.2.2.2.2.2.2.2 is hC
  refine gq_callK (va_runSN (As := As) (rest := rest) ⟨X.1, X.2.1, X.2.2.1, X.2.2.2.1, X.2.2.2.2.1⟩ (hM H.size) (⟨va_cnB n X.2.2.2.2.1 hG hwy hz1 hz2 hN (X.2.2.2.2.1 _ hi) hd hR, X.2.2.2.2.1 _ hs, trivial⟩) ⟨gq_blind, gq_pre X.2.2.2.2.2.2.2.1 hP hD is hC hn⟩ rfl hAn hl.1 rfl (lv_room hr) hdg hcs) hS (fun q _ h => hFc q h) hFc (fun H1 locs1 hP1 hk hS1 => ?_)
  obtain ⟨hP2, hD2⟩ := gq_back hP hD is hC ha hk hP1
  exact kk H1 locs1 ls hP2 hD2 hS1 hl
end GQCALL
theorem gq_im1 : Int32.ofInt (-1) = (-1 : Int32) := by decide
theorem gq_i0 : Int32.ofInt (0) = (0 : Int32) := by decide
theorem gq_i1 : Int32.ofInt (1) = (1 : Int32) := by decide
theorem gq_i2 : Int32.ofInt (2) = (2 : Int32) := by decide
theorem gq_i3 : Int32.ofInt (3) = (3 : Int32) := by decide
theorem gq_i4 : Int32.ofInt (4) = (4 : Int32) := by decide
theorem gq_i5 : Int32.ofInt (5) = (5 : Int32) := by decide
/-- a named value of a pure function -/
def gq_lt {τ ρ : Type} (x : τ) (f : τ → ρ) : ρ := f x
def gq_Zf {ρ : Type} (below : List Frame) (D : va_G) (A : Nat → Prop) (args : Array Value) (s : State) (mc ms : Nat) (mk : ρ → Option Value × va_W) (r : ρ) : State → Prop := gq_Zm below D (mk r).1 (mk r).2 A args s mc ms
theorem gq_Ceq {l : Launch} {y : MethodName} {Ts : List Cond} {rm : Room} {D : va_G} {cA : ClassId} {av : List Value} {w : va_W} {res res2 : Option Value} {w' w2 : va_W} (h : gq_C l y Ts rm D cA av w res w') (h1 : res = res2) (h2 : w' = w2) : gq_C l y Ts rm D cA av w res2 w2 := h1 ▸ h2 ▸ h
theorem gq_openf {ρ : Type} {l : Launch} {y : MethodName} {Ts ws' : List Cond} {rm : Room} {D : va_G} {cA : ClassId} {av : List Value} {w : va_W} {res : Option Value} {w' : va_W} {cc : ByteArray} {maxL : Nat} {ret : Option FieldType} {own : String} {lv : List (Nat × Value)} (mk : ρ → Option Value × va_W) (r : ρ)
    (hy : plainName y.cls = true) (hw : Ts = Cond.code y cc maxL ret :: ws') (ho : y.cls = own) (hlen : (lg_sl av).length ≤ maxL) (hlv : lv_args 0 av = lv) (hm1 : (mk r).1 = res) (hm2 : (mk r).2 = w')
    (body : ∀ (p : Program) (e : Env) (s : State) (m : MethodId) (args : Array Value) (below : List Frame) (meth : Method) (c : Code) (A : Nat → Prop), gq_X p s m args meth c cc maxL Ts own ret D cA A → gq_V p l e rm s m args below meth c maxL D A 0 0 (gq_Zf below D A args s 0 0 mk r) w lv 0 []) : gq_C l y Ts rm D cA av w res w' := by
  subst hm1; subst hm2
  exact gq_open hy hw ho hlen hlv body
theorem gq_in {i : Int32} {n : Nat} (h1 : ¬ i < 0) (h2 : ¬ nI n ≤ i) (hn : n < 2147483648) : vp_in i n := by
  rw [vp_in_iff]
  rw [Int32.lt_iff_toInt_lt] at h1
  rw [Int32.le_iff_toInt_le, nI_toInt (by omega)] at h2
  have h0 : (0 : Int32).toInt = 0 := by decide
  omega
section GQF
variable {p : Program} {l : Launch} {e : Env} {R : Room} {s : State} {m : MethodId} {args : Array Value} {below : List Frame} {meth : Method} {c : Code} {cells slots : Nat} {Z : State → Prop}
variable {cc : ByteArray} {pc nL : Nat} {st : List Value} {lv : List (Nat × Value)} {ws : va_W} {Ts : List Cond} {own : String} {ret : Option FieldType} {D : va_G} {cA : ClassId} {A : Nat → Prop} {ρ : Type} {mk : ρ → Option Value × va_W} {r u v : ρ}

theorem gq_letr {τ : Type} {x : τ} {f : τ → ρ} (kk : ∀ y : τ, y = x → gq_V p l e R s m args below meth c nL D A cells slots (gq_Zf below D A args s cells slots mk (f y)) ws lv pc st) : gq_V p l e R s m args below meth c nL D A cells slots (gq_Zf below D A args s cells slots mk (gq_lt x f)) ws lv pc st := kk x rfl
theorem gq_ite {q : Prop} {i : Decidable q} (kt : q → gq_V p l e R s m args below meth c nL D A cells slots (gq_Zf below D A args s cells slots mk u) ws lv pc st) (kf : ¬ q → gq_V p l e R s m args below meth c nL D A cells slots (gq_Zf below D A args s cells slots mk v) ws lv pc st) : gq_V p l e R s m args below meth c nL D A cells slots (gq_Zf below D A args s cells slots mk (@ite ρ q i u v)) ws lv pc st := by by_cases h : q; (rw [if_pos h]; exact kt h); (rw [if_neg h]; exact kf h)
theorem gq_same {u v : ρ} (h : v = u) (kk : gq_V p l e R s m args below meth c nL D A cells slots (gq_Zf below D A args s cells slots mk u) ws lv pc st) : gq_V p l e R s m args below meth c nL D A cells slots (gq_Zf below D A args s cells slots mk v) ws lv pc st := h ▸ kk
theorem gq_fif_eq (X : gq_X p s m args meth c cc nL Ts own ret D cA A) {x : Int32} {off : Int} {tgt : Nat} {i : Decidable (x = 0)} (hdg : decode cc pc = .ok (.ifCond .eq off, 3)) (ht : (pc : Int) + off = (tgt : Int)) (kt : x = 0 → gq_V p l e R s m args below meth c nL D A cells slots (gq_Zf below D A args s cells slots mk u) ws lv tgt st) (kf : ¬ (x = 0) → gq_V p l e R s m args below meth c nL D A cells slots (gq_Zf below D A args s cells slots mk v) ws lv (pc + 3) st) : gq_V p l e R s m args below meth c nL D A cells slots (gq_Zf below D A args s cells slots mk (@ite ρ (x = 0) i u v)) ws lv pc (.int x :: st) := gq_ite (fun h => gq_if_eq X hdg ht (fun _ => kt h) (fun h2 => absurd h h2)) (fun h => gq_if_eq X hdg ht (fun h2 => absurd h2 h) (fun _ => kf h))
theorem gq_ficmp_eq (X : gq_X p s m args meth c cc nL Ts own ret D cA A) {x y : Int32} {off : Int} {tgt : Nat} {i : Decidable (x = y)} (hdg : decode cc pc = .ok (.if_icmp .eq off, 3)) (ht : (pc : Int) + off = (tgt : Int)) (kt : x = y → gq_V p l e R s m args below meth c nL D A cells slots (gq_Zf below D A args s cells slots mk u) ws lv tgt st) (kf : ¬ (x = y) → gq_V p l e R s m args below meth c nL D A cells slots (gq_Zf below D A args s cells slots mk v) ws lv (pc + 3) st) : gq_V p l e R s m args below meth c nL D A cells slots (gq_Zf below D A args s cells slots mk (@ite ρ (x = y) i u v)) ws lv pc (.int y :: .int x :: st) := gq_ite (fun h => gq_icmp_eq X hdg ht (fun _ => kt h) (fun h2 => absurd h h2)) (fun h => gq_icmp_eq X hdg ht (fun h2 => absurd h2 h) (fun _ => kf h))
theorem gq_fif_lt (X : gq_X p s m args meth c cc nL Ts own ret D cA A) {x : Int32} {off : Int} {tgt : Nat} {i : Decidable (x < 0)} (hdg : decode cc pc = .ok (.ifCond .lt off, 3)) (ht : (pc : Int) + off = (tgt : Int)) (kt : x < 0 → gq_V p l e R s m args below meth c nL D A cells slots (gq_Zf below D A args s cells slots mk u) ws lv tgt st) (kf : ¬ (x < 0) → gq_V p l e R s m args below meth c nL D A cells slots (gq_Zf below D A args s cells slots mk v) ws lv (pc + 3) st) : gq_V p l e R s m args below meth c nL D A cells slots (gq_Zf below D A args s cells slots mk (@ite ρ (x < 0) i u v)) ws lv pc (.int x :: st) := gq_ite (fun h => gq_if_lt X hdg ht (fun _ => kt h) (fun h2 => absurd h h2)) (fun h => gq_if_lt X hdg ht (fun h2 => absurd h2 h) (fun _ => kf h))
theorem gq_ficmp_lt (X : gq_X p s m args meth c cc nL Ts own ret D cA A) {x y : Int32} {off : Int} {tgt : Nat} {i : Decidable (x < y)} (hdg : decode cc pc = .ok (.if_icmp .lt off, 3)) (ht : (pc : Int) + off = (tgt : Int)) (kt : x < y → gq_V p l e R s m args below meth c nL D A cells slots (gq_Zf below D A args s cells slots mk u) ws lv tgt st) (kf : ¬ (x < y) → gq_V p l e R s m args below meth c nL D A cells slots (gq_Zf below D A args s cells slots mk v) ws lv (pc + 3) st) : gq_V p l e R s m args below meth c nL D A cells slots (gq_Zf below D A args s cells slots mk (@ite ρ (x < y) i u v)) ws lv pc (.int y :: .int x :: st) := gq_ite (fun h => gq_icmp_lt X hdg ht (fun _ => kt h) (fun h2 => absurd h h2)) (fun h => gq_icmp_lt X hdg ht (fun h2 => absurd h2 h) (fun _ => kf h))
theorem gq_fif_ge (X : gq_X p s m args meth c cc nL Ts own ret D cA A) {x : Int32} {off : Int} {tgt : Nat} {i : Decidable (0 ≤ x)} (hdg : decode cc pc = .ok (.ifCond .ge off, 3)) (ht : (pc : Int) + off = (tgt : Int)) (kt : 0 ≤ x → gq_V p l e R s m args below meth c nL D A cells slots (gq_Zf below D A args s cells slots mk u) ws lv tgt st) (kf : ¬ (0 ≤ x) → gq_V p l e R s m args below meth c nL D A cells slots (gq_Zf below D A args s cells slots mk v) ws lv (pc + 3) st) : gq_V p l e R s m args below meth c nL D A cells slots (gq_Zf below D A args s cells slots mk (@ite ρ (0 ≤ x) i u v)) ws lv pc (.int x :: st) := gq_ite (fun h => gq_if_ge X hdg ht (fun _ => kt h) (fun h2 => absurd h h2)) (fun h => gq_if_ge X hdg ht (fun h2 => absurd h2 h) (fun _ => kf h))
theorem gq_ficmp_ge (X : gq_X p s m args meth c cc nL Ts own ret D cA A) {x y : Int32} {off : Int} {tgt : Nat} {i : Decidable (y ≤ x)} (hdg : decode cc pc = .ok (.if_icmp .ge off, 3)) (ht : (pc : Int) + off = (tgt : Int)) (kt : y ≤ x → gq_V p l e R s m args below meth c nL D A cells slots (gq_Zf below D A args s cells slots mk u) ws lv tgt st) (kf : ¬ (y ≤ x) → gq_V p l e R s m args below meth c nL D A cells slots (gq_Zf below D A args s cells slots mk v) ws lv (pc + 3) st) : gq_V p l e R s m args below meth c nL D A cells slots (gq_Zf below D A args s cells slots mk (@ite ρ (y ≤ x) i u v)) ws lv pc (.int y :: .int x :: st) := gq_ite (fun h => gq_icmp_ge X hdg ht (fun _ => kt h) (fun h2 => absurd h h2)) (fun h => gq_icmp_ge X hdg ht (fun h2 => absurd h2 h) (fun _ => kf h))
theorem gq_fif_gt (X : gq_X p s m args meth c cc nL Ts own ret D cA A) {x : Int32} {off : Int} {tgt : Nat} {i : Decidable (0 < x)} (hdg : decode cc pc = .ok (.ifCond .gt off, 3)) (ht : (pc : Int) + off = (tgt : Int)) (kt : 0 < x → gq_V p l e R s m args below meth c nL D A cells slots (gq_Zf below D A args s cells slots mk u) ws lv tgt st) (kf : ¬ (0 < x) → gq_V p l e R s m args below meth c nL D A cells slots (gq_Zf below D A args s cells slots mk v) ws lv (pc + 3) st) : gq_V p l e R s m args below meth c nL D A cells slots (gq_Zf below D A args s cells slots mk (@ite ρ (0 < x) i u v)) ws lv pc (.int x :: st) := gq_ite (fun h => gq_if_gt X hdg ht (fun _ => kt h) (fun h2 => absurd h h2)) (fun h => gq_if_gt X hdg ht (fun h2 => absurd h2 h) (fun _ => kf h))
theorem gq_ficmp_gt (X : gq_X p s m args meth c cc nL Ts own ret D cA A) {x y : Int32} {off : Int} {tgt : Nat} {i : Decidable (y < x)} (hdg : decode cc pc = .ok (.if_icmp .gt off, 3)) (ht : (pc : Int) + off = (tgt : Int)) (kt : y < x → gq_V p l e R s m args below meth c nL D A cells slots (gq_Zf below D A args s cells slots mk u) ws lv tgt st) (kf : ¬ (y < x) → gq_V p l e R s m args below meth c nL D A cells slots (gq_Zf below D A args s cells slots mk v) ws lv (pc + 3) st) : gq_V p l e R s m args below meth c nL D A cells slots (gq_Zf below D A args s cells slots mk (@ite ρ (y < x) i u v)) ws lv pc (.int y :: .int x :: st) := gq_ite (fun h => gq_icmp_gt X hdg ht (fun _ => kt h) (fun h2 => absurd h h2)) (fun h => gq_icmp_gt X hdg ht (fun h2 => absurd h2 h) (fun _ => kf h))
theorem gq_fif_le (X : gq_X p s m args meth c cc nL Ts own ret D cA A) {x : Int32} {off : Int} {tgt : Nat} {i : Decidable (x ≤ 0)} (hdg : decode cc pc = .ok (.ifCond .le off, 3)) (ht : (pc : Int) + off = (tgt : Int)) (kt : x ≤ 0 → gq_V p l e R s m args below meth c nL D A cells slots (gq_Zf below D A args s cells slots mk u) ws lv tgt st) (kf : ¬ (x ≤ 0) → gq_V p l e R s m args below meth c nL D A cells slots (gq_Zf below D A args s cells slots mk v) ws lv (pc + 3) st) : gq_V p l e R s m args below meth c nL D A cells slots (gq_Zf below D A args s cells slots mk (@ite ρ (x ≤ 0) i u v)) ws lv pc (.int x :: st) := gq_ite (fun h => gq_if_le X hdg ht (fun _ => kt h) (fun h2 => absurd h h2)) (fun h => gq_if_le X hdg ht (fun h2 => absurd h2 h) (fun _ => kf h))
theorem gq_ficmp_le (X : gq_X p s m args meth c cc nL Ts own ret D cA A) {x y : Int32} {off : Int} {tgt : Nat} {i : Decidable (x ≤ y)} (hdg : decode cc pc = .ok (.if_icmp .le off, 3)) (ht : (pc : Int) + off = (tgt : Int)) (kt : x ≤ y → gq_V p l e R s m args below meth c nL D A cells slots (gq_Zf below D A args s cells slots mk u) ws lv tgt st) (kf : ¬ (x ≤ y) → gq_V p l e R s m args below meth c nL D A cells slots (gq_Zf below D A args s cells slots mk v) ws lv (pc + 3) st) : gq_V p l e R s m args below meth c nL D A cells slots (gq_Zf below D A args s cells slots mk (@ite ρ (x ≤ y) i u v)) ws lv pc (.int y :: .int x :: st) := gq_ite (fun h => gq_icmp_le X hdg ht (fun _ => kt h) (fun h2 => absurd h h2)) (fun h => gq_icmp_le X hdg ht (fun h2 => absurd h2 h) (fun _ => kf h))
theorem gq_fif_ne (X : gq_X p s m args meth c cc nL Ts own ret D cA A) {x : Int32} {off : Int} {tgt : Nat} {i : Decidable (x = 0)} (hdg : decode cc pc = .ok (.ifCond .ne off, 3)) (ht : (pc : Int) + off = (tgt : Int)) (kt : x = 0 → gq_V p l e R s m args below meth c nL D A cells slots (gq_Zf below D A args s cells slots mk u) ws lv (pc + 3) st) (kf : ¬ (x = 0) → gq_V p l e R s m args below meth c nL D A cells slots (gq_Zf below D A args s cells slots mk v) ws lv tgt st) : gq_V p l e R s m args below meth c nL D A cells slots (gq_Zf below D A args s cells slots mk (@ite ρ (x = 0) i u v)) ws lv pc (.int x :: st) := gq_ite (fun h => gq_if_ne X hdg ht (fun h2 => absurd h h2) (fun _ => kt h)) (fun h => gq_if_ne X hdg ht (fun _ => kf h) (fun h2 => absurd h2 h))
theorem gq_ficmp_ne (X : gq_X p s m args meth c cc nL Ts own ret D cA A) {x y : Int32} {off : Int} {tgt : Nat} {i : Decidable (x = y)} (hdg : decode cc pc = .ok (.if_icmp .ne off, 3)) (ht : (pc : Int) + off = (tgt : Int)) (kt : x = y → gq_V p l e R s m args below meth c nL D A cells slots (gq_Zf below D A args s cells slots mk u) ws lv (pc + 3) st) (kf : ¬ (x = y) → gq_V p l e R s m args below meth c nL D A cells slots (gq_Zf below D A args s cells slots mk v) ws lv tgt st) : gq_V p l e R s m args below meth c nL D A cells slots (gq_Zf below D A args s cells slots mk (@ite ρ (x = y) i u v)) ws lv pc (.int y :: .int x :: st) := gq_ite (fun h => gq_icmp_ne X hdg ht (fun h2 => absurd h h2) (fun _ => kt h)) (fun h => gq_icmp_ne X hdg ht (fun _ => kf h) (fun h2 => absurd h2 h))
theorem gq_fbif_eq (X : gq_X p s m args meth c cc nL Ts own ret D cA A) {x : Bool} {off : Int} {tgt : Nat} {i : Decidable (x = true)} (hdg : decode cc pc = .ok (.ifCond .eq off, 3)) (ht : (pc : Int) + off = (tgt : Int)) (kt : x = true → gq_V p l e R s m args below meth c nL D A cells slots (gq_Zf below D A args s cells slots mk u) ws lv (pc + 3) st) (kf : x = false → gq_V p l e R s m args below meth c nL D A cells slots (gq_Zf below D A args s cells slots mk v) ws lv tgt st) : gq_V p l e R s m args below meth c nL D A cells slots (gq_Zf below D A args s cells slots mk (@ite ρ (x = true) i u v)) ws lv pc (.int (gq_b x) :: st) := gq_ite (fun h => gq_bif_eq X hdg ht (fun h2 => absurd (h.symm.trans h2) (by decide)) (fun _ => kt h)) (fun h => gq_bif_eq X hdg ht (fun h2 => kf h2) (fun h2 => absurd h2 h))
theorem gq_fbif_ne (X : gq_X p s m args meth c cc nL Ts own ret D cA A) {x : Bool} {off : Int} {tgt : Nat} {i : Decidable (x = true)} (hdg : decode cc pc = .ok (.ifCond .ne off, 3)) (ht : (pc : Int) + off = (tgt : Int)) (kt : x = true → gq_V p l e R s m args below meth c nL D A cells slots (gq_Zf below D A args s cells slots mk u) ws lv tgt st) (kf : x = false → gq_V p l e R s m args below meth c nL D A cells slots (gq_Zf below D A args s cells slots mk v) ws lv (pc + 3) st) : gq_V p l e R s m args below meth c nL D A cells slots (gq_Zf below D A args s cells slots mk (@ite ρ (x = true) i u v)) ws lv pc (.int (gq_b x) :: st) := gq_ite (fun h => gq_bif_ne X hdg ht (fun _ => kt h) (fun h2 => absurd (h.symm.trans h2) (by decide))) (fun h => gq_bif_ne X hdg ht (fun h2 => absurd h2 h) (fun h2 => kf h2))
theorem gq_iretf (X : gq_X p s m args meth c cc nL Ts own (some .int) D cA A) {v : Int32} (hdg : decode cc pc = .ok (.ireturn, 1)) (hr : (mk r).1 = some (.int v)) (hw : (mk r).2 = ws) : gq_V p l e R s m args below meth c nL D A cells slots (gq_Zf below D A args s cells slots mk r) ws lv pc [.int v] := gq_iret X hdg hr.symm hw.symm
theorem gq_lretf (X : gq_X p s m args meth c cc nL Ts own (some .long) D cA A) {v : Int64} (hdg : decode cc pc = .ok (.lreturn, 1)) (hr : (mk r).1 = some (.long v)) (hw : (mk r).2 = ws) : gq_V p l e R s m args below meth c nL D A cells slots (gq_Zf below D A args s cells slots mk r) ws lv pc [.long v] := gq_lret X hdg hr.symm hw.symm
theorem gq_zretf (X : gq_X p s m args meth c cc nL Ts own (some .boolean) D cA A) {v : Int32} {b : Bool} (hdg : decode cc pc = .ok (.ireturn, 1)) (hv : v = gq_b b) (hr : (mk r).1 = some (.int (gq_b b))) (hw : (mk r).2 = ws) : gq_V p l e R s m args below meth c nL D A cells slots (gq_Zf below D A args s cells slots mk r) ws lv pc [.int v] := gq_zret X hdg hv hr.symm hw.symm
theorem gq_vretf (X : gq_X p s m args meth c cc nL Ts own none D cA A) (hdg : decode cc pc = .ok (.return_, 1)) (hr : (mk r).1 = none) (hw : (mk r).2 = ws) : gq_V p l e R s m args below meth c nL D A cells slots (gq_Zf below D A args s cells slots mk r) ws lv pc [] := gq_vret X hdg hr.symm hw.symm
theorem gq_aretf {cn : String} (X : gq_X p s m args meth c cc nL Ts own (some (.object cn)) D cA A) {a : Nat} (hdg : decode cc pc = .ok (.areturn, 1)) (hr : (mk r).1 = some (.ref a)) (hw : (mk r).2 = ws) : gq_V p l e R s m args below meth c nL D A cells slots (gq_Zf below D A args s cells slots mk r) ws lv pc [.ref a] := gq_aret X hdg hr.symm hw.symm
end GQF
end
