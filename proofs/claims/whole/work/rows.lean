section
-- ===== PART A: goes FIRST, ahead of the names: the tables' words, and 'selects' of the private methods out of them =====
/-- a private method of a class that the tables say can be made, by its rows of tables_1 -/
def lw_okq (q : MethodName × Nat) : Prop := (q.1.cls ≠ "java/lang/invoke/MethodHandle" ∧ q.1.cls ≠ "java/lang/invoke/VarHandle") ∧ Cond.instantiable q.1.cls q.2 ∈ tables_1 ∧ Cond.privateMethod q.1 ∈ tables_1 ∧ Cond.instanceMethod q.1 ∈ tables_1
theorem lw_p0 : lw_okq (⟨"HouseWorkers", "nextNumber", "()I"⟩, 6) := ⟨⟨by decide +kernel, by decide +kernel⟩, List.mem_of_getElem? (i := 20) (by decide +kernel), List.mem_of_getElem? (i := 131) (by decide +kernel), List.mem_of_getElem? (i := 132) (by decide +kernel)⟩
theorem lw_p1 : lw_okq (⟨"java/util/ArrayList", "add", "(Ljava/lang/Object;[Ljava/lang/Object;I)V"⟩, 3) := ⟨⟨by decide +kernel, by decide +kernel⟩, List.mem_of_getElem? (i := 45) (by decide +kernel), List.mem_of_getElem? (i := 227) (by decide +kernel), List.mem_of_getElem? (i := 228) (by decide +kernel)⟩
theorem lw_p2 : lw_okq (⟨"java/util/ArrayList", "grow", "()[Ljava/lang/Object;"⟩, 3) := ⟨⟨by decide +kernel, by decide +kernel⟩, List.mem_of_getElem? (i := 45) (by decide +kernel), List.mem_of_getElem? (i := 231) (by decide +kernel), List.mem_of_getElem? (i := 232) (by decide +kernel)⟩
theorem lw_p3 : lw_okq (⟨"java/util/ArrayList", "grow", "(I)[Ljava/lang/Object;"⟩, 3) := ⟨⟨by decide +kernel, by decide +kernel⟩, List.mem_of_getElem? (i := 45) (by decide +kernel), List.mem_of_getElem? (i := 235) (by decide +kernel), List.mem_of_getElem? (i := 236) (by decide +kernel)⟩
theorem lw_p4 : lw_okq (⟨"HouseWorkers", "find", "(I)LHouseWorkers$Work;"⟩, 6) := ⟨⟨by decide +kernel, by decide +kernel⟩, List.mem_of_getElem? (i := 20) (by decide +kernel), List.mem_of_getElem? (i := 366) (by decide +kernel), List.mem_of_getElem? (i := 367) (by decide +kernel)⟩
theorem lw_p5 : lw_okq (⟨"HouseWorkers", "giveTurn", "(LHouseWorkers$Work;)I"⟩, 6) := ⟨⟨by decide +kernel, by decide +kernel⟩, List.mem_of_getElem? (i := 20) (by decide +kernel), List.mem_of_getElem? (i := 385) (by decide +kernel), List.mem_of_getElem? (i := 386) (by decide +kernel)⟩
theorem lw_p6 : lw_okq (⟨"HouseWorkers", "standsStill", "(LHouseWorkers$Work;)Z"⟩, 6) := ⟨⟨by decide +kernel, by decide +kernel⟩, List.mem_of_getElem? (i := 20) (by decide +kernel), List.mem_of_getElem? (i := 397) (by decide +kernel), List.mem_of_getElem? (i := 398) (by decide +kernel)⟩
theorem lw_p7 : lw_okq (⟨"HouseWorkers", "hasNobodyBefore", "(LHouseWorkers$Work;)Z"⟩, 6) := ⟨⟨by decide +kernel, by decide +kernel⟩, List.mem_of_getElem? (i := 20) (by decide +kernel), List.mem_of_getElem? (i := 401) (by decide +kernel), List.mem_of_getElem? (i := 402) (by decide +kernel)⟩
theorem lw_p8 : lw_okq (⟨"HouseWorkers", "act", "(LHouseWorkers$Work;)I"⟩, 6) := ⟨⟨by decide +kernel, by decide +kernel⟩, List.mem_of_getElem? (i := 20) (by decide +kernel), List.mem_of_getElem? (i := 434) (by decide +kernel), List.mem_of_getElem? (i := 435) (by decide +kernel)⟩
theorem lw_p9 : lw_okq (⟨"HouseWorkers", "endWork", "(LHouseWorkers$Work;I)V"⟩, 6) := ⟨⟨by decide +kernel, by decide +kernel⟩, List.mem_of_getElem? (i := 20) (by decide +kernel), List.mem_of_getElem? (i := 507) (by decide +kernel), List.mem_of_getElem? (i := 508) (by decide +kernel)⟩
theorem lw_p10 : lw_okq (⟨"HouseWorkers", "giveRow", "(I)I"⟩, 6) := ⟨⟨by decide +kernel, by decide +kernel⟩, List.mem_of_getElem? (i := 20) (by decide +kernel), List.mem_of_getElem? (i := 515) (by decide +kernel), List.mem_of_getElem? (i := 516) (by decide +kernel)⟩
theorem lw_p11 : lw_okq (⟨"HouseWorkers", "isKept", "(I)Z"⟩, 6) := ⟨⟨by decide +kernel, by decide +kernel⟩, List.mem_of_getElem? (i := 20) (by decide +kernel), List.mem_of_getElem? (i := 540) (by decide +kernel), List.mem_of_getElem? (i := 541) (by decide +kernel)⟩
theorem lw_p12 : lw_okq (⟨"HouseWorkers", "isPinned", "(I)Z"⟩, 6) := ⟨⟨by decide +kernel, by decide +kernel⟩, List.mem_of_getElem? (i := 20) (by decide +kernel), List.mem_of_getElem? (i := 545) (by decide +kernel), List.mem_of_getElem? (i := 546) (by decide +kernel)⟩
theorem lw_p13 : lw_okq (⟨"HouseWorkers", "countKept", "()I"⟩, 6) := ⟨⟨by decide +kernel, by decide +kernel⟩, List.mem_of_getElem? (i := 20) (by decide +kernel), List.mem_of_getElem? (i := 581) (by decide +kernel), List.mem_of_getElem? (i := 582) (by decide +kernel)⟩
theorem lw_p14 : lw_okq (⟨"HouseWorkers", "countPinned", "()I"⟩, 6) := ⟨⟨by decide +kernel, by decide +kernel⟩, List.mem_of_getElem? (i := 20) (by decide +kernel), List.mem_of_getElem? (i := 585) (by decide +kernel), List.mem_of_getElem? (i := 586) (by decide +kernel)⟩
theorem lw_p15 : lw_okq (⟨"HouseWorkersModel", "begin", "(IIIII)I"⟩, 22) := ⟨⟨by decide +kernel, by decide +kernel⟩, List.mem_of_getElem? (i := 589) (by decide +kernel), List.mem_of_getElem? (i := 674) (by decide +kernel), List.mem_of_getElem? (i := 675) (by decide +kernel)⟩
def lw_privs_1 : List (MethodName × Nat) := [(⟨"HouseWorkers", "nextNumber", "()I"⟩, 6), (⟨"java/util/ArrayList", "add", "(Ljava/lang/Object;[Ljava/lang/Object;I)V"⟩, 3), (⟨"java/util/ArrayList", "grow", "()[Ljava/lang/Object;"⟩, 3), (⟨"java/util/ArrayList", "grow", "(I)[Ljava/lang/Object;"⟩, 3), (⟨"HouseWorkers", "find", "(I)LHouseWorkers$Work;"⟩, 6), (⟨"HouseWorkers", "giveTurn", "(LHouseWorkers$Work;)I"⟩, 6), (⟨"HouseWorkers", "standsStill", "(LHouseWorkers$Work;)Z"⟩, 6), (⟨"HouseWorkers", "hasNobodyBefore", "(LHouseWorkers$Work;)Z"⟩, 6), (⟨"HouseWorkers", "act", "(LHouseWorkers$Work;)I"⟩, 6), (⟨"HouseWorkers", "endWork", "(LHouseWorkers$Work;I)V"⟩, 6), (⟨"HouseWorkers", "giveRow", "(I)I"⟩, 6), (⟨"HouseWorkers", "isKept", "(I)Z"⟩, 6), (⟨"HouseWorkers", "isPinned", "(I)Z"⟩, 6), (⟨"HouseWorkers", "countKept", "()I"⟩, 6), (⟨"HouseWorkers", "countPinned", "()I"⟩, 6), (⟨"HouseWorkersModel", "begin", "(IIIII)I"⟩, 22)]
theorem lw_r1 : ∀ q ∈ lw_privs_1, lw_okq q := List.forall_mem_cons.mpr ⟨lw_p0, List.forall_mem_cons.mpr ⟨lw_p1, List.forall_mem_cons.mpr ⟨lw_p2, List.forall_mem_cons.mpr ⟨lw_p3, List.forall_mem_cons.mpr ⟨lw_p4, List.forall_mem_cons.mpr ⟨lw_p5, List.forall_mem_cons.mpr ⟨lw_p6, List.forall_mem_cons.mpr ⟨lw_p7, List.forall_mem_cons.mpr ⟨lw_p8, List.forall_mem_cons.mpr ⟨lw_p9, List.forall_mem_cons.mpr ⟨lw_p10, List.forall_mem_cons.mpr ⟨lw_p11, List.forall_mem_cons.mpr ⟨lw_p12, List.forall_mem_cons.mpr ⟨lw_p13, List.forall_mem_cons.mpr ⟨lw_p14, List.forall_mem_cons.mpr ⟨lw_p15, fun _ h => absurd h List.not_mem_nil⟩⟩⟩⟩⟩⟩⟩⟩⟩⟩⟩⟩⟩⟩⟩⟩
theorem lw_p16 : lw_okq (⟨"HouseWorkersModel", "waits", "(I)Z"⟩, 22) := ⟨⟨by decide +kernel, by decide +kernel⟩, List.mem_of_getElem? (i := 589) (by decide +kernel), List.mem_of_getElem? (i := 694) (by decide +kernel), List.mem_of_getElem? (i := 695) (by decide +kernel)⟩
theorem lw_p17 : lw_okq (⟨"HouseWorkersModel", "isNext", "(I)Z"⟩, 22) := ⟨⟨by decide +kernel, by decide +kernel⟩, List.mem_of_getElem? (i := 589) (by decide +kernel), List.mem_of_getElem? (i := 698) (by decide +kernel), List.mem_of_getElem? (i := 699) (by decide +kernel)⟩
theorem lw_p18 : lw_okq (⟨"HouseWorkersModel", "commit", "(I)V"⟩, 22) := ⟨⟨by decide +kernel, by decide +kernel⟩, List.mem_of_getElem? (i := 589) (by decide +kernel), List.mem_of_getElem? (i := 702) (by decide +kernel), List.mem_of_getElem? (i := 703) (by decide +kernel)⟩
theorem lw_p19 : lw_okq (⟨"HouseWorkersModel", "step", "(I)V"⟩, 22) := ⟨⟨by decide +kernel, by decide +kernel⟩, List.mem_of_getElem? (i := 589) (by decide +kernel), List.mem_of_getElem? (i := 706) (by decide +kernel), List.mem_of_getElem? (i := 707) (by decide +kernel)⟩
theorem lw_p20 : lw_okq (⟨"HouseWorkersModel", "round", "(I)V"⟩, 22) := ⟨⟨by decide +kernel, by decide +kernel⟩, List.mem_of_getElem? (i := 589) (by decide +kernel), List.mem_of_getElem? (i := 710) (by decide +kernel), List.mem_of_getElem? (i := 711) (by decide +kernel)⟩
theorem lw_p21 : lw_okq (⟨"HouseWorkersModel", "finish", "(II)V"⟩, 22) := ⟨⟨by decide +kernel, by decide +kernel⟩, List.mem_of_getElem? (i := 589) (by decide +kernel), List.mem_of_getElem? (i := 714) (by decide +kernel), List.mem_of_getElem? (i := 715) (by decide +kernel)⟩
theorem lw_p22 : lw_okq (⟨"HouseWorkersModel", "isKept", "(I)Z"⟩, 22) := ⟨⟨by decide +kernel, by decide +kernel⟩, List.mem_of_getElem? (i := 589) (by decide +kernel), List.mem_of_getElem? (i := 743) (by decide +kernel), List.mem_of_getElem? (i := 744) (by decide +kernel)⟩
theorem lw_p23 : lw_okq (⟨"HouseWorkersModel", "isPinned", "(I)Z"⟩, 22) := ⟨⟨by decide +kernel, by decide +kernel⟩, List.mem_of_getElem? (i := 589) (by decide +kernel), List.mem_of_getElem? (i := 747) (by decide +kernel), List.mem_of_getElem? (i := 748) (by decide +kernel)⟩
theorem lw_p24 : lw_okq (⟨"HouseWorkersModel", "pinned", "(I)I"⟩, 22) := ⟨⟨by decide +kernel, by decide +kernel⟩, List.mem_of_getElem? (i := 589) (by decide +kernel), List.mem_of_getElem? (i := 751) (by decide +kernel), List.mem_of_getElem? (i := 752) (by decide +kernel)⟩
def lw_privs_2 : List (MethodName × Nat) := [(⟨"HouseWorkersModel", "waits", "(I)Z"⟩, 22), (⟨"HouseWorkersModel", "isNext", "(I)Z"⟩, 22), (⟨"HouseWorkersModel", "commit", "(I)V"⟩, 22), (⟨"HouseWorkersModel", "step", "(I)V"⟩, 22), (⟨"HouseWorkersModel", "round", "(I)V"⟩, 22), (⟨"HouseWorkersModel", "finish", "(II)V"⟩, 22), (⟨"HouseWorkersModel", "isKept", "(I)Z"⟩, 22), (⟨"HouseWorkersModel", "isPinned", "(I)Z"⟩, 22), (⟨"HouseWorkersModel", "pinned", "(I)I"⟩, 22)]
theorem lw_r2 : ∀ q ∈ lw_privs_2, lw_okq q := List.forall_mem_cons.mpr ⟨lw_p16, List.forall_mem_cons.mpr ⟨lw_p17, List.forall_mem_cons.mpr ⟨lw_p18, List.forall_mem_cons.mpr ⟨lw_p19, List.forall_mem_cons.mpr ⟨lw_p20, List.forall_mem_cons.mpr ⟨lw_p21, List.forall_mem_cons.mpr ⟨lw_p22, List.forall_mem_cons.mpr ⟨lw_p23, List.forall_mem_cons.mpr ⟨lw_p24, fun _ h => absurd h List.not_mem_nil⟩⟩⟩⟩⟩⟩⟩⟩⟩
def lw_privs : List (MethodName × Nat) := lw_privs_1 ++ (lw_privs_2)
def lw_tbl : List Cond := k2_sels lw_privs ++ tables_1
theorem lw_privs_ok : ∀ q ∈ lw_privs, lw_okq q := by
  show ∀ q ∈ lw_privs_1 ++ (lw_privs_2), lw_okq q
  exact List.forall_mem_append.mpr ⟨lw_r1, lw_r2⟩
end
section
/-! ===== BEGIN words of one list among another's, by their places ===== -/
theorem goodIn_r {big : List Cond} (ws : List Cond) (ps : List Nat) (hp : ws = ps.filterMap (fun i => big[i]?)) (h : ws.all goodWord = true) : GoodIn big ws := by
  intro w hw
  have h1 := List.all_eq_true.mp h w hw
  rw [hp] at hw
  obtain ⟨i, -, hi⟩ := List.mem_filterMap.mp hw
  have hm : w ∈ big := by first | exact List.mem_of_getElem? hi | exact List.getElem?_mem hi
  exact ⟨hm, good_of_word h1⟩
theorem goodIn_app {big a b : List Cond} (ha : GoodIn big a) (hb : GoodIn big b) : GoodIn big (a ++ b) := fun w h => (List.mem_append.mp h).elim (ha w) (hb w)
theorem goodIn_ca {big a b : List Cond} {c : Cond} (ha : GoodIn big (c :: a)) (hb : GoodIn big b) : GoodIn big (c :: (a ++ b)) := fun w h => (List.mem_cons.mp h).elim (fun e => ha w (List.mem_cons.mpr (Or.inl e))) (fun h => (List.mem_append.mp h).elim (fun h => ha w (List.mem_cons.mpr (Or.inr h))) (hb w))
theorem goodIn_sub {big ws : List Cond} (hm : ∀ w ∈ ws, w ∈ big) (h : ws.all goodWord = true) : GoodIn big ws := fun w hw => ⟨hm w hw, good_of_word (List.all_eq_true.mp h w hw)⟩
/-! ===== END ===== -/

/-! ===== BEGIN printed: names, fields, word lists, decode rows ===== -/
def RX0 : String := "HouseWorkers$Cells"
def TX0 : u_T := fun k => match k with
  | _ => ("HouseWorkers$Cells", "row", "[I", true)
def tyX0 : Nat → FieldType := fun k => match k with
  | _ => .array .int
abbrev wsX00 : List Cond := u_ws RX0 TX0 1
theorem nmX0 : ∀ a, a < 1 → ∀ b, b < 1 → a ≠ b → (TX0 a).2.1 ≠ (TX0 b).2.1 := by decide +kernel
theorem tyX0_ok : ∀ k, k < 1 → parseFieldDescriptor (TX0 k).2.2.1 = some (tyX0 k) := by decide +kernel
abbrev cX0_init : ByteArray := prog_2_method_1_code
def yX0_init : MethodName := ⟨RX0, "<init>", "()V"⟩
abbrev cX0_at : ByteArray := prog_2_method_2_code
def yX0_at : MethodName := ⟨RX0, "at", "(I)I"⟩
abbrev cX0_set : ByteArray := prog_2_method_3_code
def yX0_set : MethodName := ⟨RX0, "set", "(II)V"⟩
abbrev cX0_add : ByteArray := prog_2_method_4_code
def yX0_add : MethodName := ⟨RX0, "add", "(II)V"⟩
abbrev cX0_addAll : ByteArray := prog_2_method_5_code
def yX0_addAll : MethodName := ⟨RX0, "addAll", "(LHouseWorkers$Cells;)V"⟩
abbrev cX0_takeAll : ByteArray := prog_2_method_6_code
def yX0_takeAll : MethodName := ⟨RX0, "takeAll", "(LHouseWorkers$Cells;)V"⟩
abbrev cX0_spread : ByteArray := prog_2_method_7_code
def yX0_spread : MethodName := ⟨RX0, "spread", "()V"⟩
abbrev cX0_sum : ByteArray := prog_2_method_8_code
def yX0_sum : MethodName := ⟨RX0, "sum", "()I"⟩
def RX1 : String := "HouseWorkers$QuestionWork"
def TX1 : u_T := fun k => match k with
  | 0 => ("HouseWorkers$Work", "number", "I", true)
  | 1 => ("HouseWorkers$Work", "kind", "I", true)
  | 2 => ("HouseWorkers$Work", "steps", "I", true)
  | 3 => ("HouseWorkers$Work", "failsAt", "I", true)
  | 4 => ("HouseWorkers$Work", "stepsDone", "I", false)
  | 5 => ("HouseWorkers$Work", "answer", "I", false)
  | 6 => ("HouseWorkers$Work", "version", "I", false)
  | 7 => ("HouseWorkers$Work", "pinned", "I", false)
  | 8 => ("HouseWorkers$Work", "toBeCancelled", "Z", false)
  | 9 => ("HouseWorkers$Work", "end", "I", false)
  | 10 => ("HouseWorkers$Work", "turnsAtEnd", "I", false)
  | 11 => ("HouseWorkers$QuestionWork", "first", "I", true)
  | _ => ("HouseWorkers$QuestionWork", "read", "LHouseWorkers$Cells;", true)
def tyX1 : Nat → FieldType := fun k => match k with
  | 0 => .int
  | 1 => .int
  | 2 => .int
  | 3 => .int
  | 4 => .int
  | 5 => .int
  | 6 => .int
  | 7 => .int
  | 8 => .boolean
  | 9 => .int
  | 10 => .int
  | 11 => .int
  | _ => .object "HouseWorkers$Cells"
abbrev wsX10 : List Cond := u_ws RX1 TX1 13
theorem nmX1 : ∀ a, a < 13 → ∀ b, b < 13 → a ≠ b → (TX1 a).2.1 ≠ (TX1 b).2.1 := by decide +kernel
theorem tyX1_ok : ∀ k, k < 13 → parseFieldDescriptor (TX1 k).2.2.1 = some (tyX1 k) := by decide +kernel
abbrev cX1_init : ByteArray := prog_3_method_1_code
def yX1_init : MethodName := ⟨RX1, "<init>", "(IIIILHouseWorkers$Store;)V"⟩
abbrev cX1_waits : ByteArray := prog_3_method_2_code
def yX1_waits : MethodName := ⟨RX1, "waits", "(LHouseWorkers$Store;Z)Z"⟩
abbrev cX1_goOn : ByteArray := prog_3_method_3_code
def yX1_goOn : MethodName := ⟨RX1, "goOn", "(LHouseWorkers$Store;)I"⟩
def RX2 : String := "HouseWorkers$ReasoningWork"
def TX2 : u_T := fun k => match k with
  | 0 => ("HouseWorkers$Work", "number", "I", true)
  | 1 => ("HouseWorkers$Work", "kind", "I", true)
  | 2 => ("HouseWorkers$Work", "steps", "I", true)
  | 3 => ("HouseWorkers$Work", "failsAt", "I", true)
  | 4 => ("HouseWorkers$Work", "stepsDone", "I", false)
  | 5 => ("HouseWorkers$Work", "answer", "I", false)
  | 6 => ("HouseWorkers$Work", "version", "I", false)
  | 7 => ("HouseWorkers$Work", "pinned", "I", false)
  | 8 => ("HouseWorkers$Work", "toBeCancelled", "Z", false)
  | 9 => ("HouseWorkers$Work", "end", "I", false)
  | 10 => ("HouseWorkers$Work", "turnsAtEnd", "I", false)
  | _ => ("HouseWorkers$ReasoningWork", "cells", "LHouseWorkers$Cells;", true)
def tyX2 : Nat → FieldType := fun k => match k with
  | 0 => .int
  | 1 => .int
  | 2 => .int
  | 3 => .int
  | 4 => .int
  | 5 => .int
  | 6 => .int
  | 7 => .int
  | 8 => .boolean
  | 9 => .int
  | 10 => .int
  | _ => .object "HouseWorkers$Cells"
abbrev wsX20 : List Cond := u_ws RX2 TX2 12
theorem nmX2 : ∀ a, a < 12 → ∀ b, b < 12 → a ≠ b → (TX2 a).2.1 ≠ (TX2 b).2.1 := by decide +kernel
theorem tyX2_ok : ∀ k, k < 12 → parseFieldDescriptor (TX2 k).2.2.1 = some (tyX2 k) := by decide +kernel
abbrev cX2_init : ByteArray := prog_4_method_1_code
def yX2_init : MethodName := ⟨RX2, "<init>", "(III)V"⟩
abbrev cX2_waits : ByteArray := prog_4_method_2_code
def yX2_waits : MethodName := ⟨RX2, "waits", "(LHouseWorkers$Store;Z)Z"⟩
abbrev cX2_goOn : ByteArray := prog_4_method_3_code
def yX2_goOn : MethodName := ⟨RX2, "goOn", "(LHouseWorkers$Store;)I"⟩
def RX3 : String := "HouseWorkers$Store"
def TX3 : u_T := fun k => match k with
  | 0 => ("HouseWorkers$Store", "start", "LHouseWorkers$Cells;", true)
  | 1 => ("HouseWorkers$Store", "committed", "Ljava/util/ArrayList;", true)
  | _ => ("HouseWorkers$Store", "latest", "LHouseWorkers$Cells;", false)
def tyX3 : Nat → FieldType := fun k => match k with
  | 0 => .object "HouseWorkers$Cells"
  | 1 => .object "java/util/ArrayList"
  | _ => .object "HouseWorkers$Cells"
abbrev wsX30 : List Cond := u_ws RX3 TX3 3
theorem nmX3 : ∀ a, a < 3 → ∀ b, b < 3 → a ≠ b → (TX3 a).2.1 ≠ (TX3 b).2.1 := by decide +kernel
theorem tyX3_ok : ∀ k, k < 3 → parseFieldDescriptor (TX3 k).2.2.1 = some (tyX3 k) := by decide +kernel
abbrev cX3_init : ByteArray := prog_5_method_1_code
def yX3_init : MethodName := ⟨RX3, "<init>", "()V"⟩
abbrev cX3_latest : ByteArray := prog_5_method_2_code
def yX3_latest : MethodName := ⟨RX3, "latest", "()LHouseWorkers$Cells;"⟩
abbrev cX3_latestNumber : ByteArray := prog_5_method_3_code
def yX3_latestNumber : MethodName := ⟨RX3, "latestNumber", "()I"⟩
abbrev cX3_size : ByteArray := prog_5_method_4_code
def yX3_size : MethodName := ⟨RX3, "size", "()I"⟩
abbrev cX3_find : ByteArray := prog_5_method_5_code
def yX3_find : MethodName := ⟨RX3, "find", "(I)LHouseWorkers$Cells;"⟩
abbrev cX3_commit : ByteArray := prog_5_method_6_code
def yX3_commit : MethodName := ⟨RX3, "commit", "(LHouseWorkers$Cells;)I"⟩
def RX4 : String := "HouseWorkers$StreamWork"
def TX4 : u_T := fun k => match k with
  | 0 => ("HouseWorkers$Work", "number", "I", true)
  | 1 => ("HouseWorkers$Work", "kind", "I", true)
  | 2 => ("HouseWorkers$Work", "steps", "I", true)
  | 3 => ("HouseWorkers$Work", "failsAt", "I", true)
  | 4 => ("HouseWorkers$Work", "stepsDone", "I", false)
  | 5 => ("HouseWorkers$Work", "answer", "I", false)
  | 6 => ("HouseWorkers$Work", "version", "I", false)
  | 7 => ("HouseWorkers$Work", "pinned", "I", false)
  | 8 => ("HouseWorkers$Work", "toBeCancelled", "Z", false)
  | 9 => ("HouseWorkers$Work", "end", "I", false)
  | _ => ("HouseWorkers$Work", "turnsAtEnd", "I", false)
def tyX4 : Nat → FieldType := fun k => match k with
  | 0 => .int
  | 1 => .int
  | 2 => .int
  | 3 => .int
  | 4 => .int
  | 5 => .int
  | 6 => .int
  | 7 => .int
  | 8 => .boolean
  | 9 => .int
  | _ => .int
abbrev wsX40 : List Cond := u_ws RX4 TX4 11
theorem nmX4 : ∀ a, a < 11 → ∀ b, b < 11 → a ≠ b → (TX4 a).2.1 ≠ (TX4 b).2.1 := by decide +kernel
theorem tyX4_ok : ∀ k, k < 11 → parseFieldDescriptor (TX4 k).2.2.1 = some (tyX4 k) := by decide +kernel
abbrev cX4_init : ByteArray := prog_6_method_1_code
def yX4_init : MethodName := ⟨RX4, "<init>", "(ILHouseWorkers$Store;)V"⟩
abbrev cX4_waits : ByteArray := prog_6_method_2_code
def yX4_waits : MethodName := ⟨RX4, "waits", "(LHouseWorkers$Store;Z)Z"⟩
abbrev cX4_goOn : ByteArray := prog_6_method_3_code
def yX4_goOn : MethodName := ⟨RX4, "goOn", "(LHouseWorkers$Store;)I"⟩
abbrev cX4_isToGet : ByteArray := prog_6_method_4_code
def yX4_isToGet : MethodName := ⟨RX4, "isToGet", "(I)Z"⟩
def RX5 : String := "HouseWorkers$Work"
def TX5 : u_T := fun k => match k with
  | _ => ("", "", "", false)
def tyX5 : Nat → FieldType := fun k => match k with
  | _ => .int
abbrev wsX50 : List Cond := u_ws RX5 TX5 0
theorem nmX5 : ∀ a, a < 0 → ∀ b, b < 0 → a ≠ b → (TX5 a).2.1 ≠ (TX5 b).2.1 := by decide +kernel
theorem tyX5_ok : ∀ k, k < 0 → parseFieldDescriptor (TX5 k).2.2.1 = some (tyX5 k) := by decide +kernel
abbrev cX5_init : ByteArray := prog_7_method_1_code
def yX5_init : MethodName := ⟨RX5, "<init>", "(IIII)V"⟩
abbrev cX5_isToGet : ByteArray := prog_7_method_4_code
def yX5_isToGet : MethodName := ⟨RX5, "isToGet", "(I)Z"⟩
abbrev cX5_commits : ByteArray := prog_7_method_5_code
def yX5_commits : MethodName := ⟨RX5, "commits", "()Z"⟩
abbrev cX5_hasEnded : ByteArray := prog_7_method_6_code
def yX5_hasEnded : MethodName := ⟨RX5, "hasEnded", "()Z"⟩
abbrev cX5_hasDoneAllSteps : ByteArray := prog_7_method_7_code
def yX5_hasDoneAllSteps : MethodName := ⟨RX5, "hasDoneAllSteps", "()Z"⟩
abbrev cX5_failsNow : ByteArray := prog_7_method_8_code
def yX5_failsNow : MethodName := ⟨RX5, "failsNow", "()Z"⟩
abbrev cX5_pins : ByteArray := prog_7_method_9_code
def yX5_pins : MethodName := ⟨RX5, "pins", "(I)Z"⟩
def RX6 : String := "HouseWorkers$WriterWork"
def TX6 : u_T := fun k => match k with
  | 0 => ("HouseWorkers$Work", "number", "I", true)
  | 1 => ("HouseWorkers$Work", "kind", "I", true)
  | 2 => ("HouseWorkers$Work", "steps", "I", true)
  | 3 => ("HouseWorkers$Work", "failsAt", "I", true)
  | 4 => ("HouseWorkers$Work", "stepsDone", "I", false)
  | 5 => ("HouseWorkers$Work", "answer", "I", false)
  | 6 => ("HouseWorkers$Work", "version", "I", false)
  | 7 => ("HouseWorkers$Work", "pinned", "I", false)
  | 8 => ("HouseWorkers$Work", "toBeCancelled", "Z", false)
  | 9 => ("HouseWorkers$Work", "end", "I", false)
  | 10 => ("HouseWorkers$Work", "turnsAtEnd", "I", false)
  | 11 => ("HouseWorkers$WriterWork", "first", "I", true)
  | 12 => ("HouseWorkers$WriterWork", "by", "I", true)
  | _ => ("HouseWorkers$WriterWork", "draft", "LHouseWorkers$Cells;", true)
def tyX6 : Nat → FieldType := fun k => match k with
  | 0 => .int
  | 1 => .int
  | 2 => .int
  | 3 => .int
  | 4 => .int
  | 5 => .int
  | 6 => .int
  | 7 => .int
  | 8 => .boolean
  | 9 => .int
  | 10 => .int
  | 11 => .int
  | 12 => .int
  | _ => .object "HouseWorkers$Cells"
abbrev wsX60 : List Cond := u_ws RX6 TX6 14
theorem nmX6 : ∀ a, a < 14 → ∀ b, b < 14 → a ≠ b → (TX6 a).2.1 ≠ (TX6 b).2.1 := by decide +kernel
theorem tyX6_ok : ∀ k, k < 14 → parseFieldDescriptor (TX6 k).2.2.1 = some (tyX6 k) := by decide +kernel
abbrev cX6_init : ByteArray := prog_8_method_1_code
def yX6_init : MethodName := ⟨RX6, "<init>", "(IIIII)V"⟩
abbrev cX6_waits : ByteArray := prog_8_method_2_code
def yX6_waits : MethodName := ⟨RX6, "waits", "(LHouseWorkers$Store;Z)Z"⟩
abbrev cX6_goOn : ByteArray := prog_8_method_3_code
def yX6_goOn : MethodName := ⟨RX6, "goOn", "(LHouseWorkers$Store;)I"⟩
def RX7 : String := "HouseWorkers"
def TX7 : u_T := fun k => match k with
  | 0 => ("HouseWorkers", "store", "LHouseWorkers$Store;", true)
  | 1 => ("HouseWorkers", "works", "Ljava/util/ArrayList;", true)
  | 2 => ("HouseWorkers", "ends", "Ljava/util/ArrayList;", true)
  | 3 => ("HouseWorkers", "closed", "Z", false)
  | 4 => ("HouseWorkers", "turnsThatDid", "I", false)
  | _ => ("HouseWorkers", "turnsThatWaited", "I", false)
def tyX7 : Nat → FieldType := fun k => match k with
  | 0 => .object "HouseWorkers$Store"
  | 1 => .object "java/util/ArrayList"
  | 2 => .object "java/util/ArrayList"
  | 3 => .boolean
  | 4 => .int
  | _ => .int
abbrev wsX70 : List Cond := u_ws RX7 TX7 6
theorem nmX7 : ∀ a, a < 6 → ∀ b, b < 6 → a ≠ b → (TX7 a).2.1 ≠ (TX7 b).2.1 := by decide +kernel
theorem tyX7_ok : ∀ k, k < 6 → parseFieldDescriptor (TX7 k).2.2.1 = some (tyX7 k) := by decide +kernel
abbrev cX7_init : ByteArray := prog_1_method_1_code
def yX7_init : MethodName := ⟨RX7, "<init>", "()V"⟩
abbrev cX7_put : ByteArray := prog_1_method_2_code
def yX7_put : MethodName := ⟨RX7, "put", "(II)I"⟩
abbrev cX7_question : ByteArray := prog_1_method_3_code
def yX7_question : MethodName := ⟨RX7, "question", "(III)I"⟩
abbrev cX7_writer : ByteArray := prog_1_method_4_code
def yX7_writer : MethodName := ⟨RX7, "writer", "(IIII)I"⟩
abbrev cX7_reason : ByteArray := prog_1_method_5_code
def yX7_reason : MethodName := ⟨RX7, "reason", "(II)I"⟩
abbrev cX7_stream : ByteArray := prog_1_method_6_code
def yX7_stream : MethodName := ⟨RX7, "stream", "()I"⟩
abbrev cX7_turn : ByteArray := prog_1_method_7_code
def yX7_turn : MethodName := ⟨RX7, "turn", "(I)I"⟩
abbrev cX7_run : ByteArray := prog_1_method_8_code
def yX7_run : MethodName := ⟨RX7, "run", "(I)I"⟩
abbrev cX7_cancel : ByteArray := prog_1_method_9_code
def yX7_cancel : MethodName := ⟨RX7, "cancel", "(I)I"⟩
abbrev cX7_close : ByteArray := prog_1_method_10_code
def yX7_close : MethodName := ⟨RX7, "close", "()I"⟩
abbrev cX7_told : ByteArray := prog_1_method_11_code
def yX7_told : MethodName := ⟨RX7, "told", "(II)I"⟩
abbrev cX7_ended : ByteArray := prog_1_method_12_code
def yX7_ended : MethodName := ⟨RX7, "ended", "(II)I"⟩
abbrev cX7_cell : ByteArray := prog_1_method_13_code
def yX7_cell : MethodName := ⟨RX7, "cell", "(II)I"⟩
abbrev cX7_count : ByteArray := prog_1_method_14_code
def yX7_count : MethodName := ⟨RX7, "count", "(I)I"⟩
abbrev cX7_isCell : ByteArray := prog_1_method_15_code
def yX7_isCell : MethodName := ⟨RX7, "isCell", "(I)Z"⟩
abbrev cX7_areSteps : ByteArray := prog_1_method_16_code
def yX7_areSteps : MethodName := ⟨RX7, "areSteps", "(I)Z"⟩
abbrev cX7_isFailsAt : ByteArray := prog_1_method_17_code
def yX7_isFailsAt : MethodName := ⟨RX7, "isFailsAt", "(I)Z"⟩
abbrev cX7_nextNumber : ByteArray := prog_1_method_18_code
def yX7_nextNumber : MethodName := ⟨RX7, "nextNumber", "()I"⟩
abbrev cX7_find : ByteArray := prog_1_method_19_code
def yX7_find : MethodName := ⟨RX7, "find", "(I)LHouseWorkers$Work;"⟩
abbrev cX7_giveRow : ByteArray := prog_1_method_20_code
def yX7_giveRow : MethodName := ⟨RX7, "giveRow", "(I)I"⟩
abbrev cX7_giveTurn : ByteArray := prog_1_method_21_code
def yX7_giveTurn : MethodName := ⟨RX7, "giveTurn", "(LHouseWorkers$Work;)I"⟩
abbrev cX7_act : ByteArray := prog_1_method_22_code
def yX7_act : MethodName := ⟨RX7, "act", "(LHouseWorkers$Work;)I"⟩
abbrev cX7_standsStill : ByteArray := prog_1_method_23_code
def yX7_standsStill : MethodName := ⟨RX7, "standsStill", "(LHouseWorkers$Work;)Z"⟩
abbrev cX7_hasNobodyBefore : ByteArray := prog_1_method_24_code
def yX7_hasNobodyBefore : MethodName := ⟨RX7, "hasNobodyBefore", "(LHouseWorkers$Work;)Z"⟩
abbrev cX7_endWork : ByteArray := prog_1_method_25_code
def yX7_endWork : MethodName := ⟨RX7, "endWork", "(LHouseWorkers$Work;I)V"⟩
abbrev cX7_isKept : ByteArray := prog_1_method_26_code
def yX7_isKept : MethodName := ⟨RX7, "isKept", "(I)Z"⟩
abbrev cX7_isPinned : ByteArray := prog_1_method_27_code
def yX7_isPinned : MethodName := ⟨RX7, "isPinned", "(I)Z"⟩
abbrev cX7_countKept : ByteArray := prog_1_method_28_code
def yX7_countKept : MethodName := ⟨RX7, "countKept", "()I"⟩
abbrev cX7_countPinned : ByteArray := prog_1_method_29_code
def yX7_countPinned : MethodName := ⟨RX7, "countPinned", "()I"⟩
def RX8 : String := "HouseWorkersModel"
def TX8 : u_T := fun k => match k with
  | 0 => ("HouseWorkersModel", "cells", "[I", true)
  | 1 => ("HouseWorkersModel", "versions", "I", false)
  | 2 => ("HouseWorkersModel", "closed", "Z", false)
  | 3 => ("HouseWorkersModel", "workers", "I", false)
  | 4 => ("HouseWorkersModel", "kind", "[I", true)
  | 5 => ("HouseWorkersModel", "steps", "[I", true)
  | 6 => ("HouseWorkersModel", "failsAt", "[I", true)
  | 7 => ("HouseWorkersModel", "first", "[I", true)
  | 8 => ("HouseWorkersModel", "by", "[I", true)
  | 9 => ("HouseWorkersModel", "done", "[I", true)
  | 10 => ("HouseWorkersModel", "answer", "[I", true)
  | 11 => ("HouseWorkersModel", "version", "[I", true)
  | 12 => ("HouseWorkersModel", "end", "[I", true)
  | 13 => ("HouseWorkersModel", "told", "[Z", true)
  | 14 => ("HouseWorkersModel", "draft", "[I", true)
  | 15 => ("HouseWorkersModel", "before", "[I", true)
  | 16 => ("HouseWorkersModel", "ends", "I", false)
  | 17 => ("HouseWorkersModel", "endWho", "[I", true)
  | 18 => ("HouseWorkersModel", "endHow", "[I", true)
  | 19 => ("HouseWorkersModel", "endWhen", "[I", true)
  | 20 => ("HouseWorkersModel", "did", "I", false)
  | _ => ("HouseWorkersModel", "didNothing", "I", false)
def tyX8 : Nat → FieldType := fun k => match k with
  | 0 => .array .int
  | 1 => .int
  | 2 => .boolean
  | 3 => .int
  | 4 => .array .int
  | 5 => .array .int
  | 6 => .array .int
  | 7 => .array .int
  | 8 => .array .int
  | 9 => .array .int
  | 10 => .array .int
  | 11 => .array .int
  | 12 => .array .int
  | 13 => .array .boolean
  | 14 => .array .int
  | 15 => .array .int
  | 16 => .int
  | 17 => .array .int
  | 18 => .array .int
  | 19 => .array .int
  | 20 => .int
  | _ => .int
abbrev wsX80 : List Cond := u_ws RX8 TX8 22
theorem nmX8 : ∀ a, a < 22 → ∀ b, b < 22 → a ≠ b → (TX8 a).2.1 ≠ (TX8 b).2.1 := by decide +kernel
theorem tyX8_ok : ∀ k, k < 22 → parseFieldDescriptor (TX8 k).2.2.1 = some (tyX8 k) := by decide +kernel
abbrev cX8_init : ByteArray := prog_10_method_1_code
def yX8_init : MethodName := ⟨RX8, "<init>", "()V"⟩
abbrev cX8_in : ByteArray := prog_10_method_3_code
def yX8_in : MethodName := ⟨RX8, "in", "(III)Z"⟩
abbrev cX8_put : ByteArray := prog_10_method_4_code
def yX8_put : MethodName := ⟨RX8, "put", "(II)I"⟩
abbrev cX8_begin : ByteArray := prog_10_method_5_code
def yX8_begin : MethodName := ⟨RX8, "begin", "(IIIII)I"⟩
abbrev cX8_question : ByteArray := prog_10_method_6_code
def yX8_question : MethodName := ⟨RX8, "question", "(III)I"⟩
abbrev cX8_writer : ByteArray := prog_10_method_7_code
def yX8_writer : MethodName := ⟨RX8, "writer", "(IIII)I"⟩
abbrev cX8_reason : ByteArray := prog_10_method_8_code
def yX8_reason : MethodName := ⟨RX8, "reason", "(II)I"⟩
abbrev cX8_stream : ByteArray := prog_10_method_9_code
def yX8_stream : MethodName := ⟨RX8, "stream", "()I"⟩
abbrev cX8_isNext : ByteArray := prog_10_method_10_code
def yX8_isNext : MethodName := ⟨RX8, "isNext", "(I)Z"⟩
abbrev cX8_waits : ByteArray := prog_10_method_11_code
def yX8_waits : MethodName := ⟨RX8, "waits", "(I)Z"⟩
abbrev cX8_finish : ByteArray := prog_10_method_12_code
def yX8_finish : MethodName := ⟨RX8, "finish", "(II)V"⟩
abbrev cX8_commit : ByteArray := prog_10_method_13_code
def yX8_commit : MethodName := ⟨RX8, "commit", "(I)V"⟩
abbrev cX8_step : ByteArray := prog_10_method_14_code
def yX8_step : MethodName := ⟨RX8, "step", "(I)V"⟩
abbrev cX8_round : ByteArray := prog_10_method_15_code
def yX8_round : MethodName := ⟨RX8, "round", "(I)V"⟩
abbrev cX8_turn : ByteArray := prog_10_method_16_code
def yX8_turn : MethodName := ⟨RX8, "turn", "(I)I"⟩
abbrev cX8_run : ByteArray := prog_10_method_17_code
def yX8_run : MethodName := ⟨RX8, "run", "(I)I"⟩
abbrev cX8_cancel : ByteArray := prog_10_method_18_code
def yX8_cancel : MethodName := ⟨RX8, "cancel", "(I)I"⟩
abbrev cX8_close : ByteArray := prog_10_method_19_code
def yX8_close : MethodName := ⟨RX8, "close", "()I"⟩
abbrev cX8_pinned : ByteArray := prog_10_method_20_code
def yX8_pinned : MethodName := ⟨RX8, "pinned", "(I)I"⟩
abbrev cX8_isPinned : ByteArray := prog_10_method_21_code
def yX8_isPinned : MethodName := ⟨RX8, "isPinned", "(I)Z"⟩
abbrev cX8_isKept : ByteArray := prog_10_method_22_code
def yX8_isKept : MethodName := ⟨RX8, "isKept", "(I)Z"⟩
abbrev cX8_told : ByteArray := prog_10_method_23_code
def yX8_told : MethodName := ⟨RX8, "told", "(II)I"⟩
abbrev cX8_ended : ByteArray := prog_10_method_24_code
def yX8_ended : MethodName := ⟨RX8, "ended", "(II)I"⟩
abbrev cX8_cell : ByteArray := prog_10_method_25_code
def yX8_cell : MethodName := ⟨RX8, "cell", "(II)I"⟩
abbrev cX8_count : ByteArray := prog_10_method_26_code
def yX8_count : MethodName := ⟨RX8, "count", "(I)I"⟩
def RJx145de : String := "java/io/Serializable"
def TJx145de : u_T := fun k => match k with
  | _ => ("", "", "", false)
def tyJx145de : Nat → FieldType := fun k => match k with
  | _ => .int
abbrev wsJx145de0 : List Cond := u_ws RJx145de TJx145de 0
theorem nmJx145de : ∀ a, a < 0 → ∀ b, b < 0 → a ≠ b → (TJx145de a).2.1 ≠ (TJx145de b).2.1 := by decide +kernel
theorem tyJx145de_ok : ∀ k, k < 0 → parseFieldDescriptor (TJx145de k).2.2.1 = some (tyJx145de k) := by decide +kernel
def RJx8e188 : String := "java/lang/Cloneable"
def TJx8e188 : u_T := fun k => match k with
  | _ => ("", "", "", false)
def tyJx8e188 : Nat → FieldType := fun k => match k with
  | _ => .int
abbrev wsJx8e1880 : List Cond := u_ws RJx8e188 TJx8e188 0
theorem nmJx8e188 : ∀ a, a < 0 → ∀ b, b < 0 → a ≠ b → (TJx8e188 a).2.1 ≠ (TJx8e188 b).2.1 := by decide +kernel
theorem tyJx8e188_ok : ∀ k, k < 0 → parseFieldDescriptor (TJx8e188 k).2.2.1 = some (tyJx8e188 k) := by decide +kernel
def RJxab1ab : String := "java/lang/Iterable"
def TJxab1ab : u_T := fun k => match k with
  | _ => ("", "", "", false)
def tyJxab1ab : Nat → FieldType := fun k => match k with
  | _ => .int
abbrev wsJxab1ab0 : List Cond := u_ws RJxab1ab TJxab1ab 0
theorem nmJxab1ab : ∀ a, a < 0 → ∀ b, b < 0 → a ≠ b → (TJxab1ab a).2.1 ≠ (TJxab1ab b).2.1 := by decide +kernel
theorem tyJxab1ab_ok : ∀ k, k < 0 → parseFieldDescriptor (TJxab1ab k).2.2.1 = some (tyJxab1ab k) := by decide +kernel
def RJ9 : String := "java/lang/Math"
def TJ9 : u_T := fun k => match k with
  | _ => ("", "", "", false)
def tyJ9 : Nat → FieldType := fun k => match k with
  | _ => .int
abbrev wsJ90 : List Cond := u_ws RJ9 TJ9 0
theorem nmJ9 : ∀ a, a < 0 → ∀ b, b < 0 → a ≠ b → (TJ9 a).2.1 ≠ (TJ9 b).2.1 := by decide +kernel
theorem tyJ9_ok : ∀ k, k < 0 → parseFieldDescriptor (TJ9 k).2.2.1 = some (tyJ9 k) := by decide +kernel
abbrev cJ9_max_7cf53 : ByteArray := prog_14_method_65_code
def yJ9_max_7cf53 : MethodName := ⟨RJ9, "max", "(II)I"⟩
abbrev cJ9_min_7cf53 : ByteArray := prog_14_method_69_code
def yJ9_min_7cf53 : MethodName := ⟨RJ9, "min", "(II)I"⟩
def RJ10 : String := "java/lang/System"
def TJ10 : u_T := fun k => match k with
  | _ => ("", "", "", false)
def tyJ10 : Nat → FieldType := fun k => match k with
  | _ => .int
abbrev wsJ100 : List Cond := u_ws RJ10 TJ10 0
theorem nmJ10 : ∀ a, a < 0 → ∀ b, b < 0 → a ≠ b → (TJ10 a).2.1 ≠ (TJ10 b).2.1 := by decide +kernel
theorem tyJ10_ok : ∀ k, k < 0 → parseFieldDescriptor (TJ10 k).2.2.1 = some (tyJ10 k) := by decide +kernel
def RJxa1e45 : String := "java/util/AbstractCollection"
def TJxa1e45 : u_T := fun k => match k with
  | _ => ("", "", "", false)
def tyJxa1e45 : Nat → FieldType := fun k => match k with
  | _ => .int
abbrev wsJxa1e450 : List Cond := u_ws RJxa1e45 TJxa1e45 0
theorem nmJxa1e45 : ∀ a, a < 0 → ∀ b, b < 0 → a ≠ b → (TJxa1e45 a).2.1 ≠ (TJxa1e45 b).2.1 := by decide +kernel
theorem tyJxa1e45_ok : ∀ k, k < 0 → parseFieldDescriptor (TJxa1e45 k).2.2.1 = some (tyJxa1e45 k) := by decide +kernel
abbrev cJxa1e45_init_da8c8 : ByteArray := prog_16_method_1_code
def yJxa1e45_init_da8c8 : MethodName := ⟨RJxa1e45, "<init>", "()V"⟩
def RJxc12de : String := "java/util/AbstractList"
def TJxc12de : u_T := fun k => match k with
  | _ => ("", "", "", false)
def tyJxc12de : Nat → FieldType := fun k => match k with
  | _ => .int
abbrev wsJxc12de0 : List Cond := u_ws RJxc12de TJxc12de 0
theorem nmJxc12de : ∀ a, a < 0 → ∀ b, b < 0 → a ≠ b → (TJxc12de a).2.1 ≠ (TJxc12de b).2.1 := by decide +kernel
theorem tyJxc12de_ok : ∀ k, k < 0 → parseFieldDescriptor (TJxc12de k).2.2.1 = some (tyJxc12de k) := by decide +kernel
abbrev cJxc12de_init_da8c8 : ByteArray := prog_17_method_1_code
def yJxc12de_init_da8c8 : MethodName := ⟨RJxc12de, "<init>", "()V"⟩
def RJx4a65c : String := "java/util/ArrayList"
def TJx4a65c : u_T := fun k => match k with
  | 0 => ("java/util/AbstractList", "modCount", "I", false)
  | 1 => ("java/util/ArrayList", "elementData", "[Ljava/lang/Object;", false)
  | _ => ("java/util/ArrayList", "size", "I", false)
def tyJx4a65c : Nat → FieldType := fun k => match k with
  | 0 => .int
  | 1 => .array (.object "java/lang/Object")
  | _ => .int
abbrev wsJx4a65c0 : List Cond := u_ws RJx4a65c TJx4a65c 3
theorem nmJx4a65c : ∀ a, a < 3 → ∀ b, b < 3 → a ≠ b → (TJx4a65c a).2.1 ≠ (TJx4a65c b).2.1 := by decide +kernel
theorem tyJx4a65c_ok : ∀ k, k < 3 → parseFieldDescriptor (TJx4a65c k).2.2.1 = some (tyJx4a65c k) := by decide +kernel
abbrev cJx4a65c_init_da8c8 : ByteArray := prog_18_method_2_code
def yJx4a65c_init_da8c8 : MethodName := ⟨RJx4a65c, "<init>", "()V"⟩
abbrev cJx4a65c_grow_92f84 : ByteArray := prog_18_method_6_code
def yJx4a65c_grow_92f84 : MethodName := ⟨RJx4a65c, "grow", "(I)[Ljava/lang/Object;"⟩
abbrev cJx4a65c_grow_d5877 : ByteArray := prog_18_method_7_code
def yJx4a65c_grow_d5877 : MethodName := ⟨RJx4a65c, "grow", "()[Ljava/lang/Object;"⟩
abbrev cJx4a65c_size_8abf5 : ByteArray := prog_18_method_8_code
def yJx4a65c_size_8abf5 : MethodName := ⟨RJx4a65c, "size", "()I"⟩
abbrev cJx4a65c_isEmpty_aae02 : ByteArray := prog_18_method_9_code
def yJx4a65c_isEmpty_aae02 : MethodName := ⟨RJx4a65c, "isEmpty", "()Z"⟩
abbrev cJx4a65c_elementData_915e3 : ByteArray := prog_18_method_18_code
def yJx4a65c_elementData_915e3 : MethodName := ⟨RJx4a65c, "elementData", "(I)Ljava/lang/Object;"⟩
abbrev cJx4a65c_get_915e3 : ByteArray := prog_18_method_20_code
def yJx4a65c_get_915e3 : MethodName := ⟨RJx4a65c, "get", "(I)Ljava/lang/Object;"⟩
abbrev cJx4a65c_add_72be8 : ByteArray := prog_18_method_24_code
def yJx4a65c_add_72be8 : MethodName := ⟨RJx4a65c, "add", "(Ljava/lang/Object;[Ljava/lang/Object;I)V"⟩
abbrev cJx4a65c_add_9ea2d : ByteArray := prog_18_method_25_code
def yJx4a65c_add_9ea2d : MethodName := ⟨RJx4a65c, "add", "(Ljava/lang/Object;)Z"⟩
def RJ7 : String := "java/util/Arrays"
def TJ7 : u_T := fun k => match k with
  | _ => ("", "", "", false)
def tyJ7 : Nat → FieldType := fun k => match k with
  | _ => .int
abbrev wsJ70 : List Cond := u_ws RJ7 TJ7 0
theorem nmJ7 : ∀ a, a < 0 → ∀ b, b < 0 → a ≠ b → (TJ7 a).2.1 ≠ (TJ7 b).2.1 := by decide +kernel
theorem tyJ7_ok : ∀ k, k < 0 → parseFieldDescriptor (TJ7 k).2.2.1 = some (tyJ7 k) := by decide +kernel
abbrev cJ7_copyOf_1904c : ByteArray := prog_19_method_119_code
def yJ7_copyOf_1904c : MethodName := ⟨RJ7, "copyOf", "([Ljava/lang/Object;I)[Ljava/lang/Object;"⟩
abbrev cJ7_copyOf_6403c : ByteArray := prog_19_method_120_code
def yJ7_copyOf_6403c : MethodName := ⟨RJ7, "copyOf", "([Ljava/lang/Object;ILjava/lang/Class;)[Ljava/lang/Object;"⟩
def RJx5ef63 : String := "java/util/Collection"
def TJx5ef63 : u_T := fun k => match k with
  | _ => ("", "", "", false)
def tyJx5ef63 : Nat → FieldType := fun k => match k with
  | _ => .int
abbrev wsJx5ef630 : List Cond := u_ws RJx5ef63 TJx5ef63 0
theorem nmJx5ef63 : ∀ a, a < 0 → ∀ b, b < 0 → a ≠ b → (TJx5ef63 a).2.1 ≠ (TJx5ef63 b).2.1 := by decide +kernel
theorem tyJx5ef63_ok : ∀ k, k < 0 → parseFieldDescriptor (TJx5ef63 k).2.2.1 = some (tyJx5ef63 k) := by decide +kernel
def RJxbd725 : String := "java/util/List"
def TJxbd725 : u_T := fun k => match k with
  | _ => ("", "", "", false)
def tyJxbd725 : Nat → FieldType := fun k => match k with
  | _ => .int
abbrev wsJxbd7250 : List Cond := u_ws RJxbd725 TJxbd725 0
theorem nmJxbd725 : ∀ a, a < 0 → ∀ b, b < 0 → a ≠ b → (TJxbd725 a).2.1 ≠ (TJxbd725 b).2.1 := by decide +kernel
theorem tyJxbd725_ok : ∀ k, k < 0 → parseFieldDescriptor (TJxbd725 k).2.2.1 = some (tyJxbd725 k) := by decide +kernel
def RJ15 : String := "java/util/Objects"
def TJ15 : u_T := fun k => match k with
  | _ => ("", "", "", false)
def tyJ15 : Nat → FieldType := fun k => match k with
  | _ => .int
abbrev wsJ150 : List Cond := u_ws RJ15 TJ15 0
theorem nmJ15 : ∀ a, a < 0 → ∀ b, b < 0 → a ≠ b → (TJ15 a).2.1 ≠ (TJ15 b).2.1 := by decide +kernel
theorem tyJ15_ok : ∀ k, k < 0 → parseFieldDescriptor (TJ15 k).2.2.1 = some (tyJ15 k) := by decide +kernel
abbrev cJ15_checkIndex_7cf53 : ByteArray := prog_22_method_17_code
def yJ15_checkIndex_7cf53 : MethodName := ⟨RJ15, "checkIndex", "(II)I"⟩
def RJxf0a74 : String := "java/util/RandomAccess"
def TJxf0a74 : u_T := fun k => match k with
  | _ => ("", "", "", false)
def tyJxf0a74 : Nat → FieldType := fun k => match k with
  | _ => .int
abbrev wsJxf0a740 : List Cond := u_ws RJxf0a74 TJxf0a74 0
theorem nmJxf0a74 : ∀ a, a < 0 → ∀ b, b < 0 → a ≠ b → (TJxf0a74 a).2.1 ≠ (TJxf0a74 b).2.1 := by decide +kernel
theorem tyJxf0a74_ok : ∀ k, k < 0 → parseFieldDescriptor (TJxf0a74 k).2.2.1 = some (tyJxf0a74 k) := by decide +kernel
def RJxa66e6 : String := "java/util/SequencedCollection"
def TJxa66e6 : u_T := fun k => match k with
  | _ => ("", "", "", false)
def tyJxa66e6 : Nat → FieldType := fun k => match k with
  | _ => .int
abbrev wsJxa66e60 : List Cond := u_ws RJxa66e6 TJxa66e6 0
theorem nmJxa66e6 : ∀ a, a < 0 → ∀ b, b < 0 → a ≠ b → (TJxa66e6 a).2.1 ≠ (TJxa66e6 b).2.1 := by decide +kernel
theorem tyJxa66e6_ok : ∀ k, k < 0 → parseFieldDescriptor (TJxa66e6 k).2.2.1 = some (tyJxa66e6 k) := by decide +kernel
def RJ8 : String := "jdk/internal/util/ArraysSupport"
def TJ8 : u_T := fun k => match k with
  | _ => ("", "", "", false)
def tyJ8 : Nat → FieldType := fun k => match k with
  | _ => .int
abbrev wsJ80 : List Cond := u_ws RJ8 TJ8 0
theorem nmJ8 : ∀ a, a < 0 → ∀ b, b < 0 → a ≠ b → (TJ8 a).2.1 ≠ (TJ8 b).2.1 := by decide +kernel
theorem tyJ8_ok : ∀ k, k < 0 → parseFieldDescriptor (TJ8 k).2.2.1 = some (tyJ8 k) := by decide +kernel
abbrev cJ8_newLength_cabcc : ByteArray := prog_25_method_27_code
def yJ8_newLength_cabcc : MethodName := ⟨RJ8, "newLength", "(III)I"⟩
abbrev cJ8_hugeLength_7cf53 : ByteArray := prog_25_method_28_code
def yJ8_hugeLength_7cf53 : MethodName := ⟨RJ8, "hugeLength", "(II)I"⟩
def RJ3 : String := "jdk/internal/util/Preconditions"
def TJ3 : u_T := fun k => match k with
  | _ => ("", "", "", false)
def tyJ3 : Nat → FieldType := fun k => match k with
  | _ => .int
abbrev wsJ30 : List Cond := u_ws RJ3 TJ3 0
theorem nmJ3 : ∀ a, a < 0 → ∀ b, b < 0 → a ≠ b → (TJ3 a).2.1 ≠ (TJ3 b).2.1 := by decide +kernel
theorem tyJ3_ok : ∀ k, k < 0 → parseFieldDescriptor (TJ3 k).2.2.1 = some (tyJ3 k) := by decide +kernel
abbrev cJ3_checkIndex_8e157 : ByteArray := prog_26_method_11_code
def yJ3_checkIndex_8e157 : MethodName := ⟨RJ3, "checkIndex", "(IILjava/util/function/BiFunction;)I"⟩
def RL : String := "HouseWorkersLaw"
abbrev cL_law : ByteArray := code
def yL_law : MethodName := ⟨RL, "law", "([I)Z"⟩
def wsX0_init : List Cond := .code yX0_init cX0_init 1 none :: ([.methodLink RX0 3 objectInit, .instanceMethod objectInit, .code objectInit ⟨#[0xb1]⟩ 1 none, .arrayClass .int, .fieldLink RX0 9 "HouseWorkers$Cells" "row" "[I"] ++ wsX00)
def wsX0_at : List Cond := .code yX0_at cX0_at 2 (some .int) :: ([.fieldLink RX0 9 "HouseWorkers$Cells" "row" "[I"] ++ wsX00)
def wsX0_set : List Cond := .code yX0_set cX0_set 3 none :: ([.fieldLink RX0 9 "HouseWorkers$Cells" "row" "[I"] ++ wsX00)
def wsX0_add : List Cond := .code yX0_add cX0_add 3 none :: ([.fieldLink RX0 9 "HouseWorkers$Cells" "row" "[I"] ++ wsX00)
def wsX0_addAll : List Cond := .code yX0_addAll cX0_addAll 3 none :: ([.fieldLink RX0 9 "HouseWorkers$Cells" "row" "[I"] ++ wsX00)
def wsX0_takeAll : List Cond := .code yX0_takeAll cX0_takeAll 3 none :: ([.fieldLink RX0 9 "HouseWorkers$Cells" "row" "[I"] ++ wsX00)
def wsX0_spread : List Cond := .code yX0_spread cX0_spread 4 none :: ([.fieldLink RX0 9 "HouseWorkers$Cells" "row" "[I", .methodLink RX0 15 Lib.Math.max.name, .static Lib.Math.max.name, .initialized "java/lang/Math", .code Lib.Math.max.name Lib.Math.max.code 2 (some .int)] ++ wsX00)
def wsX0_sum : List Cond := .code yX0_sum cX0_sum 3 (some .int) :: ([.fieldLink RX0 9 "HouseWorkers$Cells" "row" "[I"] ++ wsX00)
def wsX5_init : List Cond := .code yX5_init cX5_init 5 none :: ([.methodLink RX5 3 objectInit, .instanceMethod objectInit, .code objectInit ⟨#[0xb1]⟩ 1 none, .fieldLink RX5 9 "HouseWorkers$Work" "version" "I", .fieldLink RX5 15 "HouseWorkers$Work" "pinned" "I", .fieldLink RX5 18 "HouseWorkers$Work" "end" "I", .fieldLink RX5 21 "HouseWorkers$Work" "number" "I", .fieldLink RX5 24 "HouseWorkers$Work" "kind" "I", .fieldLink RX5 27 "HouseWorkers$Work" "steps" "I", .fieldLink RX5 30 "HouseWorkers$Work" "failsAt" "I"] ++ wsX10 ++ wsX20 ++ wsX40 ++ wsX60)
def wsX3_latest : List Cond := .code yX3_latest cX3_latest 1 (some (.object "HouseWorkers$Cells")) :: ([.fieldLink RX3 23 "HouseWorkers$Store" "latest" "LHouseWorkers$Cells;"] ++ wsX30)
def wsJx4a65c_size_8abf5 : List Cond := .code yJx4a65c_size_8abf5 cJx4a65c_size_8abf5 1 (some .int) :: ([.fieldLink RJx4a65c 48 "java/util/ArrayList" "size" "I"] ++ wsJx4a65c0)
def wsX3_latestNumber : List Cond := .code yX3_latestNumber cX3_latestNumber 1 (some .int) :: ([.fieldLink RX3 19 "HouseWorkers$Store" "committed" "Ljava/util/ArrayList;", .methodLink RX3 26 yJx4a65c_size_8abf5, .instanceMethod yJx4a65c_size_8abf5, .selects RJx4a65c yJx4a65c_size_8abf5 yJx4a65c_size_8abf5, .initialized RJx4a65c, .code yJx4a65c_size_8abf5 cJx4a65c_size_8abf5 1 (some .int), .fieldLink RJx4a65c 48 "java/util/ArrayList" "size" "I"] ++ wsX30 ++ wsJx4a65c0)
def wsX1_init_r1 : List Cond := [Cond.fieldLink RX1 9 "HouseWorkers$QuestionWork" "first" "I", Cond.fieldLink RX1 21 "HouseWorkers$QuestionWork" "read" "LHouseWorkers$Cells;", Cond.fieldLink RX1 29 "HouseWorkers$QuestionWork" "version" "I", Cond.sameField "HouseWorkers$QuestionWork" "HouseWorkers$Work" "version" "I", Cond.fieldLink RX1 32 "HouseWorkers$QuestionWork" "pinned" "I", Cond.sameField "HouseWorkers$QuestionWork" "HouseWorkers$Work" "pinned" "I", Cond.methodLink RX1 3 yX5_init, Cond.instanceMethod yX5_init, Cond.initialized RX5, Cond.code yX5_init cX5_init 5 none, Cond.methodLink RX5 3 objectInit, Cond.instanceMethod objectInit, Cond.code objectInit ⟨#[0xb1]⟩ 1 none, Cond.fieldLink RX5 9 "HouseWorkers$Work" "version" "I", Cond.fieldLink RX5 15 "HouseWorkers$Work" "pinned" "I", Cond.fieldLink RX5 18 "HouseWorkers$Work" "end" "I", Cond.fieldLink RX5 21 "HouseWorkers$Work" "number" "I", Cond.fieldLink RX5 24 "HouseWorkers$Work" "kind" "I", Cond.fieldLink RX5 27 "HouseWorkers$Work" "steps" "I", Cond.fieldLink RX5 30 "HouseWorkers$Work" "failsAt" "I", Cond.methodLink RX1 15 yX3_latest, Cond.instanceMethod yX3_latest, Cond.selects RX3 yX3_latest yX3_latest, Cond.initialized RX3]
def wsX1_init_r2 : List Cond := [Cond.code yX3_latest cX3_latest 1 (some (.object "HouseWorkers$Cells")), Cond.fieldLink RX3 23 "HouseWorkers$Store" "latest" "LHouseWorkers$Cells;", Cond.methodLink RX1 25 yX3_latestNumber, Cond.instanceMethod yX3_latestNumber, Cond.selects RX3 yX3_latestNumber yX3_latestNumber, Cond.code yX3_latestNumber cX3_latestNumber 1 (some .int), Cond.fieldLink RX3 19 "HouseWorkers$Store" "committed" "Ljava/util/ArrayList;", Cond.methodLink RX3 26 yJx4a65c_size_8abf5, Cond.instanceMethod yJx4a65c_size_8abf5, Cond.selects RJx4a65c yJx4a65c_size_8abf5 yJx4a65c_size_8abf5, Cond.initialized RJx4a65c, Cond.code yJx4a65c_size_8abf5 cJx4a65c_size_8abf5 1 (some .int), Cond.fieldLink RJx4a65c 48 "java/util/ArrayList" "size" "I"]
def wsX1_init : List Cond := .code yX1_init cX1_init 6 none :: ((wsX1_init_r1 ++ wsX1_init_r2) ++ wsX10 ++ wsX20 ++ wsX40 ++ wsX60 ++ wsX30 ++ wsJx4a65c0)
def wsX1_waits : List Cond := .code yX1_waits cX1_waits 3 (some .boolean) :: ([])
def wsX5_hasDoneAllSteps : List Cond := .code yX5_hasDoneAllSteps cX5_hasDoneAllSteps 1 (some .boolean) :: ([.fieldLink RX5 33 "HouseWorkers$Work" "stepsDone" "I", .fieldLink RX5 27 "HouseWorkers$Work" "steps" "I"] ++ wsX10 ++ wsX20 ++ wsX40 ++ wsX60)
def wsX1_goOn : List Cond := .code yX1_goOn cX1_goOn 2 (some .int) :: ([.fieldLink RX1 35 "HouseWorkers$QuestionWork" "answer" "I", .sameField "HouseWorkers$QuestionWork" "HouseWorkers$Work" "answer" "I", .fieldLink RX1 21 "HouseWorkers$QuestionWork" "read" "LHouseWorkers$Cells;", .fieldLink RX1 9 "HouseWorkers$QuestionWork" "first" "I", .fieldLink RX1 38 "HouseWorkers$QuestionWork" "stepsDone" "I", .sameField "HouseWorkers$QuestionWork" "HouseWorkers$Work" "stepsDone" "I", .methodLink RX1 41 yX0_at, .instanceMethod yX0_at, .selects RX0 yX0_at yX0_at, .initialized RX0, .code yX0_at cX0_at 2 (some .int), .fieldLink RX0 9 "HouseWorkers$Cells" "row" "[I", .methodLink RX1 47 ⟨"HouseWorkers$QuestionWork", "hasDoneAllSteps", "()Z"⟩, .sameMethod "HouseWorkers$QuestionWork" "HouseWorkers$Work" "hasDoneAllSteps" "()Z", .selects RX1 ⟨"HouseWorkers$QuestionWork", "hasDoneAllSteps", "()Z"⟩ yX5_hasDoneAllSteps, .instanceMethod yX5_hasDoneAllSteps, .initialized RX5, .code yX5_hasDoneAllSteps cX5_hasDoneAllSteps 1 (some .boolean), .fieldLink RX5 33 "HouseWorkers$Work" "stepsDone" "I", .fieldLink RX5 27 "HouseWorkers$Work" "steps" "I"] ++ wsX10 ++ wsX20 ++ wsX40 ++ wsX60 ++ wsX00)
def wsX2_init : List Cond := .code yX2_init cX2_init 4 none :: ([.classLink RX2 9 RX0, .instantiable RX0 1, .initialized RX0, .fieldLink RX2 14 "HouseWorkers$ReasoningWork" "cells" "LHouseWorkers$Cells;", .methodLink RX2 3 yX5_init, .instanceMethod yX5_init, .initialized RX5, .code yX5_init cX5_init 5 none, .methodLink RX5 3 objectInit, .instanceMethod objectInit, .code objectInit ⟨#[0xb1]⟩ 1 none, .fieldLink RX5 9 "HouseWorkers$Work" "version" "I", .fieldLink RX5 15 "HouseWorkers$Work" "pinned" "I", .fieldLink RX5 18 "HouseWorkers$Work" "end" "I", .fieldLink RX5 21 "HouseWorkers$Work" "number" "I", .fieldLink RX5 24 "HouseWorkers$Work" "kind" "I", .fieldLink RX5 27 "HouseWorkers$Work" "steps" "I", .fieldLink RX5 30 "HouseWorkers$Work" "failsAt" "I", .instanceMethod yX0_init, .code yX0_init cX0_init 1 none, .methodLink RX0 3 objectInit, .arrayClass .int, .fieldLink RX0 9 "HouseWorkers$Cells" "row" "[I"] ++ wsX00 ++ wsX20 ++ wsX10 ++ wsX40 ++ wsX60)
def wsX2_waits : List Cond := .code yX2_waits cX2_waits 3 (some .boolean) :: ([.fieldLink RX2 20 "HouseWorkers$ReasoningWork" "stepsDone" "I", .sameField "HouseWorkers$ReasoningWork" "HouseWorkers$Work" "stepsDone" "I"] ++ wsX10 ++ wsX20 ++ wsX40 ++ wsX60)
def wsJ8_hugeLength_7cf53 : List Cond := .code yJ8_hugeLength_7cf53 cJ8_hugeLength_7cf53 3 (some .int) :: ([.constant RJ8 200 (2147483639)])
def wsJ8_newLength_cabcc : List Cond := .code yJ8_newLength_cabcc cJ8_newLength_cabcc 4 (some .int) :: ([.methodLink RJ8 194 Lib.Math.max.name, .static Lib.Math.max.name, .initialized "java/lang/Math", .code Lib.Math.max.name Lib.Math.max.code 2 (some .int), .constant RJ8 200 (2147483639), .methodLink RJ8 201 yJ8_hugeLength_7cf53, .static yJ8_hugeLength_7cf53, .initialized RJ8, .code yJ8_hugeLength_7cf53 cJ8_hugeLength_7cf53 3 (some .int)])
def wsJ7_copyOf_6403c : List Cond := .code yJ7_copyOf_6403c cJ7_copyOf_6403c 4 (some (.array (.object "java/lang/Object"))) :: ([.classLink RJ7 110 "[Ljava/lang/Object;", .classLink RJ7 2 "java/lang/Object", .methodLink RJ7 304 Lib.Math.min.name, .static Lib.Math.min.name, .initialized "java/lang/Math", .code Lib.Math.min.name Lib.Math.min.code 2 (some .int), .methodLink RJ7 150 arraycopyName, .native arraycopyName, .static arraycopyName, .initialized "java/lang/System"])
def wsJ7_copyOf_1904c : List Cond := .code yJ7_copyOf_1904c cJ7_copyOf_1904c 2 (some (.array (.object "java/lang/Object"))) :: ([.methodLink RJ7 86 ⟨"java/lang/Object", "getClass", "()Ljava/lang/Class;"⟩, .selects "[Ljava/lang/Object;" ⟨"java/lang/Object", "getClass", "()Ljava/lang/Class;"⟩ ⟨"java/lang/Object", "getClass", "()Ljava/lang/Class;"⟩, .instanceMethod ⟨"java/lang/Object", "getClass", "()Ljava/lang/Class;"⟩, .native ⟨"java/lang/Object", "getClass", "()Ljava/lang/Class;"⟩, .methodLink RJ7 300 yJ7_copyOf_6403c, .static yJ7_copyOf_6403c, .initialized RJ7, .code yJ7_copyOf_6403c cJ7_copyOf_6403c 4 (some (.array (.object "java/lang/Object"))), .classLink RJ7 110 "[Ljava/lang/Object;", .classLink RJ7 2 "java/lang/Object", .methodLink RJ7 304 Lib.Math.min.name, .static Lib.Math.min.name, .initialized "java/lang/Math", .code Lib.Math.min.name Lib.Math.min.code 2 (some .int), .methodLink RJ7 150 arraycopyName, .native arraycopyName, .static arraycopyName, .initialized "java/lang/System"])
def wsJx4a65c_grow_92f84_r1 : List Cond := [Cond.fieldLink RJx4a65c 9 "java/util/ArrayList" "elementData" "[Ljava/lang/Object;", Cond.fieldLink RJx4a65c 39 "java/util/ArrayList" "DEFAULTCAPACITY_EMPTY_ELEMENTDATA" "[Ljava/lang/Object;", Cond.methodLink RJx4a65c 79 Lib.Math.max.name, Cond.static Lib.Math.max.name, Cond.initialized "java/lang/Math", Cond.code Lib.Math.max.name Lib.Math.max.code 2 (some .int), Cond.classLink RJx4a65c 7 "java/lang/Object", Cond.methodLink RJx4a65c 73 yJ8_newLength_cabcc, Cond.static yJ8_newLength_cabcc, Cond.initialized RJ8, Cond.code yJ8_newLength_cabcc cJ8_newLength_cabcc 4 (some .int), Cond.methodLink RJ8 194 Lib.Math.max.name, Cond.constant RJ8 200 (2147483639), Cond.methodLink RJ8 201 yJ8_hugeLength_7cf53, Cond.static yJ8_hugeLength_7cf53, Cond.code yJ8_hugeLength_7cf53 cJ8_hugeLength_7cf53 3 (some .int), Cond.methodLink RJx4a65c 66 yJ7_copyOf_1904c, Cond.static yJ7_copyOf_1904c, Cond.initialized RJ7, Cond.code yJ7_copyOf_1904c cJ7_copyOf_1904c 2 (some (.array (.object "java/lang/Object"))), Cond.methodLink RJ7 86 ⟨"java/lang/Object", "getClass", "()Ljava/lang/Class;"⟩, Cond.selects "[Ljava/lang/Object;" ⟨"java/lang/Object", "getClass", "()Ljava/lang/Class;"⟩ ⟨"java/lang/Object", "getClass", "()Ljava/lang/Class;"⟩, Cond.instanceMethod ⟨"java/lang/Object", "getClass", "()Ljava/lang/Class;"⟩, Cond.native ⟨"java/lang/Object", "getClass", "()Ljava/lang/Class;"⟩]
def wsJx4a65c_grow_92f84_r2 : List Cond := [Cond.methodLink RJ7 300 yJ7_copyOf_6403c, Cond.static yJ7_copyOf_6403c, Cond.code yJ7_copyOf_6403c cJ7_copyOf_6403c 4 (some (.array (.object "java/lang/Object"))), Cond.classLink RJ7 110 "[Ljava/lang/Object;", Cond.classLink RJ7 2 "java/lang/Object", Cond.methodLink RJ7 304 Lib.Math.min.name, Cond.static Lib.Math.min.name, Cond.code Lib.Math.min.name Lib.Math.min.code 2 (some .int), Cond.methodLink RJ7 150 arraycopyName, Cond.native arraycopyName, Cond.static arraycopyName, Cond.initialized "java/lang/System"]
def wsJx4a65c_grow_92f84 : List Cond := .code yJx4a65c_grow_92f84 cJx4a65c_grow_92f84 4 (some (.array (.object "java/lang/Object"))) :: ((wsJx4a65c_grow_92f84_r1 ++ wsJx4a65c_grow_92f84_r2) ++ wsJx4a65c0)
def wsJx4a65c_grow_d5877_r1 : List Cond := [Cond.fieldLink RJx4a65c 48 "java/util/ArrayList" "size" "I", Cond.methodLink RJx4a65c 69 yJx4a65c_grow_92f84, Cond.instanceMethod yJx4a65c_grow_92f84, Cond.selects RJx4a65c yJx4a65c_grow_92f84 yJx4a65c_grow_92f84, Cond.initialized RJx4a65c, Cond.code yJx4a65c_grow_92f84 cJx4a65c_grow_92f84 4 (some (.array (.object "java/lang/Object"))), Cond.fieldLink RJx4a65c 9 "java/util/ArrayList" "elementData" "[Ljava/lang/Object;", Cond.fieldLink RJx4a65c 39 "java/util/ArrayList" "DEFAULTCAPACITY_EMPTY_ELEMENTDATA" "[Ljava/lang/Object;", Cond.methodLink RJx4a65c 79 Lib.Math.max.name, Cond.static Lib.Math.max.name, Cond.initialized "java/lang/Math", Cond.code Lib.Math.max.name Lib.Math.max.code 2 (some .int), Cond.classLink RJx4a65c 7 "java/lang/Object", Cond.methodLink RJx4a65c 73 yJ8_newLength_cabcc, Cond.static yJ8_newLength_cabcc, Cond.initialized RJ8, Cond.code yJ8_newLength_cabcc cJ8_newLength_cabcc 4 (some .int), Cond.methodLink RJ8 194 Lib.Math.max.name, Cond.constant RJ8 200 (2147483639), Cond.methodLink RJ8 201 yJ8_hugeLength_7cf53, Cond.static yJ8_hugeLength_7cf53, Cond.code yJ8_hugeLength_7cf53 cJ8_hugeLength_7cf53 3 (some .int), Cond.methodLink RJx4a65c 66 yJ7_copyOf_1904c, Cond.static yJ7_copyOf_1904c]
def wsJx4a65c_grow_d5877_r2 : List Cond := [Cond.initialized RJ7, Cond.code yJ7_copyOf_1904c cJ7_copyOf_1904c 2 (some (.array (.object "java/lang/Object"))), Cond.methodLink RJ7 86 ⟨"java/lang/Object", "getClass", "()Ljava/lang/Class;"⟩, Cond.selects "[Ljava/lang/Object;" ⟨"java/lang/Object", "getClass", "()Ljava/lang/Class;"⟩ ⟨"java/lang/Object", "getClass", "()Ljava/lang/Class;"⟩, Cond.instanceMethod ⟨"java/lang/Object", "getClass", "()Ljava/lang/Class;"⟩, Cond.native ⟨"java/lang/Object", "getClass", "()Ljava/lang/Class;"⟩, Cond.methodLink RJ7 300 yJ7_copyOf_6403c, Cond.static yJ7_copyOf_6403c, Cond.code yJ7_copyOf_6403c cJ7_copyOf_6403c 4 (some (.array (.object "java/lang/Object"))), Cond.classLink RJ7 110 "[Ljava/lang/Object;", Cond.classLink RJ7 2 "java/lang/Object", Cond.methodLink RJ7 304 Lib.Math.min.name, Cond.static Lib.Math.min.name, Cond.code Lib.Math.min.name Lib.Math.min.code 2 (some .int), Cond.methodLink RJ7 150 arraycopyName, Cond.native arraycopyName, Cond.static arraycopyName, Cond.initialized "java/lang/System"]
def wsJx4a65c_grow_d5877 : List Cond := .code yJx4a65c_grow_d5877 cJx4a65c_grow_d5877 1 (some (.array (.object "java/lang/Object"))) :: ((wsJx4a65c_grow_d5877_r1 ++ wsJx4a65c_grow_d5877_r2) ++ wsJx4a65c0)
def wsJx4a65c_add_72be8_r1 : List Cond := [Cond.fieldLink RJx4a65c 48 "java/util/ArrayList" "size" "I", Cond.methodLink RJx4a65c 129 yJx4a65c_grow_d5877, Cond.instanceMethod yJx4a65c_grow_d5877, Cond.selects RJx4a65c yJx4a65c_grow_d5877 yJx4a65c_grow_d5877, Cond.initialized RJx4a65c, Cond.code yJx4a65c_grow_d5877 cJx4a65c_grow_d5877 1 (some (.array (.object "java/lang/Object"))), Cond.methodLink RJx4a65c 69 yJx4a65c_grow_92f84, Cond.instanceMethod yJx4a65c_grow_92f84, Cond.selects RJx4a65c yJx4a65c_grow_92f84 yJx4a65c_grow_92f84, Cond.code yJx4a65c_grow_92f84 cJx4a65c_grow_92f84 4 (some (.array (.object "java/lang/Object"))), Cond.fieldLink RJx4a65c 9 "java/util/ArrayList" "elementData" "[Ljava/lang/Object;", Cond.fieldLink RJx4a65c 39 "java/util/ArrayList" "DEFAULTCAPACITY_EMPTY_ELEMENTDATA" "[Ljava/lang/Object;", Cond.methodLink RJx4a65c 79 Lib.Math.max.name, Cond.static Lib.Math.max.name, Cond.initialized "java/lang/Math", Cond.code Lib.Math.max.name Lib.Math.max.code 2 (some .int), Cond.classLink RJx4a65c 7 "java/lang/Object", Cond.methodLink RJx4a65c 73 yJ8_newLength_cabcc, Cond.static yJ8_newLength_cabcc, Cond.initialized RJ8, Cond.code yJ8_newLength_cabcc cJ8_newLength_cabcc 4 (some .int), Cond.methodLink RJ8 194 Lib.Math.max.name, Cond.constant RJ8 200 (2147483639), Cond.methodLink RJ8 201 yJ8_hugeLength_7cf53]
def wsJx4a65c_add_72be8_r2 : List Cond := [Cond.static yJ8_hugeLength_7cf53, Cond.code yJ8_hugeLength_7cf53 cJ8_hugeLength_7cf53 3 (some .int), Cond.methodLink RJx4a65c 66 yJ7_copyOf_1904c, Cond.static yJ7_copyOf_1904c, Cond.initialized RJ7, Cond.code yJ7_copyOf_1904c cJ7_copyOf_1904c 2 (some (.array (.object "java/lang/Object"))), Cond.methodLink RJ7 86 ⟨"java/lang/Object", "getClass", "()Ljava/lang/Class;"⟩, Cond.selects "[Ljava/lang/Object;" ⟨"java/lang/Object", "getClass", "()Ljava/lang/Class;"⟩ ⟨"java/lang/Object", "getClass", "()Ljava/lang/Class;"⟩, Cond.instanceMethod ⟨"java/lang/Object", "getClass", "()Ljava/lang/Class;"⟩, Cond.native ⟨"java/lang/Object", "getClass", "()Ljava/lang/Class;"⟩, Cond.methodLink RJ7 300 yJ7_copyOf_6403c, Cond.static yJ7_copyOf_6403c, Cond.code yJ7_copyOf_6403c cJ7_copyOf_6403c 4 (some (.array (.object "java/lang/Object"))), Cond.classLink RJ7 110 "[Ljava/lang/Object;", Cond.classLink RJ7 2 "java/lang/Object", Cond.methodLink RJ7 304 Lib.Math.min.name, Cond.static Lib.Math.min.name, Cond.code Lib.Math.min.name Lib.Math.min.code 2 (some .int), Cond.methodLink RJ7 150 arraycopyName, Cond.native arraycopyName, Cond.static arraycopyName, Cond.initialized "java/lang/System"]
def wsJx4a65c_add_72be8 : List Cond := .code yJx4a65c_add_72be8 cJx4a65c_add_72be8 4 none :: ((wsJx4a65c_add_72be8_r1 ++ wsJx4a65c_add_72be8_r2) ++ wsJx4a65c0)
def wsJx4a65c_add_9ea2d_r1 : List Cond := [Cond.fieldLink RJx4a65c 63 "java/util/ArrayList" "modCount" "I", Cond.sameField "java/util/ArrayList" "java/util/AbstractList" "modCount" "I", Cond.fieldLink RJx4a65c 9 "java/util/ArrayList" "elementData" "[Ljava/lang/Object;", Cond.fieldLink RJx4a65c 48 "java/util/ArrayList" "size" "I", Cond.methodLink RJx4a65c 131 yJx4a65c_add_72be8, Cond.instanceMethod yJx4a65c_add_72be8, Cond.selects RJx4a65c yJx4a65c_add_72be8 yJx4a65c_add_72be8, Cond.initialized RJx4a65c, Cond.code yJx4a65c_add_72be8 cJx4a65c_add_72be8 4 none, Cond.methodLink RJx4a65c 129 yJx4a65c_grow_d5877, Cond.instanceMethod yJx4a65c_grow_d5877, Cond.selects RJx4a65c yJx4a65c_grow_d5877 yJx4a65c_grow_d5877, Cond.code yJx4a65c_grow_d5877 cJx4a65c_grow_d5877 1 (some (.array (.object "java/lang/Object"))), Cond.methodLink RJx4a65c 69 yJx4a65c_grow_92f84, Cond.instanceMethod yJx4a65c_grow_92f84, Cond.selects RJx4a65c yJx4a65c_grow_92f84 yJx4a65c_grow_92f84, Cond.code yJx4a65c_grow_92f84 cJx4a65c_grow_92f84 4 (some (.array (.object "java/lang/Object"))), Cond.fieldLink RJx4a65c 39 "java/util/ArrayList" "DEFAULTCAPACITY_EMPTY_ELEMENTDATA" "[Ljava/lang/Object;", Cond.methodLink RJx4a65c 79 Lib.Math.max.name, Cond.static Lib.Math.max.name, Cond.initialized "java/lang/Math", Cond.code Lib.Math.max.name Lib.Math.max.code 2 (some .int), Cond.classLink RJx4a65c 7 "java/lang/Object", Cond.methodLink RJx4a65c 73 yJ8_newLength_cabcc]
def wsJx4a65c_add_9ea2d_r2 : List Cond := [Cond.static yJ8_newLength_cabcc, Cond.initialized RJ8, Cond.code yJ8_newLength_cabcc cJ8_newLength_cabcc 4 (some .int), Cond.methodLink RJ8 194 Lib.Math.max.name, Cond.constant RJ8 200 (2147483639), Cond.methodLink RJ8 201 yJ8_hugeLength_7cf53, Cond.static yJ8_hugeLength_7cf53, Cond.code yJ8_hugeLength_7cf53 cJ8_hugeLength_7cf53 3 (some .int), Cond.methodLink RJx4a65c 66 yJ7_copyOf_1904c, Cond.static yJ7_copyOf_1904c, Cond.initialized RJ7, Cond.code yJ7_copyOf_1904c cJ7_copyOf_1904c 2 (some (.array (.object "java/lang/Object"))), Cond.methodLink RJ7 86 ⟨"java/lang/Object", "getClass", "()Ljava/lang/Class;"⟩, Cond.selects "[Ljava/lang/Object;" ⟨"java/lang/Object", "getClass", "()Ljava/lang/Class;"⟩ ⟨"java/lang/Object", "getClass", "()Ljava/lang/Class;"⟩, Cond.instanceMethod ⟨"java/lang/Object", "getClass", "()Ljava/lang/Class;"⟩, Cond.native ⟨"java/lang/Object", "getClass", "()Ljava/lang/Class;"⟩, Cond.methodLink RJ7 300 yJ7_copyOf_6403c, Cond.static yJ7_copyOf_6403c, Cond.code yJ7_copyOf_6403c cJ7_copyOf_6403c 4 (some (.array (.object "java/lang/Object"))), Cond.classLink RJ7 110 "[Ljava/lang/Object;", Cond.classLink RJ7 2 "java/lang/Object", Cond.methodLink RJ7 304 Lib.Math.min.name, Cond.static Lib.Math.min.name, Cond.code Lib.Math.min.name Lib.Math.min.code 2 (some .int)]
def wsJx4a65c_add_9ea2d_r3 : List Cond := [Cond.methodLink RJ7 150 arraycopyName, Cond.native arraycopyName, Cond.static arraycopyName, Cond.initialized "java/lang/System"]
def wsJx4a65c_add_9ea2d : List Cond := .code yJx4a65c_add_9ea2d cJx4a65c_add_9ea2d 2 (some .boolean) :: ((wsJx4a65c_add_9ea2d_r1 ++ (wsJx4a65c_add_9ea2d_r2 ++ wsJx4a65c_add_9ea2d_r3)) ++ wsJx4a65c0)
def wsX3_commit_r1 : List Cond := [Cond.fieldLink RX3 19 "HouseWorkers$Store" "committed" "Ljava/util/ArrayList;", Cond.fieldLink RX3 23 "HouseWorkers$Store" "latest" "LHouseWorkers$Cells;", Cond.methodLink RX3 34 yJx4a65c_add_9ea2d, Cond.instanceMethod yJx4a65c_add_9ea2d, Cond.selects RJx4a65c yJx4a65c_add_9ea2d yJx4a65c_add_9ea2d, Cond.initialized RJx4a65c, Cond.code yJx4a65c_add_9ea2d cJx4a65c_add_9ea2d 2 (some .boolean), Cond.fieldLink RJx4a65c 63 "java/util/ArrayList" "modCount" "I", Cond.sameField "java/util/ArrayList" "java/util/AbstractList" "modCount" "I", Cond.fieldLink RJx4a65c 9 "java/util/ArrayList" "elementData" "[Ljava/lang/Object;", Cond.fieldLink RJx4a65c 48 "java/util/ArrayList" "size" "I", Cond.methodLink RJx4a65c 131 yJx4a65c_add_72be8, Cond.instanceMethod yJx4a65c_add_72be8, Cond.selects RJx4a65c yJx4a65c_add_72be8 yJx4a65c_add_72be8, Cond.code yJx4a65c_add_72be8 cJx4a65c_add_72be8 4 none, Cond.methodLink RJx4a65c 129 yJx4a65c_grow_d5877, Cond.instanceMethod yJx4a65c_grow_d5877, Cond.selects RJx4a65c yJx4a65c_grow_d5877 yJx4a65c_grow_d5877, Cond.code yJx4a65c_grow_d5877 cJx4a65c_grow_d5877 1 (some (.array (.object "java/lang/Object"))), Cond.methodLink RJx4a65c 69 yJx4a65c_grow_92f84, Cond.instanceMethod yJx4a65c_grow_92f84, Cond.selects RJx4a65c yJx4a65c_grow_92f84 yJx4a65c_grow_92f84, Cond.code yJx4a65c_grow_92f84 cJx4a65c_grow_92f84 4 (some (.array (.object "java/lang/Object"))), Cond.fieldLink RJx4a65c 39 "java/util/ArrayList" "DEFAULTCAPACITY_EMPTY_ELEMENTDATA" "[Ljava/lang/Object;"]
def wsX3_commit_r2 : List Cond := [Cond.methodLink RJx4a65c 79 Lib.Math.max.name, Cond.static Lib.Math.max.name, Cond.initialized "java/lang/Math", Cond.code Lib.Math.max.name Lib.Math.max.code 2 (some .int), Cond.classLink RJx4a65c 7 "java/lang/Object", Cond.methodLink RJx4a65c 73 yJ8_newLength_cabcc, Cond.static yJ8_newLength_cabcc, Cond.initialized RJ8, Cond.code yJ8_newLength_cabcc cJ8_newLength_cabcc 4 (some .int), Cond.methodLink RJ8 194 Lib.Math.max.name, Cond.constant RJ8 200 (2147483639), Cond.methodLink RJ8 201 yJ8_hugeLength_7cf53, Cond.static yJ8_hugeLength_7cf53, Cond.code yJ8_hugeLength_7cf53 cJ8_hugeLength_7cf53 3 (some .int), Cond.methodLink RJx4a65c 66 yJ7_copyOf_1904c, Cond.static yJ7_copyOf_1904c, Cond.initialized RJ7, Cond.code yJ7_copyOf_1904c cJ7_copyOf_1904c 2 (some (.array (.object "java/lang/Object"))), Cond.methodLink RJ7 86 ⟨"java/lang/Object", "getClass", "()Ljava/lang/Class;"⟩, Cond.selects "[Ljava/lang/Object;" ⟨"java/lang/Object", "getClass", "()Ljava/lang/Class;"⟩ ⟨"java/lang/Object", "getClass", "()Ljava/lang/Class;"⟩, Cond.instanceMethod ⟨"java/lang/Object", "getClass", "()Ljava/lang/Class;"⟩, Cond.native ⟨"java/lang/Object", "getClass", "()Ljava/lang/Class;"⟩, Cond.methodLink RJ7 300 yJ7_copyOf_6403c, Cond.static yJ7_copyOf_6403c]
def wsX3_commit_r3 : List Cond := [Cond.code yJ7_copyOf_6403c cJ7_copyOf_6403c 4 (some (.array (.object "java/lang/Object"))), Cond.classLink RJ7 110 "[Ljava/lang/Object;", Cond.classLink RJ7 2 "java/lang/Object", Cond.methodLink RJ7 304 Lib.Math.min.name, Cond.static Lib.Math.min.name, Cond.code Lib.Math.min.name Lib.Math.min.code 2 (some .int), Cond.methodLink RJ7 150 arraycopyName, Cond.native arraycopyName, Cond.static arraycopyName, Cond.initialized "java/lang/System", Cond.methodLink RX3 26 yJx4a65c_size_8abf5, Cond.instanceMethod yJx4a65c_size_8abf5, Cond.selects RJx4a65c yJx4a65c_size_8abf5 yJx4a65c_size_8abf5, Cond.code yJx4a65c_size_8abf5 cJx4a65c_size_8abf5 1 (some .int)]
def wsX3_commit : List Cond := .code yX3_commit cX3_commit 2 (some .int) :: ((wsX3_commit_r1 ++ (wsX3_commit_r2 ++ wsX3_commit_r3)) ++ wsX30 ++ wsJx4a65c0)
def wsX2_goOn_r1 : List Cond := [Cond.fieldLink RX2 14 "HouseWorkers$ReasoningWork" "cells" "LHouseWorkers$Cells;", Cond.fieldLink RX2 34 "HouseWorkers$ReasoningWork" "version" "I", Cond.sameField "HouseWorkers$ReasoningWork" "HouseWorkers$Work" "version" "I", Cond.fieldLink RX2 20 "HouseWorkers$ReasoningWork" "stepsDone" "I", Cond.sameField "HouseWorkers$ReasoningWork" "HouseWorkers$Work" "stepsDone" "I", Cond.fieldLink RX2 49 "HouseWorkers$ReasoningWork" "pinned" "I", Cond.sameField "HouseWorkers$ReasoningWork" "HouseWorkers$Work" "pinned" "I", Cond.methodLink RX2 24 ⟨"HouseWorkers$ReasoningWork", "hasDoneAllSteps", "()Z"⟩, Cond.sameMethod "HouseWorkers$ReasoningWork" "HouseWorkers$Work" "hasDoneAllSteps" "()Z", Cond.selects RX2 ⟨"HouseWorkers$ReasoningWork", "hasDoneAllSteps", "()Z"⟩ yX5_hasDoneAllSteps, Cond.instanceMethod yX5_hasDoneAllSteps, Cond.initialized RX5, Cond.code yX5_hasDoneAllSteps cX5_hasDoneAllSteps 1 (some .boolean), Cond.fieldLink RX5 33 "HouseWorkers$Work" "stepsDone" "I", Cond.fieldLink RX5 27 "HouseWorkers$Work" "steps" "I", Cond.methodLink RX2 28 yX3_commit, Cond.instanceMethod yX3_commit, Cond.selects RX3 yX3_commit yX3_commit, Cond.initialized RX3, Cond.code yX3_commit cX3_commit 2 (some .int), Cond.fieldLink RX3 19 "HouseWorkers$Store" "committed" "Ljava/util/ArrayList;", Cond.fieldLink RX3 23 "HouseWorkers$Store" "latest" "LHouseWorkers$Cells;", Cond.methodLink RX3 34 yJx4a65c_add_9ea2d, Cond.instanceMethod yJx4a65c_add_9ea2d]
def wsX2_goOn_r2 : List Cond := [Cond.selects RJx4a65c yJx4a65c_add_9ea2d yJx4a65c_add_9ea2d, Cond.initialized RJx4a65c, Cond.code yJx4a65c_add_9ea2d cJx4a65c_add_9ea2d 2 (some .boolean), Cond.fieldLink RJx4a65c 63 "java/util/ArrayList" "modCount" "I", Cond.sameField "java/util/ArrayList" "java/util/AbstractList" "modCount" "I", Cond.fieldLink RJx4a65c 9 "java/util/ArrayList" "elementData" "[Ljava/lang/Object;", Cond.fieldLink RJx4a65c 48 "java/util/ArrayList" "size" "I", Cond.methodLink RJx4a65c 131 yJx4a65c_add_72be8, Cond.instanceMethod yJx4a65c_add_72be8, Cond.selects RJx4a65c yJx4a65c_add_72be8 yJx4a65c_add_72be8, Cond.code yJx4a65c_add_72be8 cJx4a65c_add_72be8 4 none, Cond.methodLink RJx4a65c 129 yJx4a65c_grow_d5877, Cond.instanceMethod yJx4a65c_grow_d5877, Cond.selects RJx4a65c yJx4a65c_grow_d5877 yJx4a65c_grow_d5877, Cond.code yJx4a65c_grow_d5877 cJx4a65c_grow_d5877 1 (some (.array (.object "java/lang/Object"))), Cond.methodLink RJx4a65c 69 yJx4a65c_grow_92f84, Cond.instanceMethod yJx4a65c_grow_92f84, Cond.selects RJx4a65c yJx4a65c_grow_92f84 yJx4a65c_grow_92f84, Cond.code yJx4a65c_grow_92f84 cJx4a65c_grow_92f84 4 (some (.array (.object "java/lang/Object"))), Cond.fieldLink RJx4a65c 39 "java/util/ArrayList" "DEFAULTCAPACITY_EMPTY_ELEMENTDATA" "[Ljava/lang/Object;", Cond.methodLink RJx4a65c 79 Lib.Math.max.name, Cond.static Lib.Math.max.name, Cond.initialized "java/lang/Math", Cond.code Lib.Math.max.name Lib.Math.max.code 2 (some .int)]
def wsX2_goOn_r3 : List Cond := [Cond.classLink RJx4a65c 7 "java/lang/Object", Cond.methodLink RJx4a65c 73 yJ8_newLength_cabcc, Cond.static yJ8_newLength_cabcc, Cond.initialized RJ8, Cond.code yJ8_newLength_cabcc cJ8_newLength_cabcc 4 (some .int), Cond.methodLink RJ8 194 Lib.Math.max.name, Cond.constant RJ8 200 (2147483639), Cond.methodLink RJ8 201 yJ8_hugeLength_7cf53, Cond.static yJ8_hugeLength_7cf53, Cond.code yJ8_hugeLength_7cf53 cJ8_hugeLength_7cf53 3 (some .int), Cond.methodLink RJx4a65c 66 yJ7_copyOf_1904c, Cond.static yJ7_copyOf_1904c, Cond.initialized RJ7, Cond.code yJ7_copyOf_1904c cJ7_copyOf_1904c 2 (some (.array (.object "java/lang/Object"))), Cond.methodLink RJ7 86 ⟨"java/lang/Object", "getClass", "()Ljava/lang/Class;"⟩, Cond.selects "[Ljava/lang/Object;" ⟨"java/lang/Object", "getClass", "()Ljava/lang/Class;"⟩ ⟨"java/lang/Object", "getClass", "()Ljava/lang/Class;"⟩, Cond.instanceMethod ⟨"java/lang/Object", "getClass", "()Ljava/lang/Class;"⟩, Cond.native ⟨"java/lang/Object", "getClass", "()Ljava/lang/Class;"⟩, Cond.methodLink RJ7 300 yJ7_copyOf_6403c, Cond.static yJ7_copyOf_6403c, Cond.code yJ7_copyOf_6403c cJ7_copyOf_6403c 4 (some (.array (.object "java/lang/Object"))), Cond.classLink RJ7 110 "[Ljava/lang/Object;", Cond.classLink RJ7 2 "java/lang/Object", Cond.methodLink RJ7 304 Lib.Math.min.name]
def wsX2_goOn_r4 : List Cond := [Cond.static Lib.Math.min.name, Cond.code Lib.Math.min.name Lib.Math.min.code 2 (some .int), Cond.methodLink RJ7 150 arraycopyName, Cond.native arraycopyName, Cond.static arraycopyName, Cond.initialized "java/lang/System", Cond.methodLink RX3 26 yJx4a65c_size_8abf5, Cond.instanceMethod yJx4a65c_size_8abf5, Cond.selects RJx4a65c yJx4a65c_size_8abf5 yJx4a65c_size_8abf5, Cond.code yJx4a65c_size_8abf5 cJx4a65c_size_8abf5 1 (some .int), Cond.methodLink RX2 37 yX3_latest, Cond.instanceMethod yX3_latest, Cond.selects RX3 yX3_latest yX3_latest, Cond.code yX3_latest cX3_latest 1 (some (.object "HouseWorkers$Cells")), Cond.methodLink RX2 41 yX0_takeAll, Cond.instanceMethod yX0_takeAll, Cond.selects RX0 yX0_takeAll yX0_takeAll, Cond.initialized RX0, Cond.code yX0_takeAll cX0_takeAll 3 none, Cond.fieldLink RX0 9 "HouseWorkers$Cells" "row" "[I", Cond.methodLink RX2 45 yX3_latestNumber, Cond.instanceMethod yX3_latestNumber, Cond.selects RX3 yX3_latestNumber yX3_latestNumber, Cond.code yX3_latestNumber cX3_latestNumber 1 (some .int)]
def wsX2_goOn_r5 : List Cond := [Cond.methodLink RX2 52 yX0_spread, Cond.instanceMethod yX0_spread, Cond.selects RX0 yX0_spread yX0_spread, Cond.code yX0_spread cX0_spread 4 none, Cond.methodLink RX0 15 Lib.Math.max.name]
def wsX2_goOn : List Cond := .code yX2_goOn cX2_goOn 2 (some .int) :: ((wsX2_goOn_r1 ++ (wsX2_goOn_r2 ++ (wsX2_goOn_r3 ++ (wsX2_goOn_r4 ++ wsX2_goOn_r5)))) ++ wsX20 ++ wsX10 ++ wsX40 ++ wsX60 ++ wsX30 ++ wsJx4a65c0 ++ wsX00)
def wsJxa1e45_init_da8c8 : List Cond := .code yJxa1e45_init_da8c8 cJxa1e45_init_da8c8 1 none :: ([.methodLink RJxa1e45 1 objectInit, .instanceMethod objectInit, .code objectInit ⟨#[0xb1]⟩ 1 none])
def wsJxc12de_init_da8c8 : List Cond := .code yJxc12de_init_da8c8 cJxc12de_init_da8c8 1 none :: ([.fieldLink RJxc12de 7 "java/util/AbstractList" "modCount" "I", .methodLink RJxc12de 1 yJxa1e45_init_da8c8, .instanceMethod yJxa1e45_init_da8c8, .initialized RJxa1e45, .code yJxa1e45_init_da8c8 cJxa1e45_init_da8c8 1 none, .methodLink RJxa1e45 1 objectInit, .instanceMethod objectInit, .code objectInit ⟨#[0xb1]⟩ 1 none] ++ wsJx4a65c0)
def wsJx4a65c_init_da8c8 : List Cond := .code yJx4a65c_init_da8c8 cJx4a65c_init_da8c8 1 none :: ([.fieldLink RJx4a65c 39 "java/util/ArrayList" "DEFAULTCAPACITY_EMPTY_ELEMENTDATA" "[Ljava/lang/Object;", .fieldLink RJx4a65c 9 "java/util/ArrayList" "elementData" "[Ljava/lang/Object;", .methodLink RJx4a65c 1 yJxc12de_init_da8c8, .instanceMethod yJxc12de_init_da8c8, .initialized RJxc12de, .code yJxc12de_init_da8c8 cJxc12de_init_da8c8 1 none, .fieldLink RJxc12de 7 "java/util/AbstractList" "modCount" "I", .methodLink RJxc12de 1 yJxa1e45_init_da8c8, .instanceMethod yJxa1e45_init_da8c8, .initialized RJxa1e45, .code yJxa1e45_init_da8c8 cJxa1e45_init_da8c8 1 none, .methodLink RJxa1e45 1 objectInit, .instanceMethod objectInit, .code objectInit ⟨#[0xb1]⟩ 1 none] ++ wsJx4a65c0)
def wsX3_init_r1 : List Cond := [Cond.methodLink RX3 1 objectInit, Cond.instanceMethod objectInit, Cond.code objectInit ⟨#[0xb1]⟩ 1 none, Cond.classLink RX3 7 RX0, Cond.instantiable RX0 1, Cond.initialized RX0, Cond.fieldLink RX3 10 "HouseWorkers$Store" "start" "LHouseWorkers$Cells;", Cond.classLink RX3 16 RJx4a65c, Cond.instantiable RJx4a65c 3, Cond.initialized RJx4a65c, Cond.fieldLink RX3 19 "HouseWorkers$Store" "committed" "Ljava/util/ArrayList;", Cond.fieldLink RX3 23 "HouseWorkers$Store" "latest" "LHouseWorkers$Cells;", Cond.instanceMethod yX0_init, Cond.code yX0_init cX0_init 1 none, Cond.methodLink RX0 3 objectInit, Cond.arrayClass .int, Cond.fieldLink RX0 9 "HouseWorkers$Cells" "row" "[I", Cond.methodLink RX3 18 yJx4a65c_init_da8c8, Cond.instanceMethod yJx4a65c_init_da8c8, Cond.code yJx4a65c_init_da8c8 cJx4a65c_init_da8c8 1 none, Cond.fieldLink RJx4a65c 39 "java/util/ArrayList" "DEFAULTCAPACITY_EMPTY_ELEMENTDATA" "[Ljava/lang/Object;", Cond.fieldLink RJx4a65c 9 "java/util/ArrayList" "elementData" "[Ljava/lang/Object;", Cond.methodLink RJx4a65c 1 yJxc12de_init_da8c8, Cond.instanceMethod yJxc12de_init_da8c8]
def wsX3_init_r2 : List Cond := [Cond.initialized RJxc12de, Cond.code yJxc12de_init_da8c8 cJxc12de_init_da8c8 1 none, Cond.fieldLink RJxc12de 7 "java/util/AbstractList" "modCount" "I", Cond.methodLink RJxc12de 1 yJxa1e45_init_da8c8, Cond.instanceMethod yJxa1e45_init_da8c8, Cond.initialized RJxa1e45, Cond.code yJxa1e45_init_da8c8 cJxa1e45_init_da8c8 1 none, Cond.methodLink RJxa1e45 1 objectInit]
def wsX3_init : List Cond := .code yX3_init cX3_init 1 none :: ((wsX3_init_r1 ++ wsX3_init_r2) ++ wsX00 ++ wsX30 ++ wsJx4a65c0)
def wsX3_size : List Cond := .code yX3_size cX3_size 1 (some .int) :: ([.fieldLink RX3 19 "HouseWorkers$Store" "committed" "Ljava/util/ArrayList;", .methodLink RX3 26 yJx4a65c_size_8abf5, .instanceMethod yJx4a65c_size_8abf5, .selects RJx4a65c yJx4a65c_size_8abf5 yJx4a65c_size_8abf5, .initialized RJx4a65c, .code yJx4a65c_size_8abf5 cJx4a65c_size_8abf5 1 (some .int), .fieldLink RJx4a65c 48 "java/util/ArrayList" "size" "I"] ++ wsX30 ++ wsJx4a65c0)
def wsJ3_checkIndex_8e157 : List Cond := .code yJ3_checkIndex_8e157 cJ3_checkIndex_8e157 3 (some .int) :: ([])
def wsJ15_checkIndex_7cf53 : List Cond := .code yJ15_checkIndex_7cf53 cJ15_checkIndex_7cf53 2 (some .int) :: ([.methodLink RJ15 105 yJ3_checkIndex_8e157, .static yJ3_checkIndex_8e157, .initialized RJ3, .code yJ3_checkIndex_8e157 cJ3_checkIndex_8e157 3 (some .int)])
def wsJx4a65c_elementData_915e3 : List Cond := .code yJx4a65c_elementData_915e3 cJx4a65c_elementData_915e3 2 (some (.object "java/lang/Object")) :: ([.fieldLink RJx4a65c 9 "java/util/ArrayList" "elementData" "[Ljava/lang/Object;"] ++ wsJx4a65c0)
def wsJx4a65c_get_915e3 : List Cond := .code yJx4a65c_get_915e3 cJx4a65c_get_915e3 2 (some (.object "java/lang/Object")) :: ([.fieldLink RJx4a65c 48 "java/util/ArrayList" "size" "I", .methodLink RJx4a65c 118 yJ15_checkIndex_7cf53, .static yJ15_checkIndex_7cf53, .initialized RJ15, .code yJ15_checkIndex_7cf53 cJ15_checkIndex_7cf53 2 (some .int), .methodLink RJ15 105 yJ3_checkIndex_8e157, .static yJ3_checkIndex_8e157, .initialized RJ3, .code yJ3_checkIndex_8e157 cJ3_checkIndex_8e157 3 (some .int), .methodLink RJx4a65c 123 yJx4a65c_elementData_915e3, .instanceMethod yJx4a65c_elementData_915e3, .selects RJx4a65c yJx4a65c_elementData_915e3 yJx4a65c_elementData_915e3, .initialized RJx4a65c, .code yJx4a65c_elementData_915e3 cJx4a65c_elementData_915e3 2 (some (.object "java/lang/Object")), .fieldLink RJx4a65c 9 "java/util/ArrayList" "elementData" "[Ljava/lang/Object;"] ++ wsJx4a65c0)
def wsX3_find_r1 : List Cond := [Cond.fieldLink RX3 10 "HouseWorkers$Store" "start" "LHouseWorkers$Cells;", Cond.fieldLink RX3 19 "HouseWorkers$Store" "committed" "Ljava/util/ArrayList;", Cond.classLink RX3 7 "HouseWorkers$Cells", Cond.methodLink RX3 26 yJx4a65c_size_8abf5, Cond.instanceMethod yJx4a65c_size_8abf5, Cond.selects RJx4a65c yJx4a65c_size_8abf5 yJx4a65c_size_8abf5, Cond.initialized RJx4a65c, Cond.code yJx4a65c_size_8abf5 cJx4a65c_size_8abf5 1 (some .int), Cond.fieldLink RJx4a65c 48 "java/util/ArrayList" "size" "I", Cond.methodLink RX3 30 yJx4a65c_get_915e3, Cond.instanceMethod yJx4a65c_get_915e3, Cond.selects RJx4a65c yJx4a65c_get_915e3 yJx4a65c_get_915e3, Cond.code yJx4a65c_get_915e3 cJx4a65c_get_915e3 2 (some (.object "java/lang/Object")), Cond.methodLink RJx4a65c 118 yJ15_checkIndex_7cf53, Cond.static yJ15_checkIndex_7cf53, Cond.initialized RJ15, Cond.code yJ15_checkIndex_7cf53 cJ15_checkIndex_7cf53 2 (some .int), Cond.methodLink RJ15 105 yJ3_checkIndex_8e157, Cond.static yJ3_checkIndex_8e157, Cond.initialized RJ3, Cond.code yJ3_checkIndex_8e157 cJ3_checkIndex_8e157 3 (some .int), Cond.methodLink RJx4a65c 123 yJx4a65c_elementData_915e3, Cond.instanceMethod yJx4a65c_elementData_915e3, Cond.selects RJx4a65c yJx4a65c_elementData_915e3 yJx4a65c_elementData_915e3]
def wsX3_find_r2 : List Cond := [Cond.code yJx4a65c_elementData_915e3 cJx4a65c_elementData_915e3 2 (some (.object "java/lang/Object")), Cond.fieldLink RJx4a65c 9 "java/util/ArrayList" "elementData" "[Ljava/lang/Object;"]
def wsX3_find : List Cond := .code yX3_find cX3_find 2 (some (.object "HouseWorkers$Cells")) :: ((wsX3_find_r1 ++ wsX3_find_r2) ++ wsX30 ++ wsJx4a65c0)
def wsX4_init_r1 : List Cond := [Cond.fieldLink RX4 15 "HouseWorkers$StreamWork" "version" "I", Cond.sameField "HouseWorkers$StreamWork" "HouseWorkers$Work" "version" "I", Cond.methodLink RX4 3 yX5_init, Cond.instanceMethod yX5_init, Cond.initialized RX5, Cond.code yX5_init cX5_init 5 none, Cond.methodLink RX5 3 objectInit, Cond.instanceMethod objectInit, Cond.code objectInit ⟨#[0xb1]⟩ 1 none, Cond.fieldLink RX5 9 "HouseWorkers$Work" "version" "I", Cond.fieldLink RX5 15 "HouseWorkers$Work" "pinned" "I", Cond.fieldLink RX5 18 "HouseWorkers$Work" "end" "I", Cond.fieldLink RX5 21 "HouseWorkers$Work" "number" "I", Cond.fieldLink RX5 24 "HouseWorkers$Work" "kind" "I", Cond.fieldLink RX5 27 "HouseWorkers$Work" "steps" "I", Cond.fieldLink RX5 30 "HouseWorkers$Work" "failsAt" "I", Cond.methodLink RX4 9 yX3_latestNumber, Cond.instanceMethod yX3_latestNumber, Cond.selects RX3 yX3_latestNumber yX3_latestNumber, Cond.initialized RX3, Cond.code yX3_latestNumber cX3_latestNumber 1 (some .int), Cond.fieldLink RX3 19 "HouseWorkers$Store" "committed" "Ljava/util/ArrayList;", Cond.methodLink RX3 26 yJx4a65c_size_8abf5, Cond.instanceMethod yJx4a65c_size_8abf5]
def wsX4_init_r2 : List Cond := [Cond.selects RJx4a65c yJx4a65c_size_8abf5 yJx4a65c_size_8abf5, Cond.initialized RJx4a65c, Cond.code yJx4a65c_size_8abf5 cJx4a65c_size_8abf5 1 (some .int), Cond.fieldLink RJx4a65c 48 "java/util/ArrayList" "size" "I"]
def wsX4_init : List Cond := .code yX4_init cX4_init 3 none :: ((wsX4_init_r1 ++ wsX4_init_r2) ++ wsX10 ++ wsX20 ++ wsX40 ++ wsX60 ++ wsX30 ++ wsJx4a65c0)
def wsX4_waits : List Cond := .code yX4_waits cX4_waits 3 (some .boolean) :: ([.fieldLink RX4 15 "HouseWorkers$StreamWork" "version" "I", .sameField "HouseWorkers$StreamWork" "HouseWorkers$Work" "version" "I", .methodLink RX4 9 yX3_latestNumber, .instanceMethod yX3_latestNumber, .selects RX3 yX3_latestNumber yX3_latestNumber, .initialized RX3, .code yX3_latestNumber cX3_latestNumber 1 (some .int), .fieldLink RX3 19 "HouseWorkers$Store" "committed" "Ljava/util/ArrayList;", .methodLink RX3 26 yJx4a65c_size_8abf5, .instanceMethod yJx4a65c_size_8abf5, .selects RJx4a65c yJx4a65c_size_8abf5 yJx4a65c_size_8abf5, .initialized RJx4a65c, .code yJx4a65c_size_8abf5 cJx4a65c_size_8abf5 1 (some .int), .fieldLink RJx4a65c 48 "java/util/ArrayList" "size" "I"] ++ wsX10 ++ wsX20 ++ wsX40 ++ wsX60 ++ wsX30 ++ wsJx4a65c0)
def wsX4_goOn_r1 : List Cond := [Cond.fieldLink RX4 15 "HouseWorkers$StreamWork" "version" "I", Cond.sameField "HouseWorkers$StreamWork" "HouseWorkers$Work" "version" "I", Cond.fieldLink RX4 25 "HouseWorkers$StreamWork" "answer" "I", Cond.sameField "HouseWorkers$StreamWork" "HouseWorkers$Work" "answer" "I", Cond.fieldLink RX4 33 "HouseWorkers$StreamWork" "stepsDone" "I", Cond.sameField "HouseWorkers$StreamWork" "HouseWorkers$Work" "stepsDone" "I", Cond.methodLink RX4 21 yX3_find, Cond.instanceMethod yX3_find, Cond.selects RX3 yX3_find yX3_find, Cond.initialized RX3, Cond.code yX3_find cX3_find 2 (some (.object "HouseWorkers$Cells")), Cond.fieldLink RX3 10 "HouseWorkers$Store" "start" "LHouseWorkers$Cells;", Cond.fieldLink RX3 19 "HouseWorkers$Store" "committed" "Ljava/util/ArrayList;", Cond.classLink RX3 7 "HouseWorkers$Cells", Cond.methodLink RX3 26 yJx4a65c_size_8abf5, Cond.instanceMethod yJx4a65c_size_8abf5, Cond.selects RJx4a65c yJx4a65c_size_8abf5 yJx4a65c_size_8abf5, Cond.initialized RJx4a65c, Cond.code yJx4a65c_size_8abf5 cJx4a65c_size_8abf5 1 (some .int), Cond.fieldLink RJx4a65c 48 "java/util/ArrayList" "size" "I", Cond.methodLink RX3 30 yJx4a65c_get_915e3, Cond.instanceMethod yJx4a65c_get_915e3, Cond.selects RJx4a65c yJx4a65c_get_915e3 yJx4a65c_get_915e3, Cond.code yJx4a65c_get_915e3 cJx4a65c_get_915e3 2 (some (.object "java/lang/Object"))]
def wsX4_goOn_r2 : List Cond := [Cond.methodLink RJx4a65c 118 yJ15_checkIndex_7cf53, Cond.static yJ15_checkIndex_7cf53, Cond.initialized RJ15, Cond.code yJ15_checkIndex_7cf53 cJ15_checkIndex_7cf53 2 (some .int), Cond.methodLink RJ15 105 yJ3_checkIndex_8e157, Cond.static yJ3_checkIndex_8e157, Cond.initialized RJ3, Cond.code yJ3_checkIndex_8e157 cJ3_checkIndex_8e157 3 (some .int), Cond.methodLink RJx4a65c 123 yJx4a65c_elementData_915e3, Cond.instanceMethod yJx4a65c_elementData_915e3, Cond.selects RJx4a65c yJx4a65c_elementData_915e3 yJx4a65c_elementData_915e3, Cond.code yJx4a65c_elementData_915e3 cJx4a65c_elementData_915e3 2 (some (.object "java/lang/Object")), Cond.fieldLink RJx4a65c 9 "java/util/ArrayList" "elementData" "[Ljava/lang/Object;", Cond.methodLink RX4 28 yX0_sum, Cond.instanceMethod yX0_sum, Cond.selects RX0 yX0_sum yX0_sum, Cond.initialized RX0, Cond.code yX0_sum cX0_sum 3 (some .int), Cond.fieldLink RX0 9 "HouseWorkers$Cells" "row" "[I"]
def wsX4_goOn : List Cond := .code yX4_goOn cX4_goOn 3 (some .int) :: ((wsX4_goOn_r1 ++ wsX4_goOn_r2) ++ wsX10 ++ wsX20 ++ wsX40 ++ wsX60 ++ wsX30 ++ wsJx4a65c0 ++ wsX00)
def wsX5_hasEnded : List Cond := .code yX5_hasEnded cX5_hasEnded 1 (some .boolean) :: ([.fieldLink RX5 18 "HouseWorkers$Work" "end" "I"] ++ wsX10 ++ wsX20 ++ wsX40 ++ wsX60)
def wsX4_isToGet : List Cond := .code yX4_isToGet cX4_isToGet 2 (some .boolean) :: ([.fieldLink RX4 15 "HouseWorkers$StreamWork" "version" "I", .sameField "HouseWorkers$StreamWork" "HouseWorkers$Work" "version" "I", .methodLink RX4 36 ⟨"HouseWorkers$StreamWork", "hasEnded", "()Z"⟩, .sameMethod "HouseWorkers$StreamWork" "HouseWorkers$Work" "hasEnded" "()Z", .selects RX4 ⟨"HouseWorkers$StreamWork", "hasEnded", "()Z"⟩ yX5_hasEnded, .instanceMethod yX5_hasEnded, .initialized RX5, .code yX5_hasEnded cX5_hasEnded 1 (some .boolean), .fieldLink RX5 18 "HouseWorkers$Work" "end" "I"] ++ wsX10 ++ wsX20 ++ wsX40 ++ wsX60)
def wsX5_isToGet : List Cond := .code yX5_isToGet cX5_isToGet 2 (some .boolean) :: ([])
def wsX5_commits : List Cond := .code yX5_commits cX5_commits 1 (some .boolean) :: ([.fieldLink RX5 24 "HouseWorkers$Work" "kind" "I"] ++ wsX10 ++ wsX20 ++ wsX40 ++ wsX60)
def wsX5_failsNow : List Cond := .code yX5_failsNow cX5_failsNow 1 (some .boolean) :: ([.fieldLink RX5 30 "HouseWorkers$Work" "failsAt" "I", .fieldLink RX5 33 "HouseWorkers$Work" "stepsDone" "I", .methodLink RX5 36 ⟨"HouseWorkers$Work", "hasDoneAllSteps", "()Z"⟩, .sameMethod "HouseWorkers$Work" "HouseWorkers$Work" "hasDoneAllSteps" "()Z", .selects RX1 ⟨"HouseWorkers$Work", "hasDoneAllSteps", "()Z"⟩ yX5_hasDoneAllSteps, .instanceMethod yX5_hasDoneAllSteps, .initialized RX5, .code yX5_hasDoneAllSteps cX5_hasDoneAllSteps 1 (some .boolean), .fieldLink RX5 27 "HouseWorkers$Work" "steps" "I", .selects RX2 ⟨"HouseWorkers$Work", "hasDoneAllSteps", "()Z"⟩ yX5_hasDoneAllSteps, .selects RX4 ⟨"HouseWorkers$Work", "hasDoneAllSteps", "()Z"⟩ yX5_hasDoneAllSteps, .selects RX6 ⟨"HouseWorkers$Work", "hasDoneAllSteps", "()Z"⟩ yX5_hasDoneAllSteps] ++ wsX10 ++ wsX20 ++ wsX40 ++ wsX60)
def wsX5_pins : List Cond := .code yX5_pins cX5_pins 2 (some .boolean) :: ([.fieldLink RX5 15 "HouseWorkers$Work" "pinned" "I", .methodLink RX5 40 ⟨"HouseWorkers$Work", "hasEnded", "()Z"⟩, .sameMethod "HouseWorkers$Work" "HouseWorkers$Work" "hasEnded" "()Z", .selects RX1 ⟨"HouseWorkers$Work", "hasEnded", "()Z"⟩ yX5_hasEnded, .instanceMethod yX5_hasEnded, .initialized RX5, .code yX5_hasEnded cX5_hasEnded 1 (some .boolean), .fieldLink RX5 18 "HouseWorkers$Work" "end" "I", .selects RX2 ⟨"HouseWorkers$Work", "hasEnded", "()Z"⟩ yX5_hasEnded, .selects RX4 ⟨"HouseWorkers$Work", "hasEnded", "()Z"⟩ yX5_hasEnded, .selects RX6 ⟨"HouseWorkers$Work", "hasEnded", "()Z"⟩ yX5_hasEnded] ++ wsX10 ++ wsX20 ++ wsX40 ++ wsX60)
def wsX6_init_r1 : List Cond := [Cond.classLink RX6 9 RX0, Cond.instantiable RX0 1, Cond.initialized RX0, Cond.fieldLink RX6 14 "HouseWorkers$WriterWork" "draft" "LHouseWorkers$Cells;", Cond.fieldLink RX6 20 "HouseWorkers$WriterWork" "first" "I", Cond.fieldLink RX6 24 "HouseWorkers$WriterWork" "by" "I", Cond.methodLink RX6 3 yX5_init, Cond.instanceMethod yX5_init, Cond.initialized RX5, Cond.code yX5_init cX5_init 5 none, Cond.methodLink RX5 3 objectInit, Cond.instanceMethod objectInit, Cond.code objectInit ⟨#[0xb1]⟩ 1 none, Cond.fieldLink RX5 9 "HouseWorkers$Work" "version" "I", Cond.fieldLink RX5 15 "HouseWorkers$Work" "pinned" "I", Cond.fieldLink RX5 18 "HouseWorkers$Work" "end" "I", Cond.fieldLink RX5 21 "HouseWorkers$Work" "number" "I", Cond.fieldLink RX5 24 "HouseWorkers$Work" "kind" "I", Cond.fieldLink RX5 27 "HouseWorkers$Work" "steps" "I", Cond.fieldLink RX5 30 "HouseWorkers$Work" "failsAt" "I", Cond.instanceMethod yX0_init, Cond.code yX0_init cX0_init 1 none, Cond.methodLink RX0 3 objectInit, Cond.arrayClass .int]
def wsX6_init_r2 : List Cond := [Cond.fieldLink RX0 9 "HouseWorkers$Cells" "row" "[I"]
def wsX6_init : List Cond := .code yX6_init cX6_init 6 none :: ((wsX6_init_r1 ++ wsX6_init_r2) ++ wsX00 ++ wsX60 ++ wsX10 ++ wsX20 ++ wsX40)
def wsX6_waits : List Cond := .code yX6_waits cX6_waits 3 (some .boolean) :: ([.methodLink RX6 27 ⟨"HouseWorkers$WriterWork", "hasDoneAllSteps", "()Z"⟩, .sameMethod "HouseWorkers$WriterWork" "HouseWorkers$Work" "hasDoneAllSteps" "()Z", .selects RX6 ⟨"HouseWorkers$WriterWork", "hasDoneAllSteps", "()Z"⟩ yX5_hasDoneAllSteps, .instanceMethod yX5_hasDoneAllSteps, .initialized RX5, .code yX5_hasDoneAllSteps cX5_hasDoneAllSteps 1 (some .boolean), .fieldLink RX5 33 "HouseWorkers$Work" "stepsDone" "I", .fieldLink RX5 27 "HouseWorkers$Work" "steps" "I"] ++ wsX10 ++ wsX20 ++ wsX40 ++ wsX60)
def wsX6_goOn_r1 : List Cond := [Cond.fieldLink RX6 14 "HouseWorkers$WriterWork" "draft" "LHouseWorkers$Cells;", Cond.fieldLink RX6 45 "HouseWorkers$WriterWork" "version" "I", Cond.sameField "HouseWorkers$WriterWork" "HouseWorkers$Work" "version" "I", Cond.fieldLink RX6 20 "HouseWorkers$WriterWork" "first" "I", Cond.fieldLink RX6 48 "HouseWorkers$WriterWork" "stepsDone" "I", Cond.sameField "HouseWorkers$WriterWork" "HouseWorkers$Work" "stepsDone" "I", Cond.fieldLink RX6 24 "HouseWorkers$WriterWork" "by" "I", Cond.methodLink RX6 27 ⟨"HouseWorkers$WriterWork", "hasDoneAllSteps", "()Z"⟩, Cond.sameMethod "HouseWorkers$WriterWork" "HouseWorkers$Work" "hasDoneAllSteps" "()Z", Cond.selects RX6 ⟨"HouseWorkers$WriterWork", "hasDoneAllSteps", "()Z"⟩ yX5_hasDoneAllSteps, Cond.instanceMethod yX5_hasDoneAllSteps, Cond.initialized RX5, Cond.code yX5_hasDoneAllSteps cX5_hasDoneAllSteps 1 (some .boolean), Cond.fieldLink RX5 33 "HouseWorkers$Work" "stepsDone" "I", Cond.fieldLink RX5 27 "HouseWorkers$Work" "steps" "I", Cond.methodLink RX6 31 yX3_latest, Cond.instanceMethod yX3_latest, Cond.selects RX3 yX3_latest yX3_latest, Cond.initialized RX3, Cond.code yX3_latest cX3_latest 1 (some (.object "HouseWorkers$Cells")), Cond.fieldLink RX3 23 "HouseWorkers$Store" "latest" "LHouseWorkers$Cells;", Cond.methodLink RX6 37 yX0_addAll, Cond.instanceMethod yX0_addAll, Cond.selects RX0 yX0_addAll yX0_addAll]
def wsX6_goOn_r2 : List Cond := [Cond.initialized RX0, Cond.code yX0_addAll cX0_addAll 3 none, Cond.fieldLink RX0 9 "HouseWorkers$Cells" "row" "[I", Cond.methodLink RX6 41 yX3_commit, Cond.instanceMethod yX3_commit, Cond.selects RX3 yX3_commit yX3_commit, Cond.code yX3_commit cX3_commit 2 (some .int), Cond.fieldLink RX3 19 "HouseWorkers$Store" "committed" "Ljava/util/ArrayList;", Cond.methodLink RX3 34 yJx4a65c_add_9ea2d, Cond.instanceMethod yJx4a65c_add_9ea2d, Cond.selects RJx4a65c yJx4a65c_add_9ea2d yJx4a65c_add_9ea2d, Cond.initialized RJx4a65c, Cond.code yJx4a65c_add_9ea2d cJx4a65c_add_9ea2d 2 (some .boolean), Cond.fieldLink RJx4a65c 63 "java/util/ArrayList" "modCount" "I", Cond.sameField "java/util/ArrayList" "java/util/AbstractList" "modCount" "I", Cond.fieldLink RJx4a65c 9 "java/util/ArrayList" "elementData" "[Ljava/lang/Object;", Cond.fieldLink RJx4a65c 48 "java/util/ArrayList" "size" "I", Cond.methodLink RJx4a65c 131 yJx4a65c_add_72be8, Cond.instanceMethod yJx4a65c_add_72be8, Cond.selects RJx4a65c yJx4a65c_add_72be8 yJx4a65c_add_72be8, Cond.code yJx4a65c_add_72be8 cJx4a65c_add_72be8 4 none, Cond.methodLink RJx4a65c 129 yJx4a65c_grow_d5877, Cond.instanceMethod yJx4a65c_grow_d5877, Cond.selects RJx4a65c yJx4a65c_grow_d5877 yJx4a65c_grow_d5877]
def wsX6_goOn_r3 : List Cond := [Cond.code yJx4a65c_grow_d5877 cJx4a65c_grow_d5877 1 (some (.array (.object "java/lang/Object"))), Cond.methodLink RJx4a65c 69 yJx4a65c_grow_92f84, Cond.instanceMethod yJx4a65c_grow_92f84, Cond.selects RJx4a65c yJx4a65c_grow_92f84 yJx4a65c_grow_92f84, Cond.code yJx4a65c_grow_92f84 cJx4a65c_grow_92f84 4 (some (.array (.object "java/lang/Object"))), Cond.fieldLink RJx4a65c 39 "java/util/ArrayList" "DEFAULTCAPACITY_EMPTY_ELEMENTDATA" "[Ljava/lang/Object;", Cond.methodLink RJx4a65c 79 Lib.Math.max.name, Cond.static Lib.Math.max.name, Cond.initialized "java/lang/Math", Cond.code Lib.Math.max.name Lib.Math.max.code 2 (some .int), Cond.classLink RJx4a65c 7 "java/lang/Object", Cond.methodLink RJx4a65c 73 yJ8_newLength_cabcc, Cond.static yJ8_newLength_cabcc, Cond.initialized RJ8, Cond.code yJ8_newLength_cabcc cJ8_newLength_cabcc 4 (some .int), Cond.methodLink RJ8 194 Lib.Math.max.name, Cond.constant RJ8 200 (2147483639), Cond.methodLink RJ8 201 yJ8_hugeLength_7cf53, Cond.static yJ8_hugeLength_7cf53, Cond.code yJ8_hugeLength_7cf53 cJ8_hugeLength_7cf53 3 (some .int), Cond.methodLink RJx4a65c 66 yJ7_copyOf_1904c, Cond.static yJ7_copyOf_1904c, Cond.initialized RJ7, Cond.code yJ7_copyOf_1904c cJ7_copyOf_1904c 2 (some (.array (.object "java/lang/Object")))]
def wsX6_goOn_r4 : List Cond := [Cond.methodLink RJ7 86 ⟨"java/lang/Object", "getClass", "()Ljava/lang/Class;"⟩, Cond.selects "[Ljava/lang/Object;" ⟨"java/lang/Object", "getClass", "()Ljava/lang/Class;"⟩ ⟨"java/lang/Object", "getClass", "()Ljava/lang/Class;"⟩, Cond.instanceMethod ⟨"java/lang/Object", "getClass", "()Ljava/lang/Class;"⟩, Cond.native ⟨"java/lang/Object", "getClass", "()Ljava/lang/Class;"⟩, Cond.methodLink RJ7 300 yJ7_copyOf_6403c, Cond.static yJ7_copyOf_6403c, Cond.code yJ7_copyOf_6403c cJ7_copyOf_6403c 4 (some (.array (.object "java/lang/Object"))), Cond.classLink RJ7 110 "[Ljava/lang/Object;", Cond.classLink RJ7 2 "java/lang/Object", Cond.methodLink RJ7 304 Lib.Math.min.name, Cond.static Lib.Math.min.name, Cond.code Lib.Math.min.name Lib.Math.min.code 2 (some .int), Cond.methodLink RJ7 150 arraycopyName, Cond.native arraycopyName, Cond.static arraycopyName, Cond.initialized "java/lang/System", Cond.methodLink RX3 26 yJx4a65c_size_8abf5, Cond.instanceMethod yJx4a65c_size_8abf5, Cond.selects RJx4a65c yJx4a65c_size_8abf5 yJx4a65c_size_8abf5, Cond.code yJx4a65c_size_8abf5 cJx4a65c_size_8abf5 1 (some .int), Cond.methodLink RX6 51 yX0_add, Cond.instanceMethod yX0_add, Cond.selects RX0 yX0_add yX0_add, Cond.code yX0_add cX0_add 3 none]
def wsX6_goOn : List Cond := .code yX6_goOn cX6_goOn 2 (some .int) :: ((wsX6_goOn_r1 ++ (wsX6_goOn_r2 ++ (wsX6_goOn_r3 ++ wsX6_goOn_r4))) ++ wsX60 ++ wsX10 ++ wsX20 ++ wsX40 ++ wsX30 ++ wsX00 ++ wsJx4a65c0)
def wsX7_init_r1 : List Cond := [Cond.methodLink RX7 3 objectInit, Cond.instanceMethod objectInit, Cond.code objectInit ⟨#[0xb1]⟩ 1 none, Cond.classLink RX7 9 RX3, Cond.instantiable RX3 3, Cond.initialized RX3, Cond.fieldLink RX7 12 "HouseWorkers" "store" "LHouseWorkers$Store;", Cond.classLink RX7 16 RJx4a65c, Cond.instantiable RJx4a65c 3, Cond.initialized RJx4a65c, Cond.fieldLink RX7 19 "HouseWorkers" "works" "Ljava/util/ArrayList;", Cond.fieldLink RX7 23 "HouseWorkers" "ends" "Ljava/util/ArrayList;", Cond.instanceMethod yX3_init, Cond.code yX3_init cX3_init 1 none, Cond.methodLink RX3 1 objectInit, Cond.classLink RX3 7 RX0, Cond.instantiable RX0 1, Cond.initialized RX0, Cond.fieldLink RX3 10 "HouseWorkers$Store" "start" "LHouseWorkers$Cells;", Cond.classLink RX3 16 RJx4a65c, Cond.fieldLink RX3 19 "HouseWorkers$Store" "committed" "Ljava/util/ArrayList;", Cond.fieldLink RX3 23 "HouseWorkers$Store" "latest" "LHouseWorkers$Cells;", Cond.instanceMethod yX0_init, Cond.code yX0_init cX0_init 1 none]
def wsX7_init_r2 : List Cond := [Cond.methodLink RX0 3 objectInit, Cond.arrayClass .int, Cond.fieldLink RX0 9 "HouseWorkers$Cells" "row" "[I", Cond.methodLink RX3 18 yJx4a65c_init_da8c8, Cond.instanceMethod yJx4a65c_init_da8c8, Cond.code yJx4a65c_init_da8c8 cJx4a65c_init_da8c8 1 none, Cond.fieldLink RJx4a65c 39 "java/util/ArrayList" "DEFAULTCAPACITY_EMPTY_ELEMENTDATA" "[Ljava/lang/Object;", Cond.fieldLink RJx4a65c 9 "java/util/ArrayList" "elementData" "[Ljava/lang/Object;", Cond.methodLink RJx4a65c 1 yJxc12de_init_da8c8, Cond.instanceMethod yJxc12de_init_da8c8, Cond.initialized RJxc12de, Cond.code yJxc12de_init_da8c8 cJxc12de_init_da8c8 1 none, Cond.fieldLink RJxc12de 7 "java/util/AbstractList" "modCount" "I", Cond.methodLink RJxc12de 1 yJxa1e45_init_da8c8, Cond.instanceMethod yJxa1e45_init_da8c8, Cond.initialized RJxa1e45, Cond.code yJxa1e45_init_da8c8 cJxa1e45_init_da8c8 1 none, Cond.methodLink RJxa1e45 1 objectInit, Cond.methodLink RX7 18 yJx4a65c_init_da8c8]
def wsX7_init : List Cond := .code yX7_init cX7_init 1 none :: ((wsX7_init_r1 ++ wsX7_init_r2) ++ wsX30 ++ wsX70 ++ wsJx4a65c0 ++ wsX00)
def wsX7_isCell : List Cond := .code yX7_isCell cX7_isCell 1 (some .boolean) :: ([])
def wsJx4a65c_isEmpty_aae02 : List Cond := .code yJx4a65c_isEmpty_aae02 cJx4a65c_isEmpty_aae02 1 (some .boolean) :: ([.fieldLink RJx4a65c 48 "java/util/ArrayList" "size" "I"] ++ wsJx4a65c0)
def wsX7_put : List Cond := .code yX7_put cX7_put 3 (some .int) :: ([.fieldLink RX7 19 "HouseWorkers" "works" "Ljava/util/ArrayList;", .fieldLink RX7 12 "HouseWorkers" "store" "LHouseWorkers$Store;", .methodLink RX7 26 yX7_isCell, .static yX7_isCell, .initialized RX7, .code yX7_isCell cX7_isCell 1 (some .boolean), .methodLink RX7 30 yJx4a65c_isEmpty_aae02, .instanceMethod yJx4a65c_isEmpty_aae02, .selects RJx4a65c yJx4a65c_isEmpty_aae02 yJx4a65c_isEmpty_aae02, .initialized RJx4a65c, .code yJx4a65c_isEmpty_aae02 cJx4a65c_isEmpty_aae02 1 (some .boolean), .fieldLink RJx4a65c 48 "java/util/ArrayList" "size" "I", .methodLink RX7 34 yX3_latest, .instanceMethod yX3_latest, .selects RX3 yX3_latest yX3_latest, .initialized RX3, .code yX3_latest cX3_latest 1 (some (.object "HouseWorkers$Cells")), .fieldLink RX3 23 "HouseWorkers$Store" "latest" "LHouseWorkers$Cells;", .methodLink RX7 38 yX0_set, .instanceMethod yX0_set, .selects RX0 yX0_set yX0_set, .initialized RX0, .code yX0_set cX0_set 3 none, .fieldLink RX0 9 "HouseWorkers$Cells" "row" "[I"] ++ wsX70 ++ wsJx4a65c0 ++ wsX30 ++ wsX00)
def wsX7_areSteps : List Cond := .code yX7_areSteps cX7_areSteps 1 (some .boolean) :: ([])
def wsX7_isFailsAt : List Cond := .code yX7_isFailsAt cX7_isFailsAt 1 (some .boolean) :: ([])
def wsX7_nextNumber : List Cond := .code yX7_nextNumber cX7_nextNumber 1 (some .int) :: ([.fieldLink RX7 99 "HouseWorkers" "closed" "Z", .fieldLink RX7 19 "HouseWorkers" "works" "Ljava/util/ArrayList;", .methodLink RX7 102 yJx4a65c_size_8abf5, .instanceMethod yJx4a65c_size_8abf5, .selects RJx4a65c yJx4a65c_size_8abf5 yJx4a65c_size_8abf5, .initialized RJx4a65c, .code yJx4a65c_size_8abf5 cJx4a65c_size_8abf5 1 (some .int), .fieldLink RJx4a65c 48 "java/util/ArrayList" "size" "I"] ++ wsX70 ++ wsJx4a65c0)
def wsX7_question_r1 : List Cond := [Cond.fieldLink RX7 19 "HouseWorkers" "works" "Ljava/util/ArrayList;", Cond.classLink RX7 54 RX1, Cond.instantiable RX1 13, Cond.initialized RX1, Cond.fieldLink RX7 12 "HouseWorkers" "store" "LHouseWorkers$Store;", Cond.methodLink RX7 44 yX7_areSteps, Cond.static yX7_areSteps, Cond.initialized RX7, Cond.code yX7_areSteps cX7_areSteps 1 (some .boolean), Cond.methodLink RX7 47 yX7_isFailsAt, Cond.static yX7_isFailsAt, Cond.code yX7_isFailsAt cX7_isFailsAt 1 (some .boolean), Cond.methodLink RX7 26 yX7_isCell, Cond.static yX7_isCell, Cond.code yX7_isCell cX7_isCell 1 (some .boolean), Cond.methodLink RX7 50 yX7_nextNumber, Cond.instanceMethod yX7_nextNumber, Cond.selects RX7 yX7_nextNumber yX7_nextNumber, Cond.code yX7_nextNumber cX7_nextNumber 1 (some .int), Cond.fieldLink RX7 99 "HouseWorkers" "closed" "Z", Cond.methodLink RX7 102 yJx4a65c_size_8abf5, Cond.instanceMethod yJx4a65c_size_8abf5, Cond.selects RJx4a65c yJx4a65c_size_8abf5 yJx4a65c_size_8abf5, Cond.initialized RJx4a65c]
def wsX7_question_r2 : List Cond := [Cond.code yJx4a65c_size_8abf5 cJx4a65c_size_8abf5 1 (some .int), Cond.fieldLink RJx4a65c 48 "java/util/ArrayList" "size" "I", Cond.methodLink RX7 56 yX1_init, Cond.instanceMethod yX1_init, Cond.code yX1_init cX1_init 6 none, Cond.fieldLink RX1 9 "HouseWorkers$QuestionWork" "first" "I", Cond.fieldLink RX1 21 "HouseWorkers$QuestionWork" "read" "LHouseWorkers$Cells;", Cond.fieldLink RX1 29 "HouseWorkers$QuestionWork" "version" "I", Cond.sameField "HouseWorkers$QuestionWork" "HouseWorkers$Work" "version" "I", Cond.fieldLink RX1 32 "HouseWorkers$QuestionWork" "pinned" "I", Cond.sameField "HouseWorkers$QuestionWork" "HouseWorkers$Work" "pinned" "I", Cond.methodLink RX1 3 yX5_init, Cond.instanceMethod yX5_init, Cond.initialized RX5, Cond.code yX5_init cX5_init 5 none, Cond.methodLink RX5 3 objectInit, Cond.instanceMethod objectInit, Cond.code objectInit ⟨#[0xb1]⟩ 1 none, Cond.fieldLink RX5 9 "HouseWorkers$Work" "version" "I", Cond.fieldLink RX5 15 "HouseWorkers$Work" "pinned" "I", Cond.fieldLink RX5 18 "HouseWorkers$Work" "end" "I", Cond.fieldLink RX5 21 "HouseWorkers$Work" "number" "I", Cond.fieldLink RX5 24 "HouseWorkers$Work" "kind" "I", Cond.fieldLink RX5 27 "HouseWorkers$Work" "steps" "I"]
def wsX7_question_r3 : List Cond := [Cond.fieldLink RX5 30 "HouseWorkers$Work" "failsAt" "I", Cond.methodLink RX1 15 yX3_latest, Cond.instanceMethod yX3_latest, Cond.selects RX3 yX3_latest yX3_latest, Cond.initialized RX3, Cond.code yX3_latest cX3_latest 1 (some (.object "HouseWorkers$Cells")), Cond.fieldLink RX3 23 "HouseWorkers$Store" "latest" "LHouseWorkers$Cells;", Cond.methodLink RX1 25 yX3_latestNumber, Cond.instanceMethod yX3_latestNumber, Cond.selects RX3 yX3_latestNumber yX3_latestNumber, Cond.code yX3_latestNumber cX3_latestNumber 1 (some .int), Cond.fieldLink RX3 19 "HouseWorkers$Store" "committed" "Ljava/util/ArrayList;", Cond.methodLink RX3 26 yJx4a65c_size_8abf5, Cond.methodLink RX7 59 yJx4a65c_add_9ea2d, Cond.instanceMethod yJx4a65c_add_9ea2d, Cond.selects RJx4a65c yJx4a65c_add_9ea2d yJx4a65c_add_9ea2d, Cond.code yJx4a65c_add_9ea2d cJx4a65c_add_9ea2d 2 (some .boolean), Cond.fieldLink RJx4a65c 63 "java/util/ArrayList" "modCount" "I", Cond.sameField "java/util/ArrayList" "java/util/AbstractList" "modCount" "I", Cond.fieldLink RJx4a65c 9 "java/util/ArrayList" "elementData" "[Ljava/lang/Object;", Cond.methodLink RJx4a65c 131 yJx4a65c_add_72be8, Cond.instanceMethod yJx4a65c_add_72be8, Cond.selects RJx4a65c yJx4a65c_add_72be8 yJx4a65c_add_72be8, Cond.code yJx4a65c_add_72be8 cJx4a65c_add_72be8 4 none]
def wsX7_question_r4 : List Cond := [Cond.methodLink RJx4a65c 129 yJx4a65c_grow_d5877, Cond.instanceMethod yJx4a65c_grow_d5877, Cond.selects RJx4a65c yJx4a65c_grow_d5877 yJx4a65c_grow_d5877, Cond.code yJx4a65c_grow_d5877 cJx4a65c_grow_d5877 1 (some (.array (.object "java/lang/Object"))), Cond.methodLink RJx4a65c 69 yJx4a65c_grow_92f84, Cond.instanceMethod yJx4a65c_grow_92f84, Cond.selects RJx4a65c yJx4a65c_grow_92f84 yJx4a65c_grow_92f84, Cond.code yJx4a65c_grow_92f84 cJx4a65c_grow_92f84 4 (some (.array (.object "java/lang/Object"))), Cond.fieldLink RJx4a65c 39 "java/util/ArrayList" "DEFAULTCAPACITY_EMPTY_ELEMENTDATA" "[Ljava/lang/Object;", Cond.methodLink RJx4a65c 79 Lib.Math.max.name, Cond.static Lib.Math.max.name, Cond.initialized "java/lang/Math", Cond.code Lib.Math.max.name Lib.Math.max.code 2 (some .int), Cond.classLink RJx4a65c 7 "java/lang/Object", Cond.methodLink RJx4a65c 73 yJ8_newLength_cabcc, Cond.static yJ8_newLength_cabcc, Cond.initialized RJ8, Cond.code yJ8_newLength_cabcc cJ8_newLength_cabcc 4 (some .int), Cond.methodLink RJ8 194 Lib.Math.max.name, Cond.constant RJ8 200 (2147483639), Cond.methodLink RJ8 201 yJ8_hugeLength_7cf53, Cond.static yJ8_hugeLength_7cf53, Cond.code yJ8_hugeLength_7cf53 cJ8_hugeLength_7cf53 3 (some .int), Cond.methodLink RJx4a65c 66 yJ7_copyOf_1904c]
def wsX7_question_r5 : List Cond := [Cond.static yJ7_copyOf_1904c, Cond.initialized RJ7, Cond.code yJ7_copyOf_1904c cJ7_copyOf_1904c 2 (some (.array (.object "java/lang/Object"))), Cond.methodLink RJ7 86 ⟨"java/lang/Object", "getClass", "()Ljava/lang/Class;"⟩, Cond.selects "[Ljava/lang/Object;" ⟨"java/lang/Object", "getClass", "()Ljava/lang/Class;"⟩ ⟨"java/lang/Object", "getClass", "()Ljava/lang/Class;"⟩, Cond.instanceMethod ⟨"java/lang/Object", "getClass", "()Ljava/lang/Class;"⟩, Cond.native ⟨"java/lang/Object", "getClass", "()Ljava/lang/Class;"⟩, Cond.methodLink RJ7 300 yJ7_copyOf_6403c, Cond.static yJ7_copyOf_6403c, Cond.code yJ7_copyOf_6403c cJ7_copyOf_6403c 4 (some (.array (.object "java/lang/Object"))), Cond.classLink RJ7 110 "[Ljava/lang/Object;", Cond.classLink RJ7 2 "java/lang/Object", Cond.methodLink RJ7 304 Lib.Math.min.name, Cond.static Lib.Math.min.name, Cond.code Lib.Math.min.name Lib.Math.min.code 2 (some .int), Cond.methodLink RJ7 150 arraycopyName, Cond.native arraycopyName, Cond.static arraycopyName, Cond.initialized "java/lang/System"]
def wsX7_question : List Cond := .code yX7_question cX7_question 5 (some .int) :: ((wsX7_question_r1 ++ (wsX7_question_r2 ++ (wsX7_question_r3 ++ (wsX7_question_r4 ++ wsX7_question_r5)))) ++ wsX70 ++ wsX10 ++ wsJx4a65c0 ++ wsX20 ++ wsX40 ++ wsX60 ++ wsX30)
def wsX7_writer_r1 : List Cond := [Cond.fieldLink RX7 19 "HouseWorkers" "works" "Ljava/util/ArrayList;", Cond.classLink RX7 63 RX6, Cond.instantiable RX6 14, Cond.initialized RX6, Cond.methodLink RX7 44 yX7_areSteps, Cond.static yX7_areSteps, Cond.initialized RX7, Cond.code yX7_areSteps cX7_areSteps 1 (some .boolean), Cond.methodLink RX7 47 yX7_isFailsAt, Cond.static yX7_isFailsAt, Cond.code yX7_isFailsAt cX7_isFailsAt 1 (some .boolean), Cond.methodLink RX7 26 yX7_isCell, Cond.static yX7_isCell, Cond.code yX7_isCell cX7_isCell 1 (some .boolean), Cond.methodLink RX7 50 yX7_nextNumber, Cond.instanceMethod yX7_nextNumber, Cond.selects RX7 yX7_nextNumber yX7_nextNumber, Cond.code yX7_nextNumber cX7_nextNumber 1 (some .int), Cond.fieldLink RX7 99 "HouseWorkers" "closed" "Z", Cond.methodLink RX7 102 yJx4a65c_size_8abf5, Cond.instanceMethod yJx4a65c_size_8abf5, Cond.selects RJx4a65c yJx4a65c_size_8abf5 yJx4a65c_size_8abf5, Cond.initialized RJx4a65c, Cond.code yJx4a65c_size_8abf5 cJx4a65c_size_8abf5 1 (some .int)]
def wsX7_writer_r2 : List Cond := [Cond.fieldLink RJx4a65c 48 "java/util/ArrayList" "size" "I", Cond.methodLink RX7 65 yX6_init, Cond.instanceMethod yX6_init, Cond.code yX6_init cX6_init 6 none, Cond.classLink RX6 9 RX0, Cond.instantiable RX0 1, Cond.initialized RX0, Cond.fieldLink RX6 14 "HouseWorkers$WriterWork" "draft" "LHouseWorkers$Cells;", Cond.fieldLink RX6 20 "HouseWorkers$WriterWork" "first" "I", Cond.fieldLink RX6 24 "HouseWorkers$WriterWork" "by" "I", Cond.methodLink RX6 3 yX5_init, Cond.instanceMethod yX5_init, Cond.initialized RX5, Cond.code yX5_init cX5_init 5 none, Cond.methodLink RX5 3 objectInit, Cond.instanceMethod objectInit, Cond.code objectInit ⟨#[0xb1]⟩ 1 none, Cond.fieldLink RX5 9 "HouseWorkers$Work" "version" "I", Cond.fieldLink RX5 15 "HouseWorkers$Work" "pinned" "I", Cond.fieldLink RX5 18 "HouseWorkers$Work" "end" "I", Cond.fieldLink RX5 21 "HouseWorkers$Work" "number" "I", Cond.fieldLink RX5 24 "HouseWorkers$Work" "kind" "I", Cond.fieldLink RX5 27 "HouseWorkers$Work" "steps" "I", Cond.fieldLink RX5 30 "HouseWorkers$Work" "failsAt" "I"]
def wsX7_writer_r3 : List Cond := [Cond.instanceMethod yX0_init, Cond.code yX0_init cX0_init 1 none, Cond.methodLink RX0 3 objectInit, Cond.arrayClass .int, Cond.fieldLink RX0 9 "HouseWorkers$Cells" "row" "[I", Cond.methodLink RX7 59 yJx4a65c_add_9ea2d, Cond.instanceMethod yJx4a65c_add_9ea2d, Cond.selects RJx4a65c yJx4a65c_add_9ea2d yJx4a65c_add_9ea2d, Cond.code yJx4a65c_add_9ea2d cJx4a65c_add_9ea2d 2 (some .boolean), Cond.fieldLink RJx4a65c 63 "java/util/ArrayList" "modCount" "I", Cond.sameField "java/util/ArrayList" "java/util/AbstractList" "modCount" "I", Cond.fieldLink RJx4a65c 9 "java/util/ArrayList" "elementData" "[Ljava/lang/Object;", Cond.methodLink RJx4a65c 131 yJx4a65c_add_72be8, Cond.instanceMethod yJx4a65c_add_72be8, Cond.selects RJx4a65c yJx4a65c_add_72be8 yJx4a65c_add_72be8, Cond.code yJx4a65c_add_72be8 cJx4a65c_add_72be8 4 none, Cond.methodLink RJx4a65c 129 yJx4a65c_grow_d5877, Cond.instanceMethod yJx4a65c_grow_d5877, Cond.selects RJx4a65c yJx4a65c_grow_d5877 yJx4a65c_grow_d5877, Cond.code yJx4a65c_grow_d5877 cJx4a65c_grow_d5877 1 (some (.array (.object "java/lang/Object"))), Cond.methodLink RJx4a65c 69 yJx4a65c_grow_92f84, Cond.instanceMethod yJx4a65c_grow_92f84, Cond.selects RJx4a65c yJx4a65c_grow_92f84 yJx4a65c_grow_92f84, Cond.code yJx4a65c_grow_92f84 cJx4a65c_grow_92f84 4 (some (.array (.object "java/lang/Object")))]
def wsX7_writer_r4 : List Cond := [Cond.fieldLink RJx4a65c 39 "java/util/ArrayList" "DEFAULTCAPACITY_EMPTY_ELEMENTDATA" "[Ljava/lang/Object;", Cond.methodLink RJx4a65c 79 Lib.Math.max.name, Cond.static Lib.Math.max.name, Cond.initialized "java/lang/Math", Cond.code Lib.Math.max.name Lib.Math.max.code 2 (some .int), Cond.classLink RJx4a65c 7 "java/lang/Object", Cond.methodLink RJx4a65c 73 yJ8_newLength_cabcc, Cond.static yJ8_newLength_cabcc, Cond.initialized RJ8, Cond.code yJ8_newLength_cabcc cJ8_newLength_cabcc 4 (some .int), Cond.methodLink RJ8 194 Lib.Math.max.name, Cond.constant RJ8 200 (2147483639), Cond.methodLink RJ8 201 yJ8_hugeLength_7cf53, Cond.static yJ8_hugeLength_7cf53, Cond.code yJ8_hugeLength_7cf53 cJ8_hugeLength_7cf53 3 (some .int), Cond.methodLink RJx4a65c 66 yJ7_copyOf_1904c, Cond.static yJ7_copyOf_1904c, Cond.initialized RJ7, Cond.code yJ7_copyOf_1904c cJ7_copyOf_1904c 2 (some (.array (.object "java/lang/Object"))), Cond.methodLink RJ7 86 ⟨"java/lang/Object", "getClass", "()Ljava/lang/Class;"⟩, Cond.selects "[Ljava/lang/Object;" ⟨"java/lang/Object", "getClass", "()Ljava/lang/Class;"⟩ ⟨"java/lang/Object", "getClass", "()Ljava/lang/Class;"⟩, Cond.instanceMethod ⟨"java/lang/Object", "getClass", "()Ljava/lang/Class;"⟩, Cond.native ⟨"java/lang/Object", "getClass", "()Ljava/lang/Class;"⟩, Cond.methodLink RJ7 300 yJ7_copyOf_6403c]
def wsX7_writer_r5 : List Cond := [Cond.static yJ7_copyOf_6403c, Cond.code yJ7_copyOf_6403c cJ7_copyOf_6403c 4 (some (.array (.object "java/lang/Object"))), Cond.classLink RJ7 110 "[Ljava/lang/Object;", Cond.classLink RJ7 2 "java/lang/Object", Cond.methodLink RJ7 304 Lib.Math.min.name, Cond.static Lib.Math.min.name, Cond.code Lib.Math.min.name Lib.Math.min.code 2 (some .int), Cond.methodLink RJ7 150 arraycopyName, Cond.native arraycopyName, Cond.static arraycopyName, Cond.initialized "java/lang/System"]
def wsX7_writer : List Cond := .code yX7_writer cX7_writer 6 (some .int) :: ((wsX7_writer_r1 ++ (wsX7_writer_r2 ++ (wsX7_writer_r3 ++ (wsX7_writer_r4 ++ wsX7_writer_r5)))) ++ wsX70 ++ wsX60 ++ wsJx4a65c0 ++ wsX00 ++ wsX10 ++ wsX20 ++ wsX40)
def wsX7_reason_r1 : List Cond := [Cond.fieldLink RX7 19 "HouseWorkers" "works" "Ljava/util/ArrayList;", Cond.classLink RX7 68 RX2, Cond.instantiable RX2 12, Cond.initialized RX2, Cond.methodLink RX7 44 yX7_areSteps, Cond.static yX7_areSteps, Cond.initialized RX7, Cond.code yX7_areSteps cX7_areSteps 1 (some .boolean), Cond.methodLink RX7 47 yX7_isFailsAt, Cond.static yX7_isFailsAt, Cond.code yX7_isFailsAt cX7_isFailsAt 1 (some .boolean), Cond.methodLink RX7 50 yX7_nextNumber, Cond.instanceMethod yX7_nextNumber, Cond.selects RX7 yX7_nextNumber yX7_nextNumber, Cond.code yX7_nextNumber cX7_nextNumber 1 (some .int), Cond.fieldLink RX7 99 "HouseWorkers" "closed" "Z", Cond.methodLink RX7 102 yJx4a65c_size_8abf5, Cond.instanceMethod yJx4a65c_size_8abf5, Cond.selects RJx4a65c yJx4a65c_size_8abf5 yJx4a65c_size_8abf5, Cond.initialized RJx4a65c, Cond.code yJx4a65c_size_8abf5 cJx4a65c_size_8abf5 1 (some .int), Cond.fieldLink RJx4a65c 48 "java/util/ArrayList" "size" "I", Cond.methodLink RX7 70 yX2_init, Cond.instanceMethod yX2_init]
def wsX7_reason_r2 : List Cond := [Cond.code yX2_init cX2_init 4 none, Cond.classLink RX2 9 RX0, Cond.instantiable RX0 1, Cond.initialized RX0, Cond.fieldLink RX2 14 "HouseWorkers$ReasoningWork" "cells" "LHouseWorkers$Cells;", Cond.methodLink RX2 3 yX5_init, Cond.instanceMethod yX5_init, Cond.initialized RX5, Cond.code yX5_init cX5_init 5 none, Cond.methodLink RX5 3 objectInit, Cond.instanceMethod objectInit, Cond.code objectInit ⟨#[0xb1]⟩ 1 none, Cond.fieldLink RX5 9 "HouseWorkers$Work" "version" "I", Cond.fieldLink RX5 15 "HouseWorkers$Work" "pinned" "I", Cond.fieldLink RX5 18 "HouseWorkers$Work" "end" "I", Cond.fieldLink RX5 21 "HouseWorkers$Work" "number" "I", Cond.fieldLink RX5 24 "HouseWorkers$Work" "kind" "I", Cond.fieldLink RX5 27 "HouseWorkers$Work" "steps" "I", Cond.fieldLink RX5 30 "HouseWorkers$Work" "failsAt" "I", Cond.instanceMethod yX0_init, Cond.code yX0_init cX0_init 1 none, Cond.methodLink RX0 3 objectInit, Cond.arrayClass .int, Cond.fieldLink RX0 9 "HouseWorkers$Cells" "row" "[I"]
def wsX7_reason_r3 : List Cond := [Cond.methodLink RX7 59 yJx4a65c_add_9ea2d, Cond.instanceMethod yJx4a65c_add_9ea2d, Cond.selects RJx4a65c yJx4a65c_add_9ea2d yJx4a65c_add_9ea2d, Cond.code yJx4a65c_add_9ea2d cJx4a65c_add_9ea2d 2 (some .boolean), Cond.fieldLink RJx4a65c 63 "java/util/ArrayList" "modCount" "I", Cond.sameField "java/util/ArrayList" "java/util/AbstractList" "modCount" "I", Cond.fieldLink RJx4a65c 9 "java/util/ArrayList" "elementData" "[Ljava/lang/Object;", Cond.methodLink RJx4a65c 131 yJx4a65c_add_72be8, Cond.instanceMethod yJx4a65c_add_72be8, Cond.selects RJx4a65c yJx4a65c_add_72be8 yJx4a65c_add_72be8, Cond.code yJx4a65c_add_72be8 cJx4a65c_add_72be8 4 none, Cond.methodLink RJx4a65c 129 yJx4a65c_grow_d5877, Cond.instanceMethod yJx4a65c_grow_d5877, Cond.selects RJx4a65c yJx4a65c_grow_d5877 yJx4a65c_grow_d5877, Cond.code yJx4a65c_grow_d5877 cJx4a65c_grow_d5877 1 (some (.array (.object "java/lang/Object"))), Cond.methodLink RJx4a65c 69 yJx4a65c_grow_92f84, Cond.instanceMethod yJx4a65c_grow_92f84, Cond.selects RJx4a65c yJx4a65c_grow_92f84 yJx4a65c_grow_92f84, Cond.code yJx4a65c_grow_92f84 cJx4a65c_grow_92f84 4 (some (.array (.object "java/lang/Object"))), Cond.fieldLink RJx4a65c 39 "java/util/ArrayList" "DEFAULTCAPACITY_EMPTY_ELEMENTDATA" "[Ljava/lang/Object;", Cond.methodLink RJx4a65c 79 Lib.Math.max.name, Cond.static Lib.Math.max.name, Cond.initialized "java/lang/Math", Cond.code Lib.Math.max.name Lib.Math.max.code 2 (some .int)]
def wsX7_reason_r4 : List Cond := [Cond.classLink RJx4a65c 7 "java/lang/Object", Cond.methodLink RJx4a65c 73 yJ8_newLength_cabcc, Cond.static yJ8_newLength_cabcc, Cond.initialized RJ8, Cond.code yJ8_newLength_cabcc cJ8_newLength_cabcc 4 (some .int), Cond.methodLink RJ8 194 Lib.Math.max.name, Cond.constant RJ8 200 (2147483639), Cond.methodLink RJ8 201 yJ8_hugeLength_7cf53, Cond.static yJ8_hugeLength_7cf53, Cond.code yJ8_hugeLength_7cf53 cJ8_hugeLength_7cf53 3 (some .int), Cond.methodLink RJx4a65c 66 yJ7_copyOf_1904c, Cond.static yJ7_copyOf_1904c, Cond.initialized RJ7, Cond.code yJ7_copyOf_1904c cJ7_copyOf_1904c 2 (some (.array (.object "java/lang/Object"))), Cond.methodLink RJ7 86 ⟨"java/lang/Object", "getClass", "()Ljava/lang/Class;"⟩, Cond.selects "[Ljava/lang/Object;" ⟨"java/lang/Object", "getClass", "()Ljava/lang/Class;"⟩ ⟨"java/lang/Object", "getClass", "()Ljava/lang/Class;"⟩, Cond.instanceMethod ⟨"java/lang/Object", "getClass", "()Ljava/lang/Class;"⟩, Cond.native ⟨"java/lang/Object", "getClass", "()Ljava/lang/Class;"⟩, Cond.methodLink RJ7 300 yJ7_copyOf_6403c, Cond.static yJ7_copyOf_6403c, Cond.code yJ7_copyOf_6403c cJ7_copyOf_6403c 4 (some (.array (.object "java/lang/Object"))), Cond.classLink RJ7 110 "[Ljava/lang/Object;", Cond.classLink RJ7 2 "java/lang/Object", Cond.methodLink RJ7 304 Lib.Math.min.name]
def wsX7_reason_r5 : List Cond := [Cond.static Lib.Math.min.name, Cond.code Lib.Math.min.name Lib.Math.min.code 2 (some .int), Cond.methodLink RJ7 150 arraycopyName, Cond.native arraycopyName, Cond.static arraycopyName, Cond.initialized "java/lang/System"]
def wsX7_reason : List Cond := .code yX7_reason cX7_reason 4 (some .int) :: ((wsX7_reason_r1 ++ (wsX7_reason_r2 ++ (wsX7_reason_r3 ++ (wsX7_reason_r4 ++ wsX7_reason_r5)))) ++ wsX70 ++ wsX20 ++ wsJx4a65c0 ++ wsX00 ++ wsX10 ++ wsX40 ++ wsX60)
def wsX7_stream_r1 : List Cond := [Cond.fieldLink RX7 19 "HouseWorkers" "works" "Ljava/util/ArrayList;", Cond.classLink RX7 73 RX4, Cond.instantiable RX4 11, Cond.initialized RX4, Cond.fieldLink RX7 12 "HouseWorkers" "store" "LHouseWorkers$Store;", Cond.methodLink RX7 50 yX7_nextNumber, Cond.instanceMethod yX7_nextNumber, Cond.selects RX7 yX7_nextNumber yX7_nextNumber, Cond.initialized RX7, Cond.code yX7_nextNumber cX7_nextNumber 1 (some .int), Cond.fieldLink RX7 99 "HouseWorkers" "closed" "Z", Cond.methodLink RX7 102 yJx4a65c_size_8abf5, Cond.instanceMethod yJx4a65c_size_8abf5, Cond.selects RJx4a65c yJx4a65c_size_8abf5 yJx4a65c_size_8abf5, Cond.initialized RJx4a65c, Cond.code yJx4a65c_size_8abf5 cJx4a65c_size_8abf5 1 (some .int), Cond.fieldLink RJx4a65c 48 "java/util/ArrayList" "size" "I", Cond.methodLink RX7 75 yX4_init, Cond.instanceMethod yX4_init, Cond.code yX4_init cX4_init 3 none, Cond.fieldLink RX4 15 "HouseWorkers$StreamWork" "version" "I", Cond.sameField "HouseWorkers$StreamWork" "HouseWorkers$Work" "version" "I", Cond.methodLink RX4 3 yX5_init, Cond.instanceMethod yX5_init]
def wsX7_stream_r2 : List Cond := [Cond.initialized RX5, Cond.code yX5_init cX5_init 5 none, Cond.methodLink RX5 3 objectInit, Cond.instanceMethod objectInit, Cond.code objectInit ⟨#[0xb1]⟩ 1 none, Cond.fieldLink RX5 9 "HouseWorkers$Work" "version" "I", Cond.fieldLink RX5 15 "HouseWorkers$Work" "pinned" "I", Cond.fieldLink RX5 18 "HouseWorkers$Work" "end" "I", Cond.fieldLink RX5 21 "HouseWorkers$Work" "number" "I", Cond.fieldLink RX5 24 "HouseWorkers$Work" "kind" "I", Cond.fieldLink RX5 27 "HouseWorkers$Work" "steps" "I", Cond.fieldLink RX5 30 "HouseWorkers$Work" "failsAt" "I", Cond.methodLink RX4 9 yX3_latestNumber, Cond.instanceMethod yX3_latestNumber, Cond.selects RX3 yX3_latestNumber yX3_latestNumber, Cond.initialized RX3, Cond.code yX3_latestNumber cX3_latestNumber 1 (some .int), Cond.fieldLink RX3 19 "HouseWorkers$Store" "committed" "Ljava/util/ArrayList;", Cond.methodLink RX3 26 yJx4a65c_size_8abf5, Cond.methodLink RX7 59 yJx4a65c_add_9ea2d, Cond.instanceMethod yJx4a65c_add_9ea2d, Cond.selects RJx4a65c yJx4a65c_add_9ea2d yJx4a65c_add_9ea2d, Cond.code yJx4a65c_add_9ea2d cJx4a65c_add_9ea2d 2 (some .boolean), Cond.fieldLink RJx4a65c 63 "java/util/ArrayList" "modCount" "I"]
def wsX7_stream_r3 : List Cond := [Cond.sameField "java/util/ArrayList" "java/util/AbstractList" "modCount" "I", Cond.fieldLink RJx4a65c 9 "java/util/ArrayList" "elementData" "[Ljava/lang/Object;", Cond.methodLink RJx4a65c 131 yJx4a65c_add_72be8, Cond.instanceMethod yJx4a65c_add_72be8, Cond.selects RJx4a65c yJx4a65c_add_72be8 yJx4a65c_add_72be8, Cond.code yJx4a65c_add_72be8 cJx4a65c_add_72be8 4 none, Cond.methodLink RJx4a65c 129 yJx4a65c_grow_d5877, Cond.instanceMethod yJx4a65c_grow_d5877, Cond.selects RJx4a65c yJx4a65c_grow_d5877 yJx4a65c_grow_d5877, Cond.code yJx4a65c_grow_d5877 cJx4a65c_grow_d5877 1 (some (.array (.object "java/lang/Object"))), Cond.methodLink RJx4a65c 69 yJx4a65c_grow_92f84, Cond.instanceMethod yJx4a65c_grow_92f84, Cond.selects RJx4a65c yJx4a65c_grow_92f84 yJx4a65c_grow_92f84, Cond.code yJx4a65c_grow_92f84 cJx4a65c_grow_92f84 4 (some (.array (.object "java/lang/Object"))), Cond.fieldLink RJx4a65c 39 "java/util/ArrayList" "DEFAULTCAPACITY_EMPTY_ELEMENTDATA" "[Ljava/lang/Object;", Cond.methodLink RJx4a65c 79 Lib.Math.max.name, Cond.static Lib.Math.max.name, Cond.initialized "java/lang/Math", Cond.code Lib.Math.max.name Lib.Math.max.code 2 (some .int), Cond.classLink RJx4a65c 7 "java/lang/Object", Cond.methodLink RJx4a65c 73 yJ8_newLength_cabcc, Cond.static yJ8_newLength_cabcc, Cond.initialized RJ8, Cond.code yJ8_newLength_cabcc cJ8_newLength_cabcc 4 (some .int)]
def wsX7_stream_r4 : List Cond := [Cond.methodLink RJ8 194 Lib.Math.max.name, Cond.constant RJ8 200 (2147483639), Cond.methodLink RJ8 201 yJ8_hugeLength_7cf53, Cond.static yJ8_hugeLength_7cf53, Cond.code yJ8_hugeLength_7cf53 cJ8_hugeLength_7cf53 3 (some .int), Cond.methodLink RJx4a65c 66 yJ7_copyOf_1904c, Cond.static yJ7_copyOf_1904c, Cond.initialized RJ7, Cond.code yJ7_copyOf_1904c cJ7_copyOf_1904c 2 (some (.array (.object "java/lang/Object"))), Cond.methodLink RJ7 86 ⟨"java/lang/Object", "getClass", "()Ljava/lang/Class;"⟩, Cond.selects "[Ljava/lang/Object;" ⟨"java/lang/Object", "getClass", "()Ljava/lang/Class;"⟩ ⟨"java/lang/Object", "getClass", "()Ljava/lang/Class;"⟩, Cond.instanceMethod ⟨"java/lang/Object", "getClass", "()Ljava/lang/Class;"⟩, Cond.native ⟨"java/lang/Object", "getClass", "()Ljava/lang/Class;"⟩, Cond.methodLink RJ7 300 yJ7_copyOf_6403c, Cond.static yJ7_copyOf_6403c, Cond.code yJ7_copyOf_6403c cJ7_copyOf_6403c 4 (some (.array (.object "java/lang/Object"))), Cond.classLink RJ7 110 "[Ljava/lang/Object;", Cond.classLink RJ7 2 "java/lang/Object", Cond.methodLink RJ7 304 Lib.Math.min.name, Cond.static Lib.Math.min.name, Cond.code Lib.Math.min.name Lib.Math.min.code 2 (some .int), Cond.methodLink RJ7 150 arraycopyName, Cond.native arraycopyName, Cond.static arraycopyName]
def wsX7_stream_r5 : List Cond := [Cond.initialized "java/lang/System"]
def wsX7_stream : List Cond := .code yX7_stream cX7_stream 2 (some .int) :: ((wsX7_stream_r1 ++ (wsX7_stream_r2 ++ (wsX7_stream_r3 ++ (wsX7_stream_r4 ++ wsX7_stream_r5)))) ++ wsX70 ++ wsX40 ++ wsJx4a65c0 ++ wsX10 ++ wsX20 ++ wsX60 ++ wsX30)
def wsX7_find_r1 : List Cond := [Cond.fieldLink RX7 19 "HouseWorkers" "works" "Ljava/util/ArrayList;", Cond.classLink RX7 91 "HouseWorkers$Work", Cond.methodLink RX7 102 yJx4a65c_size_8abf5, Cond.instanceMethod yJx4a65c_size_8abf5, Cond.selects RJx4a65c yJx4a65c_size_8abf5 yJx4a65c_size_8abf5, Cond.initialized RJx4a65c, Cond.code yJx4a65c_size_8abf5 cJx4a65c_size_8abf5 1 (some .int), Cond.fieldLink RJx4a65c 48 "java/util/ArrayList" "size" "I", Cond.methodLink RX7 105 yJx4a65c_get_915e3, Cond.instanceMethod yJx4a65c_get_915e3, Cond.selects RJx4a65c yJx4a65c_get_915e3 yJx4a65c_get_915e3, Cond.code yJx4a65c_get_915e3 cJx4a65c_get_915e3 2 (some (.object "java/lang/Object")), Cond.methodLink RJx4a65c 118 yJ15_checkIndex_7cf53, Cond.static yJ15_checkIndex_7cf53, Cond.initialized RJ15, Cond.code yJ15_checkIndex_7cf53 cJ15_checkIndex_7cf53 2 (some .int), Cond.methodLink RJ15 105 yJ3_checkIndex_8e157, Cond.static yJ3_checkIndex_8e157, Cond.initialized RJ3, Cond.code yJ3_checkIndex_8e157 cJ3_checkIndex_8e157 3 (some .int), Cond.methodLink RJx4a65c 123 yJx4a65c_elementData_915e3, Cond.instanceMethod yJx4a65c_elementData_915e3, Cond.selects RJx4a65c yJx4a65c_elementData_915e3 yJx4a65c_elementData_915e3, Cond.code yJx4a65c_elementData_915e3 cJx4a65c_elementData_915e3 2 (some (.object "java/lang/Object"))]
def wsX7_find_r2 : List Cond := [Cond.fieldLink RJx4a65c 9 "java/util/ArrayList" "elementData" "[Ljava/lang/Object;"]
def wsX7_find : List Cond := .code yX7_find cX7_find 2 (some (.object "HouseWorkers$Work")) :: ((wsX7_find_r1 ++ wsX7_find_r2) ++ wsX70 ++ wsJx4a65c0)
def wsX7_hasNobodyBefore_r1 : List Cond := [Cond.fieldLink RX7 133 "HouseWorkers$Work" "number" "I", Cond.fieldLink RX7 19 "HouseWorkers" "works" "Ljava/util/ArrayList;", Cond.classLink RX7 91 "HouseWorkers$Work", Cond.methodLink RX7 102 yJx4a65c_size_8abf5, Cond.instanceMethod yJx4a65c_size_8abf5, Cond.selects RJx4a65c yJx4a65c_size_8abf5 yJx4a65c_size_8abf5, Cond.initialized RJx4a65c, Cond.code yJx4a65c_size_8abf5 cJx4a65c_size_8abf5 1 (some .int), Cond.fieldLink RJx4a65c 48 "java/util/ArrayList" "size" "I", Cond.methodLink RX7 105 yJx4a65c_get_915e3, Cond.instanceMethod yJx4a65c_get_915e3, Cond.selects RJx4a65c yJx4a65c_get_915e3 yJx4a65c_get_915e3, Cond.code yJx4a65c_get_915e3 cJx4a65c_get_915e3 2 (some (.object "java/lang/Object")), Cond.methodLink RJx4a65c 118 yJ15_checkIndex_7cf53, Cond.static yJ15_checkIndex_7cf53, Cond.initialized RJ15, Cond.code yJ15_checkIndex_7cf53 cJ15_checkIndex_7cf53 2 (some .int), Cond.methodLink RJ15 105 yJ3_checkIndex_8e157, Cond.static yJ3_checkIndex_8e157, Cond.initialized RJ3, Cond.code yJ3_checkIndex_8e157 cJ3_checkIndex_8e157 3 (some .int), Cond.methodLink RJx4a65c 123 yJx4a65c_elementData_915e3, Cond.instanceMethod yJx4a65c_elementData_915e3, Cond.selects RJx4a65c yJx4a65c_elementData_915e3 yJx4a65c_elementData_915e3]
def wsX7_hasNobodyBefore_r2 : List Cond := [Cond.code yJx4a65c_elementData_915e3 cJx4a65c_elementData_915e3 2 (some (.object "java/lang/Object")), Cond.fieldLink RJx4a65c 9 "java/util/ArrayList" "elementData" "[Ljava/lang/Object;", Cond.methodLink RX7 178 ⟨"HouseWorkers$Work", "commits", "()Z"⟩, Cond.sameMethod "HouseWorkers$Work" "HouseWorkers$Work" "commits" "()Z", Cond.selects RX1 ⟨"HouseWorkers$Work", "commits", "()Z"⟩ yX5_commits, Cond.instanceMethod yX5_commits, Cond.initialized RX5, Cond.code yX5_commits cX5_commits 1 (some .boolean), Cond.fieldLink RX5 24 "HouseWorkers$Work" "kind" "I", Cond.selects RX2 ⟨"HouseWorkers$Work", "commits", "()Z"⟩ yX5_commits, Cond.selects RX4 ⟨"HouseWorkers$Work", "commits", "()Z"⟩ yX5_commits, Cond.selects RX6 ⟨"HouseWorkers$Work", "commits", "()Z"⟩ yX5_commits, Cond.methodLink RX7 90 ⟨"HouseWorkers$Work", "hasEnded", "()Z"⟩, Cond.sameMethod "HouseWorkers$Work" "HouseWorkers$Work" "hasEnded" "()Z", Cond.selects RX1 ⟨"HouseWorkers$Work", "hasEnded", "()Z"⟩ yX5_hasEnded, Cond.instanceMethod yX5_hasEnded, Cond.code yX5_hasEnded cX5_hasEnded 1 (some .boolean), Cond.fieldLink RX5 18 "HouseWorkers$Work" "end" "I", Cond.selects RX2 ⟨"HouseWorkers$Work", "hasEnded", "()Z"⟩ yX5_hasEnded, Cond.selects RX4 ⟨"HouseWorkers$Work", "hasEnded", "()Z"⟩ yX5_hasEnded, Cond.selects RX6 ⟨"HouseWorkers$Work", "hasEnded", "()Z"⟩ yX5_hasEnded]
def wsX7_hasNobodyBefore : List Cond := .code yX7_hasNobodyBefore cX7_hasNobodyBefore 4 (some .boolean) :: ((wsX7_hasNobodyBefore_r1 ++ wsX7_hasNobodyBefore_r2) ++ wsX10 ++ wsX20 ++ wsX40 ++ wsX60 ++ wsX70 ++ wsJx4a65c0)
def wsX7_standsStill_r1 : List Cond := [Cond.fieldLink RX7 95 "HouseWorkers$Work" "toBeCancelled" "Z", Cond.fieldLink RX7 12 "HouseWorkers" "store" "LHouseWorkers$Store;", Cond.methodLink RX7 90 ⟨"HouseWorkers$Work", "hasEnded", "()Z"⟩, Cond.sameMethod "HouseWorkers$Work" "HouseWorkers$Work" "hasEnded" "()Z", Cond.selects RX1 ⟨"HouseWorkers$Work", "hasEnded", "()Z"⟩ yX5_hasEnded, Cond.instanceMethod yX5_hasEnded, Cond.initialized RX5, Cond.code yX5_hasEnded cX5_hasEnded 1 (some .boolean), Cond.fieldLink RX5 18 "HouseWorkers$Work" "end" "I", Cond.selects RX2 ⟨"HouseWorkers$Work", "hasEnded", "()Z"⟩ yX5_hasEnded, Cond.selects RX4 ⟨"HouseWorkers$Work", "hasEnded", "()Z"⟩ yX5_hasEnded, Cond.selects RX6 ⟨"HouseWorkers$Work", "hasEnded", "()Z"⟩ yX5_hasEnded, Cond.methodLink RX7 171 yX7_hasNobodyBefore, Cond.instanceMethod yX7_hasNobodyBefore, Cond.selects RX7 yX7_hasNobodyBefore yX7_hasNobodyBefore, Cond.initialized RX7, Cond.code yX7_hasNobodyBefore cX7_hasNobodyBefore 4 (some .boolean), Cond.fieldLink RX7 133 "HouseWorkers$Work" "number" "I", Cond.fieldLink RX7 19 "HouseWorkers" "works" "Ljava/util/ArrayList;", Cond.classLink RX7 91 "HouseWorkers$Work", Cond.methodLink RX7 102 yJx4a65c_size_8abf5, Cond.instanceMethod yJx4a65c_size_8abf5, Cond.selects RJx4a65c yJx4a65c_size_8abf5 yJx4a65c_size_8abf5, Cond.initialized RJx4a65c]
def wsX7_standsStill_r2 : List Cond := [Cond.code yJx4a65c_size_8abf5 cJx4a65c_size_8abf5 1 (some .int), Cond.fieldLink RJx4a65c 48 "java/util/ArrayList" "size" "I", Cond.methodLink RX7 105 yJx4a65c_get_915e3, Cond.instanceMethod yJx4a65c_get_915e3, Cond.selects RJx4a65c yJx4a65c_get_915e3 yJx4a65c_get_915e3, Cond.code yJx4a65c_get_915e3 cJx4a65c_get_915e3 2 (some (.object "java/lang/Object")), Cond.methodLink RJx4a65c 118 yJ15_checkIndex_7cf53, Cond.static yJ15_checkIndex_7cf53, Cond.initialized RJ15, Cond.code yJ15_checkIndex_7cf53 cJ15_checkIndex_7cf53 2 (some .int), Cond.methodLink RJ15 105 yJ3_checkIndex_8e157, Cond.static yJ3_checkIndex_8e157, Cond.initialized RJ3, Cond.code yJ3_checkIndex_8e157 cJ3_checkIndex_8e157 3 (some .int), Cond.methodLink RJx4a65c 123 yJx4a65c_elementData_915e3, Cond.instanceMethod yJx4a65c_elementData_915e3, Cond.selects RJx4a65c yJx4a65c_elementData_915e3 yJx4a65c_elementData_915e3, Cond.code yJx4a65c_elementData_915e3 cJx4a65c_elementData_915e3 2 (some (.object "java/lang/Object")), Cond.fieldLink RJx4a65c 9 "java/util/ArrayList" "elementData" "[Ljava/lang/Object;", Cond.methodLink RX7 178 ⟨"HouseWorkers$Work", "commits", "()Z"⟩, Cond.sameMethod "HouseWorkers$Work" "HouseWorkers$Work" "commits" "()Z", Cond.selects RX1 ⟨"HouseWorkers$Work", "commits", "()Z"⟩ yX5_commits, Cond.instanceMethod yX5_commits, Cond.code yX5_commits cX5_commits 1 (some .boolean)]
def wsX7_standsStill_r3 : List Cond := [Cond.fieldLink RX5 24 "HouseWorkers$Work" "kind" "I", Cond.selects RX2 ⟨"HouseWorkers$Work", "commits", "()Z"⟩ yX5_commits, Cond.selects RX4 ⟨"HouseWorkers$Work", "commits", "()Z"⟩ yX5_commits, Cond.selects RX6 ⟨"HouseWorkers$Work", "commits", "()Z"⟩ yX5_commits, Cond.methodLink RX7 174 ⟨"HouseWorkers$Work", "waits", "(LHouseWorkers$Store;Z)Z"⟩, Cond.sameMethod "HouseWorkers$Work" "HouseWorkers$Work" "waits" "(LHouseWorkers$Store;Z)Z", Cond.selects RX1 ⟨"HouseWorkers$Work", "waits", "(LHouseWorkers$Store;Z)Z"⟩ yX1_waits, Cond.instanceMethod yX1_waits, Cond.initialized RX1, Cond.code yX1_waits cX1_waits 3 (some .boolean), Cond.selects RX2 ⟨"HouseWorkers$Work", "waits", "(LHouseWorkers$Store;Z)Z"⟩ yX2_waits, Cond.instanceMethod yX2_waits, Cond.initialized RX2, Cond.code yX2_waits cX2_waits 3 (some .boolean), Cond.fieldLink RX2 20 "HouseWorkers$ReasoningWork" "stepsDone" "I", Cond.sameField "HouseWorkers$ReasoningWork" "HouseWorkers$Work" "stepsDone" "I", Cond.selects RX4 ⟨"HouseWorkers$Work", "waits", "(LHouseWorkers$Store;Z)Z"⟩ yX4_waits, Cond.instanceMethod yX4_waits, Cond.initialized RX4, Cond.code yX4_waits cX4_waits 3 (some .boolean), Cond.fieldLink RX4 15 "HouseWorkers$StreamWork" "version" "I", Cond.sameField "HouseWorkers$StreamWork" "HouseWorkers$Work" "version" "I", Cond.methodLink RX4 9 yX3_latestNumber, Cond.instanceMethod yX3_latestNumber]
def wsX7_standsStill_r4 : List Cond := [Cond.selects RX3 yX3_latestNumber yX3_latestNumber, Cond.initialized RX3, Cond.code yX3_latestNumber cX3_latestNumber 1 (some .int), Cond.fieldLink RX3 19 "HouseWorkers$Store" "committed" "Ljava/util/ArrayList;", Cond.methodLink RX3 26 yJx4a65c_size_8abf5, Cond.selects RX6 ⟨"HouseWorkers$Work", "waits", "(LHouseWorkers$Store;Z)Z"⟩ yX6_waits, Cond.instanceMethod yX6_waits, Cond.initialized RX6, Cond.code yX6_waits cX6_waits 3 (some .boolean), Cond.methodLink RX6 27 ⟨"HouseWorkers$WriterWork", "hasDoneAllSteps", "()Z"⟩, Cond.sameMethod "HouseWorkers$WriterWork" "HouseWorkers$Work" "hasDoneAllSteps" "()Z", Cond.selects RX6 ⟨"HouseWorkers$WriterWork", "hasDoneAllSteps", "()Z"⟩ yX5_hasDoneAllSteps, Cond.instanceMethod yX5_hasDoneAllSteps, Cond.code yX5_hasDoneAllSteps cX5_hasDoneAllSteps 1 (some .boolean), Cond.fieldLink RX5 33 "HouseWorkers$Work" "stepsDone" "I", Cond.fieldLink RX5 27 "HouseWorkers$Work" "steps" "I"]
def wsX7_standsStill : List Cond := .code yX7_standsStill cX7_standsStill 2 (some .boolean) :: ((wsX7_standsStill_r1 ++ (wsX7_standsStill_r2 ++ (wsX7_standsStill_r3 ++ wsX7_standsStill_r4))) ++ wsX10 ++ wsX20 ++ wsX40 ++ wsX60 ++ wsX70 ++ wsJx4a65c0 ++ wsX30)
def wsX7_act_r1 : List Cond := [Cond.fieldLink RX7 95 "HouseWorkers$Work" "toBeCancelled" "Z", Cond.fieldLink RX7 12 "HouseWorkers" "store" "LHouseWorkers$Store;", Cond.methodLink RX7 164 ⟨"HouseWorkers$Work", "failsNow", "()Z"⟩, Cond.sameMethod "HouseWorkers$Work" "HouseWorkers$Work" "failsNow" "()Z", Cond.selects RX1 ⟨"HouseWorkers$Work", "failsNow", "()Z"⟩ yX5_failsNow, Cond.instanceMethod yX5_failsNow, Cond.initialized RX5, Cond.code yX5_failsNow cX5_failsNow 1 (some .boolean), Cond.fieldLink RX5 30 "HouseWorkers$Work" "failsAt" "I", Cond.fieldLink RX5 33 "HouseWorkers$Work" "stepsDone" "I", Cond.methodLink RX5 36 ⟨"HouseWorkers$Work", "hasDoneAllSteps", "()Z"⟩, Cond.sameMethod "HouseWorkers$Work" "HouseWorkers$Work" "hasDoneAllSteps" "()Z", Cond.selects RX1 ⟨"HouseWorkers$Work", "hasDoneAllSteps", "()Z"⟩ yX5_hasDoneAllSteps, Cond.instanceMethod yX5_hasDoneAllSteps, Cond.code yX5_hasDoneAllSteps cX5_hasDoneAllSteps 1 (some .boolean), Cond.fieldLink RX5 27 "HouseWorkers$Work" "steps" "I", Cond.selects RX2 ⟨"HouseWorkers$Work", "hasDoneAllSteps", "()Z"⟩ yX5_hasDoneAllSteps, Cond.selects RX4 ⟨"HouseWorkers$Work", "hasDoneAllSteps", "()Z"⟩ yX5_hasDoneAllSteps, Cond.selects RX6 ⟨"HouseWorkers$Work", "hasDoneAllSteps", "()Z"⟩ yX5_hasDoneAllSteps, Cond.selects RX2 ⟨"HouseWorkers$Work", "failsNow", "()Z"⟩ yX5_failsNow, Cond.selects RX4 ⟨"HouseWorkers$Work", "failsNow", "()Z"⟩ yX5_failsNow, Cond.selects RX6 ⟨"HouseWorkers$Work", "failsNow", "()Z"⟩ yX5_failsNow, Cond.methodLink RX7 167 ⟨"HouseWorkers$Work", "goOn", "(LHouseWorkers$Store;)I"⟩, Cond.sameMethod "HouseWorkers$Work" "HouseWorkers$Work" "goOn" "(LHouseWorkers$Store;)I"]
def wsX7_act_r2 : List Cond := [Cond.selects RX1 ⟨"HouseWorkers$Work", "goOn", "(LHouseWorkers$Store;)I"⟩ yX1_goOn, Cond.instanceMethod yX1_goOn, Cond.initialized RX1, Cond.code yX1_goOn cX1_goOn 2 (some .int), Cond.fieldLink RX1 35 "HouseWorkers$QuestionWork" "answer" "I", Cond.sameField "HouseWorkers$QuestionWork" "HouseWorkers$Work" "answer" "I", Cond.fieldLink RX1 21 "HouseWorkers$QuestionWork" "read" "LHouseWorkers$Cells;", Cond.fieldLink RX1 9 "HouseWorkers$QuestionWork" "first" "I", Cond.fieldLink RX1 38 "HouseWorkers$QuestionWork" "stepsDone" "I", Cond.sameField "HouseWorkers$QuestionWork" "HouseWorkers$Work" "stepsDone" "I", Cond.methodLink RX1 41 yX0_at, Cond.instanceMethod yX0_at, Cond.selects RX0 yX0_at yX0_at, Cond.initialized RX0, Cond.code yX0_at cX0_at 2 (some .int), Cond.fieldLink RX0 9 "HouseWorkers$Cells" "row" "[I", Cond.methodLink RX1 47 ⟨"HouseWorkers$QuestionWork", "hasDoneAllSteps", "()Z"⟩, Cond.sameMethod "HouseWorkers$QuestionWork" "HouseWorkers$Work" "hasDoneAllSteps" "()Z", Cond.selects RX1 ⟨"HouseWorkers$QuestionWork", "hasDoneAllSteps", "()Z"⟩ yX5_hasDoneAllSteps, Cond.selects RX2 ⟨"HouseWorkers$Work", "goOn", "(LHouseWorkers$Store;)I"⟩ yX2_goOn, Cond.instanceMethod yX2_goOn, Cond.initialized RX2, Cond.code yX2_goOn cX2_goOn 2 (some .int), Cond.fieldLink RX2 14 "HouseWorkers$ReasoningWork" "cells" "LHouseWorkers$Cells;"]
def wsX7_act_r3 : List Cond := [Cond.fieldLink RX2 34 "HouseWorkers$ReasoningWork" "version" "I", Cond.sameField "HouseWorkers$ReasoningWork" "HouseWorkers$Work" "version" "I", Cond.fieldLink RX2 20 "HouseWorkers$ReasoningWork" "stepsDone" "I", Cond.sameField "HouseWorkers$ReasoningWork" "HouseWorkers$Work" "stepsDone" "I", Cond.fieldLink RX2 49 "HouseWorkers$ReasoningWork" "pinned" "I", Cond.sameField "HouseWorkers$ReasoningWork" "HouseWorkers$Work" "pinned" "I", Cond.methodLink RX2 24 ⟨"HouseWorkers$ReasoningWork", "hasDoneAllSteps", "()Z"⟩, Cond.sameMethod "HouseWorkers$ReasoningWork" "HouseWorkers$Work" "hasDoneAllSteps" "()Z", Cond.selects RX2 ⟨"HouseWorkers$ReasoningWork", "hasDoneAllSteps", "()Z"⟩ yX5_hasDoneAllSteps, Cond.methodLink RX2 28 yX3_commit, Cond.instanceMethod yX3_commit, Cond.selects RX3 yX3_commit yX3_commit, Cond.initialized RX3, Cond.code yX3_commit cX3_commit 2 (some .int), Cond.fieldLink RX3 19 "HouseWorkers$Store" "committed" "Ljava/util/ArrayList;", Cond.fieldLink RX3 23 "HouseWorkers$Store" "latest" "LHouseWorkers$Cells;", Cond.methodLink RX3 34 yJx4a65c_add_9ea2d, Cond.instanceMethod yJx4a65c_add_9ea2d, Cond.selects RJx4a65c yJx4a65c_add_9ea2d yJx4a65c_add_9ea2d, Cond.initialized RJx4a65c, Cond.code yJx4a65c_add_9ea2d cJx4a65c_add_9ea2d 2 (some .boolean), Cond.fieldLink RJx4a65c 63 "java/util/ArrayList" "modCount" "I", Cond.sameField "java/util/ArrayList" "java/util/AbstractList" "modCount" "I", Cond.fieldLink RJx4a65c 9 "java/util/ArrayList" "elementData" "[Ljava/lang/Object;"]
def wsX7_act_r4 : List Cond := [Cond.fieldLink RJx4a65c 48 "java/util/ArrayList" "size" "I", Cond.methodLink RJx4a65c 131 yJx4a65c_add_72be8, Cond.instanceMethod yJx4a65c_add_72be8, Cond.selects RJx4a65c yJx4a65c_add_72be8 yJx4a65c_add_72be8, Cond.code yJx4a65c_add_72be8 cJx4a65c_add_72be8 4 none, Cond.methodLink RJx4a65c 129 yJx4a65c_grow_d5877, Cond.instanceMethod yJx4a65c_grow_d5877, Cond.selects RJx4a65c yJx4a65c_grow_d5877 yJx4a65c_grow_d5877, Cond.code yJx4a65c_grow_d5877 cJx4a65c_grow_d5877 1 (some (.array (.object "java/lang/Object"))), Cond.methodLink RJx4a65c 69 yJx4a65c_grow_92f84, Cond.instanceMethod yJx4a65c_grow_92f84, Cond.selects RJx4a65c yJx4a65c_grow_92f84 yJx4a65c_grow_92f84, Cond.code yJx4a65c_grow_92f84 cJx4a65c_grow_92f84 4 (some (.array (.object "java/lang/Object"))), Cond.fieldLink RJx4a65c 39 "java/util/ArrayList" "DEFAULTCAPACITY_EMPTY_ELEMENTDATA" "[Ljava/lang/Object;", Cond.methodLink RJx4a65c 79 Lib.Math.max.name, Cond.static Lib.Math.max.name, Cond.initialized "java/lang/Math", Cond.code Lib.Math.max.name Lib.Math.max.code 2 (some .int), Cond.classLink RJx4a65c 7 "java/lang/Object", Cond.methodLink RJx4a65c 73 yJ8_newLength_cabcc, Cond.static yJ8_newLength_cabcc, Cond.initialized RJ8, Cond.code yJ8_newLength_cabcc cJ8_newLength_cabcc 4 (some .int), Cond.methodLink RJ8 194 Lib.Math.max.name]
def wsX7_act_r5 : List Cond := [Cond.constant RJ8 200 (2147483639), Cond.methodLink RJ8 201 yJ8_hugeLength_7cf53, Cond.static yJ8_hugeLength_7cf53, Cond.code yJ8_hugeLength_7cf53 cJ8_hugeLength_7cf53 3 (some .int), Cond.methodLink RJx4a65c 66 yJ7_copyOf_1904c, Cond.static yJ7_copyOf_1904c, Cond.initialized RJ7, Cond.code yJ7_copyOf_1904c cJ7_copyOf_1904c 2 (some (.array (.object "java/lang/Object"))), Cond.methodLink RJ7 86 ⟨"java/lang/Object", "getClass", "()Ljava/lang/Class;"⟩, Cond.selects "[Ljava/lang/Object;" ⟨"java/lang/Object", "getClass", "()Ljava/lang/Class;"⟩ ⟨"java/lang/Object", "getClass", "()Ljava/lang/Class;"⟩, Cond.instanceMethod ⟨"java/lang/Object", "getClass", "()Ljava/lang/Class;"⟩, Cond.native ⟨"java/lang/Object", "getClass", "()Ljava/lang/Class;"⟩, Cond.methodLink RJ7 300 yJ7_copyOf_6403c, Cond.static yJ7_copyOf_6403c, Cond.code yJ7_copyOf_6403c cJ7_copyOf_6403c 4 (some (.array (.object "java/lang/Object"))), Cond.classLink RJ7 110 "[Ljava/lang/Object;", Cond.classLink RJ7 2 "java/lang/Object", Cond.methodLink RJ7 304 Lib.Math.min.name, Cond.static Lib.Math.min.name, Cond.code Lib.Math.min.name Lib.Math.min.code 2 (some .int), Cond.methodLink RJ7 150 arraycopyName, Cond.native arraycopyName, Cond.static arraycopyName, Cond.initialized "java/lang/System"]
def wsX7_act_r6 : List Cond := [Cond.methodLink RX3 26 yJx4a65c_size_8abf5, Cond.instanceMethod yJx4a65c_size_8abf5, Cond.selects RJx4a65c yJx4a65c_size_8abf5 yJx4a65c_size_8abf5, Cond.code yJx4a65c_size_8abf5 cJx4a65c_size_8abf5 1 (some .int), Cond.methodLink RX2 37 yX3_latest, Cond.instanceMethod yX3_latest, Cond.selects RX3 yX3_latest yX3_latest, Cond.code yX3_latest cX3_latest 1 (some (.object "HouseWorkers$Cells")), Cond.methodLink RX2 41 yX0_takeAll, Cond.instanceMethod yX0_takeAll, Cond.selects RX0 yX0_takeAll yX0_takeAll, Cond.code yX0_takeAll cX0_takeAll 3 none, Cond.methodLink RX2 45 yX3_latestNumber, Cond.instanceMethod yX3_latestNumber, Cond.selects RX3 yX3_latestNumber yX3_latestNumber, Cond.code yX3_latestNumber cX3_latestNumber 1 (some .int), Cond.methodLink RX2 52 yX0_spread, Cond.instanceMethod yX0_spread, Cond.selects RX0 yX0_spread yX0_spread, Cond.code yX0_spread cX0_spread 4 none, Cond.methodLink RX0 15 Lib.Math.max.name, Cond.selects RX4 ⟨"HouseWorkers$Work", "goOn", "(LHouseWorkers$Store;)I"⟩ yX4_goOn, Cond.instanceMethod yX4_goOn, Cond.initialized RX4]
def wsX7_act_r7 : List Cond := [Cond.code yX4_goOn cX4_goOn 3 (some .int), Cond.fieldLink RX4 15 "HouseWorkers$StreamWork" "version" "I", Cond.sameField "HouseWorkers$StreamWork" "HouseWorkers$Work" "version" "I", Cond.fieldLink RX4 25 "HouseWorkers$StreamWork" "answer" "I", Cond.sameField "HouseWorkers$StreamWork" "HouseWorkers$Work" "answer" "I", Cond.fieldLink RX4 33 "HouseWorkers$StreamWork" "stepsDone" "I", Cond.sameField "HouseWorkers$StreamWork" "HouseWorkers$Work" "stepsDone" "I", Cond.methodLink RX4 21 yX3_find, Cond.instanceMethod yX3_find, Cond.selects RX3 yX3_find yX3_find, Cond.code yX3_find cX3_find 2 (some (.object "HouseWorkers$Cells")), Cond.fieldLink RX3 10 "HouseWorkers$Store" "start" "LHouseWorkers$Cells;", Cond.classLink RX3 7 "HouseWorkers$Cells", Cond.methodLink RX3 30 yJx4a65c_get_915e3, Cond.instanceMethod yJx4a65c_get_915e3, Cond.selects RJx4a65c yJx4a65c_get_915e3 yJx4a65c_get_915e3, Cond.code yJx4a65c_get_915e3 cJx4a65c_get_915e3 2 (some (.object "java/lang/Object")), Cond.methodLink RJx4a65c 118 yJ15_checkIndex_7cf53, Cond.static yJ15_checkIndex_7cf53, Cond.initialized RJ15, Cond.code yJ15_checkIndex_7cf53 cJ15_checkIndex_7cf53 2 (some .int), Cond.methodLink RJ15 105 yJ3_checkIndex_8e157, Cond.static yJ3_checkIndex_8e157, Cond.initialized RJ3]
def wsX7_act_r8 : List Cond := [Cond.code yJ3_checkIndex_8e157 cJ3_checkIndex_8e157 3 (some .int), Cond.methodLink RJx4a65c 123 yJx4a65c_elementData_915e3, Cond.instanceMethod yJx4a65c_elementData_915e3, Cond.selects RJx4a65c yJx4a65c_elementData_915e3 yJx4a65c_elementData_915e3, Cond.code yJx4a65c_elementData_915e3 cJx4a65c_elementData_915e3 2 (some (.object "java/lang/Object")), Cond.methodLink RX4 28 yX0_sum, Cond.instanceMethod yX0_sum, Cond.selects RX0 yX0_sum yX0_sum, Cond.code yX0_sum cX0_sum 3 (some .int), Cond.selects RX6 ⟨"HouseWorkers$Work", "goOn", "(LHouseWorkers$Store;)I"⟩ yX6_goOn, Cond.instanceMethod yX6_goOn, Cond.initialized RX6, Cond.code yX6_goOn cX6_goOn 2 (some .int), Cond.fieldLink RX6 14 "HouseWorkers$WriterWork" "draft" "LHouseWorkers$Cells;", Cond.fieldLink RX6 45 "HouseWorkers$WriterWork" "version" "I", Cond.sameField "HouseWorkers$WriterWork" "HouseWorkers$Work" "version" "I", Cond.fieldLink RX6 20 "HouseWorkers$WriterWork" "first" "I", Cond.fieldLink RX6 48 "HouseWorkers$WriterWork" "stepsDone" "I", Cond.sameField "HouseWorkers$WriterWork" "HouseWorkers$Work" "stepsDone" "I", Cond.fieldLink RX6 24 "HouseWorkers$WriterWork" "by" "I", Cond.methodLink RX6 27 ⟨"HouseWorkers$WriterWork", "hasDoneAllSteps", "()Z"⟩, Cond.sameMethod "HouseWorkers$WriterWork" "HouseWorkers$Work" "hasDoneAllSteps" "()Z", Cond.selects RX6 ⟨"HouseWorkers$WriterWork", "hasDoneAllSteps", "()Z"⟩ yX5_hasDoneAllSteps, Cond.methodLink RX6 31 yX3_latest]
def wsX7_act_r9 : List Cond := [Cond.methodLink RX6 37 yX0_addAll, Cond.instanceMethod yX0_addAll, Cond.selects RX0 yX0_addAll yX0_addAll, Cond.code yX0_addAll cX0_addAll 3 none, Cond.methodLink RX6 41 yX3_commit, Cond.methodLink RX6 51 yX0_add, Cond.instanceMethod yX0_add, Cond.selects RX0 yX0_add yX0_add, Cond.code yX0_add cX0_add 3 none]
def wsX7_act : List Cond := .code yX7_act cX7_act 2 (some .int) :: ((wsX7_act_r1 ++ (wsX7_act_r2 ++ (wsX7_act_r3 ++ (wsX7_act_r4 ++ (wsX7_act_r5 ++ (wsX7_act_r6 ++ (wsX7_act_r7 ++ (wsX7_act_r8 ++ wsX7_act_r9)))))))) ++ wsX10 ++ wsX20 ++ wsX40 ++ wsX60 ++ wsX70 ++ wsX00 ++ wsX30 ++ wsJx4a65c0)
def wsX7_endWork_r1 : List Cond := [Cond.fieldLink RX7 117 "HouseWorkers$Work" "end" "I", Cond.fieldLink RX7 155 "HouseWorkers" "turnsThatDid" "I", Cond.fieldLink RX7 136 "HouseWorkers$Work" "turnsAtEnd" "I", Cond.fieldLink RX7 23 "HouseWorkers" "ends" "Ljava/util/ArrayList;", Cond.methodLink RX7 59 yJx4a65c_add_9ea2d, Cond.instanceMethod yJx4a65c_add_9ea2d, Cond.selects RJx4a65c yJx4a65c_add_9ea2d yJx4a65c_add_9ea2d, Cond.initialized RJx4a65c, Cond.code yJx4a65c_add_9ea2d cJx4a65c_add_9ea2d 2 (some .boolean), Cond.fieldLink RJx4a65c 63 "java/util/ArrayList" "modCount" "I", Cond.sameField "java/util/ArrayList" "java/util/AbstractList" "modCount" "I", Cond.fieldLink RJx4a65c 9 "java/util/ArrayList" "elementData" "[Ljava/lang/Object;", Cond.fieldLink RJx4a65c 48 "java/util/ArrayList" "size" "I", Cond.methodLink RJx4a65c 131 yJx4a65c_add_72be8, Cond.instanceMethod yJx4a65c_add_72be8, Cond.selects RJx4a65c yJx4a65c_add_72be8 yJx4a65c_add_72be8, Cond.code yJx4a65c_add_72be8 cJx4a65c_add_72be8 4 none, Cond.methodLink RJx4a65c 129 yJx4a65c_grow_d5877, Cond.instanceMethod yJx4a65c_grow_d5877, Cond.selects RJx4a65c yJx4a65c_grow_d5877 yJx4a65c_grow_d5877, Cond.code yJx4a65c_grow_d5877 cJx4a65c_grow_d5877 1 (some (.array (.object "java/lang/Object"))), Cond.methodLink RJx4a65c 69 yJx4a65c_grow_92f84, Cond.instanceMethod yJx4a65c_grow_92f84, Cond.selects RJx4a65c yJx4a65c_grow_92f84 yJx4a65c_grow_92f84]
def wsX7_endWork_r2 : List Cond := [Cond.code yJx4a65c_grow_92f84 cJx4a65c_grow_92f84 4 (some (.array (.object "java/lang/Object"))), Cond.fieldLink RJx4a65c 39 "java/util/ArrayList" "DEFAULTCAPACITY_EMPTY_ELEMENTDATA" "[Ljava/lang/Object;", Cond.methodLink RJx4a65c 79 Lib.Math.max.name, Cond.static Lib.Math.max.name, Cond.initialized "java/lang/Math", Cond.code Lib.Math.max.name Lib.Math.max.code 2 (some .int), Cond.classLink RJx4a65c 7 "java/lang/Object", Cond.methodLink RJx4a65c 73 yJ8_newLength_cabcc, Cond.static yJ8_newLength_cabcc, Cond.initialized RJ8, Cond.code yJ8_newLength_cabcc cJ8_newLength_cabcc 4 (some .int), Cond.methodLink RJ8 194 Lib.Math.max.name, Cond.constant RJ8 200 (2147483639), Cond.methodLink RJ8 201 yJ8_hugeLength_7cf53, Cond.static yJ8_hugeLength_7cf53, Cond.code yJ8_hugeLength_7cf53 cJ8_hugeLength_7cf53 3 (some .int), Cond.methodLink RJx4a65c 66 yJ7_copyOf_1904c, Cond.static yJ7_copyOf_1904c, Cond.initialized RJ7, Cond.code yJ7_copyOf_1904c cJ7_copyOf_1904c 2 (some (.array (.object "java/lang/Object"))), Cond.methodLink RJ7 86 ⟨"java/lang/Object", "getClass", "()Ljava/lang/Class;"⟩, Cond.selects "[Ljava/lang/Object;" ⟨"java/lang/Object", "getClass", "()Ljava/lang/Class;"⟩ ⟨"java/lang/Object", "getClass", "()Ljava/lang/Class;"⟩, Cond.instanceMethod ⟨"java/lang/Object", "getClass", "()Ljava/lang/Class;"⟩, Cond.native ⟨"java/lang/Object", "getClass", "()Ljava/lang/Class;"⟩]
def wsX7_endWork_r3 : List Cond := [Cond.methodLink RJ7 300 yJ7_copyOf_6403c, Cond.static yJ7_copyOf_6403c, Cond.code yJ7_copyOf_6403c cJ7_copyOf_6403c 4 (some (.array (.object "java/lang/Object"))), Cond.classLink RJ7 110 "[Ljava/lang/Object;", Cond.classLink RJ7 2 "java/lang/Object", Cond.methodLink RJ7 304 Lib.Math.min.name, Cond.static Lib.Math.min.name, Cond.code Lib.Math.min.name Lib.Math.min.code 2 (some .int), Cond.methodLink RJ7 150 arraycopyName, Cond.native arraycopyName, Cond.static arraycopyName, Cond.initialized "java/lang/System"]
def wsX7_endWork : List Cond := .code yX7_endWork cX7_endWork 3 none :: ((wsX7_endWork_r1 ++ (wsX7_endWork_r2 ++ wsX7_endWork_r3)) ++ wsX10 ++ wsX20 ++ wsX40 ++ wsX60 ++ wsX70 ++ wsJx4a65c0)
def wsX7_giveTurn_r1 : List Cond := [Cond.fieldLink RX7 158 "HouseWorkers" "turnsThatWaited" "I", Cond.fieldLink RX7 155 "HouseWorkers" "turnsThatDid" "I", Cond.methodLink RX7 90 ⟨"HouseWorkers$Work", "hasEnded", "()Z"⟩, Cond.sameMethod "HouseWorkers$Work" "HouseWorkers$Work" "hasEnded" "()Z", Cond.selects RX1 ⟨"HouseWorkers$Work", "hasEnded", "()Z"⟩ yX5_hasEnded, Cond.instanceMethod yX5_hasEnded, Cond.initialized RX5, Cond.code yX5_hasEnded cX5_hasEnded 1 (some .boolean), Cond.fieldLink RX5 18 "HouseWorkers$Work" "end" "I", Cond.selects RX2 ⟨"HouseWorkers$Work", "hasEnded", "()Z"⟩ yX5_hasEnded, Cond.selects RX4 ⟨"HouseWorkers$Work", "hasEnded", "()Z"⟩ yX5_hasEnded, Cond.selects RX6 ⟨"HouseWorkers$Work", "hasEnded", "()Z"⟩ yX5_hasEnded, Cond.methodLink RX7 129 yX7_standsStill, Cond.instanceMethod yX7_standsStill, Cond.selects RX7 yX7_standsStill yX7_standsStill, Cond.initialized RX7, Cond.code yX7_standsStill cX7_standsStill 2 (some .boolean), Cond.fieldLink RX7 95 "HouseWorkers$Work" "toBeCancelled" "Z", Cond.fieldLink RX7 12 "HouseWorkers" "store" "LHouseWorkers$Store;", Cond.methodLink RX7 171 yX7_hasNobodyBefore, Cond.instanceMethod yX7_hasNobodyBefore, Cond.selects RX7 yX7_hasNobodyBefore yX7_hasNobodyBefore, Cond.code yX7_hasNobodyBefore cX7_hasNobodyBefore 4 (some .boolean), Cond.fieldLink RX7 133 "HouseWorkers$Work" "number" "I"]
def wsX7_giveTurn_r2 : List Cond := [Cond.fieldLink RX7 19 "HouseWorkers" "works" "Ljava/util/ArrayList;", Cond.classLink RX7 91 "HouseWorkers$Work", Cond.methodLink RX7 102 yJx4a65c_size_8abf5, Cond.instanceMethod yJx4a65c_size_8abf5, Cond.selects RJx4a65c yJx4a65c_size_8abf5 yJx4a65c_size_8abf5, Cond.initialized RJx4a65c, Cond.code yJx4a65c_size_8abf5 cJx4a65c_size_8abf5 1 (some .int), Cond.fieldLink RJx4a65c 48 "java/util/ArrayList" "size" "I", Cond.methodLink RX7 105 yJx4a65c_get_915e3, Cond.instanceMethod yJx4a65c_get_915e3, Cond.selects RJx4a65c yJx4a65c_get_915e3 yJx4a65c_get_915e3, Cond.code yJx4a65c_get_915e3 cJx4a65c_get_915e3 2 (some (.object "java/lang/Object")), Cond.methodLink RJx4a65c 118 yJ15_checkIndex_7cf53, Cond.static yJ15_checkIndex_7cf53, Cond.initialized RJ15, Cond.code yJ15_checkIndex_7cf53 cJ15_checkIndex_7cf53 2 (some .int), Cond.methodLink RJ15 105 yJ3_checkIndex_8e157, Cond.static yJ3_checkIndex_8e157, Cond.initialized RJ3, Cond.code yJ3_checkIndex_8e157 cJ3_checkIndex_8e157 3 (some .int), Cond.methodLink RJx4a65c 123 yJx4a65c_elementData_915e3, Cond.instanceMethod yJx4a65c_elementData_915e3, Cond.selects RJx4a65c yJx4a65c_elementData_915e3 yJx4a65c_elementData_915e3, Cond.code yJx4a65c_elementData_915e3 cJx4a65c_elementData_915e3 2 (some (.object "java/lang/Object"))]
def wsX7_giveTurn_r3 : List Cond := [Cond.fieldLink RJx4a65c 9 "java/util/ArrayList" "elementData" "[Ljava/lang/Object;", Cond.methodLink RX7 178 ⟨"HouseWorkers$Work", "commits", "()Z"⟩, Cond.sameMethod "HouseWorkers$Work" "HouseWorkers$Work" "commits" "()Z", Cond.selects RX1 ⟨"HouseWorkers$Work", "commits", "()Z"⟩ yX5_commits, Cond.instanceMethod yX5_commits, Cond.code yX5_commits cX5_commits 1 (some .boolean), Cond.fieldLink RX5 24 "HouseWorkers$Work" "kind" "I", Cond.selects RX2 ⟨"HouseWorkers$Work", "commits", "()Z"⟩ yX5_commits, Cond.selects RX4 ⟨"HouseWorkers$Work", "commits", "()Z"⟩ yX5_commits, Cond.selects RX6 ⟨"HouseWorkers$Work", "commits", "()Z"⟩ yX5_commits, Cond.methodLink RX7 174 ⟨"HouseWorkers$Work", "waits", "(LHouseWorkers$Store;Z)Z"⟩, Cond.sameMethod "HouseWorkers$Work" "HouseWorkers$Work" "waits" "(LHouseWorkers$Store;Z)Z", Cond.selects RX1 ⟨"HouseWorkers$Work", "waits", "(LHouseWorkers$Store;Z)Z"⟩ yX1_waits, Cond.instanceMethod yX1_waits, Cond.initialized RX1, Cond.code yX1_waits cX1_waits 3 (some .boolean), Cond.selects RX2 ⟨"HouseWorkers$Work", "waits", "(LHouseWorkers$Store;Z)Z"⟩ yX2_waits, Cond.instanceMethod yX2_waits, Cond.initialized RX2, Cond.code yX2_waits cX2_waits 3 (some .boolean), Cond.fieldLink RX2 20 "HouseWorkers$ReasoningWork" "stepsDone" "I", Cond.sameField "HouseWorkers$ReasoningWork" "HouseWorkers$Work" "stepsDone" "I", Cond.selects RX4 ⟨"HouseWorkers$Work", "waits", "(LHouseWorkers$Store;Z)Z"⟩ yX4_waits, Cond.instanceMethod yX4_waits]
def wsX7_giveTurn_r4 : List Cond := [Cond.initialized RX4, Cond.code yX4_waits cX4_waits 3 (some .boolean), Cond.fieldLink RX4 15 "HouseWorkers$StreamWork" "version" "I", Cond.sameField "HouseWorkers$StreamWork" "HouseWorkers$Work" "version" "I", Cond.methodLink RX4 9 yX3_latestNumber, Cond.instanceMethod yX3_latestNumber, Cond.selects RX3 yX3_latestNumber yX3_latestNumber, Cond.initialized RX3, Cond.code yX3_latestNumber cX3_latestNumber 1 (some .int), Cond.fieldLink RX3 19 "HouseWorkers$Store" "committed" "Ljava/util/ArrayList;", Cond.methodLink RX3 26 yJx4a65c_size_8abf5, Cond.selects RX6 ⟨"HouseWorkers$Work", "waits", "(LHouseWorkers$Store;Z)Z"⟩ yX6_waits, Cond.instanceMethod yX6_waits, Cond.initialized RX6, Cond.code yX6_waits cX6_waits 3 (some .boolean), Cond.methodLink RX6 27 ⟨"HouseWorkers$WriterWork", "hasDoneAllSteps", "()Z"⟩, Cond.sameMethod "HouseWorkers$WriterWork" "HouseWorkers$Work" "hasDoneAllSteps" "()Z", Cond.selects RX6 ⟨"HouseWorkers$WriterWork", "hasDoneAllSteps", "()Z"⟩ yX5_hasDoneAllSteps, Cond.instanceMethod yX5_hasDoneAllSteps, Cond.code yX5_hasDoneAllSteps cX5_hasDoneAllSteps 1 (some .boolean), Cond.fieldLink RX5 33 "HouseWorkers$Work" "stepsDone" "I", Cond.fieldLink RX5 27 "HouseWorkers$Work" "steps" "I", Cond.methodLink RX7 161 yX7_act, Cond.instanceMethod yX7_act]
def wsX7_giveTurn_r5 : List Cond := [Cond.selects RX7 yX7_act yX7_act, Cond.code yX7_act cX7_act 2 (some .int), Cond.methodLink RX7 164 ⟨"HouseWorkers$Work", "failsNow", "()Z"⟩, Cond.sameMethod "HouseWorkers$Work" "HouseWorkers$Work" "failsNow" "()Z", Cond.selects RX1 ⟨"HouseWorkers$Work", "failsNow", "()Z"⟩ yX5_failsNow, Cond.instanceMethod yX5_failsNow, Cond.code yX5_failsNow cX5_failsNow 1 (some .boolean), Cond.fieldLink RX5 30 "HouseWorkers$Work" "failsAt" "I", Cond.methodLink RX5 36 ⟨"HouseWorkers$Work", "hasDoneAllSteps", "()Z"⟩, Cond.sameMethod "HouseWorkers$Work" "HouseWorkers$Work" "hasDoneAllSteps" "()Z", Cond.selects RX1 ⟨"HouseWorkers$Work", "hasDoneAllSteps", "()Z"⟩ yX5_hasDoneAllSteps, Cond.selects RX2 ⟨"HouseWorkers$Work", "hasDoneAllSteps", "()Z"⟩ yX5_hasDoneAllSteps, Cond.selects RX4 ⟨"HouseWorkers$Work", "hasDoneAllSteps", "()Z"⟩ yX5_hasDoneAllSteps, Cond.selects RX6 ⟨"HouseWorkers$Work", "hasDoneAllSteps", "()Z"⟩ yX5_hasDoneAllSteps, Cond.selects RX2 ⟨"HouseWorkers$Work", "failsNow", "()Z"⟩ yX5_failsNow, Cond.selects RX4 ⟨"HouseWorkers$Work", "failsNow", "()Z"⟩ yX5_failsNow, Cond.selects RX6 ⟨"HouseWorkers$Work", "failsNow", "()Z"⟩ yX5_failsNow, Cond.methodLink RX7 167 ⟨"HouseWorkers$Work", "goOn", "(LHouseWorkers$Store;)I"⟩, Cond.sameMethod "HouseWorkers$Work" "HouseWorkers$Work" "goOn" "(LHouseWorkers$Store;)I", Cond.selects RX1 ⟨"HouseWorkers$Work", "goOn", "(LHouseWorkers$Store;)I"⟩ yX1_goOn, Cond.instanceMethod yX1_goOn, Cond.code yX1_goOn cX1_goOn 2 (some .int), Cond.fieldLink RX1 35 "HouseWorkers$QuestionWork" "answer" "I", Cond.sameField "HouseWorkers$QuestionWork" "HouseWorkers$Work" "answer" "I"]
def wsX7_giveTurn_r6 : List Cond := [Cond.fieldLink RX1 21 "HouseWorkers$QuestionWork" "read" "LHouseWorkers$Cells;", Cond.fieldLink RX1 9 "HouseWorkers$QuestionWork" "first" "I", Cond.fieldLink RX1 38 "HouseWorkers$QuestionWork" "stepsDone" "I", Cond.sameField "HouseWorkers$QuestionWork" "HouseWorkers$Work" "stepsDone" "I", Cond.methodLink RX1 41 yX0_at, Cond.instanceMethod yX0_at, Cond.selects RX0 yX0_at yX0_at, Cond.initialized RX0, Cond.code yX0_at cX0_at 2 (some .int), Cond.fieldLink RX0 9 "HouseWorkers$Cells" "row" "[I", Cond.methodLink RX1 47 ⟨"HouseWorkers$QuestionWork", "hasDoneAllSteps", "()Z"⟩, Cond.sameMethod "HouseWorkers$QuestionWork" "HouseWorkers$Work" "hasDoneAllSteps" "()Z", Cond.selects RX1 ⟨"HouseWorkers$QuestionWork", "hasDoneAllSteps", "()Z"⟩ yX5_hasDoneAllSteps, Cond.selects RX2 ⟨"HouseWorkers$Work", "goOn", "(LHouseWorkers$Store;)I"⟩ yX2_goOn, Cond.instanceMethod yX2_goOn, Cond.code yX2_goOn cX2_goOn 2 (some .int), Cond.fieldLink RX2 14 "HouseWorkers$ReasoningWork" "cells" "LHouseWorkers$Cells;", Cond.fieldLink RX2 34 "HouseWorkers$ReasoningWork" "version" "I", Cond.sameField "HouseWorkers$ReasoningWork" "HouseWorkers$Work" "version" "I", Cond.fieldLink RX2 49 "HouseWorkers$ReasoningWork" "pinned" "I", Cond.sameField "HouseWorkers$ReasoningWork" "HouseWorkers$Work" "pinned" "I", Cond.methodLink RX2 24 ⟨"HouseWorkers$ReasoningWork", "hasDoneAllSteps", "()Z"⟩, Cond.sameMethod "HouseWorkers$ReasoningWork" "HouseWorkers$Work" "hasDoneAllSteps" "()Z", Cond.selects RX2 ⟨"HouseWorkers$ReasoningWork", "hasDoneAllSteps", "()Z"⟩ yX5_hasDoneAllSteps]
def wsX7_giveTurn_r7 : List Cond := [Cond.methodLink RX2 28 yX3_commit, Cond.instanceMethod yX3_commit, Cond.selects RX3 yX3_commit yX3_commit, Cond.code yX3_commit cX3_commit 2 (some .int), Cond.fieldLink RX3 23 "HouseWorkers$Store" "latest" "LHouseWorkers$Cells;", Cond.methodLink RX3 34 yJx4a65c_add_9ea2d, Cond.instanceMethod yJx4a65c_add_9ea2d, Cond.selects RJx4a65c yJx4a65c_add_9ea2d yJx4a65c_add_9ea2d, Cond.code yJx4a65c_add_9ea2d cJx4a65c_add_9ea2d 2 (some .boolean), Cond.fieldLink RJx4a65c 63 "java/util/ArrayList" "modCount" "I", Cond.sameField "java/util/ArrayList" "java/util/AbstractList" "modCount" "I", Cond.methodLink RJx4a65c 131 yJx4a65c_add_72be8, Cond.instanceMethod yJx4a65c_add_72be8, Cond.selects RJx4a65c yJx4a65c_add_72be8 yJx4a65c_add_72be8, Cond.code yJx4a65c_add_72be8 cJx4a65c_add_72be8 4 none, Cond.methodLink RJx4a65c 129 yJx4a65c_grow_d5877, Cond.instanceMethod yJx4a65c_grow_d5877, Cond.selects RJx4a65c yJx4a65c_grow_d5877 yJx4a65c_grow_d5877, Cond.code yJx4a65c_grow_d5877 cJx4a65c_grow_d5877 1 (some (.array (.object "java/lang/Object"))), Cond.methodLink RJx4a65c 69 yJx4a65c_grow_92f84, Cond.instanceMethod yJx4a65c_grow_92f84, Cond.selects RJx4a65c yJx4a65c_grow_92f84 yJx4a65c_grow_92f84, Cond.code yJx4a65c_grow_92f84 cJx4a65c_grow_92f84 4 (some (.array (.object "java/lang/Object"))), Cond.fieldLink RJx4a65c 39 "java/util/ArrayList" "DEFAULTCAPACITY_EMPTY_ELEMENTDATA" "[Ljava/lang/Object;"]
def wsX7_giveTurn_r8 : List Cond := [Cond.methodLink RJx4a65c 79 Lib.Math.max.name, Cond.static Lib.Math.max.name, Cond.initialized "java/lang/Math", Cond.code Lib.Math.max.name Lib.Math.max.code 2 (some .int), Cond.classLink RJx4a65c 7 "java/lang/Object", Cond.methodLink RJx4a65c 73 yJ8_newLength_cabcc, Cond.static yJ8_newLength_cabcc, Cond.initialized RJ8, Cond.code yJ8_newLength_cabcc cJ8_newLength_cabcc 4 (some .int), Cond.methodLink RJ8 194 Lib.Math.max.name, Cond.constant RJ8 200 (2147483639), Cond.methodLink RJ8 201 yJ8_hugeLength_7cf53, Cond.static yJ8_hugeLength_7cf53, Cond.code yJ8_hugeLength_7cf53 cJ8_hugeLength_7cf53 3 (some .int), Cond.methodLink RJx4a65c 66 yJ7_copyOf_1904c, Cond.static yJ7_copyOf_1904c, Cond.initialized RJ7, Cond.code yJ7_copyOf_1904c cJ7_copyOf_1904c 2 (some (.array (.object "java/lang/Object"))), Cond.methodLink RJ7 86 ⟨"java/lang/Object", "getClass", "()Ljava/lang/Class;"⟩, Cond.selects "[Ljava/lang/Object;" ⟨"java/lang/Object", "getClass", "()Ljava/lang/Class;"⟩ ⟨"java/lang/Object", "getClass", "()Ljava/lang/Class;"⟩, Cond.instanceMethod ⟨"java/lang/Object", "getClass", "()Ljava/lang/Class;"⟩, Cond.native ⟨"java/lang/Object", "getClass", "()Ljava/lang/Class;"⟩, Cond.methodLink RJ7 300 yJ7_copyOf_6403c, Cond.static yJ7_copyOf_6403c]
def wsX7_giveTurn_r9 : List Cond := [Cond.code yJ7_copyOf_6403c cJ7_copyOf_6403c 4 (some (.array (.object "java/lang/Object"))), Cond.classLink RJ7 110 "[Ljava/lang/Object;", Cond.classLink RJ7 2 "java/lang/Object", Cond.methodLink RJ7 304 Lib.Math.min.name, Cond.static Lib.Math.min.name, Cond.code Lib.Math.min.name Lib.Math.min.code 2 (some .int), Cond.methodLink RJ7 150 arraycopyName, Cond.native arraycopyName, Cond.static arraycopyName, Cond.initialized "java/lang/System", Cond.methodLink RX2 37 yX3_latest, Cond.instanceMethod yX3_latest, Cond.selects RX3 yX3_latest yX3_latest, Cond.code yX3_latest cX3_latest 1 (some (.object "HouseWorkers$Cells")), Cond.methodLink RX2 41 yX0_takeAll, Cond.instanceMethod yX0_takeAll, Cond.selects RX0 yX0_takeAll yX0_takeAll, Cond.code yX0_takeAll cX0_takeAll 3 none, Cond.methodLink RX2 45 yX3_latestNumber, Cond.methodLink RX2 52 yX0_spread, Cond.instanceMethod yX0_spread, Cond.selects RX0 yX0_spread yX0_spread, Cond.code yX0_spread cX0_spread 4 none, Cond.methodLink RX0 15 Lib.Math.max.name]
def wsX7_giveTurn_r10 : List Cond := [Cond.selects RX4 ⟨"HouseWorkers$Work", "goOn", "(LHouseWorkers$Store;)I"⟩ yX4_goOn, Cond.instanceMethod yX4_goOn, Cond.code yX4_goOn cX4_goOn 3 (some .int), Cond.fieldLink RX4 25 "HouseWorkers$StreamWork" "answer" "I", Cond.sameField "HouseWorkers$StreamWork" "HouseWorkers$Work" "answer" "I", Cond.fieldLink RX4 33 "HouseWorkers$StreamWork" "stepsDone" "I", Cond.sameField "HouseWorkers$StreamWork" "HouseWorkers$Work" "stepsDone" "I", Cond.methodLink RX4 21 yX3_find, Cond.instanceMethod yX3_find, Cond.selects RX3 yX3_find yX3_find, Cond.code yX3_find cX3_find 2 (some (.object "HouseWorkers$Cells")), Cond.fieldLink RX3 10 "HouseWorkers$Store" "start" "LHouseWorkers$Cells;", Cond.classLink RX3 7 "HouseWorkers$Cells", Cond.methodLink RX3 30 yJx4a65c_get_915e3, Cond.methodLink RX4 28 yX0_sum, Cond.instanceMethod yX0_sum, Cond.selects RX0 yX0_sum yX0_sum, Cond.code yX0_sum cX0_sum 3 (some .int), Cond.selects RX6 ⟨"HouseWorkers$Work", "goOn", "(LHouseWorkers$Store;)I"⟩ yX6_goOn, Cond.instanceMethod yX6_goOn, Cond.code yX6_goOn cX6_goOn 2 (some .int), Cond.fieldLink RX6 14 "HouseWorkers$WriterWork" "draft" "LHouseWorkers$Cells;", Cond.fieldLink RX6 45 "HouseWorkers$WriterWork" "version" "I", Cond.sameField "HouseWorkers$WriterWork" "HouseWorkers$Work" "version" "I"]
def wsX7_giveTurn_r11 : List Cond := [Cond.fieldLink RX6 20 "HouseWorkers$WriterWork" "first" "I", Cond.fieldLink RX6 48 "HouseWorkers$WriterWork" "stepsDone" "I", Cond.sameField "HouseWorkers$WriterWork" "HouseWorkers$Work" "stepsDone" "I", Cond.fieldLink RX6 24 "HouseWorkers$WriterWork" "by" "I", Cond.methodLink RX6 31 yX3_latest, Cond.methodLink RX6 37 yX0_addAll, Cond.instanceMethod yX0_addAll, Cond.selects RX0 yX0_addAll yX0_addAll, Cond.code yX0_addAll cX0_addAll 3 none, Cond.methodLink RX6 41 yX3_commit, Cond.methodLink RX6 51 yX0_add, Cond.instanceMethod yX0_add, Cond.selects RX0 yX0_add yX0_add, Cond.code yX0_add cX0_add 3 none, Cond.methodLink RX7 109 yX7_endWork, Cond.instanceMethod yX7_endWork, Cond.selects RX7 yX7_endWork yX7_endWork, Cond.code yX7_endWork cX7_endWork 3 none, Cond.fieldLink RX7 117 "HouseWorkers$Work" "end" "I", Cond.fieldLink RX7 136 "HouseWorkers$Work" "turnsAtEnd" "I", Cond.fieldLink RX7 23 "HouseWorkers" "ends" "Ljava/util/ArrayList;", Cond.methodLink RX7 59 yJx4a65c_add_9ea2d]
def wsX7_giveTurn : List Cond := .code yX7_giveTurn cX7_giveTurn 3 (some .int) :: ((wsX7_giveTurn_r1 ++ (wsX7_giveTurn_r2 ++ (wsX7_giveTurn_r3 ++ (wsX7_giveTurn_r4 ++ (wsX7_giveTurn_r5 ++ (wsX7_giveTurn_r6 ++ (wsX7_giveTurn_r7 ++ (wsX7_giveTurn_r8 ++ (wsX7_giveTurn_r9 ++ (wsX7_giveTurn_r10 ++ wsX7_giveTurn_r11)))))))))) ++ wsX70 ++ wsX10 ++ wsX20 ++ wsX40 ++ wsX60 ++ wsJx4a65c0 ++ wsX30 ++ wsX00)
def wsX7_turn_r1 : List Cond := [Cond.methodLink RX7 78 yX7_find, Cond.instanceMethod yX7_find, Cond.selects RX7 yX7_find yX7_find, Cond.initialized RX7, Cond.code yX7_find cX7_find 2 (some (.object "HouseWorkers$Work")), Cond.fieldLink RX7 19 "HouseWorkers" "works" "Ljava/util/ArrayList;", Cond.classLink RX7 91 "HouseWorkers$Work", Cond.methodLink RX7 102 yJx4a65c_size_8abf5, Cond.instanceMethod yJx4a65c_size_8abf5, Cond.selects RJx4a65c yJx4a65c_size_8abf5 yJx4a65c_size_8abf5, Cond.initialized RJx4a65c, Cond.code yJx4a65c_size_8abf5 cJx4a65c_size_8abf5 1 (some .int), Cond.fieldLink RJx4a65c 48 "java/util/ArrayList" "size" "I", Cond.methodLink RX7 105 yJx4a65c_get_915e3, Cond.instanceMethod yJx4a65c_get_915e3, Cond.selects RJx4a65c yJx4a65c_get_915e3 yJx4a65c_get_915e3, Cond.code yJx4a65c_get_915e3 cJx4a65c_get_915e3 2 (some (.object "java/lang/Object")), Cond.methodLink RJx4a65c 118 yJ15_checkIndex_7cf53, Cond.static yJ15_checkIndex_7cf53, Cond.initialized RJ15, Cond.code yJ15_checkIndex_7cf53 cJ15_checkIndex_7cf53 2 (some .int), Cond.methodLink RJ15 105 yJ3_checkIndex_8e157, Cond.static yJ3_checkIndex_8e157, Cond.initialized RJ3]
def wsX7_turn_r2 : List Cond := [Cond.code yJ3_checkIndex_8e157 cJ3_checkIndex_8e157 3 (some .int), Cond.methodLink RJx4a65c 123 yJx4a65c_elementData_915e3, Cond.instanceMethod yJx4a65c_elementData_915e3, Cond.selects RJx4a65c yJx4a65c_elementData_915e3 yJx4a65c_elementData_915e3, Cond.code yJx4a65c_elementData_915e3 cJx4a65c_elementData_915e3 2 (some (.object "java/lang/Object")), Cond.fieldLink RJx4a65c 9 "java/util/ArrayList" "elementData" "[Ljava/lang/Object;", Cond.methodLink RX7 82 yX7_giveTurn, Cond.instanceMethod yX7_giveTurn, Cond.selects RX7 yX7_giveTurn yX7_giveTurn, Cond.code yX7_giveTurn cX7_giveTurn 3 (some .int), Cond.fieldLink RX7 158 "HouseWorkers" "turnsThatWaited" "I", Cond.fieldLink RX7 155 "HouseWorkers" "turnsThatDid" "I", Cond.methodLink RX7 90 ⟨"HouseWorkers$Work", "hasEnded", "()Z"⟩, Cond.sameMethod "HouseWorkers$Work" "HouseWorkers$Work" "hasEnded" "()Z", Cond.selects RX1 ⟨"HouseWorkers$Work", "hasEnded", "()Z"⟩ yX5_hasEnded, Cond.instanceMethod yX5_hasEnded, Cond.initialized RX5, Cond.code yX5_hasEnded cX5_hasEnded 1 (some .boolean), Cond.fieldLink RX5 18 "HouseWorkers$Work" "end" "I", Cond.selects RX2 ⟨"HouseWorkers$Work", "hasEnded", "()Z"⟩ yX5_hasEnded, Cond.selects RX4 ⟨"HouseWorkers$Work", "hasEnded", "()Z"⟩ yX5_hasEnded, Cond.selects RX6 ⟨"HouseWorkers$Work", "hasEnded", "()Z"⟩ yX5_hasEnded, Cond.methodLink RX7 129 yX7_standsStill, Cond.instanceMethod yX7_standsStill]
def wsX7_turn_r3 : List Cond := [Cond.selects RX7 yX7_standsStill yX7_standsStill, Cond.code yX7_standsStill cX7_standsStill 2 (some .boolean), Cond.fieldLink RX7 95 "HouseWorkers$Work" "toBeCancelled" "Z", Cond.fieldLink RX7 12 "HouseWorkers" "store" "LHouseWorkers$Store;", Cond.methodLink RX7 171 yX7_hasNobodyBefore, Cond.instanceMethod yX7_hasNobodyBefore, Cond.selects RX7 yX7_hasNobodyBefore yX7_hasNobodyBefore, Cond.code yX7_hasNobodyBefore cX7_hasNobodyBefore 4 (some .boolean), Cond.fieldLink RX7 133 "HouseWorkers$Work" "number" "I", Cond.methodLink RX7 178 ⟨"HouseWorkers$Work", "commits", "()Z"⟩, Cond.sameMethod "HouseWorkers$Work" "HouseWorkers$Work" "commits" "()Z", Cond.selects RX1 ⟨"HouseWorkers$Work", "commits", "()Z"⟩ yX5_commits, Cond.instanceMethod yX5_commits, Cond.code yX5_commits cX5_commits 1 (some .boolean), Cond.fieldLink RX5 24 "HouseWorkers$Work" "kind" "I", Cond.selects RX2 ⟨"HouseWorkers$Work", "commits", "()Z"⟩ yX5_commits, Cond.selects RX4 ⟨"HouseWorkers$Work", "commits", "()Z"⟩ yX5_commits, Cond.selects RX6 ⟨"HouseWorkers$Work", "commits", "()Z"⟩ yX5_commits, Cond.methodLink RX7 174 ⟨"HouseWorkers$Work", "waits", "(LHouseWorkers$Store;Z)Z"⟩, Cond.sameMethod "HouseWorkers$Work" "HouseWorkers$Work" "waits" "(LHouseWorkers$Store;Z)Z", Cond.selects RX1 ⟨"HouseWorkers$Work", "waits", "(LHouseWorkers$Store;Z)Z"⟩ yX1_waits, Cond.instanceMethod yX1_waits, Cond.initialized RX1, Cond.code yX1_waits cX1_waits 3 (some .boolean)]
def wsX7_turn_r4 : List Cond := [Cond.selects RX2 ⟨"HouseWorkers$Work", "waits", "(LHouseWorkers$Store;Z)Z"⟩ yX2_waits, Cond.instanceMethod yX2_waits, Cond.initialized RX2, Cond.code yX2_waits cX2_waits 3 (some .boolean), Cond.fieldLink RX2 20 "HouseWorkers$ReasoningWork" "stepsDone" "I", Cond.sameField "HouseWorkers$ReasoningWork" "HouseWorkers$Work" "stepsDone" "I", Cond.selects RX4 ⟨"HouseWorkers$Work", "waits", "(LHouseWorkers$Store;Z)Z"⟩ yX4_waits, Cond.instanceMethod yX4_waits, Cond.initialized RX4, Cond.code yX4_waits cX4_waits 3 (some .boolean), Cond.fieldLink RX4 15 "HouseWorkers$StreamWork" "version" "I", Cond.sameField "HouseWorkers$StreamWork" "HouseWorkers$Work" "version" "I", Cond.methodLink RX4 9 yX3_latestNumber, Cond.instanceMethod yX3_latestNumber, Cond.selects RX3 yX3_latestNumber yX3_latestNumber, Cond.initialized RX3, Cond.code yX3_latestNumber cX3_latestNumber 1 (some .int), Cond.fieldLink RX3 19 "HouseWorkers$Store" "committed" "Ljava/util/ArrayList;", Cond.methodLink RX3 26 yJx4a65c_size_8abf5, Cond.selects RX6 ⟨"HouseWorkers$Work", "waits", "(LHouseWorkers$Store;Z)Z"⟩ yX6_waits, Cond.instanceMethod yX6_waits, Cond.initialized RX6, Cond.code yX6_waits cX6_waits 3 (some .boolean), Cond.methodLink RX6 27 ⟨"HouseWorkers$WriterWork", "hasDoneAllSteps", "()Z"⟩]
def wsX7_turn_r5 : List Cond := [Cond.sameMethod "HouseWorkers$WriterWork" "HouseWorkers$Work" "hasDoneAllSteps" "()Z", Cond.selects RX6 ⟨"HouseWorkers$WriterWork", "hasDoneAllSteps", "()Z"⟩ yX5_hasDoneAllSteps, Cond.instanceMethod yX5_hasDoneAllSteps, Cond.code yX5_hasDoneAllSteps cX5_hasDoneAllSteps 1 (some .boolean), Cond.fieldLink RX5 33 "HouseWorkers$Work" "stepsDone" "I", Cond.fieldLink RX5 27 "HouseWorkers$Work" "steps" "I", Cond.methodLink RX7 161 yX7_act, Cond.instanceMethod yX7_act, Cond.selects RX7 yX7_act yX7_act, Cond.code yX7_act cX7_act 2 (some .int), Cond.methodLink RX7 164 ⟨"HouseWorkers$Work", "failsNow", "()Z"⟩, Cond.sameMethod "HouseWorkers$Work" "HouseWorkers$Work" "failsNow" "()Z", Cond.selects RX1 ⟨"HouseWorkers$Work", "failsNow", "()Z"⟩ yX5_failsNow, Cond.instanceMethod yX5_failsNow, Cond.code yX5_failsNow cX5_failsNow 1 (some .boolean), Cond.fieldLink RX5 30 "HouseWorkers$Work" "failsAt" "I", Cond.methodLink RX5 36 ⟨"HouseWorkers$Work", "hasDoneAllSteps", "()Z"⟩, Cond.sameMethod "HouseWorkers$Work" "HouseWorkers$Work" "hasDoneAllSteps" "()Z", Cond.selects RX1 ⟨"HouseWorkers$Work", "hasDoneAllSteps", "()Z"⟩ yX5_hasDoneAllSteps, Cond.selects RX2 ⟨"HouseWorkers$Work", "hasDoneAllSteps", "()Z"⟩ yX5_hasDoneAllSteps, Cond.selects RX4 ⟨"HouseWorkers$Work", "hasDoneAllSteps", "()Z"⟩ yX5_hasDoneAllSteps, Cond.selects RX6 ⟨"HouseWorkers$Work", "hasDoneAllSteps", "()Z"⟩ yX5_hasDoneAllSteps, Cond.selects RX2 ⟨"HouseWorkers$Work", "failsNow", "()Z"⟩ yX5_failsNow, Cond.selects RX4 ⟨"HouseWorkers$Work", "failsNow", "()Z"⟩ yX5_failsNow]
def wsX7_turn_r6 : List Cond := [Cond.selects RX6 ⟨"HouseWorkers$Work", "failsNow", "()Z"⟩ yX5_failsNow, Cond.methodLink RX7 167 ⟨"HouseWorkers$Work", "goOn", "(LHouseWorkers$Store;)I"⟩, Cond.sameMethod "HouseWorkers$Work" "HouseWorkers$Work" "goOn" "(LHouseWorkers$Store;)I", Cond.selects RX1 ⟨"HouseWorkers$Work", "goOn", "(LHouseWorkers$Store;)I"⟩ yX1_goOn, Cond.instanceMethod yX1_goOn, Cond.code yX1_goOn cX1_goOn 2 (some .int), Cond.fieldLink RX1 35 "HouseWorkers$QuestionWork" "answer" "I", Cond.sameField "HouseWorkers$QuestionWork" "HouseWorkers$Work" "answer" "I", Cond.fieldLink RX1 21 "HouseWorkers$QuestionWork" "read" "LHouseWorkers$Cells;", Cond.fieldLink RX1 9 "HouseWorkers$QuestionWork" "first" "I", Cond.fieldLink RX1 38 "HouseWorkers$QuestionWork" "stepsDone" "I", Cond.sameField "HouseWorkers$QuestionWork" "HouseWorkers$Work" "stepsDone" "I", Cond.methodLink RX1 41 yX0_at, Cond.instanceMethod yX0_at, Cond.selects RX0 yX0_at yX0_at, Cond.initialized RX0, Cond.code yX0_at cX0_at 2 (some .int), Cond.fieldLink RX0 9 "HouseWorkers$Cells" "row" "[I", Cond.methodLink RX1 47 ⟨"HouseWorkers$QuestionWork", "hasDoneAllSteps", "()Z"⟩, Cond.sameMethod "HouseWorkers$QuestionWork" "HouseWorkers$Work" "hasDoneAllSteps" "()Z", Cond.selects RX1 ⟨"HouseWorkers$QuestionWork", "hasDoneAllSteps", "()Z"⟩ yX5_hasDoneAllSteps, Cond.selects RX2 ⟨"HouseWorkers$Work", "goOn", "(LHouseWorkers$Store;)I"⟩ yX2_goOn, Cond.instanceMethod yX2_goOn, Cond.code yX2_goOn cX2_goOn 2 (some .int)]
def wsX7_turn_r7 : List Cond := [Cond.fieldLink RX2 14 "HouseWorkers$ReasoningWork" "cells" "LHouseWorkers$Cells;", Cond.fieldLink RX2 34 "HouseWorkers$ReasoningWork" "version" "I", Cond.sameField "HouseWorkers$ReasoningWork" "HouseWorkers$Work" "version" "I", Cond.fieldLink RX2 49 "HouseWorkers$ReasoningWork" "pinned" "I", Cond.sameField "HouseWorkers$ReasoningWork" "HouseWorkers$Work" "pinned" "I", Cond.methodLink RX2 24 ⟨"HouseWorkers$ReasoningWork", "hasDoneAllSteps", "()Z"⟩, Cond.sameMethod "HouseWorkers$ReasoningWork" "HouseWorkers$Work" "hasDoneAllSteps" "()Z", Cond.selects RX2 ⟨"HouseWorkers$ReasoningWork", "hasDoneAllSteps", "()Z"⟩ yX5_hasDoneAllSteps, Cond.methodLink RX2 28 yX3_commit, Cond.instanceMethod yX3_commit, Cond.selects RX3 yX3_commit yX3_commit, Cond.code yX3_commit cX3_commit 2 (some .int), Cond.fieldLink RX3 23 "HouseWorkers$Store" "latest" "LHouseWorkers$Cells;", Cond.methodLink RX3 34 yJx4a65c_add_9ea2d, Cond.instanceMethod yJx4a65c_add_9ea2d, Cond.selects RJx4a65c yJx4a65c_add_9ea2d yJx4a65c_add_9ea2d, Cond.code yJx4a65c_add_9ea2d cJx4a65c_add_9ea2d 2 (some .boolean), Cond.fieldLink RJx4a65c 63 "java/util/ArrayList" "modCount" "I", Cond.sameField "java/util/ArrayList" "java/util/AbstractList" "modCount" "I", Cond.methodLink RJx4a65c 131 yJx4a65c_add_72be8, Cond.instanceMethod yJx4a65c_add_72be8, Cond.selects RJx4a65c yJx4a65c_add_72be8 yJx4a65c_add_72be8, Cond.code yJx4a65c_add_72be8 cJx4a65c_add_72be8 4 none, Cond.methodLink RJx4a65c 129 yJx4a65c_grow_d5877]
def wsX7_turn_r8 : List Cond := [Cond.instanceMethod yJx4a65c_grow_d5877, Cond.selects RJx4a65c yJx4a65c_grow_d5877 yJx4a65c_grow_d5877, Cond.code yJx4a65c_grow_d5877 cJx4a65c_grow_d5877 1 (some (.array (.object "java/lang/Object"))), Cond.methodLink RJx4a65c 69 yJx4a65c_grow_92f84, Cond.instanceMethod yJx4a65c_grow_92f84, Cond.selects RJx4a65c yJx4a65c_grow_92f84 yJx4a65c_grow_92f84, Cond.code yJx4a65c_grow_92f84 cJx4a65c_grow_92f84 4 (some (.array (.object "java/lang/Object"))), Cond.fieldLink RJx4a65c 39 "java/util/ArrayList" "DEFAULTCAPACITY_EMPTY_ELEMENTDATA" "[Ljava/lang/Object;", Cond.methodLink RJx4a65c 79 Lib.Math.max.name, Cond.static Lib.Math.max.name, Cond.initialized "java/lang/Math", Cond.code Lib.Math.max.name Lib.Math.max.code 2 (some .int), Cond.classLink RJx4a65c 7 "java/lang/Object", Cond.methodLink RJx4a65c 73 yJ8_newLength_cabcc, Cond.static yJ8_newLength_cabcc, Cond.initialized RJ8, Cond.code yJ8_newLength_cabcc cJ8_newLength_cabcc 4 (some .int), Cond.methodLink RJ8 194 Lib.Math.max.name, Cond.constant RJ8 200 (2147483639), Cond.methodLink RJ8 201 yJ8_hugeLength_7cf53, Cond.static yJ8_hugeLength_7cf53, Cond.code yJ8_hugeLength_7cf53 cJ8_hugeLength_7cf53 3 (some .int), Cond.methodLink RJx4a65c 66 yJ7_copyOf_1904c, Cond.static yJ7_copyOf_1904c]
def wsX7_turn_r9 : List Cond := [Cond.initialized RJ7, Cond.code yJ7_copyOf_1904c cJ7_copyOf_1904c 2 (some (.array (.object "java/lang/Object"))), Cond.methodLink RJ7 86 ⟨"java/lang/Object", "getClass", "()Ljava/lang/Class;"⟩, Cond.selects "[Ljava/lang/Object;" ⟨"java/lang/Object", "getClass", "()Ljava/lang/Class;"⟩ ⟨"java/lang/Object", "getClass", "()Ljava/lang/Class;"⟩, Cond.instanceMethod ⟨"java/lang/Object", "getClass", "()Ljava/lang/Class;"⟩, Cond.native ⟨"java/lang/Object", "getClass", "()Ljava/lang/Class;"⟩, Cond.methodLink RJ7 300 yJ7_copyOf_6403c, Cond.static yJ7_copyOf_6403c, Cond.code yJ7_copyOf_6403c cJ7_copyOf_6403c 4 (some (.array (.object "java/lang/Object"))), Cond.classLink RJ7 110 "[Ljava/lang/Object;", Cond.classLink RJ7 2 "java/lang/Object", Cond.methodLink RJ7 304 Lib.Math.min.name, Cond.static Lib.Math.min.name, Cond.code Lib.Math.min.name Lib.Math.min.code 2 (some .int), Cond.methodLink RJ7 150 arraycopyName, Cond.native arraycopyName, Cond.static arraycopyName, Cond.initialized "java/lang/System", Cond.methodLink RX2 37 yX3_latest, Cond.instanceMethod yX3_latest, Cond.selects RX3 yX3_latest yX3_latest, Cond.code yX3_latest cX3_latest 1 (some (.object "HouseWorkers$Cells")), Cond.methodLink RX2 41 yX0_takeAll, Cond.instanceMethod yX0_takeAll]
def wsX7_turn_r10 : List Cond := [Cond.selects RX0 yX0_takeAll yX0_takeAll, Cond.code yX0_takeAll cX0_takeAll 3 none, Cond.methodLink RX2 45 yX3_latestNumber, Cond.methodLink RX2 52 yX0_spread, Cond.instanceMethod yX0_spread, Cond.selects RX0 yX0_spread yX0_spread, Cond.code yX0_spread cX0_spread 4 none, Cond.methodLink RX0 15 Lib.Math.max.name, Cond.selects RX4 ⟨"HouseWorkers$Work", "goOn", "(LHouseWorkers$Store;)I"⟩ yX4_goOn, Cond.instanceMethod yX4_goOn, Cond.code yX4_goOn cX4_goOn 3 (some .int), Cond.fieldLink RX4 25 "HouseWorkers$StreamWork" "answer" "I", Cond.sameField "HouseWorkers$StreamWork" "HouseWorkers$Work" "answer" "I", Cond.fieldLink RX4 33 "HouseWorkers$StreamWork" "stepsDone" "I", Cond.sameField "HouseWorkers$StreamWork" "HouseWorkers$Work" "stepsDone" "I", Cond.methodLink RX4 21 yX3_find, Cond.instanceMethod yX3_find, Cond.selects RX3 yX3_find yX3_find, Cond.code yX3_find cX3_find 2 (some (.object "HouseWorkers$Cells")), Cond.fieldLink RX3 10 "HouseWorkers$Store" "start" "LHouseWorkers$Cells;", Cond.classLink RX3 7 "HouseWorkers$Cells", Cond.methodLink RX3 30 yJx4a65c_get_915e3, Cond.methodLink RX4 28 yX0_sum, Cond.instanceMethod yX0_sum]
def wsX7_turn_r11 : List Cond := [Cond.selects RX0 yX0_sum yX0_sum, Cond.code yX0_sum cX0_sum 3 (some .int), Cond.selects RX6 ⟨"HouseWorkers$Work", "goOn", "(LHouseWorkers$Store;)I"⟩ yX6_goOn, Cond.instanceMethod yX6_goOn, Cond.code yX6_goOn cX6_goOn 2 (some .int), Cond.fieldLink RX6 14 "HouseWorkers$WriterWork" "draft" "LHouseWorkers$Cells;", Cond.fieldLink RX6 45 "HouseWorkers$WriterWork" "version" "I", Cond.sameField "HouseWorkers$WriterWork" "HouseWorkers$Work" "version" "I", Cond.fieldLink RX6 20 "HouseWorkers$WriterWork" "first" "I", Cond.fieldLink RX6 48 "HouseWorkers$WriterWork" "stepsDone" "I", Cond.sameField "HouseWorkers$WriterWork" "HouseWorkers$Work" "stepsDone" "I", Cond.fieldLink RX6 24 "HouseWorkers$WriterWork" "by" "I", Cond.methodLink RX6 31 yX3_latest, Cond.methodLink RX6 37 yX0_addAll, Cond.instanceMethod yX0_addAll, Cond.selects RX0 yX0_addAll yX0_addAll, Cond.code yX0_addAll cX0_addAll 3 none, Cond.methodLink RX6 41 yX3_commit, Cond.methodLink RX6 51 yX0_add, Cond.instanceMethod yX0_add, Cond.selects RX0 yX0_add yX0_add, Cond.code yX0_add cX0_add 3 none, Cond.methodLink RX7 109 yX7_endWork, Cond.instanceMethod yX7_endWork]
def wsX7_turn_r12 : List Cond := [Cond.selects RX7 yX7_endWork yX7_endWork, Cond.code yX7_endWork cX7_endWork 3 none, Cond.fieldLink RX7 117 "HouseWorkers$Work" "end" "I", Cond.fieldLink RX7 136 "HouseWorkers$Work" "turnsAtEnd" "I", Cond.fieldLink RX7 23 "HouseWorkers" "ends" "Ljava/util/ArrayList;", Cond.methodLink RX7 59 yJx4a65c_add_9ea2d]
def wsX7_turn : List Cond := .code yX7_turn cX7_turn 3 (some .int) :: ((wsX7_turn_r1 ++ (wsX7_turn_r2 ++ (wsX7_turn_r3 ++ (wsX7_turn_r4 ++ (wsX7_turn_r5 ++ (wsX7_turn_r6 ++ (wsX7_turn_r7 ++ (wsX7_turn_r8 ++ (wsX7_turn_r9 ++ (wsX7_turn_r10 ++ (wsX7_turn_r11 ++ wsX7_turn_r12))))))))))) ++ wsX70 ++ wsJx4a65c0 ++ wsX10 ++ wsX20 ++ wsX40 ++ wsX60 ++ wsX30 ++ wsX00)
def wsX7_giveRow_r1 : List Cond := [Cond.fieldLink RX7 19 "HouseWorkers" "works" "Ljava/util/ArrayList;", Cond.classLink RX7 91 "HouseWorkers$Work", Cond.methodLink RX7 102 yJx4a65c_size_8abf5, Cond.instanceMethod yJx4a65c_size_8abf5, Cond.selects RJx4a65c yJx4a65c_size_8abf5 yJx4a65c_size_8abf5, Cond.initialized RJx4a65c, Cond.code yJx4a65c_size_8abf5 cJx4a65c_size_8abf5 1 (some .int), Cond.fieldLink RJx4a65c 48 "java/util/ArrayList" "size" "I", Cond.methodLink RX7 105 yJx4a65c_get_915e3, Cond.instanceMethod yJx4a65c_get_915e3, Cond.selects RJx4a65c yJx4a65c_get_915e3 yJx4a65c_get_915e3, Cond.code yJx4a65c_get_915e3 cJx4a65c_get_915e3 2 (some (.object "java/lang/Object")), Cond.methodLink RJx4a65c 118 yJ15_checkIndex_7cf53, Cond.static yJ15_checkIndex_7cf53, Cond.initialized RJ15, Cond.code yJ15_checkIndex_7cf53 cJ15_checkIndex_7cf53 2 (some .int), Cond.methodLink RJ15 105 yJ3_checkIndex_8e157, Cond.static yJ3_checkIndex_8e157, Cond.initialized RJ3, Cond.code yJ3_checkIndex_8e157 cJ3_checkIndex_8e157 3 (some .int), Cond.methodLink RJx4a65c 123 yJx4a65c_elementData_915e3, Cond.instanceMethod yJx4a65c_elementData_915e3, Cond.selects RJx4a65c yJx4a65c_elementData_915e3 yJx4a65c_elementData_915e3, Cond.code yJx4a65c_elementData_915e3 cJx4a65c_elementData_915e3 2 (some (.object "java/lang/Object"))]
def wsX7_giveRow_r2 : List Cond := [Cond.fieldLink RJx4a65c 9 "java/util/ArrayList" "elementData" "[Ljava/lang/Object;", Cond.methodLink RX7 82 yX7_giveTurn, Cond.instanceMethod yX7_giveTurn, Cond.selects RX7 yX7_giveTurn yX7_giveTurn, Cond.initialized RX7, Cond.code yX7_giveTurn cX7_giveTurn 3 (some .int), Cond.fieldLink RX7 158 "HouseWorkers" "turnsThatWaited" "I", Cond.fieldLink RX7 155 "HouseWorkers" "turnsThatDid" "I", Cond.methodLink RX7 90 ⟨"HouseWorkers$Work", "hasEnded", "()Z"⟩, Cond.sameMethod "HouseWorkers$Work" "HouseWorkers$Work" "hasEnded" "()Z", Cond.selects RX1 ⟨"HouseWorkers$Work", "hasEnded", "()Z"⟩ yX5_hasEnded, Cond.instanceMethod yX5_hasEnded, Cond.initialized RX5, Cond.code yX5_hasEnded cX5_hasEnded 1 (some .boolean), Cond.fieldLink RX5 18 "HouseWorkers$Work" "end" "I", Cond.selects RX2 ⟨"HouseWorkers$Work", "hasEnded", "()Z"⟩ yX5_hasEnded, Cond.selects RX4 ⟨"HouseWorkers$Work", "hasEnded", "()Z"⟩ yX5_hasEnded, Cond.selects RX6 ⟨"HouseWorkers$Work", "hasEnded", "()Z"⟩ yX5_hasEnded, Cond.methodLink RX7 129 yX7_standsStill, Cond.instanceMethod yX7_standsStill, Cond.selects RX7 yX7_standsStill yX7_standsStill, Cond.code yX7_standsStill cX7_standsStill 2 (some .boolean), Cond.fieldLink RX7 95 "HouseWorkers$Work" "toBeCancelled" "Z", Cond.fieldLink RX7 12 "HouseWorkers" "store" "LHouseWorkers$Store;"]
def wsX7_giveRow_r3 : List Cond := [Cond.methodLink RX7 171 yX7_hasNobodyBefore, Cond.instanceMethod yX7_hasNobodyBefore, Cond.selects RX7 yX7_hasNobodyBefore yX7_hasNobodyBefore, Cond.code yX7_hasNobodyBefore cX7_hasNobodyBefore 4 (some .boolean), Cond.fieldLink RX7 133 "HouseWorkers$Work" "number" "I", Cond.methodLink RX7 178 ⟨"HouseWorkers$Work", "commits", "()Z"⟩, Cond.sameMethod "HouseWorkers$Work" "HouseWorkers$Work" "commits" "()Z", Cond.selects RX1 ⟨"HouseWorkers$Work", "commits", "()Z"⟩ yX5_commits, Cond.instanceMethod yX5_commits, Cond.code yX5_commits cX5_commits 1 (some .boolean), Cond.fieldLink RX5 24 "HouseWorkers$Work" "kind" "I", Cond.selects RX2 ⟨"HouseWorkers$Work", "commits", "()Z"⟩ yX5_commits, Cond.selects RX4 ⟨"HouseWorkers$Work", "commits", "()Z"⟩ yX5_commits, Cond.selects RX6 ⟨"HouseWorkers$Work", "commits", "()Z"⟩ yX5_commits, Cond.methodLink RX7 174 ⟨"HouseWorkers$Work", "waits", "(LHouseWorkers$Store;Z)Z"⟩, Cond.sameMethod "HouseWorkers$Work" "HouseWorkers$Work" "waits" "(LHouseWorkers$Store;Z)Z", Cond.selects RX1 ⟨"HouseWorkers$Work", "waits", "(LHouseWorkers$Store;Z)Z"⟩ yX1_waits, Cond.instanceMethod yX1_waits, Cond.initialized RX1, Cond.code yX1_waits cX1_waits 3 (some .boolean), Cond.selects RX2 ⟨"HouseWorkers$Work", "waits", "(LHouseWorkers$Store;Z)Z"⟩ yX2_waits, Cond.instanceMethod yX2_waits, Cond.initialized RX2, Cond.code yX2_waits cX2_waits 3 (some .boolean)]
def wsX7_giveRow_r4 : List Cond := [Cond.fieldLink RX2 20 "HouseWorkers$ReasoningWork" "stepsDone" "I", Cond.sameField "HouseWorkers$ReasoningWork" "HouseWorkers$Work" "stepsDone" "I", Cond.selects RX4 ⟨"HouseWorkers$Work", "waits", "(LHouseWorkers$Store;Z)Z"⟩ yX4_waits, Cond.instanceMethod yX4_waits, Cond.initialized RX4, Cond.code yX4_waits cX4_waits 3 (some .boolean), Cond.fieldLink RX4 15 "HouseWorkers$StreamWork" "version" "I", Cond.sameField "HouseWorkers$StreamWork" "HouseWorkers$Work" "version" "I", Cond.methodLink RX4 9 yX3_latestNumber, Cond.instanceMethod yX3_latestNumber, Cond.selects RX3 yX3_latestNumber yX3_latestNumber, Cond.initialized RX3, Cond.code yX3_latestNumber cX3_latestNumber 1 (some .int), Cond.fieldLink RX3 19 "HouseWorkers$Store" "committed" "Ljava/util/ArrayList;", Cond.methodLink RX3 26 yJx4a65c_size_8abf5, Cond.selects RX6 ⟨"HouseWorkers$Work", "waits", "(LHouseWorkers$Store;Z)Z"⟩ yX6_waits, Cond.instanceMethod yX6_waits, Cond.initialized RX6, Cond.code yX6_waits cX6_waits 3 (some .boolean), Cond.methodLink RX6 27 ⟨"HouseWorkers$WriterWork", "hasDoneAllSteps", "()Z"⟩, Cond.sameMethod "HouseWorkers$WriterWork" "HouseWorkers$Work" "hasDoneAllSteps" "()Z", Cond.selects RX6 ⟨"HouseWorkers$WriterWork", "hasDoneAllSteps", "()Z"⟩ yX5_hasDoneAllSteps, Cond.instanceMethod yX5_hasDoneAllSteps, Cond.code yX5_hasDoneAllSteps cX5_hasDoneAllSteps 1 (some .boolean)]
def wsX7_giveRow_r5 : List Cond := [Cond.fieldLink RX5 33 "HouseWorkers$Work" "stepsDone" "I", Cond.fieldLink RX5 27 "HouseWorkers$Work" "steps" "I", Cond.methodLink RX7 161 yX7_act, Cond.instanceMethod yX7_act, Cond.selects RX7 yX7_act yX7_act, Cond.code yX7_act cX7_act 2 (some .int), Cond.methodLink RX7 164 ⟨"HouseWorkers$Work", "failsNow", "()Z"⟩, Cond.sameMethod "HouseWorkers$Work" "HouseWorkers$Work" "failsNow" "()Z", Cond.selects RX1 ⟨"HouseWorkers$Work", "failsNow", "()Z"⟩ yX5_failsNow, Cond.instanceMethod yX5_failsNow, Cond.code yX5_failsNow cX5_failsNow 1 (some .boolean), Cond.fieldLink RX5 30 "HouseWorkers$Work" "failsAt" "I", Cond.methodLink RX5 36 ⟨"HouseWorkers$Work", "hasDoneAllSteps", "()Z"⟩, Cond.sameMethod "HouseWorkers$Work" "HouseWorkers$Work" "hasDoneAllSteps" "()Z", Cond.selects RX1 ⟨"HouseWorkers$Work", "hasDoneAllSteps", "()Z"⟩ yX5_hasDoneAllSteps, Cond.selects RX2 ⟨"HouseWorkers$Work", "hasDoneAllSteps", "()Z"⟩ yX5_hasDoneAllSteps, Cond.selects RX4 ⟨"HouseWorkers$Work", "hasDoneAllSteps", "()Z"⟩ yX5_hasDoneAllSteps, Cond.selects RX6 ⟨"HouseWorkers$Work", "hasDoneAllSteps", "()Z"⟩ yX5_hasDoneAllSteps, Cond.selects RX2 ⟨"HouseWorkers$Work", "failsNow", "()Z"⟩ yX5_failsNow, Cond.selects RX4 ⟨"HouseWorkers$Work", "failsNow", "()Z"⟩ yX5_failsNow, Cond.selects RX6 ⟨"HouseWorkers$Work", "failsNow", "()Z"⟩ yX5_failsNow, Cond.methodLink RX7 167 ⟨"HouseWorkers$Work", "goOn", "(LHouseWorkers$Store;)I"⟩, Cond.sameMethod "HouseWorkers$Work" "HouseWorkers$Work" "goOn" "(LHouseWorkers$Store;)I", Cond.selects RX1 ⟨"HouseWorkers$Work", "goOn", "(LHouseWorkers$Store;)I"⟩ yX1_goOn]
def wsX7_giveRow_r6 : List Cond := [Cond.instanceMethod yX1_goOn, Cond.code yX1_goOn cX1_goOn 2 (some .int), Cond.fieldLink RX1 35 "HouseWorkers$QuestionWork" "answer" "I", Cond.sameField "HouseWorkers$QuestionWork" "HouseWorkers$Work" "answer" "I", Cond.fieldLink RX1 21 "HouseWorkers$QuestionWork" "read" "LHouseWorkers$Cells;", Cond.fieldLink RX1 9 "HouseWorkers$QuestionWork" "first" "I", Cond.fieldLink RX1 38 "HouseWorkers$QuestionWork" "stepsDone" "I", Cond.sameField "HouseWorkers$QuestionWork" "HouseWorkers$Work" "stepsDone" "I", Cond.methodLink RX1 41 yX0_at, Cond.instanceMethod yX0_at, Cond.selects RX0 yX0_at yX0_at, Cond.initialized RX0, Cond.code yX0_at cX0_at 2 (some .int), Cond.fieldLink RX0 9 "HouseWorkers$Cells" "row" "[I", Cond.methodLink RX1 47 ⟨"HouseWorkers$QuestionWork", "hasDoneAllSteps", "()Z"⟩, Cond.sameMethod "HouseWorkers$QuestionWork" "HouseWorkers$Work" "hasDoneAllSteps" "()Z", Cond.selects RX1 ⟨"HouseWorkers$QuestionWork", "hasDoneAllSteps", "()Z"⟩ yX5_hasDoneAllSteps, Cond.selects RX2 ⟨"HouseWorkers$Work", "goOn", "(LHouseWorkers$Store;)I"⟩ yX2_goOn, Cond.instanceMethod yX2_goOn, Cond.code yX2_goOn cX2_goOn 2 (some .int), Cond.fieldLink RX2 14 "HouseWorkers$ReasoningWork" "cells" "LHouseWorkers$Cells;", Cond.fieldLink RX2 34 "HouseWorkers$ReasoningWork" "version" "I", Cond.sameField "HouseWorkers$ReasoningWork" "HouseWorkers$Work" "version" "I", Cond.fieldLink RX2 49 "HouseWorkers$ReasoningWork" "pinned" "I"]
def wsX7_giveRow_r7 : List Cond := [Cond.sameField "HouseWorkers$ReasoningWork" "HouseWorkers$Work" "pinned" "I", Cond.methodLink RX2 24 ⟨"HouseWorkers$ReasoningWork", "hasDoneAllSteps", "()Z"⟩, Cond.sameMethod "HouseWorkers$ReasoningWork" "HouseWorkers$Work" "hasDoneAllSteps" "()Z", Cond.selects RX2 ⟨"HouseWorkers$ReasoningWork", "hasDoneAllSteps", "()Z"⟩ yX5_hasDoneAllSteps, Cond.methodLink RX2 28 yX3_commit, Cond.instanceMethod yX3_commit, Cond.selects RX3 yX3_commit yX3_commit, Cond.code yX3_commit cX3_commit 2 (some .int), Cond.fieldLink RX3 23 "HouseWorkers$Store" "latest" "LHouseWorkers$Cells;", Cond.methodLink RX3 34 yJx4a65c_add_9ea2d, Cond.instanceMethod yJx4a65c_add_9ea2d, Cond.selects RJx4a65c yJx4a65c_add_9ea2d yJx4a65c_add_9ea2d, Cond.code yJx4a65c_add_9ea2d cJx4a65c_add_9ea2d 2 (some .boolean), Cond.fieldLink RJx4a65c 63 "java/util/ArrayList" "modCount" "I", Cond.sameField "java/util/ArrayList" "java/util/AbstractList" "modCount" "I", Cond.methodLink RJx4a65c 131 yJx4a65c_add_72be8, Cond.instanceMethod yJx4a65c_add_72be8, Cond.selects RJx4a65c yJx4a65c_add_72be8 yJx4a65c_add_72be8, Cond.code yJx4a65c_add_72be8 cJx4a65c_add_72be8 4 none, Cond.methodLink RJx4a65c 129 yJx4a65c_grow_d5877, Cond.instanceMethod yJx4a65c_grow_d5877, Cond.selects RJx4a65c yJx4a65c_grow_d5877 yJx4a65c_grow_d5877, Cond.code yJx4a65c_grow_d5877 cJx4a65c_grow_d5877 1 (some (.array (.object "java/lang/Object"))), Cond.methodLink RJx4a65c 69 yJx4a65c_grow_92f84]
def wsX7_giveRow_r8 : List Cond := [Cond.instanceMethod yJx4a65c_grow_92f84, Cond.selects RJx4a65c yJx4a65c_grow_92f84 yJx4a65c_grow_92f84, Cond.code yJx4a65c_grow_92f84 cJx4a65c_grow_92f84 4 (some (.array (.object "java/lang/Object"))), Cond.fieldLink RJx4a65c 39 "java/util/ArrayList" "DEFAULTCAPACITY_EMPTY_ELEMENTDATA" "[Ljava/lang/Object;", Cond.methodLink RJx4a65c 79 Lib.Math.max.name, Cond.static Lib.Math.max.name, Cond.initialized "java/lang/Math", Cond.code Lib.Math.max.name Lib.Math.max.code 2 (some .int), Cond.classLink RJx4a65c 7 "java/lang/Object", Cond.methodLink RJx4a65c 73 yJ8_newLength_cabcc, Cond.static yJ8_newLength_cabcc, Cond.initialized RJ8, Cond.code yJ8_newLength_cabcc cJ8_newLength_cabcc 4 (some .int), Cond.methodLink RJ8 194 Lib.Math.max.name, Cond.constant RJ8 200 (2147483639), Cond.methodLink RJ8 201 yJ8_hugeLength_7cf53, Cond.static yJ8_hugeLength_7cf53, Cond.code yJ8_hugeLength_7cf53 cJ8_hugeLength_7cf53 3 (some .int), Cond.methodLink RJx4a65c 66 yJ7_copyOf_1904c, Cond.static yJ7_copyOf_1904c, Cond.initialized RJ7, Cond.code yJ7_copyOf_1904c cJ7_copyOf_1904c 2 (some (.array (.object "java/lang/Object"))), Cond.methodLink RJ7 86 ⟨"java/lang/Object", "getClass", "()Ljava/lang/Class;"⟩, Cond.selects "[Ljava/lang/Object;" ⟨"java/lang/Object", "getClass", "()Ljava/lang/Class;"⟩ ⟨"java/lang/Object", "getClass", "()Ljava/lang/Class;"⟩]
def wsX7_giveRow_r9 : List Cond := [Cond.instanceMethod ⟨"java/lang/Object", "getClass", "()Ljava/lang/Class;"⟩, Cond.native ⟨"java/lang/Object", "getClass", "()Ljava/lang/Class;"⟩, Cond.methodLink RJ7 300 yJ7_copyOf_6403c, Cond.static yJ7_copyOf_6403c, Cond.code yJ7_copyOf_6403c cJ7_copyOf_6403c 4 (some (.array (.object "java/lang/Object"))), Cond.classLink RJ7 110 "[Ljava/lang/Object;", Cond.classLink RJ7 2 "java/lang/Object", Cond.methodLink RJ7 304 Lib.Math.min.name, Cond.static Lib.Math.min.name, Cond.code Lib.Math.min.name Lib.Math.min.code 2 (some .int), Cond.methodLink RJ7 150 arraycopyName, Cond.native arraycopyName, Cond.static arraycopyName, Cond.initialized "java/lang/System", Cond.methodLink RX2 37 yX3_latest, Cond.instanceMethod yX3_latest, Cond.selects RX3 yX3_latest yX3_latest, Cond.code yX3_latest cX3_latest 1 (some (.object "HouseWorkers$Cells")), Cond.methodLink RX2 41 yX0_takeAll, Cond.instanceMethod yX0_takeAll, Cond.selects RX0 yX0_takeAll yX0_takeAll, Cond.code yX0_takeAll cX0_takeAll 3 none, Cond.methodLink RX2 45 yX3_latestNumber, Cond.methodLink RX2 52 yX0_spread]
def wsX7_giveRow_r10 : List Cond := [Cond.instanceMethod yX0_spread, Cond.selects RX0 yX0_spread yX0_spread, Cond.code yX0_spread cX0_spread 4 none, Cond.methodLink RX0 15 Lib.Math.max.name, Cond.selects RX4 ⟨"HouseWorkers$Work", "goOn", "(LHouseWorkers$Store;)I"⟩ yX4_goOn, Cond.instanceMethod yX4_goOn, Cond.code yX4_goOn cX4_goOn 3 (some .int), Cond.fieldLink RX4 25 "HouseWorkers$StreamWork" "answer" "I", Cond.sameField "HouseWorkers$StreamWork" "HouseWorkers$Work" "answer" "I", Cond.fieldLink RX4 33 "HouseWorkers$StreamWork" "stepsDone" "I", Cond.sameField "HouseWorkers$StreamWork" "HouseWorkers$Work" "stepsDone" "I", Cond.methodLink RX4 21 yX3_find, Cond.instanceMethod yX3_find, Cond.selects RX3 yX3_find yX3_find, Cond.code yX3_find cX3_find 2 (some (.object "HouseWorkers$Cells")), Cond.fieldLink RX3 10 "HouseWorkers$Store" "start" "LHouseWorkers$Cells;", Cond.classLink RX3 7 "HouseWorkers$Cells", Cond.methodLink RX3 30 yJx4a65c_get_915e3, Cond.methodLink RX4 28 yX0_sum, Cond.instanceMethod yX0_sum, Cond.selects RX0 yX0_sum yX0_sum, Cond.code yX0_sum cX0_sum 3 (some .int), Cond.selects RX6 ⟨"HouseWorkers$Work", "goOn", "(LHouseWorkers$Store;)I"⟩ yX6_goOn, Cond.instanceMethod yX6_goOn]
def wsX7_giveRow_r11 : List Cond := [Cond.code yX6_goOn cX6_goOn 2 (some .int), Cond.fieldLink RX6 14 "HouseWorkers$WriterWork" "draft" "LHouseWorkers$Cells;", Cond.fieldLink RX6 45 "HouseWorkers$WriterWork" "version" "I", Cond.sameField "HouseWorkers$WriterWork" "HouseWorkers$Work" "version" "I", Cond.fieldLink RX6 20 "HouseWorkers$WriterWork" "first" "I", Cond.fieldLink RX6 48 "HouseWorkers$WriterWork" "stepsDone" "I", Cond.sameField "HouseWorkers$WriterWork" "HouseWorkers$Work" "stepsDone" "I", Cond.fieldLink RX6 24 "HouseWorkers$WriterWork" "by" "I", Cond.methodLink RX6 31 yX3_latest, Cond.methodLink RX6 37 yX0_addAll, Cond.instanceMethod yX0_addAll, Cond.selects RX0 yX0_addAll yX0_addAll, Cond.code yX0_addAll cX0_addAll 3 none, Cond.methodLink RX6 41 yX3_commit, Cond.methodLink RX6 51 yX0_add, Cond.instanceMethod yX0_add, Cond.selects RX0 yX0_add yX0_add, Cond.code yX0_add cX0_add 3 none, Cond.methodLink RX7 109 yX7_endWork, Cond.instanceMethod yX7_endWork, Cond.selects RX7 yX7_endWork yX7_endWork, Cond.code yX7_endWork cX7_endWork 3 none, Cond.fieldLink RX7 117 "HouseWorkers$Work" "end" "I", Cond.fieldLink RX7 136 "HouseWorkers$Work" "turnsAtEnd" "I"]
def wsX7_giveRow_r12 : List Cond := [Cond.fieldLink RX7 23 "HouseWorkers" "ends" "Ljava/util/ArrayList;", Cond.methodLink RX7 59 yJx4a65c_add_9ea2d]
def wsX7_giveRow : List Cond := .code yX7_giveRow cX7_giveRow 4 (some .int) :: ((wsX7_giveRow_r1 ++ (wsX7_giveRow_r2 ++ (wsX7_giveRow_r3 ++ (wsX7_giveRow_r4 ++ (wsX7_giveRow_r5 ++ (wsX7_giveRow_r6 ++ (wsX7_giveRow_r7 ++ (wsX7_giveRow_r8 ++ (wsX7_giveRow_r9 ++ (wsX7_giveRow_r10 ++ (wsX7_giveRow_r11 ++ wsX7_giveRow_r12))))))))))) ++ wsX70 ++ wsJx4a65c0 ++ wsX10 ++ wsX20 ++ wsX40 ++ wsX60 ++ wsX30 ++ wsX00)
def wsX7_run_r1 : List Cond := [Cond.methodLink RX7 86 yX7_giveRow, Cond.instanceMethod yX7_giveRow, Cond.selects RX7 yX7_giveRow yX7_giveRow, Cond.initialized RX7, Cond.code yX7_giveRow cX7_giveRow 4 (some .int), Cond.fieldLink RX7 19 "HouseWorkers" "works" "Ljava/util/ArrayList;", Cond.classLink RX7 91 "HouseWorkers$Work", Cond.methodLink RX7 102 yJx4a65c_size_8abf5, Cond.instanceMethod yJx4a65c_size_8abf5, Cond.selects RJx4a65c yJx4a65c_size_8abf5 yJx4a65c_size_8abf5, Cond.initialized RJx4a65c, Cond.code yJx4a65c_size_8abf5 cJx4a65c_size_8abf5 1 (some .int), Cond.fieldLink RJx4a65c 48 "java/util/ArrayList" "size" "I", Cond.methodLink RX7 105 yJx4a65c_get_915e3, Cond.instanceMethod yJx4a65c_get_915e3, Cond.selects RJx4a65c yJx4a65c_get_915e3 yJx4a65c_get_915e3, Cond.code yJx4a65c_get_915e3 cJx4a65c_get_915e3 2 (some (.object "java/lang/Object")), Cond.methodLink RJx4a65c 118 yJ15_checkIndex_7cf53, Cond.static yJ15_checkIndex_7cf53, Cond.initialized RJ15, Cond.code yJ15_checkIndex_7cf53 cJ15_checkIndex_7cf53 2 (some .int), Cond.methodLink RJ15 105 yJ3_checkIndex_8e157, Cond.static yJ3_checkIndex_8e157, Cond.initialized RJ3]
def wsX7_run_r2 : List Cond := [Cond.code yJ3_checkIndex_8e157 cJ3_checkIndex_8e157 3 (some .int), Cond.methodLink RJx4a65c 123 yJx4a65c_elementData_915e3, Cond.instanceMethod yJx4a65c_elementData_915e3, Cond.selects RJx4a65c yJx4a65c_elementData_915e3 yJx4a65c_elementData_915e3, Cond.code yJx4a65c_elementData_915e3 cJx4a65c_elementData_915e3 2 (some (.object "java/lang/Object")), Cond.fieldLink RJx4a65c 9 "java/util/ArrayList" "elementData" "[Ljava/lang/Object;", Cond.methodLink RX7 82 yX7_giveTurn, Cond.instanceMethod yX7_giveTurn, Cond.selects RX7 yX7_giveTurn yX7_giveTurn, Cond.code yX7_giveTurn cX7_giveTurn 3 (some .int), Cond.fieldLink RX7 158 "HouseWorkers" "turnsThatWaited" "I", Cond.fieldLink RX7 155 "HouseWorkers" "turnsThatDid" "I", Cond.methodLink RX7 90 ⟨"HouseWorkers$Work", "hasEnded", "()Z"⟩, Cond.sameMethod "HouseWorkers$Work" "HouseWorkers$Work" "hasEnded" "()Z", Cond.selects RX1 ⟨"HouseWorkers$Work", "hasEnded", "()Z"⟩ yX5_hasEnded, Cond.instanceMethod yX5_hasEnded, Cond.initialized RX5, Cond.code yX5_hasEnded cX5_hasEnded 1 (some .boolean), Cond.fieldLink RX5 18 "HouseWorkers$Work" "end" "I", Cond.selects RX2 ⟨"HouseWorkers$Work", "hasEnded", "()Z"⟩ yX5_hasEnded, Cond.selects RX4 ⟨"HouseWorkers$Work", "hasEnded", "()Z"⟩ yX5_hasEnded, Cond.selects RX6 ⟨"HouseWorkers$Work", "hasEnded", "()Z"⟩ yX5_hasEnded, Cond.methodLink RX7 129 yX7_standsStill, Cond.instanceMethod yX7_standsStill]
def wsX7_run_r3 : List Cond := [Cond.selects RX7 yX7_standsStill yX7_standsStill, Cond.code yX7_standsStill cX7_standsStill 2 (some .boolean), Cond.fieldLink RX7 95 "HouseWorkers$Work" "toBeCancelled" "Z", Cond.fieldLink RX7 12 "HouseWorkers" "store" "LHouseWorkers$Store;", Cond.methodLink RX7 171 yX7_hasNobodyBefore, Cond.instanceMethod yX7_hasNobodyBefore, Cond.selects RX7 yX7_hasNobodyBefore yX7_hasNobodyBefore, Cond.code yX7_hasNobodyBefore cX7_hasNobodyBefore 4 (some .boolean), Cond.fieldLink RX7 133 "HouseWorkers$Work" "number" "I", Cond.methodLink RX7 178 ⟨"HouseWorkers$Work", "commits", "()Z"⟩, Cond.sameMethod "HouseWorkers$Work" "HouseWorkers$Work" "commits" "()Z", Cond.selects RX1 ⟨"HouseWorkers$Work", "commits", "()Z"⟩ yX5_commits, Cond.instanceMethod yX5_commits, Cond.code yX5_commits cX5_commits 1 (some .boolean), Cond.fieldLink RX5 24 "HouseWorkers$Work" "kind" "I", Cond.selects RX2 ⟨"HouseWorkers$Work", "commits", "()Z"⟩ yX5_commits, Cond.selects RX4 ⟨"HouseWorkers$Work", "commits", "()Z"⟩ yX5_commits, Cond.selects RX6 ⟨"HouseWorkers$Work", "commits", "()Z"⟩ yX5_commits, Cond.methodLink RX7 174 ⟨"HouseWorkers$Work", "waits", "(LHouseWorkers$Store;Z)Z"⟩, Cond.sameMethod "HouseWorkers$Work" "HouseWorkers$Work" "waits" "(LHouseWorkers$Store;Z)Z", Cond.selects RX1 ⟨"HouseWorkers$Work", "waits", "(LHouseWorkers$Store;Z)Z"⟩ yX1_waits, Cond.instanceMethod yX1_waits, Cond.initialized RX1, Cond.code yX1_waits cX1_waits 3 (some .boolean)]
def wsX7_run_r4 : List Cond := [Cond.selects RX2 ⟨"HouseWorkers$Work", "waits", "(LHouseWorkers$Store;Z)Z"⟩ yX2_waits, Cond.instanceMethod yX2_waits, Cond.initialized RX2, Cond.code yX2_waits cX2_waits 3 (some .boolean), Cond.fieldLink RX2 20 "HouseWorkers$ReasoningWork" "stepsDone" "I", Cond.sameField "HouseWorkers$ReasoningWork" "HouseWorkers$Work" "stepsDone" "I", Cond.selects RX4 ⟨"HouseWorkers$Work", "waits", "(LHouseWorkers$Store;Z)Z"⟩ yX4_waits, Cond.instanceMethod yX4_waits, Cond.initialized RX4, Cond.code yX4_waits cX4_waits 3 (some .boolean), Cond.fieldLink RX4 15 "HouseWorkers$StreamWork" "version" "I", Cond.sameField "HouseWorkers$StreamWork" "HouseWorkers$Work" "version" "I", Cond.methodLink RX4 9 yX3_latestNumber, Cond.instanceMethod yX3_latestNumber, Cond.selects RX3 yX3_latestNumber yX3_latestNumber, Cond.initialized RX3, Cond.code yX3_latestNumber cX3_latestNumber 1 (some .int), Cond.fieldLink RX3 19 "HouseWorkers$Store" "committed" "Ljava/util/ArrayList;", Cond.methodLink RX3 26 yJx4a65c_size_8abf5, Cond.selects RX6 ⟨"HouseWorkers$Work", "waits", "(LHouseWorkers$Store;Z)Z"⟩ yX6_waits, Cond.instanceMethod yX6_waits, Cond.initialized RX6, Cond.code yX6_waits cX6_waits 3 (some .boolean), Cond.methodLink RX6 27 ⟨"HouseWorkers$WriterWork", "hasDoneAllSteps", "()Z"⟩]
def wsX7_run_r5 : List Cond := [Cond.sameMethod "HouseWorkers$WriterWork" "HouseWorkers$Work" "hasDoneAllSteps" "()Z", Cond.selects RX6 ⟨"HouseWorkers$WriterWork", "hasDoneAllSteps", "()Z"⟩ yX5_hasDoneAllSteps, Cond.instanceMethod yX5_hasDoneAllSteps, Cond.code yX5_hasDoneAllSteps cX5_hasDoneAllSteps 1 (some .boolean), Cond.fieldLink RX5 33 "HouseWorkers$Work" "stepsDone" "I", Cond.fieldLink RX5 27 "HouseWorkers$Work" "steps" "I", Cond.methodLink RX7 161 yX7_act, Cond.instanceMethod yX7_act, Cond.selects RX7 yX7_act yX7_act, Cond.code yX7_act cX7_act 2 (some .int), Cond.methodLink RX7 164 ⟨"HouseWorkers$Work", "failsNow", "()Z"⟩, Cond.sameMethod "HouseWorkers$Work" "HouseWorkers$Work" "failsNow" "()Z", Cond.selects RX1 ⟨"HouseWorkers$Work", "failsNow", "()Z"⟩ yX5_failsNow, Cond.instanceMethod yX5_failsNow, Cond.code yX5_failsNow cX5_failsNow 1 (some .boolean), Cond.fieldLink RX5 30 "HouseWorkers$Work" "failsAt" "I", Cond.methodLink RX5 36 ⟨"HouseWorkers$Work", "hasDoneAllSteps", "()Z"⟩, Cond.sameMethod "HouseWorkers$Work" "HouseWorkers$Work" "hasDoneAllSteps" "()Z", Cond.selects RX1 ⟨"HouseWorkers$Work", "hasDoneAllSteps", "()Z"⟩ yX5_hasDoneAllSteps, Cond.selects RX2 ⟨"HouseWorkers$Work", "hasDoneAllSteps", "()Z"⟩ yX5_hasDoneAllSteps, Cond.selects RX4 ⟨"HouseWorkers$Work", "hasDoneAllSteps", "()Z"⟩ yX5_hasDoneAllSteps, Cond.selects RX6 ⟨"HouseWorkers$Work", "hasDoneAllSteps", "()Z"⟩ yX5_hasDoneAllSteps, Cond.selects RX2 ⟨"HouseWorkers$Work", "failsNow", "()Z"⟩ yX5_failsNow, Cond.selects RX4 ⟨"HouseWorkers$Work", "failsNow", "()Z"⟩ yX5_failsNow]
def wsX7_run_r6 : List Cond := [Cond.selects RX6 ⟨"HouseWorkers$Work", "failsNow", "()Z"⟩ yX5_failsNow, Cond.methodLink RX7 167 ⟨"HouseWorkers$Work", "goOn", "(LHouseWorkers$Store;)I"⟩, Cond.sameMethod "HouseWorkers$Work" "HouseWorkers$Work" "goOn" "(LHouseWorkers$Store;)I", Cond.selects RX1 ⟨"HouseWorkers$Work", "goOn", "(LHouseWorkers$Store;)I"⟩ yX1_goOn, Cond.instanceMethod yX1_goOn, Cond.code yX1_goOn cX1_goOn 2 (some .int), Cond.fieldLink RX1 35 "HouseWorkers$QuestionWork" "answer" "I", Cond.sameField "HouseWorkers$QuestionWork" "HouseWorkers$Work" "answer" "I", Cond.fieldLink RX1 21 "HouseWorkers$QuestionWork" "read" "LHouseWorkers$Cells;", Cond.fieldLink RX1 9 "HouseWorkers$QuestionWork" "first" "I", Cond.fieldLink RX1 38 "HouseWorkers$QuestionWork" "stepsDone" "I", Cond.sameField "HouseWorkers$QuestionWork" "HouseWorkers$Work" "stepsDone" "I", Cond.methodLink RX1 41 yX0_at, Cond.instanceMethod yX0_at, Cond.selects RX0 yX0_at yX0_at, Cond.initialized RX0, Cond.code yX0_at cX0_at 2 (some .int), Cond.fieldLink RX0 9 "HouseWorkers$Cells" "row" "[I", Cond.methodLink RX1 47 ⟨"HouseWorkers$QuestionWork", "hasDoneAllSteps", "()Z"⟩, Cond.sameMethod "HouseWorkers$QuestionWork" "HouseWorkers$Work" "hasDoneAllSteps" "()Z", Cond.selects RX1 ⟨"HouseWorkers$QuestionWork", "hasDoneAllSteps", "()Z"⟩ yX5_hasDoneAllSteps, Cond.selects RX2 ⟨"HouseWorkers$Work", "goOn", "(LHouseWorkers$Store;)I"⟩ yX2_goOn, Cond.instanceMethod yX2_goOn, Cond.code yX2_goOn cX2_goOn 2 (some .int)]
def wsX7_run_r7 : List Cond := [Cond.fieldLink RX2 14 "HouseWorkers$ReasoningWork" "cells" "LHouseWorkers$Cells;", Cond.fieldLink RX2 34 "HouseWorkers$ReasoningWork" "version" "I", Cond.sameField "HouseWorkers$ReasoningWork" "HouseWorkers$Work" "version" "I", Cond.fieldLink RX2 49 "HouseWorkers$ReasoningWork" "pinned" "I", Cond.sameField "HouseWorkers$ReasoningWork" "HouseWorkers$Work" "pinned" "I", Cond.methodLink RX2 24 ⟨"HouseWorkers$ReasoningWork", "hasDoneAllSteps", "()Z"⟩, Cond.sameMethod "HouseWorkers$ReasoningWork" "HouseWorkers$Work" "hasDoneAllSteps" "()Z", Cond.selects RX2 ⟨"HouseWorkers$ReasoningWork", "hasDoneAllSteps", "()Z"⟩ yX5_hasDoneAllSteps, Cond.methodLink RX2 28 yX3_commit, Cond.instanceMethod yX3_commit, Cond.selects RX3 yX3_commit yX3_commit, Cond.code yX3_commit cX3_commit 2 (some .int), Cond.fieldLink RX3 23 "HouseWorkers$Store" "latest" "LHouseWorkers$Cells;", Cond.methodLink RX3 34 yJx4a65c_add_9ea2d, Cond.instanceMethod yJx4a65c_add_9ea2d, Cond.selects RJx4a65c yJx4a65c_add_9ea2d yJx4a65c_add_9ea2d, Cond.code yJx4a65c_add_9ea2d cJx4a65c_add_9ea2d 2 (some .boolean), Cond.fieldLink RJx4a65c 63 "java/util/ArrayList" "modCount" "I", Cond.sameField "java/util/ArrayList" "java/util/AbstractList" "modCount" "I", Cond.methodLink RJx4a65c 131 yJx4a65c_add_72be8, Cond.instanceMethod yJx4a65c_add_72be8, Cond.selects RJx4a65c yJx4a65c_add_72be8 yJx4a65c_add_72be8, Cond.code yJx4a65c_add_72be8 cJx4a65c_add_72be8 4 none, Cond.methodLink RJx4a65c 129 yJx4a65c_grow_d5877]
def wsX7_run_r8 : List Cond := [Cond.instanceMethod yJx4a65c_grow_d5877, Cond.selects RJx4a65c yJx4a65c_grow_d5877 yJx4a65c_grow_d5877, Cond.code yJx4a65c_grow_d5877 cJx4a65c_grow_d5877 1 (some (.array (.object "java/lang/Object"))), Cond.methodLink RJx4a65c 69 yJx4a65c_grow_92f84, Cond.instanceMethod yJx4a65c_grow_92f84, Cond.selects RJx4a65c yJx4a65c_grow_92f84 yJx4a65c_grow_92f84, Cond.code yJx4a65c_grow_92f84 cJx4a65c_grow_92f84 4 (some (.array (.object "java/lang/Object"))), Cond.fieldLink RJx4a65c 39 "java/util/ArrayList" "DEFAULTCAPACITY_EMPTY_ELEMENTDATA" "[Ljava/lang/Object;", Cond.methodLink RJx4a65c 79 Lib.Math.max.name, Cond.static Lib.Math.max.name, Cond.initialized "java/lang/Math", Cond.code Lib.Math.max.name Lib.Math.max.code 2 (some .int), Cond.classLink RJx4a65c 7 "java/lang/Object", Cond.methodLink RJx4a65c 73 yJ8_newLength_cabcc, Cond.static yJ8_newLength_cabcc, Cond.initialized RJ8, Cond.code yJ8_newLength_cabcc cJ8_newLength_cabcc 4 (some .int), Cond.methodLink RJ8 194 Lib.Math.max.name, Cond.constant RJ8 200 (2147483639), Cond.methodLink RJ8 201 yJ8_hugeLength_7cf53, Cond.static yJ8_hugeLength_7cf53, Cond.code yJ8_hugeLength_7cf53 cJ8_hugeLength_7cf53 3 (some .int), Cond.methodLink RJx4a65c 66 yJ7_copyOf_1904c, Cond.static yJ7_copyOf_1904c]
def wsX7_run_r9 : List Cond := [Cond.initialized RJ7, Cond.code yJ7_copyOf_1904c cJ7_copyOf_1904c 2 (some (.array (.object "java/lang/Object"))), Cond.methodLink RJ7 86 ⟨"java/lang/Object", "getClass", "()Ljava/lang/Class;"⟩, Cond.selects "[Ljava/lang/Object;" ⟨"java/lang/Object", "getClass", "()Ljava/lang/Class;"⟩ ⟨"java/lang/Object", "getClass", "()Ljava/lang/Class;"⟩, Cond.instanceMethod ⟨"java/lang/Object", "getClass", "()Ljava/lang/Class;"⟩, Cond.native ⟨"java/lang/Object", "getClass", "()Ljava/lang/Class;"⟩, Cond.methodLink RJ7 300 yJ7_copyOf_6403c, Cond.static yJ7_copyOf_6403c, Cond.code yJ7_copyOf_6403c cJ7_copyOf_6403c 4 (some (.array (.object "java/lang/Object"))), Cond.classLink RJ7 110 "[Ljava/lang/Object;", Cond.classLink RJ7 2 "java/lang/Object", Cond.methodLink RJ7 304 Lib.Math.min.name, Cond.static Lib.Math.min.name, Cond.code Lib.Math.min.name Lib.Math.min.code 2 (some .int), Cond.methodLink RJ7 150 arraycopyName, Cond.native arraycopyName, Cond.static arraycopyName, Cond.initialized "java/lang/System", Cond.methodLink RX2 37 yX3_latest, Cond.instanceMethod yX3_latest, Cond.selects RX3 yX3_latest yX3_latest, Cond.code yX3_latest cX3_latest 1 (some (.object "HouseWorkers$Cells")), Cond.methodLink RX2 41 yX0_takeAll, Cond.instanceMethod yX0_takeAll]
def wsX7_run_r10 : List Cond := [Cond.selects RX0 yX0_takeAll yX0_takeAll, Cond.code yX0_takeAll cX0_takeAll 3 none, Cond.methodLink RX2 45 yX3_latestNumber, Cond.methodLink RX2 52 yX0_spread, Cond.instanceMethod yX0_spread, Cond.selects RX0 yX0_spread yX0_spread, Cond.code yX0_spread cX0_spread 4 none, Cond.methodLink RX0 15 Lib.Math.max.name, Cond.selects RX4 ⟨"HouseWorkers$Work", "goOn", "(LHouseWorkers$Store;)I"⟩ yX4_goOn, Cond.instanceMethod yX4_goOn, Cond.code yX4_goOn cX4_goOn 3 (some .int), Cond.fieldLink RX4 25 "HouseWorkers$StreamWork" "answer" "I", Cond.sameField "HouseWorkers$StreamWork" "HouseWorkers$Work" "answer" "I", Cond.fieldLink RX4 33 "HouseWorkers$StreamWork" "stepsDone" "I", Cond.sameField "HouseWorkers$StreamWork" "HouseWorkers$Work" "stepsDone" "I", Cond.methodLink RX4 21 yX3_find, Cond.instanceMethod yX3_find, Cond.selects RX3 yX3_find yX3_find, Cond.code yX3_find cX3_find 2 (some (.object "HouseWorkers$Cells")), Cond.fieldLink RX3 10 "HouseWorkers$Store" "start" "LHouseWorkers$Cells;", Cond.classLink RX3 7 "HouseWorkers$Cells", Cond.methodLink RX3 30 yJx4a65c_get_915e3, Cond.methodLink RX4 28 yX0_sum, Cond.instanceMethod yX0_sum]
def wsX7_run_r11 : List Cond := [Cond.selects RX0 yX0_sum yX0_sum, Cond.code yX0_sum cX0_sum 3 (some .int), Cond.selects RX6 ⟨"HouseWorkers$Work", "goOn", "(LHouseWorkers$Store;)I"⟩ yX6_goOn, Cond.instanceMethod yX6_goOn, Cond.code yX6_goOn cX6_goOn 2 (some .int), Cond.fieldLink RX6 14 "HouseWorkers$WriterWork" "draft" "LHouseWorkers$Cells;", Cond.fieldLink RX6 45 "HouseWorkers$WriterWork" "version" "I", Cond.sameField "HouseWorkers$WriterWork" "HouseWorkers$Work" "version" "I", Cond.fieldLink RX6 20 "HouseWorkers$WriterWork" "first" "I", Cond.fieldLink RX6 48 "HouseWorkers$WriterWork" "stepsDone" "I", Cond.sameField "HouseWorkers$WriterWork" "HouseWorkers$Work" "stepsDone" "I", Cond.fieldLink RX6 24 "HouseWorkers$WriterWork" "by" "I", Cond.methodLink RX6 31 yX3_latest, Cond.methodLink RX6 37 yX0_addAll, Cond.instanceMethod yX0_addAll, Cond.selects RX0 yX0_addAll yX0_addAll, Cond.code yX0_addAll cX0_addAll 3 none, Cond.methodLink RX6 41 yX3_commit, Cond.methodLink RX6 51 yX0_add, Cond.instanceMethod yX0_add, Cond.selects RX0 yX0_add yX0_add, Cond.code yX0_add cX0_add 3 none, Cond.methodLink RX7 109 yX7_endWork, Cond.instanceMethod yX7_endWork]
def wsX7_run_r12 : List Cond := [Cond.selects RX7 yX7_endWork yX7_endWork, Cond.code yX7_endWork cX7_endWork 3 none, Cond.fieldLink RX7 117 "HouseWorkers$Work" "end" "I", Cond.fieldLink RX7 136 "HouseWorkers$Work" "turnsAtEnd" "I", Cond.fieldLink RX7 23 "HouseWorkers" "ends" "Ljava/util/ArrayList;", Cond.methodLink RX7 59 yJx4a65c_add_9ea2d]
def wsX7_run : List Cond := .code yX7_run cX7_run 5 (some .int) :: ((wsX7_run_r1 ++ (wsX7_run_r2 ++ (wsX7_run_r3 ++ (wsX7_run_r4 ++ (wsX7_run_r5 ++ (wsX7_run_r6 ++ (wsX7_run_r7 ++ (wsX7_run_r8 ++ (wsX7_run_r9 ++ (wsX7_run_r10 ++ (wsX7_run_r11 ++ wsX7_run_r12))))))))))) ++ wsX70 ++ wsJx4a65c0 ++ wsX10 ++ wsX20 ++ wsX40 ++ wsX60 ++ wsX30 ++ wsX00)
def wsX7_cancel_r1 : List Cond := [Cond.fieldLink RX7 95 "HouseWorkers$Work" "toBeCancelled" "Z", Cond.methodLink RX7 78 yX7_find, Cond.instanceMethod yX7_find, Cond.selects RX7 yX7_find yX7_find, Cond.initialized RX7, Cond.code yX7_find cX7_find 2 (some (.object "HouseWorkers$Work")), Cond.fieldLink RX7 19 "HouseWorkers" "works" "Ljava/util/ArrayList;", Cond.classLink RX7 91 "HouseWorkers$Work", Cond.methodLink RX7 102 yJx4a65c_size_8abf5, Cond.instanceMethod yJx4a65c_size_8abf5, Cond.selects RJx4a65c yJx4a65c_size_8abf5 yJx4a65c_size_8abf5, Cond.initialized RJx4a65c, Cond.code yJx4a65c_size_8abf5 cJx4a65c_size_8abf5 1 (some .int), Cond.fieldLink RJx4a65c 48 "java/util/ArrayList" "size" "I", Cond.methodLink RX7 105 yJx4a65c_get_915e3, Cond.instanceMethod yJx4a65c_get_915e3, Cond.selects RJx4a65c yJx4a65c_get_915e3 yJx4a65c_get_915e3, Cond.code yJx4a65c_get_915e3 cJx4a65c_get_915e3 2 (some (.object "java/lang/Object")), Cond.methodLink RJx4a65c 118 yJ15_checkIndex_7cf53, Cond.static yJ15_checkIndex_7cf53, Cond.initialized RJ15, Cond.code yJ15_checkIndex_7cf53 cJ15_checkIndex_7cf53 2 (some .int), Cond.methodLink RJ15 105 yJ3_checkIndex_8e157, Cond.static yJ3_checkIndex_8e157]
def wsX7_cancel_r2 : List Cond := [Cond.initialized RJ3, Cond.code yJ3_checkIndex_8e157 cJ3_checkIndex_8e157 3 (some .int), Cond.methodLink RJx4a65c 123 yJx4a65c_elementData_915e3, Cond.instanceMethod yJx4a65c_elementData_915e3, Cond.selects RJx4a65c yJx4a65c_elementData_915e3 yJx4a65c_elementData_915e3, Cond.code yJx4a65c_elementData_915e3 cJx4a65c_elementData_915e3 2 (some (.object "java/lang/Object")), Cond.fieldLink RJx4a65c 9 "java/util/ArrayList" "elementData" "[Ljava/lang/Object;", Cond.methodLink RX7 90 ⟨"HouseWorkers$Work", "hasEnded", "()Z"⟩, Cond.sameMethod "HouseWorkers$Work" "HouseWorkers$Work" "hasEnded" "()Z", Cond.selects RX1 ⟨"HouseWorkers$Work", "hasEnded", "()Z"⟩ yX5_hasEnded, Cond.instanceMethod yX5_hasEnded, Cond.initialized RX5, Cond.code yX5_hasEnded cX5_hasEnded 1 (some .boolean), Cond.fieldLink RX5 18 "HouseWorkers$Work" "end" "I", Cond.selects RX2 ⟨"HouseWorkers$Work", "hasEnded", "()Z"⟩ yX5_hasEnded, Cond.selects RX4 ⟨"HouseWorkers$Work", "hasEnded", "()Z"⟩ yX5_hasEnded, Cond.selects RX6 ⟨"HouseWorkers$Work", "hasEnded", "()Z"⟩ yX5_hasEnded]
def wsX7_cancel : List Cond := .code yX7_cancel cX7_cancel 3 (some .int) :: ((wsX7_cancel_r1 ++ wsX7_cancel_r2) ++ wsX10 ++ wsX20 ++ wsX40 ++ wsX60 ++ wsX70 ++ wsJx4a65c0)
def wsX7_close_r1 : List Cond := [Cond.fieldLink RX7 99 "HouseWorkers" "closed" "Z", Cond.fieldLink RX7 19 "HouseWorkers" "works" "Ljava/util/ArrayList;", Cond.classLink RX7 91 "HouseWorkers$Work", Cond.methodLink RX7 102 yJx4a65c_size_8abf5, Cond.instanceMethod yJx4a65c_size_8abf5, Cond.selects RJx4a65c yJx4a65c_size_8abf5 yJx4a65c_size_8abf5, Cond.initialized RJx4a65c, Cond.code yJx4a65c_size_8abf5 cJx4a65c_size_8abf5 1 (some .int), Cond.fieldLink RJx4a65c 48 "java/util/ArrayList" "size" "I", Cond.methodLink RX7 105 yJx4a65c_get_915e3, Cond.instanceMethod yJx4a65c_get_915e3, Cond.selects RJx4a65c yJx4a65c_get_915e3 yJx4a65c_get_915e3, Cond.code yJx4a65c_get_915e3 cJx4a65c_get_915e3 2 (some (.object "java/lang/Object")), Cond.methodLink RJx4a65c 118 yJ15_checkIndex_7cf53, Cond.static yJ15_checkIndex_7cf53, Cond.initialized RJ15, Cond.code yJ15_checkIndex_7cf53 cJ15_checkIndex_7cf53 2 (some .int), Cond.methodLink RJ15 105 yJ3_checkIndex_8e157, Cond.static yJ3_checkIndex_8e157, Cond.initialized RJ3, Cond.code yJ3_checkIndex_8e157 cJ3_checkIndex_8e157 3 (some .int), Cond.methodLink RJx4a65c 123 yJx4a65c_elementData_915e3, Cond.instanceMethod yJx4a65c_elementData_915e3, Cond.selects RJx4a65c yJx4a65c_elementData_915e3 yJx4a65c_elementData_915e3]
def wsX7_close_r2 : List Cond := [Cond.code yJx4a65c_elementData_915e3 cJx4a65c_elementData_915e3 2 (some (.object "java/lang/Object")), Cond.fieldLink RJx4a65c 9 "java/util/ArrayList" "elementData" "[Ljava/lang/Object;", Cond.methodLink RX7 90 ⟨"HouseWorkers$Work", "hasEnded", "()Z"⟩, Cond.sameMethod "HouseWorkers$Work" "HouseWorkers$Work" "hasEnded" "()Z", Cond.selects RX1 ⟨"HouseWorkers$Work", "hasEnded", "()Z"⟩ yX5_hasEnded, Cond.instanceMethod yX5_hasEnded, Cond.initialized RX5, Cond.code yX5_hasEnded cX5_hasEnded 1 (some .boolean), Cond.fieldLink RX5 18 "HouseWorkers$Work" "end" "I", Cond.selects RX2 ⟨"HouseWorkers$Work", "hasEnded", "()Z"⟩ yX5_hasEnded, Cond.selects RX4 ⟨"HouseWorkers$Work", "hasEnded", "()Z"⟩ yX5_hasEnded, Cond.selects RX6 ⟨"HouseWorkers$Work", "hasEnded", "()Z"⟩ yX5_hasEnded, Cond.methodLink RX7 109 yX7_endWork, Cond.instanceMethod yX7_endWork, Cond.selects RX7 yX7_endWork yX7_endWork, Cond.initialized RX7, Cond.code yX7_endWork cX7_endWork 3 none, Cond.fieldLink RX7 117 "HouseWorkers$Work" "end" "I", Cond.fieldLink RX7 155 "HouseWorkers" "turnsThatDid" "I", Cond.fieldLink RX7 136 "HouseWorkers$Work" "turnsAtEnd" "I", Cond.fieldLink RX7 23 "HouseWorkers" "ends" "Ljava/util/ArrayList;", Cond.methodLink RX7 59 yJx4a65c_add_9ea2d, Cond.instanceMethod yJx4a65c_add_9ea2d, Cond.selects RJx4a65c yJx4a65c_add_9ea2d yJx4a65c_add_9ea2d]
def wsX7_close_r3 : List Cond := [Cond.code yJx4a65c_add_9ea2d cJx4a65c_add_9ea2d 2 (some .boolean), Cond.fieldLink RJx4a65c 63 "java/util/ArrayList" "modCount" "I", Cond.sameField "java/util/ArrayList" "java/util/AbstractList" "modCount" "I", Cond.methodLink RJx4a65c 131 yJx4a65c_add_72be8, Cond.instanceMethod yJx4a65c_add_72be8, Cond.selects RJx4a65c yJx4a65c_add_72be8 yJx4a65c_add_72be8, Cond.code yJx4a65c_add_72be8 cJx4a65c_add_72be8 4 none, Cond.methodLink RJx4a65c 129 yJx4a65c_grow_d5877, Cond.instanceMethod yJx4a65c_grow_d5877, Cond.selects RJx4a65c yJx4a65c_grow_d5877 yJx4a65c_grow_d5877, Cond.code yJx4a65c_grow_d5877 cJx4a65c_grow_d5877 1 (some (.array (.object "java/lang/Object"))), Cond.methodLink RJx4a65c 69 yJx4a65c_grow_92f84, Cond.instanceMethod yJx4a65c_grow_92f84, Cond.selects RJx4a65c yJx4a65c_grow_92f84 yJx4a65c_grow_92f84, Cond.code yJx4a65c_grow_92f84 cJx4a65c_grow_92f84 4 (some (.array (.object "java/lang/Object"))), Cond.fieldLink RJx4a65c 39 "java/util/ArrayList" "DEFAULTCAPACITY_EMPTY_ELEMENTDATA" "[Ljava/lang/Object;", Cond.methodLink RJx4a65c 79 Lib.Math.max.name, Cond.static Lib.Math.max.name, Cond.initialized "java/lang/Math", Cond.code Lib.Math.max.name Lib.Math.max.code 2 (some .int), Cond.classLink RJx4a65c 7 "java/lang/Object", Cond.methodLink RJx4a65c 73 yJ8_newLength_cabcc, Cond.static yJ8_newLength_cabcc, Cond.initialized RJ8]
def wsX7_close_r4 : List Cond := [Cond.code yJ8_newLength_cabcc cJ8_newLength_cabcc 4 (some .int), Cond.methodLink RJ8 194 Lib.Math.max.name, Cond.constant RJ8 200 (2147483639), Cond.methodLink RJ8 201 yJ8_hugeLength_7cf53, Cond.static yJ8_hugeLength_7cf53, Cond.code yJ8_hugeLength_7cf53 cJ8_hugeLength_7cf53 3 (some .int), Cond.methodLink RJx4a65c 66 yJ7_copyOf_1904c, Cond.static yJ7_copyOf_1904c, Cond.initialized RJ7, Cond.code yJ7_copyOf_1904c cJ7_copyOf_1904c 2 (some (.array (.object "java/lang/Object"))), Cond.methodLink RJ7 86 ⟨"java/lang/Object", "getClass", "()Ljava/lang/Class;"⟩, Cond.selects "[Ljava/lang/Object;" ⟨"java/lang/Object", "getClass", "()Ljava/lang/Class;"⟩ ⟨"java/lang/Object", "getClass", "()Ljava/lang/Class;"⟩, Cond.instanceMethod ⟨"java/lang/Object", "getClass", "()Ljava/lang/Class;"⟩, Cond.native ⟨"java/lang/Object", "getClass", "()Ljava/lang/Class;"⟩, Cond.methodLink RJ7 300 yJ7_copyOf_6403c, Cond.static yJ7_copyOf_6403c, Cond.code yJ7_copyOf_6403c cJ7_copyOf_6403c 4 (some (.array (.object "java/lang/Object"))), Cond.classLink RJ7 110 "[Ljava/lang/Object;", Cond.classLink RJ7 2 "java/lang/Object", Cond.methodLink RJ7 304 Lib.Math.min.name, Cond.static Lib.Math.min.name, Cond.code Lib.Math.min.name Lib.Math.min.code 2 (some .int), Cond.methodLink RJ7 150 arraycopyName, Cond.native arraycopyName]
def wsX7_close_r5 : List Cond := [Cond.static arraycopyName, Cond.initialized "java/lang/System"]
def wsX7_close : List Cond := .code yX7_close cX7_close 4 (some .int) :: ((wsX7_close_r1 ++ (wsX7_close_r2 ++ (wsX7_close_r3 ++ (wsX7_close_r4 ++ wsX7_close_r5)))) ++ wsX70 ++ wsJx4a65c0 ++ wsX10 ++ wsX20 ++ wsX40 ++ wsX60)
def wsX7_told_r1 : List Cond := [Cond.fieldLink RX7 113 "HouseWorkers$Work" "kind" "I", Cond.fieldLink RX7 117 "HouseWorkers$Work" "end" "I", Cond.fieldLink RX7 120 "HouseWorkers$Work" "stepsDone" "I", Cond.fieldLink RX7 123 "HouseWorkers$Work" "answer" "I", Cond.fieldLink RX7 126 "HouseWorkers$Work" "version" "I", Cond.methodLink RX7 78 yX7_find, Cond.instanceMethod yX7_find, Cond.selects RX7 yX7_find yX7_find, Cond.initialized RX7, Cond.code yX7_find cX7_find 2 (some (.object "HouseWorkers$Work")), Cond.fieldLink RX7 19 "HouseWorkers" "works" "Ljava/util/ArrayList;", Cond.classLink RX7 91 "HouseWorkers$Work", Cond.methodLink RX7 102 yJx4a65c_size_8abf5, Cond.instanceMethod yJx4a65c_size_8abf5, Cond.selects RJx4a65c yJx4a65c_size_8abf5 yJx4a65c_size_8abf5, Cond.initialized RJx4a65c, Cond.code yJx4a65c_size_8abf5 cJx4a65c_size_8abf5 1 (some .int), Cond.fieldLink RJx4a65c 48 "java/util/ArrayList" "size" "I", Cond.methodLink RX7 105 yJx4a65c_get_915e3, Cond.instanceMethod yJx4a65c_get_915e3, Cond.selects RJx4a65c yJx4a65c_get_915e3 yJx4a65c_get_915e3, Cond.code yJx4a65c_get_915e3 cJx4a65c_get_915e3 2 (some (.object "java/lang/Object")), Cond.methodLink RJx4a65c 118 yJ15_checkIndex_7cf53, Cond.static yJ15_checkIndex_7cf53]
def wsX7_told_r2 : List Cond := [Cond.initialized RJ15, Cond.code yJ15_checkIndex_7cf53 cJ15_checkIndex_7cf53 2 (some .int), Cond.methodLink RJ15 105 yJ3_checkIndex_8e157, Cond.static yJ3_checkIndex_8e157, Cond.initialized RJ3, Cond.code yJ3_checkIndex_8e157 cJ3_checkIndex_8e157 3 (some .int), Cond.methodLink RJx4a65c 123 yJx4a65c_elementData_915e3, Cond.instanceMethod yJx4a65c_elementData_915e3, Cond.selects RJx4a65c yJx4a65c_elementData_915e3 yJx4a65c_elementData_915e3, Cond.code yJx4a65c_elementData_915e3 cJx4a65c_elementData_915e3 2 (some (.object "java/lang/Object")), Cond.fieldLink RJx4a65c 9 "java/util/ArrayList" "elementData" "[Ljava/lang/Object;", Cond.methodLink RX7 129 yX7_standsStill, Cond.instanceMethod yX7_standsStill, Cond.selects RX7 yX7_standsStill yX7_standsStill, Cond.code yX7_standsStill cX7_standsStill 2 (some .boolean), Cond.fieldLink RX7 95 "HouseWorkers$Work" "toBeCancelled" "Z", Cond.fieldLink RX7 12 "HouseWorkers" "store" "LHouseWorkers$Store;", Cond.methodLink RX7 90 ⟨"HouseWorkers$Work", "hasEnded", "()Z"⟩, Cond.sameMethod "HouseWorkers$Work" "HouseWorkers$Work" "hasEnded" "()Z", Cond.selects RX1 ⟨"HouseWorkers$Work", "hasEnded", "()Z"⟩ yX5_hasEnded, Cond.instanceMethod yX5_hasEnded, Cond.initialized RX5, Cond.code yX5_hasEnded cX5_hasEnded 1 (some .boolean), Cond.fieldLink RX5 18 "HouseWorkers$Work" "end" "I"]
def wsX7_told_r3 : List Cond := [Cond.selects RX2 ⟨"HouseWorkers$Work", "hasEnded", "()Z"⟩ yX5_hasEnded, Cond.selects RX4 ⟨"HouseWorkers$Work", "hasEnded", "()Z"⟩ yX5_hasEnded, Cond.selects RX6 ⟨"HouseWorkers$Work", "hasEnded", "()Z"⟩ yX5_hasEnded, Cond.methodLink RX7 171 yX7_hasNobodyBefore, Cond.instanceMethod yX7_hasNobodyBefore, Cond.selects RX7 yX7_hasNobodyBefore yX7_hasNobodyBefore, Cond.code yX7_hasNobodyBefore cX7_hasNobodyBefore 4 (some .boolean), Cond.fieldLink RX7 133 "HouseWorkers$Work" "number" "I", Cond.methodLink RX7 178 ⟨"HouseWorkers$Work", "commits", "()Z"⟩, Cond.sameMethod "HouseWorkers$Work" "HouseWorkers$Work" "commits" "()Z", Cond.selects RX1 ⟨"HouseWorkers$Work", "commits", "()Z"⟩ yX5_commits, Cond.instanceMethod yX5_commits, Cond.code yX5_commits cX5_commits 1 (some .boolean), Cond.fieldLink RX5 24 "HouseWorkers$Work" "kind" "I", Cond.selects RX2 ⟨"HouseWorkers$Work", "commits", "()Z"⟩ yX5_commits, Cond.selects RX4 ⟨"HouseWorkers$Work", "commits", "()Z"⟩ yX5_commits, Cond.selects RX6 ⟨"HouseWorkers$Work", "commits", "()Z"⟩ yX5_commits, Cond.methodLink RX7 174 ⟨"HouseWorkers$Work", "waits", "(LHouseWorkers$Store;Z)Z"⟩, Cond.sameMethod "HouseWorkers$Work" "HouseWorkers$Work" "waits" "(LHouseWorkers$Store;Z)Z", Cond.selects RX1 ⟨"HouseWorkers$Work", "waits", "(LHouseWorkers$Store;Z)Z"⟩ yX1_waits, Cond.instanceMethod yX1_waits, Cond.initialized RX1, Cond.code yX1_waits cX1_waits 3 (some .boolean), Cond.selects RX2 ⟨"HouseWorkers$Work", "waits", "(LHouseWorkers$Store;Z)Z"⟩ yX2_waits]
def wsX7_told_r4 : List Cond := [Cond.instanceMethod yX2_waits, Cond.initialized RX2, Cond.code yX2_waits cX2_waits 3 (some .boolean), Cond.fieldLink RX2 20 "HouseWorkers$ReasoningWork" "stepsDone" "I", Cond.sameField "HouseWorkers$ReasoningWork" "HouseWorkers$Work" "stepsDone" "I", Cond.selects RX4 ⟨"HouseWorkers$Work", "waits", "(LHouseWorkers$Store;Z)Z"⟩ yX4_waits, Cond.instanceMethod yX4_waits, Cond.initialized RX4, Cond.code yX4_waits cX4_waits 3 (some .boolean), Cond.fieldLink RX4 15 "HouseWorkers$StreamWork" "version" "I", Cond.sameField "HouseWorkers$StreamWork" "HouseWorkers$Work" "version" "I", Cond.methodLink RX4 9 yX3_latestNumber, Cond.instanceMethod yX3_latestNumber, Cond.selects RX3 yX3_latestNumber yX3_latestNumber, Cond.initialized RX3, Cond.code yX3_latestNumber cX3_latestNumber 1 (some .int), Cond.fieldLink RX3 19 "HouseWorkers$Store" "committed" "Ljava/util/ArrayList;", Cond.methodLink RX3 26 yJx4a65c_size_8abf5, Cond.selects RX6 ⟨"HouseWorkers$Work", "waits", "(LHouseWorkers$Store;Z)Z"⟩ yX6_waits, Cond.instanceMethod yX6_waits, Cond.initialized RX6, Cond.code yX6_waits cX6_waits 3 (some .boolean), Cond.methodLink RX6 27 ⟨"HouseWorkers$WriterWork", "hasDoneAllSteps", "()Z"⟩, Cond.sameMethod "HouseWorkers$WriterWork" "HouseWorkers$Work" "hasDoneAllSteps" "()Z"]
def wsX7_told_r5 : List Cond := [Cond.selects RX6 ⟨"HouseWorkers$WriterWork", "hasDoneAllSteps", "()Z"⟩ yX5_hasDoneAllSteps, Cond.instanceMethod yX5_hasDoneAllSteps, Cond.code yX5_hasDoneAllSteps cX5_hasDoneAllSteps 1 (some .boolean), Cond.fieldLink RX5 33 "HouseWorkers$Work" "stepsDone" "I", Cond.fieldLink RX5 27 "HouseWorkers$Work" "steps" "I"]
def wsX7_told : List Cond := .code yX7_told cX7_told 4 (some .int) :: ((wsX7_told_r1 ++ (wsX7_told_r2 ++ (wsX7_told_r3 ++ (wsX7_told_r4 ++ wsX7_told_r5)))) ++ wsX10 ++ wsX20 ++ wsX40 ++ wsX60 ++ wsX70 ++ wsJx4a65c0 ++ wsX30)
def wsX7_ended_r1 : List Cond := [Cond.fieldLink RX7 23 "HouseWorkers" "ends" "Ljava/util/ArrayList;", Cond.classLink RX7 91 "HouseWorkers$Work", Cond.fieldLink RX7 133 "HouseWorkers$Work" "number" "I", Cond.fieldLink RX7 117 "HouseWorkers$Work" "end" "I", Cond.fieldLink RX7 136 "HouseWorkers$Work" "turnsAtEnd" "I", Cond.methodLink RX7 102 yJx4a65c_size_8abf5, Cond.instanceMethod yJx4a65c_size_8abf5, Cond.selects RJx4a65c yJx4a65c_size_8abf5 yJx4a65c_size_8abf5, Cond.initialized RJx4a65c, Cond.code yJx4a65c_size_8abf5 cJx4a65c_size_8abf5 1 (some .int), Cond.fieldLink RJx4a65c 48 "java/util/ArrayList" "size" "I", Cond.methodLink RX7 105 yJx4a65c_get_915e3, Cond.instanceMethod yJx4a65c_get_915e3, Cond.selects RJx4a65c yJx4a65c_get_915e3 yJx4a65c_get_915e3, Cond.code yJx4a65c_get_915e3 cJx4a65c_get_915e3 2 (some (.object "java/lang/Object")), Cond.methodLink RJx4a65c 118 yJ15_checkIndex_7cf53, Cond.static yJ15_checkIndex_7cf53, Cond.initialized RJ15, Cond.code yJ15_checkIndex_7cf53 cJ15_checkIndex_7cf53 2 (some .int), Cond.methodLink RJ15 105 yJ3_checkIndex_8e157, Cond.static yJ3_checkIndex_8e157, Cond.initialized RJ3, Cond.code yJ3_checkIndex_8e157 cJ3_checkIndex_8e157 3 (some .int), Cond.methodLink RJx4a65c 123 yJx4a65c_elementData_915e3]
def wsX7_ended_r2 : List Cond := [Cond.instanceMethod yJx4a65c_elementData_915e3, Cond.selects RJx4a65c yJx4a65c_elementData_915e3 yJx4a65c_elementData_915e3, Cond.code yJx4a65c_elementData_915e3 cJx4a65c_elementData_915e3 2 (some (.object "java/lang/Object")), Cond.fieldLink RJx4a65c 9 "java/util/ArrayList" "elementData" "[Ljava/lang/Object;"]
def wsX7_ended : List Cond := .code yX7_ended cX7_ended 4 (some .int) :: ((wsX7_ended_r1 ++ wsX7_ended_r2) ++ wsX70 ++ wsX10 ++ wsX20 ++ wsX40 ++ wsX60 ++ wsJx4a65c0)
def wsX7_isPinned_r1 : List Cond := [Cond.fieldLink RX7 19 "HouseWorkers" "works" "Ljava/util/ArrayList;", Cond.classLink RX7 91 "HouseWorkers$Work", Cond.methodLink RX7 102 yJx4a65c_size_8abf5, Cond.instanceMethod yJx4a65c_size_8abf5, Cond.selects RJx4a65c yJx4a65c_size_8abf5 yJx4a65c_size_8abf5, Cond.initialized RJx4a65c, Cond.code yJx4a65c_size_8abf5 cJx4a65c_size_8abf5 1 (some .int), Cond.fieldLink RJx4a65c 48 "java/util/ArrayList" "size" "I", Cond.methodLink RX7 105 yJx4a65c_get_915e3, Cond.instanceMethod yJx4a65c_get_915e3, Cond.selects RJx4a65c yJx4a65c_get_915e3 yJx4a65c_get_915e3, Cond.code yJx4a65c_get_915e3 cJx4a65c_get_915e3 2 (some (.object "java/lang/Object")), Cond.methodLink RJx4a65c 118 yJ15_checkIndex_7cf53, Cond.static yJ15_checkIndex_7cf53, Cond.initialized RJ15, Cond.code yJ15_checkIndex_7cf53 cJ15_checkIndex_7cf53 2 (some .int), Cond.methodLink RJ15 105 yJ3_checkIndex_8e157, Cond.static yJ3_checkIndex_8e157, Cond.initialized RJ3, Cond.code yJ3_checkIndex_8e157 cJ3_checkIndex_8e157 3 (some .int), Cond.methodLink RJx4a65c 123 yJx4a65c_elementData_915e3, Cond.instanceMethod yJx4a65c_elementData_915e3, Cond.selects RJx4a65c yJx4a65c_elementData_915e3 yJx4a65c_elementData_915e3, Cond.code yJx4a65c_elementData_915e3 cJx4a65c_elementData_915e3 2 (some (.object "java/lang/Object"))]
def wsX7_isPinned_r2 : List Cond := [Cond.fieldLink RJx4a65c 9 "java/util/ArrayList" "elementData" "[Ljava/lang/Object;", Cond.methodLink RX7 190 ⟨"HouseWorkers$Work", "pins", "(I)Z"⟩, Cond.sameMethod "HouseWorkers$Work" "HouseWorkers$Work" "pins" "(I)Z", Cond.selects RX1 ⟨"HouseWorkers$Work", "pins", "(I)Z"⟩ yX5_pins, Cond.instanceMethod yX5_pins, Cond.initialized RX5, Cond.code yX5_pins cX5_pins 2 (some .boolean), Cond.fieldLink RX5 15 "HouseWorkers$Work" "pinned" "I", Cond.methodLink RX5 40 ⟨"HouseWorkers$Work", "hasEnded", "()Z"⟩, Cond.sameMethod "HouseWorkers$Work" "HouseWorkers$Work" "hasEnded" "()Z", Cond.selects RX1 ⟨"HouseWorkers$Work", "hasEnded", "()Z"⟩ yX5_hasEnded, Cond.instanceMethod yX5_hasEnded, Cond.code yX5_hasEnded cX5_hasEnded 1 (some .boolean), Cond.fieldLink RX5 18 "HouseWorkers$Work" "end" "I", Cond.selects RX2 ⟨"HouseWorkers$Work", "hasEnded", "()Z"⟩ yX5_hasEnded, Cond.selects RX4 ⟨"HouseWorkers$Work", "hasEnded", "()Z"⟩ yX5_hasEnded, Cond.selects RX6 ⟨"HouseWorkers$Work", "hasEnded", "()Z"⟩ yX5_hasEnded, Cond.selects RX2 ⟨"HouseWorkers$Work", "pins", "(I)Z"⟩ yX5_pins, Cond.selects RX4 ⟨"HouseWorkers$Work", "pins", "(I)Z"⟩ yX5_pins, Cond.selects RX6 ⟨"HouseWorkers$Work", "pins", "(I)Z"⟩ yX5_pins]
def wsX7_isPinned : List Cond := .code yX7_isPinned cX7_isPinned 3 (some .boolean) :: ((wsX7_isPinned_r1 ++ wsX7_isPinned_r2) ++ wsX70 ++ wsJx4a65c0 ++ wsX10 ++ wsX20 ++ wsX40 ++ wsX60)
def wsX7_isKept_r1 : List Cond := [Cond.fieldLink RX7 12 "HouseWorkers" "store" "LHouseWorkers$Store;", Cond.fieldLink RX7 19 "HouseWorkers" "works" "Ljava/util/ArrayList;", Cond.classLink RX7 91 "HouseWorkers$Work", Cond.methodLink RX7 181 yX3_latestNumber, Cond.instanceMethod yX3_latestNumber, Cond.selects RX3 yX3_latestNumber yX3_latestNumber, Cond.initialized RX3, Cond.code yX3_latestNumber cX3_latestNumber 1 (some .int), Cond.fieldLink RX3 19 "HouseWorkers$Store" "committed" "Ljava/util/ArrayList;", Cond.methodLink RX3 26 yJx4a65c_size_8abf5, Cond.instanceMethod yJx4a65c_size_8abf5, Cond.selects RJx4a65c yJx4a65c_size_8abf5 yJx4a65c_size_8abf5, Cond.initialized RJx4a65c, Cond.code yJx4a65c_size_8abf5 cJx4a65c_size_8abf5 1 (some .int), Cond.fieldLink RJx4a65c 48 "java/util/ArrayList" "size" "I", Cond.methodLink RX7 184 yX7_isPinned, Cond.instanceMethod yX7_isPinned, Cond.selects RX7 yX7_isPinned yX7_isPinned, Cond.initialized RX7, Cond.code yX7_isPinned cX7_isPinned 3 (some .boolean), Cond.methodLink RX7 102 yJx4a65c_size_8abf5, Cond.methodLink RX7 105 yJx4a65c_get_915e3, Cond.instanceMethod yJx4a65c_get_915e3, Cond.selects RJx4a65c yJx4a65c_get_915e3 yJx4a65c_get_915e3]
def wsX7_isKept_r2 : List Cond := [Cond.code yJx4a65c_get_915e3 cJx4a65c_get_915e3 2 (some (.object "java/lang/Object")), Cond.methodLink RJx4a65c 118 yJ15_checkIndex_7cf53, Cond.static yJ15_checkIndex_7cf53, Cond.initialized RJ15, Cond.code yJ15_checkIndex_7cf53 cJ15_checkIndex_7cf53 2 (some .int), Cond.methodLink RJ15 105 yJ3_checkIndex_8e157, Cond.static yJ3_checkIndex_8e157, Cond.initialized RJ3, Cond.code yJ3_checkIndex_8e157 cJ3_checkIndex_8e157 3 (some .int), Cond.methodLink RJx4a65c 123 yJx4a65c_elementData_915e3, Cond.instanceMethod yJx4a65c_elementData_915e3, Cond.selects RJx4a65c yJx4a65c_elementData_915e3 yJx4a65c_elementData_915e3, Cond.code yJx4a65c_elementData_915e3 cJx4a65c_elementData_915e3 2 (some (.object "java/lang/Object")), Cond.fieldLink RJx4a65c 9 "java/util/ArrayList" "elementData" "[Ljava/lang/Object;", Cond.methodLink RX7 190 ⟨"HouseWorkers$Work", "pins", "(I)Z"⟩, Cond.sameMethod "HouseWorkers$Work" "HouseWorkers$Work" "pins" "(I)Z", Cond.selects RX1 ⟨"HouseWorkers$Work", "pins", "(I)Z"⟩ yX5_pins, Cond.instanceMethod yX5_pins, Cond.initialized RX5, Cond.code yX5_pins cX5_pins 2 (some .boolean), Cond.fieldLink RX5 15 "HouseWorkers$Work" "pinned" "I", Cond.methodLink RX5 40 ⟨"HouseWorkers$Work", "hasEnded", "()Z"⟩, Cond.sameMethod "HouseWorkers$Work" "HouseWorkers$Work" "hasEnded" "()Z", Cond.selects RX1 ⟨"HouseWorkers$Work", "hasEnded", "()Z"⟩ yX5_hasEnded]
def wsX7_isKept_r3 : List Cond := [Cond.instanceMethod yX5_hasEnded, Cond.code yX5_hasEnded cX5_hasEnded 1 (some .boolean), Cond.fieldLink RX5 18 "HouseWorkers$Work" "end" "I", Cond.selects RX2 ⟨"HouseWorkers$Work", "hasEnded", "()Z"⟩ yX5_hasEnded, Cond.selects RX4 ⟨"HouseWorkers$Work", "hasEnded", "()Z"⟩ yX5_hasEnded, Cond.selects RX6 ⟨"HouseWorkers$Work", "hasEnded", "()Z"⟩ yX5_hasEnded, Cond.selects RX2 ⟨"HouseWorkers$Work", "pins", "(I)Z"⟩ yX5_pins, Cond.selects RX4 ⟨"HouseWorkers$Work", "pins", "(I)Z"⟩ yX5_pins, Cond.selects RX6 ⟨"HouseWorkers$Work", "pins", "(I)Z"⟩ yX5_pins, Cond.methodLink RX7 187 ⟨"HouseWorkers$Work", "isToGet", "(I)Z"⟩, Cond.sameMethod "HouseWorkers$Work" "HouseWorkers$Work" "isToGet" "(I)Z", Cond.selects RX1 ⟨"HouseWorkers$Work", "isToGet", "(I)Z"⟩ yX5_isToGet, Cond.instanceMethod yX5_isToGet, Cond.code yX5_isToGet cX5_isToGet 2 (some .boolean), Cond.selects RX2 ⟨"HouseWorkers$Work", "isToGet", "(I)Z"⟩ yX5_isToGet, Cond.instanceMethod ⟨"HouseWorkers$Work", "isToGet", "(I)Z"⟩, Cond.selects RX4 ⟨"HouseWorkers$Work", "isToGet", "(I)Z"⟩ yX4_isToGet, Cond.instanceMethod yX4_isToGet, Cond.initialized RX4, Cond.code yX4_isToGet cX4_isToGet 2 (some .boolean), Cond.fieldLink RX4 15 "HouseWorkers$StreamWork" "version" "I", Cond.sameField "HouseWorkers$StreamWork" "HouseWorkers$Work" "version" "I", Cond.methodLink RX4 36 ⟨"HouseWorkers$StreamWork", "hasEnded", "()Z"⟩, Cond.sameMethod "HouseWorkers$StreamWork" "HouseWorkers$Work" "hasEnded" "()Z"]
def wsX7_isKept_r4 : List Cond := [Cond.selects RX4 ⟨"HouseWorkers$StreamWork", "hasEnded", "()Z"⟩ yX5_hasEnded, Cond.selects RX6 ⟨"HouseWorkers$Work", "isToGet", "(I)Z"⟩ yX5_isToGet]
def wsX7_isKept : List Cond := .code yX7_isKept cX7_isKept 3 (some .boolean) :: ((wsX7_isKept_r1 ++ (wsX7_isKept_r2 ++ (wsX7_isKept_r3 ++ wsX7_isKept_r4))) ++ wsX70 ++ wsX30 ++ wsJx4a65c0 ++ wsX10 ++ wsX20 ++ wsX40 ++ wsX60)
def wsX7_cell_r1 : List Cond := [Cond.fieldLink RX7 12 "HouseWorkers" "store" "LHouseWorkers$Store;", Cond.methodLink RX7 139 yX3_find, Cond.instanceMethod yX3_find, Cond.selects RX3 yX3_find yX3_find, Cond.initialized RX3, Cond.code yX3_find cX3_find 2 (some (.object "HouseWorkers$Cells")), Cond.fieldLink RX3 10 "HouseWorkers$Store" "start" "LHouseWorkers$Cells;", Cond.fieldLink RX3 19 "HouseWorkers$Store" "committed" "Ljava/util/ArrayList;", Cond.classLink RX3 7 "HouseWorkers$Cells", Cond.methodLink RX3 26 yJx4a65c_size_8abf5, Cond.instanceMethod yJx4a65c_size_8abf5, Cond.selects RJx4a65c yJx4a65c_size_8abf5 yJx4a65c_size_8abf5, Cond.initialized RJx4a65c, Cond.code yJx4a65c_size_8abf5 cJx4a65c_size_8abf5 1 (some .int), Cond.fieldLink RJx4a65c 48 "java/util/ArrayList" "size" "I", Cond.methodLink RX3 30 yJx4a65c_get_915e3, Cond.instanceMethod yJx4a65c_get_915e3, Cond.selects RJx4a65c yJx4a65c_get_915e3 yJx4a65c_get_915e3, Cond.code yJx4a65c_get_915e3 cJx4a65c_get_915e3 2 (some (.object "java/lang/Object")), Cond.methodLink RJx4a65c 118 yJ15_checkIndex_7cf53, Cond.static yJ15_checkIndex_7cf53, Cond.initialized RJ15, Cond.code yJ15_checkIndex_7cf53 cJ15_checkIndex_7cf53 2 (some .int), Cond.methodLink RJ15 105 yJ3_checkIndex_8e157]
def wsX7_cell_r2 : List Cond := [Cond.static yJ3_checkIndex_8e157, Cond.initialized RJ3, Cond.code yJ3_checkIndex_8e157 cJ3_checkIndex_8e157 3 (some .int), Cond.methodLink RJx4a65c 123 yJx4a65c_elementData_915e3, Cond.instanceMethod yJx4a65c_elementData_915e3, Cond.selects RJx4a65c yJx4a65c_elementData_915e3 yJx4a65c_elementData_915e3, Cond.code yJx4a65c_elementData_915e3 cJx4a65c_elementData_915e3 2 (some (.object "java/lang/Object")), Cond.fieldLink RJx4a65c 9 "java/util/ArrayList" "elementData" "[Ljava/lang/Object;", Cond.methodLink RX7 26 yX7_isCell, Cond.static yX7_isCell, Cond.initialized RX7, Cond.code yX7_isCell cX7_isCell 1 (some .boolean), Cond.methodLink RX7 142 yX7_isKept, Cond.instanceMethod yX7_isKept, Cond.selects RX7 yX7_isKept yX7_isKept, Cond.code yX7_isKept cX7_isKept 3 (some .boolean), Cond.fieldLink RX7 19 "HouseWorkers" "works" "Ljava/util/ArrayList;", Cond.classLink RX7 91 "HouseWorkers$Work", Cond.methodLink RX7 181 yX3_latestNumber, Cond.instanceMethod yX3_latestNumber, Cond.selects RX3 yX3_latestNumber yX3_latestNumber, Cond.code yX3_latestNumber cX3_latestNumber 1 (some .int), Cond.methodLink RX7 184 yX7_isPinned, Cond.instanceMethod yX7_isPinned]
def wsX7_cell_r3 : List Cond := [Cond.selects RX7 yX7_isPinned yX7_isPinned, Cond.code yX7_isPinned cX7_isPinned 3 (some .boolean), Cond.methodLink RX7 102 yJx4a65c_size_8abf5, Cond.methodLink RX7 105 yJx4a65c_get_915e3, Cond.methodLink RX7 190 ⟨"HouseWorkers$Work", "pins", "(I)Z"⟩, Cond.sameMethod "HouseWorkers$Work" "HouseWorkers$Work" "pins" "(I)Z", Cond.selects RX1 ⟨"HouseWorkers$Work", "pins", "(I)Z"⟩ yX5_pins, Cond.instanceMethod yX5_pins, Cond.initialized RX5, Cond.code yX5_pins cX5_pins 2 (some .boolean), Cond.fieldLink RX5 15 "HouseWorkers$Work" "pinned" "I", Cond.methodLink RX5 40 ⟨"HouseWorkers$Work", "hasEnded", "()Z"⟩, Cond.sameMethod "HouseWorkers$Work" "HouseWorkers$Work" "hasEnded" "()Z", Cond.selects RX1 ⟨"HouseWorkers$Work", "hasEnded", "()Z"⟩ yX5_hasEnded, Cond.instanceMethod yX5_hasEnded, Cond.code yX5_hasEnded cX5_hasEnded 1 (some .boolean), Cond.fieldLink RX5 18 "HouseWorkers$Work" "end" "I", Cond.selects RX2 ⟨"HouseWorkers$Work", "hasEnded", "()Z"⟩ yX5_hasEnded, Cond.selects RX4 ⟨"HouseWorkers$Work", "hasEnded", "()Z"⟩ yX5_hasEnded, Cond.selects RX6 ⟨"HouseWorkers$Work", "hasEnded", "()Z"⟩ yX5_hasEnded, Cond.selects RX2 ⟨"HouseWorkers$Work", "pins", "(I)Z"⟩ yX5_pins, Cond.selects RX4 ⟨"HouseWorkers$Work", "pins", "(I)Z"⟩ yX5_pins, Cond.selects RX6 ⟨"HouseWorkers$Work", "pins", "(I)Z"⟩ yX5_pins, Cond.methodLink RX7 187 ⟨"HouseWorkers$Work", "isToGet", "(I)Z"⟩]
def wsX7_cell_r4 : List Cond := [Cond.sameMethod "HouseWorkers$Work" "HouseWorkers$Work" "isToGet" "(I)Z", Cond.selects RX1 ⟨"HouseWorkers$Work", "isToGet", "(I)Z"⟩ yX5_isToGet, Cond.instanceMethod yX5_isToGet, Cond.code yX5_isToGet cX5_isToGet 2 (some .boolean), Cond.selects RX2 ⟨"HouseWorkers$Work", "isToGet", "(I)Z"⟩ yX5_isToGet, Cond.instanceMethod ⟨"HouseWorkers$Work", "isToGet", "(I)Z"⟩, Cond.selects RX4 ⟨"HouseWorkers$Work", "isToGet", "(I)Z"⟩ yX4_isToGet, Cond.instanceMethod yX4_isToGet, Cond.initialized RX4, Cond.code yX4_isToGet cX4_isToGet 2 (some .boolean), Cond.fieldLink RX4 15 "HouseWorkers$StreamWork" "version" "I", Cond.sameField "HouseWorkers$StreamWork" "HouseWorkers$Work" "version" "I", Cond.methodLink RX4 36 ⟨"HouseWorkers$StreamWork", "hasEnded", "()Z"⟩, Cond.sameMethod "HouseWorkers$StreamWork" "HouseWorkers$Work" "hasEnded" "()Z", Cond.selects RX4 ⟨"HouseWorkers$StreamWork", "hasEnded", "()Z"⟩ yX5_hasEnded, Cond.selects RX6 ⟨"HouseWorkers$Work", "isToGet", "(I)Z"⟩ yX5_isToGet, Cond.methodLink RX7 145 yX0_at, Cond.instanceMethod yX0_at, Cond.selects RX0 yX0_at yX0_at, Cond.initialized RX0, Cond.code yX0_at cX0_at 2 (some .int), Cond.fieldLink RX0 9 "HouseWorkers$Cells" "row" "[I"]
def wsX7_cell : List Cond := .code yX7_cell cX7_cell 4 (some .int) :: ((wsX7_cell_r1 ++ (wsX7_cell_r2 ++ (wsX7_cell_r3 ++ wsX7_cell_r4))) ++ wsX70 ++ wsX30 ++ wsJx4a65c0 ++ wsX10 ++ wsX20 ++ wsX40 ++ wsX60 ++ wsX00)
def wsX7_countKept_r1 : List Cond := [Cond.fieldLink RX7 12 "HouseWorkers" "store" "LHouseWorkers$Store;", Cond.methodLink RX7 148 yX3_size, Cond.instanceMethod yX3_size, Cond.selects RX3 yX3_size yX3_size, Cond.initialized RX3, Cond.code yX3_size cX3_size 1 (some .int), Cond.fieldLink RX3 19 "HouseWorkers$Store" "committed" "Ljava/util/ArrayList;", Cond.methodLink RX3 26 yJx4a65c_size_8abf5, Cond.instanceMethod yJx4a65c_size_8abf5, Cond.selects RJx4a65c yJx4a65c_size_8abf5 yJx4a65c_size_8abf5, Cond.initialized RJx4a65c, Cond.code yJx4a65c_size_8abf5 cJx4a65c_size_8abf5 1 (some .int), Cond.fieldLink RJx4a65c 48 "java/util/ArrayList" "size" "I", Cond.methodLink RX7 142 yX7_isKept, Cond.instanceMethod yX7_isKept, Cond.selects RX7 yX7_isKept yX7_isKept, Cond.initialized RX7, Cond.code yX7_isKept cX7_isKept 3 (some .boolean), Cond.fieldLink RX7 19 "HouseWorkers" "works" "Ljava/util/ArrayList;", Cond.classLink RX7 91 "HouseWorkers$Work", Cond.methodLink RX7 181 yX3_latestNumber, Cond.instanceMethod yX3_latestNumber, Cond.selects RX3 yX3_latestNumber yX3_latestNumber, Cond.code yX3_latestNumber cX3_latestNumber 1 (some .int)]
def wsX7_countKept_r2 : List Cond := [Cond.methodLink RX7 184 yX7_isPinned, Cond.instanceMethod yX7_isPinned, Cond.selects RX7 yX7_isPinned yX7_isPinned, Cond.code yX7_isPinned cX7_isPinned 3 (some .boolean), Cond.methodLink RX7 102 yJx4a65c_size_8abf5, Cond.methodLink RX7 105 yJx4a65c_get_915e3, Cond.instanceMethod yJx4a65c_get_915e3, Cond.selects RJx4a65c yJx4a65c_get_915e3 yJx4a65c_get_915e3, Cond.code yJx4a65c_get_915e3 cJx4a65c_get_915e3 2 (some (.object "java/lang/Object")), Cond.methodLink RJx4a65c 118 yJ15_checkIndex_7cf53, Cond.static yJ15_checkIndex_7cf53, Cond.initialized RJ15, Cond.code yJ15_checkIndex_7cf53 cJ15_checkIndex_7cf53 2 (some .int), Cond.methodLink RJ15 105 yJ3_checkIndex_8e157, Cond.static yJ3_checkIndex_8e157, Cond.initialized RJ3, Cond.code yJ3_checkIndex_8e157 cJ3_checkIndex_8e157 3 (some .int), Cond.methodLink RJx4a65c 123 yJx4a65c_elementData_915e3, Cond.instanceMethod yJx4a65c_elementData_915e3, Cond.selects RJx4a65c yJx4a65c_elementData_915e3 yJx4a65c_elementData_915e3, Cond.code yJx4a65c_elementData_915e3 cJx4a65c_elementData_915e3 2 (some (.object "java/lang/Object")), Cond.fieldLink RJx4a65c 9 "java/util/ArrayList" "elementData" "[Ljava/lang/Object;", Cond.methodLink RX7 190 ⟨"HouseWorkers$Work", "pins", "(I)Z"⟩, Cond.sameMethod "HouseWorkers$Work" "HouseWorkers$Work" "pins" "(I)Z"]
def wsX7_countKept_r3 : List Cond := [Cond.selects RX1 ⟨"HouseWorkers$Work", "pins", "(I)Z"⟩ yX5_pins, Cond.instanceMethod yX5_pins, Cond.initialized RX5, Cond.code yX5_pins cX5_pins 2 (some .boolean), Cond.fieldLink RX5 15 "HouseWorkers$Work" "pinned" "I", Cond.methodLink RX5 40 ⟨"HouseWorkers$Work", "hasEnded", "()Z"⟩, Cond.sameMethod "HouseWorkers$Work" "HouseWorkers$Work" "hasEnded" "()Z", Cond.selects RX1 ⟨"HouseWorkers$Work", "hasEnded", "()Z"⟩ yX5_hasEnded, Cond.instanceMethod yX5_hasEnded, Cond.code yX5_hasEnded cX5_hasEnded 1 (some .boolean), Cond.fieldLink RX5 18 "HouseWorkers$Work" "end" "I", Cond.selects RX2 ⟨"HouseWorkers$Work", "hasEnded", "()Z"⟩ yX5_hasEnded, Cond.selects RX4 ⟨"HouseWorkers$Work", "hasEnded", "()Z"⟩ yX5_hasEnded, Cond.selects RX6 ⟨"HouseWorkers$Work", "hasEnded", "()Z"⟩ yX5_hasEnded, Cond.selects RX2 ⟨"HouseWorkers$Work", "pins", "(I)Z"⟩ yX5_pins, Cond.selects RX4 ⟨"HouseWorkers$Work", "pins", "(I)Z"⟩ yX5_pins, Cond.selects RX6 ⟨"HouseWorkers$Work", "pins", "(I)Z"⟩ yX5_pins, Cond.methodLink RX7 187 ⟨"HouseWorkers$Work", "isToGet", "(I)Z"⟩, Cond.sameMethod "HouseWorkers$Work" "HouseWorkers$Work" "isToGet" "(I)Z", Cond.selects RX1 ⟨"HouseWorkers$Work", "isToGet", "(I)Z"⟩ yX5_isToGet, Cond.instanceMethod yX5_isToGet, Cond.code yX5_isToGet cX5_isToGet 2 (some .boolean), Cond.selects RX2 ⟨"HouseWorkers$Work", "isToGet", "(I)Z"⟩ yX5_isToGet, Cond.instanceMethod ⟨"HouseWorkers$Work", "isToGet", "(I)Z"⟩]
def wsX7_countKept_r4 : List Cond := [Cond.selects RX4 ⟨"HouseWorkers$Work", "isToGet", "(I)Z"⟩ yX4_isToGet, Cond.instanceMethod yX4_isToGet, Cond.initialized RX4, Cond.code yX4_isToGet cX4_isToGet 2 (some .boolean), Cond.fieldLink RX4 15 "HouseWorkers$StreamWork" "version" "I", Cond.sameField "HouseWorkers$StreamWork" "HouseWorkers$Work" "version" "I", Cond.methodLink RX4 36 ⟨"HouseWorkers$StreamWork", "hasEnded", "()Z"⟩, Cond.sameMethod "HouseWorkers$StreamWork" "HouseWorkers$Work" "hasEnded" "()Z", Cond.selects RX4 ⟨"HouseWorkers$StreamWork", "hasEnded", "()Z"⟩ yX5_hasEnded, Cond.selects RX6 ⟨"HouseWorkers$Work", "isToGet", "(I)Z"⟩ yX5_isToGet]
def wsX7_countKept : List Cond := .code yX7_countKept cX7_countKept 3 (some .int) :: ((wsX7_countKept_r1 ++ (wsX7_countKept_r2 ++ (wsX7_countKept_r3 ++ wsX7_countKept_r4))) ++ wsX70 ++ wsX30 ++ wsJx4a65c0 ++ wsX10 ++ wsX20 ++ wsX40 ++ wsX60)
def wsX7_countPinned_r1 : List Cond := [Cond.fieldLink RX7 12 "HouseWorkers" "store" "LHouseWorkers$Store;", Cond.methodLink RX7 148 yX3_size, Cond.instanceMethod yX3_size, Cond.selects RX3 yX3_size yX3_size, Cond.initialized RX3, Cond.code yX3_size cX3_size 1 (some .int), Cond.fieldLink RX3 19 "HouseWorkers$Store" "committed" "Ljava/util/ArrayList;", Cond.methodLink RX3 26 yJx4a65c_size_8abf5, Cond.instanceMethod yJx4a65c_size_8abf5, Cond.selects RJx4a65c yJx4a65c_size_8abf5 yJx4a65c_size_8abf5, Cond.initialized RJx4a65c, Cond.code yJx4a65c_size_8abf5 cJx4a65c_size_8abf5 1 (some .int), Cond.fieldLink RJx4a65c 48 "java/util/ArrayList" "size" "I", Cond.methodLink RX7 184 yX7_isPinned, Cond.instanceMethod yX7_isPinned, Cond.selects RX7 yX7_isPinned yX7_isPinned, Cond.initialized RX7, Cond.code yX7_isPinned cX7_isPinned 3 (some .boolean), Cond.fieldLink RX7 19 "HouseWorkers" "works" "Ljava/util/ArrayList;", Cond.classLink RX7 91 "HouseWorkers$Work", Cond.methodLink RX7 102 yJx4a65c_size_8abf5, Cond.methodLink RX7 105 yJx4a65c_get_915e3, Cond.instanceMethod yJx4a65c_get_915e3, Cond.selects RJx4a65c yJx4a65c_get_915e3 yJx4a65c_get_915e3]
def wsX7_countPinned_r2 : List Cond := [Cond.code yJx4a65c_get_915e3 cJx4a65c_get_915e3 2 (some (.object "java/lang/Object")), Cond.methodLink RJx4a65c 118 yJ15_checkIndex_7cf53, Cond.static yJ15_checkIndex_7cf53, Cond.initialized RJ15, Cond.code yJ15_checkIndex_7cf53 cJ15_checkIndex_7cf53 2 (some .int), Cond.methodLink RJ15 105 yJ3_checkIndex_8e157, Cond.static yJ3_checkIndex_8e157, Cond.initialized RJ3, Cond.code yJ3_checkIndex_8e157 cJ3_checkIndex_8e157 3 (some .int), Cond.methodLink RJx4a65c 123 yJx4a65c_elementData_915e3, Cond.instanceMethod yJx4a65c_elementData_915e3, Cond.selects RJx4a65c yJx4a65c_elementData_915e3 yJx4a65c_elementData_915e3, Cond.code yJx4a65c_elementData_915e3 cJx4a65c_elementData_915e3 2 (some (.object "java/lang/Object")), Cond.fieldLink RJx4a65c 9 "java/util/ArrayList" "elementData" "[Ljava/lang/Object;", Cond.methodLink RX7 190 ⟨"HouseWorkers$Work", "pins", "(I)Z"⟩, Cond.sameMethod "HouseWorkers$Work" "HouseWorkers$Work" "pins" "(I)Z", Cond.selects RX1 ⟨"HouseWorkers$Work", "pins", "(I)Z"⟩ yX5_pins, Cond.instanceMethod yX5_pins, Cond.initialized RX5, Cond.code yX5_pins cX5_pins 2 (some .boolean), Cond.fieldLink RX5 15 "HouseWorkers$Work" "pinned" "I", Cond.methodLink RX5 40 ⟨"HouseWorkers$Work", "hasEnded", "()Z"⟩, Cond.sameMethod "HouseWorkers$Work" "HouseWorkers$Work" "hasEnded" "()Z", Cond.selects RX1 ⟨"HouseWorkers$Work", "hasEnded", "()Z"⟩ yX5_hasEnded]
def wsX7_countPinned_r3 : List Cond := [Cond.instanceMethod yX5_hasEnded, Cond.code yX5_hasEnded cX5_hasEnded 1 (some .boolean), Cond.fieldLink RX5 18 "HouseWorkers$Work" "end" "I", Cond.selects RX2 ⟨"HouseWorkers$Work", "hasEnded", "()Z"⟩ yX5_hasEnded, Cond.selects RX4 ⟨"HouseWorkers$Work", "hasEnded", "()Z"⟩ yX5_hasEnded, Cond.selects RX6 ⟨"HouseWorkers$Work", "hasEnded", "()Z"⟩ yX5_hasEnded, Cond.selects RX2 ⟨"HouseWorkers$Work", "pins", "(I)Z"⟩ yX5_pins, Cond.selects RX4 ⟨"HouseWorkers$Work", "pins", "(I)Z"⟩ yX5_pins, Cond.selects RX6 ⟨"HouseWorkers$Work", "pins", "(I)Z"⟩ yX5_pins]
def wsX7_countPinned : List Cond := .code yX7_countPinned cX7_countPinned 3 (some .int) :: ((wsX7_countPinned_r1 ++ (wsX7_countPinned_r2 ++ wsX7_countPinned_r3)) ++ wsX70 ++ wsX30 ++ wsJx4a65c0 ++ wsX10 ++ wsX20 ++ wsX40 ++ wsX60)
def wsX7_count_r1 : List Cond := [Cond.fieldLink RX7 12 "HouseWorkers" "store" "LHouseWorkers$Store;", Cond.fieldLink RX7 155 "HouseWorkers" "turnsThatDid" "I", Cond.fieldLink RX7 158 "HouseWorkers" "turnsThatWaited" "I", Cond.fieldLink RX7 19 "HouseWorkers" "works" "Ljava/util/ArrayList;", Cond.fieldLink RX7 23 "HouseWorkers" "ends" "Ljava/util/ArrayList;", Cond.methodLink RX7 148 yX3_size, Cond.instanceMethod yX3_size, Cond.selects RX3 yX3_size yX3_size, Cond.initialized RX3, Cond.code yX3_size cX3_size 1 (some .int), Cond.fieldLink RX3 19 "HouseWorkers$Store" "committed" "Ljava/util/ArrayList;", Cond.methodLink RX3 26 yJx4a65c_size_8abf5, Cond.instanceMethod yJx4a65c_size_8abf5, Cond.selects RJx4a65c yJx4a65c_size_8abf5 yJx4a65c_size_8abf5, Cond.initialized RJx4a65c, Cond.code yJx4a65c_size_8abf5 cJx4a65c_size_8abf5 1 (some .int), Cond.fieldLink RJx4a65c 48 "java/util/ArrayList" "size" "I", Cond.methodLink RX7 149 yX7_countKept, Cond.instanceMethod yX7_countKept, Cond.selects RX7 yX7_countKept yX7_countKept, Cond.initialized RX7, Cond.code yX7_countKept cX7_countKept 3 (some .int), Cond.methodLink RX7 142 yX7_isKept, Cond.instanceMethod yX7_isKept]
def wsX7_count_r2 : List Cond := [Cond.selects RX7 yX7_isKept yX7_isKept, Cond.code yX7_isKept cX7_isKept 3 (some .boolean), Cond.classLink RX7 91 "HouseWorkers$Work", Cond.methodLink RX7 181 yX3_latestNumber, Cond.instanceMethod yX3_latestNumber, Cond.selects RX3 yX3_latestNumber yX3_latestNumber, Cond.code yX3_latestNumber cX3_latestNumber 1 (some .int), Cond.methodLink RX7 184 yX7_isPinned, Cond.instanceMethod yX7_isPinned, Cond.selects RX7 yX7_isPinned yX7_isPinned, Cond.code yX7_isPinned cX7_isPinned 3 (some .boolean), Cond.methodLink RX7 102 yJx4a65c_size_8abf5, Cond.methodLink RX7 105 yJx4a65c_get_915e3, Cond.instanceMethod yJx4a65c_get_915e3, Cond.selects RJx4a65c yJx4a65c_get_915e3 yJx4a65c_get_915e3, Cond.code yJx4a65c_get_915e3 cJx4a65c_get_915e3 2 (some (.object "java/lang/Object")), Cond.methodLink RJx4a65c 118 yJ15_checkIndex_7cf53, Cond.static yJ15_checkIndex_7cf53, Cond.initialized RJ15, Cond.code yJ15_checkIndex_7cf53 cJ15_checkIndex_7cf53 2 (some .int), Cond.methodLink RJ15 105 yJ3_checkIndex_8e157, Cond.static yJ3_checkIndex_8e157, Cond.initialized RJ3, Cond.code yJ3_checkIndex_8e157 cJ3_checkIndex_8e157 3 (some .int)]
def wsX7_count_r3 : List Cond := [Cond.methodLink RJx4a65c 123 yJx4a65c_elementData_915e3, Cond.instanceMethod yJx4a65c_elementData_915e3, Cond.selects RJx4a65c yJx4a65c_elementData_915e3 yJx4a65c_elementData_915e3, Cond.code yJx4a65c_elementData_915e3 cJx4a65c_elementData_915e3 2 (some (.object "java/lang/Object")), Cond.fieldLink RJx4a65c 9 "java/util/ArrayList" "elementData" "[Ljava/lang/Object;", Cond.methodLink RX7 190 ⟨"HouseWorkers$Work", "pins", "(I)Z"⟩, Cond.sameMethod "HouseWorkers$Work" "HouseWorkers$Work" "pins" "(I)Z", Cond.selects RX1 ⟨"HouseWorkers$Work", "pins", "(I)Z"⟩ yX5_pins, Cond.instanceMethod yX5_pins, Cond.initialized RX5, Cond.code yX5_pins cX5_pins 2 (some .boolean), Cond.fieldLink RX5 15 "HouseWorkers$Work" "pinned" "I", Cond.methodLink RX5 40 ⟨"HouseWorkers$Work", "hasEnded", "()Z"⟩, Cond.sameMethod "HouseWorkers$Work" "HouseWorkers$Work" "hasEnded" "()Z", Cond.selects RX1 ⟨"HouseWorkers$Work", "hasEnded", "()Z"⟩ yX5_hasEnded, Cond.instanceMethod yX5_hasEnded, Cond.code yX5_hasEnded cX5_hasEnded 1 (some .boolean), Cond.fieldLink RX5 18 "HouseWorkers$Work" "end" "I", Cond.selects RX2 ⟨"HouseWorkers$Work", "hasEnded", "()Z"⟩ yX5_hasEnded, Cond.selects RX4 ⟨"HouseWorkers$Work", "hasEnded", "()Z"⟩ yX5_hasEnded, Cond.selects RX6 ⟨"HouseWorkers$Work", "hasEnded", "()Z"⟩ yX5_hasEnded, Cond.selects RX2 ⟨"HouseWorkers$Work", "pins", "(I)Z"⟩ yX5_pins, Cond.selects RX4 ⟨"HouseWorkers$Work", "pins", "(I)Z"⟩ yX5_pins, Cond.selects RX6 ⟨"HouseWorkers$Work", "pins", "(I)Z"⟩ yX5_pins]
def wsX7_count_r4 : List Cond := [Cond.methodLink RX7 187 ⟨"HouseWorkers$Work", "isToGet", "(I)Z"⟩, Cond.sameMethod "HouseWorkers$Work" "HouseWorkers$Work" "isToGet" "(I)Z", Cond.selects RX1 ⟨"HouseWorkers$Work", "isToGet", "(I)Z"⟩ yX5_isToGet, Cond.instanceMethod yX5_isToGet, Cond.code yX5_isToGet cX5_isToGet 2 (some .boolean), Cond.selects RX2 ⟨"HouseWorkers$Work", "isToGet", "(I)Z"⟩ yX5_isToGet, Cond.instanceMethod ⟨"HouseWorkers$Work", "isToGet", "(I)Z"⟩, Cond.selects RX4 ⟨"HouseWorkers$Work", "isToGet", "(I)Z"⟩ yX4_isToGet, Cond.instanceMethod yX4_isToGet, Cond.initialized RX4, Cond.code yX4_isToGet cX4_isToGet 2 (some .boolean), Cond.fieldLink RX4 15 "HouseWorkers$StreamWork" "version" "I", Cond.sameField "HouseWorkers$StreamWork" "HouseWorkers$Work" "version" "I", Cond.methodLink RX4 36 ⟨"HouseWorkers$StreamWork", "hasEnded", "()Z"⟩, Cond.sameMethod "HouseWorkers$StreamWork" "HouseWorkers$Work" "hasEnded" "()Z", Cond.selects RX4 ⟨"HouseWorkers$StreamWork", "hasEnded", "()Z"⟩ yX5_hasEnded, Cond.selects RX6 ⟨"HouseWorkers$Work", "isToGet", "(I)Z"⟩ yX5_isToGet, Cond.methodLink RX7 152 yX7_countPinned, Cond.instanceMethod yX7_countPinned, Cond.selects RX7 yX7_countPinned yX7_countPinned, Cond.code yX7_countPinned cX7_countPinned 3 (some .int)]
def wsX7_count : List Cond := .code yX7_count cX7_count 2 (some .int) :: ((wsX7_count_r1 ++ (wsX7_count_r2 ++ (wsX7_count_r3 ++ wsX7_count_r4))) ++ wsX70 ++ wsX30 ++ wsJx4a65c0 ++ wsX10 ++ wsX20 ++ wsX40 ++ wsX60)
def wsX8_init : List Cond := .code yX8_init cX8_init 1 none :: ([.methodLink RX8 1 objectInit, .instanceMethod objectInit, .code objectInit ⟨#[0xb1]⟩ 1 none, .arrayClass .int, .fieldLink RX8 7 "HouseWorkersModel" "cells" "[I", .fieldLink RX8 13 "HouseWorkersModel" "versions" "I", .fieldLink RX8 17 "HouseWorkersModel" "kind" "[I", .fieldLink RX8 20 "HouseWorkersModel" "steps" "[I", .fieldLink RX8 23 "HouseWorkersModel" "failsAt" "[I", .fieldLink RX8 26 "HouseWorkersModel" "first" "[I", .fieldLink RX8 29 "HouseWorkersModel" "by" "[I", .fieldLink RX8 32 "HouseWorkersModel" "done" "[I", .fieldLink RX8 35 "HouseWorkersModel" "answer" "[I", .fieldLink RX8 38 "HouseWorkersModel" "version" "[I", .fieldLink RX8 41 "HouseWorkersModel" "end" "[I", .arrayClass .boolean, .fieldLink RX8 44 "HouseWorkersModel" "told" "[Z", .fieldLink RX8 48 "HouseWorkersModel" "draft" "[I", .fieldLink RX8 51 "HouseWorkersModel" "before" "[I", .fieldLink RX8 54 "HouseWorkersModel" "endWho" "[I", .fieldLink RX8 57 "HouseWorkersModel" "endHow" "[I", .fieldLink RX8 60 "HouseWorkersModel" "endWhen" "[I"] ++ wsX80)
def wsX8_in : List Cond := .code yX8_in cX8_in 3 (some .boolean) :: ([])
def wsX8_put : List Cond := .code yX8_put cX8_put 3 (some .int) :: ([.fieldLink RX8 67 "HouseWorkersModel" "workers" "I", .fieldLink RX8 7 "HouseWorkersModel" "cells" "[I", .methodLink RX8 63 yX8_in, .static yX8_in, .initialized RX8, .code yX8_in cX8_in 3 (some .boolean)] ++ wsX80)
def wsX8_begin : List Cond := .code yX8_begin cX8_begin 7 (some .int) :: ([.fieldLink RX8 70 "HouseWorkersModel" "closed" "Z", .fieldLink RX8 67 "HouseWorkersModel" "workers" "I", .fieldLink RX8 17 "HouseWorkersModel" "kind" "[I", .fieldLink RX8 20 "HouseWorkersModel" "steps" "[I", .fieldLink RX8 23 "HouseWorkersModel" "failsAt" "[I", .fieldLink RX8 26 "HouseWorkersModel" "first" "[I", .fieldLink RX8 29 "HouseWorkersModel" "by" "[I", .fieldLink RX8 38 "HouseWorkersModel" "version" "[I", .fieldLink RX8 13 "HouseWorkersModel" "versions" "I"] ++ wsX80)
def wsX8_question : List Cond := .code yX8_question cX8_question 4 (some .int) :: ([.methodLink RX8 63 yX8_in, .static yX8_in, .initialized RX8, .code yX8_in cX8_in 3 (some .boolean), .methodLink RX8 74 yX8_begin, .instanceMethod yX8_begin, .selects RX8 yX8_begin yX8_begin, .code yX8_begin cX8_begin 7 (some .int), .fieldLink RX8 70 "HouseWorkersModel" "closed" "Z", .fieldLink RX8 67 "HouseWorkersModel" "workers" "I", .fieldLink RX8 17 "HouseWorkersModel" "kind" "[I", .fieldLink RX8 20 "HouseWorkersModel" "steps" "[I", .fieldLink RX8 23 "HouseWorkersModel" "failsAt" "[I", .fieldLink RX8 26 "HouseWorkersModel" "first" "[I", .fieldLink RX8 29 "HouseWorkersModel" "by" "[I", .fieldLink RX8 38 "HouseWorkersModel" "version" "[I", .fieldLink RX8 13 "HouseWorkersModel" "versions" "I"] ++ wsX80)
def wsX8_writer : List Cond := .code yX8_writer cX8_writer 5 (some .int) :: ([.methodLink RX8 63 yX8_in, .static yX8_in, .initialized RX8, .code yX8_in cX8_in 3 (some .boolean), .methodLink RX8 74 yX8_begin, .instanceMethod yX8_begin, .selects RX8 yX8_begin yX8_begin, .code yX8_begin cX8_begin 7 (some .int), .fieldLink RX8 70 "HouseWorkersModel" "closed" "Z", .fieldLink RX8 67 "HouseWorkersModel" "workers" "I", .fieldLink RX8 17 "HouseWorkersModel" "kind" "[I", .fieldLink RX8 20 "HouseWorkersModel" "steps" "[I", .fieldLink RX8 23 "HouseWorkersModel" "failsAt" "[I", .fieldLink RX8 26 "HouseWorkersModel" "first" "[I", .fieldLink RX8 29 "HouseWorkersModel" "by" "[I", .fieldLink RX8 38 "HouseWorkersModel" "version" "[I", .fieldLink RX8 13 "HouseWorkersModel" "versions" "I"] ++ wsX80)
def wsX8_reason : List Cond := .code yX8_reason cX8_reason 3 (some .int) :: ([.methodLink RX8 63 yX8_in, .static yX8_in, .initialized RX8, .code yX8_in cX8_in 3 (some .boolean), .methodLink RX8 74 yX8_begin, .instanceMethod yX8_begin, .selects RX8 yX8_begin yX8_begin, .code yX8_begin cX8_begin 7 (some .int), .fieldLink RX8 70 "HouseWorkersModel" "closed" "Z", .fieldLink RX8 67 "HouseWorkersModel" "workers" "I", .fieldLink RX8 17 "HouseWorkersModel" "kind" "[I", .fieldLink RX8 20 "HouseWorkersModel" "steps" "[I", .fieldLink RX8 23 "HouseWorkersModel" "failsAt" "[I", .fieldLink RX8 26 "HouseWorkersModel" "first" "[I", .fieldLink RX8 29 "HouseWorkersModel" "by" "[I", .fieldLink RX8 38 "HouseWorkersModel" "version" "[I", .fieldLink RX8 13 "HouseWorkersModel" "versions" "I"] ++ wsX80)
def wsX8_stream : List Cond := .code yX8_stream cX8_stream 1 (some .int) :: ([.methodLink RX8 74 yX8_begin, .instanceMethod yX8_begin, .selects RX8 yX8_begin yX8_begin, .initialized RX8, .code yX8_begin cX8_begin 7 (some .int), .fieldLink RX8 70 "HouseWorkersModel" "closed" "Z", .fieldLink RX8 67 "HouseWorkersModel" "workers" "I", .fieldLink RX8 17 "HouseWorkersModel" "kind" "[I", .fieldLink RX8 20 "HouseWorkersModel" "steps" "[I", .fieldLink RX8 23 "HouseWorkersModel" "failsAt" "[I", .fieldLink RX8 26 "HouseWorkersModel" "first" "[I", .fieldLink RX8 29 "HouseWorkersModel" "by" "[I", .fieldLink RX8 38 "HouseWorkersModel" "version" "[I", .fieldLink RX8 13 "HouseWorkersModel" "versions" "I"] ++ wsX80)
def wsX8_isNext : List Cond := .code yX8_isNext cX8_isNext 4 (some .boolean) :: ([.fieldLink RX8 41 "HouseWorkersModel" "end" "[I", .fieldLink RX8 17 "HouseWorkersModel" "kind" "[I"] ++ wsX80)
def wsX8_waits : List Cond := .code yX8_waits cX8_waits 2 (some .boolean) :: ([.fieldLink RX8 41 "HouseWorkersModel" "end" "[I", .fieldLink RX8 44 "HouseWorkersModel" "told" "[Z", .fieldLink RX8 17 "HouseWorkersModel" "kind" "[I", .fieldLink RX8 32 "HouseWorkersModel" "done" "[I", .fieldLink RX8 20 "HouseWorkersModel" "steps" "[I", .fieldLink RX8 38 "HouseWorkersModel" "version" "[I", .fieldLink RX8 13 "HouseWorkersModel" "versions" "I", .methodLink RX8 78 yX8_isNext, .instanceMethod yX8_isNext, .selects RX8 yX8_isNext yX8_isNext, .initialized RX8, .code yX8_isNext cX8_isNext 4 (some .boolean)] ++ wsX80)
def wsX8_finish : List Cond := .code yX8_finish cX8_finish 3 none :: ([.fieldLink RX8 41 "HouseWorkersModel" "end" "[I", .fieldLink RX8 54 "HouseWorkersModel" "endWho" "[I", .fieldLink RX8 82 "HouseWorkersModel" "ends" "I", .fieldLink RX8 57 "HouseWorkersModel" "endHow" "[I", .fieldLink RX8 60 "HouseWorkersModel" "endWhen" "[I", .fieldLink RX8 85 "HouseWorkersModel" "did" "I"] ++ wsX80)
def wsX8_commit : List Cond := .code yX8_commit cX8_commit 4 none :: ([.fieldLink RX8 13 "HouseWorkersModel" "versions" "I", .fieldLink RX8 7 "HouseWorkersModel" "cells" "[I", .fieldLink RX8 17 "HouseWorkersModel" "kind" "[I", .fieldLink RX8 48 "HouseWorkersModel" "draft" "[I", .fieldLink RX8 38 "HouseWorkersModel" "version" "[I"] ++ wsX80)
def wsX8_round : List Cond := .code yX8_round cX8_round 4 none :: ([.fieldLink RX8 32 "HouseWorkersModel" "done" "[I", .fieldLink RX8 38 "HouseWorkersModel" "version" "[I", .fieldLink RX8 13 "HouseWorkersModel" "versions" "I", .fieldLink RX8 48 "HouseWorkersModel" "draft" "[I", .fieldLink RX8 7 "HouseWorkersModel" "cells" "[I", .fieldLink RX8 51 "HouseWorkersModel" "before" "[I"] ++ wsX80)
def wsX8_step : List Cond := .code yX8_step cX8_step 5 none :: ([.fieldLink RX8 26 "HouseWorkersModel" "first" "[I", .fieldLink RX8 32 "HouseWorkersModel" "done" "[I", .fieldLink RX8 17 "HouseWorkersModel" "kind" "[I", .fieldLink RX8 35 "HouseWorkersModel" "answer" "[I", .fieldLink RX8 7 "HouseWorkersModel" "cells" "[I", .fieldLink RX8 38 "HouseWorkersModel" "version" "[I", .fieldLink RX8 48 "HouseWorkersModel" "draft" "[I", .fieldLink RX8 29 "HouseWorkersModel" "by" "[I", .methodLink RX8 88 yX8_round, .instanceMethod yX8_round, .selects RX8 yX8_round yX8_round, .initialized RX8, .code yX8_round cX8_round 4 none, .fieldLink RX8 13 "HouseWorkersModel" "versions" "I", .fieldLink RX8 51 "HouseWorkersModel" "before" "[I"] ++ wsX80)
def wsX8_turn_r1 : List Cond := [Cond.fieldLink RX8 67 "HouseWorkersModel" "workers" "I", Cond.fieldLink RX8 95 "HouseWorkersModel" "didNothing" "I", Cond.fieldLink RX8 41 "HouseWorkersModel" "end" "[I", Cond.fieldLink RX8 85 "HouseWorkersModel" "did" "I", Cond.fieldLink RX8 44 "HouseWorkersModel" "told" "[Z", Cond.fieldLink RX8 32 "HouseWorkersModel" "done" "[I", Cond.fieldLink RX8 20 "HouseWorkersModel" "steps" "[I", Cond.fieldLink RX8 17 "HouseWorkersModel" "kind" "[I", Cond.fieldLink RX8 23 "HouseWorkersModel" "failsAt" "[I", Cond.methodLink RX8 63 yX8_in, Cond.static yX8_in, Cond.initialized RX8, Cond.code yX8_in cX8_in 3 (some .boolean), Cond.methodLink RX8 92 yX8_waits, Cond.instanceMethod yX8_waits, Cond.selects RX8 yX8_waits yX8_waits, Cond.code yX8_waits cX8_waits 2 (some .boolean), Cond.fieldLink RX8 38 "HouseWorkersModel" "version" "[I", Cond.fieldLink RX8 13 "HouseWorkersModel" "versions" "I", Cond.methodLink RX8 78 yX8_isNext, Cond.instanceMethod yX8_isNext, Cond.selects RX8 yX8_isNext yX8_isNext, Cond.code yX8_isNext cX8_isNext 4 (some .boolean), Cond.methodLink RX8 98 yX8_commit]
def wsX8_turn_r2 : List Cond := [Cond.instanceMethod yX8_commit, Cond.selects RX8 yX8_commit yX8_commit, Cond.code yX8_commit cX8_commit 4 none, Cond.fieldLink RX8 7 "HouseWorkersModel" "cells" "[I", Cond.fieldLink RX8 48 "HouseWorkersModel" "draft" "[I", Cond.methodLink RX8 101 yX8_step, Cond.instanceMethod yX8_step, Cond.selects RX8 yX8_step yX8_step, Cond.code yX8_step cX8_step 5 none, Cond.fieldLink RX8 26 "HouseWorkersModel" "first" "[I", Cond.fieldLink RX8 35 "HouseWorkersModel" "answer" "[I", Cond.fieldLink RX8 29 "HouseWorkersModel" "by" "[I", Cond.methodLink RX8 88 yX8_round, Cond.instanceMethod yX8_round, Cond.selects RX8 yX8_round yX8_round, Cond.code yX8_round cX8_round 4 none, Cond.fieldLink RX8 51 "HouseWorkersModel" "before" "[I", Cond.methodLink RX8 104 yX8_finish, Cond.instanceMethod yX8_finish, Cond.selects RX8 yX8_finish yX8_finish, Cond.code yX8_finish cX8_finish 3 none, Cond.fieldLink RX8 54 "HouseWorkersModel" "endWho" "[I", Cond.fieldLink RX8 82 "HouseWorkersModel" "ends" "I", Cond.fieldLink RX8 57 "HouseWorkersModel" "endHow" "[I"]
def wsX8_turn_r3 : List Cond := [Cond.fieldLink RX8 60 "HouseWorkersModel" "endWhen" "[I"]
def wsX8_turn : List Cond := .code yX8_turn cX8_turn 3 (some .int) :: ((wsX8_turn_r1 ++ (wsX8_turn_r2 ++ wsX8_turn_r3)) ++ wsX80)
def wsX8_run_r1 : List Cond := [Cond.fieldLink RX8 67 "HouseWorkersModel" "workers" "I", Cond.methodLink RX8 63 yX8_in, Cond.static yX8_in, Cond.initialized RX8, Cond.code yX8_in cX8_in 3 (some .boolean), Cond.methodLink RX8 108 yX8_turn, Cond.instanceMethod yX8_turn, Cond.selects RX8 yX8_turn yX8_turn, Cond.code yX8_turn cX8_turn 3 (some .int), Cond.fieldLink RX8 95 "HouseWorkersModel" "didNothing" "I", Cond.fieldLink RX8 41 "HouseWorkersModel" "end" "[I", Cond.fieldLink RX8 85 "HouseWorkersModel" "did" "I", Cond.fieldLink RX8 44 "HouseWorkersModel" "told" "[Z", Cond.fieldLink RX8 32 "HouseWorkersModel" "done" "[I", Cond.fieldLink RX8 20 "HouseWorkersModel" "steps" "[I", Cond.fieldLink RX8 17 "HouseWorkersModel" "kind" "[I", Cond.fieldLink RX8 23 "HouseWorkersModel" "failsAt" "[I", Cond.methodLink RX8 92 yX8_waits, Cond.instanceMethod yX8_waits, Cond.selects RX8 yX8_waits yX8_waits, Cond.code yX8_waits cX8_waits 2 (some .boolean), Cond.fieldLink RX8 38 "HouseWorkersModel" "version" "[I", Cond.fieldLink RX8 13 "HouseWorkersModel" "versions" "I", Cond.methodLink RX8 78 yX8_isNext]
def wsX8_run_r2 : List Cond := [Cond.instanceMethod yX8_isNext, Cond.selects RX8 yX8_isNext yX8_isNext, Cond.code yX8_isNext cX8_isNext 4 (some .boolean), Cond.methodLink RX8 98 yX8_commit, Cond.instanceMethod yX8_commit, Cond.selects RX8 yX8_commit yX8_commit, Cond.code yX8_commit cX8_commit 4 none, Cond.fieldLink RX8 7 "HouseWorkersModel" "cells" "[I", Cond.fieldLink RX8 48 "HouseWorkersModel" "draft" "[I", Cond.methodLink RX8 101 yX8_step, Cond.instanceMethod yX8_step, Cond.selects RX8 yX8_step yX8_step, Cond.code yX8_step cX8_step 5 none, Cond.fieldLink RX8 26 "HouseWorkersModel" "first" "[I", Cond.fieldLink RX8 35 "HouseWorkersModel" "answer" "[I", Cond.fieldLink RX8 29 "HouseWorkersModel" "by" "[I", Cond.methodLink RX8 88 yX8_round, Cond.instanceMethod yX8_round, Cond.selects RX8 yX8_round yX8_round, Cond.code yX8_round cX8_round 4 none, Cond.fieldLink RX8 51 "HouseWorkersModel" "before" "[I", Cond.methodLink RX8 104 yX8_finish, Cond.instanceMethod yX8_finish, Cond.selects RX8 yX8_finish yX8_finish]
def wsX8_run_r3 : List Cond := [Cond.code yX8_finish cX8_finish 3 none, Cond.fieldLink RX8 54 "HouseWorkersModel" "endWho" "[I", Cond.fieldLink RX8 82 "HouseWorkersModel" "ends" "I", Cond.fieldLink RX8 57 "HouseWorkersModel" "endHow" "[I", Cond.fieldLink RX8 60 "HouseWorkersModel" "endWhen" "[I"]
def wsX8_run : List Cond := .code yX8_run cX8_run 5 (some .int) :: ((wsX8_run_r1 ++ (wsX8_run_r2 ++ wsX8_run_r3)) ++ wsX80)
def wsX8_cancel : List Cond := .code yX8_cancel cX8_cancel 2 (some .int) :: ([.fieldLink RX8 67 "HouseWorkersModel" "workers" "I", .fieldLink RX8 41 "HouseWorkersModel" "end" "[I", .fieldLink RX8 44 "HouseWorkersModel" "told" "[Z", .methodLink RX8 63 yX8_in, .static yX8_in, .initialized RX8, .code yX8_in cX8_in 3 (some .boolean)] ++ wsX80)
def wsX8_close : List Cond := .code yX8_close cX8_close 3 (some .int) :: ([.fieldLink RX8 70 "HouseWorkersModel" "closed" "Z", .fieldLink RX8 67 "HouseWorkersModel" "workers" "I", .fieldLink RX8 41 "HouseWorkersModel" "end" "[I", .methodLink RX8 104 yX8_finish, .instanceMethod yX8_finish, .selects RX8 yX8_finish yX8_finish, .initialized RX8, .code yX8_finish cX8_finish 3 none, .fieldLink RX8 54 "HouseWorkersModel" "endWho" "[I", .fieldLink RX8 82 "HouseWorkersModel" "ends" "I", .fieldLink RX8 57 "HouseWorkersModel" "endHow" "[I", .fieldLink RX8 60 "HouseWorkersModel" "endWhen" "[I", .fieldLink RX8 85 "HouseWorkersModel" "did" "I"] ++ wsX80)
def wsX8_pinned : List Cond := .code yX8_pinned cX8_pinned 3 (some .int) :: ([.fieldLink RX8 41 "HouseWorkersModel" "end" "[I", .fieldLink RX8 17 "HouseWorkersModel" "kind" "[I", .fieldLink RX8 38 "HouseWorkersModel" "version" "[I"] ++ wsX80)
def wsX8_isPinned : List Cond := .code yX8_isPinned cX8_isPinned 4 (some .boolean) :: ([.fieldLink RX8 67 "HouseWorkersModel" "workers" "I", .methodLink RX8 112 yX8_pinned, .instanceMethod yX8_pinned, .selects RX8 yX8_pinned yX8_pinned, .initialized RX8, .code yX8_pinned cX8_pinned 3 (some .int), .fieldLink RX8 41 "HouseWorkersModel" "end" "[I", .fieldLink RX8 17 "HouseWorkersModel" "kind" "[I", .fieldLink RX8 38 "HouseWorkersModel" "version" "[I"] ++ wsX80)
def wsX8_isKept : List Cond := .code yX8_isKept cX8_isKept 4 (some .boolean) :: ([.fieldLink RX8 13 "HouseWorkersModel" "versions" "I", .fieldLink RX8 67 "HouseWorkersModel" "workers" "I", .fieldLink RX8 17 "HouseWorkersModel" "kind" "[I", .fieldLink RX8 41 "HouseWorkersModel" "end" "[I", .fieldLink RX8 38 "HouseWorkersModel" "version" "[I", .methodLink RX8 115 yX8_isPinned, .instanceMethod yX8_isPinned, .selects RX8 yX8_isPinned yX8_isPinned, .initialized RX8, .code yX8_isPinned cX8_isPinned 4 (some .boolean), .methodLink RX8 112 yX8_pinned, .instanceMethod yX8_pinned, .selects RX8 yX8_pinned yX8_pinned, .code yX8_pinned cX8_pinned 3 (some .int)] ++ wsX80)
def wsX8_told : List Cond := .code yX8_told cX8_told 3 (some .int) :: ([.fieldLink RX8 67 "HouseWorkersModel" "workers" "I", .fieldLink RX8 17 "HouseWorkersModel" "kind" "[I", .fieldLink RX8 41 "HouseWorkersModel" "end" "[I", .fieldLink RX8 32 "HouseWorkersModel" "done" "[I", .fieldLink RX8 35 "HouseWorkersModel" "answer" "[I", .fieldLink RX8 38 "HouseWorkersModel" "version" "[I", .methodLink RX8 63 yX8_in, .static yX8_in, .initialized RX8, .code yX8_in cX8_in 3 (some .boolean), .methodLink RX8 92 yX8_waits, .instanceMethod yX8_waits, .selects RX8 yX8_waits yX8_waits, .code yX8_waits cX8_waits 2 (some .boolean), .fieldLink RX8 44 "HouseWorkersModel" "told" "[Z", .fieldLink RX8 20 "HouseWorkersModel" "steps" "[I", .fieldLink RX8 13 "HouseWorkersModel" "versions" "I", .methodLink RX8 78 yX8_isNext, .instanceMethod yX8_isNext, .selects RX8 yX8_isNext yX8_isNext, .code yX8_isNext cX8_isNext 4 (some .boolean)] ++ wsX80)
def wsX8_ended : List Cond := .code yX8_ended cX8_ended 3 (some .int) :: ([.fieldLink RX8 82 "HouseWorkersModel" "ends" "I", .fieldLink RX8 54 "HouseWorkersModel" "endWho" "[I", .fieldLink RX8 57 "HouseWorkersModel" "endHow" "[I", .fieldLink RX8 60 "HouseWorkersModel" "endWhen" "[I", .methodLink RX8 63 yX8_in, .static yX8_in, .initialized RX8, .code yX8_in cX8_in 3 (some .boolean)] ++ wsX80)
def wsX8_cell : List Cond := .code yX8_cell cX8_cell 3 (some .int) :: ([.fieldLink RX8 13 "HouseWorkersModel" "versions" "I", .fieldLink RX8 7 "HouseWorkersModel" "cells" "[I", .methodLink RX8 63 yX8_in, .static yX8_in, .initialized RX8, .code yX8_in cX8_in 3 (some .boolean), .methodLink RX8 118 yX8_isKept, .instanceMethod yX8_isKept, .selects RX8 yX8_isKept yX8_isKept, .code yX8_isKept cX8_isKept 4 (some .boolean), .fieldLink RX8 67 "HouseWorkersModel" "workers" "I", .fieldLink RX8 17 "HouseWorkersModel" "kind" "[I", .fieldLink RX8 41 "HouseWorkersModel" "end" "[I", .fieldLink RX8 38 "HouseWorkersModel" "version" "[I", .methodLink RX8 115 yX8_isPinned, .instanceMethod yX8_isPinned, .selects RX8 yX8_isPinned yX8_isPinned, .code yX8_isPinned cX8_isPinned 4 (some .boolean), .methodLink RX8 112 yX8_pinned, .instanceMethod yX8_pinned, .selects RX8 yX8_pinned yX8_pinned, .code yX8_pinned cX8_pinned 3 (some .int)] ++ wsX80)
def wsX8_count : List Cond := .code yX8_count cX8_count 4 (some .int) :: ([.fieldLink RX8 13 "HouseWorkersModel" "versions" "I", .fieldLink RX8 85 "HouseWorkersModel" "did" "I", .fieldLink RX8 95 "HouseWorkersModel" "didNothing" "I", .fieldLink RX8 67 "HouseWorkersModel" "workers" "I", .fieldLink RX8 41 "HouseWorkersModel" "end" "[I", .methodLink RX8 118 yX8_isKept, .instanceMethod yX8_isKept, .selects RX8 yX8_isKept yX8_isKept, .initialized RX8, .code yX8_isKept cX8_isKept 4 (some .boolean), .fieldLink RX8 17 "HouseWorkersModel" "kind" "[I", .fieldLink RX8 38 "HouseWorkersModel" "version" "[I", .methodLink RX8 115 yX8_isPinned, .instanceMethod yX8_isPinned, .selects RX8 yX8_isPinned yX8_isPinned, .code yX8_isPinned cX8_isPinned 4 (some .boolean), .methodLink RX8 112 yX8_pinned, .instanceMethod yX8_pinned, .selects RX8 yX8_pinned yX8_pinned, .code yX8_pinned cX8_pinned 3 (some .int)] ++ wsX80)
def wsJ9_max_7cf53 : List Cond := .code yJ9_max_7cf53 cJ9_max_7cf53 2 (some .int) :: ([])
def wsJ9_min_7cf53 : List Cond := .code yJ9_min_7cf53 cJ9_min_7cf53 2 (some .int) :: ([])
def wsL_law_r1 : List Cond := [Cond.classLink RL 7 RX7, Cond.instantiable RX7 6, Cond.initialized RX7, Cond.classLink RL 10 RX8, Cond.instantiable RX8 22, Cond.initialized RX8, Cond.methodLink RL 9 yX7_init, Cond.instanceMethod yX7_init, Cond.code yX7_init cX7_init 1 none, Cond.methodLink RX7 3 objectInit, Cond.instanceMethod objectInit, Cond.code objectInit ⟨#[0xb1]⟩ 1 none, Cond.classLink RX7 9 RX3, Cond.instantiable RX3 3, Cond.initialized RX3, Cond.fieldLink RX7 12 "HouseWorkers" "store" "LHouseWorkers$Store;", Cond.classLink RX7 16 RJx4a65c, Cond.instantiable RJx4a65c 3, Cond.initialized RJx4a65c, Cond.fieldLink RX7 19 "HouseWorkers" "works" "Ljava/util/ArrayList;", Cond.fieldLink RX7 23 "HouseWorkers" "ends" "Ljava/util/ArrayList;", Cond.instanceMethod yX3_init, Cond.code yX3_init cX3_init 1 none, Cond.methodLink RX3 1 objectInit]
def wsL_law_r2 : List Cond := [Cond.classLink RX3 7 RX0, Cond.instantiable RX0 1, Cond.initialized RX0, Cond.fieldLink RX3 10 "HouseWorkers$Store" "start" "LHouseWorkers$Cells;", Cond.classLink RX3 16 RJx4a65c, Cond.fieldLink RX3 19 "HouseWorkers$Store" "committed" "Ljava/util/ArrayList;", Cond.fieldLink RX3 23 "HouseWorkers$Store" "latest" "LHouseWorkers$Cells;", Cond.instanceMethod yX0_init, Cond.code yX0_init cX0_init 1 none, Cond.methodLink RX0 3 objectInit, Cond.arrayClass .int, Cond.fieldLink RX0 9 "HouseWorkers$Cells" "row" "[I", Cond.methodLink RX3 18 yJx4a65c_init_da8c8, Cond.instanceMethod yJx4a65c_init_da8c8, Cond.code yJx4a65c_init_da8c8 cJx4a65c_init_da8c8 1 none, Cond.fieldLink RJx4a65c 39 "java/util/ArrayList" "DEFAULTCAPACITY_EMPTY_ELEMENTDATA" "[Ljava/lang/Object;", Cond.fieldLink RJx4a65c 9 "java/util/ArrayList" "elementData" "[Ljava/lang/Object;", Cond.methodLink RJx4a65c 1 yJxc12de_init_da8c8, Cond.instanceMethod yJxc12de_init_da8c8, Cond.initialized RJxc12de, Cond.code yJxc12de_init_da8c8 cJxc12de_init_da8c8 1 none, Cond.fieldLink RJxc12de 7 "java/util/AbstractList" "modCount" "I", Cond.methodLink RJxc12de 1 yJxa1e45_init_da8c8, Cond.instanceMethod yJxa1e45_init_da8c8]
def wsL_law_r3 : List Cond := [Cond.initialized RJxa1e45, Cond.code yJxa1e45_init_da8c8 cJxa1e45_init_da8c8 1 none, Cond.methodLink RJxa1e45 1 objectInit, Cond.methodLink RX7 18 yJx4a65c_init_da8c8, Cond.methodLink RL 12 yX8_init, Cond.instanceMethod yX8_init, Cond.code yX8_init cX8_init 1 none, Cond.methodLink RX8 1 objectInit, Cond.fieldLink RX8 7 "HouseWorkersModel" "cells" "[I", Cond.fieldLink RX8 13 "HouseWorkersModel" "versions" "I", Cond.fieldLink RX8 17 "HouseWorkersModel" "kind" "[I", Cond.fieldLink RX8 20 "HouseWorkersModel" "steps" "[I", Cond.fieldLink RX8 23 "HouseWorkersModel" "failsAt" "[I", Cond.fieldLink RX8 26 "HouseWorkersModel" "first" "[I", Cond.fieldLink RX8 29 "HouseWorkersModel" "by" "[I", Cond.fieldLink RX8 32 "HouseWorkersModel" "done" "[I", Cond.fieldLink RX8 35 "HouseWorkersModel" "answer" "[I", Cond.fieldLink RX8 38 "HouseWorkersModel" "version" "[I", Cond.fieldLink RX8 41 "HouseWorkersModel" "end" "[I", Cond.arrayClass .boolean, Cond.fieldLink RX8 44 "HouseWorkersModel" "told" "[Z", Cond.fieldLink RX8 48 "HouseWorkersModel" "draft" "[I", Cond.fieldLink RX8 51 "HouseWorkersModel" "before" "[I", Cond.fieldLink RX8 54 "HouseWorkersModel" "endWho" "[I"]
def wsL_law_r4 : List Cond := [Cond.fieldLink RX8 57 "HouseWorkersModel" "endHow" "[I", Cond.fieldLink RX8 60 "HouseWorkersModel" "endWhen" "[I", Cond.methodLink RL 13 yX7_put, Cond.instanceMethod yX7_put, Cond.selects RX7 yX7_put yX7_put, Cond.code yX7_put cX7_put 3 (some .int), Cond.methodLink RX7 26 yX7_isCell, Cond.static yX7_isCell, Cond.code yX7_isCell cX7_isCell 1 (some .boolean), Cond.methodLink RX7 30 yJx4a65c_isEmpty_aae02, Cond.instanceMethod yJx4a65c_isEmpty_aae02, Cond.selects RJx4a65c yJx4a65c_isEmpty_aae02 yJx4a65c_isEmpty_aae02, Cond.code yJx4a65c_isEmpty_aae02 cJx4a65c_isEmpty_aae02 1 (some .boolean), Cond.fieldLink RJx4a65c 48 "java/util/ArrayList" "size" "I", Cond.methodLink RX7 34 yX3_latest, Cond.instanceMethod yX3_latest, Cond.selects RX3 yX3_latest yX3_latest, Cond.code yX3_latest cX3_latest 1 (some (.object "HouseWorkers$Cells")), Cond.methodLink RX7 38 yX0_set, Cond.instanceMethod yX0_set, Cond.selects RX0 yX0_set yX0_set, Cond.code yX0_set cX0_set 3 none, Cond.methodLink RL 17 yX8_put, Cond.instanceMethod yX8_put]
def wsL_law_r5 : List Cond := [Cond.selects RX8 yX8_put yX8_put, Cond.code yX8_put cX8_put 3 (some .int), Cond.fieldLink RX8 67 "HouseWorkersModel" "workers" "I", Cond.methodLink RX8 63 yX8_in, Cond.static yX8_in, Cond.code yX8_in cX8_in 3 (some .boolean), Cond.methodLink RL 18 yX7_question, Cond.instanceMethod yX7_question, Cond.selects RX7 yX7_question yX7_question, Cond.code yX7_question cX7_question 5 (some .int), Cond.classLink RX7 54 RX1, Cond.instantiable RX1 13, Cond.initialized RX1, Cond.methodLink RX7 44 yX7_areSteps, Cond.static yX7_areSteps, Cond.code yX7_areSteps cX7_areSteps 1 (some .boolean), Cond.methodLink RX7 47 yX7_isFailsAt, Cond.static yX7_isFailsAt, Cond.code yX7_isFailsAt cX7_isFailsAt 1 (some .boolean), Cond.methodLink RX7 50 yX7_nextNumber, Cond.instanceMethod yX7_nextNumber, Cond.selects RX7 yX7_nextNumber yX7_nextNumber, Cond.code yX7_nextNumber cX7_nextNumber 1 (some .int), Cond.fieldLink RX7 99 "HouseWorkers" "closed" "Z"]
def wsL_law_r6 : List Cond := [Cond.methodLink RX7 102 yJx4a65c_size_8abf5, Cond.instanceMethod yJx4a65c_size_8abf5, Cond.selects RJx4a65c yJx4a65c_size_8abf5 yJx4a65c_size_8abf5, Cond.code yJx4a65c_size_8abf5 cJx4a65c_size_8abf5 1 (some .int), Cond.methodLink RX7 56 yX1_init, Cond.instanceMethod yX1_init, Cond.code yX1_init cX1_init 6 none, Cond.fieldLink RX1 9 "HouseWorkers$QuestionWork" "first" "I", Cond.fieldLink RX1 21 "HouseWorkers$QuestionWork" "read" "LHouseWorkers$Cells;", Cond.fieldLink RX1 29 "HouseWorkers$QuestionWork" "version" "I", Cond.sameField "HouseWorkers$QuestionWork" "HouseWorkers$Work" "version" "I", Cond.fieldLink RX1 32 "HouseWorkers$QuestionWork" "pinned" "I", Cond.sameField "HouseWorkers$QuestionWork" "HouseWorkers$Work" "pinned" "I", Cond.methodLink RX1 3 yX5_init, Cond.instanceMethod yX5_init, Cond.initialized RX5, Cond.code yX5_init cX5_init 5 none, Cond.methodLink RX5 3 objectInit, Cond.fieldLink RX5 9 "HouseWorkers$Work" "version" "I", Cond.fieldLink RX5 15 "HouseWorkers$Work" "pinned" "I", Cond.fieldLink RX5 18 "HouseWorkers$Work" "end" "I", Cond.fieldLink RX5 21 "HouseWorkers$Work" "number" "I", Cond.fieldLink RX5 24 "HouseWorkers$Work" "kind" "I", Cond.fieldLink RX5 27 "HouseWorkers$Work" "steps" "I"]
def wsL_law_r7 : List Cond := [Cond.fieldLink RX5 30 "HouseWorkers$Work" "failsAt" "I", Cond.methodLink RX1 15 yX3_latest, Cond.methodLink RX1 25 yX3_latestNumber, Cond.instanceMethod yX3_latestNumber, Cond.selects RX3 yX3_latestNumber yX3_latestNumber, Cond.code yX3_latestNumber cX3_latestNumber 1 (some .int), Cond.methodLink RX3 26 yJx4a65c_size_8abf5, Cond.methodLink RX7 59 yJx4a65c_add_9ea2d, Cond.instanceMethod yJx4a65c_add_9ea2d, Cond.selects RJx4a65c yJx4a65c_add_9ea2d yJx4a65c_add_9ea2d, Cond.code yJx4a65c_add_9ea2d cJx4a65c_add_9ea2d 2 (some .boolean), Cond.fieldLink RJx4a65c 63 "java/util/ArrayList" "modCount" "I", Cond.sameField "java/util/ArrayList" "java/util/AbstractList" "modCount" "I", Cond.methodLink RJx4a65c 131 yJx4a65c_add_72be8, Cond.instanceMethod yJx4a65c_add_72be8, Cond.selects RJx4a65c yJx4a65c_add_72be8 yJx4a65c_add_72be8, Cond.code yJx4a65c_add_72be8 cJx4a65c_add_72be8 4 none, Cond.methodLink RJx4a65c 129 yJx4a65c_grow_d5877, Cond.instanceMethod yJx4a65c_grow_d5877, Cond.selects RJx4a65c yJx4a65c_grow_d5877 yJx4a65c_grow_d5877, Cond.code yJx4a65c_grow_d5877 cJx4a65c_grow_d5877 1 (some (.array (.object "java/lang/Object"))), Cond.methodLink RJx4a65c 69 yJx4a65c_grow_92f84, Cond.instanceMethod yJx4a65c_grow_92f84, Cond.selects RJx4a65c yJx4a65c_grow_92f84 yJx4a65c_grow_92f84]
def wsL_law_r8 : List Cond := [Cond.code yJx4a65c_grow_92f84 cJx4a65c_grow_92f84 4 (some (.array (.object "java/lang/Object"))), Cond.methodLink RJx4a65c 79 Lib.Math.max.name, Cond.static Lib.Math.max.name, Cond.initialized "java/lang/Math", Cond.code Lib.Math.max.name Lib.Math.max.code 2 (some .int), Cond.classLink RJx4a65c 7 "java/lang/Object", Cond.methodLink RJx4a65c 73 yJ8_newLength_cabcc, Cond.static yJ8_newLength_cabcc, Cond.initialized RJ8, Cond.code yJ8_newLength_cabcc cJ8_newLength_cabcc 4 (some .int), Cond.methodLink RJ8 194 Lib.Math.max.name, Cond.constant RJ8 200 (2147483639), Cond.methodLink RJ8 201 yJ8_hugeLength_7cf53, Cond.static yJ8_hugeLength_7cf53, Cond.code yJ8_hugeLength_7cf53 cJ8_hugeLength_7cf53 3 (some .int), Cond.methodLink RJx4a65c 66 yJ7_copyOf_1904c, Cond.static yJ7_copyOf_1904c, Cond.initialized RJ7, Cond.code yJ7_copyOf_1904c cJ7_copyOf_1904c 2 (some (.array (.object "java/lang/Object"))), Cond.methodLink RJ7 86 ⟨"java/lang/Object", "getClass", "()Ljava/lang/Class;"⟩, Cond.selects "[Ljava/lang/Object;" ⟨"java/lang/Object", "getClass", "()Ljava/lang/Class;"⟩ ⟨"java/lang/Object", "getClass", "()Ljava/lang/Class;"⟩, Cond.instanceMethod ⟨"java/lang/Object", "getClass", "()Ljava/lang/Class;"⟩, Cond.native ⟨"java/lang/Object", "getClass", "()Ljava/lang/Class;"⟩, Cond.methodLink RJ7 300 yJ7_copyOf_6403c]
def wsL_law_r9 : List Cond := [Cond.static yJ7_copyOf_6403c, Cond.code yJ7_copyOf_6403c cJ7_copyOf_6403c 4 (some (.array (.object "java/lang/Object"))), Cond.classLink RJ7 110 "[Ljava/lang/Object;", Cond.classLink RJ7 2 "java/lang/Object", Cond.methodLink RJ7 304 Lib.Math.min.name, Cond.static Lib.Math.min.name, Cond.code Lib.Math.min.name Lib.Math.min.code 2 (some .int), Cond.methodLink RJ7 150 arraycopyName, Cond.native arraycopyName, Cond.static arraycopyName, Cond.initialized "java/lang/System", Cond.methodLink RL 22 yX8_question, Cond.instanceMethod yX8_question, Cond.selects RX8 yX8_question yX8_question, Cond.code yX8_question cX8_question 4 (some .int), Cond.methodLink RX8 74 yX8_begin, Cond.instanceMethod yX8_begin, Cond.selects RX8 yX8_begin yX8_begin, Cond.code yX8_begin cX8_begin 7 (some .int), Cond.fieldLink RX8 70 "HouseWorkersModel" "closed" "Z", Cond.methodLink RL 23 yX7_writer, Cond.instanceMethod yX7_writer, Cond.selects RX7 yX7_writer yX7_writer, Cond.code yX7_writer cX7_writer 6 (some .int)]
def wsL_law_r10 : List Cond := [Cond.classLink RX7 63 RX6, Cond.instantiable RX6 14, Cond.initialized RX6, Cond.methodLink RX7 65 yX6_init, Cond.instanceMethod yX6_init, Cond.code yX6_init cX6_init 6 none, Cond.classLink RX6 9 RX0, Cond.fieldLink RX6 14 "HouseWorkers$WriterWork" "draft" "LHouseWorkers$Cells;", Cond.fieldLink RX6 20 "HouseWorkers$WriterWork" "first" "I", Cond.fieldLink RX6 24 "HouseWorkers$WriterWork" "by" "I", Cond.methodLink RX6 3 yX5_init, Cond.methodLink RL 27 yX8_writer, Cond.instanceMethod yX8_writer, Cond.selects RX8 yX8_writer yX8_writer, Cond.code yX8_writer cX8_writer 5 (some .int), Cond.methodLink RL 28 yX7_reason, Cond.instanceMethod yX7_reason, Cond.selects RX7 yX7_reason yX7_reason, Cond.code yX7_reason cX7_reason 4 (some .int), Cond.classLink RX7 68 RX2, Cond.instantiable RX2 12, Cond.initialized RX2, Cond.methodLink RX7 70 yX2_init, Cond.instanceMethod yX2_init]
def wsL_law_r11 : List Cond := [Cond.code yX2_init cX2_init 4 none, Cond.classLink RX2 9 RX0, Cond.fieldLink RX2 14 "HouseWorkers$ReasoningWork" "cells" "LHouseWorkers$Cells;", Cond.methodLink RX2 3 yX5_init, Cond.methodLink RL 31 yX8_reason, Cond.instanceMethod yX8_reason, Cond.selects RX8 yX8_reason yX8_reason, Cond.code yX8_reason cX8_reason 3 (some .int), Cond.methodLink RL 32 yX7_stream, Cond.instanceMethod yX7_stream, Cond.selects RX7 yX7_stream yX7_stream, Cond.code yX7_stream cX7_stream 2 (some .int), Cond.classLink RX7 73 RX4, Cond.instantiable RX4 11, Cond.initialized RX4, Cond.methodLink RX7 75 yX4_init, Cond.instanceMethod yX4_init, Cond.code yX4_init cX4_init 3 none, Cond.fieldLink RX4 15 "HouseWorkers$StreamWork" "version" "I", Cond.sameField "HouseWorkers$StreamWork" "HouseWorkers$Work" "version" "I", Cond.methodLink RX4 3 yX5_init, Cond.methodLink RX4 9 yX3_latestNumber, Cond.methodLink RL 36 yX8_stream, Cond.instanceMethod yX8_stream]
def wsL_law_r12 : List Cond := [Cond.selects RX8 yX8_stream yX8_stream, Cond.code yX8_stream cX8_stream 1 (some .int), Cond.methodLink RL 37 yX7_turn, Cond.instanceMethod yX7_turn, Cond.selects RX7 yX7_turn yX7_turn, Cond.code yX7_turn cX7_turn 3 (some .int), Cond.methodLink RX7 78 yX7_find, Cond.instanceMethod yX7_find, Cond.selects RX7 yX7_find yX7_find, Cond.code yX7_find cX7_find 2 (some (.object "HouseWorkers$Work")), Cond.classLink RX7 91 "HouseWorkers$Work", Cond.methodLink RX7 105 yJx4a65c_get_915e3, Cond.instanceMethod yJx4a65c_get_915e3, Cond.selects RJx4a65c yJx4a65c_get_915e3 yJx4a65c_get_915e3, Cond.code yJx4a65c_get_915e3 cJx4a65c_get_915e3 2 (some (.object "java/lang/Object")), Cond.methodLink RJx4a65c 118 yJ15_checkIndex_7cf53, Cond.static yJ15_checkIndex_7cf53, Cond.initialized RJ15, Cond.code yJ15_checkIndex_7cf53 cJ15_checkIndex_7cf53 2 (some .int), Cond.methodLink RJ15 105 yJ3_checkIndex_8e157, Cond.static yJ3_checkIndex_8e157, Cond.initialized RJ3, Cond.code yJ3_checkIndex_8e157 cJ3_checkIndex_8e157 3 (some .int), Cond.methodLink RJx4a65c 123 yJx4a65c_elementData_915e3]
def wsL_law_r13 : List Cond := [Cond.instanceMethod yJx4a65c_elementData_915e3, Cond.selects RJx4a65c yJx4a65c_elementData_915e3 yJx4a65c_elementData_915e3, Cond.code yJx4a65c_elementData_915e3 cJx4a65c_elementData_915e3 2 (some (.object "java/lang/Object")), Cond.methodLink RX7 82 yX7_giveTurn, Cond.instanceMethod yX7_giveTurn, Cond.selects RX7 yX7_giveTurn yX7_giveTurn, Cond.code yX7_giveTurn cX7_giveTurn 3 (some .int), Cond.fieldLink RX7 158 "HouseWorkers" "turnsThatWaited" "I", Cond.fieldLink RX7 155 "HouseWorkers" "turnsThatDid" "I", Cond.methodLink RX7 90 ⟨"HouseWorkers$Work", "hasEnded", "()Z"⟩, Cond.sameMethod "HouseWorkers$Work" "HouseWorkers$Work" "hasEnded" "()Z", Cond.selects RX1 ⟨"HouseWorkers$Work", "hasEnded", "()Z"⟩ yX5_hasEnded, Cond.instanceMethod yX5_hasEnded, Cond.code yX5_hasEnded cX5_hasEnded 1 (some .boolean), Cond.selects RX2 ⟨"HouseWorkers$Work", "hasEnded", "()Z"⟩ yX5_hasEnded, Cond.selects RX4 ⟨"HouseWorkers$Work", "hasEnded", "()Z"⟩ yX5_hasEnded, Cond.selects RX6 ⟨"HouseWorkers$Work", "hasEnded", "()Z"⟩ yX5_hasEnded, Cond.methodLink RX7 129 yX7_standsStill, Cond.instanceMethod yX7_standsStill, Cond.selects RX7 yX7_standsStill yX7_standsStill, Cond.code yX7_standsStill cX7_standsStill 2 (some .boolean), Cond.fieldLink RX7 95 "HouseWorkers$Work" "toBeCancelled" "Z", Cond.methodLink RX7 171 yX7_hasNobodyBefore, Cond.instanceMethod yX7_hasNobodyBefore]
def wsL_law_r14 : List Cond := [Cond.selects RX7 yX7_hasNobodyBefore yX7_hasNobodyBefore, Cond.code yX7_hasNobodyBefore cX7_hasNobodyBefore 4 (some .boolean), Cond.fieldLink RX7 133 "HouseWorkers$Work" "number" "I", Cond.methodLink RX7 178 ⟨"HouseWorkers$Work", "commits", "()Z"⟩, Cond.sameMethod "HouseWorkers$Work" "HouseWorkers$Work" "commits" "()Z", Cond.selects RX1 ⟨"HouseWorkers$Work", "commits", "()Z"⟩ yX5_commits, Cond.instanceMethod yX5_commits, Cond.code yX5_commits cX5_commits 1 (some .boolean), Cond.selects RX2 ⟨"HouseWorkers$Work", "commits", "()Z"⟩ yX5_commits, Cond.selects RX4 ⟨"HouseWorkers$Work", "commits", "()Z"⟩ yX5_commits, Cond.selects RX6 ⟨"HouseWorkers$Work", "commits", "()Z"⟩ yX5_commits, Cond.methodLink RX7 174 ⟨"HouseWorkers$Work", "waits", "(LHouseWorkers$Store;Z)Z"⟩, Cond.sameMethod "HouseWorkers$Work" "HouseWorkers$Work" "waits" "(LHouseWorkers$Store;Z)Z", Cond.selects RX1 ⟨"HouseWorkers$Work", "waits", "(LHouseWorkers$Store;Z)Z"⟩ yX1_waits, Cond.instanceMethod yX1_waits, Cond.code yX1_waits cX1_waits 3 (some .boolean), Cond.selects RX2 ⟨"HouseWorkers$Work", "waits", "(LHouseWorkers$Store;Z)Z"⟩ yX2_waits, Cond.instanceMethod yX2_waits, Cond.code yX2_waits cX2_waits 3 (some .boolean), Cond.fieldLink RX2 20 "HouseWorkers$ReasoningWork" "stepsDone" "I", Cond.sameField "HouseWorkers$ReasoningWork" "HouseWorkers$Work" "stepsDone" "I", Cond.selects RX4 ⟨"HouseWorkers$Work", "waits", "(LHouseWorkers$Store;Z)Z"⟩ yX4_waits, Cond.instanceMethod yX4_waits, Cond.code yX4_waits cX4_waits 3 (some .boolean)]
def wsL_law_r15 : List Cond := [Cond.selects RX6 ⟨"HouseWorkers$Work", "waits", "(LHouseWorkers$Store;Z)Z"⟩ yX6_waits, Cond.instanceMethod yX6_waits, Cond.code yX6_waits cX6_waits 3 (some .boolean), Cond.methodLink RX6 27 ⟨"HouseWorkers$WriterWork", "hasDoneAllSteps", "()Z"⟩, Cond.sameMethod "HouseWorkers$WriterWork" "HouseWorkers$Work" "hasDoneAllSteps" "()Z", Cond.selects RX6 ⟨"HouseWorkers$WriterWork", "hasDoneAllSteps", "()Z"⟩ yX5_hasDoneAllSteps, Cond.instanceMethod yX5_hasDoneAllSteps, Cond.code yX5_hasDoneAllSteps cX5_hasDoneAllSteps 1 (some .boolean), Cond.fieldLink RX5 33 "HouseWorkers$Work" "stepsDone" "I", Cond.methodLink RX7 161 yX7_act, Cond.instanceMethod yX7_act, Cond.selects RX7 yX7_act yX7_act, Cond.code yX7_act cX7_act 2 (some .int), Cond.methodLink RX7 164 ⟨"HouseWorkers$Work", "failsNow", "()Z"⟩, Cond.sameMethod "HouseWorkers$Work" "HouseWorkers$Work" "failsNow" "()Z", Cond.selects RX1 ⟨"HouseWorkers$Work", "failsNow", "()Z"⟩ yX5_failsNow, Cond.instanceMethod yX5_failsNow, Cond.code yX5_failsNow cX5_failsNow 1 (some .boolean), Cond.methodLink RX5 36 ⟨"HouseWorkers$Work", "hasDoneAllSteps", "()Z"⟩, Cond.sameMethod "HouseWorkers$Work" "HouseWorkers$Work" "hasDoneAllSteps" "()Z", Cond.selects RX1 ⟨"HouseWorkers$Work", "hasDoneAllSteps", "()Z"⟩ yX5_hasDoneAllSteps, Cond.selects RX2 ⟨"HouseWorkers$Work", "hasDoneAllSteps", "()Z"⟩ yX5_hasDoneAllSteps, Cond.selects RX4 ⟨"HouseWorkers$Work", "hasDoneAllSteps", "()Z"⟩ yX5_hasDoneAllSteps, Cond.selects RX6 ⟨"HouseWorkers$Work", "hasDoneAllSteps", "()Z"⟩ yX5_hasDoneAllSteps]
def wsL_law_r16 : List Cond := [Cond.selects RX2 ⟨"HouseWorkers$Work", "failsNow", "()Z"⟩ yX5_failsNow, Cond.selects RX4 ⟨"HouseWorkers$Work", "failsNow", "()Z"⟩ yX5_failsNow, Cond.selects RX6 ⟨"HouseWorkers$Work", "failsNow", "()Z"⟩ yX5_failsNow, Cond.methodLink RX7 167 ⟨"HouseWorkers$Work", "goOn", "(LHouseWorkers$Store;)I"⟩, Cond.sameMethod "HouseWorkers$Work" "HouseWorkers$Work" "goOn" "(LHouseWorkers$Store;)I", Cond.selects RX1 ⟨"HouseWorkers$Work", "goOn", "(LHouseWorkers$Store;)I"⟩ yX1_goOn, Cond.instanceMethod yX1_goOn, Cond.code yX1_goOn cX1_goOn 2 (some .int), Cond.fieldLink RX1 35 "HouseWorkers$QuestionWork" "answer" "I", Cond.sameField "HouseWorkers$QuestionWork" "HouseWorkers$Work" "answer" "I", Cond.fieldLink RX1 38 "HouseWorkers$QuestionWork" "stepsDone" "I", Cond.sameField "HouseWorkers$QuestionWork" "HouseWorkers$Work" "stepsDone" "I", Cond.methodLink RX1 41 yX0_at, Cond.instanceMethod yX0_at, Cond.selects RX0 yX0_at yX0_at, Cond.code yX0_at cX0_at 2 (some .int), Cond.methodLink RX1 47 ⟨"HouseWorkers$QuestionWork", "hasDoneAllSteps", "()Z"⟩, Cond.sameMethod "HouseWorkers$QuestionWork" "HouseWorkers$Work" "hasDoneAllSteps" "()Z", Cond.selects RX1 ⟨"HouseWorkers$QuestionWork", "hasDoneAllSteps", "()Z"⟩ yX5_hasDoneAllSteps, Cond.selects RX2 ⟨"HouseWorkers$Work", "goOn", "(LHouseWorkers$Store;)I"⟩ yX2_goOn, Cond.instanceMethod yX2_goOn, Cond.code yX2_goOn cX2_goOn 2 (some .int), Cond.fieldLink RX2 34 "HouseWorkers$ReasoningWork" "version" "I", Cond.sameField "HouseWorkers$ReasoningWork" "HouseWorkers$Work" "version" "I"]
def wsL_law_r17 : List Cond := [Cond.fieldLink RX2 49 "HouseWorkers$ReasoningWork" "pinned" "I", Cond.sameField "HouseWorkers$ReasoningWork" "HouseWorkers$Work" "pinned" "I", Cond.methodLink RX2 24 ⟨"HouseWorkers$ReasoningWork", "hasDoneAllSteps", "()Z"⟩, Cond.sameMethod "HouseWorkers$ReasoningWork" "HouseWorkers$Work" "hasDoneAllSteps" "()Z", Cond.selects RX2 ⟨"HouseWorkers$ReasoningWork", "hasDoneAllSteps", "()Z"⟩ yX5_hasDoneAllSteps, Cond.methodLink RX2 28 yX3_commit, Cond.instanceMethod yX3_commit, Cond.selects RX3 yX3_commit yX3_commit, Cond.code yX3_commit cX3_commit 2 (some .int), Cond.methodLink RX3 34 yJx4a65c_add_9ea2d, Cond.methodLink RX2 37 yX3_latest, Cond.methodLink RX2 41 yX0_takeAll, Cond.instanceMethod yX0_takeAll, Cond.selects RX0 yX0_takeAll yX0_takeAll, Cond.code yX0_takeAll cX0_takeAll 3 none, Cond.methodLink RX2 45 yX3_latestNumber, Cond.methodLink RX2 52 yX0_spread, Cond.instanceMethod yX0_spread, Cond.selects RX0 yX0_spread yX0_spread, Cond.code yX0_spread cX0_spread 4 none, Cond.methodLink RX0 15 Lib.Math.max.name, Cond.selects RX4 ⟨"HouseWorkers$Work", "goOn", "(LHouseWorkers$Store;)I"⟩ yX4_goOn, Cond.instanceMethod yX4_goOn, Cond.code yX4_goOn cX4_goOn 3 (some .int)]
def wsL_law_r18 : List Cond := [Cond.fieldLink RX4 25 "HouseWorkers$StreamWork" "answer" "I", Cond.sameField "HouseWorkers$StreamWork" "HouseWorkers$Work" "answer" "I", Cond.fieldLink RX4 33 "HouseWorkers$StreamWork" "stepsDone" "I", Cond.sameField "HouseWorkers$StreamWork" "HouseWorkers$Work" "stepsDone" "I", Cond.methodLink RX4 21 yX3_find, Cond.instanceMethod yX3_find, Cond.selects RX3 yX3_find yX3_find, Cond.code yX3_find cX3_find 2 (some (.object "HouseWorkers$Cells")), Cond.classLink RX3 7 "HouseWorkers$Cells", Cond.methodLink RX3 30 yJx4a65c_get_915e3, Cond.methodLink RX4 28 yX0_sum, Cond.instanceMethod yX0_sum, Cond.selects RX0 yX0_sum yX0_sum, Cond.code yX0_sum cX0_sum 3 (some .int), Cond.selects RX6 ⟨"HouseWorkers$Work", "goOn", "(LHouseWorkers$Store;)I"⟩ yX6_goOn, Cond.instanceMethod yX6_goOn, Cond.code yX6_goOn cX6_goOn 2 (some .int), Cond.fieldLink RX6 45 "HouseWorkers$WriterWork" "version" "I", Cond.sameField "HouseWorkers$WriterWork" "HouseWorkers$Work" "version" "I", Cond.fieldLink RX6 48 "HouseWorkers$WriterWork" "stepsDone" "I", Cond.sameField "HouseWorkers$WriterWork" "HouseWorkers$Work" "stepsDone" "I", Cond.methodLink RX6 31 yX3_latest, Cond.methodLink RX6 37 yX0_addAll, Cond.instanceMethod yX0_addAll]
def wsL_law_r19 : List Cond := [Cond.selects RX0 yX0_addAll yX0_addAll, Cond.code yX0_addAll cX0_addAll 3 none, Cond.methodLink RX6 41 yX3_commit, Cond.methodLink RX6 51 yX0_add, Cond.instanceMethod yX0_add, Cond.selects RX0 yX0_add yX0_add, Cond.code yX0_add cX0_add 3 none, Cond.methodLink RX7 109 yX7_endWork, Cond.instanceMethod yX7_endWork, Cond.selects RX7 yX7_endWork yX7_endWork, Cond.code yX7_endWork cX7_endWork 3 none, Cond.fieldLink RX7 117 "HouseWorkers$Work" "end" "I", Cond.fieldLink RX7 136 "HouseWorkers$Work" "turnsAtEnd" "I", Cond.methodLink RL 41 yX8_turn, Cond.instanceMethod yX8_turn, Cond.selects RX8 yX8_turn yX8_turn, Cond.code yX8_turn cX8_turn 3 (some .int), Cond.fieldLink RX8 95 "HouseWorkersModel" "didNothing" "I", Cond.fieldLink RX8 85 "HouseWorkersModel" "did" "I", Cond.methodLink RX8 92 yX8_waits, Cond.instanceMethod yX8_waits, Cond.selects RX8 yX8_waits yX8_waits, Cond.code yX8_waits cX8_waits 2 (some .boolean), Cond.methodLink RX8 78 yX8_isNext]
def wsL_law_r20 : List Cond := [Cond.instanceMethod yX8_isNext, Cond.selects RX8 yX8_isNext yX8_isNext, Cond.code yX8_isNext cX8_isNext 4 (some .boolean), Cond.methodLink RX8 98 yX8_commit, Cond.instanceMethod yX8_commit, Cond.selects RX8 yX8_commit yX8_commit, Cond.code yX8_commit cX8_commit 4 none, Cond.methodLink RX8 101 yX8_step, Cond.instanceMethod yX8_step, Cond.selects RX8 yX8_step yX8_step, Cond.code yX8_step cX8_step 5 none, Cond.methodLink RX8 88 yX8_round, Cond.instanceMethod yX8_round, Cond.selects RX8 yX8_round yX8_round, Cond.code yX8_round cX8_round 4 none, Cond.methodLink RX8 104 yX8_finish, Cond.instanceMethod yX8_finish, Cond.selects RX8 yX8_finish yX8_finish, Cond.code yX8_finish cX8_finish 3 none, Cond.fieldLink RX8 82 "HouseWorkersModel" "ends" "I", Cond.methodLink RL 42 yX7_run, Cond.instanceMethod yX7_run, Cond.selects RX7 yX7_run yX7_run, Cond.code yX7_run cX7_run 5 (some .int)]
def wsL_law_r21 : List Cond := [Cond.methodLink RX7 86 yX7_giveRow, Cond.instanceMethod yX7_giveRow, Cond.selects RX7 yX7_giveRow yX7_giveRow, Cond.code yX7_giveRow cX7_giveRow 4 (some .int), Cond.methodLink RL 45 yX8_run, Cond.instanceMethod yX8_run, Cond.selects RX8 yX8_run yX8_run, Cond.code yX8_run cX8_run 5 (some .int), Cond.methodLink RX8 108 yX8_turn, Cond.methodLink RL 46 yX7_cancel, Cond.instanceMethod yX7_cancel, Cond.selects RX7 yX7_cancel yX7_cancel, Cond.code yX7_cancel cX7_cancel 3 (some .int), Cond.methodLink RL 49 yX8_cancel, Cond.instanceMethod yX8_cancel, Cond.selects RX8 yX8_cancel yX8_cancel, Cond.code yX8_cancel cX8_cancel 2 (some .int), Cond.methodLink RL 50 yX7_close, Cond.instanceMethod yX7_close, Cond.selects RX7 yX7_close yX7_close, Cond.code yX7_close cX7_close 4 (some .int), Cond.methodLink RL 53 yX8_close, Cond.instanceMethod yX8_close, Cond.selects RX8 yX8_close yX8_close]
def wsL_law_r22 : List Cond := [Cond.code yX8_close cX8_close 3 (some .int), Cond.methodLink RL 54 yX7_told, Cond.instanceMethod yX7_told, Cond.selects RX7 yX7_told yX7_told, Cond.code yX7_told cX7_told 4 (some .int), Cond.fieldLink RX7 113 "HouseWorkers$Work" "kind" "I", Cond.fieldLink RX7 120 "HouseWorkers$Work" "stepsDone" "I", Cond.fieldLink RX7 123 "HouseWorkers$Work" "answer" "I", Cond.fieldLink RX7 126 "HouseWorkers$Work" "version" "I", Cond.methodLink RL 57 yX8_told, Cond.instanceMethod yX8_told, Cond.selects RX8 yX8_told yX8_told, Cond.code yX8_told cX8_told 3 (some .int), Cond.methodLink RL 58 yX7_ended, Cond.instanceMethod yX7_ended, Cond.selects RX7 yX7_ended yX7_ended, Cond.code yX7_ended cX7_ended 4 (some .int), Cond.methodLink RL 61 yX8_ended, Cond.instanceMethod yX8_ended, Cond.selects RX8 yX8_ended yX8_ended, Cond.code yX8_ended cX8_ended 3 (some .int), Cond.methodLink RL 62 yX7_cell, Cond.instanceMethod yX7_cell, Cond.selects RX7 yX7_cell yX7_cell]
def wsL_law_r23 : List Cond := [Cond.code yX7_cell cX7_cell 4 (some .int), Cond.methodLink RX7 139 yX3_find, Cond.methodLink RX7 142 yX7_isKept, Cond.instanceMethod yX7_isKept, Cond.selects RX7 yX7_isKept yX7_isKept, Cond.code yX7_isKept cX7_isKept 3 (some .boolean), Cond.methodLink RX7 181 yX3_latestNumber, Cond.methodLink RX7 184 yX7_isPinned, Cond.instanceMethod yX7_isPinned, Cond.selects RX7 yX7_isPinned yX7_isPinned, Cond.code yX7_isPinned cX7_isPinned 3 (some .boolean), Cond.methodLink RX7 190 ⟨"HouseWorkers$Work", "pins", "(I)Z"⟩, Cond.sameMethod "HouseWorkers$Work" "HouseWorkers$Work" "pins" "(I)Z", Cond.selects RX1 ⟨"HouseWorkers$Work", "pins", "(I)Z"⟩ yX5_pins, Cond.instanceMethod yX5_pins, Cond.code yX5_pins cX5_pins 2 (some .boolean), Cond.methodLink RX5 40 ⟨"HouseWorkers$Work", "hasEnded", "()Z"⟩, Cond.selects RX2 ⟨"HouseWorkers$Work", "pins", "(I)Z"⟩ yX5_pins, Cond.selects RX4 ⟨"HouseWorkers$Work", "pins", "(I)Z"⟩ yX5_pins, Cond.selects RX6 ⟨"HouseWorkers$Work", "pins", "(I)Z"⟩ yX5_pins, Cond.methodLink RX7 187 ⟨"HouseWorkers$Work", "isToGet", "(I)Z"⟩, Cond.sameMethod "HouseWorkers$Work" "HouseWorkers$Work" "isToGet" "(I)Z", Cond.selects RX1 ⟨"HouseWorkers$Work", "isToGet", "(I)Z"⟩ yX5_isToGet, Cond.instanceMethod yX5_isToGet]
def wsL_law_r24 : List Cond := [Cond.code yX5_isToGet cX5_isToGet 2 (some .boolean), Cond.selects RX2 ⟨"HouseWorkers$Work", "isToGet", "(I)Z"⟩ yX5_isToGet, Cond.instanceMethod ⟨"HouseWorkers$Work", "isToGet", "(I)Z"⟩, Cond.selects RX4 ⟨"HouseWorkers$Work", "isToGet", "(I)Z"⟩ yX4_isToGet, Cond.instanceMethod yX4_isToGet, Cond.code yX4_isToGet cX4_isToGet 2 (some .boolean), Cond.methodLink RX4 36 ⟨"HouseWorkers$StreamWork", "hasEnded", "()Z"⟩, Cond.sameMethod "HouseWorkers$StreamWork" "HouseWorkers$Work" "hasEnded" "()Z", Cond.selects RX4 ⟨"HouseWorkers$StreamWork", "hasEnded", "()Z"⟩ yX5_hasEnded, Cond.selects RX6 ⟨"HouseWorkers$Work", "isToGet", "(I)Z"⟩ yX5_isToGet, Cond.methodLink RX7 145 yX0_at, Cond.methodLink RL 65 yX8_cell, Cond.instanceMethod yX8_cell, Cond.selects RX8 yX8_cell yX8_cell, Cond.code yX8_cell cX8_cell 3 (some .int), Cond.methodLink RX8 118 yX8_isKept, Cond.instanceMethod yX8_isKept, Cond.selects RX8 yX8_isKept yX8_isKept, Cond.code yX8_isKept cX8_isKept 4 (some .boolean), Cond.methodLink RX8 115 yX8_isPinned, Cond.instanceMethod yX8_isPinned, Cond.selects RX8 yX8_isPinned yX8_isPinned, Cond.code yX8_isPinned cX8_isPinned 4 (some .boolean), Cond.methodLink RX8 112 yX8_pinned]
def wsL_law_r25 : List Cond := [Cond.instanceMethod yX8_pinned, Cond.selects RX8 yX8_pinned yX8_pinned, Cond.code yX8_pinned cX8_pinned 3 (some .int), Cond.methodLink RL 66 yX7_count, Cond.instanceMethod yX7_count, Cond.selects RX7 yX7_count yX7_count, Cond.code yX7_count cX7_count 2 (some .int), Cond.methodLink RX7 148 yX3_size, Cond.instanceMethod yX3_size, Cond.selects RX3 yX3_size yX3_size, Cond.code yX3_size cX3_size 1 (some .int), Cond.methodLink RX7 149 yX7_countKept, Cond.instanceMethod yX7_countKept, Cond.selects RX7 yX7_countKept yX7_countKept, Cond.code yX7_countKept cX7_countKept 3 (some .int), Cond.methodLink RX7 152 yX7_countPinned, Cond.instanceMethod yX7_countPinned, Cond.selects RX7 yX7_countPinned yX7_countPinned, Cond.code yX7_countPinned cX7_countPinned 3 (some .int), Cond.methodLink RL 69 yX8_count, Cond.instanceMethod yX8_count, Cond.selects RX8 yX8_count yX8_count, Cond.code yX8_count cX8_count 4 (some .int)]
def wsL_law : List Cond := (wsL_law_r1 ++ (wsL_law_r2 ++ (wsL_law_r3 ++ (wsL_law_r4 ++ (wsL_law_r5 ++ (wsL_law_r6 ++ (wsL_law_r7 ++ (wsL_law_r8 ++ (wsL_law_r9 ++ (wsL_law_r10 ++ (wsL_law_r11 ++ (wsL_law_r12 ++ (wsL_law_r13 ++ (wsL_law_r14 ++ (wsL_law_r15 ++ (wsL_law_r16 ++ (wsL_law_r17 ++ (wsL_law_r18 ++ (wsL_law_r19 ++ (wsL_law_r20 ++ (wsL_law_r21 ++ (wsL_law_r22 ++ (wsL_law_r23 ++ (wsL_law_r24 ++ wsL_law_r25)))))))))))))))))))))))) ++ wsX70 ++ wsX80 ++ wsX30 ++ wsJx4a65c0 ++ wsX00 ++ wsX10 ++ wsX20 ++ wsX40 ++ wsX60 ++ ([] : List Cond)
abbrev vwCl : List vw_C := [(RJx4a65c, TJx4a65c, 3), (RX0, TX0, 1), (RX1, TX1, 13), (RX2, TX2, 12), (RX3, TX3, 3), (RX4, TX4, 11), (RX6, TX6, 14), (RX7, TX7, 6), (RX8, TX8, 22)]
end
section
set_option maxRecDepth 20000 in
theorem wsL_law_r1_in : ∀ w ∈ wsL_law_r1, w ∈ lw_tbl := fun w h => (goodIn_p wsL_law_r1 [48, 51, 56] rfl (by decide +kernel) w h).1
set_option maxRecDepth 20000 in
theorem wsL_law_r2_in : ∀ w ∈ wsL_law_r2, w ∈ lw_tbl := fun w h => (goodIn_p wsL_law_r2 [62, 73, 76] rfl (by decide +kernel) w h).1
set_option maxRecDepth 20000 in
theorem wsL_law_r3_in : ∀ w ∈ wsL_law_r3, w ∈ lw_tbl := fun w h => (goodIn_p wsL_law_r3 [79, 617] rfl (by decide +kernel) w h).1
set_option maxRecDepth 20000 in
theorem wsL_law_r4_in : ∀ w ∈ wsL_law_r4, w ∈ lw_tbl := fun w h => (goodIn_p wsL_law_r4 [129, 132, 136, 140, 144] rfl (by decide +kernel) w h).1
set_option maxRecDepth 20000 in
theorem wsL_law_r5_in : ∀ w ∈ wsL_law_r5, w ∈ lw_tbl := fun w h => (goodIn_p wsL_law_r5 [690, 693, 148, 151, 154, 158] rfl (by decide +kernel) w h).1
set_option maxRecDepth 20000 in
theorem wsL_law_r6_in : ∀ w ∈ wsL_law_r6, w ∈ lw_tbl := fun w h => (goodIn_p wsL_law_r6 [162, 167, 170] rfl (by decide +kernel) w h).1
set_option maxRecDepth 20000 in
theorem wsL_law_r7_in : ∀ w ∈ wsL_law_r7, w ∈ lw_tbl := fun w h => (goodIn_p wsL_law_r7 [176, 250, 254, 258] rfl (by decide +kernel) w h).1
set_option maxRecDepth 20000 in
theorem wsL_law_r8_in : ∀ w ∈ wsL_law_r8, w ∈ lw_tbl := fun w h => (goodIn_p wsL_law_r8 [262, 268, 265, 272, 275] rfl (by decide +kernel) w h).1
set_option maxRecDepth 20000 in
theorem wsL_law_r9_in : ∀ w ∈ wsL_law_r9, w ∈ lw_tbl := fun w h => (goodIn_p wsL_law_r9 [291, 297, 697, 701, 306] rfl (by decide +kernel) w h).1
set_option maxRecDepth 20000 in
theorem wsL_law_r10_in : ∀ w ∈ wsL_law_r10, w ∈ lw_tbl := fun w h => (goodIn_p wsL_law_r10 [311, 705, 339] rfl (by decide +kernel) w h).1
set_option maxRecDepth 20000 in
theorem wsL_law_r11_in : ∀ w ∈ wsL_law_r11, w ∈ lw_tbl := fun w h => (goodIn_p wsL_law_r11 [344, 709, 366, 371] rfl (by decide +kernel) w h).1
set_option maxRecDepth 20000 in
theorem wsL_law_r12_in : ∀ w ∈ wsL_law_r12, w ∈ lw_tbl := fun w h => (goodIn_p wsL_law_r12 [713, 389, 393, 397, 400, 403] rfl (by decide +kernel) w h).1
set_option maxRecDepth 20000 in
theorem wsL_law_r13_in : ∀ w ∈ wsL_law_r13, w ∈ lw_tbl := fun w h => (goodIn_p wsL_law_r13 [407, 412, 420, 424] rfl (by decide +kernel) w h).1
set_option maxRecDepth 20000 in
theorem wsL_law_r14_in : ∀ w ∈ wsL_law_r14, w ∈ lw_tbl := fun w h => (goodIn_p wsL_law_r14 [428, 436, 442, 445, 448] rfl (by decide +kernel) w h).1
set_option maxRecDepth 20000 in
theorem wsL_law_r15_in : ∀ w ∈ wsL_law_r15, w ∈ lw_tbl := fun w h => (goodIn_p wsL_law_r15 [451, 457, 461, 469] rfl (by decide +kernel) w h).1
set_option maxRecDepth 20000 in
theorem wsL_law_r16_in : ∀ w ∈ wsL_law_r16, w ∈ lw_tbl := fun w h => (goodIn_p wsL_law_r16 [476, 480, 486] rfl (by decide +kernel) w h).1
set_option maxRecDepth 20000 in
theorem wsL_law_r17_in : ∀ w ∈ wsL_law_r17, w ∈ lw_tbl := fun w h => (goodIn_p wsL_law_r17 [493, 499, 504, 508] rfl (by decide +kernel) w h).1
set_option maxRecDepth 20000 in
theorem wsL_law_r18_in : ∀ w ∈ wsL_law_r18, w ∈ lw_tbl := fun w h => (goodIn_p wsL_law_r18 [512, 517, 520] rfl (by decide +kernel) w h).1
set_option maxRecDepth 20000 in
theorem wsL_law_r19_in : ∀ w ∈ wsL_law_r19, w ∈ lw_tbl := fun w h => (goodIn_p wsL_law_r19 [525, 530, 534, 717, 721] rfl (by decide +kernel) w h).1
set_option maxRecDepth 20000 in
theorem wsL_law_r20_in : ∀ w ∈ wsL_law_r20, w ∈ lw_tbl := fun w h => (goodIn_p wsL_law_r20 [725, 729, 733, 737, 741, 538] rfl (by decide +kernel) w h).1
set_option maxRecDepth 20000 in
theorem wsL_law_r21_in : ∀ w ∈ wsL_law_r21, w ∈ lw_tbl := fun w h => (goodIn_p wsL_law_r21 [542, 745, 546, 750, 550] rfl (by decide +kernel) w h).1
set_option maxRecDepth 20000 in
theorem wsL_law_r22_in : ∀ w ∈ wsL_law_r22, w ∈ lw_tbl := fun w h => (goodIn_p wsL_law_r22 [754, 554, 758, 558, 762] rfl (by decide +kernel) w h).1
set_option maxRecDepth 20000 in
theorem wsL_law_r23_in : ∀ w ∈ wsL_law_r23, w ∈ lw_tbl := fun w h => (goodIn_p wsL_law_r23 [562, 567, 572, 580] rfl (by decide +kernel) w h).1
set_option maxRecDepth 20000 in
theorem wsL_law_r24_in : ∀ w ∈ wsL_law_r24, w ∈ lw_tbl := fun w h => (goodIn_p wsL_law_r24 [595, 589, 766, 770, 774] rfl (by decide +kernel) w h).1
set_option maxRecDepth 20000 in
theorem wsL_law_r25_in : ∀ w ∈ wsL_law_r25, w ∈ lw_tbl := fun w h => (goodIn_p wsL_law_r25 [778, 600, 604, 608, 612, 782] rfl (by decide +kernel) w h).1
theorem wsX70_in : ∀ w ∈ wsX70, w ∈ lw_tbl := by decide +kernel
theorem wsX80_in : ∀ w ∈ wsX80, w ∈ lw_tbl := by decide +kernel
theorem wsX30_in : ∀ w ∈ wsX30, w ∈ lw_tbl := by decide +kernel
theorem wsJx4a65c0_in : ∀ w ∈ wsJx4a65c0, w ∈ lw_tbl := by decide +kernel
theorem wsX00_in : ∀ w ∈ wsX00, w ∈ lw_tbl := by decide +kernel
theorem wsX10_in : ∀ w ∈ wsX10, w ∈ lw_tbl := by decide +kernel
theorem wsX20_in : ∀ w ∈ wsX20, w ∈ lw_tbl := by decide +kernel
theorem wsX40_in : ∀ w ∈ wsX40, w ∈ lw_tbl := by decide +kernel
theorem wsX60_in : ∀ w ∈ wsX60, w ∈ lw_tbl := by decide +kernel
theorem wsL_law_in : ∀ w ∈ wsL_law, w ∈ lw_tbl := (List.forall_mem_append.mpr ⟨(List.forall_mem_append.mpr ⟨(List.forall_mem_append.mpr ⟨(List.forall_mem_append.mpr ⟨(List.forall_mem_append.mpr ⟨(List.forall_mem_append.mpr ⟨(List.forall_mem_append.mpr ⟨(List.forall_mem_append.mpr ⟨(List.forall_mem_append.mpr ⟨(List.forall_mem_append.mpr ⟨(List.forall_mem_append.mpr ⟨wsL_law_r1_in, (List.forall_mem_append.mpr ⟨wsL_law_r2_in, (List.forall_mem_append.mpr ⟨wsL_law_r3_in, (List.forall_mem_append.mpr ⟨wsL_law_r4_in, (List.forall_mem_append.mpr ⟨wsL_law_r5_in, (List.forall_mem_append.mpr ⟨wsL_law_r6_in, (List.forall_mem_append.mpr ⟨wsL_law_r7_in, (List.forall_mem_append.mpr ⟨wsL_law_r8_in, (List.forall_mem_append.mpr ⟨wsL_law_r9_in, (List.forall_mem_append.mpr ⟨wsL_law_r10_in, (List.forall_mem_append.mpr ⟨wsL_law_r11_in, (List.forall_mem_append.mpr ⟨wsL_law_r12_in, (List.forall_mem_append.mpr ⟨wsL_law_r13_in, (List.forall_mem_append.mpr ⟨wsL_law_r14_in, (List.forall_mem_append.mpr ⟨wsL_law_r15_in, (List.forall_mem_append.mpr ⟨wsL_law_r16_in, (List.forall_mem_append.mpr ⟨wsL_law_r17_in, (List.forall_mem_append.mpr ⟨wsL_law_r18_in, (List.forall_mem_append.mpr ⟨wsL_law_r19_in, (List.forall_mem_append.mpr ⟨wsL_law_r20_in, (List.forall_mem_append.mpr ⟨wsL_law_r21_in, (List.forall_mem_append.mpr ⟨wsL_law_r22_in, (List.forall_mem_append.mpr ⟨wsL_law_r23_in, (List.forall_mem_append.mpr ⟨wsL_law_r24_in, wsL_law_r25_in⟩)⟩)⟩)⟩)⟩)⟩)⟩)⟩)⟩)⟩)⟩)⟩)⟩)⟩)⟩)⟩)⟩)⟩)⟩)⟩)⟩)⟩)⟩)⟩), wsX70_in⟩), wsX80_in⟩), wsX30_in⟩), wsJx4a65c0_in⟩), wsX00_in⟩), wsX10_in⟩), wsX20_in⟩), wsX40_in⟩), wsX60_in⟩), fun _ h => absurd h List.not_mem_nil⟩)
end
section
theorem inlX0 : ∀ w ∈ wsX00, w ∈ wsL_law := fun _ h => List.mem_append_left _ (List.mem_append_left _ (List.mem_append_left _ (List.mem_append_left _ (List.mem_append_left _ (List.mem_append_right _ h)))))
theorem inX0 : ∀ w ∈ wsX00, w ∈ lw_tbl := fun w h => wsL_law_in w (inlX0 w h)
theorem inlX1 : ∀ w ∈ wsX10, w ∈ wsL_law := fun _ h => List.mem_append_left _ (List.mem_append_left _ (List.mem_append_left _ (List.mem_append_left _ (List.mem_append_right _ h))))
theorem inX1 : ∀ w ∈ wsX10, w ∈ lw_tbl := fun w h => wsL_law_in w (inlX1 w h)
theorem inlX2 : ∀ w ∈ wsX20, w ∈ wsL_law := fun _ h => List.mem_append_left _ (List.mem_append_left _ (List.mem_append_left _ (List.mem_append_right _ h)))
theorem inX2 : ∀ w ∈ wsX20, w ∈ lw_tbl := fun w h => wsL_law_in w (inlX2 w h)
theorem inlX3 : ∀ w ∈ wsX30, w ∈ wsL_law := fun _ h => List.mem_append_left _ (List.mem_append_left _ (List.mem_append_left _ (List.mem_append_left _ (List.mem_append_left _ (List.mem_append_left _ (List.mem_append_left _ (List.mem_append_right _ h)))))))
theorem inX3 : ∀ w ∈ wsX30, w ∈ lw_tbl := fun w h => wsL_law_in w (inlX3 w h)
theorem inlX4 : ∀ w ∈ wsX40, w ∈ wsL_law := fun _ h => List.mem_append_left _ (List.mem_append_left _ (List.mem_append_right _ h))
theorem inX4 : ∀ w ∈ wsX40, w ∈ lw_tbl := fun w h => wsL_law_in w (inlX4 w h)
theorem inX5 : ∀ w ∈ wsX50, w ∈ lw_tbl := by decide +kernel
theorem inlX6 : ∀ w ∈ wsX60, w ∈ wsL_law := fun _ h => List.mem_append_left _ (List.mem_append_right _ h)
theorem inX6 : ∀ w ∈ wsX60, w ∈ lw_tbl := fun w h => wsL_law_in w (inlX6 w h)
theorem inlX7 : ∀ w ∈ wsX70, w ∈ wsL_law := fun _ h => List.mem_append_left _ (List.mem_append_left _ (List.mem_append_left _ (List.mem_append_left _ (List.mem_append_left _ (List.mem_append_left _ (List.mem_append_left _ (List.mem_append_left _ (List.mem_append_left _ (List.mem_append_right _ h)))))))))
theorem inX7 : ∀ w ∈ wsX70, w ∈ lw_tbl := fun w h => wsL_law_in w (inlX7 w h)
theorem inlX8 : ∀ w ∈ wsX80, w ∈ wsL_law := fun _ h => List.mem_append_left _ (List.mem_append_left _ (List.mem_append_left _ (List.mem_append_left _ (List.mem_append_left _ (List.mem_append_left _ (List.mem_append_left _ (List.mem_append_left _ (List.mem_append_right _ h))))))))
theorem inX8 : ∀ w ∈ wsX80, w ∈ lw_tbl := fun w h => wsL_law_in w (inlX8 w h)
theorem inJx145de : ∀ w ∈ wsJx145de0, w ∈ lw_tbl := by decide +kernel
theorem inJx8e188 : ∀ w ∈ wsJx8e1880, w ∈ lw_tbl := by decide +kernel
theorem inJxab1ab : ∀ w ∈ wsJxab1ab0, w ∈ lw_tbl := by decide +kernel
theorem inJ9 : ∀ w ∈ wsJ90, w ∈ lw_tbl := by decide +kernel
theorem inJ10 : ∀ w ∈ wsJ100, w ∈ lw_tbl := by decide +kernel
theorem inJxa1e45 : ∀ w ∈ wsJxa1e450, w ∈ lw_tbl := by decide +kernel
theorem inJxc12de : ∀ w ∈ wsJxc12de0, w ∈ lw_tbl := by decide +kernel
theorem inlJx4a65c : ∀ w ∈ wsJx4a65c0, w ∈ wsL_law := fun _ h => List.mem_append_left _ (List.mem_append_left _ (List.mem_append_left _ (List.mem_append_left _ (List.mem_append_left _ (List.mem_append_left _ (List.mem_append_right _ h))))))
theorem inJx4a65c : ∀ w ∈ wsJx4a65c0, w ∈ lw_tbl := fun w h => wsL_law_in w (inlJx4a65c w h)
theorem inJ7 : ∀ w ∈ wsJ70, w ∈ lw_tbl := by decide +kernel
theorem inJx5ef63 : ∀ w ∈ wsJx5ef630, w ∈ lw_tbl := by decide +kernel
theorem inJxbd725 : ∀ w ∈ wsJxbd7250, w ∈ lw_tbl := by decide +kernel
theorem inJ15 : ∀ w ∈ wsJ150, w ∈ lw_tbl := by decide +kernel
theorem inJxf0a74 : ∀ w ∈ wsJxf0a740, w ∈ lw_tbl := by decide +kernel
theorem inJxa66e6 : ∀ w ∈ wsJxa66e60, w ∈ lw_tbl := by decide +kernel
theorem inJ8 : ∀ w ∈ wsJ80, w ∈ lw_tbl := by decide +kernel
theorem inJ3 : ∀ w ∈ wsJ30, w ∈ lw_tbl := by decide +kernel
end
section
theorem dX0_init_0 : decode cX0_init 0 = .ok (.aload_n 0, 1) := by decide +kernel
theorem dX0_init_1 : decode cX0_init 1 = .ok (.invokespecial 3, 3) := by decide +kernel
theorem dX0_init_4 : decode cX0_init 4 = .ok (.aload_n 0, 1) := by decide +kernel
theorem dX0_init_5 : decode cX0_init 5 = .ok (.bipush 16, 2) := by decide +kernel
theorem dX0_init_7 : decode cX0_init 7 = .ok (.newarray .int, 2) := by decide +kernel
theorem dX0_init_9 : decode cX0_init 9 = .ok (.putfield 9, 3) := by decide +kernel
theorem dX0_init_12 : decode cX0_init 12 = .ok (.return_, 1) := by decide +kernel
theorem dX0_at_0 : decode cX0_at 0 = .ok (.aload_n 0, 1) := by decide +kernel
theorem dX0_at_1 : decode cX0_at 1 = .ok (.getfield 9, 3) := by decide +kernel
theorem dX0_at_4 : decode cX0_at 4 = .ok (.iload_n 1, 1) := by decide +kernel
theorem dX0_at_5 : decode cX0_at 5 = .ok (.bipush 15, 2) := by decide +kernel
theorem dX0_at_7 : decode cX0_at 7 = .ok (.iand, 1) := by decide +kernel
theorem dX0_at_8 : decode cX0_at 8 = .ok (.iaload, 1) := by decide +kernel
theorem dX0_at_9 : decode cX0_at 9 = .ok (.ireturn, 1) := by decide +kernel
theorem dX0_set_0 : decode cX0_set 0 = .ok (.aload_n 0, 1) := by decide +kernel
theorem dX0_set_1 : decode cX0_set 1 = .ok (.getfield 9, 3) := by decide +kernel
theorem dX0_set_4 : decode cX0_set 4 = .ok (.iload_n 1, 1) := by decide +kernel
theorem dX0_set_5 : decode cX0_set 5 = .ok (.bipush 15, 2) := by decide +kernel
theorem dX0_set_7 : decode cX0_set 7 = .ok (.iand, 1) := by decide +kernel
theorem dX0_set_8 : decode cX0_set 8 = .ok (.iload_n 2, 1) := by decide +kernel
theorem dX0_set_9 : decode cX0_set 9 = .ok (.iastore, 1) := by decide +kernel
theorem dX0_set_10 : decode cX0_set 10 = .ok (.return_, 1) := by decide +kernel
theorem dX0_add_0 : decode cX0_add 0 = .ok (.aload_n 0, 1) := by decide +kernel
theorem dX0_add_1 : decode cX0_add 1 = .ok (.getfield 9, 3) := by decide +kernel
theorem dX0_add_4 : decode cX0_add 4 = .ok (.iload_n 1, 1) := by decide +kernel
theorem dX0_add_5 : decode cX0_add 5 = .ok (.bipush 15, 2) := by decide +kernel
theorem dX0_add_7 : decode cX0_add 7 = .ok (.iand, 1) := by decide +kernel
theorem dX0_add_8 : decode cX0_add 8 = .ok (.dup2, 1) := by decide +kernel
theorem dX0_add_9 : decode cX0_add 9 = .ok (.iaload, 1) := by decide +kernel
theorem dX0_add_10 : decode cX0_add 10 = .ok (.iload_n 2, 1) := by decide +kernel
theorem dX0_add_11 : decode cX0_add 11 = .ok (.iadd, 1) := by decide +kernel
theorem dX0_add_12 : decode cX0_add 12 = .ok (.iastore, 1) := by decide +kernel
theorem dX0_add_13 : decode cX0_add 13 = .ok (.return_, 1) := by decide +kernel
theorem dX0_addAll_0 : decode cX0_addAll 0 = .ok (.iconst 0, 1) := by decide +kernel
theorem dX0_addAll_1 : decode cX0_addAll 1 = .ok (.istore_n 2, 1) := by decide +kernel
theorem dX0_addAll_2 : decode cX0_addAll 2 = .ok (.iload_n 2, 1) := by decide +kernel
theorem dX0_addAll_3 : decode cX0_addAll 3 = .ok (.bipush 16, 2) := by decide +kernel
theorem dX0_addAll_5 : decode cX0_addAll 5 = .ok (.if_icmp .ge 24, 3) := by decide +kernel
theorem dX0_addAll_8 : decode cX0_addAll 8 = .ok (.aload_n 0, 1) := by decide +kernel
theorem dX0_addAll_9 : decode cX0_addAll 9 = .ok (.getfield 9, 3) := by decide +kernel
theorem dX0_addAll_12 : decode cX0_addAll 12 = .ok (.iload_n 2, 1) := by decide +kernel
theorem dX0_addAll_13 : decode cX0_addAll 13 = .ok (.dup2, 1) := by decide +kernel
theorem dX0_addAll_14 : decode cX0_addAll 14 = .ok (.iaload, 1) := by decide +kernel
theorem dX0_addAll_15 : decode cX0_addAll 15 = .ok (.aload_n 1, 1) := by decide +kernel
theorem dX0_addAll_16 : decode cX0_addAll 16 = .ok (.getfield 9, 3) := by decide +kernel
theorem dX0_addAll_19 : decode cX0_addAll 19 = .ok (.iload_n 2, 1) := by decide +kernel
theorem dX0_addAll_20 : decode cX0_addAll 20 = .ok (.iaload, 1) := by decide +kernel
theorem dX0_addAll_21 : decode cX0_addAll 21 = .ok (.iadd, 1) := by decide +kernel
theorem dX0_addAll_22 : decode cX0_addAll 22 = .ok (.iastore, 1) := by decide +kernel
theorem dX0_addAll_23 : decode cX0_addAll 23 = .ok (.iinc 2 1, 3) := by decide +kernel
theorem dX0_addAll_26 : decode cX0_addAll 26 = .ok (.goto (-24), 3) := by decide +kernel
theorem dX0_addAll_29 : decode cX0_addAll 29 = .ok (.return_, 1) := by decide +kernel
theorem dX0_takeAll_0 : decode cX0_takeAll 0 = .ok (.iconst 0, 1) := by decide +kernel
theorem dX0_takeAll_1 : decode cX0_takeAll 1 = .ok (.istore_n 2, 1) := by decide +kernel
theorem dX0_takeAll_2 : decode cX0_takeAll 2 = .ok (.iload_n 2, 1) := by decide +kernel
theorem dX0_takeAll_3 : decode cX0_takeAll 3 = .ok (.bipush 16, 2) := by decide +kernel
theorem dX0_takeAll_5 : decode cX0_takeAll 5 = .ok (.if_icmp .ge 21, 3) := by decide +kernel
theorem dX0_takeAll_8 : decode cX0_takeAll 8 = .ok (.aload_n 0, 1) := by decide +kernel
theorem dX0_takeAll_9 : decode cX0_takeAll 9 = .ok (.getfield 9, 3) := by decide +kernel
theorem dX0_takeAll_12 : decode cX0_takeAll 12 = .ok (.iload_n 2, 1) := by decide +kernel
theorem dX0_takeAll_13 : decode cX0_takeAll 13 = .ok (.aload_n 1, 1) := by decide +kernel
theorem dX0_takeAll_14 : decode cX0_takeAll 14 = .ok (.getfield 9, 3) := by decide +kernel
theorem dX0_takeAll_17 : decode cX0_takeAll 17 = .ok (.iload_n 2, 1) := by decide +kernel
theorem dX0_takeAll_18 : decode cX0_takeAll 18 = .ok (.iaload, 1) := by decide +kernel
theorem dX0_takeAll_19 : decode cX0_takeAll 19 = .ok (.iastore, 1) := by decide +kernel
theorem dX0_takeAll_20 : decode cX0_takeAll 20 = .ok (.iinc 2 1, 3) := by decide +kernel
theorem dX0_takeAll_23 : decode cX0_takeAll 23 = .ok (.goto (-21), 3) := by decide +kernel
theorem dX0_takeAll_26 : decode cX0_takeAll 26 = .ok (.return_, 1) := by decide +kernel
theorem dX0_spread_0 : decode cX0_spread 0 = .ok (.aload_n 0, 1) := by decide +kernel
theorem dX0_spread_1 : decode cX0_spread 1 = .ok (.getfield 9, 3) := by decide +kernel
theorem dX0_spread_4 : decode cX0_spread 4 = .ok (.bipush 15, 2) := by decide +kernel
theorem dX0_spread_6 : decode cX0_spread 6 = .ok (.iaload, 1) := by decide +kernel
theorem dX0_spread_7 : decode cX0_spread 7 = .ok (.istore_n 1, 1) := by decide +kernel
theorem dX0_spread_8 : decode cX0_spread 8 = .ok (.iconst 0, 1) := by decide +kernel
theorem dX0_spread_9 : decode cX0_spread 9 = .ok (.istore_n 2, 1) := by decide +kernel
theorem dX0_spread_10 : decode cX0_spread 10 = .ok (.iload_n 2, 1) := by decide +kernel
theorem dX0_spread_11 : decode cX0_spread 11 = .ok (.bipush 16, 2) := by decide +kernel
theorem dX0_spread_13 : decode cX0_spread 13 = .ok (.if_icmp .ge 29, 3) := by decide +kernel
theorem dX0_spread_16 : decode cX0_spread 16 = .ok (.aload_n 0, 1) := by decide +kernel
theorem dX0_spread_17 : decode cX0_spread 17 = .ok (.getfield 9, 3) := by decide +kernel
theorem dX0_spread_20 : decode cX0_spread 20 = .ok (.iload_n 2, 1) := by decide +kernel
theorem dX0_spread_21 : decode cX0_spread 21 = .ok (.iaload, 1) := by decide +kernel
theorem dX0_spread_22 : decode cX0_spread 22 = .ok (.istore_n 3, 1) := by decide +kernel
theorem dX0_spread_23 : decode cX0_spread 23 = .ok (.aload_n 0, 1) := by decide +kernel
theorem dX0_spread_24 : decode cX0_spread 24 = .ok (.getfield 9, 3) := by decide +kernel
theorem dX0_spread_27 : decode cX0_spread 27 = .ok (.iload_n 2, 1) := by decide +kernel
theorem dX0_spread_28 : decode cX0_spread 28 = .ok (.iload_n 3, 1) := by decide +kernel
theorem dX0_spread_29 : decode cX0_spread 29 = .ok (.iload_n 1, 1) := by decide +kernel
theorem dX0_spread_30 : decode cX0_spread 30 = .ok (.invokestatic 15, 3) := by decide +kernel
theorem dX0_spread_33 : decode cX0_spread 33 = .ok (.iastore, 1) := by decide +kernel
theorem dX0_spread_34 : decode cX0_spread 34 = .ok (.iload_n 3, 1) := by decide +kernel
theorem dX0_spread_35 : decode cX0_spread 35 = .ok (.istore_n 1, 1) := by decide +kernel
theorem dX0_spread_36 : decode cX0_spread 36 = .ok (.iinc 2 1, 3) := by decide +kernel
theorem dX0_spread_39 : decode cX0_spread 39 = .ok (.goto (-29), 3) := by decide +kernel
theorem dX0_spread_42 : decode cX0_spread 42 = .ok (.return_, 1) := by decide +kernel
theorem dX0_sum_0 : decode cX0_sum 0 = .ok (.iconst 0, 1) := by decide +kernel
theorem dX0_sum_1 : decode cX0_sum 1 = .ok (.istore_n 1, 1) := by decide +kernel
theorem dX0_sum_2 : decode cX0_sum 2 = .ok (.iconst 0, 1) := by decide +kernel
theorem dX0_sum_3 : decode cX0_sum 3 = .ok (.istore_n 2, 1) := by decide +kernel
theorem dX0_sum_4 : decode cX0_sum 4 = .ok (.iload_n 2, 1) := by decide +kernel
theorem dX0_sum_5 : decode cX0_sum 5 = .ok (.bipush 16, 2) := by decide +kernel
theorem dX0_sum_7 : decode cX0_sum 7 = .ok (.if_icmp .ge 18, 3) := by decide +kernel
theorem dX0_sum_10 : decode cX0_sum 10 = .ok (.iload_n 1, 1) := by decide +kernel
theorem dX0_sum_11 : decode cX0_sum 11 = .ok (.aload_n 0, 1) := by decide +kernel
theorem dX0_sum_12 : decode cX0_sum 12 = .ok (.getfield 9, 3) := by decide +kernel
theorem dX0_sum_15 : decode cX0_sum 15 = .ok (.iload_n 2, 1) := by decide +kernel
theorem dX0_sum_16 : decode cX0_sum 16 = .ok (.iaload, 1) := by decide +kernel
theorem dX0_sum_17 : decode cX0_sum 17 = .ok (.iadd, 1) := by decide +kernel
theorem dX0_sum_18 : decode cX0_sum 18 = .ok (.istore_n 1, 1) := by decide +kernel
theorem dX0_sum_19 : decode cX0_sum 19 = .ok (.iinc 2 1, 3) := by decide +kernel
theorem dX0_sum_22 : decode cX0_sum 22 = .ok (.goto (-18), 3) := by decide +kernel
theorem dX0_sum_25 : decode cX0_sum 25 = .ok (.iload_n 1, 1) := by decide +kernel
theorem dX0_sum_26 : decode cX0_sum 26 = .ok (.ireturn, 1) := by decide +kernel
set_option maxRecDepth 20000 in
theorem ggX1_init_X5_init : GoodIn wsX1_init wsX5_init := goodIn_r _ [10, 11, 12, 13, 14, 15, 16, 17, 18, 19, 20, 38, 39, 40, 41, 42, 43, 44, 45, 46, 47, 48, 49, 50, 51, 52, 53, 54, 55, 56, 57, 58, 59, 60, 61, 62, 63, 64, 65, 66, 67, 68, 69, 70, 71, 72, 73, 74, 75, 76, 77, 78, 79, 80, 81, 82, 83, 84, 85, 86, 87] (by decide +kernel) (by decide +kernel)
set_option maxRecDepth 20000 in
theorem gX1_init_X5_init : GoodIn wsX1_init (wsX5_init) := ggX1_init_X5_init
set_option maxRecDepth 20000 in
theorem ggX1_init_X3_latest : GoodIn wsX1_init wsX3_latest := goodIn_r _ [25, 26, 88, 89, 90] (by decide +kernel) (by decide +kernel)
set_option maxRecDepth 20000 in
theorem gX1_init_X3_latest : GoodIn wsX1_init (wsV RX1 15 RX3 yX3_latest wsX3_latest) := goodIn_app (goodIn_of _ (by decide +kernel)) ggX1_init_X3_latest
set_option maxRecDepth 20000 in
theorem ggX1_init_X3_latestNumber : GoodIn wsX1_init wsX3_latestNumber := goodIn_r _ [30, 31, 32, 33, 34, 35, 36, 37, 88, 89, 90, 91, 92, 93] (by decide +kernel) (by decide +kernel)
set_option maxRecDepth 20000 in
theorem gX1_init_X3_latestNumber : GoodIn wsX1_init (wsV RX1 25 RX3 yX3_latestNumber wsX3_latestNumber) := goodIn_app (goodIn_of _ (by decide +kernel)) ggX1_init_X3_latestNumber
theorem dX1_init_0 : decode cX1_init 0 = .ok (.aload_n 0, 1) := by decide +kernel
theorem dX1_init_1 : decode cX1_init 1 = .ok (.iload_n 1, 1) := by decide +kernel
theorem dX1_init_2 : decode cX1_init 2 = .ok (.iconst 0, 1) := by decide +kernel
theorem dX1_init_3 : decode cX1_init 3 = .ok (.iload_n 2, 1) := by decide +kernel
theorem dX1_init_4 : decode cX1_init 4 = .ok (.iload_n 3, 1) := by decide +kernel
theorem dX1_init_5 : decode cX1_init 5 = .ok (.invokespecial 3, 3) := by decide +kernel
theorem dX1_init_8 : decode cX1_init 8 = .ok (.aload_n 0, 1) := by decide +kernel
theorem dX1_init_9 : decode cX1_init 9 = .ok (.iload 4, 2) := by decide +kernel
theorem dX1_init_11 : decode cX1_init 11 = .ok (.putfield 9, 3) := by decide +kernel
theorem dX1_init_14 : decode cX1_init 14 = .ok (.aload_n 0, 1) := by decide +kernel
theorem dX1_init_15 : decode cX1_init 15 = .ok (.aload 5, 2) := by decide +kernel
theorem dX1_init_17 : decode cX1_init 17 = .ok (.invokevirtual 15, 3) := by decide +kernel
theorem dX1_init_20 : decode cX1_init 20 = .ok (.putfield 21, 3) := by decide +kernel
theorem dX1_init_23 : decode cX1_init 23 = .ok (.aload_n 0, 1) := by decide +kernel
theorem dX1_init_24 : decode cX1_init 24 = .ok (.aload 5, 2) := by decide +kernel
theorem dX1_init_26 : decode cX1_init 26 = .ok (.invokevirtual 25, 3) := by decide +kernel
theorem dX1_init_29 : decode cX1_init 29 = .ok (.putfield 29, 3) := by decide +kernel
theorem dX1_init_32 : decode cX1_init 32 = .ok (.aload_n 0, 1) := by decide +kernel
theorem dX1_init_33 : decode cX1_init 33 = .ok (.aload_n 0, 1) := by decide +kernel
theorem dX1_init_34 : decode cX1_init 34 = .ok (.getfield 29, 3) := by decide +kernel
theorem dX1_init_37 : decode cX1_init 37 = .ok (.putfield 32, 3) := by decide +kernel
theorem dX1_init_40 : decode cX1_init 40 = .ok (.return_, 1) := by decide +kernel
theorem dX1_waits_0 : decode cX1_waits 0 = .ok (.iconst 0, 1) := by decide +kernel
theorem dX1_waits_1 : decode cX1_waits 1 = .ok (.ireturn, 1) := by decide +kernel
set_option maxRecDepth 20000 in
theorem ggX1_goOn_X0_at : GoodIn wsX1_goOn wsX0_at := goodIn_r _ [11, 12, 71] (by decide +kernel) (by decide +kernel)
set_option maxRecDepth 20000 in
theorem gX1_goOn_X0_at : GoodIn wsX1_goOn (wsV RX1 41 RX0 yX0_at wsX0_at) := goodIn_app (goodIn_of _ (by decide +kernel)) ggX1_goOn_X0_at
set_option maxRecDepth 20000 in
theorem ggX1_goOn_X5_hasDoneAllSteps : GoodIn wsX1_goOn wsX5_hasDoneAllSteps := goodIn_r _ [18, 19, 20, 21, 22, 23, 24, 25, 26, 27, 28, 29, 30, 31, 32, 33, 34, 35, 36, 37, 38, 39, 40, 41, 42, 43, 44, 45, 46, 47, 48, 49, 50, 51, 52, 53, 54, 55, 56, 57, 58, 59, 60, 61, 62, 63, 64, 65, 66, 67, 68, 69, 70] (by decide +kernel) (by decide +kernel)
set_option maxRecDepth 20000 in
theorem gX1_goOn_X5_hasDoneAllSteps_u47X1 : GoodIn wsX1_goOn (va_wsU RX1 47 RX1 "HouseWorkers$Work" ⟨"HouseWorkers$QuestionWork", "hasDoneAllSteps", "()Z"⟩ yX5_hasDoneAllSteps wsX5_hasDoneAllSteps) := goodIn_app (goodIn_of _ (by decide +kernel)) ggX1_goOn_X5_hasDoneAllSteps
theorem dX1_goOn_0 : decode cX1_goOn 0 = .ok (.aload_n 0, 1) := by decide +kernel
theorem dX1_goOn_1 : decode cX1_goOn 1 = .ok (.bipush 31, 2) := by decide +kernel
theorem dX1_goOn_3 : decode cX1_goOn 3 = .ok (.aload_n 0, 1) := by decide +kernel
theorem dX1_goOn_4 : decode cX1_goOn 4 = .ok (.getfield 35, 3) := by decide +kernel
theorem dX1_goOn_7 : decode cX1_goOn 7 = .ok (.imul, 1) := by decide +kernel
theorem dX1_goOn_8 : decode cX1_goOn 8 = .ok (.aload_n 0, 1) := by decide +kernel
theorem dX1_goOn_9 : decode cX1_goOn 9 = .ok (.getfield 21, 3) := by decide +kernel
theorem dX1_goOn_12 : decode cX1_goOn 12 = .ok (.aload_n 0, 1) := by decide +kernel
theorem dX1_goOn_13 : decode cX1_goOn 13 = .ok (.getfield 9, 3) := by decide +kernel
theorem dX1_goOn_16 : decode cX1_goOn 16 = .ok (.aload_n 0, 1) := by decide +kernel
theorem dX1_goOn_17 : decode cX1_goOn 17 = .ok (.getfield 38, 3) := by decide +kernel
theorem dX1_goOn_20 : decode cX1_goOn 20 = .ok (.iadd, 1) := by decide +kernel
theorem dX1_goOn_21 : decode cX1_goOn 21 = .ok (.invokevirtual 41, 3) := by decide +kernel
theorem dX1_goOn_24 : decode cX1_goOn 24 = .ok (.iadd, 1) := by decide +kernel
theorem dX1_goOn_25 : decode cX1_goOn 25 = .ok (.putfield 35, 3) := by decide +kernel
theorem dX1_goOn_28 : decode cX1_goOn 28 = .ok (.aload_n 0, 1) := by decide +kernel
theorem dX1_goOn_29 : decode cX1_goOn 29 = .ok (.dup, 1) := by decide +kernel
theorem dX1_goOn_30 : decode cX1_goOn 30 = .ok (.getfield 38, 3) := by decide +kernel
theorem dX1_goOn_33 : decode cX1_goOn 33 = .ok (.iconst 1, 1) := by decide +kernel
theorem dX1_goOn_34 : decode cX1_goOn 34 = .ok (.iadd, 1) := by decide +kernel
theorem dX1_goOn_35 : decode cX1_goOn 35 = .ok (.putfield 38, 3) := by decide +kernel
theorem dX1_goOn_38 : decode cX1_goOn 38 = .ok (.aload_n 0, 1) := by decide +kernel
theorem dX1_goOn_39 : decode cX1_goOn 39 = .ok (.invokevirtual 47, 3) := by decide +kernel
theorem dX1_goOn_42 : decode cX1_goOn 42 = .ok (.ifCond .eq 7, 3) := by decide +kernel
theorem dX1_goOn_45 : decode cX1_goOn 45 = .ok (.iconst 2, 1) := by decide +kernel
theorem dX1_goOn_46 : decode cX1_goOn 46 = .ok (.goto 4, 3) := by decide +kernel
theorem dX1_goOn_49 : decode cX1_goOn 49 = .ok (.iconst 1, 1) := by decide +kernel
theorem dX1_goOn_50 : decode cX1_goOn 50 = .ok (.ireturn, 1) := by decide +kernel
set_option maxRecDepth 20000 in
theorem ggX2_init_X5_init : GoodIn wsX2_init wsX5_init := goodIn_r _ [8, 9, 10, 11, 12, 13, 14, 15, 16, 17, 18, 37, 38, 39, 40, 41, 42, 43, 44, 45, 46, 47, 48, 49, 25, 26, 27, 28, 29, 30, 31, 32, 33, 34, 35, 36, 50, 51, 52, 53, 54, 55, 56, 57, 58, 59, 60, 61, 62, 63, 64, 65, 66, 67, 68, 69, 70, 71, 72, 73, 74] (by decide +kernel) (by decide +kernel)
set_option maxRecDepth 20000 in
theorem gX2_init_X5_init : GoodIn wsX2_init (wsX5_init) := ggX2_init_X5_init
set_option maxRecDepth 20000 in
theorem ggX2_init_X0_init : GoodIn wsX2_init wsX0_init := goodIn_r _ [20, 21, 10, 11, 22, 23, 24] (by decide +kernel) (by decide +kernel)
set_option maxRecDepth 20000 in
theorem gX2_init_X0_init_n11 : GoodIn wsX2_init (wsX0_init) := ggX2_init_X0_init
theorem dX2_init_0 : decode cX2_init 0 = .ok (.aload_n 0, 1) := by decide +kernel
theorem dX2_init_1 : decode cX2_init 1 = .ok (.iload_n 1, 1) := by decide +kernel
theorem dX2_init_2 : decode cX2_init 2 = .ok (.iconst 2, 1) := by decide +kernel
theorem dX2_init_3 : decode cX2_init 3 = .ok (.iload_n 2, 1) := by decide +kernel
theorem dX2_init_4 : decode cX2_init 4 = .ok (.iload_n 3, 1) := by decide +kernel
theorem dX2_init_5 : decode cX2_init 5 = .ok (.invokespecial 3, 3) := by decide +kernel
theorem dX2_init_8 : decode cX2_init 8 = .ok (.aload_n 0, 1) := by decide +kernel
theorem dX2_init_9 : decode cX2_init 9 = .ok (.new 9, 3) := by decide +kernel
theorem dX2_init_12 : decode cX2_init 12 = .ok (.dup, 1) := by decide +kernel
theorem dX2_init_13 : decode cX2_init 13 = .ok (.invokespecial 11, 3) := by decide +kernel
theorem dX2_init_16 : decode cX2_init 16 = .ok (.putfield 14, 3) := by decide +kernel
theorem dX2_init_19 : decode cX2_init 19 = .ok (.return_, 1) := by decide +kernel
theorem dX2_waits_0 : decode cX2_waits 0 = .ok (.aload_n 0, 1) := by decide +kernel
theorem dX2_waits_1 : decode cX2_waits 1 = .ok (.getfield 20, 3) := by decide +kernel
theorem dX2_waits_4 : decode cX2_waits 4 = .ok (.ifCond .ne 11, 3) := by decide +kernel
theorem dX2_waits_7 : decode cX2_waits 7 = .ok (.iload_n 2, 1) := by decide +kernel
theorem dX2_waits_8 : decode cX2_waits 8 = .ok (.ifCond .ne 7, 3) := by decide +kernel
theorem dX2_waits_11 : decode cX2_waits 11 = .ok (.iconst 1, 1) := by decide +kernel
theorem dX2_waits_12 : decode cX2_waits 12 = .ok (.goto 4, 3) := by decide +kernel
theorem dX2_waits_15 : decode cX2_waits 15 = .ok (.iconst 0, 1) := by decide +kernel
theorem dX2_waits_16 : decode cX2_waits 16 = .ok (.ireturn, 1) := by decide +kernel
set_option maxRecDepth 20000 in
theorem ggX2_goOn_X5_hasDoneAllSteps : GoodIn wsX2_goOn wsX5_hasDoneAllSteps := goodIn_r _ [13, 14, 15, 114, 115, 116, 117, 118, 119, 120, 121, 122, 123, 124, 125, 126, 102, 103, 104, 105, 106, 107, 108, 109, 110, 111, 112, 113, 127, 128, 129, 130, 131, 132, 133, 134, 135, 136, 137, 138, 139, 140, 141, 142, 143, 144, 145, 146, 147, 148, 149, 150, 151] (by decide +kernel) (by decide +kernel)
set_option maxRecDepth 20000 in
theorem gX2_goOn_X5_hasDoneAllSteps_u24X2 : GoodIn wsX2_goOn (va_wsU RX2 24 RX2 "HouseWorkers$Work" ⟨"HouseWorkers$ReasoningWork", "hasDoneAllSteps", "()Z"⟩ yX5_hasDoneAllSteps wsX5_hasDoneAllSteps) := goodIn_app (goodIn_of _ (by decide +kernel)) ggX2_goOn_X5_hasDoneAllSteps
set_option maxRecDepth 20000 in
theorem ggX2_goOn_X3_commit : GoodIn wsX2_goOn wsX3_commit := goodIn_r _ [20, 21, 22, 23, 24, 25, 26, 27, 28, 29, 30, 31, 32, 33, 34, 35, 36, 37, 38, 39, 40, 41, 42, 43, 44, 45, 46, 47, 48, 49, 50, 51, 52, 53, 54, 55, 56, 57, 58, 59, 60, 61, 62, 63, 64, 65, 66, 67, 68, 69, 70, 71, 72, 73, 74, 75, 76, 77, 78, 79, 80, 81, 82, 152, 153, 154, 155, 156, 157] (by decide +kernel) (by decide +kernel)
set_option maxRecDepth 20000 in
theorem gX2_goOn_X3_commit : GoodIn wsX2_goOn (wsV RX2 28 RX3 yX3_commit wsX3_commit) := goodIn_app (goodIn_of _ (by decide +kernel)) ggX2_goOn_X3_commit
set_option maxRecDepth 20000 in
theorem ggX2_goOn_X3_latest : GoodIn wsX2_goOn wsX3_latest := goodIn_r _ [86, 22, 152, 153, 154] (by decide +kernel) (by decide +kernel)
set_option maxRecDepth 20000 in
theorem gX2_goOn_X3_latest : GoodIn wsX2_goOn (wsV RX2 37 RX3 yX3_latest wsX3_latest) := goodIn_app (goodIn_of _ (by decide +kernel)) ggX2_goOn_X3_latest
set_option maxRecDepth 20000 in
theorem ggX2_goOn_X0_takeAll : GoodIn wsX2_goOn wsX0_takeAll := goodIn_r _ [91, 92, 158] (by decide +kernel) (by decide +kernel)
set_option maxRecDepth 20000 in
theorem gX2_goOn_X0_takeAll : GoodIn wsX2_goOn (wsV RX2 41 RX0 yX0_takeAll wsX0_takeAll) := goodIn_app (goodIn_of _ (by decide +kernel)) ggX2_goOn_X0_takeAll
set_option maxRecDepth 20000 in
theorem ggX2_goOn_X3_latestNumber : GoodIn wsX2_goOn wsX3_latestNumber := goodIn_r _ [96, 21, 79, 80, 81, 26, 82, 31, 152, 153, 154, 155, 156, 157] (by decide +kernel) (by decide +kernel)
set_option maxRecDepth 20000 in
theorem gX2_goOn_X3_latestNumber : GoodIn wsX2_goOn (wsV RX2 45 RX3 yX3_latestNumber wsX3_latestNumber) := goodIn_app (goodIn_of _ (by decide +kernel)) ggX2_goOn_X3_latestNumber
set_option maxRecDepth 20000 in
theorem ggX2_goOn_X0_spread : GoodIn wsX2_goOn wsX0_spread := goodIn_r _ [100, 92, 101, 46, 47, 48, 158] (by decide +kernel) (by decide +kernel)
set_option maxRecDepth 20000 in
theorem gX2_goOn_X0_spread : GoodIn wsX2_goOn (wsV RX2 52 RX0 yX0_spread wsX0_spread) := goodIn_app (goodIn_of _ (by decide +kernel)) ggX2_goOn_X0_spread
theorem dX2_goOn_0 : decode cX2_goOn 0 = .ok (.aload_n 0, 1) := by decide +kernel
theorem dX2_goOn_1 : decode cX2_goOn 1 = .ok (.invokevirtual 24, 3) := by decide +kernel
theorem dX2_goOn_4 : decode cX2_goOn 4 = .ok (.ifCond .eq 17, 3) := by decide +kernel
theorem dX2_goOn_7 : decode cX2_goOn 7 = .ok (.aload_n 0, 1) := by decide +kernel
theorem dX2_goOn_8 : decode cX2_goOn 8 = .ok (.aload_n 1, 1) := by decide +kernel
theorem dX2_goOn_9 : decode cX2_goOn 9 = .ok (.aload_n 0, 1) := by decide +kernel
theorem dX2_goOn_10 : decode cX2_goOn 10 = .ok (.getfield 14, 3) := by decide +kernel
theorem dX2_goOn_13 : decode cX2_goOn 13 = .ok (.invokevirtual 28, 3) := by decide +kernel
theorem dX2_goOn_16 : decode cX2_goOn 16 = .ok (.putfield 34, 3) := by decide +kernel
theorem dX2_goOn_19 : decode cX2_goOn 19 = .ok (.iconst 2, 1) := by decide +kernel
theorem dX2_goOn_20 : decode cX2_goOn 20 = .ok (.ireturn, 1) := by decide +kernel
theorem dX2_goOn_21 : decode cX2_goOn 21 = .ok (.aload_n 0, 1) := by decide +kernel
theorem dX2_goOn_22 : decode cX2_goOn 22 = .ok (.getfield 20, 3) := by decide +kernel
theorem dX2_goOn_25 : decode cX2_goOn 25 = .ok (.ifCond .ne 22, 3) := by decide +kernel
theorem dX2_goOn_28 : decode cX2_goOn 28 = .ok (.aload_n 0, 1) := by decide +kernel
theorem dX2_goOn_29 : decode cX2_goOn 29 = .ok (.getfield 14, 3) := by decide +kernel
theorem dX2_goOn_32 : decode cX2_goOn 32 = .ok (.aload_n 1, 1) := by decide +kernel
theorem dX2_goOn_33 : decode cX2_goOn 33 = .ok (.invokevirtual 37, 3) := by decide +kernel
theorem dX2_goOn_36 : decode cX2_goOn 36 = .ok (.invokevirtual 41, 3) := by decide +kernel
theorem dX2_goOn_39 : decode cX2_goOn 39 = .ok (.aload_n 0, 1) := by decide +kernel
theorem dX2_goOn_40 : decode cX2_goOn 40 = .ok (.aload_n 1, 1) := by decide +kernel
theorem dX2_goOn_41 : decode cX2_goOn 41 = .ok (.invokevirtual 45, 3) := by decide +kernel
theorem dX2_goOn_44 : decode cX2_goOn 44 = .ok (.putfield 49, 3) := by decide +kernel
theorem dX2_goOn_47 : decode cX2_goOn 47 = .ok (.aload_n 0, 1) := by decide +kernel
theorem dX2_goOn_48 : decode cX2_goOn 48 = .ok (.getfield 14, 3) := by decide +kernel
theorem dX2_goOn_51 : decode cX2_goOn 51 = .ok (.invokevirtual 52, 3) := by decide +kernel
theorem dX2_goOn_54 : decode cX2_goOn 54 = .ok (.aload_n 0, 1) := by decide +kernel
theorem dX2_goOn_55 : decode cX2_goOn 55 = .ok (.dup, 1) := by decide +kernel
theorem dX2_goOn_56 : decode cX2_goOn 56 = .ok (.getfield 20, 3) := by decide +kernel
theorem dX2_goOn_59 : decode cX2_goOn 59 = .ok (.iconst 1, 1) := by decide +kernel
theorem dX2_goOn_60 : decode cX2_goOn 60 = .ok (.iadd, 1) := by decide +kernel
theorem dX2_goOn_61 : decode cX2_goOn 61 = .ok (.putfield 20, 3) := by decide +kernel
theorem dX2_goOn_64 : decode cX2_goOn 64 = .ok (.iconst 1, 1) := by decide +kernel
theorem dX2_goOn_65 : decode cX2_goOn 65 = .ok (.ireturn, 1) := by decide +kernel
set_option maxRecDepth 20000 in
theorem ggX3_init_X0_init : GoodIn wsX3_init wsX0_init := goodIn_r _ [14, 15, 2, 3, 16, 17, 33] (by decide +kernel) (by decide +kernel)
set_option maxRecDepth 20000 in
theorem gX3_init_X0_init_n9 : GoodIn wsX3_init (wsX0_init) := ggX3_init_X0_init
set_option maxRecDepth 20000 in
theorem ggX3_init_Jx4a65c_init_da8c8 : GoodIn wsX3_init wsJx4a65c_init_da8c8 := goodIn_r _ [20, 21, 22, 23, 24, 25, 26, 27, 28, 29, 30, 31, 32, 2, 3, 37, 38, 39] (by decide +kernel) (by decide +kernel)
set_option maxRecDepth 20000 in
theorem gX3_init_Jx4a65c_init_da8c8 : GoodIn wsX3_init (wsJx4a65c_init_da8c8) := ggX3_init_Jx4a65c_init_da8c8
theorem dX3_init_0 : decode cX3_init 0 = .ok (.aload_n 0, 1) := by decide +kernel
theorem dX3_init_1 : decode cX3_init 1 = .ok (.invokespecial 1, 3) := by decide +kernel
theorem dX3_init_4 : decode cX3_init 4 = .ok (.aload_n 0, 1) := by decide +kernel
theorem dX3_init_5 : decode cX3_init 5 = .ok (.new 7, 3) := by decide +kernel
theorem dX3_init_8 : decode cX3_init 8 = .ok (.dup, 1) := by decide +kernel
theorem dX3_init_9 : decode cX3_init 9 = .ok (.invokespecial 9, 3) := by decide +kernel
theorem dX3_init_12 : decode cX3_init 12 = .ok (.putfield 10, 3) := by decide +kernel
theorem dX3_init_15 : decode cX3_init 15 = .ok (.aload_n 0, 1) := by decide +kernel
theorem dX3_init_16 : decode cX3_init 16 = .ok (.new 16, 3) := by decide +kernel
theorem dX3_init_19 : decode cX3_init 19 = .ok (.dup, 1) := by decide +kernel
theorem dX3_init_20 : decode cX3_init 20 = .ok (.invokespecial 18, 3) := by decide +kernel
theorem dX3_init_23 : decode cX3_init 23 = .ok (.putfield 19, 3) := by decide +kernel
theorem dX3_init_26 : decode cX3_init 26 = .ok (.aload_n 0, 1) := by decide +kernel
theorem dX3_init_27 : decode cX3_init 27 = .ok (.aload_n 0, 1) := by decide +kernel
theorem dX3_init_28 : decode cX3_init 28 = .ok (.getfield 10, 3) := by decide +kernel
theorem dX3_init_31 : decode cX3_init 31 = .ok (.putfield 23, 3) := by decide +kernel
theorem dX3_init_34 : decode cX3_init 34 = .ok (.return_, 1) := by decide +kernel
theorem dX3_latest_0 : decode cX3_latest 0 = .ok (.aload_n 0, 1) := by decide +kernel
theorem dX3_latest_1 : decode cX3_latest 1 = .ok (.getfield 23, 3) := by decide +kernel
theorem dX3_latest_4 : decode cX3_latest 4 = .ok (.areturn, 1) := by decide +kernel
set_option maxRecDepth 20000 in
theorem ggX3_latestNumber_Jx4a65c_size_8abf5 : GoodIn wsX3_latestNumber wsJx4a65c_size_8abf5 := goodIn_r _ [6, 7, 11, 12, 13] (by decide +kernel) (by decide +kernel)
set_option maxRecDepth 20000 in
theorem gX3_latestNumber_Jx4a65c_size_8abf5 : GoodIn wsX3_latestNumber (wsV RX3 26 RJx4a65c yJx4a65c_size_8abf5 wsJx4a65c_size_8abf5) := goodIn_app (goodIn_of _ (by decide +kernel)) ggX3_latestNumber_Jx4a65c_size_8abf5
theorem dX3_latestNumber_0 : decode cX3_latestNumber 0 = .ok (.aload_n 0, 1) := by decide +kernel
theorem dX3_latestNumber_1 : decode cX3_latestNumber 1 = .ok (.getfield 19, 3) := by decide +kernel
theorem dX3_latestNumber_4 : decode cX3_latestNumber 4 = .ok (.invokevirtual 26, 3) := by decide +kernel
theorem dX3_latestNumber_7 : decode cX3_latestNumber 7 = .ok (.ireturn, 1) := by decide +kernel
set_option maxRecDepth 20000 in
theorem ggX3_size_Jx4a65c_size_8abf5 : GoodIn wsX3_size wsJx4a65c_size_8abf5 := goodIn_r _ [6, 7, 11, 12, 13] (by decide +kernel) (by decide +kernel)
set_option maxRecDepth 20000 in
theorem gX3_size_Jx4a65c_size_8abf5 : GoodIn wsX3_size (wsV RX3 26 RJx4a65c yJx4a65c_size_8abf5 wsJx4a65c_size_8abf5) := goodIn_app (goodIn_of _ (by decide +kernel)) ggX3_size_Jx4a65c_size_8abf5
theorem dX3_size_0 : decode cX3_size 0 = .ok (.aload_n 0, 1) := by decide +kernel
theorem dX3_size_1 : decode cX3_size 1 = .ok (.getfield 19, 3) := by decide +kernel
theorem dX3_size_4 : decode cX3_size 4 = .ok (.invokevirtual 26, 3) := by decide +kernel
theorem dX3_size_7 : decode cX3_size 7 = .ok (.iconst 1, 1) := by decide +kernel
theorem dX3_size_8 : decode cX3_size 8 = .ok (.iadd, 1) := by decide +kernel
theorem dX3_size_9 : decode cX3_size 9 = .ok (.ireturn, 1) := by decide +kernel
set_option maxRecDepth 20000 in
theorem ggX3_find_Jx4a65c_size_8abf5 : GoodIn wsX3_find wsJx4a65c_size_8abf5 := goodIn_r _ [8, 9, 30, 31, 32] (by decide +kernel) (by decide +kernel)
set_option maxRecDepth 20000 in
theorem gX3_find_Jx4a65c_size_8abf5 : GoodIn wsX3_find (wsV RX3 26 RJx4a65c yJx4a65c_size_8abf5 wsJx4a65c_size_8abf5) := goodIn_app (goodIn_of _ (by decide +kernel)) ggX3_find_Jx4a65c_size_8abf5
set_option maxRecDepth 20000 in
theorem ggX3_find_Jx4a65c_get_915e3 : GoodIn wsX3_find wsJx4a65c_get_915e3 := goodIn_r _ [13, 9, 14, 15, 16, 17, 18, 19, 20, 21, 22, 23, 24, 7, 25, 26, 30, 31, 32] (by decide +kernel) (by decide +kernel)
set_option maxRecDepth 20000 in
theorem gX3_find_Jx4a65c_get_915e3 : GoodIn wsX3_find (wsV RX3 30 RJx4a65c yJx4a65c_get_915e3 wsJx4a65c_get_915e3) := goodIn_app (goodIn_of _ (by decide +kernel)) ggX3_find_Jx4a65c_get_915e3
theorem dX3_find_0 : decode cX3_find 0 = .ok (.iload_n 1, 1) := by decide +kernel
theorem dX3_find_1 : decode cX3_find 1 = .ok (.ifCond .ne 8, 3) := by decide +kernel
theorem dX3_find_4 : decode cX3_find 4 = .ok (.aload_n 0, 1) := by decide +kernel
theorem dX3_find_5 : decode cX3_find 5 = .ok (.getfield 10, 3) := by decide +kernel
end
section
theorem dX3_find_8 : decode cX3_find 8 = .ok (.areturn, 1) := by decide +kernel
theorem dX3_find_9 : decode cX3_find 9 = .ok (.iload_n 1, 1) := by decide +kernel
theorem dX3_find_10 : decode cX3_find 10 = .ok (.ifCond .lt 14, 3) := by decide +kernel
theorem dX3_find_13 : decode cX3_find 13 = .ok (.iload_n 1, 1) := by decide +kernel
theorem dX3_find_14 : decode cX3_find 14 = .ok (.aload_n 0, 1) := by decide +kernel
theorem dX3_find_15 : decode cX3_find 15 = .ok (.getfield 19, 3) := by decide +kernel
theorem dX3_find_18 : decode cX3_find 18 = .ok (.invokevirtual 26, 3) := by decide +kernel
theorem dX3_find_21 : decode cX3_find 21 = .ok (.if_icmp .le 5, 3) := by decide +kernel
theorem dX3_find_24 : decode cX3_find 24 = .ok (.aconst_null, 1) := by decide +kernel
theorem dX3_find_25 : decode cX3_find 25 = .ok (.areturn, 1) := by decide +kernel
theorem dX3_find_26 : decode cX3_find 26 = .ok (.aload_n 0, 1) := by decide +kernel
theorem dX3_find_27 : decode cX3_find 27 = .ok (.getfield 19, 3) := by decide +kernel
theorem dX3_find_30 : decode cX3_find 30 = .ok (.iload_n 1, 1) := by decide +kernel
theorem dX3_find_31 : decode cX3_find 31 = .ok (.iconst 1, 1) := by decide +kernel
theorem dX3_find_32 : decode cX3_find 32 = .ok (.isub, 1) := by decide +kernel
theorem dX3_find_33 : decode cX3_find 33 = .ok (.invokevirtual 30, 3) := by decide +kernel
theorem dX3_find_36 : decode cX3_find 36 = .ok (.checkcast 7, 3) := by decide +kernel
theorem dX3_find_39 : decode cX3_find 39 = .ok (.areturn, 1) := by decide +kernel
set_option maxRecDepth 20000 in
theorem ggX3_commit_Jx4a65c_add_9ea2d : GoodIn wsX3_commit wsJx4a65c_add_9ea2d := goodIn_r _ [7, 8, 9, 10, 11, 12, 13, 14, 6, 15, 16, 17, 18, 19, 20, 21, 22, 23, 24, 25, 26, 27, 28, 29, 30, 31, 32, 33, 34, 35, 36, 37, 38, 39, 40, 41, 42, 43, 44, 45, 46, 47, 48, 49, 50, 51, 52, 53, 54, 55, 56, 57, 58, 66, 67, 68] (by decide +kernel) (by decide +kernel)
set_option maxRecDepth 20000 in
theorem gX3_commit_Jx4a65c_add_9ea2d : GoodIn wsX3_commit (wsV RX3 34 RJx4a65c yJx4a65c_add_9ea2d wsJx4a65c_add_9ea2d) := goodIn_app (goodIn_of _ (by decide +kernel)) ggX3_commit_Jx4a65c_add_9ea2d
set_option maxRecDepth 20000 in
theorem ggX3_commit_Jx4a65c_size_8abf5 : GoodIn wsX3_commit wsJx4a65c_size_8abf5 := goodIn_r _ [62, 11, 66, 67, 68] (by decide +kernel) (by decide +kernel)
set_option maxRecDepth 20000 in
theorem gX3_commit_Jx4a65c_size_8abf5 : GoodIn wsX3_commit (wsV RX3 26 RJx4a65c yJx4a65c_size_8abf5 wsJx4a65c_size_8abf5) := goodIn_app (goodIn_of _ (by decide +kernel)) ggX3_commit_Jx4a65c_size_8abf5
theorem dX3_commit_0 : decode cX3_commit 0 = .ok (.aload_n 0, 1) := by decide +kernel
theorem dX3_commit_1 : decode cX3_commit 1 = .ok (.getfield 19, 3) := by decide +kernel
theorem dX3_commit_4 : decode cX3_commit 4 = .ok (.aload_n 1, 1) := by decide +kernel
theorem dX3_commit_5 : decode cX3_commit 5 = .ok (.invokevirtual 34, 3) := by decide +kernel
theorem dX3_commit_8 : decode cX3_commit 8 = .ok (.pop, 1) := by decide +kernel
theorem dX3_commit_9 : decode cX3_commit 9 = .ok (.aload_n 0, 1) := by decide +kernel
theorem dX3_commit_10 : decode cX3_commit 10 = .ok (.aload_n 1, 1) := by decide +kernel
theorem dX3_commit_11 : decode cX3_commit 11 = .ok (.putfield 23, 3) := by decide +kernel
theorem dX3_commit_14 : decode cX3_commit 14 = .ok (.aload_n 0, 1) := by decide +kernel
theorem dX3_commit_15 : decode cX3_commit 15 = .ok (.getfield 19, 3) := by decide +kernel
theorem dX3_commit_18 : decode cX3_commit 18 = .ok (.invokevirtual 26, 3) := by decide +kernel
theorem dX3_commit_21 : decode cX3_commit 21 = .ok (.ireturn, 1) := by decide +kernel
set_option maxRecDepth 20000 in
theorem ggX4_init_X5_init : GoodIn wsX4_init wsX5_init := goodIn_r _ [6, 7, 8, 9, 10, 11, 12, 13, 14, 15, 16, 29, 30, 31, 32, 33, 34, 35, 36, 37, 38, 39, 40, 41, 42, 43, 44, 45, 46, 47, 48, 49, 50, 51, 52, 53, 54, 55, 56, 57, 58, 59, 60, 61, 62, 63, 64, 65, 66, 67, 68, 69, 70, 71, 72, 73, 74, 75, 76, 77, 78] (by decide +kernel) (by decide +kernel)
set_option maxRecDepth 20000 in
theorem gX4_init_X5_init : GoodIn wsX4_init (wsX5_init) := ggX4_init_X5_init
set_option maxRecDepth 20000 in
theorem ggX4_init_X3_latestNumber : GoodIn wsX4_init wsX3_latestNumber := goodIn_r _ [21, 22, 23, 24, 25, 26, 27, 28, 79, 80, 81, 82, 83, 84] (by decide +kernel) (by decide +kernel)
set_option maxRecDepth 20000 in
theorem gX4_init_X3_latestNumber : GoodIn wsX4_init (wsV RX4 9 RX3 yX3_latestNumber wsX3_latestNumber) := goodIn_app (goodIn_of _ (by decide +kernel)) ggX4_init_X3_latestNumber
theorem dX4_init_0 : decode cX4_init 0 = .ok (.aload_n 0, 1) := by decide +kernel
theorem dX4_init_1 : decode cX4_init 1 = .ok (.iload_n 1, 1) := by decide +kernel
theorem dX4_init_2 : decode cX4_init 2 = .ok (.iconst 3, 1) := by decide +kernel
theorem dX4_init_3 : decode cX4_init 3 = .ok (.iconst 0, 1) := by decide +kernel
theorem dX4_init_4 : decode cX4_init 4 = .ok (.iconst 0, 1) := by decide +kernel
theorem dX4_init_5 : decode cX4_init 5 = .ok (.invokespecial 3, 3) := by decide +kernel
theorem dX4_init_8 : decode cX4_init 8 = .ok (.aload_n 0, 1) := by decide +kernel
theorem dX4_init_9 : decode cX4_init 9 = .ok (.aload_n 2, 1) := by decide +kernel
theorem dX4_init_10 : decode cX4_init 10 = .ok (.invokevirtual 9, 3) := by decide +kernel
theorem dX4_init_13 : decode cX4_init 13 = .ok (.putfield 15, 3) := by decide +kernel
theorem dX4_init_16 : decode cX4_init 16 = .ok (.return_, 1) := by decide +kernel
set_option maxRecDepth 20000 in
theorem ggX4_waits_X3_latestNumber : GoodIn wsX4_waits wsX3_latestNumber := goodIn_r _ [7, 8, 9, 10, 11, 12, 13, 14, 65, 66, 67, 68, 69, 70] (by decide +kernel) (by decide +kernel)
set_option maxRecDepth 20000 in
theorem gX4_waits_X3_latestNumber : GoodIn wsX4_waits (wsV RX4 9 RX3 yX3_latestNumber wsX3_latestNumber) := goodIn_app (goodIn_of _ (by decide +kernel)) ggX4_waits_X3_latestNumber
theorem dX4_waits_0 : decode cX4_waits 0 = .ok (.aload_n 0, 1) := by decide +kernel
theorem dX4_waits_1 : decode cX4_waits 1 = .ok (.getfield 15, 3) := by decide +kernel
theorem dX4_waits_4 : decode cX4_waits 4 = .ok (.aload_n 1, 1) := by decide +kernel
theorem dX4_waits_5 : decode cX4_waits 5 = .ok (.invokevirtual 9, 3) := by decide +kernel
theorem dX4_waits_8 : decode cX4_waits 8 = .ok (.if_icmp .lt 7, 3) := by decide +kernel
theorem dX4_waits_11 : decode cX4_waits 11 = .ok (.iconst 1, 1) := by decide +kernel
theorem dX4_waits_12 : decode cX4_waits 12 = .ok (.goto 4, 3) := by decide +kernel
theorem dX4_waits_15 : decode cX4_waits 15 = .ok (.iconst 0, 1) := by decide +kernel
theorem dX4_waits_16 : decode cX4_waits 16 = .ok (.ireturn, 1) := by decide +kernel
set_option maxRecDepth 20000 in
theorem ggX4_goOn_X3_find : GoodIn wsX4_goOn wsX3_find := goodIn_r _ [11, 12, 13, 14, 15, 16, 17, 18, 19, 20, 21, 22, 23, 24, 25, 26, 27, 28, 29, 30, 31, 32, 33, 34, 35, 36, 37, 94, 95, 96, 97, 98, 99] (by decide +kernel) (by decide +kernel)
set_option maxRecDepth 20000 in
theorem gX4_goOn_X3_find : GoodIn wsX4_goOn (wsV RX4 21 RX3 yX3_find wsX3_find) := goodIn_app (goodIn_of _ (by decide +kernel)) ggX4_goOn_X3_find
set_option maxRecDepth 20000 in
theorem ggX4_goOn_X0_sum : GoodIn wsX4_goOn wsX0_sum := goodIn_r _ [42, 43, 100] (by decide +kernel) (by decide +kernel)
set_option maxRecDepth 20000 in
theorem gX4_goOn_X0_sum : GoodIn wsX4_goOn (wsV RX4 28 RX0 yX0_sum wsX0_sum) := goodIn_app (goodIn_of _ (by decide +kernel)) ggX4_goOn_X0_sum
theorem dX4_goOn_0 : decode cX4_goOn 0 = .ok (.aload_n 1, 1) := by decide +kernel
theorem dX4_goOn_1 : decode cX4_goOn 1 = .ok (.aload_n 0, 1) := by decide +kernel
theorem dX4_goOn_2 : decode cX4_goOn 2 = .ok (.getfield 15, 3) := by decide +kernel
theorem dX4_goOn_5 : decode cX4_goOn 5 = .ok (.iconst 1, 1) := by decide +kernel
theorem dX4_goOn_6 : decode cX4_goOn 6 = .ok (.iadd, 1) := by decide +kernel
theorem dX4_goOn_7 : decode cX4_goOn 7 = .ok (.invokevirtual 21, 3) := by decide +kernel
theorem dX4_goOn_10 : decode cX4_goOn 10 = .ok (.astore_n 2, 1) := by decide +kernel
theorem dX4_goOn_11 : decode cX4_goOn 11 = .ok (.aload_n 2, 1) := by decide +kernel
theorem dX4_goOn_12 : decode cX4_goOn 12 = .ok (.ifnull 39, 3) := by decide +kernel
theorem dX4_goOn_15 : decode cX4_goOn 15 = .ok (.aload_n 0, 1) := by decide +kernel
theorem dX4_goOn_16 : decode cX4_goOn 16 = .ok (.bipush 31, 2) := by decide +kernel
theorem dX4_goOn_18 : decode cX4_goOn 18 = .ok (.aload_n 0, 1) := by decide +kernel
theorem dX4_goOn_19 : decode cX4_goOn 19 = .ok (.getfield 25, 3) := by decide +kernel
theorem dX4_goOn_22 : decode cX4_goOn 22 = .ok (.imul, 1) := by decide +kernel
theorem dX4_goOn_23 : decode cX4_goOn 23 = .ok (.aload_n 2, 1) := by decide +kernel
theorem dX4_goOn_24 : decode cX4_goOn 24 = .ok (.invokevirtual 28, 3) := by decide +kernel
theorem dX4_goOn_27 : decode cX4_goOn 27 = .ok (.iadd, 1) := by decide +kernel
theorem dX4_goOn_28 : decode cX4_goOn 28 = .ok (.putfield 25, 3) := by decide +kernel
theorem dX4_goOn_31 : decode cX4_goOn 31 = .ok (.aload_n 0, 1) := by decide +kernel
theorem dX4_goOn_32 : decode cX4_goOn 32 = .ok (.dup, 1) := by decide +kernel
theorem dX4_goOn_33 : decode cX4_goOn 33 = .ok (.getfield 15, 3) := by decide +kernel
theorem dX4_goOn_36 : decode cX4_goOn 36 = .ok (.iconst 1, 1) := by decide +kernel
theorem dX4_goOn_37 : decode cX4_goOn 37 = .ok (.iadd, 1) := by decide +kernel
theorem dX4_goOn_38 : decode cX4_goOn 38 = .ok (.putfield 15, 3) := by decide +kernel
theorem dX4_goOn_41 : decode cX4_goOn 41 = .ok (.aload_n 0, 1) := by decide +kernel
theorem dX4_goOn_42 : decode cX4_goOn 42 = .ok (.dup, 1) := by decide +kernel
theorem dX4_goOn_43 : decode cX4_goOn 43 = .ok (.getfield 33, 3) := by decide +kernel
theorem dX4_goOn_46 : decode cX4_goOn 46 = .ok (.iconst 1, 1) := by decide +kernel
theorem dX4_goOn_47 : decode cX4_goOn 47 = .ok (.iadd, 1) := by decide +kernel
theorem dX4_goOn_48 : decode cX4_goOn 48 = .ok (.putfield 33, 3) := by decide +kernel
theorem dX4_goOn_51 : decode cX4_goOn 51 = .ok (.iconst 1, 1) := by decide +kernel
theorem dX4_goOn_52 : decode cX4_goOn 52 = .ok (.ireturn, 1) := by decide +kernel
set_option maxRecDepth 20000 in
theorem ggX4_isToGet_X5_hasEnded : GoodIn wsX4_isToGet wsX5_hasEnded := goodIn_r _ [8, 9, 10, 11, 12, 13, 14, 15, 16, 17, 18, 19, 20, 21, 22, 23, 24, 25, 26, 27, 28, 29, 30, 31, 32, 33, 34, 35, 36, 37, 38, 39, 40, 41, 42, 43, 44, 45, 46, 47, 48, 49, 50, 51, 52, 53, 54, 55, 56, 57, 58, 59] (by decide +kernel) (by decide +kernel)
set_option maxRecDepth 20000 in
theorem gX4_isToGet_X5_hasEnded_u36X4 : GoodIn wsX4_isToGet (va_wsU RX4 36 RX4 "HouseWorkers$Work" ⟨"HouseWorkers$StreamWork", "hasEnded", "()Z"⟩ yX5_hasEnded wsX5_hasEnded) := goodIn_app (goodIn_of _ (by decide +kernel)) ggX4_isToGet_X5_hasEnded
theorem dX4_isToGet_0 : decode cX4_isToGet 0 = .ok (.aload_n 0, 1) := by decide +kernel
theorem dX4_isToGet_1 : decode cX4_isToGet 1 = .ok (.invokevirtual 36, 3) := by decide +kernel
theorem dX4_isToGet_4 : decode cX4_isToGet 4 = .ok (.ifCond .ne 15, 3) := by decide +kernel
theorem dX4_isToGet_7 : decode cX4_isToGet 7 = .ok (.iload_n 1, 1) := by decide +kernel
theorem dX4_isToGet_8 : decode cX4_isToGet 8 = .ok (.aload_n 0, 1) := by decide +kernel
theorem dX4_isToGet_9 : decode cX4_isToGet 9 = .ok (.getfield 15, 3) := by decide +kernel
theorem dX4_isToGet_12 : decode cX4_isToGet 12 = .ok (.if_icmp .le 7, 3) := by decide +kernel
theorem dX4_isToGet_15 : decode cX4_isToGet 15 = .ok (.iconst 1, 1) := by decide +kernel
theorem dX4_isToGet_16 : decode cX4_isToGet 16 = .ok (.goto 4, 3) := by decide +kernel
theorem dX4_isToGet_19 : decode cX4_isToGet 19 = .ok (.iconst 0, 1) := by decide +kernel
theorem dX4_isToGet_20 : decode cX4_isToGet 20 = .ok (.ireturn, 1) := by decide +kernel
theorem dX5_init_0 : decode cX5_init 0 = .ok (.aload_n 0, 1) := by decide +kernel
theorem dX5_init_1 : decode cX5_init 1 = .ok (.invokespecial 3, 3) := by decide +kernel
theorem dX5_init_4 : decode cX5_init 4 = .ok (.aload_n 0, 1) := by decide +kernel
theorem dX5_init_5 : decode cX5_init 5 = .ok (.iconst (-1), 1) := by decide +kernel
theorem dX5_init_6 : decode cX5_init 6 = .ok (.putfield 9, 3) := by decide +kernel
theorem dX5_init_9 : decode cX5_init 9 = .ok (.aload_n 0, 1) := by decide +kernel
theorem dX5_init_10 : decode cX5_init 10 = .ok (.iconst (-1), 1) := by decide +kernel
theorem dX5_init_11 : decode cX5_init 11 = .ok (.putfield 15, 3) := by decide +kernel
theorem dX5_init_14 : decode cX5_init 14 = .ok (.aload_n 0, 1) := by decide +kernel
theorem dX5_init_15 : decode cX5_init 15 = .ok (.iconst 0, 1) := by decide +kernel
theorem dX5_init_16 : decode cX5_init 16 = .ok (.putfield 18, 3) := by decide +kernel
theorem dX5_init_19 : decode cX5_init 19 = .ok (.aload_n 0, 1) := by decide +kernel
theorem dX5_init_20 : decode cX5_init 20 = .ok (.iload_n 1, 1) := by decide +kernel
theorem dX5_init_21 : decode cX5_init 21 = .ok (.putfield 21, 3) := by decide +kernel
theorem dX5_init_24 : decode cX5_init 24 = .ok (.aload_n 0, 1) := by decide +kernel
theorem dX5_init_25 : decode cX5_init 25 = .ok (.iload_n 2, 1) := by decide +kernel
theorem dX5_init_26 : decode cX5_init 26 = .ok (.putfield 24, 3) := by decide +kernel
theorem dX5_init_29 : decode cX5_init 29 = .ok (.aload_n 0, 1) := by decide +kernel
theorem dX5_init_30 : decode cX5_init 30 = .ok (.iload_n 3, 1) := by decide +kernel
theorem dX5_init_31 : decode cX5_init 31 = .ok (.putfield 27, 3) := by decide +kernel
theorem dX5_init_34 : decode cX5_init 34 = .ok (.aload_n 0, 1) := by decide +kernel
theorem dX5_init_35 : decode cX5_init 35 = .ok (.iload 4, 2) := by decide +kernel
theorem dX5_init_37 : decode cX5_init 37 = .ok (.putfield 30, 3) := by decide +kernel
theorem dX5_init_40 : decode cX5_init 40 = .ok (.return_, 1) := by decide +kernel
theorem dX5_isToGet_0 : decode cX5_isToGet 0 = .ok (.iconst 0, 1) := by decide +kernel
theorem dX5_isToGet_1 : decode cX5_isToGet 1 = .ok (.ireturn, 1) := by decide +kernel
theorem dX5_commits_0 : decode cX5_commits 0 = .ok (.aload_n 0, 1) := by decide +kernel
theorem dX5_commits_1 : decode cX5_commits 1 = .ok (.getfield 24, 3) := by decide +kernel
theorem dX5_commits_4 : decode cX5_commits 4 = .ok (.iconst 1, 1) := by decide +kernel
theorem dX5_commits_5 : decode cX5_commits 5 = .ok (.if_icmp .eq 11, 3) := by decide +kernel
theorem dX5_commits_8 : decode cX5_commits 8 = .ok (.aload_n 0, 1) := by decide +kernel
theorem dX5_commits_9 : decode cX5_commits 9 = .ok (.getfield 24, 3) := by decide +kernel
theorem dX5_commits_12 : decode cX5_commits 12 = .ok (.iconst 2, 1) := by decide +kernel
theorem dX5_commits_13 : decode cX5_commits 13 = .ok (.if_icmp .ne 7, 3) := by decide +kernel
theorem dX5_commits_16 : decode cX5_commits 16 = .ok (.iconst 1, 1) := by decide +kernel
theorem dX5_commits_17 : decode cX5_commits 17 = .ok (.goto 4, 3) := by decide +kernel
theorem dX5_commits_20 : decode cX5_commits 20 = .ok (.iconst 0, 1) := by decide +kernel
theorem dX5_commits_21 : decode cX5_commits 21 = .ok (.ireturn, 1) := by decide +kernel
theorem dX5_hasEnded_0 : decode cX5_hasEnded 0 = .ok (.aload_n 0, 1) := by decide +kernel
theorem dX5_hasEnded_1 : decode cX5_hasEnded 1 = .ok (.getfield 18, 3) := by decide +kernel
theorem dX5_hasEnded_4 : decode cX5_hasEnded 4 = .ok (.ifCond .eq 7, 3) := by decide +kernel
theorem dX5_hasEnded_7 : decode cX5_hasEnded 7 = .ok (.iconst 1, 1) := by decide +kernel
theorem dX5_hasEnded_8 : decode cX5_hasEnded 8 = .ok (.goto 4, 3) := by decide +kernel
theorem dX5_hasEnded_11 : decode cX5_hasEnded 11 = .ok (.iconst 0, 1) := by decide +kernel
theorem dX5_hasEnded_12 : decode cX5_hasEnded 12 = .ok (.ireturn, 1) := by decide +kernel
theorem dX5_hasDoneAllSteps_0 : decode cX5_hasDoneAllSteps 0 = .ok (.aload_n 0, 1) := by decide +kernel
theorem dX5_hasDoneAllSteps_1 : decode cX5_hasDoneAllSteps 1 = .ok (.getfield 33, 3) := by decide +kernel
theorem dX5_hasDoneAllSteps_4 : decode cX5_hasDoneAllSteps 4 = .ok (.aload_n 0, 1) := by decide +kernel
theorem dX5_hasDoneAllSteps_5 : decode cX5_hasDoneAllSteps 5 = .ok (.getfield 27, 3) := by decide +kernel
theorem dX5_hasDoneAllSteps_8 : decode cX5_hasDoneAllSteps 8 = .ok (.if_icmp .lt 7, 3) := by decide +kernel
theorem dX5_hasDoneAllSteps_11 : decode cX5_hasDoneAllSteps 11 = .ok (.iconst 1, 1) := by decide +kernel
theorem dX5_hasDoneAllSteps_12 : decode cX5_hasDoneAllSteps 12 = .ok (.goto 4, 3) := by decide +kernel
theorem dX5_hasDoneAllSteps_15 : decode cX5_hasDoneAllSteps 15 = .ok (.iconst 0, 1) := by decide +kernel
theorem dX5_hasDoneAllSteps_16 : decode cX5_hasDoneAllSteps 16 = .ok (.ireturn, 1) := by decide +kernel
set_option maxRecDepth 20000 in
theorem ggX5_failsNow_X5_hasDoneAllSteps : GoodIn wsX5_failsNow wsX5_hasDoneAllSteps := goodIn_r _ [8, 2, 9, 13, 14, 15, 16, 17, 18, 19, 20, 21, 22, 23, 24, 25, 26, 27, 28, 29, 30, 31, 32, 33, 34, 35, 36, 37, 38, 39, 40, 41, 42, 43, 44, 45, 46, 47, 48, 49, 50, 51, 52, 53, 54, 55, 56, 57, 58, 59, 60, 61, 62] (by decide +kernel) (by decide +kernel)
set_option maxRecDepth 20000 in
theorem gX5_failsNow_X5_hasDoneAllSteps_u36X1 : GoodIn wsX5_failsNow (va_wsU RX5 36 RX1 "HouseWorkers$Work" ⟨"HouseWorkers$Work", "hasDoneAllSteps", "()Z"⟩ yX5_hasDoneAllSteps wsX5_hasDoneAllSteps) := goodIn_app (goodIn_of _ (by decide +kernel)) ggX5_failsNow_X5_hasDoneAllSteps
set_option maxRecDepth 20000 in
theorem gX5_failsNow_X5_hasDoneAllSteps_u36X2 : GoodIn wsX5_failsNow (va_wsU RX5 36 RX2 "HouseWorkers$Work" ⟨"HouseWorkers$Work", "hasDoneAllSteps", "()Z"⟩ yX5_hasDoneAllSteps wsX5_hasDoneAllSteps) := goodIn_app (goodIn_of _ (by decide +kernel)) ggX5_failsNow_X5_hasDoneAllSteps
set_option maxRecDepth 20000 in
theorem gX5_failsNow_X5_hasDoneAllSteps_u36X4 : GoodIn wsX5_failsNow (va_wsU RX5 36 RX4 "HouseWorkers$Work" ⟨"HouseWorkers$Work", "hasDoneAllSteps", "()Z"⟩ yX5_hasDoneAllSteps wsX5_hasDoneAllSteps) := goodIn_app (goodIn_of _ (by decide +kernel)) ggX5_failsNow_X5_hasDoneAllSteps
set_option maxRecDepth 20000 in
theorem gX5_failsNow_X5_hasDoneAllSteps_u36X6 : GoodIn wsX5_failsNow (va_wsU RX5 36 RX6 "HouseWorkers$Work" ⟨"HouseWorkers$Work", "hasDoneAllSteps", "()Z"⟩ yX5_hasDoneAllSteps wsX5_hasDoneAllSteps) := goodIn_app (goodIn_of _ (by decide +kernel)) ggX5_failsNow_X5_hasDoneAllSteps
theorem dX5_failsNow_0 : decode cX5_failsNow 0 = .ok (.aload_n 0, 1) := by decide +kernel
theorem dX5_failsNow_1 : decode cX5_failsNow 1 = .ok (.getfield 30, 3) := by decide +kernel
theorem dX5_failsNow_4 : decode cX5_failsNow 4 = .ok (.aload_n 0, 1) := by decide +kernel
theorem dX5_failsNow_5 : decode cX5_failsNow 5 = .ok (.getfield 33, 3) := by decide +kernel
theorem dX5_failsNow_8 : decode cX5_failsNow 8 = .ok (.iconst 1, 1) := by decide +kernel
theorem dX5_failsNow_9 : decode cX5_failsNow 9 = .ok (.iadd, 1) := by decide +kernel
theorem dX5_failsNow_10 : decode cX5_failsNow 10 = .ok (.if_icmp .ne 14, 3) := by decide +kernel
theorem dX5_failsNow_13 : decode cX5_failsNow 13 = .ok (.aload_n 0, 1) := by decide +kernel
theorem dX5_failsNow_14 : decode cX5_failsNow 14 = .ok (.invokevirtual 36, 3) := by decide +kernel
theorem dX5_failsNow_17 : decode cX5_failsNow 17 = .ok (.ifCond .ne 7, 3) := by decide +kernel
theorem dX5_failsNow_20 : decode cX5_failsNow 20 = .ok (.iconst 1, 1) := by decide +kernel
theorem dX5_failsNow_21 : decode cX5_failsNow 21 = .ok (.goto 4, 3) := by decide +kernel
theorem dX5_failsNow_24 : decode cX5_failsNow 24 = .ok (.iconst 0, 1) := by decide +kernel
theorem dX5_failsNow_25 : decode cX5_failsNow 25 = .ok (.ireturn, 1) := by decide +kernel
set_option maxRecDepth 20000 in
theorem ggX5_pins_X5_hasEnded : GoodIn wsX5_pins wsX5_hasEnded := goodIn_r _ [7, 8, 12, 13, 14, 15, 16, 17, 18, 19, 20, 21, 22, 23, 24, 25, 26, 27, 28, 29, 30, 31, 32, 33, 34, 35, 36, 37, 38, 39, 40, 41, 42, 43, 44, 45, 46, 47, 48, 49, 50, 51, 52, 53, 54, 55, 56, 57, 58, 59, 60, 61] (by decide +kernel) (by decide +kernel)
set_option maxRecDepth 20000 in
theorem gX5_pins_X5_hasEnded_u40X1 : GoodIn wsX5_pins (va_wsU RX5 40 RX1 "HouseWorkers$Work" ⟨"HouseWorkers$Work", "hasEnded", "()Z"⟩ yX5_hasEnded wsX5_hasEnded) := goodIn_app (goodIn_of _ (by decide +kernel)) ggX5_pins_X5_hasEnded
set_option maxRecDepth 20000 in
theorem gX5_pins_X5_hasEnded_u40X2 : GoodIn wsX5_pins (va_wsU RX5 40 RX2 "HouseWorkers$Work" ⟨"HouseWorkers$Work", "hasEnded", "()Z"⟩ yX5_hasEnded wsX5_hasEnded) := goodIn_app (goodIn_of _ (by decide +kernel)) ggX5_pins_X5_hasEnded
set_option maxRecDepth 20000 in
theorem gX5_pins_X5_hasEnded_u40X4 : GoodIn wsX5_pins (va_wsU RX5 40 RX4 "HouseWorkers$Work" ⟨"HouseWorkers$Work", "hasEnded", "()Z"⟩ yX5_hasEnded wsX5_hasEnded) := goodIn_app (goodIn_of _ (by decide +kernel)) ggX5_pins_X5_hasEnded
set_option maxRecDepth 20000 in
theorem gX5_pins_X5_hasEnded_u40X6 : GoodIn wsX5_pins (va_wsU RX5 40 RX6 "HouseWorkers$Work" ⟨"HouseWorkers$Work", "hasEnded", "()Z"⟩ yX5_hasEnded wsX5_hasEnded) := goodIn_app (goodIn_of _ (by decide +kernel)) ggX5_pins_X5_hasEnded
theorem dX5_pins_0 : decode cX5_pins 0 = .ok (.aload_n 0, 1) := by decide +kernel
theorem dX5_pins_1 : decode cX5_pins 1 = .ok (.invokevirtual 40, 3) := by decide +kernel
theorem dX5_pins_4 : decode cX5_pins 4 = .ok (.ifCond .ne 15, 3) := by decide +kernel
theorem dX5_pins_7 : decode cX5_pins 7 = .ok (.aload_n 0, 1) := by decide +kernel
theorem dX5_pins_8 : decode cX5_pins 8 = .ok (.getfield 15, 3) := by decide +kernel
theorem dX5_pins_11 : decode cX5_pins 11 = .ok (.iload_n 1, 1) := by decide +kernel
theorem dX5_pins_12 : decode cX5_pins 12 = .ok (.if_icmp .ne 7, 3) := by decide +kernel
theorem dX5_pins_15 : decode cX5_pins 15 = .ok (.iconst 1, 1) := by decide +kernel
theorem dX5_pins_16 : decode cX5_pins 16 = .ok (.goto 4, 3) := by decide +kernel
theorem dX5_pins_19 : decode cX5_pins 19 = .ok (.iconst 0, 1) := by decide +kernel
theorem dX5_pins_20 : decode cX5_pins 20 = .ok (.ireturn, 1) := by decide +kernel
set_option maxRecDepth 20000 in
theorem ggX6_init_X5_init : GoodIn wsX6_init wsX5_init := goodIn_r _ [10, 11, 12, 13, 14, 15, 16, 17, 18, 19, 20, 41, 42, 43, 44, 45, 46, 47, 48, 49, 50, 51, 52, 53, 54, 55, 56, 57, 58, 59, 60, 61, 62, 63, 64, 65, 66, 67, 68, 69, 70, 71, 72, 73, 74, 75, 76, 27, 28, 29, 30, 31, 32, 33, 34, 35, 36, 37, 38, 39, 40] (by decide +kernel) (by decide +kernel)
set_option maxRecDepth 20000 in
theorem gX6_init_X5_init : GoodIn wsX6_init (wsX5_init) := ggX6_init_X5_init
set_option maxRecDepth 20000 in
theorem ggX6_init_X0_init : GoodIn wsX6_init wsX0_init := goodIn_r _ [22, 23, 12, 13, 24, 25, 26] (by decide +kernel) (by decide +kernel)
set_option maxRecDepth 20000 in
theorem gX6_init_X0_init_n11 : GoodIn wsX6_init (wsX0_init) := ggX6_init_X0_init
theorem dX6_init_0 : decode cX6_init 0 = .ok (.aload_n 0, 1) := by decide +kernel
theorem dX6_init_1 : decode cX6_init 1 = .ok (.iload_n 1, 1) := by decide +kernel
theorem dX6_init_2 : decode cX6_init 2 = .ok (.iconst 1, 1) := by decide +kernel
theorem dX6_init_3 : decode cX6_init 3 = .ok (.iload_n 2, 1) := by decide +kernel
theorem dX6_init_4 : decode cX6_init 4 = .ok (.iload_n 3, 1) := by decide +kernel
theorem dX6_init_5 : decode cX6_init 5 = .ok (.invokespecial 3, 3) := by decide +kernel
theorem dX6_init_8 : decode cX6_init 8 = .ok (.aload_n 0, 1) := by decide +kernel
theorem dX6_init_9 : decode cX6_init 9 = .ok (.new 9, 3) := by decide +kernel
theorem dX6_init_12 : decode cX6_init 12 = .ok (.dup, 1) := by decide +kernel
theorem dX6_init_13 : decode cX6_init 13 = .ok (.invokespecial 11, 3) := by decide +kernel
theorem dX6_init_16 : decode cX6_init 16 = .ok (.putfield 14, 3) := by decide +kernel
theorem dX6_init_19 : decode cX6_init 19 = .ok (.aload_n 0, 1) := by decide +kernel
theorem dX6_init_20 : decode cX6_init 20 = .ok (.iload 4, 2) := by decide +kernel
theorem dX6_init_22 : decode cX6_init 22 = .ok (.putfield 20, 3) := by decide +kernel
theorem dX6_init_25 : decode cX6_init 25 = .ok (.aload_n 0, 1) := by decide +kernel
theorem dX6_init_26 : decode cX6_init 26 = .ok (.iload 5, 2) := by decide +kernel
theorem dX6_init_28 : decode cX6_init 28 = .ok (.putfield 24, 3) := by decide +kernel
theorem dX6_init_31 : decode cX6_init 31 = .ok (.return_, 1) := by decide +kernel
set_option maxRecDepth 20000 in
theorem ggX6_waits_X5_hasDoneAllSteps : GoodIn wsX6_waits wsX5_hasDoneAllSteps := goodIn_r _ [6, 7, 8, 9, 10, 11, 12, 13, 14, 15, 16, 17, 18, 19, 20, 21, 22, 23, 24, 25, 26, 27, 28, 29, 30, 31, 32, 33, 34, 35, 36, 37, 38, 39, 40, 41, 42, 43, 44, 45, 46, 47, 48, 49, 50, 51, 52, 53, 54, 55, 56, 57, 58] (by decide +kernel) (by decide +kernel)
set_option maxRecDepth 20000 in
theorem gX6_waits_X5_hasDoneAllSteps_u27X6 : GoodIn wsX6_waits (va_wsU RX6 27 RX6 "HouseWorkers$Work" ⟨"HouseWorkers$WriterWork", "hasDoneAllSteps", "()Z"⟩ yX5_hasDoneAllSteps wsX5_hasDoneAllSteps) := goodIn_app (goodIn_of _ (by decide +kernel)) ggX6_waits_X5_hasDoneAllSteps
theorem dX6_waits_0 : decode cX6_waits 0 = .ok (.aload_n 0, 1) := by decide +kernel
theorem dX6_waits_1 : decode cX6_waits 1 = .ok (.invokevirtual 27, 3) := by decide +kernel
theorem dX6_waits_4 : decode cX6_waits 4 = .ok (.ifCond .eq 11, 3) := by decide +kernel
theorem dX6_waits_7 : decode cX6_waits 7 = .ok (.iload_n 2, 1) := by decide +kernel
theorem dX6_waits_8 : decode cX6_waits 8 = .ok (.ifCond .ne 7, 3) := by decide +kernel
theorem dX6_waits_11 : decode cX6_waits 11 = .ok (.iconst 1, 1) := by decide +kernel
theorem dX6_waits_12 : decode cX6_waits 12 = .ok (.goto 4, 3) := by decide +kernel
theorem dX6_waits_15 : decode cX6_waits 15 = .ok (.iconst 0, 1) := by decide +kernel
theorem dX6_waits_16 : decode cX6_waits 16 = .ok (.ireturn, 1) := by decide +kernel
set_option maxRecDepth 20000 in
theorem ggX6_goOn_X5_hasDoneAllSteps : GoodIn wsX6_goOn wsX5_hasDoneAllSteps := goodIn_r _ [13, 14, 15, 111, 112, 113, 114, 115, 116, 117, 118, 119, 120, 121, 122, 123, 124, 125, 126, 127, 128, 129, 130, 131, 132, 133, 134, 135, 136, 137, 138, 139, 140, 141, 142, 143, 144, 145, 146, 97, 98, 99, 100, 101, 102, 103, 104, 105, 106, 107, 108, 109, 110] (by decide +kernel) (by decide +kernel)
set_option maxRecDepth 20000 in
theorem gX6_goOn_X5_hasDoneAllSteps_u27X6 : GoodIn wsX6_goOn (va_wsU RX6 27 RX6 "HouseWorkers$Work" ⟨"HouseWorkers$WriterWork", "hasDoneAllSteps", "()Z"⟩ yX5_hasDoneAllSteps wsX5_hasDoneAllSteps) := goodIn_app (goodIn_of _ (by decide +kernel)) ggX6_goOn_X5_hasDoneAllSteps
set_option maxRecDepth 20000 in
theorem ggX6_goOn_X3_latest : GoodIn wsX6_goOn wsX3_latest := goodIn_r _ [20, 21, 147, 148, 149] (by decide +kernel) (by decide +kernel)
set_option maxRecDepth 20000 in
theorem gX6_goOn_X3_latest : GoodIn wsX6_goOn (wsV RX6 31 RX3 yX3_latest wsX3_latest) := goodIn_app (goodIn_of _ (by decide +kernel)) ggX6_goOn_X3_latest
set_option maxRecDepth 20000 in
theorem ggX6_goOn_X0_addAll : GoodIn wsX6_goOn wsX0_addAll := goodIn_r _ [26, 27, 150] (by decide +kernel) (by decide +kernel)
set_option maxRecDepth 20000 in
theorem gX6_goOn_X0_addAll : GoodIn wsX6_goOn (wsV RX6 37 RX0 yX0_addAll wsX0_addAll) := goodIn_app (goodIn_of _ (by decide +kernel)) ggX6_goOn_X0_addAll
set_option maxRecDepth 20000 in
theorem ggX6_goOn_X3_commit : GoodIn wsX6_goOn wsX3_commit := goodIn_r _ [31, 32, 21, 33, 34, 35, 36, 37, 38, 39, 40, 41, 42, 43, 44, 45, 46, 47, 48, 49, 50, 51, 52, 53, 54, 55, 56, 57, 58, 59, 60, 61, 62, 63, 64, 65, 66, 67, 68, 69, 70, 71, 72, 73, 74, 75, 76, 77, 78, 79, 80, 81, 82, 83, 84, 85, 86, 87, 88, 89, 90, 91, 92, 147, 148, 149, 151, 152, 153] (by decide +kernel) (by decide +kernel)
set_option maxRecDepth 20000 in
theorem gX6_goOn_X3_commit : GoodIn wsX6_goOn (wsV RX6 41 RX3 yX3_commit wsX3_commit) := goodIn_app (goodIn_of _ (by decide +kernel)) ggX6_goOn_X3_commit
set_option maxRecDepth 20000 in
theorem ggX6_goOn_X0_add : GoodIn wsX6_goOn wsX0_add := goodIn_r _ [96, 27, 150] (by decide +kernel) (by decide +kernel)
set_option maxRecDepth 20000 in
theorem gX6_goOn_X0_add : GoodIn wsX6_goOn (wsV RX6 51 RX0 yX0_add wsX0_add) := goodIn_app (goodIn_of _ (by decide +kernel)) ggX6_goOn_X0_add
theorem dX6_goOn_0 : decode cX6_goOn 0 = .ok (.aload_n 0, 1) := by decide +kernel
theorem dX6_goOn_1 : decode cX6_goOn 1 = .ok (.invokevirtual 27, 3) := by decide +kernel
theorem dX6_goOn_4 : decode cX6_goOn 4 = .ok (.ifCond .eq 28, 3) := by decide +kernel
theorem dX6_goOn_7 : decode cX6_goOn 7 = .ok (.aload_n 0, 1) := by decide +kernel
theorem dX6_goOn_8 : decode cX6_goOn 8 = .ok (.getfield 14, 3) := by decide +kernel
theorem dX6_goOn_11 : decode cX6_goOn 11 = .ok (.aload_n 1, 1) := by decide +kernel
theorem dX6_goOn_12 : decode cX6_goOn 12 = .ok (.invokevirtual 31, 3) := by decide +kernel
theorem dX6_goOn_15 : decode cX6_goOn 15 = .ok (.invokevirtual 37, 3) := by decide +kernel
theorem dX6_goOn_18 : decode cX6_goOn 18 = .ok (.aload_n 0, 1) := by decide +kernel
theorem dX6_goOn_19 : decode cX6_goOn 19 = .ok (.aload_n 1, 1) := by decide +kernel
theorem dX6_goOn_20 : decode cX6_goOn 20 = .ok (.aload_n 0, 1) := by decide +kernel
theorem dX6_goOn_21 : decode cX6_goOn 21 = .ok (.getfield 14, 3) := by decide +kernel
theorem dX6_goOn_24 : decode cX6_goOn 24 = .ok (.invokevirtual 41, 3) := by decide +kernel
theorem dX6_goOn_27 : decode cX6_goOn 27 = .ok (.putfield 45, 3) := by decide +kernel
theorem dX6_goOn_30 : decode cX6_goOn 30 = .ok (.iconst 2, 1) := by decide +kernel
theorem dX6_goOn_31 : decode cX6_goOn 31 = .ok (.ireturn, 1) := by decide +kernel
theorem dX6_goOn_32 : decode cX6_goOn 32 = .ok (.aload_n 0, 1) := by decide +kernel
theorem dX6_goOn_33 : decode cX6_goOn 33 = .ok (.getfield 14, 3) := by decide +kernel
theorem dX6_goOn_36 : decode cX6_goOn 36 = .ok (.aload_n 0, 1) := by decide +kernel
theorem dX6_goOn_37 : decode cX6_goOn 37 = .ok (.getfield 20, 3) := by decide +kernel
theorem dX6_goOn_40 : decode cX6_goOn 40 = .ok (.aload_n 0, 1) := by decide +kernel
theorem dX6_goOn_41 : decode cX6_goOn 41 = .ok (.getfield 48, 3) := by decide +kernel
theorem dX6_goOn_44 : decode cX6_goOn 44 = .ok (.iadd, 1) := by decide +kernel
theorem dX6_goOn_45 : decode cX6_goOn 45 = .ok (.aload_n 0, 1) := by decide +kernel
theorem dX6_goOn_46 : decode cX6_goOn 46 = .ok (.getfield 24, 3) := by decide +kernel
theorem dX6_goOn_49 : decode cX6_goOn 49 = .ok (.invokevirtual 51, 3) := by decide +kernel
theorem dX6_goOn_52 : decode cX6_goOn 52 = .ok (.aload_n 0, 1) := by decide +kernel
theorem dX6_goOn_53 : decode cX6_goOn 53 = .ok (.dup, 1) := by decide +kernel
theorem dX6_goOn_54 : decode cX6_goOn 54 = .ok (.getfield 48, 3) := by decide +kernel
theorem dX6_goOn_57 : decode cX6_goOn 57 = .ok (.iconst 1, 1) := by decide +kernel
theorem dX6_goOn_58 : decode cX6_goOn 58 = .ok (.iadd, 1) := by decide +kernel
theorem dX6_goOn_59 : decode cX6_goOn 59 = .ok (.putfield 48, 3) := by decide +kernel
theorem dX6_goOn_62 : decode cX6_goOn 62 = .ok (.iconst 1, 1) := by decide +kernel
theorem dX6_goOn_63 : decode cX6_goOn 63 = .ok (.ireturn, 1) := by decide +kernel
set_option maxRecDepth 20000 in
theorem ggX7_init_X3_init : GoodIn wsX7_init wsX3_init := goodIn_r _ [14, 15, 2, 3, 16, 17, 18, 19, 20, 9, 10, 21, 22, 23, 24, 25, 26, 27, 28, 29, 30, 31, 32, 33, 34, 35, 36, 37, 38, 39, 40, 41, 42, 56, 44, 45, 46, 53, 54, 55] (by decide +kernel) (by decide +kernel)
set_option maxRecDepth 20000 in
theorem gX7_init_X3_init_n11 : GoodIn wsX7_init (wsX3_init) := ggX7_init_X3_init
set_option maxRecDepth 20000 in
theorem ggX7_init_Jx4a65c_init_da8c8 : GoodIn wsX7_init wsJx4a65c_init_da8c8 := goodIn_r _ [30, 31, 32, 33, 34, 35, 36, 37, 38, 39, 40, 41, 42, 2, 3, 53, 54, 55] (by decide +kernel) (by decide +kernel)
set_option maxRecDepth 20000 in
theorem gX7_init_Jx4a65c_init_da8c8 : GoodIn wsX7_init (wsJx4a65c_init_da8c8) := ggX7_init_Jx4a65c_init_da8c8
theorem dX7_init_0 : decode cX7_init 0 = .ok (.aload_n 0, 1) := by decide +kernel
theorem dX7_init_1 : decode cX7_init 1 = .ok (.invokespecial 3, 3) := by decide +kernel
theorem dX7_init_4 : decode cX7_init 4 = .ok (.aload_n 0, 1) := by decide +kernel
theorem dX7_init_5 : decode cX7_init 5 = .ok (.new 9, 3) := by decide +kernel
theorem dX7_init_8 : decode cX7_init 8 = .ok (.dup, 1) := by decide +kernel
end
section
theorem dX7_init_9 : decode cX7_init 9 = .ok (.invokespecial 11, 3) := by decide +kernel
theorem dX7_init_12 : decode cX7_init 12 = .ok (.putfield 12, 3) := by decide +kernel
theorem dX7_init_15 : decode cX7_init 15 = .ok (.aload_n 0, 1) := by decide +kernel
theorem dX7_init_16 : decode cX7_init 16 = .ok (.new 16, 3) := by decide +kernel
theorem dX7_init_19 : decode cX7_init 19 = .ok (.dup, 1) := by decide +kernel
theorem dX7_init_20 : decode cX7_init 20 = .ok (.invokespecial 18, 3) := by decide +kernel
theorem dX7_init_23 : decode cX7_init 23 = .ok (.putfield 19, 3) := by decide +kernel
theorem dX7_init_26 : decode cX7_init 26 = .ok (.aload_n 0, 1) := by decide +kernel
theorem dX7_init_27 : decode cX7_init 27 = .ok (.new 16, 3) := by decide +kernel
theorem dX7_init_30 : decode cX7_init 30 = .ok (.dup, 1) := by decide +kernel
theorem dX7_init_31 : decode cX7_init 31 = .ok (.invokespecial 18, 3) := by decide +kernel
theorem dX7_init_34 : decode cX7_init 34 = .ok (.putfield 23, 3) := by decide +kernel
theorem dX7_init_37 : decode cX7_init 37 = .ok (.return_, 1) := by decide +kernel
set_option maxRecDepth 20000 in
theorem ggX7_put_X7_isCell : GoodIn wsX7_put wsX7_isCell := goodIn_r _ [6] (by decide +kernel) (by decide +kernel)
set_option maxRecDepth 20000 in
theorem gX7_put_X7_isCell : GoodIn wsX7_put (va_wsS RX7 26 yX7_isCell wsX7_isCell) := goodIn_app (goodIn_of _ (by decide +kernel)) ggX7_put_X7_isCell
set_option maxRecDepth 20000 in
theorem ggX7_put_Jx4a65c_isEmpty_aae02 : GoodIn wsX7_put wsJx4a65c_isEmpty_aae02 := goodIn_r _ [11, 12, 31, 32, 33] (by decide +kernel) (by decide +kernel)
set_option maxRecDepth 20000 in
theorem gX7_put_Jx4a65c_isEmpty_aae02 : GoodIn wsX7_put (wsV RX7 30 RJx4a65c yJx4a65c_isEmpty_aae02 wsJx4a65c_isEmpty_aae02) := goodIn_app (goodIn_of _ (by decide +kernel)) ggX7_put_Jx4a65c_isEmpty_aae02
set_option maxRecDepth 20000 in
theorem ggX7_put_X3_latest : GoodIn wsX7_put wsX3_latest := goodIn_r _ [17, 18, 34, 35, 36] (by decide +kernel) (by decide +kernel)
set_option maxRecDepth 20000 in
theorem gX7_put_X3_latest : GoodIn wsX7_put (wsV RX7 34 RX3 yX3_latest wsX3_latest) := goodIn_app (goodIn_of _ (by decide +kernel)) ggX7_put_X3_latest
set_option maxRecDepth 20000 in
theorem ggX7_put_X0_set : GoodIn wsX7_put wsX0_set := goodIn_r _ [23, 24, 37] (by decide +kernel) (by decide +kernel)
set_option maxRecDepth 20000 in
theorem gX7_put_X0_set : GoodIn wsX7_put (wsV RX7 38 RX0 yX0_set wsX0_set) := goodIn_app (goodIn_of _ (by decide +kernel)) ggX7_put_X0_set
theorem dX7_put_0 : decode cX7_put 0 = .ok (.iload_n 1, 1) := by decide +kernel
theorem dX7_put_1 : decode cX7_put 1 = .ok (.invokestatic 26, 3) := by decide +kernel
theorem dX7_put_4 : decode cX7_put 4 = .ok (.ifCond .ne 5, 3) := by decide +kernel
theorem dX7_put_7 : decode cX7_put 7 = .ok (.iconst (-1), 1) := by decide +kernel
theorem dX7_put_8 : decode cX7_put 8 = .ok (.ireturn, 1) := by decide +kernel
theorem dX7_put_9 : decode cX7_put 9 = .ok (.aload_n 0, 1) := by decide +kernel
theorem dX7_put_10 : decode cX7_put 10 = .ok (.getfield 19, 3) := by decide +kernel
theorem dX7_put_13 : decode cX7_put 13 = .ok (.invokevirtual 30, 3) := by decide +kernel
theorem dX7_put_16 : decode cX7_put 16 = .ok (.ifCond .ne 6, 3) := by decide +kernel
theorem dX7_put_19 : decode cX7_put 19 = .ok (.bipush (-2), 2) := by decide +kernel
theorem dX7_put_21 : decode cX7_put 21 = .ok (.ireturn, 1) := by decide +kernel
theorem dX7_put_22 : decode cX7_put 22 = .ok (.aload_n 0, 1) := by decide +kernel
theorem dX7_put_23 : decode cX7_put 23 = .ok (.getfield 12, 3) := by decide +kernel
theorem dX7_put_26 : decode cX7_put 26 = .ok (.invokevirtual 34, 3) := by decide +kernel
theorem dX7_put_29 : decode cX7_put 29 = .ok (.iload_n 1, 1) := by decide +kernel
theorem dX7_put_30 : decode cX7_put 30 = .ok (.iload_n 2, 1) := by decide +kernel
theorem dX7_put_31 : decode cX7_put 31 = .ok (.invokevirtual 38, 3) := by decide +kernel
theorem dX7_put_34 : decode cX7_put 34 = .ok (.iconst 1, 1) := by decide +kernel
theorem dX7_put_35 : decode cX7_put 35 = .ok (.ireturn, 1) := by decide +kernel
set_option maxRecDepth 20000 in
theorem ggX7_question_X7_areSteps : GoodIn wsX7_question wsX7_areSteps := goodIn_r _ [9] (by decide +kernel) (by decide +kernel)
set_option maxRecDepth 20000 in
theorem gX7_question_X7_areSteps : GoodIn wsX7_question (va_wsS RX7 44 yX7_areSteps wsX7_areSteps) := goodIn_app (goodIn_of _ (by decide +kernel)) ggX7_question_X7_areSteps
set_option maxRecDepth 20000 in
theorem ggX7_question_X7_isFailsAt : GoodIn wsX7_question wsX7_isFailsAt := goodIn_r _ [12] (by decide +kernel) (by decide +kernel)
set_option maxRecDepth 20000 in
theorem gX7_question_X7_isFailsAt : GoodIn wsX7_question (va_wsS RX7 47 yX7_isFailsAt wsX7_isFailsAt) := goodIn_app (goodIn_of _ (by decide +kernel)) ggX7_question_X7_isFailsAt
set_option maxRecDepth 20000 in
theorem ggX7_question_X7_isCell : GoodIn wsX7_question wsX7_isCell := goodIn_r _ [15] (by decide +kernel) (by decide +kernel)
set_option maxRecDepth 20000 in
theorem gX7_question_X7_isCell : GoodIn wsX7_question (va_wsS RX7 26 yX7_isCell wsX7_isCell) := goodIn_app (goodIn_of _ (by decide +kernel)) ggX7_question_X7_isCell
set_option maxRecDepth 20000 in
theorem ggX7_question_X7_nextNumber : GoodIn wsX7_question wsX7_nextNumber := goodIn_r _ [19, 20, 1, 21, 22, 23, 24, 25, 26, 116, 117, 118, 119, 120, 121, 135, 136, 137] (by decide +kernel) (by decide +kernel)
set_option maxRecDepth 20000 in
theorem gX7_question_X7_nextNumber : GoodIn wsX7_question (wsV RX7 50 RX7 yX7_nextNumber wsX7_nextNumber) := goodIn_app (goodIn_of _ (by decide +kernel)) ggX7_question_X7_nextNumber
set_option maxRecDepth 20000 in
theorem ggX7_question_X1_init : GoodIn wsX7_question wsX1_init := goodIn_r _ [29, 30, 31, 32, 33, 34, 35, 36, 37, 38, 39, 40, 41, 42, 43, 44, 45, 46, 47, 48, 49, 50, 51, 52, 53, 54, 55, 56, 57, 58, 59, 60, 61, 22, 23, 24, 25, 26, 122, 123, 124, 125, 126, 127, 128, 129, 130, 131, 132, 133, 134, 138, 139, 140, 141, 142, 143, 144, 145, 146, 147, 148, 149, 150, 151, 152, 153, 154, 155, 156, 157, 158, 159, 160, 161, 162, 163, 164, 165, 166, 167, 168, 169, 170, 171, 172, 173, 174, 175, 176, 177, 135, 136, 137] (by decide +kernel) (by decide +kernel)
set_option maxRecDepth 20000 in
theorem gX7_question_X1_init : GoodIn wsX7_question (wsX1_init) := ggX7_question_X1_init
set_option maxRecDepth 20000 in
theorem ggX7_question_Jx4a65c_add_9ea2d : GoodIn wsX7_question wsJx4a65c_add_9ea2d := goodIn_r _ [65, 66, 67, 68, 26, 69, 70, 71, 24, 72, 73, 74, 75, 76, 77, 78, 79, 80, 81, 82, 83, 84, 85, 86, 87, 88, 89, 90, 91, 92, 93, 94, 95, 96, 97, 98, 99, 100, 101, 102, 103, 104, 105, 106, 107, 108, 109, 110, 111, 112, 113, 114, 115, 135, 136, 137] (by decide +kernel) (by decide +kernel)
set_option maxRecDepth 20000 in
theorem gX7_question_Jx4a65c_add_9ea2d : GoodIn wsX7_question (wsV RX7 59 RJx4a65c yJx4a65c_add_9ea2d wsJx4a65c_add_9ea2d) := goodIn_app (goodIn_of _ (by decide +kernel)) ggX7_question_Jx4a65c_add_9ea2d
theorem dX7_question_0 : decode cX7_question 0 = .ok (.iload_n 1, 1) := by decide +kernel
theorem dX7_question_1 : decode cX7_question 1 = .ok (.invokestatic 44, 3) := by decide +kernel
theorem dX7_question_4 : decode cX7_question 4 = .ok (.ifCond .eq 17, 3) := by decide +kernel
theorem dX7_question_7 : decode cX7_question 7 = .ok (.iload_n 2, 1) := by decide +kernel
theorem dX7_question_8 : decode cX7_question 8 = .ok (.invokestatic 47, 3) := by decide +kernel
theorem dX7_question_11 : decode cX7_question 11 = .ok (.ifCond .eq 10, 3) := by decide +kernel
theorem dX7_question_14 : decode cX7_question 14 = .ok (.iload_n 3, 1) := by decide +kernel
theorem dX7_question_15 : decode cX7_question 15 = .ok (.invokestatic 26, 3) := by decide +kernel
theorem dX7_question_18 : decode cX7_question 18 = .ok (.ifCond .ne 5, 3) := by decide +kernel
theorem dX7_question_21 : decode cX7_question 21 = .ok (.iconst (-1), 1) := by decide +kernel
theorem dX7_question_22 : decode cX7_question 22 = .ok (.ireturn, 1) := by decide +kernel
theorem dX7_question_23 : decode cX7_question 23 = .ok (.aload_n 0, 1) := by decide +kernel
theorem dX7_question_24 : decode cX7_question 24 = .ok (.invokevirtual 50, 3) := by decide +kernel
theorem dX7_question_27 : decode cX7_question 27 = .ok (.istore 4, 2) := by decide +kernel
theorem dX7_question_29 : decode cX7_question 29 = .ok (.iload 4, 2) := by decide +kernel
theorem dX7_question_31 : decode cX7_question 31 = .ok (.ifCond .lt 27, 3) := by decide +kernel
theorem dX7_question_34 : decode cX7_question 34 = .ok (.aload_n 0, 1) := by decide +kernel
theorem dX7_question_35 : decode cX7_question 35 = .ok (.getfield 19, 3) := by decide +kernel
theorem dX7_question_38 : decode cX7_question 38 = .ok (.new 54, 3) := by decide +kernel
theorem dX7_question_41 : decode cX7_question 41 = .ok (.dup, 1) := by decide +kernel
theorem dX7_question_42 : decode cX7_question 42 = .ok (.iload 4, 2) := by decide +kernel
theorem dX7_question_44 : decode cX7_question 44 = .ok (.iload_n 1, 1) := by decide +kernel
theorem dX7_question_45 : decode cX7_question 45 = .ok (.iload_n 2, 1) := by decide +kernel
theorem dX7_question_46 : decode cX7_question 46 = .ok (.iload_n 3, 1) := by decide +kernel
theorem dX7_question_47 : decode cX7_question 47 = .ok (.aload_n 0, 1) := by decide +kernel
theorem dX7_question_48 : decode cX7_question 48 = .ok (.getfield 12, 3) := by decide +kernel
theorem dX7_question_51 : decode cX7_question 51 = .ok (.invokespecial 56, 3) := by decide +kernel
theorem dX7_question_54 : decode cX7_question 54 = .ok (.invokevirtual 59, 3) := by decide +kernel
theorem dX7_question_57 : decode cX7_question 57 = .ok (.pop, 1) := by decide +kernel
theorem dX7_question_58 : decode cX7_question 58 = .ok (.iload 4, 2) := by decide +kernel
theorem dX7_question_60 : decode cX7_question 60 = .ok (.ireturn, 1) := by decide +kernel
set_option maxRecDepth 20000 in
theorem ggX7_writer_X7_areSteps : GoodIn wsX7_writer wsX7_areSteps := goodIn_r _ [8] (by decide +kernel) (by decide +kernel)
set_option maxRecDepth 20000 in
theorem gX7_writer_X7_areSteps : GoodIn wsX7_writer (va_wsS RX7 44 yX7_areSteps wsX7_areSteps) := goodIn_app (goodIn_of _ (by decide +kernel)) ggX7_writer_X7_areSteps
set_option maxRecDepth 20000 in
theorem ggX7_writer_X7_isFailsAt : GoodIn wsX7_writer wsX7_isFailsAt := goodIn_r _ [11] (by decide +kernel) (by decide +kernel)
set_option maxRecDepth 20000 in
theorem gX7_writer_X7_isFailsAt : GoodIn wsX7_writer (va_wsS RX7 47 yX7_isFailsAt wsX7_isFailsAt) := goodIn_app (goodIn_of _ (by decide +kernel)) ggX7_writer_X7_isFailsAt
set_option maxRecDepth 20000 in
theorem ggX7_writer_X7_isCell : GoodIn wsX7_writer wsX7_isCell := goodIn_r _ [14] (by decide +kernel) (by decide +kernel)
set_option maxRecDepth 20000 in
theorem gX7_writer_X7_isCell : GoodIn wsX7_writer (va_wsS RX7 26 yX7_isCell wsX7_isCell) := goodIn_app (goodIn_of _ (by decide +kernel)) ggX7_writer_X7_isCell
set_option maxRecDepth 20000 in
theorem ggX7_writer_X7_nextNumber : GoodIn wsX7_writer wsX7_nextNumber := goodIn_r _ [18, 19, 1, 20, 21, 22, 23, 24, 25, 108, 109, 110, 111, 112, 113, 128, 129, 130] (by decide +kernel) (by decide +kernel)
set_option maxRecDepth 20000 in
theorem gX7_writer_X7_nextNumber : GoodIn wsX7_writer (wsV RX7 50 RX7 yX7_nextNumber wsX7_nextNumber) := goodIn_app (goodIn_of _ (by decide +kernel)) ggX7_writer_X7_nextNumber
set_option maxRecDepth 20000 in
theorem ggX7_writer_X6_init : GoodIn wsX7_writer wsX6_init := goodIn_r _ [28, 29, 30, 31, 32, 33, 34, 35, 36, 37, 38, 39, 40, 41, 42, 43, 44, 45, 46, 47, 48, 49, 50, 51, 52, 53, 131, 114, 115, 116, 117, 118, 119, 120, 121, 122, 123, 124, 125, 126, 127, 132, 133, 134, 135, 136, 137, 138, 139, 140, 141, 142, 143, 144, 145, 146, 147, 148, 149, 150, 151, 152, 153, 154, 155, 156, 157, 158, 159, 160, 161, 162, 163, 164, 165, 166, 167] (by decide +kernel) (by decide +kernel)
set_option maxRecDepth 20000 in
theorem gX7_writer_X6_init : GoodIn wsX7_writer (wsX6_init) := ggX7_writer_X6_init
set_option maxRecDepth 20000 in
theorem ggX7_writer_Jx4a65c_add_9ea2d : GoodIn wsX7_writer wsJx4a65c_add_9ea2d := goodIn_r _ [57, 58, 59, 60, 25, 61, 62, 63, 23, 64, 65, 66, 67, 68, 69, 70, 71, 72, 73, 74, 75, 76, 77, 78, 79, 80, 81, 82, 83, 84, 85, 86, 87, 88, 89, 90, 91, 92, 93, 94, 95, 96, 97, 98, 99, 100, 101, 102, 103, 104, 105, 106, 107, 128, 129, 130] (by decide +kernel) (by decide +kernel)
set_option maxRecDepth 20000 in
theorem gX7_writer_Jx4a65c_add_9ea2d : GoodIn wsX7_writer (wsV RX7 59 RJx4a65c yJx4a65c_add_9ea2d wsJx4a65c_add_9ea2d) := goodIn_app (goodIn_of _ (by decide +kernel)) ggX7_writer_Jx4a65c_add_9ea2d
theorem dX7_writer_0 : decode cX7_writer 0 = .ok (.iload_n 1, 1) := by decide +kernel
theorem dX7_writer_1 : decode cX7_writer 1 = .ok (.invokestatic 44, 3) := by decide +kernel
theorem dX7_writer_4 : decode cX7_writer 4 = .ok (.ifCond .eq 17, 3) := by decide +kernel
theorem dX7_writer_7 : decode cX7_writer 7 = .ok (.iload_n 2, 1) := by decide +kernel
theorem dX7_writer_8 : decode cX7_writer 8 = .ok (.invokestatic 47, 3) := by decide +kernel
theorem dX7_writer_11 : decode cX7_writer 11 = .ok (.ifCond .eq 10, 3) := by decide +kernel
theorem dX7_writer_14 : decode cX7_writer 14 = .ok (.iload_n 3, 1) := by decide +kernel
theorem dX7_writer_15 : decode cX7_writer 15 = .ok (.invokestatic 26, 3) := by decide +kernel
theorem dX7_writer_18 : decode cX7_writer 18 = .ok (.ifCond .ne 5, 3) := by decide +kernel
theorem dX7_writer_21 : decode cX7_writer 21 = .ok (.iconst (-1), 1) := by decide +kernel
theorem dX7_writer_22 : decode cX7_writer 22 = .ok (.ireturn, 1) := by decide +kernel
theorem dX7_writer_23 : decode cX7_writer 23 = .ok (.aload_n 0, 1) := by decide +kernel
theorem dX7_writer_24 : decode cX7_writer 24 = .ok (.invokevirtual 50, 3) := by decide +kernel
theorem dX7_writer_27 : decode cX7_writer 27 = .ok (.istore 5, 2) := by decide +kernel
theorem dX7_writer_29 : decode cX7_writer 29 = .ok (.iload 5, 2) := by decide +kernel
theorem dX7_writer_31 : decode cX7_writer 31 = .ok (.ifCond .lt 25, 3) := by decide +kernel
theorem dX7_writer_34 : decode cX7_writer 34 = .ok (.aload_n 0, 1) := by decide +kernel
theorem dX7_writer_35 : decode cX7_writer 35 = .ok (.getfield 19, 3) := by decide +kernel
theorem dX7_writer_38 : decode cX7_writer 38 = .ok (.new 63, 3) := by decide +kernel
theorem dX7_writer_41 : decode cX7_writer 41 = .ok (.dup, 1) := by decide +kernel
theorem dX7_writer_42 : decode cX7_writer 42 = .ok (.iload 5, 2) := by decide +kernel
theorem dX7_writer_44 : decode cX7_writer 44 = .ok (.iload_n 1, 1) := by decide +kernel
theorem dX7_writer_45 : decode cX7_writer 45 = .ok (.iload_n 2, 1) := by decide +kernel
theorem dX7_writer_46 : decode cX7_writer 46 = .ok (.iload_n 3, 1) := by decide +kernel
theorem dX7_writer_47 : decode cX7_writer 47 = .ok (.iload 4, 2) := by decide +kernel
theorem dX7_writer_49 : decode cX7_writer 49 = .ok (.invokespecial 65, 3) := by decide +kernel
theorem dX7_writer_52 : decode cX7_writer 52 = .ok (.invokevirtual 59, 3) := by decide +kernel
theorem dX7_writer_55 : decode cX7_writer 55 = .ok (.pop, 1) := by decide +kernel
theorem dX7_writer_56 : decode cX7_writer 56 = .ok (.iload 5, 2) := by decide +kernel
theorem dX7_writer_58 : decode cX7_writer 58 = .ok (.ireturn, 1) := by decide +kernel
set_option maxRecDepth 20000 in
theorem ggX7_reason_X7_areSteps : GoodIn wsX7_reason wsX7_areSteps := goodIn_r _ [8] (by decide +kernel) (by decide +kernel)
set_option maxRecDepth 20000 in
theorem gX7_reason_X7_areSteps : GoodIn wsX7_reason (va_wsS RX7 44 yX7_areSteps wsX7_areSteps) := goodIn_app (goodIn_of _ (by decide +kernel)) ggX7_reason_X7_areSteps
set_option maxRecDepth 20000 in
theorem ggX7_reason_X7_isFailsAt : GoodIn wsX7_reason wsX7_isFailsAt := goodIn_r _ [11] (by decide +kernel) (by decide +kernel)
set_option maxRecDepth 20000 in
theorem gX7_reason_X7_isFailsAt : GoodIn wsX7_reason (va_wsS RX7 47 yX7_isFailsAt wsX7_isFailsAt) := goodIn_app (goodIn_of _ (by decide +kernel)) ggX7_reason_X7_isFailsAt
set_option maxRecDepth 20000 in
theorem ggX7_reason_X7_nextNumber : GoodIn wsX7_reason wsX7_nextNumber := goodIn_r _ [15, 16, 1, 17, 18, 19, 20, 21, 22, 103, 104, 105, 106, 107, 108, 121, 122, 123] (by decide +kernel) (by decide +kernel)
set_option maxRecDepth 20000 in
theorem gX7_reason_X7_nextNumber : GoodIn wsX7_reason (wsV RX7 50 RX7 yX7_nextNumber wsX7_nextNumber) := goodIn_app (goodIn_of _ (by decide +kernel)) ggX7_reason_X7_nextNumber
set_option maxRecDepth 20000 in
theorem ggX7_reason_X2_init : GoodIn wsX7_reason wsX2_init := goodIn_r _ [25, 26, 27, 28, 29, 30, 31, 32, 33, 34, 35, 36, 37, 38, 39, 40, 41, 42, 43, 44, 45, 46, 47, 48, 124, 109, 110, 111, 112, 113, 114, 115, 116, 117, 118, 119, 120, 125, 126, 127, 128, 129, 130, 131, 132, 133, 134, 135, 136, 137, 138, 139, 140, 141, 142, 143, 144, 145, 146, 147, 148, 149, 150, 151, 152, 153, 154, 155, 156, 157, 158, 159, 160, 161, 162] (by decide +kernel) (by decide +kernel)
set_option maxRecDepth 20000 in
theorem gX7_reason_X2_init : GoodIn wsX7_reason (wsX2_init) := ggX7_reason_X2_init
set_option maxRecDepth 20000 in
theorem ggX7_reason_Jx4a65c_add_9ea2d : GoodIn wsX7_reason wsJx4a65c_add_9ea2d := goodIn_r _ [52, 53, 54, 55, 22, 56, 57, 58, 20, 59, 60, 61, 62, 63, 64, 65, 66, 67, 68, 69, 70, 71, 72, 73, 74, 75, 76, 77, 78, 79, 80, 81, 82, 83, 84, 85, 86, 87, 88, 89, 90, 91, 92, 93, 94, 95, 96, 97, 98, 99, 100, 101, 102, 121, 122, 123] (by decide +kernel) (by decide +kernel)
set_option maxRecDepth 20000 in
theorem gX7_reason_Jx4a65c_add_9ea2d : GoodIn wsX7_reason (wsV RX7 59 RJx4a65c yJx4a65c_add_9ea2d wsJx4a65c_add_9ea2d) := goodIn_app (goodIn_of _ (by decide +kernel)) ggX7_reason_Jx4a65c_add_9ea2d
theorem dX7_reason_0 : decode cX7_reason 0 = .ok (.iload_n 1, 1) := by decide +kernel
theorem dX7_reason_1 : decode cX7_reason 1 = .ok (.invokestatic 44, 3) := by decide +kernel
theorem dX7_reason_4 : decode cX7_reason 4 = .ok (.ifCond .eq 10, 3) := by decide +kernel
theorem dX7_reason_7 : decode cX7_reason 7 = .ok (.iload_n 2, 1) := by decide +kernel
theorem dX7_reason_8 : decode cX7_reason 8 = .ok (.invokestatic 47, 3) := by decide +kernel
theorem dX7_reason_11 : decode cX7_reason 11 = .ok (.ifCond .ne 5, 3) := by decide +kernel
theorem dX7_reason_14 : decode cX7_reason 14 = .ok (.iconst (-1), 1) := by decide +kernel
theorem dX7_reason_15 : decode cX7_reason 15 = .ok (.ireturn, 1) := by decide +kernel
theorem dX7_reason_16 : decode cX7_reason 16 = .ok (.aload_n 0, 1) := by decide +kernel
theorem dX7_reason_17 : decode cX7_reason 17 = .ok (.invokevirtual 50, 3) := by decide +kernel
theorem dX7_reason_20 : decode cX7_reason 20 = .ok (.istore_n 3, 1) := by decide +kernel
theorem dX7_reason_21 : decode cX7_reason 21 = .ok (.iload_n 3, 1) := by decide +kernel
theorem dX7_reason_22 : decode cX7_reason 22 = .ok (.ifCond .lt 21, 3) := by decide +kernel
theorem dX7_reason_25 : decode cX7_reason 25 = .ok (.aload_n 0, 1) := by decide +kernel
theorem dX7_reason_26 : decode cX7_reason 26 = .ok (.getfield 19, 3) := by decide +kernel
theorem dX7_reason_29 : decode cX7_reason 29 = .ok (.new 68, 3) := by decide +kernel
theorem dX7_reason_32 : decode cX7_reason 32 = .ok (.dup, 1) := by decide +kernel
theorem dX7_reason_33 : decode cX7_reason 33 = .ok (.iload_n 3, 1) := by decide +kernel
theorem dX7_reason_34 : decode cX7_reason 34 = .ok (.iload_n 1, 1) := by decide +kernel
theorem dX7_reason_35 : decode cX7_reason 35 = .ok (.iload_n 2, 1) := by decide +kernel
theorem dX7_reason_36 : decode cX7_reason 36 = .ok (.invokespecial 70, 3) := by decide +kernel
theorem dX7_reason_39 : decode cX7_reason 39 = .ok (.invokevirtual 59, 3) := by decide +kernel
theorem dX7_reason_42 : decode cX7_reason 42 = .ok (.pop, 1) := by decide +kernel
theorem dX7_reason_43 : decode cX7_reason 43 = .ok (.iload_n 3, 1) := by decide +kernel
theorem dX7_reason_44 : decode cX7_reason 44 = .ok (.ireturn, 1) := by decide +kernel
set_option maxRecDepth 20000 in
theorem ggX7_stream_X7_nextNumber : GoodIn wsX7_stream wsX7_nextNumber := goodIn_r _ [10, 11, 1, 12, 13, 14, 15, 16, 17, 98, 99, 100, 101, 102, 103, 115, 116, 117] (by decide +kernel) (by decide +kernel)
set_option maxRecDepth 20000 in
theorem gX7_stream_X7_nextNumber : GoodIn wsX7_stream (wsV RX7 50 RX7 yX7_nextNumber wsX7_nextNumber) := goodIn_app (goodIn_of _ (by decide +kernel)) ggX7_stream_X7_nextNumber
set_option maxRecDepth 20000 in
theorem ggX7_stream_X4_init : GoodIn wsX7_stream wsX4_init := goodIn_r _ [20, 21, 22, 23, 24, 25, 26, 27, 28, 29, 30, 31, 32, 33, 34, 35, 36, 37, 38, 39, 40, 41, 42, 43, 13, 14, 15, 16, 17, 118, 119, 120, 121, 122, 123, 124, 125, 126, 127, 128, 129, 130, 131, 132, 133, 134, 135, 136, 137, 138, 139, 140, 141, 142, 104, 105, 106, 107, 108, 109, 110, 111, 112, 113, 114, 143, 144, 145, 146, 147, 148, 149, 150, 151, 152, 153, 154, 155, 156, 157, 158, 159, 115, 116, 117] (by decide +kernel) (by decide +kernel)
set_option maxRecDepth 20000 in
theorem gX7_stream_X4_init : GoodIn wsX7_stream (wsX4_init) := ggX7_stream_X4_init
set_option maxRecDepth 20000 in
theorem ggX7_stream_Jx4a65c_add_9ea2d : GoodIn wsX7_stream wsJx4a65c_add_9ea2d := goodIn_r _ [47, 48, 49, 50, 17, 51, 52, 53, 15, 54, 55, 56, 57, 58, 59, 60, 61, 62, 63, 64, 65, 66, 67, 68, 69, 70, 71, 72, 73, 74, 75, 76, 77, 78, 79, 80, 81, 82, 83, 84, 85, 86, 87, 88, 89, 90, 91, 92, 93, 94, 95, 96, 97, 115, 116, 117] (by decide +kernel) (by decide +kernel)
set_option maxRecDepth 20000 in
theorem gX7_stream_Jx4a65c_add_9ea2d : GoodIn wsX7_stream (wsV RX7 59 RJx4a65c yJx4a65c_add_9ea2d wsJx4a65c_add_9ea2d) := goodIn_app (goodIn_of _ (by decide +kernel)) ggX7_stream_Jx4a65c_add_9ea2d
theorem dX7_stream_0 : decode cX7_stream 0 = .ok (.aload_n 0, 1) := by decide +kernel
theorem dX7_stream_1 : decode cX7_stream 1 = .ok (.invokevirtual 50, 3) := by decide +kernel
theorem dX7_stream_4 : decode cX7_stream 4 = .ok (.istore_n 1, 1) := by decide +kernel
theorem dX7_stream_5 : decode cX7_stream 5 = .ok (.iload_n 1, 1) := by decide +kernel
theorem dX7_stream_6 : decode cX7_stream 6 = .ok (.ifCond .lt 23, 3) := by decide +kernel
theorem dX7_stream_9 : decode cX7_stream 9 = .ok (.aload_n 0, 1) := by decide +kernel
theorem dX7_stream_10 : decode cX7_stream 10 = .ok (.getfield 19, 3) := by decide +kernel
theorem dX7_stream_13 : decode cX7_stream 13 = .ok (.new 73, 3) := by decide +kernel
theorem dX7_stream_16 : decode cX7_stream 16 = .ok (.dup, 1) := by decide +kernel
theorem dX7_stream_17 : decode cX7_stream 17 = .ok (.iload_n 1, 1) := by decide +kernel
theorem dX7_stream_18 : decode cX7_stream 18 = .ok (.aload_n 0, 1) := by decide +kernel
theorem dX7_stream_19 : decode cX7_stream 19 = .ok (.getfield 12, 3) := by decide +kernel
theorem dX7_stream_22 : decode cX7_stream 22 = .ok (.invokespecial 75, 3) := by decide +kernel
theorem dX7_stream_25 : decode cX7_stream 25 = .ok (.invokevirtual 59, 3) := by decide +kernel
theorem dX7_stream_28 : decode cX7_stream 28 = .ok (.pop, 1) := by decide +kernel
theorem dX7_stream_29 : decode cX7_stream 29 = .ok (.iload_n 1, 1) := by decide +kernel
theorem dX7_stream_30 : decode cX7_stream 30 = .ok (.ireturn, 1) := by decide +kernel
set_option maxRecDepth 20000 in
theorem ggX7_turn_X7_find : GoodIn wsX7_turn wsX7_find := goodIn_r _ [5, 6, 7, 8, 9, 10, 11, 12, 13, 14, 15, 16, 17, 18, 19, 20, 21, 22, 23, 24, 25, 26, 27, 28, 29, 30, 271, 272, 273, 274, 275, 276, 277, 278, 279] (by decide +kernel) (by decide +kernel)
set_option maxRecDepth 20000 in
theorem gX7_turn_X7_find : GoodIn wsX7_turn (wsV RX7 78 RX7 yX7_find wsX7_find) := goodIn_app (goodIn_of _ (by decide +kernel)) ggX7_turn_X7_find
set_option maxRecDepth 20000 in
theorem ggX7_turn_X7_giveTurn : GoodIn wsX7_turn wsX7_giveTurn := goodIn_r _ [34, 35, 36, 37, 38, 39, 40, 41, 42, 43, 44, 45, 46, 47, 48, 49, 4, 50, 51, 52, 53, 54, 55, 56, 57, 6, 7, 8, 9, 10, 11, 12, 13, 14, 15, 16, 17, 18, 19, 20, 21, 22, 23, 24, 25, 26, 27, 28, 29, 30, 58, 59, 60, 61, 62, 63, 64, 65, 66, 67, 68, 69, 70, 71, 72, 73, 74, 75, 76, 77, 78, 79, 80, 81, 82, 83, 84, 85, 86, 87, 88, 89, 90, 91, 92, 93, 94, 95, 96, 97, 98, 99, 100, 101, 102, 103, 104, 105, 106, 107, 108, 109, 110, 111, 112, 113, 114, 115, 116, 117, 118, 119, 120, 121, 122, 123, 124, 125, 126, 127, 128, 129, 130, 131, 132, 133, 134, 135, 136, 137, 138, 139, 140, 141, 142, 143, 144, 145, 146, 147, 148, 149, 150, 151, 152, 153, 154, 155, 156, 157, 158, 159, 160, 161, 162, 163, 164, 165, 166, 167, 168, 169, 170, 171, 172, 173, 174, 175, 176, 177, 178, 179, 180, 181, 182, 183, 184, 185, 186, 187, 188, 189, 190, 191, 192, 193, 194, 195, 196, 197, 198, 199, 200, 201, 202, 203, 204, 205, 206, 207, 208, 209, 210, 211, 212, 213, 214, 215, 216, 217, 218, 219, 220, 221, 222, 223, 224, 225, 226, 227, 228, 229, 230, 231, 232, 233, 234, 235, 236, 237, 238, 239, 240, 241, 242, 243, 244, 245, 246, 247, 248, 249, 250, 251, 252, 253, 254, 255, 256, 257, 258, 259, 260, 261, 262, 263, 264, 265, 266, 267, 268, 269, 270, 271, 272, 273, 274, 275, 276, 280, 281, 282, 283, 284, 285, 286, 287, 288, 289, 290, 291, 292, 293, 294, 295, 296, 297, 298, 299, 300, 301, 302, 303, 304, 305, 306, 307, 308, 309, 310, 311, 312, 313, 314, 315, 316, 317, 318, 319, 320, 321, 322, 323, 324, 325, 326, 327, 328, 329, 277, 278, 279, 330, 331, 332, 333] (by decide +kernel) (by decide +kernel)
set_option maxRecDepth 20000 in
theorem gX7_turn_X7_giveTurn : GoodIn wsX7_turn (wsV RX7 82 RX7 yX7_giveTurn wsX7_giveTurn) := goodIn_app (goodIn_of _ (by decide +kernel)) ggX7_turn_X7_giveTurn
theorem dX7_turn_0 : decode cX7_turn 0 = .ok (.aload_n 0, 1) := by decide +kernel
theorem dX7_turn_1 : decode cX7_turn 1 = .ok (.iload_n 1, 1) := by decide +kernel
theorem dX7_turn_2 : decode cX7_turn 2 = .ok (.invokevirtual 78, 3) := by decide +kernel
theorem dX7_turn_5 : decode cX7_turn 5 = .ok (.astore_n 2, 1) := by decide +kernel
theorem dX7_turn_6 : decode cX7_turn 6 = .ok (.aload_n 2, 1) := by decide +kernel
theorem dX7_turn_7 : decode cX7_turn 7 = .ok (.ifnonnull 5, 3) := by decide +kernel
theorem dX7_turn_10 : decode cX7_turn 10 = .ok (.iconst (-1), 1) := by decide +kernel
theorem dX7_turn_11 : decode cX7_turn 11 = .ok (.ireturn, 1) := by decide +kernel
theorem dX7_turn_12 : decode cX7_turn 12 = .ok (.aload_n 0, 1) := by decide +kernel
theorem dX7_turn_13 : decode cX7_turn 13 = .ok (.aload_n 2, 1) := by decide +kernel
theorem dX7_turn_14 : decode cX7_turn 14 = .ok (.invokevirtual 82, 3) := by decide +kernel
theorem dX7_turn_17 : decode cX7_turn 17 = .ok (.ireturn, 1) := by decide +kernel
set_option maxRecDepth 20000 in
theorem ggX7_run_X7_giveRow : GoodIn wsX7_run wsX7_giveRow := goodIn_r _ [5, 6, 7, 8, 9, 10, 11, 12, 13, 14, 15, 16, 17, 18, 19, 20, 21, 22, 23, 24, 25, 26, 27, 28, 29, 30, 31, 32, 33, 4, 34, 35, 36, 37, 38, 39, 40, 41, 42, 43, 44, 45, 46, 47, 48, 49, 50, 51, 52, 53, 54, 55, 56, 57, 58, 59, 60, 61, 62, 63, 64, 65, 66, 67, 68, 69, 70, 71, 72, 73, 74, 75, 76, 77, 78, 79, 80, 81, 82, 83, 84, 85, 86, 87, 88, 89, 90, 91, 92, 93, 94, 95, 96, 97, 98, 99, 100, 101, 102, 103, 104, 105, 106, 107, 108, 109, 110, 111, 112, 113, 114, 115, 116, 117, 118, 119, 120, 121, 122, 123, 124, 125, 126, 127, 128, 129, 130, 131, 132, 133, 134, 135, 136, 137, 138, 139, 140, 141, 142, 143, 144, 145, 146, 147, 148, 149, 150, 151, 152, 153, 154, 155, 156, 157, 158, 159, 160, 161, 162, 163, 164, 165, 166, 167, 168, 169, 170, 171, 172, 173, 174, 175, 176, 177, 178, 179, 180, 181, 182, 183, 184, 185, 186, 187, 188, 189, 190, 191, 192, 193, 194, 195, 196, 197, 198, 199, 200, 201, 202, 203, 204, 205, 206, 207, 208, 209, 210, 211, 212, 213, 214, 215, 216, 217, 218, 219, 220, 221, 222, 223, 224, 225, 226, 227, 228, 229, 230, 231, 232, 233, 234, 235, 236, 237, 238, 239, 240, 241, 242, 243, 244, 245, 246, 247, 248, 249, 250, 251, 252, 253, 254, 255, 256, 257, 258, 259, 260, 261, 262, 263, 264, 265, 266, 267, 268, 269, 270, 271, 272, 273, 274, 275, 276, 277, 278, 279, 280, 281, 282, 283, 284, 285, 286, 287, 288, 289, 290, 291, 292, 293, 294, 295, 296, 297, 298, 299, 300, 301, 302, 303, 304, 305, 306, 307, 308, 309, 310, 311, 312, 313, 314, 315, 316, 317, 318, 319, 320, 321, 322, 323, 324, 325, 326, 327, 328, 329, 330, 331, 332, 333] (by decide +kernel) (by decide +kernel)
set_option maxRecDepth 20000 in
theorem gX7_run_X7_giveRow : GoodIn wsX7_run (wsV RX7 86 RX7 yX7_giveRow wsX7_giveRow) := goodIn_app (goodIn_of _ (by decide +kernel)) ggX7_run_X7_giveRow
theorem dX7_run_0 : decode cX7_run 0 = .ok (.iload_n 1, 1) := by decide +kernel
theorem dX7_run_1 : decode cX7_run 1 = .ok (.ifCond .lt 10, 3) := by decide +kernel
theorem dX7_run_4 : decode cX7_run 4 = .ok (.iload_n 1, 1) := by decide +kernel
theorem dX7_run_5 : decode cX7_run 5 = .ok (.sipush 1000, 3) := by decide +kernel
theorem dX7_run_8 : decode cX7_run 8 = .ok (.if_icmp .le 5, 3) := by decide +kernel
theorem dX7_run_11 : decode cX7_run 11 = .ok (.iconst (-1), 1) := by decide +kernel
theorem dX7_run_12 : decode cX7_run 12 = .ok (.ireturn, 1) := by decide +kernel
theorem dX7_run_13 : decode cX7_run 13 = .ok (.iconst 0, 1) := by decide +kernel
theorem dX7_run_14 : decode cX7_run 14 = .ok (.istore_n 2, 1) := by decide +kernel
theorem dX7_run_15 : decode cX7_run 15 = .ok (.iconst 0, 1) := by decide +kernel
theorem dX7_run_16 : decode cX7_run 16 = .ok (.istore_n 3, 1) := by decide +kernel
theorem dX7_run_17 : decode cX7_run 17 = .ok (.iload_n 3, 1) := by decide +kernel
theorem dX7_run_18 : decode cX7_run 18 = .ok (.iload_n 1, 1) := by decide +kernel
theorem dX7_run_19 : decode cX7_run 19 = .ok (.if_icmp .ge 31, 3) := by decide +kernel
theorem dX7_run_22 : decode cX7_run 22 = .ok (.aload_n 0, 1) := by decide +kernel
theorem dX7_run_23 : decode cX7_run 23 = .ok (.iload_n 1, 1) := by decide +kernel
theorem dX7_run_24 : decode cX7_run 24 = .ok (.iload_n 2, 1) := by decide +kernel
theorem dX7_run_25 : decode cX7_run 25 = .ok (.isub, 1) := by decide +kernel
theorem dX7_run_26 : decode cX7_run 26 = .ok (.invokevirtual 86, 3) := by decide +kernel
theorem dX7_run_29 : decode cX7_run 29 = .ok (.istore 4, 2) := by decide +kernel
theorem dX7_run_31 : decode cX7_run 31 = .ok (.iload 4, 2) := by decide +kernel
theorem dX7_run_33 : decode cX7_run 33 = .ok (.ifCond .ne 6, 3) := by decide +kernel
theorem dX7_run_36 : decode cX7_run 36 = .ok (.goto 14, 3) := by decide +kernel
theorem dX7_run_39 : decode cX7_run 39 = .ok (.iload_n 2, 1) := by decide +kernel
theorem dX7_run_40 : decode cX7_run 40 = .ok (.iload 4, 2) := by decide +kernel
theorem dX7_run_42 : decode cX7_run 42 = .ok (.iadd, 1) := by decide +kernel
theorem dX7_run_43 : decode cX7_run 43 = .ok (.istore_n 2, 1) := by decide +kernel
theorem dX7_run_44 : decode cX7_run 44 = .ok (.iinc 3 1, 3) := by decide +kernel
theorem dX7_run_47 : decode cX7_run 47 = .ok (.goto (-30), 3) := by decide +kernel
theorem dX7_run_50 : decode cX7_run 50 = .ok (.iload_n 2, 1) := by decide +kernel
theorem dX7_run_51 : decode cX7_run 51 = .ok (.ireturn, 1) := by decide +kernel
set_option maxRecDepth 20000 in
theorem ggX7_cancel_X7_find : GoodIn wsX7_cancel wsX7_find := goodIn_r _ [6, 7, 8, 9, 10, 11, 12, 13, 14, 15, 16, 17, 18, 19, 20, 21, 22, 23, 24, 25, 26, 27, 28, 29, 30, 31, 92, 93, 94, 95, 96, 97, 98, 99, 100] (by decide +kernel) (by decide +kernel)
set_option maxRecDepth 20000 in
theorem gX7_cancel_X7_find : GoodIn wsX7_cancel (wsV RX7 78 RX7 yX7_find wsX7_find) := goodIn_app (goodIn_of _ (by decide +kernel)) ggX7_cancel_X7_find
set_option maxRecDepth 20000 in
theorem ggX7_cancel_X5_hasEnded : GoodIn wsX7_cancel wsX5_hasEnded := goodIn_r _ [37, 38, 42, 43, 44, 45, 46, 47, 48, 49, 50, 51, 52, 53, 54, 55, 56, 57, 58, 59, 60, 61, 62, 63, 64, 65, 66, 67, 68, 69, 70, 71, 72, 73, 74, 75, 76, 77, 78, 79, 80, 81, 82, 83, 84, 85, 86, 87, 88, 89, 90, 91] (by decide +kernel) (by decide +kernel)
set_option maxRecDepth 20000 in
theorem gX7_cancel_X5_hasEnded_u90X1 : GoodIn wsX7_cancel (va_wsU RX7 90 RX1 "HouseWorkers$Work" ⟨"HouseWorkers$Work", "hasEnded", "()Z"⟩ yX5_hasEnded wsX5_hasEnded) := goodIn_app (goodIn_of _ (by decide +kernel)) ggX7_cancel_X5_hasEnded
set_option maxRecDepth 20000 in
theorem gX7_cancel_X5_hasEnded_u90X2 : GoodIn wsX7_cancel (va_wsU RX7 90 RX2 "HouseWorkers$Work" ⟨"HouseWorkers$Work", "hasEnded", "()Z"⟩ yX5_hasEnded wsX5_hasEnded) := goodIn_app (goodIn_of _ (by decide +kernel)) ggX7_cancel_X5_hasEnded
set_option maxRecDepth 20000 in
theorem gX7_cancel_X5_hasEnded_u90X4 : GoodIn wsX7_cancel (va_wsU RX7 90 RX4 "HouseWorkers$Work" ⟨"HouseWorkers$Work", "hasEnded", "()Z"⟩ yX5_hasEnded wsX5_hasEnded) := goodIn_app (goodIn_of _ (by decide +kernel)) ggX7_cancel_X5_hasEnded
set_option maxRecDepth 20000 in
theorem gX7_cancel_X5_hasEnded_u90X6 : GoodIn wsX7_cancel (va_wsU RX7 90 RX6 "HouseWorkers$Work" ⟨"HouseWorkers$Work", "hasEnded", "()Z"⟩ yX5_hasEnded wsX5_hasEnded) := goodIn_app (goodIn_of _ (by decide +kernel)) ggX7_cancel_X5_hasEnded
theorem dX7_cancel_0 : decode cX7_cancel 0 = .ok (.aload_n 0, 1) := by decide +kernel
theorem dX7_cancel_1 : decode cX7_cancel 1 = .ok (.iload_n 1, 1) := by decide +kernel
theorem dX7_cancel_2 : decode cX7_cancel 2 = .ok (.invokevirtual 78, 3) := by decide +kernel
theorem dX7_cancel_5 : decode cX7_cancel 5 = .ok (.astore_n 2, 1) := by decide +kernel
theorem dX7_cancel_6 : decode cX7_cancel 6 = .ok (.aload_n 2, 1) := by decide +kernel
theorem dX7_cancel_7 : decode cX7_cancel 7 = .ok (.ifnonnull 5, 3) := by decide +kernel
theorem dX7_cancel_10 : decode cX7_cancel 10 = .ok (.iconst (-1), 1) := by decide +kernel
theorem dX7_cancel_11 : decode cX7_cancel 11 = .ok (.ireturn, 1) := by decide +kernel
theorem dX7_cancel_12 : decode cX7_cancel 12 = .ok (.aload_n 2, 1) := by decide +kernel
theorem dX7_cancel_13 : decode cX7_cancel 13 = .ok (.invokevirtual 90, 3) := by decide +kernel
theorem dX7_cancel_16 : decode cX7_cancel 16 = .ok (.ifCond .ne 10, 3) := by decide +kernel
theorem dX7_cancel_19 : decode cX7_cancel 19 = .ok (.aload_n 2, 1) := by decide +kernel
theorem dX7_cancel_20 : decode cX7_cancel 20 = .ok (.getfield 95, 3) := by decide +kernel
theorem dX7_cancel_23 : decode cX7_cancel 23 = .ok (.ifCond .eq 5, 3) := by decide +kernel
theorem dX7_cancel_26 : decode cX7_cancel 26 = .ok (.iconst 0, 1) := by decide +kernel
theorem dX7_cancel_27 : decode cX7_cancel 27 = .ok (.ireturn, 1) := by decide +kernel
theorem dX7_cancel_28 : decode cX7_cancel 28 = .ok (.aload_n 2, 1) := by decide +kernel
theorem dX7_cancel_29 : decode cX7_cancel 29 = .ok (.iconst 1, 1) := by decide +kernel
theorem dX7_cancel_30 : decode cX7_cancel 30 = .ok (.putfield 95, 3) := by decide +kernel
theorem dX7_cancel_33 : decode cX7_cancel 33 = .ok (.iconst 1, 1) := by decide +kernel
theorem dX7_cancel_34 : decode cX7_cancel 34 = .ok (.ireturn, 1) := by decide +kernel
set_option maxRecDepth 20000 in
theorem ggX7_close_Jx4a65c_size_8abf5 : GoodIn wsX7_close wsJx4a65c_size_8abf5 := goodIn_r _ [8, 9, 105, 106, 107] (by decide +kernel) (by decide +kernel)
set_option maxRecDepth 20000 in
theorem gX7_close_Jx4a65c_size_8abf5 : GoodIn wsX7_close (wsV RX7 102 RJx4a65c yJx4a65c_size_8abf5 wsJx4a65c_size_8abf5) := goodIn_app (goodIn_of _ (by decide +kernel)) ggX7_close_Jx4a65c_size_8abf5
set_option maxRecDepth 20000 in
theorem ggX7_close_Jx4a65c_get_915e3 : GoodIn wsX7_close wsJx4a65c_get_915e3 := goodIn_r _ [13, 9, 14, 15, 16, 17, 18, 19, 20, 21, 22, 23, 24, 7, 25, 26, 105, 106, 107] (by decide +kernel) (by decide +kernel)
set_option maxRecDepth 20000 in
theorem gX7_close_Jx4a65c_get_915e3 : GoodIn wsX7_close (wsV RX7 105 RJx4a65c yJx4a65c_get_915e3 wsJx4a65c_get_915e3) := goodIn_app (goodIn_of _ (by decide +kernel)) ggX7_close_Jx4a65c_get_915e3
set_option maxRecDepth 20000 in
theorem ggX7_close_X5_hasEnded : GoodIn wsX7_close wsX5_hasEnded := goodIn_r _ [32, 33, 108, 109, 110, 111, 112, 113, 114, 115, 116, 117, 118, 119, 120, 121, 122, 123, 124, 125, 126, 127, 128, 129, 130, 131, 132, 133, 134, 135, 136, 137, 138, 139, 140, 141, 142, 143, 144, 145, 146, 147, 148, 149, 150, 151, 152, 153, 154, 155, 156, 157] (by decide +kernel) (by decide +kernel)
end
section
set_option maxRecDepth 20000 in
theorem gX7_close_X5_hasEnded_u90X1 : GoodIn wsX7_close (va_wsU RX7 90 RX1 "HouseWorkers$Work" ⟨"HouseWorkers$Work", "hasEnded", "()Z"⟩ yX5_hasEnded wsX5_hasEnded) := goodIn_app (goodIn_of _ (by decide +kernel)) ggX7_close_X5_hasEnded
set_option maxRecDepth 20000 in
theorem gX7_close_X5_hasEnded_u90X2 : GoodIn wsX7_close (va_wsU RX7 90 RX2 "HouseWorkers$Work" ⟨"HouseWorkers$Work", "hasEnded", "()Z"⟩ yX5_hasEnded wsX5_hasEnded) := goodIn_app (goodIn_of _ (by decide +kernel)) ggX7_close_X5_hasEnded
set_option maxRecDepth 20000 in
theorem gX7_close_X5_hasEnded_u90X4 : GoodIn wsX7_close (va_wsU RX7 90 RX4 "HouseWorkers$Work" ⟨"HouseWorkers$Work", "hasEnded", "()Z"⟩ yX5_hasEnded wsX5_hasEnded) := goodIn_app (goodIn_of _ (by decide +kernel)) ggX7_close_X5_hasEnded
set_option maxRecDepth 20000 in
theorem gX7_close_X5_hasEnded_u90X6 : GoodIn wsX7_close (va_wsU RX7 90 RX6 "HouseWorkers$Work" ⟨"HouseWorkers$Work", "hasEnded", "()Z"⟩ yX5_hasEnded wsX5_hasEnded) := goodIn_app (goodIn_of _ (by decide +kernel)) ggX7_close_X5_hasEnded
set_option maxRecDepth 20000 in
theorem ggX7_close_X7_endWork : GoodIn wsX7_close wsX7_endWork := goodIn_r _ [41, 42, 43, 44, 45, 46, 47, 48, 7, 49, 50, 51, 26, 9, 52, 53, 54, 55, 56, 57, 58, 59, 60, 61, 62, 63, 64, 65, 66, 67, 68, 69, 70, 71, 72, 73, 74, 75, 76, 77, 78, 79, 80, 81, 82, 83, 84, 85, 86, 87, 88, 89, 90, 91, 92, 93, 94, 95, 96, 97, 98, 108, 109, 110, 111, 112, 113, 114, 115, 116, 117, 118, 119, 120, 121, 122, 123, 124, 125, 126, 127, 128, 129, 130, 131, 132, 133, 134, 135, 136, 137, 138, 139, 140, 141, 142, 143, 144, 145, 146, 147, 148, 149, 150, 151, 152, 153, 154, 155, 156, 157, 99, 100, 101, 102, 103, 104, 105, 106, 107] (by decide +kernel) (by decide +kernel)
set_option maxRecDepth 20000 in
theorem gX7_close_X7_endWork : GoodIn wsX7_close (wsV RX7 109 RX7 yX7_endWork wsX7_endWork) := goodIn_app (goodIn_of _ (by decide +kernel)) ggX7_close_X7_endWork
theorem dX7_close_0 : decode cX7_close 0 = .ok (.aload_n 0, 1) := by decide +kernel
theorem dX7_close_1 : decode cX7_close 1 = .ok (.getfield 99, 3) := by decide +kernel
theorem dX7_close_4 : decode cX7_close 4 = .ok (.ifCond .eq 6, 3) := by decide +kernel
theorem dX7_close_7 : decode cX7_close 7 = .ok (.bipush (-2), 2) := by decide +kernel
theorem dX7_close_9 : decode cX7_close 9 = .ok (.ireturn, 1) := by decide +kernel
theorem dX7_close_10 : decode cX7_close 10 = .ok (.aload_n 0, 1) := by decide +kernel
theorem dX7_close_11 : decode cX7_close 11 = .ok (.iconst 1, 1) := by decide +kernel
theorem dX7_close_12 : decode cX7_close 12 = .ok (.putfield 99, 3) := by decide +kernel
theorem dX7_close_15 : decode cX7_close 15 = .ok (.iconst 0, 1) := by decide +kernel
theorem dX7_close_16 : decode cX7_close 16 = .ok (.istore_n 1, 1) := by decide +kernel
theorem dX7_close_17 : decode cX7_close 17 = .ok (.iconst 0, 1) := by decide +kernel
theorem dX7_close_18 : decode cX7_close 18 = .ok (.istore_n 2, 1) := by decide +kernel
theorem dX7_close_19 : decode cX7_close 19 = .ok (.iload_n 2, 1) := by decide +kernel
theorem dX7_close_20 : decode cX7_close 20 = .ok (.aload_n 0, 1) := by decide +kernel
theorem dX7_close_21 : decode cX7_close 21 = .ok (.getfield 19, 3) := by decide +kernel
theorem dX7_close_24 : decode cX7_close 24 = .ok (.invokevirtual 102, 3) := by decide +kernel
theorem dX7_close_27 : decode cX7_close 27 = .ok (.if_icmp .ge 37, 3) := by decide +kernel
theorem dX7_close_30 : decode cX7_close 30 = .ok (.aload_n 0, 1) := by decide +kernel
theorem dX7_close_31 : decode cX7_close 31 = .ok (.getfield 19, 3) := by decide +kernel
theorem dX7_close_34 : decode cX7_close 34 = .ok (.iload_n 2, 1) := by decide +kernel
theorem dX7_close_35 : decode cX7_close 35 = .ok (.invokevirtual 105, 3) := by decide +kernel
theorem dX7_close_38 : decode cX7_close 38 = .ok (.checkcast 91, 3) := by decide +kernel
theorem dX7_close_41 : decode cX7_close 41 = .ok (.astore_n 3, 1) := by decide +kernel
theorem dX7_close_42 : decode cX7_close 42 = .ok (.aload_n 3, 1) := by decide +kernel
theorem dX7_close_43 : decode cX7_close 43 = .ok (.invokevirtual 90, 3) := by decide +kernel
theorem dX7_close_46 : decode cX7_close 46 = .ok (.ifCond .ne 12, 3) := by decide +kernel
theorem dX7_close_49 : decode cX7_close 49 = .ok (.aload_n 0, 1) := by decide +kernel
theorem dX7_close_50 : decode cX7_close 50 = .ok (.aload_n 3, 1) := by decide +kernel
theorem dX7_close_51 : decode cX7_close 51 = .ok (.iconst 4, 1) := by decide +kernel
theorem dX7_close_52 : decode cX7_close 52 = .ok (.invokevirtual 109, 3) := by decide +kernel
theorem dX7_close_55 : decode cX7_close 55 = .ok (.iinc 1 1, 3) := by decide +kernel
theorem dX7_close_58 : decode cX7_close 58 = .ok (.iinc 2 1, 3) := by decide +kernel
theorem dX7_close_61 : decode cX7_close 61 = .ok (.goto (-42), 3) := by decide +kernel
theorem dX7_close_64 : decode cX7_close 64 = .ok (.iload_n 1, 1) := by decide +kernel
theorem dX7_close_65 : decode cX7_close 65 = .ok (.ireturn, 1) := by decide +kernel
set_option maxRecDepth 20000 in
theorem ggX7_told_X7_find : GoodIn wsX7_told wsX7_find := goodIn_r _ [10, 11, 12, 13, 14, 15, 16, 17, 18, 19, 20, 21, 22, 23, 24, 25, 26, 27, 28, 29, 30, 31, 32, 33, 34, 35, 152, 153, 154, 155, 156, 157, 158, 159, 160] (by decide +kernel) (by decide +kernel)
set_option maxRecDepth 20000 in
theorem gX7_told_X7_find : GoodIn wsX7_told (wsV RX7 78 RX7 yX7_find wsX7_find) := goodIn_app (goodIn_of _ (by decide +kernel)) ggX7_told_X7_find
set_option maxRecDepth 20000 in
theorem ggX7_told_X7_standsStill : GoodIn wsX7_told wsX7_standsStill := goodIn_r _ [39, 40, 41, 42, 43, 44, 45, 46, 47, 48, 49, 50, 51, 52, 53, 54, 9, 55, 56, 11, 12, 13, 14, 15, 16, 17, 18, 19, 20, 21, 22, 23, 24, 25, 26, 27, 28, 29, 30, 31, 32, 33, 34, 35, 57, 58, 59, 60, 61, 62, 63, 64, 65, 66, 67, 68, 69, 70, 71, 72, 73, 74, 75, 76, 77, 78, 79, 80, 81, 82, 83, 84, 85, 86, 87, 88, 89, 90, 91, 92, 93, 94, 95, 96, 97, 98, 99, 100, 101, 102, 103, 104, 105, 106, 107, 108, 109, 110, 111, 112, 113, 114, 115, 116, 117, 118, 119, 120, 121, 122, 123, 124, 125, 126, 127, 128, 129, 130, 131, 132, 133, 134, 135, 136, 137, 138, 139, 140, 141, 142, 143, 144, 145, 146, 147, 148, 149, 150, 151, 152, 153, 154, 155, 156, 157, 158, 159, 160, 161, 162, 163] (by decide +kernel) (by decide +kernel)
set_option maxRecDepth 20000 in
theorem gX7_told_X7_standsStill : GoodIn wsX7_told (wsV RX7 129 RX7 yX7_standsStill wsX7_standsStill) := goodIn_app (goodIn_of _ (by decide +kernel)) ggX7_told_X7_standsStill
theorem dX7_told_0 : decode cX7_told 0 = .ok (.aload_n 0, 1) := by decide +kernel
theorem dX7_told_1 : decode cX7_told 1 = .ok (.iload_n 1, 1) := by decide +kernel
theorem dX7_told_2 : decode cX7_told 2 = .ok (.invokevirtual 78, 3) := by decide +kernel
theorem dX7_told_5 : decode cX7_told 5 = .ok (.astore_n 3, 1) := by decide +kernel
theorem dX7_told_6 : decode cX7_told 6 = .ok (.aload_n 3, 1) := by decide +kernel
theorem dX7_told_7 : decode cX7_told 7 = .ok (.ifnonnull 5, 3) := by decide +kernel
theorem dX7_told_10 : decode cX7_told 10 = .ok (.iconst (-1), 1) := by decide +kernel
theorem dX7_told_11 : decode cX7_told 11 = .ok (.ireturn, 1) := by decide +kernel
theorem dX7_told_12 : decode cX7_told 12 = .ok (.iload_n 2, 1) := by decide +kernel
theorem dX7_told_13 : decode cX7_told 13 = .ok (.tableswitch 78 0 5 #[39, 44, 49, 54, 59, 64], 39) := by decide +kernel
theorem dX7_told_52 : decode cX7_told 52 = .ok (.aload_n 3, 1) := by decide +kernel
theorem dX7_told_53 : decode cX7_told 53 = .ok (.getfield 113, 3) := by decide +kernel
theorem dX7_told_56 : decode cX7_told 56 = .ok (.ireturn, 1) := by decide +kernel
theorem dX7_told_57 : decode cX7_told 57 = .ok (.aload_n 3, 1) := by decide +kernel
theorem dX7_told_58 : decode cX7_told 58 = .ok (.getfield 117, 3) := by decide +kernel
theorem dX7_told_61 : decode cX7_told 61 = .ok (.ireturn, 1) := by decide +kernel
theorem dX7_told_62 : decode cX7_told 62 = .ok (.aload_n 3, 1) := by decide +kernel
theorem dX7_told_63 : decode cX7_told 63 = .ok (.getfield 120, 3) := by decide +kernel
theorem dX7_told_66 : decode cX7_told 66 = .ok (.ireturn, 1) := by decide +kernel
theorem dX7_told_67 : decode cX7_told 67 = .ok (.aload_n 3, 1) := by decide +kernel
theorem dX7_told_68 : decode cX7_told 68 = .ok (.getfield 123, 3) := by decide +kernel
theorem dX7_told_71 : decode cX7_told 71 = .ok (.ireturn, 1) := by decide +kernel
theorem dX7_told_72 : decode cX7_told 72 = .ok (.aload_n 3, 1) := by decide +kernel
theorem dX7_told_73 : decode cX7_told 73 = .ok (.getfield 126, 3) := by decide +kernel
theorem dX7_told_76 : decode cX7_told 76 = .ok (.ireturn, 1) := by decide +kernel
theorem dX7_told_77 : decode cX7_told 77 = .ok (.aload_n 0, 1) := by decide +kernel
theorem dX7_told_78 : decode cX7_told 78 = .ok (.aload_n 3, 1) := by decide +kernel
theorem dX7_told_79 : decode cX7_told 79 = .ok (.invokevirtual 129, 3) := by decide +kernel
theorem dX7_told_82 : decode cX7_told 82 = .ok (.ifCond .eq 7, 3) := by decide +kernel
theorem dX7_told_85 : decode cX7_told 85 = .ok (.iconst 1, 1) := by decide +kernel
theorem dX7_told_86 : decode cX7_told 86 = .ok (.goto 4, 3) := by decide +kernel
theorem dX7_told_89 : decode cX7_told 89 = .ok (.iconst 0, 1) := by decide +kernel
theorem dX7_told_90 : decode cX7_told 90 = .ok (.ireturn, 1) := by decide +kernel
theorem dX7_told_91 : decode cX7_told 91 = .ok (.iconst (-1), 1) := by decide +kernel
theorem dX7_told_92 : decode cX7_told 92 = .ok (.ireturn, 1) := by decide +kernel
set_option maxRecDepth 20000 in
theorem ggX7_ended_Jx4a65c_size_8abf5 : GoodIn wsX7_ended wsJx4a65c_size_8abf5 := goodIn_r _ [10, 11, 85, 86, 87] (by decide +kernel) (by decide +kernel)
set_option maxRecDepth 20000 in
theorem gX7_ended_Jx4a65c_size_8abf5 : GoodIn wsX7_ended (wsV RX7 102 RJx4a65c yJx4a65c_size_8abf5 wsJx4a65c_size_8abf5) := goodIn_app (goodIn_of _ (by decide +kernel)) ggX7_ended_Jx4a65c_size_8abf5
set_option maxRecDepth 20000 in
theorem ggX7_ended_Jx4a65c_get_915e3 : GoodIn wsX7_ended wsJx4a65c_get_915e3 := goodIn_r _ [15, 11, 16, 17, 18, 19, 20, 21, 22, 23, 24, 25, 26, 9, 27, 28, 85, 86, 87] (by decide +kernel) (by decide +kernel)
set_option maxRecDepth 20000 in
theorem gX7_ended_Jx4a65c_get_915e3 : GoodIn wsX7_ended (wsV RX7 105 RJx4a65c yJx4a65c_get_915e3 wsJx4a65c_get_915e3) := goodIn_app (goodIn_of _ (by decide +kernel)) ggX7_ended_Jx4a65c_get_915e3
theorem dX7_ended_0 : decode cX7_ended 0 = .ok (.iload_n 2, 1) := by decide +kernel
theorem dX7_ended_1 : decode cX7_ended 1 = .ok (.ifCond .lt 8, 3) := by decide +kernel
theorem dX7_ended_4 : decode cX7_ended 4 = .ok (.iload_n 2, 1) := by decide +kernel
theorem dX7_ended_5 : decode cX7_ended 5 = .ok (.iconst 2, 1) := by decide +kernel
theorem dX7_ended_6 : decode cX7_ended 6 = .ok (.if_icmp .le 5, 3) := by decide +kernel
theorem dX7_ended_9 : decode cX7_ended 9 = .ok (.iconst (-1), 1) := by decide +kernel
theorem dX7_ended_10 : decode cX7_ended 10 = .ok (.ireturn, 1) := by decide +kernel
theorem dX7_ended_11 : decode cX7_ended 11 = .ok (.iload_n 1, 1) := by decide +kernel
theorem dX7_ended_12 : decode cX7_ended 12 = .ok (.ifCond .lt 14, 3) := by decide +kernel
theorem dX7_ended_15 : decode cX7_ended 15 = .ok (.iload_n 1, 1) := by decide +kernel
theorem dX7_ended_16 : decode cX7_ended 16 = .ok (.aload_n 0, 1) := by decide +kernel
theorem dX7_ended_17 : decode cX7_ended 17 = .ok (.getfield 23, 3) := by decide +kernel
theorem dX7_ended_20 : decode cX7_ended 20 = .ok (.invokevirtual 102, 3) := by decide +kernel
theorem dX7_ended_23 : decode cX7_ended 23 = .ok (.if_icmp .lt 6, 3) := by decide +kernel
theorem dX7_ended_26 : decode cX7_ended 26 = .ok (.bipush (-2), 2) := by decide +kernel
theorem dX7_ended_28 : decode cX7_ended 28 = .ok (.ireturn, 1) := by decide +kernel
theorem dX7_ended_29 : decode cX7_ended 29 = .ok (.aload_n 0, 1) := by decide +kernel
theorem dX7_ended_30 : decode cX7_ended 30 = .ok (.getfield 23, 3) := by decide +kernel
theorem dX7_ended_33 : decode cX7_ended 33 = .ok (.iload_n 1, 1) := by decide +kernel
theorem dX7_ended_34 : decode cX7_ended 34 = .ok (.invokevirtual 105, 3) := by decide +kernel
theorem dX7_ended_37 : decode cX7_ended 37 = .ok (.checkcast 91, 3) := by decide +kernel
theorem dX7_ended_40 : decode cX7_ended 40 = .ok (.astore_n 3, 1) := by decide +kernel
theorem dX7_ended_41 : decode cX7_ended 41 = .ok (.iload_n 2, 1) := by decide +kernel
theorem dX7_ended_42 : decode cX7_ended 42 = .ok (.ifCond .ne 8, 3) := by decide +kernel
theorem dX7_ended_45 : decode cX7_ended 45 = .ok (.aload_n 3, 1) := by decide +kernel
theorem dX7_ended_46 : decode cX7_ended 46 = .ok (.getfield 133, 3) := by decide +kernel
theorem dX7_ended_49 : decode cX7_ended 49 = .ok (.ireturn, 1) := by decide +kernel
theorem dX7_ended_50 : decode cX7_ended 50 = .ok (.iload_n 2, 1) := by decide +kernel
theorem dX7_ended_51 : decode cX7_ended 51 = .ok (.iconst 1, 1) := by decide +kernel
theorem dX7_ended_52 : decode cX7_ended 52 = .ok (.if_icmp .ne 10, 3) := by decide +kernel
theorem dX7_ended_55 : decode cX7_ended 55 = .ok (.aload_n 3, 1) := by decide +kernel
theorem dX7_ended_56 : decode cX7_ended 56 = .ok (.getfield 117, 3) := by decide +kernel
theorem dX7_ended_59 : decode cX7_ended 59 = .ok (.goto 7, 3) := by decide +kernel
theorem dX7_ended_62 : decode cX7_ended 62 = .ok (.aload_n 3, 1) := by decide +kernel
theorem dX7_ended_63 : decode cX7_ended 63 = .ok (.getfield 136, 3) := by decide +kernel
theorem dX7_ended_66 : decode cX7_ended 66 = .ok (.ireturn, 1) := by decide +kernel
set_option maxRecDepth 20000 in
theorem ggX7_cell_X3_find : GoodIn wsX7_cell wsX3_find := goodIn_r _ [6, 7, 8, 9, 10, 11, 12, 13, 14, 15, 16, 17, 18, 19, 20, 21, 22, 23, 24, 25, 26, 27, 28, 29, 30, 31, 32, 101, 102, 103, 104, 105, 106] (by decide +kernel) (by decide +kernel)
set_option maxRecDepth 20000 in
theorem gX7_cell_X3_find : GoodIn wsX7_cell (wsV RX7 139 RX3 yX3_find wsX3_find) := goodIn_app (goodIn_of _ (by decide +kernel)) ggX7_cell_X3_find
set_option maxRecDepth 20000 in
theorem ggX7_cell_X7_isCell : GoodIn wsX7_cell wsX7_isCell := goodIn_r _ [36] (by decide +kernel) (by decide +kernel)
set_option maxRecDepth 20000 in
theorem gX7_cell_X7_isCell : GoodIn wsX7_cell (va_wsS RX7 26 yX7_isCell wsX7_isCell) := goodIn_app (goodIn_of _ (by decide +kernel)) ggX7_cell_X7_isCell
set_option maxRecDepth 20000 in
theorem ggX7_cell_X7_isKept : GoodIn wsX7_cell wsX7_isKept := goodIn_r _ [40, 1, 41, 42, 43, 44, 45, 5, 46, 8, 10, 11, 12, 13, 14, 15, 47, 48, 49, 35, 50, 51, 52, 17, 18, 19, 20, 21, 22, 23, 24, 25, 26, 27, 28, 29, 30, 31, 32, 53, 54, 55, 56, 57, 58, 59, 60, 61, 62, 63, 64, 65, 66, 67, 68, 69, 70, 71, 72, 73, 74, 75, 76, 77, 78, 79, 80, 81, 82, 83, 84, 85, 86, 87, 88, 95, 96, 97, 98, 99, 100, 101, 102, 103, 104, 105, 106, 107, 108, 109, 110, 111, 112, 113, 114, 115, 116, 117, 118, 119, 120, 121, 122, 123, 124, 125, 126, 127, 128, 129, 130, 131, 132, 133, 134, 135, 136, 137, 138, 139, 140, 141, 142, 143, 144, 145, 146, 147, 148, 149, 150, 151, 152, 153, 154, 155, 156] (by decide +kernel) (by decide +kernel)
set_option maxRecDepth 20000 in
theorem gX7_cell_X7_isKept : GoodIn wsX7_cell (wsV RX7 142 RX7 yX7_isKept wsX7_isKept) := goodIn_app (goodIn_of _ (by decide +kernel)) ggX7_cell_X7_isKept
set_option maxRecDepth 20000 in
theorem ggX7_cell_X0_at : GoodIn wsX7_cell wsX0_at := goodIn_r _ [93, 94, 157] (by decide +kernel) (by decide +kernel)
set_option maxRecDepth 20000 in
theorem gX7_cell_X0_at : GoodIn wsX7_cell (wsV RX7 145 RX0 yX0_at wsX0_at) := goodIn_app (goodIn_of _ (by decide +kernel)) ggX7_cell_X0_at
theorem dX7_cell_0 : decode cX7_cell 0 = .ok (.aload_n 0, 1) := by decide +kernel
theorem dX7_cell_1 : decode cX7_cell 1 = .ok (.getfield 12, 3) := by decide +kernel
theorem dX7_cell_4 : decode cX7_cell 4 = .ok (.iload_n 1, 1) := by decide +kernel
theorem dX7_cell_5 : decode cX7_cell 5 = .ok (.invokevirtual 139, 3) := by decide +kernel
theorem dX7_cell_8 : decode cX7_cell 8 = .ok (.astore_n 3, 1) := by decide +kernel
theorem dX7_cell_9 : decode cX7_cell 9 = .ok (.aload_n 3, 1) := by decide +kernel
theorem dX7_cell_10 : decode cX7_cell 10 = .ok (.ifnull 10, 3) := by decide +kernel
theorem dX7_cell_13 : decode cX7_cell 13 = .ok (.iload_n 2, 1) := by decide +kernel
theorem dX7_cell_14 : decode cX7_cell 14 = .ok (.invokestatic 26, 3) := by decide +kernel
theorem dX7_cell_17 : decode cX7_cell 17 = .ok (.ifCond .ne 5, 3) := by decide +kernel
theorem dX7_cell_20 : decode cX7_cell 20 = .ok (.iconst (-1), 1) := by decide +kernel
theorem dX7_cell_21 : decode cX7_cell 21 = .ok (.ireturn, 1) := by decide +kernel
theorem dX7_cell_22 : decode cX7_cell 22 = .ok (.aload_n 0, 1) := by decide +kernel
theorem dX7_cell_23 : decode cX7_cell 23 = .ok (.iload_n 1, 1) := by decide +kernel
theorem dX7_cell_24 : decode cX7_cell 24 = .ok (.invokevirtual 142, 3) := by decide +kernel
theorem dX7_cell_27 : decode cX7_cell 27 = .ok (.ifCond .ne 6, 3) := by decide +kernel
theorem dX7_cell_30 : decode cX7_cell 30 = .ok (.bipush (-2), 2) := by decide +kernel
theorem dX7_cell_32 : decode cX7_cell 32 = .ok (.ireturn, 1) := by decide +kernel
theorem dX7_cell_33 : decode cX7_cell 33 = .ok (.aload_n 3, 1) := by decide +kernel
theorem dX7_cell_34 : decode cX7_cell 34 = .ok (.iload_n 2, 1) := by decide +kernel
theorem dX7_cell_35 : decode cX7_cell 35 = .ok (.invokevirtual 145, 3) := by decide +kernel
theorem dX7_cell_38 : decode cX7_cell 38 = .ok (.ireturn, 1) := by decide +kernel
set_option maxRecDepth 20000 in
theorem ggX7_count_X3_size : GoodIn wsX7_count wsX3_size := goodIn_r _ [10, 11, 12, 13, 14, 15, 16, 17, 100, 101, 102, 103, 104, 105] (by decide +kernel) (by decide +kernel)
set_option maxRecDepth 20000 in
theorem gX7_count_X3_size : GoodIn wsX7_count (wsV RX7 148 RX3 yX3_size wsX3_size) := goodIn_app (goodIn_of _ (by decide +kernel)) ggX7_count_X3_size
set_option maxRecDepth 20000 in
theorem ggX7_count_X7_countKept : GoodIn wsX7_count wsX7_countKept := goodIn_r _ [22, 1, 6, 7, 8, 9, 10, 11, 12, 13, 14, 15, 16, 17, 23, 24, 25, 21, 26, 4, 27, 28, 29, 30, 31, 32, 33, 34, 35, 36, 37, 38, 39, 40, 41, 42, 43, 44, 45, 46, 47, 48, 49, 50, 51, 52, 53, 54, 55, 56, 57, 58, 59, 60, 61, 62, 63, 64, 65, 66, 67, 68, 69, 70, 71, 72, 73, 74, 75, 76, 77, 78, 79, 80, 81, 82, 83, 84, 85, 86, 87, 88, 89, 94, 95, 96, 97, 98, 99, 100, 101, 102, 103, 104, 105, 106, 107, 108, 109, 110, 111, 112, 113, 114, 115, 116, 117, 118, 119, 120, 121, 122, 123, 124, 125, 126, 127, 128, 129, 130, 131, 132, 133, 134, 135, 136, 137, 138, 139, 140, 141, 142, 143, 144, 145, 146, 147, 148, 149, 150, 151, 152, 153, 154, 155] (by decide +kernel) (by decide +kernel)
set_option maxRecDepth 20000 in
theorem gX7_count_X7_countKept : GoodIn wsX7_count (wsV RX7 149 RX7 yX7_countKept wsX7_countKept) := goodIn_app (goodIn_of _ (by decide +kernel)) ggX7_count_X7_countKept
set_option maxRecDepth 20000 in
theorem ggX7_count_X7_countPinned : GoodIn wsX7_count wsX7_countPinned := goodIn_r _ [93, 1, 6, 7, 8, 9, 10, 11, 12, 13, 14, 15, 16, 17, 32, 33, 34, 21, 35, 4, 27, 36, 37, 38, 39, 40, 41, 42, 43, 44, 45, 46, 47, 48, 49, 50, 51, 52, 53, 54, 55, 56, 57, 58, 59, 60, 61, 62, 63, 64, 65, 66, 67, 68, 69, 70, 71, 72, 94, 95, 96, 97, 98, 99, 100, 101, 102, 103, 104, 105, 106, 107, 108, 109, 110, 111, 112, 113, 114, 115, 116, 117, 118, 119, 120, 121, 122, 123, 124, 125, 126, 127, 128, 129, 130, 131, 132, 133, 134, 135, 136, 137, 138, 139, 140, 141, 142, 143, 144, 145, 146, 147, 148, 149, 150, 151, 152, 153, 154, 155] (by decide +kernel) (by decide +kernel)
set_option maxRecDepth 20000 in
theorem gX7_count_X7_countPinned : GoodIn wsX7_count (wsV RX7 152 RX7 yX7_countPinned wsX7_countPinned) := goodIn_app (goodIn_of _ (by decide +kernel)) ggX7_count_X7_countPinned
set_option maxRecDepth 20000 in
theorem ggX7_count_Jx4a65c_size_8abf5 : GoodIn wsX7_count wsJx4a65c_size_8abf5 := goodIn_r _ [16, 17, 103, 104, 105] (by decide +kernel) (by decide +kernel)
set_option maxRecDepth 20000 in
theorem gX7_count_Jx4a65c_size_8abf5 : GoodIn wsX7_count (wsV RX7 102 RJx4a65c yJx4a65c_size_8abf5 wsJx4a65c_size_8abf5) := goodIn_app (goodIn_of _ (by decide +kernel)) ggX7_count_Jx4a65c_size_8abf5
theorem dX7_count_0 : decode cX7_count 0 = .ok (.iload_n 1, 1) := by decide +kernel
theorem dX7_count_1 : decode cX7_count 1 = .ok (.tableswitch 83 0 5 #[39, 47, 52, 57, 62, 67], 39) := by decide +kernel
theorem dX7_count_40 : decode cX7_count 40 = .ok (.aload_n 0, 1) := by decide +kernel
theorem dX7_count_41 : decode cX7_count 41 = .ok (.getfield 12, 3) := by decide +kernel
theorem dX7_count_44 : decode cX7_count 44 = .ok (.invokevirtual 148, 3) := by decide +kernel
theorem dX7_count_47 : decode cX7_count 47 = .ok (.ireturn, 1) := by decide +kernel
theorem dX7_count_48 : decode cX7_count 48 = .ok (.aload_n 0, 1) := by decide +kernel
theorem dX7_count_49 : decode cX7_count 49 = .ok (.invokevirtual 149, 3) := by decide +kernel
theorem dX7_count_52 : decode cX7_count 52 = .ok (.ireturn, 1) := by decide +kernel
theorem dX7_count_53 : decode cX7_count 53 = .ok (.aload_n 0, 1) := by decide +kernel
theorem dX7_count_54 : decode cX7_count 54 = .ok (.invokevirtual 152, 3) := by decide +kernel
theorem dX7_count_57 : decode cX7_count 57 = .ok (.ireturn, 1) := by decide +kernel
theorem dX7_count_58 : decode cX7_count 58 = .ok (.aload_n 0, 1) := by decide +kernel
theorem dX7_count_59 : decode cX7_count 59 = .ok (.getfield 155, 3) := by decide +kernel
theorem dX7_count_62 : decode cX7_count 62 = .ok (.ireturn, 1) := by decide +kernel
theorem dX7_count_63 : decode cX7_count 63 = .ok (.aload_n 0, 1) := by decide +kernel
theorem dX7_count_64 : decode cX7_count 64 = .ok (.getfield 158, 3) := by decide +kernel
theorem dX7_count_67 : decode cX7_count 67 = .ok (.ireturn, 1) := by decide +kernel
theorem dX7_count_68 : decode cX7_count 68 = .ok (.aload_n 0, 1) := by decide +kernel
theorem dX7_count_69 : decode cX7_count 69 = .ok (.getfield 19, 3) := by decide +kernel
theorem dX7_count_72 : decode cX7_count 72 = .ok (.invokevirtual 102, 3) := by decide +kernel
theorem dX7_count_75 : decode cX7_count 75 = .ok (.aload_n 0, 1) := by decide +kernel
theorem dX7_count_76 : decode cX7_count 76 = .ok (.getfield 23, 3) := by decide +kernel
theorem dX7_count_79 : decode cX7_count 79 = .ok (.invokevirtual 102, 3) := by decide +kernel
theorem dX7_count_82 : decode cX7_count 82 = .ok (.isub, 1) := by decide +kernel
theorem dX7_count_83 : decode cX7_count 83 = .ok (.ireturn, 1) := by decide +kernel
theorem dX7_count_84 : decode cX7_count 84 = .ok (.iconst (-1), 1) := by decide +kernel
theorem dX7_count_85 : decode cX7_count 85 = .ok (.ireturn, 1) := by decide +kernel
theorem dX7_isCell_0 : decode cX7_isCell 0 = .ok (.iload_n 0, 1) := by decide +kernel
theorem dX7_isCell_1 : decode cX7_isCell 1 = .ok (.ifCond .lt 13, 3) := by decide +kernel
theorem dX7_isCell_4 : decode cX7_isCell 4 = .ok (.iload_n 0, 1) := by decide +kernel
theorem dX7_isCell_5 : decode cX7_isCell 5 = .ok (.bipush 16, 2) := by decide +kernel
theorem dX7_isCell_7 : decode cX7_isCell 7 = .ok (.if_icmp .ge 7, 3) := by decide +kernel
theorem dX7_isCell_10 : decode cX7_isCell 10 = .ok (.iconst 1, 1) := by decide +kernel
theorem dX7_isCell_11 : decode cX7_isCell 11 = .ok (.goto 4, 3) := by decide +kernel
theorem dX7_isCell_14 : decode cX7_isCell 14 = .ok (.iconst 0, 1) := by decide +kernel
theorem dX7_isCell_15 : decode cX7_isCell 15 = .ok (.ireturn, 1) := by decide +kernel
theorem dX7_areSteps_0 : decode cX7_areSteps 0 = .ok (.iload_n 0, 1) := by decide +kernel
theorem dX7_areSteps_1 : decode cX7_areSteps 1 = .ok (.iconst 1, 1) := by decide +kernel
theorem dX7_areSteps_2 : decode cX7_areSteps 2 = .ok (.if_icmp .lt 13, 3) := by decide +kernel
theorem dX7_areSteps_5 : decode cX7_areSteps 5 = .ok (.iload_n 0, 1) := by decide +kernel
theorem dX7_areSteps_6 : decode cX7_areSteps 6 = .ok (.bipush 20, 2) := by decide +kernel
theorem dX7_areSteps_8 : decode cX7_areSteps 8 = .ok (.if_icmp .gt 7, 3) := by decide +kernel
theorem dX7_areSteps_11 : decode cX7_areSteps 11 = .ok (.iconst 1, 1) := by decide +kernel
theorem dX7_areSteps_12 : decode cX7_areSteps 12 = .ok (.goto 4, 3) := by decide +kernel
theorem dX7_areSteps_15 : decode cX7_areSteps 15 = .ok (.iconst 0, 1) := by decide +kernel
theorem dX7_areSteps_16 : decode cX7_areSteps 16 = .ok (.ireturn, 1) := by decide +kernel
theorem dX7_isFailsAt_0 : decode cX7_isFailsAt 0 = .ok (.iload_n 0, 1) := by decide +kernel
theorem dX7_isFailsAt_1 : decode cX7_isFailsAt 1 = .ok (.ifCond .lt 13, 3) := by decide +kernel
theorem dX7_isFailsAt_4 : decode cX7_isFailsAt 4 = .ok (.iload_n 0, 1) := by decide +kernel
theorem dX7_isFailsAt_5 : decode cX7_isFailsAt 5 = .ok (.bipush 30, 2) := by decide +kernel
theorem dX7_isFailsAt_7 : decode cX7_isFailsAt 7 = .ok (.if_icmp .gt 7, 3) := by decide +kernel
theorem dX7_isFailsAt_10 : decode cX7_isFailsAt 10 = .ok (.iconst 1, 1) := by decide +kernel
theorem dX7_isFailsAt_11 : decode cX7_isFailsAt 11 = .ok (.goto 4, 3) := by decide +kernel
theorem dX7_isFailsAt_14 : decode cX7_isFailsAt 14 = .ok (.iconst 0, 1) := by decide +kernel
theorem dX7_isFailsAt_15 : decode cX7_isFailsAt 15 = .ok (.ireturn, 1) := by decide +kernel
set_option maxRecDepth 20000 in
theorem ggX7_nextNumber_Jx4a65c_size_8abf5 : GoodIn wsX7_nextNumber wsJx4a65c_size_8abf5 := goodIn_r _ [7, 8, 15, 16, 17] (by decide +kernel) (by decide +kernel)
set_option maxRecDepth 20000 in
theorem gX7_nextNumber_Jx4a65c_size_8abf5 : GoodIn wsX7_nextNumber (wsV RX7 102 RJx4a65c yJx4a65c_size_8abf5 wsJx4a65c_size_8abf5) := goodIn_app (goodIn_of _ (by decide +kernel)) ggX7_nextNumber_Jx4a65c_size_8abf5
theorem dX7_nextNumber_0 : decode cX7_nextNumber 0 = .ok (.aload_n 0, 1) := by decide +kernel
theorem dX7_nextNumber_1 : decode cX7_nextNumber 1 = .ok (.getfield 99, 3) := by decide +kernel
theorem dX7_nextNumber_4 : decode cX7_nextNumber 4 = .ok (.ifCond .eq 6, 3) := by decide +kernel
theorem dX7_nextNumber_7 : decode cX7_nextNumber 7 = .ok (.bipush (-2), 2) := by decide +kernel
theorem dX7_nextNumber_9 : decode cX7_nextNumber 9 = .ok (.ireturn, 1) := by decide +kernel
theorem dX7_nextNumber_10 : decode cX7_nextNumber 10 = .ok (.aload_n 0, 1) := by decide +kernel
theorem dX7_nextNumber_11 : decode cX7_nextNumber 11 = .ok (.getfield 19, 3) := by decide +kernel
theorem dX7_nextNumber_14 : decode cX7_nextNumber 14 = .ok (.invokevirtual 102, 3) := by decide +kernel
theorem dX7_nextNumber_17 : decode cX7_nextNumber 17 = .ok (.bipush 30, 2) := by decide +kernel
theorem dX7_nextNumber_19 : decode cX7_nextNumber 19 = .ok (.if_icmp .ge 13, 3) := by decide +kernel
theorem dX7_nextNumber_22 : decode cX7_nextNumber 22 = .ok (.aload_n 0, 1) := by decide +kernel
theorem dX7_nextNumber_23 : decode cX7_nextNumber 23 = .ok (.getfield 19, 3) := by decide +kernel
theorem dX7_nextNumber_26 : decode cX7_nextNumber 26 = .ok (.invokevirtual 102, 3) := by decide +kernel
theorem dX7_nextNumber_29 : decode cX7_nextNumber 29 = .ok (.goto 5, 3) := by decide +kernel
theorem dX7_nextNumber_32 : decode cX7_nextNumber 32 = .ok (.bipush (-3), 2) := by decide +kernel
theorem dX7_nextNumber_34 : decode cX7_nextNumber 34 = .ok (.ireturn, 1) := by decide +kernel
set_option maxRecDepth 20000 in
theorem ggX7_find_Jx4a65c_size_8abf5 : GoodIn wsX7_find wsJx4a65c_size_8abf5 := goodIn_r _ [7, 8, 32, 33, 34] (by decide +kernel) (by decide +kernel)
set_option maxRecDepth 20000 in
theorem gX7_find_Jx4a65c_size_8abf5 : GoodIn wsX7_find (wsV RX7 102 RJx4a65c yJx4a65c_size_8abf5 wsJx4a65c_size_8abf5) := goodIn_app (goodIn_of _ (by decide +kernel)) ggX7_find_Jx4a65c_size_8abf5
set_option maxRecDepth 20000 in
theorem ggX7_find_Jx4a65c_get_915e3 : GoodIn wsX7_find wsJx4a65c_get_915e3 := goodIn_r _ [12, 8, 13, 14, 15, 16, 17, 18, 19, 20, 21, 22, 23, 6, 24, 25, 32, 33, 34] (by decide +kernel) (by decide +kernel)
set_option maxRecDepth 20000 in
theorem gX7_find_Jx4a65c_get_915e3 : GoodIn wsX7_find (wsV RX7 105 RJx4a65c yJx4a65c_get_915e3 wsJx4a65c_get_915e3) := goodIn_app (goodIn_of _ (by decide +kernel)) ggX7_find_Jx4a65c_get_915e3
theorem dX7_find_0 : decode cX7_find 0 = .ok (.iload_n 1, 1) := by decide +kernel
theorem dX7_find_1 : decode cX7_find 1 = .ok (.ifCond .lt 14, 3) := by decide +kernel
theorem dX7_find_4 : decode cX7_find 4 = .ok (.iload_n 1, 1) := by decide +kernel
theorem dX7_find_5 : decode cX7_find 5 = .ok (.aload_n 0, 1) := by decide +kernel
theorem dX7_find_6 : decode cX7_find 6 = .ok (.getfield 19, 3) := by decide +kernel
theorem dX7_find_9 : decode cX7_find 9 = .ok (.invokevirtual 102, 3) := by decide +kernel
theorem dX7_find_12 : decode cX7_find 12 = .ok (.if_icmp .lt 5, 3) := by decide +kernel
theorem dX7_find_15 : decode cX7_find 15 = .ok (.aconst_null, 1) := by decide +kernel
theorem dX7_find_16 : decode cX7_find 16 = .ok (.areturn, 1) := by decide +kernel
theorem dX7_find_17 : decode cX7_find 17 = .ok (.aload_n 0, 1) := by decide +kernel
theorem dX7_find_18 : decode cX7_find 18 = .ok (.getfield 19, 3) := by decide +kernel
theorem dX7_find_21 : decode cX7_find 21 = .ok (.iload_n 1, 1) := by decide +kernel
theorem dX7_find_22 : decode cX7_find 22 = .ok (.invokevirtual 105, 3) := by decide +kernel
theorem dX7_find_25 : decode cX7_find 25 = .ok (.checkcast 91, 3) := by decide +kernel
theorem dX7_find_28 : decode cX7_find 28 = .ok (.areturn, 1) := by decide +kernel
set_option maxRecDepth 20000 in
theorem ggX7_giveRow_Jx4a65c_size_8abf5 : GoodIn wsX7_giveRow wsJx4a65c_size_8abf5 := goodIn_r _ [7, 8, 273, 274, 275] (by decide +kernel) (by decide +kernel)
set_option maxRecDepth 20000 in
theorem gX7_giveRow_Jx4a65c_size_8abf5 : GoodIn wsX7_giveRow (wsV RX7 102 RJx4a65c yJx4a65c_size_8abf5 wsJx4a65c_size_8abf5) := goodIn_app (goodIn_of _ (by decide +kernel)) ggX7_giveRow_Jx4a65c_size_8abf5
set_option maxRecDepth 20000 in
theorem ggX7_giveRow_Jx4a65c_get_915e3 : GoodIn wsX7_giveRow wsJx4a65c_get_915e3 := goodIn_r _ [12, 8, 13, 14, 15, 16, 17, 18, 19, 20, 21, 22, 23, 6, 24, 25, 273, 274, 275] (by decide +kernel) (by decide +kernel)
set_option maxRecDepth 20000 in
theorem gX7_giveRow_Jx4a65c_get_915e3 : GoodIn wsX7_giveRow (wsV RX7 105 RJx4a65c yJx4a65c_get_915e3 wsJx4a65c_get_915e3) := goodIn_app (goodIn_of _ (by decide +kernel)) ggX7_giveRow_Jx4a65c_get_915e3
set_option maxRecDepth 20000 in
theorem ggX7_giveRow_X7_giveTurn : GoodIn wsX7_giveRow wsX7_giveTurn := goodIn_r _ [30, 31, 32, 33, 34, 35, 36, 37, 38, 39, 40, 41, 42, 43, 44, 45, 29, 46, 47, 48, 49, 50, 51, 52, 53, 1, 2, 3, 4, 5, 6, 7, 8, 9, 10, 11, 12, 13, 14, 15, 16, 17, 18, 19, 20, 21, 22, 23, 24, 25, 54, 55, 56, 57, 58, 59, 60, 61, 62, 63, 64, 65, 66, 67, 68, 69, 70, 71, 72, 73, 74, 75, 76, 77, 78, 79, 80, 81, 82, 83, 84, 85, 86, 87, 88, 89, 90, 91, 92, 93, 94, 95, 96, 97, 98, 99, 100, 101, 102, 103, 104, 105, 106, 107, 108, 109, 110, 111, 112, 113, 114, 115, 116, 117, 118, 119, 120, 121, 122, 123, 124, 125, 126, 127, 128, 129, 130, 131, 132, 133, 134, 135, 136, 137, 138, 139, 140, 141, 142, 143, 144, 145, 146, 147, 148, 149, 150, 151, 152, 153, 154, 155, 156, 157, 158, 159, 160, 161, 162, 163, 164, 165, 166, 167, 168, 169, 170, 171, 172, 173, 174, 175, 176, 177, 178, 179, 180, 181, 182, 183, 184, 185, 186, 187, 188, 189, 190, 191, 192, 193, 194, 195, 196, 197, 198, 199, 200, 201, 202, 203, 204, 205, 206, 207, 208, 209, 210, 211, 212, 213, 214, 215, 216, 217, 218, 219, 220, 221, 222, 223, 224, 225, 226, 227, 228, 229, 230, 231, 232, 233, 234, 235, 236, 237, 238, 239, 240, 241, 242, 243, 244, 245, 246, 247, 248, 249, 250, 251, 252, 253, 254, 255, 256, 257, 258, 259, 260, 261, 262, 263, 264, 265, 266, 267, 268, 269, 270, 271, 272, 276, 277, 278, 279, 280, 281, 282, 283, 284, 285, 286, 287, 288, 289, 290, 291, 292, 293, 294, 295, 296, 297, 298, 299, 300, 301, 302, 303, 304, 305, 306, 307, 308, 309, 310, 311, 312, 313, 314, 315, 316, 317, 318, 319, 320, 321, 322, 323, 324, 325, 273, 274, 275, 326, 327, 328, 329] (by decide +kernel) (by decide +kernel)
set_option maxRecDepth 20000 in
theorem gX7_giveRow_X7_giveTurn : GoodIn wsX7_giveRow (wsV RX7 82 RX7 yX7_giveTurn wsX7_giveTurn) := goodIn_app (goodIn_of _ (by decide +kernel)) ggX7_giveRow_X7_giveTurn
theorem dX7_giveRow_0 : decode cX7_giveRow 0 = .ok (.iconst 0, 1) := by decide +kernel
theorem dX7_giveRow_1 : decode cX7_giveRow 1 = .ok (.istore_n 2, 1) := by decide +kernel
theorem dX7_giveRow_2 : decode cX7_giveRow 2 = .ok (.iconst 0, 1) := by decide +kernel
theorem dX7_giveRow_3 : decode cX7_giveRow 3 = .ok (.istore_n 3, 1) := by decide +kernel
theorem dX7_giveRow_4 : decode cX7_giveRow 4 = .ok (.iload_n 3, 1) := by decide +kernel
theorem dX7_giveRow_5 : decode cX7_giveRow 5 = .ok (.aload_n 0, 1) := by decide +kernel
theorem dX7_giveRow_6 : decode cX7_giveRow 6 = .ok (.getfield 19, 3) := by decide +kernel
theorem dX7_giveRow_9 : decode cX7_giveRow 9 = .ok (.invokevirtual 102, 3) := by decide +kernel
theorem dX7_giveRow_12 : decode cX7_giveRow 12 = .ok (.if_icmp .ge 35, 3) := by decide +kernel
theorem dX7_giveRow_15 : decode cX7_giveRow 15 = .ok (.iload_n 2, 1) := by decide +kernel
theorem dX7_giveRow_16 : decode cX7_giveRow 16 = .ok (.iload_n 1, 1) := by decide +kernel
theorem dX7_giveRow_17 : decode cX7_giveRow 17 = .ok (.if_icmp .ge 30, 3) := by decide +kernel
theorem dX7_giveRow_20 : decode cX7_giveRow 20 = .ok (.aload_n 0, 1) := by decide +kernel
theorem dX7_giveRow_21 : decode cX7_giveRow 21 = .ok (.aload_n 0, 1) := by decide +kernel
theorem dX7_giveRow_22 : decode cX7_giveRow 22 = .ok (.getfield 19, 3) := by decide +kernel
theorem dX7_giveRow_25 : decode cX7_giveRow 25 = .ok (.iload_n 3, 1) := by decide +kernel
theorem dX7_giveRow_26 : decode cX7_giveRow 26 = .ok (.invokevirtual 105, 3) := by decide +kernel
theorem dX7_giveRow_29 : decode cX7_giveRow 29 = .ok (.checkcast 91, 3) := by decide +kernel
theorem dX7_giveRow_32 : decode cX7_giveRow 32 = .ok (.invokevirtual 82, 3) := by decide +kernel
theorem dX7_giveRow_35 : decode cX7_giveRow 35 = .ok (.ifCond .eq 6, 3) := by decide +kernel
theorem dX7_giveRow_38 : decode cX7_giveRow 38 = .ok (.iinc 2 1, 3) := by decide +kernel
theorem dX7_giveRow_41 : decode cX7_giveRow 41 = .ok (.iinc 3 1, 3) := by decide +kernel
theorem dX7_giveRow_44 : decode cX7_giveRow 44 = .ok (.goto (-40), 3) := by decide +kernel
theorem dX7_giveRow_47 : decode cX7_giveRow 47 = .ok (.iload_n 2, 1) := by decide +kernel
theorem dX7_giveRow_48 : decode cX7_giveRow 48 = .ok (.ireturn, 1) := by decide +kernel
set_option maxRecDepth 20000 in
theorem ggX7_giveTurn_X5_hasEnded : GoodIn wsX7_giveTurn wsX5_hasEnded := goodIn_r _ [8, 9, 269, 270, 271, 272, 273, 274, 275, 276, 277, 278, 279, 280, 281, 282, 283, 284, 285, 286, 287, 288, 289, 290, 291, 292, 293, 294, 295, 296, 297, 298, 299, 300, 301, 302, 303, 304, 305, 306, 307, 308, 309, 310, 311, 312, 313, 314, 315, 316, 317, 318] (by decide +kernel) (by decide +kernel)
set_option maxRecDepth 20000 in
theorem gX7_giveTurn_X5_hasEnded_u90X1 : GoodIn wsX7_giveTurn (va_wsU RX7 90 RX1 "HouseWorkers$Work" ⟨"HouseWorkers$Work", "hasEnded", "()Z"⟩ yX5_hasEnded wsX5_hasEnded) := goodIn_app (goodIn_of _ (by decide +kernel)) ggX7_giveTurn_X5_hasEnded
set_option maxRecDepth 20000 in
theorem gX7_giveTurn_X5_hasEnded_u90X2 : GoodIn wsX7_giveTurn (va_wsU RX7 90 RX2 "HouseWorkers$Work" ⟨"HouseWorkers$Work", "hasEnded", "()Z"⟩ yX5_hasEnded wsX5_hasEnded) := goodIn_app (goodIn_of _ (by decide +kernel)) ggX7_giveTurn_X5_hasEnded
end
section
set_option maxRecDepth 20000 in
theorem gX7_giveTurn_X5_hasEnded_u90X4 : GoodIn wsX7_giveTurn (va_wsU RX7 90 RX4 "HouseWorkers$Work" ⟨"HouseWorkers$Work", "hasEnded", "()Z"⟩ yX5_hasEnded wsX5_hasEnded) := goodIn_app (goodIn_of _ (by decide +kernel)) ggX7_giveTurn_X5_hasEnded
set_option maxRecDepth 20000 in
theorem gX7_giveTurn_X5_hasEnded_u90X6 : GoodIn wsX7_giveTurn (va_wsU RX7 90 RX6 "HouseWorkers$Work" ⟨"HouseWorkers$Work", "hasEnded", "()Z"⟩ yX5_hasEnded wsX5_hasEnded) := goodIn_app (goodIn_of _ (by decide +kernel)) ggX7_giveTurn_X5_hasEnded
set_option maxRecDepth 20000 in
theorem ggX7_giveTurn_X7_standsStill : GoodIn wsX7_giveTurn wsX7_standsStill := goodIn_r _ [17, 18, 19, 3, 4, 5, 6, 7, 8, 9, 10, 11, 12, 20, 21, 22, 16, 23, 24, 25, 26, 27, 28, 29, 30, 31, 32, 33, 34, 35, 36, 37, 38, 39, 40, 41, 42, 43, 44, 45, 46, 47, 48, 49, 50, 51, 52, 53, 54, 55, 56, 57, 58, 59, 60, 61, 62, 63, 64, 65, 66, 67, 68, 69, 70, 71, 72, 73, 74, 75, 76, 77, 78, 79, 80, 81, 82, 83, 84, 85, 86, 87, 88, 89, 90, 91, 92, 93, 94, 269, 270, 271, 272, 273, 274, 275, 276, 277, 278, 279, 280, 281, 282, 283, 284, 285, 286, 287, 288, 289, 290, 291, 292, 293, 294, 295, 296, 297, 298, 299, 300, 301, 302, 303, 304, 305, 306, 307, 308, 309, 310, 311, 312, 313, 314, 315, 316, 317, 318, 263, 264, 265, 266, 267, 268, 319, 320, 321, 322, 323, 324] (by decide +kernel) (by decide +kernel)
set_option maxRecDepth 20000 in
theorem gX7_giveTurn_X7_standsStill : GoodIn wsX7_giveTurn (wsV RX7 129 RX7 yX7_standsStill wsX7_standsStill) := goodIn_app (goodIn_of _ (by decide +kernel)) ggX7_giveTurn_X7_standsStill
set_option maxRecDepth 20000 in
theorem ggX7_giveTurn_X7_act : GoodIn wsX7_giveTurn wsX7_act := goodIn_r _ [98, 18, 19, 99, 100, 101, 102, 7, 103, 104, 93, 105, 106, 107, 91, 92, 94, 108, 109, 110, 111, 112, 113, 114, 115, 116, 117, 63, 118, 119, 120, 121, 122, 123, 124, 125, 126, 127, 128, 129, 130, 131, 132, 133, 134, 135, 67, 136, 137, 138, 139, 69, 70, 140, 141, 142, 143, 144, 145, 146, 147, 80, 148, 82, 149, 150, 151, 152, 30, 153, 154, 155, 49, 32, 156, 157, 158, 159, 160, 161, 162, 163, 164, 165, 166, 167, 168, 169, 170, 171, 172, 173, 174, 175, 176, 177, 178, 179, 180, 181, 182, 183, 184, 185, 186, 187, 188, 189, 190, 191, 192, 193, 194, 195, 196, 197, 198, 199, 200, 201, 202, 83, 28, 29, 31, 203, 204, 205, 206, 207, 208, 209, 210, 211, 78, 79, 81, 212, 213, 214, 215, 216, 217, 218, 73, 219, 75, 76, 220, 221, 222, 223, 224, 225, 226, 227, 228, 229, 230, 34, 35, 36, 37, 38, 39, 40, 41, 42, 43, 44, 45, 46, 47, 48, 231, 232, 233, 234, 235, 236, 86, 237, 238, 239, 240, 241, 242, 243, 244, 88, 89, 90, 245, 246, 247, 248, 249, 250, 251, 252, 253, 254, 269, 270, 271, 272, 273, 274, 275, 276, 277, 278, 279, 280, 281, 282, 283, 284, 285, 286, 287, 288, 289, 290, 291, 292, 293, 294, 295, 296, 297, 298, 299, 300, 301, 302, 303, 304, 305, 306, 307, 308, 309, 310, 311, 312, 313, 314, 315, 316, 317, 318, 263, 264, 265, 266, 267, 268, 325, 322, 323, 324, 319, 320, 321] (by decide +kernel) (by decide +kernel)
set_option maxRecDepth 20000 in
theorem gX7_giveTurn_X7_act : GoodIn wsX7_giveTurn (wsV RX7 161 RX7 yX7_act wsX7_act) := goodIn_app (goodIn_of _ (by decide +kernel)) ggX7_giveTurn_X7_act
set_option maxRecDepth 20000 in
theorem ggX7_giveTurn_X7_endWork : GoodIn wsX7_giveTurn wsX7_endWork := goodIn_r _ [258, 259, 2, 260, 261, 262, 151, 152, 30, 153, 154, 155, 49, 32, 156, 157, 158, 159, 160, 161, 162, 163, 164, 165, 166, 167, 168, 169, 170, 171, 172, 173, 174, 175, 176, 177, 178, 179, 180, 181, 182, 183, 184, 185, 186, 187, 188, 189, 190, 191, 192, 193, 194, 195, 196, 197, 198, 199, 200, 201, 202, 269, 270, 271, 272, 273, 274, 275, 276, 277, 278, 279, 280, 281, 282, 283, 284, 285, 286, 287, 288, 289, 290, 291, 292, 293, 294, 295, 296, 297, 298, 299, 300, 301, 302, 303, 304, 305, 306, 307, 308, 309, 310, 311, 312, 313, 314, 315, 316, 317, 318, 263, 264, 265, 266, 267, 268, 319, 320, 321] (by decide +kernel) (by decide +kernel)
set_option maxRecDepth 20000 in
theorem gX7_giveTurn_X7_endWork : GoodIn wsX7_giveTurn (wsV RX7 109 RX7 yX7_endWork wsX7_endWork) := goodIn_app (goodIn_of _ (by decide +kernel)) ggX7_giveTurn_X7_endWork
theorem dX7_giveTurn_0 : decode cX7_giveTurn 0 = .ok (.aload_n 1, 1) := by decide +kernel
theorem dX7_giveTurn_1 : decode cX7_giveTurn 1 = .ok (.invokevirtual 90, 3) := by decide +kernel
theorem dX7_giveTurn_4 : decode cX7_giveTurn 4 = .ok (.ifCond .eq 5, 3) := by decide +kernel
theorem dX7_giveTurn_7 : decode cX7_giveTurn 7 = .ok (.iconst 0, 1) := by decide +kernel
theorem dX7_giveTurn_8 : decode cX7_giveTurn 8 = .ok (.ireturn, 1) := by decide +kernel
theorem dX7_giveTurn_9 : decode cX7_giveTurn 9 = .ok (.aload_n 0, 1) := by decide +kernel
theorem dX7_giveTurn_10 : decode cX7_giveTurn 10 = .ok (.aload_n 1, 1) := by decide +kernel
theorem dX7_giveTurn_11 : decode cX7_giveTurn 11 = .ok (.invokevirtual 129, 3) := by decide +kernel
theorem dX7_giveTurn_14 : decode cX7_giveTurn 14 = .ok (.ifCond .eq 15, 3) := by decide +kernel
theorem dX7_giveTurn_17 : decode cX7_giveTurn 17 = .ok (.aload_n 0, 1) := by decide +kernel
theorem dX7_giveTurn_18 : decode cX7_giveTurn 18 = .ok (.dup, 1) := by decide +kernel
theorem dX7_giveTurn_19 : decode cX7_giveTurn 19 = .ok (.getfield 158, 3) := by decide +kernel
theorem dX7_giveTurn_22 : decode cX7_giveTurn 22 = .ok (.iconst 1, 1) := by decide +kernel
theorem dX7_giveTurn_23 : decode cX7_giveTurn 23 = .ok (.iadd, 1) := by decide +kernel
theorem dX7_giveTurn_24 : decode cX7_giveTurn 24 = .ok (.putfield 158, 3) := by decide +kernel
theorem dX7_giveTurn_27 : decode cX7_giveTurn 27 = .ok (.iconst 0, 1) := by decide +kernel
theorem dX7_giveTurn_28 : decode cX7_giveTurn 28 = .ok (.ireturn, 1) := by decide +kernel
theorem dX7_giveTurn_29 : decode cX7_giveTurn 29 = .ok (.aload_n 0, 1) := by decide +kernel
theorem dX7_giveTurn_30 : decode cX7_giveTurn 30 = .ok (.dup, 1) := by decide +kernel
theorem dX7_giveTurn_31 : decode cX7_giveTurn 31 = .ok (.getfield 155, 3) := by decide +kernel
theorem dX7_giveTurn_34 : decode cX7_giveTurn 34 = .ok (.iconst 1, 1) := by decide +kernel
theorem dX7_giveTurn_35 : decode cX7_giveTurn 35 = .ok (.iadd, 1) := by decide +kernel
theorem dX7_giveTurn_36 : decode cX7_giveTurn 36 = .ok (.putfield 155, 3) := by decide +kernel
theorem dX7_giveTurn_39 : decode cX7_giveTurn 39 = .ok (.aload_n 0, 1) := by decide +kernel
theorem dX7_giveTurn_40 : decode cX7_giveTurn 40 = .ok (.aload_n 1, 1) := by decide +kernel
theorem dX7_giveTurn_41 : decode cX7_giveTurn 41 = .ok (.invokevirtual 161, 3) := by decide +kernel
theorem dX7_giveTurn_44 : decode cX7_giveTurn 44 = .ok (.istore_n 2, 1) := by decide +kernel
theorem dX7_giveTurn_45 : decode cX7_giveTurn 45 = .ok (.iload_n 2, 1) := by decide +kernel
theorem dX7_giveTurn_46 : decode cX7_giveTurn 46 = .ok (.iconst 1, 1) := by decide +kernel
theorem dX7_giveTurn_47 : decode cX7_giveTurn 47 = .ok (.if_icmp .eq 9, 3) := by decide +kernel
theorem dX7_giveTurn_50 : decode cX7_giveTurn 50 = .ok (.aload_n 0, 1) := by decide +kernel
theorem dX7_giveTurn_51 : decode cX7_giveTurn 51 = .ok (.aload_n 1, 1) := by decide +kernel
theorem dX7_giveTurn_52 : decode cX7_giveTurn 52 = .ok (.iload_n 2, 1) := by decide +kernel
theorem dX7_giveTurn_53 : decode cX7_giveTurn 53 = .ok (.invokevirtual 109, 3) := by decide +kernel
theorem dX7_giveTurn_56 : decode cX7_giveTurn 56 = .ok (.iload_n 2, 1) := by decide +kernel
theorem dX7_giveTurn_57 : decode cX7_giveTurn 57 = .ok (.ireturn, 1) := by decide +kernel
set_option maxRecDepth 20000 in
theorem ggX7_act_X5_failsNow : GoodIn wsX7_act wsX5_failsNow := goodIn_r _ [8, 9, 10, 11, 12, 13, 14, 7, 15, 16, 17, 18, 19, 202, 203, 204, 205, 206, 207, 208, 209, 210, 211, 212, 213, 214, 215, 216, 217, 218, 219, 220, 221, 222, 223, 224, 225, 226, 227, 228, 229, 230, 231, 232, 233, 234, 235, 236, 237, 238, 239, 240, 241, 242, 243, 244, 245, 246, 247, 248, 249, 250, 251] (by decide +kernel) (by decide +kernel)
set_option maxRecDepth 20000 in
theorem gX7_act_X5_failsNow_u164X1 : GoodIn wsX7_act (va_wsU RX7 164 RX1 "HouseWorkers$Work" ⟨"HouseWorkers$Work", "failsNow", "()Z"⟩ yX5_failsNow wsX5_failsNow) := goodIn_app (goodIn_of _ (by decide +kernel)) ggX7_act_X5_failsNow
set_option maxRecDepth 20000 in
theorem gX7_act_X5_failsNow_u164X2 : GoodIn wsX7_act (va_wsU RX7 164 RX2 "HouseWorkers$Work" ⟨"HouseWorkers$Work", "failsNow", "()Z"⟩ yX5_failsNow wsX5_failsNow) := goodIn_app (goodIn_of _ (by decide +kernel)) ggX7_act_X5_failsNow
set_option maxRecDepth 20000 in
theorem gX7_act_X5_failsNow_u164X4 : GoodIn wsX7_act (va_wsU RX7 164 RX4 "HouseWorkers$Work" ⟨"HouseWorkers$Work", "failsNow", "()Z"⟩ yX5_failsNow wsX5_failsNow) := goodIn_app (goodIn_of _ (by decide +kernel)) ggX7_act_X5_failsNow
set_option maxRecDepth 20000 in
theorem gX7_act_X5_failsNow_u164X6 : GoodIn wsX7_act (va_wsU RX7 164 RX6 "HouseWorkers$Work" ⟨"HouseWorkers$Work", "failsNow", "()Z"⟩ yX5_failsNow wsX5_failsNow) := goodIn_app (goodIn_of _ (by decide +kernel)) ggX7_act_X5_failsNow
set_option maxRecDepth 20000 in
theorem ggX7_act_X1_goOn : GoodIn wsX7_act wsX1_goOn := goodIn_r _ [28, 29, 30, 31, 32, 33, 34, 35, 36, 37, 38, 39, 40, 41, 42, 43, 14, 7, 15, 10, 16, 202, 203, 204, 205, 206, 207, 208, 209, 210, 211, 212, 213, 214, 215, 216, 217, 218, 219, 220, 221, 222, 223, 224, 225, 226, 227, 228, 229, 230, 231, 232, 233, 234, 235, 236, 237, 238, 239, 240, 241, 242, 243, 244, 245, 246, 247, 248, 249, 250, 251, 258] (by decide +kernel) (by decide +kernel)
set_option maxRecDepth 20000 in
theorem gX7_act_X1_goOn_u167X1 : GoodIn wsX7_act (va_wsU RX7 167 RX1 "HouseWorkers$Work" ⟨"HouseWorkers$Work", "goOn", "(LHouseWorkers$Store;)I"⟩ yX1_goOn wsX1_goOn) := goodIn_app (goodIn_of _ (by decide +kernel)) ggX7_act_X1_goOn
set_option maxRecDepth 20000 in
theorem ggX7_act_X2_goOn : GoodIn wsX7_act wsX2_goOn := goodIn_r _ [47, 48, 49, 50, 51, 52, 53, 54, 55, 56, 57, 14, 7, 15, 10, 16, 58, 59, 60, 61, 62, 63, 64, 65, 66, 67, 68, 69, 70, 71, 72, 73, 74, 75, 76, 77, 78, 79, 80, 81, 82, 83, 84, 85, 86, 87, 88, 89, 90, 91, 92, 93, 94, 95, 96, 97, 98, 99, 100, 101, 102, 103, 104, 105, 106, 107, 108, 109, 110, 111, 112, 113, 114, 115, 116, 117, 118, 119, 120, 121, 122, 123, 124, 125, 126, 127, 128, 129, 130, 131, 38, 132, 40, 133, 134, 135, 136, 137, 138, 139, 140, 141, 215, 216, 217, 218, 219, 220, 221, 222, 223, 224, 225, 226, 202, 203, 204, 205, 206, 207, 208, 209, 210, 211, 212, 213, 214, 227, 228, 229, 230, 231, 232, 233, 234, 235, 236, 237, 238, 239, 240, 241, 242, 243, 244, 245, 246, 247, 248, 249, 250, 251, 259, 260, 261, 262, 263, 264, 258] (by decide +kernel) (by decide +kernel)
set_option maxRecDepth 20000 in
theorem gX7_act_X2_goOn_u167X2 : GoodIn wsX7_act (va_wsU RX7 167 RX2 "HouseWorkers$Work" ⟨"HouseWorkers$Work", "goOn", "(LHouseWorkers$Store;)I"⟩ yX2_goOn wsX2_goOn) := goodIn_app (goodIn_of _ (by decide +kernel)) ggX7_act_X2_goOn
set_option maxRecDepth 20000 in
theorem ggX7_act_X4_goOn : GoodIn wsX7_act wsX4_goOn := goodIn_r _ [145, 146, 147, 148, 149, 150, 151, 152, 153, 154, 61, 155, 156, 63, 157, 121, 122, 123, 68, 124, 73, 158, 159, 160, 161, 162, 163, 164, 165, 166, 167, 168, 169, 170, 171, 172, 173, 72, 174, 175, 176, 38, 177, 40, 202, 203, 204, 205, 206, 207, 208, 209, 210, 211, 212, 213, 214, 215, 216, 217, 218, 219, 220, 221, 222, 223, 224, 225, 226, 227, 228, 229, 230, 231, 232, 233, 234, 235, 236, 237, 238, 239, 240, 241, 242, 243, 244, 245, 246, 247, 248, 249, 250, 251, 259, 260, 261, 262, 263, 264, 258] (by decide +kernel) (by decide +kernel)
set_option maxRecDepth 20000 in
theorem gX7_act_X4_goOn_u167X4 : GoodIn wsX7_act (va_wsU RX7 167 RX4 "HouseWorkers$Work" ⟨"HouseWorkers$Work", "goOn", "(LHouseWorkers$Store;)I"⟩ yX4_goOn wsX4_goOn) := goodIn_app (goodIn_of _ (by decide +kernel)) ggX7_act_X4_goOn
set_option maxRecDepth 20000 in
theorem ggX7_act_X6_goOn : GoodIn wsX7_act wsX6_goOn := goodIn_r _ [181, 182, 183, 184, 185, 186, 187, 188, 189, 190, 191, 14, 7, 15, 10, 16, 192, 126, 127, 61, 128, 64, 193, 194, 195, 38, 196, 40, 197, 59, 60, 62, 63, 65, 66, 67, 68, 69, 70, 71, 72, 73, 74, 75, 76, 77, 78, 79, 80, 81, 82, 83, 84, 85, 86, 87, 88, 89, 90, 91, 92, 93, 94, 95, 96, 97, 98, 99, 100, 101, 102, 103, 104, 105, 106, 107, 108, 109, 110, 111, 112, 113, 114, 115, 116, 117, 118, 119, 120, 121, 122, 123, 124, 198, 199, 200, 201, 238, 239, 240, 241, 242, 243, 244, 245, 246, 247, 248, 249, 250, 251, 202, 203, 204, 205, 206, 207, 208, 209, 210, 211, 212, 213, 214, 215, 216, 217, 218, 219, 220, 221, 222, 223, 224, 225, 226, 227, 228, 229, 230, 231, 232, 233, 234, 235, 236, 237, 259, 260, 261, 258, 262, 263, 264] (by decide +kernel) (by decide +kernel)
set_option maxRecDepth 20000 in
theorem gX7_act_X6_goOn_u167X6 : GoodIn wsX7_act (va_wsU RX7 167 RX6 "HouseWorkers$Work" ⟨"HouseWorkers$Work", "goOn", "(LHouseWorkers$Store;)I"⟩ yX6_goOn wsX6_goOn) := goodIn_app (goodIn_of _ (by decide +kernel)) ggX7_act_X6_goOn
theorem dX7_act_0 : decode cX7_act 0 = .ok (.aload_n 1, 1) := by decide +kernel
theorem dX7_act_1 : decode cX7_act 1 = .ok (.getfield 95, 3) := by decide +kernel
theorem dX7_act_4 : decode cX7_act 4 = .ok (.ifCond .eq 5, 3) := by decide +kernel
theorem dX7_act_7 : decode cX7_act 7 = .ok (.iconst 4, 1) := by decide +kernel
theorem dX7_act_8 : decode cX7_act 8 = .ok (.ireturn, 1) := by decide +kernel
theorem dX7_act_9 : decode cX7_act 9 = .ok (.aload_n 1, 1) := by decide +kernel
theorem dX7_act_10 : decode cX7_act 10 = .ok (.invokevirtual 164, 3) := by decide +kernel
theorem dX7_act_13 : decode cX7_act 13 = .ok (.ifCond .eq 7, 3) := by decide +kernel
theorem dX7_act_16 : decode cX7_act 16 = .ok (.iconst 3, 1) := by decide +kernel
theorem dX7_act_17 : decode cX7_act 17 = .ok (.goto 11, 3) := by decide +kernel
theorem dX7_act_20 : decode cX7_act 20 = .ok (.aload_n 1, 1) := by decide +kernel
theorem dX7_act_21 : decode cX7_act 21 = .ok (.aload_n 0, 1) := by decide +kernel
theorem dX7_act_22 : decode cX7_act 22 = .ok (.getfield 12, 3) := by decide +kernel
theorem dX7_act_25 : decode cX7_act 25 = .ok (.invokevirtual 167, 3) := by decide +kernel
theorem dX7_act_28 : decode cX7_act 28 = .ok (.ireturn, 1) := by decide +kernel
set_option maxRecDepth 20000 in
theorem ggX7_standsStill_X5_hasEnded : GoodIn wsX7_standsStill wsX5_hasEnded := goodIn_r _ [8, 9, 89, 90, 91, 92, 93, 94, 95, 96, 97, 98, 99, 100, 101, 102, 103, 104, 105, 106, 107, 108, 109, 110, 111, 112, 113, 114, 115, 116, 117, 118, 119, 120, 121, 122, 123, 124, 125, 126, 127, 128, 129, 130, 131, 132, 133, 134, 135, 136, 137, 138] (by decide +kernel) (by decide +kernel)
set_option maxRecDepth 20000 in
theorem gX7_standsStill_X5_hasEnded_u90X1 : GoodIn wsX7_standsStill (va_wsU RX7 90 RX1 "HouseWorkers$Work" ⟨"HouseWorkers$Work", "hasEnded", "()Z"⟩ yX5_hasEnded wsX5_hasEnded) := goodIn_app (goodIn_of _ (by decide +kernel)) ggX7_standsStill_X5_hasEnded
set_option maxRecDepth 20000 in
theorem gX7_standsStill_X5_hasEnded_u90X2 : GoodIn wsX7_standsStill (va_wsU RX7 90 RX2 "HouseWorkers$Work" ⟨"HouseWorkers$Work", "hasEnded", "()Z"⟩ yX5_hasEnded wsX5_hasEnded) := goodIn_app (goodIn_of _ (by decide +kernel)) ggX7_standsStill_X5_hasEnded
set_option maxRecDepth 20000 in
theorem gX7_standsStill_X5_hasEnded_u90X4 : GoodIn wsX7_standsStill (va_wsU RX7 90 RX4 "HouseWorkers$Work" ⟨"HouseWorkers$Work", "hasEnded", "()Z"⟩ yX5_hasEnded wsX5_hasEnded) := goodIn_app (goodIn_of _ (by decide +kernel)) ggX7_standsStill_X5_hasEnded
set_option maxRecDepth 20000 in
theorem gX7_standsStill_X5_hasEnded_u90X6 : GoodIn wsX7_standsStill (va_wsU RX7 90 RX6 "HouseWorkers$Work" ⟨"HouseWorkers$Work", "hasEnded", "()Z"⟩ yX5_hasEnded wsX5_hasEnded) := goodIn_app (goodIn_of _ (by decide +kernel)) ggX7_standsStill_X5_hasEnded
set_option maxRecDepth 20000 in
theorem ggX7_standsStill_X7_hasNobodyBefore : GoodIn wsX7_standsStill wsX7_hasNobodyBefore := goodIn_r _ [17, 18, 19, 20, 21, 22, 23, 24, 25, 26, 27, 28, 29, 30, 31, 32, 33, 34, 35, 36, 37, 38, 39, 40, 41, 42, 43, 44, 45, 46, 47, 7, 48, 49, 50, 51, 52, 3, 4, 5, 6, 8, 9, 10, 11, 12, 89, 90, 91, 92, 93, 94, 95, 96, 97, 98, 99, 100, 101, 102, 103, 104, 105, 106, 107, 108, 109, 110, 111, 112, 113, 114, 115, 116, 117, 118, 119, 120, 121, 122, 123, 124, 125, 126, 127, 128, 129, 130, 131, 132, 133, 134, 135, 136, 137, 138, 139, 140, 141, 142, 143, 144, 145, 146, 147] (by decide +kernel) (by decide +kernel)
set_option maxRecDepth 20000 in
theorem gX7_standsStill_X7_hasNobodyBefore : GoodIn wsX7_standsStill (wsV RX7 171 RX7 yX7_hasNobodyBefore wsX7_hasNobodyBefore) := goodIn_app (goodIn_of _ (by decide +kernel)) ggX7_standsStill_X7_hasNobodyBefore
set_option maxRecDepth 20000 in
theorem ggX7_standsStill_X1_waits : GoodIn wsX7_standsStill wsX1_waits := goodIn_r _ [58] (by decide +kernel) (by decide +kernel)
set_option maxRecDepth 20000 in
theorem gX7_standsStill_X1_waits_u174X1 : GoodIn wsX7_standsStill (va_wsU RX7 174 RX1 "HouseWorkers$Work" ⟨"HouseWorkers$Work", "waits", "(LHouseWorkers$Store;Z)Z"⟩ yX1_waits wsX1_waits) := goodIn_app (goodIn_of _ (by decide +kernel)) ggX7_standsStill_X1_waits
set_option maxRecDepth 20000 in
theorem ggX7_standsStill_X2_waits : GoodIn wsX7_standsStill wsX2_waits := goodIn_r _ [62, 63, 64, 89, 90, 91, 92, 93, 94, 95, 96, 97, 98, 99, 100, 101, 102, 103, 104, 105, 106, 107, 108, 109, 110, 111, 112, 113, 114, 115, 116, 117, 118, 119, 120, 121, 122, 123, 124, 125, 126, 127, 128, 129, 130, 131, 132, 133, 134, 135, 136, 137, 138] (by decide +kernel) (by decide +kernel)
set_option maxRecDepth 20000 in
theorem gX7_standsStill_X2_waits_u174X2 : GoodIn wsX7_standsStill (va_wsU RX7 174 RX2 "HouseWorkers$Work" ⟨"HouseWorkers$Work", "waits", "(LHouseWorkers$Store;Z)Z"⟩ yX2_waits wsX2_waits) := goodIn_app (goodIn_of _ (by decide +kernel)) ggX7_standsStill_X2_waits
set_option maxRecDepth 20000 in
theorem ggX7_standsStill_X4_waits : GoodIn wsX7_standsStill wsX4_waits := goodIn_r _ [68, 69, 70, 71, 72, 73, 74, 75, 76, 77, 22, 23, 24, 25, 26, 89, 90, 91, 92, 93, 94, 95, 96, 97, 98, 99, 100, 101, 102, 103, 104, 105, 106, 107, 108, 109, 110, 111, 112, 113, 114, 115, 116, 117, 118, 119, 120, 121, 122, 123, 124, 125, 126, 127, 128, 129, 130, 131, 132, 133, 134, 135, 136, 137, 138, 148, 149, 150, 145, 146, 147] (by decide +kernel) (by decide +kernel)
set_option maxRecDepth 20000 in
theorem gX7_standsStill_X4_waits_u174X4 : GoodIn wsX7_standsStill (va_wsU RX7 174 RX4 "HouseWorkers$Work" ⟨"HouseWorkers$Work", "waits", "(LHouseWorkers$Store;Z)Z"⟩ yX4_waits wsX4_waits) := goodIn_app (goodIn_of _ (by decide +kernel)) ggX7_standsStill_X4_waits
set_option maxRecDepth 20000 in
theorem ggX7_standsStill_X6_waits : GoodIn wsX7_standsStill wsX6_waits := goodIn_r _ [81, 82, 83, 84, 85, 7, 86, 87, 88, 89, 90, 91, 92, 93, 94, 95, 96, 97, 98, 99, 100, 101, 102, 103, 104, 105, 106, 107, 108, 109, 110, 111, 112, 113, 114, 115, 116, 117, 118, 119, 120, 121, 122, 123, 124, 125, 126, 127, 128, 129, 130, 131, 132, 133, 134, 135, 136, 137, 138] (by decide +kernel) (by decide +kernel)
set_option maxRecDepth 20000 in
theorem gX7_standsStill_X6_waits_u174X6 : GoodIn wsX7_standsStill (va_wsU RX7 174 RX6 "HouseWorkers$Work" ⟨"HouseWorkers$Work", "waits", "(LHouseWorkers$Store;Z)Z"⟩ yX6_waits wsX6_waits) := goodIn_app (goodIn_of _ (by decide +kernel)) ggX7_standsStill_X6_waits
theorem dX7_standsStill_0 : decode cX7_standsStill 0 = .ok (.aload_n 1, 1) := by decide +kernel
theorem dX7_standsStill_1 : decode cX7_standsStill 1 = .ok (.invokevirtual 90, 3) := by decide +kernel
theorem dX7_standsStill_4 : decode cX7_standsStill 4 = .ok (.ifCond .eq 5, 3) := by decide +kernel
theorem dX7_standsStill_7 : decode cX7_standsStill 7 = .ok (.iconst 1, 1) := by decide +kernel
theorem dX7_standsStill_8 : decode cX7_standsStill 8 = .ok (.ireturn, 1) := by decide +kernel
theorem dX7_standsStill_9 : decode cX7_standsStill 9 = .ok (.aload_n 1, 1) := by decide +kernel
theorem dX7_standsStill_10 : decode cX7_standsStill 10 = .ok (.getfield 95, 3) := by decide +kernel
theorem dX7_standsStill_13 : decode cX7_standsStill 13 = .ok (.ifCond .ne 23, 3) := by decide +kernel
theorem dX7_standsStill_16 : decode cX7_standsStill 16 = .ok (.aload_n 1, 1) := by decide +kernel
theorem dX7_standsStill_17 : decode cX7_standsStill 17 = .ok (.aload_n 0, 1) := by decide +kernel
theorem dX7_standsStill_18 : decode cX7_standsStill 18 = .ok (.getfield 12, 3) := by decide +kernel
theorem dX7_standsStill_21 : decode cX7_standsStill 21 = .ok (.aload_n 0, 1) := by decide +kernel
theorem dX7_standsStill_22 : decode cX7_standsStill 22 = .ok (.aload_n 1, 1) := by decide +kernel
theorem dX7_standsStill_23 : decode cX7_standsStill 23 = .ok (.invokevirtual 171, 3) := by decide +kernel
theorem dX7_standsStill_26 : decode cX7_standsStill 26 = .ok (.invokevirtual 174, 3) := by decide +kernel
theorem dX7_standsStill_29 : decode cX7_standsStill 29 = .ok (.ifCond .eq 7, 3) := by decide +kernel
theorem dX7_standsStill_32 : decode cX7_standsStill 32 = .ok (.iconst 1, 1) := by decide +kernel
theorem dX7_standsStill_33 : decode cX7_standsStill 33 = .ok (.goto 4, 3) := by decide +kernel
theorem dX7_standsStill_36 : decode cX7_standsStill 36 = .ok (.iconst 0, 1) := by decide +kernel
theorem dX7_standsStill_37 : decode cX7_standsStill 37 = .ok (.ireturn, 1) := by decide +kernel
set_option maxRecDepth 20000 in
theorem ggX7_hasNobodyBefore_Jx4a65c_size_8abf5 : GoodIn wsX7_hasNobodyBefore wsJx4a65c_size_8abf5 := goodIn_r _ [8, 9, 102, 103, 104] (by decide +kernel) (by decide +kernel)
set_option maxRecDepth 20000 in
theorem gX7_hasNobodyBefore_Jx4a65c_size_8abf5 : GoodIn wsX7_hasNobodyBefore (wsV RX7 102 RJx4a65c yJx4a65c_size_8abf5 wsJx4a65c_size_8abf5) := goodIn_app (goodIn_of _ (by decide +kernel)) ggX7_hasNobodyBefore_Jx4a65c_size_8abf5
set_option maxRecDepth 20000 in
theorem ggX7_hasNobodyBefore_Jx4a65c_get_915e3 : GoodIn wsX7_hasNobodyBefore wsJx4a65c_get_915e3 := goodIn_r _ [13, 9, 14, 15, 16, 17, 18, 19, 20, 21, 22, 23, 24, 7, 25, 26, 102, 103, 104] (by decide +kernel) (by decide +kernel)
set_option maxRecDepth 20000 in
theorem gX7_hasNobodyBefore_Jx4a65c_get_915e3 : GoodIn wsX7_hasNobodyBefore (wsV RX7 105 RJx4a65c yJx4a65c_get_915e3 wsJx4a65c_get_915e3) := goodIn_app (goodIn_of _ (by decide +kernel)) ggX7_hasNobodyBefore_Jx4a65c_get_915e3
set_option maxRecDepth 20000 in
theorem ggX7_hasNobodyBefore_X5_commits : GoodIn wsX7_hasNobodyBefore wsX5_commits := goodIn_r _ [32, 33, 46, 47, 48, 49, 50, 51, 52, 53, 54, 55, 56, 57, 58, 59, 60, 61, 62, 63, 64, 65, 66, 67, 68, 69, 70, 71, 72, 73, 74, 75, 76, 77, 78, 79, 80, 81, 82, 83, 84, 85, 86, 87, 88, 89, 90, 91, 92, 93, 94, 95] (by decide +kernel) (by decide +kernel)
set_option maxRecDepth 20000 in
theorem gX7_hasNobodyBefore_X5_commits_u178X1 : GoodIn wsX7_hasNobodyBefore (va_wsU RX7 178 RX1 "HouseWorkers$Work" ⟨"HouseWorkers$Work", "commits", "()Z"⟩ yX5_commits wsX5_commits) := goodIn_app (goodIn_of _ (by decide +kernel)) ggX7_hasNobodyBefore_X5_commits
set_option maxRecDepth 20000 in
theorem gX7_hasNobodyBefore_X5_commits_u178X2 : GoodIn wsX7_hasNobodyBefore (va_wsU RX7 178 RX2 "HouseWorkers$Work" ⟨"HouseWorkers$Work", "commits", "()Z"⟩ yX5_commits wsX5_commits) := goodIn_app (goodIn_of _ (by decide +kernel)) ggX7_hasNobodyBefore_X5_commits
set_option maxRecDepth 20000 in
theorem gX7_hasNobodyBefore_X5_commits_u178X4 : GoodIn wsX7_hasNobodyBefore (va_wsU RX7 178 RX4 "HouseWorkers$Work" ⟨"HouseWorkers$Work", "commits", "()Z"⟩ yX5_commits wsX5_commits) := goodIn_app (goodIn_of _ (by decide +kernel)) ggX7_hasNobodyBefore_X5_commits
set_option maxRecDepth 20000 in
theorem gX7_hasNobodyBefore_X5_commits_u178X6 : GoodIn wsX7_hasNobodyBefore (va_wsU RX7 178 RX6 "HouseWorkers$Work" ⟨"HouseWorkers$Work", "commits", "()Z"⟩ yX5_commits wsX5_commits) := goodIn_app (goodIn_of _ (by decide +kernel)) ggX7_hasNobodyBefore_X5_commits
set_option maxRecDepth 20000 in
theorem ggX7_hasNobodyBefore_X5_hasEnded : GoodIn wsX7_hasNobodyBefore wsX5_hasEnded := goodIn_r _ [41, 42, 46, 47, 48, 49, 50, 51, 52, 53, 54, 55, 56, 57, 58, 59, 60, 61, 62, 63, 64, 65, 66, 67, 68, 69, 70, 71, 72, 73, 74, 75, 76, 77, 78, 79, 80, 81, 82, 83, 84, 85, 86, 87, 88, 89, 90, 91, 92, 93, 94, 95] (by decide +kernel) (by decide +kernel)
set_option maxRecDepth 20000 in
theorem gX7_hasNobodyBefore_X5_hasEnded_u90X1 : GoodIn wsX7_hasNobodyBefore (va_wsU RX7 90 RX1 "HouseWorkers$Work" ⟨"HouseWorkers$Work", "hasEnded", "()Z"⟩ yX5_hasEnded wsX5_hasEnded) := goodIn_app (goodIn_of _ (by decide +kernel)) ggX7_hasNobodyBefore_X5_hasEnded
set_option maxRecDepth 20000 in
theorem gX7_hasNobodyBefore_X5_hasEnded_u90X2 : GoodIn wsX7_hasNobodyBefore (va_wsU RX7 90 RX2 "HouseWorkers$Work" ⟨"HouseWorkers$Work", "hasEnded", "()Z"⟩ yX5_hasEnded wsX5_hasEnded) := goodIn_app (goodIn_of _ (by decide +kernel)) ggX7_hasNobodyBefore_X5_hasEnded
set_option maxRecDepth 20000 in
theorem gX7_hasNobodyBefore_X5_hasEnded_u90X4 : GoodIn wsX7_hasNobodyBefore (va_wsU RX7 90 RX4 "HouseWorkers$Work" ⟨"HouseWorkers$Work", "hasEnded", "()Z"⟩ yX5_hasEnded wsX5_hasEnded) := goodIn_app (goodIn_of _ (by decide +kernel)) ggX7_hasNobodyBefore_X5_hasEnded
set_option maxRecDepth 20000 in
theorem gX7_hasNobodyBefore_X5_hasEnded_u90X6 : GoodIn wsX7_hasNobodyBefore (va_wsU RX7 90 RX6 "HouseWorkers$Work" ⟨"HouseWorkers$Work", "hasEnded", "()Z"⟩ yX5_hasEnded wsX5_hasEnded) := goodIn_app (goodIn_of _ (by decide +kernel)) ggX7_hasNobodyBefore_X5_hasEnded
theorem dX7_hasNobodyBefore_0 : decode cX7_hasNobodyBefore 0 = .ok (.iconst 0, 1) := by decide +kernel
theorem dX7_hasNobodyBefore_1 : decode cX7_hasNobodyBefore 1 = .ok (.istore_n 2, 1) := by decide +kernel
theorem dX7_hasNobodyBefore_2 : decode cX7_hasNobodyBefore 2 = .ok (.iload_n 2, 1) := by decide +kernel
theorem dX7_hasNobodyBefore_3 : decode cX7_hasNobodyBefore 3 = .ok (.aload_n 1, 1) := by decide +kernel
theorem dX7_hasNobodyBefore_4 : decode cX7_hasNobodyBefore 4 = .ok (.getfield 133, 3) := by decide +kernel
theorem dX7_hasNobodyBefore_7 : decode cX7_hasNobodyBefore 7 = .ok (.if_icmp .ge 48, 3) := by decide +kernel
theorem dX7_hasNobodyBefore_10 : decode cX7_hasNobodyBefore 10 = .ok (.iload_n 2, 1) := by decide +kernel
theorem dX7_hasNobodyBefore_11 : decode cX7_hasNobodyBefore 11 = .ok (.aload_n 0, 1) := by decide +kernel
theorem dX7_hasNobodyBefore_12 : decode cX7_hasNobodyBefore 12 = .ok (.getfield 19, 3) := by decide +kernel
theorem dX7_hasNobodyBefore_15 : decode cX7_hasNobodyBefore 15 = .ok (.invokevirtual 102, 3) := by decide +kernel
theorem dX7_hasNobodyBefore_18 : decode cX7_hasNobodyBefore 18 = .ok (.if_icmp .ge 37, 3) := by decide +kernel
theorem dX7_hasNobodyBefore_21 : decode cX7_hasNobodyBefore 21 = .ok (.aload_n 0, 1) := by decide +kernel
theorem dX7_hasNobodyBefore_22 : decode cX7_hasNobodyBefore 22 = .ok (.getfield 19, 3) := by decide +kernel
theorem dX7_hasNobodyBefore_25 : decode cX7_hasNobodyBefore 25 = .ok (.iload_n 2, 1) := by decide +kernel
theorem dX7_hasNobodyBefore_26 : decode cX7_hasNobodyBefore 26 = .ok (.invokevirtual 105, 3) := by decide +kernel
theorem dX7_hasNobodyBefore_29 : decode cX7_hasNobodyBefore 29 = .ok (.checkcast 91, 3) := by decide +kernel
theorem dX7_hasNobodyBefore_32 : decode cX7_hasNobodyBefore 32 = .ok (.astore_n 3, 1) := by decide +kernel
theorem dX7_hasNobodyBefore_33 : decode cX7_hasNobodyBefore 33 = .ok (.aload_n 3, 1) := by decide +kernel
theorem dX7_hasNobodyBefore_34 : decode cX7_hasNobodyBefore 34 = .ok (.invokevirtual 178, 3) := by decide +kernel
theorem dX7_hasNobodyBefore_37 : decode cX7_hasNobodyBefore 37 = .ok (.ifCond .eq 12, 3) := by decide +kernel
theorem dX7_hasNobodyBefore_40 : decode cX7_hasNobodyBefore 40 = .ok (.aload_n 3, 1) := by decide +kernel
theorem dX7_hasNobodyBefore_41 : decode cX7_hasNobodyBefore 41 = .ok (.invokevirtual 90, 3) := by decide +kernel
theorem dX7_hasNobodyBefore_44 : decode cX7_hasNobodyBefore 44 = .ok (.ifCond .ne 5, 3) := by decide +kernel
theorem dX7_hasNobodyBefore_47 : decode cX7_hasNobodyBefore 47 = .ok (.iconst 0, 1) := by decide +kernel
theorem dX7_hasNobodyBefore_48 : decode cX7_hasNobodyBefore 48 = .ok (.ireturn, 1) := by decide +kernel
theorem dX7_hasNobodyBefore_49 : decode cX7_hasNobodyBefore 49 = .ok (.iinc 2 1, 3) := by decide +kernel
theorem dX7_hasNobodyBefore_52 : decode cX7_hasNobodyBefore 52 = .ok (.goto (-50), 3) := by decide +kernel
theorem dX7_hasNobodyBefore_55 : decode cX7_hasNobodyBefore 55 = .ok (.iconst 1, 1) := by decide +kernel
theorem dX7_hasNobodyBefore_56 : decode cX7_hasNobodyBefore 56 = .ok (.ireturn, 1) := by decide +kernel
set_option maxRecDepth 20000 in
theorem ggX7_endWork_Jx4a65c_add_9ea2d : GoodIn wsX7_endWork wsJx4a65c_add_9ea2d := goodIn_r _ [9, 10, 11, 12, 13, 14, 15, 16, 8, 17, 18, 19, 20, 21, 22, 23, 24, 25, 26, 27, 28, 29, 30, 31, 32, 33, 34, 35, 36, 37, 38, 39, 40, 41, 42, 43, 44, 45, 46, 47, 48, 49, 50, 51, 52, 53, 54, 55, 56, 57, 58, 59, 60, 117, 118, 119] (by decide +kernel) (by decide +kernel)
set_option maxRecDepth 20000 in
theorem gX7_endWork_Jx4a65c_add_9ea2d : GoodIn wsX7_endWork (wsV RX7 59 RJx4a65c yJx4a65c_add_9ea2d wsJx4a65c_add_9ea2d) := goodIn_app (goodIn_of _ (by decide +kernel)) ggX7_endWork_Jx4a65c_add_9ea2d
theorem dX7_endWork_0 : decode cX7_endWork 0 = .ok (.aload_n 1, 1) := by decide +kernel
theorem dX7_endWork_1 : decode cX7_endWork 1 = .ok (.iload_n 2, 1) := by decide +kernel
theorem dX7_endWork_2 : decode cX7_endWork 2 = .ok (.putfield 117, 3) := by decide +kernel
theorem dX7_endWork_5 : decode cX7_endWork 5 = .ok (.aload_n 1, 1) := by decide +kernel
theorem dX7_endWork_6 : decode cX7_endWork 6 = .ok (.aload_n 0, 1) := by decide +kernel
theorem dX7_endWork_7 : decode cX7_endWork 7 = .ok (.getfield 155, 3) := by decide +kernel
theorem dX7_endWork_10 : decode cX7_endWork 10 = .ok (.putfield 136, 3) := by decide +kernel
theorem dX7_endWork_13 : decode cX7_endWork 13 = .ok (.aload_n 0, 1) := by decide +kernel
theorem dX7_endWork_14 : decode cX7_endWork 14 = .ok (.getfield 23, 3) := by decide +kernel
theorem dX7_endWork_17 : decode cX7_endWork 17 = .ok (.aload_n 1, 1) := by decide +kernel
theorem dX7_endWork_18 : decode cX7_endWork 18 = .ok (.invokevirtual 59, 3) := by decide +kernel
theorem dX7_endWork_21 : decode cX7_endWork 21 = .ok (.pop, 1) := by decide +kernel
theorem dX7_endWork_22 : decode cX7_endWork 22 = .ok (.return_, 1) := by decide +kernel
set_option maxRecDepth 20000 in
theorem ggX7_isKept_X3_latestNumber : GoodIn wsX7_isKept wsX3_latestNumber := goodIn_r _ [8, 9, 10, 11, 12, 13, 14, 15, 81, 82, 83, 84, 85, 86] (by decide +kernel) (by decide +kernel)
set_option maxRecDepth 20000 in
theorem gX7_isKept_X3_latestNumber : GoodIn wsX7_isKept (wsV RX7 181 RX3 yX3_latestNumber wsX3_latestNumber) := goodIn_app (goodIn_of _ (by decide +kernel)) ggX7_isKept_X3_latestNumber
set_option maxRecDepth 20000 in
theorem ggX7_isKept_X7_isPinned : GoodIn wsX7_isKept wsX7_isPinned := goodIn_r _ [20, 2, 3, 21, 11, 12, 13, 14, 15, 22, 23, 24, 25, 26, 27, 28, 29, 30, 31, 32, 33, 34, 35, 36, 37, 38, 39, 40, 41, 42, 43, 44, 45, 46, 47, 48, 49, 50, 51, 52, 53, 54, 55, 56, 57, 75, 76, 77, 78, 79, 80, 84, 85, 86, 87, 88, 89, 90, 91, 92, 93, 94, 95, 96, 97, 98, 99, 100, 101, 102, 103, 104, 105, 106, 107, 108, 109, 110, 111, 112, 113, 114, 115, 116, 117, 118, 119, 120, 121, 122, 123, 124, 125, 126, 127, 128, 129, 130, 131, 132, 133, 134, 135, 136] (by decide +kernel) (by decide +kernel)
set_option maxRecDepth 20000 in
theorem gX7_isKept_X7_isPinned : GoodIn wsX7_isKept (wsV RX7 184 RX7 yX7_isPinned wsX7_isPinned) := goodIn_app (goodIn_of _ (by decide +kernel)) ggX7_isKept_X7_isPinned
set_option maxRecDepth 20000 in
theorem ggX7_isKept_Jx4a65c_size_8abf5 : GoodIn wsX7_isKept wsJx4a65c_size_8abf5 := goodIn_r _ [14, 15, 84, 85, 86] (by decide +kernel) (by decide +kernel)
set_option maxRecDepth 20000 in
theorem gX7_isKept_Jx4a65c_size_8abf5 : GoodIn wsX7_isKept (wsV RX7 102 RJx4a65c yJx4a65c_size_8abf5 wsJx4a65c_size_8abf5) := goodIn_app (goodIn_of _ (by decide +kernel)) ggX7_isKept_Jx4a65c_size_8abf5
set_option maxRecDepth 20000 in
theorem ggX7_isKept_Jx4a65c_get_915e3 : GoodIn wsX7_isKept wsJx4a65c_get_915e3 := goodIn_r _ [25, 15, 26, 27, 28, 29, 30, 31, 32, 33, 34, 35, 36, 13, 37, 38, 84, 85, 86] (by decide +kernel) (by decide +kernel)
set_option maxRecDepth 20000 in
theorem gX7_isKept_Jx4a65c_get_915e3 : GoodIn wsX7_isKept (wsV RX7 105 RJx4a65c yJx4a65c_get_915e3 wsJx4a65c_get_915e3) := goodIn_app (goodIn_of _ (by decide +kernel)) ggX7_isKept_Jx4a65c_get_915e3
set_option maxRecDepth 20000 in
theorem ggX7_isKept_X5_isToGet : GoodIn wsX7_isKept wsX5_isToGet := goodIn_r _ [62] (by decide +kernel) (by decide +kernel)
set_option maxRecDepth 20000 in
theorem gX7_isKept_X5_isToGet_u187X1 : GoodIn wsX7_isKept (va_wsU RX7 187 RX1 "HouseWorkers$Work" ⟨"HouseWorkers$Work", "isToGet", "(I)Z"⟩ yX5_isToGet wsX5_isToGet) := goodIn_app (goodIn_of _ (by decide +kernel)) ggX7_isKept_X5_isToGet
set_option maxRecDepth 20000 in
theorem gX7_isKept_X5_isToGet_u187X2 : GoodIn wsX7_isKept (va_wsU RX7 187 RX2 "HouseWorkers$Work" ⟨"HouseWorkers$Work", "isToGet", "(I)Z"⟩ yX5_isToGet wsX5_isToGet) := goodIn_app (goodIn_of _ (by decide +kernel)) ggX7_isKept_X5_isToGet
set_option maxRecDepth 20000 in
theorem ggX7_isKept_X4_isToGet : GoodIn wsX7_isKept wsX4_isToGet := goodIn_r _ [68, 69, 70, 71, 72, 73, 49, 43, 50, 51, 87, 88, 89, 90, 91, 92, 93, 94, 95, 96, 97, 98, 99, 100, 101, 102, 103, 104, 105, 106, 107, 108, 109, 110, 111, 112, 113, 114, 115, 116, 117, 118, 119, 120, 121, 122, 123, 124, 125, 126, 127, 128, 129, 130, 131, 132, 133, 134, 135, 136] (by decide +kernel) (by decide +kernel)
set_option maxRecDepth 20000 in
theorem gX7_isKept_X4_isToGet_u187X4 : GoodIn wsX7_isKept (va_wsO RX7 187 RX4 "HouseWorkers$Work" ⟨"HouseWorkers$Work", "isToGet", "(I)Z"⟩ yX4_isToGet wsX4_isToGet) := goodIn_app (goodIn_of _ (by decide +kernel)) ggX7_isKept_X4_isToGet
set_option maxRecDepth 20000 in
theorem gX7_isKept_X5_isToGet_u187X6 : GoodIn wsX7_isKept (va_wsU RX7 187 RX6 "HouseWorkers$Work" ⟨"HouseWorkers$Work", "isToGet", "(I)Z"⟩ yX5_isToGet wsX5_isToGet) := goodIn_app (goodIn_of _ (by decide +kernel)) ggX7_isKept_X5_isToGet
theorem dX7_isKept_0 : decode cX7_isKept 0 = .ok (.iload_n 1, 1) := by decide +kernel
theorem dX7_isKept_1 : decode cX7_isKept 1 = .ok (.aload_n 0, 1) := by decide +kernel
theorem dX7_isKept_2 : decode cX7_isKept 2 = .ok (.getfield 12, 3) := by decide +kernel
theorem dX7_isKept_5 : decode cX7_isKept 5 = .ok (.invokevirtual 181, 3) := by decide +kernel
theorem dX7_isKept_8 : decode cX7_isKept 8 = .ok (.if_icmp .eq 11, 3) := by decide +kernel
theorem dX7_isKept_11 : decode cX7_isKept 11 = .ok (.aload_n 0, 1) := by decide +kernel
theorem dX7_isKept_12 : decode cX7_isKept 12 = .ok (.iload_n 1, 1) := by decide +kernel
theorem dX7_isKept_13 : decode cX7_isKept 13 = .ok (.invokevirtual 184, 3) := by decide +kernel
theorem dX7_isKept_16 : decode cX7_isKept 16 = .ok (.ifCond .eq 5, 3) := by decide +kernel
theorem dX7_isKept_19 : decode cX7_isKept 19 = .ok (.iconst 1, 1) := by decide +kernel
theorem dX7_isKept_20 : decode cX7_isKept 20 = .ok (.ireturn, 1) := by decide +kernel
theorem dX7_isKept_21 : decode cX7_isKept 21 = .ok (.iconst 0, 1) := by decide +kernel
theorem dX7_isKept_22 : decode cX7_isKept 22 = .ok (.istore_n 2, 1) := by decide +kernel
theorem dX7_isKept_23 : decode cX7_isKept 23 = .ok (.iload_n 2, 1) := by decide +kernel
theorem dX7_isKept_24 : decode cX7_isKept 24 = .ok (.aload_n 0, 1) := by decide +kernel
theorem dX7_isKept_25 : decode cX7_isKept 25 = .ok (.getfield 19, 3) := by decide +kernel
theorem dX7_isKept_28 : decode cX7_isKept 28 = .ok (.invokevirtual 102, 3) := by decide +kernel
theorem dX7_isKept_31 : decode cX7_isKept 31 = .ok (.if_icmp .ge 29, 3) := by decide +kernel
theorem dX7_isKept_34 : decode cX7_isKept 34 = .ok (.aload_n 0, 1) := by decide +kernel
theorem dX7_isKept_35 : decode cX7_isKept 35 = .ok (.getfield 19, 3) := by decide +kernel
theorem dX7_isKept_38 : decode cX7_isKept 38 = .ok (.iload_n 2, 1) := by decide +kernel
theorem dX7_isKept_39 : decode cX7_isKept 39 = .ok (.invokevirtual 105, 3) := by decide +kernel
theorem dX7_isKept_42 : decode cX7_isKept 42 = .ok (.checkcast 91, 3) := by decide +kernel
theorem dX7_isKept_45 : decode cX7_isKept 45 = .ok (.iload_n 1, 1) := by decide +kernel
theorem dX7_isKept_46 : decode cX7_isKept 46 = .ok (.invokevirtual 187, 3) := by decide +kernel
theorem dX7_isKept_49 : decode cX7_isKept 49 = .ok (.ifCond .eq 5, 3) := by decide +kernel
theorem dX7_isKept_52 : decode cX7_isKept 52 = .ok (.iconst 1, 1) := by decide +kernel
theorem dX7_isKept_53 : decode cX7_isKept 53 = .ok (.ireturn, 1) := by decide +kernel
theorem dX7_isKept_54 : decode cX7_isKept 54 = .ok (.iinc 2 1, 3) := by decide +kernel
theorem dX7_isKept_57 : decode cX7_isKept 57 = .ok (.goto (-34), 3) := by decide +kernel
theorem dX7_isKept_60 : decode cX7_isKept 60 = .ok (.iconst 0, 1) := by decide +kernel
theorem dX7_isKept_61 : decode cX7_isKept 61 = .ok (.ireturn, 1) := by decide +kernel
set_option maxRecDepth 20000 in
theorem ggX7_isPinned_Jx4a65c_size_8abf5 : GoodIn wsX7_isPinned wsJx4a65c_size_8abf5 := goodIn_r _ [7, 8, 51, 52, 53] (by decide +kernel) (by decide +kernel)
set_option maxRecDepth 20000 in
theorem gX7_isPinned_Jx4a65c_size_8abf5 : GoodIn wsX7_isPinned (wsV RX7 102 RJx4a65c yJx4a65c_size_8abf5 wsJx4a65c_size_8abf5) := goodIn_app (goodIn_of _ (by decide +kernel)) ggX7_isPinned_Jx4a65c_size_8abf5
set_option maxRecDepth 20000 in
theorem ggX7_isPinned_Jx4a65c_get_915e3 : GoodIn wsX7_isPinned wsJx4a65c_get_915e3 := goodIn_r _ [12, 8, 13, 14, 15, 16, 17, 18, 19, 20, 21, 22, 23, 6, 24, 25, 51, 52, 53] (by decide +kernel) (by decide +kernel)
set_option maxRecDepth 20000 in
theorem gX7_isPinned_Jx4a65c_get_915e3 : GoodIn wsX7_isPinned (wsV RX7 105 RJx4a65c yJx4a65c_get_915e3 wsJx4a65c_get_915e3) := goodIn_app (goodIn_of _ (by decide +kernel)) ggX7_isPinned_Jx4a65c_get_915e3
set_option maxRecDepth 20000 in
theorem ggX7_isPinned_X5_pins : GoodIn wsX7_isPinned wsX5_pins := goodIn_r _ [31, 32, 33, 34, 35, 36, 30, 37, 38, 39, 40, 41, 54, 55, 56, 57, 58, 59, 60, 61, 62, 63, 64, 65, 66, 67, 68, 69, 70, 71, 72, 73, 74, 75, 76, 77, 78, 79, 80, 81, 82, 83, 84, 85, 86, 87, 88, 89, 90, 91, 92, 93, 94, 95, 96, 97, 98, 99, 100, 101, 102, 103] (by decide +kernel) (by decide +kernel)
set_option maxRecDepth 20000 in
theorem gX7_isPinned_X5_pins_u190X1 : GoodIn wsX7_isPinned (va_wsU RX7 190 RX1 "HouseWorkers$Work" ⟨"HouseWorkers$Work", "pins", "(I)Z"⟩ yX5_pins wsX5_pins) := goodIn_app (goodIn_of _ (by decide +kernel)) ggX7_isPinned_X5_pins
set_option maxRecDepth 20000 in
theorem gX7_isPinned_X5_pins_u190X2 : GoodIn wsX7_isPinned (va_wsU RX7 190 RX2 "HouseWorkers$Work" ⟨"HouseWorkers$Work", "pins", "(I)Z"⟩ yX5_pins wsX5_pins) := goodIn_app (goodIn_of _ (by decide +kernel)) ggX7_isPinned_X5_pins
set_option maxRecDepth 20000 in
theorem gX7_isPinned_X5_pins_u190X4 : GoodIn wsX7_isPinned (va_wsU RX7 190 RX4 "HouseWorkers$Work" ⟨"HouseWorkers$Work", "pins", "(I)Z"⟩ yX5_pins wsX5_pins) := goodIn_app (goodIn_of _ (by decide +kernel)) ggX7_isPinned_X5_pins
set_option maxRecDepth 20000 in
theorem gX7_isPinned_X5_pins_u190X6 : GoodIn wsX7_isPinned (va_wsU RX7 190 RX6 "HouseWorkers$Work" ⟨"HouseWorkers$Work", "pins", "(I)Z"⟩ yX5_pins wsX5_pins) := goodIn_app (goodIn_of _ (by decide +kernel)) ggX7_isPinned_X5_pins
theorem dX7_isPinned_0 : decode cX7_isPinned 0 = .ok (.iconst 0, 1) := by decide +kernel
theorem dX7_isPinned_1 : decode cX7_isPinned 1 = .ok (.istore_n 2, 1) := by decide +kernel
theorem dX7_isPinned_2 : decode cX7_isPinned 2 = .ok (.iload_n 2, 1) := by decide +kernel
theorem dX7_isPinned_3 : decode cX7_isPinned 3 = .ok (.aload_n 0, 1) := by decide +kernel
theorem dX7_isPinned_4 : decode cX7_isPinned 4 = .ok (.getfield 19, 3) := by decide +kernel
theorem dX7_isPinned_7 : decode cX7_isPinned 7 = .ok (.invokevirtual 102, 3) := by decide +kernel
theorem dX7_isPinned_10 : decode cX7_isPinned 10 = .ok (.if_icmp .ge 29, 3) := by decide +kernel
theorem dX7_isPinned_13 : decode cX7_isPinned 13 = .ok (.aload_n 0, 1) := by decide +kernel
theorem dX7_isPinned_14 : decode cX7_isPinned 14 = .ok (.getfield 19, 3) := by decide +kernel
theorem dX7_isPinned_17 : decode cX7_isPinned 17 = .ok (.iload_n 2, 1) := by decide +kernel
theorem dX7_isPinned_18 : decode cX7_isPinned 18 = .ok (.invokevirtual 105, 3) := by decide +kernel
theorem dX7_isPinned_21 : decode cX7_isPinned 21 = .ok (.checkcast 91, 3) := by decide +kernel
theorem dX7_isPinned_24 : decode cX7_isPinned 24 = .ok (.iload_n 1, 1) := by decide +kernel
theorem dX7_isPinned_25 : decode cX7_isPinned 25 = .ok (.invokevirtual 190, 3) := by decide +kernel
theorem dX7_isPinned_28 : decode cX7_isPinned 28 = .ok (.ifCond .eq 5, 3) := by decide +kernel
theorem dX7_isPinned_31 : decode cX7_isPinned 31 = .ok (.iconst 1, 1) := by decide +kernel
theorem dX7_isPinned_32 : decode cX7_isPinned 32 = .ok (.ireturn, 1) := by decide +kernel
theorem dX7_isPinned_33 : decode cX7_isPinned 33 = .ok (.iinc 2 1, 3) := by decide +kernel
theorem dX7_isPinned_36 : decode cX7_isPinned 36 = .ok (.goto (-34), 3) := by decide +kernel
theorem dX7_isPinned_39 : decode cX7_isPinned 39 = .ok (.iconst 0, 1) := by decide +kernel
theorem dX7_isPinned_40 : decode cX7_isPinned 40 = .ok (.ireturn, 1) := by decide +kernel
set_option maxRecDepth 20000 in
theorem ggX7_countKept_X3_size : GoodIn wsX7_countKept wsX3_size := goodIn_r _ [6, 7, 8, 9, 10, 11, 12, 13, 89, 90, 91, 92, 93, 94] (by decide +kernel) (by decide +kernel)
set_option maxRecDepth 20000 in
theorem gX7_countKept_X3_size : GoodIn wsX7_countKept (wsV RX7 148 RX3 yX3_size wsX3_size) := goodIn_app (goodIn_of _ (by decide +kernel)) ggX7_countKept_X3_size
set_option maxRecDepth 20000 in
theorem ggX7_countKept_X7_isKept : GoodIn wsX7_countKept wsX7_isKept := goodIn_r _ [18, 1, 19, 20, 21, 22, 23, 5, 24, 7, 8, 9, 10, 11, 12, 13, 25, 26, 27, 17, 28, 29, 30, 31, 32, 33, 34, 35, 36, 37, 38, 39, 40, 41, 42, 43, 44, 45, 46, 47, 48, 49, 50, 51, 52, 53, 54, 55, 56, 57, 58, 59, 60, 61, 62, 63, 64, 65, 66, 67, 68, 69, 70, 71, 72, 73, 74, 75, 76, 77, 78, 79, 80, 81, 82, 83, 84, 85, 86, 87, 88, 89, 90, 91, 92, 93, 94, 95, 96, 97, 98, 99, 100, 101, 102, 103, 104, 105, 106, 107, 108, 109, 110, 111, 112, 113, 114, 115, 116, 117, 118, 119, 120, 121, 122, 123, 124, 125, 126, 127, 128, 129, 130, 131, 132, 133, 134, 135, 136, 137, 138, 139, 140, 141, 142, 143, 144] (by decide +kernel) (by decide +kernel)
set_option maxRecDepth 20000 in
theorem gX7_countKept_X7_isKept : GoodIn wsX7_countKept (wsV RX7 142 RX7 yX7_isKept wsX7_isKept) := goodIn_app (goodIn_of _ (by decide +kernel)) ggX7_countKept_X7_isKept
theorem dX7_countKept_0 : decode cX7_countKept 0 = .ok (.iconst 0, 1) := by decide +kernel
theorem dX7_countKept_1 : decode cX7_countKept 1 = .ok (.istore_n 1, 1) := by decide +kernel
theorem dX7_countKept_2 : decode cX7_countKept 2 = .ok (.iconst 0, 1) := by decide +kernel
theorem dX7_countKept_3 : decode cX7_countKept 3 = .ok (.istore_n 2, 1) := by decide +kernel
theorem dX7_countKept_4 : decode cX7_countKept 4 = .ok (.iload_n 2, 1) := by decide +kernel
theorem dX7_countKept_5 : decode cX7_countKept 5 = .ok (.aload_n 0, 1) := by decide +kernel
end
section
theorem dX7_countKept_6 : decode cX7_countKept 6 = .ok (.getfield 12, 3) := by decide +kernel
theorem dX7_countKept_9 : decode cX7_countKept 9 = .ok (.invokevirtual 148, 3) := by decide +kernel
theorem dX7_countKept_12 : decode cX7_countKept 12 = .ok (.if_icmp .ge 20, 3) := by decide +kernel
theorem dX7_countKept_15 : decode cX7_countKept 15 = .ok (.aload_n 0, 1) := by decide +kernel
theorem dX7_countKept_16 : decode cX7_countKept 16 = .ok (.iload_n 2, 1) := by decide +kernel
theorem dX7_countKept_17 : decode cX7_countKept 17 = .ok (.invokevirtual 142, 3) := by decide +kernel
theorem dX7_countKept_20 : decode cX7_countKept 20 = .ok (.ifCond .eq 6, 3) := by decide +kernel
theorem dX7_countKept_23 : decode cX7_countKept 23 = .ok (.iinc 1 1, 3) := by decide +kernel
theorem dX7_countKept_26 : decode cX7_countKept 26 = .ok (.iinc 2 1, 3) := by decide +kernel
theorem dX7_countKept_29 : decode cX7_countKept 29 = .ok (.goto (-25), 3) := by decide +kernel
theorem dX7_countKept_32 : decode cX7_countKept 32 = .ok (.iload_n 1, 1) := by decide +kernel
theorem dX7_countKept_33 : decode cX7_countKept 33 = .ok (.ireturn, 1) := by decide +kernel
set_option maxRecDepth 20000 in
theorem ggX7_countPinned_X3_size : GoodIn wsX7_countPinned wsX3_size := goodIn_r _ [6, 7, 8, 9, 10, 11, 12, 13, 64, 65, 66, 67, 68, 69] (by decide +kernel) (by decide +kernel)
set_option maxRecDepth 20000 in
theorem gX7_countPinned_X3_size : GoodIn wsX7_countPinned (wsV RX7 148 RX3 yX3_size wsX3_size) := goodIn_app (goodIn_of _ (by decide +kernel)) ggX7_countPinned_X3_size
set_option maxRecDepth 20000 in
theorem ggX7_countPinned_X7_isPinned : GoodIn wsX7_countPinned wsX7_isPinned := goodIn_r _ [18, 19, 20, 21, 9, 10, 11, 12, 13, 22, 23, 24, 25, 26, 27, 28, 29, 30, 31, 32, 33, 34, 35, 36, 37, 38, 39, 40, 41, 42, 43, 44, 45, 46, 47, 48, 49, 50, 51, 52, 53, 54, 55, 56, 57, 58, 59, 60, 61, 62, 63, 67, 68, 69, 70, 71, 72, 73, 74, 75, 76, 77, 78, 79, 80, 81, 82, 83, 84, 85, 86, 87, 88, 89, 90, 91, 92, 93, 94, 95, 96, 97, 98, 99, 100, 101, 102, 103, 104, 105, 106, 107, 108, 109, 110, 111, 112, 113, 114, 115, 116, 117, 118, 119] (by decide +kernel) (by decide +kernel)
set_option maxRecDepth 20000 in
theorem gX7_countPinned_X7_isPinned : GoodIn wsX7_countPinned (wsV RX7 184 RX7 yX7_isPinned wsX7_isPinned) := goodIn_app (goodIn_of _ (by decide +kernel)) ggX7_countPinned_X7_isPinned
theorem dX7_countPinned_0 : decode cX7_countPinned 0 = .ok (.iconst 0, 1) := by decide +kernel
theorem dX7_countPinned_1 : decode cX7_countPinned 1 = .ok (.istore_n 1, 1) := by decide +kernel
theorem dX7_countPinned_2 : decode cX7_countPinned 2 = .ok (.iconst 0, 1) := by decide +kernel
theorem dX7_countPinned_3 : decode cX7_countPinned 3 = .ok (.istore_n 2, 1) := by decide +kernel
theorem dX7_countPinned_4 : decode cX7_countPinned 4 = .ok (.iload_n 2, 1) := by decide +kernel
theorem dX7_countPinned_5 : decode cX7_countPinned 5 = .ok (.aload_n 0, 1) := by decide +kernel
theorem dX7_countPinned_6 : decode cX7_countPinned 6 = .ok (.getfield 12, 3) := by decide +kernel
theorem dX7_countPinned_9 : decode cX7_countPinned 9 = .ok (.invokevirtual 148, 3) := by decide +kernel
theorem dX7_countPinned_12 : decode cX7_countPinned 12 = .ok (.if_icmp .ge 20, 3) := by decide +kernel
theorem dX7_countPinned_15 : decode cX7_countPinned 15 = .ok (.aload_n 0, 1) := by decide +kernel
theorem dX7_countPinned_16 : decode cX7_countPinned 16 = .ok (.iload_n 2, 1) := by decide +kernel
theorem dX7_countPinned_17 : decode cX7_countPinned 17 = .ok (.invokevirtual 184, 3) := by decide +kernel
theorem dX7_countPinned_20 : decode cX7_countPinned 20 = .ok (.ifCond .eq 6, 3) := by decide +kernel
theorem dX7_countPinned_23 : decode cX7_countPinned 23 = .ok (.iinc 1 1, 3) := by decide +kernel
theorem dX7_countPinned_26 : decode cX7_countPinned 26 = .ok (.iinc 2 1, 3) := by decide +kernel
theorem dX7_countPinned_29 : decode cX7_countPinned 29 = .ok (.goto (-25), 3) := by decide +kernel
theorem dX7_countPinned_32 : decode cX7_countPinned 32 = .ok (.iload_n 1, 1) := by decide +kernel
theorem dX7_countPinned_33 : decode cX7_countPinned 33 = .ok (.ireturn, 1) := by decide +kernel
theorem dX8_init_0 : decode cX8_init 0 = .ok (.aload_n 0, 1) := by decide +kernel
theorem dX8_init_1 : decode cX8_init 1 = .ok (.invokespecial 1, 3) := by decide +kernel
theorem dX8_init_4 : decode cX8_init 4 = .ok (.aload_n 0, 1) := by decide +kernel
theorem dX8_init_5 : decode cX8_init 5 = .ok (.sipush 640, 3) := by decide +kernel
theorem dX8_init_8 : decode cX8_init 8 = .ok (.newarray .int, 2) := by decide +kernel
theorem dX8_init_10 : decode cX8_init 10 = .ok (.putfield 7, 3) := by decide +kernel
theorem dX8_init_13 : decode cX8_init 13 = .ok (.aload_n 0, 1) := by decide +kernel
theorem dX8_init_14 : decode cX8_init 14 = .ok (.iconst 1, 1) := by decide +kernel
theorem dX8_init_15 : decode cX8_init 15 = .ok (.putfield 13, 3) := by decide +kernel
theorem dX8_init_18 : decode cX8_init 18 = .ok (.aload_n 0, 1) := by decide +kernel
theorem dX8_init_19 : decode cX8_init 19 = .ok (.bipush 30, 2) := by decide +kernel
theorem dX8_init_21 : decode cX8_init 21 = .ok (.newarray .int, 2) := by decide +kernel
theorem dX8_init_23 : decode cX8_init 23 = .ok (.putfield 17, 3) := by decide +kernel
theorem dX8_init_26 : decode cX8_init 26 = .ok (.aload_n 0, 1) := by decide +kernel
theorem dX8_init_27 : decode cX8_init 27 = .ok (.bipush 30, 2) := by decide +kernel
theorem dX8_init_29 : decode cX8_init 29 = .ok (.newarray .int, 2) := by decide +kernel
theorem dX8_init_31 : decode cX8_init 31 = .ok (.putfield 20, 3) := by decide +kernel
theorem dX8_init_34 : decode cX8_init 34 = .ok (.aload_n 0, 1) := by decide +kernel
theorem dX8_init_35 : decode cX8_init 35 = .ok (.bipush 30, 2) := by decide +kernel
theorem dX8_init_37 : decode cX8_init 37 = .ok (.newarray .int, 2) := by decide +kernel
theorem dX8_init_39 : decode cX8_init 39 = .ok (.putfield 23, 3) := by decide +kernel
theorem dX8_init_42 : decode cX8_init 42 = .ok (.aload_n 0, 1) := by decide +kernel
theorem dX8_init_43 : decode cX8_init 43 = .ok (.bipush 30, 2) := by decide +kernel
theorem dX8_init_45 : decode cX8_init 45 = .ok (.newarray .int, 2) := by decide +kernel
theorem dX8_init_47 : decode cX8_init 47 = .ok (.putfield 26, 3) := by decide +kernel
theorem dX8_init_50 : decode cX8_init 50 = .ok (.aload_n 0, 1) := by decide +kernel
theorem dX8_init_51 : decode cX8_init 51 = .ok (.bipush 30, 2) := by decide +kernel
theorem dX8_init_53 : decode cX8_init 53 = .ok (.newarray .int, 2) := by decide +kernel
theorem dX8_init_55 : decode cX8_init 55 = .ok (.putfield 29, 3) := by decide +kernel
theorem dX8_init_58 : decode cX8_init 58 = .ok (.aload_n 0, 1) := by decide +kernel
theorem dX8_init_59 : decode cX8_init 59 = .ok (.bipush 30, 2) := by decide +kernel
theorem dX8_init_61 : decode cX8_init 61 = .ok (.newarray .int, 2) := by decide +kernel
theorem dX8_init_63 : decode cX8_init 63 = .ok (.putfield 32, 3) := by decide +kernel
theorem dX8_init_66 : decode cX8_init 66 = .ok (.aload_n 0, 1) := by decide +kernel
theorem dX8_init_67 : decode cX8_init 67 = .ok (.bipush 30, 2) := by decide +kernel
theorem dX8_init_69 : decode cX8_init 69 = .ok (.newarray .int, 2) := by decide +kernel
theorem dX8_init_71 : decode cX8_init 71 = .ok (.putfield 35, 3) := by decide +kernel
theorem dX8_init_74 : decode cX8_init 74 = .ok (.aload_n 0, 1) := by decide +kernel
theorem dX8_init_75 : decode cX8_init 75 = .ok (.bipush 30, 2) := by decide +kernel
theorem dX8_init_77 : decode cX8_init 77 = .ok (.newarray .int, 2) := by decide +kernel
theorem dX8_init_79 : decode cX8_init 79 = .ok (.putfield 38, 3) := by decide +kernel
theorem dX8_init_82 : decode cX8_init 82 = .ok (.aload_n 0, 1) := by decide +kernel
theorem dX8_init_83 : decode cX8_init 83 = .ok (.bipush 30, 2) := by decide +kernel
theorem dX8_init_85 : decode cX8_init 85 = .ok (.newarray .int, 2) := by decide +kernel
theorem dX8_init_87 : decode cX8_init 87 = .ok (.putfield 41, 3) := by decide +kernel
theorem dX8_init_90 : decode cX8_init 90 = .ok (.aload_n 0, 1) := by decide +kernel
theorem dX8_init_91 : decode cX8_init 91 = .ok (.bipush 30, 2) := by decide +kernel
theorem dX8_init_93 : decode cX8_init 93 = .ok (.newarray .boolean, 2) := by decide +kernel
theorem dX8_init_95 : decode cX8_init 95 = .ok (.putfield 44, 3) := by decide +kernel
theorem dX8_init_98 : decode cX8_init 98 = .ok (.aload_n 0, 1) := by decide +kernel
theorem dX8_init_99 : decode cX8_init 99 = .ok (.sipush 480, 3) := by decide +kernel
theorem dX8_init_102 : decode cX8_init 102 = .ok (.newarray .int, 2) := by decide +kernel
theorem dX8_init_104 : decode cX8_init 104 = .ok (.putfield 48, 3) := by decide +kernel
theorem dX8_init_107 : decode cX8_init 107 = .ok (.aload_n 0, 1) := by decide +kernel
theorem dX8_init_108 : decode cX8_init 108 = .ok (.bipush 16, 2) := by decide +kernel
theorem dX8_init_110 : decode cX8_init 110 = .ok (.newarray .int, 2) := by decide +kernel
theorem dX8_init_112 : decode cX8_init 112 = .ok (.putfield 51, 3) := by decide +kernel
theorem dX8_init_115 : decode cX8_init 115 = .ok (.aload_n 0, 1) := by decide +kernel
theorem dX8_init_116 : decode cX8_init 116 = .ok (.bipush 30, 2) := by decide +kernel
theorem dX8_init_118 : decode cX8_init 118 = .ok (.newarray .int, 2) := by decide +kernel
theorem dX8_init_120 : decode cX8_init 120 = .ok (.putfield 54, 3) := by decide +kernel
theorem dX8_init_123 : decode cX8_init 123 = .ok (.aload_n 0, 1) := by decide +kernel
theorem dX8_init_124 : decode cX8_init 124 = .ok (.bipush 30, 2) := by decide +kernel
theorem dX8_init_126 : decode cX8_init 126 = .ok (.newarray .int, 2) := by decide +kernel
theorem dX8_init_128 : decode cX8_init 128 = .ok (.putfield 57, 3) := by decide +kernel
theorem dX8_init_131 : decode cX8_init 131 = .ok (.aload_n 0, 1) := by decide +kernel
theorem dX8_init_132 : decode cX8_init 132 = .ok (.bipush 30, 2) := by decide +kernel
theorem dX8_init_134 : decode cX8_init 134 = .ok (.newarray .int, 2) := by decide +kernel
theorem dX8_init_136 : decode cX8_init 136 = .ok (.putfield 60, 3) := by decide +kernel
theorem dX8_init_139 : decode cX8_init 139 = .ok (.return_, 1) := by decide +kernel
theorem dX8_in_0 : decode cX8_in 0 = .ok (.iload_n 0, 1) := by decide +kernel
theorem dX8_in_1 : decode cX8_in 1 = .ok (.iload_n 1, 1) := by decide +kernel
theorem dX8_in_2 : decode cX8_in 2 = .ok (.if_icmp .lt 12, 3) := by decide +kernel
theorem dX8_in_5 : decode cX8_in 5 = .ok (.iload_n 0, 1) := by decide +kernel
theorem dX8_in_6 : decode cX8_in 6 = .ok (.iload_n 2, 1) := by decide +kernel
theorem dX8_in_7 : decode cX8_in 7 = .ok (.if_icmp .gt 7, 3) := by decide +kernel
theorem dX8_in_10 : decode cX8_in 10 = .ok (.iconst 1, 1) := by decide +kernel
theorem dX8_in_11 : decode cX8_in 11 = .ok (.goto 4, 3) := by decide +kernel
theorem dX8_in_14 : decode cX8_in 14 = .ok (.iconst 0, 1) := by decide +kernel
theorem dX8_in_15 : decode cX8_in 15 = .ok (.ireturn, 1) := by decide +kernel
set_option maxRecDepth 20000 in
theorem ggX8_put_X8_in : GoodIn wsX8_put wsX8_in := goodIn_r _ [6] (by decide +kernel) (by decide +kernel)
set_option maxRecDepth 20000 in
theorem gX8_put_X8_in : GoodIn wsX8_put (va_wsS RX8 63 yX8_in wsX8_in) := goodIn_app (goodIn_of _ (by decide +kernel)) ggX8_put_X8_in
theorem dX8_put_0 : decode cX8_put 0 = .ok (.iload_n 1, 1) := by decide +kernel
theorem dX8_put_1 : decode cX8_put 1 = .ok (.iconst 0, 1) := by decide +kernel
theorem dX8_put_2 : decode cX8_put 2 = .ok (.bipush 15, 2) := by decide +kernel
theorem dX8_put_4 : decode cX8_put 4 = .ok (.invokestatic 63, 3) := by decide +kernel
theorem dX8_put_7 : decode cX8_put 7 = .ok (.ifCond .ne 5, 3) := by decide +kernel
theorem dX8_put_10 : decode cX8_put 10 = .ok (.iconst (-1), 1) := by decide +kernel
theorem dX8_put_11 : decode cX8_put 11 = .ok (.ireturn, 1) := by decide +kernel
theorem dX8_put_12 : decode cX8_put 12 = .ok (.aload_n 0, 1) := by decide +kernel
theorem dX8_put_13 : decode cX8_put 13 = .ok (.getfield 67, 3) := by decide +kernel
theorem dX8_put_16 : decode cX8_put 16 = .ok (.ifCond .le 6, 3) := by decide +kernel
theorem dX8_put_19 : decode cX8_put 19 = .ok (.bipush (-2), 2) := by decide +kernel
theorem dX8_put_21 : decode cX8_put 21 = .ok (.ireturn, 1) := by decide +kernel
theorem dX8_put_22 : decode cX8_put 22 = .ok (.aload_n 0, 1) := by decide +kernel
theorem dX8_put_23 : decode cX8_put 23 = .ok (.getfield 7, 3) := by decide +kernel
theorem dX8_put_26 : decode cX8_put 26 = .ok (.iload_n 1, 1) := by decide +kernel
theorem dX8_put_27 : decode cX8_put 27 = .ok (.iload_n 2, 1) := by decide +kernel
theorem dX8_put_28 : decode cX8_put 28 = .ok (.iastore, 1) := by decide +kernel
theorem dX8_put_29 : decode cX8_put 29 = .ok (.iconst 1, 1) := by decide +kernel
theorem dX8_put_30 : decode cX8_put 30 = .ok (.ireturn, 1) := by decide +kernel
theorem dX8_begin_0 : decode cX8_begin 0 = .ok (.aload_n 0, 1) := by decide +kernel
theorem dX8_begin_1 : decode cX8_begin 1 = .ok (.getfield 70, 3) := by decide +kernel
theorem dX8_begin_4 : decode cX8_begin 4 = .ok (.ifCond .eq 6, 3) := by decide +kernel
theorem dX8_begin_7 : decode cX8_begin 7 = .ok (.bipush (-2), 2) := by decide +kernel
theorem dX8_begin_9 : decode cX8_begin 9 = .ok (.ireturn, 1) := by decide +kernel
theorem dX8_begin_10 : decode cX8_begin 10 = .ok (.aload_n 0, 1) := by decide +kernel
theorem dX8_begin_11 : decode cX8_begin 11 = .ok (.getfield 67, 3) := by decide +kernel
theorem dX8_begin_14 : decode cX8_begin 14 = .ok (.bipush 30, 2) := by decide +kernel
theorem dX8_begin_16 : decode cX8_begin 16 = .ok (.if_icmp .ne 6, 3) := by decide +kernel
theorem dX8_begin_19 : decode cX8_begin 19 = .ok (.bipush (-3), 2) := by decide +kernel
theorem dX8_begin_21 : decode cX8_begin 21 = .ok (.ireturn, 1) := by decide +kernel
theorem dX8_begin_22 : decode cX8_begin 22 = .ok (.aload_n 0, 1) := by decide +kernel
theorem dX8_begin_23 : decode cX8_begin 23 = .ok (.getfield 67, 3) := by decide +kernel
theorem dX8_begin_26 : decode cX8_begin 26 = .ok (.istore 6, 2) := by decide +kernel
theorem dX8_begin_28 : decode cX8_begin 28 = .ok (.aload_n 0, 1) := by decide +kernel
theorem dX8_begin_29 : decode cX8_begin 29 = .ok (.getfield 17, 3) := by decide +kernel
theorem dX8_begin_32 : decode cX8_begin 32 = .ok (.iload 6, 2) := by decide +kernel
theorem dX8_begin_34 : decode cX8_begin 34 = .ok (.iload_n 1, 1) := by decide +kernel
theorem dX8_begin_35 : decode cX8_begin 35 = .ok (.iastore, 1) := by decide +kernel
theorem dX8_begin_36 : decode cX8_begin 36 = .ok (.aload_n 0, 1) := by decide +kernel
theorem dX8_begin_37 : decode cX8_begin 37 = .ok (.getfield 20, 3) := by decide +kernel
theorem dX8_begin_40 : decode cX8_begin 40 = .ok (.iload 6, 2) := by decide +kernel
theorem dX8_begin_42 : decode cX8_begin 42 = .ok (.iload_n 2, 1) := by decide +kernel
theorem dX8_begin_43 : decode cX8_begin 43 = .ok (.iastore, 1) := by decide +kernel
theorem dX8_begin_44 : decode cX8_begin 44 = .ok (.aload_n 0, 1) := by decide +kernel
theorem dX8_begin_45 : decode cX8_begin 45 = .ok (.getfield 23, 3) := by decide +kernel
theorem dX8_begin_48 : decode cX8_begin 48 = .ok (.iload 6, 2) := by decide +kernel
theorem dX8_begin_50 : decode cX8_begin 50 = .ok (.iload_n 3, 1) := by decide +kernel
theorem dX8_begin_51 : decode cX8_begin 51 = .ok (.iastore, 1) := by decide +kernel
theorem dX8_begin_52 : decode cX8_begin 52 = .ok (.aload_n 0, 1) := by decide +kernel
theorem dX8_begin_53 : decode cX8_begin 53 = .ok (.getfield 26, 3) := by decide +kernel
theorem dX8_begin_56 : decode cX8_begin 56 = .ok (.iload 6, 2) := by decide +kernel
theorem dX8_begin_58 : decode cX8_begin 58 = .ok (.iload 4, 2) := by decide +kernel
theorem dX8_begin_60 : decode cX8_begin 60 = .ok (.iastore, 1) := by decide +kernel
theorem dX8_begin_61 : decode cX8_begin 61 = .ok (.aload_n 0, 1) := by decide +kernel
theorem dX8_begin_62 : decode cX8_begin 62 = .ok (.getfield 29, 3) := by decide +kernel
theorem dX8_begin_65 : decode cX8_begin 65 = .ok (.iload 6, 2) := by decide +kernel
theorem dX8_begin_67 : decode cX8_begin 67 = .ok (.iload 5, 2) := by decide +kernel
theorem dX8_begin_69 : decode cX8_begin 69 = .ok (.iastore, 1) := by decide +kernel
theorem dX8_begin_70 : decode cX8_begin 70 = .ok (.aload_n 0, 1) := by decide +kernel
theorem dX8_begin_71 : decode cX8_begin 71 = .ok (.getfield 38, 3) := by decide +kernel
theorem dX8_begin_74 : decode cX8_begin 74 = .ok (.iload 6, 2) := by decide +kernel
theorem dX8_begin_76 : decode cX8_begin 76 = .ok (.iload_n 1, 1) := by decide +kernel
theorem dX8_begin_77 : decode cX8_begin 77 = .ok (.ifCond .eq 8, 3) := by decide +kernel
theorem dX8_begin_80 : decode cX8_begin 80 = .ok (.iload_n 1, 1) := by decide +kernel
theorem dX8_begin_81 : decode cX8_begin 81 = .ok (.iconst 3, 1) := by decide +kernel
theorem dX8_begin_82 : decode cX8_begin 82 = .ok (.if_icmp .ne 12, 3) := by decide +kernel
theorem dX8_begin_85 : decode cX8_begin 85 = .ok (.aload_n 0, 1) := by decide +kernel
theorem dX8_begin_86 : decode cX8_begin 86 = .ok (.getfield 13, 3) := by decide +kernel
theorem dX8_begin_89 : decode cX8_begin 89 = .ok (.iconst 1, 1) := by decide +kernel
theorem dX8_begin_90 : decode cX8_begin 90 = .ok (.isub, 1) := by decide +kernel
theorem dX8_begin_91 : decode cX8_begin 91 = .ok (.goto 4, 3) := by decide +kernel
theorem dX8_begin_94 : decode cX8_begin 94 = .ok (.iconst (-1), 1) := by decide +kernel
theorem dX8_begin_95 : decode cX8_begin 95 = .ok (.iastore, 1) := by decide +kernel
theorem dX8_begin_96 : decode cX8_begin 96 = .ok (.aload_n 0, 1) := by decide +kernel
theorem dX8_begin_97 : decode cX8_begin 97 = .ok (.dup, 1) := by decide +kernel
theorem dX8_begin_98 : decode cX8_begin 98 = .ok (.getfield 67, 3) := by decide +kernel
theorem dX8_begin_101 : decode cX8_begin 101 = .ok (.iconst 1, 1) := by decide +kernel
theorem dX8_begin_102 : decode cX8_begin 102 = .ok (.iadd, 1) := by decide +kernel
theorem dX8_begin_103 : decode cX8_begin 103 = .ok (.putfield 67, 3) := by decide +kernel
theorem dX8_begin_106 : decode cX8_begin 106 = .ok (.iload 6, 2) := by decide +kernel
theorem dX8_begin_108 : decode cX8_begin 108 = .ok (.ireturn, 1) := by decide +kernel
set_option maxRecDepth 20000 in
theorem ggX8_question_X8_in : GoodIn wsX8_question wsX8_in := goodIn_r _ [4] (by decide +kernel) (by decide +kernel)
set_option maxRecDepth 20000 in
theorem gX8_question_X8_in : GoodIn wsX8_question (va_wsS RX8 63 yX8_in wsX8_in) := goodIn_app (goodIn_of _ (by decide +kernel)) ggX8_question_X8_in
set_option maxRecDepth 20000 in
theorem ggX8_question_X8_begin : GoodIn wsX8_question wsX8_begin := goodIn_r _ [8, 9, 10, 11, 12, 13, 14, 15, 16, 17, 18, 19, 20, 21, 22, 23, 24, 25, 26, 27, 28, 29, 30, 31, 32, 33, 34, 35, 36, 37, 38, 39] (by decide +kernel) (by decide +kernel)
set_option maxRecDepth 20000 in
theorem gX8_question_X8_begin : GoodIn wsX8_question (wsV RX8 74 RX8 yX8_begin wsX8_begin) := goodIn_app (goodIn_of _ (by decide +kernel)) ggX8_question_X8_begin
theorem dX8_question_0 : decode cX8_question 0 = .ok (.iload_n 1, 1) := by decide +kernel
theorem dX8_question_1 : decode cX8_question 1 = .ok (.iconst 1, 1) := by decide +kernel
theorem dX8_question_2 : decode cX8_question 2 = .ok (.bipush 20, 2) := by decide +kernel
theorem dX8_question_4 : decode cX8_question 4 = .ok (.invokestatic 63, 3) := by decide +kernel
theorem dX8_question_7 : decode cX8_question 7 = .ok (.ifCond .eq 23, 3) := by decide +kernel
theorem dX8_question_10 : decode cX8_question 10 = .ok (.iload_n 2, 1) := by decide +kernel
theorem dX8_question_11 : decode cX8_question 11 = .ok (.iconst 0, 1) := by decide +kernel
theorem dX8_question_12 : decode cX8_question 12 = .ok (.bipush 30, 2) := by decide +kernel
theorem dX8_question_14 : decode cX8_question 14 = .ok (.invokestatic 63, 3) := by decide +kernel
theorem dX8_question_17 : decode cX8_question 17 = .ok (.ifCond .eq 13, 3) := by decide +kernel
theorem dX8_question_20 : decode cX8_question 20 = .ok (.iload_n 3, 1) := by decide +kernel
theorem dX8_question_21 : decode cX8_question 21 = .ok (.iconst 0, 1) := by decide +kernel
theorem dX8_question_22 : decode cX8_question 22 = .ok (.bipush 15, 2) := by decide +kernel
theorem dX8_question_24 : decode cX8_question 24 = .ok (.invokestatic 63, 3) := by decide +kernel
theorem dX8_question_27 : decode cX8_question 27 = .ok (.ifCond .ne 7, 3) := by decide +kernel
theorem dX8_question_30 : decode cX8_question 30 = .ok (.iconst (-1), 1) := by decide +kernel
theorem dX8_question_31 : decode cX8_question 31 = .ok (.goto 12, 3) := by decide +kernel
theorem dX8_question_34 : decode cX8_question 34 = .ok (.aload_n 0, 1) := by decide +kernel
theorem dX8_question_35 : decode cX8_question 35 = .ok (.iconst 0, 1) := by decide +kernel
theorem dX8_question_36 : decode cX8_question 36 = .ok (.iload_n 1, 1) := by decide +kernel
theorem dX8_question_37 : decode cX8_question 37 = .ok (.iload_n 2, 1) := by decide +kernel
theorem dX8_question_38 : decode cX8_question 38 = .ok (.iload_n 3, 1) := by decide +kernel
theorem dX8_question_39 : decode cX8_question 39 = .ok (.iconst 0, 1) := by decide +kernel
theorem dX8_question_40 : decode cX8_question 40 = .ok (.invokevirtual 74, 3) := by decide +kernel
theorem dX8_question_43 : decode cX8_question 43 = .ok (.ireturn, 1) := by decide +kernel
set_option maxRecDepth 20000 in
theorem ggX8_writer_X8_in : GoodIn wsX8_writer wsX8_in := goodIn_r _ [4] (by decide +kernel) (by decide +kernel)
set_option maxRecDepth 20000 in
theorem gX8_writer_X8_in : GoodIn wsX8_writer (va_wsS RX8 63 yX8_in wsX8_in) := goodIn_app (goodIn_of _ (by decide +kernel)) ggX8_writer_X8_in
set_option maxRecDepth 20000 in
theorem ggX8_writer_X8_begin : GoodIn wsX8_writer wsX8_begin := goodIn_r _ [8, 9, 10, 11, 12, 13, 14, 15, 16, 17, 18, 19, 20, 21, 22, 23, 24, 25, 26, 27, 28, 29, 30, 31, 32, 33, 34, 35, 36, 37, 38, 39] (by decide +kernel) (by decide +kernel)
set_option maxRecDepth 20000 in
theorem gX8_writer_X8_begin : GoodIn wsX8_writer (wsV RX8 74 RX8 yX8_begin wsX8_begin) := goodIn_app (goodIn_of _ (by decide +kernel)) ggX8_writer_X8_begin
theorem dX8_writer_0 : decode cX8_writer 0 = .ok (.iload_n 1, 1) := by decide +kernel
theorem dX8_writer_1 : decode cX8_writer 1 = .ok (.iconst 1, 1) := by decide +kernel
theorem dX8_writer_2 : decode cX8_writer 2 = .ok (.bipush 20, 2) := by decide +kernel
theorem dX8_writer_4 : decode cX8_writer 4 = .ok (.invokestatic 63, 3) := by decide +kernel
theorem dX8_writer_7 : decode cX8_writer 7 = .ok (.ifCond .eq 23, 3) := by decide +kernel
theorem dX8_writer_10 : decode cX8_writer 10 = .ok (.iload_n 2, 1) := by decide +kernel
theorem dX8_writer_11 : decode cX8_writer 11 = .ok (.iconst 0, 1) := by decide +kernel
theorem dX8_writer_12 : decode cX8_writer 12 = .ok (.bipush 30, 2) := by decide +kernel
theorem dX8_writer_14 : decode cX8_writer 14 = .ok (.invokestatic 63, 3) := by decide +kernel
theorem dX8_writer_17 : decode cX8_writer 17 = .ok (.ifCond .eq 13, 3) := by decide +kernel
theorem dX8_writer_20 : decode cX8_writer 20 = .ok (.iload_n 3, 1) := by decide +kernel
theorem dX8_writer_21 : decode cX8_writer 21 = .ok (.iconst 0, 1) := by decide +kernel
theorem dX8_writer_22 : decode cX8_writer 22 = .ok (.bipush 15, 2) := by decide +kernel
theorem dX8_writer_24 : decode cX8_writer 24 = .ok (.invokestatic 63, 3) := by decide +kernel
theorem dX8_writer_27 : decode cX8_writer 27 = .ok (.ifCond .ne 7, 3) := by decide +kernel
theorem dX8_writer_30 : decode cX8_writer 30 = .ok (.iconst (-1), 1) := by decide +kernel
theorem dX8_writer_31 : decode cX8_writer 31 = .ok (.goto 13, 3) := by decide +kernel
theorem dX8_writer_34 : decode cX8_writer 34 = .ok (.aload_n 0, 1) := by decide +kernel
theorem dX8_writer_35 : decode cX8_writer 35 = .ok (.iconst 1, 1) := by decide +kernel
theorem dX8_writer_36 : decode cX8_writer 36 = .ok (.iload_n 1, 1) := by decide +kernel
theorem dX8_writer_37 : decode cX8_writer 37 = .ok (.iload_n 2, 1) := by decide +kernel
theorem dX8_writer_38 : decode cX8_writer 38 = .ok (.iload_n 3, 1) := by decide +kernel
theorem dX8_writer_39 : decode cX8_writer 39 = .ok (.iload 4, 2) := by decide +kernel
theorem dX8_writer_41 : decode cX8_writer 41 = .ok (.invokevirtual 74, 3) := by decide +kernel
theorem dX8_writer_44 : decode cX8_writer 44 = .ok (.ireturn, 1) := by decide +kernel
set_option maxRecDepth 20000 in
theorem ggX8_reason_X8_in : GoodIn wsX8_reason wsX8_in := goodIn_r _ [4] (by decide +kernel) (by decide +kernel)
set_option maxRecDepth 20000 in
theorem gX8_reason_X8_in : GoodIn wsX8_reason (va_wsS RX8 63 yX8_in wsX8_in) := goodIn_app (goodIn_of _ (by decide +kernel)) ggX8_reason_X8_in
set_option maxRecDepth 20000 in
theorem ggX8_reason_X8_begin : GoodIn wsX8_reason wsX8_begin := goodIn_r _ [8, 9, 10, 11, 12, 13, 14, 15, 16, 17, 18, 19, 20, 21, 22, 23, 24, 25, 26, 27, 28, 29, 30, 31, 32, 33, 34, 35, 36, 37, 38, 39] (by decide +kernel) (by decide +kernel)
set_option maxRecDepth 20000 in
theorem gX8_reason_X8_begin : GoodIn wsX8_reason (wsV RX8 74 RX8 yX8_begin wsX8_begin) := goodIn_app (goodIn_of _ (by decide +kernel)) ggX8_reason_X8_begin
theorem dX8_reason_0 : decode cX8_reason 0 = .ok (.iload_n 1, 1) := by decide +kernel
theorem dX8_reason_1 : decode cX8_reason 1 = .ok (.iconst 1, 1) := by decide +kernel
theorem dX8_reason_2 : decode cX8_reason 2 = .ok (.bipush 20, 2) := by decide +kernel
theorem dX8_reason_4 : decode cX8_reason 4 = .ok (.invokestatic 63, 3) := by decide +kernel
theorem dX8_reason_7 : decode cX8_reason 7 = .ok (.ifCond .eq 13, 3) := by decide +kernel
theorem dX8_reason_10 : decode cX8_reason 10 = .ok (.iload_n 2, 1) := by decide +kernel
theorem dX8_reason_11 : decode cX8_reason 11 = .ok (.iconst 0, 1) := by decide +kernel
theorem dX8_reason_12 : decode cX8_reason 12 = .ok (.bipush 30, 2) := by decide +kernel
theorem dX8_reason_14 : decode cX8_reason 14 = .ok (.invokestatic 63, 3) := by decide +kernel
theorem dX8_reason_17 : decode cX8_reason 17 = .ok (.ifCond .ne 7, 3) := by decide +kernel
theorem dX8_reason_20 : decode cX8_reason 20 = .ok (.iconst (-1), 1) := by decide +kernel
theorem dX8_reason_21 : decode cX8_reason 21 = .ok (.goto 12, 3) := by decide +kernel
theorem dX8_reason_24 : decode cX8_reason 24 = .ok (.aload_n 0, 1) := by decide +kernel
theorem dX8_reason_25 : decode cX8_reason 25 = .ok (.iconst 2, 1) := by decide +kernel
theorem dX8_reason_26 : decode cX8_reason 26 = .ok (.iload_n 1, 1) := by decide +kernel
theorem dX8_reason_27 : decode cX8_reason 27 = .ok (.iload_n 2, 1) := by decide +kernel
theorem dX8_reason_28 : decode cX8_reason 28 = .ok (.iconst 0, 1) := by decide +kernel
theorem dX8_reason_29 : decode cX8_reason 29 = .ok (.iconst 0, 1) := by decide +kernel
theorem dX8_reason_30 : decode cX8_reason 30 = .ok (.invokevirtual 74, 3) := by decide +kernel
theorem dX8_reason_33 : decode cX8_reason 33 = .ok (.ireturn, 1) := by decide +kernel
set_option maxRecDepth 20000 in
theorem ggX8_stream_X8_begin : GoodIn wsX8_stream wsX8_begin := goodIn_r _ [5, 6, 7, 8, 9, 10, 11, 12, 13, 14, 15, 16, 17, 18, 19, 20, 21, 22, 23, 24, 25, 26, 27, 28, 29, 30, 31, 32, 33, 34, 35, 36] (by decide +kernel) (by decide +kernel)
set_option maxRecDepth 20000 in
theorem gX8_stream_X8_begin : GoodIn wsX8_stream (wsV RX8 74 RX8 yX8_begin wsX8_begin) := goodIn_app (goodIn_of _ (by decide +kernel)) ggX8_stream_X8_begin
theorem dX8_stream_0 : decode cX8_stream 0 = .ok (.aload_n 0, 1) := by decide +kernel
theorem dX8_stream_1 : decode cX8_stream 1 = .ok (.iconst 3, 1) := by decide +kernel
theorem dX8_stream_2 : decode cX8_stream 2 = .ok (.iconst 0, 1) := by decide +kernel
theorem dX8_stream_3 : decode cX8_stream 3 = .ok (.iconst 0, 1) := by decide +kernel
theorem dX8_stream_4 : decode cX8_stream 4 = .ok (.iconst 0, 1) := by decide +kernel
theorem dX8_stream_5 : decode cX8_stream 5 = .ok (.iconst 0, 1) := by decide +kernel
theorem dX8_stream_6 : decode cX8_stream 6 = .ok (.invokevirtual 74, 3) := by decide +kernel
theorem dX8_stream_9 : decode cX8_stream 9 = .ok (.ireturn, 1) := by decide +kernel
theorem dX8_isNext_0 : decode cX8_isNext 0 = .ok (.iconst 1, 1) := by decide +kernel
theorem dX8_isNext_1 : decode cX8_isNext 1 = .ok (.istore_n 2, 1) := by decide +kernel
theorem dX8_isNext_2 : decode cX8_isNext 2 = .ok (.iconst 0, 1) := by decide +kernel
theorem dX8_isNext_3 : decode cX8_isNext 3 = .ok (.istore_n 3, 1) := by decide +kernel
theorem dX8_isNext_4 : decode cX8_isNext 4 = .ok (.iload_n 3, 1) := by decide +kernel
theorem dX8_isNext_5 : decode cX8_isNext 5 = .ok (.iload_n 1, 1) := by decide +kernel
theorem dX8_isNext_6 : decode cX8_isNext 6 = .ok (.if_icmp .ge 47, 3) := by decide +kernel
theorem dX8_isNext_9 : decode cX8_isNext 9 = .ok (.iload_n 2, 1) := by decide +kernel
theorem dX8_isNext_10 : decode cX8_isNext 10 = .ok (.ifCond .eq 35, 3) := by decide +kernel
theorem dX8_isNext_13 : decode cX8_isNext 13 = .ok (.aload_n 0, 1) := by decide +kernel
theorem dX8_isNext_14 : decode cX8_isNext 14 = .ok (.getfield 41, 3) := by decide +kernel
theorem dX8_isNext_17 : decode cX8_isNext 17 = .ok (.iload_n 3, 1) := by decide +kernel
theorem dX8_isNext_18 : decode cX8_isNext 18 = .ok (.iaload, 1) := by decide +kernel
theorem dX8_isNext_19 : decode cX8_isNext 19 = .ok (.ifCond .gt 22, 3) := by decide +kernel
theorem dX8_isNext_22 : decode cX8_isNext 22 = .ok (.aload_n 0, 1) := by decide +kernel
theorem dX8_isNext_23 : decode cX8_isNext 23 = .ok (.getfield 17, 3) := by decide +kernel
theorem dX8_isNext_26 : decode cX8_isNext 26 = .ok (.iload_n 3, 1) := by decide +kernel
theorem dX8_isNext_27 : decode cX8_isNext 27 = .ok (.iaload, 1) := by decide +kernel
theorem dX8_isNext_28 : decode cX8_isNext 28 = .ok (.ifCond .eq 13, 3) := by decide +kernel
theorem dX8_isNext_31 : decode cX8_isNext 31 = .ok (.aload_n 0, 1) := by decide +kernel
theorem dX8_isNext_32 : decode cX8_isNext 32 = .ok (.getfield 17, 3) := by decide +kernel
end
section
theorem dX8_isNext_35 : decode cX8_isNext 35 = .ok (.iload_n 3, 1) := by decide +kernel
theorem dX8_isNext_36 : decode cX8_isNext 36 = .ok (.iaload, 1) := by decide +kernel
theorem dX8_isNext_37 : decode cX8_isNext 37 = .ok (.iconst 3, 1) := by decide +kernel
theorem dX8_isNext_38 : decode cX8_isNext 38 = .ok (.if_icmp .ne 7, 3) := by decide +kernel
theorem dX8_isNext_41 : decode cX8_isNext 41 = .ok (.iconst 1, 1) := by decide +kernel
theorem dX8_isNext_42 : decode cX8_isNext 42 = .ok (.goto 4, 3) := by decide +kernel
theorem dX8_isNext_45 : decode cX8_isNext 45 = .ok (.iconst 0, 1) := by decide +kernel
theorem dX8_isNext_46 : decode cX8_isNext 46 = .ok (.istore_n 2, 1) := by decide +kernel
theorem dX8_isNext_47 : decode cX8_isNext 47 = .ok (.iinc 3 1, 3) := by decide +kernel
theorem dX8_isNext_50 : decode cX8_isNext 50 = .ok (.goto (-46), 3) := by decide +kernel
theorem dX8_isNext_53 : decode cX8_isNext 53 = .ok (.iload_n 2, 1) := by decide +kernel
theorem dX8_isNext_54 : decode cX8_isNext 54 = .ok (.ireturn, 1) := by decide +kernel
set_option maxRecDepth 20000 in
theorem ggX8_waits_X8_isNext : GoodIn wsX8_waits wsX8_isNext := goodIn_r _ [12, 1, 3, 13, 14, 15, 16, 17, 18, 19, 20, 21, 22, 23, 24, 25, 26, 27, 28, 29, 30, 31, 32, 33, 34] (by decide +kernel) (by decide +kernel)
set_option maxRecDepth 20000 in
theorem gX8_waits_X8_isNext : GoodIn wsX8_waits (wsV RX8 78 RX8 yX8_isNext wsX8_isNext) := goodIn_app (goodIn_of _ (by decide +kernel)) ggX8_waits_X8_isNext
theorem dX8_waits_0 : decode cX8_waits 0 = .ok (.aload_n 0, 1) := by decide +kernel
theorem dX8_waits_1 : decode cX8_waits 1 = .ok (.getfield 41, 3) := by decide +kernel
theorem dX8_waits_4 : decode cX8_waits 4 = .ok (.iload_n 1, 1) := by decide +kernel
theorem dX8_waits_5 : decode cX8_waits 5 = .ok (.iaload, 1) := by decide +kernel
theorem dX8_waits_6 : decode cX8_waits 6 = .ok (.ifCond .le 5, 3) := by decide +kernel
theorem dX8_waits_9 : decode cX8_waits 9 = .ok (.iconst 1, 1) := by decide +kernel
theorem dX8_waits_10 : decode cX8_waits 10 = .ok (.ireturn, 1) := by decide +kernel
theorem dX8_waits_11 : decode cX8_waits 11 = .ok (.aload_n 0, 1) := by decide +kernel
theorem dX8_waits_12 : decode cX8_waits 12 = .ok (.getfield 44, 3) := by decide +kernel
theorem dX8_waits_15 : decode cX8_waits 15 = .ok (.iload_n 1, 1) := by decide +kernel
theorem dX8_waits_16 : decode cX8_waits 16 = .ok (.baload, 1) := by decide +kernel
theorem dX8_waits_17 : decode cX8_waits 17 = .ok (.ifCond .eq 5, 3) := by decide +kernel
theorem dX8_waits_20 : decode cX8_waits 20 = .ok (.iconst 0, 1) := by decide +kernel
theorem dX8_waits_21 : decode cX8_waits 21 = .ok (.ireturn, 1) := by decide +kernel
theorem dX8_waits_22 : decode cX8_waits 22 = .ok (.aload_n 0, 1) := by decide +kernel
theorem dX8_waits_23 : decode cX8_waits 23 = .ok (.getfield 17, 3) := by decide +kernel
theorem dX8_waits_26 : decode cX8_waits 26 = .ok (.iload_n 1, 1) := by decide +kernel
theorem dX8_waits_27 : decode cX8_waits 27 = .ok (.iaload, 1) := by decide +kernel
theorem dX8_waits_28 : decode cX8_waits 28 = .ok (.tableswitch 101 1 3 #[28, 57, 80], 28) := by decide +kernel
theorem dX8_waits_56 : decode cX8_waits 56 = .ok (.aload_n 0, 1) := by decide +kernel
theorem dX8_waits_57 : decode cX8_waits 57 = .ok (.getfield 32, 3) := by decide +kernel
theorem dX8_waits_60 : decode cX8_waits 60 = .ok (.iload_n 1, 1) := by decide +kernel
theorem dX8_waits_61 : decode cX8_waits 61 = .ok (.iaload, 1) := by decide +kernel
theorem dX8_waits_62 : decode cX8_waits 62 = .ok (.aload_n 0, 1) := by decide +kernel
theorem dX8_waits_63 : decode cX8_waits 63 = .ok (.getfield 20, 3) := by decide +kernel
theorem dX8_waits_66 : decode cX8_waits 66 = .ok (.iload_n 1, 1) := by decide +kernel
theorem dX8_waits_67 : decode cX8_waits 67 = .ok (.iaload, 1) := by decide +kernel
theorem dX8_waits_68 : decode cX8_waits 68 = .ok (.if_icmp .ne 15, 3) := by decide +kernel
theorem dX8_waits_71 : decode cX8_waits 71 = .ok (.aload_n 0, 1) := by decide +kernel
theorem dX8_waits_72 : decode cX8_waits 72 = .ok (.iload_n 1, 1) := by decide +kernel
theorem dX8_waits_73 : decode cX8_waits 73 = .ok (.invokevirtual 78, 3) := by decide +kernel
theorem dX8_waits_76 : decode cX8_waits 76 = .ok (.ifCond .ne 7, 3) := by decide +kernel
theorem dX8_waits_79 : decode cX8_waits 79 = .ok (.iconst 1, 1) := by decide +kernel
theorem dX8_waits_80 : decode cX8_waits 80 = .ok (.goto 4, 3) := by decide +kernel
theorem dX8_waits_83 : decode cX8_waits 83 = .ok (.iconst 0, 1) := by decide +kernel
theorem dX8_waits_84 : decode cX8_waits 84 = .ok (.ireturn, 1) := by decide +kernel
theorem dX8_waits_85 : decode cX8_waits 85 = .ok (.aload_n 0, 1) := by decide +kernel
theorem dX8_waits_86 : decode cX8_waits 86 = .ok (.getfield 32, 3) := by decide +kernel
theorem dX8_waits_89 : decode cX8_waits 89 = .ok (.iload_n 1, 1) := by decide +kernel
theorem dX8_waits_90 : decode cX8_waits 90 = .ok (.iaload, 1) := by decide +kernel
theorem dX8_waits_91 : decode cX8_waits 91 = .ok (.ifCond .ne 15, 3) := by decide +kernel
theorem dX8_waits_94 : decode cX8_waits 94 = .ok (.aload_n 0, 1) := by decide +kernel
theorem dX8_waits_95 : decode cX8_waits 95 = .ok (.iload_n 1, 1) := by decide +kernel
theorem dX8_waits_96 : decode cX8_waits 96 = .ok (.invokevirtual 78, 3) := by decide +kernel
theorem dX8_waits_99 : decode cX8_waits 99 = .ok (.ifCond .ne 7, 3) := by decide +kernel
theorem dX8_waits_102 : decode cX8_waits 102 = .ok (.iconst 1, 1) := by decide +kernel
theorem dX8_waits_103 : decode cX8_waits 103 = .ok (.goto 4, 3) := by decide +kernel
theorem dX8_waits_106 : decode cX8_waits 106 = .ok (.iconst 0, 1) := by decide +kernel
theorem dX8_waits_107 : decode cX8_waits 107 = .ok (.ireturn, 1) := by decide +kernel
theorem dX8_waits_108 : decode cX8_waits 108 = .ok (.aload_n 0, 1) := by decide +kernel
theorem dX8_waits_109 : decode cX8_waits 109 = .ok (.getfield 38, 3) := by decide +kernel
theorem dX8_waits_112 : decode cX8_waits 112 = .ok (.iload_n 1, 1) := by decide +kernel
theorem dX8_waits_113 : decode cX8_waits 113 = .ok (.iaload, 1) := by decide +kernel
theorem dX8_waits_114 : decode cX8_waits 114 = .ok (.aload_n 0, 1) := by decide +kernel
theorem dX8_waits_115 : decode cX8_waits 115 = .ok (.getfield 13, 3) := by decide +kernel
theorem dX8_waits_118 : decode cX8_waits 118 = .ok (.iconst 1, 1) := by decide +kernel
theorem dX8_waits_119 : decode cX8_waits 119 = .ok (.isub, 1) := by decide +kernel
theorem dX8_waits_120 : decode cX8_waits 120 = .ok (.if_icmp .ne 7, 3) := by decide +kernel
theorem dX8_waits_123 : decode cX8_waits 123 = .ok (.iconst 1, 1) := by decide +kernel
theorem dX8_waits_124 : decode cX8_waits 124 = .ok (.goto 4, 3) := by decide +kernel
theorem dX8_waits_127 : decode cX8_waits 127 = .ok (.iconst 0, 1) := by decide +kernel
theorem dX8_waits_128 : decode cX8_waits 128 = .ok (.ireturn, 1) := by decide +kernel
theorem dX8_waits_129 : decode cX8_waits 129 = .ok (.iconst 0, 1) := by decide +kernel
theorem dX8_waits_130 : decode cX8_waits 130 = .ok (.ireturn, 1) := by decide +kernel
theorem dX8_finish_0 : decode cX8_finish 0 = .ok (.aload_n 0, 1) := by decide +kernel
theorem dX8_finish_1 : decode cX8_finish 1 = .ok (.getfield 41, 3) := by decide +kernel
theorem dX8_finish_4 : decode cX8_finish 4 = .ok (.iload_n 1, 1) := by decide +kernel
theorem dX8_finish_5 : decode cX8_finish 5 = .ok (.iload_n 2, 1) := by decide +kernel
theorem dX8_finish_6 : decode cX8_finish 6 = .ok (.iastore, 1) := by decide +kernel
theorem dX8_finish_7 : decode cX8_finish 7 = .ok (.aload_n 0, 1) := by decide +kernel
theorem dX8_finish_8 : decode cX8_finish 8 = .ok (.getfield 54, 3) := by decide +kernel
theorem dX8_finish_11 : decode cX8_finish 11 = .ok (.aload_n 0, 1) := by decide +kernel
theorem dX8_finish_12 : decode cX8_finish 12 = .ok (.getfield 82, 3) := by decide +kernel
theorem dX8_finish_15 : decode cX8_finish 15 = .ok (.iload_n 1, 1) := by decide +kernel
theorem dX8_finish_16 : decode cX8_finish 16 = .ok (.iastore, 1) := by decide +kernel
theorem dX8_finish_17 : decode cX8_finish 17 = .ok (.aload_n 0, 1) := by decide +kernel
theorem dX8_finish_18 : decode cX8_finish 18 = .ok (.getfield 57, 3) := by decide +kernel
theorem dX8_finish_21 : decode cX8_finish 21 = .ok (.aload_n 0, 1) := by decide +kernel
theorem dX8_finish_22 : decode cX8_finish 22 = .ok (.getfield 82, 3) := by decide +kernel
theorem dX8_finish_25 : decode cX8_finish 25 = .ok (.iload_n 2, 1) := by decide +kernel
theorem dX8_finish_26 : decode cX8_finish 26 = .ok (.iastore, 1) := by decide +kernel
theorem dX8_finish_27 : decode cX8_finish 27 = .ok (.aload_n 0, 1) := by decide +kernel
theorem dX8_finish_28 : decode cX8_finish 28 = .ok (.getfield 60, 3) := by decide +kernel
theorem dX8_finish_31 : decode cX8_finish 31 = .ok (.aload_n 0, 1) := by decide +kernel
theorem dX8_finish_32 : decode cX8_finish 32 = .ok (.getfield 82, 3) := by decide +kernel
theorem dX8_finish_35 : decode cX8_finish 35 = .ok (.aload_n 0, 1) := by decide +kernel
theorem dX8_finish_36 : decode cX8_finish 36 = .ok (.getfield 85, 3) := by decide +kernel
theorem dX8_finish_39 : decode cX8_finish 39 = .ok (.iastore, 1) := by decide +kernel
theorem dX8_finish_40 : decode cX8_finish 40 = .ok (.aload_n 0, 1) := by decide +kernel
theorem dX8_finish_41 : decode cX8_finish 41 = .ok (.dup, 1) := by decide +kernel
theorem dX8_finish_42 : decode cX8_finish 42 = .ok (.getfield 82, 3) := by decide +kernel
theorem dX8_finish_45 : decode cX8_finish 45 = .ok (.iconst 1, 1) := by decide +kernel
theorem dX8_finish_46 : decode cX8_finish 46 = .ok (.iadd, 1) := by decide +kernel
theorem dX8_finish_47 : decode cX8_finish 47 = .ok (.putfield 82, 3) := by decide +kernel
theorem dX8_finish_50 : decode cX8_finish 50 = .ok (.return_, 1) := by decide +kernel
theorem dX8_commit_0 : decode cX8_commit 0 = .ok (.bipush 16, 2) := by decide +kernel
theorem dX8_commit_2 : decode cX8_commit 2 = .ok (.aload_n 0, 1) := by decide +kernel
theorem dX8_commit_3 : decode cX8_commit 3 = .ok (.getfield 13, 3) := by decide +kernel
theorem dX8_commit_6 : decode cX8_commit 6 = .ok (.imul, 1) := by decide +kernel
theorem dX8_commit_7 : decode cX8_commit 7 = .ok (.istore_n 2, 1) := by decide +kernel
theorem dX8_commit_8 : decode cX8_commit 8 = .ok (.iconst 0, 1) := by decide +kernel
theorem dX8_commit_9 : decode cX8_commit 9 = .ok (.istore_n 3, 1) := by decide +kernel
theorem dX8_commit_10 : decode cX8_commit 10 = .ok (.iload_n 3, 1) := by decide +kernel
theorem dX8_commit_11 : decode cX8_commit 11 = .ok (.bipush 16, 2) := by decide +kernel
theorem dX8_commit_13 : decode cX8_commit 13 = .ok (.if_icmp .ge 54, 3) := by decide +kernel
theorem dX8_commit_16 : decode cX8_commit 16 = .ok (.aload_n 0, 1) := by decide +kernel
theorem dX8_commit_17 : decode cX8_commit 17 = .ok (.getfield 7, 3) := by decide +kernel
theorem dX8_commit_20 : decode cX8_commit 20 = .ok (.iload_n 2, 1) := by decide +kernel
theorem dX8_commit_21 : decode cX8_commit 21 = .ok (.iload_n 3, 1) := by decide +kernel
theorem dX8_commit_22 : decode cX8_commit 22 = .ok (.iadd, 1) := by decide +kernel
theorem dX8_commit_23 : decode cX8_commit 23 = .ok (.aload_n 0, 1) := by decide +kernel
theorem dX8_commit_24 : decode cX8_commit 24 = .ok (.getfield 17, 3) := by decide +kernel
theorem dX8_commit_27 : decode cX8_commit 27 = .ok (.iload_n 1, 1) := by decide +kernel
theorem dX8_commit_28 : decode cX8_commit 28 = .ok (.iaload, 1) := by decide +kernel
theorem dX8_commit_29 : decode cX8_commit 29 = .ok (.iconst 1, 1) := by decide +kernel
theorem dX8_commit_30 : decode cX8_commit 30 = .ok (.if_icmp .ne 17, 3) := by decide +kernel
theorem dX8_commit_33 : decode cX8_commit 33 = .ok (.aload_n 0, 1) := by decide +kernel
theorem dX8_commit_34 : decode cX8_commit 34 = .ok (.getfield 7, 3) := by decide +kernel
theorem dX8_commit_37 : decode cX8_commit 37 = .ok (.iload_n 2, 1) := by decide +kernel
theorem dX8_commit_38 : decode cX8_commit 38 = .ok (.bipush 16, 2) := by decide +kernel
theorem dX8_commit_40 : decode cX8_commit 40 = .ok (.isub, 1) := by decide +kernel
theorem dX8_commit_41 : decode cX8_commit 41 = .ok (.iload_n 3, 1) := by decide +kernel
theorem dX8_commit_42 : decode cX8_commit 42 = .ok (.iadd, 1) := by decide +kernel
theorem dX8_commit_43 : decode cX8_commit 43 = .ok (.iaload, 1) := by decide +kernel
theorem dX8_commit_44 : decode cX8_commit 44 = .ok (.goto 4, 3) := by decide +kernel
theorem dX8_commit_47 : decode cX8_commit 47 = .ok (.iconst 0, 1) := by decide +kernel
theorem dX8_commit_48 : decode cX8_commit 48 = .ok (.aload_n 0, 1) := by decide +kernel
theorem dX8_commit_49 : decode cX8_commit 49 = .ok (.getfield 48, 3) := by decide +kernel
theorem dX8_commit_52 : decode cX8_commit 52 = .ok (.bipush 16, 2) := by decide +kernel
theorem dX8_commit_54 : decode cX8_commit 54 = .ok (.iload_n 1, 1) := by decide +kernel
theorem dX8_commit_55 : decode cX8_commit 55 = .ok (.imul, 1) := by decide +kernel
theorem dX8_commit_56 : decode cX8_commit 56 = .ok (.iload_n 3, 1) := by decide +kernel
theorem dX8_commit_57 : decode cX8_commit 57 = .ok (.iadd, 1) := by decide +kernel
theorem dX8_commit_58 : decode cX8_commit 58 = .ok (.iaload, 1) := by decide +kernel
theorem dX8_commit_59 : decode cX8_commit 59 = .ok (.iadd, 1) := by decide +kernel
theorem dX8_commit_60 : decode cX8_commit 60 = .ok (.iastore, 1) := by decide +kernel
theorem dX8_commit_61 : decode cX8_commit 61 = .ok (.iinc 3 1, 3) := by decide +kernel
theorem dX8_commit_64 : decode cX8_commit 64 = .ok (.goto (-54), 3) := by decide +kernel
theorem dX8_commit_67 : decode cX8_commit 67 = .ok (.aload_n 0, 1) := by decide +kernel
theorem dX8_commit_68 : decode cX8_commit 68 = .ok (.getfield 38, 3) := by decide +kernel
theorem dX8_commit_71 : decode cX8_commit 71 = .ok (.iload_n 1, 1) := by decide +kernel
theorem dX8_commit_72 : decode cX8_commit 72 = .ok (.aload_n 0, 1) := by decide +kernel
theorem dX8_commit_73 : decode cX8_commit 73 = .ok (.getfield 13, 3) := by decide +kernel
theorem dX8_commit_76 : decode cX8_commit 76 = .ok (.iastore, 1) := by decide +kernel
theorem dX8_commit_77 : decode cX8_commit 77 = .ok (.aload_n 0, 1) := by decide +kernel
theorem dX8_commit_78 : decode cX8_commit 78 = .ok (.dup, 1) := by decide +kernel
theorem dX8_commit_79 : decode cX8_commit 79 = .ok (.getfield 13, 3) := by decide +kernel
theorem dX8_commit_82 : decode cX8_commit 82 = .ok (.iconst 1, 1) := by decide +kernel
theorem dX8_commit_83 : decode cX8_commit 83 = .ok (.iadd, 1) := by decide +kernel
theorem dX8_commit_84 : decode cX8_commit 84 = .ok (.putfield 13, 3) := by decide +kernel
theorem dX8_commit_87 : decode cX8_commit 87 = .ok (.return_, 1) := by decide +kernel
set_option maxRecDepth 20000 in
theorem ggX8_step_X8_round : GoodIn wsX8_step wsX8_round := goodIn_r _ [13, 2, 6, 14, 7, 5, 15, 16, 17, 18, 19, 20, 21, 22, 23, 24, 25, 26, 27, 28, 29, 30, 31, 32, 33, 34, 35, 36, 37] (by decide +kernel) (by decide +kernel)
set_option maxRecDepth 20000 in
theorem gX8_step_X8_round : GoodIn wsX8_step (wsV RX8 88 RX8 yX8_round wsX8_round) := goodIn_app (goodIn_of _ (by decide +kernel)) ggX8_step_X8_round
theorem dX8_step_0 : decode cX8_step 0 = .ok (.aload_n 0, 1) := by decide +kernel
theorem dX8_step_1 : decode cX8_step 1 = .ok (.getfield 26, 3) := by decide +kernel
theorem dX8_step_4 : decode cX8_step 4 = .ok (.iload_n 1, 1) := by decide +kernel
theorem dX8_step_5 : decode cX8_step 5 = .ok (.iaload, 1) := by decide +kernel
theorem dX8_step_6 : decode cX8_step 6 = .ok (.aload_n 0, 1) := by decide +kernel
theorem dX8_step_7 : decode cX8_step 7 = .ok (.getfield 32, 3) := by decide +kernel
theorem dX8_step_10 : decode cX8_step 10 = .ok (.iload_n 1, 1) := by decide +kernel
theorem dX8_step_11 : decode cX8_step 11 = .ok (.iaload, 1) := by decide +kernel
theorem dX8_step_12 : decode cX8_step 12 = .ok (.iadd, 1) := by decide +kernel
theorem dX8_step_13 : decode cX8_step 13 = .ok (.bipush 16, 2) := by decide +kernel
theorem dX8_step_15 : decode cX8_step 15 = .ok (.irem, 1) := by decide +kernel
theorem dX8_step_16 : decode cX8_step 16 = .ok (.istore_n 2, 1) := by decide +kernel
theorem dX8_step_17 : decode cX8_step 17 = .ok (.aload_n 0, 1) := by decide +kernel
theorem dX8_step_18 : decode cX8_step 18 = .ok (.getfield 17, 3) := by decide +kernel
theorem dX8_step_21 : decode cX8_step 21 = .ok (.iload_n 1, 1) := by decide +kernel
theorem dX8_step_22 : decode cX8_step 22 = .ok (.iaload, 1) := by decide +kernel
theorem dX8_step_23 : decode cX8_step 23 = .ok (.tableswitch 91 0 2 #[25, 60, 83], 25) := by decide +kernel
theorem dX8_step_48 : decode cX8_step 48 = .ok (.aload_n 0, 1) := by decide +kernel
theorem dX8_step_49 : decode cX8_step 49 = .ok (.getfield 35, 3) := by decide +kernel
theorem dX8_step_52 : decode cX8_step 52 = .ok (.iload_n 1, 1) := by decide +kernel
theorem dX8_step_53 : decode cX8_step 53 = .ok (.bipush 31, 2) := by decide +kernel
theorem dX8_step_55 : decode cX8_step 55 = .ok (.aload_n 0, 1) := by decide +kernel
theorem dX8_step_56 : decode cX8_step 56 = .ok (.getfield 35, 3) := by decide +kernel
theorem dX8_step_59 : decode cX8_step 59 = .ok (.iload_n 1, 1) := by decide +kernel
theorem dX8_step_60 : decode cX8_step 60 = .ok (.iaload, 1) := by decide +kernel
theorem dX8_step_61 : decode cX8_step 61 = .ok (.imul, 1) := by decide +kernel
theorem dX8_step_62 : decode cX8_step 62 = .ok (.aload_n 0, 1) := by decide +kernel
theorem dX8_step_63 : decode cX8_step 63 = .ok (.getfield 7, 3) := by decide +kernel
theorem dX8_step_66 : decode cX8_step 66 = .ok (.bipush 16, 2) := by decide +kernel
theorem dX8_step_68 : decode cX8_step 68 = .ok (.aload_n 0, 1) := by decide +kernel
theorem dX8_step_69 : decode cX8_step 69 = .ok (.getfield 38, 3) := by decide +kernel
theorem dX8_step_72 : decode cX8_step 72 = .ok (.iload_n 1, 1) := by decide +kernel
theorem dX8_step_73 : decode cX8_step 73 = .ok (.iaload, 1) := by decide +kernel
theorem dX8_step_74 : decode cX8_step 74 = .ok (.imul, 1) := by decide +kernel
theorem dX8_step_75 : decode cX8_step 75 = .ok (.iload_n 2, 1) := by decide +kernel
theorem dX8_step_76 : decode cX8_step 76 = .ok (.iadd, 1) := by decide +kernel
theorem dX8_step_77 : decode cX8_step 77 = .ok (.iaload, 1) := by decide +kernel
theorem dX8_step_78 : decode cX8_step 78 = .ok (.iadd, 1) := by decide +kernel
theorem dX8_step_79 : decode cX8_step 79 = .ok (.iastore, 1) := by decide +kernel
theorem dX8_step_80 : decode cX8_step 80 = .ok (.goto 99, 3) := by decide +kernel
theorem dX8_step_83 : decode cX8_step 83 = .ok (.aload_n 0, 1) := by decide +kernel
theorem dX8_step_84 : decode cX8_step 84 = .ok (.getfield 48, 3) := by decide +kernel
theorem dX8_step_87 : decode cX8_step 87 = .ok (.bipush 16, 2) := by decide +kernel
theorem dX8_step_89 : decode cX8_step 89 = .ok (.iload_n 1, 1) := by decide +kernel
theorem dX8_step_90 : decode cX8_step 90 = .ok (.imul, 1) := by decide +kernel
theorem dX8_step_91 : decode cX8_step 91 = .ok (.iload_n 2, 1) := by decide +kernel
theorem dX8_step_92 : decode cX8_step 92 = .ok (.iadd, 1) := by decide +kernel
theorem dX8_step_93 : decode cX8_step 93 = .ok (.dup2, 1) := by decide +kernel
theorem dX8_step_94 : decode cX8_step 94 = .ok (.iaload, 1) := by decide +kernel
theorem dX8_step_95 : decode cX8_step 95 = .ok (.aload_n 0, 1) := by decide +kernel
theorem dX8_step_96 : decode cX8_step 96 = .ok (.getfield 29, 3) := by decide +kernel
theorem dX8_step_99 : decode cX8_step 99 = .ok (.iload_n 1, 1) := by decide +kernel
theorem dX8_step_100 : decode cX8_step 100 = .ok (.iaload, 1) := by decide +kernel
theorem dX8_step_101 : decode cX8_step 101 = .ok (.iadd, 1) := by decide +kernel
theorem dX8_step_102 : decode cX8_step 102 = .ok (.iastore, 1) := by decide +kernel
theorem dX8_step_103 : decode cX8_step 103 = .ok (.goto 76, 3) := by decide +kernel
theorem dX8_step_106 : decode cX8_step 106 = .ok (.aload_n 0, 1) := by decide +kernel
theorem dX8_step_107 : decode cX8_step 107 = .ok (.iload_n 1, 1) := by decide +kernel
theorem dX8_step_108 : decode cX8_step 108 = .ok (.invokevirtual 88, 3) := by decide +kernel
theorem dX8_step_111 : decode cX8_step 111 = .ok (.goto 68, 3) := by decide +kernel
theorem dX8_step_114 : decode cX8_step 114 = .ok (.aload_n 0, 1) := by decide +kernel
theorem dX8_step_115 : decode cX8_step 115 = .ok (.getfield 38, 3) := by decide +kernel
theorem dX8_step_118 : decode cX8_step 118 = .ok (.iload_n 1, 1) := by decide +kernel
theorem dX8_step_119 : decode cX8_step 119 = .ok (.dup2, 1) := by decide +kernel
theorem dX8_step_120 : decode cX8_step 120 = .ok (.iaload, 1) := by decide +kernel
theorem dX8_step_121 : decode cX8_step 121 = .ok (.iconst 1, 1) := by decide +kernel
theorem dX8_step_122 : decode cX8_step 122 = .ok (.iadd, 1) := by decide +kernel
theorem dX8_step_123 : decode cX8_step 123 = .ok (.iastore, 1) := by decide +kernel
theorem dX8_step_124 : decode cX8_step 124 = .ok (.iconst 0, 1) := by decide +kernel
theorem dX8_step_125 : decode cX8_step 125 = .ok (.istore_n 3, 1) := by decide +kernel
theorem dX8_step_126 : decode cX8_step 126 = .ok (.iconst 0, 1) := by decide +kernel
theorem dX8_step_127 : decode cX8_step 127 = .ok (.istore 4, 2) := by decide +kernel
theorem dX8_step_129 : decode cX8_step 129 = .ok (.iload 4, 2) := by decide +kernel
theorem dX8_step_131 : decode cX8_step 131 = .ok (.bipush 16, 2) := by decide +kernel
theorem dX8_step_133 : decode cX8_step 133 = .ok (.if_icmp .ge 29, 3) := by decide +kernel
theorem dX8_step_136 : decode cX8_step 136 = .ok (.iload_n 3, 1) := by decide +kernel
theorem dX8_step_137 : decode cX8_step 137 = .ok (.aload_n 0, 1) := by decide +kernel
theorem dX8_step_138 : decode cX8_step 138 = .ok (.getfield 7, 3) := by decide +kernel
theorem dX8_step_141 : decode cX8_step 141 = .ok (.bipush 16, 2) := by decide +kernel
theorem dX8_step_143 : decode cX8_step 143 = .ok (.aload_n 0, 1) := by decide +kernel
theorem dX8_step_144 : decode cX8_step 144 = .ok (.getfield 38, 3) := by decide +kernel
theorem dX8_step_147 : decode cX8_step 147 = .ok (.iload_n 1, 1) := by decide +kernel
theorem dX8_step_148 : decode cX8_step 148 = .ok (.iaload, 1) := by decide +kernel
theorem dX8_step_149 : decode cX8_step 149 = .ok (.imul, 1) := by decide +kernel
theorem dX8_step_150 : decode cX8_step 150 = .ok (.iload 4, 2) := by decide +kernel
theorem dX8_step_152 : decode cX8_step 152 = .ok (.iadd, 1) := by decide +kernel
theorem dX8_step_153 : decode cX8_step 153 = .ok (.iaload, 1) := by decide +kernel
theorem dX8_step_154 : decode cX8_step 154 = .ok (.iadd, 1) := by decide +kernel
theorem dX8_step_155 : decode cX8_step 155 = .ok (.istore_n 3, 1) := by decide +kernel
theorem dX8_step_156 : decode cX8_step 156 = .ok (.iinc 4 1, 3) := by decide +kernel
theorem dX8_step_159 : decode cX8_step 159 = .ok (.goto (-30), 3) := by decide +kernel
theorem dX8_step_162 : decode cX8_step 162 = .ok (.aload_n 0, 1) := by decide +kernel
theorem dX8_step_163 : decode cX8_step 163 = .ok (.getfield 35, 3) := by decide +kernel
theorem dX8_step_166 : decode cX8_step 166 = .ok (.iload_n 1, 1) := by decide +kernel
theorem dX8_step_167 : decode cX8_step 167 = .ok (.bipush 31, 2) := by decide +kernel
theorem dX8_step_169 : decode cX8_step 169 = .ok (.aload_n 0, 1) := by decide +kernel
theorem dX8_step_170 : decode cX8_step 170 = .ok (.getfield 35, 3) := by decide +kernel
theorem dX8_step_173 : decode cX8_step 173 = .ok (.iload_n 1, 1) := by decide +kernel
theorem dX8_step_174 : decode cX8_step 174 = .ok (.iaload, 1) := by decide +kernel
theorem dX8_step_175 : decode cX8_step 175 = .ok (.imul, 1) := by decide +kernel
theorem dX8_step_176 : decode cX8_step 176 = .ok (.iload_n 3, 1) := by decide +kernel
theorem dX8_step_177 : decode cX8_step 177 = .ok (.iadd, 1) := by decide +kernel
theorem dX8_step_178 : decode cX8_step 178 = .ok (.iastore, 1) := by decide +kernel
theorem dX8_step_179 : decode cX8_step 179 = .ok (.aload_n 0, 1) := by decide +kernel
theorem dX8_step_180 : decode cX8_step 180 = .ok (.getfield 32, 3) := by decide +kernel
theorem dX8_step_183 : decode cX8_step 183 = .ok (.iload_n 1, 1) := by decide +kernel
theorem dX8_step_184 : decode cX8_step 184 = .ok (.dup2, 1) := by decide +kernel
theorem dX8_step_185 : decode cX8_step 185 = .ok (.iaload, 1) := by decide +kernel
theorem dX8_step_186 : decode cX8_step 186 = .ok (.iconst 1, 1) := by decide +kernel
theorem dX8_step_187 : decode cX8_step 187 = .ok (.iadd, 1) := by decide +kernel
theorem dX8_step_188 : decode cX8_step 188 = .ok (.iastore, 1) := by decide +kernel
theorem dX8_step_189 : decode cX8_step 189 = .ok (.return_, 1) := by decide +kernel
theorem dX8_round_0 : decode cX8_round 0 = .ok (.aload_n 0, 1) := by decide +kernel
theorem dX8_round_1 : decode cX8_round 1 = .ok (.getfield 32, 3) := by decide +kernel
theorem dX8_round_4 : decode cX8_round 4 = .ok (.iload_n 1, 1) := by decide +kernel
theorem dX8_round_5 : decode cX8_round 5 = .ok (.iaload, 1) := by decide +kernel
theorem dX8_round_6 : decode cX8_round 6 = .ok (.ifCond .ne 56, 3) := by decide +kernel
theorem dX8_round_9 : decode cX8_round 9 = .ok (.aload_n 0, 1) := by decide +kernel
theorem dX8_round_10 : decode cX8_round 10 = .ok (.getfield 38, 3) := by decide +kernel
theorem dX8_round_13 : decode cX8_round 13 = .ok (.iload_n 1, 1) := by decide +kernel
theorem dX8_round_14 : decode cX8_round 14 = .ok (.aload_n 0, 1) := by decide +kernel
theorem dX8_round_15 : decode cX8_round 15 = .ok (.getfield 13, 3) := by decide +kernel
theorem dX8_round_18 : decode cX8_round 18 = .ok (.iconst 1, 1) := by decide +kernel
theorem dX8_round_19 : decode cX8_round 19 = .ok (.isub, 1) := by decide +kernel
theorem dX8_round_20 : decode cX8_round 20 = .ok (.iastore, 1) := by decide +kernel
theorem dX8_round_21 : decode cX8_round 21 = .ok (.iconst 0, 1) := by decide +kernel
theorem dX8_round_22 : decode cX8_round 22 = .ok (.istore_n 2, 1) := by decide +kernel
theorem dX8_round_23 : decode cX8_round 23 = .ok (.iload_n 2, 1) := by decide +kernel
theorem dX8_round_24 : decode cX8_round 24 = .ok (.bipush 16, 2) := by decide +kernel
theorem dX8_round_26 : decode cX8_round 26 = .ok (.if_icmp .ge 36, 3) := by decide +kernel
theorem dX8_round_29 : decode cX8_round 29 = .ok (.aload_n 0, 1) := by decide +kernel
theorem dX8_round_30 : decode cX8_round 30 = .ok (.getfield 48, 3) := by decide +kernel
theorem dX8_round_33 : decode cX8_round 33 = .ok (.bipush 16, 2) := by decide +kernel
theorem dX8_round_35 : decode cX8_round 35 = .ok (.iload_n 1, 1) := by decide +kernel
theorem dX8_round_36 : decode cX8_round 36 = .ok (.imul, 1) := by decide +kernel
theorem dX8_round_37 : decode cX8_round 37 = .ok (.iload_n 2, 1) := by decide +kernel
theorem dX8_round_38 : decode cX8_round 38 = .ok (.iadd, 1) := by decide +kernel
theorem dX8_round_39 : decode cX8_round 39 = .ok (.aload_n 0, 1) := by decide +kernel
theorem dX8_round_40 : decode cX8_round 40 = .ok (.getfield 7, 3) := by decide +kernel
theorem dX8_round_43 : decode cX8_round 43 = .ok (.bipush 16, 2) := by decide +kernel
theorem dX8_round_45 : decode cX8_round 45 = .ok (.aload_n 0, 1) := by decide +kernel
theorem dX8_round_46 : decode cX8_round 46 = .ok (.getfield 38, 3) := by decide +kernel
theorem dX8_round_49 : decode cX8_round 49 = .ok (.iload_n 1, 1) := by decide +kernel
theorem dX8_round_50 : decode cX8_round 50 = .ok (.iaload, 1) := by decide +kernel
theorem dX8_round_51 : decode cX8_round 51 = .ok (.imul, 1) := by decide +kernel
theorem dX8_round_52 : decode cX8_round 52 = .ok (.iload_n 2, 1) := by decide +kernel
theorem dX8_round_53 : decode cX8_round 53 = .ok (.iadd, 1) := by decide +kernel
theorem dX8_round_54 : decode cX8_round 54 = .ok (.iaload, 1) := by decide +kernel
theorem dX8_round_55 : decode cX8_round 55 = .ok (.iastore, 1) := by decide +kernel
theorem dX8_round_56 : decode cX8_round 56 = .ok (.iinc 2 1, 3) := by decide +kernel
theorem dX8_round_59 : decode cX8_round 59 = .ok (.goto (-36), 3) := by decide +kernel
theorem dX8_round_62 : decode cX8_round 62 = .ok (.iconst 0, 1) := by decide +kernel
theorem dX8_round_63 : decode cX8_round 63 = .ok (.istore_n 2, 1) := by decide +kernel
theorem dX8_round_64 : decode cX8_round 64 = .ok (.iload_n 2, 1) := by decide +kernel
theorem dX8_round_65 : decode cX8_round 65 = .ok (.bipush 16, 2) := by decide +kernel
theorem dX8_round_67 : decode cX8_round 67 = .ok (.if_icmp .ge 26, 3) := by decide +kernel
theorem dX8_round_70 : decode cX8_round 70 = .ok (.aload_n 0, 1) := by decide +kernel
theorem dX8_round_71 : decode cX8_round 71 = .ok (.getfield 51, 3) := by decide +kernel
theorem dX8_round_74 : decode cX8_round 74 = .ok (.iload_n 2, 1) := by decide +kernel
end
section
theorem dX8_round_75 : decode cX8_round 75 = .ok (.aload_n 0, 1) := by decide +kernel
theorem dX8_round_76 : decode cX8_round 76 = .ok (.getfield 48, 3) := by decide +kernel
theorem dX8_round_79 : decode cX8_round 79 = .ok (.bipush 16, 2) := by decide +kernel
theorem dX8_round_81 : decode cX8_round 81 = .ok (.iload_n 1, 1) := by decide +kernel
theorem dX8_round_82 : decode cX8_round 82 = .ok (.imul, 1) := by decide +kernel
theorem dX8_round_83 : decode cX8_round 83 = .ok (.iload_n 2, 1) := by decide +kernel
theorem dX8_round_84 : decode cX8_round 84 = .ok (.iadd, 1) := by decide +kernel
theorem dX8_round_85 : decode cX8_round 85 = .ok (.iaload, 1) := by decide +kernel
theorem dX8_round_86 : decode cX8_round 86 = .ok (.iastore, 1) := by decide +kernel
theorem dX8_round_87 : decode cX8_round 87 = .ok (.iinc 2 1, 3) := by decide +kernel
theorem dX8_round_90 : decode cX8_round 90 = .ok (.goto (-26), 3) := by decide +kernel
theorem dX8_round_93 : decode cX8_round 93 = .ok (.iconst 0, 1) := by decide +kernel
theorem dX8_round_94 : decode cX8_round 94 = .ok (.istore_n 2, 1) := by decide +kernel
theorem dX8_round_95 : decode cX8_round 95 = .ok (.iload_n 2, 1) := by decide +kernel
theorem dX8_round_96 : decode cX8_round 96 = .ok (.bipush 16, 2) := by decide +kernel
theorem dX8_round_98 : decode cX8_round 98 = .ok (.if_icmp .ge 53, 3) := by decide +kernel
theorem dX8_round_101 : decode cX8_round 101 = .ok (.aload_n 0, 1) := by decide +kernel
theorem dX8_round_102 : decode cX8_round 102 = .ok (.getfield 51, 3) := by decide +kernel
theorem dX8_round_105 : decode cX8_round 105 = .ok (.iload_n 2, 1) := by decide +kernel
theorem dX8_round_106 : decode cX8_round 106 = .ok (.bipush 15, 2) := by decide +kernel
theorem dX8_round_108 : decode cX8_round 108 = .ok (.iadd, 1) := by decide +kernel
theorem dX8_round_109 : decode cX8_round 109 = .ok (.bipush 16, 2) := by decide +kernel
theorem dX8_round_111 : decode cX8_round 111 = .ok (.irem, 1) := by decide +kernel
theorem dX8_round_112 : decode cX8_round 112 = .ok (.iaload, 1) := by decide +kernel
theorem dX8_round_113 : decode cX8_round 113 = .ok (.istore_n 3, 1) := by decide +kernel
theorem dX8_round_114 : decode cX8_round 114 = .ok (.aload_n 0, 1) := by decide +kernel
theorem dX8_round_115 : decode cX8_round 115 = .ok (.getfield 48, 3) := by decide +kernel
theorem dX8_round_118 : decode cX8_round 118 = .ok (.bipush 16, 2) := by decide +kernel
theorem dX8_round_120 : decode cX8_round 120 = .ok (.iload_n 1, 1) := by decide +kernel
theorem dX8_round_121 : decode cX8_round 121 = .ok (.imul, 1) := by decide +kernel
theorem dX8_round_122 : decode cX8_round 122 = .ok (.iload_n 2, 1) := by decide +kernel
theorem dX8_round_123 : decode cX8_round 123 = .ok (.iadd, 1) := by decide +kernel
theorem dX8_round_124 : decode cX8_round 124 = .ok (.iload_n 3, 1) := by decide +kernel
theorem dX8_round_125 : decode cX8_round 125 = .ok (.aload_n 0, 1) := by decide +kernel
theorem dX8_round_126 : decode cX8_round 126 = .ok (.getfield 51, 3) := by decide +kernel
theorem dX8_round_129 : decode cX8_round 129 = .ok (.iload_n 2, 1) := by decide +kernel
theorem dX8_round_130 : decode cX8_round 130 = .ok (.iaload, 1) := by decide +kernel
theorem dX8_round_131 : decode cX8_round 131 = .ok (.if_icmp .le 7, 3) := by decide +kernel
theorem dX8_round_134 : decode cX8_round 134 = .ok (.iload_n 3, 1) := by decide +kernel
theorem dX8_round_135 : decode cX8_round 135 = .ok (.goto 9, 3) := by decide +kernel
theorem dX8_round_138 : decode cX8_round 138 = .ok (.aload_n 0, 1) := by decide +kernel
theorem dX8_round_139 : decode cX8_round 139 = .ok (.getfield 51, 3) := by decide +kernel
theorem dX8_round_142 : decode cX8_round 142 = .ok (.iload_n 2, 1) := by decide +kernel
theorem dX8_round_143 : decode cX8_round 143 = .ok (.iaload, 1) := by decide +kernel
theorem dX8_round_144 : decode cX8_round 144 = .ok (.iastore, 1) := by decide +kernel
theorem dX8_round_145 : decode cX8_round 145 = .ok (.iinc 2 1, 3) := by decide +kernel
theorem dX8_round_148 : decode cX8_round 148 = .ok (.goto (-53), 3) := by decide +kernel
theorem dX8_round_151 : decode cX8_round 151 = .ok (.return_, 1) := by decide +kernel
set_option maxRecDepth 20000 in
theorem ggX8_turn_X8_in : GoodIn wsX8_turn wsX8_in := goodIn_r _ [13] (by decide +kernel) (by decide +kernel)
set_option maxRecDepth 20000 in
theorem gX8_turn_X8_in : GoodIn wsX8_turn (va_wsS RX8 63 yX8_in wsX8_in) := goodIn_app (goodIn_of _ (by decide +kernel)) ggX8_turn_X8_in
set_option maxRecDepth 20000 in
theorem ggX8_turn_X8_waits : GoodIn wsX8_turn wsX8_waits := goodIn_r _ [17, 3, 5, 8, 6, 7, 18, 19, 20, 21, 22, 12, 23, 50, 51, 52, 53, 54, 55, 56, 57, 58, 59, 60, 61, 62, 63, 64, 65, 66, 67, 68, 69, 70, 71] (by decide +kernel) (by decide +kernel)
set_option maxRecDepth 20000 in
theorem gX8_turn_X8_waits : GoodIn wsX8_turn (wsV RX8 92 RX8 yX8_waits wsX8_waits) := goodIn_app (goodIn_of _ (by decide +kernel)) ggX8_turn_X8_waits
set_option maxRecDepth 20000 in
theorem ggX8_turn_X8_commit : GoodIn wsX8_turn wsX8_commit := goodIn_r _ [27, 19, 28, 8, 29, 18, 50, 51, 52, 53, 54, 55, 56, 57, 58, 59, 60, 61, 62, 63, 64, 65, 66, 67, 68, 69, 70, 71] (by decide +kernel) (by decide +kernel)
set_option maxRecDepth 20000 in
theorem gX8_turn_X8_commit : GoodIn wsX8_turn (wsV RX8 98 RX8 yX8_commit wsX8_commit) := goodIn_app (goodIn_of _ (by decide +kernel)) ggX8_turn_X8_commit
set_option maxRecDepth 20000 in
theorem ggX8_turn_X8_step : GoodIn wsX8_turn wsX8_step := goodIn_r _ [33, 34, 6, 8, 35, 28, 18, 29, 36, 37, 38, 39, 12, 40, 19, 41, 50, 51, 52, 53, 54, 55, 56, 57, 58, 59, 60, 61, 62, 63, 64, 65, 66, 67, 68, 69, 70, 71] (by decide +kernel) (by decide +kernel)
set_option maxRecDepth 20000 in
theorem gX8_turn_X8_step : GoodIn wsX8_turn (wsV RX8 101 RX8 yX8_step wsX8_step) := goodIn_app (goodIn_of _ (by decide +kernel)) ggX8_turn_X8_step
set_option maxRecDepth 20000 in
theorem ggX8_turn_X8_finish : GoodIn wsX8_turn wsX8_finish := goodIn_r _ [45, 3, 46, 47, 48, 49, 4, 50, 51, 52, 53, 54, 55, 56, 57, 58, 59, 60, 61, 62, 63, 64, 65, 66, 67, 68, 69, 70, 71] (by decide +kernel) (by decide +kernel)
set_option maxRecDepth 20000 in
theorem gX8_turn_X8_finish : GoodIn wsX8_turn (wsV RX8 104 RX8 yX8_finish wsX8_finish) := goodIn_app (goodIn_of _ (by decide +kernel)) ggX8_turn_X8_finish
theorem dX8_turn_0 : decode cX8_turn 0 = .ok (.iload_n 1, 1) := by decide +kernel
theorem dX8_turn_1 : decode cX8_turn 1 = .ok (.iconst 0, 1) := by decide +kernel
theorem dX8_turn_2 : decode cX8_turn 2 = .ok (.aload_n 0, 1) := by decide +kernel
theorem dX8_turn_3 : decode cX8_turn 3 = .ok (.getfield 67, 3) := by decide +kernel
theorem dX8_turn_6 : decode cX8_turn 6 = .ok (.iconst 1, 1) := by decide +kernel
theorem dX8_turn_7 : decode cX8_turn 7 = .ok (.isub, 1) := by decide +kernel
theorem dX8_turn_8 : decode cX8_turn 8 = .ok (.invokestatic 63, 3) := by decide +kernel
theorem dX8_turn_11 : decode cX8_turn 11 = .ok (.ifCond .ne 5, 3) := by decide +kernel
theorem dX8_turn_14 : decode cX8_turn 14 = .ok (.iconst (-1), 1) := by decide +kernel
theorem dX8_turn_15 : decode cX8_turn 15 = .ok (.ireturn, 1) := by decide +kernel
theorem dX8_turn_16 : decode cX8_turn 16 = .ok (.aload_n 0, 1) := by decide +kernel
theorem dX8_turn_17 : decode cX8_turn 17 = .ok (.iload_n 1, 1) := by decide +kernel
theorem dX8_turn_18 : decode cX8_turn 18 = .ok (.invokevirtual 92, 3) := by decide +kernel
theorem dX8_turn_21 : decode cX8_turn 21 = .ok (.ifCond .eq 28, 3) := by decide +kernel
theorem dX8_turn_24 : decode cX8_turn 24 = .ok (.aload_n 0, 1) := by decide +kernel
theorem dX8_turn_25 : decode cX8_turn 25 = .ok (.dup, 1) := by decide +kernel
theorem dX8_turn_26 : decode cX8_turn 26 = .ok (.getfield 95, 3) := by decide +kernel
theorem dX8_turn_29 : decode cX8_turn 29 = .ok (.aload_n 0, 1) := by decide +kernel
theorem dX8_turn_30 : decode cX8_turn 30 = .ok (.getfield 41, 3) := by decide +kernel
theorem dX8_turn_33 : decode cX8_turn 33 = .ok (.iload_n 1, 1) := by decide +kernel
theorem dX8_turn_34 : decode cX8_turn 34 = .ok (.iaload, 1) := by decide +kernel
theorem dX8_turn_35 : decode cX8_turn 35 = .ok (.ifCond .le 7, 3) := by decide +kernel
theorem dX8_turn_38 : decode cX8_turn 38 = .ok (.iconst 0, 1) := by decide +kernel
theorem dX8_turn_39 : decode cX8_turn 39 = .ok (.goto 4, 3) := by decide +kernel
theorem dX8_turn_42 : decode cX8_turn 42 = .ok (.iconst 1, 1) := by decide +kernel
theorem dX8_turn_43 : decode cX8_turn 43 = .ok (.iadd, 1) := by decide +kernel
theorem dX8_turn_44 : decode cX8_turn 44 = .ok (.putfield 95, 3) := by decide +kernel
theorem dX8_turn_47 : decode cX8_turn 47 = .ok (.iconst 0, 1) := by decide +kernel
theorem dX8_turn_48 : decode cX8_turn 48 = .ok (.ireturn, 1) := by decide +kernel
theorem dX8_turn_49 : decode cX8_turn 49 = .ok (.aload_n 0, 1) := by decide +kernel
theorem dX8_turn_50 : decode cX8_turn 50 = .ok (.dup, 1) := by decide +kernel
theorem dX8_turn_51 : decode cX8_turn 51 = .ok (.getfield 85, 3) := by decide +kernel
theorem dX8_turn_54 : decode cX8_turn 54 = .ok (.iconst 1, 1) := by decide +kernel
theorem dX8_turn_55 : decode cX8_turn 55 = .ok (.iadd, 1) := by decide +kernel
theorem dX8_turn_56 : decode cX8_turn 56 = .ok (.putfield 85, 3) := by decide +kernel
theorem dX8_turn_59 : decode cX8_turn 59 = .ok (.iconst 1, 1) := by decide +kernel
theorem dX8_turn_60 : decode cX8_turn 60 = .ok (.istore_n 2, 1) := by decide +kernel
theorem dX8_turn_61 : decode cX8_turn 61 = .ok (.aload_n 0, 1) := by decide +kernel
theorem dX8_turn_62 : decode cX8_turn 62 = .ok (.getfield 44, 3) := by decide +kernel
theorem dX8_turn_65 : decode cX8_turn 65 = .ok (.iload_n 1, 1) := by decide +kernel
theorem dX8_turn_66 : decode cX8_turn 66 = .ok (.baload, 1) := by decide +kernel
theorem dX8_turn_67 : decode cX8_turn 67 = .ok (.ifCond .eq 8, 3) := by decide +kernel
theorem dX8_turn_70 : decode cX8_turn 70 = .ok (.iconst 4, 1) := by decide +kernel
theorem dX8_turn_71 : decode cX8_turn 71 = .ok (.istore_n 2, 1) := by decide +kernel
theorem dX8_turn_72 : decode cX8_turn 72 = .ok (.goto 95, 3) := by decide +kernel
theorem dX8_turn_75 : decode cX8_turn 75 = .ok (.aload_n 0, 1) := by decide +kernel
theorem dX8_turn_76 : decode cX8_turn 76 = .ok (.getfield 32, 3) := by decide +kernel
theorem dX8_turn_79 : decode cX8_turn 79 = .ok (.iload_n 1, 1) := by decide +kernel
theorem dX8_turn_80 : decode cX8_turn 80 = .ok (.iaload, 1) := by decide +kernel
theorem dX8_turn_81 : decode cX8_turn 81 = .ok (.aload_n 0, 1) := by decide +kernel
theorem dX8_turn_82 : decode cX8_turn 82 = .ok (.getfield 20, 3) := by decide +kernel
theorem dX8_turn_85 : decode cX8_turn 85 = .ok (.iload_n 1, 1) := by decide +kernel
theorem dX8_turn_86 : decode cX8_turn 86 = .ok (.iaload, 1) := by decide +kernel
theorem dX8_turn_87 : decode cX8_turn 87 = .ok (.if_icmp .ne 23, 3) := by decide +kernel
theorem dX8_turn_90 : decode cX8_turn 90 = .ok (.aload_n 0, 1) := by decide +kernel
theorem dX8_turn_91 : decode cX8_turn 91 = .ok (.getfield 17, 3) := by decide +kernel
theorem dX8_turn_94 : decode cX8_turn 94 = .ok (.iload_n 1, 1) := by decide +kernel
theorem dX8_turn_95 : decode cX8_turn 95 = .ok (.iaload, 1) := by decide +kernel
theorem dX8_turn_96 : decode cX8_turn 96 = .ok (.iconst 3, 1) := by decide +kernel
theorem dX8_turn_97 : decode cX8_turn 97 = .ok (.if_icmp .eq 13, 3) := by decide +kernel
theorem dX8_turn_100 : decode cX8_turn 100 = .ok (.aload_n 0, 1) := by decide +kernel
theorem dX8_turn_101 : decode cX8_turn 101 = .ok (.iload_n 1, 1) := by decide +kernel
theorem dX8_turn_102 : decode cX8_turn 102 = .ok (.invokevirtual 98, 3) := by decide +kernel
theorem dX8_turn_105 : decode cX8_turn 105 = .ok (.iconst 2, 1) := by decide +kernel
theorem dX8_turn_106 : decode cX8_turn 106 = .ok (.istore_n 2, 1) := by decide +kernel
theorem dX8_turn_107 : decode cX8_turn 107 = .ok (.goto 60, 3) := by decide +kernel
theorem dX8_turn_110 : decode cX8_turn 110 = .ok (.aload_n 0, 1) := by decide +kernel
theorem dX8_turn_111 : decode cX8_turn 111 = .ok (.getfield 23, 3) := by decide +kernel
theorem dX8_turn_114 : decode cX8_turn 114 = .ok (.iload_n 1, 1) := by decide +kernel
theorem dX8_turn_115 : decode cX8_turn 115 = .ok (.iaload, 1) := by decide +kernel
theorem dX8_turn_116 : decode cX8_turn 116 = .ok (.aload_n 0, 1) := by decide +kernel
theorem dX8_turn_117 : decode cX8_turn 117 = .ok (.getfield 32, 3) := by decide +kernel
theorem dX8_turn_120 : decode cX8_turn 120 = .ok (.iload_n 1, 1) := by decide +kernel
theorem dX8_turn_121 : decode cX8_turn 121 = .ok (.iaload, 1) := by decide +kernel
theorem dX8_turn_122 : decode cX8_turn 122 = .ok (.iconst 1, 1) := by decide +kernel
theorem dX8_turn_123 : decode cX8_turn 123 = .ok (.iadd, 1) := by decide +kernel
theorem dX8_turn_124 : decode cX8_turn 124 = .ok (.if_icmp .ne 8, 3) := by decide +kernel
theorem dX8_turn_127 : decode cX8_turn 127 = .ok (.iconst 3, 1) := by decide +kernel
theorem dX8_turn_128 : decode cX8_turn 128 = .ok (.istore_n 2, 1) := by decide +kernel
theorem dX8_turn_129 : decode cX8_turn 129 = .ok (.goto 38, 3) := by decide +kernel
theorem dX8_turn_132 : decode cX8_turn 132 = .ok (.aload_n 0, 1) := by decide +kernel
theorem dX8_turn_133 : decode cX8_turn 133 = .ok (.iload_n 1, 1) := by decide +kernel
theorem dX8_turn_134 : decode cX8_turn 134 = .ok (.invokevirtual 101, 3) := by decide +kernel
theorem dX8_turn_137 : decode cX8_turn 137 = .ok (.aload_n 0, 1) := by decide +kernel
theorem dX8_turn_138 : decode cX8_turn 138 = .ok (.getfield 17, 3) := by decide +kernel
theorem dX8_turn_141 : decode cX8_turn 141 = .ok (.iload_n 1, 1) := by decide +kernel
theorem dX8_turn_142 : decode cX8_turn 142 = .ok (.iaload, 1) := by decide +kernel
theorem dX8_turn_143 : decode cX8_turn 143 = .ok (.ifCond .ne 22, 3) := by decide +kernel
theorem dX8_turn_146 : decode cX8_turn 146 = .ok (.aload_n 0, 1) := by decide +kernel
theorem dX8_turn_147 : decode cX8_turn 147 = .ok (.getfield 32, 3) := by decide +kernel
theorem dX8_turn_150 : decode cX8_turn 150 = .ok (.iload_n 1, 1) := by decide +kernel
theorem dX8_turn_151 : decode cX8_turn 151 = .ok (.iaload, 1) := by decide +kernel
theorem dX8_turn_152 : decode cX8_turn 152 = .ok (.aload_n 0, 1) := by decide +kernel
theorem dX8_turn_153 : decode cX8_turn 153 = .ok (.getfield 20, 3) := by decide +kernel
theorem dX8_turn_156 : decode cX8_turn 156 = .ok (.iload_n 1, 1) := by decide +kernel
theorem dX8_turn_157 : decode cX8_turn 157 = .ok (.iaload, 1) := by decide +kernel
theorem dX8_turn_158 : decode cX8_turn 158 = .ok (.if_icmp .ne 7, 3) := by decide +kernel
theorem dX8_turn_161 : decode cX8_turn 161 = .ok (.iconst 2, 1) := by decide +kernel
theorem dX8_turn_162 : decode cX8_turn 162 = .ok (.goto 4, 3) := by decide +kernel
theorem dX8_turn_165 : decode cX8_turn 165 = .ok (.iconst 1, 1) := by decide +kernel
theorem dX8_turn_166 : decode cX8_turn 166 = .ok (.istore_n 2, 1) := by decide +kernel
theorem dX8_turn_167 : decode cX8_turn 167 = .ok (.iload_n 2, 1) := by decide +kernel
theorem dX8_turn_168 : decode cX8_turn 168 = .ok (.iconst 1, 1) := by decide +kernel
theorem dX8_turn_169 : decode cX8_turn 169 = .ok (.if_icmp .le 9, 3) := by decide +kernel
theorem dX8_turn_172 : decode cX8_turn 172 = .ok (.aload_n 0, 1) := by decide +kernel
theorem dX8_turn_173 : decode cX8_turn 173 = .ok (.iload_n 1, 1) := by decide +kernel
theorem dX8_turn_174 : decode cX8_turn 174 = .ok (.iload_n 2, 1) := by decide +kernel
theorem dX8_turn_175 : decode cX8_turn 175 = .ok (.invokevirtual 104, 3) := by decide +kernel
theorem dX8_turn_178 : decode cX8_turn 178 = .ok (.iload_n 2, 1) := by decide +kernel
theorem dX8_turn_179 : decode cX8_turn 179 = .ok (.ireturn, 1) := by decide +kernel
set_option maxRecDepth 20000 in
theorem ggX8_run_X8_in : GoodIn wsX8_run wsX8_in := goodIn_r _ [5] (by decide +kernel) (by decide +kernel)
set_option maxRecDepth 20000 in
theorem gX8_run_X8_in : GoodIn wsX8_run (va_wsS RX8 63 yX8_in wsX8_in) := goodIn_app (goodIn_of _ (by decide +kernel)) ggX8_run_X8_in
set_option maxRecDepth 20000 in
theorem ggX8_run_X8_turn : GoodIn wsX8_run wsX8_turn := goodIn_r _ [9, 1, 10, 11, 12, 13, 14, 15, 16, 17, 2, 3, 4, 5, 18, 19, 20, 21, 22, 23, 24, 25, 26, 27, 28, 29, 30, 31, 32, 33, 34, 35, 36, 37, 38, 39, 40, 41, 42, 43, 44, 45, 46, 47, 48, 49, 50, 51, 52, 53, 54, 55, 56, 57, 58, 59, 60, 61, 62, 63, 64, 65, 66, 67, 68, 69, 70, 71, 72, 73, 74, 75] (by decide +kernel) (by decide +kernel)
set_option maxRecDepth 20000 in
theorem gX8_run_X8_turn : GoodIn wsX8_run (wsV RX8 108 RX8 yX8_turn wsX8_turn) := goodIn_app (goodIn_of _ (by decide +kernel)) ggX8_run_X8_turn
theorem dX8_run_0 : decode cX8_run 0 = .ok (.iload_n 1, 1) := by decide +kernel
theorem dX8_run_1 : decode cX8_run 1 = .ok (.iconst 0, 1) := by decide +kernel
theorem dX8_run_2 : decode cX8_run 2 = .ok (.sipush 1000, 3) := by decide +kernel
theorem dX8_run_5 : decode cX8_run 5 = .ok (.invokestatic 63, 3) := by decide +kernel
theorem dX8_run_8 : decode cX8_run 8 = .ok (.ifCond .ne 5, 3) := by decide +kernel
theorem dX8_run_11 : decode cX8_run 11 = .ok (.iconst (-1), 1) := by decide +kernel
theorem dX8_run_12 : decode cX8_run 12 = .ok (.ireturn, 1) := by decide +kernel
theorem dX8_run_13 : decode cX8_run 13 = .ok (.iconst 0, 1) := by decide +kernel
theorem dX8_run_14 : decode cX8_run 14 = .ok (.istore_n 2, 1) := by decide +kernel
theorem dX8_run_15 : decode cX8_run 15 = .ok (.iconst 1, 1) := by decide +kernel
theorem dX8_run_16 : decode cX8_run 16 = .ok (.istore_n 3, 1) := by decide +kernel
theorem dX8_run_17 : decode cX8_run 17 = .ok (.iload_n 3, 1) := by decide +kernel
theorem dX8_run_18 : decode cX8_run 18 = .ok (.ifCond .eq 50, 3) := by decide +kernel
theorem dX8_run_21 : decode cX8_run 21 = .ok (.iload_n 2, 1) := by decide +kernel
theorem dX8_run_22 : decode cX8_run 22 = .ok (.iload_n 1, 1) := by decide +kernel
theorem dX8_run_23 : decode cX8_run 23 = .ok (.if_icmp .ge 45, 3) := by decide +kernel
theorem dX8_run_26 : decode cX8_run 26 = .ok (.iconst 0, 1) := by decide +kernel
theorem dX8_run_27 : decode cX8_run 27 = .ok (.istore_n 3, 1) := by decide +kernel
theorem dX8_run_28 : decode cX8_run 28 = .ok (.iconst 0, 1) := by decide +kernel
theorem dX8_run_29 : decode cX8_run 29 = .ok (.istore 4, 2) := by decide +kernel
theorem dX8_run_31 : decode cX8_run 31 = .ok (.iload 4, 2) := by decide +kernel
theorem dX8_run_33 : decode cX8_run 33 = .ok (.aload_n 0, 1) := by decide +kernel
theorem dX8_run_34 : decode cX8_run 34 = .ok (.getfield 67, 3) := by decide +kernel
theorem dX8_run_37 : decode cX8_run 37 = .ok (.if_icmp .ge 28, 3) := by decide +kernel
theorem dX8_run_40 : decode cX8_run 40 = .ok (.iload_n 2, 1) := by decide +kernel
theorem dX8_run_41 : decode cX8_run 41 = .ok (.iload_n 1, 1) := by decide +kernel
theorem dX8_run_42 : decode cX8_run 42 = .ok (.if_icmp .ge 23, 3) := by decide +kernel
theorem dX8_run_45 : decode cX8_run 45 = .ok (.aload_n 0, 1) := by decide +kernel
theorem dX8_run_46 : decode cX8_run 46 = .ok (.iload 4, 2) := by decide +kernel
theorem dX8_run_48 : decode cX8_run 48 = .ok (.invokevirtual 108, 3) := by decide +kernel
theorem dX8_run_51 : decode cX8_run 51 = .ok (.ifCond .le 8, 3) := by decide +kernel
theorem dX8_run_54 : decode cX8_run 54 = .ok (.iinc 2 1, 3) := by decide +kernel
theorem dX8_run_57 : decode cX8_run 57 = .ok (.iconst 1, 1) := by decide +kernel
theorem dX8_run_58 : decode cX8_run 58 = .ok (.istore_n 3, 1) := by decide +kernel
theorem dX8_run_59 : decode cX8_run 59 = .ok (.iinc 4 1, 3) := by decide +kernel
theorem dX8_run_62 : decode cX8_run 62 = .ok (.goto (-31), 3) := by decide +kernel
theorem dX8_run_65 : decode cX8_run 65 = .ok (.goto (-48), 3) := by decide +kernel
theorem dX8_run_68 : decode cX8_run 68 = .ok (.iload_n 2, 1) := by decide +kernel
theorem dX8_run_69 : decode cX8_run 69 = .ok (.ireturn, 1) := by decide +kernel
set_option maxRecDepth 20000 in
theorem ggX8_cancel_X8_in : GoodIn wsX8_cancel wsX8_in := goodIn_r _ [7] (by decide +kernel) (by decide +kernel)
set_option maxRecDepth 20000 in
theorem gX8_cancel_X8_in : GoodIn wsX8_cancel (va_wsS RX8 63 yX8_in wsX8_in) := goodIn_app (goodIn_of _ (by decide +kernel)) ggX8_cancel_X8_in
theorem dX8_cancel_0 : decode cX8_cancel 0 = .ok (.iload_n 1, 1) := by decide +kernel
theorem dX8_cancel_1 : decode cX8_cancel 1 = .ok (.iconst 0, 1) := by decide +kernel
theorem dX8_cancel_2 : decode cX8_cancel 2 = .ok (.aload_n 0, 1) := by decide +kernel
theorem dX8_cancel_3 : decode cX8_cancel 3 = .ok (.getfield 67, 3) := by decide +kernel
theorem dX8_cancel_6 : decode cX8_cancel 6 = .ok (.iconst 1, 1) := by decide +kernel
theorem dX8_cancel_7 : decode cX8_cancel 7 = .ok (.isub, 1) := by decide +kernel
theorem dX8_cancel_8 : decode cX8_cancel 8 = .ok (.invokestatic 63, 3) := by decide +kernel
theorem dX8_cancel_11 : decode cX8_cancel 11 = .ok (.ifCond .ne 5, 3) := by decide +kernel
theorem dX8_cancel_14 : decode cX8_cancel 14 = .ok (.iconst (-1), 1) := by decide +kernel
theorem dX8_cancel_15 : decode cX8_cancel 15 = .ok (.ireturn, 1) := by decide +kernel
theorem dX8_cancel_16 : decode cX8_cancel 16 = .ok (.aload_n 0, 1) := by decide +kernel
theorem dX8_cancel_17 : decode cX8_cancel 17 = .ok (.getfield 41, 3) := by decide +kernel
theorem dX8_cancel_20 : decode cX8_cancel 20 = .ok (.iload_n 1, 1) := by decide +kernel
theorem dX8_cancel_21 : decode cX8_cancel 21 = .ok (.iaload, 1) := by decide +kernel
theorem dX8_cancel_22 : decode cX8_cancel 22 = .ok (.ifCond .gt 12, 3) := by decide +kernel
theorem dX8_cancel_25 : decode cX8_cancel 25 = .ok (.aload_n 0, 1) := by decide +kernel
theorem dX8_cancel_26 : decode cX8_cancel 26 = .ok (.getfield 44, 3) := by decide +kernel
theorem dX8_cancel_29 : decode cX8_cancel 29 = .ok (.iload_n 1, 1) := by decide +kernel
theorem dX8_cancel_30 : decode cX8_cancel 30 = .ok (.baload, 1) := by decide +kernel
theorem dX8_cancel_31 : decode cX8_cancel 31 = .ok (.ifCond .eq 5, 3) := by decide +kernel
theorem dX8_cancel_34 : decode cX8_cancel 34 = .ok (.iconst 0, 1) := by decide +kernel
theorem dX8_cancel_35 : decode cX8_cancel 35 = .ok (.ireturn, 1) := by decide +kernel
theorem dX8_cancel_36 : decode cX8_cancel 36 = .ok (.aload_n 0, 1) := by decide +kernel
theorem dX8_cancel_37 : decode cX8_cancel 37 = .ok (.getfield 44, 3) := by decide +kernel
theorem dX8_cancel_40 : decode cX8_cancel 40 = .ok (.iload_n 1, 1) := by decide +kernel
theorem dX8_cancel_41 : decode cX8_cancel 41 = .ok (.iconst 1, 1) := by decide +kernel
theorem dX8_cancel_42 : decode cX8_cancel 42 = .ok (.bastore, 1) := by decide +kernel
theorem dX8_cancel_43 : decode cX8_cancel 43 = .ok (.iconst 1, 1) := by decide +kernel
theorem dX8_cancel_44 : decode cX8_cancel 44 = .ok (.ireturn, 1) := by decide +kernel
set_option maxRecDepth 20000 in
theorem ggX8_close_X8_finish : GoodIn wsX8_close wsX8_finish := goodIn_r _ [8, 3, 9, 10, 11, 12, 13, 14, 15, 16, 17, 18, 19, 20, 21, 22, 23, 24, 25, 26, 27, 28, 29, 30, 31, 32, 33, 34, 35] (by decide +kernel) (by decide +kernel)
set_option maxRecDepth 20000 in
theorem gX8_close_X8_finish : GoodIn wsX8_close (wsV RX8 104 RX8 yX8_finish wsX8_finish) := goodIn_app (goodIn_of _ (by decide +kernel)) ggX8_close_X8_finish
theorem dX8_close_0 : decode cX8_close 0 = .ok (.aload_n 0, 1) := by decide +kernel
theorem dX8_close_1 : decode cX8_close 1 = .ok (.getfield 70, 3) := by decide +kernel
theorem dX8_close_4 : decode cX8_close 4 = .ok (.ifCond .eq 6, 3) := by decide +kernel
theorem dX8_close_7 : decode cX8_close 7 = .ok (.bipush (-2), 2) := by decide +kernel
theorem dX8_close_9 : decode cX8_close 9 = .ok (.ireturn, 1) := by decide +kernel
theorem dX8_close_10 : decode cX8_close 10 = .ok (.aload_n 0, 1) := by decide +kernel
theorem dX8_close_11 : decode cX8_close 11 = .ok (.iconst 1, 1) := by decide +kernel
theorem dX8_close_12 : decode cX8_close 12 = .ok (.putfield 70, 3) := by decide +kernel
theorem dX8_close_15 : decode cX8_close 15 = .ok (.iconst 0, 1) := by decide +kernel
theorem dX8_close_16 : decode cX8_close 16 = .ok (.istore_n 1, 1) := by decide +kernel
theorem dX8_close_17 : decode cX8_close 17 = .ok (.iconst 0, 1) := by decide +kernel
theorem dX8_close_18 : decode cX8_close 18 = .ok (.istore_n 2, 1) := by decide +kernel
theorem dX8_close_19 : decode cX8_close 19 = .ok (.iload_n 2, 1) := by decide +kernel
theorem dX8_close_20 : decode cX8_close 20 = .ok (.aload_n 0, 1) := by decide +kernel
theorem dX8_close_21 : decode cX8_close 21 = .ok (.getfield 67, 3) := by decide +kernel
theorem dX8_close_24 : decode cX8_close 24 = .ok (.if_icmp .ge 27, 3) := by decide +kernel
theorem dX8_close_27 : decode cX8_close 27 = .ok (.aload_n 0, 1) := by decide +kernel
theorem dX8_close_28 : decode cX8_close 28 = .ok (.getfield 41, 3) := by decide +kernel
theorem dX8_close_31 : decode cX8_close 31 = .ok (.iload_n 2, 1) := by decide +kernel
theorem dX8_close_32 : decode cX8_close 32 = .ok (.iaload, 1) := by decide +kernel
theorem dX8_close_33 : decode cX8_close 33 = .ok (.ifCond .ne 12, 3) := by decide +kernel
theorem dX8_close_36 : decode cX8_close 36 = .ok (.aload_n 0, 1) := by decide +kernel
theorem dX8_close_37 : decode cX8_close 37 = .ok (.iload_n 2, 1) := by decide +kernel
theorem dX8_close_38 : decode cX8_close 38 = .ok (.iconst 4, 1) := by decide +kernel
theorem dX8_close_39 : decode cX8_close 39 = .ok (.invokevirtual 104, 3) := by decide +kernel
theorem dX8_close_42 : decode cX8_close 42 = .ok (.iinc 1 1, 3) := by decide +kernel
theorem dX8_close_45 : decode cX8_close 45 = .ok (.iinc 2 1, 3) := by decide +kernel
theorem dX8_close_48 : decode cX8_close 48 = .ok (.goto (-29), 3) := by decide +kernel
theorem dX8_close_51 : decode cX8_close 51 = .ok (.iload_n 1, 1) := by decide +kernel
theorem dX8_close_52 : decode cX8_close 52 = .ok (.ireturn, 1) := by decide +kernel
theorem dX8_pinned_0 : decode cX8_pinned 0 = .ok (.aload_n 0, 1) := by decide +kernel
theorem dX8_pinned_1 : decode cX8_pinned 1 = .ok (.getfield 41, 3) := by decide +kernel
theorem dX8_pinned_4 : decode cX8_pinned 4 = .ok (.iload_n 1, 1) := by decide +kernel
theorem dX8_pinned_5 : decode cX8_pinned 5 = .ok (.iaload, 1) := by decide +kernel
theorem dX8_pinned_6 : decode cX8_pinned 6 = .ok (.ifCond .ne 26, 3) := by decide +kernel
theorem dX8_pinned_9 : decode cX8_pinned 9 = .ok (.aload_n 0, 1) := by decide +kernel
theorem dX8_pinned_10 : decode cX8_pinned 10 = .ok (.getfield 17, 3) := by decide +kernel
theorem dX8_pinned_13 : decode cX8_pinned 13 = .ok (.iload_n 1, 1) := by decide +kernel
theorem dX8_pinned_14 : decode cX8_pinned 14 = .ok (.iaload, 1) := by decide +kernel
theorem dX8_pinned_15 : decode cX8_pinned 15 = .ok (.ifCond .eq 13, 3) := by decide +kernel
theorem dX8_pinned_18 : decode cX8_pinned 18 = .ok (.aload_n 0, 1) := by decide +kernel
theorem dX8_pinned_19 : decode cX8_pinned 19 = .ok (.getfield 17, 3) := by decide +kernel
theorem dX8_pinned_22 : decode cX8_pinned 22 = .ok (.iload_n 1, 1) := by decide +kernel
theorem dX8_pinned_23 : decode cX8_pinned 23 = .ok (.iaload, 1) := by decide +kernel
theorem dX8_pinned_24 : decode cX8_pinned 24 = .ok (.iconst 2, 1) := by decide +kernel
theorem dX8_pinned_25 : decode cX8_pinned 25 = .ok (.if_icmp .ne 7, 3) := by decide +kernel
theorem dX8_pinned_28 : decode cX8_pinned 28 = .ok (.iconst 1, 1) := by decide +kernel
theorem dX8_pinned_29 : decode cX8_pinned 29 = .ok (.goto 4, 3) := by decide +kernel
theorem dX8_pinned_32 : decode cX8_pinned 32 = .ok (.iconst 0, 1) := by decide +kernel
theorem dX8_pinned_33 : decode cX8_pinned 33 = .ok (.istore_n 2, 1) := by decide +kernel
theorem dX8_pinned_34 : decode cX8_pinned 34 = .ok (.iload_n 2, 1) := by decide +kernel
theorem dX8_pinned_35 : decode cX8_pinned 35 = .ok (.ifCond .eq 12, 3) := by decide +kernel
theorem dX8_pinned_38 : decode cX8_pinned 38 = .ok (.aload_n 0, 1) := by decide +kernel
theorem dX8_pinned_39 : decode cX8_pinned 39 = .ok (.getfield 38, 3) := by decide +kernel
theorem dX8_pinned_42 : decode cX8_pinned 42 = .ok (.iload_n 1, 1) := by decide +kernel
theorem dX8_pinned_43 : decode cX8_pinned 43 = .ok (.iaload, 1) := by decide +kernel
theorem dX8_pinned_44 : decode cX8_pinned 44 = .ok (.goto 4, 3) := by decide +kernel
theorem dX8_pinned_47 : decode cX8_pinned 47 = .ok (.iconst (-1), 1) := by decide +kernel
theorem dX8_pinned_48 : decode cX8_pinned 48 = .ok (.ireturn, 1) := by decide +kernel
set_option maxRecDepth 20000 in
theorem ggX8_isPinned_X8_pinned : GoodIn wsX8_isPinned wsX8_pinned := goodIn_r _ [6, 7, 8, 9, 10, 11, 12, 13, 14, 15, 16, 17, 18, 19, 20, 21, 22, 23, 24, 25, 26, 27, 28, 29, 30, 31] (by decide +kernel) (by decide +kernel)
set_option maxRecDepth 20000 in
theorem gX8_isPinned_X8_pinned : GoodIn wsX8_isPinned (wsV RX8 112 RX8 yX8_pinned wsX8_pinned) := goodIn_app (goodIn_of _ (by decide +kernel)) ggX8_isPinned_X8_pinned
theorem dX8_isPinned_0 : decode cX8_isPinned 0 = .ok (.iconst 0, 1) := by decide +kernel
theorem dX8_isPinned_1 : decode cX8_isPinned 1 = .ok (.istore_n 2, 1) := by decide +kernel
theorem dX8_isPinned_2 : decode cX8_isPinned 2 = .ok (.iconst 0, 1) := by decide +kernel
theorem dX8_isPinned_3 : decode cX8_isPinned 3 = .ok (.istore_n 3, 1) := by decide +kernel
theorem dX8_isPinned_4 : decode cX8_isPinned 4 = .ok (.iload_n 3, 1) := by decide +kernel
end
section
theorem dX8_isPinned_5 : decode cX8_isPinned 5 = .ok (.aload_n 0, 1) := by decide +kernel
theorem dX8_isPinned_6 : decode cX8_isPinned 6 = .ok (.getfield 67, 3) := by decide +kernel
theorem dX8_isPinned_9 : decode cX8_isPinned 9 = .ok (.if_icmp .ge 28, 3) := by decide +kernel
theorem dX8_isPinned_12 : decode cX8_isPinned 12 = .ok (.iload_n 2, 1) := by decide +kernel
theorem dX8_isPinned_13 : decode cX8_isPinned 13 = .ok (.ifCond .ne 12, 3) := by decide +kernel
theorem dX8_isPinned_16 : decode cX8_isPinned 16 = .ok (.aload_n 0, 1) := by decide +kernel
theorem dX8_isPinned_17 : decode cX8_isPinned 17 = .ok (.iload_n 3, 1) := by decide +kernel
theorem dX8_isPinned_18 : decode cX8_isPinned 18 = .ok (.invokevirtual 112, 3) := by decide +kernel
theorem dX8_isPinned_21 : decode cX8_isPinned 21 = .ok (.iload_n 1, 1) := by decide +kernel
theorem dX8_isPinned_22 : decode cX8_isPinned 22 = .ok (.if_icmp .ne 7, 3) := by decide +kernel
theorem dX8_isPinned_25 : decode cX8_isPinned 25 = .ok (.iconst 1, 1) := by decide +kernel
theorem dX8_isPinned_26 : decode cX8_isPinned 26 = .ok (.goto 4, 3) := by decide +kernel
theorem dX8_isPinned_29 : decode cX8_isPinned 29 = .ok (.iconst 0, 1) := by decide +kernel
theorem dX8_isPinned_30 : decode cX8_isPinned 30 = .ok (.istore_n 2, 1) := by decide +kernel
theorem dX8_isPinned_31 : decode cX8_isPinned 31 = .ok (.iinc 3 1, 3) := by decide +kernel
theorem dX8_isPinned_34 : decode cX8_isPinned 34 = .ok (.goto (-30), 3) := by decide +kernel
theorem dX8_isPinned_37 : decode cX8_isPinned 37 = .ok (.iload_n 2, 1) := by decide +kernel
theorem dX8_isPinned_38 : decode cX8_isPinned 38 = .ok (.ireturn, 1) := by decide +kernel
set_option maxRecDepth 20000 in
theorem ggX8_isKept_X8_isPinned : GoodIn wsX8_isKept wsX8_isPinned := goodIn_r _ [10, 2, 11, 12, 13, 9, 14, 4, 3, 5, 15, 16, 17, 18, 19, 20, 21, 22, 23, 24, 25, 26, 27, 28, 29, 30, 31, 32, 33, 34, 35, 36] (by decide +kernel) (by decide +kernel)
set_option maxRecDepth 20000 in
theorem gX8_isKept_X8_isPinned : GoodIn wsX8_isKept (wsV RX8 115 RX8 yX8_isPinned wsX8_isPinned) := goodIn_app (goodIn_of _ (by decide +kernel)) ggX8_isKept_X8_isPinned
theorem dX8_isKept_0 : decode cX8_isKept 0 = .ok (.iload_n 1, 1) := by decide +kernel
theorem dX8_isKept_1 : decode cX8_isKept 1 = .ok (.aload_n 0, 1) := by decide +kernel
theorem dX8_isKept_2 : decode cX8_isKept 2 = .ok (.getfield 13, 3) := by decide +kernel
theorem dX8_isKept_5 : decode cX8_isKept 5 = .ok (.iconst 1, 1) := by decide +kernel
theorem dX8_isKept_6 : decode cX8_isKept 6 = .ok (.isub, 1) := by decide +kernel
theorem dX8_isKept_7 : decode cX8_isKept 7 = .ok (.if_icmp .eq 11, 3) := by decide +kernel
theorem dX8_isKept_10 : decode cX8_isKept 10 = .ok (.aload_n 0, 1) := by decide +kernel
theorem dX8_isKept_11 : decode cX8_isKept 11 = .ok (.iload_n 1, 1) := by decide +kernel
theorem dX8_isKept_12 : decode cX8_isKept 12 = .ok (.invokevirtual 115, 3) := by decide +kernel
theorem dX8_isKept_15 : decode cX8_isKept 15 = .ok (.ifCond .eq 7, 3) := by decide +kernel
theorem dX8_isKept_18 : decode cX8_isKept 18 = .ok (.iconst 1, 1) := by decide +kernel
theorem dX8_isKept_19 : decode cX8_isKept 19 = .ok (.goto 4, 3) := by decide +kernel
theorem dX8_isKept_22 : decode cX8_isKept 22 = .ok (.iconst 0, 1) := by decide +kernel
theorem dX8_isKept_23 : decode cX8_isKept 23 = .ok (.istore_n 2, 1) := by decide +kernel
theorem dX8_isKept_24 : decode cX8_isKept 24 = .ok (.iconst 0, 1) := by decide +kernel
theorem dX8_isKept_25 : decode cX8_isKept 25 = .ok (.istore_n 3, 1) := by decide +kernel
theorem dX8_isKept_26 : decode cX8_isKept 26 = .ok (.iload_n 3, 1) := by decide +kernel
theorem dX8_isKept_27 : decode cX8_isKept 27 = .ok (.aload_n 0, 1) := by decide +kernel
theorem dX8_isKept_28 : decode cX8_isKept 28 = .ok (.getfield 67, 3) := by decide +kernel
theorem dX8_isKept_31 : decode cX8_isKept 31 = .ok (.if_icmp .ge 48, 3) := by decide +kernel
theorem dX8_isKept_34 : decode cX8_isKept 34 = .ok (.iload_n 2, 1) := by decide +kernel
theorem dX8_isKept_35 : decode cX8_isKept 35 = .ok (.ifCond .ne 32, 3) := by decide +kernel
theorem dX8_isKept_38 : decode cX8_isKept 38 = .ok (.aload_n 0, 1) := by decide +kernel
theorem dX8_isKept_39 : decode cX8_isKept 39 = .ok (.getfield 17, 3) := by decide +kernel
theorem dX8_isKept_42 : decode cX8_isKept 42 = .ok (.iload_n 3, 1) := by decide +kernel
theorem dX8_isKept_43 : decode cX8_isKept 43 = .ok (.iaload, 1) := by decide +kernel
theorem dX8_isKept_44 : decode cX8_isKept 44 = .ok (.iconst 3, 1) := by decide +kernel
theorem dX8_isKept_45 : decode cX8_isKept 45 = .ok (.if_icmp .ne 26, 3) := by decide +kernel
theorem dX8_isKept_48 : decode cX8_isKept 48 = .ok (.aload_n 0, 1) := by decide +kernel
theorem dX8_isKept_49 : decode cX8_isKept 49 = .ok (.getfield 41, 3) := by decide +kernel
theorem dX8_isKept_52 : decode cX8_isKept 52 = .ok (.iload_n 3, 1) := by decide +kernel
theorem dX8_isKept_53 : decode cX8_isKept 53 = .ok (.iaload, 1) := by decide +kernel
theorem dX8_isKept_54 : decode cX8_isKept 54 = .ok (.ifCond .ne 17, 3) := by decide +kernel
theorem dX8_isKept_57 : decode cX8_isKept 57 = .ok (.aload_n 0, 1) := by decide +kernel
theorem dX8_isKept_58 : decode cX8_isKept 58 = .ok (.getfield 38, 3) := by decide +kernel
theorem dX8_isKept_61 : decode cX8_isKept 61 = .ok (.iload_n 3, 1) := by decide +kernel
theorem dX8_isKept_62 : decode cX8_isKept 62 = .ok (.iaload, 1) := by decide +kernel
theorem dX8_isKept_63 : decode cX8_isKept 63 = .ok (.iload_n 1, 1) := by decide +kernel
theorem dX8_isKept_64 : decode cX8_isKept 64 = .ok (.if_icmp .ge 7, 3) := by decide +kernel
theorem dX8_isKept_67 : decode cX8_isKept 67 = .ok (.iconst 1, 1) := by decide +kernel
theorem dX8_isKept_68 : decode cX8_isKept 68 = .ok (.goto 4, 3) := by decide +kernel
theorem dX8_isKept_71 : decode cX8_isKept 71 = .ok (.iconst 0, 1) := by decide +kernel
theorem dX8_isKept_72 : decode cX8_isKept 72 = .ok (.istore_n 2, 1) := by decide +kernel
theorem dX8_isKept_73 : decode cX8_isKept 73 = .ok (.iinc 3 1, 3) := by decide +kernel
theorem dX8_isKept_76 : decode cX8_isKept 76 = .ok (.goto (-50), 3) := by decide +kernel
theorem dX8_isKept_79 : decode cX8_isKept 79 = .ok (.iload_n 2, 1) := by decide +kernel
theorem dX8_isKept_80 : decode cX8_isKept 80 = .ok (.ireturn, 1) := by decide +kernel
set_option maxRecDepth 20000 in
theorem ggX8_told_X8_in : GoodIn wsX8_told wsX8_in := goodIn_r _ [10] (by decide +kernel) (by decide +kernel)
set_option maxRecDepth 20000 in
theorem gX8_told_X8_in : GoodIn wsX8_told (va_wsS RX8 63 yX8_in wsX8_in) := goodIn_app (goodIn_of _ (by decide +kernel)) ggX8_told_X8_in
set_option maxRecDepth 20000 in
theorem ggX8_told_X8_waits : GoodIn wsX8_told wsX8_waits := goodIn_r _ [14, 3, 15, 2, 4, 16, 6, 17, 18, 19, 20, 9, 21, 22, 23, 24, 25, 26, 27, 28, 29, 30, 31, 32, 33, 34, 35, 36, 37, 38, 39, 40, 41, 42, 43] (by decide +kernel) (by decide +kernel)
set_option maxRecDepth 20000 in
theorem gX8_told_X8_waits : GoodIn wsX8_told (wsV RX8 92 RX8 yX8_waits wsX8_waits) := goodIn_app (goodIn_of _ (by decide +kernel)) ggX8_told_X8_waits
theorem dX8_told_0 : decode cX8_told 0 = .ok (.iload_n 1, 1) := by decide +kernel
theorem dX8_told_1 : decode cX8_told 1 = .ok (.iconst 0, 1) := by decide +kernel
theorem dX8_told_2 : decode cX8_told 2 = .ok (.aload_n 0, 1) := by decide +kernel
theorem dX8_told_3 : decode cX8_told 3 = .ok (.getfield 67, 3) := by decide +kernel
theorem dX8_told_6 : decode cX8_told 6 = .ok (.iconst 1, 1) := by decide +kernel
theorem dX8_told_7 : decode cX8_told 7 = .ok (.isub, 1) := by decide +kernel
theorem dX8_told_8 : decode cX8_told 8 = .ok (.invokestatic 63, 3) := by decide +kernel
theorem dX8_told_11 : decode cX8_told 11 = .ok (.ifCond .eq 12, 3) := by decide +kernel
theorem dX8_told_14 : decode cX8_told 14 = .ok (.iload_n 2, 1) := by decide +kernel
theorem dX8_told_15 : decode cX8_told 15 = .ok (.iconst 0, 1) := by decide +kernel
theorem dX8_told_16 : decode cX8_told 16 = .ok (.iconst 5, 1) := by decide +kernel
theorem dX8_told_17 : decode cX8_told 17 = .ok (.invokestatic 63, 3) := by decide +kernel
theorem dX8_told_20 : decode cX8_told 20 = .ok (.ifCond .ne 5, 3) := by decide +kernel
theorem dX8_told_23 : decode cX8_told 23 = .ok (.iconst (-1), 1) := by decide +kernel
theorem dX8_told_24 : decode cX8_told 24 = .ok (.ireturn, 1) := by decide +kernel
theorem dX8_told_25 : decode cX8_told 25 = .ok (.iload_n 2, 1) := by decide +kernel
theorem dX8_told_26 : decode cX8_told 26 = .ok (.tableswitch 93 0 4 #[34, 41, 48, 55, 62], 34) := by decide +kernel
theorem dX8_told_60 : decode cX8_told 60 = .ok (.aload_n 0, 1) := by decide +kernel
theorem dX8_told_61 : decode cX8_told 61 = .ok (.getfield 17, 3) := by decide +kernel
theorem dX8_told_64 : decode cX8_told 64 = .ok (.iload_n 1, 1) := by decide +kernel
theorem dX8_told_65 : decode cX8_told 65 = .ok (.iaload, 1) := by decide +kernel
theorem dX8_told_66 : decode cX8_told 66 = .ok (.ireturn, 1) := by decide +kernel
theorem dX8_told_67 : decode cX8_told 67 = .ok (.aload_n 0, 1) := by decide +kernel
theorem dX8_told_68 : decode cX8_told 68 = .ok (.getfield 41, 3) := by decide +kernel
theorem dX8_told_71 : decode cX8_told 71 = .ok (.iload_n 1, 1) := by decide +kernel
theorem dX8_told_72 : decode cX8_told 72 = .ok (.iaload, 1) := by decide +kernel
theorem dX8_told_73 : decode cX8_told 73 = .ok (.ireturn, 1) := by decide +kernel
theorem dX8_told_74 : decode cX8_told 74 = .ok (.aload_n 0, 1) := by decide +kernel
theorem dX8_told_75 : decode cX8_told 75 = .ok (.getfield 32, 3) := by decide +kernel
theorem dX8_told_78 : decode cX8_told 78 = .ok (.iload_n 1, 1) := by decide +kernel
theorem dX8_told_79 : decode cX8_told 79 = .ok (.iaload, 1) := by decide +kernel
theorem dX8_told_80 : decode cX8_told 80 = .ok (.ireturn, 1) := by decide +kernel
theorem dX8_told_81 : decode cX8_told 81 = .ok (.aload_n 0, 1) := by decide +kernel
theorem dX8_told_82 : decode cX8_told 82 = .ok (.getfield 35, 3) := by decide +kernel
theorem dX8_told_85 : decode cX8_told 85 = .ok (.iload_n 1, 1) := by decide +kernel
theorem dX8_told_86 : decode cX8_told 86 = .ok (.iaload, 1) := by decide +kernel
theorem dX8_told_87 : decode cX8_told 87 = .ok (.ireturn, 1) := by decide +kernel
theorem dX8_told_88 : decode cX8_told 88 = .ok (.aload_n 0, 1) := by decide +kernel
theorem dX8_told_89 : decode cX8_told 89 = .ok (.getfield 17, 3) := by decide +kernel
theorem dX8_told_92 : decode cX8_told 92 = .ok (.iload_n 1, 1) := by decide +kernel
theorem dX8_told_93 : decode cX8_told 93 = .ok (.iaload, 1) := by decide +kernel
theorem dX8_told_94 : decode cX8_told 94 = .ok (.iconst 2, 1) := by decide +kernel
theorem dX8_told_95 : decode cX8_told 95 = .ok (.if_icmp .ne 17, 3) := by decide +kernel
theorem dX8_told_98 : decode cX8_told 98 = .ok (.aload_n 0, 1) := by decide +kernel
theorem dX8_told_99 : decode cX8_told 99 = .ok (.getfield 41, 3) := by decide +kernel
theorem dX8_told_102 : decode cX8_told 102 = .ok (.iload_n 1, 1) := by decide +kernel
theorem dX8_told_103 : decode cX8_told 103 = .ok (.iaload, 1) := by decide +kernel
theorem dX8_told_104 : decode cX8_told 104 = .ok (.iconst 2, 1) := by decide +kernel
theorem dX8_told_105 : decode cX8_told 105 = .ok (.if_icmp .eq 7, 3) := by decide +kernel
theorem dX8_told_108 : decode cX8_told 108 = .ok (.iconst (-1), 1) := by decide +kernel
theorem dX8_told_109 : decode cX8_told 109 = .ok (.goto 9, 3) := by decide +kernel
theorem dX8_told_112 : decode cX8_told 112 = .ok (.aload_n 0, 1) := by decide +kernel
theorem dX8_told_113 : decode cX8_told 113 = .ok (.getfield 38, 3) := by decide +kernel
theorem dX8_told_116 : decode cX8_told 116 = .ok (.iload_n 1, 1) := by decide +kernel
theorem dX8_told_117 : decode cX8_told 117 = .ok (.iaload, 1) := by decide +kernel
theorem dX8_told_118 : decode cX8_told 118 = .ok (.ireturn, 1) := by decide +kernel
theorem dX8_told_119 : decode cX8_told 119 = .ok (.aload_n 0, 1) := by decide +kernel
theorem dX8_told_120 : decode cX8_told 120 = .ok (.iload_n 1, 1) := by decide +kernel
theorem dX8_told_121 : decode cX8_told 121 = .ok (.invokevirtual 92, 3) := by decide +kernel
theorem dX8_told_124 : decode cX8_told 124 = .ok (.ifCond .eq 7, 3) := by decide +kernel
theorem dX8_told_127 : decode cX8_told 127 = .ok (.iconst 1, 1) := by decide +kernel
theorem dX8_told_128 : decode cX8_told 128 = .ok (.goto 4, 3) := by decide +kernel
theorem dX8_told_131 : decode cX8_told 131 = .ok (.iconst 0, 1) := by decide +kernel
theorem dX8_told_132 : decode cX8_told 132 = .ok (.ireturn, 1) := by decide +kernel
set_option maxRecDepth 20000 in
theorem ggX8_ended_X8_in : GoodIn wsX8_ended wsX8_in := goodIn_r _ [8] (by decide +kernel) (by decide +kernel)
set_option maxRecDepth 20000 in
theorem gX8_ended_X8_in : GoodIn wsX8_ended (va_wsS RX8 63 yX8_in wsX8_in) := goodIn_app (goodIn_of _ (by decide +kernel)) ggX8_ended_X8_in
theorem dX8_ended_0 : decode cX8_ended 0 = .ok (.iload_n 2, 1) := by decide +kernel
theorem dX8_ended_1 : decode cX8_ended 1 = .ok (.iconst 0, 1) := by decide +kernel
theorem dX8_ended_2 : decode cX8_ended 2 = .ok (.iconst 2, 1) := by decide +kernel
theorem dX8_ended_3 : decode cX8_ended 3 = .ok (.invokestatic 63, 3) := by decide +kernel
theorem dX8_ended_6 : decode cX8_ended 6 = .ok (.ifCond .ne 5, 3) := by decide +kernel
theorem dX8_ended_9 : decode cX8_ended 9 = .ok (.iconst (-1), 1) := by decide +kernel
theorem dX8_ended_10 : decode cX8_ended 10 = .ok (.ireturn, 1) := by decide +kernel
theorem dX8_ended_11 : decode cX8_ended 11 = .ok (.iload_n 1, 1) := by decide +kernel
theorem dX8_ended_12 : decode cX8_ended 12 = .ok (.iconst 0, 1) := by decide +kernel
theorem dX8_ended_13 : decode cX8_ended 13 = .ok (.aload_n 0, 1) := by decide +kernel
theorem dX8_ended_14 : decode cX8_ended 14 = .ok (.getfield 82, 3) := by decide +kernel
theorem dX8_ended_17 : decode cX8_ended 17 = .ok (.iconst 1, 1) := by decide +kernel
theorem dX8_ended_18 : decode cX8_ended 18 = .ok (.isub, 1) := by decide +kernel
theorem dX8_ended_19 : decode cX8_ended 19 = .ok (.invokestatic 63, 3) := by decide +kernel
theorem dX8_ended_22 : decode cX8_ended 22 = .ok (.ifCond .ne 6, 3) := by decide +kernel
theorem dX8_ended_25 : decode cX8_ended 25 = .ok (.bipush (-2), 2) := by decide +kernel
theorem dX8_ended_27 : decode cX8_ended 27 = .ok (.ireturn, 1) := by decide +kernel
theorem dX8_ended_28 : decode cX8_ended 28 = .ok (.iload_n 2, 1) := by decide +kernel
theorem dX8_ended_29 : decode cX8_ended 29 = .ok (.ifCond .ne 12, 3) := by decide +kernel
theorem dX8_ended_32 : decode cX8_ended 32 = .ok (.aload_n 0, 1) := by decide +kernel
theorem dX8_ended_33 : decode cX8_ended 33 = .ok (.getfield 54, 3) := by decide +kernel
theorem dX8_ended_36 : decode cX8_ended 36 = .ok (.iload_n 1, 1) := by decide +kernel
theorem dX8_ended_37 : decode cX8_ended 37 = .ok (.iaload, 1) := by decide +kernel
theorem dX8_ended_38 : decode cX8_ended 38 = .ok (.goto 23, 3) := by decide +kernel
theorem dX8_ended_41 : decode cX8_ended 41 = .ok (.iload_n 2, 1) := by decide +kernel
theorem dX8_ended_42 : decode cX8_ended 42 = .ok (.iconst 1, 1) := by decide +kernel
theorem dX8_ended_43 : decode cX8_ended 43 = .ok (.if_icmp .ne 12, 3) := by decide +kernel
theorem dX8_ended_46 : decode cX8_ended 46 = .ok (.aload_n 0, 1) := by decide +kernel
theorem dX8_ended_47 : decode cX8_ended 47 = .ok (.getfield 57, 3) := by decide +kernel
theorem dX8_ended_50 : decode cX8_ended 50 = .ok (.iload_n 1, 1) := by decide +kernel
theorem dX8_ended_51 : decode cX8_ended 51 = .ok (.iaload, 1) := by decide +kernel
theorem dX8_ended_52 : decode cX8_ended 52 = .ok (.goto 9, 3) := by decide +kernel
theorem dX8_ended_55 : decode cX8_ended 55 = .ok (.aload_n 0, 1) := by decide +kernel
theorem dX8_ended_56 : decode cX8_ended 56 = .ok (.getfield 60, 3) := by decide +kernel
theorem dX8_ended_59 : decode cX8_ended 59 = .ok (.iload_n 1, 1) := by decide +kernel
theorem dX8_ended_60 : decode cX8_ended 60 = .ok (.iaload, 1) := by decide +kernel
theorem dX8_ended_61 : decode cX8_ended 61 = .ok (.ireturn, 1) := by decide +kernel
set_option maxRecDepth 20000 in
theorem ggX8_cell_X8_in : GoodIn wsX8_cell wsX8_in := goodIn_r _ [6] (by decide +kernel) (by decide +kernel)
set_option maxRecDepth 20000 in
theorem gX8_cell_X8_in : GoodIn wsX8_cell (va_wsS RX8 63 yX8_in wsX8_in) := goodIn_app (goodIn_of _ (by decide +kernel)) ggX8_cell_X8_in
set_option maxRecDepth 20000 in
theorem ggX8_cell_X8_isKept : GoodIn wsX8_cell wsX8_isKept := goodIn_r _ [10, 1, 11, 12, 13, 14, 15, 16, 17, 5, 18, 19, 20, 21, 22, 23, 24, 25, 26, 27, 28, 29, 30, 31, 32, 33, 34, 35, 36, 37, 38, 39, 40, 41, 42, 43, 44] (by decide +kernel) (by decide +kernel)
set_option maxRecDepth 20000 in
theorem gX8_cell_X8_isKept : GoodIn wsX8_cell (wsV RX8 118 RX8 yX8_isKept wsX8_isKept) := goodIn_app (goodIn_of _ (by decide +kernel)) ggX8_cell_X8_isKept
theorem dX8_cell_0 : decode cX8_cell 0 = .ok (.iload_n 2, 1) := by decide +kernel
theorem dX8_cell_1 : decode cX8_cell 1 = .ok (.iconst 0, 1) := by decide +kernel
theorem dX8_cell_2 : decode cX8_cell 2 = .ok (.bipush 15, 2) := by decide +kernel
theorem dX8_cell_4 : decode cX8_cell 4 = .ok (.invokestatic 63, 3) := by decide +kernel
theorem dX8_cell_7 : decode cX8_cell 7 = .ok (.ifCond .eq 17, 3) := by decide +kernel
theorem dX8_cell_10 : decode cX8_cell 10 = .ok (.iload_n 1, 1) := by decide +kernel
theorem dX8_cell_11 : decode cX8_cell 11 = .ok (.iconst 0, 1) := by decide +kernel
theorem dX8_cell_12 : decode cX8_cell 12 = .ok (.aload_n 0, 1) := by decide +kernel
theorem dX8_cell_13 : decode cX8_cell 13 = .ok (.getfield 13, 3) := by decide +kernel
theorem dX8_cell_16 : decode cX8_cell 16 = .ok (.iconst 1, 1) := by decide +kernel
theorem dX8_cell_17 : decode cX8_cell 17 = .ok (.isub, 1) := by decide +kernel
theorem dX8_cell_18 : decode cX8_cell 18 = .ok (.invokestatic 63, 3) := by decide +kernel
theorem dX8_cell_21 : decode cX8_cell 21 = .ok (.ifCond .ne 5, 3) := by decide +kernel
theorem dX8_cell_24 : decode cX8_cell 24 = .ok (.iconst (-1), 1) := by decide +kernel
theorem dX8_cell_25 : decode cX8_cell 25 = .ok (.ireturn, 1) := by decide +kernel
theorem dX8_cell_26 : decode cX8_cell 26 = .ok (.aload_n 0, 1) := by decide +kernel
theorem dX8_cell_27 : decode cX8_cell 27 = .ok (.iload_n 1, 1) := by decide +kernel
theorem dX8_cell_28 : decode cX8_cell 28 = .ok (.invokevirtual 118, 3) := by decide +kernel
theorem dX8_cell_31 : decode cX8_cell 31 = .ok (.ifCond .eq 17, 3) := by decide +kernel
theorem dX8_cell_34 : decode cX8_cell 34 = .ok (.aload_n 0, 1) := by decide +kernel
theorem dX8_cell_35 : decode cX8_cell 35 = .ok (.getfield 7, 3) := by decide +kernel
theorem dX8_cell_38 : decode cX8_cell 38 = .ok (.bipush 16, 2) := by decide +kernel
theorem dX8_cell_40 : decode cX8_cell 40 = .ok (.iload_n 1, 1) := by decide +kernel
theorem dX8_cell_41 : decode cX8_cell 41 = .ok (.imul, 1) := by decide +kernel
theorem dX8_cell_42 : decode cX8_cell 42 = .ok (.iload_n 2, 1) := by decide +kernel
theorem dX8_cell_43 : decode cX8_cell 43 = .ok (.iadd, 1) := by decide +kernel
theorem dX8_cell_44 : decode cX8_cell 44 = .ok (.iaload, 1) := by decide +kernel
theorem dX8_cell_45 : decode cX8_cell 45 = .ok (.goto 5, 3) := by decide +kernel
theorem dX8_cell_48 : decode cX8_cell 48 = .ok (.bipush (-2), 2) := by decide +kernel
theorem dX8_cell_50 : decode cX8_cell 50 = .ok (.ireturn, 1) := by decide +kernel
set_option maxRecDepth 20000 in
theorem ggX8_count_X8_isKept : GoodIn wsX8_count wsX8_isKept := goodIn_r _ [10, 1, 4, 11, 5, 12, 13, 14, 15, 9, 16, 17, 18, 19, 20, 21, 22, 23, 24, 25, 26, 27, 28, 29, 30, 31, 32, 33, 34, 35, 36, 37, 38, 39, 40, 41, 42] (by decide +kernel) (by decide +kernel)
set_option maxRecDepth 20000 in
theorem gX8_count_X8_isKept : GoodIn wsX8_count (wsV RX8 118 RX8 yX8_isKept wsX8_isKept) := goodIn_app (goodIn_of _ (by decide +kernel)) ggX8_count_X8_isKept
set_option maxRecDepth 20000 in
theorem ggX8_count_X8_isPinned : GoodIn wsX8_count wsX8_isPinned := goodIn_r _ [16, 4, 17, 18, 19, 9, 20, 5, 11, 12, 21, 22, 23, 24, 25, 26, 27, 28, 29, 30, 31, 32, 33, 34, 35, 36, 37, 38, 39, 40, 41, 42] (by decide +kernel) (by decide +kernel)
set_option maxRecDepth 20000 in
theorem gX8_count_X8_isPinned : GoodIn wsX8_count (wsV RX8 115 RX8 yX8_isPinned wsX8_isPinned) := goodIn_app (goodIn_of _ (by decide +kernel)) ggX8_count_X8_isPinned
theorem dX8_count_0 : decode cX8_count 0 = .ok (.iconst 0, 1) := by decide +kernel
theorem dX8_count_1 : decode cX8_count 1 = .ok (.istore_n 2, 1) := by decide +kernel
theorem dX8_count_2 : decode cX8_count 2 = .ok (.iload_n 1, 1) := by decide +kernel
theorem dX8_count_3 : decode cX8_count 3 = .ok (.tableswitch 155 0 5 #[37, 42, 76, 110, 115, 120], 37) := by decide +kernel
theorem dX8_count_40 : decode cX8_count 40 = .ok (.aload_n 0, 1) := by decide +kernel
theorem dX8_count_41 : decode cX8_count 41 = .ok (.getfield 13, 3) := by decide +kernel
theorem dX8_count_44 : decode cX8_count 44 = .ok (.ireturn, 1) := by decide +kernel
theorem dX8_count_45 : decode cX8_count 45 = .ok (.iconst 0, 1) := by decide +kernel
theorem dX8_count_46 : decode cX8_count 46 = .ok (.istore_n 3, 1) := by decide +kernel
theorem dX8_count_47 : decode cX8_count 47 = .ok (.iload_n 3, 1) := by decide +kernel
theorem dX8_count_48 : decode cX8_count 48 = .ok (.aload_n 0, 1) := by decide +kernel
theorem dX8_count_49 : decode cX8_count 49 = .ok (.getfield 13, 3) := by decide +kernel
theorem dX8_count_52 : decode cX8_count 52 = .ok (.if_icmp .ge 25, 3) := by decide +kernel
theorem dX8_count_55 : decode cX8_count 55 = .ok (.iload_n 2, 1) := by decide +kernel
theorem dX8_count_56 : decode cX8_count 56 = .ok (.aload_n 0, 1) := by decide +kernel
theorem dX8_count_57 : decode cX8_count 57 = .ok (.iload_n 3, 1) := by decide +kernel
theorem dX8_count_58 : decode cX8_count 58 = .ok (.invokevirtual 118, 3) := by decide +kernel
theorem dX8_count_61 : decode cX8_count 61 = .ok (.ifCond .eq 7, 3) := by decide +kernel
theorem dX8_count_64 : decode cX8_count 64 = .ok (.iconst 1, 1) := by decide +kernel
theorem dX8_count_65 : decode cX8_count 65 = .ok (.goto 4, 3) := by decide +kernel
theorem dX8_count_68 : decode cX8_count 68 = .ok (.iconst 0, 1) := by decide +kernel
theorem dX8_count_69 : decode cX8_count 69 = .ok (.iadd, 1) := by decide +kernel
theorem dX8_count_70 : decode cX8_count 70 = .ok (.istore_n 2, 1) := by decide +kernel
theorem dX8_count_71 : decode cX8_count 71 = .ok (.iinc 3 1, 3) := by decide +kernel
theorem dX8_count_74 : decode cX8_count 74 = .ok (.goto (-27), 3) := by decide +kernel
theorem dX8_count_77 : decode cX8_count 77 = .ok (.iload_n 2, 1) := by decide +kernel
theorem dX8_count_78 : decode cX8_count 78 = .ok (.ireturn, 1) := by decide +kernel
theorem dX8_count_79 : decode cX8_count 79 = .ok (.iconst 0, 1) := by decide +kernel
theorem dX8_count_80 : decode cX8_count 80 = .ok (.istore_n 3, 1) := by decide +kernel
theorem dX8_count_81 : decode cX8_count 81 = .ok (.iload_n 3, 1) := by decide +kernel
theorem dX8_count_82 : decode cX8_count 82 = .ok (.aload_n 0, 1) := by decide +kernel
theorem dX8_count_83 : decode cX8_count 83 = .ok (.getfield 13, 3) := by decide +kernel
theorem dX8_count_86 : decode cX8_count 86 = .ok (.if_icmp .ge 25, 3) := by decide +kernel
theorem dX8_count_89 : decode cX8_count 89 = .ok (.iload_n 2, 1) := by decide +kernel
theorem dX8_count_90 : decode cX8_count 90 = .ok (.aload_n 0, 1) := by decide +kernel
theorem dX8_count_91 : decode cX8_count 91 = .ok (.iload_n 3, 1) := by decide +kernel
theorem dX8_count_92 : decode cX8_count 92 = .ok (.invokevirtual 115, 3) := by decide +kernel
theorem dX8_count_95 : decode cX8_count 95 = .ok (.ifCond .eq 7, 3) := by decide +kernel
theorem dX8_count_98 : decode cX8_count 98 = .ok (.iconst 1, 1) := by decide +kernel
theorem dX8_count_99 : decode cX8_count 99 = .ok (.goto 4, 3) := by decide +kernel
theorem dX8_count_102 : decode cX8_count 102 = .ok (.iconst 0, 1) := by decide +kernel
theorem dX8_count_103 : decode cX8_count 103 = .ok (.iadd, 1) := by decide +kernel
theorem dX8_count_104 : decode cX8_count 104 = .ok (.istore_n 2, 1) := by decide +kernel
theorem dX8_count_105 : decode cX8_count 105 = .ok (.iinc 3 1, 3) := by decide +kernel
theorem dX8_count_108 : decode cX8_count 108 = .ok (.goto (-27), 3) := by decide +kernel
theorem dX8_count_111 : decode cX8_count 111 = .ok (.iload_n 2, 1) := by decide +kernel
theorem dX8_count_112 : decode cX8_count 112 = .ok (.ireturn, 1) := by decide +kernel
theorem dX8_count_113 : decode cX8_count 113 = .ok (.aload_n 0, 1) := by decide +kernel
theorem dX8_count_114 : decode cX8_count 114 = .ok (.getfield 85, 3) := by decide +kernel
theorem dX8_count_117 : decode cX8_count 117 = .ok (.ireturn, 1) := by decide +kernel
theorem dX8_count_118 : decode cX8_count 118 = .ok (.aload_n 0, 1) := by decide +kernel
theorem dX8_count_119 : decode cX8_count 119 = .ok (.getfield 95, 3) := by decide +kernel
theorem dX8_count_122 : decode cX8_count 122 = .ok (.ireturn, 1) := by decide +kernel
theorem dX8_count_123 : decode cX8_count 123 = .ok (.iconst 0, 1) := by decide +kernel
theorem dX8_count_124 : decode cX8_count 124 = .ok (.istore_n 3, 1) := by decide +kernel
theorem dX8_count_125 : decode cX8_count 125 = .ok (.iload_n 3, 1) := by decide +kernel
theorem dX8_count_126 : decode cX8_count 126 = .ok (.aload_n 0, 1) := by decide +kernel
theorem dX8_count_127 : decode cX8_count 127 = .ok (.getfield 67, 3) := by decide +kernel
theorem dX8_count_130 : decode cX8_count 130 = .ok (.if_icmp .ge 26, 3) := by decide +kernel
theorem dX8_count_133 : decode cX8_count 133 = .ok (.iload_n 2, 1) := by decide +kernel
theorem dX8_count_134 : decode cX8_count 134 = .ok (.aload_n 0, 1) := by decide +kernel
theorem dX8_count_135 : decode cX8_count 135 = .ok (.getfield 41, 3) := by decide +kernel
theorem dX8_count_138 : decode cX8_count 138 = .ok (.iload_n 3, 1) := by decide +kernel
theorem dX8_count_139 : decode cX8_count 139 = .ok (.iaload, 1) := by decide +kernel
theorem dX8_count_140 : decode cX8_count 140 = .ok (.ifCond .ne 7, 3) := by decide +kernel
theorem dX8_count_143 : decode cX8_count 143 = .ok (.iconst 1, 1) := by decide +kernel
theorem dX8_count_144 : decode cX8_count 144 = .ok (.goto 4, 3) := by decide +kernel
theorem dX8_count_147 : decode cX8_count 147 = .ok (.iconst 0, 1) := by decide +kernel
theorem dX8_count_148 : decode cX8_count 148 = .ok (.iadd, 1) := by decide +kernel
theorem dX8_count_149 : decode cX8_count 149 = .ok (.istore_n 2, 1) := by decide +kernel
theorem dX8_count_150 : decode cX8_count 150 = .ok (.iinc 3 1, 3) := by decide +kernel
theorem dX8_count_153 : decode cX8_count 153 = .ok (.goto (-28), 3) := by decide +kernel
theorem dX8_count_156 : decode cX8_count 156 = .ok (.iload_n 2, 1) := by decide +kernel
theorem dX8_count_157 : decode cX8_count 157 = .ok (.ireturn, 1) := by decide +kernel
theorem dX8_count_158 : decode cX8_count 158 = .ok (.iconst (-1), 1) := by decide +kernel
theorem dX8_count_159 : decode cX8_count 159 = .ok (.ireturn, 1) := by decide +kernel
theorem dJ9_max_7cf53_0 : decode cJ9_max_7cf53 0 = .ok (.iload_n 0, 1) := by decide +kernel
theorem dJ9_max_7cf53_1 : decode cJ9_max_7cf53 1 = .ok (.iload_n 1, 1) := by decide +kernel
theorem dJ9_max_7cf53_2 : decode cJ9_max_7cf53 2 = .ok (.if_icmp .lt 7, 3) := by decide +kernel
theorem dJ9_max_7cf53_5 : decode cJ9_max_7cf53 5 = .ok (.iload_n 0, 1) := by decide +kernel
theorem dJ9_max_7cf53_6 : decode cJ9_max_7cf53 6 = .ok (.goto 4, 3) := by decide +kernel
theorem dJ9_max_7cf53_9 : decode cJ9_max_7cf53 9 = .ok (.iload_n 1, 1) := by decide +kernel
theorem dJ9_max_7cf53_10 : decode cJ9_max_7cf53 10 = .ok (.ireturn, 1) := by decide +kernel
theorem dJ9_min_7cf53_0 : decode cJ9_min_7cf53 0 = .ok (.iload_n 0, 1) := by decide +kernel
theorem dJ9_min_7cf53_1 : decode cJ9_min_7cf53 1 = .ok (.iload_n 1, 1) := by decide +kernel
theorem dJ9_min_7cf53_2 : decode cJ9_min_7cf53 2 = .ok (.if_icmp .gt 7, 3) := by decide +kernel
theorem dJ9_min_7cf53_5 : decode cJ9_min_7cf53 5 = .ok (.iload_n 0, 1) := by decide +kernel
theorem dJ9_min_7cf53_6 : decode cJ9_min_7cf53 6 = .ok (.goto 4, 3) := by decide +kernel
theorem dJ9_min_7cf53_9 : decode cJ9_min_7cf53 9 = .ok (.iload_n 1, 1) := by decide +kernel
theorem dJ9_min_7cf53_10 : decode cJ9_min_7cf53 10 = .ok (.ireturn, 1) := by decide +kernel
theorem dJxa1e45_init_da8c8_0 : decode cJxa1e45_init_da8c8 0 = .ok (.aload_n 0, 1) := by decide +kernel
theorem dJxa1e45_init_da8c8_1 : decode cJxa1e45_init_da8c8 1 = .ok (.invokespecial 1, 3) := by decide +kernel
theorem dJxa1e45_init_da8c8_4 : decode cJxa1e45_init_da8c8 4 = .ok (.return_, 1) := by decide +kernel
set_option maxRecDepth 20000 in
theorem ggJxc12de_init_da8c8_Jxa1e45_init_da8c8 : GoodIn wsJxc12de_init_da8c8 wsJxa1e45_init_da8c8 := goodIn_r _ [5, 6, 7, 8] (by decide +kernel) (by decide +kernel)
set_option maxRecDepth 20000 in
theorem gJxc12de_init_da8c8_Jxa1e45_init_da8c8 : GoodIn wsJxc12de_init_da8c8 (wsJxa1e45_init_da8c8) := ggJxc12de_init_da8c8_Jxa1e45_init_da8c8
theorem dJxc12de_init_da8c8_0 : decode cJxc12de_init_da8c8 0 = .ok (.aload_n 0, 1) := by decide +kernel
theorem dJxc12de_init_da8c8_1 : decode cJxc12de_init_da8c8 1 = .ok (.invokespecial 1, 3) := by decide +kernel
theorem dJxc12de_init_da8c8_4 : decode cJxc12de_init_da8c8 4 = .ok (.aload_n 0, 1) := by decide +kernel
theorem dJxc12de_init_da8c8_5 : decode cJxc12de_init_da8c8 5 = .ok (.iconst 0, 1) := by decide +kernel
theorem dJxc12de_init_da8c8_6 : decode cJxc12de_init_da8c8 6 = .ok (.putfield 7, 3) := by decide +kernel
end
section
theorem dJxc12de_init_da8c8_9 : decode cJxc12de_init_da8c8 9 = .ok (.return_, 1) := by decide +kernel
set_option maxRecDepth 20000 in
theorem ggJx4a65c_init_da8c8_Jxc12de_init_da8c8 : GoodIn wsJx4a65c_init_da8c8 wsJxc12de_init_da8c8 := goodIn_r _ [6, 7, 8, 9, 10, 11, 12, 13, 14, 15, 16, 17] (by decide +kernel) (by decide +kernel)
set_option maxRecDepth 20000 in
theorem gJx4a65c_init_da8c8_Jxc12de_init_da8c8 : GoodIn wsJx4a65c_init_da8c8 (wsJxc12de_init_da8c8) := ggJx4a65c_init_da8c8_Jxc12de_init_da8c8
theorem dJx4a65c_init_da8c8_0 : decode cJx4a65c_init_da8c8 0 = .ok (.aload_n 0, 1) := by decide +kernel
theorem dJx4a65c_init_da8c8_1 : decode cJx4a65c_init_da8c8 1 = .ok (.invokespecial 1, 3) := by decide +kernel
theorem dJx4a65c_init_da8c8_4 : decode cJx4a65c_init_da8c8 4 = .ok (.aload_n 0, 1) := by decide +kernel
theorem dJx4a65c_init_da8c8_5 : decode cJx4a65c_init_da8c8 5 = .ok (.getstatic 39, 3) := by decide +kernel
theorem dJx4a65c_init_da8c8_8 : decode cJx4a65c_init_da8c8 8 = .ok (.putfield 9, 3) := by decide +kernel
theorem dJx4a65c_init_da8c8_11 : decode cJx4a65c_init_da8c8 11 = .ok (.return_, 1) := by decide +kernel
set_option maxRecDepth 20000 in
theorem ggJx4a65c_grow_92f84_J8_newLength_cabcc : GoodIn wsJx4a65c_grow_92f84 wsJ8_newLength_cabcc := goodIn_r _ [11, 12, 4, 5, 6, 13, 14, 15, 10, 16] (by decide +kernel) (by decide +kernel)
set_option maxRecDepth 20000 in
theorem gJx4a65c_grow_92f84_J8_newLength_cabcc : GoodIn wsJx4a65c_grow_92f84 (va_wsS RJx4a65c 73 yJ8_newLength_cabcc wsJ8_newLength_cabcc) := goodIn_app (goodIn_of _ (by decide +kernel)) ggJx4a65c_grow_92f84_J8_newLength_cabcc
set_option maxRecDepth 20000 in
theorem ggJx4a65c_grow_92f84_J7_copyOf_1904c : GoodIn wsJx4a65c_grow_92f84 wsJ7_copyOf_1904c := goodIn_r _ [20, 21, 22, 23, 24, 25, 26, 19, 27, 28, 29, 30, 31, 5, 32, 33, 34, 35, 36] (by decide +kernel) (by decide +kernel)
set_option maxRecDepth 20000 in
theorem gJx4a65c_grow_92f84_J7_copyOf_1904c : GoodIn wsJx4a65c_grow_92f84 (va_wsS RJx4a65c 66 yJ7_copyOf_1904c wsJ7_copyOf_1904c) := goodIn_app (goodIn_of _ (by decide +kernel)) ggJx4a65c_grow_92f84_J7_copyOf_1904c
theorem dJx4a65c_grow_92f84_0 : decode cJx4a65c_grow_92f84 0 = .ok (.aload_n 0, 1) := by decide +kernel
theorem dJx4a65c_grow_92f84_1 : decode cJx4a65c_grow_92f84 1 = .ok (.getfield 9, 3) := by decide +kernel
theorem dJx4a65c_grow_92f84_4 : decode cJx4a65c_grow_92f84 4 = .ok (.arraylength, 1) := by decide +kernel
theorem dJx4a65c_grow_92f84_5 : decode cJx4a65c_grow_92f84 5 = .ok (.istore_n 2, 1) := by decide +kernel
theorem dJx4a65c_grow_92f84_6 : decode cJx4a65c_grow_92f84 6 = .ok (.iload_n 2, 1) := by decide +kernel
theorem dJx4a65c_grow_92f84_7 : decode cJx4a65c_grow_92f84 7 = .ok (.ifCond .gt 13, 3) := by decide +kernel
theorem dJx4a65c_grow_92f84_10 : decode cJx4a65c_grow_92f84 10 = .ok (.aload_n 0, 1) := by decide +kernel
theorem dJx4a65c_grow_92f84_11 : decode cJx4a65c_grow_92f84 11 = .ok (.getfield 9, 3) := by decide +kernel
theorem dJx4a65c_grow_92f84_14 : decode cJx4a65c_grow_92f84 14 = .ok (.getstatic 39, 3) := by decide +kernel
theorem dJx4a65c_grow_92f84_17 : decode cJx4a65c_grow_92f84 17 = .ok (.if_acmp .eq 28, 3) := by decide +kernel
theorem dJx4a65c_grow_92f84_20 : decode cJx4a65c_grow_92f84 20 = .ok (.iload_n 2, 1) := by decide +kernel
theorem dJx4a65c_grow_92f84_21 : decode cJx4a65c_grow_92f84 21 = .ok (.iload_n 1, 1) := by decide +kernel
theorem dJx4a65c_grow_92f84_22 : decode cJx4a65c_grow_92f84 22 = .ok (.iload_n 2, 1) := by decide +kernel
theorem dJx4a65c_grow_92f84_23 : decode cJx4a65c_grow_92f84 23 = .ok (.isub, 1) := by decide +kernel
theorem dJx4a65c_grow_92f84_24 : decode cJx4a65c_grow_92f84 24 = .ok (.iload_n 2, 1) := by decide +kernel
theorem dJx4a65c_grow_92f84_25 : decode cJx4a65c_grow_92f84 25 = .ok (.iconst 1, 1) := by decide +kernel
theorem dJx4a65c_grow_92f84_26 : decode cJx4a65c_grow_92f84 26 = .ok (.ishr, 1) := by decide +kernel
theorem dJx4a65c_grow_92f84_27 : decode cJx4a65c_grow_92f84 27 = .ok (.invokestatic 73, 3) := by decide +kernel
theorem dJx4a65c_grow_92f84_30 : decode cJx4a65c_grow_92f84 30 = .ok (.istore_n 3, 1) := by decide +kernel
theorem dJx4a65c_grow_92f84_31 : decode cJx4a65c_grow_92f84 31 = .ok (.aload_n 0, 1) := by decide +kernel
theorem dJx4a65c_grow_92f84_32 : decode cJx4a65c_grow_92f84 32 = .ok (.aload_n 0, 1) := by decide +kernel
theorem dJx4a65c_grow_92f84_33 : decode cJx4a65c_grow_92f84 33 = .ok (.getfield 9, 3) := by decide +kernel
theorem dJx4a65c_grow_92f84_36 : decode cJx4a65c_grow_92f84 36 = .ok (.iload_n 3, 1) := by decide +kernel
theorem dJx4a65c_grow_92f84_37 : decode cJx4a65c_grow_92f84 37 = .ok (.invokestatic 66, 3) := by decide +kernel
theorem dJx4a65c_grow_92f84_40 : decode cJx4a65c_grow_92f84 40 = .ok (.dup_x1, 1) := by decide +kernel
theorem dJx4a65c_grow_92f84_41 : decode cJx4a65c_grow_92f84 41 = .ok (.putfield 9, 3) := by decide +kernel
theorem dJx4a65c_grow_92f84_44 : decode cJx4a65c_grow_92f84 44 = .ok (.areturn, 1) := by decide +kernel
theorem dJx4a65c_grow_92f84_45 : decode cJx4a65c_grow_92f84 45 = .ok (.aload_n 0, 1) := by decide +kernel
theorem dJx4a65c_grow_92f84_46 : decode cJx4a65c_grow_92f84 46 = .ok (.bipush 10, 2) := by decide +kernel
theorem dJx4a65c_grow_92f84_48 : decode cJx4a65c_grow_92f84 48 = .ok (.iload_n 1, 1) := by decide +kernel
theorem dJx4a65c_grow_92f84_49 : decode cJx4a65c_grow_92f84 49 = .ok (.invokestatic 79, 3) := by decide +kernel
theorem dJx4a65c_grow_92f84_52 : decode cJx4a65c_grow_92f84 52 = .ok (.anewarray 7, 3) := by decide +kernel
theorem dJx4a65c_grow_92f84_55 : decode cJx4a65c_grow_92f84 55 = .ok (.dup_x1, 1) := by decide +kernel
theorem dJx4a65c_grow_92f84_56 : decode cJx4a65c_grow_92f84 56 = .ok (.putfield 9, 3) := by decide +kernel
theorem dJx4a65c_grow_92f84_59 : decode cJx4a65c_grow_92f84 59 = .ok (.areturn, 1) := by decide +kernel
set_option maxRecDepth 20000 in
theorem ggJx4a65c_grow_d5877_Jx4a65c_grow_92f84 : GoodIn wsJx4a65c_grow_d5877 wsJx4a65c_grow_92f84 := goodIn_r _ [6, 7, 8, 9, 10, 11, 12, 13, 14, 15, 16, 17, 18, 19, 20, 21, 22, 23, 24, 25, 26, 27, 28, 29, 30, 31, 32, 33, 34, 35, 36, 37, 38, 39, 40, 41, 42, 43, 44, 45] (by decide +kernel) (by decide +kernel)
set_option maxRecDepth 20000 in
theorem gJx4a65c_grow_d5877_Jx4a65c_grow_92f84 : GoodIn wsJx4a65c_grow_d5877 (wsV RJx4a65c 69 RJx4a65c yJx4a65c_grow_92f84 wsJx4a65c_grow_92f84) := goodIn_app (goodIn_of _ (by decide +kernel)) ggJx4a65c_grow_d5877_Jx4a65c_grow_92f84
theorem dJx4a65c_grow_d5877_0 : decode cJx4a65c_grow_d5877 0 = .ok (.aload_n 0, 1) := by decide +kernel
theorem dJx4a65c_grow_d5877_1 : decode cJx4a65c_grow_d5877 1 = .ok (.aload_n 0, 1) := by decide +kernel
theorem dJx4a65c_grow_d5877_2 : decode cJx4a65c_grow_d5877 2 = .ok (.getfield 48, 3) := by decide +kernel
theorem dJx4a65c_grow_d5877_5 : decode cJx4a65c_grow_d5877 5 = .ok (.iconst 1, 1) := by decide +kernel
theorem dJx4a65c_grow_d5877_6 : decode cJx4a65c_grow_d5877 6 = .ok (.iadd, 1) := by decide +kernel
theorem dJx4a65c_grow_d5877_7 : decode cJx4a65c_grow_d5877 7 = .ok (.invokevirtual 69, 3) := by decide +kernel
theorem dJx4a65c_grow_d5877_10 : decode cJx4a65c_grow_d5877 10 = .ok (.areturn, 1) := by decide +kernel
theorem dJx4a65c_size_8abf5_0 : decode cJx4a65c_size_8abf5 0 = .ok (.aload_n 0, 1) := by decide +kernel
theorem dJx4a65c_size_8abf5_1 : decode cJx4a65c_size_8abf5 1 = .ok (.getfield 48, 3) := by decide +kernel
theorem dJx4a65c_size_8abf5_4 : decode cJx4a65c_size_8abf5 4 = .ok (.ireturn, 1) := by decide +kernel
theorem dJx4a65c_isEmpty_aae02_0 : decode cJx4a65c_isEmpty_aae02 0 = .ok (.aload_n 0, 1) := by decide +kernel
theorem dJx4a65c_isEmpty_aae02_1 : decode cJx4a65c_isEmpty_aae02 1 = .ok (.getfield 48, 3) := by decide +kernel
theorem dJx4a65c_isEmpty_aae02_4 : decode cJx4a65c_isEmpty_aae02 4 = .ok (.ifCond .ne 7, 3) := by decide +kernel
theorem dJx4a65c_isEmpty_aae02_7 : decode cJx4a65c_isEmpty_aae02 7 = .ok (.iconst 1, 1) := by decide +kernel
theorem dJx4a65c_isEmpty_aae02_8 : decode cJx4a65c_isEmpty_aae02 8 = .ok (.goto 4, 3) := by decide +kernel
theorem dJx4a65c_isEmpty_aae02_11 : decode cJx4a65c_isEmpty_aae02 11 = .ok (.iconst 0, 1) := by decide +kernel
theorem dJx4a65c_isEmpty_aae02_12 : decode cJx4a65c_isEmpty_aae02 12 = .ok (.ireturn, 1) := by decide +kernel
theorem dJx4a65c_elementData_915e3_0 : decode cJx4a65c_elementData_915e3 0 = .ok (.aload_n 0, 1) := by decide +kernel
theorem dJx4a65c_elementData_915e3_1 : decode cJx4a65c_elementData_915e3 1 = .ok (.getfield 9, 3) := by decide +kernel
theorem dJx4a65c_elementData_915e3_4 : decode cJx4a65c_elementData_915e3 4 = .ok (.iload_n 1, 1) := by decide +kernel
theorem dJx4a65c_elementData_915e3_5 : decode cJx4a65c_elementData_915e3 5 = .ok (.aaload, 1) := by decide +kernel
theorem dJx4a65c_elementData_915e3_6 : decode cJx4a65c_elementData_915e3 6 = .ok (.areturn, 1) := by decide +kernel
set_option maxRecDepth 20000 in
theorem ggJx4a65c_get_915e3_J15_checkIndex_7cf53 : GoodIn wsJx4a65c_get_915e3 wsJ15_checkIndex_7cf53 := goodIn_r _ [5, 6, 7, 8, 9] (by decide +kernel) (by decide +kernel)
set_option maxRecDepth 20000 in
theorem gJx4a65c_get_915e3_J15_checkIndex_7cf53 : GoodIn wsJx4a65c_get_915e3 (va_wsS RJx4a65c 118 yJ15_checkIndex_7cf53 wsJ15_checkIndex_7cf53) := goodIn_app (goodIn_of _ (by decide +kernel)) ggJx4a65c_get_915e3_J15_checkIndex_7cf53
set_option maxRecDepth 20000 in
theorem ggJx4a65c_get_915e3_Jx4a65c_elementData_915e3 : GoodIn wsJx4a65c_get_915e3 wsJx4a65c_elementData_915e3 := goodIn_r _ [14, 15, 16, 17, 18] (by decide +kernel) (by decide +kernel)
set_option maxRecDepth 20000 in
theorem gJx4a65c_get_915e3_Jx4a65c_elementData_915e3 : GoodIn wsJx4a65c_get_915e3 (wsV RJx4a65c 123 RJx4a65c yJx4a65c_elementData_915e3 wsJx4a65c_elementData_915e3) := goodIn_app (goodIn_of _ (by decide +kernel)) ggJx4a65c_get_915e3_Jx4a65c_elementData_915e3
theorem dJx4a65c_get_915e3_0 : decode cJx4a65c_get_915e3 0 = .ok (.iload_n 1, 1) := by decide +kernel
theorem dJx4a65c_get_915e3_1 : decode cJx4a65c_get_915e3 1 = .ok (.aload_n 0, 1) := by decide +kernel
theorem dJx4a65c_get_915e3_2 : decode cJx4a65c_get_915e3 2 = .ok (.getfield 48, 3) := by decide +kernel
theorem dJx4a65c_get_915e3_5 : decode cJx4a65c_get_915e3 5 = .ok (.invokestatic 118, 3) := by decide +kernel
theorem dJx4a65c_get_915e3_8 : decode cJx4a65c_get_915e3 8 = .ok (.pop, 1) := by decide +kernel
theorem dJx4a65c_get_915e3_9 : decode cJx4a65c_get_915e3 9 = .ok (.aload_n 0, 1) := by decide +kernel
theorem dJx4a65c_get_915e3_10 : decode cJx4a65c_get_915e3 10 = .ok (.iload_n 1, 1) := by decide +kernel
theorem dJx4a65c_get_915e3_11 : decode cJx4a65c_get_915e3 11 = .ok (.invokevirtual 123, 3) := by decide +kernel
theorem dJx4a65c_get_915e3_14 : decode cJx4a65c_get_915e3 14 = .ok (.areturn, 1) := by decide +kernel
set_option maxRecDepth 20000 in
theorem ggJx4a65c_add_72be8_Jx4a65c_grow_d5877 : GoodIn wsJx4a65c_add_72be8 wsJx4a65c_grow_d5877 := goodIn_r _ [6, 1, 7, 8, 9, 5, 10, 11, 12, 13, 14, 15, 16, 17, 18, 19, 20, 21, 22, 23, 24, 25, 26, 27, 28, 29, 30, 31, 32, 33, 34, 35, 36, 37, 38, 39, 40, 41, 42, 43, 44, 45, 46, 47, 48, 49] (by decide +kernel) (by decide +kernel)
set_option maxRecDepth 20000 in
theorem gJx4a65c_add_72be8_Jx4a65c_grow_d5877 : GoodIn wsJx4a65c_add_72be8 (wsV RJx4a65c 129 RJx4a65c yJx4a65c_grow_d5877 wsJx4a65c_grow_d5877) := goodIn_app (goodIn_of _ (by decide +kernel)) ggJx4a65c_add_72be8_Jx4a65c_grow_d5877
theorem dJx4a65c_add_72be8_0 : decode cJx4a65c_add_72be8 0 = .ok (.iload_n 3, 1) := by decide +kernel
theorem dJx4a65c_add_72be8_1 : decode cJx4a65c_add_72be8 1 = .ok (.aload_n 2, 1) := by decide +kernel
theorem dJx4a65c_add_72be8_2 : decode cJx4a65c_add_72be8 2 = .ok (.arraylength, 1) := by decide +kernel
theorem dJx4a65c_add_72be8_3 : decode cJx4a65c_add_72be8 3 = .ok (.if_icmp .ne 8, 3) := by decide +kernel
theorem dJx4a65c_add_72be8_6 : decode cJx4a65c_add_72be8 6 = .ok (.aload_n 0, 1) := by decide +kernel
theorem dJx4a65c_add_72be8_7 : decode cJx4a65c_add_72be8 7 = .ok (.invokevirtual 129, 3) := by decide +kernel
theorem dJx4a65c_add_72be8_10 : decode cJx4a65c_add_72be8 10 = .ok (.astore_n 2, 1) := by decide +kernel
theorem dJx4a65c_add_72be8_11 : decode cJx4a65c_add_72be8 11 = .ok (.aload_n 2, 1) := by decide +kernel
theorem dJx4a65c_add_72be8_12 : decode cJx4a65c_add_72be8 12 = .ok (.iload_n 3, 1) := by decide +kernel
theorem dJx4a65c_add_72be8_13 : decode cJx4a65c_add_72be8 13 = .ok (.aload_n 1, 1) := by decide +kernel
theorem dJx4a65c_add_72be8_14 : decode cJx4a65c_add_72be8 14 = .ok (.aastore, 1) := by decide +kernel
theorem dJx4a65c_add_72be8_15 : decode cJx4a65c_add_72be8 15 = .ok (.aload_n 0, 1) := by decide +kernel
theorem dJx4a65c_add_72be8_16 : decode cJx4a65c_add_72be8 16 = .ok (.iload_n 3, 1) := by decide +kernel
theorem dJx4a65c_add_72be8_17 : decode cJx4a65c_add_72be8 17 = .ok (.iconst 1, 1) := by decide +kernel
theorem dJx4a65c_add_72be8_18 : decode cJx4a65c_add_72be8 18 = .ok (.iadd, 1) := by decide +kernel
theorem dJx4a65c_add_72be8_19 : decode cJx4a65c_add_72be8 19 = .ok (.putfield 48, 3) := by decide +kernel
theorem dJx4a65c_add_72be8_22 : decode cJx4a65c_add_72be8 22 = .ok (.return_, 1) := by decide +kernel
set_option maxRecDepth 20000 in
theorem ggJx4a65c_add_9ea2d_Jx4a65c_add_72be8 : GoodIn wsJx4a65c_add_9ea2d wsJx4a65c_add_72be8 := goodIn_r _ [9, 4, 10, 11, 12, 8, 13, 14, 15, 16, 17, 3, 18, 19, 20, 21, 22, 23, 24, 25, 26, 27, 28, 29, 30, 31, 32, 33, 34, 35, 36, 37, 38, 39, 40, 41, 42, 43, 44, 45, 46, 47, 48, 49, 50, 51, 52, 53, 54, 55] (by decide +kernel) (by decide +kernel)
set_option maxRecDepth 20000 in
theorem gJx4a65c_add_9ea2d_Jx4a65c_add_72be8 : GoodIn wsJx4a65c_add_9ea2d (wsV RJx4a65c 131 RJx4a65c yJx4a65c_add_72be8 wsJx4a65c_add_72be8) := goodIn_app (goodIn_of _ (by decide +kernel)) ggJx4a65c_add_9ea2d_Jx4a65c_add_72be8
theorem dJx4a65c_add_9ea2d_0 : decode cJx4a65c_add_9ea2d 0 = .ok (.aload_n 0, 1) := by decide +kernel
theorem dJx4a65c_add_9ea2d_1 : decode cJx4a65c_add_9ea2d 1 = .ok (.dup, 1) := by decide +kernel
theorem dJx4a65c_add_9ea2d_2 : decode cJx4a65c_add_9ea2d 2 = .ok (.getfield 63, 3) := by decide +kernel
theorem dJx4a65c_add_9ea2d_5 : decode cJx4a65c_add_9ea2d 5 = .ok (.iconst 1, 1) := by decide +kernel
theorem dJx4a65c_add_9ea2d_6 : decode cJx4a65c_add_9ea2d 6 = .ok (.iadd, 1) := by decide +kernel
theorem dJx4a65c_add_9ea2d_7 : decode cJx4a65c_add_9ea2d 7 = .ok (.putfield 63, 3) := by decide +kernel
theorem dJx4a65c_add_9ea2d_10 : decode cJx4a65c_add_9ea2d 10 = .ok (.aload_n 0, 1) := by decide +kernel
theorem dJx4a65c_add_9ea2d_11 : decode cJx4a65c_add_9ea2d 11 = .ok (.aload_n 1, 1) := by decide +kernel
theorem dJx4a65c_add_9ea2d_12 : decode cJx4a65c_add_9ea2d 12 = .ok (.aload_n 0, 1) := by decide +kernel
theorem dJx4a65c_add_9ea2d_13 : decode cJx4a65c_add_9ea2d 13 = .ok (.getfield 9, 3) := by decide +kernel
theorem dJx4a65c_add_9ea2d_16 : decode cJx4a65c_add_9ea2d 16 = .ok (.aload_n 0, 1) := by decide +kernel
theorem dJx4a65c_add_9ea2d_17 : decode cJx4a65c_add_9ea2d 17 = .ok (.getfield 48, 3) := by decide +kernel
theorem dJx4a65c_add_9ea2d_20 : decode cJx4a65c_add_9ea2d 20 = .ok (.invokevirtual 131, 3) := by decide +kernel
theorem dJx4a65c_add_9ea2d_23 : decode cJx4a65c_add_9ea2d 23 = .ok (.iconst 1, 1) := by decide +kernel
theorem dJx4a65c_add_9ea2d_24 : decode cJx4a65c_add_9ea2d 24 = .ok (.ireturn, 1) := by decide +kernel
set_option maxRecDepth 20000 in
theorem ggJ7_copyOf_1904c_J7_copyOf_6403c : GoodIn wsJ7_copyOf_1904c wsJ7_copyOf_6403c := goodIn_r _ [8, 9, 10, 11, 12, 13, 14, 15, 16, 17, 18] (by decide +kernel) (by decide +kernel)
set_option maxRecDepth 20000 in
theorem gJ7_copyOf_1904c_J7_copyOf_6403c : GoodIn wsJ7_copyOf_1904c (va_wsS RJ7 300 yJ7_copyOf_6403c wsJ7_copyOf_6403c) := goodIn_app (goodIn_of _ (by decide +kernel)) ggJ7_copyOf_1904c_J7_copyOf_6403c
theorem dJ7_copyOf_1904c_0 : decode cJ7_copyOf_1904c 0 = .ok (.aload_n 0, 1) := by decide +kernel
theorem dJ7_copyOf_1904c_1 : decode cJ7_copyOf_1904c 1 = .ok (.iload_n 1, 1) := by decide +kernel
theorem dJ7_copyOf_1904c_2 : decode cJ7_copyOf_1904c 2 = .ok (.aload_n 0, 1) := by decide +kernel
theorem dJ7_copyOf_1904c_3 : decode cJ7_copyOf_1904c 3 = .ok (.invokevirtual 86, 3) := by decide +kernel
theorem dJ7_copyOf_1904c_6 : decode cJ7_copyOf_1904c 6 = .ok (.invokestatic 300, 3) := by decide +kernel
theorem dJ7_copyOf_1904c_9 : decode cJ7_copyOf_1904c 9 = .ok (.areturn, 1) := by decide +kernel
theorem dJ7_copyOf_6403c_0 : decode cJ7_copyOf_6403c 0 = .ok (.aload_n 2, 1) := by decide +kernel
theorem dJ7_copyOf_6403c_1 : decode cJ7_copyOf_6403c 1 = .ok (.ldc 110, 2) := by decide +kernel
theorem dJ7_copyOf_6403c_3 : decode cJ7_copyOf_6403c 3 = .ok (.if_acmp .ne 10, 3) := by decide +kernel
theorem dJ7_copyOf_6403c_6 : decode cJ7_copyOf_6403c 6 = .ok (.iload_n 1, 1) := by decide +kernel
theorem dJ7_copyOf_6403c_7 : decode cJ7_copyOf_6403c 7 = .ok (.anewarray 2, 3) := by decide +kernel
theorem dJ7_copyOf_6403c_10 : decode cJ7_copyOf_6403c 10 = .ok (.goto 14, 3) := by decide +kernel
theorem dJ7_copyOf_6403c_13 : decode cJ7_copyOf_6403c 13 = .ok (.aload_n 2, 1) := by decide +kernel
theorem dJ7_copyOf_6403c_14 : decode cJ7_copyOf_6403c 14 = .ok (.invokevirtual 90, 3) := by decide +kernel
theorem dJ7_copyOf_6403c_17 : decode cJ7_copyOf_6403c 17 = .ok (.iload_n 1, 1) := by decide +kernel
theorem dJ7_copyOf_6403c_18 : decode cJ7_copyOf_6403c 18 = .ok (.invokestatic 95, 3) := by decide +kernel
theorem dJ7_copyOf_6403c_21 : decode cJ7_copyOf_6403c 21 = .ok (.checkcast 110, 3) := by decide +kernel
theorem dJ7_copyOf_6403c_24 : decode cJ7_copyOf_6403c 24 = .ok (.astore_n 3, 1) := by decide +kernel
theorem dJ7_copyOf_6403c_25 : decode cJ7_copyOf_6403c 25 = .ok (.aload_n 0, 1) := by decide +kernel
theorem dJ7_copyOf_6403c_26 : decode cJ7_copyOf_6403c 26 = .ok (.iconst 0, 1) := by decide +kernel
theorem dJ7_copyOf_6403c_27 : decode cJ7_copyOf_6403c 27 = .ok (.aload_n 3, 1) := by decide +kernel
theorem dJ7_copyOf_6403c_28 : decode cJ7_copyOf_6403c 28 = .ok (.iconst 0, 1) := by decide +kernel
theorem dJ7_copyOf_6403c_29 : decode cJ7_copyOf_6403c 29 = .ok (.aload_n 0, 1) := by decide +kernel
theorem dJ7_copyOf_6403c_30 : decode cJ7_copyOf_6403c 30 = .ok (.arraylength, 1) := by decide +kernel
theorem dJ7_copyOf_6403c_31 : decode cJ7_copyOf_6403c 31 = .ok (.iload_n 1, 1) := by decide +kernel
theorem dJ7_copyOf_6403c_32 : decode cJ7_copyOf_6403c 32 = .ok (.invokestatic 304, 3) := by decide +kernel
theorem dJ7_copyOf_6403c_35 : decode cJ7_copyOf_6403c 35 = .ok (.invokestatic 150, 3) := by decide +kernel
theorem dJ7_copyOf_6403c_38 : decode cJ7_copyOf_6403c 38 = .ok (.aload_n 3, 1) := by decide +kernel
theorem dJ7_copyOf_6403c_39 : decode cJ7_copyOf_6403c 39 = .ok (.areturn, 1) := by decide +kernel
set_option maxRecDepth 20000 in
theorem ggJ15_checkIndex_7cf53_J3_checkIndex_8e157 : GoodIn wsJ15_checkIndex_7cf53 wsJ3_checkIndex_8e157 := goodIn_r _ [4] (by decide +kernel) (by decide +kernel)
set_option maxRecDepth 20000 in
theorem gJ15_checkIndex_7cf53_J3_checkIndex_8e157 : GoodIn wsJ15_checkIndex_7cf53 (va_wsS RJ15 105 yJ3_checkIndex_8e157 wsJ3_checkIndex_8e157) := goodIn_app (goodIn_of _ (by decide +kernel)) ggJ15_checkIndex_7cf53_J3_checkIndex_8e157
theorem dJ15_checkIndex_7cf53_0 : decode cJ15_checkIndex_7cf53 0 = .ok (.iload_n 0, 1) := by decide +kernel
theorem dJ15_checkIndex_7cf53_1 : decode cJ15_checkIndex_7cf53 1 = .ok (.iload_n 1, 1) := by decide +kernel
theorem dJ15_checkIndex_7cf53_2 : decode cJ15_checkIndex_7cf53 2 = .ok (.aconst_null, 1) := by decide +kernel
theorem dJ15_checkIndex_7cf53_3 : decode cJ15_checkIndex_7cf53 3 = .ok (.invokestatic 105, 3) := by decide +kernel
theorem dJ15_checkIndex_7cf53_6 : decode cJ15_checkIndex_7cf53 6 = .ok (.ireturn, 1) := by decide +kernel
set_option maxRecDepth 20000 in
theorem ggJ8_newLength_cabcc_J8_hugeLength_7cf53 : GoodIn wsJ8_newLength_cabcc wsJ8_hugeLength_7cf53 := goodIn_r _ [9, 5] (by decide +kernel) (by decide +kernel)
set_option maxRecDepth 20000 in
theorem gJ8_newLength_cabcc_J8_hugeLength_7cf53 : GoodIn wsJ8_newLength_cabcc (va_wsS RJ8 201 yJ8_hugeLength_7cf53 wsJ8_hugeLength_7cf53) := goodIn_app (goodIn_of _ (by decide +kernel)) ggJ8_newLength_cabcc_J8_hugeLength_7cf53
theorem dJ8_newLength_cabcc_0 : decode cJ8_newLength_cabcc 0 = .ok (.iload_n 0, 1) := by decide +kernel
theorem dJ8_newLength_cabcc_1 : decode cJ8_newLength_cabcc 1 = .ok (.iload_n 1, 1) := by decide +kernel
theorem dJ8_newLength_cabcc_2 : decode cJ8_newLength_cabcc 2 = .ok (.iload_n 2, 1) := by decide +kernel
theorem dJ8_newLength_cabcc_3 : decode cJ8_newLength_cabcc 3 = .ok (.invokestatic 194, 3) := by decide +kernel
theorem dJ8_newLength_cabcc_6 : decode cJ8_newLength_cabcc 6 = .ok (.iadd, 1) := by decide +kernel
theorem dJ8_newLength_cabcc_7 : decode cJ8_newLength_cabcc 7 = .ok (.istore_n 3, 1) := by decide +kernel
theorem dJ8_newLength_cabcc_8 : decode cJ8_newLength_cabcc 8 = .ok (.iconst 0, 1) := by decide +kernel
theorem dJ8_newLength_cabcc_9 : decode cJ8_newLength_cabcc 9 = .ok (.iload_n 3, 1) := by decide +kernel
theorem dJ8_newLength_cabcc_10 : decode cJ8_newLength_cabcc 10 = .ok (.if_icmp .ge 11, 3) := by decide +kernel
theorem dJ8_newLength_cabcc_13 : decode cJ8_newLength_cabcc 13 = .ok (.iload_n 3, 1) := by decide +kernel
theorem dJ8_newLength_cabcc_14 : decode cJ8_newLength_cabcc 14 = .ok (.ldc 200, 2) := by decide +kernel
theorem dJ8_newLength_cabcc_16 : decode cJ8_newLength_cabcc 16 = .ok (.if_icmp .gt 5, 3) := by decide +kernel
theorem dJ8_newLength_cabcc_19 : decode cJ8_newLength_cabcc 19 = .ok (.iload_n 3, 1) := by decide +kernel
theorem dJ8_newLength_cabcc_20 : decode cJ8_newLength_cabcc 20 = .ok (.ireturn, 1) := by decide +kernel
theorem dJ8_newLength_cabcc_21 : decode cJ8_newLength_cabcc 21 = .ok (.iload_n 0, 1) := by decide +kernel
theorem dJ8_newLength_cabcc_22 : decode cJ8_newLength_cabcc 22 = .ok (.iload_n 1, 1) := by decide +kernel
theorem dJ8_newLength_cabcc_23 : decode cJ8_newLength_cabcc 23 = .ok (.invokestatic 201, 3) := by decide +kernel
theorem dJ8_newLength_cabcc_26 : decode cJ8_newLength_cabcc 26 = .ok (.ireturn, 1) := by decide +kernel
theorem dJ8_hugeLength_7cf53_0 : decode cJ8_hugeLength_7cf53 0 = .ok (.iload_n 0, 1) := by decide +kernel
theorem dJ8_hugeLength_7cf53_1 : decode cJ8_hugeLength_7cf53 1 = .ok (.iload_n 1, 1) := by decide +kernel
theorem dJ8_hugeLength_7cf53_2 : decode cJ8_hugeLength_7cf53 2 = .ok (.iadd, 1) := by decide +kernel
theorem dJ8_hugeLength_7cf53_3 : decode cJ8_hugeLength_7cf53 3 = .ok (.istore_n 2, 1) := by decide +kernel
theorem dJ8_hugeLength_7cf53_4 : decode cJ8_hugeLength_7cf53 4 = .ok (.iload_n 2, 1) := by decide +kernel
theorem dJ8_hugeLength_7cf53_5 : decode cJ8_hugeLength_7cf53 5 = .ok (.ifCond .ge 44, 3) := by decide +kernel
theorem dJ8_hugeLength_7cf53_8 : decode cJ8_hugeLength_7cf53 8 = .ok (.new 204, 3) := by decide +kernel
theorem dJ8_hugeLength_7cf53_11 : decode cJ8_hugeLength_7cf53 11 = .ok (.dup, 1) := by decide +kernel
theorem dJ8_hugeLength_7cf53_12 : decode cJ8_hugeLength_7cf53 12 = .ok (.new 89, 3) := by decide +kernel
theorem dJ8_hugeLength_7cf53_15 : decode cJ8_hugeLength_7cf53 15 = .ok (.dup, 1) := by decide +kernel
theorem dJ8_hugeLength_7cf53_16 : decode cJ8_hugeLength_7cf53 16 = .ok (.invokespecial 91, 3) := by decide +kernel
theorem dJ8_hugeLength_7cf53_19 : decode cJ8_hugeLength_7cf53 19 = .ok (.ldc 206, 2) := by decide +kernel
theorem dJ8_hugeLength_7cf53_21 : decode cJ8_hugeLength_7cf53 21 = .ok (.invokevirtual 94, 3) := by decide +kernel
theorem dJ8_hugeLength_7cf53_24 : decode cJ8_hugeLength_7cf53 24 = .ok (.iload_n 0, 1) := by decide +kernel
theorem dJ8_hugeLength_7cf53_25 : decode cJ8_hugeLength_7cf53 25 = .ok (.invokevirtual 98, 3) := by decide +kernel
theorem dJ8_hugeLength_7cf53_28 : decode cJ8_hugeLength_7cf53 28 = .ok (.ldc 208, 2) := by decide +kernel
theorem dJ8_hugeLength_7cf53_30 : decode cJ8_hugeLength_7cf53 30 = .ok (.invokevirtual 94, 3) := by decide +kernel
theorem dJ8_hugeLength_7cf53_33 : decode cJ8_hugeLength_7cf53 33 = .ok (.iload_n 1, 1) := by decide +kernel
theorem dJ8_hugeLength_7cf53_34 : decode cJ8_hugeLength_7cf53 34 = .ok (.invokevirtual 98, 3) := by decide +kernel
theorem dJ8_hugeLength_7cf53_37 : decode cJ8_hugeLength_7cf53 37 = .ok (.ldc 210, 2) := by decide +kernel
theorem dJ8_hugeLength_7cf53_39 : decode cJ8_hugeLength_7cf53 39 = .ok (.invokevirtual 94, 3) := by decide +kernel
theorem dJ8_hugeLength_7cf53_42 : decode cJ8_hugeLength_7cf53 42 = .ok (.invokevirtual 101, 3) := by decide +kernel
theorem dJ8_hugeLength_7cf53_45 : decode cJ8_hugeLength_7cf53 45 = .ok (.invokespecial 212, 3) := by decide +kernel
theorem dJ8_hugeLength_7cf53_48 : decode cJ8_hugeLength_7cf53 48 = .ok (.athrow, 1) := by decide +kernel
theorem dJ8_hugeLength_7cf53_49 : decode cJ8_hugeLength_7cf53 49 = .ok (.iload_n 2, 1) := by decide +kernel
theorem dJ8_hugeLength_7cf53_50 : decode cJ8_hugeLength_7cf53 50 = .ok (.ldc 200, 2) := by decide +kernel
theorem dJ8_hugeLength_7cf53_52 : decode cJ8_hugeLength_7cf53 52 = .ok (.if_icmp .gt 6, 3) := by decide +kernel
theorem dJ8_hugeLength_7cf53_55 : decode cJ8_hugeLength_7cf53 55 = .ok (.ldc 200, 2) := by decide +kernel
theorem dJ8_hugeLength_7cf53_57 : decode cJ8_hugeLength_7cf53 57 = .ok (.ireturn, 1) := by decide +kernel
theorem dJ8_hugeLength_7cf53_58 : decode cJ8_hugeLength_7cf53 58 = .ok (.iload_n 2, 1) := by decide +kernel
theorem dJ8_hugeLength_7cf53_59 : decode cJ8_hugeLength_7cf53 59 = .ok (.ireturn, 1) := by decide +kernel
theorem dJ3_checkIndex_8e157_0 : decode cJ3_checkIndex_8e157 0 = .ok (.iload_n 0, 1) := by decide +kernel
theorem dJ3_checkIndex_8e157_1 : decode cJ3_checkIndex_8e157 1 = .ok (.ifCond .lt 8, 3) := by decide +kernel
theorem dJ3_checkIndex_8e157_4 : decode cJ3_checkIndex_8e157 4 = .ok (.iload_n 0, 1) := by decide +kernel
theorem dJ3_checkIndex_8e157_5 : decode cJ3_checkIndex_8e157 5 = .ok (.iload_n 1, 1) := by decide +kernel
theorem dJ3_checkIndex_8e157_6 : decode cJ3_checkIndex_8e157 6 = .ok (.if_icmp .lt 10, 3) := by decide +kernel
theorem dJ3_checkIndex_8e157_9 : decode cJ3_checkIndex_8e157 9 = .ok (.aload_n 2, 1) := by decide +kernel
theorem dJ3_checkIndex_8e157_10 : decode cJ3_checkIndex_8e157 10 = .ok (.iload_n 0, 1) := by decide +kernel
theorem dJ3_checkIndex_8e157_11 : decode cJ3_checkIndex_8e157 11 = .ok (.iload_n 1, 1) := by decide +kernel
theorem dJ3_checkIndex_8e157_12 : decode cJ3_checkIndex_8e157 12 = .ok (.invokestatic 95, 3) := by decide +kernel
theorem dJ3_checkIndex_8e157_15 : decode cJ3_checkIndex_8e157 15 = .ok (.athrow, 1) := by decide +kernel
theorem dJ3_checkIndex_8e157_16 : decode cJ3_checkIndex_8e157 16 = .ok (.iload_n 0, 1) := by decide +kernel
theorem dJ3_checkIndex_8e157_17 : decode cJ3_checkIndex_8e157 17 = .ok (.ireturn, 1) := by decide +kernel
set_option maxRecDepth 20000 in
theorem ggL_law_X7_init : GoodIn wsL_law wsX7_init := goodIn_r _ [8, 9, 10, 11, 12, 13, 14, 15, 16, 17, 18, 19, 20, 21, 22, 23, 24, 25, 26, 27, 28, 29, 30, 31, 32, 33, 34, 35, 36, 37, 38, 39, 40, 41, 42, 43, 44, 45, 46, 47, 48, 49, 50, 51, 627, 628, 629, 599, 600, 601, 602, 603, 604, 630, 631, 632, 633] (by decide +kernel) (by decide +kernel)
set_option maxRecDepth 20000 in
theorem gL_law_X7_init : GoodIn wsL_law (wsX7_init) := ggL_law_X7_init
set_option maxRecDepth 20000 in
theorem ggL_law_X8_init : GoodIn wsL_law wsX8_init := goodIn_r _ [54, 55, 10, 11, 34, 56, 57, 58, 59, 60, 61, 62, 63, 64, 65, 66, 67, 68, 69, 70, 71, 72, 73, 605, 606, 607, 608, 609, 610, 611, 612, 613, 614, 615, 616, 617, 618, 619, 620, 621, 622, 623, 624, 625, 626] (by decide +kernel) (by decide +kernel)
set_option maxRecDepth 20000 in
theorem gL_law_X8_init : GoodIn wsL_law (wsX8_init) := ggL_law_X8_init
set_option maxRecDepth 20000 in
theorem ggL_law_X7_put : GoodIn wsL_law wsX7_put := goodIn_r _ [77, 19, 15, 78, 79, 2, 80, 81, 82, 83, 18, 84, 85, 86, 87, 88, 14, 89, 30, 90, 91, 92, 26, 93, 35, 599, 600, 601, 602, 603, 604, 630, 631, 632, 627, 628, 629, 633] (by decide +kernel) (by decide +kernel)
set_option maxRecDepth 20000 in
theorem gL_law_X7_put : GoodIn wsL_law (wsV RL 13 RX7 yX7_put wsX7_put) := goodIn_app (goodIn_of _ (by decide +kernel)) ggL_law_X7_put
set_option maxRecDepth 20000 in
theorem ggL_law_X8_put : GoodIn wsL_law wsX8_put := goodIn_r _ [97, 98, 56, 99, 100, 5, 101, 605, 606, 607, 608, 609, 610, 611, 612, 613, 614, 615, 616, 617, 618, 619, 620, 621, 622, 623, 624, 625, 626] (by decide +kernel) (by decide +kernel)
set_option maxRecDepth 20000 in
theorem gL_law_X8_put : GoodIn wsL_law (wsV RL 17 RX8 yX8_put wsX8_put) := goodIn_app (goodIn_of _ (by decide +kernel)) ggL_law_X8_put
set_option maxRecDepth 20000 in
theorem ggL_law_X7_question : GoodIn wsL_law wsX7_question := goodIn_r _ [105, 19, 106, 107, 108, 15, 109, 110, 2, 111, 112, 113, 114, 78, 79, 80, 115, 116, 117, 118, 119, 120, 121, 122, 18, 123, 85, 124, 125, 126, 127, 128, 129, 130, 131, 132, 133, 134, 135, 136, 137, 10, 11, 138, 139, 140, 141, 142, 143, 144, 145, 87, 88, 14, 89, 30, 146, 147, 148, 149, 29, 150, 151, 152, 153, 154, 155, 156, 40, 157, 158, 159, 160, 161, 162, 163, 164, 165, 166, 167, 168, 39, 169, 170, 171, 172, 173, 174, 175, 176, 177, 178, 179, 180, 181, 182, 183, 184, 185, 186, 187, 188, 189, 190, 191, 192, 193, 194, 195, 196, 197, 198, 199, 200, 201, 202, 599, 600, 601, 602, 603, 604, 634, 635, 636, 637, 638, 639, 640, 641, 642, 643, 644, 645, 646, 630, 631, 632, 647, 648, 649, 650, 651, 652, 653, 654, 655, 656, 657, 658, 659, 660, 661, 662, 663, 664, 665, 666, 667, 668, 669, 670, 671, 672, 673, 674, 675, 676, 677, 678, 679, 680, 681, 682, 683, 627, 628, 629] (by decide +kernel) (by decide +kernel)
set_option maxRecDepth 20000 in
theorem gL_law_X7_question : GoodIn wsL_law (wsV RL 18 RX7 yX7_question wsX7_question) := goodIn_app (goodIn_of _ (by decide +kernel)) ggL_law_X7_question
set_option maxRecDepth 20000 in
theorem ggL_law_X8_question : GoodIn wsL_law wsX8_question := goodIn_r _ [206, 99, 100, 5, 101, 207, 208, 209, 210, 211, 98, 58, 59, 60, 61, 62, 65, 57, 605, 606, 607, 608, 609, 610, 611, 612, 613, 614, 615, 616, 617, 618, 619, 620, 621, 622, 623, 624, 625, 626] (by decide +kernel) (by decide +kernel)
set_option maxRecDepth 20000 in
theorem gL_law_X8_question : GoodIn wsL_law (wsV RL 22 RX8 yX8_question wsX8_question) := goodIn_app (goodIn_of _ (by decide +kernel)) ggL_law_X8_question
set_option maxRecDepth 20000 in
theorem ggL_law_X7_writer : GoodIn wsL_law wsX7_writer := goodIn_r _ [215, 19, 216, 217, 218, 109, 110, 2, 111, 112, 113, 114, 78, 79, 80, 115, 116, 117, 118, 119, 120, 121, 122, 18, 123, 85, 219, 220, 221, 222, 25, 26, 223, 224, 225, 226, 134, 135, 136, 137, 10, 11, 138, 139, 140, 141, 142, 143, 144, 31, 32, 33, 34, 35, 151, 152, 153, 154, 155, 156, 40, 157, 158, 159, 160, 161, 162, 163, 164, 165, 166, 167, 168, 39, 169, 170, 171, 172, 173, 174, 175, 176, 177, 178, 179, 180, 181, 182, 183, 184, 185, 186, 187, 188, 189, 190, 191, 192, 193, 194, 195, 196, 197, 198, 199, 200, 201, 202, 599, 600, 601, 602, 603, 604, 670, 671, 672, 673, 674, 675, 676, 677, 678, 679, 680, 681, 682, 683, 630, 631, 632, 633, 634, 635, 636, 637, 638, 639, 640, 641, 642, 643, 644, 645, 646, 647, 648, 649, 650, 651, 652, 653, 654, 655, 656, 657, 658, 659, 660, 661, 662, 663, 664, 665, 666, 667, 668, 669] (by decide +kernel) (by decide +kernel)
set_option maxRecDepth 20000 in
theorem gL_law_X7_writer : GoodIn wsL_law (wsV RL 23 RX7 yX7_writer wsX7_writer) := goodIn_app (goodIn_of _ (by decide +kernel)) ggL_law_X7_writer
set_option maxRecDepth 20000 in
theorem ggL_law_X8_writer : GoodIn wsL_law wsX8_writer := goodIn_r _ [230, 99, 100, 5, 101, 207, 208, 209, 210, 211, 98, 58, 59, 60, 61, 62, 65, 57, 605, 606, 607, 608, 609, 610, 611, 612, 613, 614, 615, 616, 617, 618, 619, 620, 621, 622, 623, 624, 625, 626] (by decide +kernel) (by decide +kernel)
set_option maxRecDepth 20000 in
theorem gL_law_X8_writer : GoodIn wsL_law (wsV RL 27 RX8 yX8_writer wsX8_writer) := goodIn_app (goodIn_of _ (by decide +kernel)) ggL_law_X8_writer
set_option maxRecDepth 20000 in
theorem ggL_law_X7_reason : GoodIn wsL_law wsX7_reason := goodIn_r _ [234, 19, 235, 236, 237, 109, 110, 2, 111, 112, 113, 114, 115, 116, 117, 118, 119, 120, 121, 122, 18, 123, 85, 238, 239, 240, 241, 25, 26, 242, 243, 134, 135, 136, 137, 10, 11, 138, 139, 140, 141, 142, 143, 144, 31, 32, 33, 34, 35, 151, 152, 153, 154, 155, 156, 40, 157, 158, 159, 160, 161, 162, 163, 164, 165, 166, 167, 168, 39, 169, 170, 171, 172, 173, 174, 175, 176, 177, 178, 179, 180, 181, 182, 183, 184, 185, 186, 187, 188, 189, 190, 191, 192, 193, 194, 195, 196, 197, 198, 199, 200, 201, 202, 599, 600, 601, 602, 603, 604, 647, 648, 649, 650, 651, 652, 653, 654, 655, 656, 657, 658, 630, 631, 632, 633, 634, 635, 636, 637, 638, 639, 640, 641, 642, 643, 644, 645, 646, 659, 660, 661, 662, 663, 664, 665, 666, 667, 668, 669, 670, 671, 672, 673, 674, 675, 676, 677, 678, 679, 680, 681, 682, 683] (by decide +kernel) (by decide +kernel)
set_option maxRecDepth 20000 in
theorem gL_law_X7_reason : GoodIn wsL_law (wsV RL 28 RX7 yX7_reason wsX7_reason) := goodIn_app (goodIn_of _ (by decide +kernel)) ggL_law_X7_reason
set_option maxRecDepth 20000 in
theorem ggL_law_X8_reason : GoodIn wsL_law wsX8_reason := goodIn_r _ [247, 99, 100, 5, 101, 207, 208, 209, 210, 211, 98, 58, 59, 60, 61, 62, 65, 57, 605, 606, 607, 608, 609, 610, 611, 612, 613, 614, 615, 616, 617, 618, 619, 620, 621, 622, 623, 624, 625, 626] (by decide +kernel) (by decide +kernel)
set_option maxRecDepth 20000 in
theorem gL_law_X8_reason : GoodIn wsL_law (wsV RL 31 RX8 yX8_reason wsX8_reason) := goodIn_app (goodIn_of _ (by decide +kernel)) ggL_law_X8_reason
set_option maxRecDepth 20000 in
theorem ggL_law_X7_stream : GoodIn wsL_law wsX7_stream := goodIn_r _ [251, 19, 252, 253, 254, 15, 115, 116, 117, 2, 118, 119, 120, 121, 122, 18, 123, 85, 255, 256, 257, 258, 259, 260, 134, 135, 136, 137, 10, 11, 138, 139, 140, 141, 142, 143, 144, 261, 147, 148, 14, 149, 29, 150, 151, 152, 153, 154, 155, 156, 40, 157, 158, 159, 160, 161, 162, 163, 164, 165, 166, 167, 168, 39, 169, 170, 171, 172, 173, 174, 175, 176, 177, 178, 179, 180, 181, 182, 183, 184, 185, 186, 187, 188, 189, 190, 191, 192, 193, 194, 195, 196, 197, 198, 199, 200, 201, 202, 599, 600, 601, 602, 603, 604, 659, 660, 661, 662, 663, 664, 665, 666, 667, 668, 669, 630, 631, 632, 634, 635, 636, 637, 638, 639, 640, 641, 642, 643, 644, 645, 646, 647, 648, 649, 650, 651, 652, 653, 654, 655, 656, 657, 658, 670, 671, 672, 673, 674, 675, 676, 677, 678, 679, 680, 681, 682, 683, 627, 628, 629] (by decide +kernel) (by decide +kernel)
set_option maxRecDepth 20000 in
theorem gL_law_X7_stream : GoodIn wsL_law (wsV RL 32 RX7 yX7_stream wsX7_stream) := goodIn_app (goodIn_of _ (by decide +kernel)) ggL_law_X7_stream
set_option maxRecDepth 20000 in
theorem ggL_law_X8_stream : GoodIn wsL_law wsX8_stream := goodIn_r _ [265, 207, 208, 209, 5, 210, 211, 98, 58, 59, 60, 61, 62, 65, 57, 605, 606, 607, 608, 609, 610, 611, 612, 613, 614, 615, 616, 617, 618, 619, 620, 621, 622, 623, 624, 625, 626] (by decide +kernel) (by decide +kernel)
set_option maxRecDepth 20000 in
theorem gL_law_X8_stream : GoodIn wsL_law (wsV RL 36 RX8 yX8_stream wsX8_stream) := goodIn_app (goodIn_of _ (by decide +kernel)) ggL_law_X8_stream
set_option maxRecDepth 20000 in
theorem ggL_law_X7_turn : GoodIn wsL_law wsX7_turn := goodIn_r _ [269, 270, 271, 272, 2, 273, 19, 274, 120, 121, 122, 18, 123, 85, 275, 276, 277, 278, 279, 280, 281, 282, 283, 284, 285, 286, 287, 288, 289, 290, 40, 291, 292, 293, 294, 295, 296, 297, 298, 299, 300, 135, 301, 140, 302, 303, 304, 305, 306, 307, 308, 309, 15, 310, 311, 312, 313, 314, 315, 316, 317, 318, 319, 142, 320, 321, 322, 323, 324, 325, 326, 108, 327, 328, 329, 237, 330, 331, 332, 333, 334, 254, 335, 258, 259, 261, 147, 148, 14, 149, 29, 150, 336, 337, 218, 338, 339, 340, 341, 342, 343, 344, 143, 345, 346, 347, 348, 349, 350, 351, 352, 353, 144, 354, 355, 356, 357, 358, 359, 360, 361, 362, 363, 364, 365, 366, 367, 368, 369, 128, 127, 370, 371, 372, 373, 374, 26, 375, 35, 376, 377, 378, 379, 380, 381, 242, 382, 383, 384, 385, 386, 387, 388, 389, 390, 391, 392, 30, 393, 152, 153, 154, 155, 156, 157, 158, 159, 160, 161, 162, 163, 164, 165, 166, 167, 168, 39, 169, 170, 171, 172, 173, 174, 175, 176, 177, 178, 179, 180, 181, 182, 183, 184, 185, 186, 187, 188, 189, 190, 191, 192, 193, 194, 195, 196, 197, 198, 199, 200, 201, 202, 394, 87, 88, 89, 395, 396, 397, 398, 399, 400, 401, 402, 403, 404, 405, 406, 407, 408, 409, 410, 411, 412, 413, 414, 415, 27, 416, 417, 418, 419, 420, 421, 422, 423, 424, 223, 425, 426, 224, 427, 428, 225, 429, 430, 431, 432, 433, 434, 435, 436, 437, 438, 439, 440, 441, 442, 443, 444, 20, 151, 599, 600, 601, 602, 603, 604, 630, 631, 632, 634, 635, 636, 637, 638, 639, 640, 641, 642, 643, 644, 645, 646, 647, 648, 649, 650, 651, 652, 653, 654, 655, 656, 657, 658, 659, 660, 661, 662, 663, 664, 665, 666, 667, 668, 669, 670, 671, 672, 673, 674, 675, 676, 677, 678, 679, 680, 681, 682, 683, 627, 628, 629, 633] (by decide +kernel) (by decide +kernel)
set_option maxRecDepth 20000 in
theorem gL_law_X7_turn : GoodIn wsL_law (wsV RL 37 RX7 yX7_turn wsX7_turn) := goodIn_app (goodIn_of _ (by decide +kernel)) ggL_law_X7_turn
set_option maxRecDepth 20000 in
theorem ggL_law_X8_turn : GoodIn wsL_law wsX8_turn := goodIn_r _ [448, 98, 449, 66, 450, 68, 63, 59, 58, 60, 99, 100, 5, 101, 451, 452, 453, 454, 65, 57, 455, 456, 457, 458, 459, 460, 461, 462, 56, 69, 463, 464, 465, 466, 61, 64, 62, 467, 468, 469, 470, 70, 471, 472, 473, 474, 71, 475, 72, 73, 605, 606, 607, 608, 609, 610, 611, 612, 613, 614, 615, 616, 617, 618, 619, 620, 621, 622, 623, 624, 625, 626] (by decide +kernel) (by decide +kernel)
set_option maxRecDepth 20000 in
theorem gL_law_X8_turn : GoodIn wsL_law (wsV RL 41 RX8 yX8_turn wsX8_turn) := goodIn_app (goodIn_of _ (by decide +kernel)) ggL_law_X8_turn
set_option maxRecDepth 20000 in
theorem ggL_law_X7_run : GoodIn wsL_law wsX7_run := goodIn_r _ [479, 480, 481, 482, 2, 483, 19, 274, 120, 121, 122, 18, 123, 85, 275, 276, 277, 278, 279, 280, 281, 282, 283, 284, 285, 286, 287, 288, 289, 290, 40, 291, 292, 293, 294, 295, 296, 297, 298, 299, 300, 135, 301, 140, 302, 303, 304, 305, 306, 307, 308, 309, 15, 310, 311, 312, 313, 314, 315, 316, 317, 318, 319, 142, 320, 321, 322, 323, 324, 325, 326, 108, 327, 328, 329, 237, 330, 331, 332, 333, 334, 254, 335, 258, 259, 261, 147, 148, 14, 149, 29, 150, 336, 337, 218, 338, 339, 340, 341, 342, 343, 344, 143, 345, 346, 347, 348, 349, 350, 351, 352, 353, 144, 354, 355, 356, 357, 358, 359, 360, 361, 362, 363, 364, 365, 366, 367, 368, 369, 128, 127, 370, 371, 372, 373, 374, 26, 375, 35, 376, 377, 378, 379, 380, 381, 242, 382, 383, 384, 385, 386, 387, 388, 389, 390, 391, 392, 30, 393, 152, 153, 154, 155, 156, 157, 158, 159, 160, 161, 162, 163, 164, 165, 166, 167, 168, 39, 169, 170, 171, 172, 173, 174, 175, 176, 177, 178, 179, 180, 181, 182, 183, 184, 185, 186, 187, 188, 189, 190, 191, 192, 193, 194, 195, 196, 197, 198, 199, 200, 201, 202, 394, 87, 88, 89, 395, 396, 397, 398, 399, 400, 401, 402, 403, 404, 405, 406, 407, 408, 409, 410, 411, 412, 413, 414, 415, 27, 416, 417, 418, 419, 420, 421, 422, 423, 424, 223, 425, 426, 224, 427, 428, 225, 429, 430, 431, 432, 433, 434, 435, 436, 437, 438, 439, 440, 441, 442, 443, 444, 20, 151, 599, 600, 601, 602, 603, 604, 630, 631, 632, 634, 635, 636, 637, 638, 639, 640, 641, 642, 643, 644, 645, 646, 647, 648, 649, 650, 651, 652, 653, 654, 655, 656, 657, 658, 659, 660, 661, 662, 663, 664, 665, 666, 667, 668, 669, 670, 671, 672, 673, 674, 675, 676, 677, 678, 679, 680, 681, 682, 683, 627, 628, 629, 633] (by decide +kernel) (by decide +kernel)
set_option maxRecDepth 20000 in
theorem gL_law_X7_run : GoodIn wsL_law (wsV RL 42 RX7 yX7_run wsX7_run) := goodIn_app (goodIn_of _ (by decide +kernel)) ggL_law_X7_run
set_option maxRecDepth 20000 in
theorem ggL_law_X8_run : GoodIn wsL_law wsX8_run := goodIn_r _ [487, 98, 99, 100, 5, 101, 488, 446, 447, 448, 449, 66, 450, 68, 63, 59, 58, 60, 451, 452, 453, 454, 65, 57, 455, 456, 457, 458, 459, 460, 461, 462, 56, 69, 463, 464, 465, 466, 61, 64, 62, 467, 468, 469, 470, 70, 471, 472, 473, 474, 71, 475, 72, 73, 605, 606, 607, 608, 609, 610, 611, 612, 613, 614, 615, 616, 617, 618, 619, 620, 621, 622, 623, 624, 625, 626] (by decide +kernel) (by decide +kernel)
set_option maxRecDepth 20000 in
theorem gL_law_X8_run : GoodIn wsL_law (wsV RL 45 RX8 yX8_run wsX8_run) := goodIn_app (goodIn_of _ (by decide +kernel)) ggL_law_X8_run
set_option maxRecDepth 20000 in
theorem ggL_law_X7_cancel : GoodIn wsL_law wsX7_cancel := goodIn_r _ [492, 309, 270, 271, 272, 2, 273, 19, 274, 120, 121, 122, 18, 123, 85, 275, 276, 277, 278, 279, 280, 281, 282, 283, 284, 285, 286, 287, 288, 289, 290, 40, 297, 298, 299, 300, 135, 301, 140, 302, 303, 304, 634, 635, 636, 637, 638, 639, 640, 641, 642, 643, 644, 645, 646, 647, 648, 649, 650, 651, 652, 653, 654, 655, 656, 657, 658, 659, 660, 661, 662, 663, 664, 665, 666, 667, 668, 669, 670, 671, 672, 673, 674, 675, 676, 677, 678, 679, 680, 681, 682, 683, 599, 600, 601, 602, 603, 604, 630, 631, 632] (by decide +kernel) (by decide +kernel)
set_option maxRecDepth 20000 in
theorem gL_law_X7_cancel : GoodIn wsL_law (wsV RL 46 RX7 yX7_cancel wsX7_cancel) := goodIn_app (goodIn_of _ (by decide +kernel)) ggL_law_X7_cancel
set_option maxRecDepth 20000 in
theorem ggL_law_X8_cancel : GoodIn wsL_law wsX8_cancel := goodIn_r _ [496, 98, 66, 68, 99, 100, 5, 101, 605, 606, 607, 608, 609, 610, 611, 612, 613, 614, 615, 616, 617, 618, 619, 620, 621, 622, 623, 624, 625, 626] (by decide +kernel) (by decide +kernel)
set_option maxRecDepth 20000 in
theorem gL_law_X8_cancel : GoodIn wsL_law (wsV RL 49 RX8 yX8_cancel wsX8_cancel) := goodIn_app (goodIn_of _ (by decide +kernel)) ggL_law_X8_cancel
set_option maxRecDepth 20000 in
theorem ggL_law_X7_close : GoodIn wsL_law wsX7_close := goodIn_r _ [500, 119, 19, 274, 120, 121, 122, 18, 123, 85, 275, 276, 277, 278, 279, 280, 281, 282, 283, 284, 285, 286, 287, 288, 289, 290, 40, 297, 298, 299, 300, 135, 301, 140, 302, 303, 304, 439, 440, 441, 2, 442, 443, 296, 444, 20, 151, 152, 153, 154, 155, 156, 157, 158, 159, 160, 161, 162, 163, 164, 165, 166, 167, 168, 39, 169, 170, 171, 172, 173, 174, 175, 176, 177, 178, 179, 180, 181, 182, 183, 184, 185, 186, 187, 188, 189, 190, 191, 192, 193, 194, 195, 196, 197, 198, 199, 200, 201, 202, 599, 600, 601, 602, 603, 604, 630, 631, 632, 634, 635, 636, 637, 638, 639, 640, 641, 642, 643, 644, 645, 646, 647, 648, 649, 650, 651, 652, 653, 654, 655, 656, 657, 658, 659, 660, 661, 662, 663, 664, 665, 666, 667, 668, 669, 670, 671, 672, 673, 674, 675, 676, 677, 678, 679, 680, 681, 682, 683] (by decide +kernel) (by decide +kernel)
set_option maxRecDepth 20000 in
theorem gL_law_X7_close : GoodIn wsL_law (wsV RL 50 RX7 yX7_close wsX7_close) := goodIn_app (goodIn_of _ (by decide +kernel)) ggL_law_X7_close
set_option maxRecDepth 20000 in
theorem ggL_law_X8_close : GoodIn wsL_law wsX8_close := goodIn_r _ [504, 211, 98, 66, 471, 472, 473, 5, 474, 71, 475, 72, 73, 450, 605, 606, 607, 608, 609, 610, 611, 612, 613, 614, 615, 616, 617, 618, 619, 620, 621, 622, 623, 624, 625, 626] (by decide +kernel) (by decide +kernel)
set_option maxRecDepth 20000 in
theorem gL_law_X8_close : GoodIn wsL_law (wsV RL 53 RX8 yX8_close wsX8_close) := goodIn_app (goodIn_of _ (by decide +kernel)) ggL_law_X8_close
set_option maxRecDepth 20000 in
theorem ggL_law_X7_told : GoodIn wsL_law wsX7_told := goodIn_r _ [508, 509, 443, 510, 511, 512, 270, 271, 272, 2, 273, 19, 274, 120, 121, 122, 18, 123, 85, 275, 276, 277, 278, 279, 280, 281, 282, 283, 284, 285, 286, 287, 288, 289, 290, 40, 305, 306, 307, 308, 309, 15, 297, 298, 299, 300, 135, 301, 140, 302, 303, 304, 310, 311, 312, 313, 314, 315, 316, 317, 318, 319, 142, 320, 321, 322, 323, 324, 325, 326, 108, 327, 328, 329, 237, 330, 331, 332, 333, 334, 254, 335, 258, 259, 261, 147, 148, 14, 149, 29, 150, 336, 337, 218, 338, 339, 340, 341, 342, 343, 344, 143, 634, 635, 636, 637, 638, 639, 640, 641, 642, 643, 644, 645, 646, 647, 648, 649, 650, 651, 652, 653, 654, 655, 656, 657, 658, 659, 660, 661, 662, 663, 664, 665, 666, 667, 668, 669, 670, 671, 672, 673, 674, 675, 676, 677, 678, 679, 680, 681, 682, 683, 599, 600, 601, 602, 603, 604, 630, 631, 632, 627, 628, 629] (by decide +kernel) (by decide +kernel)
set_option maxRecDepth 20000 in
theorem gL_law_X7_told : GoodIn wsL_law (wsV RL 54 RX7 yX7_told wsX7_told) := goodIn_app (goodIn_of _ (by decide +kernel)) ggL_law_X7_told
set_option maxRecDepth 20000 in
theorem ggL_law_X8_told : GoodIn wsL_law wsX8_told := goodIn_r _ [516, 98, 58, 66, 63, 64, 65, 99, 100, 5, 101, 451, 452, 453, 454, 68, 59, 57, 455, 456, 457, 458, 605, 606, 607, 608, 609, 610, 611, 612, 613, 614, 615, 616, 617, 618, 619, 620, 621, 622, 623, 624, 625, 626] (by decide +kernel) (by decide +kernel)
end
section
set_option maxRecDepth 20000 in
theorem gL_law_X8_told : GoodIn wsL_law (wsV RL 57 RX8 yX8_told wsX8_told) := goodIn_app (goodIn_of _ (by decide +kernel)) ggL_law_X8_told
set_option maxRecDepth 20000 in
theorem ggL_law_X7_ended : GoodIn wsL_law wsX7_ended := goodIn_r _ [520, 20, 274, 314, 443, 444, 120, 121, 122, 18, 123, 85, 275, 276, 277, 278, 279, 280, 281, 282, 283, 284, 285, 286, 287, 288, 289, 290, 40, 599, 600, 601, 602, 603, 604, 634, 635, 636, 637, 638, 639, 640, 641, 642, 643, 644, 645, 646, 647, 648, 649, 650, 651, 652, 653, 654, 655, 656, 657, 658, 659, 660, 661, 662, 663, 664, 665, 666, 667, 668, 669, 670, 671, 672, 673, 674, 675, 676, 677, 678, 679, 680, 681, 682, 683, 630, 631, 632] (by decide +kernel) (by decide +kernel)
set_option maxRecDepth 20000 in
theorem gL_law_X7_ended : GoodIn wsL_law (wsV RL 58 RX7 yX7_ended wsX7_ended) := goodIn_app (goodIn_of _ (by decide +kernel)) ggL_law_X7_ended
set_option maxRecDepth 20000 in
theorem ggL_law_X8_ended : GoodIn wsL_law wsX8_ended := goodIn_r _ [524, 475, 71, 72, 73, 99, 100, 5, 101, 605, 606, 607, 608, 609, 610, 611, 612, 613, 614, 615, 616, 617, 618, 619, 620, 621, 622, 623, 624, 625, 626] (by decide +kernel) (by decide +kernel)
set_option maxRecDepth 20000 in
theorem gL_law_X8_ended : GoodIn wsL_law (wsV RL 61 RX8 yX8_ended wsX8_ended) := goodIn_app (goodIn_of _ (by decide +kernel)) ggL_law_X8_ended
set_option maxRecDepth 20000 in
theorem ggL_law_X7_cell : GoodIn wsL_law wsX7_cell := goodIn_r _ [528, 15, 529, 413, 414, 14, 415, 27, 29, 416, 150, 121, 122, 18, 123, 85, 417, 276, 277, 278, 279, 280, 281, 282, 283, 284, 285, 286, 287, 288, 289, 290, 40, 78, 79, 2, 80, 530, 531, 532, 533, 19, 274, 534, 147, 148, 149, 535, 536, 537, 538, 120, 275, 539, 540, 541, 542, 135, 543, 139, 544, 298, 299, 300, 301, 140, 302, 303, 304, 545, 546, 547, 548, 549, 550, 551, 552, 553, 554, 555, 556, 254, 557, 258, 259, 558, 559, 560, 561, 562, 373, 374, 26, 375, 35, 599, 600, 601, 602, 603, 604, 627, 628, 629, 630, 631, 632, 634, 635, 636, 637, 638, 639, 640, 641, 642, 643, 644, 645, 646, 647, 648, 649, 650, 651, 652, 653, 654, 655, 656, 657, 658, 659, 660, 661, 662, 663, 664, 665, 666, 667, 668, 669, 670, 671, 672, 673, 674, 675, 676, 677, 678, 679, 680, 681, 682, 683, 633] (by decide +kernel) (by decide +kernel)
set_option maxRecDepth 20000 in
theorem gL_law_X7_cell : GoodIn wsL_law (wsV RL 62 RX7 yX7_cell wsX7_cell) := goodIn_app (goodIn_of _ (by decide +kernel)) ggL_law_X7_cell
set_option maxRecDepth 20000 in
theorem ggL_law_X8_cell : GoodIn wsL_law wsX8_cell := goodIn_r _ [566, 57, 56, 99, 100, 5, 101, 567, 568, 569, 570, 98, 58, 66, 65, 571, 572, 573, 574, 575, 576, 577, 578, 605, 606, 607, 608, 609, 610, 611, 612, 613, 614, 615, 616, 617, 618, 619, 620, 621, 622, 623, 624, 625, 626] (by decide +kernel) (by decide +kernel)
set_option maxRecDepth 20000 in
theorem gL_law_X8_cell : GoodIn wsL_law (wsV RL 65 RX8 yX8_cell wsX8_cell) := goodIn_app (goodIn_of _ (by decide +kernel)) ggL_law_X8_cell
set_option maxRecDepth 20000 in
theorem ggL_law_X7_count : GoodIn wsL_law wsX7_count := goodIn_r _ [582, 15, 296, 295, 19, 20, 583, 584, 585, 14, 586, 29, 150, 121, 122, 18, 123, 85, 587, 588, 589, 2, 590, 530, 531, 532, 533, 274, 534, 147, 148, 149, 535, 536, 537, 538, 120, 275, 276, 277, 278, 279, 280, 281, 282, 283, 284, 285, 286, 287, 288, 289, 290, 40, 539, 540, 541, 542, 135, 543, 139, 544, 298, 299, 300, 301, 140, 302, 303, 304, 545, 546, 547, 548, 549, 550, 551, 552, 553, 554, 555, 556, 254, 557, 258, 259, 558, 559, 560, 561, 591, 592, 593, 594, 599, 600, 601, 602, 603, 604, 627, 628, 629, 630, 631, 632, 634, 635, 636, 637, 638, 639, 640, 641, 642, 643, 644, 645, 646, 647, 648, 649, 650, 651, 652, 653, 654, 655, 656, 657, 658, 659, 660, 661, 662, 663, 664, 665, 666, 667, 668, 669, 670, 671, 672, 673, 674, 675, 676, 677, 678, 679, 680, 681, 682, 683] (by decide +kernel) (by decide +kernel)
set_option maxRecDepth 20000 in
theorem gL_law_X7_count : GoodIn wsL_law (wsV RL 66 RX7 yX7_count wsX7_count) := goodIn_app (goodIn_of _ (by decide +kernel)) ggL_law_X7_count
set_option maxRecDepth 20000 in
theorem ggL_law_X8_count : GoodIn wsL_law wsX8_count := goodIn_r _ [598, 57, 450, 449, 98, 66, 567, 568, 569, 5, 570, 58, 65, 571, 572, 573, 574, 575, 576, 577, 578, 605, 606, 607, 608, 609, 610, 611, 612, 613, 614, 615, 616, 617, 618, 619, 620, 621, 622, 623, 624, 625, 626] (by decide +kernel) (by decide +kernel)
set_option maxRecDepth 20000 in
theorem gL_law_X8_count : GoodIn wsL_law (wsV RL 69 RX8 yX8_count wsX8_count) := goodIn_app (goodIn_of _ (by decide +kernel)) ggL_law_X8_count
theorem dL_law_0 : decode cL_law 0 = .ok (.new 7, 3) := by decide +kernel
theorem dL_law_3 : decode cL_law 3 = .ok (.dup, 1) := by decide +kernel
theorem dL_law_4 : decode cL_law 4 = .ok (.invokespecial 9, 3) := by decide +kernel
theorem dL_law_7 : decode cL_law 7 = .ok (.astore_n 1, 1) := by decide +kernel
theorem dL_law_8 : decode cL_law 8 = .ok (.new 10, 3) := by decide +kernel
theorem dL_law_11 : decode cL_law 11 = .ok (.dup, 1) := by decide +kernel
theorem dL_law_12 : decode cL_law 12 = .ok (.invokespecial 12, 3) := by decide +kernel
theorem dL_law_15 : decode cL_law 15 = .ok (.astore_n 2, 1) := by decide +kernel
theorem dL_law_16 : decode cL_law 16 = .ok (.iconst 0, 1) := by decide +kernel
theorem dL_law_17 : decode cL_law 17 = .ok (.istore_n 3, 1) := by decide +kernel
theorem dL_law_18 : decode cL_law 18 = .ok (.iload_n 3, 1) := by decide +kernel
theorem dL_law_19 : decode cL_law 19 = .ok (.aload_n 0, 1) := by decide +kernel
theorem dL_law_20 : decode cL_law 20 = .ok (.arraylength, 1) := by decide +kernel
theorem dL_law_21 : decode cL_law 21 = .ok (.iconst 5, 1) := by decide +kernel
theorem dL_law_22 : decode cL_law 22 = .ok (.isub, 1) := by decide +kernel
theorem dL_law_23 : decode cL_law 23 = .ok (.if_icmp .gt 462, 3) := by decide +kernel
theorem dL_law_26 : decode cL_law 26 = .ok (.aload_n 0, 1) := by decide +kernel
theorem dL_law_27 : decode cL_law 27 = .ok (.iload_n 3, 1) := by decide +kernel
theorem dL_law_28 : decode cL_law 28 = .ok (.iaload, 1) := by decide +kernel
theorem dL_law_29 : decode cL_law 29 = .ok (.bipush 15, 2) := by decide +kernel
theorem dL_law_31 : decode cL_law 31 = .ok (.iand, 1) := by decide +kernel
theorem dL_law_32 : decode cL_law 32 = .ok (.tableswitch 447 0 12 #[68, 101, 144, 197, 230, 243, 266, 289, 312, 325, 358, 391, 424], 68) := by decide +kernel
theorem dL_law_100 : decode cL_law 100 = .ok (.aload_n 1, 1) := by decide +kernel
theorem dL_law_101 : decode cL_law 101 = .ok (.aload_n 0, 1) := by decide +kernel
theorem dL_law_102 : decode cL_law 102 = .ok (.iload_n 3, 1) := by decide +kernel
theorem dL_law_103 : decode cL_law 103 = .ok (.iconst 1, 1) := by decide +kernel
theorem dL_law_104 : decode cL_law 104 = .ok (.iadd, 1) := by decide +kernel
theorem dL_law_105 : decode cL_law 105 = .ok (.iaload, 1) := by decide +kernel
theorem dL_law_106 : decode cL_law 106 = .ok (.aload_n 0, 1) := by decide +kernel
theorem dL_law_107 : decode cL_law 107 = .ok (.iload_n 3, 1) := by decide +kernel
theorem dL_law_108 : decode cL_law 108 = .ok (.iconst 2, 1) := by decide +kernel
theorem dL_law_109 : decode cL_law 109 = .ok (.iadd, 1) := by decide +kernel
theorem dL_law_110 : decode cL_law 110 = .ok (.iaload, 1) := by decide +kernel
theorem dL_law_111 : decode cL_law 111 = .ok (.invokevirtual 13, 3) := by decide +kernel
theorem dL_law_114 : decode cL_law 114 = .ok (.aload_n 2, 1) := by decide +kernel
theorem dL_law_115 : decode cL_law 115 = .ok (.aload_n 0, 1) := by decide +kernel
theorem dL_law_116 : decode cL_law 116 = .ok (.iload_n 3, 1) := by decide +kernel
theorem dL_law_117 : decode cL_law 117 = .ok (.iconst 1, 1) := by decide +kernel
theorem dL_law_118 : decode cL_law 118 = .ok (.iadd, 1) := by decide +kernel
theorem dL_law_119 : decode cL_law 119 = .ok (.iaload, 1) := by decide +kernel
theorem dL_law_120 : decode cL_law 120 = .ok (.aload_n 0, 1) := by decide +kernel
theorem dL_law_121 : decode cL_law 121 = .ok (.iload_n 3, 1) := by decide +kernel
theorem dL_law_122 : decode cL_law 122 = .ok (.iconst 2, 1) := by decide +kernel
theorem dL_law_123 : decode cL_law 123 = .ok (.iadd, 1) := by decide +kernel
theorem dL_law_124 : decode cL_law 124 = .ok (.iaload, 1) := by decide +kernel
theorem dL_law_125 : decode cL_law 125 = .ok (.invokevirtual 17, 3) := by decide +kernel
theorem dL_law_128 : decode cL_law 128 = .ok (.if_icmp .eq 351, 3) := by decide +kernel
theorem dL_law_131 : decode cL_law 131 = .ok (.iconst 0, 1) := by decide +kernel
theorem dL_law_132 : decode cL_law 132 = .ok (.ireturn, 1) := by decide +kernel
theorem dL_law_133 : decode cL_law 133 = .ok (.aload_n 1, 1) := by decide +kernel
theorem dL_law_134 : decode cL_law 134 = .ok (.aload_n 0, 1) := by decide +kernel
theorem dL_law_135 : decode cL_law 135 = .ok (.iload_n 3, 1) := by decide +kernel
theorem dL_law_136 : decode cL_law 136 = .ok (.iconst 1, 1) := by decide +kernel
theorem dL_law_137 : decode cL_law 137 = .ok (.iadd, 1) := by decide +kernel
theorem dL_law_138 : decode cL_law 138 = .ok (.iaload, 1) := by decide +kernel
theorem dL_law_139 : decode cL_law 139 = .ok (.aload_n 0, 1) := by decide +kernel
theorem dL_law_140 : decode cL_law 140 = .ok (.iload_n 3, 1) := by decide +kernel
theorem dL_law_141 : decode cL_law 141 = .ok (.iconst 2, 1) := by decide +kernel
theorem dL_law_142 : decode cL_law 142 = .ok (.iadd, 1) := by decide +kernel
theorem dL_law_143 : decode cL_law 143 = .ok (.iaload, 1) := by decide +kernel
theorem dL_law_144 : decode cL_law 144 = .ok (.aload_n 0, 1) := by decide +kernel
theorem dL_law_145 : decode cL_law 145 = .ok (.iload_n 3, 1) := by decide +kernel
theorem dL_law_146 : decode cL_law 146 = .ok (.iconst 3, 1) := by decide +kernel
theorem dL_law_147 : decode cL_law 147 = .ok (.iadd, 1) := by decide +kernel
theorem dL_law_148 : decode cL_law 148 = .ok (.iaload, 1) := by decide +kernel
theorem dL_law_149 : decode cL_law 149 = .ok (.invokevirtual 18, 3) := by decide +kernel
theorem dL_law_152 : decode cL_law 152 = .ok (.aload_n 2, 1) := by decide +kernel
theorem dL_law_153 : decode cL_law 153 = .ok (.aload_n 0, 1) := by decide +kernel
theorem dL_law_154 : decode cL_law 154 = .ok (.iload_n 3, 1) := by decide +kernel
theorem dL_law_155 : decode cL_law 155 = .ok (.iconst 1, 1) := by decide +kernel
theorem dL_law_156 : decode cL_law 156 = .ok (.iadd, 1) := by decide +kernel
theorem dL_law_157 : decode cL_law 157 = .ok (.iaload, 1) := by decide +kernel
theorem dL_law_158 : decode cL_law 158 = .ok (.aload_n 0, 1) := by decide +kernel
theorem dL_law_159 : decode cL_law 159 = .ok (.iload_n 3, 1) := by decide +kernel
theorem dL_law_160 : decode cL_law 160 = .ok (.iconst 2, 1) := by decide +kernel
theorem dL_law_161 : decode cL_law 161 = .ok (.iadd, 1) := by decide +kernel
theorem dL_law_162 : decode cL_law 162 = .ok (.iaload, 1) := by decide +kernel
theorem dL_law_163 : decode cL_law 163 = .ok (.aload_n 0, 1) := by decide +kernel
theorem dL_law_164 : decode cL_law 164 = .ok (.iload_n 3, 1) := by decide +kernel
theorem dL_law_165 : decode cL_law 165 = .ok (.iconst 3, 1) := by decide +kernel
theorem dL_law_166 : decode cL_law 166 = .ok (.iadd, 1) := by decide +kernel
theorem dL_law_167 : decode cL_law 167 = .ok (.iaload, 1) := by decide +kernel
theorem dL_law_168 : decode cL_law 168 = .ok (.invokevirtual 22, 3) := by decide +kernel
theorem dL_law_171 : decode cL_law 171 = .ok (.if_icmp .eq 308, 3) := by decide +kernel
theorem dL_law_174 : decode cL_law 174 = .ok (.iconst 0, 1) := by decide +kernel
theorem dL_law_175 : decode cL_law 175 = .ok (.ireturn, 1) := by decide +kernel
theorem dL_law_176 : decode cL_law 176 = .ok (.aload_n 1, 1) := by decide +kernel
theorem dL_law_177 : decode cL_law 177 = .ok (.aload_n 0, 1) := by decide +kernel
theorem dL_law_178 : decode cL_law 178 = .ok (.iload_n 3, 1) := by decide +kernel
theorem dL_law_179 : decode cL_law 179 = .ok (.iconst 1, 1) := by decide +kernel
theorem dL_law_180 : decode cL_law 180 = .ok (.iadd, 1) := by decide +kernel
theorem dL_law_181 : decode cL_law 181 = .ok (.iaload, 1) := by decide +kernel
theorem dL_law_182 : decode cL_law 182 = .ok (.aload_n 0, 1) := by decide +kernel
theorem dL_law_183 : decode cL_law 183 = .ok (.iload_n 3, 1) := by decide +kernel
theorem dL_law_184 : decode cL_law 184 = .ok (.iconst 2, 1) := by decide +kernel
theorem dL_law_185 : decode cL_law 185 = .ok (.iadd, 1) := by decide +kernel
theorem dL_law_186 : decode cL_law 186 = .ok (.iaload, 1) := by decide +kernel
theorem dL_law_187 : decode cL_law 187 = .ok (.aload_n 0, 1) := by decide +kernel
theorem dL_law_188 : decode cL_law 188 = .ok (.iload_n 3, 1) := by decide +kernel
theorem dL_law_189 : decode cL_law 189 = .ok (.iconst 3, 1) := by decide +kernel
theorem dL_law_190 : decode cL_law 190 = .ok (.iadd, 1) := by decide +kernel
theorem dL_law_191 : decode cL_law 191 = .ok (.iaload, 1) := by decide +kernel
theorem dL_law_192 : decode cL_law 192 = .ok (.aload_n 0, 1) := by decide +kernel
theorem dL_law_193 : decode cL_law 193 = .ok (.iload_n 3, 1) := by decide +kernel
theorem dL_law_194 : decode cL_law 194 = .ok (.iconst 4, 1) := by decide +kernel
theorem dL_law_195 : decode cL_law 195 = .ok (.iadd, 1) := by decide +kernel
theorem dL_law_196 : decode cL_law 196 = .ok (.iaload, 1) := by decide +kernel
theorem dL_law_197 : decode cL_law 197 = .ok (.invokevirtual 23, 3) := by decide +kernel
theorem dL_law_200 : decode cL_law 200 = .ok (.aload_n 2, 1) := by decide +kernel
theorem dL_law_201 : decode cL_law 201 = .ok (.aload_n 0, 1) := by decide +kernel
theorem dL_law_202 : decode cL_law 202 = .ok (.iload_n 3, 1) := by decide +kernel
theorem dL_law_203 : decode cL_law 203 = .ok (.iconst 1, 1) := by decide +kernel
theorem dL_law_204 : decode cL_law 204 = .ok (.iadd, 1) := by decide +kernel
theorem dL_law_205 : decode cL_law 205 = .ok (.iaload, 1) := by decide +kernel
theorem dL_law_206 : decode cL_law 206 = .ok (.aload_n 0, 1) := by decide +kernel
theorem dL_law_207 : decode cL_law 207 = .ok (.iload_n 3, 1) := by decide +kernel
theorem dL_law_208 : decode cL_law 208 = .ok (.iconst 2, 1) := by decide +kernel
theorem dL_law_209 : decode cL_law 209 = .ok (.iadd, 1) := by decide +kernel
theorem dL_law_210 : decode cL_law 210 = .ok (.iaload, 1) := by decide +kernel
theorem dL_law_211 : decode cL_law 211 = .ok (.aload_n 0, 1) := by decide +kernel
theorem dL_law_212 : decode cL_law 212 = .ok (.iload_n 3, 1) := by decide +kernel
theorem dL_law_213 : decode cL_law 213 = .ok (.iconst 3, 1) := by decide +kernel
theorem dL_law_214 : decode cL_law 214 = .ok (.iadd, 1) := by decide +kernel
theorem dL_law_215 : decode cL_law 215 = .ok (.iaload, 1) := by decide +kernel
theorem dL_law_216 : decode cL_law 216 = .ok (.aload_n 0, 1) := by decide +kernel
theorem dL_law_217 : decode cL_law 217 = .ok (.iload_n 3, 1) := by decide +kernel
theorem dL_law_218 : decode cL_law 218 = .ok (.iconst 4, 1) := by decide +kernel
theorem dL_law_219 : decode cL_law 219 = .ok (.iadd, 1) := by decide +kernel
theorem dL_law_220 : decode cL_law 220 = .ok (.iaload, 1) := by decide +kernel
theorem dL_law_221 : decode cL_law 221 = .ok (.invokevirtual 27, 3) := by decide +kernel
theorem dL_law_224 : decode cL_law 224 = .ok (.if_icmp .eq 255, 3) := by decide +kernel
theorem dL_law_227 : decode cL_law 227 = .ok (.iconst 0, 1) := by decide +kernel
theorem dL_law_228 : decode cL_law 228 = .ok (.ireturn, 1) := by decide +kernel
theorem dL_law_229 : decode cL_law 229 = .ok (.aload_n 1, 1) := by decide +kernel
theorem dL_law_230 : decode cL_law 230 = .ok (.aload_n 0, 1) := by decide +kernel
theorem dL_law_231 : decode cL_law 231 = .ok (.iload_n 3, 1) := by decide +kernel
theorem dL_law_232 : decode cL_law 232 = .ok (.iconst 1, 1) := by decide +kernel
theorem dL_law_233 : decode cL_law 233 = .ok (.iadd, 1) := by decide +kernel
theorem dL_law_234 : decode cL_law 234 = .ok (.iaload, 1) := by decide +kernel
theorem dL_law_235 : decode cL_law 235 = .ok (.aload_n 0, 1) := by decide +kernel
theorem dL_law_236 : decode cL_law 236 = .ok (.iload_n 3, 1) := by decide +kernel
theorem dL_law_237 : decode cL_law 237 = .ok (.iconst 2, 1) := by decide +kernel
theorem dL_law_238 : decode cL_law 238 = .ok (.iadd, 1) := by decide +kernel
theorem dL_law_239 : decode cL_law 239 = .ok (.iaload, 1) := by decide +kernel
theorem dL_law_240 : decode cL_law 240 = .ok (.invokevirtual 28, 3) := by decide +kernel
theorem dL_law_243 : decode cL_law 243 = .ok (.aload_n 2, 1) := by decide +kernel
theorem dL_law_244 : decode cL_law 244 = .ok (.aload_n 0, 1) := by decide +kernel
theorem dL_law_245 : decode cL_law 245 = .ok (.iload_n 3, 1) := by decide +kernel
theorem dL_law_246 : decode cL_law 246 = .ok (.iconst 1, 1) := by decide +kernel
theorem dL_law_247 : decode cL_law 247 = .ok (.iadd, 1) := by decide +kernel
theorem dL_law_248 : decode cL_law 248 = .ok (.iaload, 1) := by decide +kernel
theorem dL_law_249 : decode cL_law 249 = .ok (.aload_n 0, 1) := by decide +kernel
theorem dL_law_250 : decode cL_law 250 = .ok (.iload_n 3, 1) := by decide +kernel
theorem dL_law_251 : decode cL_law 251 = .ok (.iconst 2, 1) := by decide +kernel
theorem dL_law_252 : decode cL_law 252 = .ok (.iadd, 1) := by decide +kernel
theorem dL_law_253 : decode cL_law 253 = .ok (.iaload, 1) := by decide +kernel
theorem dL_law_254 : decode cL_law 254 = .ok (.invokevirtual 31, 3) := by decide +kernel
theorem dL_law_257 : decode cL_law 257 = .ok (.if_icmp .eq 222, 3) := by decide +kernel
theorem dL_law_260 : decode cL_law 260 = .ok (.iconst 0, 1) := by decide +kernel
theorem dL_law_261 : decode cL_law 261 = .ok (.ireturn, 1) := by decide +kernel
theorem dL_law_262 : decode cL_law 262 = .ok (.aload_n 1, 1) := by decide +kernel
theorem dL_law_263 : decode cL_law 263 = .ok (.invokevirtual 32, 3) := by decide +kernel
theorem dL_law_266 : decode cL_law 266 = .ok (.aload_n 2, 1) := by decide +kernel
theorem dL_law_267 : decode cL_law 267 = .ok (.invokevirtual 36, 3) := by decide +kernel
theorem dL_law_270 : decode cL_law 270 = .ok (.if_icmp .eq 209, 3) := by decide +kernel
theorem dL_law_273 : decode cL_law 273 = .ok (.iconst 0, 1) := by decide +kernel
theorem dL_law_274 : decode cL_law 274 = .ok (.ireturn, 1) := by decide +kernel
theorem dL_law_275 : decode cL_law 275 = .ok (.aload_n 1, 1) := by decide +kernel
theorem dL_law_276 : decode cL_law 276 = .ok (.aload_n 0, 1) := by decide +kernel
theorem dL_law_277 : decode cL_law 277 = .ok (.iload_n 3, 1) := by decide +kernel
theorem dL_law_278 : decode cL_law 278 = .ok (.iconst 1, 1) := by decide +kernel
theorem dL_law_279 : decode cL_law 279 = .ok (.iadd, 1) := by decide +kernel
theorem dL_law_280 : decode cL_law 280 = .ok (.iaload, 1) := by decide +kernel
theorem dL_law_281 : decode cL_law 281 = .ok (.invokevirtual 37, 3) := by decide +kernel
theorem dL_law_284 : decode cL_law 284 = .ok (.aload_n 2, 1) := by decide +kernel
theorem dL_law_285 : decode cL_law 285 = .ok (.aload_n 0, 1) := by decide +kernel
theorem dL_law_286 : decode cL_law 286 = .ok (.iload_n 3, 1) := by decide +kernel
theorem dL_law_287 : decode cL_law 287 = .ok (.iconst 1, 1) := by decide +kernel
theorem dL_law_288 : decode cL_law 288 = .ok (.iadd, 1) := by decide +kernel
theorem dL_law_289 : decode cL_law 289 = .ok (.iaload, 1) := by decide +kernel
theorem dL_law_290 : decode cL_law 290 = .ok (.invokevirtual 41, 3) := by decide +kernel
theorem dL_law_293 : decode cL_law 293 = .ok (.if_icmp .eq 186, 3) := by decide +kernel
theorem dL_law_296 : decode cL_law 296 = .ok (.iconst 0, 1) := by decide +kernel
theorem dL_law_297 : decode cL_law 297 = .ok (.ireturn, 1) := by decide +kernel
theorem dL_law_298 : decode cL_law 298 = .ok (.aload_n 1, 1) := by decide +kernel
theorem dL_law_299 : decode cL_law 299 = .ok (.aload_n 0, 1) := by decide +kernel
theorem dL_law_300 : decode cL_law 300 = .ok (.iload_n 3, 1) := by decide +kernel
theorem dL_law_301 : decode cL_law 301 = .ok (.iconst 1, 1) := by decide +kernel
theorem dL_law_302 : decode cL_law 302 = .ok (.iadd, 1) := by decide +kernel
theorem dL_law_303 : decode cL_law 303 = .ok (.iaload, 1) := by decide +kernel
theorem dL_law_304 : decode cL_law 304 = .ok (.invokevirtual 42, 3) := by decide +kernel
theorem dL_law_307 : decode cL_law 307 = .ok (.aload_n 2, 1) := by decide +kernel
theorem dL_law_308 : decode cL_law 308 = .ok (.aload_n 0, 1) := by decide +kernel
theorem dL_law_309 : decode cL_law 309 = .ok (.iload_n 3, 1) := by decide +kernel
theorem dL_law_310 : decode cL_law 310 = .ok (.iconst 1, 1) := by decide +kernel
theorem dL_law_311 : decode cL_law 311 = .ok (.iadd, 1) := by decide +kernel
theorem dL_law_312 : decode cL_law 312 = .ok (.iaload, 1) := by decide +kernel
theorem dL_law_313 : decode cL_law 313 = .ok (.invokevirtual 45, 3) := by decide +kernel
theorem dL_law_316 : decode cL_law 316 = .ok (.if_icmp .eq 163, 3) := by decide +kernel
theorem dL_law_319 : decode cL_law 319 = .ok (.iconst 0, 1) := by decide +kernel
theorem dL_law_320 : decode cL_law 320 = .ok (.ireturn, 1) := by decide +kernel
theorem dL_law_321 : decode cL_law 321 = .ok (.aload_n 1, 1) := by decide +kernel
theorem dL_law_322 : decode cL_law 322 = .ok (.aload_n 0, 1) := by decide +kernel
theorem dL_law_323 : decode cL_law 323 = .ok (.iload_n 3, 1) := by decide +kernel
theorem dL_law_324 : decode cL_law 324 = .ok (.iconst 1, 1) := by decide +kernel
theorem dL_law_325 : decode cL_law 325 = .ok (.iadd, 1) := by decide +kernel
theorem dL_law_326 : decode cL_law 326 = .ok (.iaload, 1) := by decide +kernel
theorem dL_law_327 : decode cL_law 327 = .ok (.invokevirtual 46, 3) := by decide +kernel
theorem dL_law_330 : decode cL_law 330 = .ok (.aload_n 2, 1) := by decide +kernel
theorem dL_law_331 : decode cL_law 331 = .ok (.aload_n 0, 1) := by decide +kernel
theorem dL_law_332 : decode cL_law 332 = .ok (.iload_n 3, 1) := by decide +kernel
theorem dL_law_333 : decode cL_law 333 = .ok (.iconst 1, 1) := by decide +kernel
theorem dL_law_334 : decode cL_law 334 = .ok (.iadd, 1) := by decide +kernel
theorem dL_law_335 : decode cL_law 335 = .ok (.iaload, 1) := by decide +kernel
theorem dL_law_336 : decode cL_law 336 = .ok (.invokevirtual 49, 3) := by decide +kernel
theorem dL_law_339 : decode cL_law 339 = .ok (.if_icmp .eq 140, 3) := by decide +kernel
theorem dL_law_342 : decode cL_law 342 = .ok (.iconst 0, 1) := by decide +kernel
theorem dL_law_343 : decode cL_law 343 = .ok (.ireturn, 1) := by decide +kernel
theorem dL_law_344 : decode cL_law 344 = .ok (.aload_n 1, 1) := by decide +kernel
theorem dL_law_345 : decode cL_law 345 = .ok (.invokevirtual 50, 3) := by decide +kernel
theorem dL_law_348 : decode cL_law 348 = .ok (.aload_n 2, 1) := by decide +kernel
theorem dL_law_349 : decode cL_law 349 = .ok (.invokevirtual 53, 3) := by decide +kernel
theorem dL_law_352 : decode cL_law 352 = .ok (.if_icmp .eq 127, 3) := by decide +kernel
theorem dL_law_355 : decode cL_law 355 = .ok (.iconst 0, 1) := by decide +kernel
theorem dL_law_356 : decode cL_law 356 = .ok (.ireturn, 1) := by decide +kernel
theorem dL_law_357 : decode cL_law 357 = .ok (.aload_n 1, 1) := by decide +kernel
theorem dL_law_358 : decode cL_law 358 = .ok (.aload_n 0, 1) := by decide +kernel
theorem dL_law_359 : decode cL_law 359 = .ok (.iload_n 3, 1) := by decide +kernel
theorem dL_law_360 : decode cL_law 360 = .ok (.iconst 1, 1) := by decide +kernel
theorem dL_law_361 : decode cL_law 361 = .ok (.iadd, 1) := by decide +kernel
theorem dL_law_362 : decode cL_law 362 = .ok (.iaload, 1) := by decide +kernel
theorem dL_law_363 : decode cL_law 363 = .ok (.aload_n 0, 1) := by decide +kernel
theorem dL_law_364 : decode cL_law 364 = .ok (.iload_n 3, 1) := by decide +kernel
theorem dL_law_365 : decode cL_law 365 = .ok (.iconst 2, 1) := by decide +kernel
theorem dL_law_366 : decode cL_law 366 = .ok (.iadd, 1) := by decide +kernel
theorem dL_law_367 : decode cL_law 367 = .ok (.iaload, 1) := by decide +kernel
theorem dL_law_368 : decode cL_law 368 = .ok (.invokevirtual 54, 3) := by decide +kernel
theorem dL_law_371 : decode cL_law 371 = .ok (.aload_n 2, 1) := by decide +kernel
theorem dL_law_372 : decode cL_law 372 = .ok (.aload_n 0, 1) := by decide +kernel
theorem dL_law_373 : decode cL_law 373 = .ok (.iload_n 3, 1) := by decide +kernel
theorem dL_law_374 : decode cL_law 374 = .ok (.iconst 1, 1) := by decide +kernel
theorem dL_law_375 : decode cL_law 375 = .ok (.iadd, 1) := by decide +kernel
theorem dL_law_376 : decode cL_law 376 = .ok (.iaload, 1) := by decide +kernel
theorem dL_law_377 : decode cL_law 377 = .ok (.aload_n 0, 1) := by decide +kernel
theorem dL_law_378 : decode cL_law 378 = .ok (.iload_n 3, 1) := by decide +kernel
theorem dL_law_379 : decode cL_law 379 = .ok (.iconst 2, 1) := by decide +kernel
theorem dL_law_380 : decode cL_law 380 = .ok (.iadd, 1) := by decide +kernel
theorem dL_law_381 : decode cL_law 381 = .ok (.iaload, 1) := by decide +kernel
theorem dL_law_382 : decode cL_law 382 = .ok (.invokevirtual 57, 3) := by decide +kernel
theorem dL_law_385 : decode cL_law 385 = .ok (.if_icmp .eq 94, 3) := by decide +kernel
theorem dL_law_388 : decode cL_law 388 = .ok (.iconst 0, 1) := by decide +kernel
theorem dL_law_389 : decode cL_law 389 = .ok (.ireturn, 1) := by decide +kernel
theorem dL_law_390 : decode cL_law 390 = .ok (.aload_n 1, 1) := by decide +kernel
theorem dL_law_391 : decode cL_law 391 = .ok (.aload_n 0, 1) := by decide +kernel
theorem dL_law_392 : decode cL_law 392 = .ok (.iload_n 3, 1) := by decide +kernel
theorem dL_law_393 : decode cL_law 393 = .ok (.iconst 1, 1) := by decide +kernel
theorem dL_law_394 : decode cL_law 394 = .ok (.iadd, 1) := by decide +kernel
theorem dL_law_395 : decode cL_law 395 = .ok (.iaload, 1) := by decide +kernel
theorem dL_law_396 : decode cL_law 396 = .ok (.aload_n 0, 1) := by decide +kernel
theorem dL_law_397 : decode cL_law 397 = .ok (.iload_n 3, 1) := by decide +kernel
theorem dL_law_398 : decode cL_law 398 = .ok (.iconst 2, 1) := by decide +kernel
theorem dL_law_399 : decode cL_law 399 = .ok (.iadd, 1) := by decide +kernel
theorem dL_law_400 : decode cL_law 400 = .ok (.iaload, 1) := by decide +kernel
theorem dL_law_401 : decode cL_law 401 = .ok (.invokevirtual 58, 3) := by decide +kernel
theorem dL_law_404 : decode cL_law 404 = .ok (.aload_n 2, 1) := by decide +kernel
theorem dL_law_405 : decode cL_law 405 = .ok (.aload_n 0, 1) := by decide +kernel
theorem dL_law_406 : decode cL_law 406 = .ok (.iload_n 3, 1) := by decide +kernel
theorem dL_law_407 : decode cL_law 407 = .ok (.iconst 1, 1) := by decide +kernel
theorem dL_law_408 : decode cL_law 408 = .ok (.iadd, 1) := by decide +kernel
theorem dL_law_409 : decode cL_law 409 = .ok (.iaload, 1) := by decide +kernel
theorem dL_law_410 : decode cL_law 410 = .ok (.aload_n 0, 1) := by decide +kernel
theorem dL_law_411 : decode cL_law 411 = .ok (.iload_n 3, 1) := by decide +kernel
theorem dL_law_412 : decode cL_law 412 = .ok (.iconst 2, 1) := by decide +kernel
theorem dL_law_413 : decode cL_law 413 = .ok (.iadd, 1) := by decide +kernel
theorem dL_law_414 : decode cL_law 414 = .ok (.iaload, 1) := by decide +kernel
theorem dL_law_415 : decode cL_law 415 = .ok (.invokevirtual 61, 3) := by decide +kernel
theorem dL_law_418 : decode cL_law 418 = .ok (.if_icmp .eq 61, 3) := by decide +kernel
theorem dL_law_421 : decode cL_law 421 = .ok (.iconst 0, 1) := by decide +kernel
theorem dL_law_422 : decode cL_law 422 = .ok (.ireturn, 1) := by decide +kernel
theorem dL_law_423 : decode cL_law 423 = .ok (.aload_n 1, 1) := by decide +kernel
theorem dL_law_424 : decode cL_law 424 = .ok (.aload_n 0, 1) := by decide +kernel
theorem dL_law_425 : decode cL_law 425 = .ok (.iload_n 3, 1) := by decide +kernel
theorem dL_law_426 : decode cL_law 426 = .ok (.iconst 1, 1) := by decide +kernel
theorem dL_law_427 : decode cL_law 427 = .ok (.iadd, 1) := by decide +kernel
theorem dL_law_428 : decode cL_law 428 = .ok (.iaload, 1) := by decide +kernel
theorem dL_law_429 : decode cL_law 429 = .ok (.aload_n 0, 1) := by decide +kernel
theorem dL_law_430 : decode cL_law 430 = .ok (.iload_n 3, 1) := by decide +kernel
theorem dL_law_431 : decode cL_law 431 = .ok (.iconst 2, 1) := by decide +kernel
theorem dL_law_432 : decode cL_law 432 = .ok (.iadd, 1) := by decide +kernel
theorem dL_law_433 : decode cL_law 433 = .ok (.iaload, 1) := by decide +kernel
theorem dL_law_434 : decode cL_law 434 = .ok (.invokevirtual 62, 3) := by decide +kernel
theorem dL_law_437 : decode cL_law 437 = .ok (.aload_n 2, 1) := by decide +kernel
theorem dL_law_438 : decode cL_law 438 = .ok (.aload_n 0, 1) := by decide +kernel
theorem dL_law_439 : decode cL_law 439 = .ok (.iload_n 3, 1) := by decide +kernel
theorem dL_law_440 : decode cL_law 440 = .ok (.iconst 1, 1) := by decide +kernel
theorem dL_law_441 : decode cL_law 441 = .ok (.iadd, 1) := by decide +kernel
theorem dL_law_442 : decode cL_law 442 = .ok (.iaload, 1) := by decide +kernel
theorem dL_law_443 : decode cL_law 443 = .ok (.aload_n 0, 1) := by decide +kernel
theorem dL_law_444 : decode cL_law 444 = .ok (.iload_n 3, 1) := by decide +kernel
theorem dL_law_445 : decode cL_law 445 = .ok (.iconst 2, 1) := by decide +kernel
theorem dL_law_446 : decode cL_law 446 = .ok (.iadd, 1) := by decide +kernel
theorem dL_law_447 : decode cL_law 447 = .ok (.iaload, 1) := by decide +kernel
theorem dL_law_448 : decode cL_law 448 = .ok (.invokevirtual 65, 3) := by decide +kernel
theorem dL_law_451 : decode cL_law 451 = .ok (.if_icmp .eq 28, 3) := by decide +kernel
end
section
theorem dL_law_454 : decode cL_law 454 = .ok (.iconst 0, 1) := by decide +kernel
theorem dL_law_455 : decode cL_law 455 = .ok (.ireturn, 1) := by decide +kernel
theorem dL_law_456 : decode cL_law 456 = .ok (.aload_n 1, 1) := by decide +kernel
theorem dL_law_457 : decode cL_law 457 = .ok (.aload_n 0, 1) := by decide +kernel
theorem dL_law_458 : decode cL_law 458 = .ok (.iload_n 3, 1) := by decide +kernel
theorem dL_law_459 : decode cL_law 459 = .ok (.iconst 1, 1) := by decide +kernel
theorem dL_law_460 : decode cL_law 460 = .ok (.iadd, 1) := by decide +kernel
theorem dL_law_461 : decode cL_law 461 = .ok (.iaload, 1) := by decide +kernel
theorem dL_law_462 : decode cL_law 462 = .ok (.invokevirtual 66, 3) := by decide +kernel
theorem dL_law_465 : decode cL_law 465 = .ok (.aload_n 2, 1) := by decide +kernel
theorem dL_law_466 : decode cL_law 466 = .ok (.aload_n 0, 1) := by decide +kernel
theorem dL_law_467 : decode cL_law 467 = .ok (.iload_n 3, 1) := by decide +kernel
theorem dL_law_468 : decode cL_law 468 = .ok (.iconst 1, 1) := by decide +kernel
theorem dL_law_469 : decode cL_law 469 = .ok (.iadd, 1) := by decide +kernel
theorem dL_law_470 : decode cL_law 470 = .ok (.iaload, 1) := by decide +kernel
theorem dL_law_471 : decode cL_law 471 = .ok (.invokevirtual 69, 3) := by decide +kernel
theorem dL_law_474 : decode cL_law 474 = .ok (.if_icmp .eq 5, 3) := by decide +kernel
theorem dL_law_477 : decode cL_law 477 = .ok (.iconst 0, 1) := by decide +kernel
theorem dL_law_478 : decode cL_law 478 = .ok (.ireturn, 1) := by decide +kernel
theorem dL_law_479 : decode cL_law 479 = .ok (.iinc 3 5, 3) := by decide +kernel
theorem dL_law_482 : decode cL_law 482 = .ok (.goto (-464), 3) := by decide +kernel
theorem dL_law_485 : decode cL_law 485 = .ok (.iconst 1, 1) := by decide +kernel
theorem dL_law_486 : decode cL_law 486 = .ok (.ireturn, 1) := by decide +kernel
end
section
/-! heap facts one cell at a time; rows of the machine over them, with the exact frame of each write -/
abbrev Ob (D : va_G) (a ci : Nat) (fs : List Value) (H : Heap) : Prop := va_at D vwCl (a, .inr (ci, fs)) H
abbrev Ai (D : va_G) (cI : ClassId) (a n : Nat) (f : Nat → Int32) (H : Heap) : Prop := va_at D vwCl (a, .inl (cI, n, .inl f)) H
abbrev Ar (D : va_G) (cO : ClassId) (a n : Nat) (g : Nat → Option Nat) (H : Heap) : Prop := va_at D vwCl (a, .inl (cO, n, .inr (.inr (.inr (.inr g))))) H
theorem hP1 {D : va_G} {cl : List vw_C} {a : Nat} {e : va_E} {H : Heap} (h : va_at D cl (a, e) H) : va_P D cl [(a, e)] H := by
  intro k q hq
  match k, hq with
  | 0, hq => cases hq; exact h
  | k + 1, hq => cases hq
def castL : List (String × String) := [(RX0, "java/lang/Object"), (RX1, "java/lang/Object"), (RX2, "java/lang/Object"), (RX4, "java/lang/Object"), (RX6, "java/lang/Object"), (RX1, "HouseWorkers$Work"), (RX2, "HouseWorkers$Work"), (RX4, "HouseWorkers$Work"), (RX6, "HouseWorkers$Work")]
def declL : List MethodName := [⟨"HouseWorkers$Work", "goOn", "(LHouseWorkers$Store;)I"⟩, ⟨"HouseWorkers$Work", "hasDoneAllSteps", "()Z"⟩, ⟨"HouseWorkers$Work", "hasEnded", "()Z"⟩, ⟨"HouseWorkers$Work", "waits", "(LHouseWorkers$Store;Z)Z"⟩, ⟨"java/lang/Object", "getClass", "()Ljava/lang/Class;"⟩]
def nestL : List (String × Nat × MethodName × String) := [(RX7, 11, yX3_init, "HouseWorkers"), (RX2, 11, yX0_init, "HouseWorkers"), (RX3, 9, yX0_init, "HouseWorkers"), (RX6, 11, yX0_init, "HouseWorkers")]
/-- what every contract takes as known of the tables -/
def KK (D : va_G) (cI cZ cO : ClassId) (mi : Nat) (U : State) : Prop := va_K D vwCl [(cI, .int), (cZ, .boolean), (cO, .object "java/lang/Object")] U ∧ (∀ q ∈ castL, va_Nw (.castable q.1 q.2) U) ∧ (∀ x ∈ declL, va_Nw (.declares x) U) ∧ (∀ q ∈ nestL, va_Nw (.methodLinkNest q.1 q.2.1 q.2.2.1 q.2.2.2) U) ∧ va_AO "java/lang/Object" U ∧ va_Mi "[Ljava/lang/Object;" mi U
theorem KK.K {D : va_G} {cI cZ cO : ClassId} {mi : Nat} {U : State} (h : KK D cI cZ cO mi U) : va_K D vwCl [(cI, .int), (cZ, .boolean), (cO, .object "java/lang/Object")] U := h.1
theorem KK.warm {D : va_G} {cI cZ cO : ClassId} {mi : Nat} {s U : State} (hW : s.WarmedH U.vm) (h : KK D cI cZ cO mi s) : KK D cI cZ cO mi U :=
  ⟨va_K.moved hW.alike h.1, fun q hq => va_Nw.warmC hW (h.2.1 q hq), fun x hx => va_Nw.warmD hW (h.2.2.1 x hx), fun q hq => va_Nw.warmM hW (h.2.2.2.1 q hq), va_AO.moved hW.alike h.2.2.2.2.1, va_Mi.moved hW.alike h.2.2.2.2.2⟩
theorem KK.calling {D : va_G} {cI cZ cO : ClassId} {mi : Nat} {U : State} {g : JFrame} {mk : MethodId} {a : Array Value} (h : KK D cI cZ cO mi U) : KK D cI cZ cO mi (U.calling g mk a) :=
  ⟨va_K.moved (u := U) (U := U.calling g mk a) (Vm.Alike.refl U.vm) h.1, fun q hq => va_Nw.same rfl rfl (h.2.1 q hq), fun x hx => va_Nw.same rfl rfl (h.2.2.1 x hx), fun q hq => va_Nw.same rfl rfl (h.2.2.2.1 q hq), va_AO.moved (u := U) (U := U.calling g mk a) (Vm.Alike.refl U.vm) h.2.2.2.2.1, va_Mi.moved (u := U) (U := U.calling g mk a) (Vm.Alike.refl U.vm) h.2.2.2.2.2⟩
/-- a contract's start: the arguments, the heap, the tables -/
abbrev Pk (D : va_G) (cI cZ cO : ClassId) (mi : Nat) (av : List Value) (H : Heap) : Array Value → State → Prop := va_Pc av (fun U => U.heap = H ∧ KK D cI cZ cO mi U)
/-- .. and its end: the answer, the heap -/
abbrev Qki (post : Int32 → Heap → Prop) (A : Nat → Prop) : Array Value → State → Outcome → State → Prop := va_Qi (S := Heap) post (fun H1 t => t.heap = H1) A
abbrev Qkv (post : Heap → Prop) (A : Nat → Prop) : Array Value → State → Outcome → State → Prop := va_Qv (S := Heap) post (fun H1 t => t.heap = H1) A
abbrev Qkq (post : Option Nat → Heap → Prop) (A : Nat → Prop) : Array Value → State → Outcome → State → Prop := va_Qq (S := Heap) post (fun H1 t => t.heap = H1) A
abbrev Qpi (H : Heap) (v : Int32) : Array Value → State → Outcome → State → Prop := Qki (fun r H1 => r = v ∧ H1 = H) (fun _ => False)
abbrev Qpq (H : Heap) (v : Option Nat) : Array Value → State → Outcome → State → Prop := Qkq (fun r H1 => r = v ∧ H1 = H) (fun _ => False)
section Base
variable {p : Program} {l : Launch} {e : Env} {R : Room} {s : State} {m : MethodId} {args : Array Value} {below : List Frame} {meth : Method} {c : Code} {H : Heap} {locs : List Loc} {cells slots : Nat} {Q : State → Prop} {cc : ByteArray} {pc : Nat} {ls : Array Slot} {rest st0 : List Value} {D : va_G} {tys : List (ClassId × FieldType)} {A : Nat → Prop} {H0 : Heap} {a : Nat}
theorem k_preV {cI cZ cO : ClassId} {mi : Nat} {C : String} {b : Nat} {As : List Value} (hK : KK D cI cZ cO mi s) (hr : ∃ cell : Cell, H[b]? = some cell ∧ cell.vm.isStatics = false ∧ s.vm.findClass C = some cell.cls) : PreV s H C b (Pk D cI cZ cO mi (.ref b :: As) H) As :=
  ⟨fun _ _ _ _ q => ⟨q.1, q.2.1, q.2.2.calling⟩, hr, fun _ hU hW => ⟨rfl, hU, hK.warm hW⟩⟩
theorem k_preS {cI cZ cO : ClassId} {mi : Nat} {As : List Value} (hK : KK D cI cZ cO mi s) : PreS s H (Pk D cI cZ cO mi As H) As :=
  ⟨fun _ _ _ _ q => ⟨q.1, q.2.1, q.2.2.calling⟩, fun _ hU hW => ⟨rfl, hU, hK.warm hW⟩⟩
theorem k_recv {ci : Nat} {q : vw_C} {fs : List Value} (hK : va_K D vwCl tys s) (h : Ob D a ci fs H) (hc : vwCl[ci]? = some q) : ∃ cell : Cell, H[a]? = some cell ∧ cell.vm.isStatics = false ∧ s.vm.findClass q.1 = some cell.cls := va_recv hK (hP1 h) hc (q0 := 0) rfl
theorem k_get (hexec : p.tables.exec = Jvm.exec) (hb : c.code = cc) {own ref C : String} {T : u_T} {N ci index : Nat} {Ts : List Cond} (hts : ∀ w ∈ Ts, w.before args s = true) (hin : ∀ w ∈ u_ws C T N, w ∈ Ts) (hown : s.vm.findClass own = some m.cls) (hK : va_K D vwCl tys s) {fs : List Value} (h : Ob D a ci fs H) (hc : vwCl[ci]? = some (C, T, N)) (k : Nat) (hk : k < N) (hlink : (Cond.fieldLink own index ref (T k).2.1 (T k).2.2.1).before args s = true) (hsame : ∀ x, s.fieldFound? (T k).1 (T k).2.1 (T k).2.2.1 = some x → s.fieldFound? ref (T k).2.1 (T k).2.2.1 = some x) {v : Value} (hv : fs[k]? = some v) (hdg : decode cc pc = .ok (.getfield index, 3))
    (kk : W p l e R s m args below meth c H locs cells slots Q (F0 m (pc + 3) ls (v :: rest))) : W p l e R s m args below meth c H locs cells slots Q (F0 m pc ls (.ref a :: rest)) :=
  va_get hexec hb hts hin hown hK (hP1 h) 0 rfl hc k hk hlink hsame hv hdg kk
theorem k_Sput {H1 : Heap} {i : Nat} (h : va_S A H0 H locs) (z : H1.size = H.size) (o : ∀ q : Nat, q ≠ a → H1[q]? = H[q]?) (ha : A a) : va_S A H0 H1 (locs ++ [⟨a, i⟩]) := va_S.put h z o ha
theorem k_put (hexec : p.tables.exec = Jvm.exec) (hb : c.code = cc) {own ref C : String} {T : u_T} {N ci index : Nat} {Ts : List Cond} (hts : ∀ w ∈ Ts, w.before args s = true) (hin : ∀ w ∈ u_ws C T N, w ∈ Ts) (ty0 : Nat → FieldType) (hty : ∀ k, k < N → parseFieldDescriptor (T k).2.2.1 = some (ty0 k)) (hnm : ∀ a, a < N → ∀ b, b < N → a ≠ b → (T a).2.1 ≠ (T b).2.1) (hown : s.vm.findClass own = some m.cls) (hK : va_K D vwCl tys s) {fs : List Value} (h : Ob D a ci fs H) (hA : A a) (hS0 : va_S A H0 H locs) (hc : vwCl[ci]? = some (C, T, N)) (k : Nat) (hk : k < N) (hlink : (Cond.fieldLink own index ref (T k).2.1 (T k).2.2.1).before args s = true) (hsame : ∀ x, s.fieldFound? (T k).1 (T k).2.1 (T k).2.2.1 = some x → s.fieldFound? ref (T k).2.1 (T k).2.2.1 = some x) (hfin : (T k).2.2.2 = false) {ty : FieldType} {v : Value} (hd : parseFieldDescriptor (T k).2.2.1 = some ty) (hn : narrow ty v = v) (hfit : fits ty v = true) (hl : k < fs.length)
    (hdg : decode cc pc = .ok (.putfield index, 3)) (kk : ∀ (H1 : Heap) (locs1 : List Loc), Ob D a ci (fs.set k v) H1 → H1.size = H.size → (∀ q : Nat, q ≠ a → H1[q]? = H[q]?) → va_S A H0 H1 locs1 → W p l e R s m args below meth c H1 locs1 cells slots Q (F0 m (pc + 3) ls rest)) : W p l e R s m args below meth c H locs cells slots Q (F0 m pc ls (v :: .ref a :: rest)) := by
  have hap := va_apart (own := own) hts hin ty0 hty hnm hK hc
  obtain ⟨r, h1, cell, q1, q2, q3, q4⟩ := h
  have hr : r = (C, T, N) := Option.some.inj (h1.symm.trans hc)
  subst hr
  obtain ⟨hS, hfc, kC, hkC, hkind⟩ := hK.1 ci _ hc
  obtain ⟨cf, kf, fi, f, hi, hsl⟩ := hS k hk
  have hlay := hts _ (hin _ (u_in_lay hk))
  unfold u_lay at hlay
  rw [if_neg (by rw [hfin]; decide)] at hlay
  have hst := (u_facts hfc hkC (u_lays hts hin hk) hi).1
  have h6 := u_store hfc hkC hkind hlay hi hd hn hfit
  refine W.putK hexec hb (f := f) ⟨hown, hlink, ⟨_, _, _, hsame _ hi⟩, hst⟩ (by rw [q2]; exact h6) q1 q3 (by rw [hsl]; exact k2_hasslot (q4 k hk)) rfl rfl hdg fun H' e1 e2 e3 => ?_
  rw [hsl] at e1 ⊢
  exact kk H' _ ⟨_, hc, t_OB.to (V := updV (vp_V fs) k v) ⟨_, e1, q2, q3, t_set q4 hap hk v⟩ (fun j _ => vp_updV_set hl v j)⟩ e2 e3 (hS0.put e2 e3 hA)
theorem k_putF (hexec : p.tables.exec = Jvm.exec) (hb : c.code = cc) {own ref C : String} {T : u_T} {N ci index : Nat} {Ts : List Cond} (hts : ∀ w ∈ Ts, w.before args s = true) (hin : ∀ w ∈ u_ws C T N, w ∈ Ts) (ty0 : Nat → FieldType) (hty : ∀ k, k < N → parseFieldDescriptor (T k).2.2.1 = some (ty0 k)) (hnm : ∀ a, a < N → ∀ b, b < N → a ≠ b → (T a).2.1 ≠ (T b).2.1) (hown : s.vm.findClass own = some m.cls) (hK : va_K D vwCl tys s) {fs : List Value} (h : Ob D a ci fs H) (hA : A a) (hS0 : va_S A H0 H locs) (hc : vwCl[ci]? = some (C, T, N)) (k : Nat) (hk : k < N) (hlink : (Cond.fieldLink own index ref (T k).2.1 (T k).2.2.1).before args s = true) (hsame : ∀ x, s.fieldFound? (T k).1 (T k).2.1 (T k).2.2.1 = some x → s.fieldFound? ref (T k).2.1 (T k).2.2.1 = some x) (hfin : (T k).2.2.2 = true) (hin2 : meth.name = "<init>") (hdecl : (T k).1 = own) {ty : FieldType} {v : Value} (hd : parseFieldDescriptor (T k).2.2.1 = some ty) (hn : narrow ty v = v) (hfit : fits ty v = true) (hl : k < fs.length)
    (hdg : decode cc pc = .ok (.putfield index, 3)) (kk : ∀ (H1 : Heap) (locs1 : List Loc), Ob D a ci (fs.set k v) H1 → H1.size = H.size → (∀ q : Nat, q ≠ a → H1[q]? = H[q]?) → va_S A H0 H1 locs1 → W p l e R s m args below meth c H1 locs1 cells slots Q (F0 m (pc + 3) ls rest)) : W p l e R s m args below meth c H locs cells slots Q (F0 m pc ls (v :: .ref a :: rest)) := by
  have hap := va_apart (own := own) hts hin ty0 hty hnm hK hc
  obtain ⟨r, h1, cell, q1, q2, q3, q4⟩ := h
  have hr : r = (C, T, N) := Option.some.inj (h1.symm.trans hc)
  subst hr
  obtain ⟨hS, hfc, kC, hkC, hkind⟩ := hK.1 ci _ hc
  obtain ⟨cf, kf, fi, f, hi, hsl⟩ := hS k hk
  have hlay := hts _ (hin _ (u_in_lay hk))
  unfold u_lay at hlay
  rw [if_pos hfin] at hlay
  have hst := (u_facts hfc hkC (u_lays hts hin hk) hi).1
  have hcf : m.cls = cf := by
    obtain ⟨_, _, c', _, _, _, -, -, hf', -, -, -, hown2, -⟩ := Cond.laysFinal_spec hlay
    have e1 : c' = cf := by have := hi.symm.trans hf'; simp at this; exact this.1.symm
    rw [hdecl] at hown2
    rw [← e1]; exact Option.some.inj (hown.symm.trans hown2)
  have h6 := u_fits hfc hkC hkind (Or.inr hlay) hi hd hn hfit
  refine W.putFinK hexec hb hown hlink (hsame _ hi) hst hcf hin2 (by rw [q2]; exact h6) q1 q3 (by rw [hsl]; exact k2_hasslot (q4 k hk)) rfl rfl hdg fun H' e1 e2 e3 => ?_
  rw [hsl] at e1 ⊢
  exact kk H' _ ⟨_, hc, t_OB.to (V := updV (vp_V fs) k v) ⟨_, e1, q2, q3, t_set q4 hap hk v⟩ (fun j _ => vp_updV_set hl v j)⟩ e2 e3 (hS0.put e2 e3 hA)
theorem k_inj {i : Int32} {j n : Nat} (hi : i = nI j) (hj : j < n) (hn : n < 2 ^ 31) : vp_in i n ∧ i.toNatClampNeg = j := by
  subst hi
  exact ⟨vp_in_nI hj hn, nI_clamp (by omega)⟩
theorem k_iald (hexec : p.tables.exec = Jvm.exec) (hb : c.code = cc) (hK : va_K D vwCl tys s) (t0 : Nat) {cA : ClassId} {n : Nat} {f : Nat → Int32} (h : Ai D cA a n f H) (ht : tys[t0]? = some (cA, .int)) {i : Int32} (j : Nat) (hi : i = nI j) (hj : j < n) (hn : n < 2 ^ 31) (hdg : decode cc pc = .ok (.iaload, 1))
    (kk : W p l e R s m args below meth c H locs cells slots Q (F0 m (pc + 1) ls (.int (f j) :: rest))) : W p l e R s m args below meth c H locs cells slots Q (F0 m pc ls (.int i :: .ref a :: rest)) := by
  obtain ⟨h1, h2⟩ := k_inj hi hj hn
  exact va_iald hexec hb hK (hP1 h) 0 t0 rfl ht h1 hdg (by rw [h2]; exact kk)
theorem k_zald (hexec : p.tables.exec = Jvm.exec) (hb : c.code = cc) (hK : va_K D vwCl tys s) (t0 : Nat) {cA : ClassId} {n : Nat} {f : Nat → Int32} (h : Ai D cA a n f H) (ht : tys[t0]? = some (cA, .boolean)) {i : Int32} (j : Nat) (hi : i = nI j) (hj : j < n) (hn : n < 2 ^ 31) (hdg : decode cc pc = .ok (.baload, 1))
    (kk : W p l e R s m args below meth c H locs cells slots Q (F0 m (pc + 1) ls (.int (f j) :: rest))) : W p l e R s m args below meth c H locs cells slots Q (F0 m pc ls (.int i :: .ref a :: rest)) := by
  obtain ⟨h1, h2⟩ := k_inj hi hj hn
  exact va_zald hexec hb hK (hP1 h) 0 t0 rfl ht h1 hdg (by rw [h2]; exact kk)
theorem k_aald (hexec : p.tables.exec = Jvm.exec) (hb : c.code = cc) (hK : va_K D vwCl tys s) (t0 : Nat) {cA : ClassId} {n : Nat} {C : String} {f : Nat → Option Nat} (h : Ar D cA a n f H) (ht : tys[t0]? = some (cA, .object C)) {i : Int32} (j : Nat) (hi : i = nI j) (hj : j < n) (hn : n < 2 ^ 31) (hdg : decode cc pc = .ok (.aaload, 1))
    (kk : W p l e R s m args below meth c H locs cells slots Q (F0 m (pc + 1) ls (va_rf (f j) :: rest))) : W p l e R s m args below meth c H locs cells slots Q (F0 m pc ls (.int i :: .ref a :: rest)) := by
  obtain ⟨h1, h2⟩ := k_inj hi hj hn
  exact va_aldq hexec hb hK (hP1 h) 0 t0 rfl ht h1 hdg (by rw [h2]; exact kk)
theorem k_alen (hexec : p.tables.exec = Jvm.exec) (hb : c.code = cc) (hK : va_K D vwCl tys s) (t0 : Nat) {cA : ClassId} {x : vp_A} (h : va_at D vwCl (a, .inl (cA, x)) H) {ty : FieldType} (ht : tys[t0]? = some (cA, ty)) {v : Int32} (hv : Int32.ofNat x.1 = v) (hdg : decode cc pc = .ok (.arraylength, 1)) (kk : W p l e R s m args below meth c H locs cells slots Q (F0 m (pc + 1) ls (.int v :: rest))) : W p l e R s m args below meth c H locs cells slots Q (F0 m pc ls (.ref a :: rest)) :=
  va_alen hexec hb hK (hP1 h) 0 t0 rfl ht hv hdg kk
theorem k_iast (hexec : p.tables.exec = Jvm.exec) (hb : c.code = cc) (hK : va_K D vwCl tys s) (t0 : Nat) {cA : ClassId} {n : Nat} {f : Nat → Int32} (h : Ai D cA a n f H) (hA : A a) (hS : va_S A H0 H locs) (ht : tys[t0]? = some (cA, .int)) {i x : Int32} (j : Nat) (hi : i = nI j) (hj : j < n) (hn : n < 2 ^ 31) (hdg : decode cc pc = .ok (.iastore, 1))
    (kk : ∀ (H1 : Heap) (locs1 : List Loc), Ai D cA a n (upd f j x) H1 → H1.size = H.size → (∀ q : Nat, q ≠ a → H1[q]? = H[q]?) → va_S A H0 H1 locs1 → W p l e R s m args below meth c H1 locs1 cells slots Q (F0 m (pc + 1) ls rest)) : W p l e R s m args below meth c H locs cells slots Q (F0 m pc ls (.int x :: .int i :: .ref a :: rest)) := by
  obtain ⟨h1, h2⟩ := k_inj hi hj hn
  refine W.iast hexec hb h ((hK.2 t0 _ ht).1 n (fun j => .int (f j))) (fun q => by cases q) (by show ¬ (i < 0 ∨ (arrV _ _ _).slots.size ≤ _); rw [arrV_size]; exact h1) rfl rfl hdg fun H1 e z oq => ?_
  refine kk H1 _ ?_ z oq (hS.put z oq hA)
  show H1[a]? = some (vp_cell _ _)
  rw [e, h2, vp_cell_i, vp_cell_i, arrV_store]
  congr 2
  funext q
  by_cases hq : q = j
  · subst hq
    simp [updV, upd]
  · simp [updV, upd, hq]
theorem k_zast (hexec : p.tables.exec = Jvm.exec) (hb : c.code = cc) (hK : va_K D vwCl tys s) (t0 : Nat) {cA : ClassId} {n : Nat} {f : Nat → Int32} (h : Ai D cA a n f H) (hA : A a) (hS : va_S A H0 H locs) (ht : tys[t0]? = some (cA, .boolean)) {i x : Int32} (j : Nat) (hi : i = nI j) (hj : j < n) (hn : n < 2 ^ 31) (hx : narrow .boolean (.int x) = .int x) (hdg : decode cc pc = .ok (.bastore, 1))
    (kk : ∀ (H1 : Heap) (locs1 : List Loc), Ai D cA a n (upd f j x) H1 → H1.size = H.size → (∀ q : Nat, q ≠ a → H1[q]? = H[q]?) → va_S A H0 H1 locs1 → W p l e R s m args below meth c H1 locs1 cells slots Q (F0 m (pc + 1) ls rest)) : W p l e R s m args below meth c H locs cells slots Q (F0 m pc ls (.int x :: .int i :: .ref a :: rest)) := by
  obtain ⟨h1, h2⟩ := k_inj hi hj hn
  refine W.zast hexec hb h ((hK.2 t0 _ ht).1 n (fun j => .int (f j))) (fun q => by cases q) (by show ¬ (i < 0 ∨ (arrV _ _ _).slots.size ≤ _); rw [arrV_size]; exact h1) rfl rfl hdg fun H1 e z oq => ?_
  refine kk H1 _ ?_ z oq (hS.put z oq hA)
  show H1[a]? = some (vp_cell _ _)
  rw [e, h2, vp_cell_i, vp_cell_i, arrV_store]
  congr 2
  funext q
  by_cases hq : q = j
  · subst hq
    simp [updV, upd]
    exact hx
  · simp [updV, upd, hq]
theorem k_new (hexec : p.tables.exec = Jvm.exec) (hb : c.code = cc) {own C : String} {T : u_T} {N ci index : Nat} {Ts : List Cond} (hts : ∀ w ∈ Ts, w.before args s = true) (hin : ∀ w ∈ u_ws C T N, w ∈ Ts) (ty : Nat → FieldType) (hty : ∀ k, k < N → parseFieldDescriptor (T k).2.2.1 = some (ty k)) (hown : s.vm.findClass own = some m.cls) (hcl : (Cond.classLink own index C).before args s = true) (hinst : (Cond.instantiable C N).before args s = true) (hini : (Cond.initialized C).before args s = true) (hK : va_K D vwCl tys s) (hS : va_S A H0 H locs) (hc : vwCl[ci]? = some (C, T, N)) {fs : List Value} (hfs : ∀ j, j < N → defaultValue (ty j) = vp_V fs j) (hcells : cells + 1 ≤ R.cells) (hslots : slots + N ≤ R.slots) (hdg : decode cc pc = .ok (.new index, 3))
    (kk : ∀ H1 : Heap, Ob D H.size ci fs H1 → H1.size = H.size + 1 → (∀ q : Nat, q < H.size → H1[q]? = H[q]?) → va_S A H0 H1 locs → W p l e R s m args below meth c H1 locs (cells + 1) (slots + N) Q (F0 m (pc + 3) ls (.ref H.size :: rest))) : W p l e R s m args below meth c H locs cells slots Q (F0 m pc ls rest) := by
  have hKn := hK.1 ci _ hc
  refine W.newcK hexec hb hown hcl hinst hini rfl hdg hcells hslots hKn.2.1 rfl fun H1 kC hkC e1 z1 o1 => ?_
  exact kk H1 ⟨_, hc, (u_born ty hts hin hKn hkC e1 hty).to hfs⟩ z1 o1 ⟨Nat.le_trans hS.1 (by omega), fun x h1 h2 => (o1 x (Nat.lt_of_lt_of_le h1 hS.1)).trans (hS.2.1 x h1 h2), hS.2.2⟩
theorem k_newa (hexec : p.tables.exec = Jvm.exec) (hb : c.code = cc) {cI cZ cO : ClassId} {mi : Nat} (hK : KK D cI cZ cO mi s) (harr : (Cond.arrayClass .int).before args s = true) (hS : va_S A H0 H locs) {n : Int32} (N' : Nat) (hn : n = nI N') (hN : N' ≤ 1000) (hcells : cells + 1 ≤ R.cells) (hslots : slots + N' ≤ R.slots) (hdg : decode cc pc = .ok (.newarray .int, 2))
    (kk : ∀ H1 : Heap, Ai D cI H.size N' (fun _ => 0) H1 → H1.size = H.size + 1 → (∀ q : Nat, q < H.size → H1[q]? = H[q]?) → va_S A H0 H1 locs → W p l e R s m args below meth c H1 locs (cells + 1) (slots + N') Q (F0 m (pc + 2) ls (.ref H.size :: rest))) : W p l e R s m args below meth c H locs cells slots Q (F0 m pc ls (.int n :: rest)) := by
  subst hn
  refine va_newaK hexec hb (atype := .int) harr rfl hdg rfl (nI_pos (by omega)) (nI_clamp (by omega)) (by show N' * 4 ≤ _; omega) hcells hslots rfl fun H1 cA e1 z1 o1 hAr hNm => ?_
  have hq : s.vm.findClass ("[" ++ (FieldType.int).toString) = some cI := (hK.1.2 0 _ rfl).2
  have he : cA = cI := Option.some.inj (hNm.symm.trans hq)
  subst he
  exact kk H1 (by show H1[H.size]? = some (vp_cell _ _); rw [vp_cell_i]; exact e1) z1 o1 ⟨Nat.le_trans hS.1 (by omega), fun x h1 h2 => (o1 x (Nat.lt_of_lt_of_le h1 hS.1)).trans (hS.2.1 x h1 h2), hS.2.2⟩
theorem k_newz (hexec : p.tables.exec = Jvm.exec) (hb : c.code = cc) {cI cZ cO : ClassId} {mi : Nat} (hK : KK D cI cZ cO mi s) (harr : (Cond.arrayClass .boolean).before args s = true) (hS : va_S A H0 H locs) {n : Int32} (N' : Nat) (hn : n = nI N') (hN : N' ≤ 1000) (hcells : cells + 1 ≤ R.cells) (hslots : slots + N' ≤ R.slots) (hdg : decode cc pc = .ok (.newarray .boolean, 2))
    (kk : ∀ H1 : Heap, Ai D cZ H.size N' (fun _ => 0) H1 → H1.size = H.size + 1 → (∀ q : Nat, q < H.size → H1[q]? = H[q]?) → va_S A H0 H1 locs → W p l e R s m args below meth c H1 locs (cells + 1) (slots + N') Q (F0 m (pc + 2) ls (.ref H.size :: rest))) : W p l e R s m args below meth c H locs cells slots Q (F0 m pc ls (.int n :: rest)) := by
  subst hn
  refine va_newaK hexec hb (atype := .boolean) harr rfl hdg rfl (nI_pos (by omega)) (nI_clamp (by omega)) (by show N' * 1 ≤ _; omega) hcells hslots rfl fun H1 cA e1 z1 o1 hAr hNm => ?_
  have hq : s.vm.findClass ("[" ++ (FieldType.boolean).toString) = some cZ := (hK.1.2 1 _ rfl).2
  have he : cA = cZ := Option.some.inj (hNm.symm.trans hq)
  subst he
  exact kk H1 (by show H1[H.size]? = some (vp_cell _ _); rw [vp_cell_i]; exact e1) z1 o1 ⟨Nat.le_trans hS.1 (by omega), fun x h1 h2 => (o1 x (Nat.lt_of_lt_of_le h1 hS.1)).trans (hS.2.1 x h1 h2), hS.2.2⟩
-- calls
theorem k_calli {post : Int32 → Heap → Prop} {A1 : Nat → Prop} {mc ms : Nat} {av : Array Value} (hr : va_Run p l e R s m args below meth c H locs cells slots mc ms (F0 m pc ls st0) rest (Qki post A1 av) A1) (hS : va_S A H0 H locs) (hA : ∀ q, A1 q → A q) (kk : ∀ (r : Int32) (H1 : Heap) (locs1 : List Loc), post r H1 → H.size ≤ H1.size → (∀ q : Nat, q < H.size → ¬ A1 q → H1[q]? = H[q]?) → va_S A H0 H1 locs1 → W p l e R s m args below meth c H1 locs1 (cells + mc) (slots + ms) Q (F0 m (pc + 3) ls (.int r :: rest))) : W p l e R s m args below meth c H locs cells slots Q (F0 m pc ls st0) :=
  va_calli hr hS (fun q _ h => hA q h) hA (fun r u t H1 locs1 ht _ hw hB hz hk hS => by
    have e1 : u = H1 := hB.symm.trans ht
    subst e1
    exact kk r _ locs1 hw hz hk hS)
theorem k_callv {post : Heap → Prop} {A1 : Nat → Prop} {mc ms : Nat} {av : Array Value} (hr : va_Run p l e R s m args below meth c H locs cells slots mc ms (F0 m pc ls st0) rest (Qkv post A1 av) A1) (hS : va_S A H0 H locs) (hA : ∀ q, A1 q → A q) (kk : ∀ (H1 : Heap) (locs1 : List Loc), post H1 → H.size ≤ H1.size → (∀ q : Nat, q < H.size → ¬ A1 q → H1[q]? = H[q]?) → va_S A H0 H1 locs1 → W p l e R s m args below meth c H1 locs1 (cells + mc) (slots + ms) Q (F0 m (pc + 3) ls rest)) : W p l e R s m args below meth c H locs cells slots Q (F0 m pc ls st0) :=
  va_callv hr hS (fun q _ h => hA q h) hA (fun u t H1 locs1 ht _ hw hB hz hk hS => by
    have e1 : u = H1 := hB.symm.trans ht
    subst e1
    exact kk _ locs1 hw hz hk hS)
theorem k_callq {post : Option Nat → Heap → Prop} {A1 : Nat → Prop} {mc ms : Nat} {av : Array Value} (hr : va_Run p l e R s m args below meth c H locs cells slots mc ms (F0 m pc ls st0) rest (Qkq post A1 av) A1) (hS : va_S A H0 H locs) (hA : ∀ q, A1 q → A q) (kk : ∀ (r : Option Nat) (H1 : Heap) (locs1 : List Loc), post r H1 → H.size ≤ H1.size → (∀ q : Nat, q < H.size → ¬ A1 q → H1[q]? = H[q]?) → va_S A H0 H1 locs1 → W p l e R s m args below meth c H1 locs1 (cells + mc) (slots + ms) Q (F0 m (pc + 3) ls (va_rf r :: rest))) : W p l e R s m args below meth c H locs cells slots Q (F0 m pc ls st0) :=
  va_callq hr hS (fun q _ h => hA q h) hA (fun r u t H1 locs1 ht _ hw hB hz hk hS => by
    have e1 : u = H1 := hB.symm.trans ht
    subst e1
    exact kk r _ locs1 hw hz hk hS)
theorem k_callpi {v : Int32} {av : Array Value} (hr : va_Run p l e R s m args below meth c H locs cells slots 0 0 (F0 m pc ls st0) rest (Qpi H v av) (fun _ => False)) (hS : va_S A H0 H locs) (kk : ∀ locs1 : List Loc, va_S A H0 H locs1 → W p l e R s m args below meth c H locs1 cells slots Q (F0 m (pc + 3) ls (.int v :: rest))) : W p l e R s m args below meth c H locs cells slots Q (F0 m pc ls st0) :=
  k_calli hr hS (fun _ h => h.elim) (fun r H1 locs1 hw _ _ hS1 => by
    obtain ⟨e1, e2⟩ := hw
    subst e1 e2
    exact kk locs1 hS1)
theorem k_callpq {v : Option Nat} {av : Array Value} (hr : va_Run p l e R s m args below meth c H locs cells slots 0 0 (F0 m pc ls st0) rest (Qpq H v av) (fun _ => False)) (hS : va_S A H0 H locs) (kk : ∀ locs1 : List Loc, va_S A H0 H locs1 → W p l e R s m args below meth c H locs1 cells slots Q (F0 m (pc + 3) ls (va_rf v :: rest))) : W p l e R s m args below meth c H locs cells slots Q (F0 m pc ls st0) :=
  k_callq hr hS (fun _ h => h.elim) (fun r H1 locs1 hw _ _ hS1 => by
    obtain ⟨e1, e2⟩ := hw
    subst e1 e2
    exact kk locs1 hS1)
-- ends
theorem k_reti {post : Int32 → Heap → Prop} (hexec : p.tables.exec = Jvm.exec) (hb : c.code = cc) (hr : meth.sig.returnType = some .int) (hlocks : meth.locks = false) {v : Int32} (hq : post v H) (hS : va_S A s.heap H locs) (hdg : decode cc pc = .ok (.ireturn, 1)) : W p l e R s m args below meth c H locs cells slots (MQ below (Qki post A) args s cells slots A) (F0 m pc ls [.int v]) :=
  W.iret (v := v) hexec hb hr (fun t ht _ => ⟨⟨v, H, rfl, hq, ht⟩, hS.F ht⟩) hS.2.2 hdg hlocks
theorem k_retv {post : Heap → Prop} (hexec : p.tables.exec = Jvm.exec) (hb : c.code = cc) (hr : meth.sig.returnType = none) (hlocks : meth.locks = false) (hq : post H) (hS : va_S A s.heap H locs) (hdg : decode cc pc = .ok (.return_, 1)) : W p l e R s m args below meth c H locs cells slots (MQ below (Qkv post A) args s cells slots A) (F0 m pc ls []) :=
  W.vret hexec hb hr (fun t ht _ => ⟨⟨H, rfl, hq, ht⟩, hS.F ht⟩) hS.2.2 hdg hlocks
end Base
section Base2
variable {p : Program} {l : Launch} {e : Env} {R : Room} {s : State} {m : MethodId} {args : Array Value} {below : List Frame} {meth : Method} {c : Code} {H : Heap} {locs : List Loc} {cells slots : Nat} {Q : State → Prop} {cc : ByteArray} {pc : Nat} {ls : Array Slot} {rest st0 : List Value} {D : va_G} {tys : List (ClassId × FieldType)} {A : Nat → Prop} {H0 : Heap} {a : Nat}
theorem k_retz {post : Int32 → Heap → Prop} (hexec : p.tables.exec = Jvm.exec) (hb : c.code = cc) (hr : meth.sig.returnType = some .boolean) (hlocks : meth.locks = false) {v : Int32} (hn : narrow .boolean (.int v) = .int v) (hq : post v H) (hS : va_S A s.heap H locs) (hdg : decode cc pc = .ok (.ireturn, 1)) : W p l e R s m args below meth c H locs cells slots (MQ below (Qki post A) args s cells slots A) (F0 m pc ls [.int v]) :=
  W.zret (v := v) hexec hb hr hn (fun t ht _ => ⟨⟨v, H, rfl, hq, ht⟩, hS.F ht⟩) hS.2.2 hdg hlocks
theorem k_retq {post : Option Nat → Heap → Prop} {rt : FieldType} (hexec : p.tables.exec = Jvm.exec) (hb : c.code = cc) (hr : meth.sig.returnType = some rt) (hrt : (∃ n, rt = .object n) ∨ ∃ t, rt = .array t) (hlocks : meth.locks = false) (v : Option Nat) (hq : post v H) (hS : va_S A s.heap H locs) (hdg : decode cc pc = .ok (.areturn, 1)) : W p l e R s m args below meth c H locs cells slots (MQ below (Qkq post A) args s cells slots A) (F0 m pc ls [va_rf v]) :=
  W.aret (v := va_rf v) hexec hb hr hrt (by cases v <;> simp [va_rf]) (fun t ht _ => ⟨⟨v, H, rfl, hq, ht⟩, hS.F ht⟩) hS.2.2 hdg hlocks
theorem Ai.congr {cA : ClassId} {n : Nat} {f g : Nat → Int32} (h : Ai D cA a n f H) (e : ∀ j, j < n → f j = g j) : Ai D cA a n g H := by
  have h1 : H[a]? = some (vp_cell cA (n, .inl f)) := h
  show H[a]? = some (vp_cell cA (n, .inl g))
  rw [h1, vp_cell_i, vp_cell_i]
  congr 1
  unfold arrV
  congr 1
  apply congrArg
  funext j
  show Value.int (f j.val) = Value.int (g j.val)
  rw [e j.val j.isLt]
end Base2
def ix (i : Int32) : Nat := i.toBitVec.toNat % 16
theorem ix_lt (i : Int32) : ix i < 16 := Nat.mod_lt _ (by decide)
theorem ix_eq (i : Int32) : i &&& 15 = nI (ix i) := pk_and i 4 (by decide)
theorem ix_nI {n : Nat} (h : n < 2 ^ 31) : ix (nI n) = n % 16 := by
  unfold ix
  rw [pk_tn (by omega)]
def isum (f : Nat → Int32) : Nat → Int32
  | 0 => 0
  | n + 1 => isum f n + f n
def mx (x y : Int32) : Int32 := if x < y then y else x
/-- a round: each becomes the greater one of itself and the one before it -/
def rnd (f : Nat → Int32) (c : Nat) : Int32 := mx (f c) (f ((c + 15) % 16))
end
section
set_option maxHeartbeats 4000000 in
set_option maxRecDepth 100000 in
theorem c_X0_at (l : Launch) {D : va_G} {cI cZ cO : ClassId} {mi : Nat} (H : Heap) (a r : Nat) (f : Nat → Int32) (i : Int32) (ho : Ob D a 1 [.ref r] H) (hrw : Ai D cI r 16 f H) : Met l yX0_at wsX0_at ({ frames := 0, cells := 0, slots := 0, locals := 0 }) (Pk D cI cZ cO mi [.ref a, .int i] H) (Qpi H (f (ix i))) 0 0 (fun _ => False) := by
  refine Met.ofW (cc := cX0_at) (maxL := 2) (ret := (some .int)) (by decide) rfl ?_
  intro p e s m args below meth c s₁ B hml hv
  obtain ⟨rfl, rfl, hK⟩ := hv
  have hx := B.exec
  have hb := B.bytes
  have hr := B.returns
  have hts := atoms_spec (ws := wsX0_at) B.pre
  have hown : s.vm.findClass RX0 = some m.cls := findClass_of_methodNamed B.named
  have hlocks := B.notSynchronized
  have hS : va_S (fun _ => False) s.heap s.heap [] := va_S.rf
  have hl := lv_entry ([.ref a, .int i]) (n := 2) (Nat.le_of_ble_eq_true rfl)
  rw [lg_entry_eq]
  generalize (lg_sl ([.ref a, .int i]) ++ List.replicate (2 - (lg_sl ([.ref a, .int i])).length) Slot.unset).toArray = ls at hl ⊢
  have hl : lv_has ls 2 [(0, .ref a), (1, .int i)] := hl
  have hiX0 : ∀ w ∈ wsX00, w ∈ wsX0_at := by decide +kernel
  refine lv_aload_n hx hb dX0_at_0 rfl (lv_at hl 0 rfl) ?_
  refine k_get (C := RX0) (T := TX0) (N := 1) (v := .ref r) hx hb hts hiX0 hown hK.1 ho rfl 0 (by decide) (hts (.fieldLink RX0 9 "HouseWorkers$Cells" "row" "[I") (by decide +kernel)) (fun _ h9 => h9) rfl dX0_at_1 ?_
  refine lv_iload_n hx hb dX0_at_4 rfl (lv_at hl 1 rfl) ?_
  refine lv_bipush (v := 15) hx hb dX0_at_5 (by decide) ?_
  refine lv_iand hx hb dX0_at_7 ?_
  refine k_iald (n := 16) (f := f) hx hb hK.1 0 hrw rfl (ix i) (ix_eq _) (ix_lt _) (by decide) dX0_at_8 ?_
  exact k_reti hx hb hr hlocks ⟨rfl, rfl⟩ hS dX0_at_9
set_option maxHeartbeats 4000000 in
set_option maxRecDepth 100000 in
theorem c_X0_set (l : Launch) {D : va_G} {cI cZ cO : ClassId} {mi : Nat} (H : Heap) (a r : Nat) (f : Nat → Int32) (i v : Int32) (ho : Ob D a 1 [.ref r] H) (hrw : Ai D cI r 16 f H) : Met l yX0_set wsX0_set ({ frames := 0, cells := 0, slots := 0, locals := 0 }) (Pk D cI cZ cO mi [.ref a, .int i, .int v] H) (Qkv (fun H1 => Ai D cI r 16 (upd f (ix i) v) H1 ∧ H1.size = H.size) (fun q => q = r)) 0 0 (fun q => q = r) := by
  refine Met.ofW (cc := cX0_set) (maxL := 3) (ret := none) (by decide) rfl ?_
  intro p e s m args below meth c s₁ B hml hv
  obtain ⟨rfl, rfl, hK⟩ := hv
  have hx := B.exec
  have hb := B.bytes
  have hr := B.returns
  have hts := atoms_spec (ws := wsX0_set) B.pre
  have hown : s.vm.findClass RX0 = some m.cls := findClass_of_methodNamed B.named
  have hlocks := B.notSynchronized
  have hS : va_S (fun q => q = r) s.heap s.heap [] := va_S.rf
  have hl := lv_entry ([.ref a, .int i, .int v]) (n := 3) (Nat.le_of_ble_eq_true rfl)
  rw [lg_entry_eq]
  generalize (lg_sl ([.ref a, .int i, .int v]) ++ List.replicate (3 - (lg_sl ([.ref a, .int i, .int v])).length) Slot.unset).toArray = ls at hl ⊢
  have hl : lv_has ls 3 [(0, .ref a), (1, .int i), (2, .int v)] := hl
  have hiX0 : ∀ w ∈ wsX00, w ∈ wsX0_set := by decide +kernel
  refine lv_aload_n hx hb dX0_set_0 rfl (lv_at hl 0 rfl) ?_
  refine k_get (C := RX0) (T := TX0) (N := 1) (v := .ref r) hx hb hts hiX0 hown hK.1 ho rfl 0 (by decide) (hts (.fieldLink RX0 9 "HouseWorkers$Cells" "row" "[I") (by decide +kernel)) (fun _ h9 => h9) rfl dX0_set_1 ?_
  refine lv_iload_n hx hb dX0_set_4 rfl (lv_at hl 1 rfl) ?_
  refine lv_bipush (v := 15) hx hb dX0_set_5 (by decide) ?_
  refine lv_iand hx hb dX0_set_7 ?_
  refine lv_iload_n hx hb dX0_set_8 rfl (lv_at hl 2 rfl) ?_
  refine k_iast (A := (fun q => q = r)) (n := 16) (f := f) (x := v) hx hb hK.1 0 hrw rfl hS rfl (ix i) (ix_eq _) (ix_lt _) (by decide) dX0_set_9 (fun H1 locs hO2 hz3 hq4 hS => ?_)
  exact k_retv hx hb hr hlocks ⟨hO2, hz3⟩ hS dX0_set_10
set_option maxHeartbeats 4000000 in
set_option maxRecDepth 100000 in
theorem c_X0_add (l : Launch) {D : va_G} {cI cZ cO : ClassId} {mi : Nat} (H : Heap) (a r : Nat) (f : Nat → Int32) (i v : Int32) (ho : Ob D a 1 [.ref r] H) (hrw : Ai D cI r 16 f H) : Met l yX0_add wsX0_add ({ frames := 0, cells := 0, slots := 0, locals := 0 }) (Pk D cI cZ cO mi [.ref a, .int i, .int v] H) (Qkv (fun H1 => Ai D cI r 16 (upd f (ix i) (f (ix i) + v)) H1 ∧ H1.size = H.size) (fun q => q = r)) 0 0 (fun q => q = r) := by
  refine Met.ofW (cc := cX0_add) (maxL := 3) (ret := none) (by decide) rfl ?_
  intro p e s m args below meth c s₁ B hml hv
  obtain ⟨rfl, rfl, hK⟩ := hv
  have hx := B.exec
  have hb := B.bytes
  have hr := B.returns
  have hts := atoms_spec (ws := wsX0_add) B.pre
  have hown : s.vm.findClass RX0 = some m.cls := findClass_of_methodNamed B.named
  have hlocks := B.notSynchronized
  have hS : va_S (fun q => q = r) s.heap s.heap [] := va_S.rf
  have hl := lv_entry ([.ref a, .int i, .int v]) (n := 3) (Nat.le_of_ble_eq_true rfl)
  rw [lg_entry_eq]
  generalize (lg_sl ([.ref a, .int i, .int v]) ++ List.replicate (3 - (lg_sl ([.ref a, .int i, .int v])).length) Slot.unset).toArray = ls at hl ⊢
  have hl : lv_has ls 3 [(0, .ref a), (1, .int i), (2, .int v)] := hl
  have hiX0 : ∀ w ∈ wsX00, w ∈ wsX0_add := by decide +kernel
  refine lv_aload_n hx hb dX0_add_0 rfl (lv_at hl 0 rfl) ?_
  refine k_get (C := RX0) (T := TX0) (N := 1) (v := .ref r) hx hb hts hiX0 hown hK.1 ho rfl 0 (by decide) (hts (.fieldLink RX0 9 "HouseWorkers$Cells" "row" "[I") (by decide +kernel)) (fun _ h9 => h9) rfl dX0_add_1 ?_
  refine lv_iload_n hx hb dX0_add_4 rfl (lv_at hl 1 rfl) ?_
  refine lv_bipush (v := 15) hx hb dX0_add_5 (by decide) ?_
  refine lv_iand hx hb dX0_add_7 ?_
  refine lv_dup2_11 hx hb dX0_add_8 rfl rfl ?_
  refine k_iald (n := 16) (f := f) hx hb hK.1 0 hrw rfl (ix i) (ix_eq _) (ix_lt _) (by decide) dX0_add_9 ?_
  refine lv_iload_n hx hb dX0_add_10 rfl (lv_at hl 2 rfl) ?_
  refine lv_iadd hx hb dX0_add_11 ?_
  refine k_iast (A := (fun q => q = r)) (n := 16) (f := f) (x := ((f (ix i)) + v)) hx hb hK.1 0 hrw rfl hS rfl (ix i) (ix_eq _) (ix_lt _) (by decide) dX0_add_12 (fun H1 locs hO2 hz3 hq4 hS => ?_)
  exact k_retv hx hb hr hlocks ⟨hO2, hz3⟩ hS dX0_add_13
end
section
/-! the state that both sides are tied to: sg k i is place i of the reference's k-th field (a number's place is 0) -/
abbrev Sg : Type := Nat → Nat → Int32
def u2 (σ : Sg) (k i : Nat) (v : Int32) : Sg := fun k' i' => bif (Nat.beq k' k && Nat.beq i' i) then v else σ k' i'
theorem u2_same (σ : Sg) (k i : Nat) (v : Int32) : u2 σ k i v k i = v := by simp [u2]
theorem u2_ne (σ : Sg) {k i k' i' : Nat} (v : Int32) (h : ¬ (k' = k ∧ i' = i)) : u2 σ k i v k' i' = σ k' i' := by
  unfold u2
  cases h1 : (Nat.beq k' k && Nat.beq i' i) with
  | false => rfl
  | true =>
    rw [Bool.and_eq_true] at h1
    exact absurd ⟨Nat.eq_of_beq_eq_true h1.1, Nat.eq_of_beq_eq_true h1.2⟩ h
theorem u2_k (σ : Sg) {k i k' : Nat} (v : Int32) (h : k' ≠ k) : u2 σ k i v k' = σ k' := funext fun _ => u2_ne σ v (fun q => h q.1)
theorem u2_upd (σ : Sg) (k i : Nat) (v : Int32) : upd (σ k) i v = u2 σ k i v k := by
  funext j
  by_cases h : j = i
  · subst h
    rw [u2_same]
    simp [upd]
  · rw [u2_ne σ v (fun q => h q.2)]
    simp [upd, h]
theorem u2_if (σ : Sg) (k i k' i' : Nat) (v : Int32) : u2 σ k i v k' i' = if k' = k ∧ i' = i then v else σ k' i' := by
  by_cases h : k' = k ∧ i' = i
  · rw [if_pos h, h.1, h.2, u2_same]
  · rw [if_neg h, u2_ne σ v h]
def mlen : Nat → Nat
  | 0 => 640
  | 14 => 480
  | 15 => 16
  | _ => 30
def mI (k : Nat) : Bool := k == 0 || (4 ≤ k && k ≤ 12) || k == 14 || k == 15 || k == 17 || k == 18 || k == 19
def mA (k : Nat) : Bool := mI k || k == 13
def MF (ad : Nat → Nat) (σ : Sg) : List Value := [.ref (ad 0), .int (σ 1 0), .int (σ 2 0), .int (σ 3 0), .ref (ad 4), .ref (ad 5), .ref (ad 6), .ref (ad 7), .ref (ad 8), .ref (ad 9), .ref (ad 10), .ref (ad 11), .ref (ad 12), .ref (ad 13), .ref (ad 14), .ref (ad 15), .int (σ 16 0), .ref (ad 17), .ref (ad 18), .ref (ad 19), .int (σ 20 0), .int (σ 21 0)]
/-- the heap holds the reference, at m0, in the state sg -/
def MD (D : va_G) (cI cZ : ClassId) (m0 : Nat) (ad : Nat → Nat) (σ : Sg) (H : Heap) : Prop :=
  Ob D m0 8 (MF ad σ) H ∧ (∀ k, mI k = true → Ai D cI (ad k) (mlen k) (σ k) H) ∧ Ai D cZ (ad 13) 30 (σ 13) H ∧ (∀ j k, mA j = true → mA k = true → ad j = ad k → j = k) ∧ ∀ k, mA k = true → ad k ≠ m0
def Am (m0 : Nat) (ad : Nat → Nat) (q : Nat) : Prop := q = m0 ∨ ∃ k, mA k = true ∧ q = ad k
theorem mA_sc {k : Nat} (h : mA k = true) : k ≠ 1 ∧ k ≠ 2 ∧ k ≠ 3 ∧ k ≠ 16 ∧ k ≠ 20 ∧ k ≠ 21 := by
  refine ⟨?_, ?_, ?_, ?_, ?_, ?_⟩ <;> (intro e; subst e; exact absurd h (by decide))
theorem MF_arr (ad : Nat → Nat) (σ : Sg) {k : Nat} (i : Nat) (v : Int32) (h : mA k = true) : MF ad (u2 σ k i v) = MF ad σ := by
  obtain ⟨h1, h2, h3, h4, h5, h6⟩ := mA_sc h
  unfold MF
  rw [u2_ne σ v (fun q => h1 q.1.symm), u2_ne σ v (fun q => h2 q.1.symm), u2_ne σ v (fun q => h3 q.1.symm), u2_ne σ v (fun q => h4 q.1.symm), u2_ne σ v (fun q => h5 q.1.symm), u2_ne σ v (fun q => h6 q.1.symm)]
section MDs
variable {D : va_G} {cI cZ : ClassId} {m0 : Nat} {ad : Nat → Nat} {σ : Sg} {H H1 : Heap}
theorem MD.arr (k : Nat) {i : Nat} {v : Int32} (h : MD D cI cZ m0 ad σ H) (hk : mI k = true) (h1 : Ai D cI (ad k) (mlen k) (upd (σ k) i v) H1) (oq : ∀ q : Nat, q ≠ ad k → H1[q]? = H[q]?) : MD D cI cZ m0 ad (u2 σ k i v) H1 := by
  have hA : mA k = true := by unfold mA; rw [hk]; rfl
  obtain ⟨a1, a2, a3, a4, a5⟩ := h
  refine ⟨?_, ?_, ?_, a4, a5⟩
  · rw [MF_arr ad σ i v hA]
    exact va_at.kept a1 (oq _ (fun q => a5 k hA q.symm))
  · intro k' hk'
    by_cases e : k' = k
    · subst e
      rw [← u2_upd]
      exact h1
    · rw [u2_k σ v e]
      exact va_at.kept (a2 k' hk') (oq _ (fun q => e (a4 k' k (by unfold mA; rw [hk']; rfl) hA q)))
  · have e : (13 : Nat) ≠ k := by intro e; subst e; exact absurd hk (by decide)
    rw [u2_k σ v e]
    exact va_at.kept a3 (oq _ (fun q => e (a4 13 k rfl hA q)))
theorem MD.told {i : Nat} {v : Int32} (h : MD D cI cZ m0 ad σ H) (h1 : Ai D cZ (ad 13) 30 (upd (σ 13) i v) H1) (oq : ∀ q : Nat, q ≠ ad 13 → H1[q]? = H[q]?) : MD D cI cZ m0 ad (u2 σ 13 i v) H1 := by
  obtain ⟨a1, a2, a3, a4, a5⟩ := h
  refine ⟨?_, ?_, ?_, a4, a5⟩
  · rw [MF_arr ad σ i v rfl]
    exact va_at.kept a1 (oq _ (fun q => a5 13 rfl q.symm))
  · intro k' hk'
    have e : k' ≠ 13 := by intro e; subst e; exact absurd hk' (by decide)
    rw [u2_k σ v e]
    exact va_at.kept (a2 k' hk') (oq _ (fun q => e (a4 k' 13 (by unfold mA; rw [hk']; rfl) rfl q)))
  · rw [← u2_upd]
    exact h1
theorem MD.fld (k : Nat) {v : Int32} (h : MD D cI cZ m0 ad σ H) (hk : mA k = false) (h1 : Ob D m0 8 (MF ad (u2 σ k 0 v)) H1) (oq : ∀ q : Nat, q ≠ m0 → H1[q]? = H[q]?) : MD D cI cZ m0 ad (u2 σ k 0 v) H1 := by
  obtain ⟨a1, a2, a3, a4, a5⟩ := h
  have e : ∀ k', mA k' = true → k' ≠ k := by intro k' h' e; subst e; rw [hk] at h'; cases h'
  refine ⟨h1, ?_, ?_, a4, a5⟩
  · intro k' hk'
    have hA : mA k' = true := by unfold mA; rw [hk']; rfl
    rw [u2_k σ v (e k' hA)]
    exact va_at.kept (a2 k' hk') (oq _ (a5 k' hA))
  · rw [u2_k σ v (e 13 rfl)]
    exact va_at.kept a3 (oq _ (a5 13 rfl))
theorem MD.kept (h : MD D cI cZ m0 ad σ H) (oq : ∀ q : Nat, Am m0 ad q → H1[q]? = H[q]?) : MD D cI cZ m0 ad σ H1 := by
  obtain ⟨a1, a2, a3, a4, a5⟩ := h
  exact ⟨va_at.kept a1 (oq _ (Or.inl rfl)), fun k hk => va_at.kept (a2 k hk) (oq _ (Or.inr ⟨k, by unfold mA; rw [hk]; rfl, rfl⟩)), va_at.kept a3 (oq _ (Or.inr ⟨13, rfl, rfl⟩)), a4, a5⟩
theorem MD.eq {τ : Sg} (h : MD D cI cZ m0 ad σ H) (e : σ = τ) : MD D cI cZ m0 ad τ H := e ▸ h
theorem Am.arr (k : Nat) (hk : mA k = true) : Am m0 ad (ad k) := Or.inr ⟨k, hk, rfl⟩
theorem Am.ob : Am m0 ad m0 := Or.inl rfl
end MDs
end
section
/-! what the calls do to that state, as the reference does it -/
def nat (x : Int32) : Nat := x.toNatClampNeg
theorem nat_nI {n : Nat} (h : n < 2 ^ 31) : nat (nI n) = n := nI_clamp h
def b2 (b : Bool) : Int32 := bif b then 1 else 0
theorem b2_nar (b : Bool) : narrow .boolean (.int (b2 b)) = .int (b2 b) := by cases b <;> rfl
def nx1 (σ : Sg) (k : Nat) : Bool := decide (0 < σ 12 k) || (decide (σ 4 k = 0) || decide (σ 4 k = 3))
def nxA (σ : Sg) : Nat → Bool
  | 0 => true
  | k + 1 => nxA σ k && nx1 σ k
def wt (σ : Sg) (j : Nat) : Bool :=
  bif decide (0 < σ 12 j) then true else bif decide (¬ σ 13 j = 0) then false else bif decide (σ 4 j = 1) then decide (σ 9 j = σ 5 j) && !nxA σ j else bif decide (σ 4 j = 2) then decide (σ 9 j = 0) && !nxA σ j else bif decide (σ 4 j = 3) then decide (σ 11 j = σ 1 0 - 1) else false
def fin (σ : Sg) (e j : Nat) (how : Int32) : Sg := u2 (u2 (u2 (u2 (u2 σ 12 j how) 17 e (nI j)) 18 e how) 19 e (σ 20 0)) 16 0 (σ 16 0 + 1)
def blk (σ : Sg) (nv j c : Nat) : Sg := fun k i => if k = 0 ∧ 16 * nv ≤ i ∧ i < 16 * nv + c then (if σ 4 j = 1 then σ 0 (i - 16) else 0) + σ 14 (16 * j + (i - 16 * nv)) else σ k i
def cmt (σ : Sg) (nv j : Nat) : Sg := u2 (u2 (blk σ nv j 16) 11 j (σ 1 0)) 1 0 (σ 1 0 + 1)
def tk (σ : Sg) (vv j c : Nat) : Sg := fun k i => if k = 14 ∧ 16 * j ≤ i ∧ i < 16 * j + c then σ 0 (16 * vv + (i - 16 * j)) else σ k i
def bfr (σ : Sg) (j c : Nat) : Sg := fun k i => if k = 15 ∧ i < c then σ 14 (16 * j + i) else σ k i
def spr (σ : Sg) (j c : Nat) : Sg := fun k i => if k = 14 ∧ 16 * j ≤ i ∧ i < 16 * j + c then rnd (σ 15) (i - 16 * j) else σ k i
def rdT (σ : Sg) (nv j : Nat) : Sg := if σ 9 j = 0 then tk (u2 σ 11 j (σ 1 0 - 1)) (nv - 1) j 16 else σ
def rd (σ : Sg) (nv j : Nat) : Sg := spr (bfr (rdT σ nv j) j 16) j 16
def aN (σ : Sg) (j : Nat) : Nat := (nat (σ 7 j) + nat (σ 9 j)) % 16
def stB (σ : Sg) (nv j : Nat) : Sg :=
  if σ 4 j = 0 then u2 σ 10 j (31 * σ 10 j + σ 0 (16 * nat (σ 11 j) + aN σ j))
  else if σ 4 j = 1 then u2 σ 14 (16 * j + aN σ j) (σ 14 (16 * j + aN σ j) + σ 8 j)
  else if σ 4 j = 2 then rd σ nv j
  else u2 (u2 σ 11 j (σ 11 j + 1)) 10 j (31 * σ 10 j + isum (fun c => σ 0 (16 * nat (σ 11 j + 1) + c)) 16)
def stp (σ : Sg) (nv j : Nat) : Sg := u2 (stB σ nv j) 9 j (stB σ nv j 9 j + 1)
def tnD (σ : Sg) (nv e j : Nat) : Int32 × Sg :=
  if ¬ σ 13 j = 0 then (4, fin σ e j 4)
  else if σ 9 j = σ 5 j ∧ ¬ σ 4 j = 3 then (2, fin (cmt σ nv j) e j 2)
  else if σ 6 j = σ 9 j + 1 then (3, fin σ e j 3)
  else if stp σ nv j 4 j = 0 ∧ stp σ nv j 9 j = stp σ nv j 5 j then (2, fin (stp σ nv j) e j 2)
  else (1, stp σ nv j)
def tn (σ : Sg) (nv e j : Nat) : Int32 × Sg :=
  bif wt σ j then (0, u2 σ 21 0 (σ 21 0 + (if 0 < σ 12 j then 0 else 1))) else tnD (u2 σ 20 0 (σ 20 0 + 1)) nv e j
/-- a turn, the counts taken from the state -/
def tnS (σ : Sg) (j : Nat) : Int32 × Sg := tn σ (nat (σ 1 0)) (nat (σ 16 0)) j
def rowF (most : Nat) : Nat → Nat × Bool × Sg → Nat × Bool × Sg
  | 0, x => x
  | w + 1, x => if (rowF most w x).1 < most then (if 0 < (tnS (rowF most w x).2.2 w).1 then ((rowF most w x).1 + 1, true, (tnS (rowF most w x).2.2 w).2) else ((rowF most w x).1, (rowF most w x).2.1, (tnS (rowF most w x).2.2 w).2)) else rowF most w x
def runF (most nW : Nat) : Nat → Nat × Bool × Sg → Nat × Bool × Sg
  | 0, x => x
  | n + 1, x => if x.2.1 = true ∧ x.1 < most then runF most nW n (rowF most nW (x.1, false, x.2.2)) else x
def cnc (σ : Sg) (j : Nat) : Int32 × Sg := if 0 < σ 12 j then (0, σ) else if ¬ σ 13 j = 0 then (0, σ) else (1, u2 σ 13 j 1)
def clsF : Nat → Sg → Nat × Sg
  | 0, σ => (0, σ)
  | w + 1, σ => if (clsF w σ).2 12 w = 0 then ((clsF w σ).1 + 1, fin (clsF w σ).2 (nat ((clsF w σ).2 16 0)) w 4) else clsF w σ
def pin (σ : Sg) (j : Nat) : Int32 := bif (decide (σ 12 j = 0) && (decide (σ 4 j = 0) || decide (σ 4 j = 2))) then σ 11 j else (-1)
def ipF (σ : Sg) (v : Int32) : Nat → Bool
  | 0 => false
  | w + 1 => ipF σ v w || decide (pin σ w = v)
def kp1 (σ : Sg) (v : Int32) (w : Nat) : Bool := decide (σ 4 w = 3) && (decide (σ 12 w = 0) && decide (σ 11 w < v))
def kpF (σ : Sg) (v : Int32) (nW : Nat) : Nat → Bool
  | 0 => decide (v = σ 1 0 - 1) || ipF σ v nW
  | w + 1 => kpF σ v nW w || kp1 σ v w
def kept (σ : Sg) (v : Int32) (nW : Nat) : Bool := kpF σ v nW nW
def cntF (f : Nat → Bool) : Nat → Nat
  | 0 => 0
  | n + 1 => cntF f n + (bif f n then 1 else 0)
def tld (σ : Sg) (j : Nat) (what : Int32) : Int32 :=
  if what = 0 then σ 4 j else if what = 1 then σ 12 j else if what = 2 then σ 9 j else if what = 3 then σ 10 j else if what = 4 then (if σ 4 j = 2 ∧ ¬ σ 12 j = 2 then (-1) else σ 11 j) else b2 (wt σ j)
def begS (σ : Sg) (nW : Nat) (kd many fails frm more : Int32) : Sg := u2 (u2 (u2 (u2 (u2 (u2 (u2 σ 4 nW kd) 5 nW many) 6 nW fails) 7 nW frm) 8 nW more) 11 nW (if kd = 0 ∨ kd = 3 then σ 1 0 - 1 else (-1))) 3 0 (σ 3 0 + 1)
def beg (σ : Sg) (nW : Nat) (kd many fails frm more : Int32) : Int32 × Sg := if ¬ σ 2 0 = 0 then (-2, σ) else if nW = 30 then (-3, σ) else (nI nW, begS σ nW kd many fails frm more)
def inB (v lo hi : Int32) : Bool := decide (¬ v < lo) && decide (¬ hi < v)
end
section
theorem b2_0 {b : Bool} (h : b2 b = 0) : b = false := by cases b; rfl; exact absurd h (by decide)
theorem b2_n {b : Bool} (h : ¬ b2 b = 0) : b = true := by cases b; exact absurd rfl h; rfl
theorem b2_f {b : Bool} (h : b = false) : b2 b = 0 := by rw [h]; rfl
theorem b2_t {b : Bool} (h : b = true) : b2 b = 1 := by rw [h]; rfl
theorem nxA_0 {σ : Sg} {i : Nat} (h : nxA σ i = false) : nxA σ (i + 1) = false := by rw [nxA, h]; rfl
theorem nxA_s {σ : Sg} {i : Nat} {b : Bool} (h : nxA σ i = true) (h2 : nx1 σ i = b) : nxA σ (i + 1) = b := by rw [nxA, h, h2]; rfl
theorem ipF_1 {σ : Sg} {v : Int32} {i : Nat} (h : ipF σ v i = true) : ipF σ v (i + 1) = true := by rw [ipF, h]; rfl
theorem ipF_s {σ : Sg} {v : Int32} {i : Nat} {b : Bool} (h : ipF σ v i = false) (h2 : decide (pin σ i = v) = b) : ipF σ v (i + 1) = b := by rw [ipF, h, h2]; rfl
theorem kpF_1 {σ : Sg} {v : Int32} {i n : Nat} (h : kpF σ v n i = true) : kpF σ v n (i + 1) = true := by rw [kpF, h]; rfl
theorem kpF_s {σ : Sg} {v : Int32} {i n : Nat} {b : Bool} (h : kpF σ v n i = false) (h2 : kp1 σ v i = b) : kpF σ v n (i + 1) = b := by rw [kpF, h, h2]; rfl
set_option maxHeartbeats 4000000 in
set_option maxRecDepth 100000 in
theorem c_X8_in (l : Launch) {D : va_G} {cI cZ cO : ClassId} {mi : Nat} (H : Heap) (v lo hi : Int32)  : Met l yX8_in wsX8_in ({ frames := 0, cells := 0, slots := 0, locals := 0 }) (Pk D cI cZ cO mi [.int v, .int lo, .int hi] H) (Qpi H (b2 (inB v lo hi))) 0 0 (fun _ => False) := by
  refine Met.ofW (cc := cX8_in) (maxL := 3) (ret := (some .boolean)) (by decide) rfl ?_
  intro p e s m args below meth c s₁ B hml hv
  obtain ⟨rfl, rfl, hK⟩ := hv
  have hx := B.exec
  have hb := B.bytes
  have hr := B.returns
  have hts := atoms_spec (ws := wsX8_in) B.pre
  have hown : s.vm.findClass RX8 = some m.cls := findClass_of_methodNamed B.named
  have hlocks := B.notSynchronized
  have hS : va_S (fun _ => False) s.heap s.heap [] := va_S.rf
  have hl := lv_entry ([.int v, .int lo, .int hi]) (n := 3) (Nat.le_of_ble_eq_true rfl)
  rw [lg_entry_eq]
  generalize (lg_sl ([.int v, .int lo, .int hi]) ++ List.replicate (3 - (lg_sl ([.int v, .int lo, .int hi])).length) Slot.unset).toArray = ls at hl ⊢
  have hl : lv_has ls 3 [(0, .int v), (1, .int lo), (2, .int hi)] := hl
  refine lv_iload_n hx hb dX8_in_0 rfl (lv_at hl 0 rfl) ?_
  refine lv_iload_n hx hb dX8_in_1 rfl (lv_at hl 1 rfl) ?_
  refine lv_icmp_lt (tgt := 14) hx hb dX8_in_2 (by decide) (fun c2 => ?_) (fun c2 => ?_)
  · refine lv_iconst (v := 0) hx hb dX8_in_14 (by decide) ?_
    exact k_retz hx hb hr hlocks (by decide) ⟨(b2_f (by simp [inB, c2])).symm, rfl⟩ hS dX8_in_15
  · refine lv_iload_n hx hb dX8_in_5 rfl (lv_at hl 0 rfl) ?_
    refine lv_iload_n hx hb dX8_in_6 rfl (lv_at hl 2 rfl) ?_
    refine lv_icmp_gt (tgt := 14) hx hb dX8_in_7 (by decide) (fun c7 => ?_) (fun c7 => ?_)
    · refine lv_iconst (v := 0) hx hb dX8_in_14 (by decide) ?_
      exact k_retz hx hb hr hlocks (by decide) ⟨(b2_f (by simp [inB, c2, c7])).symm, rfl⟩ hS dX8_in_15
    · refine lv_iconst (v := 1) hx hb dX8_in_10 (by decide) ?_
      refine lv_goto (tgt := 15) hx hb dX8_in_11 (by decide) ?_
      exact k_retz hx hb hr hlocks (by decide) ⟨(b2_t (by simp [inB, c2, c7])).symm, rfl⟩ hS dX8_in_15
set_option maxHeartbeats 4000000 in
set_option maxRecDepth 100000 in
theorem c_X8_isNext (l : Launch) {D : va_G} {cI cZ cO : ClassId} {mi : Nat} (H : Heap) (m0 : Nat) (ad : Nat → Nat) (σ : Sg) (j : Nat) (hM : MD D cI cZ m0 ad σ H) (hj : j ≤ 30) : Met l yX8_isNext wsX8_isNext ({ frames := 0, cells := 0, slots := 0, locals := 0 }) (Pk D cI cZ cO mi [.ref m0, .int (nI j)] H) (Qpi H (b2 (nxA σ j))) 0 0 (fun _ => False) := by
  refine Met.ofW (cc := cX8_isNext) (maxL := 4) (ret := (some .boolean)) (by decide) rfl ?_
  intro p e s m args below meth c s₁ B hml hv
  obtain ⟨rfl, rfl, hK⟩ := hv
  have hx := B.exec
  have hb := B.bytes
  have hr := B.returns
  have hts := atoms_spec (ws := wsX8_isNext) B.pre
  have hown : s.vm.findClass RX8 = some m.cls := findClass_of_methodNamed B.named
  have hlocks := B.notSynchronized
  have hS : va_S (fun _ => False) s.heap s.heap [] := va_S.rf
  have hl := lv_entry ([.ref m0, .int (nI j)]) (n := 4) (Nat.le_of_ble_eq_true rfl)
  rw [lg_entry_eq]
  generalize (lg_sl ([.ref m0, .int (nI j)]) ++ List.replicate (4 - (lg_sl ([.ref m0, .int (nI j)])).length) Slot.unset).toArray = ls at hl ⊢
  have hl : lv_has ls 4 [(0, .ref m0), (1, .int (nI j))] := hl
  have hiX8 : ∀ w ∈ wsX80, w ∈ wsX8_isNext := by decide +kernel
  refine lv_iconst (v := 1) hx hb dX8_isNext_0 (by decide) ?_
  refine lv_istore_n (lv' := [(2, .int 1), (0, .ref m0), (1, .int (nI j))]) hx hb dX8_isNext_1 rfl hl (by decide) rfl (fun ls hl => ?_)
  refine lv_iconst (v := 0) hx hb dX8_isNext_2 (by decide) ?_
  refine lv_istore_n (lv' := [(3, .int 0), (2, .int 1), (0, .ref m0), (1, .int (nI j))]) hx hb dX8_isNext_3 rfl hl (by decide) rfl (fun ls hl => ?_)
  generalize ([] : List Loc) = locs at hS ⊢
  have loop : ∀ (n : Nat), ∀ (i : Nat), i ≤ j → j + 1 ≤ i + n → ∀ (locs : List Loc), va_S (fun _ => False) s.heap s.heap locs → ∀ ls : Array Slot, lv_has ls 4 [(3, .int (nI i)), (2, .int (b2 (nxA σ i))), (0, .ref m0), (1, .int (nI j))] → W p l e (headSpec wsX8_isNext ({ frames := 0, cells := 0, slots := 0, locals := 0 })).room s m ([.ref m0, .int (nI j)] : List Value).toArray below meth c s.heap locs 0 0 (MQ below (Qpi s.heap (b2 (nxA σ j))) ([.ref m0, .int (nI j)] : List Value).toArray s 0 0 (fun _ => False)) (F0 m 4 ls []) := by
    intro n
    induction n with
    | zero => intro i h1 h2; exact absurd h2 (by omega)
    | succ n ih =>
      intro i hi hn locs hS ls hl
      refine lv_iload_n hx hb dX8_isNext_4 rfl (lv_at hl 0 rfl) ?_
      refine lv_iload_n hx hb dX8_isNext_5 rfl (lv_at hl 3 rfl) ?_
      refine lv_icmp_ge (tgt := 53) hx hb dX8_isNext_6 (by decide) (fun c6 => ?_) (fun c6 => ?_)
      · have c6 := Int32.not_lt.mpr c6
        have hij : i = j := Nat.le_antisymm (by omega) (Nat.le_of_not_lt (fun q => c6 (nI_lt q (by omega))))
        subst hij
        refine lv_iload_n hx hb dX8_isNext_53 rfl (lv_at hl 1 rfl) ?_
        exact k_retz hx hb hr hlocks (b2_nar _) ⟨rfl, rfl⟩ hS dX8_isNext_54
      · have c6 := Int32.not_le.mp c6
        have hlt : i < j := (nI_ltI (by omega) (by omega)).mp c6
        refine lv_iload_n hx hb dX8_isNext_9 rfl (lv_at hl 1 rfl) ?_
        refine lv_if_eq (tgt := 45) hx hb dX8_isNext_10 (by decide) (fun c10 => ?_) (fun c10 => ?_)
        · refine lv_iconst (v := 0) hx hb dX8_isNext_45 (by decide) ?_
          refine lv_istore_n (lv' := [(2, .int 0), (3, .int (nI i)), (0, .ref m0), (1, .int (nI j))]) hx hb dX8_isNext_46 rfl hl (by decide) rfl (fun ls hl => ?_)
          refine lv_iinc (v := nI (i + 1)) (lv' := [(3, .int (nI (i + 1))), (2, .int 0), (0, .ref m0), (1, .int (nI j))]) hx hb dX8_isNext_47 hl (k := 1) rfl (by rw [← nI_1]; rfl) (by decide) rfl (fun ls hl => ?_)
          refine lv_goto (tgt := 4) hx hb dX8_isNext_50 (by decide) ?_
          exact ih (i + 1) (by omega) (by omega) locs hS ls (by rw [(b2_f (nxA_0 (b2_0 c10)))]; exact lv_sub hl [0, 1, 2, 3] rfl)
        · refine lv_aload_n hx hb dX8_isNext_13 rfl (lv_at hl 2 rfl) ?_
          refine k_get (C := RX8) (T := TX8) (N := 22) (v := .ref (ad 12)) hx hb hts hiX8 hown hK.1 hM.1 rfl 12 (by decide) (hts (.fieldLink RX8 41 "HouseWorkersModel" "end" "[I") (by decide +kernel)) (fun _ h9 => h9) rfl dX8_isNext_14 ?_
          refine lv_iload_n hx hb dX8_isNext_17 rfl (lv_at hl 0 rfl) ?_
          refine k_iald (n := 30) (f := (σ 12)) hx hb hK.1 0 (hM.2.1 12 rfl) rfl i rfl (by omega) (by decide) dX8_isNext_18 ?_
          refine lv_if_gt (tgt := 41) hx hb dX8_isNext_19 (by decide) (fun c19 => ?_) (fun c19 => ?_)
          · refine lv_iconst (v := 1) hx hb dX8_isNext_41 (by decide) ?_
            refine lv_goto (tgt := 46) hx hb dX8_isNext_42 (by decide) ?_
            refine lv_istore_n (lv' := [(2, .int 1), (3, .int (nI i)), (0, .ref m0), (1, .int (nI j))]) hx hb dX8_isNext_46 rfl hl (by decide) rfl (fun ls hl => ?_)
            refine lv_iinc (v := nI (i + 1)) (lv' := [(3, .int (nI (i + 1))), (2, .int 1), (0, .ref m0), (1, .int (nI j))]) hx hb dX8_isNext_47 hl (k := 1) rfl (by rw [← nI_1]; rfl) (by decide) rfl (fun ls hl => ?_)
            refine lv_goto (tgt := 4) hx hb dX8_isNext_50 (by decide) ?_
            exact ih (i + 1) (by omega) (by omega) locs hS ls (by rw [(b2_t (nxA_s (b2_n c10) (by simp [nx1, c19])))]; exact lv_sub hl [0, 1, 2, 3] rfl)
          · refine lv_aload_n hx hb dX8_isNext_22 rfl (lv_at hl 2 rfl) ?_
            refine k_get (C := RX8) (T := TX8) (N := 22) (v := .ref (ad 4)) hx hb hts hiX8 hown hK.1 hM.1 rfl 4 (by decide) (hts (.fieldLink RX8 17 "HouseWorkersModel" "kind" "[I") (by decide +kernel)) (fun _ h9 => h9) rfl dX8_isNext_23 ?_
            refine lv_iload_n hx hb dX8_isNext_26 rfl (lv_at hl 0 rfl) ?_
            refine k_iald (n := 30) (f := (σ 4)) hx hb hK.1 0 (hM.2.1 4 rfl) rfl i rfl (by omega) (by decide) dX8_isNext_27 ?_
            refine lv_if_eq (tgt := 41) hx hb dX8_isNext_28 (by decide) (fun c28 => ?_) (fun c28 => ?_)
            · refine lv_iconst (v := 1) hx hb dX8_isNext_41 (by decide) ?_
              refine lv_goto (tgt := 46) hx hb dX8_isNext_42 (by decide) ?_
              refine lv_istore_n (lv' := [(2, .int 1), (3, .int (nI i)), (0, .ref m0), (1, .int (nI j))]) hx hb dX8_isNext_46 rfl hl (by decide) rfl (fun ls hl => ?_)
              refine lv_iinc (v := nI (i + 1)) (lv' := [(3, .int (nI (i + 1))), (2, .int 1), (0, .ref m0), (1, .int (nI j))]) hx hb dX8_isNext_47 hl (k := 1) rfl (by rw [← nI_1]; rfl) (by decide) rfl (fun ls hl => ?_)
              refine lv_goto (tgt := 4) hx hb dX8_isNext_50 (by decide) ?_
              exact ih (i + 1) (by omega) (by omega) locs hS ls (by rw [(b2_t (nxA_s (b2_n c10) (by simp [nx1, c19, c28])))]; exact lv_sub hl [0, 1, 2, 3] rfl)
            · refine lv_aload_n hx hb dX8_isNext_31 rfl (lv_at hl 2 rfl) ?_
              refine k_get (C := RX8) (T := TX8) (N := 22) (v := .ref (ad 4)) hx hb hts hiX8 hown hK.1 hM.1 rfl 4 (by decide) (hts (.fieldLink RX8 17 "HouseWorkersModel" "kind" "[I") (by decide +kernel)) (fun _ h9 => h9) rfl dX8_isNext_32 ?_
              refine lv_iload_n hx hb dX8_isNext_35 rfl (lv_at hl 0 rfl) ?_
              refine k_iald (n := 30) (f := (σ 4)) hx hb hK.1 0 (hM.2.1 4 rfl) rfl i rfl (by omega) (by decide) dX8_isNext_36 ?_
              refine lv_iconst (v := 3) hx hb dX8_isNext_37 (by decide) ?_
              refine lv_icmp_ne (tgt := 45) hx hb dX8_isNext_38 (by decide) (fun c38 => ?_) (fun c38 => ?_)
              · refine lv_iconst (v := 0) hx hb dX8_isNext_45 (by decide) ?_
                refine lv_istore_n (lv' := [(2, .int 0), (3, .int (nI i)), (0, .ref m0), (1, .int (nI j))]) hx hb dX8_isNext_46 rfl hl (by decide) rfl (fun ls hl => ?_)
                refine lv_iinc (v := nI (i + 1)) (lv' := [(3, .int (nI (i + 1))), (2, .int 0), (0, .ref m0), (1, .int (nI j))]) hx hb dX8_isNext_47 hl (k := 1) rfl (by rw [← nI_1]; rfl) (by decide) rfl (fun ls hl => ?_)
                refine lv_goto (tgt := 4) hx hb dX8_isNext_50 (by decide) ?_
                exact ih (i + 1) (by omega) (by omega) locs hS ls (by rw [(b2_f (nxA_s (b2_n c10) (by simp [nx1, c19, c28, c38])))]; exact lv_sub hl [0, 1, 2, 3] rfl)
              · refine lv_iconst (v := 1) hx hb dX8_isNext_41 (by decide) ?_
                refine lv_goto (tgt := 46) hx hb dX8_isNext_42 (by decide) ?_
                refine lv_istore_n (lv' := [(2, .int 1), (3, .int (nI i)), (0, .ref m0), (1, .int (nI j))]) hx hb dX8_isNext_46 rfl hl (by decide) rfl (fun ls hl => ?_)
                refine lv_iinc (v := nI (i + 1)) (lv' := [(3, .int (nI (i + 1))), (2, .int 1), (0, .ref m0), (1, .int (nI j))]) hx hb dX8_isNext_47 hl (k := 1) rfl (by rw [← nI_1]; rfl) (by decide) rfl (fun ls hl => ?_)
                refine lv_goto (tgt := 4) hx hb dX8_isNext_50 (by decide) ?_
                exact ih (i + 1) (by omega) (by omega) locs hS ls (by rw [(b2_t (nxA_s (b2_n c10) (by simp [nx1, c19, c28, c38])))]; exact lv_sub hl [0, 1, 2, 3] rfl)
  exact loop (j + 1) 0 (Nat.zero_le _) (by omega) locs hS ls (lv_sub hl [0, 1, 2, 3] rfl)
theorem tb_out {x : Int32} (h1 : ¬ x = 1) (h2 : ¬ x = 2) (h3 : ¬ x = 3) : x.toInt < 1 ∨ 3 < x.toInt := by
  have a1 : ¬ x.toInt = 1 := lv_neT h1 rfl
  have a2 : ¬ x.toInt = 2 := lv_neT h2 rfl
  have a3 : ¬ x.toInt = 3 := lv_neT h3 rfl
  omega
set_option maxHeartbeats 4000000 in
set_option maxRecDepth 100000 in
theorem c_X8_waits (l : Launch) {D : va_G} {cI cZ cO : ClassId} {mi : Nat} (H : Heap) (m0 : Nat) (ad : Nat → Nat) (σ : Sg) (j : Nat) (hM : MD D cI cZ m0 ad σ H) (hj : j < 30) : Met l yX8_waits wsX8_waits ({ frames := 1, cells := 0, slots := 0, locals := 23 }) (Pk D cI cZ cO mi [.ref m0, .int (nI j)] H) (Qpi H (b2 (wt σ j))) 0 0 (fun _ => False) := by
  refine Met.ofW (cc := cX8_waits) (maxL := 2) (ret := (some .boolean)) (by decide) rfl ?_
  intro p e s m args below meth c s₁ B hml hv
  obtain ⟨rfl, rfl, hK⟩ := hv
  have hx := B.exec
  have hb := B.bytes
  have hr := B.returns
  have hts := atoms_spec (ws := wsX8_waits) B.pre
  have hown : s.vm.findClass RX8 = some m.cls := findClass_of_methodNamed B.named
  have hlocks := B.notSynchronized
  have hS : va_S (fun _ => False) s.heap s.heap [] := va_S.rf
  have hl := lv_entry ([.ref m0, .int (nI j)]) (n := 2) (Nat.le_of_ble_eq_true rfl)
  rw [lg_entry_eq]
  generalize (lg_sl ([.ref m0, .int (nI j)]) ++ List.replicate (2 - (lg_sl ([.ref m0, .int (nI j)])).length) Slot.unset).toArray = ls at hl ⊢
  have hl : lv_has ls 2 [(0, .ref m0), (1, .int (nI j))] := hl
  have hiX8 : ∀ w ∈ wsX80, w ∈ wsX8_waits := by decide +kernel
  refine lv_aload_n hx hb dX8_waits_0 rfl (lv_at hl 0 rfl) ?_
  refine k_get (C := RX8) (T := TX8) (N := 22) (v := .ref (ad 12)) hx hb hts hiX8 hown hK.1 hM.1 rfl 12 (by decide) (hts (.fieldLink RX8 41 "HouseWorkersModel" "end" "[I") (by decide +kernel)) (fun _ h9 => h9) rfl dX8_waits_1 ?_
  refine lv_iload_n hx hb dX8_waits_4 rfl (lv_at hl 1 rfl) ?_
  refine k_iald (n := 30) (f := (σ 12)) hx hb hK.1 0 (hM.2.1 12 rfl) rfl j rfl (by omega) (by decide) dX8_waits_5 ?_
  refine lv_if_le (tgt := 11) hx hb dX8_waits_6 (by decide) (fun c6 => ?_) (fun c6 => ?_)
  · have c6 := Int32.not_lt.mpr c6
    refine lv_aload_n hx hb dX8_waits_11 rfl (lv_at hl 0 rfl) ?_
    refine k_get (C := RX8) (T := TX8) (N := 22) (v := .ref (ad 13)) hx hb hts hiX8 hown hK.1 hM.1 rfl 13 (by decide) (hts (.fieldLink RX8 44 "HouseWorkersModel" "told" "[Z") (by decide +kernel)) (fun _ h9 => h9) rfl dX8_waits_12 ?_
    refine lv_iload_n hx hb dX8_waits_15 rfl (lv_at hl 1 rfl) ?_
    refine k_zald (n := 30) (f := (σ 13)) hx hb hK.1 1 hM.2.2.1 rfl j rfl (by omega) (by decide) dX8_waits_16 ?_
    refine lv_if_eq (tgt := 22) hx hb dX8_waits_17 (by decide) (fun c17 => ?_) (fun c17 => ?_)
    · refine lv_aload_n hx hb dX8_waits_22 rfl (lv_at hl 0 rfl) ?_
      refine k_get (C := RX8) (T := TX8) (N := 22) (v := .ref (ad 4)) hx hb hts hiX8 hown hK.1 hM.1 rfl 4 (by decide) (hts (.fieldLink RX8 17 "HouseWorkersModel" "kind" "[I") (by decide +kernel)) (fun _ h9 => h9) rfl dX8_waits_23 ?_
      refine lv_iload_n hx hb dX8_waits_26 rfl (lv_at hl 1 rfl) ?_
      refine k_iald (n := 30) (f := (σ 4)) hx hb hK.1 0 (hM.2.1 4 rfl) rfl j rfl (by omega) (by decide) dX8_waits_27 ?_
      by_cases k1 : σ 4 j = 1
      · rw [k1]
        refine lv_tableIn (off := 28) (tgt := 56) hx hb dX8_waits_28 (by decide) (by decide) (by decide) (by decide) ?_
        refine lv_aload_n hx hb dX8_waits_56 rfl (lv_at hl 0 rfl) ?_
        refine k_get (C := RX8) (T := TX8) (N := 22) (v := .ref (ad 9)) hx hb hts hiX8 hown hK.1 hM.1 rfl 9 (by decide) (hts (.fieldLink RX8 32 "HouseWorkersModel" "done" "[I") (by decide +kernel)) (fun _ h9 => h9) rfl dX8_waits_57 ?_
        refine lv_iload_n hx hb dX8_waits_60 rfl (lv_at hl 1 rfl) ?_
        refine k_iald (n := 30) (f := (σ 9)) hx hb hK.1 0 (hM.2.1 9 rfl) rfl j rfl (by omega) (by decide) dX8_waits_61 ?_
        refine lv_aload_n hx hb dX8_waits_62 rfl (lv_at hl 0 rfl) ?_
        refine k_get (C := RX8) (T := TX8) (N := 22) (v := .ref (ad 5)) hx hb hts hiX8 hown hK.1 hM.1 rfl 5 (by decide) (hts (.fieldLink RX8 20 "HouseWorkersModel" "steps" "[I") (by decide +kernel)) (fun _ h9 => h9) rfl dX8_waits_63 ?_
        refine lv_iload_n hx hb dX8_waits_66 rfl (lv_at hl 1 rfl) ?_
        refine k_iald (n := 30) (f := (σ 5)) hx hb hK.1 0 (hM.2.1 5 rfl) rfl j rfl (by omega) (by decide) dX8_waits_67 ?_
        refine lv_icmp_ne (tgt := 83) hx hb dX8_waits_68 (by decide) (fun c68 => ?_) (fun c68 => ?_)
        · refine lv_iconst (v := 0) hx hb dX8_waits_83 (by decide) ?_
          exact k_retz hx hb hr hlocks (by decide) ⟨(b2_f (by simp [wt, c6, c17, c68, k1])).symm, rfl⟩ hS dX8_waits_84
        · refine lv_aload_n hx hb dX8_waits_71 rfl (lv_at hl 0 rfl) ?_
          refine lv_iload_n hx hb dX8_waits_72 rfl (lv_at hl 1 rfl) ?_
          refine k_callpi (v := b2 (nxA σ j)) (va_runV (As := [.int (nI j)]) (rest := []) ⟨hx, hb, hml, hown, hts⟩ (c_X8_isNext l _ m0 ad σ j hM (by omega)) (cwV 1 hts gX8_waits_X8_isNext rfl rfl rfl (by decide +kernel) ⟨Nat.le_of_ble_eq_true rfl, Nat.le_of_ble_eq_true rfl⟩) (k_preV hK (k_recv hK.1 hM.1 rfl)) rfl rfl hl.1 rfl (lv_room (Nat.le_of_ble_eq_true rfl)) dX8_waits_73 ⟨(Nat.zero_le _), (Nat.zero_le _)⟩) hS (fun locs hS => ?_)
          refine lv_if_ne (tgt := 83) hx hb dX8_waits_76 (by decide) (fun c76 => ?_) (fun c76 => ?_)
          · refine lv_iconst (v := 0) hx hb dX8_waits_83 (by decide) ?_
            exact k_retz hx hb hr hlocks (by decide) ⟨(b2_f (by simp [wt, c6, c17, c68, b2_n c76, k1])).symm, rfl⟩ hS dX8_waits_84
          · refine lv_iconst (v := 1) hx hb dX8_waits_79 (by decide) ?_
            refine lv_goto (tgt := 84) hx hb dX8_waits_80 (by decide) ?_
            exact k_retz hx hb hr hlocks (by decide) ⟨(b2_t (by simp [wt, c6, c17, c68, b2_0 c76, k1])).symm, rfl⟩ hS dX8_waits_84
      by_cases k2 : σ 4 j = 2
      · rw [k2]
        refine lv_tableIn (off := 57) (tgt := 85) hx hb dX8_waits_28 (by decide) (by decide) (by decide) (by decide) ?_
        refine lv_aload_n hx hb dX8_waits_85 rfl (lv_at hl 0 rfl) ?_
        refine k_get (C := RX8) (T := TX8) (N := 22) (v := .ref (ad 9)) hx hb hts hiX8 hown hK.1 hM.1 rfl 9 (by decide) (hts (.fieldLink RX8 32 "HouseWorkersModel" "done" "[I") (by decide +kernel)) (fun _ h9 => h9) rfl dX8_waits_86 ?_
        refine lv_iload_n hx hb dX8_waits_89 rfl (lv_at hl 1 rfl) ?_
        refine k_iald (n := 30) (f := (σ 9)) hx hb hK.1 0 (hM.2.1 9 rfl) rfl j rfl (by omega) (by decide) dX8_waits_90 ?_
        refine lv_if_ne (tgt := 106) hx hb dX8_waits_91 (by decide) (fun c91 => ?_) (fun c91 => ?_)
        · refine lv_iconst (v := 0) hx hb dX8_waits_106 (by decide) ?_
          exact k_retz hx hb hr hlocks (by decide) ⟨(b2_f (by simp [wt, c6, c17, c91, k1, k2])).symm, rfl⟩ hS dX8_waits_107
        · refine lv_aload_n hx hb dX8_waits_94 rfl (lv_at hl 0 rfl) ?_
          refine lv_iload_n hx hb dX8_waits_95 rfl (lv_at hl 1 rfl) ?_
          refine k_callpi (v := b2 (nxA σ j)) (va_runV (As := [.int (nI j)]) (rest := []) ⟨hx, hb, hml, hown, hts⟩ (c_X8_isNext l _ m0 ad σ j hM (by omega)) (cwV 1 hts gX8_waits_X8_isNext rfl rfl rfl (by decide +kernel) ⟨Nat.le_of_ble_eq_true rfl, Nat.le_of_ble_eq_true rfl⟩) (k_preV hK (k_recv hK.1 hM.1 rfl)) rfl rfl hl.1 rfl (lv_room (Nat.le_of_ble_eq_true rfl)) dX8_waits_96 ⟨(Nat.zero_le _), (Nat.zero_le _)⟩) hS (fun locs hS => ?_)
          refine lv_if_ne (tgt := 106) hx hb dX8_waits_99 (by decide) (fun c99 => ?_) (fun c99 => ?_)
          · refine lv_iconst (v := 0) hx hb dX8_waits_106 (by decide) ?_
            exact k_retz hx hb hr hlocks (by decide) ⟨(b2_f (by simp [wt, c6, c17, c91, b2_n c99, k1, k2])).symm, rfl⟩ hS dX8_waits_107
          · refine lv_iconst (v := 1) hx hb dX8_waits_102 (by decide) ?_
            refine lv_goto (tgt := 107) hx hb dX8_waits_103 (by decide) ?_
            exact k_retz hx hb hr hlocks (by decide) ⟨(b2_t (by simp [wt, c6, c17, c91, b2_0 c99, k1, k2])).symm, rfl⟩ hS dX8_waits_107
      by_cases k3 : σ 4 j = 3
      · rw [k3]
        refine lv_tableIn (off := 80) (tgt := 108) hx hb dX8_waits_28 (by decide) (by decide) (by decide) (by decide) ?_
        refine lv_aload_n hx hb dX8_waits_108 rfl (lv_at hl 0 rfl) ?_
        refine k_get (C := RX8) (T := TX8) (N := 22) (v := .ref (ad 11)) hx hb hts hiX8 hown hK.1 hM.1 rfl 11 (by decide) (hts (.fieldLink RX8 38 "HouseWorkersModel" "version" "[I") (by decide +kernel)) (fun _ h9 => h9) rfl dX8_waits_109 ?_
        refine lv_iload_n hx hb dX8_waits_112 rfl (lv_at hl 1 rfl) ?_
        refine k_iald (n := 30) (f := (σ 11)) hx hb hK.1 0 (hM.2.1 11 rfl) rfl j rfl (by omega) (by decide) dX8_waits_113 ?_
        refine lv_aload_n hx hb dX8_waits_114 rfl (lv_at hl 0 rfl) ?_
        refine k_get (C := RX8) (T := TX8) (N := 22) (v := .int (σ 1 0)) hx hb hts hiX8 hown hK.1 hM.1 rfl 1 (by decide) (hts (.fieldLink RX8 13 "HouseWorkersModel" "versions" "I") (by decide +kernel)) (fun _ h9 => h9) rfl dX8_waits_115 ?_
        refine lv_iconst (v := 1) hx hb dX8_waits_118 (by decide) ?_
        refine lv_isub hx hb dX8_waits_119 ?_
        refine lv_icmp_ne (tgt := 127) hx hb dX8_waits_120 (by decide) (fun c120 => ?_) (fun c120 => ?_)
        · refine lv_iconst (v := 0) hx hb dX8_waits_127 (by decide) ?_
          exact k_retz hx hb hr hlocks (by decide) ⟨(b2_f (by simp [wt, c6, c17, c120, k1, k2, k3])).symm, rfl⟩ hS dX8_waits_128
        · refine lv_iconst (v := 1) hx hb dX8_waits_123 (by decide) ?_
          refine lv_goto (tgt := 128) hx hb dX8_waits_124 (by decide) ?_
          exact k_retz hx hb hr hlocks (by decide) ⟨(b2_t (by simp [wt, c6, c17, c120, k1, k2, k3])).symm, rfl⟩ hS dX8_waits_128
      refine lv_tableOut (tgt := 129) hx hb dX8_waits_28 (tb_out k1 k2 k3) (by decide) ?_
      refine lv_iconst (v := 0) hx hb dX8_waits_129 (by decide) ?_
      exact k_retz hx hb hr hlocks (by decide) ⟨(b2_f (by simp [wt, c6, c17, k1, k2, k3])).symm, rfl⟩ hS dX8_waits_130
    · refine lv_iconst (v := 0) hx hb dX8_waits_20 (by decide) ?_
      exact k_retz hx hb hr hlocks (by decide) ⟨(b2_f (by simp [wt, c6, c17])).symm, rfl⟩ hS dX8_waits_21
  · have c6 := Int32.not_le.mp c6
    refine lv_iconst (v := 1) hx hb dX8_waits_9 (by decide) ?_
    exact k_retz hx hb hr hlocks (by decide) ⟨(b2_t (by simp [wt, c6])).symm, rfl⟩ hS dX8_waits_10
set_option maxHeartbeats 4000000 in
set_option maxRecDepth 100000 in
theorem c_X8_pinned (l : Launch) {D : va_G} {cI cZ cO : ClassId} {mi : Nat} (H : Heap) (m0 : Nat) (ad : Nat → Nat) (σ : Sg) (j : Nat) (hM : MD D cI cZ m0 ad σ H) (hj : j < 30) : Met l yX8_pinned wsX8_pinned ({ frames := 0, cells := 0, slots := 0, locals := 0 }) (Pk D cI cZ cO mi [.ref m0, .int (nI j)] H) (Qpi H (pin σ j)) 0 0 (fun _ => False) := by
  refine Met.ofW (cc := cX8_pinned) (maxL := 3) (ret := (some .int)) (by decide) rfl ?_
  intro p e s m args below meth c s₁ B hml hv
  obtain ⟨rfl, rfl, hK⟩ := hv
  have hx := B.exec
  have hb := B.bytes
  have hr := B.returns
  have hts := atoms_spec (ws := wsX8_pinned) B.pre
  have hown : s.vm.findClass RX8 = some m.cls := findClass_of_methodNamed B.named
  have hlocks := B.notSynchronized
  have hS : va_S (fun _ => False) s.heap s.heap [] := va_S.rf
  have hl := lv_entry ([.ref m0, .int (nI j)]) (n := 3) (Nat.le_of_ble_eq_true rfl)
  rw [lg_entry_eq]
  generalize (lg_sl ([.ref m0, .int (nI j)]) ++ List.replicate (3 - (lg_sl ([.ref m0, .int (nI j)])).length) Slot.unset).toArray = ls at hl ⊢
  have hl : lv_has ls 3 [(0, .ref m0), (1, .int (nI j))] := hl
  have hiX8 : ∀ w ∈ wsX80, w ∈ wsX8_pinned := by decide +kernel
  refine lv_aload_n hx hb dX8_pinned_0 rfl (lv_at hl 0 rfl) ?_
  refine k_get (C := RX8) (T := TX8) (N := 22) (v := .ref (ad 12)) hx hb hts hiX8 hown hK.1 hM.1 rfl 12 (by decide) (hts (.fieldLink RX8 41 "HouseWorkersModel" "end" "[I") (by decide +kernel)) (fun _ h9 => h9) rfl dX8_pinned_1 ?_
  refine lv_iload_n hx hb dX8_pinned_4 rfl (lv_at hl 1 rfl) ?_
  refine k_iald (n := 30) (f := (σ 12)) hx hb hK.1 0 (hM.2.1 12 rfl) rfl j rfl (by omega) (by decide) dX8_pinned_5 ?_
  refine lv_if_ne (tgt := 32) hx hb dX8_pinned_6 (by decide) (fun c6 => ?_) (fun c6 => ?_)
  · refine lv_iconst (v := 0) hx hb dX8_pinned_32 (by decide) ?_
    refine lv_istore_n (lv' := [(2, .int 0), (0, .ref m0), (1, .int (nI j))]) hx hb dX8_pinned_33 rfl hl (by decide) rfl (fun ls hl => ?_)
    refine lv_iload_n hx hb dX8_pinned_34 rfl (lv_at hl 0 rfl) ?_
    refine lv_if_eq (tgt := 47) hx hb dX8_pinned_35 (by decide) (fun c35 => ?_) (fun c35 => ?_)
    · refine lv_iconst (v := -1) hx hb dX8_pinned_47 (by decide) ?_
      exact k_reti hx hb hr hlocks ⟨by simp [pin, c6], rfl⟩ hS dX8_pinned_48
    · exact absurd c35 (by decide)
  · refine lv_aload_n hx hb dX8_pinned_9 rfl (lv_at hl 0 rfl) ?_
    refine k_get (C := RX8) (T := TX8) (N := 22) (v := .ref (ad 4)) hx hb hts hiX8 hown hK.1 hM.1 rfl 4 (by decide) (hts (.fieldLink RX8 17 "HouseWorkersModel" "kind" "[I") (by decide +kernel)) (fun _ h9 => h9) rfl dX8_pinned_10 ?_
    refine lv_iload_n hx hb dX8_pinned_13 rfl (lv_at hl 1 rfl) ?_
    refine k_iald (n := 30) (f := (σ 4)) hx hb hK.1 0 (hM.2.1 4 rfl) rfl j rfl (by omega) (by decide) dX8_pinned_14 ?_
    refine lv_if_eq (tgt := 28) hx hb dX8_pinned_15 (by decide) (fun c15 => ?_) (fun c15 => ?_)
    · refine lv_iconst (v := 1) hx hb dX8_pinned_28 (by decide) ?_
      refine lv_goto (tgt := 33) hx hb dX8_pinned_29 (by decide) ?_
      refine lv_istore_n (lv' := [(2, .int 1), (0, .ref m0), (1, .int (nI j))]) hx hb dX8_pinned_33 rfl hl (by decide) rfl (fun ls hl => ?_)
      refine lv_iload_n hx hb dX8_pinned_34 rfl (lv_at hl 0 rfl) ?_
      refine lv_if_eq (tgt := 47) hx hb dX8_pinned_35 (by decide) (fun c35 => ?_) (fun c35 => ?_)
      · exact absurd c35 (by decide)
      · refine lv_aload_n hx hb dX8_pinned_38 rfl (lv_at hl 1 rfl) ?_
        refine k_get (C := RX8) (T := TX8) (N := 22) (v := .ref (ad 11)) hx hb hts hiX8 hown hK.1 hM.1 rfl 11 (by decide) (hts (.fieldLink RX8 38 "HouseWorkersModel" "version" "[I") (by decide +kernel)) (fun _ h9 => h9) rfl dX8_pinned_39 ?_
        refine lv_iload_n hx hb dX8_pinned_42 rfl (lv_at hl 2 rfl) ?_
        refine k_iald (n := 30) (f := (σ 11)) hx hb hK.1 0 (hM.2.1 11 rfl) rfl j rfl (by omega) (by decide) dX8_pinned_43 ?_
        refine lv_goto (tgt := 48) hx hb dX8_pinned_44 (by decide) ?_
        exact k_reti hx hb hr hlocks ⟨by simp [pin, c6, c15], rfl⟩ hS dX8_pinned_48
    · refine lv_aload_n hx hb dX8_pinned_18 rfl (lv_at hl 0 rfl) ?_
      refine k_get (C := RX8) (T := TX8) (N := 22) (v := .ref (ad 4)) hx hb hts hiX8 hown hK.1 hM.1 rfl 4 (by decide) (hts (.fieldLink RX8 17 "HouseWorkersModel" "kind" "[I") (by decide +kernel)) (fun _ h9 => h9) rfl dX8_pinned_19 ?_
      refine lv_iload_n hx hb dX8_pinned_22 rfl (lv_at hl 1 rfl) ?_
      refine k_iald (n := 30) (f := (σ 4)) hx hb hK.1 0 (hM.2.1 4 rfl) rfl j rfl (by omega) (by decide) dX8_pinned_23 ?_
      refine lv_iconst (v := 2) hx hb dX8_pinned_24 (by decide) ?_
      refine lv_icmp_ne (tgt := 32) hx hb dX8_pinned_25 (by decide) (fun c25 => ?_) (fun c25 => ?_)
      · refine lv_iconst (v := 0) hx hb dX8_pinned_32 (by decide) ?_
        refine lv_istore_n (lv' := [(2, .int 0), (0, .ref m0), (1, .int (nI j))]) hx hb dX8_pinned_33 rfl hl (by decide) rfl (fun ls hl => ?_)
        refine lv_iload_n hx hb dX8_pinned_34 rfl (lv_at hl 0 rfl) ?_
        refine lv_if_eq (tgt := 47) hx hb dX8_pinned_35 (by decide) (fun c35 => ?_) (fun c35 => ?_)
        · refine lv_iconst (v := -1) hx hb dX8_pinned_47 (by decide) ?_
          exact k_reti hx hb hr hlocks ⟨by simp [pin, c6, c15, c25], rfl⟩ hS dX8_pinned_48
        · exact absurd c35 (by decide)
      · refine lv_iconst (v := 1) hx hb dX8_pinned_28 (by decide) ?_
        refine lv_goto (tgt := 33) hx hb dX8_pinned_29 (by decide) ?_
        refine lv_istore_n (lv' := [(2, .int 1), (0, .ref m0), (1, .int (nI j))]) hx hb dX8_pinned_33 rfl hl (by decide) rfl (fun ls hl => ?_)
        refine lv_iload_n hx hb dX8_pinned_34 rfl (lv_at hl 0 rfl) ?_
        refine lv_if_eq (tgt := 47) hx hb dX8_pinned_35 (by decide) (fun c35 => ?_) (fun c35 => ?_)
        · exact absurd c35 (by decide)
        · refine lv_aload_n hx hb dX8_pinned_38 rfl (lv_at hl 1 rfl) ?_
          refine k_get (C := RX8) (T := TX8) (N := 22) (v := .ref (ad 11)) hx hb hts hiX8 hown hK.1 hM.1 rfl 11 (by decide) (hts (.fieldLink RX8 38 "HouseWorkersModel" "version" "[I") (by decide +kernel)) (fun _ h9 => h9) rfl dX8_pinned_39 ?_
          refine lv_iload_n hx hb dX8_pinned_42 rfl (lv_at hl 2 rfl) ?_
          refine k_iald (n := 30) (f := (σ 11)) hx hb hK.1 0 (hM.2.1 11 rfl) rfl j rfl (by omega) (by decide) dX8_pinned_43 ?_
          refine lv_goto (tgt := 48) hx hb dX8_pinned_44 (by decide) ?_
          exact k_reti hx hb hr hlocks ⟨by simp [pin, c6, c15, c25], rfl⟩ hS dX8_pinned_48
set_option maxHeartbeats 4000000 in
set_option maxRecDepth 100000 in
theorem c_X8_isPinned (l : Launch) {D : va_G} {cI cZ cO : ClassId} {mi : Nat} (H : Heap) (m0 : Nat) (ad : Nat → Nat) (σ : Sg) (nW : Nat) (v : Int32) (hM : MD D cI cZ m0 ad σ H) (hW : σ 3 0 = nI nW) (hn : nW ≤ 30) : Met l yX8_isPinned wsX8_isPinned ({ frames := 1, cells := 0, slots := 0, locals := 22 }) (Pk D cI cZ cO mi [.ref m0, .int v] H) (Qpi H (b2 (ipF σ v nW))) 0 0 (fun _ => False) := by
  refine Met.ofW (cc := cX8_isPinned) (maxL := 4) (ret := (some .boolean)) (by decide) rfl ?_
  intro p e s m args below meth c s₁ B hml hv
  obtain ⟨rfl, rfl, hK⟩ := hv
  have hx := B.exec
  have hb := B.bytes
  have hr := B.returns
  have hts := atoms_spec (ws := wsX8_isPinned) B.pre
  have hown : s.vm.findClass RX8 = some m.cls := findClass_of_methodNamed B.named
  have hlocks := B.notSynchronized
  have hS : va_S (fun _ => False) s.heap s.heap [] := va_S.rf
  have hl := lv_entry ([.ref m0, .int v]) (n := 4) (Nat.le_of_ble_eq_true rfl)
  rw [lg_entry_eq]
  generalize (lg_sl ([.ref m0, .int v]) ++ List.replicate (4 - (lg_sl ([.ref m0, .int v])).length) Slot.unset).toArray = ls at hl ⊢
  have hl : lv_has ls 4 [(0, .ref m0), (1, .int v)] := hl
  have hiX8 : ∀ w ∈ wsX80, w ∈ wsX8_isPinned := by decide +kernel
  refine lv_iconst (v := 0) hx hb dX8_isPinned_0 (by decide) ?_
  refine lv_istore_n (lv' := [(2, .int 0), (0, .ref m0), (1, .int v)]) hx hb dX8_isPinned_1 rfl hl (by decide) rfl (fun ls hl => ?_)
  refine lv_iconst (v := 0) hx hb dX8_isPinned_2 (by decide) ?_
  refine lv_istore_n (lv' := [(3, .int 0), (2, .int 0), (0, .ref m0), (1, .int v)]) hx hb dX8_isPinned_3 rfl hl (by decide) rfl (fun ls hl => ?_)
  generalize ([] : List Loc) = locs at hS ⊢
  have loop : ∀ (n : Nat), ∀ (i : Nat), i ≤ nW → nW + 1 ≤ i + n → ∀ (locs : List Loc), va_S (fun _ => False) s.heap s.heap locs → ∀ ls : Array Slot, lv_has ls 4 [(3, .int (nI i)), (2, .int (b2 (ipF σ v i))), (0, .ref m0), (1, .int v)] → W p l e (headSpec wsX8_isPinned ({ frames := 1, cells := 0, slots := 0, locals := 22 })).room s m ([.ref m0, .int v] : List Value).toArray below meth c s.heap locs 0 0 (MQ below (Qpi s.heap (b2 (ipF σ v nW))) ([.ref m0, .int v] : List Value).toArray s 0 0 (fun _ => False)) (F0 m 4 ls []) := by
    intro n
    induction n with
    | zero => intro i h1 h2; exact absurd h2 (by omega)
    | succ n ih =>
      intro i hi hn2 locs hS ls hl
      refine lv_iload_n hx hb dX8_isPinned_4 rfl (lv_at hl 0 rfl) ?_
      refine lv_aload_n hx hb dX8_isPinned_5 rfl (lv_at hl 2 rfl) ?_
      refine k_get (C := RX8) (T := TX8) (N := 22) (v := .int (σ 3 0)) hx hb hts hiX8 hown hK.1 hM.1 rfl 3 (by decide) (hts (.fieldLink RX8 67 "HouseWorkersModel" "workers" "I") (by decide +kernel)) (fun _ h9 => h9) rfl dX8_isPinned_6 ?_
      refine lv_icmp_ge (tgt := 37) hx hb dX8_isPinned_9 (by decide) (fun c9 => ?_) (fun c9 => ?_)
      · have c9 := Int32.not_lt.mpr c9
        rw [hW] at c9
        have hij : i = nW := Nat.le_antisymm (by omega) (Nat.le_of_not_lt (fun q => c9 (nI_lt q (by omega))))
        subst hij
        refine lv_iload_n hx hb dX8_isPinned_37 rfl (lv_at hl 1 rfl) ?_
        exact k_retz hx hb hr hlocks (b2_nar _) ⟨rfl, rfl⟩ hS dX8_isPinned_38
      · have c9 := Int32.not_le.mp c9
        rw [hW] at c9
        have hlt : i < nW := (nI_ltI (by omega) (by omega)).mp c9
        refine lv_iload_n hx hb dX8_isPinned_12 rfl (lv_at hl 1 rfl) ?_
        refine lv_if_ne (tgt := 25) hx hb dX8_isPinned_13 (by decide) (fun c13 => ?_) (fun c13 => ?_)
        · refine lv_iconst (v := 1) hx hb dX8_isPinned_25 (by decide) ?_
          refine lv_goto (tgt := 30) hx hb dX8_isPinned_26 (by decide) ?_
          refine lv_istore_n (lv' := [(2, .int 1), (3, .int (nI i)), (0, .ref m0), (1, .int v)]) hx hb dX8_isPinned_30 rfl hl (by decide) rfl (fun ls hl => ?_)
          refine lv_iinc (v := nI (i + 1)) (lv' := [(3, .int (nI (i + 1))), (2, .int 1), (0, .ref m0), (1, .int v)]) hx hb dX8_isPinned_31 hl (k := 1) rfl (by rw [← nI_1]; rfl) (by decide) rfl (fun ls hl => ?_)
          refine lv_goto (tgt := 4) hx hb dX8_isPinned_34 (by decide) ?_
          exact ih (i + 1) (by omega) (by omega) locs hS ls (by rw [(b2_t (ipF_1 (b2_n c13)))]; exact lv_sub hl [0, 1, 2, 3] rfl)
        · refine lv_aload_n hx hb dX8_isPinned_16 rfl (lv_at hl 2 rfl) ?_
          refine lv_iload_n hx hb dX8_isPinned_17 rfl (lv_at hl 0 rfl) ?_
          refine k_callpi (v := pin σ i) (va_runV (As := [.int (nI i)]) (rest := []) ⟨hx, hb, hml, hown, hts⟩ (c_X8_pinned l _ m0 ad σ i hM (by omega)) (cwV 1 hts gX8_isPinned_X8_pinned rfl rfl rfl (by decide +kernel) ⟨Nat.le_of_ble_eq_true rfl, Nat.le_of_ble_eq_true rfl⟩) (k_preV hK (k_recv hK.1 hM.1 rfl)) rfl rfl hl.1 rfl (lv_room (Nat.le_of_ble_eq_true rfl)) dX8_isPinned_18 ⟨(Nat.zero_le _), (Nat.zero_le _)⟩) hS (fun locs hS => ?_)
          refine lv_iload_n hx hb dX8_isPinned_21 rfl (lv_at hl 3 rfl) ?_
          refine lv_icmp_ne (tgt := 29) hx hb dX8_isPinned_22 (by decide) (fun c22 => ?_) (fun c22 => ?_)
          · refine lv_iconst (v := 0) hx hb dX8_isPinned_29 (by decide) ?_
            refine lv_istore_n (lv' := [(2, .int 0), (3, .int (nI i)), (0, .ref m0), (1, .int v)]) hx hb dX8_isPinned_30 rfl hl (by decide) rfl (fun ls hl => ?_)
            refine lv_iinc (v := nI (i + 1)) (lv' := [(3, .int (nI (i + 1))), (2, .int 0), (0, .ref m0), (1, .int v)]) hx hb dX8_isPinned_31 hl (k := 1) rfl (by rw [← nI_1]; rfl) (by decide) rfl (fun ls hl => ?_)
            refine lv_goto (tgt := 4) hx hb dX8_isPinned_34 (by decide) ?_
            exact ih (i + 1) (by omega) (by omega) locs hS ls (by rw [(b2_f (ipF_s (b2_0 c13) (by simp [c22])))]; exact lv_sub hl [0, 1, 2, 3] rfl)
          · refine lv_iconst (v := 1) hx hb dX8_isPinned_25 (by decide) ?_
            refine lv_goto (tgt := 30) hx hb dX8_isPinned_26 (by decide) ?_
            refine lv_istore_n (lv' := [(2, .int 1), (3, .int (nI i)), (0, .ref m0), (1, .int v)]) hx hb dX8_isPinned_30 rfl hl (by decide) rfl (fun ls hl => ?_)
            refine lv_iinc (v := nI (i + 1)) (lv' := [(3, .int (nI (i + 1))), (2, .int 1), (0, .ref m0), (1, .int v)]) hx hb dX8_isPinned_31 hl (k := 1) rfl (by rw [← nI_1]; rfl) (by decide) rfl (fun ls hl => ?_)
            refine lv_goto (tgt := 4) hx hb dX8_isPinned_34 (by decide) ?_
            exact ih (i + 1) (by omega) (by omega) locs hS ls (by rw [(b2_t (ipF_s (b2_0 c13) (by simp [c22])))]; exact lv_sub hl [0, 1, 2, 3] rfl)
  exact loop (nW + 1) 0 (Nat.zero_le _) (by omega) locs hS ls (lv_sub hl [0, 1, 2, 3] rfl)
set_option maxHeartbeats 4000000 in
set_option maxRecDepth 100000 in
theorem c_X8_isKept (l : Launch) {D : va_G} {cI cZ cO : ClassId} {mi : Nat} (H : Heap) (m0 : Nat) (ad : Nat → Nat) (σ : Sg) (nW : Nat) (v : Int32) (hM : MD D cI cZ m0 ad σ H) (hW : σ 3 0 = nI nW) (hn : nW ≤ 30) : Met l yX8_isKept wsX8_isKept ({ frames := 2, cells := 0, slots := 0, locals := 45 }) (Pk D cI cZ cO mi [.ref m0, .int v] H) (Qpi H (b2 (kept σ v nW))) 0 0 (fun _ => False) := by
  refine Met.ofW (cc := cX8_isKept) (maxL := 4) (ret := (some .boolean)) (by decide) rfl ?_
  intro p e s m args below meth c s₁ B hml hv
  obtain ⟨rfl, rfl, hK⟩ := hv
  have hx := B.exec
  have hb := B.bytes
  have hr := B.returns
  have hts := atoms_spec (ws := wsX8_isKept) B.pre
  have hown : s.vm.findClass RX8 = some m.cls := findClass_of_methodNamed B.named
  have hlocks := B.notSynchronized
  have hS : va_S (fun _ => False) s.heap s.heap [] := va_S.rf
  have hl := lv_entry ([.ref m0, .int v]) (n := 4) (Nat.le_of_ble_eq_true rfl)
  rw [lg_entry_eq]
  generalize (lg_sl ([.ref m0, .int v]) ++ List.replicate (4 - (lg_sl ([.ref m0, .int v])).length) Slot.unset).toArray = ls at hl ⊢
  have hl : lv_has ls 4 [(0, .ref m0), (1, .int v)] := hl
  have hiX8 : ∀ w ∈ wsX80, w ∈ wsX8_isKept := by decide +kernel
  have loop : ∀ (n : Nat), ∀ (i : Nat), i ≤ nW → nW + 1 ≤ i + n → ∀ (locs : List Loc), va_S (fun _ => False) s.heap s.heap locs → ∀ ls : Array Slot, lv_has ls 4 [(3, .int (nI i)), (2, .int (b2 (kpF σ v nW i))), (0, .ref m0), (1, .int v)] → W p l e (headSpec wsX8_isKept ({ frames := 2, cells := 0, slots := 0, locals := 45 })).room s m ([.ref m0, .int v] : List Value).toArray below meth c s.heap locs 0 0 (MQ below (Qpi s.heap (b2 (kept σ v nW))) ([.ref m0, .int v] : List Value).toArray s 0 0 (fun _ => False)) (F0 m 26 ls []) := by
    intro n
    induction n with
    | zero => intro i h1 h2; exact absurd h2 (by omega)
    | succ n ih =>
      intro i hi hn2 locs hS ls hl
      refine lv_iload_n hx hb dX8_isKept_26 rfl (lv_at hl 0 rfl) ?_
      refine lv_aload_n hx hb dX8_isKept_27 rfl (lv_at hl 2 rfl) ?_
      refine k_get (C := RX8) (T := TX8) (N := 22) (v := .int (σ 3 0)) hx hb hts hiX8 hown hK.1 hM.1 rfl 3 (by decide) (hts (.fieldLink RX8 67 "HouseWorkersModel" "workers" "I") (by decide +kernel)) (fun _ h9 => h9) rfl dX8_isKept_28 ?_
      refine lv_icmp_ge (tgt := 79) hx hb dX8_isKept_31 (by decide) (fun c31 => ?_) (fun c31 => ?_)
      · have c31 := Int32.not_lt.mpr c31
        rw [hW] at c31
        have hij : i = nW := Nat.le_antisymm (by omega) (Nat.le_of_not_lt (fun q => c31 (nI_lt q (by omega))))
        subst hij
        refine lv_iload_n hx hb dX8_isKept_79 rfl (lv_at hl 1 rfl) ?_
        exact k_retz hx hb hr hlocks (b2_nar _) ⟨rfl, rfl⟩ hS dX8_isKept_80
      · have c31 := Int32.not_le.mp c31
        rw [hW] at c31
        have hlt : i < nW := (nI_ltI (by omega) (by omega)).mp c31
        refine lv_iload_n hx hb dX8_isKept_34 rfl (lv_at hl 1 rfl) ?_
        refine lv_if_ne (tgt := 67) hx hb dX8_isKept_35 (by decide) (fun c35 => ?_) (fun c35 => ?_)
        · refine lv_iconst (v := 1) hx hb dX8_isKept_67 (by decide) ?_
          refine lv_goto (tgt := 72) hx hb dX8_isKept_68 (by decide) ?_
          refine lv_istore_n (lv' := [(2, .int 1), (3, .int (nI i)), (0, .ref m0), (1, .int v)]) hx hb dX8_isKept_72 rfl hl (by decide) rfl (fun ls hl => ?_)
          refine lv_iinc (v := nI (i + 1)) (lv' := [(3, .int (nI (i + 1))), (2, .int 1), (0, .ref m0), (1, .int v)]) hx hb dX8_isKept_73 hl (k := 1) rfl (by rw [← nI_1]; rfl) (by decide) rfl (fun ls hl => ?_)
          refine lv_goto (tgt := 26) hx hb dX8_isKept_76 (by decide) ?_
          exact ih (i + 1) (by omega) (by omega) locs hS ls (by rw [(b2_t (kpF_1 (b2_n c35)))]; exact lv_sub hl [0, 1, 2, 3] rfl)
        · refine lv_aload_n hx hb dX8_isKept_38 rfl (lv_at hl 2 rfl) ?_
          refine k_get (C := RX8) (T := TX8) (N := 22) (v := .ref (ad 4)) hx hb hts hiX8 hown hK.1 hM.1 rfl 4 (by decide) (hts (.fieldLink RX8 17 "HouseWorkersModel" "kind" "[I") (by decide +kernel)) (fun _ h9 => h9) rfl dX8_isKept_39 ?_
          refine lv_iload_n hx hb dX8_isKept_42 rfl (lv_at hl 0 rfl) ?_
          refine k_iald (n := 30) (f := (σ 4)) hx hb hK.1 0 (hM.2.1 4 rfl) rfl i rfl (by omega) (by decide) dX8_isKept_43 ?_
          refine lv_iconst (v := 3) hx hb dX8_isKept_44 (by decide) ?_
          refine lv_icmp_ne (tgt := 71) hx hb dX8_isKept_45 (by decide) (fun c45 => ?_) (fun c45 => ?_)
          · refine lv_iconst (v := 0) hx hb dX8_isKept_71 (by decide) ?_
            refine lv_istore_n (lv' := [(2, .int 0), (3, .int (nI i)), (0, .ref m0), (1, .int v)]) hx hb dX8_isKept_72 rfl hl (by decide) rfl (fun ls hl => ?_)
            refine lv_iinc (v := nI (i + 1)) (lv' := [(3, .int (nI (i + 1))), (2, .int 0), (0, .ref m0), (1, .int v)]) hx hb dX8_isKept_73 hl (k := 1) rfl (by rw [← nI_1]; rfl) (by decide) rfl (fun ls hl => ?_)
            refine lv_goto (tgt := 26) hx hb dX8_isKept_76 (by decide) ?_
            exact ih (i + 1) (by omega) (by omega) locs hS ls (by rw [(b2_f (kpF_s (b2_0 c35) (by simp [kp1, c45])))]; exact lv_sub hl [0, 1, 2, 3] rfl)
          · refine lv_aload_n hx hb dX8_isKept_48 rfl (lv_at hl 2 rfl) ?_
            refine k_get (C := RX8) (T := TX8) (N := 22) (v := .ref (ad 12)) hx hb hts hiX8 hown hK.1 hM.1 rfl 12 (by decide) (hts (.fieldLink RX8 41 "HouseWorkersModel" "end" "[I") (by decide +kernel)) (fun _ h9 => h9) rfl dX8_isKept_49 ?_
            refine lv_iload_n hx hb dX8_isKept_52 rfl (lv_at hl 0 rfl) ?_
            refine k_iald (n := 30) (f := (σ 12)) hx hb hK.1 0 (hM.2.1 12 rfl) rfl i rfl (by omega) (by decide) dX8_isKept_53 ?_
            refine lv_if_ne (tgt := 71) hx hb dX8_isKept_54 (by decide) (fun c54 => ?_) (fun c54 => ?_)
            · refine lv_iconst (v := 0) hx hb dX8_isKept_71 (by decide) ?_
              refine lv_istore_n (lv' := [(2, .int 0), (3, .int (nI i)), (0, .ref m0), (1, .int v)]) hx hb dX8_isKept_72 rfl hl (by decide) rfl (fun ls hl => ?_)
              refine lv_iinc (v := nI (i + 1)) (lv' := [(3, .int (nI (i + 1))), (2, .int 0), (0, .ref m0), (1, .int v)]) hx hb dX8_isKept_73 hl (k := 1) rfl (by rw [← nI_1]; rfl) (by decide) rfl (fun ls hl => ?_)
              refine lv_goto (tgt := 26) hx hb dX8_isKept_76 (by decide) ?_
              exact ih (i + 1) (by omega) (by omega) locs hS ls (by rw [(b2_f (kpF_s (b2_0 c35) (by simp [kp1, c45, c54])))]; exact lv_sub hl [0, 1, 2, 3] rfl)
            · refine lv_aload_n hx hb dX8_isKept_57 rfl (lv_at hl 2 rfl) ?_
              refine k_get (C := RX8) (T := TX8) (N := 22) (v := .ref (ad 11)) hx hb hts hiX8 hown hK.1 hM.1 rfl 11 (by decide) (hts (.fieldLink RX8 38 "HouseWorkersModel" "version" "[I") (by decide +kernel)) (fun _ h9 => h9) rfl dX8_isKept_58 ?_
              refine lv_iload_n hx hb dX8_isKept_61 rfl (lv_at hl 0 rfl) ?_
              refine k_iald (n := 30) (f := (σ 11)) hx hb hK.1 0 (hM.2.1 11 rfl) rfl i rfl (by omega) (by decide) dX8_isKept_62 ?_
              refine lv_iload_n hx hb dX8_isKept_63 rfl (lv_at hl 3 rfl) ?_
              refine lv_icmp_ge (tgt := 71) hx hb dX8_isKept_64 (by decide) (fun c64 => ?_) (fun c64 => ?_)
              · have c64 := Int32.not_lt.mpr c64
                refine lv_iconst (v := 0) hx hb dX8_isKept_71 (by decide) ?_
                refine lv_istore_n (lv' := [(2, .int 0), (3, .int (nI i)), (0, .ref m0), (1, .int v)]) hx hb dX8_isKept_72 rfl hl (by decide) rfl (fun ls hl => ?_)
                refine lv_iinc (v := nI (i + 1)) (lv' := [(3, .int (nI (i + 1))), (2, .int 0), (0, .ref m0), (1, .int v)]) hx hb dX8_isKept_73 hl (k := 1) rfl (by rw [← nI_1]; rfl) (by decide) rfl (fun ls hl => ?_)
                refine lv_goto (tgt := 26) hx hb dX8_isKept_76 (by decide) ?_
                exact ih (i + 1) (by omega) (by omega) locs hS ls (by rw [(b2_f (kpF_s (b2_0 c35) (by simp [kp1, c45, c54, c64])))]; exact lv_sub hl [0, 1, 2, 3] rfl)
              · have c64 := Int32.not_le.mp c64
                refine lv_iconst (v := 1) hx hb dX8_isKept_67 (by decide) ?_
                refine lv_goto (tgt := 72) hx hb dX8_isKept_68 (by decide) ?_
                refine lv_istore_n (lv' := [(2, .int 1), (3, .int (nI i)), (0, .ref m0), (1, .int v)]) hx hb dX8_isKept_72 rfl hl (by decide) rfl (fun ls hl => ?_)
                refine lv_iinc (v := nI (i + 1)) (lv' := [(3, .int (nI (i + 1))), (2, .int 1), (0, .ref m0), (1, .int v)]) hx hb dX8_isKept_73 hl (k := 1) rfl (by rw [← nI_1]; rfl) (by decide) rfl (fun ls hl => ?_)
                refine lv_goto (tgt := 26) hx hb dX8_isKept_76 (by decide) ?_
                exact ih (i + 1) (by omega) (by omega) locs hS ls (by rw [(b2_t (kpF_s (b2_0 c35) (by simp [kp1, c45, c54, c64])))]; exact lv_sub hl [0, 1, 2, 3] rfl)
  refine lv_iload_n hx hb dX8_isKept_0 rfl (lv_at hl 1 rfl) ?_
  refine lv_aload_n hx hb dX8_isKept_1 rfl (lv_at hl 0 rfl) ?_
  refine k_get (C := RX8) (T := TX8) (N := 22) (v := .int (σ 1 0)) hx hb hts hiX8 hown hK.1 hM.1 rfl 1 (by decide) (hts (.fieldLink RX8 13 "HouseWorkersModel" "versions" "I") (by decide +kernel)) (fun _ h9 => h9) rfl dX8_isKept_2 ?_
  refine lv_iconst (v := 1) hx hb dX8_isKept_5 (by decide) ?_
  refine lv_isub hx hb dX8_isKept_6 ?_
  refine lv_icmp_eq (tgt := 18) hx hb dX8_isKept_7 (by decide) (fun c7 => ?_) (fun c7 => ?_)
  · refine lv_iconst (v := 1) hx hb dX8_isKept_18 (by decide) ?_
    refine lv_goto (tgt := 23) hx hb dX8_isKept_19 (by decide) ?_
    refine lv_istore_n (lv' := [(2, .int 1), (0, .ref m0), (1, .int v)]) hx hb dX8_isKept_23 rfl hl (by decide) rfl (fun ls hl => ?_)
    refine lv_iconst (v := 0) hx hb dX8_isKept_24 (by decide) ?_
    refine lv_istore_n (lv' := [(3, .int 0), (2, .int 1), (0, .ref m0), (1, .int v)]) hx hb dX8_isKept_25 rfl hl (by decide) rfl (fun ls hl => ?_)
    exact loop (nW + 1) 0 (Nat.zero_le _) (by omega) _ hS ls (by rw [(b2_t (show kpF σ v nW 0 = true by simp [kpF, c7]))]; exact lv_sub hl [0, 1, 2, 3] rfl)
  · refine lv_aload_n hx hb dX8_isKept_10 rfl (lv_at hl 0 rfl) ?_
    refine lv_iload_n hx hb dX8_isKept_11 rfl (lv_at hl 1 rfl) ?_
    refine k_callpi (v := b2 (ipF σ v nW)) (va_runV (As := [.int v]) (rest := []) ⟨hx, hb, hml, hown, hts⟩ (c_X8_isPinned l _ m0 ad σ nW v hM hW hn) (cwV 1 hts gX8_isKept_X8_isPinned rfl rfl rfl (by decide +kernel) ⟨Nat.le_of_ble_eq_true rfl, Nat.le_of_ble_eq_true rfl⟩) (k_preV hK (k_recv hK.1 hM.1 rfl)) rfl rfl hl.1 rfl (lv_room (Nat.le_of_ble_eq_true rfl)) dX8_isKept_12 ⟨(Nat.zero_le _), (Nat.zero_le _)⟩) hS (fun locs hS => ?_)
    refine lv_if_eq (tgt := 22) hx hb dX8_isKept_15 (by decide) (fun c15 => ?_) (fun c15 => ?_)
    · refine lv_iconst (v := 0) hx hb dX8_isKept_22 (by decide) ?_
      refine lv_istore_n (lv' := [(2, .int 0), (0, .ref m0), (1, .int v)]) hx hb dX8_isKept_23 rfl hl (by decide) rfl (fun ls hl => ?_)
      refine lv_iconst (v := 0) hx hb dX8_isKept_24 (by decide) ?_
      refine lv_istore_n (lv' := [(3, .int 0), (2, .int 0), (0, .ref m0), (1, .int v)]) hx hb dX8_isKept_25 rfl hl (by decide) rfl (fun ls hl => ?_)
      exact loop (nW + 1) 0 (Nat.zero_le _) (by omega) _ hS ls (by rw [(b2_f (show kpF σ v nW 0 = false by simp [kpF, c7, b2_0 c15]))]; exact lv_sub hl [0, 1, 2, 3] rfl)
    · refine lv_iconst (v := 1) hx hb dX8_isKept_18 (by decide) ?_
      refine lv_goto (tgt := 23) hx hb dX8_isKept_19 (by decide) ?_
      refine lv_istore_n (lv' := [(2, .int 1), (0, .ref m0), (1, .int v)]) hx hb dX8_isKept_23 rfl hl (by decide) rfl (fun ls hl => ?_)
      refine lv_iconst (v := 0) hx hb dX8_isKept_24 (by decide) ?_
      refine lv_istore_n (lv' := [(3, .int 0), (2, .int 1), (0, .ref m0), (1, .int v)]) hx hb dX8_isKept_25 rfl hl (by decide) rfl (fun ls hl => ?_)
      exact loop (nW + 1) 0 (Nat.zero_le _) (by omega) _ hS ls (by rw [(b2_t (show kpF σ v nW 0 = true by simp [kpF, c7, b2_n c15]))]; exact lv_sub hl [0, 1, 2, 3] rfl)
end
section
theorem blk_s {σ : Sg} {nv j c : Nat} {x : Int32} (hx : x = (if σ 4 j = 1 then σ 0 (16 * nv - 16 + c) else 0) + σ 14 (16 * j + c)) (hv : 1 ≤ nv) : u2 (blk σ nv j c) 0 (16 * nv + c) x = blk σ nv j (c + 1) := by
  funext k i
  rw [u2_if]
  unfold blk
  by_cases h1 : k = 0
  · subst h1
    by_cases h2 : i = 16 * nv + c
    · subst h2
      rw [if_pos ⟨rfl, rfl⟩, if_pos ⟨rfl, by omega, by omega⟩, hx, show 16 * nv + c - 16 = 16 * nv - 16 + c by omega, show 16 * nv + c - 16 * nv = c by omega]
    · rw [if_neg (fun q => h2 q.2)]
      by_cases h3 : 16 * nv ≤ i ∧ i < 16 * nv + c
      · rw [if_pos (show 0 = 0 ∧ 16 * nv ≤ i ∧ i < 16 * nv + c from ⟨rfl, h3⟩), if_pos (show 0 = 0 ∧ 16 * nv ≤ i ∧ i < 16 * nv + (c + 1) from ⟨rfl, h3.1, by omega⟩)]
      · rw [if_neg (show ¬ (0 = 0 ∧ 16 * nv ≤ i ∧ i < 16 * nv + c) from fun q => h3 q.2), if_neg (show ¬ (0 = 0 ∧ 16 * nv ≤ i ∧ i < 16 * nv + (c + 1)) from fun q => h3 ⟨q.2.1, by omega⟩)]
  · rw [if_neg (fun q => h1 q.1), if_neg (fun q => h1 q.1), if_neg (fun q => h1 q.1)]
theorem blk_0 (σ : Sg) (nv j : Nat) : blk σ nv j 0 = σ := by
  funext k i
  unfold blk
  rw [if_neg (fun q => by omega)]
theorem blk_k (σ : Sg) (nv j c : Nat) {k : Nat} (h : k ≠ 0) (i : Nat) : blk σ nv j c k i = σ k i := by unfold blk; rw [if_neg (fun q => h q.1)]
theorem blk_i (σ : Sg) (nv j c : Nat) {i : Nat} (h : i < 16 * nv) : blk σ nv j c 0 i = σ 0 i := by unfold blk; rw [if_neg (fun q => by omega)]
theorem tk_s {σ : Sg} {vv j c : Nat} {x : Int32} (hx : x = σ 0 (16 * vv + c)) : u2 (tk σ vv j c) 14 (16 * j + c) x = tk σ vv j (c + 1) := by
  funext k i
  rw [u2_if]
  unfold tk
  by_cases h1 : k = 14
  · subst h1
    by_cases h2 : i = 16 * j + c
    · subst h2
      rw [if_pos ⟨rfl, rfl⟩, if_pos ⟨rfl, by omega, by omega⟩, hx, show 16 * j + c - 16 * j = c by omega]
    · rw [if_neg (fun q => h2 q.2)]
      by_cases h3 : 16 * j ≤ i ∧ i < 16 * j + c
      · rw [if_pos ⟨rfl, h3⟩, if_pos ⟨rfl, h3.1, by omega⟩]
      · rw [if_neg (fun q => h3 q.2), if_neg (fun q => h3 ⟨q.2.1, by omega⟩)]
  · rw [if_neg (fun q => h1 q.1), if_neg (fun q => h1 q.1), if_neg (fun q => h1 q.1)]
theorem tk_0 (σ : Sg) (vv j : Nat) : tk σ vv j 0 = σ := by
  funext k i
  unfold tk
  rw [if_neg (fun q => by omega)]
theorem tk_k (σ : Sg) (vv j c : Nat) {k : Nat} (h : k ≠ 14) (i : Nat) : tk σ vv j c k i = σ k i := by unfold tk; rw [if_neg (fun q => h q.1)]
theorem bfr_s {σ : Sg} {j c : Nat} {x : Int32} (hx : x = σ 14 (16 * j + c)) : u2 (bfr σ j c) 15 c x = bfr σ j (c + 1) := by
  funext k i
  rw [u2_if]
  unfold bfr
  by_cases h1 : k = 15
  · subst h1
    by_cases h2 : i = c
    · subst h2
      rw [if_pos ⟨rfl, rfl⟩, if_pos ⟨rfl, by omega⟩, hx]
    · rw [if_neg (fun q => h2 q.2)]
      by_cases h3 : i < c
      · rw [if_pos ⟨rfl, h3⟩, if_pos ⟨rfl, by omega⟩]
      · rw [if_neg (fun q => h3 q.2), if_neg (fun q => h3 (by omega))]
  · rw [if_neg (fun q => h1 q.1), if_neg (fun q => h1 q.1), if_neg (fun q => h1 q.1)]
theorem bfr_0 (σ : Sg) (j : Nat) : bfr σ j 0 = σ := by
  funext k i
  unfold bfr
  rw [if_neg (fun q => by omega)]
theorem bfr_k (σ : Sg) (j c : Nat) {k : Nat} (h : k ≠ 15) (i : Nat) : bfr σ j c k i = σ k i := by unfold bfr; rw [if_neg (fun q => h q.1)]
theorem spr_s {σ : Sg} {j c : Nat} {x : Int32} (hx : x = rnd (σ 15) c) : u2 (spr σ j c) 14 (16 * j + c) x = spr σ j (c + 1) := by
  funext k i
  rw [u2_if]
  unfold spr
  by_cases h1 : k = 14
  · subst h1
    by_cases h2 : i = 16 * j + c
    · subst h2
      rw [if_pos ⟨rfl, rfl⟩, if_pos ⟨rfl, by omega, by omega⟩, hx, show 16 * j + c - 16 * j = c by omega]
    · rw [if_neg (fun q => h2 q.2)]
      by_cases h3 : 16 * j ≤ i ∧ i < 16 * j + c
      · rw [if_pos ⟨rfl, h3⟩, if_pos ⟨rfl, h3.1, by omega⟩]
      · rw [if_neg (fun q => h3 q.2), if_neg (fun q => h3 ⟨q.2.1, by omega⟩)]
  · rw [if_neg (fun q => h1 q.1), if_neg (fun q => h1 q.1), if_neg (fun q => h1 q.1)]
theorem spr_0 (σ : Sg) (j : Nat) : spr σ j 0 = σ := by
  funext k i
  unfold spr
  rw [if_neg (fun q => by omega)]
theorem spr_k (σ : Sg) (j c : Nat) {k : Nat} (h : k ≠ 14) (i : Nat) : spr σ j c k i = σ k i := by unfold spr; rw [if_neg (fun q => h q.1)]
theorem ix16 (a c : Nat) : (16 : Int32) * nI a + nI c = nI (16 * a + c) := by
  rw [show (16 : Int32) = nI 16 from rfl, pk_mul, nI_add]
set_option maxHeartbeats 4000000 in
set_option maxRecDepth 100000 in
theorem c_X8_finish (l : Launch) {D : va_G} {cI cZ cO : ClassId} {mi : Nat} (H : Heap) (m0 : Nat) (ad : Nat → Nat) (σ : Sg) (e0 j : Nat) (how : Int32) (hM : MD D cI cZ m0 ad σ H) (hj : j < 30) (he : σ 16 0 = nI e0) (he2 : e0 < 30) : Met l yX8_finish wsX8_finish ({ frames := 0, cells := 0, slots := 0, locals := 0 }) (Pk D cI cZ cO mi [.ref m0, .int (nI j), .int how] H) (Qkv (fun H1 => MD D cI cZ m0 ad (fin σ e0 j how) H1) (Am m0 ad)) 0 0 (Am m0 ad) := by
  refine Met.ofW (cc := cX8_finish) (maxL := 3) (ret := none) (by decide) rfl ?_
  intro p e s m args below meth c s₁ B hml hv
  obtain ⟨rfl, rfl, hK⟩ := hv
  have hx := B.exec
  have hb := B.bytes
  have hr := B.returns
  have hts := atoms_spec (ws := wsX8_finish) B.pre
  have hown : s.vm.findClass RX8 = some m.cls := findClass_of_methodNamed B.named
  have hlocks := B.notSynchronized
  have hS : va_S (Am m0 ad) s.heap s.heap [] := va_S.rf
  have hl := lv_entry ([.ref m0, .int (nI j), .int how]) (n := 3) (Nat.le_of_ble_eq_true rfl)
  rw [lg_entry_eq]
  generalize (lg_sl ([.ref m0, .int (nI j), .int how]) ++ List.replicate (3 - (lg_sl ([.ref m0, .int (nI j), .int how])).length) Slot.unset).toArray = ls at hl ⊢
  have hl : lv_has ls 3 [(0, .ref m0), (1, .int (nI j)), (2, .int how)] := hl
  have hiX8 : ∀ w ∈ wsX80, w ∈ wsX8_finish := by decide +kernel
  refine lv_aload_n hx hb dX8_finish_0 rfl (lv_at hl 0 rfl) ?_
  refine k_get (C := RX8) (T := TX8) (N := 22) (v := .ref (ad 12)) hx hb hts hiX8 hown hK.1 hM.1 rfl 12 (by decide) (hts (.fieldLink RX8 41 "HouseWorkersModel" "end" "[I") (by decide +kernel)) (fun _ h9 => h9) rfl dX8_finish_1 ?_
  refine lv_iload_n hx hb dX8_finish_4 rfl (lv_at hl 1 rfl) ?_
  refine lv_iload_n hx hb dX8_finish_5 rfl (lv_at hl 2 rfl) ?_
  refine k_iast (A := (Am m0 ad)) (n := 30) (f := (σ 12)) (x := how) hx hb hK.1 0 (hM.2.1 12 rfl) (Am.arr 12 rfl) hS rfl j rfl (by omega) (by decide) dX8_finish_6 (fun H1 locs hO2 hz3 hq4 hS => ?_)
  have hM := MD.arr 12 (i := j) (v := how) hM rfl hO2 hq4
  refine lv_aload_n hx hb dX8_finish_7 rfl (lv_at hl 0 rfl) ?_
  refine k_get (C := RX8) (T := TX8) (N := 22) (v := .ref (ad 17)) hx hb hts hiX8 hown hK.1 hM.1 rfl 17 (by decide) (hts (.fieldLink RX8 54 "HouseWorkersModel" "endWho" "[I") (by decide +kernel)) (fun _ h9 => h9) rfl dX8_finish_8 ?_
  refine lv_aload_n hx hb dX8_finish_11 rfl (lv_at hl 0 rfl) ?_
  refine k_get (C := RX8) (T := TX8) (N := 22) (v := .int ((u2 σ 12 j how) 16 0)) hx hb hts hiX8 hown hK.1 hM.1 rfl 16 (by decide) (hts (.fieldLink RX8 82 "HouseWorkersModel" "ends" "I") (by decide +kernel)) (fun _ h9 => h9) rfl dX8_finish_12 ?_
  refine lv_iload_n hx hb dX8_finish_15 rfl (lv_at hl 1 rfl) ?_
  refine k_iast (A := (Am m0 ad)) (n := 30) (f := ((u2 σ 12 j how) 17)) (x := (nI j)) hx hb hK.1 0 (hM.2.1 17 rfl) (Am.arr 17 rfl) hS rfl e0 he he2 (by decide) dX8_finish_16 (fun H5 locs hO6 hz7 hq8 hS => ?_)
  have hM := MD.arr 17 (i := e0) (v := (nI j)) hM rfl hO6 hq8
  refine lv_aload_n hx hb dX8_finish_17 rfl (lv_at hl 0 rfl) ?_
  refine k_get (C := RX8) (T := TX8) (N := 22) (v := .ref (ad 18)) hx hb hts hiX8 hown hK.1 hM.1 rfl 18 (by decide) (hts (.fieldLink RX8 57 "HouseWorkersModel" "endHow" "[I") (by decide +kernel)) (fun _ h9 => h9) rfl dX8_finish_18 ?_
  refine lv_aload_n hx hb dX8_finish_21 rfl (lv_at hl 0 rfl) ?_
  refine k_get (C := RX8) (T := TX8) (N := 22) (v := .int ((u2 (u2 σ 12 j how) 17 e0 (nI j)) 16 0)) hx hb hts hiX8 hown hK.1 hM.1 rfl 16 (by decide) (hts (.fieldLink RX8 82 "HouseWorkersModel" "ends" "I") (by decide +kernel)) (fun _ h9 => h9) rfl dX8_finish_22 ?_
  refine lv_iload_n hx hb dX8_finish_25 rfl (lv_at hl 2 rfl) ?_
  refine k_iast (A := (Am m0 ad)) (n := 30) (f := ((u2 (u2 σ 12 j how) 17 e0 (nI j)) 18)) (x := how) hx hb hK.1 0 (hM.2.1 18 rfl) (Am.arr 18 rfl) hS rfl e0 he he2 (by decide) dX8_finish_26 (fun H9 locs hO10 hz11 hq12 hS => ?_)
  have hM := MD.arr 18 (i := e0) (v := how) hM rfl hO10 hq12
  refine lv_aload_n hx hb dX8_finish_27 rfl (lv_at hl 0 rfl) ?_
  refine k_get (C := RX8) (T := TX8) (N := 22) (v := .ref (ad 19)) hx hb hts hiX8 hown hK.1 hM.1 rfl 19 (by decide) (hts (.fieldLink RX8 60 "HouseWorkersModel" "endWhen" "[I") (by decide +kernel)) (fun _ h9 => h9) rfl dX8_finish_28 ?_
  refine lv_aload_n hx hb dX8_finish_31 rfl (lv_at hl 0 rfl) ?_
  refine k_get (C := RX8) (T := TX8) (N := 22) (v := .int ((u2 (u2 (u2 σ 12 j how) 17 e0 (nI j)) 18 e0 how) 16 0)) hx hb hts hiX8 hown hK.1 hM.1 rfl 16 (by decide) (hts (.fieldLink RX8 82 "HouseWorkersModel" "ends" "I") (by decide +kernel)) (fun _ h9 => h9) rfl dX8_finish_32 ?_
  refine lv_aload_n hx hb dX8_finish_35 rfl (lv_at hl 0 rfl) ?_
  refine k_get (C := RX8) (T := TX8) (N := 22) (v := .int ((u2 (u2 (u2 σ 12 j how) 17 e0 (nI j)) 18 e0 how) 20 0)) hx hb hts hiX8 hown hK.1 hM.1 rfl 20 (by decide) (hts (.fieldLink RX8 85 "HouseWorkersModel" "did" "I") (by decide +kernel)) (fun _ h9 => h9) rfl dX8_finish_36 ?_
  refine k_iast (A := (Am m0 ad)) (n := 30) (f := ((u2 (u2 (u2 σ 12 j how) 17 e0 (nI j)) 18 e0 how) 19)) (x := ((u2 (u2 (u2 σ 12 j how) 17 e0 (nI j)) 18 e0 how) 20 0)) hx hb hK.1 0 (hM.2.1 19 rfl) (Am.arr 19 rfl) hS rfl e0 he he2 (by decide) dX8_finish_39 (fun H13 locs hO14 hz15 hq16 hS => ?_)
  have hM := MD.arr 19 (i := e0) (v := ((u2 (u2 (u2 σ 12 j how) 17 e0 (nI j)) 18 e0 how) 20 0)) hM rfl hO14 hq16
  refine lv_aload_n hx hb dX8_finish_40 rfl (lv_at hl 0 rfl) ?_
  refine lv_dup hx hb dX8_finish_41 rfl ?_
  refine k_get (C := RX8) (T := TX8) (N := 22) (v := .int ((u2 (u2 (u2 (u2 σ 12 j how) 17 e0 (nI j)) 18 e0 how) 19 e0 ((u2 (u2 (u2 σ 12 j how) 17 e0 (nI j)) 18 e0 how) 20 0)) 16 0)) hx hb hts hiX8 hown hK.1 hM.1 rfl 16 (by decide) (hts (.fieldLink RX8 82 "HouseWorkersModel" "ends" "I") (by decide +kernel)) (fun _ h9 => h9) rfl dX8_finish_42 ?_
  refine lv_iconst (v := 1) hx hb dX8_finish_45 (by decide) ?_
  refine lv_iadd hx hb dX8_finish_46 ?_
  refine k_put (A := (Am m0 ad)) (C := RX8) (T := TX8) (N := 22) (ty := .int) (v := .int (((u2 (u2 (u2 (u2 σ 12 j how) 17 e0 (nI j)) 18 e0 how) 19 e0 ((u2 (u2 (u2 σ 12 j how) 17 e0 (nI j)) 18 e0 how) 20 0)) 16 0) + 1)) hx hb hts hiX8 tyX8 tyX8_ok nmX8 hown hK.1 hM.1 Am.ob hS rfl 16 (by decide) (hts (.fieldLink RX8 82 "HouseWorkersModel" "ends" "I") (by decide +kernel)) (fun _ h9 => h9) rfl (by decide +kernel) rfl rfl (Nat.le_of_ble_eq_true rfl) dX8_finish_47 (fun H17 locs hO18 hz19 hq20 hS => ?_)
  have hM := MD.fld 16 (v := (((u2 (u2 (u2 (u2 σ 12 j how) 17 e0 (nI j)) 18 e0 how) 19 e0 ((u2 (u2 (u2 σ 12 j how) 17 e0 (nI j)) 18 e0 how) 20 0)) 16 0) + 1)) hM rfl hO18 hq20
  exact k_retv hx hb hr hlocks hM hS dX8_finish_50
set_option maxHeartbeats 4000000 in
set_option maxRecDepth 100000 in
theorem c_X8_commit (l : Launch) {D : va_G} {cI cZ cO : ClassId} {mi : Nat} (H : Heap) (m0 : Nat) (ad : Nat → Nat) (σ : Sg) (nv j : Nat) (hM : MD D cI cZ m0 ad σ H) (hj : j < 30) (hv : σ 1 0 = nI nv) (hv1 : 1 ≤ nv) (hv2 : nv ≤ 39) : Met l yX8_commit wsX8_commit ({ frames := 0, cells := 0, slots := 0, locals := 0 }) (Pk D cI cZ cO mi [.ref m0, .int (nI j)] H) (Qkv (fun H1 => MD D cI cZ m0 ad (cmt σ nv j) H1) (Am m0 ad)) 0 0 (Am m0 ad) := by
  refine Met.ofW (cc := cX8_commit) (maxL := 4) (ret := none) (by decide) rfl ?_
  intro p e s m args below meth c s₁ B hml hv
  obtain ⟨rfl, rfl, hK⟩ := hv
  have hx := B.exec
  have hb := B.bytes
  have hr := B.returns
  have hts := atoms_spec (ws := wsX8_commit) B.pre
  have hown : s.vm.findClass RX8 = some m.cls := findClass_of_methodNamed B.named
  have hlocks := B.notSynchronized
  have hS : va_S (Am m0 ad) s.heap s.heap [] := va_S.rf
  have hl := lv_entry ([.ref m0, .int (nI j)]) (n := 4) (Nat.le_of_ble_eq_true rfl)
  rw [lg_entry_eq]
  generalize (lg_sl ([.ref m0, .int (nI j)]) ++ List.replicate (4 - (lg_sl ([.ref m0, .int (nI j)])).length) Slot.unset).toArray = ls at hl ⊢
  have hl : lv_has ls 4 [(0, .ref m0), (1, .int (nI j))] := hl
  have hiX8 : ∀ w ∈ wsX80, w ∈ wsX8_commit := by decide +kernel
  refine lv_bipush (v := 16) hx hb dX8_commit_0 (by decide) ?_
  refine lv_aload_n hx hb dX8_commit_2 rfl (lv_at hl 0 rfl) ?_
  refine k_get (C := RX8) (T := TX8) (N := 22) (v := .int (σ 1 0)) hx hb hts hiX8 hown hK.1 hM.1 rfl 1 (by decide) (hts (.fieldLink RX8 13 "HouseWorkersModel" "versions" "I") (by decide +kernel)) (fun _ h9 => h9) rfl dX8_commit_3 ?_
  refine lv_imul hx hb dX8_commit_6 ?_
  rw [show (16 : Int32) * σ 1 0 = nI (16 * nv) by rw [hv]; exact pk_mul 16 nv]
  refine lv_istore_n (lv' := [(2, .int (nI (16 * nv))), (0, .ref m0), (1, .int (nI j))]) hx hb dX8_commit_7 rfl hl (by decide) rfl (fun ls hl => ?_)
  refine lv_iconst (v := 0) hx hb dX8_commit_8 (by decide) ?_
  refine lv_istore_n (lv' := [(3, .int 0), (2, .int (nI (16 * nv))), (0, .ref m0), (1, .int (nI j))]) hx hb dX8_commit_9 rfl hl (by decide) rfl (fun ls hl => ?_)
  have loop : ∀ (n : Nat), ∀ (i : Nat), i ≤ 16 → 17 ≤ i + n → ∀ (H : Heap) (locs : List Loc), MD D cI cZ m0 ad (blk σ nv j i) H → va_S (Am m0 ad) s.heap H locs → ∀ ls : Array Slot, lv_has ls 4 [(3, .int (nI i)), (2, .int (nI (16 * nv))), (0, .ref m0), (1, .int (nI j))] → W p l e (headSpec wsX8_commit ({ frames := 0, cells := 0, slots := 0, locals := 0 })).room s m ([.ref m0, .int (nI j)] : List Value).toArray below meth c H locs 0 0 (MQ below (Qkv (fun H1 => MD D cI cZ m0 ad (cmt σ nv j) H1) (Am m0 ad)) ([.ref m0, .int (nI j)] : List Value).toArray s 0 0 (Am m0 ad)) (F0 m 10 ls []) := by
    intro n
    induction n with
    | zero => intro i h1 h2; exact absurd h2 (by omega)
    | succ n ih =>
      intro i hi hn H locs hM hS ls hl
      refine lv_iload_n hx hb dX8_commit_10 rfl (lv_at hl 0 rfl) ?_
      refine lv_bipush (v := 16) hx hb dX8_commit_11 (by decide) ?_
      refine lv_icmp_ge (tgt := 67) hx hb dX8_commit_13 (by decide) (fun c13 => ?_) (fun c13 => ?_)
      · have c13 := Int32.not_lt.mpr c13
        have c13 : ¬ nI i < nI 16 := c13
        have hij : i = 16 := Nat.le_antisymm (by omega) (Nat.le_of_not_lt (fun q => c13 (nI_lt q (by omega))))
        subst hij
        refine lv_aload_n hx hb dX8_commit_67 rfl (lv_at hl 2 rfl) ?_
        refine k_get (C := RX8) (T := TX8) (N := 22) (v := .ref (ad 11)) hx hb hts hiX8 hown hK.1 hM.1 rfl 11 (by decide) (hts (.fieldLink RX8 38 "HouseWorkersModel" "version" "[I") (by decide +kernel)) (fun _ h9 => h9) rfl dX8_commit_68 ?_
        refine lv_iload_n hx hb dX8_commit_71 rfl (lv_at hl 3 rfl) ?_
        refine lv_aload_n hx hb dX8_commit_72 rfl (lv_at hl 2 rfl) ?_
        refine k_get (C := RX8) (T := TX8) (N := 22) (v := .int ((blk σ nv j 16) 1 0)) hx hb hts hiX8 hown hK.1 hM.1 rfl 1 (by decide) (hts (.fieldLink RX8 13 "HouseWorkersModel" "versions" "I") (by decide +kernel)) (fun _ h9 => h9) rfl dX8_commit_73 ?_
        refine k_iast (A := (Am m0 ad)) (n := 30) (f := ((blk σ nv j 16) 11)) (x := ((blk σ nv j 16) 1 0)) hx hb hK.1 0 (hM.2.1 11 rfl) (Am.arr 11 rfl) hS rfl j rfl (by omega) (by decide) dX8_commit_76 (fun H1 locs hO2 hz3 hq4 hS => ?_)
        have hM := MD.arr 11 (i := j) (v := ((blk σ nv j 16) 1 0)) hM rfl hO2 hq4
        refine lv_aload_n hx hb dX8_commit_77 rfl (lv_at hl 2 rfl) ?_
        refine lv_dup hx hb dX8_commit_78 rfl ?_
        refine k_get (C := RX8) (T := TX8) (N := 22) (v := .int ((u2 (blk σ nv j 16) 11 j ((blk σ nv j 16) 1 0)) 1 0)) hx hb hts hiX8 hown hK.1 hM.1 rfl 1 (by decide) (hts (.fieldLink RX8 13 "HouseWorkersModel" "versions" "I") (by decide +kernel)) (fun _ h9 => h9) rfl dX8_commit_79 ?_
        refine lv_iconst (v := 1) hx hb dX8_commit_82 (by decide) ?_
        refine lv_iadd hx hb dX8_commit_83 ?_
        refine k_put (A := (Am m0 ad)) (C := RX8) (T := TX8) (N := 22) (ty := .int) (v := .int (((u2 (blk σ nv j 16) 11 j ((blk σ nv j 16) 1 0)) 1 0) + 1)) hx hb hts hiX8 tyX8 tyX8_ok nmX8 hown hK.1 hM.1 Am.ob hS rfl 1 (by decide) (hts (.fieldLink RX8 13 "HouseWorkersModel" "versions" "I") (by decide +kernel)) (fun _ h9 => h9) rfl (by decide +kernel) rfl rfl (Nat.le_of_ble_eq_true rfl) dX8_commit_84 (fun H5 locs hO6 hz7 hq8 hS => ?_)
        have hM := MD.fld 1 (v := (((u2 (blk σ nv j 16) 11 j ((blk σ nv j 16) 1 0)) 1 0) + 1)) hM rfl hO6 hq8
        exact k_retv hx hb hr hlocks hM hS dX8_commit_87
      · have c13 := Int32.not_le.mp c13
        have hlt : i < 16 := (nI_ltI (by omega) (by omega)).mp c13
        have hlt2 : 16 * nv - 16 + i < 16 * nv := by omega
        refine lv_aload_n hx hb dX8_commit_16 rfl (lv_at hl 2 rfl) ?_
        refine k_get (C := RX8) (T := TX8) (N := 22) (v := .ref (ad 0)) hx hb hts hiX8 hown hK.1 hM.1 rfl 0 (by decide) (hts (.fieldLink RX8 7 "HouseWorkersModel" "cells" "[I") (by decide +kernel)) (fun _ h9 => h9) rfl dX8_commit_17 ?_
        refine lv_iload_n hx hb dX8_commit_20 rfl (lv_at hl 1 rfl) ?_
        refine lv_iload_n hx hb dX8_commit_21 rfl (lv_at hl 0 rfl) ?_
        refine lv_iadd hx hb dX8_commit_22 ?_
        refine lv_aload_n hx hb dX8_commit_23 rfl (lv_at hl 2 rfl) ?_
        refine k_get (C := RX8) (T := TX8) (N := 22) (v := .ref (ad 4)) hx hb hts hiX8 hown hK.1 hM.1 rfl 4 (by decide) (hts (.fieldLink RX8 17 "HouseWorkersModel" "kind" "[I") (by decide +kernel)) (fun _ h9 => h9) rfl dX8_commit_24 ?_
        refine lv_iload_n hx hb dX8_commit_27 rfl (lv_at hl 3 rfl) ?_
        refine k_iald (n := 30) (f := ((blk σ nv j i) 4)) hx hb hK.1 0 (hM.2.1 4 rfl) rfl j rfl (by omega) (by decide) dX8_commit_28 ?_
        refine lv_iconst (v := 1) hx hb dX8_commit_29 (by decide) ?_
        refine lv_icmp_ne (tgt := 47) hx hb dX8_commit_30 (by decide) (fun c30 => ?_) (fun c30 => ?_)
        · have c30 : ¬ σ 4 j = 1 := fun q => c30 ((blk_k σ nv j i (by decide) j).trans q)
          refine lv_iconst (v := 0) hx hb dX8_commit_47 (by decide) ?_
          refine lv_aload_n hx hb dX8_commit_48 rfl (lv_at hl 2 rfl) ?_
          refine k_get (C := RX8) (T := TX8) (N := 22) (v := .ref (ad 14)) hx hb hts hiX8 hown hK.1 hM.1 rfl 14 (by decide) (hts (.fieldLink RX8 48 "HouseWorkersModel" "draft" "[I") (by decide +kernel)) (fun _ h9 => h9) rfl dX8_commit_49 ?_
          refine lv_bipush (v := 16) hx hb dX8_commit_52 (by decide) ?_
          refine lv_iload_n hx hb dX8_commit_54 rfl (lv_at hl 3 rfl) ?_
          refine lv_imul hx hb dX8_commit_55 ?_
          refine lv_iload_n hx hb dX8_commit_56 rfl (lv_at hl 0 rfl) ?_
          refine lv_iadd hx hb dX8_commit_57 ?_
          refine k_iald (n := 480) (f := ((blk σ nv j i) 14)) hx hb hK.1 0 (hM.2.1 14 rfl) rfl (16 * j + i) (ix16 _ _) (by omega) (by decide) dX8_commit_58 ?_
          refine lv_iadd hx hb dX8_commit_59 ?_
          refine k_iast (A := (Am m0 ad)) (n := 640) (f := ((blk σ nv j i) 0)) (x := (0 + ((blk σ nv j i) 14 (16 * j + i)))) hx hb hK.1 0 (hM.2.1 0 rfl) (Am.arr 0 rfl) hS rfl (16 * nv + i) (nI_add _ _) (by omega) (by decide) dX8_commit_60 (fun H9 locs hO10 hz11 hq12 hS => ?_)
          have hM := MD.arr 0 (i := 16 * nv + i) (v := (0 + ((blk σ nv j i) 14 (16 * j + i)))) hM rfl hO10 hq12
          refine lv_iinc (v := nI (i + 1)) (lv' := [(3, .int (nI (i + 1))), (2, .int (nI (16 * nv))), (0, .ref m0), (1, .int (nI j))]) hx hb dX8_commit_61 hl (k := 0) rfl (by rw [← nI_1]; rfl) (by decide) rfl (fun ls hl => ?_)
          refine lv_goto (tgt := 10) hx hb dX8_commit_64 (by decide) ?_
          exact ih (i + 1) (by omega) (by omega) _ locs (hM.eq (blk_s (by simp [blk_k, blk_i, hlt2, c30]) hv1)) hS ls (lv_sub hl [0, 1, 2, 3] rfl)
        · have c30 : σ 4 j = 1 := (blk_k σ nv j i (by decide) j).symm.trans c30
          refine lv_aload_n hx hb dX8_commit_33 rfl (lv_at hl 2 rfl) ?_
          refine k_get (C := RX8) (T := TX8) (N := 22) (v := .ref (ad 0)) hx hb hts hiX8 hown hK.1 hM.1 rfl 0 (by decide) (hts (.fieldLink RX8 7 "HouseWorkersModel" "cells" "[I") (by decide +kernel)) (fun _ h9 => h9) rfl dX8_commit_34 ?_
          refine lv_iload_n hx hb dX8_commit_37 rfl (lv_at hl 1 rfl) ?_
          refine lv_bipush (v := 16) hx hb dX8_commit_38 (by decide) ?_
          refine lv_isub hx hb dX8_commit_40 ?_
          refine lv_iload_n hx hb dX8_commit_41 rfl (lv_at hl 0 rfl) ?_
          refine lv_iadd hx hb dX8_commit_42 ?_
          refine k_iald (n := 640) (f := ((blk σ nv j i) 0)) hx hb hK.1 0 (hM.2.1 0 rfl) rfl (16 * nv - 16 + i) (by rw [show (16 : Int32) = nI 16 from rfl, pk_sub (by omega), nI_add]) (by omega) (by decide) dX8_commit_43 ?_
          refine lv_goto (tgt := 48) hx hb dX8_commit_44 (by decide) ?_
          refine lv_aload_n hx hb dX8_commit_48 rfl (lv_at hl 2 rfl) ?_
          refine k_get (C := RX8) (T := TX8) (N := 22) (v := .ref (ad 14)) hx hb hts hiX8 hown hK.1 hM.1 rfl 14 (by decide) (hts (.fieldLink RX8 48 "HouseWorkersModel" "draft" "[I") (by decide +kernel)) (fun _ h9 => h9) rfl dX8_commit_49 ?_
          refine lv_bipush (v := 16) hx hb dX8_commit_52 (by decide) ?_
          refine lv_iload_n hx hb dX8_commit_54 rfl (lv_at hl 3 rfl) ?_
          refine lv_imul hx hb dX8_commit_55 ?_
          refine lv_iload_n hx hb dX8_commit_56 rfl (lv_at hl 0 rfl) ?_
          refine lv_iadd hx hb dX8_commit_57 ?_
          refine k_iald (n := 480) (f := ((blk σ nv j i) 14)) hx hb hK.1 0 (hM.2.1 14 rfl) rfl (16 * j + i) (ix16 _ _) (by omega) (by decide) dX8_commit_58 ?_
          refine lv_iadd hx hb dX8_commit_59 ?_
          refine k_iast (A := (Am m0 ad)) (n := 640) (f := ((blk σ nv j i) 0)) (x := (((blk σ nv j i) 0 (16 * nv - 16 + i)) + ((blk σ nv j i) 14 (16 * j + i)))) hx hb hK.1 0 (hM.2.1 0 rfl) (Am.arr 0 rfl) hS rfl (16 * nv + i) (nI_add _ _) (by omega) (by decide) dX8_commit_60 (fun H13 locs hO14 hz15 hq16 hS => ?_)
          have hM := MD.arr 0 (i := 16 * nv + i) (v := (((blk σ nv j i) 0 (16 * nv - 16 + i)) + ((blk σ nv j i) 14 (16 * j + i)))) hM rfl hO14 hq16
          refine lv_iinc (v := nI (i + 1)) (lv' := [(3, .int (nI (i + 1))), (2, .int (nI (16 * nv))), (0, .ref m0), (1, .int (nI j))]) hx hb dX8_commit_61 hl (k := 0) rfl (by rw [← nI_1]; rfl) (by decide) rfl (fun ls hl => ?_)
          refine lv_goto (tgt := 10) hx hb dX8_commit_64 (by decide) ?_
          exact ih (i + 1) (by omega) (by omega) _ locs (hM.eq (blk_s (by simp [blk_k, blk_i, hlt2, c30]) hv1)) hS ls (lv_sub hl [0, 1, 2, 3] rfl)
  exact loop 17 0 (Nat.zero_le _) (by omega) _ _ (hM.eq (blk_0 σ nv j).symm) hS ls (lv_sub hl [0, 1, 2, 3] rfl)
set_option maxHeartbeats 4000000 in
set_option maxRecDepth 100000 in
theorem c_X8_round (l : Launch) {D : va_G} {cI cZ cO : ClassId} {mi : Nat} (H : Heap) (m0 : Nat) (ad : Nat → Nat) (σ : Sg) (nv j : Nat) (hM : MD D cI cZ m0 ad σ H) (hj : j < 30) (hv : σ 1 0 = nI nv) (hv1 : 1 ≤ nv) (hv2 : nv ≤ 39) : Met l yX8_round wsX8_round ({ frames := 0, cells := 0, slots := 0, locals := 0 }) (Pk D cI cZ cO mi [.ref m0, .int (nI j)] H) (Qkv (fun H1 => MD D cI cZ m0 ad (rd σ nv j) H1) (Am m0 ad)) 0 0 (Am m0 ad) := by
  refine Met.ofW (cc := cX8_round) (maxL := 4) (ret := none) (by decide) rfl ?_
  intro p e s m args below meth c s₁ B hml hv
  obtain ⟨rfl, rfl, hK⟩ := hv
  have hx := B.exec
  have hb := B.bytes
  have hr := B.returns
  have hts := atoms_spec (ws := wsX8_round) B.pre
  have hown : s.vm.findClass RX8 = some m.cls := findClass_of_methodNamed B.named
  have hlocks := B.notSynchronized
  have hS : va_S (Am m0 ad) s.heap s.heap [] := va_S.rf
  have hl := lv_entry ([.ref m0, .int (nI j)]) (n := 4) (Nat.le_of_ble_eq_true rfl)
  rw [lg_entry_eq]
  generalize (lg_sl ([.ref m0, .int (nI j)]) ++ List.replicate (4 - (lg_sl ([.ref m0, .int (nI j)])).length) Slot.unset).toArray = ls at hl ⊢
  have hl : lv_has ls 4 [(0, .ref m0), (1, .int (nI j))] := hl
  have hiX8 : ∀ w ∈ wsX80, w ∈ wsX8_round := by decide +kernel
  have loop3 : ∀ (n : Nat), ∀ (i : Nat) (β : Sg), β = bfr (rdT σ nv j) j 16 → i ≤ 16 → 17 ≤ i + n → ∀ (H : Heap) (locs : List Loc), MD D cI cZ m0 ad (spr β j i) H → va_S (Am m0 ad) s.heap H locs → ∀ ls : Array Slot, lv_has ls 4 [(2, .int (nI i)), (0, .ref m0), (1, .int (nI j))] → W p l e (headSpec wsX8_round ({ frames := 0, cells := 0, slots := 0, locals := 0 })).room s m ([.ref m0, .int (nI j)] : List Value).toArray below meth c H locs 0 0 (MQ below (Qkv (fun H1 => MD D cI cZ m0 ad (rd σ nv j) H1) (Am m0 ad)) ([.ref m0, .int (nI j)] : List Value).toArray s 0 0 (Am m0 ad)) (F0 m 95 ls []) := by
    intro n
    induction n with
    | zero => intro i β _ h1 h2; exact absurd h2 (by omega)
    | succ n ih =>
      intro i β hβ hi hn H locs hM hS ls hl
      refine lv_iload_n hx hb dX8_round_95 rfl (lv_at hl 0 rfl) ?_
      refine lv_bipush (v := 16) hx hb dX8_round_96 (by decide) ?_
      refine lv_icmp_ge (tgt := 151) hx hb dX8_round_98 (by decide) (fun c98 => ?_) (fun c98 => ?_)
      · have c98 := Int32.not_lt.mpr c98
        have c98 : ¬ nI i < nI 16 := c98
        have hij : i = 16 := Nat.le_antisymm (by omega) (Nat.le_of_not_lt (fun q => c98 (nI_lt q (by omega))))
        subst hij
        exact k_retv hx hb hr hlocks (hM.eq (by rw [hβ]; rfl)) hS dX8_round_151
      · have c98 := Int32.not_le.mp c98
        have hlt : i < 16 := (nI_ltI (by omega) (by omega)).mp c98
        refine lv_aload_n hx hb dX8_round_101 rfl (lv_at hl 1 rfl) ?_
        refine k_get (C := RX8) (T := TX8) (N := 22) (v := .ref (ad 15)) hx hb hts hiX8 hown hK.1 hM.1 rfl 15 (by decide) (hts (.fieldLink RX8 51 "HouseWorkersModel" "before" "[I") (by decide +kernel)) (fun _ h9 => h9) rfl dX8_round_102 ?_
        refine lv_iload_n hx hb dX8_round_105 rfl (lv_at hl 0 rfl) ?_
        refine lv_bipush (v := 15) hx hb dX8_round_106 (by decide) ?_
        refine lv_iadd hx hb dX8_round_108 ?_
        refine lv_bipush (v := 16) hx hb dX8_round_109 (by decide) ?_
        refine lv_irem hx hb dX8_round_111 (by decide) ?_
        refine k_iald (n := 16) (f := ((spr β j i) 15)) hx hb hK.1 0 (hM.2.1 15 rfl) rfl ((i + 15) % 16) (by rw [show (15 : Int32) = nI 15 from rfl, show (16 : Int32) = nI 16 from rfl, nI_add]; exact pk_rem (by omega) (by decide) (by decide)) (Nat.mod_lt _ (by decide)) (by decide) dX8_round_112 ?_
        refine lv_istore_n (lv' := [(3, .int ((spr β j i) 15 ((i + 15) % 16))), (2, .int (nI i)), (0, .ref m0), (1, .int (nI j))]) hx hb dX8_round_113 rfl hl (by decide) rfl (fun ls hl => ?_)
        refine lv_aload_n hx hb dX8_round_114 rfl (lv_at hl 2 rfl) ?_
        refine k_get (C := RX8) (T := TX8) (N := 22) (v := .ref (ad 14)) hx hb hts hiX8 hown hK.1 hM.1 rfl 14 (by decide) (hts (.fieldLink RX8 48 "HouseWorkersModel" "draft" "[I") (by decide +kernel)) (fun _ h9 => h9) rfl dX8_round_115 ?_
        refine lv_bipush (v := 16) hx hb dX8_round_118 (by decide) ?_
        refine lv_iload_n hx hb dX8_round_120 rfl (lv_at hl 3 rfl) ?_
        refine lv_imul hx hb dX8_round_121 ?_
        refine lv_iload_n hx hb dX8_round_122 rfl (lv_at hl 1 rfl) ?_
        refine lv_iadd hx hb dX8_round_123 ?_
        refine lv_iload_n hx hb dX8_round_124 rfl (lv_at hl 0 rfl) ?_
        refine lv_aload_n hx hb dX8_round_125 rfl (lv_at hl 2 rfl) ?_
        refine k_get (C := RX8) (T := TX8) (N := 22) (v := .ref (ad 15)) hx hb hts hiX8 hown hK.1 hM.1 rfl 15 (by decide) (hts (.fieldLink RX8 51 "HouseWorkersModel" "before" "[I") (by decide +kernel)) (fun _ h9 => h9) rfl dX8_round_126 ?_
        refine lv_iload_n hx hb dX8_round_129 rfl (lv_at hl 1 rfl) ?_
        refine k_iald (n := 16) (f := ((spr β j i) 15)) hx hb hK.1 0 (hM.2.1 15 rfl) rfl i rfl (by omega) (by decide) dX8_round_130 ?_
        refine lv_icmp_le (tgt := 138) hx hb dX8_round_131 (by decide) (fun c131 => ?_) (fun c131 => ?_)
        · have c131 := Int32.not_lt.mpr c131
          simp only [spr_k β j i (k := 15) (by decide)] at c131
          refine lv_aload_n hx hb dX8_round_138 rfl (lv_at hl 2 rfl) ?_
          refine k_get (C := RX8) (T := TX8) (N := 22) (v := .ref (ad 15)) hx hb hts hiX8 hown hK.1 hM.1 rfl 15 (by decide) (hts (.fieldLink RX8 51 "HouseWorkersModel" "before" "[I") (by decide +kernel)) (fun _ h9 => h9) rfl dX8_round_139 ?_
          refine lv_iload_n hx hb dX8_round_142 rfl (lv_at hl 1 rfl) ?_
          refine k_iald (n := 16) (f := ((spr β j i) 15)) hx hb hK.1 0 (hM.2.1 15 rfl) rfl i rfl (by omega) (by decide) dX8_round_143 ?_
          refine k_iast (A := (Am m0 ad)) (n := 480) (f := ((spr β j i) 14)) (x := ((spr β j i) 15 i)) hx hb hK.1 0 (hM.2.1 14 rfl) (Am.arr 14 rfl) hS rfl (16 * j + i) (ix16 _ _) (by omega) (by decide) dX8_round_144 (fun H1 locs hO2 hz3 hq4 hS => ?_)
          have hM := MD.arr 14 (i := 16 * j + i) (v := ((spr β j i) 15 i)) hM rfl hO2 hq4
          refine lv_iinc (v := nI (i + 1)) (lv' := [(2, .int (nI (i + 1))), (3, .int ((spr β j i) 15 ((i + 15) % 16))), (0, .ref m0), (1, .int (nI j))]) hx hb dX8_round_145 hl (k := 1) rfl (by rw [← nI_1]; rfl) (by decide) rfl (fun ls hl => ?_)
          refine lv_goto (tgt := 95) hx hb dX8_round_148 (by decide) ?_
          exact ih (i + 1) β hβ (by omega) (by omega) _ locs (hM.eq (spr_s (by simp [spr_k, rnd, mx, c131]))) hS ls (lv_sub hl [0, 2, 3] rfl)
        · have c131 := Int32.not_le.mp c131
          simp only [spr_k β j i (k := 15) (by decide)] at c131
          refine lv_iload_n hx hb dX8_round_134 rfl (lv_at hl 0 rfl) ?_
          refine lv_goto (tgt := 144) hx hb dX8_round_135 (by decide) ?_
          refine k_iast (A := (Am m0 ad)) (n := 480) (f := ((spr β j i) 14)) (x := ((spr β j i) 15 ((i + 15) % 16))) hx hb hK.1 0 (hM.2.1 14 rfl) (Am.arr 14 rfl) hS rfl (16 * j + i) (ix16 _ _) (by omega) (by decide) dX8_round_144 (fun H5 locs hO6 hz7 hq8 hS => ?_)
          have hM := MD.arr 14 (i := 16 * j + i) (v := ((spr β j i) 15 ((i + 15) % 16))) hM rfl hO6 hq8
          refine lv_iinc (v := nI (i + 1)) (lv' := [(2, .int (nI (i + 1))), (3, .int ((spr β j i) 15 ((i + 15) % 16))), (0, .ref m0), (1, .int (nI j))]) hx hb dX8_round_145 hl (k := 1) rfl (by rw [← nI_1]; rfl) (by decide) rfl (fun ls hl => ?_)
          refine lv_goto (tgt := 95) hx hb dX8_round_148 (by decide) ?_
          exact ih (i + 1) β hβ (by omega) (by omega) _ locs (hM.eq (spr_s (by simp [spr_k, rnd, mx, c131]))) hS ls (lv_sub hl [0, 2, 3] rfl)
  have loop2 : ∀ (n : Nat), ∀ (i : Nat) (ρ : Sg), ρ = rdT σ nv j → i ≤ 16 → 17 ≤ i + n → ∀ (H : Heap) (locs : List Loc), MD D cI cZ m0 ad (bfr ρ j i) H → va_S (Am m0 ad) s.heap H locs → ∀ ls : Array Slot, lv_has ls 4 [(2, .int (nI i)), (0, .ref m0), (1, .int (nI j))] → W p l e (headSpec wsX8_round ({ frames := 0, cells := 0, slots := 0, locals := 0 })).room s m ([.ref m0, .int (nI j)] : List Value).toArray below meth c H locs 0 0 (MQ below (Qkv (fun H1 => MD D cI cZ m0 ad (rd σ nv j) H1) (Am m0 ad)) ([.ref m0, .int (nI j)] : List Value).toArray s 0 0 (Am m0 ad)) (F0 m 64 ls []) := by
    intro n
    induction n with
    | zero => intro i ρ _ h1 h2; exact absurd h2 (by omega)
    | succ n ih =>
      intro i ρ hρ hi hn H locs hM hS ls hl
      refine lv_iload_n hx hb dX8_round_64 rfl (lv_at hl 0 rfl) ?_
      refine lv_bipush (v := 16) hx hb dX8_round_65 (by decide) ?_
      refine lv_icmp_ge (tgt := 93) hx hb dX8_round_67 (by decide) (fun c67 => ?_) (fun c67 => ?_)
      · have c67 := Int32.not_lt.mpr c67
        have c67 : ¬ nI i < nI 16 := c67
        have hij : i = 16 := Nat.le_antisymm (by omega) (Nat.le_of_not_lt (fun q => c67 (nI_lt q (by omega))))
        subst hij
        refine lv_iconst (v := 0) hx hb dX8_round_93 (by decide) ?_
        refine lv_istore_n (lv' := [(2, .int 0), (0, .ref m0), (1, .int (nI j))]) hx hb dX8_round_94 rfl hl (by decide) rfl (fun ls hl => ?_)
        exact loop3 17 0 _ (by rw [hρ]) (Nat.zero_le _) (by omega) _ _ (hM.eq (spr_0 _ j).symm) hS ls (lv_sub hl [0, 1, 2] rfl)
      · have c67 := Int32.not_le.mp c67
        have hlt : i < 16 := (nI_ltI (by omega) (by omega)).mp c67
        refine lv_aload_n hx hb dX8_round_70 rfl (lv_at hl 1 rfl) ?_
        refine k_get (C := RX8) (T := TX8) (N := 22) (v := .ref (ad 15)) hx hb hts hiX8 hown hK.1 hM.1 rfl 15 (by decide) (hts (.fieldLink RX8 51 "HouseWorkersModel" "before" "[I") (by decide +kernel)) (fun _ h9 => h9) rfl dX8_round_71 ?_
        refine lv_iload_n hx hb dX8_round_74 rfl (lv_at hl 0 rfl) ?_
        refine lv_aload_n hx hb dX8_round_75 rfl (lv_at hl 1 rfl) ?_
        refine k_get (C := RX8) (T := TX8) (N := 22) (v := .ref (ad 14)) hx hb hts hiX8 hown hK.1 hM.1 rfl 14 (by decide) (hts (.fieldLink RX8 48 "HouseWorkersModel" "draft" "[I") (by decide +kernel)) (fun _ h9 => h9) rfl dX8_round_76 ?_
        refine lv_bipush (v := 16) hx hb dX8_round_79 (by decide) ?_
        refine lv_iload_n hx hb dX8_round_81 rfl (lv_at hl 2 rfl) ?_
        refine lv_imul hx hb dX8_round_82 ?_
        refine lv_iload_n hx hb dX8_round_83 rfl (lv_at hl 0 rfl) ?_
        refine lv_iadd hx hb dX8_round_84 ?_
        refine k_iald (n := 480) (f := ((bfr ρ j i) 14)) hx hb hK.1 0 (hM.2.1 14 rfl) rfl (16 * j + i) (ix16 _ _) (by omega) (by decide) dX8_round_85 ?_
        refine k_iast (A := (Am m0 ad)) (n := 16) (f := ((bfr ρ j i) 15)) (x := ((bfr ρ j i) 14 (16 * j + i))) hx hb hK.1 0 (hM.2.1 15 rfl) (Am.arr 15 rfl) hS rfl i rfl (by omega) (by decide) dX8_round_86 (fun H9 locs hO10 hz11 hq12 hS => ?_)
        have hM := MD.arr 15 (i := i) (v := ((bfr ρ j i) 14 (16 * j + i))) hM rfl hO10 hq12
        refine lv_iinc (v := nI (i + 1)) (lv' := [(2, .int (nI (i + 1))), (0, .ref m0), (1, .int (nI j))]) hx hb dX8_round_87 hl (k := 0) rfl (by rw [← nI_1]; rfl) (by decide) rfl (fun ls hl => ?_)
        refine lv_goto (tgt := 64) hx hb dX8_round_90 (by decide) ?_
        exact ih (i + 1) ρ hρ (by omega) (by omega) _ locs (hM.eq (bfr_s (by simp [bfr_k]))) hS ls (lv_sub hl [0, 1, 2] rfl)
  refine lv_aload_n hx hb dX8_round_0 rfl (lv_at hl 0 rfl) ?_
  refine k_get (C := RX8) (T := TX8) (N := 22) (v := .ref (ad 9)) hx hb hts hiX8 hown hK.1 hM.1 rfl 9 (by decide) (hts (.fieldLink RX8 32 "HouseWorkersModel" "done" "[I") (by decide +kernel)) (fun _ h9 => h9) rfl dX8_round_1 ?_
  refine lv_iload_n hx hb dX8_round_4 rfl (lv_at hl 1 rfl) ?_
  refine k_iald (n := 30) (f := (σ 9)) hx hb hK.1 0 (hM.2.1 9 rfl) rfl j rfl (by omega) (by decide) dX8_round_5 ?_
  refine lv_if_ne (tgt := 62) hx hb dX8_round_6 (by decide) (fun c6 => ?_) (fun c6 => ?_)
  · refine lv_iconst (v := 0) hx hb dX8_round_62 (by decide) ?_
    refine lv_istore_n (lv' := [(2, .int 0), (0, .ref m0), (1, .int (nI j))]) hx hb dX8_round_63 rfl hl (by decide) rfl (fun ls hl => ?_)
    exact loop2 17 0 _ (by rw [rdT, if_neg c6]) (Nat.zero_le _) (by omega) _ _ (hM.eq (bfr_0 _ j).symm) hS ls (lv_sub hl [0, 1, 2] rfl)
  · refine lv_aload_n hx hb dX8_round_9 rfl (lv_at hl 0 rfl) ?_
    refine k_get (C := RX8) (T := TX8) (N := 22) (v := .ref (ad 11)) hx hb hts hiX8 hown hK.1 hM.1 rfl 11 (by decide) (hts (.fieldLink RX8 38 "HouseWorkersModel" "version" "[I") (by decide +kernel)) (fun _ h9 => h9) rfl dX8_round_10 ?_
    refine lv_iload_n hx hb dX8_round_13 rfl (lv_at hl 1 rfl) ?_
    refine lv_aload_n hx hb dX8_round_14 rfl (lv_at hl 0 rfl) ?_
    refine k_get (C := RX8) (T := TX8) (N := 22) (v := .int (σ 1 0)) hx hb hts hiX8 hown hK.1 hM.1 rfl 1 (by decide) (hts (.fieldLink RX8 13 "HouseWorkersModel" "versions" "I") (by decide +kernel)) (fun _ h9 => h9) rfl dX8_round_15 ?_
    refine lv_iconst (v := 1) hx hb dX8_round_18 (by decide) ?_
    refine lv_isub hx hb dX8_round_19 ?_
    refine k_iast (A := (Am m0 ad)) (n := 30) (f := (σ 11)) (x := ((σ 1 0) - 1)) hx hb hK.1 0 (hM.2.1 11 rfl) (Am.arr 11 rfl) hS rfl j rfl (by omega) (by decide) dX8_round_20 (fun H13 locs hO14 hz15 hq16 hS => ?_)
    have hM := MD.arr 11 (i := j) (v := ((σ 1 0) - 1)) hM rfl hO14 hq16
    refine lv_iconst (v := 0) hx hb dX8_round_21 (by decide) ?_
    refine lv_istore_n (lv' := [(2, .int 0), (0, .ref m0), (1, .int (nI j))]) hx hb dX8_round_22 rfl hl (by decide) rfl (fun ls hl => ?_)
    obtain ⟨τ, hτ⟩ : ∃ z : Sg, z = u2 σ 11 j (σ 1 0 - 1) := ⟨_, rfl⟩
    rw [← hτ] at hM
    have hτ11 : τ 11 j = nI (nv - 1) := by rw [hτ, u2_same, hv]; exact pk_sub (b := 1) hv1
    have loop : ∀ (n : Nat), ∀ (i : Nat), i ≤ 16 → 17 ≤ i + n → ∀ (H : Heap) (locs : List Loc), MD D cI cZ m0 ad (tk τ (nv - 1) j i) H → va_S (Am m0 ad) s.heap H locs → ∀ ls : Array Slot, lv_has ls 4 [(2, .int (nI i)), (0, .ref m0), (1, .int (nI j))] → W p l e (headSpec wsX8_round ({ frames := 0, cells := 0, slots := 0, locals := 0 })).room s m ([.ref m0, .int (nI j)] : List Value).toArray below meth c H locs 0 0 (MQ below (Qkv (fun H1 => MD D cI cZ m0 ad (rd σ nv j) H1) (Am m0 ad)) ([.ref m0, .int (nI j)] : List Value).toArray s 0 0 (Am m0 ad)) (F0 m 23 ls []) := by
      intro n
      induction n with
      | zero => intro i h1 h2; exact absurd h2 (by omega)
      | succ n ih =>
        intro i hi hn H locs hM hS ls hl
        refine lv_iload_n hx hb dX8_round_23 rfl (lv_at hl 0 rfl) ?_
        refine lv_bipush (v := 16) hx hb dX8_round_24 (by decide) ?_
        refine lv_icmp_ge (tgt := 62) hx hb dX8_round_26 (by decide) (fun c26 => ?_) (fun c26 => ?_)
        · have c26 := Int32.not_lt.mpr c26
          have c26 : ¬ nI i < nI 16 := c26
          have hij : i = 16 := Nat.le_antisymm (by omega) (Nat.le_of_not_lt (fun q => c26 (nI_lt q (by omega))))
          subst hij
          refine lv_iconst (v := 0) hx hb dX8_round_62 (by decide) ?_
          refine lv_istore_n (lv' := [(2, .int 0), (0, .ref m0), (1, .int (nI j))]) hx hb dX8_round_63 rfl hl (by decide) rfl (fun ls hl => ?_)
          exact loop2 17 0 _ (by rw [rdT, if_pos c6, hτ]) (Nat.zero_le _) (by omega) _ _ (hM.eq (bfr_0 _ j).symm) hS ls (lv_sub hl [0, 1, 2] rfl)
        · have c26 := Int32.not_le.mp c26
          have hlt : i < 16 := (nI_ltI (by omega) (by omega)).mp c26
          refine lv_aload_n hx hb dX8_round_29 rfl (lv_at hl 1 rfl) ?_
          refine k_get (C := RX8) (T := TX8) (N := 22) (v := .ref (ad 14)) hx hb hts hiX8 hown hK.1 hM.1 rfl 14 (by decide) (hts (.fieldLink RX8 48 "HouseWorkersModel" "draft" "[I") (by decide +kernel)) (fun _ h9 => h9) rfl dX8_round_30 ?_
          refine lv_bipush (v := 16) hx hb dX8_round_33 (by decide) ?_
          refine lv_iload_n hx hb dX8_round_35 rfl (lv_at hl 2 rfl) ?_
          refine lv_imul hx hb dX8_round_36 ?_
          refine lv_iload_n hx hb dX8_round_37 rfl (lv_at hl 0 rfl) ?_
          refine lv_iadd hx hb dX8_round_38 ?_
          refine lv_aload_n hx hb dX8_round_39 rfl (lv_at hl 1 rfl) ?_
          refine k_get (C := RX8) (T := TX8) (N := 22) (v := .ref (ad 0)) hx hb hts hiX8 hown hK.1 hM.1 rfl 0 (by decide) (hts (.fieldLink RX8 7 "HouseWorkersModel" "cells" "[I") (by decide +kernel)) (fun _ h9 => h9) rfl dX8_round_40 ?_
          refine lv_bipush (v := 16) hx hb dX8_round_43 (by decide) ?_
          refine lv_aload_n hx hb dX8_round_45 rfl (lv_at hl 1 rfl) ?_
          refine k_get (C := RX8) (T := TX8) (N := 22) (v := .ref (ad 11)) hx hb hts hiX8 hown hK.1 hM.1 rfl 11 (by decide) (hts (.fieldLink RX8 38 "HouseWorkersModel" "version" "[I") (by decide +kernel)) (fun _ h9 => h9) rfl dX8_round_46 ?_
          refine lv_iload_n hx hb dX8_round_49 rfl (lv_at hl 2 rfl) ?_
          refine k_iald (n := 30) (f := ((tk τ (nv - 1) j i) 11)) hx hb hK.1 0 (hM.2.1 11 rfl) rfl j rfl (by omega) (by decide) dX8_round_50 ?_
          refine lv_imul hx hb dX8_round_51 ?_
          refine lv_iload_n hx hb dX8_round_52 rfl (lv_at hl 0 rfl) ?_
          refine lv_iadd hx hb dX8_round_53 ?_
          refine k_iald (n := 640) (f := ((tk τ (nv - 1) j i) 0)) hx hb hK.1 0 (hM.2.1 0 rfl) rfl (16 * (nv - 1) + i) (by rw [tk_k τ (nv - 1) j i (by decide), hτ11]; exact ix16 _ _) (by omega) (by decide) dX8_round_54 ?_
          refine k_iast (A := (Am m0 ad)) (n := 480) (f := ((tk τ (nv - 1) j i) 14)) (x := ((tk τ (nv - 1) j i) 0 (16 * (nv - 1) + i))) hx hb hK.1 0 (hM.2.1 14 rfl) (Am.arr 14 rfl) hS rfl (16 * j + i) (ix16 _ _) (by omega) (by decide) dX8_round_55 (fun H17 locs hO18 hz19 hq20 hS => ?_)
          have hM := MD.arr 14 (i := 16 * j + i) (v := ((tk τ (nv - 1) j i) 0 (16 * (nv - 1) + i))) hM rfl hO18 hq20
          refine lv_iinc (v := nI (i + 1)) (lv' := [(2, .int (nI (i + 1))), (0, .ref m0), (1, .int (nI j))]) hx hb dX8_round_56 hl (k := 0) rfl (by rw [← nI_1]; rfl) (by decide) rfl (fun ls hl => ?_)
          refine lv_goto (tgt := 23) hx hb dX8_round_59 (by decide) ?_
          exact ih (i + 1) (by omega) (by omega) _ locs (hM.eq (tk_s (by simp [tk_k]))) hS ls (lv_sub hl [0, 1, 2] rfl)
    exact loop 17 0 (Nat.zero_le _) (by omega) _ _ (hM.eq (tk_0 τ _ j).symm) hS ls (lv_sub hl [0, 1, 2] rfl)
end
section
/-- a worker's numbers are in their bounds -/
def WI (σ : Sg) (nV j : Nat) : Prop := ∃ st fa a dn : Nat, σ 5 j = nI st ∧ σ 6 j = nI fa ∧ σ 7 j = nI a ∧ σ 9 j = nI dn ∧ fa ≤ 30 ∧ a ≤ 15 ∧ (σ 12 j = 0 ∨ σ 12 j = 2 ∨ σ 12 j = 3 ∨ σ 12 j = 4) ∧ (σ 13 j = 0 ∨ σ 13 j = 1) ∧
  ((σ 4 j = 0 ∧ 1 ≤ st ∧ st ≤ 20 ∧ dn ≤ st ∧ (σ 12 j = 0 → dn < st) ∧ ∃ v, v < nV ∧ σ 11 j = nI v) ∨
   (σ 4 j = 1 ∧ 1 ≤ st ∧ st ≤ 20 ∧ dn ≤ st ∧ (¬ σ 12 j = 2 → σ 11 j = (-1)) ∧ (σ 12 j = 2 → ∃ v, 1 ≤ v ∧ v < nV ∧ σ 11 j = nI v)) ∨
   (σ 4 j = 2 ∧ 1 ≤ st ∧ st ≤ 20 ∧ dn ≤ st ∧ (dn = 0 → σ 11 j = (-1)) ∧ (¬ dn = 0 → ∃ v, v < nV ∧ σ 11 j = nI v)) ∨
   (σ 4 j = 3 ∧ st = 0 ∧ fa = 0 ∧ ∃ v, v < nV ∧ dn ≤ v ∧ σ 11 j = nI v))
def Inv (σ : Sg) (nW nV nE : Nat) : Prop := σ 3 0 = nI nW ∧ σ 1 0 = nI nV ∧ σ 16 0 = nI nE ∧ nW ≤ 30 ∧ 1 ≤ nV ∧ nV ≤ nE + 1 ∧ nE = cntF (fun i => decide (0 < σ 12 i)) nW ∧ (σ 2 0 = 0 ∨ σ 2 0 = 1) ∧ (∀ j, j < nW → WI σ nV j) ∧ (∀ j, nW ≤ j → σ 9 j = 0 ∧ σ 10 j = 0 ∧ σ 12 j = 0 ∧ σ 13 j = 0) ∧ (∀ i, 16 * nW ≤ i → σ 14 i = 0) ∧ ∀ i, i < nE → ∃ w, w < nW ∧ σ 17 i = nI w ∧ σ 18 i = σ 12 w ∧ 0 < σ 12 w
theorem cntF_le (f : Nat → Bool) : ∀ n, cntF f n ≤ n
  | 0 => Nat.le_refl 0
  | n + 1 => by
    have h := cntF_le f n
    rw [cntF]
    cases f n <;> simp <;> omega
theorem cntF_lt {f : Nat → Bool} {j : Nat} (h : f j = false) : ∀ n, j < n → cntF f n < n
  | 0, q => absurd q (Nat.not_lt_zero j)
  | n + 1, q => by
    rw [cntF]
    by_cases e : j = n
    · subst e
      rw [h]
      have h2 := cntF_le f j
      simp
      omega
    · have h2 := cntF_lt h n (by omega)
      cases f n <;> simp <;> omega
theorem Inv.eW {σ : Sg} {nW nV nE : Nat} (h : Inv σ nW nV nE) : nE ≤ nW := by rw [h.2.2.2.2.2.2.1]; exact cntF_le _ _
theorem Inv.lt {σ : Sg} {nW nV nE j : Nat} (h : Inv σ nW nV nE) (hj : j < nW) (h0 : ¬ 0 < σ 12 j) : nE < nW := by
  have h1 := h.2.2.2.2.2.2.1
  have h2 := cntF_lt (f := fun i => decide (0 < σ 12 i)) (j := j) (by simp [h0]) nW hj
  omega
theorem inB_idx {w : Int32} {n : Nat} (hn : n ≤ 1000) (h : inB w 0 (nI n - 1) = true) : ∃ j, j < n ∧ w = nI j := by
  unfold inB at h
  rw [Bool.and_eq_true, decide_eq_true_eq, decide_eq_true_eq] at h
  obtain ⟨h1, h2⟩ := h
  obtain ⟨j, hj, rfl⟩ := nI_of h1
  refine ⟨j, ?_, rfl⟩
  rcases n with _ | n
  · exfalso
    apply h2
    rw [show nI 0 - 1 = (-1) from by decide, Int32.lt_iff_toInt_lt, nI_toInt hj]
    have : ((-1 : Int32)).toInt = -1 := by decide
    omega
  · rw [nI_pred] at h2
    rcases Nat.lt_or_ge j (n + 1) with q | q
    · exact q
    · exact absurd (nI_lt (a := n) (b := j) (by omega) hj) h2
theorem inB_not {j n : Nat} (hj : j < n) (hn : n ≤ 1000) : inB (nI j) 0 (nI n - 1) = true := by
  unfold inB
  rcases n with _ | n
  · omega
  · rw [nI_pred, Bool.and_eq_true, decide_eq_true_eq, decide_eq_true_eq]
    exact ⟨nI_pos (by omega), nI_nlt (by omega) (by omega)⟩
theorem atN {σ : Sg} {j a d : Nat} (h7 : σ 7 j = nI a) (h9 : σ 9 j = nI d) (ha : a ≤ 15) (hd : d ≤ 31) : (σ 7 j + σ 9 j) - (σ 7 j + σ 9 j) / 16 * 16 = nI (aN σ j) := by
  unfold aN
  rw [h7, h9, nat_nI (by omega), nat_nI (by omega), nI_add]
  exact pk_rem (a := a + d) (d := 16) (by omega) (by decide) (by decide)
theorem tb_out2 {x : Int32} (h0 : ¬ x = 0) (h1 : ¬ x = 1) (h2 : ¬ x = 2) : x.toInt < 0 ∨ 2 < x.toInt := by
  have a1 : ¬ x.toInt = 0 := lv_neT h0 rfl
  have a2 : ¬ x.toInt = 1 := lv_neT h1 rfl
  have a3 : ¬ x.toInt = 2 := lv_neT h2 rfl
  omega
theorem rd_k {σ : Sg} {nv j k : Nat} (i : Nat) (h1 : k ≠ 14) (h2 : k ≠ 15) (h3 : k ≠ 11) : rd σ nv j k i = σ k i := by
  unfold rd
  rw [spr_k _ _ _ h1, bfr_k _ _ _ h2]
  unfold rdT
  split
  · rw [tk_k _ _ _ _ h1, u2_ne _ _ (fun q => h3 q.1)]
  · rfl
theorem stB_k {σ : Sg} {nv j k : Nat} (i : Nat) (h1 : k ≠ 14) (h2 : k ≠ 15) (h3 : k ≠ 11) (h4 : k ≠ 10) : stB σ nv j k i = σ k i := by
  unfold stB
  split
  · rw [u2_ne _ _ (fun q => h4 q.1)]
  · split
    · rw [u2_ne _ _ (fun q => h1 q.1)]
    · split
      · exact rd_k i h1 h2 h3
      · rw [u2_ne _ _ (fun q => h4 q.1), u2_ne _ _ (fun q => h3 q.1)]
theorem stp_k {σ : Sg} {nv j k : Nat} (i : Nat) (h1 : k ≠ 14) (h2 : k ≠ 15) (h3 : k ≠ 11) (h4 : k ≠ 10) (h5 : k ≠ 9) : stp σ nv j k i = σ k i := by
  unfold stp
  rw [u2_ne _ _ (fun q => h5 q.1), stB_k i h1 h2 h3 h4]
set_option maxHeartbeats 4000000 in
set_option maxRecDepth 100000 in
theorem c_X8_step (l : Launch) {D : va_G} {cI cZ cO : ClassId} {mi : Nat} (H : Heap) (m0 : Nat) (ad : Nat → Nat) (σ : Sg) (nv j a d : Nat) (hM : MD D cI cZ m0 ad σ H) (hj : j < 30) (hv : σ 1 0 = nI nv) (hv1 : 1 ≤ nv) (hv2 : nv ≤ 39) (h7 : σ 7 j = nI a) (ha : a ≤ 15) (h9 : σ 9 j = nI d) (hd : d ≤ 31) (hk0 : σ 4 j = 0 → ∃ v, v ≤ 38 ∧ σ 11 j = nI v) (hk3 : ¬ σ 4 j = 0 → ¬ σ 4 j = 1 → ¬ σ 4 j = 2 → ∃ v, v ≤ 38 ∧ σ 11 j = nI v) : Met l yX8_step wsX8_step ({ frames := 1, cells := 0, slots := 0, locals := 23 }) (Pk D cI cZ cO mi [.ref m0, .int (nI j)] H) (Qkv (fun H1 => MD D cI cZ m0 ad (stp σ nv j) H1) (Am m0 ad)) 0 0 (Am m0 ad) := by
  refine Met.ofW (cc := cX8_step) (maxL := 5) (ret := none) (by decide) rfl ?_
  intro p e s m args below meth c s₁ B hml hv
  obtain ⟨rfl, rfl, hK⟩ := hv
  have hx := B.exec
  have hb := B.bytes
  have hr := B.returns
  have hts := atoms_spec (ws := wsX8_step) B.pre
  have hown : s.vm.findClass RX8 = some m.cls := findClass_of_methodNamed B.named
  have hlocks := B.notSynchronized
  have hS : va_S (Am m0 ad) s.heap s.heap [] := va_S.rf
  have hl := lv_entry ([.ref m0, .int (nI j)]) (n := 5) (Nat.le_of_ble_eq_true rfl)
  rw [lg_entry_eq]
  generalize (lg_sl ([.ref m0, .int (nI j)]) ++ List.replicate (5 - (lg_sl ([.ref m0, .int (nI j)])).length) Slot.unset).toArray = ls at hl ⊢
  have hl : lv_has ls 5 [(0, .ref m0), (1, .int (nI j))] := hl
  have hiX8 : ∀ w ∈ wsX80, w ∈ wsX8_step := by decide +kernel
  refine lv_aload_n hx hb dX8_step_0 rfl (lv_at hl 0 rfl) ?_
  refine k_get (C := RX8) (T := TX8) (N := 22) (v := .ref (ad 7)) hx hb hts hiX8 hown hK.1 hM.1 rfl 7 (by decide) (hts (.fieldLink RX8 26 "HouseWorkersModel" "first" "[I") (by decide +kernel)) (fun _ h9 => h9) rfl dX8_step_1 ?_
  refine lv_iload_n hx hb dX8_step_4 rfl (lv_at hl 1 rfl) ?_
  refine k_iald (n := 30) (f := (σ 7)) hx hb hK.1 0 (hM.2.1 7 rfl) rfl j rfl (by omega) (by decide) dX8_step_5 ?_
  refine lv_aload_n hx hb dX8_step_6 rfl (lv_at hl 0 rfl) ?_
  refine k_get (C := RX8) (T := TX8) (N := 22) (v := .ref (ad 9)) hx hb hts hiX8 hown hK.1 hM.1 rfl 9 (by decide) (hts (.fieldLink RX8 32 "HouseWorkersModel" "done" "[I") (by decide +kernel)) (fun _ h9 => h9) rfl dX8_step_7 ?_
  refine lv_iload_n hx hb dX8_step_10 rfl (lv_at hl 1 rfl) ?_
  refine k_iald (n := 30) (f := (σ 9)) hx hb hK.1 0 (hM.2.1 9 rfl) rfl j rfl (by omega) (by decide) dX8_step_11 ?_
  refine lv_iadd hx hb dX8_step_12 ?_
  refine lv_bipush (v := 16) hx hb dX8_step_13 (by decide) ?_
  refine lv_irem hx hb dX8_step_15 (by decide) ?_
  rw [atN h7 h9 ha hd]
  have haN : aN σ j < 16 := Nat.mod_lt _ (by decide)
  refine lv_istore_n (lv' := [(2, .int (nI (aN σ j))), (0, .ref m0), (1, .int (nI j))]) hx hb dX8_step_16 rfl hl (by decide) rfl (fun ls hl => ?_)
  refine lv_aload_n hx hb dX8_step_17 rfl (lv_at hl 1 rfl) ?_
  refine k_get (C := RX8) (T := TX8) (N := 22) (v := .ref (ad 4)) hx hb hts hiX8 hown hK.1 hM.1 rfl 4 (by decide) (hts (.fieldLink RX8 17 "HouseWorkersModel" "kind" "[I") (by decide +kernel)) (fun _ h9 => h9) rfl dX8_step_18 ?_
  refine lv_iload_n hx hb dX8_step_21 rfl (lv_at hl 2 rfl) ?_
  refine k_iald (n := 30) (f := (σ 4)) hx hb hK.1 0 (hM.2.1 4 rfl) rfl j rfl (by omega) (by decide) dX8_step_22 ?_
  by_cases k0 : σ 4 j = 0
  · refine lv_tableIn (off := 25) (tgt := 48) hx hb dX8_step_23 (by rw [k0]; decide) (by rw [k0]; decide) (by rw [k0]; decide) (by decide) ?_
    obtain ⟨v, hvv, h11⟩ := hk0 k0
    refine lv_aload_n hx hb dX8_step_48 rfl (lv_at hl 1 rfl) ?_
    refine k_get (C := RX8) (T := TX8) (N := 22) (v := .ref (ad 10)) hx hb hts hiX8 hown hK.1 hM.1 rfl 10 (by decide) (hts (.fieldLink RX8 35 "HouseWorkersModel" "answer" "[I") (by decide +kernel)) (fun _ h9 => h9) rfl dX8_step_49 ?_
    refine lv_iload_n hx hb dX8_step_52 rfl (lv_at hl 2 rfl) ?_
    refine lv_bipush (v := 31) hx hb dX8_step_53 (by decide) ?_
    refine lv_aload_n hx hb dX8_step_55 rfl (lv_at hl 1 rfl) ?_
    refine k_get (C := RX8) (T := TX8) (N := 22) (v := .ref (ad 10)) hx hb hts hiX8 hown hK.1 hM.1 rfl 10 (by decide) (hts (.fieldLink RX8 35 "HouseWorkersModel" "answer" "[I") (by decide +kernel)) (fun _ h9 => h9) rfl dX8_step_56 ?_
    refine lv_iload_n hx hb dX8_step_59 rfl (lv_at hl 2 rfl) ?_
    refine k_iald (n := 30) (f := (σ 10)) hx hb hK.1 0 (hM.2.1 10 rfl) rfl j rfl (by omega) (by decide) dX8_step_60 ?_
    refine lv_imul hx hb dX8_step_61 ?_
    refine lv_aload_n hx hb dX8_step_62 rfl (lv_at hl 1 rfl) ?_
    refine k_get (C := RX8) (T := TX8) (N := 22) (v := .ref (ad 0)) hx hb hts hiX8 hown hK.1 hM.1 rfl 0 (by decide) (hts (.fieldLink RX8 7 "HouseWorkersModel" "cells" "[I") (by decide +kernel)) (fun _ h9 => h9) rfl dX8_step_63 ?_
    refine lv_bipush (v := 16) hx hb dX8_step_66 (by decide) ?_
    refine lv_aload_n hx hb dX8_step_68 rfl (lv_at hl 1 rfl) ?_
    refine k_get (C := RX8) (T := TX8) (N := 22) (v := .ref (ad 11)) hx hb hts hiX8 hown hK.1 hM.1 rfl 11 (by decide) (hts (.fieldLink RX8 38 "HouseWorkersModel" "version" "[I") (by decide +kernel)) (fun _ h9 => h9) rfl dX8_step_69 ?_
    refine lv_iload_n hx hb dX8_step_72 rfl (lv_at hl 2 rfl) ?_
    refine k_iald (n := 30) (f := (σ 11)) hx hb hK.1 0 (hM.2.1 11 rfl) rfl j rfl (by omega) (by decide) dX8_step_73 ?_
    refine lv_imul hx hb dX8_step_74 ?_
    refine lv_iload_n hx hb dX8_step_75 rfl (lv_at hl 0 rfl) ?_
    refine lv_iadd hx hb dX8_step_76 ?_
    refine k_iald (n := 640) (f := (σ 0)) hx hb hK.1 0 (hM.2.1 0 rfl) rfl (16 * nat (σ 11 j) + aN σ j) (by rw [h11, nat_nI (by omega)]; exact ix16 _ _) (by rw [h11, nat_nI (by omega)]; omega) (by decide) dX8_step_77 ?_
    refine lv_iadd hx hb dX8_step_78 ?_
    refine k_iast (A := (Am m0 ad)) (n := 30) (f := (σ 10)) (x := ((31 * (σ 10 j)) + (σ 0 (16 * nat (σ 11 j) + aN σ j)))) hx hb hK.1 0 (hM.2.1 10 rfl) (Am.arr 10 rfl) hS rfl j rfl (by omega) (by decide) dX8_step_79 (fun H1 locs hO2 hz3 hq4 hS => ?_)
    have hM := MD.arr 10 (i := j) (v := ((31 * (σ 10 j)) + (σ 0 (16 * nat (σ 11 j) + aN σ j)))) hM rfl hO2 hq4
    refine lv_goto (tgt := 179) hx hb dX8_step_80 (by decide) ?_
    refine lv_aload_n hx hb dX8_step_179 rfl (lv_at hl 1 rfl) ?_
    refine k_get (C := RX8) (T := TX8) (N := 22) (v := .ref (ad 9)) hx hb hts hiX8 hown hK.1 hM.1 rfl 9 (by decide) (hts (.fieldLink RX8 32 "HouseWorkersModel" "done" "[I") (by decide +kernel)) (fun _ h9 => h9) rfl dX8_step_180 ?_
    refine lv_iload_n hx hb dX8_step_183 rfl (lv_at hl 2 rfl) ?_
    refine lv_dup2_11 hx hb dX8_step_184 rfl rfl ?_
    refine k_iald (n := 30) (f := ((u2 σ 10 j ((31 * (σ 10 j)) + (σ 0 (16 * nat (σ 11 j) + aN σ j)))) 9)) hx hb hK.1 0 (hM.2.1 9 rfl) rfl j rfl (by omega) (by decide) dX8_step_185 ?_
    refine lv_iconst (v := 1) hx hb dX8_step_186 (by decide) ?_
    refine lv_iadd hx hb dX8_step_187 ?_
    refine k_iast (A := (Am m0 ad)) (n := 30) (f := ((u2 σ 10 j ((31 * (σ 10 j)) + (σ 0 (16 * nat (σ 11 j) + aN σ j)))) 9)) (x := (((u2 σ 10 j ((31 * (σ 10 j)) + (σ 0 (16 * nat (σ 11 j) + aN σ j)))) 9 j) + 1)) hx hb hK.1 0 (hM.2.1 9 rfl) (Am.arr 9 rfl) hS rfl j rfl (by omega) (by decide) dX8_step_188 (fun H5 locs hO6 hz7 hq8 hS => ?_)
    have hM := MD.arr 9 (i := j) (v := (((u2 σ 10 j ((31 * (σ 10 j)) + (σ 0 (16 * nat (σ 11 j) + aN σ j)))) 9 j) + 1)) hM rfl hO6 hq8
    exact k_retv hx hb hr hlocks (hM.eq (by unfold stp stB; rw [if_pos k0])) hS dX8_step_189
  by_cases k1 : σ 4 j = 1
  · refine lv_tableIn (off := 60) (tgt := 83) hx hb dX8_step_23 (by rw [k1]; decide) (by rw [k1]; decide) (by rw [k1]; decide) (by decide) ?_
    refine lv_aload_n hx hb dX8_step_83 rfl (lv_at hl 1 rfl) ?_
    refine k_get (C := RX8) (T := TX8) (N := 22) (v := .ref (ad 14)) hx hb hts hiX8 hown hK.1 hM.1 rfl 14 (by decide) (hts (.fieldLink RX8 48 "HouseWorkersModel" "draft" "[I") (by decide +kernel)) (fun _ h9 => h9) rfl dX8_step_84 ?_
    refine lv_bipush (v := 16) hx hb dX8_step_87 (by decide) ?_
    refine lv_iload_n hx hb dX8_step_89 rfl (lv_at hl 2 rfl) ?_
    refine lv_imul hx hb dX8_step_90 ?_
    refine lv_iload_n hx hb dX8_step_91 rfl (lv_at hl 0 rfl) ?_
    refine lv_iadd hx hb dX8_step_92 ?_
    refine lv_dup2_11 hx hb dX8_step_93 rfl rfl ?_
    refine k_iald (n := 480) (f := (σ 14)) hx hb hK.1 0 (hM.2.1 14 rfl) rfl (16 * j + aN σ j) (ix16 _ _) (by omega) (by decide) dX8_step_94 ?_
    refine lv_aload_n hx hb dX8_step_95 rfl (lv_at hl 1 rfl) ?_
    refine k_get (C := RX8) (T := TX8) (N := 22) (v := .ref (ad 8)) hx hb hts hiX8 hown hK.1 hM.1 rfl 8 (by decide) (hts (.fieldLink RX8 29 "HouseWorkersModel" "by" "[I") (by decide +kernel)) (fun _ h9 => h9) rfl dX8_step_96 ?_
    refine lv_iload_n hx hb dX8_step_99 rfl (lv_at hl 2 rfl) ?_
    refine k_iald (n := 30) (f := (σ 8)) hx hb hK.1 0 (hM.2.1 8 rfl) rfl j rfl (by omega) (by decide) dX8_step_100 ?_
    refine lv_iadd hx hb dX8_step_101 ?_
    refine k_iast (A := (Am m0 ad)) (n := 480) (f := (σ 14)) (x := ((σ 14 (16 * j + aN σ j)) + (σ 8 j))) hx hb hK.1 0 (hM.2.1 14 rfl) (Am.arr 14 rfl) hS rfl (16 * j + aN σ j) (ix16 _ _) (by omega) (by decide) dX8_step_102 (fun H9 locs hO10 hz11 hq12 hS => ?_)
    have hM := MD.arr 14 (i := 16 * j + aN σ j) (v := ((σ 14 (16 * j + aN σ j)) + (σ 8 j))) hM rfl hO10 hq12
    refine lv_goto (tgt := 179) hx hb dX8_step_103 (by decide) ?_
    refine lv_aload_n hx hb dX8_step_179 rfl (lv_at hl 1 rfl) ?_
    refine k_get (C := RX8) (T := TX8) (N := 22) (v := .ref (ad 9)) hx hb hts hiX8 hown hK.1 hM.1 rfl 9 (by decide) (hts (.fieldLink RX8 32 "HouseWorkersModel" "done" "[I") (by decide +kernel)) (fun _ h9 => h9) rfl dX8_step_180 ?_
    refine lv_iload_n hx hb dX8_step_183 rfl (lv_at hl 2 rfl) ?_
    refine lv_dup2_11 hx hb dX8_step_184 rfl rfl ?_
    refine k_iald (n := 30) (f := ((u2 σ 14 (16 * j + aN σ j) ((σ 14 (16 * j + aN σ j)) + (σ 8 j))) 9)) hx hb hK.1 0 (hM.2.1 9 rfl) rfl j rfl (by omega) (by decide) dX8_step_185 ?_
    refine lv_iconst (v := 1) hx hb dX8_step_186 (by decide) ?_
    refine lv_iadd hx hb dX8_step_187 ?_
    refine k_iast (A := (Am m0 ad)) (n := 30) (f := ((u2 σ 14 (16 * j + aN σ j) ((σ 14 (16 * j + aN σ j)) + (σ 8 j))) 9)) (x := (((u2 σ 14 (16 * j + aN σ j) ((σ 14 (16 * j + aN σ j)) + (σ 8 j))) 9 j) + 1)) hx hb hK.1 0 (hM.2.1 9 rfl) (Am.arr 9 rfl) hS rfl j rfl (by omega) (by decide) dX8_step_188 (fun H13 locs hO14 hz15 hq16 hS => ?_)
    have hM := MD.arr 9 (i := j) (v := (((u2 σ 14 (16 * j + aN σ j) ((σ 14 (16 * j + aN σ j)) + (σ 8 j))) 9 j) + 1)) hM rfl hO14 hq16
    exact k_retv hx hb hr hlocks (hM.eq (by unfold stp stB; rw [if_neg k0, if_pos k1])) hS dX8_step_189
  by_cases k2 : σ 4 j = 2
  · refine lv_tableIn (off := 83) (tgt := 106) hx hb dX8_step_23 (by rw [k2]; decide) (by rw [k2]; decide) (by rw [k2]; decide) (by decide) ?_
    refine lv_aload_n hx hb dX8_step_106 rfl (lv_at hl 1 rfl) ?_
    refine lv_iload_n hx hb dX8_step_107 rfl (lv_at hl 2 rfl) ?_
    refine k_callv (va_runV (As := [.int (nI j)]) (rest := []) ⟨hx, hb, hml, hown, hts⟩ (c_X8_round l _ m0 ad σ nv j hM hj hv hv1 hv2) (cwV 1 hts gX8_step_X8_round rfl rfl rfl (by decide +kernel) ⟨Nat.le_of_ble_eq_true rfl, Nat.le_of_ble_eq_true rfl⟩) (k_preV hK (k_recv hK.1 hM.1 rfl)) rfl rfl hl.1 rfl (lv_room (Nat.le_of_ble_eq_true rfl)) dX8_step_108 ⟨(Nat.zero_le _), (Nat.zero_le _)⟩) hS (fun _ h => h) (fun H2 locs hM _ _ hS => ?_)
    refine lv_goto (tgt := 179) hx hb dX8_step_111 (by decide) ?_
    refine lv_aload_n hx hb dX8_step_179 rfl (lv_at hl 1 rfl) ?_
    refine k_get (C := RX8) (T := TX8) (N := 22) (v := .ref (ad 9)) hx hb hts hiX8 hown hK.1 hM.1 rfl 9 (by decide) (hts (.fieldLink RX8 32 "HouseWorkersModel" "done" "[I") (by decide +kernel)) (fun _ h9 => h9) rfl dX8_step_180 ?_
    refine lv_iload_n hx hb dX8_step_183 rfl (lv_at hl 2 rfl) ?_
    refine lv_dup2_11 hx hb dX8_step_184 rfl rfl ?_
    refine k_iald (n := 30) (f := ((rd σ nv j) 9)) hx hb hK.1 0 (hM.2.1 9 rfl) rfl j rfl (by omega) (by decide) dX8_step_185 ?_
    refine lv_iconst (v := 1) hx hb dX8_step_186 (by decide) ?_
    refine lv_iadd hx hb dX8_step_187 ?_
    refine k_iast (A := (Am m0 ad)) (n := 30) (f := ((rd σ nv j) 9)) (x := (((rd σ nv j) 9 j) + 1)) hx hb hK.1 0 (hM.2.1 9 rfl) (Am.arr 9 rfl) hS rfl j rfl (by omega) (by decide) dX8_step_188 (fun H17 locs hO18 hz19 hq20 hS => ?_)
    have hM := MD.arr 9 (i := j) (v := (((rd σ nv j) 9 j) + 1)) hM rfl hO18 hq20
    exact k_retv hx hb hr hlocks (hM.eq (by unfold stp stB; rw [if_neg k0, if_neg k1, if_pos k2])) hS dX8_step_189
  refine lv_tableOut (tgt := 114) hx hb dX8_step_23 (tb_out2 k0 k1 k2) (by decide) ?_
  refine lv_aload_n hx hb dX8_step_114 rfl (lv_at hl 1 rfl) ?_
  refine k_get (C := RX8) (T := TX8) (N := 22) (v := .ref (ad 11)) hx hb hts hiX8 hown hK.1 hM.1 rfl 11 (by decide) (hts (.fieldLink RX8 38 "HouseWorkersModel" "version" "[I") (by decide +kernel)) (fun _ h9 => h9) rfl dX8_step_115 ?_
  refine lv_iload_n hx hb dX8_step_118 rfl (lv_at hl 2 rfl) ?_
  refine lv_dup2_11 hx hb dX8_step_119 rfl rfl ?_
  refine k_iald (n := 30) (f := (σ 11)) hx hb hK.1 0 (hM.2.1 11 rfl) rfl j rfl (by omega) (by decide) dX8_step_120 ?_
  refine lv_iconst (v := 1) hx hb dX8_step_121 (by decide) ?_
  refine lv_iadd hx hb dX8_step_122 ?_
  refine k_iast (A := (Am m0 ad)) (n := 30) (f := (σ 11)) (x := ((σ 11 j) + 1)) hx hb hK.1 0 (hM.2.1 11 rfl) (Am.arr 11 rfl) hS rfl j rfl (by omega) (by decide) dX8_step_123 (fun H21 locs hO22 hz23 hq24 hS => ?_)
  have hM := MD.arr 11 (i := j) (v := ((σ 11 j) + 1)) hM rfl hO22 hq24
  refine lv_iconst (v := 0) hx hb dX8_step_124 (by decide) ?_
  refine lv_istore_n (lv' := [(3, .int 0), (2, .int (nI (aN σ j))), (0, .ref m0), (1, .int (nI j))]) hx hb dX8_step_125 rfl hl (by decide) rfl (fun ls hl => ?_)
  refine lv_iconst (v := 0) hx hb dX8_step_126 (by decide) ?_
  refine lv_istore (lv' := [(4, .int 0), (3, .int 0), (2, .int (nI (aN σ j))), (0, .ref m0), (1, .int (nI j))]) hx hb dX8_step_127 hl (by decide) rfl (fun ls hl => ?_)
  obtain ⟨v, hvv, h11⟩ := hk3 k0 k1 k2
  obtain ⟨τ, hτ⟩ : ∃ z : Sg, z = (u2 σ 11 j ((σ 11 j) + 1)) := ⟨_, rfl⟩
  rw [← hτ] at hM
  have hn1 : nat (σ 11 j + 1) = v + 1 := by rw [h11, nI_1]; exact nat_nI (by omega)
  have hτ11 : τ 11 j = nI (v + 1) := by rw [hτ, u2_same, h11, nI_1]
  have loop : ∀ (n : Nat), ∀ (i : Nat), i ≤ 16 → 17 ≤ i + n → ∀ (H : Heap) (locs : List Loc), MD D cI cZ m0 ad τ H → va_S (Am m0 ad) s.heap H locs → ∀ ls : Array Slot, lv_has ls 5 [(4, .int (nI i)), (3, .int (isum (fun c => σ 0 (16 * nat (σ 11 j + 1) + c)) i)), (2, .int (nI (aN σ j))), (0, .ref m0), (1, .int (nI j))] → W p l e (headSpec wsX8_step ({ frames := 1, cells := 0, slots := 0, locals := 23 })).room s m ([.ref m0, .int (nI j)] : List Value).toArray below meth c H locs 0 0 (MQ below (Qkv (fun H1 => MD D cI cZ m0 ad (stp σ nv j) H1) (Am m0 ad)) ([.ref m0, .int (nI j)] : List Value).toArray s 0 0 (Am m0 ad)) (F0 m 129 ls []) := by
    intro n
    induction n with
    | zero => intro i h1 h2; exact absurd h2 (by omega)
    | succ n ih =>
      intro i hi hn H locs hM hS ls hl
      refine lv_iload hx hb dX8_step_129 (lv_at hl 0 rfl) ?_
      refine lv_bipush (v := 16) hx hb dX8_step_131 (by decide) ?_
      refine lv_icmp_ge (tgt := 162) hx hb dX8_step_133 (by decide) (fun c133 => ?_) (fun c133 => ?_)
      · have c133 := Int32.not_lt.mpr c133
        have c133 : ¬ nI i < nI 16 := c133
        have hij : i = 16 := Nat.le_antisymm (by omega) (Nat.le_of_not_lt (fun q => c133 (nI_lt q (by omega))))
        subst hij
        refine lv_aload_n hx hb dX8_step_162 rfl (lv_at hl 3 rfl) ?_
        refine k_get (C := RX8) (T := TX8) (N := 22) (v := .ref (ad 10)) hx hb hts hiX8 hown hK.1 hM.1 rfl 10 (by decide) (hts (.fieldLink RX8 35 "HouseWorkersModel" "answer" "[I") (by decide +kernel)) (fun _ h9 => h9) rfl dX8_step_163 ?_
        refine lv_iload_n hx hb dX8_step_166 rfl (lv_at hl 4 rfl) ?_
        refine lv_bipush (v := 31) hx hb dX8_step_167 (by decide) ?_
        refine lv_aload_n hx hb dX8_step_169 rfl (lv_at hl 3 rfl) ?_
        refine k_get (C := RX8) (T := TX8) (N := 22) (v := .ref (ad 10)) hx hb hts hiX8 hown hK.1 hM.1 rfl 10 (by decide) (hts (.fieldLink RX8 35 "HouseWorkersModel" "answer" "[I") (by decide +kernel)) (fun _ h9 => h9) rfl dX8_step_170 ?_
        refine lv_iload_n hx hb dX8_step_173 rfl (lv_at hl 4 rfl) ?_
        refine k_iald (n := 30) (f := (τ 10)) hx hb hK.1 0 (hM.2.1 10 rfl) rfl j rfl (by omega) (by decide) dX8_step_174 ?_
        refine lv_imul hx hb dX8_step_175 ?_
        refine lv_iload_n hx hb dX8_step_176 rfl (lv_at hl 1 rfl) ?_
        refine lv_iadd hx hb dX8_step_177 ?_
        refine k_iast (A := (Am m0 ad)) (n := 30) (f := (τ 10)) (x := ((31 * (τ 10 j)) + (isum (fun c => σ 0 (16 * nat (σ 11 j + 1) + c)) 16))) hx hb hK.1 0 (hM.2.1 10 rfl) (Am.arr 10 rfl) hS rfl j rfl (by omega) (by decide) dX8_step_178 (fun H25 locs hO26 hz27 hq28 hS => ?_)
        have hM := MD.arr 10 (i := j) (v := ((31 * (τ 10 j)) + (isum (fun c => σ 0 (16 * nat (σ 11 j + 1) + c)) 16))) hM rfl hO26 hq28
        refine lv_aload_n hx hb dX8_step_179 rfl (lv_at hl 3 rfl) ?_
        refine k_get (C := RX8) (T := TX8) (N := 22) (v := .ref (ad 9)) hx hb hts hiX8 hown hK.1 hM.1 rfl 9 (by decide) (hts (.fieldLink RX8 32 "HouseWorkersModel" "done" "[I") (by decide +kernel)) (fun _ h9 => h9) rfl dX8_step_180 ?_
        refine lv_iload_n hx hb dX8_step_183 rfl (lv_at hl 4 rfl) ?_
        refine lv_dup2_11 hx hb dX8_step_184 rfl rfl ?_
        refine k_iald (n := 30) (f := ((u2 τ 10 j ((31 * (τ 10 j)) + (isum (fun c => σ 0 (16 * nat (σ 11 j + 1) + c)) 16))) 9)) hx hb hK.1 0 (hM.2.1 9 rfl) rfl j rfl (by omega) (by decide) dX8_step_185 ?_
        refine lv_iconst (v := 1) hx hb dX8_step_186 (by decide) ?_
        refine lv_iadd hx hb dX8_step_187 ?_
        refine k_iast (A := (Am m0 ad)) (n := 30) (f := ((u2 τ 10 j ((31 * (τ 10 j)) + (isum (fun c => σ 0 (16 * nat (σ 11 j + 1) + c)) 16))) 9)) (x := (((u2 τ 10 j ((31 * (τ 10 j)) + (isum (fun c => σ 0 (16 * nat (σ 11 j + 1) + c)) 16))) 9 j) + 1)) hx hb hK.1 0 (hM.2.1 9 rfl) (Am.arr 9 rfl) hS rfl j rfl (by omega) (by decide) dX8_step_188 (fun H29 locs hO30 hz31 hq32 hS => ?_)
        have hM := MD.arr 9 (i := j) (v := (((u2 τ 10 j ((31 * (τ 10 j)) + (isum (fun c => σ 0 (16 * nat (σ 11 j + 1) + c)) 16))) 9 j) + 1)) hM rfl hO30 hq32
        exact k_retv hx hb hr hlocks (hM.eq (by unfold stp stB; rw [if_neg k0, if_neg k1, if_neg k2]; rw [hτ]; rfl)) hS dX8_step_189
      · have c133 := Int32.not_le.mp c133
        have hlt : i < 16 := (nI_ltI (by omega) (by omega)).mp c133
        refine lv_iload_n hx hb dX8_step_136 rfl (lv_at hl 1 rfl) ?_
        refine lv_aload_n hx hb dX8_step_137 rfl (lv_at hl 3 rfl) ?_
        refine k_get (C := RX8) (T := TX8) (N := 22) (v := .ref (ad 0)) hx hb hts hiX8 hown hK.1 hM.1 rfl 0 (by decide) (hts (.fieldLink RX8 7 "HouseWorkersModel" "cells" "[I") (by decide +kernel)) (fun _ h9 => h9) rfl dX8_step_138 ?_
        refine lv_bipush (v := 16) hx hb dX8_step_141 (by decide) ?_
        refine lv_aload_n hx hb dX8_step_143 rfl (lv_at hl 3 rfl) ?_
        refine k_get (C := RX8) (T := TX8) (N := 22) (v := .ref (ad 11)) hx hb hts hiX8 hown hK.1 hM.1 rfl 11 (by decide) (hts (.fieldLink RX8 38 "HouseWorkersModel" "version" "[I") (by decide +kernel)) (fun _ h9 => h9) rfl dX8_step_144 ?_
        refine lv_iload_n hx hb dX8_step_147 rfl (lv_at hl 4 rfl) ?_
        refine k_iald (n := 30) (f := (τ 11)) hx hb hK.1 0 (hM.2.1 11 rfl) rfl j rfl (by omega) (by decide) dX8_step_148 ?_
        refine lv_imul hx hb dX8_step_149 ?_
        refine lv_iload hx hb dX8_step_150 (lv_at hl 0 rfl) ?_
        refine lv_iadd hx hb dX8_step_152 ?_
        refine k_iald (n := 640) (f := (τ 0)) hx hb hK.1 0 (hM.2.1 0 rfl) rfl (16 * nat (σ 11 j + 1) + i) (by rw [hτ11, hn1]; exact ix16 _ _) (by rw [hn1]; omega) (by decide) dX8_step_153 ?_
        refine lv_iadd hx hb dX8_step_154 ?_
        rw [show τ 0 = σ 0 by rw [hτ]; rfl]
        refine lv_istore_n (lv' := [(3, .int (isum (fun c => σ 0 (16 * nat (σ 11 j + 1) + c)) (i + 1))), (4, .int (nI i)), (2, .int (nI (aN σ j))), (0, .ref m0), (1, .int (nI j))]) hx hb dX8_step_155 rfl hl (by decide) rfl (fun ls hl => ?_)
        refine lv_iinc (v := nI (i + 1)) (lv' := [(4, .int (nI (i + 1))), (3, .int (isum (fun c => σ 0 (16 * nat (σ 11 j + 1) + c)) (i + 1))), (2, .int (nI (aN σ j))), (0, .ref m0), (1, .int (nI j))]) hx hb dX8_step_156 hl (k := 1) rfl (by rw [← nI_1]; rfl) (by decide) rfl (fun ls hl => ?_)
        refine lv_goto (tgt := 129) hx hb dX8_step_159 (by decide) ?_
        exact ih (i + 1) (by omega) (by omega) H locs hM hS ls (lv_sub hl [0, 1, 2, 3, 4] rfl)
  exact loop 17 0 (Nat.zero_le _) (by omega) _ _ hM hS ls (lv_sub hl [0, 1, 2, 3, 4] rfl)
set_option maxHeartbeats 4000000 in
set_option maxRecDepth 100000 in
theorem c_X8_turn (l : Launch) {D : va_G} {cI cZ cO : ClassId} {mi : Nat} (H : Heap) (m0 : Nat) (ad : Nat → Nat) (σ : Sg) (nW nV nE : Nat) (x : Int32) (hM : MD D cI cZ m0 ad σ H) (hI : Inv σ nW nV nE) : Met l yX8_turn wsX8_turn ({ frames := 2, cells := 0, slots := 0, locals := 47 }) (Pk D cI cZ cO mi [.ref m0, .int x] H) (Qki (fun r H1 => r = (if inB x 0 (σ 3 0 - 1) = true then (tn σ nV nE (nat x)).1 else -1) ∧ MD D cI cZ m0 ad (if inB x 0 (σ 3 0 - 1) = true then (tn σ nV nE (nat x)).2 else σ) H1) (Am m0 ad)) 0 0 (Am m0 ad) := by
  refine Met.ofW (cc := cX8_turn) (maxL := 3) (ret := (some .int)) (by decide) rfl ?_
  intro p e s m args below meth c s₁ B hml hv
  obtain ⟨rfl, rfl, hK⟩ := hv
  have hx := B.exec
  have hb := B.bytes
  have hr := B.returns
  have hts := atoms_spec (ws := wsX8_turn) B.pre
  have hown : s.vm.findClass RX8 = some m.cls := findClass_of_methodNamed B.named
  have hlocks := B.notSynchronized
  have hS : va_S (Am m0 ad) s.heap s.heap [] := va_S.rf
  have hl := lv_entry ([.ref m0, .int x]) (n := 3) (Nat.le_of_ble_eq_true rfl)
  rw [lg_entry_eq]
  generalize (lg_sl ([.ref m0, .int x]) ++ List.replicate (3 - (lg_sl ([.ref m0, .int x])).length) Slot.unset).toArray = ls at hl ⊢
  have hl : lv_has ls 3 [(0, .ref m0), (1, .int x)] := hl
  have hiX8 : ∀ w ∈ wsX80, w ∈ wsX8_turn := by decide +kernel
  refine lv_iload_n hx hb dX8_turn_0 rfl (lv_at hl 1 rfl) ?_
  refine lv_iconst (v := 0) hx hb dX8_turn_1 (by decide) ?_
  refine lv_aload_n hx hb dX8_turn_2 rfl (lv_at hl 0 rfl) ?_
  refine k_get (C := RX8) (T := TX8) (N := 22) (v := .int (σ 3 0)) hx hb hts hiX8 hown hK.1 hM.1 rfl 3 (by decide) (hts (.fieldLink RX8 67 "HouseWorkersModel" "workers" "I") (by decide +kernel)) (fun _ h9 => h9) rfl dX8_turn_3 ?_
  refine lv_iconst (v := 1) hx hb dX8_turn_6 (by decide) ?_
  refine lv_isub hx hb dX8_turn_7 ?_
  refine k_callpi (v := b2 (inB x 0 (σ 3 0 - 1))) (va_runS (As := [.int x, .int 0, .int ((σ 3 0) - 1)]) (rest := []) ⟨hx, hb, hml, hown, hts⟩ (c_X8_in l _ x 0 (σ 3 0 - 1)) (va_cwS 3 hts gX8_turn_X8_in rfl rfl rfl (by decide +kernel) ⟨Nat.le_of_ble_eq_true rfl, Nat.le_of_ble_eq_true rfl⟩) (k_preS hK) rfl rfl hl.1 rfl (lv_room (Nat.le_of_ble_eq_true rfl)) dX8_turn_8 ⟨(Nat.zero_le _), (Nat.zero_le _)⟩) hS (fun locs hS => ?_)
  refine lv_if_ne (tgt := 16) hx hb dX8_turn_11 (by decide) (fun c11 => ?_) (fun c11 => ?_)
  · have hin : inB x 0 (σ 3 0 - 1) = true := b2_n c11
    rw [hI.1] at hin
    obtain ⟨j, hjW, hxj⟩ := inB_idx (by have := hI.2.2.2.1; omega) hin
    rw [← hI.1] at hin
    subst hxj
    have hn30 := hI.2.2.2.1
    have hvE := hI.2.2.2.2.2.1
    have heW := hI.eW
    rw [nat_nI (by omega)]
    rw [if_pos hin, if_pos hin]
    refine lv_aload_n hx hb dX8_turn_16 rfl (lv_at hl 0 rfl) ?_
    refine lv_iload_n hx hb dX8_turn_17 rfl (lv_at hl 1 rfl) ?_
    refine k_callpi (v := b2 (wt σ j)) (va_runV (As := [.int (nI j)]) (rest := []) ⟨hx, hb, hml, hown, hts⟩ (c_X8_waits l _ m0 ad σ j hM (by omega)) (cwV 1 hts gX8_turn_X8_waits rfl rfl rfl (by decide +kernel) ⟨Nat.le_of_ble_eq_true rfl, Nat.le_of_ble_eq_true rfl⟩) (k_preV hK (k_recv hK.1 hM.1 rfl)) rfl rfl hl.1 rfl (lv_room (Nat.le_of_ble_eq_true rfl)) dX8_turn_18 ⟨(Nat.zero_le _), (Nat.zero_le _)⟩) hS (fun locs hS => ?_)
    refine lv_if_eq (tgt := 49) hx hb dX8_turn_21 (by decide) (fun c21 => ?_) (fun c21 => ?_)
    · have hwt : wt σ j = false := b2_0 c21
      have hne : ¬ 0 < σ 12 j := fun q => by simp [wt, q] at hwt
      have hE := hI.lt hjW hne
      refine lv_aload_n hx hb dX8_turn_49 rfl (lv_at hl 0 rfl) ?_
      refine lv_dup hx hb dX8_turn_50 rfl ?_
      refine k_get (C := RX8) (T := TX8) (N := 22) (v := .int (σ 20 0)) hx hb hts hiX8 hown hK.1 hM.1 rfl 20 (by decide) (hts (.fieldLink RX8 85 "HouseWorkersModel" "did" "I") (by decide +kernel)) (fun _ h9 => h9) rfl dX8_turn_51 ?_
      refine lv_iconst (v := 1) hx hb dX8_turn_54 (by decide) ?_
      refine lv_iadd hx hb dX8_turn_55 ?_
      refine k_put (A := (Am m0 ad)) (C := RX8) (T := TX8) (N := 22) (ty := .int) (v := .int ((σ 20 0) + 1)) hx hb hts hiX8 tyX8 tyX8_ok nmX8 hown hK.1 hM.1 Am.ob hS rfl 20 (by decide) (hts (.fieldLink RX8 85 "HouseWorkersModel" "did" "I") (by decide +kernel)) (fun _ h9 => h9) rfl (by decide +kernel) rfl rfl (Nat.le_of_ble_eq_true rfl) dX8_turn_56 (fun H1 locs hO2 hz3 hq4 hS => ?_)
      have hM := MD.fld 20 (v := ((σ 20 0) + 1)) hM rfl hO2 hq4
      refine lv_iconst (v := 1) hx hb dX8_turn_59 (by decide) ?_
      refine lv_istore_n (lv' := [(2, .int 1), (0, .ref m0), (1, .int (nI j))]) hx hb dX8_turn_60 rfl hl (by decide) rfl (fun ls hl => ?_)
      refine lv_aload_n hx hb dX8_turn_61 rfl (lv_at hl 1 rfl) ?_
      refine k_get (C := RX8) (T := TX8) (N := 22) (v := .ref (ad 13)) hx hb hts hiX8 hown hK.1 hM.1 rfl 13 (by decide) (hts (.fieldLink RX8 44 "HouseWorkersModel" "told" "[Z") (by decide +kernel)) (fun _ h9 => h9) rfl dX8_turn_62 ?_
      refine lv_iload_n hx hb dX8_turn_65 rfl (lv_at hl 2 rfl) ?_
      refine k_zald (n := 30) (f := ((u2 σ 20 0 ((σ 20 0) + 1)) 13)) hx hb hK.1 1 hM.2.2.1 rfl j rfl (by omega) (by decide) dX8_turn_66 ?_
      refine lv_if_eq (tgt := 75) hx hb dX8_turn_67 (by decide) (fun c67 => ?_) (fun c67 => ?_)
      · refine lv_aload_n hx hb dX8_turn_75 rfl (lv_at hl 1 rfl) ?_
        refine k_get (C := RX8) (T := TX8) (N := 22) (v := .ref (ad 9)) hx hb hts hiX8 hown hK.1 hM.1 rfl 9 (by decide) (hts (.fieldLink RX8 32 "HouseWorkersModel" "done" "[I") (by decide +kernel)) (fun _ h9 => h9) rfl dX8_turn_76 ?_
        refine lv_iload_n hx hb dX8_turn_79 rfl (lv_at hl 2 rfl) ?_
        refine k_iald (n := 30) (f := ((u2 σ 20 0 ((σ 20 0) + 1)) 9)) hx hb hK.1 0 (hM.2.1 9 rfl) rfl j rfl (by omega) (by decide) dX8_turn_80 ?_
        refine lv_aload_n hx hb dX8_turn_81 rfl (lv_at hl 1 rfl) ?_
        refine k_get (C := RX8) (T := TX8) (N := 22) (v := .ref (ad 5)) hx hb hts hiX8 hown hK.1 hM.1 rfl 5 (by decide) (hts (.fieldLink RX8 20 "HouseWorkersModel" "steps" "[I") (by decide +kernel)) (fun _ h9 => h9) rfl dX8_turn_82 ?_
        refine lv_iload_n hx hb dX8_turn_85 rfl (lv_at hl 2 rfl) ?_
        refine k_iald (n := 30) (f := ((u2 σ 20 0 ((σ 20 0) + 1)) 5)) hx hb hK.1 0 (hM.2.1 5 rfl) rfl j rfl (by omega) (by decide) dX8_turn_86 ?_
        refine lv_icmp_ne (tgt := 110) hx hb dX8_turn_87 (by decide) (fun c87 => ?_) (fun c87 => ?_)
        · refine lv_aload_n hx hb dX8_turn_110 rfl (lv_at hl 1 rfl) ?_
          refine k_get (C := RX8) (T := TX8) (N := 22) (v := .ref (ad 6)) hx hb hts hiX8 hown hK.1 hM.1 rfl 6 (by decide) (hts (.fieldLink RX8 23 "HouseWorkersModel" "failsAt" "[I") (by decide +kernel)) (fun _ h9 => h9) rfl dX8_turn_111 ?_
          refine lv_iload_n hx hb dX8_turn_114 rfl (lv_at hl 2 rfl) ?_
          refine k_iald (n := 30) (f := ((u2 σ 20 0 ((σ 20 0) + 1)) 6)) hx hb hK.1 0 (hM.2.1 6 rfl) rfl j rfl (by omega) (by decide) dX8_turn_115 ?_
          refine lv_aload_n hx hb dX8_turn_116 rfl (lv_at hl 1 rfl) ?_
          refine k_get (C := RX8) (T := TX8) (N := 22) (v := .ref (ad 9)) hx hb hts hiX8 hown hK.1 hM.1 rfl 9 (by decide) (hts (.fieldLink RX8 32 "HouseWorkersModel" "done" "[I") (by decide +kernel)) (fun _ h9 => h9) rfl dX8_turn_117 ?_
          refine lv_iload_n hx hb dX8_turn_120 rfl (lv_at hl 2 rfl) ?_
          refine k_iald (n := 30) (f := ((u2 σ 20 0 ((σ 20 0) + 1)) 9)) hx hb hK.1 0 (hM.2.1 9 rfl) rfl j rfl (by omega) (by decide) dX8_turn_121 ?_
          refine lv_iconst (v := 1) hx hb dX8_turn_122 (by decide) ?_
          refine lv_iadd hx hb dX8_turn_123 ?_
          refine lv_icmp_ne (tgt := 132) hx hb dX8_turn_124 (by decide) (fun c124 => ?_) (fun c124 => ?_)
          · refine lv_aload_n hx hb dX8_turn_132 rfl (lv_at hl 1 rfl) ?_
            refine lv_iload_n hx hb dX8_turn_133 rfl (lv_at hl 2 rfl) ?_
            obtain ⟨zst, zfa, za, zd, z5, z6, z7, z9, z1, z2, z3, z4, zc⟩ := hI.2.2.2.2.2.2.2.2.1 j hjW
            refine k_callv (va_runV (As := [.int (nI j)]) (rest := []) ⟨hx, hb, hml, hown, hts⟩ (c_X8_step l _ m0 ad (u2 σ 20 0 ((σ 20 0) + 1)) nV j za zd hM (by omega) hI.2.1 hI.2.2.2.2.1 (by omega) z7 z2 z9 (by omega) (fun k => by rcases zc with zc | zc | zc | zc; (obtain ⟨v, q1, q2⟩ := zc.2.2.2.2.2; exact ⟨v, by omega, q2⟩); (exact absurd (zc.1.symm.trans k) (by decide)); (exact absurd (zc.1.symm.trans k) (by decide)); (exact absurd (zc.1.symm.trans k) (by decide))) (fun k0 k1 k2 => by rcases zc with zc | zc | zc | zc; (exact absurd zc.1 k0); (exact absurd zc.1 k1); (exact absurd zc.1 k2); (obtain ⟨v, q1, q2, q3⟩ := zc.2.2.2; exact ⟨v, by omega, q3⟩))) (cwV 1 hts gX8_turn_X8_step rfl rfl rfl (by decide +kernel) ⟨Nat.le_of_ble_eq_true rfl, Nat.le_of_ble_eq_true rfl⟩) (k_preV hK (k_recv hK.1 hM.1 rfl)) rfl rfl hl.1 rfl (lv_room (Nat.le_of_ble_eq_true rfl)) dX8_turn_134 ⟨(Nat.zero_le _), (Nat.zero_le _)⟩) hS (fun _ h => h) (fun H5 locs hM _ _ hS => ?_)
            refine lv_aload_n hx hb dX8_turn_137 rfl (lv_at hl 1 rfl) ?_
            refine k_get (C := RX8) (T := TX8) (N := 22) (v := .ref (ad 4)) hx hb hts hiX8 hown hK.1 hM.1 rfl 4 (by decide) (hts (.fieldLink RX8 17 "HouseWorkersModel" "kind" "[I") (by decide +kernel)) (fun _ h9 => h9) rfl dX8_turn_138 ?_
            refine lv_iload_n hx hb dX8_turn_141 rfl (lv_at hl 2 rfl) ?_
            refine k_iald (n := 30) (f := ((stp (u2 σ 20 0 ((σ 20 0) + 1)) nV j) 4)) hx hb hK.1 0 (hM.2.1 4 rfl) rfl j rfl (by omega) (by decide) dX8_turn_142 ?_
            refine lv_if_ne (tgt := 165) hx hb dX8_turn_143 (by decide) (fun c143 => ?_) (fun c143 => ?_)
            · refine lv_iconst (v := 1) hx hb dX8_turn_165 (by decide) ?_
              refine lv_istore_n (lv' := [(2, .int 1), (0, .ref m0), (1, .int (nI j))]) hx hb dX8_turn_166 rfl hl (by decide) rfl (fun ls hl => ?_)
              refine lv_iload_n hx hb dX8_turn_167 rfl (lv_at hl 0 rfl) ?_
              refine lv_iconst (v := 1) hx hb dX8_turn_168 (by decide) ?_
              refine lv_icmp_le (tgt := 178) hx hb dX8_turn_169 (by decide) (fun c169 => ?_) (fun c169 => ?_)
              · refine lv_iload_n hx hb dX8_turn_178 rfl (lv_at hl 0 rfl) ?_
                have ht : tn σ nV nE j = (1, (stp (u2 σ 20 0 ((σ 20 0) + 1)) nV j)) := by rw [tn, hwt, cond_false]; unfold tnD; rw [if_neg (fun q => q c67), if_neg (fun q => c87 q.1), if_neg c124, if_neg (fun q => c143 q.1)]
                exact k_reti hx hb hr hlocks ⟨by rw [ht], by rw [ht]; exact hM⟩ hS dX8_turn_179
              · exact absurd c169 (by decide)
            · refine lv_aload_n hx hb dX8_turn_146 rfl (lv_at hl 1 rfl) ?_
              refine k_get (C := RX8) (T := TX8) (N := 22) (v := .ref (ad 9)) hx hb hts hiX8 hown hK.1 hM.1 rfl 9 (by decide) (hts (.fieldLink RX8 32 "HouseWorkersModel" "done" "[I") (by decide +kernel)) (fun _ h9 => h9) rfl dX8_turn_147 ?_
              refine lv_iload_n hx hb dX8_turn_150 rfl (lv_at hl 2 rfl) ?_
              refine k_iald (n := 30) (f := ((stp (u2 σ 20 0 ((σ 20 0) + 1)) nV j) 9)) hx hb hK.1 0 (hM.2.1 9 rfl) rfl j rfl (by omega) (by decide) dX8_turn_151 ?_
              refine lv_aload_n hx hb dX8_turn_152 rfl (lv_at hl 1 rfl) ?_
              refine k_get (C := RX8) (T := TX8) (N := 22) (v := .ref (ad 5)) hx hb hts hiX8 hown hK.1 hM.1 rfl 5 (by decide) (hts (.fieldLink RX8 20 "HouseWorkersModel" "steps" "[I") (by decide +kernel)) (fun _ h9 => h9) rfl dX8_turn_153 ?_
              refine lv_iload_n hx hb dX8_turn_156 rfl (lv_at hl 2 rfl) ?_
              refine k_iald (n := 30) (f := ((stp (u2 σ 20 0 ((σ 20 0) + 1)) nV j) 5)) hx hb hK.1 0 (hM.2.1 5 rfl) rfl j rfl (by omega) (by decide) dX8_turn_157 ?_
              refine lv_icmp_ne (tgt := 165) hx hb dX8_turn_158 (by decide) (fun c158 => ?_) (fun c158 => ?_)
              · refine lv_iconst (v := 1) hx hb dX8_turn_165 (by decide) ?_
                refine lv_istore_n (lv' := [(2, .int 1), (0, .ref m0), (1, .int (nI j))]) hx hb dX8_turn_166 rfl hl (by decide) rfl (fun ls hl => ?_)
                refine lv_iload_n hx hb dX8_turn_167 rfl (lv_at hl 0 rfl) ?_
                refine lv_iconst (v := 1) hx hb dX8_turn_168 (by decide) ?_
                refine lv_icmp_le (tgt := 178) hx hb dX8_turn_169 (by decide) (fun c169 => ?_) (fun c169 => ?_)
                · refine lv_iload_n hx hb dX8_turn_178 rfl (lv_at hl 0 rfl) ?_
                  have ht : tn σ nV nE j = (1, (stp (u2 σ 20 0 ((σ 20 0) + 1)) nV j)) := by rw [tn, hwt, cond_false]; unfold tnD; rw [if_neg (fun q => q c67), if_neg (fun q => c87 q.1), if_neg c124, if_neg (fun q => c158 q.2)]
                  exact k_reti hx hb hr hlocks ⟨by rw [ht], by rw [ht]; exact hM⟩ hS dX8_turn_179
                · exact absurd c169 (by decide)
              · refine lv_iconst (v := 2) hx hb dX8_turn_161 (by decide) ?_
                refine lv_goto (tgt := 166) hx hb dX8_turn_162 (by decide) ?_
                refine lv_istore_n (lv' := [(2, .int 2), (0, .ref m0), (1, .int (nI j))]) hx hb dX8_turn_166 rfl hl (by decide) rfl (fun ls hl => ?_)
                refine lv_iload_n hx hb dX8_turn_167 rfl (lv_at hl 0 rfl) ?_
                refine lv_iconst (v := 1) hx hb dX8_turn_168 (by decide) ?_
                refine lv_icmp_le (tgt := 178) hx hb dX8_turn_169 (by decide) (fun c169 => ?_) (fun c169 => ?_)
                · exact absurd c169 (by decide)
                · refine lv_aload_n hx hb dX8_turn_172 rfl (lv_at hl 1 rfl) ?_
                  refine lv_iload_n hx hb dX8_turn_173 rfl (lv_at hl 2 rfl) ?_
                  refine lv_iload_n hx hb dX8_turn_174 rfl (lv_at hl 0 rfl) ?_
                  refine k_callv (va_runV (As := [.int (nI j), .int 2]) (rest := []) ⟨hx, hb, hml, hown, hts⟩ (c_X8_finish l _ m0 ad (stp (u2 σ 20 0 ((σ 20 0) + 1)) nV j) nE j 2 hM (by omega) (show ((stp (u2 σ 20 0 ((σ 20 0) + 1)) nV j)) 16 0 = nI nE from (stp_k 0 (by decide) (by decide) (by decide) (by decide) (by decide)).trans hI.2.2.1) (by omega)) (cwV 2 hts gX8_turn_X8_finish rfl rfl rfl (by decide +kernel) ⟨Nat.le_of_ble_eq_true rfl, Nat.le_of_ble_eq_true rfl⟩) (k_preV hK (k_recv hK.1 hM.1 rfl)) rfl rfl hl.1 rfl (lv_room (Nat.le_of_ble_eq_true rfl)) dX8_turn_175 ⟨(Nat.zero_le _), (Nat.zero_le _)⟩) hS (fun _ h => h) (fun H6 locs hM _ _ hS => ?_)
                  refine lv_iload_n hx hb dX8_turn_178 rfl (lv_at hl 0 rfl) ?_
                  have ht : tn σ nV nE j = (2, (fin (stp (u2 σ 20 0 ((σ 20 0) + 1)) nV j) nE j 2)) := by rw [tn, hwt, cond_false]; unfold tnD; rw [if_neg (fun q => q c67), if_neg (fun q => c87 q.1), if_neg c124, if_pos ⟨c143, c158⟩]
                  exact k_reti hx hb hr hlocks ⟨by rw [ht], by rw [ht]; exact hM⟩ hS dX8_turn_179
          · refine lv_iconst (v := 3) hx hb dX8_turn_127 (by decide) ?_
            refine lv_istore_n (lv' := [(2, .int 3), (0, .ref m0), (1, .int (nI j))]) hx hb dX8_turn_128 rfl hl (by decide) rfl (fun ls hl => ?_)
            refine lv_goto (tgt := 167) hx hb dX8_turn_129 (by decide) ?_
            refine lv_iload_n hx hb dX8_turn_167 rfl (lv_at hl 0 rfl) ?_
            refine lv_iconst (v := 1) hx hb dX8_turn_168 (by decide) ?_
            refine lv_icmp_le (tgt := 178) hx hb dX8_turn_169 (by decide) (fun c169 => ?_) (fun c169 => ?_)
            · exact absurd c169 (by decide)
            · refine lv_aload_n hx hb dX8_turn_172 rfl (lv_at hl 1 rfl) ?_
              refine lv_iload_n hx hb dX8_turn_173 rfl (lv_at hl 2 rfl) ?_
              refine lv_iload_n hx hb dX8_turn_174 rfl (lv_at hl 0 rfl) ?_
              refine k_callv (va_runV (As := [.int (nI j), .int 3]) (rest := []) ⟨hx, hb, hml, hown, hts⟩ (c_X8_finish l _ m0 ad (u2 σ 20 0 ((σ 20 0) + 1)) nE j 3 hM (by omega) (show ((u2 σ 20 0 ((σ 20 0) + 1))) 16 0 = nI nE from hI.2.2.1) (by omega)) (cwV 2 hts gX8_turn_X8_finish rfl rfl rfl (by decide +kernel) ⟨Nat.le_of_ble_eq_true rfl, Nat.le_of_ble_eq_true rfl⟩) (k_preV hK (k_recv hK.1 hM.1 rfl)) rfl rfl hl.1 rfl (lv_room (Nat.le_of_ble_eq_true rfl)) dX8_turn_175 ⟨(Nat.zero_le _), (Nat.zero_le _)⟩) hS (fun _ h => h) (fun H7 locs hM _ _ hS => ?_)
              refine lv_iload_n hx hb dX8_turn_178 rfl (lv_at hl 0 rfl) ?_
              have ht : tn σ nV nE j = (3, (fin (u2 σ 20 0 ((σ 20 0) + 1)) nE j 3)) := by rw [tn, hwt, cond_false]; unfold tnD; rw [if_neg (fun q => q c67), if_neg (fun q => c87 q.1), if_pos c124]
              exact k_reti hx hb hr hlocks ⟨by rw [ht], by rw [ht]; exact hM⟩ hS dX8_turn_179
        · refine lv_aload_n hx hb dX8_turn_90 rfl (lv_at hl 1 rfl) ?_
          refine k_get (C := RX8) (T := TX8) (N := 22) (v := .ref (ad 4)) hx hb hts hiX8 hown hK.1 hM.1 rfl 4 (by decide) (hts (.fieldLink RX8 17 "HouseWorkersModel" "kind" "[I") (by decide +kernel)) (fun _ h9 => h9) rfl dX8_turn_91 ?_
          refine lv_iload_n hx hb dX8_turn_94 rfl (lv_at hl 2 rfl) ?_
          refine k_iald (n := 30) (f := ((u2 σ 20 0 ((σ 20 0) + 1)) 4)) hx hb hK.1 0 (hM.2.1 4 rfl) rfl j rfl (by omega) (by decide) dX8_turn_95 ?_
          refine lv_iconst (v := 3) hx hb dX8_turn_96 (by decide) ?_
          refine lv_icmp_eq (tgt := 110) hx hb dX8_turn_97 (by decide) (fun c97 => ?_) (fun c97 => ?_)
          · refine lv_aload_n hx hb dX8_turn_110 rfl (lv_at hl 1 rfl) ?_
            refine k_get (C := RX8) (T := TX8) (N := 22) (v := .ref (ad 6)) hx hb hts hiX8 hown hK.1 hM.1 rfl 6 (by decide) (hts (.fieldLink RX8 23 "HouseWorkersModel" "failsAt" "[I") (by decide +kernel)) (fun _ h9 => h9) rfl dX8_turn_111 ?_
            refine lv_iload_n hx hb dX8_turn_114 rfl (lv_at hl 2 rfl) ?_
            refine k_iald (n := 30) (f := ((u2 σ 20 0 ((σ 20 0) + 1)) 6)) hx hb hK.1 0 (hM.2.1 6 rfl) rfl j rfl (by omega) (by decide) dX8_turn_115 ?_
            refine lv_aload_n hx hb dX8_turn_116 rfl (lv_at hl 1 rfl) ?_
            refine k_get (C := RX8) (T := TX8) (N := 22) (v := .ref (ad 9)) hx hb hts hiX8 hown hK.1 hM.1 rfl 9 (by decide) (hts (.fieldLink RX8 32 "HouseWorkersModel" "done" "[I") (by decide +kernel)) (fun _ h9 => h9) rfl dX8_turn_117 ?_
            refine lv_iload_n hx hb dX8_turn_120 rfl (lv_at hl 2 rfl) ?_
            refine k_iald (n := 30) (f := ((u2 σ 20 0 ((σ 20 0) + 1)) 9)) hx hb hK.1 0 (hM.2.1 9 rfl) rfl j rfl (by omega) (by decide) dX8_turn_121 ?_
            refine lv_iconst (v := 1) hx hb dX8_turn_122 (by decide) ?_
            refine lv_iadd hx hb dX8_turn_123 ?_
            refine lv_icmp_ne (tgt := 132) hx hb dX8_turn_124 (by decide) (fun c124 => ?_) (fun c124 => ?_)
            · refine lv_aload_n hx hb dX8_turn_132 rfl (lv_at hl 1 rfl) ?_
              refine lv_iload_n hx hb dX8_turn_133 rfl (lv_at hl 2 rfl) ?_
              obtain ⟨zst, zfa, za, zd, z5, z6, z7, z9, z1, z2, z3, z4, zc⟩ := hI.2.2.2.2.2.2.2.2.1 j hjW
              refine k_callv (va_runV (As := [.int (nI j)]) (rest := []) ⟨hx, hb, hml, hown, hts⟩ (c_X8_step l _ m0 ad (u2 σ 20 0 ((σ 20 0) + 1)) nV j za zd hM (by omega) hI.2.1 hI.2.2.2.2.1 (by omega) z7 z2 z9 (by omega) (fun k => by rcases zc with zc | zc | zc | zc; (obtain ⟨v, q1, q2⟩ := zc.2.2.2.2.2; exact ⟨v, by omega, q2⟩); (exact absurd (zc.1.symm.trans k) (by decide)); (exact absurd (zc.1.symm.trans k) (by decide)); (exact absurd (zc.1.symm.trans k) (by decide))) (fun k0 k1 k2 => by rcases zc with zc | zc | zc | zc; (exact absurd zc.1 k0); (exact absurd zc.1 k1); (exact absurd zc.1 k2); (obtain ⟨v, q1, q2, q3⟩ := zc.2.2.2; exact ⟨v, by omega, q3⟩))) (cwV 1 hts gX8_turn_X8_step rfl rfl rfl (by decide +kernel) ⟨Nat.le_of_ble_eq_true rfl, Nat.le_of_ble_eq_true rfl⟩) (k_preV hK (k_recv hK.1 hM.1 rfl)) rfl rfl hl.1 rfl (lv_room (Nat.le_of_ble_eq_true rfl)) dX8_turn_134 ⟨(Nat.zero_le _), (Nat.zero_le _)⟩) hS (fun _ h => h) (fun H8 locs hM _ _ hS => ?_)
              refine lv_aload_n hx hb dX8_turn_137 rfl (lv_at hl 1 rfl) ?_
              refine k_get (C := RX8) (T := TX8) (N := 22) (v := .ref (ad 4)) hx hb hts hiX8 hown hK.1 hM.1 rfl 4 (by decide) (hts (.fieldLink RX8 17 "HouseWorkersModel" "kind" "[I") (by decide +kernel)) (fun _ h9 => h9) rfl dX8_turn_138 ?_
              refine lv_iload_n hx hb dX8_turn_141 rfl (lv_at hl 2 rfl) ?_
              refine k_iald (n := 30) (f := ((stp (u2 σ 20 0 ((σ 20 0) + 1)) nV j) 4)) hx hb hK.1 0 (hM.2.1 4 rfl) rfl j rfl (by omega) (by decide) dX8_turn_142 ?_
              refine lv_if_ne (tgt := 165) hx hb dX8_turn_143 (by decide) (fun c143 => ?_) (fun c143 => ?_)
              · refine lv_iconst (v := 1) hx hb dX8_turn_165 (by decide) ?_
                refine lv_istore_n (lv' := [(2, .int 1), (0, .ref m0), (1, .int (nI j))]) hx hb dX8_turn_166 rfl hl (by decide) rfl (fun ls hl => ?_)
                refine lv_iload_n hx hb dX8_turn_167 rfl (lv_at hl 0 rfl) ?_
                refine lv_iconst (v := 1) hx hb dX8_turn_168 (by decide) ?_
                refine lv_icmp_le (tgt := 178) hx hb dX8_turn_169 (by decide) (fun c169 => ?_) (fun c169 => ?_)
                · refine lv_iload_n hx hb dX8_turn_178 rfl (lv_at hl 0 rfl) ?_
                  have ht : tn σ nV nE j = (1, (stp (u2 σ 20 0 ((σ 20 0) + 1)) nV j)) := by rw [tn, hwt, cond_false]; unfold tnD; rw [if_neg (fun q => q c67), if_neg (fun q => q.2 c97), if_neg c124, if_neg (fun q => c143 q.1)]
                  exact k_reti hx hb hr hlocks ⟨by rw [ht], by rw [ht]; exact hM⟩ hS dX8_turn_179
                · exact absurd c169 (by decide)
              · refine lv_aload_n hx hb dX8_turn_146 rfl (lv_at hl 1 rfl) ?_
                refine k_get (C := RX8) (T := TX8) (N := 22) (v := .ref (ad 9)) hx hb hts hiX8 hown hK.1 hM.1 rfl 9 (by decide) (hts (.fieldLink RX8 32 "HouseWorkersModel" "done" "[I") (by decide +kernel)) (fun _ h9 => h9) rfl dX8_turn_147 ?_
                refine lv_iload_n hx hb dX8_turn_150 rfl (lv_at hl 2 rfl) ?_
                refine k_iald (n := 30) (f := ((stp (u2 σ 20 0 ((σ 20 0) + 1)) nV j) 9)) hx hb hK.1 0 (hM.2.1 9 rfl) rfl j rfl (by omega) (by decide) dX8_turn_151 ?_
                refine lv_aload_n hx hb dX8_turn_152 rfl (lv_at hl 1 rfl) ?_
                refine k_get (C := RX8) (T := TX8) (N := 22) (v := .ref (ad 5)) hx hb hts hiX8 hown hK.1 hM.1 rfl 5 (by decide) (hts (.fieldLink RX8 20 "HouseWorkersModel" "steps" "[I") (by decide +kernel)) (fun _ h9 => h9) rfl dX8_turn_153 ?_
                refine lv_iload_n hx hb dX8_turn_156 rfl (lv_at hl 2 rfl) ?_
                refine k_iald (n := 30) (f := ((stp (u2 σ 20 0 ((σ 20 0) + 1)) nV j) 5)) hx hb hK.1 0 (hM.2.1 5 rfl) rfl j rfl (by omega) (by decide) dX8_turn_157 ?_
                refine lv_icmp_ne (tgt := 165) hx hb dX8_turn_158 (by decide) (fun c158 => ?_) (fun c158 => ?_)
                · refine lv_iconst (v := 1) hx hb dX8_turn_165 (by decide) ?_
                  refine lv_istore_n (lv' := [(2, .int 1), (0, .ref m0), (1, .int (nI j))]) hx hb dX8_turn_166 rfl hl (by decide) rfl (fun ls hl => ?_)
                  refine lv_iload_n hx hb dX8_turn_167 rfl (lv_at hl 0 rfl) ?_
                  refine lv_iconst (v := 1) hx hb dX8_turn_168 (by decide) ?_
                  refine lv_icmp_le (tgt := 178) hx hb dX8_turn_169 (by decide) (fun c169 => ?_) (fun c169 => ?_)
                  · refine lv_iload_n hx hb dX8_turn_178 rfl (lv_at hl 0 rfl) ?_
                    have ht : tn σ nV nE j = (1, (stp (u2 σ 20 0 ((σ 20 0) + 1)) nV j)) := by rw [tn, hwt, cond_false]; unfold tnD; rw [if_neg (fun q => q c67), if_neg (fun q => q.2 c97), if_neg c124, if_neg (fun q => c158 q.2)]
                    exact k_reti hx hb hr hlocks ⟨by rw [ht], by rw [ht]; exact hM⟩ hS dX8_turn_179
                  · exact absurd c169 (by decide)
                · refine lv_iconst (v := 2) hx hb dX8_turn_161 (by decide) ?_
                  refine lv_goto (tgt := 166) hx hb dX8_turn_162 (by decide) ?_
                  refine lv_istore_n (lv' := [(2, .int 2), (0, .ref m0), (1, .int (nI j))]) hx hb dX8_turn_166 rfl hl (by decide) rfl (fun ls hl => ?_)
                  refine lv_iload_n hx hb dX8_turn_167 rfl (lv_at hl 0 rfl) ?_
                  refine lv_iconst (v := 1) hx hb dX8_turn_168 (by decide) ?_
                  refine lv_icmp_le (tgt := 178) hx hb dX8_turn_169 (by decide) (fun c169 => ?_) (fun c169 => ?_)
                  · exact absurd c169 (by decide)
                  · refine lv_aload_n hx hb dX8_turn_172 rfl (lv_at hl 1 rfl) ?_
                    refine lv_iload_n hx hb dX8_turn_173 rfl (lv_at hl 2 rfl) ?_
                    refine lv_iload_n hx hb dX8_turn_174 rfl (lv_at hl 0 rfl) ?_
                    refine k_callv (va_runV (As := [.int (nI j), .int 2]) (rest := []) ⟨hx, hb, hml, hown, hts⟩ (c_X8_finish l _ m0 ad (stp (u2 σ 20 0 ((σ 20 0) + 1)) nV j) nE j 2 hM (by omega) (show ((stp (u2 σ 20 0 ((σ 20 0) + 1)) nV j)) 16 0 = nI nE from (stp_k 0 (by decide) (by decide) (by decide) (by decide) (by decide)).trans hI.2.2.1) (by omega)) (cwV 2 hts gX8_turn_X8_finish rfl rfl rfl (by decide +kernel) ⟨Nat.le_of_ble_eq_true rfl, Nat.le_of_ble_eq_true rfl⟩) (k_preV hK (k_recv hK.1 hM.1 rfl)) rfl rfl hl.1 rfl (lv_room (Nat.le_of_ble_eq_true rfl)) dX8_turn_175 ⟨(Nat.zero_le _), (Nat.zero_le _)⟩) hS (fun _ h => h) (fun H9 locs hM _ _ hS => ?_)
                    refine lv_iload_n hx hb dX8_turn_178 rfl (lv_at hl 0 rfl) ?_
                    have ht : tn σ nV nE j = (2, (fin (stp (u2 σ 20 0 ((σ 20 0) + 1)) nV j) nE j 2)) := by rw [tn, hwt, cond_false]; unfold tnD; rw [if_neg (fun q => q c67), if_neg (fun q => q.2 c97), if_neg c124, if_pos ⟨c143, c158⟩]
                    exact k_reti hx hb hr hlocks ⟨by rw [ht], by rw [ht]; exact hM⟩ hS dX8_turn_179
            · refine lv_iconst (v := 3) hx hb dX8_turn_127 (by decide) ?_
              refine lv_istore_n (lv' := [(2, .int 3), (0, .ref m0), (1, .int (nI j))]) hx hb dX8_turn_128 rfl hl (by decide) rfl (fun ls hl => ?_)
              refine lv_goto (tgt := 167) hx hb dX8_turn_129 (by decide) ?_
              refine lv_iload_n hx hb dX8_turn_167 rfl (lv_at hl 0 rfl) ?_
              refine lv_iconst (v := 1) hx hb dX8_turn_168 (by decide) ?_
              refine lv_icmp_le (tgt := 178) hx hb dX8_turn_169 (by decide) (fun c169 => ?_) (fun c169 => ?_)
              · exact absurd c169 (by decide)
              · refine lv_aload_n hx hb dX8_turn_172 rfl (lv_at hl 1 rfl) ?_
                refine lv_iload_n hx hb dX8_turn_173 rfl (lv_at hl 2 rfl) ?_
                refine lv_iload_n hx hb dX8_turn_174 rfl (lv_at hl 0 rfl) ?_
                refine k_callv (va_runV (As := [.int (nI j), .int 3]) (rest := []) ⟨hx, hb, hml, hown, hts⟩ (c_X8_finish l _ m0 ad (u2 σ 20 0 ((σ 20 0) + 1)) nE j 3 hM (by omega) (show ((u2 σ 20 0 ((σ 20 0) + 1))) 16 0 = nI nE from hI.2.2.1) (by omega)) (cwV 2 hts gX8_turn_X8_finish rfl rfl rfl (by decide +kernel) ⟨Nat.le_of_ble_eq_true rfl, Nat.le_of_ble_eq_true rfl⟩) (k_preV hK (k_recv hK.1 hM.1 rfl)) rfl rfl hl.1 rfl (lv_room (Nat.le_of_ble_eq_true rfl)) dX8_turn_175 ⟨(Nat.zero_le _), (Nat.zero_le _)⟩) hS (fun _ h => h) (fun H10 locs hM _ _ hS => ?_)
                refine lv_iload_n hx hb dX8_turn_178 rfl (lv_at hl 0 rfl) ?_
                have ht : tn σ nV nE j = (3, (fin (u2 σ 20 0 ((σ 20 0) + 1)) nE j 3)) := by rw [tn, hwt, cond_false]; unfold tnD; rw [if_neg (fun q => q c67), if_neg (fun q => q.2 c97), if_pos c124]
                exact k_reti hx hb hr hlocks ⟨by rw [ht], by rw [ht]; exact hM⟩ hS dX8_turn_179
          · refine lv_aload_n hx hb dX8_turn_100 rfl (lv_at hl 1 rfl) ?_
            refine lv_iload_n hx hb dX8_turn_101 rfl (lv_at hl 2 rfl) ?_
            refine k_callv (va_runV (As := [.int (nI j)]) (rest := []) ⟨hx, hb, hml, hown, hts⟩ (c_X8_commit l _ m0 ad (u2 σ 20 0 ((σ 20 0) + 1)) nV j hM (by omega) hI.2.1 hI.2.2.2.2.1 (by omega)) (cwV 1 hts gX8_turn_X8_commit rfl rfl rfl (by decide +kernel) ⟨Nat.le_of_ble_eq_true rfl, Nat.le_of_ble_eq_true rfl⟩) (k_preV hK (k_recv hK.1 hM.1 rfl)) rfl rfl hl.1 rfl (lv_room (Nat.le_of_ble_eq_true rfl)) dX8_turn_102 ⟨(Nat.zero_le _), (Nat.zero_le _)⟩) hS (fun _ h => h) (fun H11 locs hM _ _ hS => ?_)
            refine lv_iconst (v := 2) hx hb dX8_turn_105 (by decide) ?_
            refine lv_istore_n (lv' := [(2, .int 2), (0, .ref m0), (1, .int (nI j))]) hx hb dX8_turn_106 rfl hl (by decide) rfl (fun ls hl => ?_)
            refine lv_goto (tgt := 167) hx hb dX8_turn_107 (by decide) ?_
            refine lv_iload_n hx hb dX8_turn_167 rfl (lv_at hl 0 rfl) ?_
            refine lv_iconst (v := 1) hx hb dX8_turn_168 (by decide) ?_
            refine lv_icmp_le (tgt := 178) hx hb dX8_turn_169 (by decide) (fun c169 => ?_) (fun c169 => ?_)
            · exact absurd c169 (by decide)
            · refine lv_aload_n hx hb dX8_turn_172 rfl (lv_at hl 1 rfl) ?_
              refine lv_iload_n hx hb dX8_turn_173 rfl (lv_at hl 2 rfl) ?_
              refine lv_iload_n hx hb dX8_turn_174 rfl (lv_at hl 0 rfl) ?_
              refine k_callv (va_runV (As := [.int (nI j), .int 2]) (rest := []) ⟨hx, hb, hml, hown, hts⟩ (c_X8_finish l _ m0 ad (cmt (u2 σ 20 0 ((σ 20 0) + 1)) nV j) nE j 2 hM (by omega) (show ((cmt (u2 σ 20 0 ((σ 20 0) + 1)) nV j)) 16 0 = nI nE from hI.2.2.1) (by omega)) (cwV 2 hts gX8_turn_X8_finish rfl rfl rfl (by decide +kernel) ⟨Nat.le_of_ble_eq_true rfl, Nat.le_of_ble_eq_true rfl⟩) (k_preV hK (k_recv hK.1 hM.1 rfl)) rfl rfl hl.1 rfl (lv_room (Nat.le_of_ble_eq_true rfl)) dX8_turn_175 ⟨(Nat.zero_le _), (Nat.zero_le _)⟩) hS (fun _ h => h) (fun H12 locs hM _ _ hS => ?_)
              refine lv_iload_n hx hb dX8_turn_178 rfl (lv_at hl 0 rfl) ?_
              have ht : tn σ nV nE j = (2, (fin (cmt (u2 σ 20 0 ((σ 20 0) + 1)) nV j) nE j 2)) := by rw [tn, hwt, cond_false]; unfold tnD; rw [if_neg (fun q => q c67), if_pos ⟨c87, c97⟩]
              exact k_reti hx hb hr hlocks ⟨by rw [ht], by rw [ht]; exact hM⟩ hS dX8_turn_179
      · refine lv_iconst (v := 4) hx hb dX8_turn_70 (by decide) ?_
        refine lv_istore_n (lv' := [(2, .int 4), (0, .ref m0), (1, .int (nI j))]) hx hb dX8_turn_71 rfl hl (by decide) rfl (fun ls hl => ?_)
        refine lv_goto (tgt := 167) hx hb dX8_turn_72 (by decide) ?_
        refine lv_iload_n hx hb dX8_turn_167 rfl (lv_at hl 0 rfl) ?_
        refine lv_iconst (v := 1) hx hb dX8_turn_168 (by decide) ?_
        refine lv_icmp_le (tgt := 178) hx hb dX8_turn_169 (by decide) (fun c169 => ?_) (fun c169 => ?_)
        · exact absurd c169 (by decide)
        · refine lv_aload_n hx hb dX8_turn_172 rfl (lv_at hl 1 rfl) ?_
          refine lv_iload_n hx hb dX8_turn_173 rfl (lv_at hl 2 rfl) ?_
          refine lv_iload_n hx hb dX8_turn_174 rfl (lv_at hl 0 rfl) ?_
          refine k_callv (va_runV (As := [.int (nI j), .int 4]) (rest := []) ⟨hx, hb, hml, hown, hts⟩ (c_X8_finish l _ m0 ad (u2 σ 20 0 ((σ 20 0) + 1)) nE j 4 hM (by omega) (show ((u2 σ 20 0 ((σ 20 0) + 1))) 16 0 = nI nE from hI.2.2.1) (by omega)) (cwV 2 hts gX8_turn_X8_finish rfl rfl rfl (by decide +kernel) ⟨Nat.le_of_ble_eq_true rfl, Nat.le_of_ble_eq_true rfl⟩) (k_preV hK (k_recv hK.1 hM.1 rfl)) rfl rfl hl.1 rfl (lv_room (Nat.le_of_ble_eq_true rfl)) dX8_turn_175 ⟨(Nat.zero_le _), (Nat.zero_le _)⟩) hS (fun _ h => h) (fun H13 locs hM _ _ hS => ?_)
          refine lv_iload_n hx hb dX8_turn_178 rfl (lv_at hl 0 rfl) ?_
          have ht : tn σ nV nE j = (4, (fin (u2 σ 20 0 ((σ 20 0) + 1)) nE j 4)) := by rw [tn, hwt, cond_false]; unfold tnD; rw [if_pos c67]
          exact k_reti hx hb hr hlocks ⟨by rw [ht], by rw [ht]; exact hM⟩ hS dX8_turn_179
    · have hwt : wt σ j = true := b2_n c21
      refine lv_aload_n hx hb dX8_turn_24 rfl (lv_at hl 0 rfl) ?_
      refine lv_dup hx hb dX8_turn_25 rfl ?_
      refine k_get (C := RX8) (T := TX8) (N := 22) (v := .int (σ 21 0)) hx hb hts hiX8 hown hK.1 hM.1 rfl 21 (by decide) (hts (.fieldLink RX8 95 "HouseWorkersModel" "didNothing" "I") (by decide +kernel)) (fun _ h9 => h9) rfl dX8_turn_26 ?_
      refine lv_aload_n hx hb dX8_turn_29 rfl (lv_at hl 0 rfl) ?_
      refine k_get (C := RX8) (T := TX8) (N := 22) (v := .ref (ad 12)) hx hb hts hiX8 hown hK.1 hM.1 rfl 12 (by decide) (hts (.fieldLink RX8 41 "HouseWorkersModel" "end" "[I") (by decide +kernel)) (fun _ h9 => h9) rfl dX8_turn_30 ?_
      refine lv_iload_n hx hb dX8_turn_33 rfl (lv_at hl 1 rfl) ?_
      refine k_iald (n := 30) (f := (σ 12)) hx hb hK.1 0 (hM.2.1 12 rfl) rfl j rfl (by omega) (by decide) dX8_turn_34 ?_
      refine lv_if_le (tgt := 42) hx hb dX8_turn_35 (by decide) (fun c35 => ?_) (fun c35 => ?_)
      · have c35 := Int32.not_lt.mpr c35
        refine lv_iconst (v := 1) hx hb dX8_turn_42 (by decide) ?_
        refine lv_iadd hx hb dX8_turn_43 ?_
        refine k_put (A := (Am m0 ad)) (C := RX8) (T := TX8) (N := 22) (ty := .int) (v := .int ((σ 21 0) + 1)) hx hb hts hiX8 tyX8 tyX8_ok nmX8 hown hK.1 hM.1 Am.ob hS rfl 21 (by decide) (hts (.fieldLink RX8 95 "HouseWorkersModel" "didNothing" "I") (by decide +kernel)) (fun _ h9 => h9) rfl (by decide +kernel) rfl rfl (Nat.le_of_ble_eq_true rfl) dX8_turn_44 (fun H14 locs hO15 hz16 hq17 hS => ?_)
        have hM := MD.fld 21 (v := ((σ 21 0) + 1)) hM rfl hO15 hq17
        refine lv_iconst (v := 0) hx hb dX8_turn_47 (by decide) ?_
        have ht : tn σ nV nE j = (0, (u2 σ 21 0 ((σ 21 0) + 1))) := by simp [tn, hwt, c35]
        exact k_reti hx hb hr hlocks ⟨by rw [ht], by rw [ht]; exact hM⟩ hS dX8_turn_48
      · have c35 := Int32.not_le.mp c35
        refine lv_iconst (v := 0) hx hb dX8_turn_38 (by decide) ?_
        refine lv_goto (tgt := 43) hx hb dX8_turn_39 (by decide) ?_
        refine lv_iadd hx hb dX8_turn_43 ?_
        refine k_put (A := (Am m0 ad)) (C := RX8) (T := TX8) (N := 22) (ty := .int) (v := .int ((σ 21 0) + 0)) hx hb hts hiX8 tyX8 tyX8_ok nmX8 hown hK.1 hM.1 Am.ob hS rfl 21 (by decide) (hts (.fieldLink RX8 95 "HouseWorkersModel" "didNothing" "I") (by decide +kernel)) (fun _ h9 => h9) rfl (by decide +kernel) rfl rfl (Nat.le_of_ble_eq_true rfl) dX8_turn_44 (fun H18 locs hO19 hz20 hq21 hS => ?_)
        have hM := MD.fld 21 (v := ((σ 21 0) + 0)) hM rfl hO19 hq21
        refine lv_iconst (v := 0) hx hb dX8_turn_47 (by decide) ?_
        have ht : tn σ nV nE j = (0, (u2 σ 21 0 ((σ 21 0) + 0))) := by simp [tn, hwt, c35]
        exact k_reti hx hb hr hlocks ⟨by rw [ht], by rw [ht]; exact hM⟩ hS dX8_turn_48
  · have hin := b2_0 c11
    have hnn : ¬ inB x 0 (σ 3 0 - 1) = true := by rw [hin]; decide
    rw [if_neg hnn, if_neg hnn]
    refine lv_iconst (v := -1) hx hb dX8_turn_14 (by decide) ?_
    exact k_reti hx hb hr hlocks ⟨rfl, hM⟩ hS dX8_turn_15
end
section
def mPut (σ : Sg) (cl v : Int32) : Int32 × Sg := if inB cl 0 15 = true then (if 0 < σ 3 0 then (-2, σ) else (1, u2 σ 0 (nat cl) v)) else (-1, σ)
def mQue (σ : Sg) (nW : Nat) (many fails frm : Int32) : Int32 × Sg := if inB many 1 20 = true ∧ inB fails 0 30 = true ∧ inB frm 0 15 = true then beg σ nW 0 many fails frm 0 else (-1, σ)
def mWri (σ : Sg) (nW : Nat) (many fails frm more : Int32) : Int32 × Sg := if inB many 1 20 = true ∧ inB fails 0 30 = true ∧ inB frm 0 15 = true then beg σ nW 1 many fails frm more else (-1, σ)
def mRea (σ : Sg) (nW : Nat) (many fails : Int32) : Int32 × Sg := if inB many 1 20 = true ∧ inB fails 0 30 = true then beg σ nW 2 many fails 0 0 else (-1, σ)
def mCan (σ : Sg) (x : Int32) : Int32 × Sg := if inB x 0 (σ 3 0 - 1) = true then cnc σ (nat x) else (-1, σ)
def mTld (σ : Sg) (x what : Int32) : Int32 := if inB x 0 (σ 3 0 - 1) = true ∧ inB what 0 5 = true then tld σ (nat x) what else -1
def mEnd (σ : Sg) (i what : Int32) : Int32 := if inB what 0 2 = true then (if inB i 0 (σ 16 0 - 1) = true then (if what = 0 then σ 17 (nat i) else if what = 1 then σ 18 (nat i) else σ 19 (nat i)) else -2) else -1
def mCel (σ : Sg) (nW : Nat) (v cl : Int32) : Int32 := if inB cl 0 15 = true ∧ inB v 0 (σ 1 0 - 1) = true then (if kept σ v nW = true then σ 0 (16 * nat v + nat cl) else -2) else -1
def mCnt (σ : Sg) (nW nV : Nat) (what : Int32) : Int32 := if what = 0 then σ 1 0 else if what = 1 then nI (cntF (fun v => kept σ (nI v) nW) nV) else if what = 2 then nI (cntF (fun v => ipF σ (nI v) nW) nV) else if what = 3 then σ 20 0 else if what = 4 then σ 21 0 else if what = 5 then nI (cntF (fun w => decide (σ 12 w = 0)) nW) else -1
theorem inB_c {w : Int32} {lo hi : Int32} {n : Nat} (hlo : lo = 0) (hhi : hi = nI n) (hn : n < 1000) (h : inB w lo hi = true) : ∃ j, j ≤ n ∧ w = nI j := by
  subst hlo hhi
  unfold inB at h
  rw [Bool.and_eq_true, decide_eq_true_eq, decide_eq_true_eq] at h
  obtain ⟨j, hj, rfl⟩ := nI_of h.1
  refine ⟨j, ?_, rfl⟩
  rcases Nat.lt_or_ge n j with q | q
  · exact absurd (nI_lt q hj) h.2
  · exact q
theorem cntF_s1 {f : Nat → Bool} {i : Nat} (h : f i = true) : nI (cntF f i) + 1 = nI (cntF f (i + 1)) := by rw [cntF, h, nI_1]; rfl
theorem cntF_s0 {f : Nat → Bool} {i : Nat} (h : f i = false) : nI (cntF f i) + 0 = nI (cntF f (i + 1)) := by rw [cntF, h]; exact nI_add _ 0
theorem tb_out6 {x : Int32} {n : Int} (h : ∀ k : Int, 0 ≤ k → k ≤ n → ¬ x.toInt = k) : x.toInt < 0 ∨ n < x.toInt := by
  rcases Int.lt_or_le x.toInt 0 with q | q
  · exact Or.inl q
  · rcases Int.lt_or_le n x.toInt with q2 | q2
    · exact Or.inr q2
    · exact absurd rfl (h _ q q2)
theorem tb5 {x : Int32} (h0 : ¬ x = 0) (h1 : ¬ x = 1) (h2 : ¬ x = 2) (h3 : ¬ x = 3) (h4 : ¬ x = 4) (h5 : ¬ x = 5) : x.toInt < 0 ∨ 5 < x.toInt := by
  have a0 : ¬ x.toInt = 0 := lv_neT h0 rfl
  have a1 : ¬ x.toInt = 1 := lv_neT h1 rfl
  have a2 : ¬ x.toInt = 2 := lv_neT h2 rfl
  have a3 : ¬ x.toInt = 3 := lv_neT h3 rfl
  have a4 : ¬ x.toInt = 4 := lv_neT h4 rfl
  have a5 : ¬ x.toInt = 5 := lv_neT h5 rfl
  omega
theorem tb4 {x : Int32} (h0 : ¬ x = 0) (h1 : ¬ x = 1) (h2 : ¬ x = 2) (h3 : ¬ x = 3) (h4 : ¬ x = 4) : x.toInt < 0 ∨ 4 < x.toInt := by
  have a0 : ¬ x.toInt = 0 := lv_neT h0 rfl
  have a1 : ¬ x.toInt = 1 := lv_neT h1 rfl
  have a2 : ¬ x.toInt = 2 := lv_neT h2 rfl
  have a3 : ¬ x.toInt = 3 := lv_neT h3 rfl
  have a4 : ¬ x.toInt = 4 := lv_neT h4 rfl
  omega
set_option maxHeartbeats 4000000 in
set_option maxRecDepth 100000 in
theorem c_X8_put (l : Launch) {D : va_G} {cI cZ cO : ClassId} {mi : Nat} (H : Heap) (m0 : Nat) (ad : Nat → Nat) (σ : Sg) (cl v : Int32) (hM : MD D cI cZ m0 ad σ H) : Met l yX8_put wsX8_put ({ frames := 1, cells := 0, slots := 0, locals := 22 }) (Pk D cI cZ cO mi [.ref m0, .int cl, .int v] H) (Qki (fun r H1 => r = (mPut σ cl v).1 ∧ MD D cI cZ m0 ad (mPut σ cl v).2 H1) (Am m0 ad)) 0 0 (Am m0 ad) := by
  refine Met.ofW (cc := cX8_put) (maxL := 3) (ret := (some .int)) (by decide) rfl ?_
  intro p e s m args below meth c s₁ B hml hv
  obtain ⟨rfl, rfl, hK⟩ := hv
  have hx := B.exec
  have hb := B.bytes
  have hr := B.returns
  have hts := atoms_spec (ws := wsX8_put) B.pre
  have hown : s.vm.findClass RX8 = some m.cls := findClass_of_methodNamed B.named
  have hlocks := B.notSynchronized
  have hS : va_S (Am m0 ad) s.heap s.heap [] := va_S.rf
  have hl := lv_entry ([.ref m0, .int cl, .int v]) (n := 3) (Nat.le_of_ble_eq_true rfl)
  rw [lg_entry_eq]
  generalize (lg_sl ([.ref m0, .int cl, .int v]) ++ List.replicate (3 - (lg_sl ([.ref m0, .int cl, .int v])).length) Slot.unset).toArray = ls at hl ⊢
  have hl : lv_has ls 3 [(0, .ref m0), (1, .int cl), (2, .int v)] := hl
  have hiX8 : ∀ w ∈ wsX80, w ∈ wsX8_put := by decide +kernel
  refine lv_iload_n hx hb dX8_put_0 rfl (lv_at hl 1 rfl) ?_
  refine lv_iconst (v := 0) hx hb dX8_put_1 (by decide) ?_
  refine lv_bipush (v := 15) hx hb dX8_put_2 (by decide) ?_
  refine k_callpi (v := b2 (inB cl 0 15)) (va_runS (As := [.int cl, .int 0, .int 15]) (rest := []) ⟨hx, hb, hml, hown, hts⟩ (c_X8_in l _ cl 0 15) (va_cwS 3 hts gX8_put_X8_in rfl rfl rfl (by decide +kernel) ⟨Nat.le_of_ble_eq_true rfl, Nat.le_of_ble_eq_true rfl⟩) (k_preS hK) rfl rfl hl.1 rfl (lv_room (Nat.le_of_ble_eq_true rfl)) dX8_put_4 ⟨(Nat.zero_le _), (Nat.zero_le _)⟩) hS (fun locs hS => ?_)
  refine lv_if_ne (tgt := 12) hx hb dX8_put_7 (by decide) (fun c7 => ?_) (fun c7 => ?_)
  · have b7 := b2_n c7
    refine lv_aload_n hx hb dX8_put_12 rfl (lv_at hl 0 rfl) ?_
    refine k_get (C := RX8) (T := TX8) (N := 22) (v := .int (σ 3 0)) hx hb hts hiX8 hown hK.1 hM.1 rfl 3 (by decide) (hts (.fieldLink RX8 67 "HouseWorkersModel" "workers" "I") (by decide +kernel)) (fun _ h9 => h9) rfl dX8_put_13 ?_
    refine lv_if_le (tgt := 22) hx hb dX8_put_16 (by decide) (fun c16 => ?_) (fun c16 => ?_)
    · have c16 := Int32.not_lt.mpr c16
      refine lv_aload_n hx hb dX8_put_22 rfl (lv_at hl 0 rfl) ?_
      refine k_get (C := RX8) (T := TX8) (N := 22) (v := .ref (ad 0)) hx hb hts hiX8 hown hK.1 hM.1 rfl 0 (by decide) (hts (.fieldLink RX8 7 "HouseWorkersModel" "cells" "[I") (by decide +kernel)) (fun _ h9 => h9) rfl dX8_put_23 ?_
      refine lv_iload_n hx hb dX8_put_26 rfl (lv_at hl 1 rfl) ?_
      refine lv_iload_n hx hb dX8_put_27 rfl (lv_at hl 2 rfl) ?_
      refine k_iast (A := (Am m0 ad)) (n := 640) (f := (σ 0)) (x := v) hx hb hK.1 0 (hM.2.1 0 rfl) (Am.arr 0 rfl) hS rfl (nat cl) (by obtain ⟨z, hz, rfl⟩ := inB_c (n := 15) rfl rfl (by decide) b7; rw [nat_nI (by omega)]) (by obtain ⟨z, hz, rfl⟩ := inB_c (n := 15) rfl rfl (by decide) b7; rw [nat_nI (by omega)]; omega) (by decide) dX8_put_28 (fun H1 locs hO2 hz3 hq4 hS => ?_)
      have hM := MD.arr 0 (i := nat cl) (v := v) hM rfl hO2 hq4
      refine lv_iconst (v := 1) hx hb dX8_put_29 (by decide) ?_
      have hX : mPut σ cl v = (1, (u2 σ 0 (nat cl) v)) := by unfold mPut; rw [if_pos b7, if_neg c16]
      exact k_reti hx hb hr hlocks ⟨by rw [hX], by rw [hX]; exact hM⟩ hS dX8_put_30
    · have c16 := Int32.not_le.mp c16
      refine lv_bipush (v := -2) hx hb dX8_put_19 (by decide) ?_
      have hX : mPut σ cl v = ((-2), σ) := by unfold mPut; rw [if_pos b7, if_pos c16]
      exact k_reti hx hb hr hlocks ⟨by rw [hX], by rw [hX]; exact hM⟩ hS dX8_put_21
  · have b7 := b2_0 c7
    refine lv_iconst (v := -1) hx hb dX8_put_10 (by decide) ?_
    have hX : mPut σ cl v = ((-1), σ) := by unfold mPut; rw [if_neg (by rw [b7]; decide)]
    exact k_reti hx hb hr hlocks ⟨by rw [hX], by rw [hX]; exact hM⟩ hS dX8_put_11
set_option maxHeartbeats 4000000 in
set_option maxRecDepth 100000 in
theorem c_X8_begin (l : Launch) {D : va_G} {cI cZ cO : ClassId} {mi : Nat} (H : Heap) (m0 : Nat) (ad : Nat → Nat) (σ : Sg) (nW : Nat) (kd many fails frm more : Int32) (hM : MD D cI cZ m0 ad σ H) (hW : σ 3 0 = nI nW) (hn : nW ≤ 30) : Met l yX8_begin wsX8_begin ({ frames := 0, cells := 0, slots := 0, locals := 0 }) (Pk D cI cZ cO mi [.ref m0, .int kd, .int many, .int fails, .int frm, .int more] H) (Qki (fun r H1 => r = (beg σ nW kd many fails frm more).1 ∧ MD D cI cZ m0 ad (beg σ nW kd many fails frm more).2 H1) (Am m0 ad)) 0 0 (Am m0 ad) := by
  refine Met.ofW (cc := cX8_begin) (maxL := 7) (ret := (some .int)) (by decide) rfl ?_
  intro p e s m args below meth c s₁ B hml hv
  obtain ⟨rfl, rfl, hK⟩ := hv
  have hx := B.exec
  have hb := B.bytes
  have hr := B.returns
  have hts := atoms_spec (ws := wsX8_begin) B.pre
  have hown : s.vm.findClass RX8 = some m.cls := findClass_of_methodNamed B.named
  have hlocks := B.notSynchronized
  have hS : va_S (Am m0 ad) s.heap s.heap [] := va_S.rf
  have hl := lv_entry ([.ref m0, .int kd, .int many, .int fails, .int frm, .int more]) (n := 7) (Nat.le_of_ble_eq_true rfl)
  rw [lg_entry_eq]
  generalize (lg_sl ([.ref m0, .int kd, .int many, .int fails, .int frm, .int more]) ++ List.replicate (7 - (lg_sl ([.ref m0, .int kd, .int many, .int fails, .int frm, .int more])).length) Slot.unset).toArray = ls at hl ⊢
  have hl : lv_has ls 7 [(0, .ref m0), (1, .int kd), (2, .int many), (3, .int fails), (4, .int frm), (5, .int more)] := hl
  have hiX8 : ∀ w ∈ wsX80, w ∈ wsX8_begin := by decide +kernel
  refine lv_aload_n hx hb dX8_begin_0 rfl (lv_at hl 0 rfl) ?_
  refine k_get (C := RX8) (T := TX8) (N := 22) (v := .int (σ 2 0)) hx hb hts hiX8 hown hK.1 hM.1 rfl 2 (by decide) (hts (.fieldLink RX8 70 "HouseWorkersModel" "closed" "Z") (by decide +kernel)) (fun _ h9 => h9) rfl dX8_begin_1 ?_
  refine lv_if_eq (tgt := 10) hx hb dX8_begin_4 (by decide) (fun c4 => ?_) (fun c4 => ?_)
  · refine lv_aload_n hx hb dX8_begin_10 rfl (lv_at hl 0 rfl) ?_
    refine k_get (C := RX8) (T := TX8) (N := 22) (v := .int (σ 3 0)) hx hb hts hiX8 hown hK.1 hM.1 rfl 3 (by decide) (hts (.fieldLink RX8 67 "HouseWorkersModel" "workers" "I") (by decide +kernel)) (fun _ h9 => h9) rfl dX8_begin_11 ?_
    refine lv_bipush (v := 30) hx hb dX8_begin_14 (by decide) ?_
    refine lv_icmp_ne (tgt := 22) hx hb dX8_begin_16 (by decide) (fun c16 => ?_) (fun c16 => ?_)
    · have hlt : nW < 30 := by rcases Nat.lt_or_ge nW 30 with q | q; exact q; exact absurd (by rw [hW, show nW = 30 by omega]; rfl) c16
      refine lv_aload_n hx hb dX8_begin_22 rfl (lv_at hl 0 rfl) ?_
      refine k_get (C := RX8) (T := TX8) (N := 22) (v := .int (σ 3 0)) hx hb hts hiX8 hown hK.1 hM.1 rfl 3 (by decide) (hts (.fieldLink RX8 67 "HouseWorkersModel" "workers" "I") (by decide +kernel)) (fun _ h9 => h9) rfl dX8_begin_23 ?_
      refine lv_istore (lv' := [(6, .int (σ 3 0)), (0, .ref m0), (1, .int kd), (2, .int many), (3, .int fails), (4, .int frm), (5, .int more)]) hx hb dX8_begin_26 hl (by decide) rfl (fun ls hl => ?_)
      refine lv_aload_n hx hb dX8_begin_28 rfl (lv_at hl 1 rfl) ?_
      refine k_get (C := RX8) (T := TX8) (N := 22) (v := .ref (ad 4)) hx hb hts hiX8 hown hK.1 hM.1 rfl 4 (by decide) (hts (.fieldLink RX8 17 "HouseWorkersModel" "kind" "[I") (by decide +kernel)) (fun _ h9 => h9) rfl dX8_begin_29 ?_
      refine lv_iload hx hb dX8_begin_32 (lv_at hl 0 rfl) ?_
      refine lv_iload_n hx hb dX8_begin_34 rfl (lv_at hl 2 rfl) ?_
      refine k_iast (A := (Am m0 ad)) (n := 30) (f := (σ 4)) (x := kd) hx hb hK.1 0 (hM.2.1 4 rfl) (Am.arr 4 rfl) hS rfl nW hW hlt (by decide) dX8_begin_35 (fun H1 locs hO2 hz3 hq4 hS => ?_)
      have hM := MD.arr 4 (i := nW) (v := kd) hM rfl hO2 hq4
      refine lv_aload_n hx hb dX8_begin_36 rfl (lv_at hl 1 rfl) ?_
      refine k_get (C := RX8) (T := TX8) (N := 22) (v := .ref (ad 5)) hx hb hts hiX8 hown hK.1 hM.1 rfl 5 (by decide) (hts (.fieldLink RX8 20 "HouseWorkersModel" "steps" "[I") (by decide +kernel)) (fun _ h9 => h9) rfl dX8_begin_37 ?_
      refine lv_iload hx hb dX8_begin_40 (lv_at hl 0 rfl) ?_
      refine lv_iload_n hx hb dX8_begin_42 rfl (lv_at hl 3 rfl) ?_
      refine k_iast (A := (Am m0 ad)) (n := 30) (f := ((u2 σ 4 nW kd) 5)) (x := many) hx hb hK.1 0 (hM.2.1 5 rfl) (Am.arr 5 rfl) hS rfl nW hW hlt (by decide) dX8_begin_43 (fun H5 locs hO6 hz7 hq8 hS => ?_)
      have hM := MD.arr 5 (i := nW) (v := many) hM rfl hO6 hq8
      refine lv_aload_n hx hb dX8_begin_44 rfl (lv_at hl 1 rfl) ?_
      refine k_get (C := RX8) (T := TX8) (N := 22) (v := .ref (ad 6)) hx hb hts hiX8 hown hK.1 hM.1 rfl 6 (by decide) (hts (.fieldLink RX8 23 "HouseWorkersModel" "failsAt" "[I") (by decide +kernel)) (fun _ h9 => h9) rfl dX8_begin_45 ?_
      refine lv_iload hx hb dX8_begin_48 (lv_at hl 0 rfl) ?_
      refine lv_iload_n hx hb dX8_begin_50 rfl (lv_at hl 4 rfl) ?_
      refine k_iast (A := (Am m0 ad)) (n := 30) (f := ((u2 (u2 σ 4 nW kd) 5 nW many) 6)) (x := fails) hx hb hK.1 0 (hM.2.1 6 rfl) (Am.arr 6 rfl) hS rfl nW hW hlt (by decide) dX8_begin_51 (fun H9 locs hO10 hz11 hq12 hS => ?_)
      have hM := MD.arr 6 (i := nW) (v := fails) hM rfl hO10 hq12
      refine lv_aload_n hx hb dX8_begin_52 rfl (lv_at hl 1 rfl) ?_
      refine k_get (C := RX8) (T := TX8) (N := 22) (v := .ref (ad 7)) hx hb hts hiX8 hown hK.1 hM.1 rfl 7 (by decide) (hts (.fieldLink RX8 26 "HouseWorkersModel" "first" "[I") (by decide +kernel)) (fun _ h9 => h9) rfl dX8_begin_53 ?_
      refine lv_iload hx hb dX8_begin_56 (lv_at hl 0 rfl) ?_
      refine lv_iload hx hb dX8_begin_58 (lv_at hl 5 rfl) ?_
      refine k_iast (A := (Am m0 ad)) (n := 30) (f := ((u2 (u2 (u2 σ 4 nW kd) 5 nW many) 6 nW fails) 7)) (x := frm) hx hb hK.1 0 (hM.2.1 7 rfl) (Am.arr 7 rfl) hS rfl nW hW hlt (by decide) dX8_begin_60 (fun H13 locs hO14 hz15 hq16 hS => ?_)
      have hM := MD.arr 7 (i := nW) (v := frm) hM rfl hO14 hq16
      refine lv_aload_n hx hb dX8_begin_61 rfl (lv_at hl 1 rfl) ?_
      refine k_get (C := RX8) (T := TX8) (N := 22) (v := .ref (ad 8)) hx hb hts hiX8 hown hK.1 hM.1 rfl 8 (by decide) (hts (.fieldLink RX8 29 "HouseWorkersModel" "by" "[I") (by decide +kernel)) (fun _ h9 => h9) rfl dX8_begin_62 ?_
      refine lv_iload hx hb dX8_begin_65 (lv_at hl 0 rfl) ?_
      refine lv_iload hx hb dX8_begin_67 (lv_at hl 6 rfl) ?_
      refine k_iast (A := (Am m0 ad)) (n := 30) (f := ((u2 (u2 (u2 (u2 σ 4 nW kd) 5 nW many) 6 nW fails) 7 nW frm) 8)) (x := more) hx hb hK.1 0 (hM.2.1 8 rfl) (Am.arr 8 rfl) hS rfl nW hW hlt (by decide) dX8_begin_69 (fun H17 locs hO18 hz19 hq20 hS => ?_)
      have hM := MD.arr 8 (i := nW) (v := more) hM rfl hO18 hq20
      refine lv_aload_n hx hb dX8_begin_70 rfl (lv_at hl 1 rfl) ?_
      refine k_get (C := RX8) (T := TX8) (N := 22) (v := .ref (ad 11)) hx hb hts hiX8 hown hK.1 hM.1 rfl 11 (by decide) (hts (.fieldLink RX8 38 "HouseWorkersModel" "version" "[I") (by decide +kernel)) (fun _ h9 => h9) rfl dX8_begin_71 ?_
      refine lv_iload hx hb dX8_begin_74 (lv_at hl 0 rfl) ?_
      refine lv_iload_n hx hb dX8_begin_76 rfl (lv_at hl 2 rfl) ?_
      refine lv_if_eq (tgt := 85) hx hb dX8_begin_77 (by decide) (fun c77 => ?_) (fun c77 => ?_)
      · refine lv_aload_n hx hb dX8_begin_85 rfl (lv_at hl 1 rfl) ?_
        refine k_get (C := RX8) (T := TX8) (N := 22) (v := .int ((u2 (u2 (u2 (u2 (u2 σ 4 nW kd) 5 nW many) 6 nW fails) 7 nW frm) 8 nW more) 1 0)) hx hb hts hiX8 hown hK.1 hM.1 rfl 1 (by decide) (hts (.fieldLink RX8 13 "HouseWorkersModel" "versions" "I") (by decide +kernel)) (fun _ h9 => h9) rfl dX8_begin_86 ?_
        refine lv_iconst (v := 1) hx hb dX8_begin_89 (by decide) ?_
        refine lv_isub hx hb dX8_begin_90 ?_
        refine lv_goto (tgt := 95) hx hb dX8_begin_91 (by decide) ?_
        refine k_iast (A := (Am m0 ad)) (n := 30) (f := ((u2 (u2 (u2 (u2 (u2 σ 4 nW kd) 5 nW many) 6 nW fails) 7 nW frm) 8 nW more) 11)) (x := (((u2 (u2 (u2 (u2 (u2 σ 4 nW kd) 5 nW many) 6 nW fails) 7 nW frm) 8 nW more) 1 0) - 1)) hx hb hK.1 0 (hM.2.1 11 rfl) (Am.arr 11 rfl) hS rfl nW hW hlt (by decide) dX8_begin_95 (fun H21 locs hO22 hz23 hq24 hS => ?_)
        have hM := MD.arr 11 (i := nW) (v := (((u2 (u2 (u2 (u2 (u2 σ 4 nW kd) 5 nW many) 6 nW fails) 7 nW frm) 8 nW more) 1 0) - 1)) hM rfl hO22 hq24
        refine lv_aload_n hx hb dX8_begin_96 rfl (lv_at hl 1 rfl) ?_
        refine lv_dup hx hb dX8_begin_97 rfl ?_
        refine k_get (C := RX8) (T := TX8) (N := 22) (v := .int ((u2 (u2 (u2 (u2 (u2 (u2 σ 4 nW kd) 5 nW many) 6 nW fails) 7 nW frm) 8 nW more) 11 nW (((u2 (u2 (u2 (u2 (u2 σ 4 nW kd) 5 nW many) 6 nW fails) 7 nW frm) 8 nW more) 1 0) - 1)) 3 0)) hx hb hts hiX8 hown hK.1 hM.1 rfl 3 (by decide) (hts (.fieldLink RX8 67 "HouseWorkersModel" "workers" "I") (by decide +kernel)) (fun _ h9 => h9) rfl dX8_begin_98 ?_
        refine lv_iconst (v := 1) hx hb dX8_begin_101 (by decide) ?_
        refine lv_iadd hx hb dX8_begin_102 ?_
        refine k_put (A := (Am m0 ad)) (C := RX8) (T := TX8) (N := 22) (ty := .int) (v := .int (((u2 (u2 (u2 (u2 (u2 (u2 σ 4 nW kd) 5 nW many) 6 nW fails) 7 nW frm) 8 nW more) 11 nW (((u2 (u2 (u2 (u2 (u2 σ 4 nW kd) 5 nW many) 6 nW fails) 7 nW frm) 8 nW more) 1 0) - 1)) 3 0) + 1)) hx hb hts hiX8 tyX8 tyX8_ok nmX8 hown hK.1 hM.1 Am.ob hS rfl 3 (by decide) (hts (.fieldLink RX8 67 "HouseWorkersModel" "workers" "I") (by decide +kernel)) (fun _ h9 => h9) rfl (by decide +kernel) rfl rfl (Nat.le_of_ble_eq_true rfl) dX8_begin_103 (fun H25 locs hO26 hz27 hq28 hS => ?_)
        have hM := MD.fld 3 (v := (((u2 (u2 (u2 (u2 (u2 (u2 σ 4 nW kd) 5 nW many) 6 nW fails) 7 nW frm) 8 nW more) 11 nW (((u2 (u2 (u2 (u2 (u2 σ 4 nW kd) 5 nW many) 6 nW fails) 7 nW frm) 8 nW more) 1 0) - 1)) 3 0) + 1)) hM rfl hO26 hq28
        refine lv_iload hx hb dX8_begin_106 (lv_at hl 0 rfl) ?_
        have hX : beg σ nW kd many fails frm more = (σ 3 0, (u2 (u2 (u2 (u2 (u2 (u2 (u2 σ 4 nW kd) 5 nW many) 6 nW fails) 7 nW frm) 8 nW more) 11 nW (((u2 (u2 (u2 (u2 (u2 σ 4 nW kd) 5 nW many) 6 nW fails) 7 nW frm) 8 nW more) 1 0) - 1)) 3 0 (((u2 (u2 (u2 (u2 (u2 (u2 σ 4 nW kd) 5 nW many) 6 nW fails) 7 nW frm) 8 nW more) 11 nW (((u2 (u2 (u2 (u2 (u2 σ 4 nW kd) 5 nW many) 6 nW fails) 7 nW frm) 8 nW more) 1 0) - 1)) 3 0) + 1))) := by unfold beg; rw [if_neg (fun q => q c4), if_neg (by omega)]; unfold begS; rw [if_pos (Or.inl c77)]; exact Prod.ext hW.symm rfl
        exact k_reti hx hb hr hlocks ⟨by rw [hX], by rw [hX]; exact hM⟩ hS dX8_begin_108
      · refine lv_iload_n hx hb dX8_begin_80 rfl (lv_at hl 2 rfl) ?_
        refine lv_iconst (v := 3) hx hb dX8_begin_81 (by decide) ?_
        refine lv_icmp_ne (tgt := 94) hx hb dX8_begin_82 (by decide) (fun c82 => ?_) (fun c82 => ?_)
        · refine lv_iconst (v := -1) hx hb dX8_begin_94 (by decide) ?_
          refine k_iast (A := (Am m0 ad)) (n := 30) (f := ((u2 (u2 (u2 (u2 (u2 σ 4 nW kd) 5 nW many) 6 nW fails) 7 nW frm) 8 nW more) 11)) (x := (-1)) hx hb hK.1 0 (hM.2.1 11 rfl) (Am.arr 11 rfl) hS rfl nW hW hlt (by decide) dX8_begin_95 (fun H29 locs hO30 hz31 hq32 hS => ?_)
          have hM := MD.arr 11 (i := nW) (v := (-1)) hM rfl hO30 hq32
          refine lv_aload_n hx hb dX8_begin_96 rfl (lv_at hl 1 rfl) ?_
          refine lv_dup hx hb dX8_begin_97 rfl ?_
          refine k_get (C := RX8) (T := TX8) (N := 22) (v := .int ((u2 (u2 (u2 (u2 (u2 (u2 σ 4 nW kd) 5 nW many) 6 nW fails) 7 nW frm) 8 nW more) 11 nW (-1)) 3 0)) hx hb hts hiX8 hown hK.1 hM.1 rfl 3 (by decide) (hts (.fieldLink RX8 67 "HouseWorkersModel" "workers" "I") (by decide +kernel)) (fun _ h9 => h9) rfl dX8_begin_98 ?_
          refine lv_iconst (v := 1) hx hb dX8_begin_101 (by decide) ?_
          refine lv_iadd hx hb dX8_begin_102 ?_
          refine k_put (A := (Am m0 ad)) (C := RX8) (T := TX8) (N := 22) (ty := .int) (v := .int (((u2 (u2 (u2 (u2 (u2 (u2 σ 4 nW kd) 5 nW many) 6 nW fails) 7 nW frm) 8 nW more) 11 nW (-1)) 3 0) + 1)) hx hb hts hiX8 tyX8 tyX8_ok nmX8 hown hK.1 hM.1 Am.ob hS rfl 3 (by decide) (hts (.fieldLink RX8 67 "HouseWorkersModel" "workers" "I") (by decide +kernel)) (fun _ h9 => h9) rfl (by decide +kernel) rfl rfl (Nat.le_of_ble_eq_true rfl) dX8_begin_103 (fun H33 locs hO34 hz35 hq36 hS => ?_)
          have hM := MD.fld 3 (v := (((u2 (u2 (u2 (u2 (u2 (u2 σ 4 nW kd) 5 nW many) 6 nW fails) 7 nW frm) 8 nW more) 11 nW (-1)) 3 0) + 1)) hM rfl hO34 hq36
          refine lv_iload hx hb dX8_begin_106 (lv_at hl 0 rfl) ?_
          have hX : beg σ nW kd many fails frm more = (σ 3 0, (u2 (u2 (u2 (u2 (u2 (u2 (u2 σ 4 nW kd) 5 nW many) 6 nW fails) 7 nW frm) 8 nW more) 11 nW (-1)) 3 0 (((u2 (u2 (u2 (u2 (u2 (u2 σ 4 nW kd) 5 nW many) 6 nW fails) 7 nW frm) 8 nW more) 11 nW (-1)) 3 0) + 1))) := by unfold beg; rw [if_neg (fun q => q c4), if_neg (by omega)]; unfold begS; rw [if_neg (fun q => q.elim c77 c82)]; exact Prod.ext hW.symm rfl
          exact k_reti hx hb hr hlocks ⟨by rw [hX], by rw [hX]; exact hM⟩ hS dX8_begin_108
        · refine lv_aload_n hx hb dX8_begin_85 rfl (lv_at hl 1 rfl) ?_
          refine k_get (C := RX8) (T := TX8) (N := 22) (v := .int ((u2 (u2 (u2 (u2 (u2 σ 4 nW kd) 5 nW many) 6 nW fails) 7 nW frm) 8 nW more) 1 0)) hx hb hts hiX8 hown hK.1 hM.1 rfl 1 (by decide) (hts (.fieldLink RX8 13 "HouseWorkersModel" "versions" "I") (by decide +kernel)) (fun _ h9 => h9) rfl dX8_begin_86 ?_
          refine lv_iconst (v := 1) hx hb dX8_begin_89 (by decide) ?_
          refine lv_isub hx hb dX8_begin_90 ?_
          refine lv_goto (tgt := 95) hx hb dX8_begin_91 (by decide) ?_
          refine k_iast (A := (Am m0 ad)) (n := 30) (f := ((u2 (u2 (u2 (u2 (u2 σ 4 nW kd) 5 nW many) 6 nW fails) 7 nW frm) 8 nW more) 11)) (x := (((u2 (u2 (u2 (u2 (u2 σ 4 nW kd) 5 nW many) 6 nW fails) 7 nW frm) 8 nW more) 1 0) - 1)) hx hb hK.1 0 (hM.2.1 11 rfl) (Am.arr 11 rfl) hS rfl nW hW hlt (by decide) dX8_begin_95 (fun H37 locs hO38 hz39 hq40 hS => ?_)
          have hM := MD.arr 11 (i := nW) (v := (((u2 (u2 (u2 (u2 (u2 σ 4 nW kd) 5 nW many) 6 nW fails) 7 nW frm) 8 nW more) 1 0) - 1)) hM rfl hO38 hq40
          refine lv_aload_n hx hb dX8_begin_96 rfl (lv_at hl 1 rfl) ?_
          refine lv_dup hx hb dX8_begin_97 rfl ?_
          refine k_get (C := RX8) (T := TX8) (N := 22) (v := .int ((u2 (u2 (u2 (u2 (u2 (u2 σ 4 nW kd) 5 nW many) 6 nW fails) 7 nW frm) 8 nW more) 11 nW (((u2 (u2 (u2 (u2 (u2 σ 4 nW kd) 5 nW many) 6 nW fails) 7 nW frm) 8 nW more) 1 0) - 1)) 3 0)) hx hb hts hiX8 hown hK.1 hM.1 rfl 3 (by decide) (hts (.fieldLink RX8 67 "HouseWorkersModel" "workers" "I") (by decide +kernel)) (fun _ h9 => h9) rfl dX8_begin_98 ?_
          refine lv_iconst (v := 1) hx hb dX8_begin_101 (by decide) ?_
          refine lv_iadd hx hb dX8_begin_102 ?_
          refine k_put (A := (Am m0 ad)) (C := RX8) (T := TX8) (N := 22) (ty := .int) (v := .int (((u2 (u2 (u2 (u2 (u2 (u2 σ 4 nW kd) 5 nW many) 6 nW fails) 7 nW frm) 8 nW more) 11 nW (((u2 (u2 (u2 (u2 (u2 σ 4 nW kd) 5 nW many) 6 nW fails) 7 nW frm) 8 nW more) 1 0) - 1)) 3 0) + 1)) hx hb hts hiX8 tyX8 tyX8_ok nmX8 hown hK.1 hM.1 Am.ob hS rfl 3 (by decide) (hts (.fieldLink RX8 67 "HouseWorkersModel" "workers" "I") (by decide +kernel)) (fun _ h9 => h9) rfl (by decide +kernel) rfl rfl (Nat.le_of_ble_eq_true rfl) dX8_begin_103 (fun H41 locs hO42 hz43 hq44 hS => ?_)
          have hM := MD.fld 3 (v := (((u2 (u2 (u2 (u2 (u2 (u2 σ 4 nW kd) 5 nW many) 6 nW fails) 7 nW frm) 8 nW more) 11 nW (((u2 (u2 (u2 (u2 (u2 σ 4 nW kd) 5 nW many) 6 nW fails) 7 nW frm) 8 nW more) 1 0) - 1)) 3 0) + 1)) hM rfl hO42 hq44
          refine lv_iload hx hb dX8_begin_106 (lv_at hl 0 rfl) ?_
          have hX : beg σ nW kd many fails frm more = (σ 3 0, (u2 (u2 (u2 (u2 (u2 (u2 (u2 σ 4 nW kd) 5 nW many) 6 nW fails) 7 nW frm) 8 nW more) 11 nW (((u2 (u2 (u2 (u2 (u2 σ 4 nW kd) 5 nW many) 6 nW fails) 7 nW frm) 8 nW more) 1 0) - 1)) 3 0 (((u2 (u2 (u2 (u2 (u2 (u2 σ 4 nW kd) 5 nW many) 6 nW fails) 7 nW frm) 8 nW more) 11 nW (((u2 (u2 (u2 (u2 (u2 σ 4 nW kd) 5 nW many) 6 nW fails) 7 nW frm) 8 nW more) 1 0) - 1)) 3 0) + 1))) := by unfold beg; rw [if_neg (fun q => q c4), if_neg (by omega)]; unfold begS; rw [if_pos (Or.inr c82)]; exact Prod.ext hW.symm rfl
          exact k_reti hx hb hr hlocks ⟨by rw [hX], by rw [hX]; exact hM⟩ hS dX8_begin_108
    · have h30 : nW = 30 := (nI_eq (by omega) (by decide)).mp (hW.symm.trans c16)
      refine lv_bipush (v := -3) hx hb dX8_begin_19 (by decide) ?_
      have hX : beg σ nW kd many fails frm more = ((-3), σ) := by unfold beg; rw [if_neg (fun q => q c4), if_pos h30]
      exact k_reti hx hb hr hlocks ⟨by rw [hX], by rw [hX]; exact hM⟩ hS dX8_begin_21
  · refine lv_bipush (v := -2) hx hb dX8_begin_7 (by decide) ?_
    have hX : beg σ nW kd many fails frm more = ((-2), σ) := by unfold beg; rw [if_pos c4]
    exact k_reti hx hb hr hlocks ⟨by rw [hX], by rw [hX]; exact hM⟩ hS dX8_begin_9
set_option maxHeartbeats 4000000 in
set_option maxRecDepth 100000 in
theorem c_X8_question (l : Launch) {D : va_G} {cI cZ cO : ClassId} {mi : Nat} (H : Heap) (m0 : Nat) (ad : Nat → Nat) (σ : Sg) (nW : Nat) (many fails frm : Int32) (hM : MD D cI cZ m0 ad σ H) (hW : σ 3 0 = nI nW) (hn : nW ≤ 30) : Met l yX8_question wsX8_question ({ frames := 1, cells := 0, slots := 0, locals := 26 }) (Pk D cI cZ cO mi [.ref m0, .int many, .int fails, .int frm] H) (Qki (fun r H1 => r = (mQue σ nW many fails frm).1 ∧ MD D cI cZ m0 ad (mQue σ nW many fails frm).2 H1) (Am m0 ad)) 0 0 (Am m0 ad) := by
  refine Met.ofW (cc := cX8_question) (maxL := 4) (ret := (some .int)) (by decide) rfl ?_
  intro p e s m args below meth c s₁ B hml hv
  obtain ⟨rfl, rfl, hK⟩ := hv
  have hx := B.exec
  have hb := B.bytes
  have hr := B.returns
  have hts := atoms_spec (ws := wsX8_question) B.pre
  have hown : s.vm.findClass RX8 = some m.cls := findClass_of_methodNamed B.named
  have hlocks := B.notSynchronized
  have hS : va_S (Am m0 ad) s.heap s.heap [] := va_S.rf
  have hl := lv_entry ([.ref m0, .int many, .int fails, .int frm]) (n := 4) (Nat.le_of_ble_eq_true rfl)
  rw [lg_entry_eq]
  generalize (lg_sl ([.ref m0, .int many, .int fails, .int frm]) ++ List.replicate (4 - (lg_sl ([.ref m0, .int many, .int fails, .int frm])).length) Slot.unset).toArray = ls at hl ⊢
  have hl : lv_has ls 4 [(0, .ref m0), (1, .int many), (2, .int fails), (3, .int frm)] := hl
  have hiX8 : ∀ w ∈ wsX80, w ∈ wsX8_question := by decide +kernel
  refine lv_iload_n hx hb dX8_question_0 rfl (lv_at hl 1 rfl) ?_
  refine lv_iconst (v := 1) hx hb dX8_question_1 (by decide) ?_
  refine lv_bipush (v := 20) hx hb dX8_question_2 (by decide) ?_
  refine k_callpi (v := b2 (inB many 1 20)) (va_runS (As := [.int many, .int 1, .int 20]) (rest := []) ⟨hx, hb, hml, hown, hts⟩ (c_X8_in l _ many 1 20) (va_cwS 3 hts gX8_question_X8_in rfl rfl rfl (by decide +kernel) ⟨Nat.le_of_ble_eq_true rfl, Nat.le_of_ble_eq_true rfl⟩) (k_preS hK) rfl rfl hl.1 rfl (lv_room (Nat.le_of_ble_eq_true rfl)) dX8_question_4 ⟨(Nat.zero_le _), (Nat.zero_le _)⟩) hS (fun locs hS => ?_)
  refine lv_if_eq (tgt := 30) hx hb dX8_question_7 (by decide) (fun c7 => ?_) (fun c7 => ?_)
  · have b7 := b2_0 c7
    refine lv_iconst (v := -1) hx hb dX8_question_30 (by decide) ?_
    refine lv_goto (tgt := 43) hx hb dX8_question_31 (by decide) ?_
    have hX : mQue σ nW many fails frm = (-1, σ) := by unfold mQue; rw [if_neg (fun q => absurd (q.1.symm.trans b7) (by decide))]
    exact k_reti hx hb hr hlocks ⟨by rw [hX], by rw [hX]; exact hM⟩ hS dX8_question_43
  · have b7 := b2_n c7
    refine lv_iload_n hx hb dX8_question_10 rfl (lv_at hl 2 rfl) ?_
    refine lv_iconst (v := 0) hx hb dX8_question_11 (by decide) ?_
    refine lv_bipush (v := 30) hx hb dX8_question_12 (by decide) ?_
    refine k_callpi (v := b2 (inB fails 0 30)) (va_runS (As := [.int fails, .int 0, .int 30]) (rest := []) ⟨hx, hb, hml, hown, hts⟩ (c_X8_in l _ fails 0 30) (va_cwS 3 hts gX8_question_X8_in rfl rfl rfl (by decide +kernel) ⟨Nat.le_of_ble_eq_true rfl, Nat.le_of_ble_eq_true rfl⟩) (k_preS hK) rfl rfl hl.1 rfl (lv_room (Nat.le_of_ble_eq_true rfl)) dX8_question_14 ⟨(Nat.zero_le _), (Nat.zero_le _)⟩) hS (fun locs hS => ?_)
    refine lv_if_eq (tgt := 30) hx hb dX8_question_17 (by decide) (fun c17 => ?_) (fun c17 => ?_)
    · have b17 := b2_0 c17
      refine lv_iconst (v := -1) hx hb dX8_question_30 (by decide) ?_
      refine lv_goto (tgt := 43) hx hb dX8_question_31 (by decide) ?_
      have hX : mQue σ nW many fails frm = (-1, σ) := by unfold mQue; rw [if_neg (fun q => absurd (q.2.1.symm.trans b17) (by decide))]
      exact k_reti hx hb hr hlocks ⟨by rw [hX], by rw [hX]; exact hM⟩ hS dX8_question_43
    · have b17 := b2_n c17
      refine lv_iload_n hx hb dX8_question_20 rfl (lv_at hl 3 rfl) ?_
      refine lv_iconst (v := 0) hx hb dX8_question_21 (by decide) ?_
      refine lv_bipush (v := 15) hx hb dX8_question_22 (by decide) ?_
      refine k_callpi (v := b2 (inB frm 0 15)) (va_runS (As := [.int frm, .int 0, .int 15]) (rest := []) ⟨hx, hb, hml, hown, hts⟩ (c_X8_in l _ frm 0 15) (va_cwS 3 hts gX8_question_X8_in rfl rfl rfl (by decide +kernel) ⟨Nat.le_of_ble_eq_true rfl, Nat.le_of_ble_eq_true rfl⟩) (k_preS hK) rfl rfl hl.1 rfl (lv_room (Nat.le_of_ble_eq_true rfl)) dX8_question_24 ⟨(Nat.zero_le _), (Nat.zero_le _)⟩) hS (fun locs hS => ?_)
      refine lv_if_ne (tgt := 34) hx hb dX8_question_27 (by decide) (fun c27 => ?_) (fun c27 => ?_)
      · have b27 := b2_n c27
        refine lv_aload_n hx hb dX8_question_34 rfl (lv_at hl 0 rfl) ?_
        refine lv_iconst (v := 0) hx hb dX8_question_35 (by decide) ?_
        refine lv_iload_n hx hb dX8_question_36 rfl (lv_at hl 1 rfl) ?_
        refine lv_iload_n hx hb dX8_question_37 rfl (lv_at hl 2 rfl) ?_
        refine lv_iload_n hx hb dX8_question_38 rfl (lv_at hl 3 rfl) ?_
        refine lv_iconst (v := 0) hx hb dX8_question_39 (by decide) ?_
        refine k_calli (va_runV (As := [.int 0, .int many, .int fails, .int frm, .int 0]) (rest := []) ⟨hx, hb, hml, hown, hts⟩ (c_X8_begin l _ m0 ad σ nW 0 many fails frm 0 hM hW hn) (cwV 5 hts gX8_question_X8_begin rfl rfl rfl (by decide +kernel) ⟨Nat.le_of_ble_eq_true rfl, Nat.le_of_ble_eq_true rfl⟩) (k_preV hK (k_recv hK.1 hM.1 rfl)) rfl rfl hl.1 rfl (lv_room (Nat.le_of_ble_eq_true rfl)) dX8_question_40 ⟨(Nat.zero_le _), (Nat.zero_le _)⟩) hS (fun _ h => h) (fun r9 H2 locs hp9 _ _ hS => ?_)
        exact k_reti hx hb hr hlocks (by unfold mQue; rw [if_pos ⟨b7, b17, b27⟩]; exact hp9) hS dX8_question_43
      · have b27 := b2_0 c27
        refine lv_iconst (v := -1) hx hb dX8_question_30 (by decide) ?_
        refine lv_goto (tgt := 43) hx hb dX8_question_31 (by decide) ?_
        have hX : mQue σ nW many fails frm = (-1, σ) := by unfold mQue; rw [if_neg (fun q => absurd (q.2.2.symm.trans b27) (by decide))]
        exact k_reti hx hb hr hlocks ⟨by rw [hX], by rw [hX]; exact hM⟩ hS dX8_question_43
set_option maxHeartbeats 4000000 in
set_option maxRecDepth 100000 in
theorem c_X8_writer (l : Launch) {D : va_G} {cI cZ cO : ClassId} {mi : Nat} (H : Heap) (m0 : Nat) (ad : Nat → Nat) (σ : Sg) (nW : Nat) (many fails frm more : Int32) (hM : MD D cI cZ m0 ad σ H) (hW : σ 3 0 = nI nW) (hn : nW ≤ 30) : Met l yX8_writer wsX8_writer ({ frames := 1, cells := 0, slots := 0, locals := 26 }) (Pk D cI cZ cO mi [.ref m0, .int many, .int fails, .int frm, .int more] H) (Qki (fun r H1 => r = (mWri σ nW many fails frm more).1 ∧ MD D cI cZ m0 ad (mWri σ nW many fails frm more).2 H1) (Am m0 ad)) 0 0 (Am m0 ad) := by
  refine Met.ofW (cc := cX8_writer) (maxL := 5) (ret := (some .int)) (by decide) rfl ?_
  intro p e s m args below meth c s₁ B hml hv
  obtain ⟨rfl, rfl, hK⟩ := hv
  have hx := B.exec
  have hb := B.bytes
  have hr := B.returns
  have hts := atoms_spec (ws := wsX8_writer) B.pre
  have hown : s.vm.findClass RX8 = some m.cls := findClass_of_methodNamed B.named
  have hlocks := B.notSynchronized
  have hS : va_S (Am m0 ad) s.heap s.heap [] := va_S.rf
  have hl := lv_entry ([.ref m0, .int many, .int fails, .int frm, .int more]) (n := 5) (Nat.le_of_ble_eq_true rfl)
  rw [lg_entry_eq]
  generalize (lg_sl ([.ref m0, .int many, .int fails, .int frm, .int more]) ++ List.replicate (5 - (lg_sl ([.ref m0, .int many, .int fails, .int frm, .int more])).length) Slot.unset).toArray = ls at hl ⊢
  have hl : lv_has ls 5 [(0, .ref m0), (1, .int many), (2, .int fails), (3, .int frm), (4, .int more)] := hl
  have hiX8 : ∀ w ∈ wsX80, w ∈ wsX8_writer := by decide +kernel
  refine lv_iload_n hx hb dX8_writer_0 rfl (lv_at hl 1 rfl) ?_
  refine lv_iconst (v := 1) hx hb dX8_writer_1 (by decide) ?_
  refine lv_bipush (v := 20) hx hb dX8_writer_2 (by decide) ?_
  refine k_callpi (v := b2 (inB many 1 20)) (va_runS (As := [.int many, .int 1, .int 20]) (rest := []) ⟨hx, hb, hml, hown, hts⟩ (c_X8_in l _ many 1 20) (va_cwS 3 hts gX8_writer_X8_in rfl rfl rfl (by decide +kernel) ⟨Nat.le_of_ble_eq_true rfl, Nat.le_of_ble_eq_true rfl⟩) (k_preS hK) rfl rfl hl.1 rfl (lv_room (Nat.le_of_ble_eq_true rfl)) dX8_writer_4 ⟨(Nat.zero_le _), (Nat.zero_le _)⟩) hS (fun locs hS => ?_)
  refine lv_if_eq (tgt := 30) hx hb dX8_writer_7 (by decide) (fun c7 => ?_) (fun c7 => ?_)
  · have b7 := b2_0 c7
    refine lv_iconst (v := -1) hx hb dX8_writer_30 (by decide) ?_
    refine lv_goto (tgt := 44) hx hb dX8_writer_31 (by decide) ?_
    have hX : mWri σ nW many fails frm more = (-1, σ) := by unfold mWri; rw [if_neg (fun q => absurd (q.1.symm.trans b7) (by decide))]
    exact k_reti hx hb hr hlocks ⟨by rw [hX], by rw [hX]; exact hM⟩ hS dX8_writer_44
  · have b7 := b2_n c7
    refine lv_iload_n hx hb dX8_writer_10 rfl (lv_at hl 2 rfl) ?_
    refine lv_iconst (v := 0) hx hb dX8_writer_11 (by decide) ?_
    refine lv_bipush (v := 30) hx hb dX8_writer_12 (by decide) ?_
    refine k_callpi (v := b2 (inB fails 0 30)) (va_runS (As := [.int fails, .int 0, .int 30]) (rest := []) ⟨hx, hb, hml, hown, hts⟩ (c_X8_in l _ fails 0 30) (va_cwS 3 hts gX8_writer_X8_in rfl rfl rfl (by decide +kernel) ⟨Nat.le_of_ble_eq_true rfl, Nat.le_of_ble_eq_true rfl⟩) (k_preS hK) rfl rfl hl.1 rfl (lv_room (Nat.le_of_ble_eq_true rfl)) dX8_writer_14 ⟨(Nat.zero_le _), (Nat.zero_le _)⟩) hS (fun locs hS => ?_)
    refine lv_if_eq (tgt := 30) hx hb dX8_writer_17 (by decide) (fun c17 => ?_) (fun c17 => ?_)
    · have b17 := b2_0 c17
      refine lv_iconst (v := -1) hx hb dX8_writer_30 (by decide) ?_
      refine lv_goto (tgt := 44) hx hb dX8_writer_31 (by decide) ?_
      have hX : mWri σ nW many fails frm more = (-1, σ) := by unfold mWri; rw [if_neg (fun q => absurd (q.2.1.symm.trans b17) (by decide))]
      exact k_reti hx hb hr hlocks ⟨by rw [hX], by rw [hX]; exact hM⟩ hS dX8_writer_44
    · have b17 := b2_n c17
      refine lv_iload_n hx hb dX8_writer_20 rfl (lv_at hl 3 rfl) ?_
      refine lv_iconst (v := 0) hx hb dX8_writer_21 (by decide) ?_
      refine lv_bipush (v := 15) hx hb dX8_writer_22 (by decide) ?_
      refine k_callpi (v := b2 (inB frm 0 15)) (va_runS (As := [.int frm, .int 0, .int 15]) (rest := []) ⟨hx, hb, hml, hown, hts⟩ (c_X8_in l _ frm 0 15) (va_cwS 3 hts gX8_writer_X8_in rfl rfl rfl (by decide +kernel) ⟨Nat.le_of_ble_eq_true rfl, Nat.le_of_ble_eq_true rfl⟩) (k_preS hK) rfl rfl hl.1 rfl (lv_room (Nat.le_of_ble_eq_true rfl)) dX8_writer_24 ⟨(Nat.zero_le _), (Nat.zero_le _)⟩) hS (fun locs hS => ?_)
      refine lv_if_ne (tgt := 34) hx hb dX8_writer_27 (by decide) (fun c27 => ?_) (fun c27 => ?_)
      · have b27 := b2_n c27
        refine lv_aload_n hx hb dX8_writer_34 rfl (lv_at hl 0 rfl) ?_
        refine lv_iconst (v := 1) hx hb dX8_writer_35 (by decide) ?_
        refine lv_iload_n hx hb dX8_writer_36 rfl (lv_at hl 1 rfl) ?_
        refine lv_iload_n hx hb dX8_writer_37 rfl (lv_at hl 2 rfl) ?_
        refine lv_iload_n hx hb dX8_writer_38 rfl (lv_at hl 3 rfl) ?_
        refine lv_iload hx hb dX8_writer_39 (lv_at hl 4 rfl) ?_
        refine k_calli (va_runV (As := [.int 1, .int many, .int fails, .int frm, .int more]) (rest := []) ⟨hx, hb, hml, hown, hts⟩ (c_X8_begin l _ m0 ad σ nW 1 many fails frm more hM hW hn) (cwV 5 hts gX8_writer_X8_begin rfl rfl rfl (by decide +kernel) ⟨Nat.le_of_ble_eq_true rfl, Nat.le_of_ble_eq_true rfl⟩) (k_preV hK (k_recv hK.1 hM.1 rfl)) rfl rfl hl.1 rfl (lv_room (Nat.le_of_ble_eq_true rfl)) dX8_writer_41 ⟨(Nat.zero_le _), (Nat.zero_le _)⟩) hS (fun _ h => h) (fun r9 H2 locs hp9 _ _ hS => ?_)
        exact k_reti hx hb hr hlocks (by unfold mWri; rw [if_pos ⟨b7, b17, b27⟩]; exact hp9) hS dX8_writer_44
      · have b27 := b2_0 c27
        refine lv_iconst (v := -1) hx hb dX8_writer_30 (by decide) ?_
        refine lv_goto (tgt := 44) hx hb dX8_writer_31 (by decide) ?_
        have hX : mWri σ nW many fails frm more = (-1, σ) := by unfold mWri; rw [if_neg (fun q => absurd (q.2.2.symm.trans b27) (by decide))]
        exact k_reti hx hb hr hlocks ⟨by rw [hX], by rw [hX]; exact hM⟩ hS dX8_writer_44
set_option maxHeartbeats 4000000 in
set_option maxRecDepth 100000 in
theorem c_X8_reason (l : Launch) {D : va_G} {cI cZ cO : ClassId} {mi : Nat} (H : Heap) (m0 : Nat) (ad : Nat → Nat) (σ : Sg) (nW : Nat) (many fails : Int32) (hM : MD D cI cZ m0 ad σ H) (hW : σ 3 0 = nI nW) (hn : nW ≤ 30) : Met l yX8_reason wsX8_reason ({ frames := 1, cells := 0, slots := 0, locals := 26 }) (Pk D cI cZ cO mi [.ref m0, .int many, .int fails] H) (Qki (fun r H1 => r = (mRea σ nW many fails).1 ∧ MD D cI cZ m0 ad (mRea σ nW many fails).2 H1) (Am m0 ad)) 0 0 (Am m0 ad) := by
  refine Met.ofW (cc := cX8_reason) (maxL := 3) (ret := (some .int)) (by decide) rfl ?_
  intro p e s m args below meth c s₁ B hml hv
  obtain ⟨rfl, rfl, hK⟩ := hv
  have hx := B.exec
  have hb := B.bytes
  have hr := B.returns
  have hts := atoms_spec (ws := wsX8_reason) B.pre
  have hown : s.vm.findClass RX8 = some m.cls := findClass_of_methodNamed B.named
  have hlocks := B.notSynchronized
  have hS : va_S (Am m0 ad) s.heap s.heap [] := va_S.rf
  have hl := lv_entry ([.ref m0, .int many, .int fails]) (n := 3) (Nat.le_of_ble_eq_true rfl)
  rw [lg_entry_eq]
  generalize (lg_sl ([.ref m0, .int many, .int fails]) ++ List.replicate (3 - (lg_sl ([.ref m0, .int many, .int fails])).length) Slot.unset).toArray = ls at hl ⊢
  have hl : lv_has ls 3 [(0, .ref m0), (1, .int many), (2, .int fails)] := hl
  have hiX8 : ∀ w ∈ wsX80, w ∈ wsX8_reason := by decide +kernel
  refine lv_iload_n hx hb dX8_reason_0 rfl (lv_at hl 1 rfl) ?_
  refine lv_iconst (v := 1) hx hb dX8_reason_1 (by decide) ?_
  refine lv_bipush (v := 20) hx hb dX8_reason_2 (by decide) ?_
  refine k_callpi (v := b2 (inB many 1 20)) (va_runS (As := [.int many, .int 1, .int 20]) (rest := []) ⟨hx, hb, hml, hown, hts⟩ (c_X8_in l _ many 1 20) (va_cwS 3 hts gX8_reason_X8_in rfl rfl rfl (by decide +kernel) ⟨Nat.le_of_ble_eq_true rfl, Nat.le_of_ble_eq_true rfl⟩) (k_preS hK) rfl rfl hl.1 rfl (lv_room (Nat.le_of_ble_eq_true rfl)) dX8_reason_4 ⟨(Nat.zero_le _), (Nat.zero_le _)⟩) hS (fun locs hS => ?_)
  refine lv_if_eq (tgt := 20) hx hb dX8_reason_7 (by decide) (fun c7 => ?_) (fun c7 => ?_)
  · have b7 := b2_0 c7
    refine lv_iconst (v := -1) hx hb dX8_reason_20 (by decide) ?_
    refine lv_goto (tgt := 33) hx hb dX8_reason_21 (by decide) ?_
    have hX : mRea σ nW many fails = (-1, σ) := by unfold mRea; rw [if_neg (fun q => absurd (q.1.symm.trans b7) (by decide))]
    exact k_reti hx hb hr hlocks ⟨by rw [hX], by rw [hX]; exact hM⟩ hS dX8_reason_33
  · have b7 := b2_n c7
    refine lv_iload_n hx hb dX8_reason_10 rfl (lv_at hl 2 rfl) ?_
    refine lv_iconst (v := 0) hx hb dX8_reason_11 (by decide) ?_
    refine lv_bipush (v := 30) hx hb dX8_reason_12 (by decide) ?_
    refine k_callpi (v := b2 (inB fails 0 30)) (va_runS (As := [.int fails, .int 0, .int 30]) (rest := []) ⟨hx, hb, hml, hown, hts⟩ (c_X8_in l _ fails 0 30) (va_cwS 3 hts gX8_reason_X8_in rfl rfl rfl (by decide +kernel) ⟨Nat.le_of_ble_eq_true rfl, Nat.le_of_ble_eq_true rfl⟩) (k_preS hK) rfl rfl hl.1 rfl (lv_room (Nat.le_of_ble_eq_true rfl)) dX8_reason_14 ⟨(Nat.zero_le _), (Nat.zero_le _)⟩) hS (fun locs hS => ?_)
    refine lv_if_ne (tgt := 24) hx hb dX8_reason_17 (by decide) (fun c17 => ?_) (fun c17 => ?_)
    · have b17 := b2_n c17
      refine lv_aload_n hx hb dX8_reason_24 rfl (lv_at hl 0 rfl) ?_
      refine lv_iconst (v := 2) hx hb dX8_reason_25 (by decide) ?_
      refine lv_iload_n hx hb dX8_reason_26 rfl (lv_at hl 1 rfl) ?_
      refine lv_iload_n hx hb dX8_reason_27 rfl (lv_at hl 2 rfl) ?_
      refine lv_iconst (v := 0) hx hb dX8_reason_28 (by decide) ?_
      refine lv_iconst (v := 0) hx hb dX8_reason_29 (by decide) ?_
      refine k_calli (va_runV (As := [.int 2, .int many, .int fails, .int 0, .int 0]) (rest := []) ⟨hx, hb, hml, hown, hts⟩ (c_X8_begin l _ m0 ad σ nW 2 many fails 0 0 hM hW hn) (cwV 5 hts gX8_reason_X8_begin rfl rfl rfl (by decide +kernel) ⟨Nat.le_of_ble_eq_true rfl, Nat.le_of_ble_eq_true rfl⟩) (k_preV hK (k_recv hK.1 hM.1 rfl)) rfl rfl hl.1 rfl (lv_room (Nat.le_of_ble_eq_true rfl)) dX8_reason_30 ⟨(Nat.zero_le _), (Nat.zero_le _)⟩) hS (fun _ h => h) (fun r9 H2 locs hp9 _ _ hS => ?_)
      exact k_reti hx hb hr hlocks (by unfold mRea; rw [if_pos ⟨b7, b17⟩]; exact hp9) hS dX8_reason_33
    · have b17 := b2_0 c17
      refine lv_iconst (v := -1) hx hb dX8_reason_20 (by decide) ?_
      refine lv_goto (tgt := 33) hx hb dX8_reason_21 (by decide) ?_
      have hX : mRea σ nW many fails = (-1, σ) := by unfold mRea; rw [if_neg (fun q => absurd (q.2.symm.trans b17) (by decide))]
      exact k_reti hx hb hr hlocks ⟨by rw [hX], by rw [hX]; exact hM⟩ hS dX8_reason_33
set_option maxHeartbeats 4000000 in
set_option maxRecDepth 100000 in
theorem c_X8_stream (l : Launch) {D : va_G} {cI cZ cO : ClassId} {mi : Nat} (H : Heap) (m0 : Nat) (ad : Nat → Nat) (σ : Sg) (nW : Nat) (hM : MD D cI cZ m0 ad σ H) (hW : σ 3 0 = nI nW) (hn : nW ≤ 30) : Met l yX8_stream wsX8_stream ({ frames := 1, cells := 0, slots := 0, locals := 26 }) (Pk D cI cZ cO mi [.ref m0] H) (Qki (fun r H1 => r = (beg σ nW 3 0 0 0 0).1 ∧ MD D cI cZ m0 ad (beg σ nW 3 0 0 0 0).2 H1) (Am m0 ad)) 0 0 (Am m0 ad) := by
  refine Met.ofW (cc := cX8_stream) (maxL := 1) (ret := (some .int)) (by decide) rfl ?_
  intro p e s m args below meth c s₁ B hml hv
  obtain ⟨rfl, rfl, hK⟩ := hv
  have hx := B.exec
  have hb := B.bytes
  have hr := B.returns
  have hts := atoms_spec (ws := wsX8_stream) B.pre
  have hown : s.vm.findClass RX8 = some m.cls := findClass_of_methodNamed B.named
  have hlocks := B.notSynchronized
  have hS : va_S (Am m0 ad) s.heap s.heap [] := va_S.rf
  have hl := lv_entry ([.ref m0]) (n := 1) (Nat.le_of_ble_eq_true rfl)
  rw [lg_entry_eq]
  generalize (lg_sl ([.ref m0]) ++ List.replicate (1 - (lg_sl ([.ref m0])).length) Slot.unset).toArray = ls at hl ⊢
  have hl : lv_has ls 1 [(0, .ref m0)] := hl
  have hiX8 : ∀ w ∈ wsX80, w ∈ wsX8_stream := by decide +kernel
  refine lv_aload_n hx hb dX8_stream_0 rfl (lv_at hl 0 rfl) ?_
  refine lv_iconst (v := 3) hx hb dX8_stream_1 (by decide) ?_
  refine lv_iconst (v := 0) hx hb dX8_stream_2 (by decide) ?_
  refine lv_iconst (v := 0) hx hb dX8_stream_3 (by decide) ?_
  refine lv_iconst (v := 0) hx hb dX8_stream_4 (by decide) ?_
  refine lv_iconst (v := 0) hx hb dX8_stream_5 (by decide) ?_
  refine k_calli (va_runV (As := [.int 3, .int 0, .int 0, .int 0, .int 0]) (rest := []) ⟨hx, hb, hml, hown, hts⟩ (c_X8_begin l _ m0 ad σ nW 3 0 0 0 0 hM hW hn) (cwV 5 hts gX8_stream_X8_begin rfl rfl rfl (by decide +kernel) ⟨Nat.le_of_ble_eq_true rfl, Nat.le_of_ble_eq_true rfl⟩) (k_preV hK (k_recv hK.1 hM.1 rfl)) rfl rfl hl.1 rfl (lv_room (Nat.le_of_ble_eq_true rfl)) dX8_stream_6 ⟨(Nat.zero_le _), (Nat.zero_le _)⟩) hS (fun _ h => h) (fun r9 H2 locs hp9 _ _ hS => ?_)
  exact k_reti hx hb hr hlocks (by skip; exact hp9) hS dX8_stream_9
set_option maxHeartbeats 4000000 in
set_option maxRecDepth 100000 in
theorem c_X8_cancel (l : Launch) {D : va_G} {cI cZ cO : ClassId} {mi : Nat} (H : Heap) (m0 : Nat) (ad : Nat → Nat) (σ : Sg) (nW nV nE : Nat) (x : Int32) (hM : MD D cI cZ m0 ad σ H) (hI : Inv σ nW nV nE) : Met l yX8_cancel wsX8_cancel ({ frames := 1, cells := 0, slots := 0, locals := 22 }) (Pk D cI cZ cO mi [.ref m0, .int x] H) (Qki (fun r H1 => r = (mCan σ x).1 ∧ MD D cI cZ m0 ad (mCan σ x).2 H1) (Am m0 ad)) 0 0 (Am m0 ad) := by
  refine Met.ofW (cc := cX8_cancel) (maxL := 2) (ret := (some .int)) (by decide) rfl ?_
  intro p e s m args below meth c s₁ B hml hv
  obtain ⟨rfl, rfl, hK⟩ := hv
  have hx := B.exec
  have hb := B.bytes
  have hr := B.returns
  have hts := atoms_spec (ws := wsX8_cancel) B.pre
  have hown : s.vm.findClass RX8 = some m.cls := findClass_of_methodNamed B.named
  have hlocks := B.notSynchronized
  have hS : va_S (Am m0 ad) s.heap s.heap [] := va_S.rf
  have hl := lv_entry ([.ref m0, .int x]) (n := 2) (Nat.le_of_ble_eq_true rfl)
  rw [lg_entry_eq]
  generalize (lg_sl ([.ref m0, .int x]) ++ List.replicate (2 - (lg_sl ([.ref m0, .int x])).length) Slot.unset).toArray = ls at hl ⊢
  have hl : lv_has ls 2 [(0, .ref m0), (1, .int x)] := hl
  have hiX8 : ∀ w ∈ wsX80, w ∈ wsX8_cancel := by decide +kernel
  refine lv_iload_n hx hb dX8_cancel_0 rfl (lv_at hl 1 rfl) ?_
  refine lv_iconst (v := 0) hx hb dX8_cancel_1 (by decide) ?_
  refine lv_aload_n hx hb dX8_cancel_2 rfl (lv_at hl 0 rfl) ?_
  refine k_get (C := RX8) (T := TX8) (N := 22) (v := .int (σ 3 0)) hx hb hts hiX8 hown hK.1 hM.1 rfl 3 (by decide) (hts (.fieldLink RX8 67 "HouseWorkersModel" "workers" "I") (by decide +kernel)) (fun _ h9 => h9) rfl dX8_cancel_3 ?_
  refine lv_iconst (v := 1) hx hb dX8_cancel_6 (by decide) ?_
  refine lv_isub hx hb dX8_cancel_7 ?_
  refine k_callpi (v := b2 (inB x 0 ((σ 3 0) - 1))) (va_runS (As := [.int x, .int 0, .int ((σ 3 0) - 1)]) (rest := []) ⟨hx, hb, hml, hown, hts⟩ (c_X8_in l _ x 0 ((σ 3 0) - 1)) (va_cwS 3 hts gX8_cancel_X8_in rfl rfl rfl (by decide +kernel) ⟨Nat.le_of_ble_eq_true rfl, Nat.le_of_ble_eq_true rfl⟩) (k_preS hK) rfl rfl hl.1 rfl (lv_room (Nat.le_of_ble_eq_true rfl)) dX8_cancel_8 ⟨(Nat.zero_le _), (Nat.zero_le _)⟩) hS (fun locs hS => ?_)
  refine lv_if_ne (tgt := 16) hx hb dX8_cancel_11 (by decide) (fun c11 => ?_) (fun c11 => ?_)
  · have b11 := b2_n c11
    have hin := b11
    rw [hI.1] at hin
    obtain ⟨j, hjW, hxj⟩ := inB_idx (by have := hI.2.2.2.1; omega) hin
    subst hxj
    have hn30 := hI.2.2.2.1
    refine lv_aload_n hx hb dX8_cancel_16 rfl (lv_at hl 0 rfl) ?_
    refine k_get (C := RX8) (T := TX8) (N := 22) (v := .ref (ad 12)) hx hb hts hiX8 hown hK.1 hM.1 rfl 12 (by decide) (hts (.fieldLink RX8 41 "HouseWorkersModel" "end" "[I") (by decide +kernel)) (fun _ h9 => h9) rfl dX8_cancel_17 ?_
    refine lv_iload_n hx hb dX8_cancel_20 rfl (lv_at hl 1 rfl) ?_
    refine k_iald (n := 30) (f := (σ 12)) hx hb hK.1 0 (hM.2.1 12 rfl) rfl j rfl (by omega) (by decide) dX8_cancel_21 ?_
    refine lv_if_gt (tgt := 34) hx hb dX8_cancel_22 (by decide) (fun c22 => ?_) (fun c22 => ?_)
    · refine lv_iconst (v := 0) hx hb dX8_cancel_34 (by decide) ?_
      have hX : mCan σ (nI j) = (0, σ) := by unfold mCan; rw [if_pos b11, nat_nI (by omega)]; unfold cnc; rw [if_pos c22]
      exact k_reti hx hb hr hlocks ⟨by rw [hX], by rw [hX]; exact hM⟩ hS dX8_cancel_35
    · refine lv_aload_n hx hb dX8_cancel_25 rfl (lv_at hl 0 rfl) ?_
      refine k_get (C := RX8) (T := TX8) (N := 22) (v := .ref (ad 13)) hx hb hts hiX8 hown hK.1 hM.1 rfl 13 (by decide) (hts (.fieldLink RX8 44 "HouseWorkersModel" "told" "[Z") (by decide +kernel)) (fun _ h9 => h9) rfl dX8_cancel_26 ?_
      refine lv_iload_n hx hb dX8_cancel_29 rfl (lv_at hl 1 rfl) ?_
      refine k_zald (n := 30) (f := (σ 13)) hx hb hK.1 1 hM.2.2.1 rfl j rfl (by omega) (by decide) dX8_cancel_30 ?_
      refine lv_if_eq (tgt := 36) hx hb dX8_cancel_31 (by decide) (fun c31 => ?_) (fun c31 => ?_)
      · refine lv_aload_n hx hb dX8_cancel_36 rfl (lv_at hl 0 rfl) ?_
        refine k_get (C := RX8) (T := TX8) (N := 22) (v := .ref (ad 13)) hx hb hts hiX8 hown hK.1 hM.1 rfl 13 (by decide) (hts (.fieldLink RX8 44 "HouseWorkersModel" "told" "[Z") (by decide +kernel)) (fun _ h9 => h9) rfl dX8_cancel_37 ?_
        refine lv_iload_n hx hb dX8_cancel_40 rfl (lv_at hl 1 rfl) ?_
        refine lv_iconst (v := 1) hx hb dX8_cancel_41 (by decide) ?_
        refine k_zast (A := (Am m0 ad)) (n := 30) (f := (σ 13)) (x := 1) hx hb hK.1 1 hM.2.2.1 (Am.arr 13 rfl) hS rfl j rfl (by omega) (by decide) (by decide) dX8_cancel_42 (fun H1 locs hO2 hz3 hq4 hS => ?_)
        have hM := MD.told (i := j) (v := 1) hM hO2 hq4
        refine lv_iconst (v := 1) hx hb dX8_cancel_43 (by decide) ?_
        have hX : mCan σ (nI j) = (1, (u2 σ 13 j 1)) := by unfold mCan; rw [if_pos b11, nat_nI (by omega)]; unfold cnc; rw [if_neg c22, if_neg (fun q => q c31)]
        exact k_reti hx hb hr hlocks ⟨by rw [hX], by rw [hX]; exact hM⟩ hS dX8_cancel_44
      · refine lv_iconst (v := 0) hx hb dX8_cancel_34 (by decide) ?_
        have hX : mCan σ (nI j) = (0, σ) := by unfold mCan; rw [if_pos b11, nat_nI (by omega)]; unfold cnc; rw [if_neg c22, if_pos c31]
        exact k_reti hx hb hr hlocks ⟨by rw [hX], by rw [hX]; exact hM⟩ hS dX8_cancel_35
  · have b11 := b2_0 c11
    refine lv_iconst (v := -1) hx hb dX8_cancel_14 (by decide) ?_
    have hX : mCan σ x = (-1, σ) := by unfold mCan; rw [if_neg (by rw [b11]; decide)]
    exact k_reti hx hb hr hlocks ⟨by rw [hX], by rw [hX]; exact hM⟩ hS dX8_cancel_15
set_option maxHeartbeats 4000000 in
set_option maxRecDepth 100000 in
theorem c_X8_told (l : Launch) {D : va_G} {cI cZ cO : ClassId} {mi : Nat} (H : Heap) (m0 : Nat) (ad : Nat → Nat) (σ : Sg) (nW nV nE : Nat) (x what : Int32) (hM : MD D cI cZ m0 ad σ H) (hI : Inv σ nW nV nE) : Met l yX8_told wsX8_told ({ frames := 2, cells := 0, slots := 0, locals := 44 }) (Pk D cI cZ cO mi [.ref m0, .int x, .int what] H) (Qpi H (mTld σ x what)) 0 0 (fun _ => False) := by
  refine Met.ofW (cc := cX8_told) (maxL := 3) (ret := (some .int)) (by decide) rfl ?_
  intro p e s m args below meth c s₁ B hml hv
  obtain ⟨rfl, rfl, hK⟩ := hv
  have hx := B.exec
  have hb := B.bytes
  have hr := B.returns
  have hts := atoms_spec (ws := wsX8_told) B.pre
  have hown : s.vm.findClass RX8 = some m.cls := findClass_of_methodNamed B.named
  have hlocks := B.notSynchronized
  have hS : va_S (fun _ => False) s.heap s.heap [] := va_S.rf
  have hl := lv_entry ([.ref m0, .int x, .int what]) (n := 3) (Nat.le_of_ble_eq_true rfl)
  rw [lg_entry_eq]
  generalize (lg_sl ([.ref m0, .int x, .int what]) ++ List.replicate (3 - (lg_sl ([.ref m0, .int x, .int what])).length) Slot.unset).toArray = ls at hl ⊢
  have hl : lv_has ls 3 [(0, .ref m0), (1, .int x), (2, .int what)] := hl
  have hiX8 : ∀ w ∈ wsX80, w ∈ wsX8_told := by decide +kernel
  refine lv_iload_n hx hb dX8_told_0 rfl (lv_at hl 1 rfl) ?_
  refine lv_iconst (v := 0) hx hb dX8_told_1 (by decide) ?_
  refine lv_aload_n hx hb dX8_told_2 rfl (lv_at hl 0 rfl) ?_
  refine k_get (C := RX8) (T := TX8) (N := 22) (v := .int (σ 3 0)) hx hb hts hiX8 hown hK.1 hM.1 rfl 3 (by decide) (hts (.fieldLink RX8 67 "HouseWorkersModel" "workers" "I") (by decide +kernel)) (fun _ h9 => h9) rfl dX8_told_3 ?_
  refine lv_iconst (v := 1) hx hb dX8_told_6 (by decide) ?_
  refine lv_isub hx hb dX8_told_7 ?_
  refine k_callpi (v := b2 (inB x 0 ((σ 3 0) - 1))) (va_runS (As := [.int x, .int 0, .int ((σ 3 0) - 1)]) (rest := []) ⟨hx, hb, hml, hown, hts⟩ (c_X8_in l _ x 0 ((σ 3 0) - 1)) (va_cwS 3 hts gX8_told_X8_in rfl rfl rfl (by decide +kernel) ⟨Nat.le_of_ble_eq_true rfl, Nat.le_of_ble_eq_true rfl⟩) (k_preS hK) rfl rfl hl.1 rfl (lv_room (Nat.le_of_ble_eq_true rfl)) dX8_told_8 ⟨(Nat.zero_le _), (Nat.zero_le _)⟩) hS (fun locs hS => ?_)
  refine lv_if_eq (tgt := 23) hx hb dX8_told_11 (by decide) (fun c11 => ?_) (fun c11 => ?_)
  · have b11 := b2_0 c11
    refine lv_iconst (v := -1) hx hb dX8_told_23 (by decide) ?_
    exact k_reti hx hb hr hlocks ⟨by unfold mTld; rw [if_neg (fun q => absurd (q.1.symm.trans b11) (by decide))], rfl⟩ hS dX8_told_24
  · have b11 := b2_n c11
    refine lv_iload_n hx hb dX8_told_14 rfl (lv_at hl 2 rfl) ?_
    refine lv_iconst (v := 0) hx hb dX8_told_15 (by decide) ?_
    refine lv_iconst (v := 5) hx hb dX8_told_16 (by decide) ?_
    refine k_callpi (v := b2 (inB what 0 5)) (va_runS (As := [.int what, .int 0, .int 5]) (rest := []) ⟨hx, hb, hml, hown, hts⟩ (c_X8_in l _ what 0 5) (va_cwS 3 hts gX8_told_X8_in rfl rfl rfl (by decide +kernel) ⟨Nat.le_of_ble_eq_true rfl, Nat.le_of_ble_eq_true rfl⟩) (k_preS hK) rfl rfl hl.1 rfl (lv_room (Nat.le_of_ble_eq_true rfl)) dX8_told_17 ⟨(Nat.zero_le _), (Nat.zero_le _)⟩) hS (fun locs hS => ?_)
    refine lv_if_ne (tgt := 25) hx hb dX8_told_20 (by decide) (fun c20 => ?_) (fun c20 => ?_)
    · have b20 := b2_n c20
      have hin := b11
      rw [hI.1] at hin
      obtain ⟨j, hjW, hxj⟩ := inB_idx (by have := hI.2.2.2.1; omega) hin
      subst hxj
      have hn30 := hI.2.2.2.1
      refine lv_iload_n hx hb dX8_told_25 rfl (lv_at hl 2 rfl) ?_
      by_cases k0 : what = 0
      · refine lv_tableIn (off := 34) (tgt := 60) hx hb dX8_told_26 (by rw [k0]; decide) (by rw [k0]; decide) (by rw [k0]; decide) (by decide) ?_
        refine lv_aload_n hx hb dX8_told_60 rfl (lv_at hl 0 rfl) ?_
        refine k_get (C := RX8) (T := TX8) (N := 22) (v := .ref (ad 4)) hx hb hts hiX8 hown hK.1 hM.1 rfl 4 (by decide) (hts (.fieldLink RX8 17 "HouseWorkersModel" "kind" "[I") (by decide +kernel)) (fun _ h9 => h9) rfl dX8_told_61 ?_
        refine lv_iload_n hx hb dX8_told_64 rfl (lv_at hl 1 rfl) ?_
        refine k_iald (n := 30) (f := (σ 4)) hx hb hK.1 0 (hM.2.1 4 rfl) rfl j rfl (by omega) (by decide) dX8_told_65 ?_
        exact k_reti hx hb hr hlocks ⟨by unfold mTld; rw [if_pos ⟨b11, b20⟩, nat_nI (by omega)]; unfold tld; rw [if_pos k0], rfl⟩ hS dX8_told_66
      by_cases k1 : what = 1
      · refine lv_tableIn (off := 41) (tgt := 67) hx hb dX8_told_26 (by rw [k1]; decide) (by rw [k1]; decide) (by rw [k1]; decide) (by decide) ?_
        refine lv_aload_n hx hb dX8_told_67 rfl (lv_at hl 0 rfl) ?_
        refine k_get (C := RX8) (T := TX8) (N := 22) (v := .ref (ad 12)) hx hb hts hiX8 hown hK.1 hM.1 rfl 12 (by decide) (hts (.fieldLink RX8 41 "HouseWorkersModel" "end" "[I") (by decide +kernel)) (fun _ h9 => h9) rfl dX8_told_68 ?_
        refine lv_iload_n hx hb dX8_told_71 rfl (lv_at hl 1 rfl) ?_
        refine k_iald (n := 30) (f := (σ 12)) hx hb hK.1 0 (hM.2.1 12 rfl) rfl j rfl (by omega) (by decide) dX8_told_72 ?_
        exact k_reti hx hb hr hlocks ⟨by unfold mTld; rw [if_pos ⟨b11, b20⟩, nat_nI (by omega)]; unfold tld; rw [if_neg k0, if_pos k1], rfl⟩ hS dX8_told_73
      by_cases k2 : what = 2
      · refine lv_tableIn (off := 48) (tgt := 74) hx hb dX8_told_26 (by rw [k2]; decide) (by rw [k2]; decide) (by rw [k2]; decide) (by decide) ?_
        refine lv_aload_n hx hb dX8_told_74 rfl (lv_at hl 0 rfl) ?_
        refine k_get (C := RX8) (T := TX8) (N := 22) (v := .ref (ad 9)) hx hb hts hiX8 hown hK.1 hM.1 rfl 9 (by decide) (hts (.fieldLink RX8 32 "HouseWorkersModel" "done" "[I") (by decide +kernel)) (fun _ h9 => h9) rfl dX8_told_75 ?_
        refine lv_iload_n hx hb dX8_told_78 rfl (lv_at hl 1 rfl) ?_
        refine k_iald (n := 30) (f := (σ 9)) hx hb hK.1 0 (hM.2.1 9 rfl) rfl j rfl (by omega) (by decide) dX8_told_79 ?_
        exact k_reti hx hb hr hlocks ⟨by unfold mTld; rw [if_pos ⟨b11, b20⟩, nat_nI (by omega)]; unfold tld; rw [if_neg k0, if_neg k1, if_pos k2], rfl⟩ hS dX8_told_80
      by_cases k3 : what = 3
      · refine lv_tableIn (off := 55) (tgt := 81) hx hb dX8_told_26 (by rw [k3]; decide) (by rw [k3]; decide) (by rw [k3]; decide) (by decide) ?_
        refine lv_aload_n hx hb dX8_told_81 rfl (lv_at hl 0 rfl) ?_
        refine k_get (C := RX8) (T := TX8) (N := 22) (v := .ref (ad 10)) hx hb hts hiX8 hown hK.1 hM.1 rfl 10 (by decide) (hts (.fieldLink RX8 35 "HouseWorkersModel" "answer" "[I") (by decide +kernel)) (fun _ h9 => h9) rfl dX8_told_82 ?_
        refine lv_iload_n hx hb dX8_told_85 rfl (lv_at hl 1 rfl) ?_
        refine k_iald (n := 30) (f := (σ 10)) hx hb hK.1 0 (hM.2.1 10 rfl) rfl j rfl (by omega) (by decide) dX8_told_86 ?_
        exact k_reti hx hb hr hlocks ⟨by unfold mTld; rw [if_pos ⟨b11, b20⟩, nat_nI (by omega)]; unfold tld; rw [if_neg k0, if_neg k1, if_neg k2, if_pos k3], rfl⟩ hS dX8_told_87
      by_cases k4 : what = 4
      · refine lv_tableIn (off := 62) (tgt := 88) hx hb dX8_told_26 (by rw [k4]; decide) (by rw [k4]; decide) (by rw [k4]; decide) (by decide) ?_
        refine lv_aload_n hx hb dX8_told_88 rfl (lv_at hl 0 rfl) ?_
        refine k_get (C := RX8) (T := TX8) (N := 22) (v := .ref (ad 4)) hx hb hts hiX8 hown hK.1 hM.1 rfl 4 (by decide) (hts (.fieldLink RX8 17 "HouseWorkersModel" "kind" "[I") (by decide +kernel)) (fun _ h9 => h9) rfl dX8_told_89 ?_
        refine lv_iload_n hx hb dX8_told_92 rfl (lv_at hl 1 rfl) ?_
        refine k_iald (n := 30) (f := (σ 4)) hx hb hK.1 0 (hM.2.1 4 rfl) rfl j rfl (by omega) (by decide) dX8_told_93 ?_
        refine lv_iconst (v := 2) hx hb dX8_told_94 (by decide) ?_
        refine lv_icmp_ne (tgt := 112) hx hb dX8_told_95 (by decide) (fun c95 => ?_) (fun c95 => ?_)
        · refine lv_aload_n hx hb dX8_told_112 rfl (lv_at hl 0 rfl) ?_
          refine k_get (C := RX8) (T := TX8) (N := 22) (v := .ref (ad 11)) hx hb hts hiX8 hown hK.1 hM.1 rfl 11 (by decide) (hts (.fieldLink RX8 38 "HouseWorkersModel" "version" "[I") (by decide +kernel)) (fun _ h9 => h9) rfl dX8_told_113 ?_
          refine lv_iload_n hx hb dX8_told_116 rfl (lv_at hl 1 rfl) ?_
          refine k_iald (n := 30) (f := (σ 11)) hx hb hK.1 0 (hM.2.1 11 rfl) rfl j rfl (by omega) (by decide) dX8_told_117 ?_
          exact k_reti hx hb hr hlocks ⟨by unfold mTld; rw [if_pos ⟨b11, b20⟩, nat_nI (by omega)]; unfold tld; rw [if_neg k0, if_neg k1, if_neg k2, if_neg k3, if_pos k4]; rw [if_neg (fun q => c95 q.1)], rfl⟩ hS dX8_told_118
        · refine lv_aload_n hx hb dX8_told_98 rfl (lv_at hl 0 rfl) ?_
          refine k_get (C := RX8) (T := TX8) (N := 22) (v := .ref (ad 12)) hx hb hts hiX8 hown hK.1 hM.1 rfl 12 (by decide) (hts (.fieldLink RX8 41 "HouseWorkersModel" "end" "[I") (by decide +kernel)) (fun _ h9 => h9) rfl dX8_told_99 ?_
          refine lv_iload_n hx hb dX8_told_102 rfl (lv_at hl 1 rfl) ?_
          refine k_iald (n := 30) (f := (σ 12)) hx hb hK.1 0 (hM.2.1 12 rfl) rfl j rfl (by omega) (by decide) dX8_told_103 ?_
          refine lv_iconst (v := 2) hx hb dX8_told_104 (by decide) ?_
          refine lv_icmp_eq (tgt := 112) hx hb dX8_told_105 (by decide) (fun c105 => ?_) (fun c105 => ?_)
          · refine lv_aload_n hx hb dX8_told_112 rfl (lv_at hl 0 rfl) ?_
            refine k_get (C := RX8) (T := TX8) (N := 22) (v := .ref (ad 11)) hx hb hts hiX8 hown hK.1 hM.1 rfl 11 (by decide) (hts (.fieldLink RX8 38 "HouseWorkersModel" "version" "[I") (by decide +kernel)) (fun _ h9 => h9) rfl dX8_told_113 ?_
            refine lv_iload_n hx hb dX8_told_116 rfl (lv_at hl 1 rfl) ?_
            refine k_iald (n := 30) (f := (σ 11)) hx hb hK.1 0 (hM.2.1 11 rfl) rfl j rfl (by omega) (by decide) dX8_told_117 ?_
            exact k_reti hx hb hr hlocks ⟨by unfold mTld; rw [if_pos ⟨b11, b20⟩, nat_nI (by omega)]; unfold tld; rw [if_neg k0, if_neg k1, if_neg k2, if_neg k3, if_pos k4]; rw [if_neg (fun q => q.2 c105)], rfl⟩ hS dX8_told_118
          · refine lv_iconst (v := -1) hx hb dX8_told_108 (by decide) ?_
            refine lv_goto (tgt := 118) hx hb dX8_told_109 (by decide) ?_
            exact k_reti hx hb hr hlocks ⟨by unfold mTld; rw [if_pos ⟨b11, b20⟩, nat_nI (by omega)]; unfold tld; rw [if_neg k0, if_neg k1, if_neg k2, if_neg k3, if_pos k4]; rw [if_pos ⟨c95, c105⟩], rfl⟩ hS dX8_told_118
      refine lv_tableOut (tgt := 119) hx hb dX8_told_26 (tb4 k0 k1 k2 k3 k4) (by decide) ?_
      refine lv_aload_n hx hb dX8_told_119 rfl (lv_at hl 0 rfl) ?_
      refine lv_iload_n hx hb dX8_told_120 rfl (lv_at hl 1 rfl) ?_
      refine k_callpi (v := b2 (wt σ j)) (va_runV (As := [.int (nI j)]) (rest := []) ⟨hx, hb, hml, hown, hts⟩ (c_X8_waits l _ m0 ad σ j hM (by omega)) (cwV 1 hts gX8_told_X8_waits rfl rfl rfl (by decide +kernel) ⟨Nat.le_of_ble_eq_true rfl, Nat.le_of_ble_eq_true rfl⟩) (k_preV hK (k_recv hK.1 hM.1 rfl)) rfl rfl hl.1 rfl (lv_room (Nat.le_of_ble_eq_true rfl)) dX8_told_121 ⟨(Nat.zero_le _), (Nat.zero_le _)⟩) hS (fun locs hS => ?_)
      refine lv_if_eq (tgt := 131) hx hb dX8_told_124 (by decide) (fun c124 => ?_) (fun c124 => ?_)
      · refine lv_iconst (v := 0) hx hb dX8_told_131 (by decide) ?_
        exact k_reti hx hb hr hlocks ⟨by unfold mTld; rw [if_pos ⟨b11, b20⟩, nat_nI (by omega)]; unfold tld; rw [if_neg k0, if_neg k1, if_neg k2, if_neg k3, if_neg k4]; exact (b2_f (b2_0 c124)).symm, rfl⟩ hS dX8_told_132
      · refine lv_iconst (v := 1) hx hb dX8_told_127 (by decide) ?_
        refine lv_goto (tgt := 132) hx hb dX8_told_128 (by decide) ?_
        exact k_reti hx hb hr hlocks ⟨by unfold mTld; rw [if_pos ⟨b11, b20⟩, nat_nI (by omega)]; unfold tld; rw [if_neg k0, if_neg k1, if_neg k2, if_neg k3, if_neg k4]; exact (b2_t (b2_n c124)).symm, rfl⟩ hS dX8_told_132
    · have b20 := b2_0 c20
      refine lv_iconst (v := -1) hx hb dX8_told_23 (by decide) ?_
      exact k_reti hx hb hr hlocks ⟨by unfold mTld; rw [if_neg (fun q => absurd (q.2.symm.trans b20) (by decide))], rfl⟩ hS dX8_told_24
set_option maxHeartbeats 4000000 in
set_option maxRecDepth 100000 in
theorem c_X8_ended (l : Launch) {D : va_G} {cI cZ cO : ClassId} {mi : Nat} (H : Heap) (m0 : Nat) (ad : Nat → Nat) (σ : Sg) (nW nV nE : Nat) (x what : Int32) (hM : MD D cI cZ m0 ad σ H) (hI : Inv σ nW nV nE) : Met l yX8_ended wsX8_ended ({ frames := 1, cells := 0, slots := 0, locals := 22 }) (Pk D cI cZ cO mi [.ref m0, .int x, .int what] H) (Qpi H (mEnd σ x what)) 0 0 (fun _ => False) := by
  refine Met.ofW (cc := cX8_ended) (maxL := 3) (ret := (some .int)) (by decide) rfl ?_
  intro p e s m args below meth c s₁ B hml hv
  obtain ⟨rfl, rfl, hK⟩ := hv
  have hx := B.exec
  have hb := B.bytes
  have hr := B.returns
  have hts := atoms_spec (ws := wsX8_ended) B.pre
  have hown : s.vm.findClass RX8 = some m.cls := findClass_of_methodNamed B.named
  have hlocks := B.notSynchronized
  have hS : va_S (fun _ => False) s.heap s.heap [] := va_S.rf
  have hl := lv_entry ([.ref m0, .int x, .int what]) (n := 3) (Nat.le_of_ble_eq_true rfl)
  rw [lg_entry_eq]
  generalize (lg_sl ([.ref m0, .int x, .int what]) ++ List.replicate (3 - (lg_sl ([.ref m0, .int x, .int what])).length) Slot.unset).toArray = ls at hl ⊢
  have hl : lv_has ls 3 [(0, .ref m0), (1, .int x), (2, .int what)] := hl
  have hiX8 : ∀ w ∈ wsX80, w ∈ wsX8_ended := by decide +kernel
  refine lv_iload_n hx hb dX8_ended_0 rfl (lv_at hl 2 rfl) ?_
  refine lv_iconst (v := 0) hx hb dX8_ended_1 (by decide) ?_
  refine lv_iconst (v := 2) hx hb dX8_ended_2 (by decide) ?_
  refine k_callpi (v := b2 (inB what 0 2)) (va_runS (As := [.int what, .int 0, .int 2]) (rest := []) ⟨hx, hb, hml, hown, hts⟩ (c_X8_in l _ what 0 2) (va_cwS 3 hts gX8_ended_X8_in rfl rfl rfl (by decide +kernel) ⟨Nat.le_of_ble_eq_true rfl, Nat.le_of_ble_eq_true rfl⟩) (k_preS hK) rfl rfl hl.1 rfl (lv_room (Nat.le_of_ble_eq_true rfl)) dX8_ended_3 ⟨(Nat.zero_le _), (Nat.zero_le _)⟩) hS (fun locs hS => ?_)
  refine lv_if_ne (tgt := 11) hx hb dX8_ended_6 (by decide) (fun c6 => ?_) (fun c6 => ?_)
  · have b6 := b2_n c6
    refine lv_iload_n hx hb dX8_ended_11 rfl (lv_at hl 1 rfl) ?_
    refine lv_iconst (v := 0) hx hb dX8_ended_12 (by decide) ?_
    refine lv_aload_n hx hb dX8_ended_13 rfl (lv_at hl 0 rfl) ?_
    refine k_get (C := RX8) (T := TX8) (N := 22) (v := .int (σ 16 0)) hx hb hts hiX8 hown hK.1 hM.1 rfl 16 (by decide) (hts (.fieldLink RX8 82 "HouseWorkersModel" "ends" "I") (by decide +kernel)) (fun _ h9 => h9) rfl dX8_ended_14 ?_
    refine lv_iconst (v := 1) hx hb dX8_ended_17 (by decide) ?_
    refine lv_isub hx hb dX8_ended_18 ?_
    refine k_callpi (v := b2 (inB x 0 ((σ 16 0) - 1))) (va_runS (As := [.int x, .int 0, .int ((σ 16 0) - 1)]) (rest := []) ⟨hx, hb, hml, hown, hts⟩ (c_X8_in l _ x 0 ((σ 16 0) - 1)) (va_cwS 3 hts gX8_ended_X8_in rfl rfl rfl (by decide +kernel) ⟨Nat.le_of_ble_eq_true rfl, Nat.le_of_ble_eq_true rfl⟩) (k_preS hK) rfl rfl hl.1 rfl (lv_room (Nat.le_of_ble_eq_true rfl)) dX8_ended_19 ⟨(Nat.zero_le _), (Nat.zero_le _)⟩) hS (fun locs hS => ?_)
    refine lv_if_ne (tgt := 28) hx hb dX8_ended_22 (by decide) (fun c22 => ?_) (fun c22 => ?_)
    · have b22 := b2_n c22
      have hin := b22
      rw [hI.2.2.1] at hin
      have heW := hI.eW
      have hn30 := hI.2.2.2.1
      obtain ⟨j, hjW, hxj⟩ := inB_idx (by omega) hin
      subst hxj
      refine lv_iload_n hx hb dX8_ended_28 rfl (lv_at hl 2 rfl) ?_
      refine lv_if_ne (tgt := 41) hx hb dX8_ended_29 (by decide) (fun c29 => ?_) (fun c29 => ?_)
      · refine lv_iload_n hx hb dX8_ended_41 rfl (lv_at hl 2 rfl) ?_
        refine lv_iconst (v := 1) hx hb dX8_ended_42 (by decide) ?_
        refine lv_icmp_ne (tgt := 55) hx hb dX8_ended_43 (by decide) (fun c43 => ?_) (fun c43 => ?_)
        · refine lv_aload_n hx hb dX8_ended_55 rfl (lv_at hl 0 rfl) ?_
          refine k_get (C := RX8) (T := TX8) (N := 22) (v := .ref (ad 19)) hx hb hts hiX8 hown hK.1 hM.1 rfl 19 (by decide) (hts (.fieldLink RX8 60 "HouseWorkersModel" "endWhen" "[I") (by decide +kernel)) (fun _ h9 => h9) rfl dX8_ended_56 ?_
          refine lv_iload_n hx hb dX8_ended_59 rfl (lv_at hl 1 rfl) ?_
          refine k_iald (n := 30) (f := (σ 19)) hx hb hK.1 0 (hM.2.1 19 rfl) rfl j rfl (by omega) (by decide) dX8_ended_60 ?_
          exact k_reti hx hb hr hlocks ⟨by unfold mEnd; rw [if_pos b6, if_pos b22, nat_nI (by omega), if_neg c29, if_neg c43], rfl⟩ hS dX8_ended_61
        · refine lv_aload_n hx hb dX8_ended_46 rfl (lv_at hl 0 rfl) ?_
          refine k_get (C := RX8) (T := TX8) (N := 22) (v := .ref (ad 18)) hx hb hts hiX8 hown hK.1 hM.1 rfl 18 (by decide) (hts (.fieldLink RX8 57 "HouseWorkersModel" "endHow" "[I") (by decide +kernel)) (fun _ h9 => h9) rfl dX8_ended_47 ?_
          refine lv_iload_n hx hb dX8_ended_50 rfl (lv_at hl 1 rfl) ?_
          refine k_iald (n := 30) (f := (σ 18)) hx hb hK.1 0 (hM.2.1 18 rfl) rfl j rfl (by omega) (by decide) dX8_ended_51 ?_
          refine lv_goto (tgt := 61) hx hb dX8_ended_52 (by decide) ?_
          exact k_reti hx hb hr hlocks ⟨by unfold mEnd; rw [if_pos b6, if_pos b22, nat_nI (by omega), if_neg c29, if_pos c43], rfl⟩ hS dX8_ended_61
      · refine lv_aload_n hx hb dX8_ended_32 rfl (lv_at hl 0 rfl) ?_
        refine k_get (C := RX8) (T := TX8) (N := 22) (v := .ref (ad 17)) hx hb hts hiX8 hown hK.1 hM.1 rfl 17 (by decide) (hts (.fieldLink RX8 54 "HouseWorkersModel" "endWho" "[I") (by decide +kernel)) (fun _ h9 => h9) rfl dX8_ended_33 ?_
        refine lv_iload_n hx hb dX8_ended_36 rfl (lv_at hl 1 rfl) ?_
        refine k_iald (n := 30) (f := (σ 17)) hx hb hK.1 0 (hM.2.1 17 rfl) rfl j rfl (by omega) (by decide) dX8_ended_37 ?_
        refine lv_goto (tgt := 61) hx hb dX8_ended_38 (by decide) ?_
        exact k_reti hx hb hr hlocks ⟨by unfold mEnd; rw [if_pos b6, if_pos b22, nat_nI (by omega), if_pos c29], rfl⟩ hS dX8_ended_61
    · have b22 := b2_0 c22
      refine lv_bipush (v := -2) hx hb dX8_ended_25 (by decide) ?_
      exact k_reti hx hb hr hlocks ⟨by unfold mEnd; rw [if_pos b6, if_neg (by rw [b22]; decide)], rfl⟩ hS dX8_ended_27
  · have b6 := b2_0 c6
    refine lv_iconst (v := -1) hx hb dX8_ended_9 (by decide) ?_
    exact k_reti hx hb hr hlocks ⟨by unfold mEnd; rw [if_neg (by rw [b6]; decide)], rfl⟩ hS dX8_ended_10
set_option maxHeartbeats 4000000 in
set_option maxRecDepth 100000 in
theorem c_X8_cell (l : Launch) {D : va_G} {cI cZ cO : ClassId} {mi : Nat} (H : Heap) (m0 : Nat) (ad : Nat → Nat) (σ : Sg) (nW nV nE : Nat) (v cl : Int32) (hM : MD D cI cZ m0 ad σ H) (hI : Inv σ nW nV nE) : Met l yX8_cell wsX8_cell ({ frames := 3, cells := 0, slots := 0, locals := 68 }) (Pk D cI cZ cO mi [.ref m0, .int v, .int cl] H) (Qpi H (mCel σ nW v cl)) 0 0 (fun _ => False) := by
  refine Met.ofW (cc := cX8_cell) (maxL := 3) (ret := (some .int)) (by decide) rfl ?_
  intro p e s m args below meth c s₁ B hml hv
  obtain ⟨rfl, rfl, hK⟩ := hv
  have hx := B.exec
  have hb := B.bytes
  have hr := B.returns
  have hts := atoms_spec (ws := wsX8_cell) B.pre
  have hown : s.vm.findClass RX8 = some m.cls := findClass_of_methodNamed B.named
  have hlocks := B.notSynchronized
  have hS : va_S (fun _ => False) s.heap s.heap [] := va_S.rf
  have hl := lv_entry ([.ref m0, .int v, .int cl]) (n := 3) (Nat.le_of_ble_eq_true rfl)
  rw [lg_entry_eq]
  generalize (lg_sl ([.ref m0, .int v, .int cl]) ++ List.replicate (3 - (lg_sl ([.ref m0, .int v, .int cl])).length) Slot.unset).toArray = ls at hl ⊢
  have hl : lv_has ls 3 [(0, .ref m0), (1, .int v), (2, .int cl)] := hl
  have hiX8 : ∀ w ∈ wsX80, w ∈ wsX8_cell := by decide +kernel
  refine lv_iload_n hx hb dX8_cell_0 rfl (lv_at hl 2 rfl) ?_
  refine lv_iconst (v := 0) hx hb dX8_cell_1 (by decide) ?_
  refine lv_bipush (v := 15) hx hb dX8_cell_2 (by decide) ?_
  refine k_callpi (v := b2 (inB cl 0 15)) (va_runS (As := [.int cl, .int 0, .int 15]) (rest := []) ⟨hx, hb, hml, hown, hts⟩ (c_X8_in l _ cl 0 15) (va_cwS 3 hts gX8_cell_X8_in rfl rfl rfl (by decide +kernel) ⟨Nat.le_of_ble_eq_true rfl, Nat.le_of_ble_eq_true rfl⟩) (k_preS hK) rfl rfl hl.1 rfl (lv_room (Nat.le_of_ble_eq_true rfl)) dX8_cell_4 ⟨(Nat.zero_le _), (Nat.zero_le _)⟩) hS (fun locs hS => ?_)
  refine lv_if_eq (tgt := 24) hx hb dX8_cell_7 (by decide) (fun c7 => ?_) (fun c7 => ?_)
  · have b7 := b2_0 c7
    refine lv_iconst (v := -1) hx hb dX8_cell_24 (by decide) ?_
    exact k_reti hx hb hr hlocks ⟨by unfold mCel; rw [if_neg (fun q => absurd (q.1.symm.trans b7) (by decide))], rfl⟩ hS dX8_cell_25
  · have b7 := b2_n c7
    refine lv_iload_n hx hb dX8_cell_10 rfl (lv_at hl 1 rfl) ?_
    refine lv_iconst (v := 0) hx hb dX8_cell_11 (by decide) ?_
    refine lv_aload_n hx hb dX8_cell_12 rfl (lv_at hl 0 rfl) ?_
    refine k_get (C := RX8) (T := TX8) (N := 22) (v := .int (σ 1 0)) hx hb hts hiX8 hown hK.1 hM.1 rfl 1 (by decide) (hts (.fieldLink RX8 13 "HouseWorkersModel" "versions" "I") (by decide +kernel)) (fun _ h9 => h9) rfl dX8_cell_13 ?_
    refine lv_iconst (v := 1) hx hb dX8_cell_16 (by decide) ?_
    refine lv_isub hx hb dX8_cell_17 ?_
    refine k_callpi (v := b2 (inB v 0 ((σ 1 0) - 1))) (va_runS (As := [.int v, .int 0, .int ((σ 1 0) - 1)]) (rest := []) ⟨hx, hb, hml, hown, hts⟩ (c_X8_in l _ v 0 ((σ 1 0) - 1)) (va_cwS 3 hts gX8_cell_X8_in rfl rfl rfl (by decide +kernel) ⟨Nat.le_of_ble_eq_true rfl, Nat.le_of_ble_eq_true rfl⟩) (k_preS hK) rfl rfl hl.1 rfl (lv_room (Nat.le_of_ble_eq_true rfl)) dX8_cell_18 ⟨(Nat.zero_le _), (Nat.zero_le _)⟩) hS (fun locs hS => ?_)
    refine lv_if_ne (tgt := 26) hx hb dX8_cell_21 (by decide) (fun c21 => ?_) (fun c21 => ?_)
    · have b21 := b2_n c21
      refine lv_aload_n hx hb dX8_cell_26 rfl (lv_at hl 0 rfl) ?_
      refine lv_iload_n hx hb dX8_cell_27 rfl (lv_at hl 1 rfl) ?_
      refine k_callpi (v := b2 (kept σ v nW)) (va_runV (As := [.int v]) (rest := []) ⟨hx, hb, hml, hown, hts⟩ (c_X8_isKept l _ m0 ad σ nW v hM hI.1 hI.2.2.2.1) (cwV 1 hts gX8_cell_X8_isKept rfl rfl rfl (by decide +kernel) ⟨Nat.le_of_ble_eq_true rfl, Nat.le_of_ble_eq_true rfl⟩) (k_preV hK (k_recv hK.1 hM.1 rfl)) rfl rfl hl.1 rfl (lv_room (Nat.le_of_ble_eq_true rfl)) dX8_cell_28 ⟨(Nat.zero_le _), (Nat.zero_le _)⟩) hS (fun locs hS => ?_)
      refine lv_if_eq (tgt := 48) hx hb dX8_cell_31 (by decide) (fun c31 => ?_) (fun c31 => ?_)
      · have b31 := b2_0 c31
        refine lv_bipush (v := -2) hx hb dX8_cell_48 (by decide) ?_
        exact k_reti hx hb hr hlocks ⟨by unfold mCel; rw [if_pos ⟨b7, b21⟩, if_neg (by rw [b31]; decide)], rfl⟩ hS dX8_cell_50
      · have b31 := b2_n c31
        have hin := b21
        rw [hI.2.1] at hin
        have heW := hI.eW
        have hn30 := hI.2.2.2.1
        have hvE := hI.2.2.2.2.2.1
        obtain ⟨zv, hzvW, hzv⟩ := inB_idx (by omega) hin
        obtain ⟨zc, hzcW, hzc⟩ := inB_c (n := 15) rfl rfl (by decide) b7
        refine lv_aload_n hx hb dX8_cell_34 rfl (lv_at hl 0 rfl) ?_
        refine k_get (C := RX8) (T := TX8) (N := 22) (v := .ref (ad 0)) hx hb hts hiX8 hown hK.1 hM.1 rfl 0 (by decide) (hts (.fieldLink RX8 7 "HouseWorkersModel" "cells" "[I") (by decide +kernel)) (fun _ h9 => h9) rfl dX8_cell_35 ?_
        refine lv_bipush (v := 16) hx hb dX8_cell_38 (by decide) ?_
        refine lv_iload_n hx hb dX8_cell_40 rfl (lv_at hl 1 rfl) ?_
        refine lv_imul hx hb dX8_cell_41 ?_
        refine lv_iload_n hx hb dX8_cell_42 rfl (lv_at hl 2 rfl) ?_
        refine lv_iadd hx hb dX8_cell_43 ?_
        refine k_iald (n := 640) (f := (σ 0)) hx hb hK.1 0 (hM.2.1 0 rfl) rfl (16 * nat v + nat cl) (by rw [hzv, hzc, nat_nI (by omega), nat_nI (by omega)]; exact ix16 _ _) (by rw [hzv, hzc, nat_nI (by omega), nat_nI (by omega)]; omega) (by decide) dX8_cell_44 ?_
        refine lv_goto (tgt := 50) hx hb dX8_cell_45 (by decide) ?_
        exact k_reti hx hb hr hlocks ⟨by unfold mCel; rw [if_pos ⟨b7, b21⟩, if_pos b31], rfl⟩ hS dX8_cell_50
    · have b21 := b2_0 c21
      refine lv_iconst (v := -1) hx hb dX8_cell_24 (by decide) ?_
      exact k_reti hx hb hr hlocks ⟨by unfold mCel; rw [if_neg (fun q => absurd (q.2.symm.trans b21) (by decide))], rfl⟩ hS dX8_cell_25
set_option maxHeartbeats 4000000 in
set_option maxRecDepth 100000 in
theorem c_X8_count (l : Launch) {D : va_G} {cI cZ cO : ClassId} {mi : Nat} (H : Heap) (m0 : Nat) (ad : Nat → Nat) (σ : Sg) (nW nV nE : Nat) (what : Int32) (hM : MD D cI cZ m0 ad σ H) (hI : Inv σ nW nV nE) : Met l yX8_count wsX8_count ({ frames := 3, cells := 0, slots := 0, locals := 68 }) (Pk D cI cZ cO mi [.ref m0, .int what] H) (Qpi H (mCnt σ nW nV what)) 0 0 (fun _ => False) := by
  refine Met.ofW (cc := cX8_count) (maxL := 4) (ret := (some .int)) (by decide) rfl ?_
  intro p e s m args below meth c s₁ B hml hv
  obtain ⟨rfl, rfl, hK⟩ := hv
  have hx := B.exec
  have hb := B.bytes
  have hr := B.returns
  have hts := atoms_spec (ws := wsX8_count) B.pre
  have hown : s.vm.findClass RX8 = some m.cls := findClass_of_methodNamed B.named
  have hlocks := B.notSynchronized
  have hS : va_S (fun _ => False) s.heap s.heap [] := va_S.rf
  have hl := lv_entry ([.ref m0, .int what]) (n := 4) (Nat.le_of_ble_eq_true rfl)
  rw [lg_entry_eq]
  generalize (lg_sl ([.ref m0, .int what]) ++ List.replicate (4 - (lg_sl ([.ref m0, .int what])).length) Slot.unset).toArray = ls at hl ⊢
  have hl : lv_has ls 4 [(0, .ref m0), (1, .int what)] := hl
  have hiX8 : ∀ w ∈ wsX80, w ∈ wsX8_count := by decide +kernel
  have hn30 := hI.2.2.2.1
  have heW := hI.eW
  have hvE := hI.2.2.2.2.2.1
  refine lv_iconst (v := 0) hx hb dX8_count_0 (by decide) ?_
  refine lv_istore_n (lv' := [(2, .int 0), (0, .ref m0), (1, .int what)]) hx hb dX8_count_1 rfl hl (by decide) rfl (fun ls hl => ?_)
  refine lv_iload_n hx hb dX8_count_2 rfl (lv_at hl 2 rfl) ?_
  by_cases k0 : what = 0
  · refine lv_tableIn (off := 37) (tgt := 40) hx hb dX8_count_3 (by rw [k0]; decide) (by rw [k0]; decide) (by rw [k0]; decide) (by decide) ?_
    refine lv_aload_n hx hb dX8_count_40 rfl (lv_at hl 1 rfl) ?_
    refine k_get (C := RX8) (T := TX8) (N := 22) (v := .int (σ 1 0)) hx hb hts hiX8 hown hK.1 hM.1 rfl 1 (by decide) (hts (.fieldLink RX8 13 "HouseWorkersModel" "versions" "I") (by decide +kernel)) (fun _ h9 => h9) rfl dX8_count_41 ?_
    exact k_reti hx hb hr hlocks ⟨by unfold mCnt; rw [if_pos k0], rfl⟩ hS dX8_count_44
  by_cases k1 : what = 1
  · refine lv_tableIn (off := 42) (tgt := 45) hx hb dX8_count_3 (by rw [k1]; decide) (by rw [k1]; decide) (by rw [k1]; decide) (by decide) ?_
    refine lv_iconst (v := 0) hx hb dX8_count_45 (by decide) ?_
    refine lv_istore_n (lv' := [(3, .int 0), (2, .int 0), (0, .ref m0), (1, .int what)]) hx hb dX8_count_46 rfl hl (by decide) rfl (fun ls hl => ?_)
    generalize ([] : List Loc) = locs at hS ⊢
    have loop : ∀ (n : Nat), ∀ (i : Nat), i ≤ nV → nV + 1 ≤ i + n → ∀ (locs : List Loc), va_S (fun _ => False) s.heap s.heap locs → ∀ ls : Array Slot, lv_has ls 4 [(3, .int (nI i)), (2, .int (nI (cntF (fun v => kept σ (nI v) nW) i))), (0, .ref m0), (1, .int what)] → W p l e (headSpec wsX8_count ({ frames := 3, cells := 0, slots := 0, locals := 68 })).room s m ([.ref m0, .int what] : List Value).toArray below meth c s.heap locs 0 0 (MQ below (Qpi s.heap (mCnt σ nW nV what)) ([.ref m0, .int what] : List Value).toArray s 0 0 (fun _ => False)) (F0 m 47 ls []) := by
      intro n
      induction n with
      | zero => intro i h1 h2; exact absurd h2 (by omega)
      | succ n ih =>
        intro i hi hn2 locs hS ls hl
        refine lv_iload_n hx hb dX8_count_47 rfl (lv_at hl 0 rfl) ?_
        refine lv_aload_n hx hb dX8_count_48 rfl (lv_at hl 2 rfl) ?_
        refine k_get (C := RX8) (T := TX8) (N := 22) (v := .int (σ 1 0)) hx hb hts hiX8 hown hK.1 hM.1 rfl 1 (by decide) (hts (.fieldLink RX8 13 "HouseWorkersModel" "versions" "I") (by decide +kernel)) (fun _ h9 => h9) rfl dX8_count_49 ?_
        refine lv_icmp_ge (tgt := 77) hx hb dX8_count_52 (by decide) (fun c52 => ?_) (fun c52 => ?_)
        · have c52 := Int32.not_lt.mpr c52
          rw [hI.2.1] at c52
          have hij : i = nV := Nat.le_antisymm (by omega) (Nat.le_of_not_lt (fun q => c52 (nI_lt q (by omega))))
          subst hij
          refine lv_iload_n hx hb dX8_count_77 rfl (lv_at hl 1 rfl) ?_
          exact k_reti hx hb hr hlocks ⟨by unfold mCnt; rw [if_neg k0, if_pos k1], rfl⟩ hS dX8_count_78
        · have c52 := Int32.not_le.mp c52
          rw [hI.2.1] at c52
          have hlt : i < nV := (nI_ltI (by omega) (by omega)).mp c52
          refine lv_iload_n hx hb dX8_count_55 rfl (lv_at hl 1 rfl) ?_
          refine lv_aload_n hx hb dX8_count_56 rfl (lv_at hl 2 rfl) ?_
          refine lv_iload_n hx hb dX8_count_57 rfl (lv_at hl 0 rfl) ?_
          refine k_callpi (v := b2 (kept σ (nI i) nW)) (va_runV (As := [.int (nI i)]) (rest := [.int (nI (cntF (fun v => kept σ (nI v) nW) i))]) ⟨hx, hb, hml, hown, hts⟩ (c_X8_isKept l _ m0 ad σ nW (nI i) hM hI.1 hI.2.2.2.1) (cwV 1 hts gX8_count_X8_isKept rfl rfl rfl (by decide +kernel) ⟨Nat.le_of_ble_eq_true rfl, Nat.le_of_ble_eq_true rfl⟩) (k_preV hK (k_recv hK.1 hM.1 rfl)) rfl rfl hl.1 rfl (lv_room (Nat.le_of_ble_eq_true rfl)) dX8_count_58 ⟨(Nat.zero_le _), (Nat.zero_le _)⟩) hS (fun locs hS => ?_)
          refine lv_if_eq (tgt := 68) hx hb dX8_count_61 (by decide) (fun c61 => ?_) (fun c61 => ?_)
          · refine lv_iconst (v := 0) hx hb dX8_count_68 (by decide) ?_
            refine lv_iadd hx hb dX8_count_69 ?_
            refine lv_istore_n (lv' := [(2, .int ((nI (cntF (fun v => kept σ (nI v) nW) i)) + 0)), (3, .int (nI i)), (0, .ref m0), (1, .int what)]) hx hb dX8_count_70 rfl hl (by decide) rfl (fun ls hl => ?_)
            refine lv_iinc (v := nI (i + 1)) (lv' := [(3, .int (nI (i + 1))), (2, .int ((nI (cntF (fun v => kept σ (nI v) nW) i)) + 0)), (0, .ref m0), (1, .int what)]) hx hb dX8_count_71 hl (k := 1) rfl (by rw [← nI_1]; rfl) (by decide) rfl (fun ls hl => ?_)
            refine lv_goto (tgt := 47) hx hb dX8_count_74 (by decide) ?_
            exact ih (i + 1) (by omega) (by omega) locs hS ls (by rw [cntF_s0 (f := (fun v => kept σ (nI v) nW)) (b2_0 c61)] at hl; exact lv_sub hl [0, 1, 2, 3] rfl)
          · refine lv_iconst (v := 1) hx hb dX8_count_64 (by decide) ?_
            refine lv_goto (tgt := 69) hx hb dX8_count_65 (by decide) ?_
            refine lv_iadd hx hb dX8_count_69 ?_
            refine lv_istore_n (lv' := [(2, .int ((nI (cntF (fun v => kept σ (nI v) nW) i)) + 1)), (3, .int (nI i)), (0, .ref m0), (1, .int what)]) hx hb dX8_count_70 rfl hl (by decide) rfl (fun ls hl => ?_)
            refine lv_iinc (v := nI (i + 1)) (lv' := [(3, .int (nI (i + 1))), (2, .int ((nI (cntF (fun v => kept σ (nI v) nW) i)) + 1)), (0, .ref m0), (1, .int what)]) hx hb dX8_count_71 hl (k := 1) rfl (by rw [← nI_1]; rfl) (by decide) rfl (fun ls hl => ?_)
            refine lv_goto (tgt := 47) hx hb dX8_count_74 (by decide) ?_
            exact ih (i + 1) (by omega) (by omega) locs hS ls (by rw [cntF_s1 (f := (fun v => kept σ (nI v) nW)) (b2_n c61)] at hl; exact lv_sub hl [0, 1, 2, 3] rfl)
    exact loop (nV + 1) 0 (Nat.zero_le _) (by omega) locs hS ls (lv_sub hl [0, 1, 2, 3] rfl)
  by_cases k2 : what = 2
  · refine lv_tableIn (off := 76) (tgt := 79) hx hb dX8_count_3 (by rw [k2]; decide) (by rw [k2]; decide) (by rw [k2]; decide) (by decide) ?_
    refine lv_iconst (v := 0) hx hb dX8_count_79 (by decide) ?_
    refine lv_istore_n (lv' := [(3, .int 0), (2, .int 0), (0, .ref m0), (1, .int what)]) hx hb dX8_count_80 rfl hl (by decide) rfl (fun ls hl => ?_)
    generalize ([] : List Loc) = locs at hS ⊢
    have loop : ∀ (n : Nat), ∀ (i : Nat), i ≤ nV → nV + 1 ≤ i + n → ∀ (locs : List Loc), va_S (fun _ => False) s.heap s.heap locs → ∀ ls : Array Slot, lv_has ls 4 [(3, .int (nI i)), (2, .int (nI (cntF (fun v => ipF σ (nI v) nW) i))), (0, .ref m0), (1, .int what)] → W p l e (headSpec wsX8_count ({ frames := 3, cells := 0, slots := 0, locals := 68 })).room s m ([.ref m0, .int what] : List Value).toArray below meth c s.heap locs 0 0 (MQ below (Qpi s.heap (mCnt σ nW nV what)) ([.ref m0, .int what] : List Value).toArray s 0 0 (fun _ => False)) (F0 m 81 ls []) := by
      intro n
      induction n with
      | zero => intro i h1 h2; exact absurd h2 (by omega)
      | succ n ih =>
        intro i hi hn2 locs hS ls hl
        refine lv_iload_n hx hb dX8_count_81 rfl (lv_at hl 0 rfl) ?_
        refine lv_aload_n hx hb dX8_count_82 rfl (lv_at hl 2 rfl) ?_
        refine k_get (C := RX8) (T := TX8) (N := 22) (v := .int (σ 1 0)) hx hb hts hiX8 hown hK.1 hM.1 rfl 1 (by decide) (hts (.fieldLink RX8 13 "HouseWorkersModel" "versions" "I") (by decide +kernel)) (fun _ h9 => h9) rfl dX8_count_83 ?_
        refine lv_icmp_ge (tgt := 111) hx hb dX8_count_86 (by decide) (fun c86 => ?_) (fun c86 => ?_)
        · have c86 := Int32.not_lt.mpr c86
          rw [hI.2.1] at c86
          have hij : i = nV := Nat.le_antisymm (by omega) (Nat.le_of_not_lt (fun q => c86 (nI_lt q (by omega))))
          subst hij
          refine lv_iload_n hx hb dX8_count_111 rfl (lv_at hl 1 rfl) ?_
          exact k_reti hx hb hr hlocks ⟨by unfold mCnt; rw [if_neg k0, if_neg k1, if_pos k2], rfl⟩ hS dX8_count_112
        · have c86 := Int32.not_le.mp c86
          rw [hI.2.1] at c86
          have hlt : i < nV := (nI_ltI (by omega) (by omega)).mp c86
          refine lv_iload_n hx hb dX8_count_89 rfl (lv_at hl 1 rfl) ?_
          refine lv_aload_n hx hb dX8_count_90 rfl (lv_at hl 2 rfl) ?_
          refine lv_iload_n hx hb dX8_count_91 rfl (lv_at hl 0 rfl) ?_
          refine k_callpi (v := b2 (ipF σ (nI i) nW)) (va_runV (As := [.int (nI i)]) (rest := [.int (nI (cntF (fun v => ipF σ (nI v) nW) i))]) ⟨hx, hb, hml, hown, hts⟩ (c_X8_isPinned l _ m0 ad σ nW (nI i) hM hI.1 hI.2.2.2.1) (cwV 1 hts gX8_count_X8_isPinned rfl rfl rfl (by decide +kernel) ⟨Nat.le_of_ble_eq_true rfl, Nat.le_of_ble_eq_true rfl⟩) (k_preV hK (k_recv hK.1 hM.1 rfl)) rfl rfl hl.1 rfl (lv_room (Nat.le_of_ble_eq_true rfl)) dX8_count_92 ⟨(Nat.zero_le _), (Nat.zero_le _)⟩) hS (fun locs hS => ?_)
          refine lv_if_eq (tgt := 102) hx hb dX8_count_95 (by decide) (fun c95 => ?_) (fun c95 => ?_)
          · refine lv_iconst (v := 0) hx hb dX8_count_102 (by decide) ?_
            refine lv_iadd hx hb dX8_count_103 ?_
            refine lv_istore_n (lv' := [(2, .int ((nI (cntF (fun v => ipF σ (nI v) nW) i)) + 0)), (3, .int (nI i)), (0, .ref m0), (1, .int what)]) hx hb dX8_count_104 rfl hl (by decide) rfl (fun ls hl => ?_)
            refine lv_iinc (v := nI (i + 1)) (lv' := [(3, .int (nI (i + 1))), (2, .int ((nI (cntF (fun v => ipF σ (nI v) nW) i)) + 0)), (0, .ref m0), (1, .int what)]) hx hb dX8_count_105 hl (k := 1) rfl (by rw [← nI_1]; rfl) (by decide) rfl (fun ls hl => ?_)
            refine lv_goto (tgt := 81) hx hb dX8_count_108 (by decide) ?_
            exact ih (i + 1) (by omega) (by omega) locs hS ls (by rw [cntF_s0 (f := (fun v => ipF σ (nI v) nW)) (b2_0 c95)] at hl; exact lv_sub hl [0, 1, 2, 3] rfl)
          · refine lv_iconst (v := 1) hx hb dX8_count_98 (by decide) ?_
            refine lv_goto (tgt := 103) hx hb dX8_count_99 (by decide) ?_
            refine lv_iadd hx hb dX8_count_103 ?_
            refine lv_istore_n (lv' := [(2, .int ((nI (cntF (fun v => ipF σ (nI v) nW) i)) + 1)), (3, .int (nI i)), (0, .ref m0), (1, .int what)]) hx hb dX8_count_104 rfl hl (by decide) rfl (fun ls hl => ?_)
            refine lv_iinc (v := nI (i + 1)) (lv' := [(3, .int (nI (i + 1))), (2, .int ((nI (cntF (fun v => ipF σ (nI v) nW) i)) + 1)), (0, .ref m0), (1, .int what)]) hx hb dX8_count_105 hl (k := 1) rfl (by rw [← nI_1]; rfl) (by decide) rfl (fun ls hl => ?_)
            refine lv_goto (tgt := 81) hx hb dX8_count_108 (by decide) ?_
            exact ih (i + 1) (by omega) (by omega) locs hS ls (by rw [cntF_s1 (f := (fun v => ipF σ (nI v) nW)) (b2_n c95)] at hl; exact lv_sub hl [0, 1, 2, 3] rfl)
    exact loop (nV + 1) 0 (Nat.zero_le _) (by omega) locs hS ls (lv_sub hl [0, 1, 2, 3] rfl)
  by_cases k3 : what = 3
  · refine lv_tableIn (off := 110) (tgt := 113) hx hb dX8_count_3 (by rw [k3]; decide) (by rw [k3]; decide) (by rw [k3]; decide) (by decide) ?_
    refine lv_aload_n hx hb dX8_count_113 rfl (lv_at hl 1 rfl) ?_
    refine k_get (C := RX8) (T := TX8) (N := 22) (v := .int (σ 20 0)) hx hb hts hiX8 hown hK.1 hM.1 rfl 20 (by decide) (hts (.fieldLink RX8 85 "HouseWorkersModel" "did" "I") (by decide +kernel)) (fun _ h9 => h9) rfl dX8_count_114 ?_
    exact k_reti hx hb hr hlocks ⟨by unfold mCnt; rw [if_neg k0, if_neg k1, if_neg k2, if_pos k3], rfl⟩ hS dX8_count_117
  by_cases k4 : what = 4
  · refine lv_tableIn (off := 115) (tgt := 118) hx hb dX8_count_3 (by rw [k4]; decide) (by rw [k4]; decide) (by rw [k4]; decide) (by decide) ?_
    refine lv_aload_n hx hb dX8_count_118 rfl (lv_at hl 1 rfl) ?_
    refine k_get (C := RX8) (T := TX8) (N := 22) (v := .int (σ 21 0)) hx hb hts hiX8 hown hK.1 hM.1 rfl 21 (by decide) (hts (.fieldLink RX8 95 "HouseWorkersModel" "didNothing" "I") (by decide +kernel)) (fun _ h9 => h9) rfl dX8_count_119 ?_
    exact k_reti hx hb hr hlocks ⟨by unfold mCnt; rw [if_neg k0, if_neg k1, if_neg k2, if_neg k3, if_pos k4], rfl⟩ hS dX8_count_122
  by_cases k5 : what = 5
  · refine lv_tableIn (off := 120) (tgt := 123) hx hb dX8_count_3 (by rw [k5]; decide) (by rw [k5]; decide) (by rw [k5]; decide) (by decide) ?_
    refine lv_iconst (v := 0) hx hb dX8_count_123 (by decide) ?_
    refine lv_istore_n (lv' := [(3, .int 0), (2, .int 0), (0, .ref m0), (1, .int what)]) hx hb dX8_count_124 rfl hl (by decide) rfl (fun ls hl => ?_)
    generalize ([] : List Loc) = locs at hS ⊢
    have loop : ∀ (n : Nat), ∀ (i : Nat), i ≤ nW → nW + 1 ≤ i + n → ∀ (locs : List Loc), va_S (fun _ => False) s.heap s.heap locs → ∀ ls : Array Slot, lv_has ls 4 [(3, .int (nI i)), (2, .int (nI (cntF (fun w => decide (σ 12 w = 0)) i))), (0, .ref m0), (1, .int what)] → W p l e (headSpec wsX8_count ({ frames := 3, cells := 0, slots := 0, locals := 68 })).room s m ([.ref m0, .int what] : List Value).toArray below meth c s.heap locs 0 0 (MQ below (Qpi s.heap (mCnt σ nW nV what)) ([.ref m0, .int what] : List Value).toArray s 0 0 (fun _ => False)) (F0 m 125 ls []) := by
      intro n
      induction n with
      | zero => intro i h1 h2; exact absurd h2 (by omega)
      | succ n ih =>
        intro i hi hn2 locs hS ls hl
        refine lv_iload_n hx hb dX8_count_125 rfl (lv_at hl 0 rfl) ?_
        refine lv_aload_n hx hb dX8_count_126 rfl (lv_at hl 2 rfl) ?_
        refine k_get (C := RX8) (T := TX8) (N := 22) (v := .int (σ 3 0)) hx hb hts hiX8 hown hK.1 hM.1 rfl 3 (by decide) (hts (.fieldLink RX8 67 "HouseWorkersModel" "workers" "I") (by decide +kernel)) (fun _ h9 => h9) rfl dX8_count_127 ?_
        refine lv_icmp_ge (tgt := 156) hx hb dX8_count_130 (by decide) (fun c130 => ?_) (fun c130 => ?_)
        · have c130 := Int32.not_lt.mpr c130
          rw [hI.1] at c130
          have hij : i = nW := Nat.le_antisymm (by omega) (Nat.le_of_not_lt (fun q => c130 (nI_lt q (by omega))))
          subst hij
          refine lv_iload_n hx hb dX8_count_156 rfl (lv_at hl 1 rfl) ?_
          exact k_reti hx hb hr hlocks ⟨by unfold mCnt; rw [if_neg k0, if_neg k1, if_neg k2, if_neg k3, if_neg k4, if_pos k5], rfl⟩ hS dX8_count_157
        · have c130 := Int32.not_le.mp c130
          rw [hI.1] at c130
          have hlt : i < nW := (nI_ltI (by omega) (by omega)).mp c130
          refine lv_iload_n hx hb dX8_count_133 rfl (lv_at hl 1 rfl) ?_
          refine lv_aload_n hx hb dX8_count_134 rfl (lv_at hl 2 rfl) ?_
          refine k_get (C := RX8) (T := TX8) (N := 22) (v := .ref (ad 12)) hx hb hts hiX8 hown hK.1 hM.1 rfl 12 (by decide) (hts (.fieldLink RX8 41 "HouseWorkersModel" "end" "[I") (by decide +kernel)) (fun _ h9 => h9) rfl dX8_count_135 ?_
          refine lv_iload_n hx hb dX8_count_138 rfl (lv_at hl 0 rfl) ?_
          refine k_iald (n := 30) (f := (σ 12)) hx hb hK.1 0 (hM.2.1 12 rfl) rfl i rfl (by omega) (by decide) dX8_count_139 ?_
          refine lv_if_ne (tgt := 147) hx hb dX8_count_140 (by decide) (fun c140 => ?_) (fun c140 => ?_)
          · refine lv_iconst (v := 0) hx hb dX8_count_147 (by decide) ?_
            refine lv_iadd hx hb dX8_count_148 ?_
            refine lv_istore_n (lv' := [(2, .int ((nI (cntF (fun w => decide (σ 12 w = 0)) i)) + 0)), (3, .int (nI i)), (0, .ref m0), (1, .int what)]) hx hb dX8_count_149 rfl hl (by decide) rfl (fun ls hl => ?_)
            refine lv_iinc (v := nI (i + 1)) (lv' := [(3, .int (nI (i + 1))), (2, .int ((nI (cntF (fun w => decide (σ 12 w = 0)) i)) + 0)), (0, .ref m0), (1, .int what)]) hx hb dX8_count_150 hl (k := 1) rfl (by rw [← nI_1]; rfl) (by decide) rfl (fun ls hl => ?_)
            refine lv_goto (tgt := 125) hx hb dX8_count_153 (by decide) ?_
            exact ih (i + 1) (by omega) (by omega) locs hS ls (by rw [cntF_s0 (f := (fun w => decide (σ 12 w = 0))) (by simp [c140])] at hl; exact lv_sub hl [0, 1, 2, 3] rfl)
          · refine lv_iconst (v := 1) hx hb dX8_count_143 (by decide) ?_
            refine lv_goto (tgt := 148) hx hb dX8_count_144 (by decide) ?_
            refine lv_iadd hx hb dX8_count_148 ?_
            refine lv_istore_n (lv' := [(2, .int ((nI (cntF (fun w => decide (σ 12 w = 0)) i)) + 1)), (3, .int (nI i)), (0, .ref m0), (1, .int what)]) hx hb dX8_count_149 rfl hl (by decide) rfl (fun ls hl => ?_)
            refine lv_iinc (v := nI (i + 1)) (lv' := [(3, .int (nI (i + 1))), (2, .int ((nI (cntF (fun w => decide (σ 12 w = 0)) i)) + 1)), (0, .ref m0), (1, .int what)]) hx hb dX8_count_150 hl (k := 1) rfl (by rw [← nI_1]; rfl) (by decide) rfl (fun ls hl => ?_)
            refine lv_goto (tgt := 125) hx hb dX8_count_153 (by decide) ?_
            exact ih (i + 1) (by omega) (by omega) locs hS ls (by rw [cntF_s1 (f := (fun w => decide (σ 12 w = 0))) (by simp [c140])] at hl; exact lv_sub hl [0, 1, 2, 3] rfl)
    exact loop (nW + 1) 0 (Nat.zero_le _) (by omega) locs hS ls (lv_sub hl [0, 1, 2, 3] rfl)
  refine lv_tableOut (tgt := 158) hx hb dX8_count_3 (tb5 k0 k1 k2 k3 k4 k5) (by decide) ?_
  refine lv_iconst (v := -1) hx hb dX8_count_158 (by decide) ?_
  exact k_reti hx hb hr hlocks ⟨by unfold mCnt; rw [if_neg k0, if_neg k1, if_neg k2, if_neg k3, if_neg k4, if_neg k5], rfl⟩ hS dX8_count_159
end
section
/-! the bounds are kept by a turn -/
section Rd
variable {σ : Sg} {e j nv : Nat} {how : Int32}
theorem fin_k {k : Nat} (i : Nat) (h12 : k ≠ 12) (h17 : k ≠ 17) (h18 : k ≠ 18) (h19 : k ≠ 19) (h16 : k ≠ 16) : fin σ e j how k i = σ k i := by
  unfold fin
  rw [u2_ne _ _ (fun q => h16 q.1), u2_ne _ _ (fun q => h19 q.1), u2_ne _ _ (fun q => h18 q.1), u2_ne _ _ (fun q => h17 q.1), u2_ne _ _ (fun q => h12 q.1)]
theorem fin_12 (i : Nat) : fin σ e j how 12 i = if i = j then how else σ 12 i := by
  unfold fin
  rw [u2_ne _ _ (fun q => by omega), u2_ne _ _ (fun q => by omega), u2_ne _ _ (fun q => by omega), u2_ne _ _ (fun q => by omega), u2_if]
  simp
theorem fin_17 (i : Nat) : fin σ e j how 17 i = if i = e then nI j else σ 17 i := by
  unfold fin
  rw [u2_ne _ _ (fun q => by omega), u2_ne _ _ (fun q => by omega), u2_ne _ _ (fun q => by omega), u2_if, u2_ne _ _ (fun q => by omega)]
  simp
theorem fin_18 (i : Nat) : fin σ e j how 18 i = if i = e then how else σ 18 i := by
  unfold fin
  rw [u2_ne _ _ (fun q => by omega), u2_ne _ _ (fun q => by omega), u2_if, u2_ne _ _ (fun q => by omega), u2_ne _ _ (fun q => by omega)]
  simp
theorem fin_19 (i : Nat) : fin σ e j how 19 i = if i = e then σ 20 0 else σ 19 i := by
  unfold fin
  rw [u2_ne _ _ (fun q => by omega), u2_if, u2_ne _ _ (fun q => by omega), u2_ne _ _ (fun q => by omega), u2_ne _ _ (fun q => by omega)]
  simp
theorem fin_16 : fin σ e j how 16 0 = σ 16 0 + 1 := by unfold fin; rw [u2_same]
theorem cmt_k {k : Nat} (i : Nat) (h0 : k ≠ 0) (h1 : k ≠ 1) (h11 : k ≠ 11) : cmt σ nv j k i = σ k i := by
  unfold cmt
  rw [u2_ne _ _ (fun q => h1 q.1), u2_ne _ _ (fun q => h11 q.1), blk_k _ _ _ _ h0]
theorem cmt_11 (i : Nat) : cmt σ nv j 11 i = if i = j then σ 1 0 else σ 11 i := by
  unfold cmt
  rw [u2_ne _ _ (fun q => by omega), u2_if, blk_k _ _ _ _ (by decide)]
  simp
theorem cmt_1 : cmt σ nv j 1 0 = σ 1 0 + 1 := by unfold cmt; rw [u2_same]
theorem cmt_0 (i : Nat) : cmt σ nv j 0 i = blk σ nv j 16 0 i := by
  unfold cmt
  rw [u2_ne _ _ (fun q => by omega), u2_ne _ _ (fun q => by omega)]
theorem rd_11 (i : Nat) : rd σ nv j 11 i = if σ 9 j = 0 ∧ i = j then σ 1 0 - 1 else σ 11 i := by
  unfold rd rdT
  rw [spr_k _ _ _ (by decide), bfr_k _ _ _ (by decide)]
  by_cases h : σ 9 j = 0
  · rw [if_pos h, tk_k _ _ _ _ (by decide), u2_if]
    simp [h]
  · rw [if_neg h]
    simp [h]
theorem rd_14o {i : Nat} (h : i < 16 * j ∨ 16 * j + 16 ≤ i) : rd σ nv j 14 i = σ 14 i := by
  unfold rd rdT spr
  rw [if_neg (fun q => by omega), bfr_k _ _ _ (by decide)]
  split
  · unfold tk
    rw [if_neg (fun q => by omega), u2_ne _ _ (fun q => by omega)]
  · rfl
theorem stp_9 (i : Nat) : stp σ nv j 9 i = if i = j then σ 9 j + 1 else σ 9 i := by
  unfold stp
  rw [u2_if, stB_k _ (by decide) (by decide) (by decide) (by decide), stB_k _ (by decide) (by decide) (by decide) (by decide)]
  simp
theorem stp_10 {i : Nat} (h : i ≠ j) : stp σ nv j 10 i = σ 10 i := by
  unfold stp
  rw [u2_ne _ _ (fun q => by omega)]
  unfold stB
  split
  · rw [u2_ne _ _ (fun q => h q.2)]
  · split
    · rw [u2_ne _ _ (fun q => by omega)]
    · split
      · exact rd_k i (by decide) (by decide) (by decide)
      · rw [u2_ne _ _ (fun q => h q.2), u2_ne _ _ (fun q => by omega)]
theorem stp_11 (i : Nat) : stp σ nv j 11 i = if i = j ∧ ¬ σ 4 j = 0 ∧ ¬ σ 4 j = 1 then (if σ 4 j = 2 then (if σ 9 j = 0 then σ 1 0 - 1 else σ 11 j) else σ 11 j + 1) else σ 11 i := by
  unfold stp
  rw [u2_ne _ _ (fun q => by omega)]
  unfold stB
  by_cases h0 : σ 4 j = 0
  · rw [if_pos h0, u2_ne _ _ (fun q => by omega), if_neg (fun q => q.2.1 h0)]
  · rw [if_neg h0]
    by_cases h1 : σ 4 j = 1
    · rw [if_pos h1, u2_ne _ _ (fun q => by omega), if_neg (fun q => q.2.2 h1)]
    · rw [if_neg h1]
      by_cases h2 : σ 4 j = 2
      · rw [if_pos h2, rd_11]
        by_cases hi : i = j
        · subst hi
          simp [h0, h1, h2]
        · rw [if_neg (fun q => hi q.2), if_neg (fun q => hi q.1)]
      · rw [if_neg h2, u2_ne _ _ (fun q => by omega), u2_if]
        by_cases hi : i = j
        · subst hi
          simp [h0, h1, h2]
        · rw [if_neg (fun q => hi q.2), if_neg (fun q => hi q.1)]
theorem stp_14o {i : Nat} (h : i < 16 * j ∨ 16 * j + 16 ≤ i) : stp σ nv j 14 i = σ 14 i := by
  unfold stp
  rw [u2_ne _ _ (fun q => by omega)]
  have ha : aN σ j < 16 := Nat.mod_lt _ (by decide)
  unfold stB
  split
  · rw [u2_ne _ _ (fun q => by omega)]
  · split
    · rw [u2_ne _ _ (fun q => by omega)]
    · split
      · exact rd_14o h
      · rw [u2_ne _ _ (fun q => by omega), u2_ne _ _ (fun q => by omega)]
end Rd
theorem cntF_cong {f g : Nat → Bool} : ∀ {n : Nat}, (∀ i, i < n → g i = f i) → cntF g n = cntF f n
  | 0, _ => rfl
  | n + 1, h => by rw [cntF, cntF, cntF_cong (fun i hi => h i (by omega)), h n (by omega)]
theorem cntF_add {f g : Nat → Bool} {j : Nat} (hf : f j = false) (hg : g j = true) (h : ∀ i, i ≠ j → g i = f i) : ∀ {n : Nat}, j < n → cntF g n = cntF f n + 1
  | 0, q => absurd q (Nat.not_lt_zero j)
  | n + 1, q => by
    rw [cntF, cntF]
    by_cases e : j = n
    · subst e
      rw [hf, hg, cntF_cong (fun i hi => h i (by omega))]
      rfl
    · rw [cntF_add hf hg h (by omega), h n (by omega)]
      omega
theorem WI.mono {σ τ : Sg} {nV nV' i : Nat} (h : WI σ nV i) (hv : nV ≤ nV') (e4 : τ 4 i = σ 4 i) (e5 : τ 5 i = σ 5 i) (e6 : τ 6 i = σ 6 i) (e7 : τ 7 i = σ 7 i) (e9 : τ 9 i = σ 9 i) (e11 : τ 11 i = σ 11 i) (e12 : τ 12 i = σ 12 i) (e13 : τ 13 i = σ 13 i) : WI τ nV' i := by
  unfold WI at h ⊢
  rw [e4, e5, e6, e7, e9, e11, e12, e13]
  obtain ⟨st, fa, a, dn, a5, a6, a7, a9, b1, b2, b3, b4, hc⟩ := h
  refine ⟨st, fa, a, dn, a5, a6, a7, a9, b1, b2, b3, b4, ?_⟩
  rcases hc with ⟨c1, c2, c3, c4, c5, v, c6, c7⟩ | ⟨c1, c2, c3, c4, c5, c6⟩ | ⟨c1, c2, c3, c4, c5, c6⟩ | ⟨c1, c2, c3, v, c4, c5, c6⟩
  · exact Or.inl ⟨c1, c2, c3, c4, c5, v, by omega, c7⟩
  · exact Or.inr (Or.inl ⟨c1, c2, c3, c4, c5, fun q => by obtain ⟨v, d1, d2, d3⟩ := c6 q; exact ⟨v, d1, by omega, d3⟩⟩)
  · exact Or.inr (Or.inr (Or.inl ⟨c1, c2, c3, c4, c5, fun q => by obtain ⟨v, d1, d2⟩ := c6 q; exact ⟨v, by omega, d2⟩⟩))
  · exact Or.inr (Or.inr (Or.inr ⟨c1, c2, c3, v, by omega, c5, c6⟩))
theorem pos_of {x : Int32} (h : x = 2 ∨ x = 3 ∨ x = 4) : 0 < x := by rcases h with h | h | h <;> subst h <;> decide
theorem end_pos {x : Int32} (h : x = 0 ∨ x = 2 ∨ x = 3 ∨ x = 4) : 0 < x ↔ ¬ x = 0 := by rcases h with h | h | h | h <;> subst h <;> decide
section InvS
variable {σ : Sg} {nW nV nE j : Nat}
theorem Inv.W (h : Inv σ nW nV nE) : σ 3 0 = nI nW := h.1
theorem Inv.n30 (h : Inv σ nW nV nE) : nW ≤ 30 := h.2.2.2.1
theorem Inv.wi (h : Inv σ nW nV nE) {i : Nat} (hi : i < nW) : WI σ nV i := h.2.2.2.2.2.2.2.2.1 i hi
theorem inv_fin {how : Int32} (h : Inv σ nW nV nE) (hj : j < nW) (h0 : σ 12 j = 0) (hh : how = 2 ∨ how = 3 ∨ how = 4) (h1 : σ 4 j = 1 → how = 2 → False) : Inv (fin σ nE j how) nW nV (nE + 1) := by
  obtain ⟨i1, i2, i3, i4, i5, i6, i7, i8, i9, i10, i11, i12⟩ := h
  have hp := pos_of hh
  have hE : nE < nW := by
    have := cntF_lt (f := fun i => decide (0 < σ 12 i)) (j := j) (by simp [h0]) nW hj
    omega
  refine ⟨?_, ?_, ?_, i4, i5, by omega, ?_, ?_, ?_, ?_, ?_, ?_⟩
  · rw [fin_k _ (by decide) (by decide) (by decide) (by decide) (by decide)]; exact i1
  · rw [fin_k _ (by decide) (by decide) (by decide) (by decide) (by decide)]; exact i2
  · rw [fin_16, i3, nI_1]
  · rw [cntF_add (f := fun i => decide (0 < σ 12 i)) (j := j) (by simp [h0]) (by simp [fin_12, hp]) (fun i hi => by simp [fin_12, hi]) hj, ← i7]
  · rw [fin_k _ (by decide) (by decide) (by decide) (by decide) (by decide)]; exact i8
  · intro i hi
    have hw := i9 i hi
    by_cases e : i = j
    · subst e
      unfold WI at hw ⊢
      have e4 : fin σ nE i how 4 i = σ 4 i := fin_k _ (by decide) (by decide) (by decide) (by decide) (by decide)
      have e5 : fin σ nE i how 5 i = σ 5 i := fin_k _ (by decide) (by decide) (by decide) (by decide) (by decide)
      have e6 : fin σ nE i how 6 i = σ 6 i := fin_k _ (by decide) (by decide) (by decide) (by decide) (by decide)
      have e7 : fin σ nE i how 7 i = σ 7 i := fin_k _ (by decide) (by decide) (by decide) (by decide) (by decide)
      have e9 : fin σ nE i how 9 i = σ 9 i := fin_k _ (by decide) (by decide) (by decide) (by decide) (by decide)
      have e11 : fin σ nE i how 11 i = σ 11 i := fin_k _ (by decide) (by decide) (by decide) (by decide) (by decide)
      have e13 : fin σ nE i how 13 i = σ 13 i := fin_k _ (by decide) (by decide) (by decide) (by decide) (by decide)
      have e12 : fin σ nE i how 12 i = how := by rw [fin_12, if_pos rfl]
      rw [e4, e5, e6, e7, e9, e11, e12, e13]
      obtain ⟨st, fa, a, dn, a5, a6, a7, a9, b1, b2, b3, b4, hc⟩ := hw
      refine ⟨st, fa, a, dn, a5, a6, a7, a9, b1, b2, Or.inr hh, b4, ?_⟩
      rcases hc with ⟨c1, c2, c3, c4, c5, v, c6, c7⟩ | ⟨c1, c2, c3, c4, c5, c6⟩ | ⟨c1, c2, c3, c4, c5, c6⟩ | ⟨c1, c2, c3, v, c4, c5, c6⟩
      · exact Or.inl ⟨c1, c2, c3, c4, fun q => absurd q (by rcases hh with q2 | q2 | q2 <;> subst q2 <;> decide), v, c6, c7⟩
      · exact Or.inr (Or.inl ⟨c1, c2, c3, c4, fun _ => c5 (by rw [h0]; decide), fun q => (h1 c1 q).elim⟩)
      · exact Or.inr (Or.inr (Or.inl ⟨c1, c2, c3, c4, c5, c6⟩))
      · exact Or.inr (Or.inr (Or.inr ⟨c1, c2, c3, v, c4, c5, c6⟩))
    · refine hw.mono (Nat.le_refl _) ?_ ?_ ?_ ?_ ?_ ?_ ?_ ?_
      all_goals first | exact fin_k _ (by decide) (by decide) (by decide) (by decide) (by decide) | (rw [fin_12, if_neg e])
  · intro i hi
    have q := i10 i hi
    rw [fin_k _ (by decide) (by decide) (by decide) (by decide) (by decide), fin_k _ (by decide) (by decide) (by decide) (by decide) (by decide), fin_12, if_neg (by omega), fin_k _ (by decide) (by decide) (by decide) (by decide) (by decide)]
    exact q
  · intro i hi
    rw [fin_k _ (by decide) (by decide) (by decide) (by decide) (by decide)]
    exact i11 i hi
  · intro i hi
    rw [fin_17, fin_18]
    by_cases e : i = nE
    · rw [if_pos e, if_pos e]
      exact ⟨j, hj, rfl, by rw [fin_12, if_pos rfl], by rw [fin_12, if_pos rfl]; exact hp⟩
    · rw [if_neg e, if_neg e]
      obtain ⟨w, w1, w2, w3, w4⟩ := i12 i (by omega)
      have hne : w ≠ j := by intro q; subst q; rw [h0] at w4; exact absurd w4 (by decide)
      exact ⟨w, w1, w2, by rw [fin_12, if_neg hne]; exact w3, by rw [fin_12, if_neg hne]; exact w4⟩
theorem fc_k {k : Nat} {how : Int32} (i : Nat) (h12 : k ≠ 12) (h17 : k ≠ 17) (h18 : k ≠ 18) (h19 : k ≠ 19) (h16 : k ≠ 16) (h0 : k ≠ 0) (h1 : k ≠ 1) (h11 : k ≠ 11) : fin (cmt σ nV j) nE j how k i = σ k i := (fin_k i h12 h17 h18 h19 h16).trans (cmt_k i h0 h1 h11)
theorem fc_12 {how : Int32} (i : Nat) : fin (cmt σ nV j) nE j how 12 i = if i = j then how else σ 12 i := by rw [fin_12, cmt_k _ (by decide) (by decide) (by decide)]
theorem fc_11 {how : Int32} (i : Nat) : fin (cmt σ nV j) nE j how 11 i = if i = j then σ 1 0 else σ 11 i := by rw [fin_k _ (by decide) (by decide) (by decide) (by decide) (by decide), cmt_11]
theorem inv_cmtfin (h : Inv σ nW nV nE) (hj : j < nW) (h0 : σ 12 j = 0) (hk : σ 4 j = 1 ∨ σ 4 j = 2) (hd : σ 9 j = σ 5 j) : Inv (fin (cmt σ nV j) nE j 2) nW (nV + 1) (nE + 1) := by
  obtain ⟨i1, i2, i3, i4, i5, i6, i7, i8, i9, i10, i11, i12⟩ := h
  have hE : nE < nW := by
    have := cntF_lt (f := fun i => decide (0 < σ 12 i)) (j := j) (by simp [h0]) nW hj
    omega
  have hp : (0 : Int32) < 2 := by decide
  have K : ∀ (k i : Nat), k ≠ 12 → k ≠ 17 → k ≠ 18 → k ≠ 19 → k ≠ 16 → k ≠ 0 → k ≠ 1 → k ≠ 11 → fin (cmt σ nV j) nE j 2 k i = σ k i := fun k i a b c d e f g h => fc_k i a b c d e f g h
  refine ⟨?_, ?_, ?_, i4, by omega, by omega, ?_, ?_, ?_, ?_, ?_, ?_⟩
  · rw [K 3 0 (by decide) (by decide) (by decide) (by decide) (by decide) (by decide) (by decide) (by decide)]; exact i1
  · rw [fin_k _ (by decide) (by decide) (by decide) (by decide) (by decide), cmt_1, i2, nI_1]
  · rw [fin_16, cmt_k _ (by decide) (by decide) (by decide), i3, nI_1]
  · rw [cntF_add (f := fun i => decide (0 < σ 12 i)) (j := j) (by simp [h0]) (by simp [fc_12, hp]) (fun i hi => by simp [fc_12, hi]) hj, ← i7]
  · rw [K 2 0 (by decide) (by decide) (by decide) (by decide) (by decide) (by decide) (by decide) (by decide)]; exact i8
  · intro i hi
    have hw := i9 i hi
    have e4 := K 4 i (by decide) (by decide) (by decide) (by decide) (by decide) (by decide) (by decide) (by decide)
    have e5 := K 5 i (by decide) (by decide) (by decide) (by decide) (by decide) (by decide) (by decide) (by decide)
    have e6 := K 6 i (by decide) (by decide) (by decide) (by decide) (by decide) (by decide) (by decide) (by decide)
    have e7 := K 7 i (by decide) (by decide) (by decide) (by decide) (by decide) (by decide) (by decide) (by decide)
    have e9 := K 9 i (by decide) (by decide) (by decide) (by decide) (by decide) (by decide) (by decide) (by decide)
    have e13 := K 13 i (by decide) (by decide) (by decide) (by decide) (by decide) (by decide) (by decide) (by decide)
    by_cases e : i = j
    · subst e
      have e11 : fin (cmt σ nV i) nE i 2 11 i = nI nV := by rw [fc_11, if_pos rfl, i2]
      have e12 : fin (cmt σ nV i) nE i 2 12 i = 2 := by rw [fc_12, if_pos rfl]
      unfold WI at hw ⊢
      rw [e4, e5, e6, e7, e9, e11, e12, e13]
      obtain ⟨st, fa, a, dn, a5, a6, a7, a9, b1, b2, b3, b4, hc⟩ := hw
      refine ⟨st, fa, a, dn, a5, a6, a7, a9, b1, b2, Or.inr (Or.inl rfl), b4, ?_⟩
      rcases hc with ⟨c1, c2, c3, c4, c5, v, c6, c7⟩ | ⟨c1, c2, c3, c4, c5, c6⟩ | ⟨c1, c2, c3, c4, c5, c6⟩ | ⟨c1, c2, c3, v, c4, c5, c6⟩
      · exact absurd c1 (by rcases hk with q | q <;> rw [q] <;> decide)
      · exact Or.inr (Or.inl ⟨c1, c2, c3, c4, fun q => absurd rfl q, fun _ => ⟨nV, i5, by omega, rfl⟩⟩)
      · have hds : dn = st := (nI_eq (by omega) (by omega)).mp (a9.symm.trans (hd.trans a5))
        exact Or.inr (Or.inr (Or.inl ⟨c1, c2, c3, c4, fun q => by omega, fun _ => ⟨nV, by omega, rfl⟩⟩))
      · exact absurd c1 (by rcases hk with q | q <;> rw [q] <;> decide)
    · exact hw.mono (by omega) e4 e5 e6 e7 e9 (by rw [fc_11, if_neg e]) (by rw [fc_12, if_neg e]) e13
  · intro i hi
    have q := i10 i hi
    rw [K 9 i (by decide) (by decide) (by decide) (by decide) (by decide) (by decide) (by decide) (by decide), K 10 i (by decide) (by decide) (by decide) (by decide) (by decide) (by decide) (by decide) (by decide), fc_12, if_neg (by omega), K 13 i (by decide) (by decide) (by decide) (by decide) (by decide) (by decide) (by decide) (by decide)]
    exact q
  · intro i hi
    rw [K 14 i (by decide) (by decide) (by decide) (by decide) (by decide) (by decide) (by decide) (by decide)]
    exact i11 i hi
  · intro i hi
    rw [fin_17, fin_18]
    by_cases e : i = nE
    · rw [if_pos e, if_pos e]
      exact ⟨j, hj, rfl, by rw [fin_12, if_pos rfl], by rw [fin_12, if_pos rfl]; exact hp⟩
    · rw [if_neg e, if_neg e]
      obtain ⟨w, w1, w2, w3, w4⟩ := i12 i (by omega)
      have hne : w ≠ j := by intro q; subst q; rw [h0] at w4; exact absurd w4 (by decide)
      exact ⟨w, w1, by rw [cmt_k _ (by decide) (by decide) (by decide)]; exact w2, by rw [fc_12, if_neg hne, cmt_k _ (by decide) (by decide) (by decide)]; exact w3, by rw [fc_12, if_neg hne]; exact w4⟩
/-- a step of one that goes on -/
theorem inv_stp (h : Inv σ nW nV nE) (hj : j < nW) (h0 : σ 12 j = 0) (hn : ¬ (σ 9 j = σ 5 j ∧ ¬ σ 4 j = 3)) (hq : ¬ (stp σ nV j 4 j = 0 ∧ stp σ nV j 9 j = stp σ nV j 5 j)) (hs : σ 4 j = 3 → ¬ σ 11 j = σ 1 0 - 1) : Inv (stp σ nV j) nW nV nE := by
  obtain ⟨i1, i2, i3, i4, i5, i6, i7, i8, i9, i10, i11, i12⟩ := h
  have K : ∀ (k i : Nat), k ≠ 14 → k ≠ 15 → k ≠ 11 → k ≠ 10 → k ≠ 9 → stp σ nV j k i = σ k i := fun k i a b c d e => stp_k i a b c d e
  refine ⟨?_, ?_, ?_, i4, i5, i6, ?_, ?_, ?_, ?_, ?_, ?_⟩
  · rw [K 3 0 (by decide) (by decide) (by decide) (by decide) (by decide)]; exact i1
  · rw [K 1 0 (by decide) (by decide) (by decide) (by decide) (by decide)]; exact i2
  · rw [K 16 0 (by decide) (by decide) (by decide) (by decide) (by decide)]; exact i3
  · rw [i7]
    exact (cntF_cong (fun i _ => by rw [K 12 i (by decide) (by decide) (by decide) (by decide) (by decide)])).symm
  · rw [K 2 0 (by decide) (by decide) (by decide) (by decide) (by decide)]; exact i8
  · intro i hi
    have hw := i9 i hi
    have e4 := K 4 i (by decide) (by decide) (by decide) (by decide) (by decide)
    have e5 := K 5 i (by decide) (by decide) (by decide) (by decide) (by decide)
    have e6 := K 6 i (by decide) (by decide) (by decide) (by decide) (by decide)
    have e7 := K 7 i (by decide) (by decide) (by decide) (by decide) (by decide)
    have e12 := K 12 i (by decide) (by decide) (by decide) (by decide) (by decide)
    have e13 := K 13 i (by decide) (by decide) (by decide) (by decide) (by decide)
    by_cases e : i = j
    · subst e
      rw [e4, e5] at hq
      have e9 : stp σ nV i 9 i = σ 9 i + 1 := by rw [stp_9, if_pos rfl]
      rw [e9] at hq
      unfold WI at hw ⊢
      rw [e4, e5, e6, e7, e9, e12, e13, stp_11]
      obtain ⟨st, fa, a, dn, a5, a6, a7, a9, b1, b2, b3, b4, hc⟩ := hw
      rcases hc with ⟨c1, c2, c3, c4, c5, v, c6, c7⟩ | ⟨c1, c2, c3, c4, c5, c6⟩ | ⟨c1, c2, c3, c4, c5, c6⟩ | ⟨c1, c2, c3, v, c4, c5, c6⟩
      · refine ⟨st, fa, a, dn + 1, a5, a6, a7, by rw [a9, nI_1], b1, b2, b3, b4, Or.inl ⟨c1, c2, c3, ?_, ?_, v, c6, ?_⟩⟩
        · have := c5 h0; omega
        · intro _
          have := c5 h0
          rcases Nat.lt_or_ge (dn + 1) st with q | q
          · exact q
          · exact absurd ⟨c1, by rw [a9, a5, nI_1, show dn + 1 = st by omega]⟩ hq
        · rw [if_neg (fun q => q.2.1 c1)]; exact c7
      · have hlt : dn < st := by
          rcases Nat.lt_or_ge dn st with q | q
          · exact q
          · exact absurd ⟨by rw [a9, a5, show dn = st by omega], by rw [c1]; decide⟩ hn
        refine ⟨st, fa, a, dn + 1, a5, a6, a7, by rw [a9, nI_1], b1, b2, b3, b4, Or.inr (Or.inl ⟨c1, c2, c3, by omega, ?_, ?_⟩)⟩
        · rw [if_neg (fun q => q.2.2 c1)]; exact c5
        · rw [if_neg (fun q => q.2.2 c1)]; exact c6
      · have hlt : dn < st := by
          rcases Nat.lt_or_ge dn st with q | q
          · exact q
          · exact absurd ⟨by rw [a9, a5, show dn = st by omega], by rw [c1]; decide⟩ hn
        refine ⟨st, fa, a, dn + 1, a5, a6, a7, by rw [a9, nI_1], b1, b2, b3, b4, Or.inr (Or.inr (Or.inl ⟨c1, c2, c3, by omega, fun q => by omega, fun _ => ?_⟩))⟩
        rw [if_pos ⟨rfl, by rw [c1]; decide, by rw [c1]; decide⟩, if_pos c1]
        by_cases hd : dn = 0
        · rw [if_pos (by rw [a9, hd]; rfl), i2]
          exact ⟨nV - 1, by omega, pk_sub (b := 1) i5⟩
        · rw [if_neg (by rw [a9]; exact nI_ne0 (by omega) (by omega))]
          exact c6 hd
      · refine ⟨st, fa, a, dn + 1, a5, a6, a7, by rw [a9, nI_1], b1, b2, b3, b4, Or.inr (Or.inr (Or.inr ⟨c1, c2, c3, v + 1, ?_, by omega, ?_⟩))⟩
        · have hx := hs c1
          rw [c6, i2] at hx
          rcases Nat.lt_or_ge (v + 1) nV with q | q
          · exact q
          · exact absurd (by rw [show v = nV - 1 by omega]; exact (pk_sub (b := 1) i5).symm) hx
        · rw [if_pos ⟨rfl, by rw [c1]; decide, by rw [c1]; decide⟩, if_neg (by rw [c1]; decide), c6, nI_1]
    · exact hw.mono (Nat.le_refl _) e4 e5 e6 e7 (by rw [stp_9, if_neg e]) (by rw [stp_11, if_neg (fun q => e q.1)]) e12 e13
  · intro i hi
    have q := i10 i hi
    have hne : i ≠ j := by omega
    rw [stp_9, if_neg hne, stp_10 hne, K 12 i (by decide) (by decide) (by decide) (by decide) (by decide), K 13 i (by decide) (by decide) (by decide) (by decide) (by decide)]
    exact q
  · intro i hi
    rw [stp_14o (by omega)]
    exact i11 i hi
  · intro i hi
    rw [K 17 i (by decide) (by decide) (by decide) (by decide) (by decide), K 18 i (by decide) (by decide) (by decide) (by decide) (by decide)]
    obtain ⟨w, w1, w2, w3, w4⟩ := i12 i hi
    exact ⟨w, w1, w2, by rw [K 12 w (by decide) (by decide) (by decide) (by decide) (by decide)]; exact w3, by rw [K 12 w (by decide) (by decide) (by decide) (by decide) (by decide)]; exact w4⟩
end InvS
end
