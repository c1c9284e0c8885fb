section
-- ===== PART A: goes FIRST, ahead of the names: the tables' words, and 'selects' of the private methods out of them =====
/-- a private method of a class that the tables say can be made, by its rows of tables_1 -/
def lw_okq (q : MethodName × Nat) : Prop := (q.1.cls ≠ "java/lang/invoke/MethodHandle" ∧ q.1.cls ≠ "java/lang/invoke/VarHandle") ∧ Cond.instantiable q.1.cls q.2 ∈ tables_1 ∧ Cond.privateMethod q.1 ∈ tables_1 ∧ Cond.instanceMethod q.1 ∈ tables_1
theorem lw_p0 : lw_okq (⟨"FramePool", "makeEmpty", "(I)V"⟩, 12) := ⟨⟨by decide +kernel, by decide +kernel⟩, List.mem_of_getElem? (i := 6) (by decide +kernel), List.mem_of_getElem? (i := 27) (by decide +kernel), List.mem_of_getElem? (i := 28) (by decide +kernel)⟩
theorem lw_p1 : lw_okq (⟨"FramePool", "isPage", "(I)Z"⟩, 12) := ⟨⟨by decide +kernel, by decide +kernel⟩, List.mem_of_getElem? (i := 6) (by decide +kernel), List.mem_of_getElem? (i := 75) (by decide +kernel), List.mem_of_getElem? (i := 76) (by decide +kernel)⟩
theorem lw_p2 : lw_okq (⟨"FramePool", "frameOf", "(I)I"⟩, 12) := ⟨⟨by decide +kernel, by decide +kernel⟩, List.mem_of_getElem? (i := 6) (by decide +kernel), List.mem_of_getElem? (i := 79) (by decide +kernel), List.mem_of_getElem? (i := 80) (by decide +kernel)⟩
theorem lw_p3 : lw_okq (⟨"FramePool", "findFrame", "()I"⟩, 12) := ⟨⟨by decide +kernel, by decide +kernel⟩, List.mem_of_getElem? (i := 6) (by decide +kernel), List.mem_of_getElem? (i := 83) (by decide +kernel), List.mem_of_getElem? (i := 84) (by decide +kernel)⟩
theorem lw_p4 : lw_okq (⟨"FramePool", "moveHand", "()V"⟩, 12) := ⟨⟨by decide +kernel, by decide +kernel⟩, List.mem_of_getElem? (i := 6) (by decide +kernel), List.mem_of_getElem? (i := 91) (by decide +kernel), List.mem_of_getElem? (i := 92) (by decide +kernel)⟩
theorem lw_p5 : lw_okq (⟨"FramePool", "givesWay", "(I)Z"⟩, 12) := ⟨⟨by decide +kernel, by decide +kernel⟩, List.mem_of_getElem? (i := 6) (by decide +kernel), List.mem_of_getElem? (i := 95) (by decide +kernel), List.mem_of_getElem? (i := 96) (by decide +kernel)⟩
theorem lw_p6 : lw_okq (⟨"FramePool", "writeBack", "(I)V"⟩, 12) := ⟨⟨by decide +kernel, by decide +kernel⟩, List.mem_of_getElem? (i := 6) (by decide +kernel), List.mem_of_getElem? (i := 99) (by decide +kernel), List.mem_of_getElem? (i := 100) (by decide +kernel)⟩
theorem lw_p7 : lw_okq (⟨"FramePool", "copyWords", "([II[II)V"⟩, 12) := ⟨⟨by decide +kernel, by decide +kernel⟩, List.mem_of_getElem? (i := 6) (by decide +kernel), List.mem_of_getElem? (i := 103) (by decide +kernel), List.mem_of_getElem? (i := 104) (by decide +kernel)⟩
theorem lw_p8 : lw_okq (⟨"FramePool", "readInto", "(II)V"⟩, 12) := ⟨⟨by decide +kernel, by decide +kernel⟩, List.mem_of_getElem? (i := 6) (by decide +kernel), List.mem_of_getElem? (i := 110) (by decide +kernel), List.mem_of_getElem? (i := 111) (by decide +kernel)⟩
theorem lw_p9 : lw_okq (⟨"FramePool", "isPinnedFrame", "(I)Z"⟩, 12) := ⟨⟨by decide +kernel, by decide +kernel⟩, List.mem_of_getElem? (i := 6) (by decide +kernel), List.mem_of_getElem? (i := 118) (by decide +kernel), List.mem_of_getElem? (i := 119) (by decide +kernel)⟩
theorem lw_p10 : lw_okq (⟨"FramePool", "isFrame", "(I)Z"⟩, 12) := ⟨⟨by decide +kernel, by decide +kernel⟩, List.mem_of_getElem? (i := 6) (by decide +kernel), List.mem_of_getElem? (i := 122) (by decide +kernel), List.mem_of_getElem? (i := 123) (by decide +kernel)⟩
theorem lw_p11 : lw_okq (⟨"FramePool", "isOffset", "(I)Z"⟩, 12) := ⟨⟨by decide +kernel, by decide +kernel⟩, List.mem_of_getElem? (i := 6) (by decide +kernel), List.mem_of_getElem? (i := 130) (by decide +kernel), List.mem_of_getElem? (i := 131) (by decide +kernel)⟩
theorem lw_p12 : lw_okq (⟨"FramePoolModel", "empty", "(I)V"⟩, 12) := ⟨⟨by decide +kernel, by decide +kernel⟩, List.mem_of_getElem? (i := 182) (by decide +kernel), List.mem_of_getElem? (i := 192) (by decide +kernel), List.mem_of_getElem? (i := 193) (by decide +kernel)⟩
theorem lw_p13 : lw_okq (⟨"FramePoolModel", "isPage", "(I)Z"⟩, 12) := ⟨⟨by decide +kernel, by decide +kernel⟩, List.mem_of_getElem? (i := 182) (by decide +kernel), List.mem_of_getElem? (i := 238) (by decide +kernel), List.mem_of_getElem? (i := 239) (by decide +kernel)⟩
theorem lw_p14 : lw_okq (⟨"FramePoolModel", "frameOf", "(I)I"⟩, 12) := ⟨⟨by decide +kernel, by decide +kernel⟩, List.mem_of_getElem? (i := 182) (by decide +kernel), List.mem_of_getElem? (i := 242) (by decide +kernel), List.mem_of_getElem? (i := 243) (by decide +kernel)⟩
theorem lw_p15 : lw_okq (⟨"FramePoolModel", "find", "()I"⟩, 12) := ⟨⟨by decide +kernel, by decide +kernel⟩, List.mem_of_getElem? (i := 182) (by decide +kernel), List.mem_of_getElem? (i := 246) (by decide +kernel), List.mem_of_getElem? (i := 247) (by decide +kernel)⟩
def lw_privs_1 : List (MethodName × Nat) := [(⟨"FramePool", "makeEmpty", "(I)V"⟩, 12), (⟨"FramePool", "isPage", "(I)Z"⟩, 12), (⟨"FramePool", "frameOf", "(I)I"⟩, 12), (⟨"FramePool", "findFrame", "()I"⟩, 12), (⟨"FramePool", "moveHand", "()V"⟩, 12), (⟨"FramePool", "givesWay", "(I)Z"⟩, 12), (⟨"FramePool", "writeBack", "(I)V"⟩, 12), (⟨"FramePool", "copyWords", "([II[II)V"⟩, 12), (⟨"FramePool", "readInto", "(II)V"⟩, 12), (⟨"FramePool", "isPinnedFrame", "(I)Z"⟩, 12), (⟨"FramePool", "isFrame", "(I)Z"⟩, 12), (⟨"FramePool", "isOffset", "(I)Z"⟩, 12), (⟨"FramePoolModel", "empty", "(I)V"⟩, 12), (⟨"FramePoolModel", "isPage", "(I)Z"⟩, 12), (⟨"FramePoolModel", "frameOf", "(I)I"⟩, 12), (⟨"FramePoolModel", "find", "()I"⟩, 12)]
theorem lw_r1 : ∀ q ∈ lw_privs_1, lw_okq q := List.forall_mem_cons.mpr ⟨lw_p0, List.forall_mem_cons.mpr ⟨lw_p1, List.forall_mem_cons.mpr ⟨lw_p2, List.forall_mem_cons.mpr ⟨lw_p3, List.forall_mem_cons.mpr ⟨lw_p4, List.forall_mem_cons.mpr ⟨lw_p5, List.forall_mem_cons.mpr ⟨lw_p6, List.forall_mem_cons.mpr ⟨lw_p7, List.forall_mem_cons.mpr ⟨lw_p8, List.forall_mem_cons.mpr ⟨lw_p9, List.forall_mem_cons.mpr ⟨lw_p10, List.forall_mem_cons.mpr ⟨lw_p11, List.forall_mem_cons.mpr ⟨lw_p12, List.forall_mem_cons.mpr ⟨lw_p13, List.forall_mem_cons.mpr ⟨lw_p14, List.forall_mem_cons.mpr ⟨lw_p15, fun _ h => absurd h List.not_mem_nil⟩⟩⟩⟩⟩⟩⟩⟩⟩⟩⟩⟩⟩⟩⟩⟩
theorem lw_p16 : lw_okq (⟨"FramePoolModel", "store", "(I)V"⟩, 12) := ⟨⟨by decide +kernel, by decide +kernel⟩, List.mem_of_getElem? (i := 182) (by decide +kernel), List.mem_of_getElem? (i := 254) (by decide +kernel), List.mem_of_getElem? (i := 255) (by decide +kernel)⟩
theorem lw_p17 : lw_okq (⟨"FramePoolModel", "isPinned", "(I)Z"⟩, 12) := ⟨⟨by decide +kernel, by decide +kernel⟩, List.mem_of_getElem? (i := 182) (by decide +kernel), List.mem_of_getElem? (i := 262) (by decide +kernel), List.mem_of_getElem? (i := 263) (by decide +kernel)⟩
def lw_privs_2 : List (MethodName × Nat) := [(⟨"FramePoolModel", "store", "(I)V"⟩, 12), (⟨"FramePoolModel", "isPinned", "(I)Z"⟩, 12)]
theorem lw_r2 : ∀ q ∈ lw_privs_2, lw_okq q := List.forall_mem_cons.mpr ⟨lw_p16, List.forall_mem_cons.mpr ⟨lw_p17, fun _ h => absurd h List.not_mem_nil⟩⟩
def lw_privs : List (MethodName × Nat) := lw_privs_1 ++ (lw_privs_2)
def lw_tbl : List Cond := k2_sels lw_privs ++ tables_1
theorem lw_privs_ok : ∀ q ∈ lw_privs, lw_okq q := by
  show ∀ q ∈ lw_privs_1 ++ (lw_privs_2), lw_okq q
  exact List.forall_mem_append.mpr ⟨lw_r1, lw_r2⟩
end
section
/-! ===== BEGIN words of one list among another's, by their places ===== -/
theorem goodIn_r {big : List Cond} (ws : List Cond) (ps : List Nat) (hp : ws = ps.filterMap (fun i => big[i]?)) (h : ws.all goodWord = true) : GoodIn big ws := by
  intro w hw
  have h1 := List.all_eq_true.mp h w hw
  rw [hp] at hw
  obtain ⟨i, -, hi⟩ := List.mem_filterMap.mp hw
  have hm : w ∈ big := by first | exact List.mem_of_getElem? hi | exact List.getElem?_mem hi
  exact ⟨hm, good_of_word h1⟩
theorem goodIn_app {big a b : List Cond} (ha : GoodIn big a) (hb : GoodIn big b) : GoodIn big (a ++ b) := fun w h => (List.mem_append.mp h).elim (ha w) (hb w)
theorem goodIn_ca {big a b : List Cond} {c : Cond} (ha : GoodIn big (c :: a)) (hb : GoodIn big b) : GoodIn big (c :: (a ++ b)) := fun w h => (List.mem_cons.mp h).elim (fun e => ha w (List.mem_cons.mpr (Or.inl e))) (fun h => (List.mem_append.mp h).elim (fun h => ha w (List.mem_cons.mpr (Or.inr h))) (hb w))
theorem goodIn_sub {big ws : List Cond} (hm : ∀ w ∈ ws, w ∈ big) (h : ws.all goodWord = true) : GoodIn big ws := fun w hw => ⟨hm w hw, good_of_word (List.all_eq_true.mp h w hw)⟩
/-! ===== END ===== -/

/-! ===== BEGIN printed: names, fields, word lists, decode rows ===== -/
def RX0 : String := "FramePool"
def TX0 : u_T := fun k => match k with
  | 0 => ("FramePool", "frameCount", "I", true)
  | 1 => ("FramePool", "pageCount", "I", true)
  | 2 => ("FramePool", "wordCount", "I", true)
  | 3 => ("FramePool", "diskWords", "[I", true)
  | 4 => ("FramePool", "frameWords", "[I", true)
  | 5 => ("FramePool", "pageIn", "[I", true)
  | 6 => ("FramePool", "pins", "[I", true)
  | 7 => ("FramePool", "dirty", "[Z", true)
  | 8 => ("FramePool", "marked", "[Z", true)
  | 9 => ("FramePool", "handAt", "I", false)
  | 10 => ("FramePool", "reads", "I", false)
  | _ => ("FramePool", "writes", "I", false)
def tyX0 : Nat → FieldType := fun k => match k with
  | 0 => .int
  | 1 => .int
  | 2 => .int
  | 3 => .array .int
  | 4 => .array .int
  | 5 => .array .int
  | 6 => .array .int
  | 7 => .array .boolean
  | 8 => .array .boolean
  | 9 => .int
  | 10 => .int
  | _ => .int
abbrev wsX00 : List Cond := u_ws RX0 TX0 12
theorem nmX0 : ∀ a, a < 12 → ∀ b, b < 12 → a ≠ b → (TX0 a).2.1 ≠ (TX0 b).2.1 := by decide +kernel
theorem tyX0_ok : ∀ k, k < 12 → parseFieldDescriptor (TX0 k).2.2.1 = some (tyX0 k) := by decide +kernel
abbrev cX0_init : ByteArray := prog_1_method_1_code
def yX0_init : MethodName := ⟨RX0, "<init>", "(III)V"⟩
abbrev cX0_init_ : ByteArray := prog_1_method_2_code
def yX0_init_ : MethodName := ⟨RX0, "init", "()V"⟩
abbrev cX0_fetch : ByteArray := prog_1_method_3_code
def yX0_fetch : MethodName := ⟨RX0, "fetch", "(I)I"⟩
abbrev cX0_unpin : ByteArray := prog_1_method_4_code
def yX0_unpin : MethodName := ⟨RX0, "unpin", "(I)I"⟩
abbrev cX0_readWord : ByteArray := prog_1_method_5_code
def yX0_readWord : MethodName := ⟨RX0, "readWord", "(II)I"⟩
abbrev cX0_writeWord : ByteArray := prog_1_method_6_code
def yX0_writeWord : MethodName := ⟨RX0, "writeWord", "(III)I"⟩
abbrev cX0_flush : ByteArray := prog_1_method_7_code
def yX0_flush : MethodName := ⟨RX0, "flush", "(I)I"⟩
abbrev cX0_flushAll : ByteArray := prog_1_method_8_code
def yX0_flushAll : MethodName := ⟨RX0, "flushAll", "()I"⟩
abbrev cX0_drop : ByteArray := prog_1_method_9_code
def yX0_drop : MethodName := ⟨RX0, "drop", "(I)Z"⟩
abbrev cX0_copy : ByteArray := prog_1_method_10_code
def yX0_copy : MethodName := ⟨RX0, "copy", "(II)I"⟩
abbrev cX0_diskWord : ByteArray := prog_1_method_11_code
def yX0_diskWord : MethodName := ⟨RX0, "diskWord", "(II)I"⟩
abbrev cX0_resident : ByteArray := prog_1_method_12_code
def yX0_resident : MethodName := ⟨RX0, "resident", "(I)Z"⟩
abbrev cX0_diskReads : ByteArray := prog_1_method_13_code
def yX0_diskReads : MethodName := ⟨RX0, "diskReads", "()I"⟩
abbrev cX0_diskWrites : ByteArray := prog_1_method_14_code
def yX0_diskWrites : MethodName := ⟨RX0, "diskWrites", "()I"⟩
abbrev cX0_told : ByteArray := prog_1_method_15_code
def yX0_told : MethodName := ⟨RX0, "told", "(II)I"⟩
abbrev cX0_hand : ByteArray := prog_1_method_16_code
def yX0_hand : MethodName := ⟨RX0, "hand", "()I"⟩
abbrev cX0_pinned : ByteArray := prog_1_method_17_code
def yX0_pinned : MethodName := ⟨RX0, "pinned", "()I"⟩
abbrev cX0_within : ByteArray := prog_1_method_18_code
def yX0_within : MethodName := ⟨RX0, "within", "(II)I"⟩
abbrev cX0_isPage : ByteArray := prog_1_method_19_code
def yX0_isPage : MethodName := ⟨RX0, "isPage", "(I)Z"⟩
abbrev cX0_isOffset : ByteArray := prog_1_method_20_code
def yX0_isOffset : MethodName := ⟨RX0, "isOffset", "(I)Z"⟩
abbrev cX0_isFrame : ByteArray := prog_1_method_21_code
def yX0_isFrame : MethodName := ⟨RX0, "isFrame", "(I)Z"⟩
abbrev cX0_isPinnedFrame : ByteArray := prog_1_method_22_code
def yX0_isPinnedFrame : MethodName := ⟨RX0, "isPinnedFrame", "(I)Z"⟩
abbrev cX0_frameOf : ByteArray := prog_1_method_23_code
def yX0_frameOf : MethodName := ⟨RX0, "frameOf", "(I)I"⟩
abbrev cX0_findFrame : ByteArray := prog_1_method_24_code
def yX0_findFrame : MethodName := ⟨RX0, "findFrame", "()I"⟩
abbrev cX0_moveHand : ByteArray := prog_1_method_25_code
def yX0_moveHand : MethodName := ⟨RX0, "moveHand", "()V"⟩
abbrev cX0_givesWay : ByteArray := prog_1_method_26_code
def yX0_givesWay : MethodName := ⟨RX0, "givesWay", "(I)Z"⟩
abbrev cX0_makeEmpty : ByteArray := prog_1_method_27_code
def yX0_makeEmpty : MethodName := ⟨RX0, "makeEmpty", "(I)V"⟩
abbrev cX0_readInto : ByteArray := prog_1_method_28_code
def yX0_readInto : MethodName := ⟨RX0, "readInto", "(II)V"⟩
abbrev cX0_writeBack : ByteArray := prog_1_method_29_code
def yX0_writeBack : MethodName := ⟨RX0, "writeBack", "(I)V"⟩
abbrev cX0_copyWords : ByteArray := prog_1_method_30_code
def yX0_copyWords : MethodName := ⟨RX0, "copyWords", "([II[II)V"⟩
def RX1 : String := "FramePoolModel"
def TX1 : u_T := fun k => match k with
  | 0 => ("FramePoolModel", "frames", "I", true)
  | 1 => ("FramePoolModel", "pages", "I", true)
  | 2 => ("FramePoolModel", "words", "I", true)
  | 3 => ("FramePoolModel", "disk", "[I", true)
  | 4 => ("FramePoolModel", "memory", "[I", true)
  | 5 => ("FramePoolModel", "page", "[I", true)
  | 6 => ("FramePoolModel", "pins", "[I", true)
  | 7 => ("FramePoolModel", "dirty", "[Z", true)
  | 8 => ("FramePoolModel", "mark", "[Z", true)
  | 9 => ("FramePoolModel", "at", "I", false)
  | 10 => ("FramePoolModel", "reads", "I", false)
  | _ => ("FramePoolModel", "writes", "I", false)
def tyX1 : Nat → FieldType := fun k => match k with
  | 0 => .int
  | 1 => .int
  | 2 => .int
  | 3 => .array .int
  | 4 => .array .int
  | 5 => .array .int
  | 6 => .array .int
  | 7 => .array .boolean
  | 8 => .array .boolean
  | 9 => .int
  | 10 => .int
  | _ => .int
abbrev wsX10 : List Cond := u_ws RX1 TX1 12
theorem nmX1 : ∀ a, a < 12 → ∀ b, b < 12 → a ≠ b → (TX1 a).2.1 ≠ (TX1 b).2.1 := by decide +kernel
theorem tyX1_ok : ∀ k, k < 12 → parseFieldDescriptor (TX1 k).2.2.1 = some (tyX1 k) := by decide +kernel
abbrev cX1_init : ByteArray := prog_3_method_1_code
def yX1_init : MethodName := ⟨RX1, "<init>", "(III)V"⟩
abbrev cX1_init_ : ByteArray := prog_3_method_2_code
def yX1_init_ : MethodName := ⟨RX1, "init", "()V"⟩
abbrev cX1_empty : ByteArray := prog_3_method_3_code
def yX1_empty : MethodName := ⟨RX1, "empty", "(I)V"⟩
abbrev cX1_isPage : ByteArray := prog_3_method_4_code
def yX1_isPage : MethodName := ⟨RX1, "isPage", "(I)Z"⟩
abbrev cX1_isPinned : ByteArray := prog_3_method_5_code
def yX1_isPinned : MethodName := ⟨RX1, "isPinned", "(I)Z"⟩
abbrev cX1_frameOf : ByteArray := prog_3_method_6_code
def yX1_frameOf : MethodName := ⟨RX1, "frameOf", "(I)I"⟩
abbrev cX1_store : ByteArray := prog_3_method_7_code
def yX1_store : MethodName := ⟨RX1, "store", "(I)V"⟩
abbrev cX1_find : ByteArray := prog_3_method_8_code
def yX1_find : MethodName := ⟨RX1, "find", "()I"⟩
abbrev cX1_fetch : ByteArray := prog_3_method_9_code
def yX1_fetch : MethodName := ⟨RX1, "fetch", "(I)I"⟩
abbrev cX1_unpin : ByteArray := prog_3_method_10_code
def yX1_unpin : MethodName := ⟨RX1, "unpin", "(I)I"⟩
abbrev cX1_readWord : ByteArray := prog_3_method_11_code
def yX1_readWord : MethodName := ⟨RX1, "readWord", "(II)I"⟩
abbrev cX1_writeWord : ByteArray := prog_3_method_12_code
def yX1_writeWord : MethodName := ⟨RX1, "writeWord", "(III)I"⟩
abbrev cX1_flush : ByteArray := prog_3_method_13_code
def yX1_flush : MethodName := ⟨RX1, "flush", "(I)I"⟩
abbrev cX1_flushAll : ByteArray := prog_3_method_14_code
def yX1_flushAll : MethodName := ⟨RX1, "flushAll", "()I"⟩
abbrev cX1_drop : ByteArray := prog_3_method_15_code
def yX1_drop : MethodName := ⟨RX1, "drop", "(I)Z"⟩
abbrev cX1_copy : ByteArray := prog_3_method_16_code
def yX1_copy : MethodName := ⟨RX1, "copy", "(II)I"⟩
abbrev cX1_diskWord : ByteArray := prog_3_method_17_code
def yX1_diskWord : MethodName := ⟨RX1, "diskWord", "(II)I"⟩
abbrev cX1_resident : ByteArray := prog_3_method_18_code
def yX1_resident : MethodName := ⟨RX1, "resident", "(I)Z"⟩
abbrev cX1_diskReads : ByteArray := prog_3_method_19_code
def yX1_diskReads : MethodName := ⟨RX1, "diskReads", "()I"⟩
abbrev cX1_diskWrites : ByteArray := prog_3_method_20_code
def yX1_diskWrites : MethodName := ⟨RX1, "diskWrites", "()I"⟩
abbrev cX1_told : ByteArray := prog_3_method_21_code
def yX1_told : MethodName := ⟨RX1, "told", "(II)I"⟩
abbrev cX1_hand : ByteArray := prog_3_method_22_code
def yX1_hand : MethodName := ⟨RX1, "hand", "()I"⟩
abbrev cX1_pinned : ByteArray := prog_3_method_23_code
def yX1_pinned : MethodName := ⟨RX1, "pinned", "()I"⟩
def RJ9 : String := "java/lang/Math"
def TJ9 : u_T := fun k => match k with
  | _ => ("", "", "", false)
def tyJ9 : Nat → FieldType := fun k => match k with
  | _ => .int
abbrev wsJ90 : List Cond := u_ws RJ9 TJ9 0
theorem nmJ9 : ∀ a, a < 0 → ∀ b, b < 0 → a ≠ b → (TJ9 a).2.1 ≠ (TJ9 b).2.1 := by decide +kernel
theorem tyJ9_ok : ∀ k, k < 0 → parseFieldDescriptor (TJ9 k).2.2.1 = some (tyJ9 k) := by decide +kernel
abbrev cJ9_max_7cf53 : ByteArray := prog_4_method_65_code
def yJ9_max_7cf53 : MethodName := ⟨RJ9, "max", "(II)I"⟩
abbrev cJ9_min_7cf53 : ByteArray := prog_4_method_69_code
def yJ9_min_7cf53 : MethodName := ⟨RJ9, "min", "(II)I"⟩
def RJ10 : String := "java/lang/System"
def TJ10 : u_T := fun k => match k with
  | _ => ("", "", "", false)
def tyJ10 : Nat → FieldType := fun k => match k with
  | _ => .int
abbrev wsJ100 : List Cond := u_ws RJ10 TJ10 0
theorem nmJ10 : ∀ a, a < 0 → ∀ b, b < 0 → a ≠ b → (TJ10 a).2.1 ≠ (TJ10 b).2.1 := by decide +kernel
theorem tyJ10_ok : ∀ k, k < 0 → parseFieldDescriptor (TJ10 k).2.2.1 = some (tyJ10 k) := by decide +kernel
def RL : String := "FramePoolLaw"
abbrev cL_cell : ByteArray := method_2_code
def yL_cell : MethodName := ⟨RL, "cell", "([II)I"⟩
abbrev cL_law : ByteArray := code
def yL_law : MethodName := ⟨RL, "law", "([I)Z"⟩
def wsX0_within : List Cond := .code yX0_within cX0_within 2 (some .int) :: ([.methodLink RX0 91 Lib.Math.min.name, .static Lib.Math.min.name, .initialized "java/lang/Math", .code Lib.Math.min.name Lib.Math.min.code 2 (some .int), .methodLink RX0 96 Lib.Math.max.name, .static Lib.Math.max.name, .code Lib.Math.max.name Lib.Math.max.code 2 (some .int)])
def wsX0_makeEmpty : List Cond := .code yX0_makeEmpty cX0_makeEmpty 2 none :: ([.fieldLink RX0 30 "FramePool" "pageIn" "[I", .fieldLink RX0 33 "FramePool" "pins" "[I", .fieldLink RX0 36 "FramePool" "dirty" "[Z", .fieldLink RX0 40 "FramePool" "marked" "[Z"] ++ wsX00)
def wsX0_init_ : List Cond := .code yX0_init_ cX0_init_ 2 none :: ([.fieldLink RX0 13 "FramePool" "frameCount" "I", .fieldLink RX0 23 "FramePool" "diskWords" "[I", .fieldLink RX0 50 "FramePool" "handAt" "I", .fieldLink RX0 53 "FramePool" "reads" "I", .fieldLink RX0 56 "FramePool" "writes" "I", .methodLink RX0 46 yX0_makeEmpty, .instanceMethod yX0_makeEmpty, .selects RX0 yX0_makeEmpty yX0_makeEmpty, .initialized RX0, .code yX0_makeEmpty cX0_makeEmpty 2 none, .fieldLink RX0 30 "FramePool" "pageIn" "[I", .fieldLink RX0 33 "FramePool" "pins" "[I", .fieldLink RX0 36 "FramePool" "dirty" "[Z", .fieldLink RX0 40 "FramePool" "marked" "[Z"] ++ wsX00)
def wsX0_init_r1 : List Cond := [Cond.methodLink RX0 1 objectInit, Cond.instanceMethod objectInit, Cond.code objectInit ⟨#[0xb1]⟩ 1 none, Cond.fieldLink RX0 13 "FramePool" "frameCount" "I", Cond.fieldLink RX0 17 "FramePool" "pageCount" "I", Cond.fieldLink RX0 20 "FramePool" "wordCount" "I", Cond.arrayClass .int, Cond.fieldLink RX0 23 "FramePool" "diskWords" "[I", Cond.fieldLink RX0 27 "FramePool" "frameWords" "[I", Cond.fieldLink RX0 30 "FramePool" "pageIn" "[I", Cond.fieldLink RX0 33 "FramePool" "pins" "[I", Cond.arrayClass .boolean, Cond.fieldLink RX0 36 "FramePool" "dirty" "[Z", Cond.fieldLink RX0 40 "FramePool" "marked" "[Z", Cond.methodLink RX0 9 yX0_within, Cond.static yX0_within, Cond.initialized RX0, Cond.code yX0_within cX0_within 2 (some .int), Cond.methodLink RX0 91 Lib.Math.min.name, Cond.static Lib.Math.min.name, Cond.initialized "java/lang/Math", Cond.code Lib.Math.min.name Lib.Math.min.code 2 (some .int), Cond.methodLink RX0 96 Lib.Math.max.name, Cond.static Lib.Math.max.name]
def wsX0_init_r2 : List Cond := [Cond.code Lib.Math.max.name Lib.Math.max.code 2 (some .int), Cond.methodLink RX0 43 yX0_init_, Cond.instanceMethod yX0_init_, Cond.selects RX0 yX0_init_ yX0_init_, Cond.code yX0_init_ cX0_init_ 2 none, Cond.fieldLink RX0 50 "FramePool" "handAt" "I", Cond.fieldLink RX0 53 "FramePool" "reads" "I", Cond.fieldLink RX0 56 "FramePool" "writes" "I", Cond.methodLink RX0 46 yX0_makeEmpty, Cond.instanceMethod yX0_makeEmpty, Cond.selects RX0 yX0_makeEmpty yX0_makeEmpty, Cond.code yX0_makeEmpty cX0_makeEmpty 2 none]
def wsX0_init : List Cond := .code yX0_init cX0_init 4 none :: ((wsX0_init_r1 ++ wsX0_init_r2) ++ wsX00)
def wsX0_isPage : List Cond := .code yX0_isPage cX0_isPage 2 (some .boolean) :: ([.fieldLink RX0 17 "FramePool" "pageCount" "I"] ++ wsX00)
def wsX0_frameOf : List Cond := .code yX0_frameOf cX0_frameOf 3 (some .int) :: ([.fieldLink RX0 13 "FramePool" "frameCount" "I", .fieldLink RX0 30 "FramePool" "pageIn" "[I", .methodLink RX0 59 yX0_isPage, .instanceMethod yX0_isPage, .selects RX0 yX0_isPage yX0_isPage, .initialized RX0, .code yX0_isPage cX0_isPage 2 (some .boolean), .fieldLink RX0 17 "FramePool" "pageCount" "I"] ++ wsX00)
def wsX0_pinned : List Cond := .code yX0_pinned cX0_pinned 3 (some .int) :: ([.fieldLink RX0 13 "FramePool" "frameCount" "I", .fieldLink RX0 33 "FramePool" "pins" "[I"] ++ wsX00)
def wsX0_moveHand : List Cond := .code yX0_moveHand cX0_moveHand 1 none :: ([.fieldLink RX0 50 "FramePool" "handAt" "I", .fieldLink RX0 13 "FramePool" "frameCount" "I"] ++ wsX00)
def wsX0_copyWords : List Cond := .code yX0_copyWords cX0_copyWords 5 none :: ([.fieldLink RX0 20 "FramePool" "wordCount" "I", .methodLink RX0 108 arraycopyName, .native arraycopyName, .static arraycopyName, .initialized "java/lang/System"] ++ wsX00)
def wsX0_writeBack : List Cond := .code yX0_writeBack cX0_writeBack 2 none :: ([.fieldLink RX0 27 "FramePool" "frameWords" "[I", .fieldLink RX0 23 "FramePool" "diskWords" "[I", .fieldLink RX0 30 "FramePool" "pageIn" "[I", .fieldLink RX0 36 "FramePool" "dirty" "[Z", .fieldLink RX0 56 "FramePool" "writes" "I", .methodLink RX0 84 yX0_copyWords, .instanceMethod yX0_copyWords, .selects RX0 yX0_copyWords yX0_copyWords, .initialized RX0, .code yX0_copyWords cX0_copyWords 5 none, .fieldLink RX0 20 "FramePool" "wordCount" "I", .methodLink RX0 108 arraycopyName, .native arraycopyName, .static arraycopyName, .initialized "java/lang/System"] ++ wsX00)
def wsX0_givesWay_r1 : List Cond := [Cond.fieldLink RX0 33 "FramePool" "pins" "[I", Cond.fieldLink RX0 30 "FramePool" "pageIn" "[I", Cond.fieldLink RX0 40 "FramePool" "marked" "[Z", Cond.fieldLink RX0 36 "FramePool" "dirty" "[Z", Cond.methodLink RX0 81 yX0_writeBack, Cond.instanceMethod yX0_writeBack, Cond.selects RX0 yX0_writeBack yX0_writeBack, Cond.initialized RX0, Cond.code yX0_writeBack cX0_writeBack 2 none, Cond.fieldLink RX0 27 "FramePool" "frameWords" "[I", Cond.fieldLink RX0 23 "FramePool" "diskWords" "[I", Cond.fieldLink RX0 56 "FramePool" "writes" "I", Cond.methodLink RX0 84 yX0_copyWords, Cond.instanceMethod yX0_copyWords, Cond.selects RX0 yX0_copyWords yX0_copyWords, Cond.code yX0_copyWords cX0_copyWords 5 none, Cond.fieldLink RX0 20 "FramePool" "wordCount" "I", Cond.methodLink RX0 108 arraycopyName, Cond.native arraycopyName, Cond.static arraycopyName, Cond.initialized "java/lang/System", Cond.methodLink RX0 46 yX0_makeEmpty, Cond.instanceMethod yX0_makeEmpty, Cond.selects RX0 yX0_makeEmpty yX0_makeEmpty]
def wsX0_givesWay_r2 : List Cond := [Cond.code yX0_makeEmpty cX0_makeEmpty 2 none]
def wsX0_givesWay : List Cond := .code yX0_givesWay cX0_givesWay 2 (some .boolean) :: ((wsX0_givesWay_r1 ++ wsX0_givesWay_r2) ++ wsX00)
def wsX0_findFrame_r1 : List Cond := [Cond.fieldLink RX0 13 "FramePool" "frameCount" "I", Cond.fieldLink RX0 50 "FramePool" "handAt" "I", Cond.methodLink RX0 99 yX0_pinned, Cond.instanceMethod yX0_pinned, Cond.selects RX0 yX0_pinned yX0_pinned, Cond.initialized RX0, Cond.code yX0_pinned cX0_pinned 3 (some .int), Cond.fieldLink RX0 33 "FramePool" "pins" "[I", Cond.methodLink RX0 102 yX0_moveHand, Cond.instanceMethod yX0_moveHand, Cond.selects RX0 yX0_moveHand yX0_moveHand, Cond.code yX0_moveHand cX0_moveHand 1 none, Cond.methodLink RX0 105 yX0_givesWay, Cond.instanceMethod yX0_givesWay, Cond.selects RX0 yX0_givesWay yX0_givesWay, Cond.code yX0_givesWay cX0_givesWay 2 (some .boolean), Cond.fieldLink RX0 30 "FramePool" "pageIn" "[I", Cond.fieldLink RX0 40 "FramePool" "marked" "[Z", Cond.fieldLink RX0 36 "FramePool" "dirty" "[Z", Cond.methodLink RX0 81 yX0_writeBack, Cond.instanceMethod yX0_writeBack, Cond.selects RX0 yX0_writeBack yX0_writeBack, Cond.code yX0_writeBack cX0_writeBack 2 none, Cond.fieldLink RX0 27 "FramePool" "frameWords" "[I"]
def wsX0_findFrame_r2 : List Cond := [Cond.fieldLink RX0 23 "FramePool" "diskWords" "[I", Cond.fieldLink RX0 56 "FramePool" "writes" "I", Cond.methodLink RX0 84 yX0_copyWords, Cond.instanceMethod yX0_copyWords, Cond.selects RX0 yX0_copyWords yX0_copyWords, Cond.code yX0_copyWords cX0_copyWords 5 none, Cond.fieldLink RX0 20 "FramePool" "wordCount" "I", Cond.methodLink RX0 108 arraycopyName, Cond.native arraycopyName, Cond.static arraycopyName, Cond.initialized "java/lang/System", Cond.methodLink RX0 46 yX0_makeEmpty, Cond.instanceMethod yX0_makeEmpty, Cond.selects RX0 yX0_makeEmpty yX0_makeEmpty, Cond.code yX0_makeEmpty cX0_makeEmpty 2 none]
def wsX0_findFrame : List Cond := .code yX0_findFrame cX0_findFrame 3 (some .int) :: ((wsX0_findFrame_r1 ++ wsX0_findFrame_r2) ++ wsX00)
def wsX0_readInto : List Cond := .code yX0_readInto cX0_readInto 3 none :: ([.fieldLink RX0 23 "FramePool" "diskWords" "[I", .fieldLink RX0 27 "FramePool" "frameWords" "[I", .fieldLink RX0 30 "FramePool" "pageIn" "[I", .fieldLink RX0 53 "FramePool" "reads" "I", .methodLink RX0 84 yX0_copyWords, .instanceMethod yX0_copyWords, .selects RX0 yX0_copyWords yX0_copyWords, .initialized RX0, .code yX0_copyWords cX0_copyWords 5 none, .fieldLink RX0 20 "FramePool" "wordCount" "I", .methodLink RX0 108 arraycopyName, .native arraycopyName, .static arraycopyName, .initialized "java/lang/System"] ++ wsX00)
def wsX0_fetch_r1 : List Cond := [Cond.fieldLink RX0 33 "FramePool" "pins" "[I", Cond.fieldLink RX0 40 "FramePool" "marked" "[Z", Cond.methodLink RX0 59 yX0_isPage, Cond.instanceMethod yX0_isPage, Cond.selects RX0 yX0_isPage yX0_isPage, Cond.initialized RX0, Cond.code yX0_isPage cX0_isPage 2 (some .boolean), Cond.fieldLink RX0 17 "FramePool" "pageCount" "I", Cond.methodLink RX0 63 yX0_frameOf, Cond.instanceMethod yX0_frameOf, Cond.selects RX0 yX0_frameOf yX0_frameOf, Cond.code yX0_frameOf cX0_frameOf 3 (some .int), Cond.fieldLink RX0 13 "FramePool" "frameCount" "I", Cond.fieldLink RX0 30 "FramePool" "pageIn" "[I", Cond.methodLink RX0 67 yX0_findFrame, Cond.instanceMethod yX0_findFrame, Cond.selects RX0 yX0_findFrame yX0_findFrame, Cond.code yX0_findFrame cX0_findFrame 3 (some .int), Cond.fieldLink RX0 50 "FramePool" "handAt" "I", Cond.methodLink RX0 99 yX0_pinned, Cond.instanceMethod yX0_pinned, Cond.selects RX0 yX0_pinned yX0_pinned, Cond.code yX0_pinned cX0_pinned 3 (some .int), Cond.methodLink RX0 102 yX0_moveHand]
def wsX0_fetch_r2 : List Cond := [Cond.instanceMethod yX0_moveHand, Cond.selects RX0 yX0_moveHand yX0_moveHand, Cond.code yX0_moveHand cX0_moveHand 1 none, Cond.methodLink RX0 105 yX0_givesWay, Cond.instanceMethod yX0_givesWay, Cond.selects RX0 yX0_givesWay yX0_givesWay, Cond.code yX0_givesWay cX0_givesWay 2 (some .boolean), Cond.fieldLink RX0 36 "FramePool" "dirty" "[Z", Cond.methodLink RX0 81 yX0_writeBack, Cond.instanceMethod yX0_writeBack, Cond.selects RX0 yX0_writeBack yX0_writeBack, Cond.code yX0_writeBack cX0_writeBack 2 none, Cond.fieldLink RX0 27 "FramePool" "frameWords" "[I", Cond.fieldLink RX0 23 "FramePool" "diskWords" "[I", Cond.fieldLink RX0 56 "FramePool" "writes" "I", Cond.methodLink RX0 84 yX0_copyWords, Cond.instanceMethod yX0_copyWords, Cond.selects RX0 yX0_copyWords yX0_copyWords, Cond.code yX0_copyWords cX0_copyWords 5 none, Cond.fieldLink RX0 20 "FramePool" "wordCount" "I", Cond.methodLink RX0 108 arraycopyName, Cond.native arraycopyName, Cond.static arraycopyName, Cond.initialized "java/lang/System"]
def wsX0_fetch_r3 : List Cond := [Cond.methodLink RX0 46 yX0_makeEmpty, Cond.instanceMethod yX0_makeEmpty, Cond.selects RX0 yX0_makeEmpty yX0_makeEmpty, Cond.code yX0_makeEmpty cX0_makeEmpty 2 none, Cond.methodLink RX0 71 yX0_readInto, Cond.instanceMethod yX0_readInto, Cond.selects RX0 yX0_readInto yX0_readInto, Cond.code yX0_readInto cX0_readInto 3 none, Cond.fieldLink RX0 53 "FramePool" "reads" "I"]
def wsX0_fetch : List Cond := .code yX0_fetch cX0_fetch 3 (some .int) :: ((wsX0_fetch_r1 ++ (wsX0_fetch_r2 ++ wsX0_fetch_r3)) ++ wsX00)
def wsX0_isFrame : List Cond := .code yX0_isFrame cX0_isFrame 2 (some .boolean) :: ([.fieldLink RX0 13 "FramePool" "frameCount" "I"] ++ wsX00)
def wsX0_isPinnedFrame : List Cond := .code yX0_isPinnedFrame cX0_isPinnedFrame 2 (some .boolean) :: ([.fieldLink RX0 33 "FramePool" "pins" "[I", .methodLink RX0 88 yX0_isFrame, .instanceMethod yX0_isFrame, .selects RX0 yX0_isFrame yX0_isFrame, .initialized RX0, .code yX0_isFrame cX0_isFrame 2 (some .boolean), .fieldLink RX0 13 "FramePool" "frameCount" "I"] ++ wsX00)
def wsX0_unpin : List Cond := .code yX0_unpin cX0_unpin 2 (some .int) :: ([.fieldLink RX0 33 "FramePool" "pins" "[I", .methodLink RX0 75 yX0_isPinnedFrame, .instanceMethod yX0_isPinnedFrame, .selects RX0 yX0_isPinnedFrame yX0_isPinnedFrame, .initialized RX0, .code yX0_isPinnedFrame cX0_isPinnedFrame 2 (some .boolean), .methodLink RX0 88 yX0_isFrame, .instanceMethod yX0_isFrame, .selects RX0 yX0_isFrame yX0_isFrame, .code yX0_isFrame cX0_isFrame 2 (some .boolean), .fieldLink RX0 13 "FramePool" "frameCount" "I"] ++ wsX00)
def wsX0_isOffset : List Cond := .code yX0_isOffset cX0_isOffset 2 (some .boolean) :: ([.fieldLink RX0 20 "FramePool" "wordCount" "I"] ++ wsX00)
def wsX0_readWord : List Cond := .code yX0_readWord cX0_readWord 3 (some .int) :: ([.fieldLink RX0 27 "FramePool" "frameWords" "[I", .fieldLink RX0 20 "FramePool" "wordCount" "I", .methodLink RX0 75 yX0_isPinnedFrame, .instanceMethod yX0_isPinnedFrame, .selects RX0 yX0_isPinnedFrame yX0_isPinnedFrame, .initialized RX0, .code yX0_isPinnedFrame cX0_isPinnedFrame 2 (some .boolean), .fieldLink RX0 33 "FramePool" "pins" "[I", .methodLink RX0 88 yX0_isFrame, .instanceMethod yX0_isFrame, .selects RX0 yX0_isFrame yX0_isFrame, .code yX0_isFrame cX0_isFrame 2 (some .boolean), .fieldLink RX0 13 "FramePool" "frameCount" "I", .methodLink RX0 78 yX0_isOffset, .instanceMethod yX0_isOffset, .selects RX0 yX0_isOffset yX0_isOffset, .code yX0_isOffset cX0_isOffset 2 (some .boolean)] ++ wsX00)
def wsX0_writeWord : List Cond := .code yX0_writeWord cX0_writeWord 4 (some .int) :: ([.fieldLink RX0 27 "FramePool" "frameWords" "[I", .fieldLink RX0 20 "FramePool" "wordCount" "I", .fieldLink RX0 36 "FramePool" "dirty" "[Z", .methodLink RX0 75 yX0_isPinnedFrame, .instanceMethod yX0_isPinnedFrame, .selects RX0 yX0_isPinnedFrame yX0_isPinnedFrame, .initialized RX0, .code yX0_isPinnedFrame cX0_isPinnedFrame 2 (some .boolean), .fieldLink RX0 33 "FramePool" "pins" "[I", .methodLink RX0 88 yX0_isFrame, .instanceMethod yX0_isFrame, .selects RX0 yX0_isFrame yX0_isFrame, .code yX0_isFrame cX0_isFrame 2 (some .boolean), .fieldLink RX0 13 "FramePool" "frameCount" "I", .methodLink RX0 78 yX0_isOffset, .instanceMethod yX0_isOffset, .selects RX0 yX0_isOffset yX0_isOffset, .code yX0_isOffset cX0_isOffset 2 (some .boolean)] ++ wsX00)
def wsX0_flush_r1 : List Cond := [Cond.fieldLink RX0 36 "FramePool" "dirty" "[Z", Cond.methodLink RX0 63 yX0_frameOf, Cond.instanceMethod yX0_frameOf, Cond.selects RX0 yX0_frameOf yX0_frameOf, Cond.initialized RX0, Cond.code yX0_frameOf cX0_frameOf 3 (some .int), Cond.fieldLink RX0 13 "FramePool" "frameCount" "I", Cond.fieldLink RX0 30 "FramePool" "pageIn" "[I", Cond.methodLink RX0 59 yX0_isPage, Cond.instanceMethod yX0_isPage, Cond.selects RX0 yX0_isPage yX0_isPage, Cond.code yX0_isPage cX0_isPage 2 (some .boolean), Cond.fieldLink RX0 17 "FramePool" "pageCount" "I", Cond.methodLink RX0 81 yX0_writeBack, Cond.instanceMethod yX0_writeBack, Cond.selects RX0 yX0_writeBack yX0_writeBack, Cond.code yX0_writeBack cX0_writeBack 2 none, Cond.fieldLink RX0 27 "FramePool" "frameWords" "[I", Cond.fieldLink RX0 23 "FramePool" "diskWords" "[I", Cond.fieldLink RX0 56 "FramePool" "writes" "I", Cond.methodLink RX0 84 yX0_copyWords, Cond.instanceMethod yX0_copyWords, Cond.selects RX0 yX0_copyWords yX0_copyWords, Cond.code yX0_copyWords cX0_copyWords 5 none]
def wsX0_flush_r2 : List Cond := [Cond.fieldLink RX0 20 "FramePool" "wordCount" "I", Cond.methodLink RX0 108 arraycopyName, Cond.native arraycopyName, Cond.static arraycopyName, Cond.initialized "java/lang/System"]
def wsX0_flush : List Cond := .code yX0_flush cX0_flush 3 (some .int) :: ((wsX0_flush_r1 ++ wsX0_flush_r2) ++ wsX00)
def wsX0_flushAll : List Cond := .code yX0_flushAll cX0_flushAll 3 (some .int) :: ([.fieldLink RX0 13 "FramePool" "frameCount" "I", .fieldLink RX0 36 "FramePool" "dirty" "[Z", .methodLink RX0 81 yX0_writeBack, .instanceMethod yX0_writeBack, .selects RX0 yX0_writeBack yX0_writeBack, .initialized RX0, .code yX0_writeBack cX0_writeBack 2 none, .fieldLink RX0 27 "FramePool" "frameWords" "[I", .fieldLink RX0 23 "FramePool" "diskWords" "[I", .fieldLink RX0 30 "FramePool" "pageIn" "[I", .fieldLink RX0 56 "FramePool" "writes" "I", .methodLink RX0 84 yX0_copyWords, .instanceMethod yX0_copyWords, .selects RX0 yX0_copyWords yX0_copyWords, .code yX0_copyWords cX0_copyWords 5 none, .fieldLink RX0 20 "FramePool" "wordCount" "I", .methodLink RX0 108 arraycopyName, .native arraycopyName, .static arraycopyName, .initialized "java/lang/System"] ++ wsX00)
def wsX0_drop : List Cond := .code yX0_drop cX0_drop 3 (some .boolean) :: ([.fieldLink RX0 33 "FramePool" "pins" "[I", .methodLink RX0 63 yX0_frameOf, .instanceMethod yX0_frameOf, .selects RX0 yX0_frameOf yX0_frameOf, .initialized RX0, .code yX0_frameOf cX0_frameOf 3 (some .int), .fieldLink RX0 13 "FramePool" "frameCount" "I", .fieldLink RX0 30 "FramePool" "pageIn" "[I", .methodLink RX0 59 yX0_isPage, .instanceMethod yX0_isPage, .selects RX0 yX0_isPage yX0_isPage, .code yX0_isPage cX0_isPage 2 (some .boolean), .fieldLink RX0 17 "FramePool" "pageCount" "I", .methodLink RX0 46 yX0_makeEmpty, .instanceMethod yX0_makeEmpty, .selects RX0 yX0_makeEmpty yX0_makeEmpty, .code yX0_makeEmpty cX0_makeEmpty 2 none, .fieldLink RX0 36 "FramePool" "dirty" "[Z", .fieldLink RX0 40 "FramePool" "marked" "[Z"] ++ wsX00)
def wsX0_copy_r1 : List Cond := [Cond.fieldLink RX0 23 "FramePool" "diskWords" "[I", Cond.fieldLink RX0 27 "FramePool" "frameWords" "[I", Cond.fieldLink RX0 36 "FramePool" "dirty" "[Z", Cond.methodLink RX0 59 yX0_isPage, Cond.instanceMethod yX0_isPage, Cond.selects RX0 yX0_isPage yX0_isPage, Cond.initialized RX0, Cond.code yX0_isPage cX0_isPage 2 (some .boolean), Cond.fieldLink RX0 17 "FramePool" "pageCount" "I", Cond.methodLink RX0 63 yX0_frameOf, Cond.instanceMethod yX0_frameOf, Cond.selects RX0 yX0_frameOf yX0_frameOf, Cond.code yX0_frameOf cX0_frameOf 3 (some .int), Cond.fieldLink RX0 13 "FramePool" "frameCount" "I", Cond.fieldLink RX0 30 "FramePool" "pageIn" "[I", Cond.methodLink RX0 75 yX0_isPinnedFrame, Cond.instanceMethod yX0_isPinnedFrame, Cond.selects RX0 yX0_isPinnedFrame yX0_isPinnedFrame, Cond.code yX0_isPinnedFrame cX0_isPinnedFrame 2 (some .boolean), Cond.fieldLink RX0 33 "FramePool" "pins" "[I", Cond.methodLink RX0 88 yX0_isFrame, Cond.instanceMethod yX0_isFrame, Cond.selects RX0 yX0_isFrame yX0_isFrame, Cond.code yX0_isFrame cX0_isFrame 2 (some .boolean)]
def wsX0_copy_r2 : List Cond := [Cond.methodLink RX0 84 yX0_copyWords, Cond.instanceMethod yX0_copyWords, Cond.selects RX0 yX0_copyWords yX0_copyWords, Cond.code yX0_copyWords cX0_copyWords 5 none, Cond.fieldLink RX0 20 "FramePool" "wordCount" "I", Cond.methodLink RX0 108 arraycopyName, Cond.native arraycopyName, Cond.static arraycopyName, Cond.initialized "java/lang/System"]
def wsX0_copy : List Cond := .code yX0_copy cX0_copy 5 (some .int) :: ((wsX0_copy_r1 ++ wsX0_copy_r2) ++ wsX00)
def wsX0_diskWord : List Cond := .code yX0_diskWord cX0_diskWord 3 (some .int) :: ([.fieldLink RX0 23 "FramePool" "diskWords" "[I", .fieldLink RX0 20 "FramePool" "wordCount" "I", .methodLink RX0 59 yX0_isPage, .instanceMethod yX0_isPage, .selects RX0 yX0_isPage yX0_isPage, .initialized RX0, .code yX0_isPage cX0_isPage 2 (some .boolean), .fieldLink RX0 17 "FramePool" "pageCount" "I", .methodLink RX0 78 yX0_isOffset, .instanceMethod yX0_isOffset, .selects RX0 yX0_isOffset yX0_isOffset, .code yX0_isOffset cX0_isOffset 2 (some .boolean)] ++ wsX00)
def wsX0_resident : List Cond := .code yX0_resident cX0_resident 2 (some .boolean) :: ([.methodLink RX0 63 yX0_frameOf, .instanceMethod yX0_frameOf, .selects RX0 yX0_frameOf yX0_frameOf, .initialized RX0, .code yX0_frameOf cX0_frameOf 3 (some .int), .fieldLink RX0 13 "FramePool" "frameCount" "I", .fieldLink RX0 30 "FramePool" "pageIn" "[I", .methodLink RX0 59 yX0_isPage, .instanceMethod yX0_isPage, .selects RX0 yX0_isPage yX0_isPage, .code yX0_isPage cX0_isPage 2 (some .boolean), .fieldLink RX0 17 "FramePool" "pageCount" "I"] ++ wsX00)
def wsX0_diskReads : List Cond := .code yX0_diskReads cX0_diskReads 1 (some .int) :: ([.fieldLink RX0 53 "FramePool" "reads" "I"] ++ wsX00)
def wsX0_diskWrites : List Cond := .code yX0_diskWrites cX0_diskWrites 1 (some .int) :: ([.fieldLink RX0 56 "FramePool" "writes" "I"] ++ wsX00)
def wsX0_told : List Cond := .code yX0_told cX0_told 3 (some .int) :: ([.fieldLink RX0 30 "FramePool" "pageIn" "[I", .fieldLink RX0 33 "FramePool" "pins" "[I", .fieldLink RX0 36 "FramePool" "dirty" "[Z", .fieldLink RX0 40 "FramePool" "marked" "[Z", .methodLink RX0 88 yX0_isFrame, .instanceMethod yX0_isFrame, .selects RX0 yX0_isFrame yX0_isFrame, .initialized RX0, .code yX0_isFrame cX0_isFrame 2 (some .boolean), .fieldLink RX0 13 "FramePool" "frameCount" "I"] ++ wsX00)
def wsX0_hand : List Cond := .code yX0_hand cX0_hand 1 (some .int) :: ([.fieldLink RX0 50 "FramePool" "handAt" "I"] ++ wsX00)
def wsX1_empty : List Cond := .code yX1_empty cX1_empty 2 none :: ([.fieldLink RX1 16 "FramePoolModel" "page" "[I", .fieldLink RX1 19 "FramePoolModel" "pins" "[I", .fieldLink RX1 22 "FramePoolModel" "dirty" "[Z", .fieldLink RX1 26 "FramePoolModel" "mark" "[Z"] ++ wsX10)
def wsX1_init_ : List Cond := .code yX1_init_ cX1_init_ 2 none :: ([.fieldLink RX1 7 "FramePoolModel" "disk" "[I", .fieldLink RX1 46 "FramePoolModel" "at" "I", .fieldLink RX1 49 "FramePoolModel" "reads" "I", .fieldLink RX1 52 "FramePoolModel" "writes" "I", .methodLink RX1 42 yX1_empty, .instanceMethod yX1_empty, .selects RX1 yX1_empty yX1_empty, .initialized RX1, .code yX1_empty cX1_empty 2 none, .fieldLink RX1 16 "FramePoolModel" "page" "[I", .fieldLink RX1 19 "FramePoolModel" "pins" "[I", .fieldLink RX1 22 "FramePoolModel" "dirty" "[Z", .fieldLink RX1 26 "FramePoolModel" "mark" "[Z"] ++ wsX10)
def wsX1_init_r1 : List Cond := [Cond.methodLink RX1 1 objectInit, Cond.instanceMethod objectInit, Cond.code objectInit ⟨#[0xb1]⟩ 1 none, Cond.arrayClass .int, Cond.fieldLink RX1 7 "FramePoolModel" "disk" "[I", Cond.fieldLink RX1 13 "FramePoolModel" "memory" "[I", Cond.fieldLink RX1 16 "FramePoolModel" "page" "[I", Cond.fieldLink RX1 19 "FramePoolModel" "pins" "[I", Cond.arrayClass .boolean, Cond.fieldLink RX1 22 "FramePoolModel" "dirty" "[Z", Cond.fieldLink RX1 26 "FramePoolModel" "mark" "[Z", Cond.fieldLink RX1 29 "FramePoolModel" "frames" "I", Cond.fieldLink RX1 33 "FramePoolModel" "pages" "I", Cond.fieldLink RX1 36 "FramePoolModel" "words" "I", Cond.methodLink RX1 39 yX1_init_, Cond.instanceMethod yX1_init_, Cond.selects RX1 yX1_init_ yX1_init_, Cond.initialized RX1, Cond.code yX1_init_ cX1_init_ 2 none, Cond.fieldLink RX1 46 "FramePoolModel" "at" "I", Cond.fieldLink RX1 49 "FramePoolModel" "reads" "I", Cond.fieldLink RX1 52 "FramePoolModel" "writes" "I", Cond.methodLink RX1 42 yX1_empty, Cond.instanceMethod yX1_empty]
def wsX1_init_r2 : List Cond := [Cond.selects RX1 yX1_empty yX1_empty, Cond.code yX1_empty cX1_empty 2 none]
def wsX1_init : List Cond := .code yX1_init cX1_init 4 none :: ((wsX1_init_r1 ++ wsX1_init_r2) ++ wsX10)
def wsX1_isPage : List Cond := .code yX1_isPage cX1_isPage 2 (some .boolean) :: ([.fieldLink RX1 33 "FramePoolModel" "pages" "I"] ++ wsX10)
def wsX1_isPinned : List Cond := .code yX1_isPinned cX1_isPinned 2 (some .boolean) :: ([.fieldLink RX1 29 "FramePoolModel" "frames" "I", .fieldLink RX1 19 "FramePoolModel" "pins" "[I"] ++ wsX10)
def wsX1_frameOf : List Cond := .code yX1_frameOf cX1_frameOf 3 (some .int) :: ([.fieldLink RX1 29 "FramePoolModel" "frames" "I", .fieldLink RX1 16 "FramePoolModel" "page" "[I"] ++ wsX10)
def wsX1_store : List Cond := .code yX1_store cX1_store 3 none :: ([.fieldLink RX1 36 "FramePoolModel" "words" "I", .fieldLink RX1 7 "FramePoolModel" "disk" "[I", .fieldLink RX1 16 "FramePoolModel" "page" "[I", .fieldLink RX1 13 "FramePoolModel" "memory" "[I", .fieldLink RX1 22 "FramePoolModel" "dirty" "[Z", .fieldLink RX1 52 "FramePoolModel" "writes" "I"] ++ wsX10)
def wsX1_pinned : List Cond := .code yX1_pinned cX1_pinned 3 (some .int) :: ([.fieldLink RX1 29 "FramePoolModel" "frames" "I", .fieldLink RX1 19 "FramePoolModel" "pins" "[I"] ++ wsX10)
def wsX1_find : List Cond := .code yX1_find cX1_find 2 (some .int) :: ([.fieldLink RX1 29 "FramePoolModel" "frames" "I", .fieldLink RX1 46 "FramePoolModel" "at" "I", .fieldLink RX1 19 "FramePoolModel" "pins" "[I", .fieldLink RX1 16 "FramePoolModel" "page" "[I", .fieldLink RX1 26 "FramePoolModel" "mark" "[Z", .fieldLink RX1 22 "FramePoolModel" "dirty" "[Z", .methodLink RX1 55 yX1_pinned, .instanceMethod yX1_pinned, .selects RX1 yX1_pinned yX1_pinned, .initialized RX1, .code yX1_pinned cX1_pinned 3 (some .int), .methodLink RX1 59 yX1_store, .instanceMethod yX1_store, .selects RX1 yX1_store yX1_store, .code yX1_store cX1_store 3 none, .fieldLink RX1 36 "FramePoolModel" "words" "I", .fieldLink RX1 7 "FramePoolModel" "disk" "[I", .fieldLink RX1 13 "FramePoolModel" "memory" "[I", .fieldLink RX1 52 "FramePoolModel" "writes" "I", .methodLink RX1 42 yX1_empty, .instanceMethod yX1_empty, .selects RX1 yX1_empty yX1_empty, .code yX1_empty cX1_empty 2 none] ++ wsX10)
def wsX1_fetch_r1 : List Cond := [Cond.fieldLink RX1 36 "FramePoolModel" "words" "I", Cond.fieldLink RX1 13 "FramePoolModel" "memory" "[I", Cond.fieldLink RX1 7 "FramePoolModel" "disk" "[I", Cond.fieldLink RX1 16 "FramePoolModel" "page" "[I", Cond.fieldLink RX1 49 "FramePoolModel" "reads" "I", Cond.fieldLink RX1 19 "FramePoolModel" "pins" "[I", Cond.fieldLink RX1 26 "FramePoolModel" "mark" "[Z", Cond.methodLink RX1 62 yX1_isPage, Cond.instanceMethod yX1_isPage, Cond.selects RX1 yX1_isPage yX1_isPage, Cond.initialized RX1, Cond.code yX1_isPage cX1_isPage 2 (some .boolean), Cond.fieldLink RX1 33 "FramePoolModel" "pages" "I", Cond.methodLink RX1 66 yX1_frameOf, Cond.instanceMethod yX1_frameOf, Cond.selects RX1 yX1_frameOf yX1_frameOf, Cond.code yX1_frameOf cX1_frameOf 3 (some .int), Cond.fieldLink RX1 29 "FramePoolModel" "frames" "I", Cond.methodLink RX1 70 yX1_find, Cond.instanceMethod yX1_find, Cond.selects RX1 yX1_find yX1_find, Cond.code yX1_find cX1_find 2 (some .int), Cond.fieldLink RX1 46 "FramePoolModel" "at" "I", Cond.fieldLink RX1 22 "FramePoolModel" "dirty" "[Z"]
def wsX1_fetch_r2 : List Cond := [Cond.methodLink RX1 55 yX1_pinned, Cond.instanceMethod yX1_pinned, Cond.selects RX1 yX1_pinned yX1_pinned, Cond.code yX1_pinned cX1_pinned 3 (some .int), Cond.methodLink RX1 59 yX1_store, Cond.instanceMethod yX1_store, Cond.selects RX1 yX1_store yX1_store, Cond.code yX1_store cX1_store 3 none, Cond.fieldLink RX1 52 "FramePoolModel" "writes" "I", Cond.methodLink RX1 42 yX1_empty, Cond.instanceMethod yX1_empty, Cond.selects RX1 yX1_empty yX1_empty, Cond.code yX1_empty cX1_empty 2 none]
def wsX1_fetch : List Cond := .code yX1_fetch cX1_fetch 4 (some .int) :: ((wsX1_fetch_r1 ++ wsX1_fetch_r2) ++ wsX10)
def wsX1_unpin : List Cond := .code yX1_unpin cX1_unpin 2 (some .int) :: ([.fieldLink RX1 19 "FramePoolModel" "pins" "[I", .methodLink RX1 73 yX1_isPinned, .instanceMethod yX1_isPinned, .selects RX1 yX1_isPinned yX1_isPinned, .initialized RX1, .code yX1_isPinned cX1_isPinned 2 (some .boolean), .fieldLink RX1 29 "FramePoolModel" "frames" "I"] ++ wsX10)
def wsX1_readWord : List Cond := .code yX1_readWord cX1_readWord 3 (some .int) :: ([.fieldLink RX1 36 "FramePoolModel" "words" "I", .fieldLink RX1 13 "FramePoolModel" "memory" "[I", .methodLink RX1 73 yX1_isPinned, .instanceMethod yX1_isPinned, .selects RX1 yX1_isPinned yX1_isPinned, .initialized RX1, .code yX1_isPinned cX1_isPinned 2 (some .boolean), .fieldLink RX1 29 "FramePoolModel" "frames" "I", .fieldLink RX1 19 "FramePoolModel" "pins" "[I"] ++ wsX10)
def wsX1_writeWord : List Cond := .code yX1_writeWord cX1_writeWord 4 (some .int) :: ([.fieldLink RX1 36 "FramePoolModel" "words" "I", .fieldLink RX1 13 "FramePoolModel" "memory" "[I", .fieldLink RX1 22 "FramePoolModel" "dirty" "[Z", .methodLink RX1 73 yX1_isPinned, .instanceMethod yX1_isPinned, .selects RX1 yX1_isPinned yX1_isPinned, .initialized RX1, .code yX1_isPinned cX1_isPinned 2 (some .boolean), .fieldLink RX1 29 "FramePoolModel" "frames" "I", .fieldLink RX1 19 "FramePoolModel" "pins" "[I"] ++ wsX10)
def wsX1_flush : List Cond := .code yX1_flush cX1_flush 3 (some .int) :: ([.fieldLink RX1 22 "FramePoolModel" "dirty" "[Z", .methodLink RX1 66 yX1_frameOf, .instanceMethod yX1_frameOf, .selects RX1 yX1_frameOf yX1_frameOf, .initialized RX1, .code yX1_frameOf cX1_frameOf 3 (some .int), .fieldLink RX1 29 "FramePoolModel" "frames" "I", .fieldLink RX1 16 "FramePoolModel" "page" "[I", .methodLink RX1 59 yX1_store, .instanceMethod yX1_store, .selects RX1 yX1_store yX1_store, .code yX1_store cX1_store 3 none, .fieldLink RX1 36 "FramePoolModel" "words" "I", .fieldLink RX1 7 "FramePoolModel" "disk" "[I", .fieldLink RX1 13 "FramePoolModel" "memory" "[I", .fieldLink RX1 52 "FramePoolModel" "writes" "I"] ++ wsX10)
def wsX1_flushAll : List Cond := .code yX1_flushAll cX1_flushAll 3 (some .int) :: ([.fieldLink RX1 29 "FramePoolModel" "frames" "I", .fieldLink RX1 16 "FramePoolModel" "page" "[I", .methodLink RX1 76 yX1_flush, .instanceMethod yX1_flush, .selects RX1 yX1_flush yX1_flush, .initialized RX1, .code yX1_flush cX1_flush 3 (some .int), .fieldLink RX1 22 "FramePoolModel" "dirty" "[Z", .methodLink RX1 66 yX1_frameOf, .instanceMethod yX1_frameOf, .selects RX1 yX1_frameOf yX1_frameOf, .code yX1_frameOf cX1_frameOf 3 (some .int), .methodLink RX1 59 yX1_store, .instanceMethod yX1_store, .selects RX1 yX1_store yX1_store, .code yX1_store cX1_store 3 none, .fieldLink RX1 36 "FramePoolModel" "words" "I", .fieldLink RX1 7 "FramePoolModel" "disk" "[I", .fieldLink RX1 13 "FramePoolModel" "memory" "[I", .fieldLink RX1 52 "FramePoolModel" "writes" "I"] ++ wsX10)
def wsX1_drop : List Cond := .code yX1_drop cX1_drop 3 (some .boolean) :: ([.fieldLink RX1 19 "FramePoolModel" "pins" "[I", .methodLink RX1 66 yX1_frameOf, .instanceMethod yX1_frameOf, .selects RX1 yX1_frameOf yX1_frameOf, .initialized RX1, .code yX1_frameOf cX1_frameOf 3 (some .int), .fieldLink RX1 29 "FramePoolModel" "frames" "I", .fieldLink RX1 16 "FramePoolModel" "page" "[I", .methodLink RX1 42 yX1_empty, .instanceMethod yX1_empty, .selects RX1 yX1_empty yX1_empty, .code yX1_empty cX1_empty 2 none, .fieldLink RX1 22 "FramePoolModel" "dirty" "[Z", .fieldLink RX1 26 "FramePoolModel" "mark" "[Z"] ++ wsX10)
def wsX1_copy : List Cond := .code yX1_copy cX1_copy 6 (some .int) :: ([.fieldLink RX1 19 "FramePoolModel" "pins" "[I", .fieldLink RX1 36 "FramePoolModel" "words" "I", .fieldLink RX1 13 "FramePoolModel" "memory" "[I", .fieldLink RX1 7 "FramePoolModel" "disk" "[I", .fieldLink RX1 22 "FramePoolModel" "dirty" "[Z", .methodLink RX1 62 yX1_isPage, .instanceMethod yX1_isPage, .selects RX1 yX1_isPage yX1_isPage, .initialized RX1, .code yX1_isPage cX1_isPage 2 (some .boolean), .fieldLink RX1 33 "FramePoolModel" "pages" "I", .methodLink RX1 66 yX1_frameOf, .instanceMethod yX1_frameOf, .selects RX1 yX1_frameOf yX1_frameOf, .code yX1_frameOf cX1_frameOf 3 (some .int), .fieldLink RX1 29 "FramePoolModel" "frames" "I", .fieldLink RX1 16 "FramePoolModel" "page" "[I"] ++ wsX10)
def wsX1_diskWord : List Cond := .code yX1_diskWord cX1_diskWord 3 (some .int) :: ([.fieldLink RX1 36 "FramePoolModel" "words" "I", .fieldLink RX1 7 "FramePoolModel" "disk" "[I", .methodLink RX1 62 yX1_isPage, .instanceMethod yX1_isPage, .selects RX1 yX1_isPage yX1_isPage, .initialized RX1, .code yX1_isPage cX1_isPage 2 (some .boolean), .fieldLink RX1 33 "FramePoolModel" "pages" "I"] ++ wsX10)
def wsX1_resident : List Cond := .code yX1_resident cX1_resident 2 (some .boolean) :: ([.methodLink RX1 66 yX1_frameOf, .instanceMethod yX1_frameOf, .selects RX1 yX1_frameOf yX1_frameOf, .initialized RX1, .code yX1_frameOf cX1_frameOf 3 (some .int), .fieldLink RX1 29 "FramePoolModel" "frames" "I", .fieldLink RX1 16 "FramePoolModel" "page" "[I"] ++ wsX10)
def wsX1_diskReads : List Cond := .code yX1_diskReads cX1_diskReads 1 (some .int) :: ([.fieldLink RX1 49 "FramePoolModel" "reads" "I"] ++ wsX10)
def wsX1_diskWrites : List Cond := .code yX1_diskWrites cX1_diskWrites 1 (some .int) :: ([.fieldLink RX1 52 "FramePoolModel" "writes" "I"] ++ wsX10)
def wsX1_told : List Cond := .code yX1_told cX1_told 3 (some .int) :: ([.fieldLink RX1 29 "FramePoolModel" "frames" "I", .fieldLink RX1 16 "FramePoolModel" "page" "[I", .fieldLink RX1 19 "FramePoolModel" "pins" "[I", .fieldLink RX1 22 "FramePoolModel" "dirty" "[Z", .fieldLink RX1 26 "FramePoolModel" "mark" "[Z"] ++ wsX10)
def wsX1_hand : List Cond := .code yX1_hand cX1_hand 1 (some .int) :: ([.fieldLink RX1 46 "FramePoolModel" "at" "I"] ++ wsX10)
def wsJ9_max_7cf53 : List Cond := .code yJ9_max_7cf53 cJ9_max_7cf53 2 (some .int) :: ([])
def wsJ9_min_7cf53 : List Cond := .code yJ9_min_7cf53 cJ9_min_7cf53 2 (some .int) :: ([])
def wsL_cell : List Cond := .code yL_cell cL_cell 2 (some .int) :: ([])
def wsL_law_r1 : List Cond := [Cond.classLink RL 7 RX0, Cond.instantiable RX0 12, Cond.initialized RX0, Cond.classLink RL 18 RX1, Cond.instantiable RX1 12, Cond.initialized RX1, Cond.methodLink RL 9 yL_cell, Cond.static yL_cell, Cond.initialized RL, Cond.code yL_cell cL_cell 2 (some .int), Cond.methodLink RL 15 yX0_init, Cond.instanceMethod yX0_init, Cond.code yX0_init cX0_init 4 none, Cond.methodLink RX0 1 objectInit, Cond.instanceMethod objectInit, Cond.code objectInit ⟨#[0xb1]⟩ 1 none, Cond.fieldLink RX0 13 "FramePool" "frameCount" "I", Cond.fieldLink RX0 17 "FramePool" "pageCount" "I", Cond.fieldLink RX0 20 "FramePool" "wordCount" "I", Cond.arrayClass .int, Cond.fieldLink RX0 23 "FramePool" "diskWords" "[I", Cond.fieldLink RX0 27 "FramePool" "frameWords" "[I", Cond.fieldLink RX0 30 "FramePool" "pageIn" "[I", Cond.fieldLink RX0 33 "FramePool" "pins" "[I"]
def wsL_law_r2 : List Cond := [Cond.arrayClass .boolean, Cond.fieldLink RX0 36 "FramePool" "dirty" "[Z", Cond.fieldLink RX0 40 "FramePool" "marked" "[Z", Cond.methodLink RX0 9 yX0_within, Cond.static yX0_within, Cond.code yX0_within cX0_within 2 (some .int), Cond.methodLink RX0 91 Lib.Math.min.name, Cond.static Lib.Math.min.name, Cond.initialized "java/lang/Math", Cond.code Lib.Math.min.name Lib.Math.min.code 2 (some .int), Cond.methodLink RX0 96 Lib.Math.max.name, Cond.static Lib.Math.max.name, Cond.code Lib.Math.max.name Lib.Math.max.code 2 (some .int), Cond.methodLink RX0 43 yX0_init_, Cond.instanceMethod yX0_init_, Cond.selects RX0 yX0_init_ yX0_init_, Cond.code yX0_init_ cX0_init_ 2 none, Cond.fieldLink RX0 50 "FramePool" "handAt" "I", Cond.fieldLink RX0 53 "FramePool" "reads" "I", Cond.fieldLink RX0 56 "FramePool" "writes" "I", Cond.methodLink RX0 46 yX0_makeEmpty, Cond.instanceMethod yX0_makeEmpty, Cond.selects RX0 yX0_makeEmpty yX0_makeEmpty, Cond.code yX0_makeEmpty cX0_makeEmpty 2 none]
def wsL_law_r3 : List Cond := [Cond.methodLink RL 20 yX1_init, Cond.instanceMethod yX1_init, Cond.code yX1_init cX1_init 4 none, Cond.methodLink RX1 1 objectInit, Cond.fieldLink RX1 7 "FramePoolModel" "disk" "[I", Cond.fieldLink RX1 13 "FramePoolModel" "memory" "[I", Cond.fieldLink RX1 16 "FramePoolModel" "page" "[I", Cond.fieldLink RX1 19 "FramePoolModel" "pins" "[I", Cond.fieldLink RX1 22 "FramePoolModel" "dirty" "[Z", Cond.fieldLink RX1 26 "FramePoolModel" "mark" "[Z", Cond.fieldLink RX1 29 "FramePoolModel" "frames" "I", Cond.fieldLink RX1 33 "FramePoolModel" "pages" "I", Cond.fieldLink RX1 36 "FramePoolModel" "words" "I", Cond.methodLink RX1 39 yX1_init_, Cond.instanceMethod yX1_init_, Cond.selects RX1 yX1_init_ yX1_init_, Cond.code yX1_init_ cX1_init_ 2 none, Cond.fieldLink RX1 46 "FramePoolModel" "at" "I", Cond.fieldLink RX1 49 "FramePoolModel" "reads" "I", Cond.fieldLink RX1 52 "FramePoolModel" "writes" "I", Cond.methodLink RX1 42 yX1_empty, Cond.instanceMethod yX1_empty, Cond.selects RX1 yX1_empty yX1_empty, Cond.code yX1_empty cX1_empty 2 none]
def wsL_law_r4 : List Cond := [Cond.methodLink RL 21 yX0_init_, Cond.methodLink RL 24 yX1_init_, Cond.methodLink RL 25 yX0_fetch, Cond.instanceMethod yX0_fetch, Cond.selects RX0 yX0_fetch yX0_fetch, Cond.code yX0_fetch cX0_fetch 3 (some .int), Cond.methodLink RX0 59 yX0_isPage, Cond.instanceMethod yX0_isPage, Cond.selects RX0 yX0_isPage yX0_isPage, Cond.code yX0_isPage cX0_isPage 2 (some .boolean), Cond.methodLink RX0 63 yX0_frameOf, Cond.instanceMethod yX0_frameOf, Cond.selects RX0 yX0_frameOf yX0_frameOf, Cond.code yX0_frameOf cX0_frameOf 3 (some .int), Cond.methodLink RX0 67 yX0_findFrame, Cond.instanceMethod yX0_findFrame, Cond.selects RX0 yX0_findFrame yX0_findFrame, Cond.code yX0_findFrame cX0_findFrame 3 (some .int), Cond.methodLink RX0 99 yX0_pinned, Cond.instanceMethod yX0_pinned, Cond.selects RX0 yX0_pinned yX0_pinned, Cond.code yX0_pinned cX0_pinned 3 (some .int), Cond.methodLink RX0 102 yX0_moveHand, Cond.instanceMethod yX0_moveHand]
def wsL_law_r5 : List Cond := [Cond.selects RX0 yX0_moveHand yX0_moveHand, Cond.code yX0_moveHand cX0_moveHand 1 none, Cond.methodLink RX0 105 yX0_givesWay, Cond.instanceMethod yX0_givesWay, Cond.selects RX0 yX0_givesWay yX0_givesWay, Cond.code yX0_givesWay cX0_givesWay 2 (some .boolean), Cond.methodLink RX0 81 yX0_writeBack, Cond.instanceMethod yX0_writeBack, Cond.selects RX0 yX0_writeBack yX0_writeBack, Cond.code yX0_writeBack cX0_writeBack 2 none, Cond.methodLink RX0 84 yX0_copyWords, Cond.instanceMethod yX0_copyWords, Cond.selects RX0 yX0_copyWords yX0_copyWords, Cond.code yX0_copyWords cX0_copyWords 5 none, Cond.methodLink RX0 108 arraycopyName, Cond.native arraycopyName, Cond.static arraycopyName, Cond.initialized "java/lang/System", Cond.methodLink RX0 71 yX0_readInto, Cond.instanceMethod yX0_readInto, Cond.selects RX0 yX0_readInto yX0_readInto, Cond.code yX0_readInto cX0_readInto 3 none, Cond.methodLink RL 29 yX1_fetch, Cond.instanceMethod yX1_fetch]
def wsL_law_r6 : List Cond := [Cond.selects RX1 yX1_fetch yX1_fetch, Cond.code yX1_fetch cX1_fetch 4 (some .int), Cond.methodLink RX1 62 yX1_isPage, Cond.instanceMethod yX1_isPage, Cond.selects RX1 yX1_isPage yX1_isPage, Cond.code yX1_isPage cX1_isPage 2 (some .boolean), Cond.methodLink RX1 66 yX1_frameOf, Cond.instanceMethod yX1_frameOf, Cond.selects RX1 yX1_frameOf yX1_frameOf, Cond.code yX1_frameOf cX1_frameOf 3 (some .int), Cond.methodLink RX1 70 yX1_find, Cond.instanceMethod yX1_find, Cond.selects RX1 yX1_find yX1_find, Cond.code yX1_find cX1_find 2 (some .int), Cond.methodLink RX1 55 yX1_pinned, Cond.instanceMethod yX1_pinned, Cond.selects RX1 yX1_pinned yX1_pinned, Cond.code yX1_pinned cX1_pinned 3 (some .int), Cond.methodLink RX1 59 yX1_store, Cond.instanceMethod yX1_store, Cond.selects RX1 yX1_store yX1_store, Cond.code yX1_store cX1_store 3 none, Cond.methodLink RL 30 yX0_unpin, Cond.instanceMethod yX0_unpin]
def wsL_law_r7 : List Cond := [Cond.selects RX0 yX0_unpin yX0_unpin, Cond.code yX0_unpin cX0_unpin 2 (some .int), Cond.methodLink RX0 75 yX0_isPinnedFrame, Cond.instanceMethod yX0_isPinnedFrame, Cond.selects RX0 yX0_isPinnedFrame yX0_isPinnedFrame, Cond.code yX0_isPinnedFrame cX0_isPinnedFrame 2 (some .boolean), Cond.methodLink RX0 88 yX0_isFrame, Cond.instanceMethod yX0_isFrame, Cond.selects RX0 yX0_isFrame yX0_isFrame, Cond.code yX0_isFrame cX0_isFrame 2 (some .boolean), Cond.methodLink RL 33 yX1_unpin, Cond.instanceMethod yX1_unpin, Cond.selects RX1 yX1_unpin yX1_unpin, Cond.code yX1_unpin cX1_unpin 2 (some .int), Cond.methodLink RX1 73 yX1_isPinned, Cond.instanceMethod yX1_isPinned, Cond.selects RX1 yX1_isPinned yX1_isPinned, Cond.code yX1_isPinned cX1_isPinned 2 (some .boolean), Cond.methodLink RL 34 yX0_readWord, Cond.instanceMethod yX0_readWord, Cond.selects RX0 yX0_readWord yX0_readWord, Cond.code yX0_readWord cX0_readWord 3 (some .int), Cond.methodLink RX0 78 yX0_isOffset, Cond.instanceMethod yX0_isOffset]
def wsL_law_r8 : List Cond := [Cond.selects RX0 yX0_isOffset yX0_isOffset, Cond.code yX0_isOffset cX0_isOffset 2 (some .boolean), Cond.methodLink RL 38 yX1_readWord, Cond.instanceMethod yX1_readWord, Cond.selects RX1 yX1_readWord yX1_readWord, Cond.code yX1_readWord cX1_readWord 3 (some .int), Cond.methodLink RL 39 yX0_writeWord, Cond.instanceMethod yX0_writeWord, Cond.selects RX0 yX0_writeWord yX0_writeWord, Cond.code yX0_writeWord cX0_writeWord 4 (some .int), Cond.methodLink RL 43 yX1_writeWord, Cond.instanceMethod yX1_writeWord, Cond.selects RX1 yX1_writeWord yX1_writeWord, Cond.code yX1_writeWord cX1_writeWord 4 (some .int), Cond.methodLink RL 44 yX0_flush, Cond.instanceMethod yX0_flush, Cond.selects RX0 yX0_flush yX0_flush, Cond.code yX0_flush cX0_flush 3 (some .int), Cond.methodLink RL 47 yX1_flush, Cond.instanceMethod yX1_flush, Cond.selects RX1 yX1_flush yX1_flush, Cond.code yX1_flush cX1_flush 3 (some .int), Cond.methodLink RL 48 yX0_flushAll, Cond.instanceMethod yX0_flushAll]
def wsL_law_r9 : List Cond := [Cond.selects RX0 yX0_flushAll yX0_flushAll, Cond.code yX0_flushAll cX0_flushAll 3 (some .int), Cond.methodLink RL 52 yX1_flushAll, Cond.instanceMethod yX1_flushAll, Cond.selects RX1 yX1_flushAll yX1_flushAll, Cond.code yX1_flushAll cX1_flushAll 3 (some .int), Cond.methodLink RX1 76 yX1_flush, Cond.methodLink RL 53 yX0_drop, Cond.instanceMethod yX0_drop, Cond.selects RX0 yX0_drop yX0_drop, Cond.code yX0_drop cX0_drop 3 (some .boolean), Cond.methodLink RL 57 yX1_drop, Cond.instanceMethod yX1_drop, Cond.selects RX1 yX1_drop yX1_drop, Cond.code yX1_drop cX1_drop 3 (some .boolean), Cond.methodLink RL 58 yX0_copy, Cond.instanceMethod yX0_copy, Cond.selects RX0 yX0_copy yX0_copy, Cond.code yX0_copy cX0_copy 5 (some .int), Cond.methodLink RL 61 yX1_copy, Cond.instanceMethod yX1_copy, Cond.selects RX1 yX1_copy yX1_copy, Cond.code yX1_copy cX1_copy 6 (some .int), Cond.methodLink RL 62 yX0_diskWord]
def wsL_law_r10 : List Cond := [Cond.instanceMethod yX0_diskWord, Cond.selects RX0 yX0_diskWord yX0_diskWord, Cond.code yX0_diskWord cX0_diskWord 3 (some .int), Cond.methodLink RL 65 yX1_diskWord, Cond.instanceMethod yX1_diskWord, Cond.selects RX1 yX1_diskWord yX1_diskWord, Cond.code yX1_diskWord cX1_diskWord 3 (some .int), Cond.methodLink RL 66 yX0_resident, Cond.instanceMethod yX0_resident, Cond.selects RX0 yX0_resident yX0_resident, Cond.code yX0_resident cX0_resident 2 (some .boolean), Cond.methodLink RL 69 yX1_resident, Cond.instanceMethod yX1_resident, Cond.selects RX1 yX1_resident yX1_resident, Cond.code yX1_resident cX1_resident 2 (some .boolean), Cond.methodLink RL 70 yX0_diskReads, Cond.instanceMethod yX0_diskReads, Cond.selects RX0 yX0_diskReads yX0_diskReads, Cond.code yX0_diskReads cX0_diskReads 1 (some .int), Cond.methodLink RL 73 yX1_diskReads, Cond.instanceMethod yX1_diskReads, Cond.selects RX1 yX1_diskReads yX1_diskReads, Cond.code yX1_diskReads cX1_diskReads 1 (some .int), Cond.methodLink RL 74 yX0_diskWrites]
def wsL_law_r11 : List Cond := [Cond.instanceMethod yX0_diskWrites, Cond.selects RX0 yX0_diskWrites yX0_diskWrites, Cond.code yX0_diskWrites cX0_diskWrites 1 (some .int), Cond.methodLink RL 77 yX1_diskWrites, Cond.instanceMethod yX1_diskWrites, Cond.selects RX1 yX1_diskWrites yX1_diskWrites, Cond.code yX1_diskWrites cX1_diskWrites 1 (some .int), Cond.methodLink RL 78 yX0_told, Cond.instanceMethod yX0_told, Cond.selects RX0 yX0_told yX0_told, Cond.code yX0_told cX0_told 3 (some .int), Cond.methodLink RL 81 yX1_told, Cond.instanceMethod yX1_told, Cond.selects RX1 yX1_told yX1_told, Cond.code yX1_told cX1_told 3 (some .int), Cond.methodLink RL 82 yX0_hand, Cond.instanceMethod yX0_hand, Cond.selects RX0 yX0_hand yX0_hand, Cond.code yX0_hand cX0_hand 1 (some .int), Cond.methodLink RL 85 yX1_hand, Cond.instanceMethod yX1_hand, Cond.selects RX1 yX1_hand yX1_hand, Cond.code yX1_hand cX1_hand 1 (some .int), Cond.methodLink RL 86 yX0_pinned]
def wsL_law_r12 : List Cond := [Cond.methodLink RL 89 yX1_pinned]
def wsL_law : List Cond := (wsL_law_r1 ++ (wsL_law_r2 ++ (wsL_law_r3 ++ (wsL_law_r4 ++ (wsL_law_r5 ++ (wsL_law_r6 ++ (wsL_law_r7 ++ (wsL_law_r8 ++ (wsL_law_r9 ++ (wsL_law_r10 ++ (wsL_law_r11 ++ wsL_law_r12))))))))))) ++ wsX00 ++ wsX10 ++ ([] : List Cond)
set_option maxRecDepth 20000 in
theorem wsL_law_in : ∀ w ∈ wsL_law, w ∈ lw_tbl := fun w h => (goodIn_p wsL_law [198, 27, 30, 33, 36, 39, 43, 47, 203, 208, 212, 91, 95, 99, 103, 107, 111, 115, 119, 123, 130, 254, 258, 262, 266, 270, 274, 134, 138, 142, 278, 282, 146, 150, 286, 154, 290, 158, 294, 162, 298, 166, 303, 170, 307, 174, 311, 178, 315, 182, 319, 186, 323, 190, 327, 194, 331] (by decide +kernel) (by decide +kernel) w h).1
theorem inlX0 : ∀ w ∈ wsX00, w ∈ wsL_law := fun _ h => List.mem_append_left _ (List.mem_append_left _ (List.mem_append_right _ h))
theorem inX0 : ∀ w ∈ wsX00, w ∈ lw_tbl := fun w h => wsL_law_in w (inlX0 w h)
theorem inlX1 : ∀ w ∈ wsX10, w ∈ wsL_law := fun _ h => List.mem_append_left _ (List.mem_append_right _ h)
theorem inX1 : ∀ w ∈ wsX10, w ∈ lw_tbl := fun w h => wsL_law_in w (inlX1 w h)
theorem inJ9 : ∀ w ∈ wsJ90, w ∈ lw_tbl := by decide +kernel
theorem inJ10 : ∀ w ∈ wsJ100, w ∈ lw_tbl := by decide +kernel
abbrev vwCl : List vw_C := [(RX0, TX0, 12), (RX1, TX1, 12)]
end
section
set_option maxRecDepth 20000 in
theorem ggX0_init_X0_within : GoodIn wsX0_init wsX0_within := goodIn_r _ [18, 19, 20, 21, 22, 23, 24, 25] (by decide +kernel) (by decide +kernel)
set_option maxRecDepth 20000 in
theorem gX0_init_X0_within : GoodIn wsX0_init (va_wsS RX0 9 yX0_within wsX0_within) := goodIn_app (goodIn_of _ (by decide +kernel)) ggX0_init_X0_within
set_option maxRecDepth 20000 in
theorem ggX0_init_X0_init_ : GoodIn wsX0_init wsX0_init_ := goodIn_r _ [29, 4, 8, 30, 31, 32, 33, 34, 35, 17, 36, 10, 11, 13, 14, 37, 38, 39, 40, 41, 42, 43, 44, 45, 46, 47, 48] (by decide +kernel) (by decide +kernel)
set_option maxRecDepth 20000 in
theorem gX0_init_X0_init_ : GoodIn wsX0_init (wsV RX0 43 RX0 yX0_init_ wsX0_init_) := goodIn_app (goodIn_of _ (by decide +kernel)) ggX0_init_X0_init_
theorem dX0_init_0 : decode cX0_init 0 = .ok (.aload_n 0, 1) := by decide +kernel
theorem dX0_init_1 : decode cX0_init 1 = .ok (.invokespecial 1, 3) := by decide +kernel
theorem dX0_init_4 : decode cX0_init 4 = .ok (.aload_n 0, 1) := by decide +kernel
theorem dX0_init_5 : decode cX0_init 5 = .ok (.iload_n 1, 1) := by decide +kernel
theorem dX0_init_6 : decode cX0_init 6 = .ok (.bipush 32, 2) := by decide +kernel
theorem dX0_init_8 : decode cX0_init 8 = .ok (.invokestatic 9, 3) := by decide +kernel
theorem dX0_init_11 : decode cX0_init 11 = .ok (.putfield 13, 3) := by decide +kernel
theorem dX0_init_14 : decode cX0_init 14 = .ok (.aload_n 0, 1) := by decide +kernel
theorem dX0_init_15 : decode cX0_init 15 = .ok (.iload_n 2, 1) := by decide +kernel
theorem dX0_init_16 : decode cX0_init 16 = .ok (.sipush 200, 3) := by decide +kernel
theorem dX0_init_19 : decode cX0_init 19 = .ok (.invokestatic 9, 3) := by decide +kernel
theorem dX0_init_22 : decode cX0_init 22 = .ok (.putfield 17, 3) := by decide +kernel
theorem dX0_init_25 : decode cX0_init 25 = .ok (.aload_n 0, 1) := by decide +kernel
theorem dX0_init_26 : decode cX0_init 26 = .ok (.iload_n 3, 1) := by decide +kernel
theorem dX0_init_27 : decode cX0_init 27 = .ok (.bipush 8, 2) := by decide +kernel
theorem dX0_init_29 : decode cX0_init 29 = .ok (.invokestatic 9, 3) := by decide +kernel
theorem dX0_init_32 : decode cX0_init 32 = .ok (.putfield 20, 3) := by decide +kernel
theorem dX0_init_35 : decode cX0_init 35 = .ok (.aload_n 0, 1) := by decide +kernel
theorem dX0_init_36 : decode cX0_init 36 = .ok (.aload_n 0, 1) := by decide +kernel
theorem dX0_init_37 : decode cX0_init 37 = .ok (.getfield 17, 3) := by decide +kernel
theorem dX0_init_40 : decode cX0_init 40 = .ok (.aload_n 0, 1) := by decide +kernel
theorem dX0_init_41 : decode cX0_init 41 = .ok (.getfield 20, 3) := by decide +kernel
theorem dX0_init_44 : decode cX0_init 44 = .ok (.imul, 1) := by decide +kernel
theorem dX0_init_45 : decode cX0_init 45 = .ok (.newarray .int, 2) := by decide +kernel
theorem dX0_init_47 : decode cX0_init 47 = .ok (.putfield 23, 3) := by decide +kernel
theorem dX0_init_50 : decode cX0_init 50 = .ok (.aload_n 0, 1) := by decide +kernel
theorem dX0_init_51 : decode cX0_init 51 = .ok (.aload_n 0, 1) := by decide +kernel
theorem dX0_init_52 : decode cX0_init 52 = .ok (.getfield 13, 3) := by decide +kernel
theorem dX0_init_55 : decode cX0_init 55 = .ok (.aload_n 0, 1) := by decide +kernel
theorem dX0_init_56 : decode cX0_init 56 = .ok (.getfield 20, 3) := by decide +kernel
theorem dX0_init_59 : decode cX0_init 59 = .ok (.imul, 1) := by decide +kernel
theorem dX0_init_60 : decode cX0_init 60 = .ok (.newarray .int, 2) := by decide +kernel
theorem dX0_init_62 : decode cX0_init 62 = .ok (.putfield 27, 3) := by decide +kernel
theorem dX0_init_65 : decode cX0_init 65 = .ok (.aload_n 0, 1) := by decide +kernel
theorem dX0_init_66 : decode cX0_init 66 = .ok (.aload_n 0, 1) := by decide +kernel
theorem dX0_init_67 : decode cX0_init 67 = .ok (.getfield 13, 3) := by decide +kernel
theorem dX0_init_70 : decode cX0_init 70 = .ok (.newarray .int, 2) := by decide +kernel
theorem dX0_init_72 : decode cX0_init 72 = .ok (.putfield 30, 3) := by decide +kernel
theorem dX0_init_75 : decode cX0_init 75 = .ok (.aload_n 0, 1) := by decide +kernel
theorem dX0_init_76 : decode cX0_init 76 = .ok (.aload_n 0, 1) := by decide +kernel
theorem dX0_init_77 : decode cX0_init 77 = .ok (.getfield 13, 3) := by decide +kernel
theorem dX0_init_80 : decode cX0_init 80 = .ok (.newarray .int, 2) := by decide +kernel
theorem dX0_init_82 : decode cX0_init 82 = .ok (.putfield 33, 3) := by decide +kernel
theorem dX0_init_85 : decode cX0_init 85 = .ok (.aload_n 0, 1) := by decide +kernel
theorem dX0_init_86 : decode cX0_init 86 = .ok (.aload_n 0, 1) := by decide +kernel
theorem dX0_init_87 : decode cX0_init 87 = .ok (.getfield 13, 3) := by decide +kernel
theorem dX0_init_90 : decode cX0_init 90 = .ok (.newarray .boolean, 2) := by decide +kernel
theorem dX0_init_92 : decode cX0_init 92 = .ok (.putfield 36, 3) := by decide +kernel
theorem dX0_init_95 : decode cX0_init 95 = .ok (.aload_n 0, 1) := by decide +kernel
theorem dX0_init_96 : decode cX0_init 96 = .ok (.aload_n 0, 1) := by decide +kernel
theorem dX0_init_97 : decode cX0_init 97 = .ok (.getfield 13, 3) := by decide +kernel
theorem dX0_init_100 : decode cX0_init 100 = .ok (.newarray .boolean, 2) := by decide +kernel
theorem dX0_init_102 : decode cX0_init 102 = .ok (.putfield 40, 3) := by decide +kernel
theorem dX0_init_105 : decode cX0_init 105 = .ok (.aload_n 0, 1) := by decide +kernel
theorem dX0_init_106 : decode cX0_init 106 = .ok (.invokevirtual 43, 3) := by decide +kernel
theorem dX0_init_109 : decode cX0_init 109 = .ok (.return_, 1) := by decide +kernel
set_option maxRecDepth 20000 in
theorem ggX0_init__X0_makeEmpty : GoodIn wsX0_init_ wsX0_makeEmpty := goodIn_r _ [10, 11, 12, 13, 14, 15, 16, 17, 18, 19, 20, 21, 22, 23, 24, 25, 26] (by decide +kernel) (by decide +kernel)
set_option maxRecDepth 20000 in
theorem gX0_init__X0_makeEmpty : GoodIn wsX0_init_ (wsV RX0 46 RX0 yX0_makeEmpty wsX0_makeEmpty) := goodIn_app (goodIn_of _ (by decide +kernel)) ggX0_init__X0_makeEmpty
theorem dX0_init__0 : decode cX0_init_ 0 = .ok (.iconst 0, 1) := by decide +kernel
theorem dX0_init__1 : decode cX0_init_ 1 = .ok (.istore_n 1, 1) := by decide +kernel
theorem dX0_init__2 : decode cX0_init_ 2 = .ok (.iload_n 1, 1) := by decide +kernel
theorem dX0_init__3 : decode cX0_init_ 3 = .ok (.aload_n 0, 1) := by decide +kernel
theorem dX0_init__4 : decode cX0_init_ 4 = .ok (.getfield 13, 3) := by decide +kernel
theorem dX0_init__7 : decode cX0_init_ 7 = .ok (.if_icmp .ge 14, 3) := by decide +kernel
theorem dX0_init__10 : decode cX0_init_ 10 = .ok (.aload_n 0, 1) := by decide +kernel
theorem dX0_init__11 : decode cX0_init_ 11 = .ok (.iload_n 1, 1) := by decide +kernel
theorem dX0_init__12 : decode cX0_init_ 12 = .ok (.invokevirtual 46, 3) := by decide +kernel
theorem dX0_init__15 : decode cX0_init_ 15 = .ok (.iinc 1 1, 3) := by decide +kernel
theorem dX0_init__18 : decode cX0_init_ 18 = .ok (.goto (-16), 3) := by decide +kernel
theorem dX0_init__21 : decode cX0_init_ 21 = .ok (.iconst 0, 1) := by decide +kernel
theorem dX0_init__22 : decode cX0_init_ 22 = .ok (.istore_n 1, 1) := by decide +kernel
theorem dX0_init__23 : decode cX0_init_ 23 = .ok (.iload_n 1, 1) := by decide +kernel
theorem dX0_init__24 : decode cX0_init_ 24 = .ok (.aload_n 0, 1) := by decide +kernel
theorem dX0_init__25 : decode cX0_init_ 25 = .ok (.getfield 23, 3) := by decide +kernel
theorem dX0_init__28 : decode cX0_init_ 28 = .ok (.arraylength, 1) := by decide +kernel
theorem dX0_init__29 : decode cX0_init_ 29 = .ok (.if_icmp .ge 16, 3) := by decide +kernel
theorem dX0_init__32 : decode cX0_init_ 32 = .ok (.aload_n 0, 1) := by decide +kernel
theorem dX0_init__33 : decode cX0_init_ 33 = .ok (.getfield 23, 3) := by decide +kernel
theorem dX0_init__36 : decode cX0_init_ 36 = .ok (.iload_n 1, 1) := by decide +kernel
theorem dX0_init__37 : decode cX0_init_ 37 = .ok (.iconst 0, 1) := by decide +kernel
theorem dX0_init__38 : decode cX0_init_ 38 = .ok (.iastore, 1) := by decide +kernel
theorem dX0_init__39 : decode cX0_init_ 39 = .ok (.iinc 1 1, 3) := by decide +kernel
theorem dX0_init__42 : decode cX0_init_ 42 = .ok (.goto (-19), 3) := by decide +kernel
theorem dX0_init__45 : decode cX0_init_ 45 = .ok (.aload_n 0, 1) := by decide +kernel
theorem dX0_init__46 : decode cX0_init_ 46 = .ok (.iconst 0, 1) := by decide +kernel
theorem dX0_init__47 : decode cX0_init_ 47 = .ok (.putfield 50, 3) := by decide +kernel
theorem dX0_init__50 : decode cX0_init_ 50 = .ok (.aload_n 0, 1) := by decide +kernel
theorem dX0_init__51 : decode cX0_init_ 51 = .ok (.iconst 0, 1) := by decide +kernel
theorem dX0_init__52 : decode cX0_init_ 52 = .ok (.putfield 53, 3) := by decide +kernel
theorem dX0_init__55 : decode cX0_init_ 55 = .ok (.aload_n 0, 1) := by decide +kernel
theorem dX0_init__56 : decode cX0_init_ 56 = .ok (.iconst 0, 1) := by decide +kernel
theorem dX0_init__57 : decode cX0_init_ 57 = .ok (.putfield 56, 3) := by decide +kernel
theorem dX0_init__60 : decode cX0_init_ 60 = .ok (.return_, 1) := by decide +kernel
set_option maxRecDepth 20000 in
theorem ggX0_fetch_X0_isPage : GoodIn wsX0_fetch wsX0_isPage := goodIn_r _ [7, 8, 58, 59, 60, 61, 62, 63, 64, 65, 66, 67, 68, 69] (by decide +kernel) (by decide +kernel)
set_option maxRecDepth 20000 in
theorem gX0_fetch_X0_isPage : GoodIn wsX0_fetch (wsV RX0 59 RX0 yX0_isPage wsX0_isPage) := goodIn_app (goodIn_of _ (by decide +kernel)) ggX0_fetch_X0_isPage
set_option maxRecDepth 20000 in
theorem ggX0_fetch_X0_frameOf : GoodIn wsX0_fetch wsX0_frameOf := goodIn_r _ [12, 13, 14, 3, 4, 5, 6, 7, 8, 58, 59, 60, 61, 62, 63, 64, 65, 66, 67, 68, 69] (by decide +kernel) (by decide +kernel)
set_option maxRecDepth 20000 in
theorem gX0_fetch_X0_frameOf : GoodIn wsX0_fetch (wsV RX0 63 RX0 yX0_frameOf wsX0_frameOf) := goodIn_app (goodIn_of _ (by decide +kernel)) ggX0_fetch_X0_frameOf
set_option maxRecDepth 20000 in
theorem ggX0_fetch_X0_findFrame : GoodIn wsX0_fetch wsX0_findFrame := goodIn_r _ [18, 13, 19, 20, 21, 22, 6, 23, 1, 24, 25, 26, 27, 28, 29, 30, 31, 14, 2, 32, 33, 34, 35, 36, 37, 38, 39, 40, 41, 42, 43, 44, 45, 46, 47, 48, 49, 50, 51, 52, 58, 59, 60, 61, 62, 63, 64, 65, 66, 67, 68, 69] (by decide +kernel) (by decide +kernel)
set_option maxRecDepth 20000 in
theorem gX0_fetch_X0_findFrame : GoodIn wsX0_fetch (wsV RX0 67 RX0 yX0_findFrame wsX0_findFrame) := goodIn_app (goodIn_of _ (by decide +kernel)) ggX0_fetch_X0_findFrame
set_option maxRecDepth 20000 in
theorem ggX0_fetch_X0_readInto : GoodIn wsX0_fetch wsX0_readInto := goodIn_r _ [56, 38, 37, 14, 57, 40, 41, 42, 6, 43, 44, 45, 46, 47, 48, 58, 59, 60, 61, 62, 63, 64, 65, 66, 67, 68, 69] (by decide +kernel) (by decide +kernel)
set_option maxRecDepth 20000 in
theorem gX0_fetch_X0_readInto : GoodIn wsX0_fetch (wsV RX0 71 RX0 yX0_readInto wsX0_readInto) := goodIn_app (goodIn_of _ (by decide +kernel)) ggX0_fetch_X0_readInto
theorem dX0_fetch_0 : decode cX0_fetch 0 = .ok (.aload_n 0, 1) := by decide +kernel
theorem dX0_fetch_1 : decode cX0_fetch 1 = .ok (.iload_n 1, 1) := by decide +kernel
theorem dX0_fetch_2 : decode cX0_fetch 2 = .ok (.invokevirtual 59, 3) := by decide +kernel
theorem dX0_fetch_5 : decode cX0_fetch 5 = .ok (.ifCond .ne 6, 3) := by decide +kernel
theorem dX0_fetch_8 : decode cX0_fetch 8 = .ok (.bipush (-2), 2) := by decide +kernel
theorem dX0_fetch_10 : decode cX0_fetch 10 = .ok (.ireturn, 1) := by decide +kernel
theorem dX0_fetch_11 : decode cX0_fetch 11 = .ok (.aload_n 0, 1) := by decide +kernel
theorem dX0_fetch_12 : decode cX0_fetch 12 = .ok (.iload_n 1, 1) := by decide +kernel
theorem dX0_fetch_13 : decode cX0_fetch 13 = .ok (.invokevirtual 63, 3) := by decide +kernel
theorem dX0_fetch_16 : decode cX0_fetch 16 = .ok (.istore_n 2, 1) := by decide +kernel
theorem dX0_fetch_17 : decode cX0_fetch 17 = .ok (.iload_n 2, 1) := by decide +kernel
theorem dX0_fetch_18 : decode cX0_fetch 18 = .ok (.iconst (-1), 1) := by decide +kernel
theorem dX0_fetch_19 : decode cX0_fetch 19 = .ok (.if_icmp .ne 21, 3) := by decide +kernel
theorem dX0_fetch_22 : decode cX0_fetch 22 = .ok (.aload_n 0, 1) := by decide +kernel
theorem dX0_fetch_23 : decode cX0_fetch 23 = .ok (.invokevirtual 67, 3) := by decide +kernel
theorem dX0_fetch_26 : decode cX0_fetch 26 = .ok (.istore_n 2, 1) := by decide +kernel
theorem dX0_fetch_27 : decode cX0_fetch 27 = .ok (.iload_n 2, 1) := by decide +kernel
theorem dX0_fetch_28 : decode cX0_fetch 28 = .ok (.iconst (-1), 1) := by decide +kernel
theorem dX0_fetch_29 : decode cX0_fetch 29 = .ok (.if_icmp .ne 5, 3) := by decide +kernel
theorem dX0_fetch_32 : decode cX0_fetch 32 = .ok (.iconst (-1), 1) := by decide +kernel
theorem dX0_fetch_33 : decode cX0_fetch 33 = .ok (.ireturn, 1) := by decide +kernel
theorem dX0_fetch_34 : decode cX0_fetch 34 = .ok (.aload_n 0, 1) := by decide +kernel
theorem dX0_fetch_35 : decode cX0_fetch 35 = .ok (.iload_n 2, 1) := by decide +kernel
theorem dX0_fetch_36 : decode cX0_fetch 36 = .ok (.iload_n 1, 1) := by decide +kernel
theorem dX0_fetch_37 : decode cX0_fetch 37 = .ok (.invokevirtual 71, 3) := by decide +kernel
theorem dX0_fetch_40 : decode cX0_fetch 40 = .ok (.aload_n 0, 1) := by decide +kernel
theorem dX0_fetch_41 : decode cX0_fetch 41 = .ok (.getfield 33, 3) := by decide +kernel
theorem dX0_fetch_44 : decode cX0_fetch 44 = .ok (.iload_n 2, 1) := by decide +kernel
theorem dX0_fetch_45 : decode cX0_fetch 45 = .ok (.dup2, 1) := by decide +kernel
theorem dX0_fetch_46 : decode cX0_fetch 46 = .ok (.iaload, 1) := by decide +kernel
theorem dX0_fetch_47 : decode cX0_fetch 47 = .ok (.iconst 1, 1) := by decide +kernel
theorem dX0_fetch_48 : decode cX0_fetch 48 = .ok (.iadd, 1) := by decide +kernel
theorem dX0_fetch_49 : decode cX0_fetch 49 = .ok (.iastore, 1) := by decide +kernel
theorem dX0_fetch_50 : decode cX0_fetch 50 = .ok (.aload_n 0, 1) := by decide +kernel
theorem dX0_fetch_51 : decode cX0_fetch 51 = .ok (.getfield 40, 3) := by decide +kernel
theorem dX0_fetch_54 : decode cX0_fetch 54 = .ok (.iload_n 2, 1) := by decide +kernel
theorem dX0_fetch_55 : decode cX0_fetch 55 = .ok (.iconst 1, 1) := by decide +kernel
theorem dX0_fetch_56 : decode cX0_fetch 56 = .ok (.bastore, 1) := by decide +kernel
theorem dX0_fetch_57 : decode cX0_fetch 57 = .ok (.iload_n 2, 1) := by decide +kernel
theorem dX0_fetch_58 : decode cX0_fetch 58 = .ok (.ireturn, 1) := by decide +kernel
set_option maxRecDepth 20000 in
theorem ggX0_unpin_X0_isPinnedFrame : GoodIn wsX0_unpin wsX0_isPinnedFrame := goodIn_r _ [6, 1, 7, 8, 9, 5, 10, 11, 12, 13, 14, 15, 16, 17, 18, 19, 20, 21, 22, 23] (by decide +kernel) (by decide +kernel)
set_option maxRecDepth 20000 in
theorem gX0_unpin_X0_isPinnedFrame : GoodIn wsX0_unpin (wsV RX0 75 RX0 yX0_isPinnedFrame wsX0_isPinnedFrame) := goodIn_app (goodIn_of _ (by decide +kernel)) ggX0_unpin_X0_isPinnedFrame
theorem dX0_unpin_0 : decode cX0_unpin 0 = .ok (.aload_n 0, 1) := by decide +kernel
theorem dX0_unpin_1 : decode cX0_unpin 1 = .ok (.iload_n 1, 1) := by decide +kernel
theorem dX0_unpin_2 : decode cX0_unpin 2 = .ok (.invokevirtual 75, 3) := by decide +kernel
theorem dX0_unpin_5 : decode cX0_unpin 5 = .ok (.ifCond .ne 6, 3) := by decide +kernel
theorem dX0_unpin_8 : decode cX0_unpin 8 = .ok (.bipush (-3), 2) := by decide +kernel
theorem dX0_unpin_10 : decode cX0_unpin 10 = .ok (.ireturn, 1) := by decide +kernel
theorem dX0_unpin_11 : decode cX0_unpin 11 = .ok (.aload_n 0, 1) := by decide +kernel
theorem dX0_unpin_12 : decode cX0_unpin 12 = .ok (.getfield 33, 3) := by decide +kernel
theorem dX0_unpin_15 : decode cX0_unpin 15 = .ok (.iload_n 1, 1) := by decide +kernel
theorem dX0_unpin_16 : decode cX0_unpin 16 = .ok (.dup2, 1) := by decide +kernel
theorem dX0_unpin_17 : decode cX0_unpin 17 = .ok (.iaload, 1) := by decide +kernel
theorem dX0_unpin_18 : decode cX0_unpin 18 = .ok (.iconst 1, 1) := by decide +kernel
theorem dX0_unpin_19 : decode cX0_unpin 19 = .ok (.isub, 1) := by decide +kernel
theorem dX0_unpin_20 : decode cX0_unpin 20 = .ok (.iastore, 1) := by decide +kernel
theorem dX0_unpin_21 : decode cX0_unpin 21 = .ok (.aload_n 0, 1) := by decide +kernel
theorem dX0_unpin_22 : decode cX0_unpin 22 = .ok (.getfield 33, 3) := by decide +kernel
theorem dX0_unpin_25 : decode cX0_unpin 25 = .ok (.iload_n 1, 1) := by decide +kernel
theorem dX0_unpin_26 : decode cX0_unpin 26 = .ok (.iaload, 1) := by decide +kernel
theorem dX0_unpin_27 : decode cX0_unpin 27 = .ok (.ireturn, 1) := by decide +kernel
set_option maxRecDepth 20000 in
theorem ggX0_readWord_X0_isPinnedFrame : GoodIn wsX0_readWord wsX0_isPinnedFrame := goodIn_r _ [7, 8, 9, 10, 11, 6, 12, 13, 18, 19, 20, 21, 22, 23, 24, 25, 26, 27, 28, 29] (by decide +kernel) (by decide +kernel)
set_option maxRecDepth 20000 in
theorem gX0_readWord_X0_isPinnedFrame : GoodIn wsX0_readWord (wsV RX0 75 RX0 yX0_isPinnedFrame wsX0_isPinnedFrame) := goodIn_app (goodIn_of _ (by decide +kernel)) ggX0_readWord_X0_isPinnedFrame
set_option maxRecDepth 20000 in
theorem ggX0_readWord_X0_isOffset : GoodIn wsX0_readWord wsX0_isOffset := goodIn_r _ [17, 2, 18, 19, 20, 21, 22, 23, 24, 25, 26, 27, 28, 29] (by decide +kernel) (by decide +kernel)
set_option maxRecDepth 20000 in
theorem gX0_readWord_X0_isOffset : GoodIn wsX0_readWord (wsV RX0 78 RX0 yX0_isOffset wsX0_isOffset) := goodIn_app (goodIn_of _ (by decide +kernel)) ggX0_readWord_X0_isOffset
theorem dX0_readWord_0 : decode cX0_readWord 0 = .ok (.aload_n 0, 1) := by decide +kernel
theorem dX0_readWord_1 : decode cX0_readWord 1 = .ok (.iload_n 1, 1) := by decide +kernel
theorem dX0_readWord_2 : decode cX0_readWord 2 = .ok (.invokevirtual 75, 3) := by decide +kernel
theorem dX0_readWord_5 : decode cX0_readWord 5 = .ok (.ifCond .eq 11, 3) := by decide +kernel
theorem dX0_readWord_8 : decode cX0_readWord 8 = .ok (.aload_n 0, 1) := by decide +kernel
theorem dX0_readWord_9 : decode cX0_readWord 9 = .ok (.iload_n 2, 1) := by decide +kernel
theorem dX0_readWord_10 : decode cX0_readWord 10 = .ok (.invokevirtual 78, 3) := by decide +kernel
theorem dX0_readWord_13 : decode cX0_readWord 13 = .ok (.ifCond .ne 5, 3) := by decide +kernel
theorem dX0_readWord_16 : decode cX0_readWord 16 = .ok (.iconst 0, 1) := by decide +kernel
theorem dX0_readWord_17 : decode cX0_readWord 17 = .ok (.ireturn, 1) := by decide +kernel
theorem dX0_readWord_18 : decode cX0_readWord 18 = .ok (.aload_n 0, 1) := by decide +kernel
theorem dX0_readWord_19 : decode cX0_readWord 19 = .ok (.getfield 27, 3) := by decide +kernel
theorem dX0_readWord_22 : decode cX0_readWord 22 = .ok (.iload_n 1, 1) := by decide +kernel
theorem dX0_readWord_23 : decode cX0_readWord 23 = .ok (.aload_n 0, 1) := by decide +kernel
theorem dX0_readWord_24 : decode cX0_readWord 24 = .ok (.getfield 20, 3) := by decide +kernel
theorem dX0_readWord_27 : decode cX0_readWord 27 = .ok (.imul, 1) := by decide +kernel
theorem dX0_readWord_28 : decode cX0_readWord 28 = .ok (.iload_n 2, 1) := by decide +kernel
theorem dX0_readWord_29 : decode cX0_readWord 29 = .ok (.iadd, 1) := by decide +kernel
theorem dX0_readWord_30 : decode cX0_readWord 30 = .ok (.iaload, 1) := by decide +kernel
theorem dX0_readWord_31 : decode cX0_readWord 31 = .ok (.ireturn, 1) := by decide +kernel
set_option maxRecDepth 20000 in
theorem ggX0_writeWord_X0_isPinnedFrame : GoodIn wsX0_writeWord wsX0_isPinnedFrame := goodIn_r _ [8, 9, 10, 11, 12, 7, 13, 14, 19, 20, 21, 22, 23, 24, 25, 26, 27, 28, 29, 30] (by decide +kernel) (by decide +kernel)
set_option maxRecDepth 20000 in
theorem gX0_writeWord_X0_isPinnedFrame : GoodIn wsX0_writeWord (wsV RX0 75 RX0 yX0_isPinnedFrame wsX0_isPinnedFrame) := goodIn_app (goodIn_of _ (by decide +kernel)) ggX0_writeWord_X0_isPinnedFrame
set_option maxRecDepth 20000 in
theorem ggX0_writeWord_X0_isOffset : GoodIn wsX0_writeWord wsX0_isOffset := goodIn_r _ [18, 2, 19, 20, 21, 22, 23, 24, 25, 26, 27, 28, 29, 30] (by decide +kernel) (by decide +kernel)
set_option maxRecDepth 20000 in
theorem gX0_writeWord_X0_isOffset : GoodIn wsX0_writeWord (wsV RX0 78 RX0 yX0_isOffset wsX0_isOffset) := goodIn_app (goodIn_of _ (by decide +kernel)) ggX0_writeWord_X0_isOffset
theorem dX0_writeWord_0 : decode cX0_writeWord 0 = .ok (.aload_n 0, 1) := by decide +kernel
theorem dX0_writeWord_1 : decode cX0_writeWord 1 = .ok (.iload_n 1, 1) := by decide +kernel
theorem dX0_writeWord_2 : decode cX0_writeWord 2 = .ok (.invokevirtual 75, 3) := by decide +kernel
theorem dX0_writeWord_5 : decode cX0_writeWord 5 = .ok (.ifCond .ne 6, 3) := by decide +kernel
theorem dX0_writeWord_8 : decode cX0_writeWord 8 = .ok (.bipush (-3), 2) := by decide +kernel
theorem dX0_writeWord_10 : decode cX0_writeWord 10 = .ok (.ireturn, 1) := by decide +kernel
theorem dX0_writeWord_11 : decode cX0_writeWord 11 = .ok (.aload_n 0, 1) := by decide +kernel
theorem dX0_writeWord_12 : decode cX0_writeWord 12 = .ok (.iload_n 2, 1) := by decide +kernel
theorem dX0_writeWord_13 : decode cX0_writeWord 13 = .ok (.invokevirtual 78, 3) := by decide +kernel
theorem dX0_writeWord_16 : decode cX0_writeWord 16 = .ok (.ifCond .ne 6, 3) := by decide +kernel
theorem dX0_writeWord_19 : decode cX0_writeWord 19 = .ok (.bipush (-4), 2) := by decide +kernel
theorem dX0_writeWord_21 : decode cX0_writeWord 21 = .ok (.ireturn, 1) := by decide +kernel
theorem dX0_writeWord_22 : decode cX0_writeWord 22 = .ok (.aload_n 0, 1) := by decide +kernel
theorem dX0_writeWord_23 : decode cX0_writeWord 23 = .ok (.getfield 27, 3) := by decide +kernel
theorem dX0_writeWord_26 : decode cX0_writeWord 26 = .ok (.iload_n 1, 1) := by decide +kernel
theorem dX0_writeWord_27 : decode cX0_writeWord 27 = .ok (.aload_n 0, 1) := by decide +kernel
theorem dX0_writeWord_28 : decode cX0_writeWord 28 = .ok (.getfield 20, 3) := by decide +kernel
theorem dX0_writeWord_31 : decode cX0_writeWord 31 = .ok (.imul, 1) := by decide +kernel
theorem dX0_writeWord_32 : decode cX0_writeWord 32 = .ok (.iload_n 2, 1) := by decide +kernel
theorem dX0_writeWord_33 : decode cX0_writeWord 33 = .ok (.iadd, 1) := by decide +kernel
theorem dX0_writeWord_34 : decode cX0_writeWord 34 = .ok (.iload_n 3, 1) := by decide +kernel
theorem dX0_writeWord_35 : decode cX0_writeWord 35 = .ok (.iastore, 1) := by decide +kernel
theorem dX0_writeWord_36 : decode cX0_writeWord 36 = .ok (.aload_n 0, 1) := by decide +kernel
theorem dX0_writeWord_37 : decode cX0_writeWord 37 = .ok (.getfield 36, 3) := by decide +kernel
theorem dX0_writeWord_40 : decode cX0_writeWord 40 = .ok (.iload_n 1, 1) := by decide +kernel
theorem dX0_writeWord_41 : decode cX0_writeWord 41 = .ok (.iconst 1, 1) := by decide +kernel
theorem dX0_writeWord_42 : decode cX0_writeWord 42 = .ok (.bastore, 1) := by decide +kernel
theorem dX0_writeWord_43 : decode cX0_writeWord 43 = .ok (.iconst 0, 1) := by decide +kernel
theorem dX0_writeWord_44 : decode cX0_writeWord 44 = .ok (.ireturn, 1) := by decide +kernel
set_option maxRecDepth 20000 in
theorem ggX0_flush_X0_frameOf : GoodIn wsX0_flush wsX0_frameOf := goodIn_r _ [6, 7, 8, 9, 10, 11, 5, 12, 13, 30, 31, 32, 33, 34, 35, 36, 37, 38, 39, 40, 41] (by decide +kernel) (by decide +kernel)
set_option maxRecDepth 20000 in
theorem gX0_flush_X0_frameOf : GoodIn wsX0_flush (wsV RX0 63 RX0 yX0_frameOf wsX0_frameOf) := goodIn_app (goodIn_of _ (by decide +kernel)) ggX0_flush_X0_frameOf
set_option maxRecDepth 20000 in
theorem ggX0_flush_X0_writeBack : GoodIn wsX0_flush wsX0_writeBack := goodIn_r _ [17, 18, 19, 8, 1, 20, 21, 22, 23, 5, 24, 25, 26, 27, 28, 29, 30, 31, 32, 33, 34, 35, 36, 37, 38, 39, 40, 41] (by decide +kernel) (by decide +kernel)
set_option maxRecDepth 20000 in
theorem gX0_flush_X0_writeBack : GoodIn wsX0_flush (wsV RX0 81 RX0 yX0_writeBack wsX0_writeBack) := goodIn_app (goodIn_of _ (by decide +kernel)) ggX0_flush_X0_writeBack
theorem dX0_flush_0 : decode cX0_flush 0 = .ok (.aload_n 0, 1) := by decide +kernel
theorem dX0_flush_1 : decode cX0_flush 1 = .ok (.iload_n 1, 1) := by decide +kernel
theorem dX0_flush_2 : decode cX0_flush 2 = .ok (.invokevirtual 63, 3) := by decide +kernel
theorem dX0_flush_5 : decode cX0_flush 5 = .ok (.istore_n 2, 1) := by decide +kernel
theorem dX0_flush_6 : decode cX0_flush 6 = .ok (.iload_n 2, 1) := by decide +kernel
theorem dX0_flush_7 : decode cX0_flush 7 = .ok (.iconst (-1), 1) := by decide +kernel
theorem dX0_flush_8 : decode cX0_flush 8 = .ok (.if_icmp .eq 12, 3) := by decide +kernel
theorem dX0_flush_11 : decode cX0_flush 11 = .ok (.aload_n 0, 1) := by decide +kernel
theorem dX0_flush_12 : decode cX0_flush 12 = .ok (.getfield 36, 3) := by decide +kernel
theorem dX0_flush_15 : decode cX0_flush 15 = .ok (.iload_n 2, 1) := by decide +kernel
theorem dX0_flush_16 : decode cX0_flush 16 = .ok (.baload, 1) := by decide +kernel
theorem dX0_flush_17 : decode cX0_flush 17 = .ok (.ifCond .ne 5, 3) := by decide +kernel
theorem dX0_flush_20 : decode cX0_flush 20 = .ok (.iconst 0, 1) := by decide +kernel
theorem dX0_flush_21 : decode cX0_flush 21 = .ok (.ireturn, 1) := by decide +kernel
theorem dX0_flush_22 : decode cX0_flush 22 = .ok (.aload_n 0, 1) := by decide +kernel
theorem dX0_flush_23 : decode cX0_flush 23 = .ok (.iload_n 2, 1) := by decide +kernel
theorem dX0_flush_24 : decode cX0_flush 24 = .ok (.invokevirtual 81, 3) := by decide +kernel
theorem dX0_flush_27 : decode cX0_flush 27 = .ok (.iconst 1, 1) := by decide +kernel
theorem dX0_flush_28 : decode cX0_flush 28 = .ok (.ireturn, 1) := by decide +kernel
set_option maxRecDepth 20000 in
theorem ggX0_flushAll_X0_writeBack : GoodIn wsX0_flushAll wsX0_writeBack := goodIn_r _ [7, 8, 9, 10, 2, 11, 12, 13, 14, 6, 15, 16, 17, 18, 19, 20, 21, 22, 23, 24, 25, 26, 27, 28, 29, 30, 31, 32] (by decide +kernel) (by decide +kernel)
set_option maxRecDepth 20000 in
theorem gX0_flushAll_X0_writeBack : GoodIn wsX0_flushAll (wsV RX0 81 RX0 yX0_writeBack wsX0_writeBack) := goodIn_app (goodIn_of _ (by decide +kernel)) ggX0_flushAll_X0_writeBack
theorem dX0_flushAll_0 : decode cX0_flushAll 0 = .ok (.iconst 0, 1) := by decide +kernel
theorem dX0_flushAll_1 : decode cX0_flushAll 1 = .ok (.istore_n 1, 1) := by decide +kernel
theorem dX0_flushAll_2 : decode cX0_flushAll 2 = .ok (.iconst 0, 1) := by decide +kernel
theorem dX0_flushAll_3 : decode cX0_flushAll 3 = .ok (.istore_n 2, 1) := by decide +kernel
theorem dX0_flushAll_4 : decode cX0_flushAll 4 = .ok (.iload_n 2, 1) := by decide +kernel
theorem dX0_flushAll_5 : decode cX0_flushAll 5 = .ok (.aload_n 0, 1) := by decide +kernel
theorem dX0_flushAll_6 : decode cX0_flushAll 6 = .ok (.getfield 13, 3) := by decide +kernel
theorem dX0_flushAll_9 : decode cX0_flushAll 9 = .ok (.if_icmp .ge 26, 3) := by decide +kernel
theorem dX0_flushAll_12 : decode cX0_flushAll 12 = .ok (.aload_n 0, 1) := by decide +kernel
theorem dX0_flushAll_13 : decode cX0_flushAll 13 = .ok (.getfield 36, 3) := by decide +kernel
theorem dX0_flushAll_16 : decode cX0_flushAll 16 = .ok (.iload_n 2, 1) := by decide +kernel
theorem dX0_flushAll_17 : decode cX0_flushAll 17 = .ok (.baload, 1) := by decide +kernel
theorem dX0_flushAll_18 : decode cX0_flushAll 18 = .ok (.ifCond .eq 11, 3) := by decide +kernel
theorem dX0_flushAll_21 : decode cX0_flushAll 21 = .ok (.aload_n 0, 1) := by decide +kernel
theorem dX0_flushAll_22 : decode cX0_flushAll 22 = .ok (.iload_n 2, 1) := by decide +kernel
theorem dX0_flushAll_23 : decode cX0_flushAll 23 = .ok (.invokevirtual 81, 3) := by decide +kernel
theorem dX0_flushAll_26 : decode cX0_flushAll 26 = .ok (.iinc 1 1, 3) := by decide +kernel
theorem dX0_flushAll_29 : decode cX0_flushAll 29 = .ok (.iinc 2 1, 3) := by decide +kernel
theorem dX0_flushAll_32 : decode cX0_flushAll 32 = .ok (.goto (-28), 3) := by decide +kernel
theorem dX0_flushAll_35 : decode cX0_flushAll 35 = .ok (.iload_n 1, 1) := by decide +kernel
theorem dX0_flushAll_36 : decode cX0_flushAll 36 = .ok (.ireturn, 1) := by decide +kernel
set_option maxRecDepth 20000 in
theorem ggX0_drop_X0_frameOf : GoodIn wsX0_drop wsX0_frameOf := goodIn_r _ [6, 7, 8, 9, 10, 11, 5, 12, 13, 20, 21, 22, 23, 24, 25, 26, 27, 28, 29, 30, 31] (by decide +kernel) (by decide +kernel)
set_option maxRecDepth 20000 in
theorem gX0_drop_X0_frameOf : GoodIn wsX0_drop (wsV RX0 63 RX0 yX0_frameOf wsX0_frameOf) := goodIn_app (goodIn_of _ (by decide +kernel)) ggX0_drop_X0_frameOf
set_option maxRecDepth 20000 in
theorem ggX0_drop_X0_makeEmpty : GoodIn wsX0_drop wsX0_makeEmpty := goodIn_r _ [17, 8, 1, 18, 19, 20, 21, 22, 23, 24, 25, 26, 27, 28, 29, 30, 31] (by decide +kernel) (by decide +kernel)
set_option maxRecDepth 20000 in
theorem gX0_drop_X0_makeEmpty : GoodIn wsX0_drop (wsV RX0 46 RX0 yX0_makeEmpty wsX0_makeEmpty) := goodIn_app (goodIn_of _ (by decide +kernel)) ggX0_drop_X0_makeEmpty
theorem dX0_drop_0 : decode cX0_drop 0 = .ok (.aload_n 0, 1) := by decide +kernel
theorem dX0_drop_1 : decode cX0_drop 1 = .ok (.iload_n 1, 1) := by decide +kernel
theorem dX0_drop_2 : decode cX0_drop 2 = .ok (.invokevirtual 63, 3) := by decide +kernel
theorem dX0_drop_5 : decode cX0_drop 5 = .ok (.istore_n 2, 1) := by decide +kernel
theorem dX0_drop_6 : decode cX0_drop 6 = .ok (.iload_n 2, 1) := by decide +kernel
theorem dX0_drop_7 : decode cX0_drop 7 = .ok (.iconst (-1), 1) := by decide +kernel
theorem dX0_drop_8 : decode cX0_drop 8 = .ok (.if_icmp .eq 12, 3) := by decide +kernel
theorem dX0_drop_11 : decode cX0_drop 11 = .ok (.aload_n 0, 1) := by decide +kernel
theorem dX0_drop_12 : decode cX0_drop 12 = .ok (.getfield 33, 3) := by decide +kernel
theorem dX0_drop_15 : decode cX0_drop 15 = .ok (.iload_n 2, 1) := by decide +kernel
theorem dX0_drop_16 : decode cX0_drop 16 = .ok (.iaload, 1) := by decide +kernel
theorem dX0_drop_17 : decode cX0_drop 17 = .ok (.ifCond .le 5, 3) := by decide +kernel
theorem dX0_drop_20 : decode cX0_drop 20 = .ok (.iconst 0, 1) := by decide +kernel
theorem dX0_drop_21 : decode cX0_drop 21 = .ok (.ireturn, 1) := by decide +kernel
theorem dX0_drop_22 : decode cX0_drop 22 = .ok (.aload_n 0, 1) := by decide +kernel
theorem dX0_drop_23 : decode cX0_drop 23 = .ok (.iload_n 2, 1) := by decide +kernel
theorem dX0_drop_24 : decode cX0_drop 24 = .ok (.invokevirtual 46, 3) := by decide +kernel
theorem dX0_drop_27 : decode cX0_drop 27 = .ok (.iconst 1, 1) := by decide +kernel
theorem dX0_drop_28 : decode cX0_drop 28 = .ok (.ireturn, 1) := by decide +kernel
set_option maxRecDepth 20000 in
theorem ggX0_copy_X0_isPage : GoodIn wsX0_copy wsX0_isPage := goodIn_r _ [8, 9, 34, 35, 36, 37, 38, 39, 40, 41, 42, 43, 44, 45] (by decide +kernel) (by decide +kernel)
set_option maxRecDepth 20000 in
theorem gX0_copy_X0_isPage : GoodIn wsX0_copy (wsV RX0 59 RX0 yX0_isPage wsX0_isPage) := goodIn_app (goodIn_of _ (by decide +kernel)) ggX0_copy_X0_isPage
set_option maxRecDepth 20000 in
theorem ggX0_copy_X0_frameOf : GoodIn wsX0_copy wsX0_frameOf := goodIn_r _ [13, 14, 15, 4, 5, 6, 7, 8, 9, 34, 35, 36, 37, 38, 39, 40, 41, 42, 43, 44, 45] (by decide +kernel) (by decide +kernel)
set_option maxRecDepth 20000 in
theorem gX0_copy_X0_frameOf : GoodIn wsX0_copy (wsV RX0 63 RX0 yX0_frameOf wsX0_frameOf) := goodIn_app (goodIn_of _ (by decide +kernel)) ggX0_copy_X0_frameOf
set_option maxRecDepth 20000 in
theorem ggX0_copy_X0_isPinnedFrame : GoodIn wsX0_copy wsX0_isPinnedFrame := goodIn_r _ [19, 20, 21, 22, 23, 7, 24, 14, 34, 35, 36, 37, 38, 39, 40, 41, 42, 43, 44, 45] (by decide +kernel) (by decide +kernel)
set_option maxRecDepth 20000 in
theorem gX0_copy_X0_isPinnedFrame : GoodIn wsX0_copy (wsV RX0 75 RX0 yX0_isPinnedFrame wsX0_isPinnedFrame) := goodIn_app (goodIn_of _ (by decide +kernel)) ggX0_copy_X0_isPinnedFrame
set_option maxRecDepth 20000 in
theorem ggX0_copy_X0_copyWords : GoodIn wsX0_copy wsX0_copyWords := goodIn_r _ [28, 29, 30, 31, 32, 33, 34, 35, 36, 37, 38, 39, 40, 41, 42, 43, 44, 45] (by decide +kernel) (by decide +kernel)
set_option maxRecDepth 20000 in
theorem gX0_copy_X0_copyWords : GoodIn wsX0_copy (wsV RX0 84 RX0 yX0_copyWords wsX0_copyWords) := goodIn_app (goodIn_of _ (by decide +kernel)) ggX0_copy_X0_copyWords
theorem dX0_copy_0 : decode cX0_copy 0 = .ok (.aload_n 0, 1) := by decide +kernel
theorem dX0_copy_1 : decode cX0_copy 1 = .ok (.iload_n 1, 1) := by decide +kernel
theorem dX0_copy_2 : decode cX0_copy 2 = .ok (.invokevirtual 59, 3) := by decide +kernel
theorem dX0_copy_5 : decode cX0_copy 5 = .ok (.ifCond .eq 11, 3) := by decide +kernel
theorem dX0_copy_8 : decode cX0_copy 8 = .ok (.aload_n 0, 1) := by decide +kernel
theorem dX0_copy_9 : decode cX0_copy 9 = .ok (.iload_n 2, 1) := by decide +kernel
theorem dX0_copy_10 : decode cX0_copy 10 = .ok (.invokevirtual 59, 3) := by decide +kernel
theorem dX0_copy_13 : decode cX0_copy 13 = .ok (.ifCond .ne 6, 3) := by decide +kernel
theorem dX0_copy_16 : decode cX0_copy 16 = .ok (.bipush (-2), 2) := by decide +kernel
theorem dX0_copy_18 : decode cX0_copy 18 = .ok (.ireturn, 1) := by decide +kernel
theorem dX0_copy_19 : decode cX0_copy 19 = .ok (.aload_n 0, 1) := by decide +kernel
theorem dX0_copy_20 : decode cX0_copy 20 = .ok (.iload_n 1, 1) := by decide +kernel
theorem dX0_copy_21 : decode cX0_copy 21 = .ok (.invokevirtual 63, 3) := by decide +kernel
theorem dX0_copy_24 : decode cX0_copy 24 = .ok (.istore_n 3, 1) := by decide +kernel
theorem dX0_copy_25 : decode cX0_copy 25 = .ok (.aload_n 0, 1) := by decide +kernel
theorem dX0_copy_26 : decode cX0_copy 26 = .ok (.iload_n 3, 1) := by decide +kernel
theorem dX0_copy_27 : decode cX0_copy 27 = .ok (.invokevirtual 75, 3) := by decide +kernel
theorem dX0_copy_30 : decode cX0_copy 30 = .ok (.ifCond .ne 6, 3) := by decide +kernel
theorem dX0_copy_33 : decode cX0_copy 33 = .ok (.bipush (-3), 2) := by decide +kernel
theorem dX0_copy_35 : decode cX0_copy 35 = .ok (.ireturn, 1) := by decide +kernel
theorem dX0_copy_36 : decode cX0_copy 36 = .ok (.aload_n 0, 1) := by decide +kernel
theorem dX0_copy_37 : decode cX0_copy 37 = .ok (.iload_n 2, 1) := by decide +kernel
theorem dX0_copy_38 : decode cX0_copy 38 = .ok (.invokevirtual 63, 3) := by decide +kernel
theorem dX0_copy_41 : decode cX0_copy 41 = .ok (.istore 4, 2) := by decide +kernel
theorem dX0_copy_43 : decode cX0_copy 43 = .ok (.iload 4, 2) := by decide +kernel
theorem dX0_copy_45 : decode cX0_copy 45 = .ok (.iconst (-1), 1) := by decide +kernel
theorem dX0_copy_46 : decode cX0_copy 46 = .ok (.if_icmp .ne 20, 3) := by decide +kernel
theorem dX0_copy_49 : decode cX0_copy 49 = .ok (.aload_n 0, 1) := by decide +kernel
theorem dX0_copy_50 : decode cX0_copy 50 = .ok (.aload_n 0, 1) := by decide +kernel
theorem dX0_copy_51 : decode cX0_copy 51 = .ok (.getfield 23, 3) := by decide +kernel
theorem dX0_copy_54 : decode cX0_copy 54 = .ok (.iload_n 2, 1) := by decide +kernel
theorem dX0_copy_55 : decode cX0_copy 55 = .ok (.aload_n 0, 1) := by decide +kernel
theorem dX0_copy_56 : decode cX0_copy 56 = .ok (.getfield 27, 3) := by decide +kernel
theorem dX0_copy_59 : decode cX0_copy 59 = .ok (.iload_n 3, 1) := by decide +kernel
theorem dX0_copy_60 : decode cX0_copy 60 = .ok (.invokevirtual 84, 3) := by decide +kernel
theorem dX0_copy_63 : decode cX0_copy 63 = .ok (.goto 18, 3) := by decide +kernel
theorem dX0_copy_66 : decode cX0_copy 66 = .ok (.aload_n 0, 1) := by decide +kernel
theorem dX0_copy_67 : decode cX0_copy 67 = .ok (.aload_n 0, 1) := by decide +kernel
theorem dX0_copy_68 : decode cX0_copy 68 = .ok (.getfield 27, 3) := by decide +kernel
theorem dX0_copy_71 : decode cX0_copy 71 = .ok (.iload 4, 2) := by decide +kernel
theorem dX0_copy_73 : decode cX0_copy 73 = .ok (.aload_n 0, 1) := by decide +kernel
theorem dX0_copy_74 : decode cX0_copy 74 = .ok (.getfield 27, 3) := by decide +kernel
theorem dX0_copy_77 : decode cX0_copy 77 = .ok (.iload_n 3, 1) := by decide +kernel
theorem dX0_copy_78 : decode cX0_copy 78 = .ok (.invokevirtual 84, 3) := by decide +kernel
theorem dX0_copy_81 : decode cX0_copy 81 = .ok (.aload_n 0, 1) := by decide +kernel
theorem dX0_copy_82 : decode cX0_copy 82 = .ok (.getfield 36, 3) := by decide +kernel
theorem dX0_copy_85 : decode cX0_copy 85 = .ok (.iload_n 3, 1) := by decide +kernel
theorem dX0_copy_86 : decode cX0_copy 86 = .ok (.iconst 1, 1) := by decide +kernel
theorem dX0_copy_87 : decode cX0_copy 87 = .ok (.bastore, 1) := by decide +kernel
theorem dX0_copy_88 : decode cX0_copy 88 = .ok (.iconst 0, 1) := by decide +kernel
theorem dX0_copy_89 : decode cX0_copy 89 = .ok (.ireturn, 1) := by decide +kernel
set_option maxRecDepth 20000 in
theorem ggX0_diskWord_X0_isPage : GoodIn wsX0_diskWord wsX0_isPage := goodIn_r _ [7, 8, 13, 14, 15, 16, 17, 18, 19, 20, 21, 22, 23, 24] (by decide +kernel) (by decide +kernel)
set_option maxRecDepth 20000 in
theorem gX0_diskWord_X0_isPage : GoodIn wsX0_diskWord (wsV RX0 59 RX0 yX0_isPage wsX0_isPage) := goodIn_app (goodIn_of _ (by decide +kernel)) ggX0_diskWord_X0_isPage
set_option maxRecDepth 20000 in
theorem ggX0_diskWord_X0_isOffset : GoodIn wsX0_diskWord wsX0_isOffset := goodIn_r _ [12, 2, 13, 14, 15, 16, 17, 18, 19, 20, 21, 22, 23, 24] (by decide +kernel) (by decide +kernel)
set_option maxRecDepth 20000 in
theorem gX0_diskWord_X0_isOffset : GoodIn wsX0_diskWord (wsV RX0 78 RX0 yX0_isOffset wsX0_isOffset) := goodIn_app (goodIn_of _ (by decide +kernel)) ggX0_diskWord_X0_isOffset
theorem dX0_diskWord_0 : decode cX0_diskWord 0 = .ok (.aload_n 0, 1) := by decide +kernel
theorem dX0_diskWord_1 : decode cX0_diskWord 1 = .ok (.iload_n 1, 1) := by decide +kernel
theorem dX0_diskWord_2 : decode cX0_diskWord 2 = .ok (.invokevirtual 59, 3) := by decide +kernel
theorem dX0_diskWord_5 : decode cX0_diskWord 5 = .ok (.ifCond .eq 11, 3) := by decide +kernel
theorem dX0_diskWord_8 : decode cX0_diskWord 8 = .ok (.aload_n 0, 1) := by decide +kernel
theorem dX0_diskWord_9 : decode cX0_diskWord 9 = .ok (.iload_n 2, 1) := by decide +kernel
theorem dX0_diskWord_10 : decode cX0_diskWord 10 = .ok (.invokevirtual 78, 3) := by decide +kernel
theorem dX0_diskWord_13 : decode cX0_diskWord 13 = .ok (.ifCond .ne 5, 3) := by decide +kernel
theorem dX0_diskWord_16 : decode cX0_diskWord 16 = .ok (.iconst 0, 1) := by decide +kernel
theorem dX0_diskWord_17 : decode cX0_diskWord 17 = .ok (.ireturn, 1) := by decide +kernel
theorem dX0_diskWord_18 : decode cX0_diskWord 18 = .ok (.aload_n 0, 1) := by decide +kernel
theorem dX0_diskWord_19 : decode cX0_diskWord 19 = .ok (.getfield 23, 3) := by decide +kernel
theorem dX0_diskWord_22 : decode cX0_diskWord 22 = .ok (.iload_n 1, 1) := by decide +kernel
theorem dX0_diskWord_23 : decode cX0_diskWord 23 = .ok (.aload_n 0, 1) := by decide +kernel
theorem dX0_diskWord_24 : decode cX0_diskWord 24 = .ok (.getfield 20, 3) := by decide +kernel
theorem dX0_diskWord_27 : decode cX0_diskWord 27 = .ok (.imul, 1) := by decide +kernel
theorem dX0_diskWord_28 : decode cX0_diskWord 28 = .ok (.iload_n 2, 1) := by decide +kernel
theorem dX0_diskWord_29 : decode cX0_diskWord 29 = .ok (.iadd, 1) := by decide +kernel
theorem dX0_diskWord_30 : decode cX0_diskWord 30 = .ok (.iaload, 1) := by decide +kernel
theorem dX0_diskWord_31 : decode cX0_diskWord 31 = .ok (.ireturn, 1) := by decide +kernel
set_option maxRecDepth 20000 in
theorem ggX0_resident_X0_frameOf : GoodIn wsX0_resident wsX0_frameOf := goodIn_r _ [5, 6, 7, 8, 9, 10, 4, 11, 12, 13, 14, 15, 16, 17, 18, 19, 20, 21, 22, 23, 24] (by decide +kernel) (by decide +kernel)
set_option maxRecDepth 20000 in
theorem gX0_resident_X0_frameOf : GoodIn wsX0_resident (wsV RX0 63 RX0 yX0_frameOf wsX0_frameOf) := goodIn_app (goodIn_of _ (by decide +kernel)) ggX0_resident_X0_frameOf
theorem dX0_resident_0 : decode cX0_resident 0 = .ok (.aload_n 0, 1) := by decide +kernel
theorem dX0_resident_1 : decode cX0_resident 1 = .ok (.iload_n 1, 1) := by decide +kernel
theorem dX0_resident_2 : decode cX0_resident 2 = .ok (.invokevirtual 63, 3) := by decide +kernel
theorem dX0_resident_5 : decode cX0_resident 5 = .ok (.iconst (-1), 1) := by decide +kernel
theorem dX0_resident_6 : decode cX0_resident 6 = .ok (.if_icmp .eq 7, 3) := by decide +kernel
theorem dX0_resident_9 : decode cX0_resident 9 = .ok (.iconst 1, 1) := by decide +kernel
theorem dX0_resident_10 : decode cX0_resident 10 = .ok (.goto 4, 3) := by decide +kernel
theorem dX0_resident_13 : decode cX0_resident 13 = .ok (.iconst 0, 1) := by decide +kernel
theorem dX0_resident_14 : decode cX0_resident 14 = .ok (.ireturn, 1) := by decide +kernel
theorem dX0_diskReads_0 : decode cX0_diskReads 0 = .ok (.aload_n 0, 1) := by decide +kernel
theorem dX0_diskReads_1 : decode cX0_diskReads 1 = .ok (.getfield 53, 3) := by decide +kernel
theorem dX0_diskReads_4 : decode cX0_diskReads 4 = .ok (.ireturn, 1) := by decide +kernel
theorem dX0_diskWrites_0 : decode cX0_diskWrites 0 = .ok (.aload_n 0, 1) := by decide +kernel
theorem dX0_diskWrites_1 : decode cX0_diskWrites 1 = .ok (.getfield 56, 3) := by decide +kernel
theorem dX0_diskWrites_4 : decode cX0_diskWrites 4 = .ok (.ireturn, 1) := by decide +kernel
set_option maxRecDepth 20000 in
theorem ggX0_told_X0_isFrame : GoodIn wsX0_told wsX0_isFrame := goodIn_r _ [9, 10, 11, 12, 13, 14, 15, 16, 17, 18, 19, 20, 21, 22] (by decide +kernel) (by decide +kernel)
set_option maxRecDepth 20000 in
theorem gX0_told_X0_isFrame : GoodIn wsX0_told (wsV RX0 88 RX0 yX0_isFrame wsX0_isFrame) := goodIn_app (goodIn_of _ (by decide +kernel)) ggX0_told_X0_isFrame
theorem dX0_told_0 : decode cX0_told 0 = .ok (.aload_n 0, 1) := by decide +kernel
theorem dX0_told_1 : decode cX0_told 1 = .ok (.iload_n 1, 1) := by decide +kernel
theorem dX0_told_2 : decode cX0_told 2 = .ok (.invokevirtual 88, 3) := by decide +kernel
theorem dX0_told_5 : decode cX0_told 5 = .ok (.ifCond .ne 6, 3) := by decide +kernel
theorem dX0_told_8 : decode cX0_told 8 = .ok (.bipush (-5), 2) := by decide +kernel
theorem dX0_told_10 : decode cX0_told 10 = .ok (.ireturn, 1) := by decide +kernel
theorem dX0_told_11 : decode cX0_told 11 = .ok (.iload_n 2, 1) := by decide +kernel
theorem dX0_told_12 : decode cX0_told 12 = .ok (.tableswitch 76 0 3 #[32, 39, 46, 61], 32) := by decide +kernel
theorem dX0_told_44 : decode cX0_told 44 = .ok (.aload_n 0, 1) := by decide +kernel
theorem dX0_told_45 : decode cX0_told 45 = .ok (.getfield 30, 3) := by decide +kernel
theorem dX0_told_48 : decode cX0_told 48 = .ok (.iload_n 1, 1) := by decide +kernel
theorem dX0_told_49 : decode cX0_told 49 = .ok (.iaload, 1) := by decide +kernel
theorem dX0_told_50 : decode cX0_told 50 = .ok (.ireturn, 1) := by decide +kernel
theorem dX0_told_51 : decode cX0_told 51 = .ok (.aload_n 0, 1) := by decide +kernel
theorem dX0_told_52 : decode cX0_told 52 = .ok (.getfield 33, 3) := by decide +kernel
theorem dX0_told_55 : decode cX0_told 55 = .ok (.iload_n 1, 1) := by decide +kernel
theorem dX0_told_56 : decode cX0_told 56 = .ok (.iaload, 1) := by decide +kernel
theorem dX0_told_57 : decode cX0_told 57 = .ok (.ireturn, 1) := by decide +kernel
theorem dX0_told_58 : decode cX0_told 58 = .ok (.aload_n 0, 1) := by decide +kernel
theorem dX0_told_59 : decode cX0_told 59 = .ok (.getfield 36, 3) := by decide +kernel
theorem dX0_told_62 : decode cX0_told 62 = .ok (.iload_n 1, 1) := by decide +kernel
theorem dX0_told_63 : decode cX0_told 63 = .ok (.baload, 1) := by decide +kernel
theorem dX0_told_64 : decode cX0_told 64 = .ok (.ifCond .eq 7, 3) := by decide +kernel
theorem dX0_told_67 : decode cX0_told 67 = .ok (.iconst 1, 1) := by decide +kernel
theorem dX0_told_68 : decode cX0_told 68 = .ok (.goto 4, 3) := by decide +kernel
theorem dX0_told_71 : decode cX0_told 71 = .ok (.iconst 0, 1) := by decide +kernel
theorem dX0_told_72 : decode cX0_told 72 = .ok (.ireturn, 1) := by decide +kernel
theorem dX0_told_73 : decode cX0_told 73 = .ok (.aload_n 0, 1) := by decide +kernel
theorem dX0_told_74 : decode cX0_told 74 = .ok (.getfield 40, 3) := by decide +kernel
theorem dX0_told_77 : decode cX0_told 77 = .ok (.iload_n 1, 1) := by decide +kernel
theorem dX0_told_78 : decode cX0_told 78 = .ok (.baload, 1) := by decide +kernel
theorem dX0_told_79 : decode cX0_told 79 = .ok (.ifCond .eq 7, 3) := by decide +kernel
theorem dX0_told_82 : decode cX0_told 82 = .ok (.iconst 1, 1) := by decide +kernel
theorem dX0_told_83 : decode cX0_told 83 = .ok (.goto 4, 3) := by decide +kernel
theorem dX0_told_86 : decode cX0_told 86 = .ok (.iconst 0, 1) := by decide +kernel
theorem dX0_told_87 : decode cX0_told 87 = .ok (.ireturn, 1) := by decide +kernel
theorem dX0_told_88 : decode cX0_told 88 = .ok (.bipush (-5), 2) := by decide +kernel
theorem dX0_told_90 : decode cX0_told 90 = .ok (.ireturn, 1) := by decide +kernel
theorem dX0_hand_0 : decode cX0_hand 0 = .ok (.aload_n 0, 1) := by decide +kernel
theorem dX0_hand_1 : decode cX0_hand 1 = .ok (.getfield 50, 3) := by decide +kernel
theorem dX0_hand_4 : decode cX0_hand 4 = .ok (.ireturn, 1) := by decide +kernel
theorem dX0_pinned_0 : decode cX0_pinned 0 = .ok (.iconst 0, 1) := by decide +kernel
theorem dX0_pinned_1 : decode cX0_pinned 1 = .ok (.istore_n 1, 1) := by decide +kernel
theorem dX0_pinned_2 : decode cX0_pinned 2 = .ok (.iconst 0, 1) := by decide +kernel
theorem dX0_pinned_3 : decode cX0_pinned 3 = .ok (.istore_n 2, 1) := by decide +kernel
theorem dX0_pinned_4 : decode cX0_pinned 4 = .ok (.iload_n 2, 1) := by decide +kernel
theorem dX0_pinned_5 : decode cX0_pinned 5 = .ok (.aload_n 0, 1) := by decide +kernel
theorem dX0_pinned_6 : decode cX0_pinned 6 = .ok (.getfield 13, 3) := by decide +kernel
theorem dX0_pinned_9 : decode cX0_pinned 9 = .ok (.if_icmp .ge 21, 3) := by decide +kernel
theorem dX0_pinned_12 : decode cX0_pinned 12 = .ok (.aload_n 0, 1) := by decide +kernel
theorem dX0_pinned_13 : decode cX0_pinned 13 = .ok (.getfield 33, 3) := by decide +kernel
theorem dX0_pinned_16 : decode cX0_pinned 16 = .ok (.iload_n 2, 1) := by decide +kernel
theorem dX0_pinned_17 : decode cX0_pinned 17 = .ok (.iaload, 1) := by decide +kernel
theorem dX0_pinned_18 : decode cX0_pinned 18 = .ok (.ifCond .le 6, 3) := by decide +kernel
theorem dX0_pinned_21 : decode cX0_pinned 21 = .ok (.iinc 1 1, 3) := by decide +kernel
theorem dX0_pinned_24 : decode cX0_pinned 24 = .ok (.iinc 2 1, 3) := by decide +kernel
theorem dX0_pinned_27 : decode cX0_pinned 27 = .ok (.goto (-23), 3) := by decide +kernel
theorem dX0_pinned_30 : decode cX0_pinned 30 = .ok (.iload_n 1, 1) := by decide +kernel
theorem dX0_pinned_31 : decode cX0_pinned 31 = .ok (.ireturn, 1) := by decide +kernel
theorem dX0_within_0 : decode cX0_within 0 = .ok (.iconst 1, 1) := by decide +kernel
theorem dX0_within_1 : decode cX0_within 1 = .ok (.iload_n 0, 1) := by decide +kernel
theorem dX0_within_2 : decode cX0_within 2 = .ok (.iload_n 1, 1) := by decide +kernel
theorem dX0_within_3 : decode cX0_within 3 = .ok (.invokestatic 91, 3) := by decide +kernel
theorem dX0_within_6 : decode cX0_within 6 = .ok (.invokestatic 96, 3) := by decide +kernel
theorem dX0_within_9 : decode cX0_within 9 = .ok (.ireturn, 1) := by decide +kernel
theorem dX0_isPage_0 : decode cX0_isPage 0 = .ok (.iload_n 1, 1) := by decide +kernel
theorem dX0_isPage_1 : decode cX0_isPage 1 = .ok (.ifCond .lt 15, 3) := by decide +kernel
theorem dX0_isPage_4 : decode cX0_isPage 4 = .ok (.iload_n 1, 1) := by decide +kernel
theorem dX0_isPage_5 : decode cX0_isPage 5 = .ok (.aload_n 0, 1) := by decide +kernel
theorem dX0_isPage_6 : decode cX0_isPage 6 = .ok (.getfield 17, 3) := by decide +kernel
theorem dX0_isPage_9 : decode cX0_isPage 9 = .ok (.if_icmp .ge 7, 3) := by decide +kernel
theorem dX0_isPage_12 : decode cX0_isPage 12 = .ok (.iconst 1, 1) := by decide +kernel
theorem dX0_isPage_13 : decode cX0_isPage 13 = .ok (.goto 4, 3) := by decide +kernel
theorem dX0_isPage_16 : decode cX0_isPage 16 = .ok (.iconst 0, 1) := by decide +kernel
theorem dX0_isPage_17 : decode cX0_isPage 17 = .ok (.ireturn, 1) := by decide +kernel
theorem dX0_isOffset_0 : decode cX0_isOffset 0 = .ok (.iload_n 1, 1) := by decide +kernel
theorem dX0_isOffset_1 : decode cX0_isOffset 1 = .ok (.ifCond .lt 15, 3) := by decide +kernel
theorem dX0_isOffset_4 : decode cX0_isOffset 4 = .ok (.iload_n 1, 1) := by decide +kernel
theorem dX0_isOffset_5 : decode cX0_isOffset 5 = .ok (.aload_n 0, 1) := by decide +kernel
theorem dX0_isOffset_6 : decode cX0_isOffset 6 = .ok (.getfield 20, 3) := by decide +kernel
theorem dX0_isOffset_9 : decode cX0_isOffset 9 = .ok (.if_icmp .ge 7, 3) := by decide +kernel
theorem dX0_isOffset_12 : decode cX0_isOffset 12 = .ok (.iconst 1, 1) := by decide +kernel
theorem dX0_isOffset_13 : decode cX0_isOffset 13 = .ok (.goto 4, 3) := by decide +kernel
theorem dX0_isOffset_16 : decode cX0_isOffset 16 = .ok (.iconst 0, 1) := by decide +kernel
theorem dX0_isOffset_17 : decode cX0_isOffset 17 = .ok (.ireturn, 1) := by decide +kernel
theorem dX0_isFrame_0 : decode cX0_isFrame 0 = .ok (.iload_n 1, 1) := by decide +kernel
theorem dX0_isFrame_1 : decode cX0_isFrame 1 = .ok (.ifCond .lt 15, 3) := by decide +kernel
theorem dX0_isFrame_4 : decode cX0_isFrame 4 = .ok (.iload_n 1, 1) := by decide +kernel
theorem dX0_isFrame_5 : decode cX0_isFrame 5 = .ok (.aload_n 0, 1) := by decide +kernel
theorem dX0_isFrame_6 : decode cX0_isFrame 6 = .ok (.getfield 13, 3) := by decide +kernel
theorem dX0_isFrame_9 : decode cX0_isFrame 9 = .ok (.if_icmp .ge 7, 3) := by decide +kernel
theorem dX0_isFrame_12 : decode cX0_isFrame 12 = .ok (.iconst 1, 1) := by decide +kernel
theorem dX0_isFrame_13 : decode cX0_isFrame 13 = .ok (.goto 4, 3) := by decide +kernel
theorem dX0_isFrame_16 : decode cX0_isFrame 16 = .ok (.iconst 0, 1) := by decide +kernel
theorem dX0_isFrame_17 : decode cX0_isFrame 17 = .ok (.ireturn, 1) := by decide +kernel
set_option maxRecDepth 20000 in
theorem ggX0_isPinnedFrame_X0_isFrame : GoodIn wsX0_isPinnedFrame wsX0_isFrame := goodIn_r _ [6, 7, 8, 9, 10, 11, 12, 13, 14, 15, 16, 17, 18, 19] (by decide +kernel) (by decide +kernel)
set_option maxRecDepth 20000 in
theorem gX0_isPinnedFrame_X0_isFrame : GoodIn wsX0_isPinnedFrame (wsV RX0 88 RX0 yX0_isFrame wsX0_isFrame) := goodIn_app (goodIn_of _ (by decide +kernel)) ggX0_isPinnedFrame_X0_isFrame
theorem dX0_isPinnedFrame_0 : decode cX0_isPinnedFrame 0 = .ok (.aload_n 0, 1) := by decide +kernel
theorem dX0_isPinnedFrame_1 : decode cX0_isPinnedFrame 1 = .ok (.iload_n 1, 1) := by decide +kernel
theorem dX0_isPinnedFrame_2 : decode cX0_isPinnedFrame 2 = .ok (.invokevirtual 88, 3) := by decide +kernel
theorem dX0_isPinnedFrame_5 : decode cX0_isPinnedFrame 5 = .ok (.ifCond .eq 16, 3) := by decide +kernel
theorem dX0_isPinnedFrame_8 : decode cX0_isPinnedFrame 8 = .ok (.aload_n 0, 1) := by decide +kernel
theorem dX0_isPinnedFrame_9 : decode cX0_isPinnedFrame 9 = .ok (.getfield 33, 3) := by decide +kernel
theorem dX0_isPinnedFrame_12 : decode cX0_isPinnedFrame 12 = .ok (.iload_n 1, 1) := by decide +kernel
theorem dX0_isPinnedFrame_13 : decode cX0_isPinnedFrame 13 = .ok (.iaload, 1) := by decide +kernel
theorem dX0_isPinnedFrame_14 : decode cX0_isPinnedFrame 14 = .ok (.ifCond .le 7, 3) := by decide +kernel
theorem dX0_isPinnedFrame_17 : decode cX0_isPinnedFrame 17 = .ok (.iconst 1, 1) := by decide +kernel
theorem dX0_isPinnedFrame_18 : decode cX0_isPinnedFrame 18 = .ok (.goto 4, 3) := by decide +kernel
theorem dX0_isPinnedFrame_21 : decode cX0_isPinnedFrame 21 = .ok (.iconst 0, 1) := by decide +kernel
theorem dX0_isPinnedFrame_22 : decode cX0_isPinnedFrame 22 = .ok (.ireturn, 1) := by decide +kernel
set_option maxRecDepth 20000 in
theorem ggX0_frameOf_X0_isPage : GoodIn wsX0_frameOf wsX0_isPage := goodIn_r _ [7, 8, 9, 10, 11, 12, 13, 14, 15, 16, 17, 18, 19, 20] (by decide +kernel) (by decide +kernel)
set_option maxRecDepth 20000 in
theorem gX0_frameOf_X0_isPage : GoodIn wsX0_frameOf (wsV RX0 59 RX0 yX0_isPage wsX0_isPage) := goodIn_app (goodIn_of _ (by decide +kernel)) ggX0_frameOf_X0_isPage
theorem dX0_frameOf_0 : decode cX0_frameOf 0 = .ok (.aload_n 0, 1) := by decide +kernel
theorem dX0_frameOf_1 : decode cX0_frameOf 1 = .ok (.iload_n 1, 1) := by decide +kernel
theorem dX0_frameOf_2 : decode cX0_frameOf 2 = .ok (.invokevirtual 59, 3) := by decide +kernel
theorem dX0_frameOf_5 : decode cX0_frameOf 5 = .ok (.ifCond .ne 5, 3) := by decide +kernel
theorem dX0_frameOf_8 : decode cX0_frameOf 8 = .ok (.iconst (-1), 1) := by decide +kernel
theorem dX0_frameOf_9 : decode cX0_frameOf 9 = .ok (.ireturn, 1) := by decide +kernel
theorem dX0_frameOf_10 : decode cX0_frameOf 10 = .ok (.iconst 0, 1) := by decide +kernel
theorem dX0_frameOf_11 : decode cX0_frameOf 11 = .ok (.istore_n 2, 1) := by decide +kernel
theorem dX0_frameOf_12 : decode cX0_frameOf 12 = .ok (.iload_n 2, 1) := by decide +kernel
theorem dX0_frameOf_13 : decode cX0_frameOf 13 = .ok (.aload_n 0, 1) := by decide +kernel
theorem dX0_frameOf_14 : decode cX0_frameOf 14 = .ok (.getfield 13, 3) := by decide +kernel
theorem dX0_frameOf_17 : decode cX0_frameOf 17 = .ok (.if_icmp .ge 21, 3) := by decide +kernel
theorem dX0_frameOf_20 : decode cX0_frameOf 20 = .ok (.aload_n 0, 1) := by decide +kernel
theorem dX0_frameOf_21 : decode cX0_frameOf 21 = .ok (.getfield 30, 3) := by decide +kernel
theorem dX0_frameOf_24 : decode cX0_frameOf 24 = .ok (.iload_n 2, 1) := by decide +kernel
theorem dX0_frameOf_25 : decode cX0_frameOf 25 = .ok (.iaload, 1) := by decide +kernel
theorem dX0_frameOf_26 : decode cX0_frameOf 26 = .ok (.iload_n 1, 1) := by decide +kernel
theorem dX0_frameOf_27 : decode cX0_frameOf 27 = .ok (.if_icmp .ne 5, 3) := by decide +kernel
theorem dX0_frameOf_30 : decode cX0_frameOf 30 = .ok (.iload_n 2, 1) := by decide +kernel
theorem dX0_frameOf_31 : decode cX0_frameOf 31 = .ok (.ireturn, 1) := by decide +kernel
theorem dX0_frameOf_32 : decode cX0_frameOf 32 = .ok (.iinc 2 1, 3) := by decide +kernel
theorem dX0_frameOf_35 : decode cX0_frameOf 35 = .ok (.goto (-23), 3) := by decide +kernel
theorem dX0_frameOf_38 : decode cX0_frameOf 38 = .ok (.iconst (-1), 1) := by decide +kernel
theorem dX0_frameOf_39 : decode cX0_frameOf 39 = .ok (.ireturn, 1) := by decide +kernel
set_option maxRecDepth 20000 in
theorem ggX0_findFrame_X0_pinned : GoodIn wsX0_findFrame wsX0_pinned := goodIn_r _ [7, 1, 8, 40, 41, 42, 43, 44, 45, 46, 47, 48, 49, 50, 51] (by decide +kernel) (by decide +kernel)
set_option maxRecDepth 20000 in
theorem gX0_findFrame_X0_pinned : GoodIn wsX0_findFrame (wsV RX0 99 RX0 yX0_pinned wsX0_pinned) := goodIn_app (goodIn_of _ (by decide +kernel)) ggX0_findFrame_X0_pinned
set_option maxRecDepth 20000 in
theorem ggX0_findFrame_X0_moveHand : GoodIn wsX0_findFrame wsX0_moveHand := goodIn_r _ [12, 2, 1, 40, 41, 42, 43, 44, 45, 46, 47, 48, 49, 50, 51] (by decide +kernel) (by decide +kernel)
set_option maxRecDepth 20000 in
theorem gX0_findFrame_X0_moveHand : GoodIn wsX0_findFrame (wsV RX0 102 RX0 yX0_moveHand wsX0_moveHand) := goodIn_app (goodIn_of _ (by decide +kernel)) ggX0_findFrame_X0_moveHand
set_option maxRecDepth 20000 in
theorem ggX0_findFrame_X0_givesWay : GoodIn wsX0_findFrame wsX0_givesWay := goodIn_r _ [16, 8, 17, 18, 19, 20, 21, 22, 6, 23, 24, 25, 26, 27, 28, 29, 30, 31, 32, 33, 34, 35, 36, 37, 38, 39, 40, 41, 42, 43, 44, 45, 46, 47, 48, 49, 50, 51] (by decide +kernel) (by decide +kernel)
set_option maxRecDepth 20000 in
theorem gX0_findFrame_X0_givesWay : GoodIn wsX0_findFrame (wsV RX0 105 RX0 yX0_givesWay wsX0_givesWay) := goodIn_app (goodIn_of _ (by decide +kernel)) ggX0_findFrame_X0_givesWay
theorem dX0_findFrame_0 : decode cX0_findFrame 0 = .ok (.aload_n 0, 1) := by decide +kernel
theorem dX0_findFrame_1 : decode cX0_findFrame 1 = .ok (.invokevirtual 99, 3) := by decide +kernel
theorem dX0_findFrame_4 : decode cX0_findFrame 4 = .ok (.aload_n 0, 1) := by decide +kernel
theorem dX0_findFrame_5 : decode cX0_findFrame 5 = .ok (.getfield 13, 3) := by decide +kernel
theorem dX0_findFrame_8 : decode cX0_findFrame 8 = .ok (.if_icmp .ne 5, 3) := by decide +kernel
theorem dX0_findFrame_11 : decode cX0_findFrame 11 = .ok (.iconst (-1), 1) := by decide +kernel
theorem dX0_findFrame_12 : decode cX0_findFrame 12 = .ok (.ireturn, 1) := by decide +kernel
theorem dX0_findFrame_13 : decode cX0_findFrame 13 = .ok (.iconst 0, 1) := by decide +kernel
theorem dX0_findFrame_14 : decode cX0_findFrame 14 = .ok (.istore_n 1, 1) := by decide +kernel
theorem dX0_findFrame_15 : decode cX0_findFrame 15 = .ok (.iload_n 1, 1) := by decide +kernel
theorem dX0_findFrame_16 : decode cX0_findFrame 16 = .ok (.iconst 2, 1) := by decide +kernel
theorem dX0_findFrame_17 : decode cX0_findFrame 17 = .ok (.aload_n 0, 1) := by decide +kernel
theorem dX0_findFrame_18 : decode cX0_findFrame 18 = .ok (.getfield 13, 3) := by decide +kernel
theorem dX0_findFrame_21 : decode cX0_findFrame 21 = .ok (.imul, 1) := by decide +kernel
theorem dX0_findFrame_22 : decode cX0_findFrame 22 = .ok (.if_icmp .ge 28, 3) := by decide +kernel
theorem dX0_findFrame_25 : decode cX0_findFrame 25 = .ok (.aload_n 0, 1) := by decide +kernel
theorem dX0_findFrame_26 : decode cX0_findFrame 26 = .ok (.getfield 50, 3) := by decide +kernel
theorem dX0_findFrame_29 : decode cX0_findFrame 29 = .ok (.istore_n 2, 1) := by decide +kernel
theorem dX0_findFrame_30 : decode cX0_findFrame 30 = .ok (.aload_n 0, 1) := by decide +kernel
theorem dX0_findFrame_31 : decode cX0_findFrame 31 = .ok (.invokevirtual 102, 3) := by decide +kernel
theorem dX0_findFrame_34 : decode cX0_findFrame 34 = .ok (.aload_n 0, 1) := by decide +kernel
theorem dX0_findFrame_35 : decode cX0_findFrame 35 = .ok (.iload_n 2, 1) := by decide +kernel
theorem dX0_findFrame_36 : decode cX0_findFrame 36 = .ok (.invokevirtual 105, 3) := by decide +kernel
theorem dX0_findFrame_39 : decode cX0_findFrame 39 = .ok (.ifCond .eq 5, 3) := by decide +kernel
theorem dX0_findFrame_42 : decode cX0_findFrame 42 = .ok (.iload_n 2, 1) := by decide +kernel
theorem dX0_findFrame_43 : decode cX0_findFrame 43 = .ok (.ireturn, 1) := by decide +kernel
theorem dX0_findFrame_44 : decode cX0_findFrame 44 = .ok (.iinc 1 1, 3) := by decide +kernel
theorem dX0_findFrame_47 : decode cX0_findFrame 47 = .ok (.goto (-32), 3) := by decide +kernel
theorem dX0_findFrame_50 : decode cX0_findFrame 50 = .ok (.iconst (-1), 1) := by decide +kernel
theorem dX0_findFrame_51 : decode cX0_findFrame 51 = .ok (.ireturn, 1) := by decide +kernel
theorem dX0_moveHand_0 : decode cX0_moveHand 0 = .ok (.aload_n 0, 1) := by decide +kernel
theorem dX0_moveHand_1 : decode cX0_moveHand 1 = .ok (.aload_n 0, 1) := by decide +kernel
theorem dX0_moveHand_2 : decode cX0_moveHand 2 = .ok (.getfield 50, 3) := by decide +kernel
theorem dX0_moveHand_5 : decode cX0_moveHand 5 = .ok (.iconst 1, 1) := by decide +kernel
theorem dX0_moveHand_6 : decode cX0_moveHand 6 = .ok (.iadd, 1) := by decide +kernel
theorem dX0_moveHand_7 : decode cX0_moveHand 7 = .ok (.aload_n 0, 1) := by decide +kernel
theorem dX0_moveHand_8 : decode cX0_moveHand 8 = .ok (.getfield 13, 3) := by decide +kernel
theorem dX0_moveHand_11 : decode cX0_moveHand 11 = .ok (.if_icmp .ge 12, 3) := by decide +kernel
theorem dX0_moveHand_14 : decode cX0_moveHand 14 = .ok (.aload_n 0, 1) := by decide +kernel
theorem dX0_moveHand_15 : decode cX0_moveHand 15 = .ok (.getfield 50, 3) := by decide +kernel
theorem dX0_moveHand_18 : decode cX0_moveHand 18 = .ok (.iconst 1, 1) := by decide +kernel
theorem dX0_moveHand_19 : decode cX0_moveHand 19 = .ok (.iadd, 1) := by decide +kernel
theorem dX0_moveHand_20 : decode cX0_moveHand 20 = .ok (.goto 4, 3) := by decide +kernel
theorem dX0_moveHand_23 : decode cX0_moveHand 23 = .ok (.iconst 0, 1) := by decide +kernel
theorem dX0_moveHand_24 : decode cX0_moveHand 24 = .ok (.putfield 50, 3) := by decide +kernel
theorem dX0_moveHand_27 : decode cX0_moveHand 27 = .ok (.return_, 1) := by decide +kernel
set_option maxRecDepth 20000 in
theorem ggX0_givesWay_X0_writeBack : GoodIn wsX0_givesWay wsX0_writeBack := goodIn_r _ [9, 10, 11, 2, 4, 12, 13, 14, 15, 8, 16, 17, 18, 19, 20, 21, 26, 27, 28, 29, 30, 31, 32, 33, 34, 35, 36, 37] (by decide +kernel) (by decide +kernel)
set_option maxRecDepth 20000 in
theorem gX0_givesWay_X0_writeBack : GoodIn wsX0_givesWay (wsV RX0 81 RX0 yX0_writeBack wsX0_writeBack) := goodIn_app (goodIn_of _ (by decide +kernel)) ggX0_givesWay_X0_writeBack
set_option maxRecDepth 20000 in
theorem ggX0_givesWay_X0_makeEmpty : GoodIn wsX0_givesWay wsX0_makeEmpty := goodIn_r _ [25, 2, 1, 4, 3, 26, 27, 28, 29, 30, 31, 32, 33, 34, 35, 36, 37] (by decide +kernel) (by decide +kernel)
set_option maxRecDepth 20000 in
theorem gX0_givesWay_X0_makeEmpty : GoodIn wsX0_givesWay (wsV RX0 46 RX0 yX0_makeEmpty wsX0_makeEmpty) := goodIn_app (goodIn_of _ (by decide +kernel)) ggX0_givesWay_X0_makeEmpty
theorem dX0_givesWay_0 : decode cX0_givesWay 0 = .ok (.aload_n 0, 1) := by decide +kernel
theorem dX0_givesWay_1 : decode cX0_givesWay 1 = .ok (.getfield 33, 3) := by decide +kernel
theorem dX0_givesWay_4 : decode cX0_givesWay 4 = .ok (.iload_n 1, 1) := by decide +kernel
theorem dX0_givesWay_5 : decode cX0_givesWay 5 = .ok (.iaload, 1) := by decide +kernel
theorem dX0_givesWay_6 : decode cX0_givesWay 6 = .ok (.ifCond .le 5, 3) := by decide +kernel
theorem dX0_givesWay_9 : decode cX0_givesWay 9 = .ok (.iconst 0, 1) := by decide +kernel
theorem dX0_givesWay_10 : decode cX0_givesWay 10 = .ok (.ireturn, 1) := by decide +kernel
theorem dX0_givesWay_11 : decode cX0_givesWay 11 = .ok (.aload_n 0, 1) := by decide +kernel
theorem dX0_givesWay_12 : decode cX0_givesWay 12 = .ok (.getfield 30, 3) := by decide +kernel
theorem dX0_givesWay_15 : decode cX0_givesWay 15 = .ok (.iload_n 1, 1) := by decide +kernel
theorem dX0_givesWay_16 : decode cX0_givesWay 16 = .ok (.iaload, 1) := by decide +kernel
theorem dX0_givesWay_17 : decode cX0_givesWay 17 = .ok (.iconst (-1), 1) := by decide +kernel
theorem dX0_givesWay_18 : decode cX0_givesWay 18 = .ok (.if_icmp .ne 5, 3) := by decide +kernel
theorem dX0_givesWay_21 : decode cX0_givesWay 21 = .ok (.iconst 1, 1) := by decide +kernel
theorem dX0_givesWay_22 : decode cX0_givesWay 22 = .ok (.ireturn, 1) := by decide +kernel
theorem dX0_givesWay_23 : decode cX0_givesWay 23 = .ok (.aload_n 0, 1) := by decide +kernel
theorem dX0_givesWay_24 : decode cX0_givesWay 24 = .ok (.getfield 40, 3) := by decide +kernel
theorem dX0_givesWay_27 : decode cX0_givesWay 27 = .ok (.iload_n 1, 1) := by decide +kernel
theorem dX0_givesWay_28 : decode cX0_givesWay 28 = .ok (.baload, 1) := by decide +kernel
theorem dX0_givesWay_29 : decode cX0_givesWay 29 = .ok (.ifCond .eq 12, 3) := by decide +kernel
theorem dX0_givesWay_32 : decode cX0_givesWay 32 = .ok (.aload_n 0, 1) := by decide +kernel
theorem dX0_givesWay_33 : decode cX0_givesWay 33 = .ok (.getfield 40, 3) := by decide +kernel
theorem dX0_givesWay_36 : decode cX0_givesWay 36 = .ok (.iload_n 1, 1) := by decide +kernel
theorem dX0_givesWay_37 : decode cX0_givesWay 37 = .ok (.iconst 0, 1) := by decide +kernel
theorem dX0_givesWay_38 : decode cX0_givesWay 38 = .ok (.bastore, 1) := by decide +kernel
theorem dX0_givesWay_39 : decode cX0_givesWay 39 = .ok (.iconst 0, 1) := by decide +kernel
theorem dX0_givesWay_40 : decode cX0_givesWay 40 = .ok (.ireturn, 1) := by decide +kernel
theorem dX0_givesWay_41 : decode cX0_givesWay 41 = .ok (.aload_n 0, 1) := by decide +kernel
theorem dX0_givesWay_42 : decode cX0_givesWay 42 = .ok (.getfield 36, 3) := by decide +kernel
theorem dX0_givesWay_45 : decode cX0_givesWay 45 = .ok (.iload_n 1, 1) := by decide +kernel
theorem dX0_givesWay_46 : decode cX0_givesWay 46 = .ok (.baload, 1) := by decide +kernel
theorem dX0_givesWay_47 : decode cX0_givesWay 47 = .ok (.ifCond .eq 8, 3) := by decide +kernel
theorem dX0_givesWay_50 : decode cX0_givesWay 50 = .ok (.aload_n 0, 1) := by decide +kernel
theorem dX0_givesWay_51 : decode cX0_givesWay 51 = .ok (.iload_n 1, 1) := by decide +kernel
theorem dX0_givesWay_52 : decode cX0_givesWay 52 = .ok (.invokevirtual 81, 3) := by decide +kernel
theorem dX0_givesWay_55 : decode cX0_givesWay 55 = .ok (.aload_n 0, 1) := by decide +kernel
theorem dX0_givesWay_56 : decode cX0_givesWay 56 = .ok (.iload_n 1, 1) := by decide +kernel
theorem dX0_givesWay_57 : decode cX0_givesWay 57 = .ok (.invokevirtual 46, 3) := by decide +kernel
theorem dX0_givesWay_60 : decode cX0_givesWay 60 = .ok (.iconst 1, 1) := by decide +kernel
theorem dX0_givesWay_61 : decode cX0_givesWay 61 = .ok (.ireturn, 1) := by decide +kernel
theorem dX0_makeEmpty_0 : decode cX0_makeEmpty 0 = .ok (.aload_n 0, 1) := by decide +kernel
theorem dX0_makeEmpty_1 : decode cX0_makeEmpty 1 = .ok (.getfield 30, 3) := by decide +kernel
theorem dX0_makeEmpty_4 : decode cX0_makeEmpty 4 = .ok (.iload_n 1, 1) := by decide +kernel
theorem dX0_makeEmpty_5 : decode cX0_makeEmpty 5 = .ok (.iconst (-1), 1) := by decide +kernel
theorem dX0_makeEmpty_6 : decode cX0_makeEmpty 6 = .ok (.iastore, 1) := by decide +kernel
theorem dX0_makeEmpty_7 : decode cX0_makeEmpty 7 = .ok (.aload_n 0, 1) := by decide +kernel
theorem dX0_makeEmpty_8 : decode cX0_makeEmpty 8 = .ok (.getfield 33, 3) := by decide +kernel
theorem dX0_makeEmpty_11 : decode cX0_makeEmpty 11 = .ok (.iload_n 1, 1) := by decide +kernel
theorem dX0_makeEmpty_12 : decode cX0_makeEmpty 12 = .ok (.iconst 0, 1) := by decide +kernel
theorem dX0_makeEmpty_13 : decode cX0_makeEmpty 13 = .ok (.iastore, 1) := by decide +kernel
theorem dX0_makeEmpty_14 : decode cX0_makeEmpty 14 = .ok (.aload_n 0, 1) := by decide +kernel
theorem dX0_makeEmpty_15 : decode cX0_makeEmpty 15 = .ok (.getfield 36, 3) := by decide +kernel
theorem dX0_makeEmpty_18 : decode cX0_makeEmpty 18 = .ok (.iload_n 1, 1) := by decide +kernel
theorem dX0_makeEmpty_19 : decode cX0_makeEmpty 19 = .ok (.iconst 0, 1) := by decide +kernel
theorem dX0_makeEmpty_20 : decode cX0_makeEmpty 20 = .ok (.bastore, 1) := by decide +kernel
theorem dX0_makeEmpty_21 : decode cX0_makeEmpty 21 = .ok (.aload_n 0, 1) := by decide +kernel
theorem dX0_makeEmpty_22 : decode cX0_makeEmpty 22 = .ok (.getfield 40, 3) := by decide +kernel
theorem dX0_makeEmpty_25 : decode cX0_makeEmpty 25 = .ok (.iload_n 1, 1) := by decide +kernel
theorem dX0_makeEmpty_26 : decode cX0_makeEmpty 26 = .ok (.iconst 0, 1) := by decide +kernel
theorem dX0_makeEmpty_27 : decode cX0_makeEmpty 27 = .ok (.bastore, 1) := by decide +kernel
theorem dX0_makeEmpty_28 : decode cX0_makeEmpty 28 = .ok (.return_, 1) := by decide +kernel
set_option maxRecDepth 20000 in
theorem ggX0_readInto_X0_copyWords : GoodIn wsX0_readInto wsX0_copyWords := goodIn_r _ [9, 10, 11, 12, 13, 14, 15, 16, 17, 18, 19, 20, 21, 22, 23, 24, 25, 26] (by decide +kernel) (by decide +kernel)
set_option maxRecDepth 20000 in
theorem gX0_readInto_X0_copyWords : GoodIn wsX0_readInto (wsV RX0 84 RX0 yX0_copyWords wsX0_copyWords) := goodIn_app (goodIn_of _ (by decide +kernel)) ggX0_readInto_X0_copyWords
theorem dX0_readInto_0 : decode cX0_readInto 0 = .ok (.aload_n 0, 1) := by decide +kernel
theorem dX0_readInto_1 : decode cX0_readInto 1 = .ok (.aload_n 0, 1) := by decide +kernel
theorem dX0_readInto_2 : decode cX0_readInto 2 = .ok (.getfield 23, 3) := by decide +kernel
theorem dX0_readInto_5 : decode cX0_readInto 5 = .ok (.iload_n 2, 1) := by decide +kernel
theorem dX0_readInto_6 : decode cX0_readInto 6 = .ok (.aload_n 0, 1) := by decide +kernel
theorem dX0_readInto_7 : decode cX0_readInto 7 = .ok (.getfield 27, 3) := by decide +kernel
theorem dX0_readInto_10 : decode cX0_readInto 10 = .ok (.iload_n 1, 1) := by decide +kernel
theorem dX0_readInto_11 : decode cX0_readInto 11 = .ok (.invokevirtual 84, 3) := by decide +kernel
theorem dX0_readInto_14 : decode cX0_readInto 14 = .ok (.aload_n 0, 1) := by decide +kernel
theorem dX0_readInto_15 : decode cX0_readInto 15 = .ok (.getfield 30, 3) := by decide +kernel
theorem dX0_readInto_18 : decode cX0_readInto 18 = .ok (.iload_n 1, 1) := by decide +kernel
theorem dX0_readInto_19 : decode cX0_readInto 19 = .ok (.iload_n 2, 1) := by decide +kernel
theorem dX0_readInto_20 : decode cX0_readInto 20 = .ok (.iastore, 1) := by decide +kernel
theorem dX0_readInto_21 : decode cX0_readInto 21 = .ok (.aload_n 0, 1) := by decide +kernel
theorem dX0_readInto_22 : decode cX0_readInto 22 = .ok (.dup, 1) := by decide +kernel
theorem dX0_readInto_23 : decode cX0_readInto 23 = .ok (.getfield 53, 3) := by decide +kernel
theorem dX0_readInto_26 : decode cX0_readInto 26 = .ok (.iconst 1, 1) := by decide +kernel
theorem dX0_readInto_27 : decode cX0_readInto 27 = .ok (.iadd, 1) := by decide +kernel
theorem dX0_readInto_28 : decode cX0_readInto 28 = .ok (.putfield 53, 3) := by decide +kernel
theorem dX0_readInto_31 : decode cX0_readInto 31 = .ok (.return_, 1) := by decide +kernel
set_option maxRecDepth 20000 in
theorem ggX0_writeBack_X0_copyWords : GoodIn wsX0_writeBack wsX0_copyWords := goodIn_r _ [10, 11, 12, 13, 14, 15, 16, 17, 18, 19, 20, 21, 22, 23, 24, 25, 26, 27] (by decide +kernel) (by decide +kernel)
set_option maxRecDepth 20000 in
theorem gX0_writeBack_X0_copyWords : GoodIn wsX0_writeBack (wsV RX0 84 RX0 yX0_copyWords wsX0_copyWords) := goodIn_app (goodIn_of _ (by decide +kernel)) ggX0_writeBack_X0_copyWords
theorem dX0_writeBack_0 : decode cX0_writeBack 0 = .ok (.aload_n 0, 1) := by decide +kernel
theorem dX0_writeBack_1 : decode cX0_writeBack 1 = .ok (.aload_n 0, 1) := by decide +kernel
theorem dX0_writeBack_2 : decode cX0_writeBack 2 = .ok (.getfield 27, 3) := by decide +kernel
theorem dX0_writeBack_5 : decode cX0_writeBack 5 = .ok (.iload_n 1, 1) := by decide +kernel
theorem dX0_writeBack_6 : decode cX0_writeBack 6 = .ok (.aload_n 0, 1) := by decide +kernel
theorem dX0_writeBack_7 : decode cX0_writeBack 7 = .ok (.getfield 23, 3) := by decide +kernel
theorem dX0_writeBack_10 : decode cX0_writeBack 10 = .ok (.aload_n 0, 1) := by decide +kernel
theorem dX0_writeBack_11 : decode cX0_writeBack 11 = .ok (.getfield 30, 3) := by decide +kernel
theorem dX0_writeBack_14 : decode cX0_writeBack 14 = .ok (.iload_n 1, 1) := by decide +kernel
theorem dX0_writeBack_15 : decode cX0_writeBack 15 = .ok (.iaload, 1) := by decide +kernel
theorem dX0_writeBack_16 : decode cX0_writeBack 16 = .ok (.invokevirtual 84, 3) := by decide +kernel
theorem dX0_writeBack_19 : decode cX0_writeBack 19 = .ok (.aload_n 0, 1) := by decide +kernel
theorem dX0_writeBack_20 : decode cX0_writeBack 20 = .ok (.getfield 36, 3) := by decide +kernel
theorem dX0_writeBack_23 : decode cX0_writeBack 23 = .ok (.iload_n 1, 1) := by decide +kernel
theorem dX0_writeBack_24 : decode cX0_writeBack 24 = .ok (.iconst 0, 1) := by decide +kernel
theorem dX0_writeBack_25 : decode cX0_writeBack 25 = .ok (.bastore, 1) := by decide +kernel
theorem dX0_writeBack_26 : decode cX0_writeBack 26 = .ok (.aload_n 0, 1) := by decide +kernel
theorem dX0_writeBack_27 : decode cX0_writeBack 27 = .ok (.dup, 1) := by decide +kernel
theorem dX0_writeBack_28 : decode cX0_writeBack 28 = .ok (.getfield 56, 3) := by decide +kernel
theorem dX0_writeBack_31 : decode cX0_writeBack 31 = .ok (.iconst 1, 1) := by decide +kernel
theorem dX0_writeBack_32 : decode cX0_writeBack 32 = .ok (.iadd, 1) := by decide +kernel
theorem dX0_writeBack_33 : decode cX0_writeBack 33 = .ok (.putfield 56, 3) := by decide +kernel
theorem dX0_writeBack_36 : decode cX0_writeBack 36 = .ok (.return_, 1) := by decide +kernel
theorem dX0_copyWords_0 : decode cX0_copyWords 0 = .ok (.aload_n 1, 1) := by decide +kernel
theorem dX0_copyWords_1 : decode cX0_copyWords 1 = .ok (.iload_n 2, 1) := by decide +kernel
theorem dX0_copyWords_2 : decode cX0_copyWords 2 = .ok (.aload_n 0, 1) := by decide +kernel
theorem dX0_copyWords_3 : decode cX0_copyWords 3 = .ok (.getfield 20, 3) := by decide +kernel
theorem dX0_copyWords_6 : decode cX0_copyWords 6 = .ok (.imul, 1) := by decide +kernel
theorem dX0_copyWords_7 : decode cX0_copyWords 7 = .ok (.aload_n 3, 1) := by decide +kernel
theorem dX0_copyWords_8 : decode cX0_copyWords 8 = .ok (.iload 4, 2) := by decide +kernel
theorem dX0_copyWords_10 : decode cX0_copyWords 10 = .ok (.aload_n 0, 1) := by decide +kernel
theorem dX0_copyWords_11 : decode cX0_copyWords 11 = .ok (.getfield 20, 3) := by decide +kernel
theorem dX0_copyWords_14 : decode cX0_copyWords 14 = .ok (.imul, 1) := by decide +kernel
theorem dX0_copyWords_15 : decode cX0_copyWords 15 = .ok (.aload_n 0, 1) := by decide +kernel
theorem dX0_copyWords_16 : decode cX0_copyWords 16 = .ok (.getfield 20, 3) := by decide +kernel
theorem dX0_copyWords_19 : decode cX0_copyWords 19 = .ok (.invokestatic 108, 3) := by decide +kernel
theorem dX0_copyWords_22 : decode cX0_copyWords 22 = .ok (.return_, 1) := by decide +kernel
end
section
set_option maxRecDepth 20000 in
theorem ggX1_init_X1_init_ : GoodIn wsX1_init wsX1_init_ := goodIn_r _ [19, 5, 20, 21, 22, 23, 24, 25, 18, 26, 7, 8, 10, 11, 27, 28, 29, 30, 31, 32, 33, 34, 35, 36, 37, 38] (by decide +kernel) (by decide +kernel)
set_option maxRecDepth 20000 in
theorem gX1_init_X1_init_ : GoodIn wsX1_init (wsV RX1 39 RX1 yX1_init_ wsX1_init_) := goodIn_app (goodIn_of _ (by decide +kernel)) ggX1_init_X1_init_
theorem dX1_init_0 : decode cX1_init 0 = .ok (.aload_n 0, 1) := by decide +kernel
theorem dX1_init_1 : decode cX1_init 1 = .ok (.invokespecial 1, 3) := by decide +kernel
theorem dX1_init_4 : decode cX1_init 4 = .ok (.aload_n 0, 1) := by decide +kernel
theorem dX1_init_5 : decode cX1_init 5 = .ok (.sipush 1600, 3) := by decide +kernel
theorem dX1_init_8 : decode cX1_init 8 = .ok (.newarray .int, 2) := by decide +kernel
theorem dX1_init_10 : decode cX1_init 10 = .ok (.putfield 7, 3) := by decide +kernel
theorem dX1_init_13 : decode cX1_init 13 = .ok (.aload_n 0, 1) := by decide +kernel
theorem dX1_init_14 : decode cX1_init 14 = .ok (.sipush 256, 3) := by decide +kernel
theorem dX1_init_17 : decode cX1_init 17 = .ok (.newarray .int, 2) := by decide +kernel
theorem dX1_init_19 : decode cX1_init 19 = .ok (.putfield 13, 3) := by decide +kernel
theorem dX1_init_22 : decode cX1_init 22 = .ok (.aload_n 0, 1) := by decide +kernel
theorem dX1_init_23 : decode cX1_init 23 = .ok (.bipush 32, 2) := by decide +kernel
theorem dX1_init_25 : decode cX1_init 25 = .ok (.newarray .int, 2) := by decide +kernel
theorem dX1_init_27 : decode cX1_init 27 = .ok (.putfield 16, 3) := by decide +kernel
theorem dX1_init_30 : decode cX1_init 30 = .ok (.aload_n 0, 1) := by decide +kernel
theorem dX1_init_31 : decode cX1_init 31 = .ok (.bipush 32, 2) := by decide +kernel
theorem dX1_init_33 : decode cX1_init 33 = .ok (.newarray .int, 2) := by decide +kernel
theorem dX1_init_35 : decode cX1_init 35 = .ok (.putfield 19, 3) := by decide +kernel
theorem dX1_init_38 : decode cX1_init 38 = .ok (.aload_n 0, 1) := by decide +kernel
theorem dX1_init_39 : decode cX1_init 39 = .ok (.bipush 32, 2) := by decide +kernel
theorem dX1_init_41 : decode cX1_init 41 = .ok (.newarray .boolean, 2) := by decide +kernel
theorem dX1_init_43 : decode cX1_init 43 = .ok (.putfield 22, 3) := by decide +kernel
theorem dX1_init_46 : decode cX1_init 46 = .ok (.aload_n 0, 1) := by decide +kernel
theorem dX1_init_47 : decode cX1_init 47 = .ok (.bipush 32, 2) := by decide +kernel
theorem dX1_init_49 : decode cX1_init 49 = .ok (.newarray .boolean, 2) := by decide +kernel
theorem dX1_init_51 : decode cX1_init 51 = .ok (.putfield 26, 3) := by decide +kernel
theorem dX1_init_54 : decode cX1_init 54 = .ok (.aload_n 0, 1) := by decide +kernel
theorem dX1_init_55 : decode cX1_init 55 = .ok (.iload_n 1, 1) := by decide +kernel
theorem dX1_init_56 : decode cX1_init 56 = .ok (.iconst 1, 1) := by decide +kernel
theorem dX1_init_57 : decode cX1_init 57 = .ok (.if_icmp .ge 7, 3) := by decide +kernel
theorem dX1_init_60 : decode cX1_init 60 = .ok (.iconst 1, 1) := by decide +kernel
theorem dX1_init_61 : decode cX1_init 61 = .ok (.goto 15, 3) := by decide +kernel
theorem dX1_init_64 : decode cX1_init 64 = .ok (.iload_n 1, 1) := by decide +kernel
theorem dX1_init_65 : decode cX1_init 65 = .ok (.bipush 32, 2) := by decide +kernel
theorem dX1_init_67 : decode cX1_init 67 = .ok (.if_icmp .le 8, 3) := by decide +kernel
theorem dX1_init_70 : decode cX1_init 70 = .ok (.bipush 32, 2) := by decide +kernel
theorem dX1_init_72 : decode cX1_init 72 = .ok (.goto 4, 3) := by decide +kernel
theorem dX1_init_75 : decode cX1_init 75 = .ok (.iload_n 1, 1) := by decide +kernel
theorem dX1_init_76 : decode cX1_init 76 = .ok (.putfield 29, 3) := by decide +kernel
theorem dX1_init_79 : decode cX1_init 79 = .ok (.aload_n 0, 1) := by decide +kernel
theorem dX1_init_80 : decode cX1_init 80 = .ok (.iload_n 2, 1) := by decide +kernel
theorem dX1_init_81 : decode cX1_init 81 = .ok (.iconst 1, 1) := by decide +kernel
theorem dX1_init_82 : decode cX1_init 82 = .ok (.if_icmp .ge 7, 3) := by decide +kernel
theorem dX1_init_85 : decode cX1_init 85 = .ok (.iconst 1, 1) := by decide +kernel
theorem dX1_init_86 : decode cX1_init 86 = .ok (.goto 17, 3) := by decide +kernel
theorem dX1_init_89 : decode cX1_init 89 = .ok (.iload_n 2, 1) := by decide +kernel
theorem dX1_init_90 : decode cX1_init 90 = .ok (.sipush 200, 3) := by decide +kernel
theorem dX1_init_93 : decode cX1_init 93 = .ok (.if_icmp .le 9, 3) := by decide +kernel
theorem dX1_init_96 : decode cX1_init 96 = .ok (.sipush 200, 3) := by decide +kernel
theorem dX1_init_99 : decode cX1_init 99 = .ok (.goto 4, 3) := by decide +kernel
theorem dX1_init_102 : decode cX1_init 102 = .ok (.iload_n 2, 1) := by decide +kernel
theorem dX1_init_103 : decode cX1_init 103 = .ok (.putfield 33, 3) := by decide +kernel
theorem dX1_init_106 : decode cX1_init 106 = .ok (.aload_n 0, 1) := by decide +kernel
theorem dX1_init_107 : decode cX1_init 107 = .ok (.iload_n 3, 1) := by decide +kernel
theorem dX1_init_108 : decode cX1_init 108 = .ok (.iconst 1, 1) := by decide +kernel
theorem dX1_init_109 : decode cX1_init 109 = .ok (.if_icmp .ge 7, 3) := by decide +kernel
theorem dX1_init_112 : decode cX1_init 112 = .ok (.iconst 1, 1) := by decide +kernel
theorem dX1_init_113 : decode cX1_init 113 = .ok (.goto 15, 3) := by decide +kernel
theorem dX1_init_116 : decode cX1_init 116 = .ok (.iload_n 3, 1) := by decide +kernel
theorem dX1_init_117 : decode cX1_init 117 = .ok (.bipush 8, 2) := by decide +kernel
theorem dX1_init_119 : decode cX1_init 119 = .ok (.if_icmp .le 8, 3) := by decide +kernel
theorem dX1_init_122 : decode cX1_init 122 = .ok (.bipush 8, 2) := by decide +kernel
theorem dX1_init_124 : decode cX1_init 124 = .ok (.goto 4, 3) := by decide +kernel
theorem dX1_init_127 : decode cX1_init 127 = .ok (.iload_n 3, 1) := by decide +kernel
theorem dX1_init_128 : decode cX1_init 128 = .ok (.putfield 36, 3) := by decide +kernel
theorem dX1_init_131 : decode cX1_init 131 = .ok (.aload_n 0, 1) := by decide +kernel
theorem dX1_init_132 : decode cX1_init 132 = .ok (.invokevirtual 39, 3) := by decide +kernel
theorem dX1_init_135 : decode cX1_init 135 = .ok (.return_, 1) := by decide +kernel
set_option maxRecDepth 20000 in
theorem ggX1_init__X1_empty : GoodIn wsX1_init_ wsX1_empty := goodIn_r _ [9, 10, 11, 12, 13, 14, 15, 16, 17, 18, 19, 20, 21, 22, 23, 24, 25] (by decide +kernel) (by decide +kernel)
set_option maxRecDepth 20000 in
theorem gX1_init__X1_empty : GoodIn wsX1_init_ (wsV RX1 42 RX1 yX1_empty wsX1_empty) := goodIn_app (goodIn_of _ (by decide +kernel)) ggX1_init__X1_empty
theorem dX1_init__0 : decode cX1_init_ 0 = .ok (.iconst 0, 1) := by decide +kernel
theorem dX1_init__1 : decode cX1_init_ 1 = .ok (.istore_n 1, 1) := by decide +kernel
theorem dX1_init__2 : decode cX1_init_ 2 = .ok (.iload_n 1, 1) := by decide +kernel
theorem dX1_init__3 : decode cX1_init_ 3 = .ok (.sipush 1600, 3) := by decide +kernel
theorem dX1_init__6 : decode cX1_init_ 6 = .ok (.if_icmp .ge 16, 3) := by decide +kernel
theorem dX1_init__9 : decode cX1_init_ 9 = .ok (.aload_n 0, 1) := by decide +kernel
theorem dX1_init__10 : decode cX1_init_ 10 = .ok (.getfield 7, 3) := by decide +kernel
theorem dX1_init__13 : decode cX1_init_ 13 = .ok (.iload_n 1, 1) := by decide +kernel
theorem dX1_init__14 : decode cX1_init_ 14 = .ok (.iconst 0, 1) := by decide +kernel
theorem dX1_init__15 : decode cX1_init_ 15 = .ok (.iastore, 1) := by decide +kernel
theorem dX1_init__16 : decode cX1_init_ 16 = .ok (.iinc 1 1, 3) := by decide +kernel
theorem dX1_init__19 : decode cX1_init_ 19 = .ok (.goto (-17), 3) := by decide +kernel
theorem dX1_init__22 : decode cX1_init_ 22 = .ok (.iconst 0, 1) := by decide +kernel
theorem dX1_init__23 : decode cX1_init_ 23 = .ok (.istore_n 1, 1) := by decide +kernel
theorem dX1_init__24 : decode cX1_init_ 24 = .ok (.iload_n 1, 1) := by decide +kernel
theorem dX1_init__25 : decode cX1_init_ 25 = .ok (.bipush 32, 2) := by decide +kernel
theorem dX1_init__27 : decode cX1_init_ 27 = .ok (.if_icmp .ge 14, 3) := by decide +kernel
theorem dX1_init__30 : decode cX1_init_ 30 = .ok (.aload_n 0, 1) := by decide +kernel
theorem dX1_init__31 : decode cX1_init_ 31 = .ok (.iload_n 1, 1) := by decide +kernel
theorem dX1_init__32 : decode cX1_init_ 32 = .ok (.invokevirtual 42, 3) := by decide +kernel
theorem dX1_init__35 : decode cX1_init_ 35 = .ok (.iinc 1 1, 3) := by decide +kernel
theorem dX1_init__38 : decode cX1_init_ 38 = .ok (.goto (-14), 3) := by decide +kernel
theorem dX1_init__41 : decode cX1_init_ 41 = .ok (.aload_n 0, 1) := by decide +kernel
theorem dX1_init__42 : decode cX1_init_ 42 = .ok (.iconst 0, 1) := by decide +kernel
theorem dX1_init__43 : decode cX1_init_ 43 = .ok (.putfield 46, 3) := by decide +kernel
theorem dX1_init__46 : decode cX1_init_ 46 = .ok (.aload_n 0, 1) := by decide +kernel
theorem dX1_init__47 : decode cX1_init_ 47 = .ok (.iconst 0, 1) := by decide +kernel
theorem dX1_init__48 : decode cX1_init_ 48 = .ok (.putfield 49, 3) := by decide +kernel
theorem dX1_init__51 : decode cX1_init_ 51 = .ok (.aload_n 0, 1) := by decide +kernel
theorem dX1_init__52 : decode cX1_init_ 52 = .ok (.iconst 0, 1) := by decide +kernel
theorem dX1_init__53 : decode cX1_init_ 53 = .ok (.putfield 52, 3) := by decide +kernel
theorem dX1_init__56 : decode cX1_init_ 56 = .ok (.return_, 1) := by decide +kernel
theorem dX1_empty_0 : decode cX1_empty 0 = .ok (.aload_n 0, 1) := by decide +kernel
theorem dX1_empty_1 : decode cX1_empty 1 = .ok (.getfield 16, 3) := by decide +kernel
theorem dX1_empty_4 : decode cX1_empty 4 = .ok (.iload_n 1, 1) := by decide +kernel
theorem dX1_empty_5 : decode cX1_empty 5 = .ok (.iconst (-1), 1) := by decide +kernel
theorem dX1_empty_6 : decode cX1_empty 6 = .ok (.iastore, 1) := by decide +kernel
theorem dX1_empty_7 : decode cX1_empty 7 = .ok (.aload_n 0, 1) := by decide +kernel
theorem dX1_empty_8 : decode cX1_empty 8 = .ok (.getfield 19, 3) := by decide +kernel
theorem dX1_empty_11 : decode cX1_empty 11 = .ok (.iload_n 1, 1) := by decide +kernel
theorem dX1_empty_12 : decode cX1_empty 12 = .ok (.iconst 0, 1) := by decide +kernel
theorem dX1_empty_13 : decode cX1_empty 13 = .ok (.iastore, 1) := by decide +kernel
theorem dX1_empty_14 : decode cX1_empty 14 = .ok (.aload_n 0, 1) := by decide +kernel
theorem dX1_empty_15 : decode cX1_empty 15 = .ok (.getfield 22, 3) := by decide +kernel
theorem dX1_empty_18 : decode cX1_empty 18 = .ok (.iload_n 1, 1) := by decide +kernel
theorem dX1_empty_19 : decode cX1_empty 19 = .ok (.iconst 0, 1) := by decide +kernel
theorem dX1_empty_20 : decode cX1_empty 20 = .ok (.bastore, 1) := by decide +kernel
theorem dX1_empty_21 : decode cX1_empty 21 = .ok (.aload_n 0, 1) := by decide +kernel
theorem dX1_empty_22 : decode cX1_empty 22 = .ok (.getfield 26, 3) := by decide +kernel
theorem dX1_empty_25 : decode cX1_empty 25 = .ok (.iload_n 1, 1) := by decide +kernel
theorem dX1_empty_26 : decode cX1_empty 26 = .ok (.iconst 0, 1) := by decide +kernel
theorem dX1_empty_27 : decode cX1_empty 27 = .ok (.bastore, 1) := by decide +kernel
theorem dX1_empty_28 : decode cX1_empty 28 = .ok (.return_, 1) := by decide +kernel
theorem dX1_isPage_0 : decode cX1_isPage 0 = .ok (.iload_n 1, 1) := by decide +kernel
theorem dX1_isPage_1 : decode cX1_isPage 1 = .ok (.ifCond .lt 15, 3) := by decide +kernel
theorem dX1_isPage_4 : decode cX1_isPage 4 = .ok (.iload_n 1, 1) := by decide +kernel
theorem dX1_isPage_5 : decode cX1_isPage 5 = .ok (.aload_n 0, 1) := by decide +kernel
theorem dX1_isPage_6 : decode cX1_isPage 6 = .ok (.getfield 33, 3) := by decide +kernel
theorem dX1_isPage_9 : decode cX1_isPage 9 = .ok (.if_icmp .ge 7, 3) := by decide +kernel
theorem dX1_isPage_12 : decode cX1_isPage 12 = .ok (.iconst 1, 1) := by decide +kernel
theorem dX1_isPage_13 : decode cX1_isPage 13 = .ok (.goto 4, 3) := by decide +kernel
theorem dX1_isPage_16 : decode cX1_isPage 16 = .ok (.iconst 0, 1) := by decide +kernel
theorem dX1_isPage_17 : decode cX1_isPage 17 = .ok (.ireturn, 1) := by decide +kernel
theorem dX1_isPinned_0 : decode cX1_isPinned 0 = .ok (.iload_n 1, 1) := by decide +kernel
theorem dX1_isPinned_1 : decode cX1_isPinned 1 = .ok (.ifCond .lt 24, 3) := by decide +kernel
theorem dX1_isPinned_4 : decode cX1_isPinned 4 = .ok (.iload_n 1, 1) := by decide +kernel
theorem dX1_isPinned_5 : decode cX1_isPinned 5 = .ok (.aload_n 0, 1) := by decide +kernel
theorem dX1_isPinned_6 : decode cX1_isPinned 6 = .ok (.getfield 29, 3) := by decide +kernel
theorem dX1_isPinned_9 : decode cX1_isPinned 9 = .ok (.if_icmp .ge 16, 3) := by decide +kernel
theorem dX1_isPinned_12 : decode cX1_isPinned 12 = .ok (.aload_n 0, 1) := by decide +kernel
theorem dX1_isPinned_13 : decode cX1_isPinned 13 = .ok (.getfield 19, 3) := by decide +kernel
theorem dX1_isPinned_16 : decode cX1_isPinned 16 = .ok (.iload_n 1, 1) := by decide +kernel
theorem dX1_isPinned_17 : decode cX1_isPinned 17 = .ok (.iaload, 1) := by decide +kernel
theorem dX1_isPinned_18 : decode cX1_isPinned 18 = .ok (.ifCond .le 7, 3) := by decide +kernel
theorem dX1_isPinned_21 : decode cX1_isPinned 21 = .ok (.iconst 1, 1) := by decide +kernel
theorem dX1_isPinned_22 : decode cX1_isPinned 22 = .ok (.goto 4, 3) := by decide +kernel
theorem dX1_isPinned_25 : decode cX1_isPinned 25 = .ok (.iconst 0, 1) := by decide +kernel
theorem dX1_isPinned_26 : decode cX1_isPinned 26 = .ok (.ireturn, 1) := by decide +kernel
theorem dX1_frameOf_0 : decode cX1_frameOf 0 = .ok (.iconst 0, 1) := by decide +kernel
theorem dX1_frameOf_1 : decode cX1_frameOf 1 = .ok (.istore_n 2, 1) := by decide +kernel
theorem dX1_frameOf_2 : decode cX1_frameOf 2 = .ok (.iload_n 2, 1) := by decide +kernel
theorem dX1_frameOf_3 : decode cX1_frameOf 3 = .ok (.aload_n 0, 1) := by decide +kernel
theorem dX1_frameOf_4 : decode cX1_frameOf 4 = .ok (.getfield 29, 3) := by decide +kernel
theorem dX1_frameOf_7 : decode cX1_frameOf 7 = .ok (.if_icmp .ge 25, 3) := by decide +kernel
theorem dX1_frameOf_10 : decode cX1_frameOf 10 = .ok (.iload_n 1, 1) := by decide +kernel
theorem dX1_frameOf_11 : decode cX1_frameOf 11 = .ok (.ifCond .lt 15, 3) := by decide +kernel
theorem dX1_frameOf_14 : decode cX1_frameOf 14 = .ok (.aload_n 0, 1) := by decide +kernel
theorem dX1_frameOf_15 : decode cX1_frameOf 15 = .ok (.getfield 16, 3) := by decide +kernel
theorem dX1_frameOf_18 : decode cX1_frameOf 18 = .ok (.iload_n 2, 1) := by decide +kernel
theorem dX1_frameOf_19 : decode cX1_frameOf 19 = .ok (.iaload, 1) := by decide +kernel
theorem dX1_frameOf_20 : decode cX1_frameOf 20 = .ok (.iload_n 1, 1) := by decide +kernel
theorem dX1_frameOf_21 : decode cX1_frameOf 21 = .ok (.if_icmp .ne 5, 3) := by decide +kernel
theorem dX1_frameOf_24 : decode cX1_frameOf 24 = .ok (.iload_n 2, 1) := by decide +kernel
theorem dX1_frameOf_25 : decode cX1_frameOf 25 = .ok (.ireturn, 1) := by decide +kernel
theorem dX1_frameOf_26 : decode cX1_frameOf 26 = .ok (.iinc 2 1, 3) := by decide +kernel
theorem dX1_frameOf_29 : decode cX1_frameOf 29 = .ok (.goto (-27), 3) := by decide +kernel
theorem dX1_frameOf_32 : decode cX1_frameOf 32 = .ok (.bipush (-5), 2) := by decide +kernel
theorem dX1_frameOf_34 : decode cX1_frameOf 34 = .ok (.ireturn, 1) := by decide +kernel
theorem dX1_store_0 : decode cX1_store 0 = .ok (.iconst 0, 1) := by decide +kernel
theorem dX1_store_1 : decode cX1_store 1 = .ok (.istore_n 2, 1) := by decide +kernel
theorem dX1_store_2 : decode cX1_store 2 = .ok (.iload_n 2, 1) := by decide +kernel
theorem dX1_store_3 : decode cX1_store 3 = .ok (.aload_n 0, 1) := by decide +kernel
theorem dX1_store_4 : decode cX1_store 4 = .ok (.getfield 36, 3) := by decide +kernel
theorem dX1_store_7 : decode cX1_store 7 = .ok (.if_icmp .ge 36, 3) := by decide +kernel
theorem dX1_store_10 : decode cX1_store 10 = .ok (.aload_n 0, 1) := by decide +kernel
theorem dX1_store_11 : decode cX1_store 11 = .ok (.getfield 7, 3) := by decide +kernel
theorem dX1_store_14 : decode cX1_store 14 = .ok (.bipush 8, 2) := by decide +kernel
theorem dX1_store_16 : decode cX1_store 16 = .ok (.aload_n 0, 1) := by decide +kernel
theorem dX1_store_17 : decode cX1_store 17 = .ok (.getfield 16, 3) := by decide +kernel
theorem dX1_store_20 : decode cX1_store 20 = .ok (.iload_n 1, 1) := by decide +kernel
theorem dX1_store_21 : decode cX1_store 21 = .ok (.iaload, 1) := by decide +kernel
theorem dX1_store_22 : decode cX1_store 22 = .ok (.imul, 1) := by decide +kernel
theorem dX1_store_23 : decode cX1_store 23 = .ok (.iload_n 2, 1) := by decide +kernel
theorem dX1_store_24 : decode cX1_store 24 = .ok (.iadd, 1) := by decide +kernel
theorem dX1_store_25 : decode cX1_store 25 = .ok (.aload_n 0, 1) := by decide +kernel
theorem dX1_store_26 : decode cX1_store 26 = .ok (.getfield 13, 3) := by decide +kernel
theorem dX1_store_29 : decode cX1_store 29 = .ok (.bipush 8, 2) := by decide +kernel
theorem dX1_store_31 : decode cX1_store 31 = .ok (.iload_n 1, 1) := by decide +kernel
theorem dX1_store_32 : decode cX1_store 32 = .ok (.imul, 1) := by decide +kernel
theorem dX1_store_33 : decode cX1_store 33 = .ok (.iload_n 2, 1) := by decide +kernel
theorem dX1_store_34 : decode cX1_store 34 = .ok (.iadd, 1) := by decide +kernel
theorem dX1_store_35 : decode cX1_store 35 = .ok (.iaload, 1) := by decide +kernel
theorem dX1_store_36 : decode cX1_store 36 = .ok (.iastore, 1) := by decide +kernel
theorem dX1_store_37 : decode cX1_store 37 = .ok (.iinc 2 1, 3) := by decide +kernel
theorem dX1_store_40 : decode cX1_store 40 = .ok (.goto (-38), 3) := by decide +kernel
theorem dX1_store_43 : decode cX1_store 43 = .ok (.aload_n 0, 1) := by decide +kernel
theorem dX1_store_44 : decode cX1_store 44 = .ok (.getfield 22, 3) := by decide +kernel
theorem dX1_store_47 : decode cX1_store 47 = .ok (.iload_n 1, 1) := by decide +kernel
theorem dX1_store_48 : decode cX1_store 48 = .ok (.iconst 0, 1) := by decide +kernel
theorem dX1_store_49 : decode cX1_store 49 = .ok (.bastore, 1) := by decide +kernel
theorem dX1_store_50 : decode cX1_store 50 = .ok (.aload_n 0, 1) := by decide +kernel
theorem dX1_store_51 : decode cX1_store 51 = .ok (.dup, 1) := by decide +kernel
theorem dX1_store_52 : decode cX1_store 52 = .ok (.getfield 52, 3) := by decide +kernel
theorem dX1_store_55 : decode cX1_store 55 = .ok (.iconst 1, 1) := by decide +kernel
theorem dX1_store_56 : decode cX1_store 56 = .ok (.iadd, 1) := by decide +kernel
theorem dX1_store_57 : decode cX1_store 57 = .ok (.putfield 52, 3) := by decide +kernel
theorem dX1_store_60 : decode cX1_store 60 = .ok (.return_, 1) := by decide +kernel
set_option maxRecDepth 20000 in
theorem ggX1_find_X1_pinned : GoodIn wsX1_find wsX1_pinned := goodIn_r _ [11, 1, 3, 24, 25, 26, 27, 28, 29, 30, 31, 32, 33, 34, 35] (by decide +kernel) (by decide +kernel)
set_option maxRecDepth 20000 in
theorem gX1_find_X1_pinned : GoodIn wsX1_find (wsV RX1 55 RX1 yX1_pinned wsX1_pinned) := goodIn_app (goodIn_of _ (by decide +kernel)) ggX1_find_X1_pinned
set_option maxRecDepth 20000 in
theorem ggX1_find_X1_store : GoodIn wsX1_find wsX1_store := goodIn_r _ [15, 16, 17, 4, 18, 6, 19, 24, 25, 26, 27, 28, 29, 30, 31, 32, 33, 34, 35] (by decide +kernel) (by decide +kernel)
set_option maxRecDepth 20000 in
theorem gX1_find_X1_store : GoodIn wsX1_find (wsV RX1 59 RX1 yX1_store wsX1_store) := goodIn_app (goodIn_of _ (by decide +kernel)) ggX1_find_X1_store
set_option maxRecDepth 20000 in
theorem ggX1_find_X1_empty : GoodIn wsX1_find wsX1_empty := goodIn_r _ [23, 4, 3, 6, 5, 24, 25, 26, 27, 28, 29, 30, 31, 32, 33, 34, 35] (by decide +kernel) (by decide +kernel)
set_option maxRecDepth 20000 in
theorem gX1_find_X1_empty : GoodIn wsX1_find (wsV RX1 42 RX1 yX1_empty wsX1_empty) := goodIn_app (goodIn_of _ (by decide +kernel)) ggX1_find_X1_empty
theorem dX1_find_0 : decode cX1_find 0 = .ok (.aload_n 0, 1) := by decide +kernel
theorem dX1_find_1 : decode cX1_find 1 = .ok (.invokevirtual 55, 3) := by decide +kernel
theorem dX1_find_4 : decode cX1_find 4 = .ok (.aload_n 0, 1) := by decide +kernel
theorem dX1_find_5 : decode cX1_find 5 = .ok (.getfield 29, 3) := by decide +kernel
theorem dX1_find_8 : decode cX1_find 8 = .ok (.if_icmp .ne 6, 3) := by decide +kernel
theorem dX1_find_11 : decode cX1_find 11 = .ok (.bipush (-5), 2) := by decide +kernel
theorem dX1_find_13 : decode cX1_find 13 = .ok (.ireturn, 1) := by decide +kernel
theorem dX1_find_14 : decode cX1_find 14 = .ok (.aload_n 0, 1) := by decide +kernel
theorem dX1_find_15 : decode cX1_find 15 = .ok (.getfield 46, 3) := by decide +kernel
theorem dX1_find_18 : decode cX1_find 18 = .ok (.istore_n 1, 1) := by decide +kernel
theorem dX1_find_19 : decode cX1_find 19 = .ok (.aload_n 0, 1) := by decide +kernel
theorem dX1_find_20 : decode cX1_find 20 = .ok (.aload_n 0, 1) := by decide +kernel
theorem dX1_find_21 : decode cX1_find 21 = .ok (.getfield 46, 3) := by decide +kernel
theorem dX1_find_24 : decode cX1_find 24 = .ok (.iconst 1, 1) := by decide +kernel
theorem dX1_find_25 : decode cX1_find 25 = .ok (.iadd, 1) := by decide +kernel
theorem dX1_find_26 : decode cX1_find 26 = .ok (.aload_n 0, 1) := by decide +kernel
theorem dX1_find_27 : decode cX1_find 27 = .ok (.getfield 29, 3) := by decide +kernel
theorem dX1_find_30 : decode cX1_find 30 = .ok (.if_icmp .ne 7, 3) := by decide +kernel
theorem dX1_find_33 : decode cX1_find 33 = .ok (.iconst 0, 1) := by decide +kernel
theorem dX1_find_34 : decode cX1_find 34 = .ok (.goto 9, 3) := by decide +kernel
theorem dX1_find_37 : decode cX1_find 37 = .ok (.aload_n 0, 1) := by decide +kernel
theorem dX1_find_38 : decode cX1_find 38 = .ok (.getfield 46, 3) := by decide +kernel
theorem dX1_find_41 : decode cX1_find 41 = .ok (.iconst 1, 1) := by decide +kernel
theorem dX1_find_42 : decode cX1_find 42 = .ok (.iadd, 1) := by decide +kernel
theorem dX1_find_43 : decode cX1_find 43 = .ok (.putfield 46, 3) := by decide +kernel
theorem dX1_find_46 : decode cX1_find 46 = .ok (.aload_n 0, 1) := by decide +kernel
theorem dX1_find_47 : decode cX1_find 47 = .ok (.getfield 19, 3) := by decide +kernel
theorem dX1_find_50 : decode cX1_find 50 = .ok (.iload_n 1, 1) := by decide +kernel
theorem dX1_find_51 : decode cX1_find 51 = .ok (.iaload, 1) := by decide +kernel
theorem dX1_find_52 : decode cX1_find 52 = .ok (.ifCond .le 6, 3) := by decide +kernel
theorem dX1_find_55 : decode cX1_find 55 = .ok (.goto (-41), 3) := by decide +kernel
theorem dX1_find_58 : decode cX1_find 58 = .ok (.aload_n 0, 1) := by decide +kernel
theorem dX1_find_59 : decode cX1_find 59 = .ok (.getfield 16, 3) := by decide +kernel
theorem dX1_find_62 : decode cX1_find 62 = .ok (.iload_n 1, 1) := by decide +kernel
theorem dX1_find_63 : decode cX1_find 63 = .ok (.iaload, 1) := by decide +kernel
theorem dX1_find_64 : decode cX1_find 64 = .ok (.iconst (-1), 1) := by decide +kernel
theorem dX1_find_65 : decode cX1_find 65 = .ok (.if_icmp .eq 22, 3) := by decide +kernel
theorem dX1_find_68 : decode cX1_find 68 = .ok (.aload_n 0, 1) := by decide +kernel
theorem dX1_find_69 : decode cX1_find 69 = .ok (.getfield 26, 3) := by decide +kernel
theorem dX1_find_72 : decode cX1_find 72 = .ok (.iload_n 1, 1) := by decide +kernel
theorem dX1_find_73 : decode cX1_find 73 = .ok (.baload, 1) := by decide +kernel
theorem dX1_find_74 : decode cX1_find 74 = .ok (.ifCond .eq 13, 3) := by decide +kernel
theorem dX1_find_77 : decode cX1_find 77 = .ok (.aload_n 0, 1) := by decide +kernel
theorem dX1_find_78 : decode cX1_find 78 = .ok (.getfield 26, 3) := by decide +kernel
theorem dX1_find_81 : decode cX1_find 81 = .ok (.iload_n 1, 1) := by decide +kernel
theorem dX1_find_82 : decode cX1_find 82 = .ok (.iconst 0, 1) := by decide +kernel
theorem dX1_find_83 : decode cX1_find 83 = .ok (.bastore, 1) := by decide +kernel
theorem dX1_find_84 : decode cX1_find 84 = .ok (.goto (-70), 3) := by decide +kernel
theorem dX1_find_87 : decode cX1_find 87 = .ok (.aload_n 0, 1) := by decide +kernel
theorem dX1_find_88 : decode cX1_find 88 = .ok (.getfield 16, 3) := by decide +kernel
theorem dX1_find_91 : decode cX1_find 91 = .ok (.iload_n 1, 1) := by decide +kernel
theorem dX1_find_92 : decode cX1_find 92 = .ok (.iaload, 1) := by decide +kernel
theorem dX1_find_93 : decode cX1_find 93 = .ok (.iconst (-1), 1) := by decide +kernel
theorem dX1_find_94 : decode cX1_find 94 = .ok (.if_icmp .eq 17, 3) := by decide +kernel
theorem dX1_find_97 : decode cX1_find 97 = .ok (.aload_n 0, 1) := by decide +kernel
theorem dX1_find_98 : decode cX1_find 98 = .ok (.getfield 22, 3) := by decide +kernel
theorem dX1_find_101 : decode cX1_find 101 = .ok (.iload_n 1, 1) := by decide +kernel
theorem dX1_find_102 : decode cX1_find 102 = .ok (.baload, 1) := by decide +kernel
theorem dX1_find_103 : decode cX1_find 103 = .ok (.ifCond .eq 8, 3) := by decide +kernel
theorem dX1_find_106 : decode cX1_find 106 = .ok (.aload_n 0, 1) := by decide +kernel
theorem dX1_find_107 : decode cX1_find 107 = .ok (.iload_n 1, 1) := by decide +kernel
theorem dX1_find_108 : decode cX1_find 108 = .ok (.invokevirtual 59, 3) := by decide +kernel
theorem dX1_find_111 : decode cX1_find 111 = .ok (.aload_n 0, 1) := by decide +kernel
theorem dX1_find_112 : decode cX1_find 112 = .ok (.iload_n 1, 1) := by decide +kernel
theorem dX1_find_113 : decode cX1_find 113 = .ok (.invokevirtual 42, 3) := by decide +kernel
theorem dX1_find_116 : decode cX1_find 116 = .ok (.iload_n 1, 1) := by decide +kernel
theorem dX1_find_117 : decode cX1_find 117 = .ok (.ireturn, 1) := by decide +kernel
set_option maxRecDepth 20000 in
theorem ggX1_fetch_X1_isPage : GoodIn wsX1_fetch wsX1_isPage := goodIn_r _ [12, 13, 38, 39, 40, 41, 42, 43, 44, 45, 46, 47, 48, 49] (by decide +kernel) (by decide +kernel)
set_option maxRecDepth 20000 in
theorem gX1_fetch_X1_isPage : GoodIn wsX1_fetch (wsV RX1 62 RX1 yX1_isPage wsX1_isPage) := goodIn_app (goodIn_of _ (by decide +kernel)) ggX1_fetch_X1_isPage
set_option maxRecDepth 20000 in
theorem ggX1_fetch_X1_frameOf : GoodIn wsX1_fetch wsX1_frameOf := goodIn_r _ [17, 18, 4, 38, 39, 40, 41, 42, 43, 44, 45, 46, 47, 48, 49] (by decide +kernel) (by decide +kernel)
set_option maxRecDepth 20000 in
theorem gX1_fetch_X1_frameOf : GoodIn wsX1_fetch (wsV RX1 66 RX1 yX1_frameOf wsX1_frameOf) := goodIn_app (goodIn_of _ (by decide +kernel)) ggX1_fetch_X1_frameOf
set_option maxRecDepth 20000 in
theorem ggX1_fetch_X1_find : GoodIn wsX1_fetch wsX1_find := goodIn_r _ [22, 18, 23, 6, 4, 7, 24, 25, 26, 27, 11, 28, 29, 30, 31, 32, 1, 3, 2, 33, 34, 35, 36, 37, 38, 39, 40, 41, 42, 43, 44, 45, 46, 47, 48, 49] (by decide +kernel) (by decide +kernel)
set_option maxRecDepth 20000 in
theorem gX1_fetch_X1_find : GoodIn wsX1_fetch (wsV RX1 70 RX1 yX1_find wsX1_find) := goodIn_app (goodIn_of _ (by decide +kernel)) ggX1_fetch_X1_find
theorem dX1_fetch_0 : decode cX1_fetch 0 = .ok (.aload_n 0, 1) := by decide +kernel
theorem dX1_fetch_1 : decode cX1_fetch 1 = .ok (.iload_n 1, 1) := by decide +kernel
theorem dX1_fetch_2 : decode cX1_fetch 2 = .ok (.invokevirtual 62, 3) := by decide +kernel
theorem dX1_fetch_5 : decode cX1_fetch 5 = .ok (.ifCond .ne 6, 3) := by decide +kernel
theorem dX1_fetch_8 : decode cX1_fetch 8 = .ok (.bipush (-2), 2) := by decide +kernel
theorem dX1_fetch_10 : decode cX1_fetch 10 = .ok (.ireturn, 1) := by decide +kernel
theorem dX1_fetch_11 : decode cX1_fetch 11 = .ok (.aload_n 0, 1) := by decide +kernel
theorem dX1_fetch_12 : decode cX1_fetch 12 = .ok (.iload_n 1, 1) := by decide +kernel
theorem dX1_fetch_13 : decode cX1_fetch 13 = .ok (.invokevirtual 66, 3) := by decide +kernel
theorem dX1_fetch_16 : decode cX1_fetch 16 = .ok (.istore_n 2, 1) := by decide +kernel
theorem dX1_fetch_17 : decode cX1_fetch 17 = .ok (.iload_n 2, 1) := by decide +kernel
theorem dX1_fetch_18 : decode cX1_fetch 18 = .ok (.bipush (-5), 2) := by decide +kernel
theorem dX1_fetch_20 : decode cX1_fetch 20 = .ok (.if_icmp .ne 71, 3) := by decide +kernel
theorem dX1_fetch_23 : decode cX1_fetch 23 = .ok (.aload_n 0, 1) := by decide +kernel
theorem dX1_fetch_24 : decode cX1_fetch 24 = .ok (.invokevirtual 70, 3) := by decide +kernel
theorem dX1_fetch_27 : decode cX1_fetch 27 = .ok (.istore_n 2, 1) := by decide +kernel
theorem dX1_fetch_28 : decode cX1_fetch 28 = .ok (.iload_n 2, 1) := by decide +kernel
theorem dX1_fetch_29 : decode cX1_fetch 29 = .ok (.bipush (-5), 2) := by decide +kernel
theorem dX1_fetch_31 : decode cX1_fetch 31 = .ok (.if_icmp .ne 5, 3) := by decide +kernel
theorem dX1_fetch_34 : decode cX1_fetch 34 = .ok (.iconst (-1), 1) := by decide +kernel
theorem dX1_fetch_35 : decode cX1_fetch 35 = .ok (.ireturn, 1) := by decide +kernel
theorem dX1_fetch_36 : decode cX1_fetch 36 = .ok (.iconst 0, 1) := by decide +kernel
theorem dX1_fetch_37 : decode cX1_fetch 37 = .ok (.istore_n 3, 1) := by decide +kernel
theorem dX1_fetch_38 : decode cX1_fetch 38 = .ok (.iload_n 3, 1) := by decide +kernel
theorem dX1_fetch_39 : decode cX1_fetch 39 = .ok (.aload_n 0, 1) := by decide +kernel
theorem dX1_fetch_40 : decode cX1_fetch 40 = .ok (.getfield 36, 3) := by decide +kernel
theorem dX1_fetch_43 : decode cX1_fetch 43 = .ok (.if_icmp .ge 31, 3) := by decide +kernel
theorem dX1_fetch_46 : decode cX1_fetch 46 = .ok (.aload_n 0, 1) := by decide +kernel
theorem dX1_fetch_47 : decode cX1_fetch 47 = .ok (.getfield 13, 3) := by decide +kernel
theorem dX1_fetch_50 : decode cX1_fetch 50 = .ok (.bipush 8, 2) := by decide +kernel
theorem dX1_fetch_52 : decode cX1_fetch 52 = .ok (.iload_n 2, 1) := by decide +kernel
theorem dX1_fetch_53 : decode cX1_fetch 53 = .ok (.imul, 1) := by decide +kernel
theorem dX1_fetch_54 : decode cX1_fetch 54 = .ok (.iload_n 3, 1) := by decide +kernel
theorem dX1_fetch_55 : decode cX1_fetch 55 = .ok (.iadd, 1) := by decide +kernel
theorem dX1_fetch_56 : decode cX1_fetch 56 = .ok (.aload_n 0, 1) := by decide +kernel
theorem dX1_fetch_57 : decode cX1_fetch 57 = .ok (.getfield 7, 3) := by decide +kernel
theorem dX1_fetch_60 : decode cX1_fetch 60 = .ok (.bipush 8, 2) := by decide +kernel
theorem dX1_fetch_62 : decode cX1_fetch 62 = .ok (.iload_n 1, 1) := by decide +kernel
theorem dX1_fetch_63 : decode cX1_fetch 63 = .ok (.imul, 1) := by decide +kernel
theorem dX1_fetch_64 : decode cX1_fetch 64 = .ok (.iload_n 3, 1) := by decide +kernel
theorem dX1_fetch_65 : decode cX1_fetch 65 = .ok (.iadd, 1) := by decide +kernel
theorem dX1_fetch_66 : decode cX1_fetch 66 = .ok (.iaload, 1) := by decide +kernel
theorem dX1_fetch_67 : decode cX1_fetch 67 = .ok (.iastore, 1) := by decide +kernel
theorem dX1_fetch_68 : decode cX1_fetch 68 = .ok (.iinc 3 1, 3) := by decide +kernel
theorem dX1_fetch_71 : decode cX1_fetch 71 = .ok (.goto (-33), 3) := by decide +kernel
theorem dX1_fetch_74 : decode cX1_fetch 74 = .ok (.aload_n 0, 1) := by decide +kernel
theorem dX1_fetch_75 : decode cX1_fetch 75 = .ok (.getfield 16, 3) := by decide +kernel
theorem dX1_fetch_78 : decode cX1_fetch 78 = .ok (.iload_n 2, 1) := by decide +kernel
theorem dX1_fetch_79 : decode cX1_fetch 79 = .ok (.iload_n 1, 1) := by decide +kernel
theorem dX1_fetch_80 : decode cX1_fetch 80 = .ok (.iastore, 1) := by decide +kernel
theorem dX1_fetch_81 : decode cX1_fetch 81 = .ok (.aload_n 0, 1) := by decide +kernel
theorem dX1_fetch_82 : decode cX1_fetch 82 = .ok (.dup, 1) := by decide +kernel
theorem dX1_fetch_83 : decode cX1_fetch 83 = .ok (.getfield 49, 3) := by decide +kernel
theorem dX1_fetch_86 : decode cX1_fetch 86 = .ok (.iconst 1, 1) := by decide +kernel
theorem dX1_fetch_87 : decode cX1_fetch 87 = .ok (.iadd, 1) := by decide +kernel
theorem dX1_fetch_88 : decode cX1_fetch 88 = .ok (.putfield 49, 3) := by decide +kernel
theorem dX1_fetch_91 : decode cX1_fetch 91 = .ok (.aload_n 0, 1) := by decide +kernel
theorem dX1_fetch_92 : decode cX1_fetch 92 = .ok (.getfield 19, 3) := by decide +kernel
theorem dX1_fetch_95 : decode cX1_fetch 95 = .ok (.iload_n 2, 1) := by decide +kernel
theorem dX1_fetch_96 : decode cX1_fetch 96 = .ok (.dup2, 1) := by decide +kernel
theorem dX1_fetch_97 : decode cX1_fetch 97 = .ok (.iaload, 1) := by decide +kernel
theorem dX1_fetch_98 : decode cX1_fetch 98 = .ok (.iconst 1, 1) := by decide +kernel
theorem dX1_fetch_99 : decode cX1_fetch 99 = .ok (.iadd, 1) := by decide +kernel
theorem dX1_fetch_100 : decode cX1_fetch 100 = .ok (.iastore, 1) := by decide +kernel
theorem dX1_fetch_101 : decode cX1_fetch 101 = .ok (.aload_n 0, 1) := by decide +kernel
theorem dX1_fetch_102 : decode cX1_fetch 102 = .ok (.getfield 26, 3) := by decide +kernel
theorem dX1_fetch_105 : decode cX1_fetch 105 = .ok (.iload_n 2, 1) := by decide +kernel
theorem dX1_fetch_106 : decode cX1_fetch 106 = .ok (.iconst 1, 1) := by decide +kernel
theorem dX1_fetch_107 : decode cX1_fetch 107 = .ok (.bastore, 1) := by decide +kernel
theorem dX1_fetch_108 : decode cX1_fetch 108 = .ok (.iload_n 2, 1) := by decide +kernel
theorem dX1_fetch_109 : decode cX1_fetch 109 = .ok (.ireturn, 1) := by decide +kernel
set_option maxRecDepth 20000 in
theorem ggX1_unpin_X1_isPinned : GoodIn wsX1_unpin wsX1_isPinned := goodIn_r _ [6, 7, 1, 8, 9, 10, 11, 12, 13, 14, 15, 16, 17, 18, 19] (by decide +kernel) (by decide +kernel)
set_option maxRecDepth 20000 in
theorem gX1_unpin_X1_isPinned : GoodIn wsX1_unpin (wsV RX1 73 RX1 yX1_isPinned wsX1_isPinned) := goodIn_app (goodIn_of _ (by decide +kernel)) ggX1_unpin_X1_isPinned
theorem dX1_unpin_0 : decode cX1_unpin 0 = .ok (.aload_n 0, 1) := by decide +kernel
theorem dX1_unpin_1 : decode cX1_unpin 1 = .ok (.iload_n 1, 1) := by decide +kernel
theorem dX1_unpin_2 : decode cX1_unpin 2 = .ok (.invokevirtual 73, 3) := by decide +kernel
theorem dX1_unpin_5 : decode cX1_unpin 5 = .ok (.ifCond .ne 6, 3) := by decide +kernel
theorem dX1_unpin_8 : decode cX1_unpin 8 = .ok (.bipush (-3), 2) := by decide +kernel
theorem dX1_unpin_10 : decode cX1_unpin 10 = .ok (.ireturn, 1) := by decide +kernel
theorem dX1_unpin_11 : decode cX1_unpin 11 = .ok (.aload_n 0, 1) := by decide +kernel
theorem dX1_unpin_12 : decode cX1_unpin 12 = .ok (.getfield 19, 3) := by decide +kernel
theorem dX1_unpin_15 : decode cX1_unpin 15 = .ok (.iload_n 1, 1) := by decide +kernel
theorem dX1_unpin_16 : decode cX1_unpin 16 = .ok (.dup2, 1) := by decide +kernel
theorem dX1_unpin_17 : decode cX1_unpin 17 = .ok (.iaload, 1) := by decide +kernel
theorem dX1_unpin_18 : decode cX1_unpin 18 = .ok (.iconst 1, 1) := by decide +kernel
theorem dX1_unpin_19 : decode cX1_unpin 19 = .ok (.isub, 1) := by decide +kernel
theorem dX1_unpin_20 : decode cX1_unpin 20 = .ok (.iastore, 1) := by decide +kernel
theorem dX1_unpin_21 : decode cX1_unpin 21 = .ok (.aload_n 0, 1) := by decide +kernel
theorem dX1_unpin_22 : decode cX1_unpin 22 = .ok (.getfield 19, 3) := by decide +kernel
theorem dX1_unpin_25 : decode cX1_unpin 25 = .ok (.iload_n 1, 1) := by decide +kernel
theorem dX1_unpin_26 : decode cX1_unpin 26 = .ok (.iaload, 1) := by decide +kernel
theorem dX1_unpin_27 : decode cX1_unpin 27 = .ok (.ireturn, 1) := by decide +kernel
set_option maxRecDepth 20000 in
theorem ggX1_readWord_X1_isPinned : GoodIn wsX1_readWord wsX1_isPinned := goodIn_r _ [7, 8, 9, 10, 11, 12, 13, 14, 15, 16, 17, 18, 19, 20, 21] (by decide +kernel) (by decide +kernel)
set_option maxRecDepth 20000 in
theorem gX1_readWord_X1_isPinned : GoodIn wsX1_readWord (wsV RX1 73 RX1 yX1_isPinned wsX1_isPinned) := goodIn_app (goodIn_of _ (by decide +kernel)) ggX1_readWord_X1_isPinned
theorem dX1_readWord_0 : decode cX1_readWord 0 = .ok (.aload_n 0, 1) := by decide +kernel
theorem dX1_readWord_1 : decode cX1_readWord 1 = .ok (.iload_n 1, 1) := by decide +kernel
theorem dX1_readWord_2 : decode cX1_readWord 2 = .ok (.invokevirtual 73, 3) := by decide +kernel
theorem dX1_readWord_5 : decode cX1_readWord 5 = .ok (.ifCond .eq 15, 3) := by decide +kernel
theorem dX1_readWord_8 : decode cX1_readWord 8 = .ok (.iload_n 2, 1) := by decide +kernel
theorem dX1_readWord_9 : decode cX1_readWord 9 = .ok (.ifCond .lt 11, 3) := by decide +kernel
theorem dX1_readWord_12 : decode cX1_readWord 12 = .ok (.iload_n 2, 1) := by decide +kernel
theorem dX1_readWord_13 : decode cX1_readWord 13 = .ok (.aload_n 0, 1) := by decide +kernel
theorem dX1_readWord_14 : decode cX1_readWord 14 = .ok (.getfield 36, 3) := by decide +kernel
theorem dX1_readWord_17 : decode cX1_readWord 17 = .ok (.if_icmp .lt 7, 3) := by decide +kernel
theorem dX1_readWord_20 : decode cX1_readWord 20 = .ok (.iconst 0, 1) := by decide +kernel
theorem dX1_readWord_21 : decode cX1_readWord 21 = .ok (.goto 14, 3) := by decide +kernel
theorem dX1_readWord_24 : decode cX1_readWord 24 = .ok (.aload_n 0, 1) := by decide +kernel
theorem dX1_readWord_25 : decode cX1_readWord 25 = .ok (.getfield 13, 3) := by decide +kernel
theorem dX1_readWord_28 : decode cX1_readWord 28 = .ok (.bipush 8, 2) := by decide +kernel
theorem dX1_readWord_30 : decode cX1_readWord 30 = .ok (.iload_n 1, 1) := by decide +kernel
theorem dX1_readWord_31 : decode cX1_readWord 31 = .ok (.imul, 1) := by decide +kernel
theorem dX1_readWord_32 : decode cX1_readWord 32 = .ok (.iload_n 2, 1) := by decide +kernel
theorem dX1_readWord_33 : decode cX1_readWord 33 = .ok (.iadd, 1) := by decide +kernel
theorem dX1_readWord_34 : decode cX1_readWord 34 = .ok (.iaload, 1) := by decide +kernel
theorem dX1_readWord_35 : decode cX1_readWord 35 = .ok (.ireturn, 1) := by decide +kernel
set_option maxRecDepth 20000 in
theorem ggX1_writeWord_X1_isPinned : GoodIn wsX1_writeWord wsX1_isPinned := goodIn_r _ [8, 9, 10, 11, 12, 13, 14, 15, 16, 17, 18, 19, 20, 21, 22] (by decide +kernel) (by decide +kernel)
set_option maxRecDepth 20000 in
theorem gX1_writeWord_X1_isPinned : GoodIn wsX1_writeWord (wsV RX1 73 RX1 yX1_isPinned wsX1_isPinned) := goodIn_app (goodIn_of _ (by decide +kernel)) ggX1_writeWord_X1_isPinned
theorem dX1_writeWord_0 : decode cX1_writeWord 0 = .ok (.aload_n 0, 1) := by decide +kernel
theorem dX1_writeWord_1 : decode cX1_writeWord 1 = .ok (.iload_n 1, 1) := by decide +kernel
theorem dX1_writeWord_2 : decode cX1_writeWord 2 = .ok (.invokevirtual 73, 3) := by decide +kernel
theorem dX1_writeWord_5 : decode cX1_writeWord 5 = .ok (.ifCond .ne 6, 3) := by decide +kernel
theorem dX1_writeWord_8 : decode cX1_writeWord 8 = .ok (.bipush (-3), 2) := by decide +kernel
theorem dX1_writeWord_10 : decode cX1_writeWord 10 = .ok (.ireturn, 1) := by decide +kernel
theorem dX1_writeWord_11 : decode cX1_writeWord 11 = .ok (.iload_n 2, 1) := by decide +kernel
theorem dX1_writeWord_12 : decode cX1_writeWord 12 = .ok (.ifCond .lt 11, 3) := by decide +kernel
theorem dX1_writeWord_15 : decode cX1_writeWord 15 = .ok (.iload_n 2, 1) := by decide +kernel
theorem dX1_writeWord_16 : decode cX1_writeWord 16 = .ok (.aload_n 0, 1) := by decide +kernel
theorem dX1_writeWord_17 : decode cX1_writeWord 17 = .ok (.getfield 36, 3) := by decide +kernel
theorem dX1_writeWord_20 : decode cX1_writeWord 20 = .ok (.if_icmp .lt 6, 3) := by decide +kernel
theorem dX1_writeWord_23 : decode cX1_writeWord 23 = .ok (.bipush (-4), 2) := by decide +kernel
theorem dX1_writeWord_25 : decode cX1_writeWord 25 = .ok (.ireturn, 1) := by decide +kernel
theorem dX1_writeWord_26 : decode cX1_writeWord 26 = .ok (.aload_n 0, 1) := by decide +kernel
theorem dX1_writeWord_27 : decode cX1_writeWord 27 = .ok (.getfield 13, 3) := by decide +kernel
theorem dX1_writeWord_30 : decode cX1_writeWord 30 = .ok (.bipush 8, 2) := by decide +kernel
theorem dX1_writeWord_32 : decode cX1_writeWord 32 = .ok (.iload_n 1, 1) := by decide +kernel
theorem dX1_writeWord_33 : decode cX1_writeWord 33 = .ok (.imul, 1) := by decide +kernel
theorem dX1_writeWord_34 : decode cX1_writeWord 34 = .ok (.iload_n 2, 1) := by decide +kernel
theorem dX1_writeWord_35 : decode cX1_writeWord 35 = .ok (.iadd, 1) := by decide +kernel
theorem dX1_writeWord_36 : decode cX1_writeWord 36 = .ok (.iload_n 3, 1) := by decide +kernel
theorem dX1_writeWord_37 : decode cX1_writeWord 37 = .ok (.iastore, 1) := by decide +kernel
theorem dX1_writeWord_38 : decode cX1_writeWord 38 = .ok (.aload_n 0, 1) := by decide +kernel
theorem dX1_writeWord_39 : decode cX1_writeWord 39 = .ok (.getfield 22, 3) := by decide +kernel
theorem dX1_writeWord_42 : decode cX1_writeWord 42 = .ok (.iload_n 1, 1) := by decide +kernel
theorem dX1_writeWord_43 : decode cX1_writeWord 43 = .ok (.iconst 1, 1) := by decide +kernel
theorem dX1_writeWord_44 : decode cX1_writeWord 44 = .ok (.bastore, 1) := by decide +kernel
theorem dX1_writeWord_45 : decode cX1_writeWord 45 = .ok (.iconst 0, 1) := by decide +kernel
theorem dX1_writeWord_46 : decode cX1_writeWord 46 = .ok (.ireturn, 1) := by decide +kernel
set_option maxRecDepth 20000 in
theorem ggX1_flush_X1_frameOf : GoodIn wsX1_flush wsX1_frameOf := goodIn_r _ [6, 7, 8, 17, 18, 19, 20, 21, 22, 23, 24, 25, 26, 27, 28] (by decide +kernel) (by decide +kernel)
set_option maxRecDepth 20000 in
theorem gX1_flush_X1_frameOf : GoodIn wsX1_flush (wsV RX1 66 RX1 yX1_frameOf wsX1_frameOf) := goodIn_app (goodIn_of _ (by decide +kernel)) ggX1_flush_X1_frameOf
set_option maxRecDepth 20000 in
theorem ggX1_flush_X1_store : GoodIn wsX1_flush wsX1_store := goodIn_r _ [12, 13, 14, 8, 15, 1, 16, 17, 18, 19, 20, 21, 22, 23, 24, 25, 26, 27, 28] (by decide +kernel) (by decide +kernel)
set_option maxRecDepth 20000 in
theorem gX1_flush_X1_store : GoodIn wsX1_flush (wsV RX1 59 RX1 yX1_store wsX1_store) := goodIn_app (goodIn_of _ (by decide +kernel)) ggX1_flush_X1_store
theorem dX1_flush_0 : decode cX1_flush 0 = .ok (.aload_n 0, 1) := by decide +kernel
theorem dX1_flush_1 : decode cX1_flush 1 = .ok (.iload_n 1, 1) := by decide +kernel
theorem dX1_flush_2 : decode cX1_flush 2 = .ok (.invokevirtual 66, 3) := by decide +kernel
theorem dX1_flush_5 : decode cX1_flush 5 = .ok (.istore_n 2, 1) := by decide +kernel
theorem dX1_flush_6 : decode cX1_flush 6 = .ok (.iload_n 2, 1) := by decide +kernel
theorem dX1_flush_7 : decode cX1_flush 7 = .ok (.bipush (-5), 2) := by decide +kernel
theorem dX1_flush_9 : decode cX1_flush 9 = .ok (.if_icmp .eq 12, 3) := by decide +kernel
theorem dX1_flush_12 : decode cX1_flush 12 = .ok (.aload_n 0, 1) := by decide +kernel
theorem dX1_flush_13 : decode cX1_flush 13 = .ok (.getfield 22, 3) := by decide +kernel
theorem dX1_flush_16 : decode cX1_flush 16 = .ok (.iload_n 2, 1) := by decide +kernel
theorem dX1_flush_17 : decode cX1_flush 17 = .ok (.baload, 1) := by decide +kernel
theorem dX1_flush_18 : decode cX1_flush 18 = .ok (.ifCond .ne 5, 3) := by decide +kernel
theorem dX1_flush_21 : decode cX1_flush 21 = .ok (.iconst 0, 1) := by decide +kernel
theorem dX1_flush_22 : decode cX1_flush 22 = .ok (.ireturn, 1) := by decide +kernel
theorem dX1_flush_23 : decode cX1_flush 23 = .ok (.aload_n 0, 1) := by decide +kernel
theorem dX1_flush_24 : decode cX1_flush 24 = .ok (.iload_n 2, 1) := by decide +kernel
theorem dX1_flush_25 : decode cX1_flush 25 = .ok (.invokevirtual 59, 3) := by decide +kernel
theorem dX1_flush_28 : decode cX1_flush 28 = .ok (.iconst 1, 1) := by decide +kernel
theorem dX1_flush_29 : decode cX1_flush 29 = .ok (.ireturn, 1) := by decide +kernel
set_option maxRecDepth 20000 in
theorem ggX1_flushAll_X1_flush : GoodIn wsX1_flushAll wsX1_flush := goodIn_r _ [7, 8, 9, 10, 11, 6, 12, 1, 2, 13, 14, 15, 16, 17, 18, 19, 20, 21, 22, 23, 24, 25, 26, 27, 28, 29, 30, 31, 32] (by decide +kernel) (by decide +kernel)
set_option maxRecDepth 20000 in
theorem gX1_flushAll_X1_flush : GoodIn wsX1_flushAll (wsV RX1 76 RX1 yX1_flush wsX1_flush) := goodIn_app (goodIn_of _ (by decide +kernel)) ggX1_flushAll_X1_flush
theorem dX1_flushAll_0 : decode cX1_flushAll 0 = .ok (.iconst 0, 1) := by decide +kernel
theorem dX1_flushAll_1 : decode cX1_flushAll 1 = .ok (.istore_n 1, 1) := by decide +kernel
theorem dX1_flushAll_2 : decode cX1_flushAll 2 = .ok (.iconst 0, 1) := by decide +kernel
theorem dX1_flushAll_3 : decode cX1_flushAll 3 = .ok (.istore_n 2, 1) := by decide +kernel
theorem dX1_flushAll_4 : decode cX1_flushAll 4 = .ok (.iload_n 2, 1) := by decide +kernel
theorem dX1_flushAll_5 : decode cX1_flushAll 5 = .ok (.aload_n 0, 1) := by decide +kernel
theorem dX1_flushAll_6 : decode cX1_flushAll 6 = .ok (.getfield 29, 3) := by decide +kernel
theorem dX1_flushAll_9 : decode cX1_flushAll 9 = .ok (.if_icmp .ge 36, 3) := by decide +kernel
theorem dX1_flushAll_12 : decode cX1_flushAll 12 = .ok (.iload_n 1, 1) := by decide +kernel
theorem dX1_flushAll_13 : decode cX1_flushAll 13 = .ok (.aload_n 0, 1) := by decide +kernel
theorem dX1_flushAll_14 : decode cX1_flushAll 14 = .ok (.getfield 16, 3) := by decide +kernel
theorem dX1_flushAll_17 : decode cX1_flushAll 17 = .ok (.iload_n 2, 1) := by decide +kernel
theorem dX1_flushAll_18 : decode cX1_flushAll 18 = .ok (.iaload, 1) := by decide +kernel
theorem dX1_flushAll_19 : decode cX1_flushAll 19 = .ok (.iconst (-1), 1) := by decide +kernel
theorem dX1_flushAll_20 : decode cX1_flushAll 20 = .ok (.if_icmp .ne 7, 3) := by decide +kernel
theorem dX1_flushAll_23 : decode cX1_flushAll 23 = .ok (.iconst 0, 1) := by decide +kernel
theorem dX1_flushAll_24 : decode cX1_flushAll 24 = .ok (.goto 13, 3) := by decide +kernel
theorem dX1_flushAll_27 : decode cX1_flushAll 27 = .ok (.aload_n 0, 1) := by decide +kernel
theorem dX1_flushAll_28 : decode cX1_flushAll 28 = .ok (.aload_n 0, 1) := by decide +kernel
theorem dX1_flushAll_29 : decode cX1_flushAll 29 = .ok (.getfield 16, 3) := by decide +kernel
theorem dX1_flushAll_32 : decode cX1_flushAll 32 = .ok (.iload_n 2, 1) := by decide +kernel
theorem dX1_flushAll_33 : decode cX1_flushAll 33 = .ok (.iaload, 1) := by decide +kernel
theorem dX1_flushAll_34 : decode cX1_flushAll 34 = .ok (.invokevirtual 76, 3) := by decide +kernel
theorem dX1_flushAll_37 : decode cX1_flushAll 37 = .ok (.iadd, 1) := by decide +kernel
theorem dX1_flushAll_38 : decode cX1_flushAll 38 = .ok (.istore_n 1, 1) := by decide +kernel
theorem dX1_flushAll_39 : decode cX1_flushAll 39 = .ok (.iinc 2 1, 3) := by decide +kernel
theorem dX1_flushAll_42 : decode cX1_flushAll 42 = .ok (.goto (-38), 3) := by decide +kernel
theorem dX1_flushAll_45 : decode cX1_flushAll 45 = .ok (.iload_n 1, 1) := by decide +kernel
theorem dX1_flushAll_46 : decode cX1_flushAll 46 = .ok (.ireturn, 1) := by decide +kernel
set_option maxRecDepth 20000 in
theorem ggX1_drop_X1_frameOf : GoodIn wsX1_drop wsX1_frameOf := goodIn_r _ [6, 7, 8, 15, 16, 17, 18, 19, 20, 21, 22, 23, 24, 25, 26] (by decide +kernel) (by decide +kernel)
set_option maxRecDepth 20000 in
theorem gX1_drop_X1_frameOf : GoodIn wsX1_drop (wsV RX1 66 RX1 yX1_frameOf wsX1_frameOf) := goodIn_app (goodIn_of _ (by decide +kernel)) ggX1_drop_X1_frameOf
set_option maxRecDepth 20000 in
theorem ggX1_drop_X1_empty : GoodIn wsX1_drop wsX1_empty := goodIn_r _ [12, 8, 1, 13, 14, 15, 16, 17, 18, 19, 20, 21, 22, 23, 24, 25, 26] (by decide +kernel) (by decide +kernel)
set_option maxRecDepth 20000 in
theorem gX1_drop_X1_empty : GoodIn wsX1_drop (wsV RX1 42 RX1 yX1_empty wsX1_empty) := goodIn_app (goodIn_of _ (by decide +kernel)) ggX1_drop_X1_empty
theorem dX1_drop_0 : decode cX1_drop 0 = .ok (.aload_n 0, 1) := by decide +kernel
theorem dX1_drop_1 : decode cX1_drop 1 = .ok (.iload_n 1, 1) := by decide +kernel
theorem dX1_drop_2 : decode cX1_drop 2 = .ok (.invokevirtual 66, 3) := by decide +kernel
theorem dX1_drop_5 : decode cX1_drop 5 = .ok (.istore_n 2, 1) := by decide +kernel
theorem dX1_drop_6 : decode cX1_drop 6 = .ok (.iload_n 2, 1) := by decide +kernel
theorem dX1_drop_7 : decode cX1_drop 7 = .ok (.bipush (-5), 2) := by decide +kernel
theorem dX1_drop_9 : decode cX1_drop 9 = .ok (.if_icmp .eq 12, 3) := by decide +kernel
theorem dX1_drop_12 : decode cX1_drop 12 = .ok (.aload_n 0, 1) := by decide +kernel
theorem dX1_drop_13 : decode cX1_drop 13 = .ok (.getfield 19, 3) := by decide +kernel
theorem dX1_drop_16 : decode cX1_drop 16 = .ok (.iload_n 2, 1) := by decide +kernel
theorem dX1_drop_17 : decode cX1_drop 17 = .ok (.iaload, 1) := by decide +kernel
theorem dX1_drop_18 : decode cX1_drop 18 = .ok (.ifCond .le 5, 3) := by decide +kernel
theorem dX1_drop_21 : decode cX1_drop 21 = .ok (.iconst 0, 1) := by decide +kernel
theorem dX1_drop_22 : decode cX1_drop 22 = .ok (.ireturn, 1) := by decide +kernel
theorem dX1_drop_23 : decode cX1_drop 23 = .ok (.aload_n 0, 1) := by decide +kernel
theorem dX1_drop_24 : decode cX1_drop 24 = .ok (.iload_n 2, 1) := by decide +kernel
theorem dX1_drop_25 : decode cX1_drop 25 = .ok (.invokevirtual 42, 3) := by decide +kernel
theorem dX1_drop_28 : decode cX1_drop 28 = .ok (.iconst 1, 1) := by decide +kernel
theorem dX1_drop_29 : decode cX1_drop 29 = .ok (.ireturn, 1) := by decide +kernel
set_option maxRecDepth 20000 in
theorem ggX1_copy_X1_isPage : GoodIn wsX1_copy wsX1_isPage := goodIn_r _ [10, 11, 18, 19, 20, 21, 22, 23, 24, 25, 26, 27, 28, 29] (by decide +kernel) (by decide +kernel)
set_option maxRecDepth 20000 in
theorem gX1_copy_X1_isPage : GoodIn wsX1_copy (wsV RX1 62 RX1 yX1_isPage wsX1_isPage) := goodIn_app (goodIn_of _ (by decide +kernel)) ggX1_copy_X1_isPage
set_option maxRecDepth 20000 in
theorem ggX1_copy_X1_frameOf : GoodIn wsX1_copy wsX1_frameOf := goodIn_r _ [15, 16, 17, 18, 19, 20, 21, 22, 23, 24, 25, 26, 27, 28, 29] (by decide +kernel) (by decide +kernel)
set_option maxRecDepth 20000 in
theorem gX1_copy_X1_frameOf : GoodIn wsX1_copy (wsV RX1 66 RX1 yX1_frameOf wsX1_frameOf) := goodIn_app (goodIn_of _ (by decide +kernel)) ggX1_copy_X1_frameOf
theorem dX1_copy_0 : decode cX1_copy 0 = .ok (.aload_n 0, 1) := by decide +kernel
theorem dX1_copy_1 : decode cX1_copy 1 = .ok (.iload_n 1, 1) := by decide +kernel
theorem dX1_copy_2 : decode cX1_copy 2 = .ok (.invokevirtual 62, 3) := by decide +kernel
theorem dX1_copy_5 : decode cX1_copy 5 = .ok (.ifCond .eq 11, 3) := by decide +kernel
theorem dX1_copy_8 : decode cX1_copy 8 = .ok (.aload_n 0, 1) := by decide +kernel
theorem dX1_copy_9 : decode cX1_copy 9 = .ok (.iload_n 2, 1) := by decide +kernel
theorem dX1_copy_10 : decode cX1_copy 10 = .ok (.invokevirtual 62, 3) := by decide +kernel
theorem dX1_copy_13 : decode cX1_copy 13 = .ok (.ifCond .ne 6, 3) := by decide +kernel
theorem dX1_copy_16 : decode cX1_copy 16 = .ok (.bipush (-2), 2) := by decide +kernel
theorem dX1_copy_18 : decode cX1_copy 18 = .ok (.ireturn, 1) := by decide +kernel
theorem dX1_copy_19 : decode cX1_copy 19 = .ok (.aload_n 0, 1) := by decide +kernel
theorem dX1_copy_20 : decode cX1_copy 20 = .ok (.iload_n 1, 1) := by decide +kernel
theorem dX1_copy_21 : decode cX1_copy 21 = .ok (.invokevirtual 66, 3) := by decide +kernel
theorem dX1_copy_24 : decode cX1_copy 24 = .ok (.istore_n 3, 1) := by decide +kernel
theorem dX1_copy_25 : decode cX1_copy 25 = .ok (.iload_n 3, 1) := by decide +kernel
theorem dX1_copy_26 : decode cX1_copy 26 = .ok (.bipush (-5), 2) := by decide +kernel
theorem dX1_copy_28 : decode cX1_copy 28 = .ok (.if_icmp .eq 12, 3) := by decide +kernel
theorem dX1_copy_31 : decode cX1_copy 31 = .ok (.aload_n 0, 1) := by decide +kernel
theorem dX1_copy_32 : decode cX1_copy 32 = .ok (.getfield 19, 3) := by decide +kernel
theorem dX1_copy_35 : decode cX1_copy 35 = .ok (.iload_n 3, 1) := by decide +kernel
theorem dX1_copy_36 : decode cX1_copy 36 = .ok (.iaload, 1) := by decide +kernel
theorem dX1_copy_37 : decode cX1_copy 37 = .ok (.ifCond .ne 6, 3) := by decide +kernel
theorem dX1_copy_40 : decode cX1_copy 40 = .ok (.bipush (-3), 2) := by decide +kernel
theorem dX1_copy_42 : decode cX1_copy 42 = .ok (.ireturn, 1) := by decide +kernel
theorem dX1_copy_43 : decode cX1_copy 43 = .ok (.aload_n 0, 1) := by decide +kernel
theorem dX1_copy_44 : decode cX1_copy 44 = .ok (.iload_n 2, 1) := by decide +kernel
theorem dX1_copy_45 : decode cX1_copy 45 = .ok (.invokevirtual 66, 3) := by decide +kernel
theorem dX1_copy_48 : decode cX1_copy 48 = .ok (.istore 4, 2) := by decide +kernel
theorem dX1_copy_50 : decode cX1_copy 50 = .ok (.iconst 0, 1) := by decide +kernel
theorem dX1_copy_51 : decode cX1_copy 51 = .ok (.istore 5, 2) := by decide +kernel
theorem dX1_copy_53 : decode cX1_copy 53 = .ok (.iload 5, 2) := by decide +kernel
theorem dX1_copy_55 : decode cX1_copy 55 = .ok (.aload_n 0, 1) := by decide +kernel
theorem dX1_copy_56 : decode cX1_copy 56 = .ok (.getfield 36, 3) := by decide +kernel
theorem dX1_copy_59 : decode cX1_copy 59 = .ok (.if_icmp .ge 56, 3) := by decide +kernel
theorem dX1_copy_62 : decode cX1_copy 62 = .ok (.aload_n 0, 1) := by decide +kernel
theorem dX1_copy_63 : decode cX1_copy 63 = .ok (.getfield 13, 3) := by decide +kernel
theorem dX1_copy_66 : decode cX1_copy 66 = .ok (.bipush 8, 2) := by decide +kernel
theorem dX1_copy_68 : decode cX1_copy 68 = .ok (.iload_n 3, 1) := by decide +kernel
theorem dX1_copy_69 : decode cX1_copy 69 = .ok (.imul, 1) := by decide +kernel
theorem dX1_copy_70 : decode cX1_copy 70 = .ok (.iload 5, 2) := by decide +kernel
theorem dX1_copy_72 : decode cX1_copy 72 = .ok (.iadd, 1) := by decide +kernel
theorem dX1_copy_73 : decode cX1_copy 73 = .ok (.iload 4, 2) := by decide +kernel
theorem dX1_copy_75 : decode cX1_copy 75 = .ok (.bipush (-5), 2) := by decide +kernel
theorem dX1_copy_77 : decode cX1_copy 77 = .ok (.if_icmp .ne 18, 3) := by decide +kernel
theorem dX1_copy_80 : decode cX1_copy 80 = .ok (.aload_n 0, 1) := by decide +kernel
theorem dX1_copy_81 : decode cX1_copy 81 = .ok (.getfield 7, 3) := by decide +kernel
theorem dX1_copy_84 : decode cX1_copy 84 = .ok (.bipush 8, 2) := by decide +kernel
theorem dX1_copy_86 : decode cX1_copy 86 = .ok (.iload_n 2, 1) := by decide +kernel
theorem dX1_copy_87 : decode cX1_copy 87 = .ok (.imul, 1) := by decide +kernel
theorem dX1_copy_88 : decode cX1_copy 88 = .ok (.iload 5, 2) := by decide +kernel
theorem dX1_copy_90 : decode cX1_copy 90 = .ok (.iadd, 1) := by decide +kernel
theorem dX1_copy_91 : decode cX1_copy 91 = .ok (.iaload, 1) := by decide +kernel
theorem dX1_copy_92 : decode cX1_copy 92 = .ok (.goto 16, 3) := by decide +kernel
theorem dX1_copy_95 : decode cX1_copy 95 = .ok (.aload_n 0, 1) := by decide +kernel
theorem dX1_copy_96 : decode cX1_copy 96 = .ok (.getfield 13, 3) := by decide +kernel
theorem dX1_copy_99 : decode cX1_copy 99 = .ok (.bipush 8, 2) := by decide +kernel
theorem dX1_copy_101 : decode cX1_copy 101 = .ok (.iload 4, 2) := by decide +kernel
theorem dX1_copy_103 : decode cX1_copy 103 = .ok (.imul, 1) := by decide +kernel
theorem dX1_copy_104 : decode cX1_copy 104 = .ok (.iload 5, 2) := by decide +kernel
theorem dX1_copy_106 : decode cX1_copy 106 = .ok (.iadd, 1) := by decide +kernel
theorem dX1_copy_107 : decode cX1_copy 107 = .ok (.iaload, 1) := by decide +kernel
theorem dX1_copy_108 : decode cX1_copy 108 = .ok (.iastore, 1) := by decide +kernel
theorem dX1_copy_109 : decode cX1_copy 109 = .ok (.iinc 5 1, 3) := by decide +kernel
theorem dX1_copy_112 : decode cX1_copy 112 = .ok (.goto (-59), 3) := by decide +kernel
theorem dX1_copy_115 : decode cX1_copy 115 = .ok (.aload_n 0, 1) := by decide +kernel
theorem dX1_copy_116 : decode cX1_copy 116 = .ok (.getfield 22, 3) := by decide +kernel
theorem dX1_copy_119 : decode cX1_copy 119 = .ok (.iload_n 3, 1) := by decide +kernel
theorem dX1_copy_120 : decode cX1_copy 120 = .ok (.iconst 1, 1) := by decide +kernel
theorem dX1_copy_121 : decode cX1_copy 121 = .ok (.bastore, 1) := by decide +kernel
theorem dX1_copy_122 : decode cX1_copy 122 = .ok (.iconst 0, 1) := by decide +kernel
theorem dX1_copy_123 : decode cX1_copy 123 = .ok (.ireturn, 1) := by decide +kernel
set_option maxRecDepth 20000 in
theorem ggX1_diskWord_X1_isPage : GoodIn wsX1_diskWord wsX1_isPage := goodIn_r _ [7, 8, 9, 10, 11, 12, 13, 14, 15, 16, 17, 18, 19, 20] (by decide +kernel) (by decide +kernel)
set_option maxRecDepth 20000 in
theorem gX1_diskWord_X1_isPage : GoodIn wsX1_diskWord (wsV RX1 62 RX1 yX1_isPage wsX1_isPage) := goodIn_app (goodIn_of _ (by decide +kernel)) ggX1_diskWord_X1_isPage
theorem dX1_diskWord_0 : decode cX1_diskWord 0 = .ok (.aload_n 0, 1) := by decide +kernel
theorem dX1_diskWord_1 : decode cX1_diskWord 1 = .ok (.iload_n 1, 1) := by decide +kernel
theorem dX1_diskWord_2 : decode cX1_diskWord 2 = .ok (.invokevirtual 62, 3) := by decide +kernel
theorem dX1_diskWord_5 : decode cX1_diskWord 5 = .ok (.ifCond .eq 15, 3) := by decide +kernel
theorem dX1_diskWord_8 : decode cX1_diskWord 8 = .ok (.iload_n 2, 1) := by decide +kernel
theorem dX1_diskWord_9 : decode cX1_diskWord 9 = .ok (.ifCond .lt 11, 3) := by decide +kernel
theorem dX1_diskWord_12 : decode cX1_diskWord 12 = .ok (.iload_n 2, 1) := by decide +kernel
theorem dX1_diskWord_13 : decode cX1_diskWord 13 = .ok (.aload_n 0, 1) := by decide +kernel
theorem dX1_diskWord_14 : decode cX1_diskWord 14 = .ok (.getfield 36, 3) := by decide +kernel
theorem dX1_diskWord_17 : decode cX1_diskWord 17 = .ok (.if_icmp .lt 7, 3) := by decide +kernel
theorem dX1_diskWord_20 : decode cX1_diskWord 20 = .ok (.iconst 0, 1) := by decide +kernel
theorem dX1_diskWord_21 : decode cX1_diskWord 21 = .ok (.goto 14, 3) := by decide +kernel
theorem dX1_diskWord_24 : decode cX1_diskWord 24 = .ok (.aload_n 0, 1) := by decide +kernel
theorem dX1_diskWord_25 : decode cX1_diskWord 25 = .ok (.getfield 7, 3) := by decide +kernel
theorem dX1_diskWord_28 : decode cX1_diskWord 28 = .ok (.bipush 8, 2) := by decide +kernel
theorem dX1_diskWord_30 : decode cX1_diskWord 30 = .ok (.iload_n 1, 1) := by decide +kernel
theorem dX1_diskWord_31 : decode cX1_diskWord 31 = .ok (.imul, 1) := by decide +kernel
theorem dX1_diskWord_32 : decode cX1_diskWord 32 = .ok (.iload_n 2, 1) := by decide +kernel
theorem dX1_diskWord_33 : decode cX1_diskWord 33 = .ok (.iadd, 1) := by decide +kernel
theorem dX1_diskWord_34 : decode cX1_diskWord 34 = .ok (.iaload, 1) := by decide +kernel
theorem dX1_diskWord_35 : decode cX1_diskWord 35 = .ok (.ireturn, 1) := by decide +kernel
set_option maxRecDepth 20000 in
theorem ggX1_resident_X1_frameOf : GoodIn wsX1_resident wsX1_frameOf := goodIn_r _ [5, 6, 7, 8, 9, 10, 11, 12, 13, 14, 15, 16, 17, 18, 19] (by decide +kernel) (by decide +kernel)
set_option maxRecDepth 20000 in
theorem gX1_resident_X1_frameOf : GoodIn wsX1_resident (wsV RX1 66 RX1 yX1_frameOf wsX1_frameOf) := goodIn_app (goodIn_of _ (by decide +kernel)) ggX1_resident_X1_frameOf
theorem dX1_resident_0 : decode cX1_resident 0 = .ok (.aload_n 0, 1) := by decide +kernel
theorem dX1_resident_1 : decode cX1_resident 1 = .ok (.iload_n 1, 1) := by decide +kernel
theorem dX1_resident_2 : decode cX1_resident 2 = .ok (.invokevirtual 66, 3) := by decide +kernel
theorem dX1_resident_5 : decode cX1_resident 5 = .ok (.bipush (-5), 2) := by decide +kernel
theorem dX1_resident_7 : decode cX1_resident 7 = .ok (.if_icmp .eq 7, 3) := by decide +kernel
theorem dX1_resident_10 : decode cX1_resident 10 = .ok (.iconst 1, 1) := by decide +kernel
theorem dX1_resident_11 : decode cX1_resident 11 = .ok (.goto 4, 3) := by decide +kernel
theorem dX1_resident_14 : decode cX1_resident 14 = .ok (.iconst 0, 1) := by decide +kernel
theorem dX1_resident_15 : decode cX1_resident 15 = .ok (.ireturn, 1) := by decide +kernel
theorem dX1_diskReads_0 : decode cX1_diskReads 0 = .ok (.aload_n 0, 1) := by decide +kernel
theorem dX1_diskReads_1 : decode cX1_diskReads 1 = .ok (.getfield 49, 3) := by decide +kernel
theorem dX1_diskReads_4 : decode cX1_diskReads 4 = .ok (.ireturn, 1) := by decide +kernel
theorem dX1_diskWrites_0 : decode cX1_diskWrites 0 = .ok (.aload_n 0, 1) := by decide +kernel
theorem dX1_diskWrites_1 : decode cX1_diskWrites 1 = .ok (.getfield 52, 3) := by decide +kernel
theorem dX1_diskWrites_4 : decode cX1_diskWrites 4 = .ok (.ireturn, 1) := by decide +kernel
theorem dX1_told_0 : decode cX1_told 0 = .ok (.iload_n 1, 1) := by decide +kernel
theorem dX1_told_1 : decode cX1_told 1 = .ok (.ifCond .lt 11, 3) := by decide +kernel
theorem dX1_told_4 : decode cX1_told 4 = .ok (.iload_n 1, 1) := by decide +kernel
theorem dX1_told_5 : decode cX1_told 5 = .ok (.aload_n 0, 1) := by decide +kernel
theorem dX1_told_6 : decode cX1_told 6 = .ok (.getfield 29, 3) := by decide +kernel
theorem dX1_told_9 : decode cX1_told 9 = .ok (.if_icmp .lt 6, 3) := by decide +kernel
theorem dX1_told_12 : decode cX1_told 12 = .ok (.bipush (-5), 2) := by decide +kernel
theorem dX1_told_14 : decode cX1_told 14 = .ok (.ireturn, 1) := by decide +kernel
theorem dX1_told_15 : decode cX1_told 15 = .ok (.iload_n 2, 1) := by decide +kernel
theorem dX1_told_16 : decode cX1_told 16 = .ok (.ifCond .ne 12, 3) := by decide +kernel
theorem dX1_told_19 : decode cX1_told 19 = .ok (.aload_n 0, 1) := by decide +kernel
theorem dX1_told_20 : decode cX1_told 20 = .ok (.getfield 16, 3) := by decide +kernel
theorem dX1_told_23 : decode cX1_told 23 = .ok (.iload_n 1, 1) := by decide +kernel
theorem dX1_told_24 : decode cX1_told 24 = .ok (.iaload, 1) := by decide +kernel
theorem dX1_told_25 : decode cX1_told 25 = .ok (.goto 63, 3) := by decide +kernel
theorem dX1_told_28 : decode cX1_told 28 = .ok (.iload_n 2, 1) := by decide +kernel
theorem dX1_told_29 : decode cX1_told 29 = .ok (.iconst 1, 1) := by decide +kernel
theorem dX1_told_30 : decode cX1_told 30 = .ok (.if_icmp .ne 12, 3) := by decide +kernel
theorem dX1_told_33 : decode cX1_told 33 = .ok (.aload_n 0, 1) := by decide +kernel
theorem dX1_told_34 : decode cX1_told 34 = .ok (.getfield 19, 3) := by decide +kernel
theorem dX1_told_37 : decode cX1_told 37 = .ok (.iload_n 1, 1) := by decide +kernel
theorem dX1_told_38 : decode cX1_told 38 = .ok (.iaload, 1) := by decide +kernel
theorem dX1_told_39 : decode cX1_told 39 = .ok (.goto 49, 3) := by decide +kernel
theorem dX1_told_42 : decode cX1_told 42 = .ok (.iload_n 2, 1) := by decide +kernel
theorem dX1_told_43 : decode cX1_told 43 = .ok (.iconst 2, 1) := by decide +kernel
theorem dX1_told_44 : decode cX1_told 44 = .ok (.if_icmp .ne 20, 3) := by decide +kernel
theorem dX1_told_47 : decode cX1_told 47 = .ok (.aload_n 0, 1) := by decide +kernel
theorem dX1_told_48 : decode cX1_told 48 = .ok (.getfield 22, 3) := by decide +kernel
theorem dX1_told_51 : decode cX1_told 51 = .ok (.iload_n 1, 1) := by decide +kernel
theorem dX1_told_52 : decode cX1_told 52 = .ok (.baload, 1) := by decide +kernel
theorem dX1_told_53 : decode cX1_told 53 = .ok (.ifCond .eq 7, 3) := by decide +kernel
theorem dX1_told_56 : decode cX1_told 56 = .ok (.iconst 1, 1) := by decide +kernel
theorem dX1_told_57 : decode cX1_told 57 = .ok (.goto 31, 3) := by decide +kernel
theorem dX1_told_60 : decode cX1_told 60 = .ok (.iconst 0, 1) := by decide +kernel
theorem dX1_told_61 : decode cX1_told 61 = .ok (.goto 27, 3) := by decide +kernel
theorem dX1_told_64 : decode cX1_told 64 = .ok (.iload_n 2, 1) := by decide +kernel
theorem dX1_told_65 : decode cX1_told 65 = .ok (.iconst 3, 1) := by decide +kernel
theorem dX1_told_66 : decode cX1_told 66 = .ok (.if_icmp .ne 20, 3) := by decide +kernel
theorem dX1_told_69 : decode cX1_told 69 = .ok (.aload_n 0, 1) := by decide +kernel
theorem dX1_told_70 : decode cX1_told 70 = .ok (.getfield 26, 3) := by decide +kernel
theorem dX1_told_73 : decode cX1_told 73 = .ok (.iload_n 1, 1) := by decide +kernel
theorem dX1_told_74 : decode cX1_told 74 = .ok (.baload, 1) := by decide +kernel
theorem dX1_told_75 : decode cX1_told 75 = .ok (.ifCond .eq 7, 3) := by decide +kernel
theorem dX1_told_78 : decode cX1_told 78 = .ok (.iconst 1, 1) := by decide +kernel
theorem dX1_told_79 : decode cX1_told 79 = .ok (.goto 9, 3) := by decide +kernel
theorem dX1_told_82 : decode cX1_told 82 = .ok (.iconst 0, 1) := by decide +kernel
theorem dX1_told_83 : decode cX1_told 83 = .ok (.goto 5, 3) := by decide +kernel
theorem dX1_told_86 : decode cX1_told 86 = .ok (.bipush (-5), 2) := by decide +kernel
theorem dX1_told_88 : decode cX1_told 88 = .ok (.ireturn, 1) := by decide +kernel
theorem dX1_hand_0 : decode cX1_hand 0 = .ok (.aload_n 0, 1) := by decide +kernel
theorem dX1_hand_1 : decode cX1_hand 1 = .ok (.getfield 46, 3) := by decide +kernel
theorem dX1_hand_4 : decode cX1_hand 4 = .ok (.ireturn, 1) := by decide +kernel
theorem dX1_pinned_0 : decode cX1_pinned 0 = .ok (.iconst 0, 1) := by decide +kernel
theorem dX1_pinned_1 : decode cX1_pinned 1 = .ok (.istore_n 1, 1) := by decide +kernel
theorem dX1_pinned_2 : decode cX1_pinned 2 = .ok (.iconst 0, 1) := by decide +kernel
theorem dX1_pinned_3 : decode cX1_pinned 3 = .ok (.istore_n 2, 1) := by decide +kernel
theorem dX1_pinned_4 : decode cX1_pinned 4 = .ok (.iload_n 2, 1) := by decide +kernel
theorem dX1_pinned_5 : decode cX1_pinned 5 = .ok (.aload_n 0, 1) := by decide +kernel
theorem dX1_pinned_6 : decode cX1_pinned 6 = .ok (.getfield 29, 3) := by decide +kernel
theorem dX1_pinned_9 : decode cX1_pinned 9 = .ok (.if_icmp .ge 26, 3) := by decide +kernel
theorem dX1_pinned_12 : decode cX1_pinned 12 = .ok (.iload_n 1, 1) := by decide +kernel
theorem dX1_pinned_13 : decode cX1_pinned 13 = .ok (.aload_n 0, 1) := by decide +kernel
theorem dX1_pinned_14 : decode cX1_pinned 14 = .ok (.getfield 19, 3) := by decide +kernel
theorem dX1_pinned_17 : decode cX1_pinned 17 = .ok (.iload_n 2, 1) := by decide +kernel
theorem dX1_pinned_18 : decode cX1_pinned 18 = .ok (.iaload, 1) := by decide +kernel
theorem dX1_pinned_19 : decode cX1_pinned 19 = .ok (.ifCond .le 7, 3) := by decide +kernel
theorem dX1_pinned_22 : decode cX1_pinned 22 = .ok (.iconst 1, 1) := by decide +kernel
theorem dX1_pinned_23 : decode cX1_pinned 23 = .ok (.goto 4, 3) := by decide +kernel
theorem dX1_pinned_26 : decode cX1_pinned 26 = .ok (.iconst 0, 1) := by decide +kernel
theorem dX1_pinned_27 : decode cX1_pinned 27 = .ok (.iadd, 1) := by decide +kernel
theorem dX1_pinned_28 : decode cX1_pinned 28 = .ok (.istore_n 1, 1) := by decide +kernel
theorem dX1_pinned_29 : decode cX1_pinned 29 = .ok (.iinc 2 1, 3) := by decide +kernel
theorem dX1_pinned_32 : decode cX1_pinned 32 = .ok (.goto (-28), 3) := by decide +kernel
theorem dX1_pinned_35 : decode cX1_pinned 35 = .ok (.iload_n 1, 1) := by decide +kernel
theorem dX1_pinned_36 : decode cX1_pinned 36 = .ok (.ireturn, 1) := by decide +kernel
theorem dJ9_max_7cf53_0 : decode cJ9_max_7cf53 0 = .ok (.iload_n 0, 1) := by decide +kernel
theorem dJ9_max_7cf53_1 : decode cJ9_max_7cf53 1 = .ok (.iload_n 1, 1) := by decide +kernel
theorem dJ9_max_7cf53_2 : decode cJ9_max_7cf53 2 = .ok (.if_icmp .lt 7, 3) := by decide +kernel
theorem dJ9_max_7cf53_5 : decode cJ9_max_7cf53 5 = .ok (.iload_n 0, 1) := by decide +kernel
theorem dJ9_max_7cf53_6 : decode cJ9_max_7cf53 6 = .ok (.goto 4, 3) := by decide +kernel
theorem dJ9_max_7cf53_9 : decode cJ9_max_7cf53 9 = .ok (.iload_n 1, 1) := by decide +kernel
theorem dJ9_max_7cf53_10 : decode cJ9_max_7cf53 10 = .ok (.ireturn, 1) := by decide +kernel
theorem dJ9_min_7cf53_0 : decode cJ9_min_7cf53 0 = .ok (.iload_n 0, 1) := by decide +kernel
theorem dJ9_min_7cf53_1 : decode cJ9_min_7cf53 1 = .ok (.iload_n 1, 1) := by decide +kernel
theorem dJ9_min_7cf53_2 : decode cJ9_min_7cf53 2 = .ok (.if_icmp .gt 7, 3) := by decide +kernel
theorem dJ9_min_7cf53_5 : decode cJ9_min_7cf53 5 = .ok (.iload_n 0, 1) := by decide +kernel
theorem dJ9_min_7cf53_6 : decode cJ9_min_7cf53 6 = .ok (.goto 4, 3) := by decide +kernel
theorem dJ9_min_7cf53_9 : decode cJ9_min_7cf53 9 = .ok (.iload_n 1, 1) := by decide +kernel
theorem dJ9_min_7cf53_10 : decode cJ9_min_7cf53 10 = .ok (.ireturn, 1) := by decide +kernel
end
section
theorem dL_cell_0 : decode cL_cell 0 = .ok (.iload_n 1, 1) := by decide +kernel
theorem dL_cell_1 : decode cL_cell 1 = .ok (.aload_n 0, 1) := by decide +kernel
theorem dL_cell_2 : decode cL_cell 2 = .ok (.arraylength, 1) := by decide +kernel
theorem dL_cell_3 : decode cL_cell 3 = .ok (.if_icmp .ge 9, 3) := by decide +kernel
theorem dL_cell_6 : decode cL_cell 6 = .ok (.aload_n 0, 1) := by decide +kernel
theorem dL_cell_7 : decode cL_cell 7 = .ok (.iload_n 1, 1) := by decide +kernel
theorem dL_cell_8 : decode cL_cell 8 = .ok (.iaload, 1) := by decide +kernel
theorem dL_cell_9 : decode cL_cell 9 = .ok (.goto 4, 3) := by decide +kernel
theorem dL_cell_12 : decode cL_cell 12 = .ok (.iconst 0, 1) := by decide +kernel
theorem dL_cell_13 : decode cL_cell 13 = .ok (.ireturn, 1) := by decide +kernel
set_option maxRecDepth 20000 in
theorem ggL_law_L_cell : GoodIn wsL_law wsL_cell := goodIn_r _ [9] (by decide +kernel) (by decide +kernel)
set_option maxRecDepth 20000 in
theorem gL_law_L_cell : GoodIn wsL_law (va_wsS RL 9 yL_cell wsL_cell) := goodIn_app (goodIn_of _ (by decide +kernel)) ggL_law_L_cell
set_option maxRecDepth 20000 in
theorem ggL_law_X0_init : GoodIn wsL_law wsX0_init := goodIn_r _ [12, 13, 14, 15, 16, 17, 18, 19, 20, 21, 22, 23, 24, 25, 26, 27, 28, 2, 29, 30, 31, 32, 33, 34, 35, 36, 37, 38, 39, 40, 41, 42, 43, 44, 45, 46, 47, 265, 266, 267, 268, 269, 270, 271, 272, 273, 274, 275, 276] (by decide +kernel) (by decide +kernel)
set_option maxRecDepth 20000 in
theorem gL_law_X0_init : GoodIn wsL_law (wsX0_init) := ggL_law_X0_init
set_option maxRecDepth 20000 in
theorem ggL_law_X1_init : GoodIn wsL_law wsX1_init := goodIn_r _ [50, 51, 14, 15, 19, 52, 53, 54, 55, 24, 56, 57, 58, 59, 60, 61, 62, 63, 5, 64, 65, 66, 67, 68, 69, 70, 71, 277, 278, 279, 280, 281, 282, 283, 284, 285, 286, 287, 288] (by decide +kernel) (by decide +kernel)
set_option maxRecDepth 20000 in
theorem gL_law_X1_init : GoodIn wsL_law (wsX1_init) := ggL_law_X1_init
set_option maxRecDepth 20000 in
theorem ggL_law_X0_init_ : GoodIn wsL_law wsX0_init_ := goodIn_r _ [40, 16, 20, 41, 42, 43, 44, 45, 46, 2, 47, 22, 23, 25, 26, 265, 266, 267, 268, 269, 270, 271, 272, 273, 274, 275, 276] (by decide +kernel) (by decide +kernel)
set_option maxRecDepth 20000 in
theorem gL_law_X0_init_ : GoodIn wsL_law (wsV RL 21 RX0 yX0_init_ wsX0_init_) := goodIn_app (goodIn_of _ (by decide +kernel)) ggL_law_X0_init_
set_option maxRecDepth 20000 in
theorem ggL_law_X1_init_ : GoodIn wsL_law wsX1_init_ := goodIn_r _ [64, 52, 65, 66, 67, 68, 69, 70, 5, 71, 54, 55, 56, 57, 277, 278, 279, 280, 281, 282, 283, 284, 285, 286, 287, 288] (by decide +kernel) (by decide +kernel)
set_option maxRecDepth 20000 in
theorem gL_law_X1_init_ : GoodIn wsL_law (wsV RL 24 RX1 yX1_init_ wsX1_init_) := goodIn_app (goodIn_of _ (by decide +kernel)) ggL_law_X1_init_
set_option maxRecDepth 20000 in
theorem ggL_law_X0_fetch : GoodIn wsL_law wsX0_fetch := goodIn_r _ [77, 23, 26, 78, 79, 80, 2, 81, 17, 82, 83, 84, 85, 16, 22, 86, 87, 88, 89, 41, 90, 91, 92, 93, 94, 95, 96, 97, 98, 99, 100, 101, 25, 102, 103, 104, 105, 21, 20, 43, 106, 107, 108, 109, 18, 110, 111, 112, 113, 44, 45, 46, 47, 114, 115, 116, 117, 42, 265, 266, 267, 268, 269, 270, 271, 272, 273, 274, 275, 276] (by decide +kernel) (by decide +kernel)
set_option maxRecDepth 20000 in
theorem gL_law_X0_fetch : GoodIn wsL_law (wsV RL 25 RX0 yX0_fetch wsX0_fetch) := goodIn_app (goodIn_of _ (by decide +kernel)) ggL_law_X0_fetch
set_option maxRecDepth 20000 in
theorem ggL_law_X1_fetch : GoodIn wsL_law wsX1_fetch := goodIn_r _ [121, 60, 53, 52, 54, 66, 55, 57, 122, 123, 124, 5, 125, 59, 126, 127, 128, 129, 58, 130, 131, 132, 133, 65, 56, 134, 135, 136, 137, 138, 139, 140, 141, 67, 68, 69, 70, 71, 277, 278, 279, 280, 281, 282, 283, 284, 285, 286, 287, 288] (by decide +kernel) (by decide +kernel)
set_option maxRecDepth 20000 in
theorem gL_law_X1_fetch : GoodIn wsL_law (wsV RL 29 RX1 yX1_fetch wsX1_fetch) := goodIn_app (goodIn_of _ (by decide +kernel)) ggL_law_X1_fetch
set_option maxRecDepth 20000 in
theorem ggL_law_X0_unpin : GoodIn wsL_law wsX0_unpin := goodIn_r _ [145, 23, 146, 147, 148, 2, 149, 150, 151, 152, 153, 16, 265, 266, 267, 268, 269, 270, 271, 272, 273, 274, 275, 276] (by decide +kernel) (by decide +kernel)
set_option maxRecDepth 20000 in
theorem gL_law_X0_unpin : GoodIn wsL_law (wsV RL 30 RX0 yX0_unpin wsX0_unpin) := goodIn_app (goodIn_of _ (by decide +kernel)) ggL_law_X0_unpin
set_option maxRecDepth 20000 in
theorem ggL_law_X1_unpin : GoodIn wsL_law wsX1_unpin := goodIn_r _ [157, 55, 158, 159, 160, 5, 161, 58, 277, 278, 279, 280, 281, 282, 283, 284, 285, 286, 287, 288] (by decide +kernel) (by decide +kernel)
set_option maxRecDepth 20000 in
theorem gL_law_X1_unpin : GoodIn wsL_law (wsV RL 33 RX1 yX1_unpin wsX1_unpin) := goodIn_app (goodIn_of _ (by decide +kernel)) ggL_law_X1_unpin
set_option maxRecDepth 20000 in
theorem ggL_law_X0_readWord : GoodIn wsL_law wsX0_readWord := goodIn_r _ [165, 21, 18, 146, 147, 148, 2, 149, 23, 150, 151, 152, 153, 16, 166, 167, 168, 169, 265, 266, 267, 268, 269, 270, 271, 272, 273, 274, 275, 276] (by decide +kernel) (by decide +kernel)
set_option maxRecDepth 20000 in
theorem gL_law_X0_readWord : GoodIn wsL_law (wsV RL 34 RX0 yX0_readWord wsX0_readWord) := goodIn_app (goodIn_of _ (by decide +kernel)) ggL_law_X0_readWord
set_option maxRecDepth 20000 in
theorem ggL_law_X1_readWord : GoodIn wsL_law wsX1_readWord := goodIn_r _ [173, 60, 53, 158, 159, 160, 5, 161, 58, 55, 277, 278, 279, 280, 281, 282, 283, 284, 285, 286, 287, 288] (by decide +kernel) (by decide +kernel)
set_option maxRecDepth 20000 in
theorem gL_law_X1_readWord : GoodIn wsL_law (wsV RL 38 RX1 yX1_readWord wsX1_readWord) := goodIn_app (goodIn_of _ (by decide +kernel)) ggL_law_X1_readWord
set_option maxRecDepth 20000 in
theorem ggL_law_X0_writeWord : GoodIn wsL_law wsX0_writeWord := goodIn_r _ [177, 21, 18, 25, 146, 147, 148, 2, 149, 23, 150, 151, 152, 153, 16, 166, 167, 168, 169, 265, 266, 267, 268, 269, 270, 271, 272, 273, 274, 275, 276] (by decide +kernel) (by decide +kernel)
set_option maxRecDepth 20000 in
theorem gL_law_X0_writeWord : GoodIn wsL_law (wsV RL 39 RX0 yX0_writeWord wsX0_writeWord) := goodIn_app (goodIn_of _ (by decide +kernel)) ggL_law_X0_writeWord
set_option maxRecDepth 20000 in
theorem ggL_law_X1_writeWord : GoodIn wsL_law wsX1_writeWord := goodIn_r _ [181, 60, 53, 56, 158, 159, 160, 5, 161, 58, 55, 277, 278, 279, 280, 281, 282, 283, 284, 285, 286, 287, 288] (by decide +kernel) (by decide +kernel)
set_option maxRecDepth 20000 in
theorem gL_law_X1_writeWord : GoodIn wsL_law (wsV RL 43 RX1 yX1_writeWord wsX1_writeWord) := goodIn_app (goodIn_of _ (by decide +kernel)) ggL_law_X1_writeWord
set_option maxRecDepth 20000 in
theorem ggL_law_X0_flush : GoodIn wsL_law wsX0_flush := goodIn_r _ [185, 25, 82, 83, 84, 2, 85, 16, 22, 78, 79, 80, 81, 17, 102, 103, 104, 105, 21, 20, 43, 106, 107, 108, 109, 18, 110, 111, 112, 113, 265, 266, 267, 268, 269, 270, 271, 272, 273, 274, 275, 276] (by decide +kernel) (by decide +kernel)
set_option maxRecDepth 20000 in
theorem gL_law_X0_flush : GoodIn wsL_law (wsV RL 44 RX0 yX0_flush wsX0_flush) := goodIn_app (goodIn_of _ (by decide +kernel)) ggL_law_X0_flush
set_option maxRecDepth 20000 in
theorem ggL_law_X1_flush : GoodIn wsL_law wsX1_flush := goodIn_r _ [189, 56, 126, 127, 128, 5, 129, 58, 54, 138, 139, 140, 141, 60, 52, 53, 67, 277, 278, 279, 280, 281, 282, 283, 284, 285, 286, 287, 288] (by decide +kernel) (by decide +kernel)
set_option maxRecDepth 20000 in
theorem gL_law_X1_flush : GoodIn wsL_law (wsV RL 47 RX1 yX1_flush wsX1_flush) := goodIn_app (goodIn_of _ (by decide +kernel)) ggL_law_X1_flush
set_option maxRecDepth 20000 in
theorem ggL_law_X0_flushAll : GoodIn wsL_law wsX0_flushAll := goodIn_r _ [193, 16, 25, 102, 103, 104, 2, 105, 21, 20, 22, 43, 106, 107, 108, 109, 18, 110, 111, 112, 113, 265, 266, 267, 268, 269, 270, 271, 272, 273, 274, 275, 276] (by decide +kernel) (by decide +kernel)
set_option maxRecDepth 20000 in
theorem gL_law_X0_flushAll : GoodIn wsL_law (wsV RL 48 RX0 yX0_flushAll wsX0_flushAll) := goodIn_app (goodIn_of _ (by decide +kernel)) ggL_law_X0_flushAll
set_option maxRecDepth 20000 in
theorem ggL_law_X1_flushAll : GoodIn wsL_law wsX1_flushAll := goodIn_r _ [197, 58, 54, 198, 187, 188, 5, 189, 56, 126, 127, 128, 129, 138, 139, 140, 141, 60, 52, 53, 67, 277, 278, 279, 280, 281, 282, 283, 284, 285, 286, 287, 288] (by decide +kernel) (by decide +kernel)
set_option maxRecDepth 20000 in
theorem gL_law_X1_flushAll : GoodIn wsL_law (wsV RL 52 RX1 yX1_flushAll wsX1_flushAll) := goodIn_app (goodIn_of _ (by decide +kernel)) ggL_law_X1_flushAll
set_option maxRecDepth 20000 in
theorem ggL_law_X0_drop : GoodIn wsL_law wsX0_drop := goodIn_r _ [202, 23, 82, 83, 84, 2, 85, 16, 22, 78, 79, 80, 81, 17, 44, 45, 46, 47, 25, 26, 265, 266, 267, 268, 269, 270, 271, 272, 273, 274, 275, 276] (by decide +kernel) (by decide +kernel)
set_option maxRecDepth 20000 in
theorem gL_law_X0_drop : GoodIn wsL_law (wsV RL 53 RX0 yX0_drop wsX0_drop) := goodIn_app (goodIn_of _ (by decide +kernel)) ggL_law_X0_drop
set_option maxRecDepth 20000 in
theorem ggL_law_X1_drop : GoodIn wsL_law wsX1_drop := goodIn_r _ [206, 55, 126, 127, 128, 5, 129, 58, 54, 68, 69, 70, 71, 56, 57, 277, 278, 279, 280, 281, 282, 283, 284, 285, 286, 287, 288] (by decide +kernel) (by decide +kernel)
set_option maxRecDepth 20000 in
theorem gL_law_X1_drop : GoodIn wsL_law (wsV RL 57 RX1 yX1_drop wsX1_drop) := goodIn_app (goodIn_of _ (by decide +kernel)) ggL_law_X1_drop
set_option maxRecDepth 20000 in
theorem ggL_law_X0_copy : GoodIn wsL_law wsX0_copy := goodIn_r _ [210, 20, 21, 25, 78, 79, 80, 2, 81, 17, 82, 83, 84, 85, 16, 22, 146, 147, 148, 149, 23, 150, 151, 152, 153, 106, 107, 108, 109, 18, 110, 111, 112, 113, 265, 266, 267, 268, 269, 270, 271, 272, 273, 274, 275, 276] (by decide +kernel) (by decide +kernel)
set_option maxRecDepth 20000 in
theorem gL_law_X0_copy : GoodIn wsL_law (wsV RL 58 RX0 yX0_copy wsX0_copy) := goodIn_app (goodIn_of _ (by decide +kernel)) ggL_law_X0_copy
set_option maxRecDepth 20000 in
theorem ggL_law_X1_copy : GoodIn wsL_law wsX1_copy := goodIn_r _ [214, 55, 60, 53, 52, 56, 122, 123, 124, 5, 125, 59, 126, 127, 128, 129, 58, 54, 277, 278, 279, 280, 281, 282, 283, 284, 285, 286, 287, 288] (by decide +kernel) (by decide +kernel)
set_option maxRecDepth 20000 in
theorem gL_law_X1_copy : GoodIn wsL_law (wsV RL 61 RX1 yX1_copy wsX1_copy) := goodIn_app (goodIn_of _ (by decide +kernel)) ggL_law_X1_copy
set_option maxRecDepth 20000 in
theorem ggL_law_X0_diskWord : GoodIn wsL_law wsX0_diskWord := goodIn_r _ [218, 20, 18, 78, 79, 80, 2, 81, 17, 166, 167, 168, 169, 265, 266, 267, 268, 269, 270, 271, 272, 273, 274, 275, 276] (by decide +kernel) (by decide +kernel)
set_option maxRecDepth 20000 in
theorem gL_law_X0_diskWord : GoodIn wsL_law (wsV RL 62 RX0 yX0_diskWord wsX0_diskWord) := goodIn_app (goodIn_of _ (by decide +kernel)) ggL_law_X0_diskWord
set_option maxRecDepth 20000 in
theorem ggL_law_X1_diskWord : GoodIn wsL_law wsX1_diskWord := goodIn_r _ [222, 60, 52, 122, 123, 124, 5, 125, 59, 277, 278, 279, 280, 281, 282, 283, 284, 285, 286, 287, 288] (by decide +kernel) (by decide +kernel)
set_option maxRecDepth 20000 in
theorem gL_law_X1_diskWord : GoodIn wsL_law (wsV RL 65 RX1 yX1_diskWord wsX1_diskWord) := goodIn_app (goodIn_of _ (by decide +kernel)) ggL_law_X1_diskWord
set_option maxRecDepth 20000 in
theorem ggL_law_X0_resident : GoodIn wsL_law wsX0_resident := goodIn_r _ [226, 82, 83, 84, 2, 85, 16, 22, 78, 79, 80, 81, 17, 265, 266, 267, 268, 269, 270, 271, 272, 273, 274, 275, 276] (by decide +kernel) (by decide +kernel)
set_option maxRecDepth 20000 in
theorem gL_law_X0_resident : GoodIn wsL_law (wsV RL 66 RX0 yX0_resident wsX0_resident) := goodIn_app (goodIn_of _ (by decide +kernel)) ggL_law_X0_resident
set_option maxRecDepth 20000 in
theorem ggL_law_X1_resident : GoodIn wsL_law wsX1_resident := goodIn_r _ [230, 126, 127, 128, 5, 129, 58, 54, 277, 278, 279, 280, 281, 282, 283, 284, 285, 286, 287, 288] (by decide +kernel) (by decide +kernel)
set_option maxRecDepth 20000 in
theorem gL_law_X1_resident : GoodIn wsL_law (wsV RL 69 RX1 yX1_resident wsX1_resident) := goodIn_app (goodIn_of _ (by decide +kernel)) ggL_law_X1_resident
set_option maxRecDepth 20000 in
theorem ggL_law_X0_diskReads : GoodIn wsL_law wsX0_diskReads := goodIn_r _ [234, 42, 265, 266, 267, 268, 269, 270, 271, 272, 273, 274, 275, 276] (by decide +kernel) (by decide +kernel)
set_option maxRecDepth 20000 in
theorem gL_law_X0_diskReads : GoodIn wsL_law (wsV RL 70 RX0 yX0_diskReads wsX0_diskReads) := goodIn_app (goodIn_of _ (by decide +kernel)) ggL_law_X0_diskReads
set_option maxRecDepth 20000 in
theorem ggL_law_X1_diskReads : GoodIn wsL_law wsX1_diskReads := goodIn_r _ [238, 66, 277, 278, 279, 280, 281, 282, 283, 284, 285, 286, 287, 288] (by decide +kernel) (by decide +kernel)
set_option maxRecDepth 20000 in
theorem gL_law_X1_diskReads : GoodIn wsL_law (wsV RL 73 RX1 yX1_diskReads wsX1_diskReads) := goodIn_app (goodIn_of _ (by decide +kernel)) ggL_law_X1_diskReads
set_option maxRecDepth 20000 in
theorem ggL_law_X0_diskWrites : GoodIn wsL_law wsX0_diskWrites := goodIn_r _ [242, 43, 265, 266, 267, 268, 269, 270, 271, 272, 273, 274, 275, 276] (by decide +kernel) (by decide +kernel)
set_option maxRecDepth 20000 in
theorem gL_law_X0_diskWrites : GoodIn wsL_law (wsV RL 74 RX0 yX0_diskWrites wsX0_diskWrites) := goodIn_app (goodIn_of _ (by decide +kernel)) ggL_law_X0_diskWrites
set_option maxRecDepth 20000 in
theorem ggL_law_X1_diskWrites : GoodIn wsL_law wsX1_diskWrites := goodIn_r _ [246, 67, 277, 278, 279, 280, 281, 282, 283, 284, 285, 286, 287, 288] (by decide +kernel) (by decide +kernel)
set_option maxRecDepth 20000 in
theorem gL_law_X1_diskWrites : GoodIn wsL_law (wsV RL 77 RX1 yX1_diskWrites wsX1_diskWrites) := goodIn_app (goodIn_of _ (by decide +kernel)) ggL_law_X1_diskWrites
set_option maxRecDepth 20000 in
theorem ggL_law_X0_told : GoodIn wsL_law wsX0_told := goodIn_r _ [250, 22, 23, 25, 26, 150, 151, 152, 2, 153, 16, 265, 266, 267, 268, 269, 270, 271, 272, 273, 274, 275, 276] (by decide +kernel) (by decide +kernel)
set_option maxRecDepth 20000 in
theorem gL_law_X0_told : GoodIn wsL_law (wsV RL 78 RX0 yX0_told wsX0_told) := goodIn_app (goodIn_of _ (by decide +kernel)) ggL_law_X0_told
set_option maxRecDepth 20000 in
theorem ggL_law_X1_told : GoodIn wsL_law wsX1_told := goodIn_r _ [254, 58, 54, 55, 56, 57, 277, 278, 279, 280, 281, 282, 283, 284, 285, 286, 287, 288] (by decide +kernel) (by decide +kernel)
set_option maxRecDepth 20000 in
theorem gL_law_X1_told : GoodIn wsL_law (wsV RL 81 RX1 yX1_told wsX1_told) := goodIn_app (goodIn_of _ (by decide +kernel)) ggL_law_X1_told
set_option maxRecDepth 20000 in
theorem ggL_law_X0_hand : GoodIn wsL_law wsX0_hand := goodIn_r _ [258, 41, 265, 266, 267, 268, 269, 270, 271, 272, 273, 274, 275, 276] (by decide +kernel) (by decide +kernel)
set_option maxRecDepth 20000 in
theorem gL_law_X0_hand : GoodIn wsL_law (wsV RL 82 RX0 yX0_hand wsX0_hand) := goodIn_app (goodIn_of _ (by decide +kernel)) ggL_law_X0_hand
set_option maxRecDepth 20000 in
theorem ggL_law_X1_hand : GoodIn wsL_law wsX1_hand := goodIn_r _ [262, 65, 277, 278, 279, 280, 281, 282, 283, 284, 285, 286, 287, 288] (by decide +kernel) (by decide +kernel)
set_option maxRecDepth 20000 in
theorem gL_law_X1_hand : GoodIn wsL_law (wsV RL 85 RX1 yX1_hand wsX1_hand) := goodIn_app (goodIn_of _ (by decide +kernel)) ggL_law_X1_hand
set_option maxRecDepth 20000 in
theorem ggL_law_X0_pinned : GoodIn wsL_law wsX0_pinned := goodIn_r _ [93, 16, 23, 265, 266, 267, 268, 269, 270, 271, 272, 273, 274, 275, 276] (by decide +kernel) (by decide +kernel)
set_option maxRecDepth 20000 in
theorem gL_law_X0_pinned : GoodIn wsL_law (wsV RL 86 RX0 yX0_pinned wsX0_pinned) := goodIn_app (goodIn_of _ (by decide +kernel)) ggL_law_X0_pinned
set_option maxRecDepth 20000 in
theorem ggL_law_X1_pinned : GoodIn wsL_law wsX1_pinned := goodIn_r _ [137, 58, 55, 277, 278, 279, 280, 281, 282, 283, 284, 285, 286, 287, 288] (by decide +kernel) (by decide +kernel)
set_option maxRecDepth 20000 in
theorem gL_law_X1_pinned : GoodIn wsL_law (wsV RL 89 RX1 yX1_pinned wsX1_pinned) := goodIn_app (goodIn_of _ (by decide +kernel)) ggL_law_X1_pinned
end
section
theorem dL_law_0 : decode cL_law 0 = .ok (.new 7, 3) := by decide +kernel
theorem dL_law_3 : decode cL_law 3 = .ok (.dup, 1) := by decide +kernel
theorem dL_law_4 : decode cL_law 4 = .ok (.aload_n 0, 1) := by decide +kernel
theorem dL_law_5 : decode cL_law 5 = .ok (.iconst 0, 1) := by decide +kernel
theorem dL_law_6 : decode cL_law 6 = .ok (.invokestatic 9, 3) := by decide +kernel
theorem dL_law_9 : decode cL_law 9 = .ok (.aload_n 0, 1) := by decide +kernel
theorem dL_law_10 : decode cL_law 10 = .ok (.iconst 1, 1) := by decide +kernel
theorem dL_law_11 : decode cL_law 11 = .ok (.invokestatic 9, 3) := by decide +kernel
theorem dL_law_14 : decode cL_law 14 = .ok (.aload_n 0, 1) := by decide +kernel
theorem dL_law_15 : decode cL_law 15 = .ok (.iconst 2, 1) := by decide +kernel
theorem dL_law_16 : decode cL_law 16 = .ok (.invokestatic 9, 3) := by decide +kernel
theorem dL_law_19 : decode cL_law 19 = .ok (.invokespecial 15, 3) := by decide +kernel
theorem dL_law_22 : decode cL_law 22 = .ok (.astore_n 1, 1) := by decide +kernel
theorem dL_law_23 : decode cL_law 23 = .ok (.new 18, 3) := by decide +kernel
theorem dL_law_26 : decode cL_law 26 = .ok (.dup, 1) := by decide +kernel
theorem dL_law_27 : decode cL_law 27 = .ok (.aload_n 0, 1) := by decide +kernel
theorem dL_law_28 : decode cL_law 28 = .ok (.iconst 0, 1) := by decide +kernel
theorem dL_law_29 : decode cL_law 29 = .ok (.invokestatic 9, 3) := by decide +kernel
theorem dL_law_32 : decode cL_law 32 = .ok (.aload_n 0, 1) := by decide +kernel
theorem dL_law_33 : decode cL_law 33 = .ok (.iconst 1, 1) := by decide +kernel
theorem dL_law_34 : decode cL_law 34 = .ok (.invokestatic 9, 3) := by decide +kernel
theorem dL_law_37 : decode cL_law 37 = .ok (.aload_n 0, 1) := by decide +kernel
theorem dL_law_38 : decode cL_law 38 = .ok (.iconst 2, 1) := by decide +kernel
theorem dL_law_39 : decode cL_law 39 = .ok (.invokestatic 9, 3) := by decide +kernel
theorem dL_law_42 : decode cL_law 42 = .ok (.invokespecial 20, 3) := by decide +kernel
theorem dL_law_45 : decode cL_law 45 = .ok (.astore_n 2, 1) := by decide +kernel
theorem dL_law_46 : decode cL_law 46 = .ok (.iconst 3, 1) := by decide +kernel
theorem dL_law_47 : decode cL_law 47 = .ok (.istore_n 3, 1) := by decide +kernel
theorem dL_law_48 : decode cL_law 48 = .ok (.iload_n 3, 1) := by decide +kernel
theorem dL_law_49 : decode cL_law 49 = .ok (.aload_n 0, 1) := by decide +kernel
theorem dL_law_50 : decode cL_law 50 = .ok (.arraylength, 1) := by decide +kernel
theorem dL_law_51 : decode cL_law 51 = .ok (.iconst 4, 1) := by decide +kernel
theorem dL_law_52 : decode cL_law 52 = .ok (.isub, 1) := by decide +kernel
theorem dL_law_53 : decode cL_law 53 = .ok (.if_icmp .gt 459, 3) := by decide +kernel
theorem dL_law_56 : decode cL_law 56 = .ok (.aload_n 0, 1) := by decide +kernel
theorem dL_law_57 : decode cL_law 57 = .ok (.iload_n 3, 1) := by decide +kernel
theorem dL_law_58 : decode cL_law 58 = .ok (.iaload, 1) := by decide +kernel
theorem dL_law_59 : decode cL_law 59 = .ok (.bipush 15, 2) := by decide +kernel
theorem dL_law_61 : decode cL_law 61 = .ok (.iand, 1) := by decide +kernel
theorem dL_law_62 : decode cL_law 62 = .ok (.tableswitch 444 0 15 #[78, 89, 112, 135, 168, 211, 234, 247, 270, 303, 336, 359, 372, 385, 418, 431], 78) := by decide +kernel
theorem dL_law_140 : decode cL_law 140 = .ok (.aload_n 1, 1) := by decide +kernel
theorem dL_law_141 : decode cL_law 141 = .ok (.invokevirtual 21, 3) := by decide +kernel
theorem dL_law_144 : decode cL_law 144 = .ok (.aload_n 2, 1) := by decide +kernel
theorem dL_law_145 : decode cL_law 145 = .ok (.invokevirtual 24, 3) := by decide +kernel
theorem dL_law_148 : decode cL_law 148 = .ok (.goto 358, 3) := by decide +kernel
theorem dL_law_151 : decode cL_law 151 = .ok (.aload_n 1, 1) := by decide +kernel
theorem dL_law_152 : decode cL_law 152 = .ok (.aload_n 0, 1) := by decide +kernel
theorem dL_law_153 : decode cL_law 153 = .ok (.iload_n 3, 1) := by decide +kernel
theorem dL_law_154 : decode cL_law 154 = .ok (.iconst 1, 1) := by decide +kernel
theorem dL_law_155 : decode cL_law 155 = .ok (.iadd, 1) := by decide +kernel
theorem dL_law_156 : decode cL_law 156 = .ok (.iaload, 1) := by decide +kernel
theorem dL_law_157 : decode cL_law 157 = .ok (.invokevirtual 25, 3) := by decide +kernel
theorem dL_law_160 : decode cL_law 160 = .ok (.aload_n 2, 1) := by decide +kernel
theorem dL_law_161 : decode cL_law 161 = .ok (.aload_n 0, 1) := by decide +kernel
theorem dL_law_162 : decode cL_law 162 = .ok (.iload_n 3, 1) := by decide +kernel
theorem dL_law_163 : decode cL_law 163 = .ok (.iconst 1, 1) := by decide +kernel
theorem dL_law_164 : decode cL_law 164 = .ok (.iadd, 1) := by decide +kernel
theorem dL_law_165 : decode cL_law 165 = .ok (.iaload, 1) := by decide +kernel
theorem dL_law_166 : decode cL_law 166 = .ok (.invokevirtual 29, 3) := by decide +kernel
theorem dL_law_169 : decode cL_law 169 = .ok (.if_icmp .eq 337, 3) := by decide +kernel
theorem dL_law_172 : decode cL_law 172 = .ok (.iconst 0, 1) := by decide +kernel
theorem dL_law_173 : decode cL_law 173 = .ok (.ireturn, 1) := by decide +kernel
theorem dL_law_174 : decode cL_law 174 = .ok (.aload_n 1, 1) := by decide +kernel
theorem dL_law_175 : decode cL_law 175 = .ok (.aload_n 0, 1) := by decide +kernel
theorem dL_law_176 : decode cL_law 176 = .ok (.iload_n 3, 1) := by decide +kernel
theorem dL_law_177 : decode cL_law 177 = .ok (.iconst 1, 1) := by decide +kernel
theorem dL_law_178 : decode cL_law 178 = .ok (.iadd, 1) := by decide +kernel
theorem dL_law_179 : decode cL_law 179 = .ok (.iaload, 1) := by decide +kernel
theorem dL_law_180 : decode cL_law 180 = .ok (.invokevirtual 30, 3) := by decide +kernel
theorem dL_law_183 : decode cL_law 183 = .ok (.aload_n 2, 1) := by decide +kernel
theorem dL_law_184 : decode cL_law 184 = .ok (.aload_n 0, 1) := by decide +kernel
theorem dL_law_185 : decode cL_law 185 = .ok (.iload_n 3, 1) := by decide +kernel
theorem dL_law_186 : decode cL_law 186 = .ok (.iconst 1, 1) := by decide +kernel
theorem dL_law_187 : decode cL_law 187 = .ok (.iadd, 1) := by decide +kernel
theorem dL_law_188 : decode cL_law 188 = .ok (.iaload, 1) := by decide +kernel
theorem dL_law_189 : decode cL_law 189 = .ok (.invokevirtual 33, 3) := by decide +kernel
theorem dL_law_192 : decode cL_law 192 = .ok (.if_icmp .eq 314, 3) := by decide +kernel
theorem dL_law_195 : decode cL_law 195 = .ok (.iconst 0, 1) := by decide +kernel
theorem dL_law_196 : decode cL_law 196 = .ok (.ireturn, 1) := by decide +kernel
theorem dL_law_197 : decode cL_law 197 = .ok (.aload_n 1, 1) := by decide +kernel
theorem dL_law_198 : decode cL_law 198 = .ok (.aload_n 0, 1) := by decide +kernel
theorem dL_law_199 : decode cL_law 199 = .ok (.iload_n 3, 1) := by decide +kernel
theorem dL_law_200 : decode cL_law 200 = .ok (.iconst 1, 1) := by decide +kernel
theorem dL_law_201 : decode cL_law 201 = .ok (.iadd, 1) := by decide +kernel
theorem dL_law_202 : decode cL_law 202 = .ok (.iaload, 1) := by decide +kernel
theorem dL_law_203 : decode cL_law 203 = .ok (.aload_n 0, 1) := by decide +kernel
theorem dL_law_204 : decode cL_law 204 = .ok (.iload_n 3, 1) := by decide +kernel
theorem dL_law_205 : decode cL_law 205 = .ok (.iconst 2, 1) := by decide +kernel
theorem dL_law_206 : decode cL_law 206 = .ok (.iadd, 1) := by decide +kernel
theorem dL_law_207 : decode cL_law 207 = .ok (.iaload, 1) := by decide +kernel
theorem dL_law_208 : decode cL_law 208 = .ok (.invokevirtual 34, 3) := by decide +kernel
theorem dL_law_211 : decode cL_law 211 = .ok (.aload_n 2, 1) := by decide +kernel
theorem dL_law_212 : decode cL_law 212 = .ok (.aload_n 0, 1) := by decide +kernel
theorem dL_law_213 : decode cL_law 213 = .ok (.iload_n 3, 1) := by decide +kernel
theorem dL_law_214 : decode cL_law 214 = .ok (.iconst 1, 1) := by decide +kernel
theorem dL_law_215 : decode cL_law 215 = .ok (.iadd, 1) := by decide +kernel
theorem dL_law_216 : decode cL_law 216 = .ok (.iaload, 1) := by decide +kernel
theorem dL_law_217 : decode cL_law 217 = .ok (.aload_n 0, 1) := by decide +kernel
theorem dL_law_218 : decode cL_law 218 = .ok (.iload_n 3, 1) := by decide +kernel
theorem dL_law_219 : decode cL_law 219 = .ok (.iconst 2, 1) := by decide +kernel
theorem dL_law_220 : decode cL_law 220 = .ok (.iadd, 1) := by decide +kernel
theorem dL_law_221 : decode cL_law 221 = .ok (.iaload, 1) := by decide +kernel
theorem dL_law_222 : decode cL_law 222 = .ok (.invokevirtual 38, 3) := by decide +kernel
theorem dL_law_225 : decode cL_law 225 = .ok (.if_icmp .eq 281, 3) := by decide +kernel
theorem dL_law_228 : decode cL_law 228 = .ok (.iconst 0, 1) := by decide +kernel
theorem dL_law_229 : decode cL_law 229 = .ok (.ireturn, 1) := by decide +kernel
theorem dL_law_230 : decode cL_law 230 = .ok (.aload_n 1, 1) := by decide +kernel
theorem dL_law_231 : decode cL_law 231 = .ok (.aload_n 0, 1) := by decide +kernel
theorem dL_law_232 : decode cL_law 232 = .ok (.iload_n 3, 1) := by decide +kernel
theorem dL_law_233 : decode cL_law 233 = .ok (.iconst 1, 1) := by decide +kernel
theorem dL_law_234 : decode cL_law 234 = .ok (.iadd, 1) := by decide +kernel
theorem dL_law_235 : decode cL_law 235 = .ok (.iaload, 1) := by decide +kernel
theorem dL_law_236 : decode cL_law 236 = .ok (.aload_n 0, 1) := by decide +kernel
theorem dL_law_237 : decode cL_law 237 = .ok (.iload_n 3, 1) := by decide +kernel
theorem dL_law_238 : decode cL_law 238 = .ok (.iconst 2, 1) := by decide +kernel
theorem dL_law_239 : decode cL_law 239 = .ok (.iadd, 1) := by decide +kernel
theorem dL_law_240 : decode cL_law 240 = .ok (.iaload, 1) := by decide +kernel
theorem dL_law_241 : decode cL_law 241 = .ok (.aload_n 0, 1) := by decide +kernel
theorem dL_law_242 : decode cL_law 242 = .ok (.iload_n 3, 1) := by decide +kernel
theorem dL_law_243 : decode cL_law 243 = .ok (.iconst 3, 1) := by decide +kernel
theorem dL_law_244 : decode cL_law 244 = .ok (.iadd, 1) := by decide +kernel
theorem dL_law_245 : decode cL_law 245 = .ok (.iaload, 1) := by decide +kernel
theorem dL_law_246 : decode cL_law 246 = .ok (.invokevirtual 39, 3) := by decide +kernel
theorem dL_law_249 : decode cL_law 249 = .ok (.aload_n 2, 1) := by decide +kernel
theorem dL_law_250 : decode cL_law 250 = .ok (.aload_n 0, 1) := by decide +kernel
theorem dL_law_251 : decode cL_law 251 = .ok (.iload_n 3, 1) := by decide +kernel
theorem dL_law_252 : decode cL_law 252 = .ok (.iconst 1, 1) := by decide +kernel
theorem dL_law_253 : decode cL_law 253 = .ok (.iadd, 1) := by decide +kernel
theorem dL_law_254 : decode cL_law 254 = .ok (.iaload, 1) := by decide +kernel
theorem dL_law_255 : decode cL_law 255 = .ok (.aload_n 0, 1) := by decide +kernel
theorem dL_law_256 : decode cL_law 256 = .ok (.iload_n 3, 1) := by decide +kernel
theorem dL_law_257 : decode cL_law 257 = .ok (.iconst 2, 1) := by decide +kernel
theorem dL_law_258 : decode cL_law 258 = .ok (.iadd, 1) := by decide +kernel
theorem dL_law_259 : decode cL_law 259 = .ok (.iaload, 1) := by decide +kernel
theorem dL_law_260 : decode cL_law 260 = .ok (.aload_n 0, 1) := by decide +kernel
theorem dL_law_261 : decode cL_law 261 = .ok (.iload_n 3, 1) := by decide +kernel
theorem dL_law_262 : decode cL_law 262 = .ok (.iconst 3, 1) := by decide +kernel
theorem dL_law_263 : decode cL_law 263 = .ok (.iadd, 1) := by decide +kernel
theorem dL_law_264 : decode cL_law 264 = .ok (.iaload, 1) := by decide +kernel
theorem dL_law_265 : decode cL_law 265 = .ok (.invokevirtual 43, 3) := by decide +kernel
theorem dL_law_268 : decode cL_law 268 = .ok (.if_icmp .eq 238, 3) := by decide +kernel
theorem dL_law_271 : decode cL_law 271 = .ok (.iconst 0, 1) := by decide +kernel
theorem dL_law_272 : decode cL_law 272 = .ok (.ireturn, 1) := by decide +kernel
theorem dL_law_273 : decode cL_law 273 = .ok (.aload_n 1, 1) := by decide +kernel
theorem dL_law_274 : decode cL_law 274 = .ok (.aload_n 0, 1) := by decide +kernel
theorem dL_law_275 : decode cL_law 275 = .ok (.iload_n 3, 1) := by decide +kernel
theorem dL_law_276 : decode cL_law 276 = .ok (.iconst 1, 1) := by decide +kernel
theorem dL_law_277 : decode cL_law 277 = .ok (.iadd, 1) := by decide +kernel
theorem dL_law_278 : decode cL_law 278 = .ok (.iaload, 1) := by decide +kernel
theorem dL_law_279 : decode cL_law 279 = .ok (.invokevirtual 44, 3) := by decide +kernel
theorem dL_law_282 : decode cL_law 282 = .ok (.aload_n 2, 1) := by decide +kernel
theorem dL_law_283 : decode cL_law 283 = .ok (.aload_n 0, 1) := by decide +kernel
theorem dL_law_284 : decode cL_law 284 = .ok (.iload_n 3, 1) := by decide +kernel
theorem dL_law_285 : decode cL_law 285 = .ok (.iconst 1, 1) := by decide +kernel
theorem dL_law_286 : decode cL_law 286 = .ok (.iadd, 1) := by decide +kernel
theorem dL_law_287 : decode cL_law 287 = .ok (.iaload, 1) := by decide +kernel
theorem dL_law_288 : decode cL_law 288 = .ok (.invokevirtual 47, 3) := by decide +kernel
theorem dL_law_291 : decode cL_law 291 = .ok (.if_icmp .eq 215, 3) := by decide +kernel
theorem dL_law_294 : decode cL_law 294 = .ok (.iconst 0, 1) := by decide +kernel
end
section
theorem dL_law_295 : decode cL_law 295 = .ok (.ireturn, 1) := by decide +kernel
theorem dL_law_296 : decode cL_law 296 = .ok (.aload_n 1, 1) := by decide +kernel
theorem dL_law_297 : decode cL_law 297 = .ok (.invokevirtual 48, 3) := by decide +kernel
theorem dL_law_300 : decode cL_law 300 = .ok (.aload_n 2, 1) := by decide +kernel
theorem dL_law_301 : decode cL_law 301 = .ok (.invokevirtual 52, 3) := by decide +kernel
theorem dL_law_304 : decode cL_law 304 = .ok (.if_icmp .eq 202, 3) := by decide +kernel
theorem dL_law_307 : decode cL_law 307 = .ok (.iconst 0, 1) := by decide +kernel
theorem dL_law_308 : decode cL_law 308 = .ok (.ireturn, 1) := by decide +kernel
theorem dL_law_309 : decode cL_law 309 = .ok (.aload_n 1, 1) := by decide +kernel
theorem dL_law_310 : decode cL_law 310 = .ok (.aload_n 0, 1) := by decide +kernel
theorem dL_law_311 : decode cL_law 311 = .ok (.iload_n 3, 1) := by decide +kernel
theorem dL_law_312 : decode cL_law 312 = .ok (.iconst 1, 1) := by decide +kernel
theorem dL_law_313 : decode cL_law 313 = .ok (.iadd, 1) := by decide +kernel
theorem dL_law_314 : decode cL_law 314 = .ok (.iaload, 1) := by decide +kernel
theorem dL_law_315 : decode cL_law 315 = .ok (.invokevirtual 53, 3) := by decide +kernel
theorem dL_law_318 : decode cL_law 318 = .ok (.aload_n 2, 1) := by decide +kernel
theorem dL_law_319 : decode cL_law 319 = .ok (.aload_n 0, 1) := by decide +kernel
theorem dL_law_320 : decode cL_law 320 = .ok (.iload_n 3, 1) := by decide +kernel
theorem dL_law_321 : decode cL_law 321 = .ok (.iconst 1, 1) := by decide +kernel
theorem dL_law_322 : decode cL_law 322 = .ok (.iadd, 1) := by decide +kernel
theorem dL_law_323 : decode cL_law 323 = .ok (.iaload, 1) := by decide +kernel
theorem dL_law_324 : decode cL_law 324 = .ok (.invokevirtual 57, 3) := by decide +kernel
theorem dL_law_327 : decode cL_law 327 = .ok (.if_icmp .eq 179, 3) := by decide +kernel
theorem dL_law_330 : decode cL_law 330 = .ok (.iconst 0, 1) := by decide +kernel
theorem dL_law_331 : decode cL_law 331 = .ok (.ireturn, 1) := by decide +kernel
theorem dL_law_332 : decode cL_law 332 = .ok (.aload_n 1, 1) := by decide +kernel
theorem dL_law_333 : decode cL_law 333 = .ok (.aload_n 0, 1) := by decide +kernel
theorem dL_law_334 : decode cL_law 334 = .ok (.iload_n 3, 1) := by decide +kernel
theorem dL_law_335 : decode cL_law 335 = .ok (.iconst 1, 1) := by decide +kernel
theorem dL_law_336 : decode cL_law 336 = .ok (.iadd, 1) := by decide +kernel
theorem dL_law_337 : decode cL_law 337 = .ok (.iaload, 1) := by decide +kernel
theorem dL_law_338 : decode cL_law 338 = .ok (.aload_n 0, 1) := by decide +kernel
theorem dL_law_339 : decode cL_law 339 = .ok (.iload_n 3, 1) := by decide +kernel
theorem dL_law_340 : decode cL_law 340 = .ok (.iconst 2, 1) := by decide +kernel
theorem dL_law_341 : decode cL_law 341 = .ok (.iadd, 1) := by decide +kernel
theorem dL_law_342 : decode cL_law 342 = .ok (.iaload, 1) := by decide +kernel
theorem dL_law_343 : decode cL_law 343 = .ok (.invokevirtual 58, 3) := by decide +kernel
theorem dL_law_346 : decode cL_law 346 = .ok (.aload_n 2, 1) := by decide +kernel
theorem dL_law_347 : decode cL_law 347 = .ok (.aload_n 0, 1) := by decide +kernel
theorem dL_law_348 : decode cL_law 348 = .ok (.iload_n 3, 1) := by decide +kernel
theorem dL_law_349 : decode cL_law 349 = .ok (.iconst 1, 1) := by decide +kernel
theorem dL_law_350 : decode cL_law 350 = .ok (.iadd, 1) := by decide +kernel
theorem dL_law_351 : decode cL_law 351 = .ok (.iaload, 1) := by decide +kernel
theorem dL_law_352 : decode cL_law 352 = .ok (.aload_n 0, 1) := by decide +kernel
theorem dL_law_353 : decode cL_law 353 = .ok (.iload_n 3, 1) := by decide +kernel
theorem dL_law_354 : decode cL_law 354 = .ok (.iconst 2, 1) := by decide +kernel
theorem dL_law_355 : decode cL_law 355 = .ok (.iadd, 1) := by decide +kernel
theorem dL_law_356 : decode cL_law 356 = .ok (.iaload, 1) := by decide +kernel
theorem dL_law_357 : decode cL_law 357 = .ok (.invokevirtual 61, 3) := by decide +kernel
theorem dL_law_360 : decode cL_law 360 = .ok (.if_icmp .eq 146, 3) := by decide +kernel
theorem dL_law_363 : decode cL_law 363 = .ok (.iconst 0, 1) := by decide +kernel
theorem dL_law_364 : decode cL_law 364 = .ok (.ireturn, 1) := by decide +kernel
theorem dL_law_365 : decode cL_law 365 = .ok (.aload_n 1, 1) := by decide +kernel
theorem dL_law_366 : decode cL_law 366 = .ok (.aload_n 0, 1) := by decide +kernel
theorem dL_law_367 : decode cL_law 367 = .ok (.iload_n 3, 1) := by decide +kernel
theorem dL_law_368 : decode cL_law 368 = .ok (.iconst 1, 1) := by decide +kernel
theorem dL_law_369 : decode cL_law 369 = .ok (.iadd, 1) := by decide +kernel
theorem dL_law_370 : decode cL_law 370 = .ok (.iaload, 1) := by decide +kernel
theorem dL_law_371 : decode cL_law 371 = .ok (.aload_n 0, 1) := by decide +kernel
theorem dL_law_372 : decode cL_law 372 = .ok (.iload_n 3, 1) := by decide +kernel
theorem dL_law_373 : decode cL_law 373 = .ok (.iconst 2, 1) := by decide +kernel
theorem dL_law_374 : decode cL_law 374 = .ok (.iadd, 1) := by decide +kernel
theorem dL_law_375 : decode cL_law 375 = .ok (.iaload, 1) := by decide +kernel
theorem dL_law_376 : decode cL_law 376 = .ok (.invokevirtual 62, 3) := by decide +kernel
theorem dL_law_379 : decode cL_law 379 = .ok (.aload_n 2, 1) := by decide +kernel
theorem dL_law_380 : decode cL_law 380 = .ok (.aload_n 0, 1) := by decide +kernel
theorem dL_law_381 : decode cL_law 381 = .ok (.iload_n 3, 1) := by decide +kernel
theorem dL_law_382 : decode cL_law 382 = .ok (.iconst 1, 1) := by decide +kernel
theorem dL_law_383 : decode cL_law 383 = .ok (.iadd, 1) := by decide +kernel
theorem dL_law_384 : decode cL_law 384 = .ok (.iaload, 1) := by decide +kernel
theorem dL_law_385 : decode cL_law 385 = .ok (.aload_n 0, 1) := by decide +kernel
theorem dL_law_386 : decode cL_law 386 = .ok (.iload_n 3, 1) := by decide +kernel
theorem dL_law_387 : decode cL_law 387 = .ok (.iconst 2, 1) := by decide +kernel
theorem dL_law_388 : decode cL_law 388 = .ok (.iadd, 1) := by decide +kernel
theorem dL_law_389 : decode cL_law 389 = .ok (.iaload, 1) := by decide +kernel
theorem dL_law_390 : decode cL_law 390 = .ok (.invokevirtual 65, 3) := by decide +kernel
theorem dL_law_393 : decode cL_law 393 = .ok (.if_icmp .eq 113, 3) := by decide +kernel
theorem dL_law_396 : decode cL_law 396 = .ok (.iconst 0, 1) := by decide +kernel
theorem dL_law_397 : decode cL_law 397 = .ok (.ireturn, 1) := by decide +kernel
theorem dL_law_398 : decode cL_law 398 = .ok (.aload_n 1, 1) := by decide +kernel
theorem dL_law_399 : decode cL_law 399 = .ok (.aload_n 0, 1) := by decide +kernel
theorem dL_law_400 : decode cL_law 400 = .ok (.iload_n 3, 1) := by decide +kernel
theorem dL_law_401 : decode cL_law 401 = .ok (.iconst 1, 1) := by decide +kernel
theorem dL_law_402 : decode cL_law 402 = .ok (.iadd, 1) := by decide +kernel
theorem dL_law_403 : decode cL_law 403 = .ok (.iaload, 1) := by decide +kernel
theorem dL_law_404 : decode cL_law 404 = .ok (.invokevirtual 66, 3) := by decide +kernel
theorem dL_law_407 : decode cL_law 407 = .ok (.aload_n 2, 1) := by decide +kernel
theorem dL_law_408 : decode cL_law 408 = .ok (.aload_n 0, 1) := by decide +kernel
theorem dL_law_409 : decode cL_law 409 = .ok (.iload_n 3, 1) := by decide +kernel
theorem dL_law_410 : decode cL_law 410 = .ok (.iconst 1, 1) := by decide +kernel
theorem dL_law_411 : decode cL_law 411 = .ok (.iadd, 1) := by decide +kernel
theorem dL_law_412 : decode cL_law 412 = .ok (.iaload, 1) := by decide +kernel
theorem dL_law_413 : decode cL_law 413 = .ok (.invokevirtual 69, 3) := by decide +kernel
theorem dL_law_416 : decode cL_law 416 = .ok (.if_icmp .eq 90, 3) := by decide +kernel
theorem dL_law_419 : decode cL_law 419 = .ok (.iconst 0, 1) := by decide +kernel
theorem dL_law_420 : decode cL_law 420 = .ok (.ireturn, 1) := by decide +kernel
theorem dL_law_421 : decode cL_law 421 = .ok (.aload_n 1, 1) := by decide +kernel
theorem dL_law_422 : decode cL_law 422 = .ok (.invokevirtual 70, 3) := by decide +kernel
theorem dL_law_425 : decode cL_law 425 = .ok (.aload_n 2, 1) := by decide +kernel
theorem dL_law_426 : decode cL_law 426 = .ok (.invokevirtual 73, 3) := by decide +kernel
theorem dL_law_429 : decode cL_law 429 = .ok (.if_icmp .eq 77, 3) := by decide +kernel
theorem dL_law_432 : decode cL_law 432 = .ok (.iconst 0, 1) := by decide +kernel
theorem dL_law_433 : decode cL_law 433 = .ok (.ireturn, 1) := by decide +kernel
theorem dL_law_434 : decode cL_law 434 = .ok (.aload_n 1, 1) := by decide +kernel
theorem dL_law_435 : decode cL_law 435 = .ok (.invokevirtual 74, 3) := by decide +kernel
theorem dL_law_438 : decode cL_law 438 = .ok (.aload_n 2, 1) := by decide +kernel
theorem dL_law_439 : decode cL_law 439 = .ok (.invokevirtual 77, 3) := by decide +kernel
theorem dL_law_442 : decode cL_law 442 = .ok (.if_icmp .eq 64, 3) := by decide +kernel
theorem dL_law_445 : decode cL_law 445 = .ok (.iconst 0, 1) := by decide +kernel
theorem dL_law_446 : decode cL_law 446 = .ok (.ireturn, 1) := by decide +kernel
theorem dL_law_447 : decode cL_law 447 = .ok (.aload_n 1, 1) := by decide +kernel
theorem dL_law_448 : decode cL_law 448 = .ok (.aload_n 0, 1) := by decide +kernel
theorem dL_law_449 : decode cL_law 449 = .ok (.iload_n 3, 1) := by decide +kernel
theorem dL_law_450 : decode cL_law 450 = .ok (.iconst 1, 1) := by decide +kernel
theorem dL_law_451 : decode cL_law 451 = .ok (.iadd, 1) := by decide +kernel
theorem dL_law_452 : decode cL_law 452 = .ok (.iaload, 1) := by decide +kernel
theorem dL_law_453 : decode cL_law 453 = .ok (.aload_n 0, 1) := by decide +kernel
theorem dL_law_454 : decode cL_law 454 = .ok (.iload_n 3, 1) := by decide +kernel
theorem dL_law_455 : decode cL_law 455 = .ok (.iconst 2, 1) := by decide +kernel
theorem dL_law_456 : decode cL_law 456 = .ok (.iadd, 1) := by decide +kernel
theorem dL_law_457 : decode cL_law 457 = .ok (.iaload, 1) := by decide +kernel
theorem dL_law_458 : decode cL_law 458 = .ok (.invokevirtual 78, 3) := by decide +kernel
theorem dL_law_461 : decode cL_law 461 = .ok (.aload_n 2, 1) := by decide +kernel
theorem dL_law_462 : decode cL_law 462 = .ok (.aload_n 0, 1) := by decide +kernel
theorem dL_law_463 : decode cL_law 463 = .ok (.iload_n 3, 1) := by decide +kernel
theorem dL_law_464 : decode cL_law 464 = .ok (.iconst 1, 1) := by decide +kernel
theorem dL_law_465 : decode cL_law 465 = .ok (.iadd, 1) := by decide +kernel
theorem dL_law_466 : decode cL_law 466 = .ok (.iaload, 1) := by decide +kernel
theorem dL_law_467 : decode cL_law 467 = .ok (.aload_n 0, 1) := by decide +kernel
theorem dL_law_468 : decode cL_law 468 = .ok (.iload_n 3, 1) := by decide +kernel
theorem dL_law_469 : decode cL_law 469 = .ok (.iconst 2, 1) := by decide +kernel
theorem dL_law_470 : decode cL_law 470 = .ok (.iadd, 1) := by decide +kernel
theorem dL_law_471 : decode cL_law 471 = .ok (.iaload, 1) := by decide +kernel
theorem dL_law_472 : decode cL_law 472 = .ok (.invokevirtual 81, 3) := by decide +kernel
theorem dL_law_475 : decode cL_law 475 = .ok (.if_icmp .eq 31, 3) := by decide +kernel
theorem dL_law_478 : decode cL_law 478 = .ok (.iconst 0, 1) := by decide +kernel
theorem dL_law_479 : decode cL_law 479 = .ok (.ireturn, 1) := by decide +kernel
theorem dL_law_480 : decode cL_law 480 = .ok (.aload_n 1, 1) := by decide +kernel
theorem dL_law_481 : decode cL_law 481 = .ok (.invokevirtual 82, 3) := by decide +kernel
theorem dL_law_484 : decode cL_law 484 = .ok (.aload_n 2, 1) := by decide +kernel
theorem dL_law_485 : decode cL_law 485 = .ok (.invokevirtual 85, 3) := by decide +kernel
theorem dL_law_488 : decode cL_law 488 = .ok (.if_icmp .eq 18, 3) := by decide +kernel
theorem dL_law_491 : decode cL_law 491 = .ok (.iconst 0, 1) := by decide +kernel
theorem dL_law_492 : decode cL_law 492 = .ok (.ireturn, 1) := by decide +kernel
theorem dL_law_493 : decode cL_law 493 = .ok (.aload_n 1, 1) := by decide +kernel
theorem dL_law_494 : decode cL_law 494 = .ok (.invokevirtual 86, 3) := by decide +kernel
theorem dL_law_497 : decode cL_law 497 = .ok (.aload_n 2, 1) := by decide +kernel
theorem dL_law_498 : decode cL_law 498 = .ok (.invokevirtual 89, 3) := by decide +kernel
theorem dL_law_501 : decode cL_law 501 = .ok (.if_icmp .eq 5, 3) := by decide +kernel
theorem dL_law_504 : decode cL_law 504 = .ok (.iconst 0, 1) := by decide +kernel
theorem dL_law_505 : decode cL_law 505 = .ok (.ireturn, 1) := by decide +kernel
theorem dL_law_506 : decode cL_law 506 = .ok (.iinc 3 4, 3) := by decide +kernel
theorem dL_law_509 : decode cL_law 509 = .ok (.goto (-461), 3) := by decide +kernel
theorem dL_law_512 : decode cL_law 512 = .ok (.iconst 1, 1) := by decide +kernel
theorem dL_law_513 : decode cL_law 513 = .ok (.ireturn, 1) := by decide +kernel
end
section
/-! ===== the pool's cells: one picture for both classes ===== -/
abbrev CS : Type := (Nat → Int32) × (Nat → Int32) × (Nat → Int32) × (Nat → Int32) × (Nat → Int32) × (Nat → Int32) × Int32 × Int32 × Int32
abbrev cs3 (u : CS) : Nat → Int32 := u.1
abbrev cs4 (u : CS) : Nat → Int32 := u.2.1
abbrev cs5 (u : CS) : Nat → Int32 := u.2.2.1
abbrev cs6 (u : CS) : Nat → Int32 := u.2.2.2.1
abbrev cs7 (u : CS) : Nat → Int32 := u.2.2.2.2.1
abbrev cs8 (u : CS) : Nat → Int32 := u.2.2.2.2.2.1
abbrev csh (u : CS) : Int32 := u.2.2.2.2.2.2.1
abbrev csr (u : CS) : Int32 := u.2.2.2.2.2.2.2.1
abbrev csw (u : CS) : Int32 := u.2.2.2.2.2.2.2.2
abbrev ps3 (u : CS) (f : Nat → Int32) : CS := (f, cs4 u, cs5 u, cs6 u, cs7 u, cs8 u, csh u, csr u, csw u)
abbrev ps4 (u : CS) (f : Nat → Int32) : CS := (cs3 u, f, cs5 u, cs6 u, cs7 u, cs8 u, csh u, csr u, csw u)
abbrev ps5 (u : CS) (f : Nat → Int32) : CS := (cs3 u, cs4 u, f, cs6 u, cs7 u, cs8 u, csh u, csr u, csw u)
abbrev ps6 (u : CS) (f : Nat → Int32) : CS := (cs3 u, cs4 u, cs5 u, f, cs7 u, cs8 u, csh u, csr u, csw u)
abbrev ps7 (u : CS) (f : Nat → Int32) : CS := (cs3 u, cs4 u, cs5 u, cs6 u, f, cs8 u, csh u, csr u, csw u)
abbrev ps8 (u : CS) (f : Nat → Int32) : CS := (cs3 u, cs4 u, cs5 u, cs6 u, cs7 u, f, csh u, csr u, csw u)
abbrev psh (u : CS) (v : Int32) : CS := (cs3 u, cs4 u, cs5 u, cs6 u, cs7 u, cs8 u, v, csr u, csw u)
abbrev psr (u : CS) (v : Int32) : CS := (cs3 u, cs4 u, cs5 u, cs6 u, cs7 u, cs8 u, csh u, v, csw u)
abbrev psw (u : CS) (v : Int32) : CS := (cs3 u, cs4 u, cs5 u, cs6 u, cs7 u, cs8 u, csh u, csr u, v)
/-- frames, pages, words, stride; the rows' lengths; the array classes; the addresses -/
abbrev GE : Type := (Nat × Nat × Nat × Nat) × (Nat × Nat × Nat) × (ClassId × ClassId) × (Nat × Nat × Nat × Nat × Nat × Nat × Nat)
abbrev geF (g : GE) : Nat := g.1.1
abbrev geP (g : GE) : Nat := g.1.2.1
abbrev geW (g : GE) : Nat := g.1.2.2.1
abbrev geS (g : GE) : Nat := g.1.2.2.2
abbrev gn3 (g : GE) : Nat := g.2.1.1
abbrev gn4 (g : GE) : Nat := g.2.1.2.1
abbrev gn5 (g : GE) : Nat := g.2.1.2.2
abbrev gcI (g : GE) : ClassId := g.2.2.1.1
abbrev gcZ (g : GE) : ClassId := g.2.2.1.2
abbrev ga0 (g : GE) : Nat := g.2.2.2.1
abbrev ga3 (g : GE) : Nat := g.2.2.2.2.1
abbrev ga4 (g : GE) : Nat := g.2.2.2.2.2.1
abbrev ga5 (g : GE) : Nat := g.2.2.2.2.2.2.1
abbrev ga6 (g : GE) : Nat := g.2.2.2.2.2.2.2.1
abbrev ga7 (g : GE) : Nat := g.2.2.2.2.2.2.2.2.1
abbrev ga8 (g : GE) : Nat := g.2.2.2.2.2.2.2.2.2
abbrev zfl (g : GE) (u : CS) : List Value := [.int (nI (geF g)), .int (nI (geP g)), .int (nI (geW g)), .ref (ga3 g), .ref (ga4 g), .ref (ga5 g), .ref (ga6 g), .ref (ga7 g), .ref (ga8 g), .int (csh u), .int (csr u), .int (csw u)]
def wd (ci : Nat) (g : GE) (u : CS) : va_W := [(ga0 g, .inr (ci, zfl g u)), (ga3 g, .inl (gcI g, gn3 g, .inl (cs3 u))), (ga4 g, .inl (gcI g, gn4 g, .inl (cs4 u))), (ga5 g, .inl (gcI g, gn5 g, .inl (cs5 u))), (ga6 g, .inl (gcI g, gn5 g, .inl (cs6 u))), (ga7 g, .inl (gcZ g, gn5 g, .inl (cs7 u))), (ga8 g, .inl (gcZ g, gn5 g, .inl (cs8 u)))]
abbrev zty (g : GE) : List (ClassId × FieldType) := [(gcI g, .int), (gcZ g, .boolean)]
/-- a method's standing facts -/
def zC (p : Program) (s : State) (m : MethodId) (args : Array Value) (meth : Method) (c : Code) (cc : ByteArray) (nL : Nat) (ret : Option FieldType) (Ts : List Cond) (own : String) : Prop :=
  p.tables.exec = Jvm.exec ∧ c.code = cc ∧ c.maxLocals = nL ∧ s.vm.findClass own = some m.cls ∧ (∀ w ∈ Ts, w.before args s = true) ∧ meth.sig.returnType = ret ∧ meth.locks = false
/-- the world as it stands -/
def zW (dC : Nat → ClassId) (dI : Nat → Nat → Nat) (ci : Nat) (g : GE) (A : Nat → Prop) (H0 : Heap) (s : State) (u : CS) (H : Heap) (locs : List Loc) : Prop :=
  va_K (dC, dI) vwCl (zty g) s ∧ va_P (dC, dI) vwCl (wd ci g u) H ∧ va_D A (wd ci g u) ∧ va_S A H0 H locs ∧ (∀ q, H0.size ≤ q → A q)
def zB (dC : Nat → ClassId) (dI : Nat → Nat → Nat) (ci : Nat) (g : GE) (A : Nat → Prop) (u : CS) (t : State) : Prop := va_P (dC, dI) vwCl (wd ci g u) t.heap ∧ va_K (dC, dI) vwCl (zty g) t ∧ va_D A (wd ci g u)
def zPre (dC : Nat → ClassId) (dI : Nat → Nat → Nat) (ci : Nat) (g : GE) (u : CS) (sz : Nat) (av : List Value) : Array Value → State → Prop := va_Pc av (fun U => U.heap.size = sz ∧ va_P (dC, dI) vwCl (wd ci g u) U.heap ∧ va_K (dC, dI) vwCl (zty g) U ∧ va_D (fun _ => True) (wd ci g u))
/-- the contract of a method that answers a number -/
def zMI (l : Launch) (y : MethodName) (ws : List Cond) (rm : Room) (dC : Nat → ClassId) (dI : Nat → Nat → Nat) (ci : Nat) (g : GE) (u : CS) (av : List Value) (post : Int32 → CS → Prop) : Prop :=
  ∀ sz, Met l y ws rm (zPre dC dI ci g u sz (.ref (ga0 g) :: av)) (va_Qi post (zB dC dI ci g (va_A (wd ci g u) sz)) (va_A (wd ci g u) sz)) 0 0 (va_A (wd ci g u) sz)
/-- the contract of a method that answers nothing -/
def zMV (l : Launch) (y : MethodName) (ws : List Cond) (rm : Room) (dC : Nat → ClassId) (dI : Nat → Nat → Nat) (ci : Nat) (g : GE) (u : CS) (av : List Value) (post : CS → Prop) : Prop :=
  ∀ sz, Met l y ws rm (zPre dC dI ci g u sz (.ref (ga0 g) :: av)) (va_Qv post (zB dC dI ci g (va_A (wd ci g u) sz)) (va_A (wd ci g u) sz)) 0 0 (va_A (wd ci g u) sz)
def zQI (below : List Frame) (dC : Nat → ClassId) (dI : Nat → Nat → Nat) (ci : Nat) (g : GE) (A : Nat → Prop) (post : Int32 → CS → Prop) (args : Array Value) (s : State) : State → Prop := MQ below (va_Qi post (zB dC dI ci g A) A) args s 0 0 A
def zQV (below : List Frame) (dC : Nat → ClassId) (dI : Nat → Nat → Nat) (ci : Nat) (g : GE) (A : Nat → Prop) (post : CS → Prop) (args : Array Value) (s : State) : State → Prop := MQ below (va_Qv post (zB dC dI ci g A) A) args s 0 0 A
theorem zMI_of {l : Launch} {y : MethodName} {ws ws' : List Cond} {rm : Room} {dC : Nat → ClassId} {dI : Nat → Nat → Nat} {ci : Nat} {g : GE} {u : CS} {av : List Value} {post : Int32 → CS → Prop} {cc : ByteArray} {maxL : Nat} {ret : Option FieldType} (hy : plainName y.cls = true) (hw : ws = Cond.code y cc maxL ret :: ws') (hln : (lg_sl (.ref (ga0 g) :: av)).length ≤ maxL)
    (body : ∀ (p : Program) (e : Env) (s : State) (m : MethodId) (below : List Frame) (meth : Method) (c : Code) (A : Nat → Prop) (ls : Array Slot), zC p s m (Value.ref (ga0 g) :: av).toArray meth c cc maxL ret ws y.cls → zW dC dI ci g A s.heap s u s.heap [] → lv_has ls maxL (lv_args 0 (.ref (ga0 g) :: av)) →
      W p l e rm s m (Value.ref (ga0 g) :: av).toArray below meth c s.heap [] 0 0 (zQI below dC dI ci g A post (Value.ref (ga0 g) :: av).toArray s) (F0 m 0 ls [])) : zMI l y ws rm dC dI ci g u av post := by
  intro sz
  refine Met.ofW (cc := cc) (maxL := maxL) (ret := ret) hy hw ?_
  intro p e s m args below meth c s₁ B hml hv
  obtain ⟨rfl, hsz, hP, hK, hD0⟩ := hv
  subst hsz
  have hD := hD0.self (sz := s.heap.size)
  have hl := lv_entry (.ref (ga0 g) :: av) (n := maxL) hln
  rw [lg_entry_eq]
  exact body p e s m below meth c _ _ ⟨B.exec, B.bytes, hml, findClass_of_methodNamed B.named, atoms_spec (ws := ws) B.pre, B.returns, B.notSynchronized⟩ ⟨hK, hP, hD, va_S.rf, fun q h => Or.inr h⟩ hl
theorem zMV_of {l : Launch} {y : MethodName} {ws ws' : List Cond} {rm : Room} {dC : Nat → ClassId} {dI : Nat → Nat → Nat} {ci : Nat} {g : GE} {u : CS} {av : List Value} {post : CS → Prop} {cc : ByteArray} {maxL : Nat} {ret : Option FieldType} (hy : plainName y.cls = true) (hw : ws = Cond.code y cc maxL ret :: ws') (hln : (lg_sl (.ref (ga0 g) :: av)).length ≤ maxL)
    (body : ∀ (p : Program) (e : Env) (s : State) (m : MethodId) (below : List Frame) (meth : Method) (c : Code) (A : Nat → Prop) (ls : Array Slot), zC p s m (Value.ref (ga0 g) :: av).toArray meth c cc maxL ret ws y.cls → zW dC dI ci g A s.heap s u s.heap [] → lv_has ls maxL (lv_args 0 (.ref (ga0 g) :: av)) →
      W p l e rm s m (Value.ref (ga0 g) :: av).toArray below meth c s.heap [] 0 0 (zQV below dC dI ci g A post (Value.ref (ga0 g) :: av).toArray s) (F0 m 0 ls [])) : zMV l y ws rm dC dI ci g u av post := by
  intro sz
  refine Met.ofW (cc := cc) (maxL := maxL) (ret := ret) hy hw ?_
  intro p e s m args below meth c s₁ B hml hv
  obtain ⟨rfl, hsz, hP, hK, hD0⟩ := hv
  subst hsz
  have hD := hD0.self (sz := s.heap.size)
  have hl := lv_entry (.ref (ga0 g) :: av) (n := maxL) hln
  rw [lg_entry_eq]
  exact body p e s m below meth c _ _ ⟨B.exec, B.bytes, hml, findClass_of_methodNamed B.named, atoms_spec (ws := ws) B.pre, B.returns, B.notSynchronized⟩ ⟨hK, hP, hD, va_S.rf, fun q h => Or.inr h⟩ hl
section ZR
variable {p : Program} {l : Launch} {e : Env} {R : Room} {s : State} {m : MethodId} {args : Array Value} {below : List Frame} {meth : Method} {c : Code} {H : Heap} {locs : List Loc} {cells slots : Nat} {Q : State → Prop}
variable {cc : ByteArray} {nL : Nat} {ret : Option FieldType} {Ts : List Cond} {own : String} {pc : Nat} {ls : Array Slot} {rest : List Value} {dC : Nat → ClassId} {dI : Nat → Nat → Nat} {ci : Nat} {g : GE} {A : Nat → Prop} {H0 : Heap} {u : CS}
theorem z_ret {post : Int32 → CS → Prop} {ty : FieldType} {v : Int32} (Z : zC p s m args meth c cc nL (some ty) Ts own) (Y : zW dC dI ci g A s.heap s u H locs) (hn : narrow ty (.int v) = .int v) (hp : post v u) (hdg : decode cc pc = .ok (.ireturn, 1)) : W p l e R s m args below meth c H locs 0 0 (zQI below dC dI ci g A post args s) (F0 m pc ls [.int v]) := by
  obtain ⟨hx, hb, -, -, -, hr, hlocks⟩ := Z
  obtain ⟨hK, hP, hD, hS, -⟩ := Y
  exact W.zret (v := v) hx hb hr hn (fun t ht hW => ⟨⟨v, u, rfl, hp, by rw [ht]; exact hP, va_K.moved hW.alike hK, hD⟩, hS.F ht⟩) hS.2.2 hdg hlocks
theorem z_vret {post : CS → Prop} (Z : zC p s m args meth c cc nL none Ts own) (Y : zW dC dI ci g A s.heap s u H locs) (hp : post u) (hdg : decode cc pc = .ok (.return_, 1)) : W p l e R s m args below meth c H locs 0 0 (zQV below dC dI ci g A post args s) (F0 m pc ls []) := by
  obtain ⟨hx, hb, -, -, -, hr, hlocks⟩ := Z
  obtain ⟨hK, hP, hD, hS, -⟩ := Y
  exact W.vret hx hb hr (fun t ht hW => ⟨⟨u, rfl, hp, by rw [ht]; exact hP, va_K.moved hW.alike hK, hD⟩, hS.F ht⟩) hS.2.2 hdg hlocks
theorem z_get {C : String} {T : u_T} {index : Nat} (Z : zC p s m args meth c cc nL ret Ts own) (hin : ∀ w ∈ u_ws C T 12, w ∈ Ts) (hc : vwCl[ci]? = some (C, T, 12)) (Y : zW dC dI ci g A H0 s u H locs) (k : Nat) (hk : k < 12) (hlink : (Cond.fieldLink own index C (T k).2.1 (T k).2.2.1).before args s = true) (hC : (T k).1 = C) {v : Value} (hv : (zfl g u)[k]? = some v) (hdg : decode cc pc = .ok (.getfield index, 3))
    (kk : W p l e R s m args below meth c H locs cells slots Q (F0 m (pc + 3) ls (v :: rest))) : W p l e R s m args below meth c H locs cells slots Q (F0 m pc ls (.ref (ga0 g) :: rest)) := by
  obtain ⟨hx, hb, -, hown, hts, -, -⟩ := Z
  obtain ⟨hK, hP, hD, hS, -⟩ := Y
  exact va_get (D := (dC, dI)) (ci := ci) (v := v) (C := C) (T := T) (N := 12) hx hb hts hin hown hK hP 0 (fs := zfl g u) rfl hc k hk hlink (fun x h9 => by rw [hC] at h9; exact h9) hv hdg kk
theorem z_puth {C : String} {T : u_T} {index : Nat} {ty0 : Nat → FieldType} (Z : zC p s m args meth c cc nL ret Ts own) (hin : ∀ w ∈ u_ws C T 12, w ∈ Ts) (hty : ∀ k, k < 12 → parseFieldDescriptor (T k).2.2.1 = some (ty0 k)) (hnm : ∀ a, a < 12 → ∀ b, b < 12 → a ≠ b → (T a).2.1 ≠ (T b).2.1) (hc : vwCl[ci]? = some (C, T, 12)) (Y : zW dC dI ci g A H0 s u H locs) (hlink : (Cond.fieldLink own index C (T 9).2.1 (T 9).2.2.1).before args s = true) (hC : (T 9).1 = C) (hfin : (T 9).2.2.2 = false) (hd : parseFieldDescriptor (T 9).2.2.1 = some .int) {v : Int32} (hdg : decode cc pc = .ok (.putfield index, 3))
    (kk : ∀ (H1 : Heap) (locs1 : List Loc), zW dC dI ci g A H0 s (psh u v) H1 locs1 → W p l e R s m args below meth c H1 locs1 cells slots Q (F0 m (pc + 3) ls rest)) : W p l e R s m args below meth c H locs cells slots Q (F0 m pc ls (.int v :: .ref (ga0 g) :: rest)) := by
  obtain ⟨hx, hb, -, hown, hts, -, -⟩ := Z
  obtain ⟨hK, hP, hD, hS, hA⟩ := Y
  exact va_put (D := (dC, dI)) (ci := ci) (v := .int v) (ty := .int) (C := C) (T := T) (N := 12) hx hb hts hin ty0 hty hnm hown hK hP hD hS 0 (fs := zfl g u) rfl hc 9 (by decide) hlink (fun x h9 => by rw [hC] at h9; exact h9) hfin hd rfl rfl (Nat.le_of_ble_eq_true rfl) hdg (fun H1 locs1 hP1 hD1 hS1 => kk H1 locs1 ⟨hK, hP1, hD1, hS1, hA⟩)
theorem z_putr {C : String} {T : u_T} {index : Nat} {ty0 : Nat → FieldType} (Z : zC p s m args meth c cc nL ret Ts own) (hin : ∀ w ∈ u_ws C T 12, w ∈ Ts) (hty : ∀ k, k < 12 → parseFieldDescriptor (T k).2.2.1 = some (ty0 k)) (hnm : ∀ a, a < 12 → ∀ b, b < 12 → a ≠ b → (T a).2.1 ≠ (T b).2.1) (hc : vwCl[ci]? = some (C, T, 12)) (Y : zW dC dI ci g A H0 s u H locs) (hlink : (Cond.fieldLink own index C (T 10).2.1 (T 10).2.2.1).before args s = true) (hC : (T 10).1 = C) (hfin : (T 10).2.2.2 = false) (hd : parseFieldDescriptor (T 10).2.2.1 = some .int) {v : Int32} (hdg : decode cc pc = .ok (.putfield index, 3))
    (kk : ∀ (H1 : Heap) (locs1 : List Loc), zW dC dI ci g A H0 s (psr u v) H1 locs1 → W p l e R s m args below meth c H1 locs1 cells slots Q (F0 m (pc + 3) ls rest)) : W p l e R s m args below meth c H locs cells slots Q (F0 m pc ls (.int v :: .ref (ga0 g) :: rest)) := by
  obtain ⟨hx, hb, -, hown, hts, -, -⟩ := Z
  obtain ⟨hK, hP, hD, hS, hA⟩ := Y
  exact va_put (D := (dC, dI)) (ci := ci) (v := .int v) (ty := .int) (C := C) (T := T) (N := 12) hx hb hts hin ty0 hty hnm hown hK hP hD hS 0 (fs := zfl g u) rfl hc 10 (by decide) hlink (fun x h9 => by rw [hC] at h9; exact h9) hfin hd rfl rfl (Nat.le_of_ble_eq_true rfl) hdg (fun H1 locs1 hP1 hD1 hS1 => kk H1 locs1 ⟨hK, hP1, hD1, hS1, hA⟩)
theorem z_putw {C : String} {T : u_T} {index : Nat} {ty0 : Nat → FieldType} (Z : zC p s m args meth c cc nL ret Ts own) (hin : ∀ w ∈ u_ws C T 12, w ∈ Ts) (hty : ∀ k, k < 12 → parseFieldDescriptor (T k).2.2.1 = some (ty0 k)) (hnm : ∀ a, a < 12 → ∀ b, b < 12 → a ≠ b → (T a).2.1 ≠ (T b).2.1) (hc : vwCl[ci]? = some (C, T, 12)) (Y : zW dC dI ci g A H0 s u H locs) (hlink : (Cond.fieldLink own index C (T 11).2.1 (T 11).2.2.1).before args s = true) (hC : (T 11).1 = C) (hfin : (T 11).2.2.2 = false) (hd : parseFieldDescriptor (T 11).2.2.1 = some .int) {v : Int32} (hdg : decode cc pc = .ok (.putfield index, 3))
    (kk : ∀ (H1 : Heap) (locs1 : List Loc), zW dC dI ci g A H0 s (psw u v) H1 locs1 → W p l e R s m args below meth c H1 locs1 cells slots Q (F0 m (pc + 3) ls rest)) : W p l e R s m args below meth c H locs cells slots Q (F0 m pc ls (.int v :: .ref (ga0 g) :: rest)) := by
  obtain ⟨hx, hb, -, hown, hts, -, -⟩ := Z
  obtain ⟨hK, hP, hD, hS, hA⟩ := Y
  exact va_put (D := (dC, dI)) (ci := ci) (v := .int v) (ty := .int) (C := C) (T := T) (N := 12) hx hb hts hin ty0 hty hnm hown hK hP hD hS 0 (fs := zfl g u) rfl hc 11 (by decide) hlink (fun x h9 => by rw [hC] at h9; exact h9) hfin hd rfl rfl (Nat.le_of_ble_eq_true rfl) hdg (fun H1 locs1 hP1 hD1 hS1 => kk H1 locs1 ⟨hK, hP1, hD1, hS1, hA⟩)
theorem z_ld3 (Z : zC p s m args meth c cc nL ret Ts own) (Y : zW dC dI ci g A H0 s u H locs) {i : Int32} (k : Nat) (hi : i = nI k) (hk : k < gn3 g) (hn : gn3 g < 2 ^ 31) (hdg : decode cc pc = .ok (.iaload, 1))
    (kk : W p l e R s m args below meth c H locs cells slots Q (F0 m (pc + 1) ls (.int (cs3 u k) :: rest))) : W p l e R s m args below meth c H locs cells slots Q (F0 m pc ls (.int i :: .ref (ga3 g) :: rest)) := by
  obtain ⟨hx, hb, -, hown, hts, -, -⟩ := Z
  obtain ⟨hK, hP, hD, hS, hA⟩ := Y
  subst hi
  refine va_iald hx hb hK hP 1 0 (f := cs3 u) rfl rfl (vp_in_nI hk hn) hdg ?_
  rw [nI_clamp (by omega)]
  exact kk
theorem z_st3 (Z : zC p s m args meth c cc nL ret Ts own) (Y : zW dC dI ci g A H0 s u H locs) {i x : Int32} (k : Nat) (hi : i = nI k) (hk : k < gn3 g) (hn : gn3 g < 2 ^ 31) (hdg : decode cc pc = .ok (.iastore, 1))
    (kk : ∀ (H1 : Heap) (locs1 : List Loc), zW dC dI ci g A H0 s (ps3 u (upd (cs3 u) k x)) H1 locs1 → W p l e R s m args below meth c H1 locs1 cells slots Q (F0 m (pc + 1) ls rest)) : W p l e R s m args below meth c H locs cells slots Q (F0 m pc ls (.int x :: .int i :: .ref (ga3 g) :: rest)) := by
  obtain ⟨hx, hb, -, hown, hts, -, -⟩ := Z
  obtain ⟨hK, hP, hD, hS, hA⟩ := Y
  subst hi
  refine va_iast hx hb hK hP hD hS 1 0 (f := cs3 u) rfl rfl (vp_in_nI hk hn) hdg (fun H1 locs1 hP1 hD1 hS1 => ?_)
  rw [nI_clamp (by omega)] at hP1 hD1
  exact kk H1 locs1 ⟨hK, hP1, hD1, hS1, hA⟩
theorem z_ld4 (Z : zC p s m args meth c cc nL ret Ts own) (Y : zW dC dI ci g A H0 s u H locs) {i : Int32} (k : Nat) (hi : i = nI k) (hk : k < gn4 g) (hn : gn4 g < 2 ^ 31) (hdg : decode cc pc = .ok (.iaload, 1))
    (kk : W p l e R s m args below meth c H locs cells slots Q (F0 m (pc + 1) ls (.int (cs4 u k) :: rest))) : W p l e R s m args below meth c H locs cells slots Q (F0 m pc ls (.int i :: .ref (ga4 g) :: rest)) := by
  obtain ⟨hx, hb, -, hown, hts, -, -⟩ := Z
  obtain ⟨hK, hP, hD, hS, hA⟩ := Y
  subst hi
  refine va_iald hx hb hK hP 2 0 (f := cs4 u) rfl rfl (vp_in_nI hk hn) hdg ?_
  rw [nI_clamp (by omega)]
  exact kk
theorem z_st4 (Z : zC p s m args meth c cc nL ret Ts own) (Y : zW dC dI ci g A H0 s u H locs) {i x : Int32} (k : Nat) (hi : i = nI k) (hk : k < gn4 g) (hn : gn4 g < 2 ^ 31) (hdg : decode cc pc = .ok (.iastore, 1))
    (kk : ∀ (H1 : Heap) (locs1 : List Loc), zW dC dI ci g A H0 s (ps4 u (upd (cs4 u) k x)) H1 locs1 → W p l e R s m args below meth c H1 locs1 cells slots Q (F0 m (pc + 1) ls rest)) : W p l e R s m args below meth c H locs cells slots Q (F0 m pc ls (.int x :: .int i :: .ref (ga4 g) :: rest)) := by
  obtain ⟨hx, hb, -, hown, hts, -, -⟩ := Z
  obtain ⟨hK, hP, hD, hS, hA⟩ := Y
  subst hi
  refine va_iast hx hb hK hP hD hS 2 0 (f := cs4 u) rfl rfl (vp_in_nI hk hn) hdg (fun H1 locs1 hP1 hD1 hS1 => ?_)
  rw [nI_clamp (by omega)] at hP1 hD1
  exact kk H1 locs1 ⟨hK, hP1, hD1, hS1, hA⟩
theorem z_ld5 (Z : zC p s m args meth c cc nL ret Ts own) (Y : zW dC dI ci g A H0 s u H locs) {i : Int32} (k : Nat) (hi : i = nI k) (hk : k < gn5 g) (hn : gn5 g < 2 ^ 31) (hdg : decode cc pc = .ok (.iaload, 1))
    (kk : W p l e R s m args below meth c H locs cells slots Q (F0 m (pc + 1) ls (.int (cs5 u k) :: rest))) : W p l e R s m args below meth c H locs cells slots Q (F0 m pc ls (.int i :: .ref (ga5 g) :: rest)) := by
  obtain ⟨hx, hb, -, hown, hts, -, -⟩ := Z
  obtain ⟨hK, hP, hD, hS, hA⟩ := Y
  subst hi
  refine va_iald hx hb hK hP 3 0 (f := cs5 u) rfl rfl (vp_in_nI hk hn) hdg ?_
  rw [nI_clamp (by omega)]
  exact kk
theorem z_st5 (Z : zC p s m args meth c cc nL ret Ts own) (Y : zW dC dI ci g A H0 s u H locs) {i x : Int32} (k : Nat) (hi : i = nI k) (hk : k < gn5 g) (hn : gn5 g < 2 ^ 31) (hdg : decode cc pc = .ok (.iastore, 1))
    (kk : ∀ (H1 : Heap) (locs1 : List Loc), zW dC dI ci g A H0 s (ps5 u (upd (cs5 u) k x)) H1 locs1 → W p l e R s m args below meth c H1 locs1 cells slots Q (F0 m (pc + 1) ls rest)) : W p l e R s m args below meth c H locs cells slots Q (F0 m pc ls (.int x :: .int i :: .ref (ga5 g) :: rest)) := by
  obtain ⟨hx, hb, -, hown, hts, -, -⟩ := Z
  obtain ⟨hK, hP, hD, hS, hA⟩ := Y
  subst hi
  refine va_iast hx hb hK hP hD hS 3 0 (f := cs5 u) rfl rfl (vp_in_nI hk hn) hdg (fun H1 locs1 hP1 hD1 hS1 => ?_)
  rw [nI_clamp (by omega)] at hP1 hD1
  exact kk H1 locs1 ⟨hK, hP1, hD1, hS1, hA⟩
theorem z_ld6 (Z : zC p s m args meth c cc nL ret Ts own) (Y : zW dC dI ci g A H0 s u H locs) {i : Int32} (k : Nat) (hi : i = nI k) (hk : k < gn5 g) (hn : gn5 g < 2 ^ 31) (hdg : decode cc pc = .ok (.iaload, 1))
    (kk : W p l e R s m args below meth c H locs cells slots Q (F0 m (pc + 1) ls (.int (cs6 u k) :: rest))) : W p l e R s m args below meth c H locs cells slots Q (F0 m pc ls (.int i :: .ref (ga6 g) :: rest)) := by
  obtain ⟨hx, hb, -, hown, hts, -, -⟩ := Z
  obtain ⟨hK, hP, hD, hS, hA⟩ := Y
  subst hi
  refine va_iald hx hb hK hP 4 0 (f := cs6 u) rfl rfl (vp_in_nI hk hn) hdg ?_
  rw [nI_clamp (by omega)]
  exact kk
theorem z_st6 (Z : zC p s m args meth c cc nL ret Ts own) (Y : zW dC dI ci g A H0 s u H locs) {i x : Int32} (k : Nat) (hi : i = nI k) (hk : k < gn5 g) (hn : gn5 g < 2 ^ 31) (hdg : decode cc pc = .ok (.iastore, 1))
    (kk : ∀ (H1 : Heap) (locs1 : List Loc), zW dC dI ci g A H0 s (ps6 u (upd (cs6 u) k x)) H1 locs1 → W p l e R s m args below meth c H1 locs1 cells slots Q (F0 m (pc + 1) ls rest)) : W p l e R s m args below meth c H locs cells slots Q (F0 m pc ls (.int x :: .int i :: .ref (ga6 g) :: rest)) := by
  obtain ⟨hx, hb, -, hown, hts, -, -⟩ := Z
  obtain ⟨hK, hP, hD, hS, hA⟩ := Y
  subst hi
  refine va_iast hx hb hK hP hD hS 4 0 (f := cs6 u) rfl rfl (vp_in_nI hk hn) hdg (fun H1 locs1 hP1 hD1 hS1 => ?_)
  rw [nI_clamp (by omega)] at hP1 hD1
  exact kk H1 locs1 ⟨hK, hP1, hD1, hS1, hA⟩
theorem z_ld7 (Z : zC p s m args meth c cc nL ret Ts own) (Y : zW dC dI ci g A H0 s u H locs) {i : Int32} (k : Nat) (hi : i = nI k) (hk : k < gn5 g) (hn : gn5 g < 2 ^ 31) (hdg : decode cc pc = .ok (.baload, 1))
    (kk : W p l e R s m args below meth c H locs cells slots Q (F0 m (pc + 1) ls (.int (cs7 u k) :: rest))) : W p l e R s m args below meth c H locs cells slots Q (F0 m pc ls (.int i :: .ref (ga7 g) :: rest)) := by
  obtain ⟨hx, hb, -, hown, hts, -, -⟩ := Z
  obtain ⟨hK, hP, hD, hS, hA⟩ := Y
  subst hi
  refine va_zald hx hb hK hP 5 1 (f := cs7 u) rfl rfl (vp_in_nI hk hn) hdg ?_
  rw [nI_clamp (by omega)]
  exact kk
theorem z_st7 (Z : zC p s m args meth c cc nL ret Ts own) (Y : zW dC dI ci g A H0 s u H locs) {i x : Int32} (k : Nat) (hi : i = nI k) (hk : k < gn5 g) (hn : gn5 g < 2 ^ 31) (hx0 : vp_nar .boolean x = x) (hdg : decode cc pc = .ok (.bastore, 1))
    (kk : ∀ (H1 : Heap) (locs1 : List Loc), zW dC dI ci g A H0 s (ps7 u (upd (cs7 u) k x)) H1 locs1 → W p l e R s m args below meth c H1 locs1 cells slots Q (F0 m (pc + 1) ls rest)) : W p l e R s m args below meth c H locs cells slots Q (F0 m pc ls (.int x :: .int i :: .ref (ga7 g) :: rest)) := by
  obtain ⟨hx, hb, -, hown, hts, -, -⟩ := Z
  obtain ⟨hK, hP, hD, hS, hA⟩ := Y
  subst hi
  refine va_zast hx hb hK hP hD hS 5 1 (f := cs7 u) rfl rfl (vp_in_nI hk hn) hdg (fun H1 locs1 hP1 hD1 hS1 => ?_)
  rw [nI_clamp (by omega), hx0] at hP1 hD1
  exact kk H1 locs1 ⟨hK, hP1, hD1, hS1, hA⟩
theorem z_ld8 (Z : zC p s m args meth c cc nL ret Ts own) (Y : zW dC dI ci g A H0 s u H locs) {i : Int32} (k : Nat) (hi : i = nI k) (hk : k < gn5 g) (hn : gn5 g < 2 ^ 31) (hdg : decode cc pc = .ok (.baload, 1))
    (kk : W p l e R s m args below meth c H locs cells slots Q (F0 m (pc + 1) ls (.int (cs8 u k) :: rest))) : W p l e R s m args below meth c H locs cells slots Q (F0 m pc ls (.int i :: .ref (ga8 g) :: rest)) := by
  obtain ⟨hx, hb, -, hown, hts, -, -⟩ := Z
  obtain ⟨hK, hP, hD, hS, hA⟩ := Y
  subst hi
  refine va_zald hx hb hK hP 6 1 (f := cs8 u) rfl rfl (vp_in_nI hk hn) hdg ?_
  rw [nI_clamp (by omega)]
  exact kk
theorem z_st8 (Z : zC p s m args meth c cc nL ret Ts own) (Y : zW dC dI ci g A H0 s u H locs) {i x : Int32} (k : Nat) (hi : i = nI k) (hk : k < gn5 g) (hn : gn5 g < 2 ^ 31) (hx0 : vp_nar .boolean x = x) (hdg : decode cc pc = .ok (.bastore, 1))
    (kk : ∀ (H1 : Heap) (locs1 : List Loc), zW dC dI ci g A H0 s (ps8 u (upd (cs8 u) k x)) H1 locs1 → W p l e R s m args below meth c H1 locs1 cells slots Q (F0 m (pc + 1) ls rest)) : W p l e R s m args below meth c H locs cells slots Q (F0 m pc ls (.int x :: .int i :: .ref (ga8 g) :: rest)) := by
  obtain ⟨hx, hb, -, hown, hts, -, -⟩ := Z
  obtain ⟨hK, hP, hD, hS, hA⟩ := Y
  subst hi
  refine va_zast hx hb hK hP hD hS 6 1 (f := cs8 u) rfl rfl (vp_in_nI hk hn) hdg (fun H1 locs1 hP1 hD1 hS1 => ?_)
  rw [nI_clamp (by omega), hx0] at hP1 hD1
  exact kk H1 locs1 ⟨hK, hP1, hD1, hS1, hA⟩
/-- a number under another name -/
theorem z_top {x : Int32} (v : Int32) (h : x = v) (kk : W p l e R s m args below meth c H locs cells slots Q (F0 m pc ls (.int v :: rest))) : W p l e R s m args below meth c H locs cells slots Q (F0 m pc ls (.int x :: rest)) := by
  subst h
  exact kk
theorem zPre_blind {sz : Nat} {av : List Value} : FrameBlind (zPre dC dI ci g u sz av) := by
  intro a U g' mk q
  obtain ⟨q0, q1, qP, qK, qD⟩ := q
  exact ⟨q0, q1, qP, va_K.moved (u := U) (U := U.calling g' mk a) (Vm.Alike.refl U.vm) qK, qD⟩
theorem zW_free (Y : zW dC dI ci g A H0 s u H locs) : ∀ q, va_A (wd ci g u) H.size q → A q := by
  obtain ⟨hK, hP, hD, hS, hA⟩ := Y
  rintro q (⟨k, e, h⟩ | h)
  · exact hD.2 k (q, e) h
  · exact hA q (Nat.le_trans hS.1 h)
theorem zW_back {t : State} {u' : CS} {H1 : Heap} {locs1 : List Loc} (Y : zW dC dI ci g A H0 s u H locs) (ht : t.heap = H1) (hB : zB dC dI ci g (va_A (wd ci g u) H.size) u' t) (hS1 : va_S A H0 H1 locs1) : zW dC dI ci g A H0 s u' H1 locs1 := by
  obtain ⟨hP1, hK1, hD1⟩ := hB
  have hF := zW_free Y
  exact ⟨Y.1, by rw [← ht]; exact hP1, hD1.weaken (fun k q _ h => hF q.1 h), hS1, Y.2.2.2.2⟩
theorem z_recv {C : String} {T : u_T} (Y : zW dC dI ci g A H0 s u H locs) (hc : vwCl[ci]? = some (C, T, 12)) : ∃ cell : Cell, H[ga0 g]? = some cell ∧ cell.vm.isStatics = false ∧ s.vm.findClass C = some cell.cls :=
  va_recv (q := (C, T, 12)) Y.1 Y.2.1 (ci := ci) (q0 := 0) (fs := zfl g u) hc rfl
theorem z_preV {C : String} {T : u_T} {av : List Value} (Y : zW dC dI ci g A H0 s u H locs) (hc : vwCl[ci]? = some (C, T, 12)) : PreV s H C (ga0 g) (zPre dC dI ci g u H.size (.ref (ga0 g) :: av)) av :=
  ⟨zPre_blind, z_recv Y hc, fun U hU hW => ⟨rfl, by rw [hU], by rw [hU]; exact Y.2.1, va_K.moved hW.alike Y.1, Y.2.2.1.weaken (fun _ _ _ _ => trivial)⟩⟩
theorem z_callI {y : MethodName} {ws : List Cond} {rm : Room} {av : List Value} {post : Int32 → CS → Prop} {C : String} {T : u_T} {bytes : ByteArray} {maxL n index : Nat} {ry : Option FieldType} {st0 : List Value} (Z : zC p s m args meth c cc nL ret Ts own) (Y : zW dC dI ci g A H0 s u H locs) (hc : vwCl[ci]? = some (C, T, 12)) (hM : zMI l y ws rm dC dI ci g u av post) (cw : CallW R s args own C index y bytes maxL ry ws rm 0 0 n)
    (hn : av.length = n) (hsz : ls.size = nL) (hst : st0 = av.reverse ++ .ref (ga0 g) :: rest) (hW : (rest.map fun v => v.category).sum ≤ 8) (hdg : decode cc pc = .ok (.invokevirtual index, 3)) (hf : cells ≤ R.cells ∧ slots ≤ R.slots)
    (kk : ∀ (r : Int32) (u1 : CS) (H1 : Heap) (locs1 : List Loc), post r u1 → zW dC dI ci g A H0 s u1 H1 locs1 → W p l e R s m args below meth c H1 locs1 cells slots Q (F0 m (pc + 3) ls (.int r :: rest))) : W p l e R s m args below meth c H locs cells slots Q (F0 m pc ls st0) := by
  obtain ⟨hx, hb, hml, hown, hts, -, -⟩ := Z
  have hF := zW_free Y
  exact va_calli (va_runV (As := av) (rest := rest) (g := F0 m pc ls st0) (nL := nL) ⟨hx, hb, hml, hown, hts⟩ (hM H.size) cw (z_preV Y hc) rfl hn hsz hst (lv_room hW) hdg hf) Y.2.2.2.1 (fun q _ h => hF q h) hF (fun r u1 t H1 locs1 ht hvm hw hB hz1 hk1 hS1 => kk r u1 H1 locs1 hw (zW_back Y ht hB hS1))
theorem z_callV {y : MethodName} {ws : List Cond} {rm : Room} {av : List Value} {post : CS → Prop} {C : String} {T : u_T} {bytes : ByteArray} {maxL n index : Nat} {ry : Option FieldType} {st0 : List Value} (Z : zC p s m args meth c cc nL ret Ts own) (Y : zW dC dI ci g A H0 s u H locs) (hc : vwCl[ci]? = some (C, T, 12)) (hM : zMV l y ws rm dC dI ci g u av post) (cw : CallW R s args own C index y bytes maxL ry ws rm 0 0 n)
    (hn : av.length = n) (hsz : ls.size = nL) (hst : st0 = av.reverse ++ .ref (ga0 g) :: rest) (hW : (rest.map fun v => v.category).sum ≤ 8) (hdg : decode cc pc = .ok (.invokevirtual index, 3)) (hf : cells ≤ R.cells ∧ slots ≤ R.slots)
    (kk : ∀ (u1 : CS) (H1 : Heap) (locs1 : List Loc), post u1 → zW dC dI ci g A H0 s u1 H1 locs1 → W p l e R s m args below meth c H1 locs1 cells slots Q (F0 m (pc + 3) ls (rest))) : W p l e R s m args below meth c H locs cells slots Q (F0 m pc ls st0) := by
  obtain ⟨hx, hb, hml, hown, hts, -, -⟩ := Z
  have hF := zW_free Y
  exact va_callv (va_runV (As := av) (rest := rest) (g := F0 m pc ls st0) (nL := nL) ⟨hx, hb, hml, hown, hts⟩ (hM H.size) cw (z_preV Y hc) rfl hn hsz hst (lv_room hW) hdg hf) Y.2.2.2.1 (fun q _ h => hF q h) hF (fun u1 t H1 locs1 ht hvm hw hB hz1 hk1 hS1 => kk u1 H1 locs1 hw (zW_back Y ht hB hS1))
end ZR
end
section
/-! ===== the pool as a mathematical value: its words ===== -/
abbrev AS : Type := (Nat → Nat → Int32) × (Nat → Nat → Int32) × (Nat → Int32) × (Nat → Nat) × (Nat → Int32) × (Nat → Int32) × Nat × Int32 × Int32
abbrev adk (a : AS) : Nat → Nat → Int32 := a.1
abbrev amm (a : AS) : Nat → Nat → Int32 := a.2.1
abbrev apg (a : AS) : Nat → Int32 := a.2.2.1
abbrev apn (a : AS) : Nat → Nat := a.2.2.2.1
abbrev adt (a : AS) : Nat → Int32 := a.2.2.2.2.1
abbrev amk (a : AS) : Nat → Int32 := a.2.2.2.2.2.1
abbrev ahd (a : AS) : Nat := a.2.2.2.2.2.2.1
abbrev ard (a : AS) : Int32 := a.2.2.2.2.2.2.2.1
abbrev awr (a : AS) : Int32 := a.2.2.2.2.2.2.2.2
def oEmpty (f : Nat) (a : AS) : AS := (adk a, amm a, upd (apg a) f (-1), va_up (apn a) f 0, upd (adt a) f (nI 0), upd (amk a) f (nI 0), ahd a, ard a, awr a)
def oStore (f p : Nat) (a : AS) : AS := (va_up (adk a) p (amm a f), amm a, apg a, apn a, upd (adt a) f (nI 0), amk a, ahd a, ard a, awr a + nI 1)
def oHand (h : Nat) (a : AS) : AS := (adk a, amm a, apg a, apn a, adt a, amk a, h, ard a, awr a)
def oMark (f : Nat) (v : Int32) (a : AS) : AS := (adk a, amm a, apg a, apn a, adt a, upd (amk a) f v, ahd a, ard a, awr a)
def oRead (f p : Nat) (a : AS) : AS := (adk a, va_up (amm a) f (adk a p), upd (apg a) f (nI p), apn a, adt a, amk a, ahd a, ard a + nI 1, awr a)
def oPin (f : Nat) (a : AS) : AS := (adk a, amm a, apg a, va_up (apn a) f (apn a f + 1), adt a, upd (amk a) f (nI 1), ahd a, ard a, awr a)
def oUnpin (f : Nat) (a : AS) : AS := (adk a, amm a, apg a, va_up (apn a) f (apn a f - 1), adt a, amk a, ahd a, ard a, awr a)
def oRow (f : Nat) (r : Nat → Int32) (a : AS) : AS := (adk a, va_up (amm a) f r, apg a, apn a, upd (adt a) f (nI 1), amk a, ahd a, ard a, awr a)
def oInit (a : AS) : AS := (fun _ _ => nI 0, amm a, fun _ => -1, fun _ => 0, fun _ => nI 0, fun _ => nI 0, 0, nI 0, nI 0)
/-- sizes -/
def gok (g : GE) : Prop := 1 ≤ geF g ∧ geF g ≤ 32 ∧ 1 ≤ geP g ∧ geP g ≤ 200 ∧ 1 ≤ geW g ∧ geW g ≤ 8 ∧ geW g ≤ geS g ∧ geP g * geS g ≤ gn3 g ∧ geF g * geS g ≤ gn4 g ∧ geF g ≤ gn5 g ∧ gn3 g ≤ 1600 ∧ gn4 g ≤ 256 ∧ gn5 g ≤ 32
/-- the cells hold the value -/
def Rp (g : GE) (a : AS) (u : CS) : Prop := (∀ p, p < geP g → ∀ o, o < geW g → cs3 u (p * geS g + o) = adk a p o) ∧ (∀ f, f < geF g → ∀ o, o < geW g → cs4 u (f * geS g + o) = amm a f o) ∧ (∀ f, f < geF g → cs5 u f = apg a f) ∧ (∀ f, f < geF g → cs6 u f = nI (apn a f)) ∧ (∀ f, f < geF g → cs7 u f = adt a f) ∧ (∀ f, f < geF g → cs8 u f = amk a f) ∧ csh u = nI (ahd a) ∧ csr u = ard a ∧ csw u = awr a
/-- what the value keeps to -/
def Iv (g : GE) (N : Nat) (a : AS) : Prop := ahd a < geF g ∧ (∀ f, f < geF g → apg a f = -1 ∨ ∃ p, p < geP g ∧ apg a f = nI p) ∧ (∀ f f', f < geF g → f' < geF g → apg a f = apg a f' → apg a f ≠ -1 → f = f') ∧ (∀ f, f < geF g → apg a f = -1 → apn a f = 0 ∧ adt a f = nI 0 ∧ amk a f = nI 0) ∧ (∀ f, f < geF g → apn a f ≤ N)
def Rep (g : GE) (N : Nat) (a : AS) (u : CS) : Prop := gok g ∧ N < 2 ^ 20 ∧ Rp g a u ∧ Iv g N a
noncomputable def pIf {α : Type} (c : Prop) (x y : α) : α := @ite α c (Classical.propDecidable c) x y
theorem pIf_t {α : Type} {c : Prop} (h : c) (x y : α) : pIf c x y = x := if_pos h
theorem pIf_f {α : Type} {c : Prop} (h : ¬ c) (x y : α) : pIf c x y = y := if_neg h
theorem pIf_p {α : Type} (P : α → Prop) {c : Prop} {x y : α} (h1 : c → P x) (h2 : ¬ c → P y) : P (pIf c x y) := by
  by_cases h : c
  · rw [pIf_t h]; exact h1 h
  · rw [pIf_f h]; exact h2 h
/-! numbers -/
theorem nI_ne_m1 {n : Nat} (h : n < 2 ^ 31) : nI n ≠ -1 := by
  intro e
  have h1 := nI_toInt h
  rw [e] at h1
  have h2 : (-1 : Int32).toInt = -1 := by decide +kernel
  omega
theorem nI_0lt {n : Nat} (h : n < 2 ^ 31) : 0 < nI n ↔ 0 < n := by
  rw [← nI_0, nI_ltI (by decide) h]
theorem nI_le0 {n : Nat} (h : n < 2 ^ 31) : nI n ≤ 0 ↔ n = 0 := by
  rw [← nI_0, nI_leI h (by decide)]
  omega
theorem nI_eq0 {n : Nat} (h : n < 2 ^ 31) : nI n = 0 ↔ n = 0 := by
  rw [← nI_0, nI_eq h (by decide)]
theorem in_iff {x : Int32} {n : Nat} (hn : n < 2 ^ 31) : vp_in x n ↔ 0 ≤ x ∧ x < nI n := by
  rw [vp_in_iff, Int32.le_iff_toInt_le, Int32.lt_iff_toInt_lt, nI_toInt hn]
  exact Iff.rfl
theorem in_of {x : Int32} {n : Nat} (hn : n < 2 ^ 31) (h1 : 0 ≤ x) (h2 : x < nI n) : ∃ j, j < n ∧ x = nI j := vp_in_of ((in_iff hn).mpr ⟨h1, h2⟩) hn
theorem in_nI {j n : Nat} (h : j < n) (hn : n < 2 ^ 31) : vp_in (nI j) n := vp_in_nI h hn
theorem not_in_neg {x : Int32} {n : Nat} (h : x < 0) : ¬ vp_in x n := fun k => k (Or.inl h)
theorem not_in_ge {x : Int32} {n : Nat} (hn : n < 2 ^ 31) (h : nI n ≤ x) : ¬ vp_in x n := fun k => by
  have := ((in_iff hn).mp k).2
  rw [Int32.lt_iff_toInt_lt] at this
  rw [Int32.le_iff_toInt_le] at h
  omega
theorem i_lt_of {x y : Int32} (h : ¬ y ≤ x) : x < y := by
  rw [Int32.lt_iff_toInt_lt]; rw [Int32.le_iff_toInt_le] at h; omega
theorem i_le_of {x y : Int32} (h : ¬ x < y) : y ≤ x := by
  rw [Int32.le_iff_toInt_le]; rw [Int32.lt_iff_toInt_lt] at h; omega
/-! rows -/
theorem row_ne {p q o s W k : Nat} (ho : o < W) (hW : W ≤ s) (hk1 : q * s ≤ k) (hk2 : k < q * s + W) (hk : p * s + o = k) : p = q := by
  rcases Nat.lt_trichotomy p q with h | h | h
  · have : (p + 1) * s ≤ q * s := Nat.mul_le_mul_right s h
    rw [Nat.succ_mul] at this
    omega
  · exact h
  · have : (q + 1) * s ≤ p * s := Nat.mul_le_mul_right s h
    rw [Nat.succ_mul] at this
    omega
theorem row_cpy {n s W sp q : Nat} {src t : Nat → Int32} {d : Nat → Nat → Int32} {row : Nat → Int32} (hW : W ≤ s) (h : ∀ p, p < n → ∀ o, o < W → t (p * s + o) = d p o) (hr : ∀ o, o < W → src (sp + o) = row o) : ∀ p, p < n → ∀ o, o < W → va_cpy src t sp (q * s) W (p * s + o) = va_up d q row p o := by
  intro p hp o ho
  by_cases e : p = q
  · subst e
    rw [pk_cpy_in (by omega) (by omega), va_up_self]
    rw [show sp + (p * s + o - p * s) = sp + o by omega]
    exact hr o ho
  · rw [va_up_ne _ _ e, pk_cpy_out ?_]
    · exact h p hp o ho
    · by_cases h1 : p * s + o < q * s
      · exact Or.inl h1
      · refine Or.inr (Nat.le_of_not_lt fun h2 => e (row_ne ho hW (by omega) h2 rfl))
theorem row_upd {n s W q o0 : Nat} {t : Nat → Int32} {d : Nat → Nat → Int32} {v : Int32} (hW : W ≤ s) (h0 : o0 < W) (h : ∀ p, p < n → ∀ o, o < W → t (p * s + o) = d p o) : ∀ p, p < n → ∀ o, o < W → upd t (q * s + o0) v (p * s + o) = va_up d q (upd (d q) o0 v) p o := by
  intro p hp o ho
  by_cases e : p = q
  · subst e
    rw [va_up_self]
    by_cases e2 : o = o0
    · subst e2; rw [pk_us, pk_us]
    · rw [pk_un (by omega), pk_un e2]; exact h p hp o ho
  · rw [va_up_ne _ _ e, pk_un ?_]
    · exact h p hp o ho
    · intro h2
      exact e (row_ne ho hW (by omega) (by omega) h2)
theorem cpy_step {f g : Nat → Int32} {sp dp n : Nat} {v : Int32} (h : v = f (sp + n)) : upd (va_cpy f g sp dp n) (dp + n) v = va_cpy f g sp dp (n + 1) := by
  funext j
  by_cases e : j = dp + n
  · subst e
    rw [pk_us, pk_cpy_in (by omega) (by omega), h]
    congr 1
    omega
  · rw [pk_un e]
    by_cases h2 : dp ≤ j ∧ j < dp + n
    · rw [pk_cpy_in h2.1 h2.2, pk_cpy_in h2.1 (by omega)]
    · rw [pk_cpy_out (by omega), pk_cpy_out (by omega)]
theorem cpy_0 {f g : Nat → Int32} {sp dp : Nat} : va_cpy f g sp dp 0 = g := by
  funext j
  exact pk_cpy_out (by omega)
theorem ag_upd {n : Nat} {f h : Nat → Int32} {k : Nat} {v : Int32} (e : ∀ j, j < n → f j = h j) : ∀ j, j < n → upd f k v j = upd h k v j := by
  intro j hj
  by_cases e2 : j = k
  · subst e2; rw [pk_us, pk_us]
  · rw [pk_un e2, pk_un e2]; exact e j hj
theorem ag_pin {n : Nat} {f : Nat → Int32} {h : Nat → Nat} {k v : Nat} (e : ∀ j, j < n → f j = nI (h j)) : ∀ j, j < n → upd f k (nI v) j = nI (va_up h k v j) := by
  intro j hj
  by_cases e2 : j = k
  · subst e2; rw [pk_us, va_up_self]
  · rw [pk_un e2, va_up_ne _ _ e2]; exact e j hj
theorem ag_same {n : Nat} {f h : Nat → Int32} {k : Nat} {v : Int32} (e : ∀ j, j < n → f j = h j) (hv : k < n → h k = v) : ∀ j, j < n → upd f k v j = h j := by
  intro j hj
  by_cases e2 : j = k
  · subst e2; rw [pk_us]; exact (hv hj).symm
  · rw [pk_un e2]; exact e j hj
/-! the cells behind each word -/
theorem Rp_empty {g : GE} {a : AS} {u : CS} (f : Nat) (h : Rp g a u) : Rp g (oEmpty f a) (cs3 u, cs4 u, upd (cs5 u) f (-1), upd (cs6 u) f (nI 0), upd (cs7 u) f (nI 0), upd (cs8 u) f (nI 0), csh u, csr u, csw u) := by
  obtain ⟨h3, h4, h5, h6, h7, h8, h9, h10, h11⟩ := h
  exact ⟨h3, h4, ag_upd h5, ag_pin h6, ag_upd h7, ag_upd h8, h9, h10, h11⟩
theorem Rp_store {g : GE} {a : AS} {u : CS} {f : Nat} (p : Nat) (hg : gok g) (hf : f < geF g) (h : Rp g a u) : Rp g (oStore f p a) (va_cpy (cs4 u) (cs3 u) (f * geS g) (p * geS g) (geW g), cs4 u, cs5 u, cs6 u, upd (cs7 u) f (nI 0), cs8 u, csh u, csr u, csw u + nI 1) := by
  obtain ⟨h3, h4, h5, h6, h7, h8, h9, h10, h11⟩ := h
  exact ⟨row_cpy hg.2.2.2.2.2.2.1 h3 (fun o ho => h4 f hf o ho), h4, h5, h6, ag_upd h7, h8, h9, h10, by show csw u + nI 1 = awr a + nI 1; rw [h11]⟩
theorem Rp_hand {g : GE} {a : AS} {u : CS} (k : Nat) (h : Rp g a u) : Rp g (oHand k a) (psh u (nI k)) := by
  obtain ⟨h3, h4, h5, h6, h7, h8, h9, h10, h11⟩ := h
  exact ⟨h3, h4, h5, h6, h7, h8, rfl, h10, h11⟩
theorem Rp_mark {g : GE} {a : AS} {u : CS} (f : Nat) (v : Int32) (h : Rp g a u) : Rp g (oMark f v a) (ps8 u (upd (cs8 u) f v)) := by
  obtain ⟨h3, h4, h5, h6, h7, h8, h9, h10, h11⟩ := h
  exact ⟨h3, h4, h5, h6, h7, ag_upd h8, h9, h10, h11⟩
theorem Rp_read {g : GE} {a : AS} {u : CS} {p : Nat} (f : Nat) (hg : gok g) (hp : p < geP g) (h : Rp g a u) : Rp g (oRead f p a) (cs3 u, va_cpy (cs3 u) (cs4 u) (p * geS g) (f * geS g) (geW g), upd (cs5 u) f (nI p), cs6 u, cs7 u, cs8 u, csh u, csr u + nI 1, csw u) := by
  obtain ⟨h3, h4, h5, h6, h7, h8, h9, h10, h11⟩ := h
  exact ⟨h3, row_cpy hg.2.2.2.2.2.2.1 h4 (fun o ho => h3 p hp o ho), ag_upd h5, h6, h7, h8, h9, by show csr u + nI 1 = ard a + nI 1; rw [h10], h11⟩
theorem Rp_pin {g : GE} {a : AS} {u : CS} (f : Nat) (h : Rp g a u) : Rp g (oPin f a) (cs3 u, cs4 u, cs5 u, upd (cs6 u) f (nI (apn a f + 1)), cs7 u, upd (cs8 u) f (nI 1), csh u, csr u, csw u) := by
  obtain ⟨h3, h4, h5, h6, h7, h8, h9, h10, h11⟩ := h
  exact ⟨h3, h4, h5, ag_pin h6, h7, ag_upd h8, h9, h10, h11⟩
theorem Rp_unpin {g : GE} {a : AS} {u : CS} (f : Nat) (h : Rp g a u) : Rp g (oUnpin f a) (ps6 u (upd (cs6 u) f (nI (apn a f - 1)))) := by
  obtain ⟨h3, h4, h5, h6, h7, h8, h9, h10, h11⟩ := h
  exact ⟨h3, h4, h5, ag_pin h6, h7, h8, h9, h10, h11⟩
theorem Rp_word {g : GE} {a : AS} {u : CS} {o : Nat} (f : Nat) (v : Int32) (hg : gok g) (ho : o < geW g) (h : Rp g a u) : Rp g (oRow f (upd (amm a f) o v) a) (cs3 u, upd (cs4 u) (f * geS g + o) v, cs5 u, cs6 u, upd (cs7 u) f (nI 1), cs8 u, csh u, csr u, csw u) := by
  obtain ⟨h3, h4, h5, h6, h7, h8, h9, h10, h11⟩ := h
  exact ⟨h3, row_upd hg.2.2.2.2.2.2.1 ho h4, h5, h6, ag_upd h7, h8, h9, h10, h11⟩
theorem Rp_rowD {g : GE} {a : AS} {u : CS} {p : Nat} (f : Nat) (hg : gok g) (hp : p < geP g) (h : Rp g a u) : Rp g (oRow f (adk a p) a) (cs3 u, va_cpy (cs3 u) (cs4 u) (p * geS g) (f * geS g) (geW g), cs5 u, cs6 u, upd (cs7 u) f (nI 1), cs8 u, csh u, csr u, csw u) := by
  obtain ⟨h3, h4, h5, h6, h7, h8, h9, h10, h11⟩ := h
  exact ⟨h3, row_cpy hg.2.2.2.2.2.2.1 h4 (fun o ho => h3 p hp o ho), h5, h6, ag_upd h7, h8, h9, h10, h11⟩
theorem Rp_rowM {g : GE} {a : AS} {u : CS} {p : Nat} (f : Nat) (hg : gok g) (hp : p < geF g) (h : Rp g a u) : Rp g (oRow f (amm a p) a) (cs3 u, va_cpy (cs4 u) (cs4 u) (p * geS g) (f * geS g) (geW g), cs5 u, cs6 u, upd (cs7 u) f (nI 1), cs8 u, csh u, csr u, csw u) := by
  obtain ⟨h3, h4, h5, h6, h7, h8, h9, h10, h11⟩ := h
  exact ⟨h3, row_cpy hg.2.2.2.2.2.2.1 h4 (fun o ho => h4 p hp o ho), h5, h6, ag_upd h7, h8, h9, h10, h11⟩
end
section
/-! ===== what the value keeps to, behind each word ===== -/
theorem Iv_empty {g : GE} {N : Nat} {a : AS} (f : Nat) (h : Iv g N a) : Iv g N (oEmpty f a) := by
  obtain ⟨h1, h2, h3, h4, h5⟩ := h
  refine ⟨h1, fun k hk => ?_, fun k k' hk hk' => ?_, fun k hk => ?_, fun k hk => ?_⟩
  · show upd (apg a) f (-1) k = -1 ∨ ∃ p, p < geP g ∧ upd (apg a) f (-1) k = nI p
    by_cases e : k = f
    · subst e; rw [pk_us]; exact Or.inl rfl
    · rw [pk_un e]; exact h2 k hk
  · show upd (apg a) f (-1) k = upd (apg a) f (-1) k' → upd (apg a) f (-1) k ≠ -1 → k = k'
    by_cases e : k = f
    · subst e; rw [pk_us]; intro _ h; exact absurd rfl h
    · rw [pk_un e]
      by_cases e' : k' = f
      · subst e'; rw [pk_us]; intro h h0; exact absurd h h0
      · rw [pk_un e']; exact h3 k k' hk hk'
  · show upd (apg a) f (-1) k = -1 → va_up (apn a) f 0 k = 0 ∧ upd (adt a) f (nI 0) k = nI 0 ∧ upd (amk a) f (nI 0) k = nI 0
    by_cases e : k = f
    · subst e; exact fun _ => ⟨va_up_self _ _ _, pk_us, pk_us⟩
    · rw [pk_un e, pk_un e, pk_un e, va_up_ne _ _ e]; exact h4 k hk
  · show va_up (apn a) f 0 k ≤ N
    by_cases e : k = f
    · subst e; rw [va_up_self]; exact Nat.zero_le _
    · rw [va_up_ne _ _ e]; exact h5 k hk
theorem Iv_store {g : GE} {N : Nat} {a : AS} (f p : Nat) (h : Iv g N a) : Iv g N (oStore f p a) := by
  obtain ⟨h1, h2, h3, h4, h5⟩ := h
  refine ⟨h1, h2, h3, fun k hk e0 => ?_, h5⟩
  obtain ⟨q1, q2, q3⟩ := h4 k hk e0
  refine ⟨q1, ?_, q3⟩
  show upd (adt a) f (nI 0) k = nI 0
  by_cases e : k = f
  · subst e; rw [pk_us]
  · rw [pk_un e]; exact q2
theorem Iv_hand {g : GE} {N : Nat} {a : AS} {k : Nat} (hk : k < geF g) (h : Iv g N a) : Iv g N (oHand k a) := ⟨hk, h.2.1, h.2.2.1, h.2.2.2.1, h.2.2.2.2⟩
theorem Iv_mark {g : GE} {N : Nat} {a : AS} {f : Nat} {v : Int32} (hv : apg a f = -1 → v = nI 0) (h : Iv g N a) : Iv g N (oMark f v a) := by
  obtain ⟨h1, h2, h3, h4, h5⟩ := h
  refine ⟨h1, h2, h3, fun k hk e0 => ?_, h5⟩
  obtain ⟨q1, q2, q3⟩ := h4 k hk e0
  refine ⟨q1, q2, ?_⟩
  show upd (amk a) f v k = nI 0
  by_cases e : k = f
  · subst e; rw [pk_us]; exact hv e0
  · rw [pk_un e]; exact q3
theorem Iv_read {g : GE} {N : Nat} {a : AS} {f p : Nat} (hp : p < geP g) (hP : geP g < 2 ^ 31) (hno : ∀ k, k < geF g → apg a k ≠ nI p) (h : Iv g N a) : Iv g N (oRead f p a) := by
  obtain ⟨h1, h2, h3, h4, h5⟩ := h
  refine ⟨h1, fun k hk => ?_, fun k k' hk hk' => ?_, fun k hk => ?_, h5⟩
  · show upd (apg a) f (nI p) k = -1 ∨ ∃ q, q < geP g ∧ upd (apg a) f (nI p) k = nI q
    by_cases e : k = f
    · subst e; rw [pk_us]; exact Or.inr ⟨p, hp, rfl⟩
    · rw [pk_un e]; exact h2 k hk
  · show upd (apg a) f (nI p) k = upd (apg a) f (nI p) k' → upd (apg a) f (nI p) k ≠ -1 → k = k'
    by_cases e : k = f
    · subst e; rw [pk_us]
      by_cases e' : k' = k
      · exact fun _ _ => e'.symm
      · rw [pk_un e']; intro h _; exact absurd h.symm (hno k' hk')
    · rw [pk_un e]
      by_cases e' : k' = f
      · subst e'; rw [pk_us]; intro h _; exact absurd h (hno k hk)
      · rw [pk_un e']; exact h3 k k' hk hk'
  · show upd (apg a) f (nI p) k = -1 → apn a k = 0 ∧ adt a k = nI 0 ∧ amk a k = nI 0
    by_cases e : k = f
    · subst e; rw [pk_us]; intro h; exact absurd h (nI_ne_m1 (by omega))
    · rw [pk_un e]; exact h4 k hk
theorem Iv_pin {g : GE} {N : Nat} {a : AS} {f : Nat} (hf : f < geF g) (he : apg a f ≠ -1) (h : Iv g N a) : Iv g (N + 1) (oPin f a) := by
  obtain ⟨h1, h2, h3, h4, h5⟩ := h
  refine ⟨h1, h2, h3, fun k hk => ?_, fun k hk => ?_⟩
  · show apg a k = -1 → va_up (apn a) f (apn a f + 1) k = 0 ∧ adt a k = nI 0 ∧ upd (amk a) f (nI 1) k = nI 0
    by_cases e : k = f
    · subst e; intro h; exact absurd h he
    · rw [va_up_ne _ _ e, pk_un e]; exact h4 k hk
  · show va_up (apn a) f (apn a f + 1) k ≤ N + 1
    have := h5 k hk
    have := h5 f hf
    by_cases e : k = f
    · subst e; rw [va_up_self]; omega
    · rw [va_up_ne _ _ e]; omega
theorem Iv_unpin {g : GE} {N : Nat} {a : AS} {f : Nat} (hf : f < geF g) (h : Iv g N a) : Iv g N (oUnpin f a) := by
  obtain ⟨h1, h2, h3, h4, h5⟩ := h
  refine ⟨h1, h2, h3, fun k hk => ?_, fun k hk => ?_⟩
  · show apg a k = -1 → va_up (apn a) f (apn a f - 1) k = 0 ∧ adt a k = nI 0 ∧ amk a k = nI 0
    intro h0
    obtain ⟨q1, q2, q3⟩ := h4 k hk h0
    refine ⟨?_, q2, q3⟩
    by_cases e : k = f
    · subst e; rw [va_up_self]; omega
    · rw [va_up_ne _ _ e]; exact q1
  · show va_up (apn a) f (apn a f - 1) k ≤ N
    have := h5 k hk
    by_cases e : k = f
    · subst e; rw [va_up_self]; omega
    · rw [va_up_ne _ _ e]; exact this
theorem Iv_row {g : GE} {N : Nat} {a : AS} {f : Nat} (r : Nat → Int32) (he : apg a f ≠ -1) (h : Iv g N a) : Iv g N (oRow f r a) := by
  obtain ⟨h1, h2, h3, h4, h5⟩ := h
  refine ⟨h1, h2, h3, fun k hk h0 => ?_, h5⟩
  obtain ⟨q1, q2, q3⟩ := h4 k hk h0
  refine ⟨q1, ?_, q3⟩
  show upd (adt a) f (nI 1) k = nI 0
  by_cases e : k = f
  · subst e; exact absurd h0 he
  · rw [pk_un e]; exact q2
theorem Iv_init {g : GE} {a : AS} (N : Nat) (hg : gok g) : Iv g N (oInit a) := ⟨hg.1, fun _ _ => Or.inl rfl, fun _ _ _ _ _ h => absurd rfl h, fun _ _ _ => ⟨rfl, rfl, rfl⟩, fun _ _ => Nat.zero_le _⟩
theorem Iv_more {g : GE} {N : Nat} {a : AS} (h : Iv g N a) : Iv g (N + 1) a := ⟨h.1, h.2.1, h.2.2.1, h.2.2.2.1, fun f hf => Nat.le_succ_of_le (h.2.2.2.2 f hf)⟩
/-! ===== what each method answers and does ===== -/
noncomputable def fnd (F : Nat) (pg : Nat → Int32) (x : Int32) : Option Nat := @dite _ (∃ f, f < F ∧ pg f = x) (Classical.propDecidable _) (fun h => some (Classical.choose h)) (fun _ => none)
theorem fnd_none {F : Nat} {pg : Nat → Int32} {x : Int32} (h : ∀ f, f < F → pg f ≠ x) : fnd F pg x = none := dif_neg (fun ⟨f, h1, h2⟩ => h f h1 h2)
theorem fnd_some {F : Nat} {pg : Nat → Int32} {x : Int32} {f : Nat} (hf : f < F) (hx : pg f = x) (hu : ∀ f', f' < F → pg f' = x → f' = f) : fnd F pg x = some f := by
  have h : ∃ f, f < F ∧ pg f = x := ⟨f, hf, hx⟩
  unfold fnd
  rw [dif_pos h]
  exact congrArg some (hu _ (Classical.choose_spec h).1 (Classical.choose_spec h).2)
noncomputable def fop (g : GE) (a : AS) (x : Int32) : Option Nat := pIf (vp_in x (geP g)) (fnd (geF g) (apg a) x) none
/-- a frame that has the page -/
theorem fop_some {g : GE} {N : Nat} {a : AS} {f p : Nat} (hg : gok g) (h : Iv g N a) (hf : f < geF g) (hp : p < geP g) (hx : apg a f = nI p) : fop g a (nI p) = some f := by
  have hP : geP g < 2 ^ 31 := by have := hg.2.2.2.1; omega
  unfold fop
  rw [pIf_t (in_nI hp hP)]
  refine fnd_some hf hx (fun f' hf' hx' => h.2.2.1 f' f hf' hf (hx'.trans hx.symm) ?_)
  rw [hx']
  exact nI_ne_m1 (by omega)
theorem fop_none {g : GE} {a : AS} {x : Int32} (h : vp_in x (geP g) → ∀ f, f < geF g → apg a f ≠ x) : fop g a x = none := by
  unfold fop
  exact pIf_p (fun z => z = none) (fun h1 => fnd_none (h h1)) (fun _ => rfl)
def cnt (pn : Nat → Nat) : Nat → Nat
  | 0 => 0
  | n + 1 => cnt pn n + (if 0 < pn n then 1 else 0)
theorem cnt_le (pn : Nat → Nat) (n : Nat) : cnt pn n ≤ n := by
  induction n with
  | zero => exact Nat.le_refl _
  | succ n ih =>
    show cnt pn n + (if 0 < pn n then 1 else 0) ≤ n + 1
    split <;> omega
theorem cnt_lt {pn : Nat → Nat} {n : Nat} (h : cnt pn n ≠ n) : ∃ f, f < n ∧ pn f = 0 := by
  induction n with
  | zero => exact absurd rfl h
  | succ n ih =>
    by_cases h0 : pn n = 0
    · exact ⟨n, by omega, h0⟩
    · have h1 : cnt pn (n + 1) = cnt pn n + 1 := by show cnt pn n + (if 0 < pn n then 1 else 0) = _; rw [if_pos (by omega)]
      obtain ⟨f, q1, q2⟩ := ih (by omega)
      exact ⟨f, by omega, q2⟩
/-- the hand looks at a frame: found or not, and what is then -/
def gw (f : Nat) (a : AS) : Bool × AS := if 0 < apn a f then (false, a) else if apg a f = -1 then (true, a) else if amk a f = 0 then (true, oEmpty f (if adt a f = 0 then a else oStore f (apg a f).toNatClampNeg a)) else (false, oMark f (nI 0) a)
def nx (g : GE) (h : Nat) : Nat := if h + 1 < geF g then h + 1 else 0
def findN (g : GE) : Nat → AS → AS × Option Nat
  | 0, a => (a, none)
  | n + 1, a => if (gw (ahd a) (oHand (nx g (ahd a)) a)).1 = true then ((gw (ahd a) (oHand (nx g (ahd a)) a)).2, some (ahd a)) else findN g n (gw (ahd a) (oHand (nx g (ahd a)) a)).2
theorem nx_lt {g : GE} (hg : gok g) (h : Nat) : nx g h < geF g := by
  have := hg.1
  unfold nx
  split <;> omega
theorem gw_Iv {g : GE} {N : Nat} {a : AS} (f : Nat) (h : Iv g N a) : Iv g N (gw f a).2 := by
  unfold gw
  split
  · exact h
  · split
    · exact h
    · split
      · split
        · exact Iv_empty f h
        · exact Iv_empty f (Iv_store f _ h)
      · exact Iv_mark (fun _ => rfl) h
theorem gw_pg {a : AS} (f k : Nat) : apg (gw f a).2 k = apg a k ∨ apg (gw f a).2 k = -1 := by
  unfold gw
  split
  · exact Or.inl rfl
  · split
    · exact Or.inl rfl
    · split
      · have key : ∀ b : AS, apg b = apg a → apg (oEmpty f b) k = apg a k ∨ apg (oEmpty f b) k = -1 := by
          intro b hb
          show upd (apg b) f (-1) k = _ ∨ upd (apg b) f (-1) k = _
          by_cases e : k = f
          · subst e; rw [pk_us]; exact Or.inr rfl
          · rw [pk_un e, hb]; exact Or.inl rfl
        split
        · exact key _ rfl
        · exact key _ rfl
      · exact Or.inl rfl
theorem findN_ok {g : GE} {N : Nat} (hg : gok g) (x : Int32) (hx : x ≠ -1) : ∀ (n : Nat) (a : AS), Iv g N a → (∀ k, k < geF g → apg a k ≠ x) → Iv g N (findN g n a).1 ∧ (∀ k, k < geF g → apg (findN g n a).1 k ≠ x) ∧ ∀ f, (findN g n a).2 = some f → f < geF g := by
  intro n
  induction n with
  | zero => intro a h1 h2; exact ⟨h1, h2, fun f h => by cases h⟩
  | succ n ih =>
    intro a h1 h2
    have k1 := gw_Iv (ahd a) (Iv_hand (nx_lt hg (ahd a)) h1)
    have k2 : ∀ k, k < geF g → apg (gw (ahd a) (oHand (nx g (ahd a)) a)).2 k ≠ x := fun k hk => by
      rcases gw_pg (a := oHand (nx g (ahd a)) a) (ahd a) k with e | e
      · rw [e]; exact h2 k hk
      · rw [e]; exact fun q => hx q.symm
    unfold findN
    split
    · exact ⟨k1, k2, fun f h => by cases h; exact h1.1⟩
    · exact ih _ k1 k2
/-- how far the hand is from a frame -/
def far (F h f : Nat) : Nat := if h ≤ f then f - h else f + F - h
theorem findN_some {g : GE} (hg : gok g) {f0 : Nat} (hf0 : f0 < geF g) : ∀ (n : Nat) (a : AS), ahd a < geF g → apn a f0 = 0 → far (geF g) (ahd a) f0 + (if amk a f0 = 0 then 0 else geF g) < n → ∃ f, (findN g n a).2 = some f := by
  intro n
  induction n with
  | zero => intro a _ _ h; omega
  | succ n ih =>
    intro a hh hp hm
    unfold findN
    split
    · exact ⟨_, rfl⟩
    · rename_i hnf
      have hF := hg.1
      have far_nx : ahd a ≠ f0 → far (geF g) (nx g (ahd a)) f0 + 1 = far (geF g) (ahd a) f0 := by
        intro hne
        unfold far nx
        split <;> split <;> split <;> omega
      have far_nx0 : ahd a = f0 → far (geF g) (nx g (ahd a)) f0 + 1 = geF g := by
        intro e
        unfold far nx
        split <;> split <;> omega
      revert hnf
      unfold gw
      split
      · rename_i h1
        intro _
        have hne : ahd a ≠ f0 := fun e => by rw [e] at h1; change 0 < apn a f0 at h1; omega
        have := far_nx hne
        exact ih _ (nx_lt hg _) hp (by show far (geF g) (nx g (ahd a)) f0 + (if amk a f0 = 0 then 0 else geF g) < n; omega)
      · split
        · intro h; exact absurd rfl h
        · split
          · intro h; exact absurd rfl h
          · rename_i h3
            intro _
            refine ih _ (nx_lt hg _) hp ?_
            show far (geF g) (nx g (ahd a)) f0 + (if upd (amk a) (ahd a) (nI 0) f0 = 0 then 0 else geF g) < n
            by_cases e : ahd a = f0
            · have := far_nx0 e
              subst e
              rw [pk_us, if_pos nI_0]
              have h3' : ¬ amk a (ahd a) = 0 := h3
              rw [if_neg h3'] at hm
              omega
            · rw [pk_un (fun q => e q.symm)]
              have := far_nx e
              omega
theorem findN_found {g : GE} {N : Nat} {a : AS} (hg : gok g) (h : Iv g N a) (hc : cnt (apn a) (geF g) ≠ geF g) : ∃ f, (findN g (2 * geF g) a).2 = some f := by
  obtain ⟨f0, h1, h2⟩ := cnt_lt hc
  refine findN_some hg h1 _ a h.1 h2 ?_
  have := h.1
  unfold far
  split <;> split <;> omega
/-- a frame is looked for -/
def spFind (g : GE) (a : AS) : AS × Option Nat := if cnt (apn a) (geF g) = geF g then (a, none) else findN g (2 * geF g) a
def onI (d : Int32) (o : Option Nat) : Int32 := match o with
  | none => d
  | some f => nI f
noncomputable def spFetch (g : GE) (a : AS) (x : Int32) : Int32 × AS := pIf (vp_in x (geP g)) (match fop g a x with
  | some f => (nI f, oPin f a)
  | none => match (spFind g a).2 with
    | some f => (nI f, oPin f (oRead f x.toNatClampNeg (spFind g a).1))
    | none => (-1, (spFind g a).1)) (-2, a)
noncomputable def spUnpin (g : GE) (a : AS) (x : Int32) : Int32 × AS := pIf (vp_in x (geF g) ∧ 0 < apn a x.toNatClampNeg) (nI (apn a x.toNatClampNeg - 1), oUnpin x.toNatClampNeg a) (-3, a)
noncomputable def spReadW (g : GE) (a : AS) (x o : Int32) : Int32 := pIf ((vp_in x (geF g) ∧ 0 < apn a x.toNatClampNeg) ∧ vp_in o (geW g)) (amm a x.toNatClampNeg o.toNatClampNeg) (nI 0)
noncomputable def spWriteW (g : GE) (a : AS) (x o w : Int32) : Int32 × AS := pIf (vp_in x (geF g) ∧ 0 < apn a x.toNatClampNeg) (pIf (vp_in o (geW g)) (nI 0, oRow x.toNatClampNeg (upd (amm a x.toNatClampNeg) o.toNatClampNeg w) a) (-4, a)) (-3, a)
noncomputable def spFlush (g : GE) (a : AS) (x : Int32) : Int32 × AS := match fop g a x with
  | some f => if adt a f = 0 then (nI 0, a) else (nI 1, oStore f (apg a f).toNatClampNeg a)
  | none => (nI 0, a)
def faN : Nat → Nat → Nat → AS → Nat × AS
  | 0, _, c, a => (c, a)
  | n + 1, k, c, a => if adt a k = 0 then faN n (k + 1) c a else faN n (k + 1) (c + 1) (oStore k (apg a k).toNatClampNeg a)
noncomputable def spDrop (g : GE) (a : AS) (x : Int32) : Int32 × AS := match fop g a x with
  | some f => if 0 < apn a f then (nI 0, a) else (nI 1, oEmpty f a)
  | none => (nI 0, a)
noncomputable def spCopy (g : GE) (a : AS) (x y : Int32) : Int32 × AS := pIf (vp_in x (geP g) ∧ vp_in y (geP g)) (match fop g a x with
  | none => (-3, a)
  | some f => if 0 < apn a f then (nI 0, oRow f (match fop g a y with
    | none => adk a y.toNatClampNeg
    | some h => amm a h) a) else (-3, a)) (-2, a)
noncomputable def spDiskW (g : GE) (a : AS) (x o : Int32) : Int32 := pIf (vp_in x (geP g) ∧ vp_in o (geW g)) (adk a x.toNatClampNeg o.toNatClampNeg) (nI 0)
noncomputable def spRes (g : GE) (a : AS) (x : Int32) : Int32 := match fop g a x with
  | some _ => nI 1
  | none => nI 0
noncomputable def spTold (g : GE) (a : AS) (x w : Int32) : Int32 := pIf (vp_in x (geF g)) (if w = nI 0 then apg a x.toNatClampNeg else if w = nI 1 then nI (apn a x.toNatClampNeg) else if w = nI 2 then (if adt a x.toNatClampNeg = 0 then nI 0 else nI 1) else if w = nI 3 then (if amk a x.toNatClampNeg = 0 then nI 0 else nI 1) else -5) (-5)
end
section
/-! ===== the words case by case ===== -/
abbrev bP (r : Int32) (c : Prop) : Prop := (r = nI 1 ∧ c) ∨ (r = nI 0 ∧ ¬ c)
def bI (b : Bool) : Int32 := if b = true then nI 1 else nI 0
theorem gokB {g : GE} (h : gok g) : geF g < 2 ^ 31 ∧ geP g < 2 ^ 31 ∧ geW g < 2 ^ 31 ∧ gn3 g < 2 ^ 31 ∧ gn4 g < 2 ^ 31 ∧ gn5 g < 2 ^ 31 ∧ geF g ≤ gn5 g := by
  obtain ⟨h1, h2, h3, h4, h5, h6, h7, h8, h9, h10, h11, h12, h13⟩ := h
  refine ⟨by omega, by omega, by omega, by omega, by omega, by omega, h10⟩
theorem mul_lt_of {p P s o W n : Nat} (hp : p < P) (ho : o < W) (hW : W ≤ s) (hn : P * s ≤ n) : p * s + o < n := by
  have : (p + 1) * s ≤ P * s := Nat.mul_le_mul_right s hp
  rw [Nat.succ_mul] at this
  omega
theorem mul_le_of {p P s W n : Nat} (hp : p < P) (hW : W ≤ s) (hn : P * s ≤ n) : p * s + W ≤ n := by
  have : (p + 1) * s ≤ P * s := Nat.mul_le_mul_right s hp
  rw [Nat.succ_mul] at this
  omega
theorem lt3 {g : GE} {p o K : Nat} (hg : gok g) (hp : p < geP g) (ho : o < geW g) (hK : K = p * geS g + o) : K < gn3 g := by
  subst hK
  exact mul_lt_of hp ho hg.2.2.2.2.2.2.1 hg.2.2.2.2.2.2.2.1
theorem lt4 {g : GE} {p o K : Nat} (hg : gok g) (hp : p < geF g) (ho : o < geW g) (hK : K = p * geS g + o) : K < gn4 g := by
  subst hK
  exact mul_lt_of hp ho hg.2.2.2.2.2.2.1 hg.2.2.2.2.2.2.2.2.1
theorem le3 {g : GE} {p : Nat} (hg : gok g) (hp : p < geP g) : p * geS g + geW g ≤ gn3 g := mul_le_of hp hg.2.2.2.2.2.2.1 hg.2.2.2.2.2.2.2.1
theorem le4 {g : GE} {p : Nat} (hg : gok g) (hp : p < geF g) : p * geS g + geW g ≤ gn4 g := mul_le_of hp hg.2.2.2.2.2.2.1 hg.2.2.2.2.2.2.2.2.1
theorem rd3 {g : GE} {N : Nat} {a : AS} {u : CS} {p o K : Nat} (h : Rep g N a u) (hp : p < geP g) (ho : o < geW g) (hK : K = p * geS g + o) : cs3 u K = adk a p o := by
  subst hK
  exact h.2.2.1.1 p hp o ho
theorem rd4 {g : GE} {N : Nat} {a : AS} {u : CS} {p o K : Nat} (h : Rep g N a u) (hp : p < geF g) (ho : o < geW g) (hK : K = p * geS g + o) : cs4 u K = amm a p o := by
  subst hK
  exact h.2.2.1.2.1 p hp o ho
theorem Rep_more {g : GE} {N : Nat} {a : AS} {u : CS} (hN : N + 1 < 2 ^ 20) (h : Rep g N a u) : Rep g (N + 1) a u := ⟨h.1, hN, h.2.2.1, Iv_more h.2.2.2⟩
theorem pn31 {g : GE} {N : Nat} {a : AS} {u : CS} {k : Nat} (h : Rep g N a u) (hk : k < geF g) : apn a k + 1 < 2 ^ 31 := by
  have := h.2.2.2.2.2.2.2 k hk
  have := h.2.1
  omega
theorem pn_pg {g : GE} {N : Nat} {a : AS} {k : Nat} (h : Iv g N a) (hk : k < geF g) (h0 : 0 < apn a k) : apg a k ≠ -1 := fun e => by
  have := (h.2.2.2.1 k hk e).1
  omega
theorem dt_pg {g : GE} {N : Nat} {a : AS} {k : Nat} (h : Iv g N a) (hk : k < geF g) (h0 : ¬ adt a k = 0) : ∃ p, p < geP g ∧ apg a k = nI p := by
  rcases h.2.1 k hk with e | e
  · exact absurd ((h.2.2.2.1 k hk e).2.1.trans nI_0) h0
  · exact e
/-- what a method answers that looks for a page's frame -/
def foP (g : GE) (a : AS) (x d r : Int32) : Prop := (∃ f p, f < geF g ∧ p < geP g ∧ x = nI p ∧ r = nI f ∧ apg a f = nI p ∧ fop g a x = some f) ∨ (r = d ∧ fop g a x = none)
theorem fop_no {g : GE} {a : AS} {x : Int32} (h : fop g a x = none) (hx : vp_in x (geP g)) : ∀ f, f < geF g → apg a f ≠ x := by
  intro f hf e
  unfold fop at h
  rw [pIf_t hx] at h
  unfold fnd at h
  rw [dif_pos ⟨f, hf, e⟩] at h
  cases h
theorem fop_out {g : GE} {a : AS} {x : Int32} (h : ¬ vp_in x (geP g)) : fop g a x = none := pIf_f h _ _
theorem gw_pin {a : AS} {f : Nat} (h : 0 < apn a f) : gw f a = (false, a) := if_pos h
theorem gw_emp {a : AS} {f : Nat} (h : ¬ 0 < apn a f) (h2 : apg a f = -1) : gw f a = (true, a) := by unfold gw; rw [if_neg h, if_pos h2]
theorem gw_mk {a : AS} {f : Nat} (h : ¬ 0 < apn a f) (h2 : ¬ apg a f = -1) (h3 : ¬ amk a f = 0) : gw f a = (false, oMark f (nI 0) a) := by unfold gw; rw [if_neg h, if_neg h2, if_neg h3]
theorem gw_clean {a : AS} {f : Nat} (h : ¬ 0 < apn a f) (h2 : ¬ apg a f = -1) (h3 : amk a f = 0) (h4 : adt a f = 0) : gw f a = (true, oEmpty f a) := by unfold gw; rw [if_neg h, if_neg h2, if_pos h3, if_pos h4]
theorem gw_dirty {a : AS} {f p : Nat} (hp : p < 2 ^ 31) (h : ¬ 0 < apn a f) (h2 : ¬ apg a f = -1) (h3 : amk a f = 0) (h4 : ¬ adt a f = 0) (h5 : apg a f = nI p) : gw f a = (true, oEmpty f (oStore f p a)) := by unfold gw; rw [if_neg h, if_neg h2, if_pos h3, if_neg h4, h5, nI_clamp hp]
theorem findN_t {g : GE} {n : Nat} {a : AS} (h : (gw (ahd a) (oHand (nx g (ahd a)) a)).1 = true) : findN g (n + 1) a = ((gw (ahd a) (oHand (nx g (ahd a)) a)).2, some (ahd a)) := by
  rw [findN, if_pos h]
theorem findN_f {g : GE} {n : Nat} {a : AS} (h : (gw (ahd a) (oHand (nx g (ahd a)) a)).1 = false) : findN g (n + 1) a = findN g n (gw (ahd a) (oHand (nx g (ahd a)) a)).2 := by
  rw [findN, if_neg (by rw [h]; decide)]
theorem spFind_all {g : GE} {a : AS} (h : cnt (apn a) (geF g) = geF g) : spFind g a = (a, none) := if_pos h
theorem spFind_go {g : GE} {a : AS} (h : ¬ cnt (apn a) (geF g) = geF g) : spFind g a = findN g (2 * geF g) a := if_neg h
theorem spFind_ok {g : GE} {N : Nat} {a : AS} {x : Int32} (hg : gok g) (hx : x ≠ -1) (h1 : Iv g N a) (h2 : ∀ k, k < geF g → apg a k ≠ x) : (∀ k, k < geF g → apg (spFind g a).1 k ≠ x) ∧ ∀ f, (spFind g a).2 = some f → f < geF g := by
  unfold spFind
  split
  · exact ⟨h2, fun f h => by cases h⟩
  · exact (findN_ok hg x hx (2 * geF g) a h1 h2).2
theorem spFetch_bad {g : GE} {a : AS} {x : Int32} (h : ¬ vp_in x (geP g)) : spFetch g a x = (-2, a) := pIf_f h _ _
theorem spFetch_hit {g : GE} {a : AS} {x : Int32} {f : Nat} (h : vp_in x (geP g)) (h1 : fop g a x = some f) : spFetch g a x = (nI f, oPin f a) := by unfold spFetch; rw [pIf_t h, h1]
theorem spFetch_all {g : GE} {a : AS} {x : Int32} (h : vp_in x (geP g)) (h1 : fop g a x = none) (h2 : (spFind g a).2 = none) : spFetch g a x = (-1, (spFind g a).1) := by unfold spFetch; rw [pIf_t h, h1]; dsimp only; rw [h2]
theorem spFetch_new {g : GE} {a : AS} {p f : Nat} (hp : p < 2 ^ 31) (h : vp_in (nI p) (geP g)) (h1 : fop g a (nI p) = none) (h2 : (spFind g a).2 = some f) : spFetch g a (nI p) = (nI f, oPin f (oRead f p (spFind g a).1)) := by unfold spFetch; rw [pIf_t h, h1]; dsimp only; rw [h2, nI_clamp hp]
theorem spUnpin_f {g : GE} {a : AS} {x : Int32} (h : ¬ (vp_in x (geF g) ∧ 0 < apn a x.toNatClampNeg)) : spUnpin g a x = (-3, a) := pIf_f h _ _
theorem spUnpin_t {g : GE} {a : AS} {k : Nat} (hk : k < 2 ^ 31) (h : vp_in (nI k) (geF g)) (h0 : 0 < apn a k) : spUnpin g a (nI k) = (nI (apn a k - 1), oUnpin k a) := by
  unfold spUnpin; rw [nI_clamp hk]; exact pIf_t ⟨h, h0⟩ _ _
theorem spReadW_t {g : GE} {a : AS} {k j : Nat} (hk : k < 2 ^ 31) (hj : j < 2 ^ 31) (h : vp_in (nI k) (geF g)) (h0 : 0 < apn a k) (h1 : vp_in (nI j) (geW g)) : spReadW g a (nI k) (nI j) = amm a k j := by
  unfold spReadW; rw [nI_clamp hk, nI_clamp hj]; exact pIf_t ⟨⟨h, h0⟩, h1⟩ _ _
theorem spReadW_f {g : GE} {a : AS} {x o : Int32} (h : ¬ ((vp_in x (geF g) ∧ 0 < apn a x.toNatClampNeg) ∧ vp_in o (geW g))) : spReadW g a x o = nI 0 := pIf_f h _ _
theorem spWriteW_f {g : GE} {a : AS} {x o w : Int32} (h : ¬ (vp_in x (geF g) ∧ 0 < apn a x.toNatClampNeg)) : spWriteW g a x o w = (-3, a) := pIf_f h _ _
theorem spWriteW_o {g : GE} {a : AS} {x o w : Int32} (h : vp_in x (geF g) ∧ 0 < apn a x.toNatClampNeg) (h1 : ¬ vp_in o (geW g)) : spWriteW g a x o w = (-4, a) := by unfold spWriteW; rw [pIf_t h, pIf_f h1]
theorem spWriteW_t {g : GE} {a : AS} {k j : Nat} {w : Int32} (hk : k < 2 ^ 31) (hj : j < 2 ^ 31) (h : vp_in (nI k) (geF g)) (h0 : 0 < apn a k) (h1 : vp_in (nI j) (geW g)) : spWriteW g a (nI k) (nI j) w = (nI 0, oRow k (upd (amm a k) j w) a) := by
  unfold spWriteW; rw [nI_clamp hk, nI_clamp hj, pIf_t ⟨h, h0⟩, pIf_t h1]
theorem spFlush_no {g : GE} {a : AS} {x : Int32} (h : fop g a x = none) : spFlush g a x = (nI 0, a) := by unfold spFlush; rw [h]
theorem spFlush_0 {g : GE} {a : AS} {x : Int32} {f : Nat} (h : fop g a x = some f) (h1 : adt a f = 0) : spFlush g a x = (nI 0, a) := by unfold spFlush; rw [h]; exact if_pos h1
theorem spFlush_1 {g : GE} {a : AS} {x : Int32} {f p : Nat} (hp : p < 2 ^ 31) (h : fop g a x = some f) (h1 : ¬ adt a f = 0) (h2 : apg a f = nI p) : spFlush g a x = (nI 1, oStore f p a) := by unfold spFlush; rw [h]; dsimp only; rw [if_neg h1, h2, nI_clamp hp]
theorem faN_0 {n k c : Nat} {a : AS} (h : adt a k = 0) : faN (n + 1) k c a = faN n (k + 1) c a := by rw [faN, if_pos h]
theorem faN_1 {n k c p : Nat} {a : AS} (hp : p < 2 ^ 31) (h : ¬ adt a k = 0) (h2 : apg a k = nI p) : faN (n + 1) k c a = faN n (k + 1) (c + 1) (oStore k p a) := by rw [faN, if_neg h, h2, nI_clamp hp]
theorem spDrop_no {g : GE} {a : AS} {x : Int32} (h : fop g a x = none) : spDrop g a x = (nI 0, a) := by unfold spDrop; rw [h]
theorem spDrop_0 {g : GE} {a : AS} {x : Int32} {f : Nat} (h : fop g a x = some f) (h1 : 0 < apn a f) : spDrop g a x = (nI 0, a) := by unfold spDrop; rw [h]; exact if_pos h1
theorem spDrop_1 {g : GE} {a : AS} {x : Int32} {f : Nat} (h : fop g a x = some f) (h1 : ¬ 0 < apn a f) : spDrop g a x = (nI 1, oEmpty f a) := by unfold spDrop; rw [h]; exact if_neg h1
theorem spCopy_bad {g : GE} {a : AS} {x y : Int32} (h : ¬ (vp_in x (geP g) ∧ vp_in y (geP g))) : spCopy g a x y = (-2, a) := pIf_f h _ _
theorem spCopy_no {g : GE} {a : AS} {x y : Int32} (h : vp_in x (geP g) ∧ vp_in y (geP g)) (h1 : fop g a x = none) : spCopy g a x y = (-3, a) := by unfold spCopy; rw [pIf_t h, h1]
theorem spCopy_up {g : GE} {a : AS} {x y : Int32} {f : Nat} (h : vp_in x (geP g) ∧ vp_in y (geP g)) (h1 : fop g a x = some f) (h2 : ¬ 0 < apn a f) : spCopy g a x y = (-3, a) := by unfold spCopy; rw [pIf_t h, h1]; exact if_neg h2
theorem spCopy_d {g : GE} {a : AS} {x : Int32} {q f : Nat} (hq : q < 2 ^ 31) (h : vp_in x (geP g) ∧ vp_in (nI q) (geP g)) (h1 : fop g a x = some f) (h2 : 0 < apn a f) (h3 : fop g a (nI q) = none) : spCopy g a x (nI q) = (nI 0, oRow f (adk a q) a) := by unfold spCopy; rw [pIf_t h, h1]; dsimp only; rw [if_pos h2, h3, nI_clamp hq]
theorem spCopy_m {g : GE} {a : AS} {x y : Int32} {f k : Nat} (h : vp_in x (geP g) ∧ vp_in y (geP g)) (h1 : fop g a x = some f) (h2 : 0 < apn a f) (h3 : fop g a y = some k) : spCopy g a x y = (nI 0, oRow f (amm a k) a) := by unfold spCopy; rw [pIf_t h, h1]; dsimp only; rw [if_pos h2, h3]
theorem spDiskW_t {g : GE} {a : AS} {k j : Nat} (hk : k < 2 ^ 31) (hj : j < 2 ^ 31) (h : vp_in (nI k) (geP g)) (h1 : vp_in (nI j) (geW g)) : spDiskW g a (nI k) (nI j) = adk a k j := by
  unfold spDiskW; rw [nI_clamp hk, nI_clamp hj]; exact pIf_t ⟨h, h1⟩ _ _
theorem spDiskW_f {g : GE} {a : AS} {x o : Int32} (h : ¬ (vp_in x (geP g) ∧ vp_in o (geW g))) : spDiskW g a x o = nI 0 := pIf_f h _ _
theorem spRes_1 {g : GE} {a : AS} {x : Int32} {f : Nat} (h : fop g a x = some f) : spRes g a x = nI 1 := by unfold spRes; rw [h]
theorem spRes_0 {g : GE} {a : AS} {x : Int32} (h : fop g a x = none) : spRes g a x = nI 0 := by unfold spRes; rw [h]
theorem spTold_f {g : GE} {a : AS} {x w : Int32} (h : ¬ vp_in x (geF g)) : spTold g a x w = -5 := pIf_f h _ _
theorem spTold_t {g : GE} {a : AS} {k : Nat} {w : Int32} (hk : k < 2 ^ 31) (h : vp_in (nI k) (geF g)) : spTold g a (nI k) w = (if w = nI 0 then apg a k else if w = nI 1 then nI (apn a k) else if w = nI 2 then (if adt a k = 0 then nI 0 else nI 1) else if w = nI 3 then (if amk a k = 0 then nI 0 else nI 1) else -5) := by
  unfold spTold; rw [pIf_t h, nI_clamp hk]
theorem nx_t {g : GE} {h : Nat} (q : h + 1 < geF g) : nx g h = h + 1 := if_pos q
theorem nx_f {g : GE} {h : Nat} (q : ¬ h + 1 < geF g) : nx g h = 0 := if_neg q
theorem cnt_1 {pn : Nat → Nat} {n : Nat} (h : 0 < pn n) : cnt pn (n + 1) = cnt pn n + 1 := by rw [cnt, if_pos h]
theorem cnt_0 {pn : Nat → Nat} {n : Nat} (h : ¬ 0 < pn n) : cnt pn (n + 1) = cnt pn n := by rw [cnt, if_neg h]; rfl
/-- behind init() -/
def iniP (g : GE) (n : Nat) (u u1 : CS) : Prop := cs4 u1 = cs4 u ∧ (∀ j, j < gn3 g → cs3 u1 j = nI 0) ∧ (∀ f, f < n → cs5 u1 f = -1 ∧ cs6 u1 f = nI 0 ∧ cs7 u1 f = nI 0 ∧ cs8 u1 f = nI 0) ∧ csh u1 = nI 0 ∧ csr u1 = nI 0 ∧ csw u1 = nI 0
theorem ini_Rep {g : GE} {n N : Nat} {a : AS} {u u1 : CS} (hg : gok g) (hn : geF g ≤ n) (hN : N < 2 ^ 20) (h4 : ∀ f, f < geF g → ∀ o, o < geW g → cs4 u (f * geS g + o) = amm a f o) (h : iniP g n u u1) : Rep g N (oInit a) u1 := by
  obtain ⟨q4, q3, q5, q9, q10, q11⟩ := h
  refine ⟨hg, hN, ⟨fun p hp o ho => q3 _ (lt3 hg hp ho rfl), fun f hf o ho => by rw [q4]; exact h4 f hf o ho, fun f hf => (q5 f (by omega)).1, fun f hf => (q5 f (by omega)).2.1, fun f hf => (q5 f (by omega)).2.2.1, fun f hf => (q5 f (by omega)).2.2.2, q9, q10, q11⟩, Iv_init N hg⟩
end
section
/-! ===== FramePool: the methods that only look ===== -/
set_option maxHeartbeats 4000000 in
set_option maxRecDepth 100000 in
theorem kX0_isPage (l : Launch) (dC : Nat → ClassId) (dI : Nat → Nat → Nat) {g : GE} (hg : gok g) (u : CS) (x : Int32) : zMI l yX0_isPage wsX0_isPage ({ frames := 0, cells := 0, slots := 0, locals := 0 }) dC dI 0 g u [.int (x)] (fun r u1 => u = u1 ∧ bP r (vp_in x (geP g))) := by
  refine zMI_of (cc := cX0_isPage) (maxL := 2) (ret := (some .boolean)) (by decide) rfl (Nat.le_of_ble_eq_true rfl) ?_
  intro p e s m below meth c A ls Z Y hl
  have hin : ∀ w ∈ wsX00, w ∈ wsX0_isPage := fun w h => List.mem_cons_of_mem _ (List.mem_append_right _ h)
  obtain ⟨hx, hb, hml, hown, hts, hr, hlk⟩ := id Z
  have L17 := hts (.fieldLink RX0 17 "FramePool" "pageCount" "I") (by decide +kernel)
  have hl : lv_has ls 2 [(0, .ref (ga0 g)), (1, .int (x))] := hl
  have hn : geP g < 2 ^ 31 := (gokB hg).2.1
  refine lv_iload_n hx hb dX0_isPage_0 rfl (lv_at hl 1 rfl) ?_
  refine lv_if_lt (tgt := 16) hx hb dX0_isPage_1 (by decide) (fun c1 => ?_) (fun c1 => ?_)
  · refine lv_iconst (v := nI (0)) hx hb dX0_isPage_16 (by decide) ?_
    exact z_ret (v := nI (0)) (u := u) Z Y (rfl) (⟨rfl, Or.inr ⟨rfl, not_in_neg c1⟩⟩) dX0_isPage_17
  · refine lv_iload_n hx hb dX0_isPage_4 rfl (lv_at hl 1 rfl) ?_
    refine lv_aload_n hx hb dX0_isPage_5 rfl (lv_at hl 0 rfl) ?_
    refine z_get (T := TX0) (v := .int (nI (geP g))) Z hin rfl Y 1 (by decide) L17 rfl rfl dX0_isPage_6 ?_
    refine lv_icmp_ge (tgt := 16) hx hb dX0_isPage_9 (by decide) (fun c9 => ?_) (fun c9 => ?_)
    · refine lv_iconst (v := nI (0)) hx hb dX0_isPage_16 (by decide) ?_
      exact z_ret (v := nI (0)) (u := u) Z Y (rfl) (⟨rfl, Or.inr ⟨rfl, not_in_ge hn c9⟩⟩) dX0_isPage_17
    · refine lv_iconst (v := nI (1)) hx hb dX0_isPage_12 (by decide) ?_
      refine lv_goto (tgt := 17) hx hb dX0_isPage_13 (by decide) ?_
      exact z_ret (v := nI (1)) (u := u) Z Y (rfl) (⟨rfl, Or.inl ⟨rfl, (in_iff hn).mpr ⟨i_le_of c1, i_lt_of c9⟩⟩⟩) dX0_isPage_17

set_option maxHeartbeats 4000000 in
set_option maxRecDepth 100000 in
theorem kX0_isOffset (l : Launch) (dC : Nat → ClassId) (dI : Nat → Nat → Nat) {g : GE} (hg : gok g) (u : CS) (x : Int32) : zMI l yX0_isOffset wsX0_isOffset ({ frames := 0, cells := 0, slots := 0, locals := 0 }) dC dI 0 g u [.int (x)] (fun r u1 => u = u1 ∧ bP r (vp_in x (geW g))) := by
  refine zMI_of (cc := cX0_isOffset) (maxL := 2) (ret := (some .boolean)) (by decide) rfl (Nat.le_of_ble_eq_true rfl) ?_
  intro p e s m below meth c A ls Z Y hl
  have hin : ∀ w ∈ wsX00, w ∈ wsX0_isOffset := fun w h => List.mem_cons_of_mem _ (List.mem_append_right _ h)
  obtain ⟨hx, hb, hml, hown, hts, hr, hlk⟩ := id Z
  have L20 := hts (.fieldLink RX0 20 "FramePool" "wordCount" "I") (by decide +kernel)
  have hl : lv_has ls 2 [(0, .ref (ga0 g)), (1, .int (x))] := hl
  have hn : geW g < 2 ^ 31 := (gokB hg).2.2.1
  refine lv_iload_n hx hb dX0_isOffset_0 rfl (lv_at hl 1 rfl) ?_
  refine lv_if_lt (tgt := 16) hx hb dX0_isOffset_1 (by decide) (fun c1 => ?_) (fun c1 => ?_)
  · refine lv_iconst (v := nI (0)) hx hb dX0_isOffset_16 (by decide) ?_
    exact z_ret (v := nI (0)) (u := u) Z Y (rfl) (⟨rfl, Or.inr ⟨rfl, not_in_neg c1⟩⟩) dX0_isOffset_17
  · refine lv_iload_n hx hb dX0_isOffset_4 rfl (lv_at hl 1 rfl) ?_
    refine lv_aload_n hx hb dX0_isOffset_5 rfl (lv_at hl 0 rfl) ?_
    refine z_get (T := TX0) (v := .int (nI (geW g))) Z hin rfl Y 2 (by decide) L20 rfl rfl dX0_isOffset_6 ?_
    refine lv_icmp_ge (tgt := 16) hx hb dX0_isOffset_9 (by decide) (fun c9 => ?_) (fun c9 => ?_)
    · refine lv_iconst (v := nI (0)) hx hb dX0_isOffset_16 (by decide) ?_
      exact z_ret (v := nI (0)) (u := u) Z Y (rfl) (⟨rfl, Or.inr ⟨rfl, not_in_ge hn c9⟩⟩) dX0_isOffset_17
    · refine lv_iconst (v := nI (1)) hx hb dX0_isOffset_12 (by decide) ?_
      refine lv_goto (tgt := 17) hx hb dX0_isOffset_13 (by decide) ?_
      exact z_ret (v := nI (1)) (u := u) Z Y (rfl) (⟨rfl, Or.inl ⟨rfl, (in_iff hn).mpr ⟨i_le_of c1, i_lt_of c9⟩⟩⟩) dX0_isOffset_17

set_option maxHeartbeats 4000000 in
set_option maxRecDepth 100000 in
theorem kX0_isFrame (l : Launch) (dC : Nat → ClassId) (dI : Nat → Nat → Nat) {g : GE} (hg : gok g) (u : CS) (x : Int32) : zMI l yX0_isFrame wsX0_isFrame ({ frames := 0, cells := 0, slots := 0, locals := 0 }) dC dI 0 g u [.int (x)] (fun r u1 => u = u1 ∧ bP r (vp_in x (geF g))) := by
  refine zMI_of (cc := cX0_isFrame) (maxL := 2) (ret := (some .boolean)) (by decide) rfl (Nat.le_of_ble_eq_true rfl) ?_
  intro p e s m below meth c A ls Z Y hl
  have hin : ∀ w ∈ wsX00, w ∈ wsX0_isFrame := fun w h => List.mem_cons_of_mem _ (List.mem_append_right _ h)
  obtain ⟨hx, hb, hml, hown, hts, hr, hlk⟩ := id Z
  have L13 := hts (.fieldLink RX0 13 "FramePool" "frameCount" "I") (by decide +kernel)
  have hl : lv_has ls 2 [(0, .ref (ga0 g)), (1, .int (x))] := hl
  have hn : geF g < 2 ^ 31 := (gokB hg).1
  refine lv_iload_n hx hb dX0_isFrame_0 rfl (lv_at hl 1 rfl) ?_
  refine lv_if_lt (tgt := 16) hx hb dX0_isFrame_1 (by decide) (fun c1 => ?_) (fun c1 => ?_)
  · refine lv_iconst (v := nI (0)) hx hb dX0_isFrame_16 (by decide) ?_
    exact z_ret (v := nI (0)) (u := u) Z Y (rfl) (⟨rfl, Or.inr ⟨rfl, not_in_neg c1⟩⟩) dX0_isFrame_17
  · refine lv_iload_n hx hb dX0_isFrame_4 rfl (lv_at hl 1 rfl) ?_
    refine lv_aload_n hx hb dX0_isFrame_5 rfl (lv_at hl 0 rfl) ?_
    refine z_get (T := TX0) (v := .int (nI (geF g))) Z hin rfl Y 0 (by decide) L13 rfl rfl dX0_isFrame_6 ?_
    refine lv_icmp_ge (tgt := 16) hx hb dX0_isFrame_9 (by decide) (fun c9 => ?_) (fun c9 => ?_)
    · refine lv_iconst (v := nI (0)) hx hb dX0_isFrame_16 (by decide) ?_
      exact z_ret (v := nI (0)) (u := u) Z Y (rfl) (⟨rfl, Or.inr ⟨rfl, not_in_ge hn c9⟩⟩) dX0_isFrame_17
    · refine lv_iconst (v := nI (1)) hx hb dX0_isFrame_12 (by decide) ?_
      refine lv_goto (tgt := 17) hx hb dX0_isFrame_13 (by decide) ?_
      exact z_ret (v := nI (1)) (u := u) Z Y (rfl) (⟨rfl, Or.inl ⟨rfl, (in_iff hn).mpr ⟨i_le_of c1, i_lt_of c9⟩⟩⟩) dX0_isFrame_17

set_option maxHeartbeats 4000000 in
set_option maxRecDepth 100000 in
theorem kX0_isPinnedFrame (l : Launch) (dC : Nat → ClassId) (dI : Nat → Nat → Nat) {g : GE} {N : Nat} {a : AS} {u : CS} (hR : Rep g N a u) (x : Int32) : zMI l yX0_isPinnedFrame wsX0_isPinnedFrame ({ frames := 1, cells := 0, slots := 0, locals := 21 }) dC dI 0 g u [.int (x)] (fun r u1 => u = u1 ∧ bP r (vp_in x (geF g) ∧ 0 < apn a x.toNatClampNeg)) := by
  refine zMI_of (cc := cX0_isPinnedFrame) (maxL := 2) (ret := (some .boolean)) (by decide) rfl (Nat.le_of_ble_eq_true rfl) ?_
  intro p e s m below meth c A ls Z Y hl
  have hin : ∀ w ∈ wsX00, w ∈ wsX0_isPinnedFrame := fun w h => List.mem_cons_of_mem _ (List.mem_append_right _ h)
  obtain ⟨hx, hb, hml, hown, hts, hr, hlk⟩ := id Z
  have L33 := hts (.fieldLink RX0 33 "FramePool" "pins" "[I") (by decide +kernel)
  have hl : lv_has ls 2 [(0, .ref (ga0 g)), (1, .int (x))] := hl
  have hg := hR.1
  have hN := hR.2.1
  obtain ⟨b1, b2, b3, b4, b5, b6, b7⟩ := gokB hg
  obtain ⟨r3, r4, r5, r6, r7, r8, r9, r10, r11⟩ := id hR.2.2.1
  obtain ⟨i1, i2, i3, i4, i5⟩ := id hR.2.2.2
  refine lv_aload_n hx hb dX0_isPinnedFrame_0 rfl (lv_at hl 0 rfl) ?_
  refine lv_iload_n hx hb dX0_isPinnedFrame_1 rfl (lv_at hl 1 rfl) ?_
  refine z_callI (rest := []) Z Y rfl (kX0_isFrame l dC dI hg u x) (cwV 1 hts gX0_isPinnedFrame_X0_isFrame rfl rfl rfl (by decide +kernel) ⟨Nat.le_of_ble_eq_true rfl, Nat.le_of_ble_eq_true rfl⟩) rfl hl.1 rfl (Nat.le_of_ble_eq_true rfl) dX0_isPinnedFrame_2 ⟨Nat.zero_le _, Nat.zero_le _⟩ (fun r2 u2 Hq lq hw Y => ?_)
  obtain ⟨rfl, hw⟩ := hw
  rcases hw with ⟨rfl, hw2⟩ | ⟨rfl, hw2⟩
  · obtain ⟨k, hk, rfl⟩ := vp_in_of hw2 b1
    refine lv_if_eq (tgt := 21) hx hb dX0_isPinnedFrame_5 (by decide) (fun c5 => absurd c5 (by decide)) (fun _ => ?_)
    refine lv_aload_n hx hb dX0_isPinnedFrame_8 rfl (lv_at hl 0 rfl) ?_
    refine z_get (T := TX0) (v := .ref (ga6 g)) Z hin rfl Y 6 (by decide) L33 rfl rfl dX0_isPinnedFrame_9 ?_
    refine lv_iload_n hx hb dX0_isPinnedFrame_12 rfl (lv_at hl 1 rfl) ?_
    refine z_ld6 Z Y (k) (rfl) (by omega) (by omega) dX0_isPinnedFrame_13 ?_
    refine z_top (nI (apn a k)) (r6 k hk) ?_
    have hk31 : k < 2 ^ 31 := by omega
    have hb6 : apn a k < 2 ^ 31 := by have := pn31 hR hk; omega
    refine lv_if_le (tgt := 21) hx hb dX0_isPinnedFrame_14 (by decide) (fun c14 => ?_) (fun c14 => ?_)
    · refine lv_iconst (v := nI (0)) hx hb dX0_isPinnedFrame_21 (by decide) ?_
      exact z_ret (v := nI (0)) (u := u) Z Y (rfl) (⟨rfl, Or.inr ⟨rfl, fun q => by have := (nI_le0 hb6).mp c14; have := q.2; rw [nI_clamp hk31] at this; omega⟩⟩) dX0_isPinnedFrame_22
    · refine lv_iconst (v := nI (1)) hx hb dX0_isPinnedFrame_17 (by decide) ?_
      refine lv_goto (tgt := 22) hx hb dX0_isPinnedFrame_18 (by decide) ?_
      exact z_ret (v := nI (1)) (u := u) Z Y (rfl) (⟨rfl, Or.inl ⟨rfl, hw2, by rw [nI_clamp hk31]; exact Nat.pos_of_ne_zero (fun z => c14 ((nI_le0 hb6).mpr z))⟩⟩) dX0_isPinnedFrame_22
  · refine lv_if_eq (tgt := 21) hx hb dX0_isPinnedFrame_5 (by decide) (fun _ => ?_) (fun c5 => absurd (by decide) c5)
    refine lv_iconst (v := nI (0)) hx hb dX0_isPinnedFrame_21 (by decide) ?_
    exact z_ret (v := nI (0)) (u := u) Z Y (rfl) (⟨rfl, Or.inr ⟨rfl, fun q => hw2 q.1⟩⟩) dX0_isPinnedFrame_22

set_option maxHeartbeats 4000000 in
set_option maxRecDepth 100000 in
theorem kX0_frameOf (l : Launch) (dC : Nat → ClassId) (dI : Nat → Nat → Nat) {g : GE} {N : Nat} {a : AS} {u : CS} (hR : Rep g N a u) (x : Int32) : zMI l yX0_frameOf wsX0_frameOf ({ frames := 1, cells := 0, slots := 0, locals := 21 }) dC dI 0 g u [.int (x)] (fun r u1 => u = u1 ∧ foP g a x (-1) r) := by
  refine zMI_of (cc := cX0_frameOf) (maxL := 3) (ret := (some .int)) (by decide) rfl (Nat.le_of_ble_eq_true rfl) ?_
  intro p e s m below meth c A ls Z Y hl
  have hin : ∀ w ∈ wsX00, w ∈ wsX0_frameOf := fun w h => List.mem_cons_of_mem _ (List.mem_append_right _ h)
  obtain ⟨hx, hb, hml, hown, hts, hr, hlk⟩ := id Z
  have L13 := hts (.fieldLink RX0 13 "FramePool" "frameCount" "I") (by decide +kernel)
  have L30 := hts (.fieldLink RX0 30 "FramePool" "pageIn" "[I") (by decide +kernel)
  have hl : lv_has ls 3 [(0, .ref (ga0 g)), (1, .int (x))] := hl
  have hg := hR.1
  have hN := hR.2.1
  obtain ⟨b1, b2, b3, b4, b5, b6, b7⟩ := gokB hg
  obtain ⟨r3, r4, r5, r6, r7, r8, r9, r10, r11⟩ := id hR.2.2.1
  obtain ⟨i1, i2, i3, i4, i5⟩ := id hR.2.2.2
  have loop : vp_in x (geP g) → ∀ (n k : Nat), k + n = geF g → (∀ j, j < k → apg a j ≠ x) → ∀ (H : Heap) (locs : List Loc), zW dC dI 0 g A s.heap s (u) H locs → ∀ ls : Array Slot, lv_has ls 3 [(0, .ref (ga0 g)), (1, .int (x)), (2, .int (nI (k)))] → W p l e ({ frames := 1, cells := 0, slots := 0, locals := 21 }) s m (Value.ref (ga0 g) :: [.int (x)]).toArray below meth c H locs 0 0 (zQI below dC dI 0 g A (fun r u1 => u = u1 ∧ foP g a x (-1) r) (Value.ref (ga0 g) :: [.int (x)]).toArray s) (F0 m 12 ls []) := by
    intro hxP n
    induction n with
    | zero =>
      intro k hkn hno Hq lq Y ls hl
      refine lv_iload_n hx hb dX0_frameOf_12 rfl (lv_at hl 2 rfl) ?_
      refine lv_aload_n hx hb dX0_frameOf_13 rfl (lv_at hl 0 rfl) ?_
      refine z_get (T := TX0) (v := .int (nI (geF g))) Z hin rfl Y 0 (by decide) L13 rfl rfl dX0_frameOf_14 ?_
      refine lv_icmp_ge (tgt := 38) hx hb dX0_frameOf_17 (by decide) (fun _ => ?_) (fun c17 => absurd ((nI_leI b1 (by omega)).mpr (by omega)) c17)
      refine lv_iconst (v := (-1)) hx hb dX0_frameOf_38 (by decide) ?_
      exact z_ret (v := (-1)) (u := u) Z Y (rfl) (⟨rfl, Or.inr ⟨rfl, fop_none (fun _ f hf => hno f (by omega))⟩⟩) dX0_frameOf_39
    | succ n ih =>
      intro k hkn hno Hq lq Y ls hl
      have hkF : k < geF g := by omega
      refine lv_iload_n hx hb dX0_frameOf_12 rfl (lv_at hl 2 rfl) ?_
      refine lv_aload_n hx hb dX0_frameOf_13 rfl (lv_at hl 0 rfl) ?_
      refine z_get (T := TX0) (v := .int (nI (geF g))) Z hin rfl Y 0 (by decide) L13 rfl rfl dX0_frameOf_14 ?_
      refine lv_icmp_ge (tgt := 38) hx hb dX0_frameOf_17 (by decide) (fun c17 => absurd c17 (fun q => absurd ((nI_leI b1 (by omega)).mp q) (by omega))) (fun _ => ?_)
      refine lv_aload_n hx hb dX0_frameOf_20 rfl (lv_at hl 0 rfl) ?_
      refine z_get (T := TX0) (v := .ref (ga5 g)) Z hin rfl Y 5 (by decide) L30 rfl rfl dX0_frameOf_21 ?_
      refine lv_iload_n hx hb dX0_frameOf_24 rfl (lv_at hl 2 rfl) ?_
      refine z_ld5 Z Y (k) (rfl) (by omega) (by omega) dX0_frameOf_25 ?_
      refine z_top (apg a k) (r5 k hkF) ?_
      refine lv_iload_n hx hb dX0_frameOf_26 rfl (lv_at hl 1 rfl) ?_
      refine lv_icmp_ne (tgt := 32) hx hb dX0_frameOf_27 (by decide) (fun c27 => ?_) (fun c27 => ?_)
      · refine lv_iinc (v := nI (k + 1)) (lv' := [(2, .int (nI (k + 1))), (0, .ref (ga0 g)), (1, .int (x))]) hx hb dX0_frameOf_32 hl (k := 2) rfl (nI_add (k) 1) (by decide) rfl (fun ls hl => ?_)
        refine lv_goto (tgt := 12) hx hb dX0_frameOf_35 (by decide) ?_
        exact ih (k + 1) (by omega) (fun j hj => by rcases Nat.lt_succ_iff_lt_or_eq.mp hj with q | rfl; exact hno j q; exact c27) _ _ Y ls (lv_sub hl [1, 2, 0] rfl)
      · refine lv_iload_n hx hb dX0_frameOf_30 rfl (lv_at hl 2 rfl) ?_
        obtain ⟨q, hq, rfl⟩ := vp_in_of hxP b2
        exact z_ret (v := nI (k)) (u := u) Z Y (rfl) (⟨rfl, Or.inl ⟨k, q, hkF, hq, rfl, rfl, c27, fop_some hg hR.2.2.2 hkF hq c27⟩⟩) dX0_frameOf_31
  refine lv_aload_n hx hb dX0_frameOf_0 rfl (lv_at hl 0 rfl) ?_
  refine lv_iload_n hx hb dX0_frameOf_1 rfl (lv_at hl 1 rfl) ?_
  refine z_callI (rest := []) Z Y rfl (kX0_isPage l dC dI hg u x) (cwV 1 hts gX0_frameOf_X0_isPage rfl rfl rfl (by decide +kernel) ⟨Nat.le_of_ble_eq_true rfl, Nat.le_of_ble_eq_true rfl⟩) rfl hl.1 rfl (Nat.le_of_ble_eq_true rfl) dX0_frameOf_2 ⟨Nat.zero_le _, Nat.zero_le _⟩ (fun r2 u2 Hq lq hw Y => ?_)
  obtain ⟨rfl, hw⟩ := hw
  rcases hw with ⟨rfl, hw2⟩ | ⟨rfl, hw2⟩
  · refine lv_if_ne (tgt := 10) hx hb dX0_frameOf_5 (by decide) (fun _ => ?_) (fun c5 => absurd c5 (by decide))
    refine lv_iconst (v := nI (0)) hx hb dX0_frameOf_10 (by decide) ?_
    refine lv_istore_n (lv' := [(2, .int (nI (0))), (0, .ref (ga0 g)), (1, .int (x))]) hx hb dX0_frameOf_11 rfl hl (by decide) rfl (fun ls hl => ?_)
    exact loop hw2 (geF g) 0 (by omega) (fun j hj => absurd hj (by omega)) _ _ Y ls (lv_sub hl [1, 2, 0] rfl)
  · refine lv_if_ne (tgt := 10) hx hb dX0_frameOf_5 (by decide) (fun c5 => absurd (by decide) c5) (fun _ => ?_)
    refine lv_iconst (v := (-1)) hx hb dX0_frameOf_8 (by decide) ?_
    exact z_ret (v := (-1)) (u := u) Z Y (rfl) (⟨rfl, Or.inr ⟨rfl, fop_out hw2⟩⟩) dX0_frameOf_9

set_option maxHeartbeats 4000000 in
set_option maxRecDepth 100000 in
theorem kX0_pinned (l : Launch) (dC : Nat → ClassId) (dI : Nat → Nat → Nat) {g : GE} {N : Nat} {a : AS} {u : CS} (hR : Rep g N a u) : zMI l yX0_pinned wsX0_pinned ({ frames := 0, cells := 0, slots := 0, locals := 0 }) dC dI 0 g u [] (fun r u1 => u = u1 ∧ r = nI (cnt (apn a) (geF g))) := by
  refine zMI_of (cc := cX0_pinned) (maxL := 3) (ret := (some .int)) (by decide) rfl (Nat.le_of_ble_eq_true rfl) ?_
  intro p e s m below meth c A ls Z Y hl
  have hin : ∀ w ∈ wsX00, w ∈ wsX0_pinned := fun w h => List.mem_cons_of_mem _ (List.mem_append_right _ h)
  obtain ⟨hx, hb, hml, hown, hts, hr, hlk⟩ := id Z
  have L13 := hts (.fieldLink RX0 13 "FramePool" "frameCount" "I") (by decide +kernel)
  have L33 := hts (.fieldLink RX0 33 "FramePool" "pins" "[I") (by decide +kernel)
  have hl : lv_has ls 3 [(0, .ref (ga0 g))] := hl
  have hg := hR.1
  have hN := hR.2.1
  obtain ⟨b1, b2, b3, b4, b5, b6, b7⟩ := gokB hg
  obtain ⟨r3, r4, r5, r6, r7, r8, r9, r10, r11⟩ := id hR.2.2.1
  obtain ⟨i1, i2, i3, i4, i5⟩ := id hR.2.2.2
  have loop : ∀ (n k : Nat), k + n = geF g → ∀ (H : Heap) (locs : List Loc), zW dC dI 0 g A s.heap s (u) H locs → ∀ ls : Array Slot, lv_has ls 3 [(0, .ref (ga0 g)), (1, .int (nI (cnt (apn a) k))), (2, .int (nI (k)))] → W p l e ({ frames := 0, cells := 0, slots := 0, locals := 0 }) s m (Value.ref (ga0 g) :: []).toArray below meth c H locs 0 0 (zQI below dC dI 0 g A (fun r u1 => u = u1 ∧ r = nI (cnt (apn a) (geF g))) (Value.ref (ga0 g) :: []).toArray s) (F0 m 4 ls []) := by
    intro n
    induction n with
    | zero =>
      intro k hkn Hq lq Y ls hl
      obtain rfl : k = geF g := hkn
      refine lv_iload_n hx hb dX0_pinned_4 rfl (lv_at hl 2 rfl) ?_
      refine lv_aload_n hx hb dX0_pinned_5 rfl (lv_at hl 0 rfl) ?_
      refine z_get (T := TX0) (v := .int (nI (geF g))) Z hin rfl Y 0 (by decide) L13 rfl rfl dX0_pinned_6 ?_
      refine lv_icmp_ge (tgt := 30) hx hb dX0_pinned_9 (by decide) (fun _ => ?_) (fun c9 => absurd ((nI_leI b1 (by omega)).mpr (by omega)) c9)
      refine lv_iload_n hx hb dX0_pinned_30 rfl (lv_at hl 1 rfl) ?_
      exact z_ret (v := nI (cnt (apn a) (geF g))) (u := u) Z Y (rfl) (⟨rfl, rfl⟩) dX0_pinned_31
    | succ n ih =>
      intro k hkn Hq lq Y ls hl
      have hkF : k < geF g := by omega
      have hb6 : apn a k < 2 ^ 31 := by have := pn31 hR hkF; omega
      refine lv_iload_n hx hb dX0_pinned_4 rfl (lv_at hl 2 rfl) ?_
      refine lv_aload_n hx hb dX0_pinned_5 rfl (lv_at hl 0 rfl) ?_
      refine z_get (T := TX0) (v := .int (nI (geF g))) Z hin rfl Y 0 (by decide) L13 rfl rfl dX0_pinned_6 ?_
      refine lv_icmp_ge (tgt := 30) hx hb dX0_pinned_9 (by decide) (fun c9 => absurd c9 (fun q => absurd ((nI_leI b1 (by omega)).mp q) (by omega))) (fun _ => ?_)
      refine lv_aload_n hx hb dX0_pinned_12 rfl (lv_at hl 0 rfl) ?_
      refine z_get (T := TX0) (v := .ref (ga6 g)) Z hin rfl Y 6 (by decide) L33 rfl rfl dX0_pinned_13 ?_
      refine lv_iload_n hx hb dX0_pinned_16 rfl (lv_at hl 2 rfl) ?_
      refine z_ld6 Z Y (k) (rfl) (by omega) (by omega) dX0_pinned_17 ?_
      refine z_top (nI (apn a k)) (r6 k hkF) ?_
      refine lv_if_le (tgt := 24) hx hb dX0_pinned_18 (by decide) (fun c18 => ?_) (fun c18 => ?_)
      · refine lv_iinc (v := nI (k + 1)) (lv' := [(2, .int (nI (k + 1))), (0, .ref (ga0 g)), (1, .int (nI (cnt (apn a) k)))]) hx hb dX0_pinned_24 hl (k := 2) rfl (nI_add (k) 1) (by decide) rfl (fun ls hl => ?_)
        refine lv_goto (tgt := 4) hx hb dX0_pinned_27 (by decide) ?_
        exact ih (k + 1) (by omega) _ _ Y ls (by rw [cnt_0 (by have := (nI_le0 hb6).mp c18; omega)]; exact lv_sub hl [1, 2, 0] rfl)
      · refine lv_iinc (v := nI (cnt (apn a) k + 1)) (lv' := [(1, .int (nI (cnt (apn a) k + 1))), (0, .ref (ga0 g)), (2, .int (nI (k)))]) hx hb dX0_pinned_21 hl (k := 1) rfl (nI_add (cnt (apn a) k) 1) (by decide) rfl (fun ls hl => ?_)
        refine lv_iinc (v := nI (k + 1)) (lv' := [(2, .int (nI (k + 1))), (1, .int (nI (cnt (apn a) k + 1))), (0, .ref (ga0 g))]) hx hb dX0_pinned_24 hl (k := 2) rfl (nI_add (k) 1) (by decide) rfl (fun ls hl => ?_)
        refine lv_goto (tgt := 4) hx hb dX0_pinned_27 (by decide) ?_
        exact ih (k + 1) (by omega) _ _ Y ls (by rw [cnt_1 (Nat.pos_of_ne_zero (fun z => c18 ((nI_le0 hb6).mpr z)))]; exact lv_sub hl [2, 1, 0] rfl)
  refine lv_iconst (v := nI (0)) hx hb dX0_pinned_0 (by decide) ?_
  refine lv_istore_n (lv' := [(1, .int (nI (0))), (0, .ref (ga0 g))]) hx hb dX0_pinned_1 rfl hl (by decide) rfl (fun ls hl => ?_)
  refine lv_iconst (v := nI (0)) hx hb dX0_pinned_2 (by decide) ?_
  refine lv_istore_n (lv' := [(2, .int (nI (0))), (1, .int (nI (0))), (0, .ref (ga0 g))]) hx hb dX0_pinned_3 rfl hl (by decide) rfl (fun ls hl => ?_)
  exact loop (geF g) 0 (by omega) _ _ Y ls (lv_sub hl [2, 1, 0] rfl)

set_option maxHeartbeats 4000000 in
set_option maxRecDepth 100000 in
theorem kX0_diskReads (l : Launch) (dC : Nat → ClassId) (dI : Nat → Nat → Nat) {g : GE} {N : Nat} {a : AS} {u : CS} (hR : Rep g N a u) : zMI l yX0_diskReads wsX0_diskReads ({ frames := 0, cells := 0, slots := 0, locals := 0 }) dC dI 0 g u [] (fun r u1 => u = u1 ∧ r = ard a) := by
  refine zMI_of (cc := cX0_diskReads) (maxL := 1) (ret := (some .int)) (by decide) rfl (Nat.le_of_ble_eq_true rfl) ?_
  intro p e s m below meth c A ls Z Y hl
  have hin : ∀ w ∈ wsX00, w ∈ wsX0_diskReads := fun w h => List.mem_cons_of_mem _ (List.mem_append_right _ h)
  obtain ⟨hx, hb, hml, hown, hts, hr, hlk⟩ := id Z
  have L53 := hts (.fieldLink RX0 53 "FramePool" "reads" "I") (by decide +kernel)
  have hl : lv_has ls 1 [(0, .ref (ga0 g))] := hl
  have hg := hR.1
  have hN := hR.2.1
  obtain ⟨b1, b2, b3, b4, b5, b6, b7⟩ := gokB hg
  obtain ⟨r3, r4, r5, r6, r7, r8, r9, r10, r11⟩ := id hR.2.2.1
  obtain ⟨i1, i2, i3, i4, i5⟩ := id hR.2.2.2
  refine lv_aload_n hx hb dX0_diskReads_0 rfl (lv_at hl 0 rfl) ?_
  refine z_get (T := TX0) (v := .int (csr (u))) Z hin rfl Y 10 (by decide) L53 rfl rfl dX0_diskReads_1 ?_
  exact z_ret (v := csr (u)) (u := u) Z Y (rfl) (⟨rfl, r10⟩) dX0_diskReads_4

set_option maxHeartbeats 4000000 in
set_option maxRecDepth 100000 in
theorem kX0_diskWrites (l : Launch) (dC : Nat → ClassId) (dI : Nat → Nat → Nat) {g : GE} {N : Nat} {a : AS} {u : CS} (hR : Rep g N a u) : zMI l yX0_diskWrites wsX0_diskWrites ({ frames := 0, cells := 0, slots := 0, locals := 0 }) dC dI 0 g u [] (fun r u1 => u = u1 ∧ r = awr a) := by
  refine zMI_of (cc := cX0_diskWrites) (maxL := 1) (ret := (some .int)) (by decide) rfl (Nat.le_of_ble_eq_true rfl) ?_
  intro p e s m below meth c A ls Z Y hl
  have hin : ∀ w ∈ wsX00, w ∈ wsX0_diskWrites := fun w h => List.mem_cons_of_mem _ (List.mem_append_right _ h)
  obtain ⟨hx, hb, hml, hown, hts, hr, hlk⟩ := id Z
  have L56 := hts (.fieldLink RX0 56 "FramePool" "writes" "I") (by decide +kernel)
  have hl : lv_has ls 1 [(0, .ref (ga0 g))] := hl
  have hg := hR.1
  have hN := hR.2.1
  obtain ⟨b1, b2, b3, b4, b5, b6, b7⟩ := gokB hg
  obtain ⟨r3, r4, r5, r6, r7, r8, r9, r10, r11⟩ := id hR.2.2.1
  obtain ⟨i1, i2, i3, i4, i5⟩ := id hR.2.2.2
  refine lv_aload_n hx hb dX0_diskWrites_0 rfl (lv_at hl 0 rfl) ?_
  refine z_get (T := TX0) (v := .int (csw (u))) Z hin rfl Y 11 (by decide) L56 rfl rfl dX0_diskWrites_1 ?_
  exact z_ret (v := csw (u)) (u := u) Z Y (rfl) (⟨rfl, r11⟩) dX0_diskWrites_4

set_option maxHeartbeats 4000000 in
set_option maxRecDepth 100000 in
theorem kX0_hand (l : Launch) (dC : Nat → ClassId) (dI : Nat → Nat → Nat) {g : GE} {N : Nat} {a : AS} {u : CS} (hR : Rep g N a u) : zMI l yX0_hand wsX0_hand ({ frames := 0, cells := 0, slots := 0, locals := 0 }) dC dI 0 g u [] (fun r u1 => u = u1 ∧ r = nI (ahd a)) := by
  refine zMI_of (cc := cX0_hand) (maxL := 1) (ret := (some .int)) (by decide) rfl (Nat.le_of_ble_eq_true rfl) ?_
  intro p e s m below meth c A ls Z Y hl
  have hin : ∀ w ∈ wsX00, w ∈ wsX0_hand := fun w h => List.mem_cons_of_mem _ (List.mem_append_right _ h)
  obtain ⟨hx, hb, hml, hown, hts, hr, hlk⟩ := id Z
  have L50 := hts (.fieldLink RX0 50 "FramePool" "handAt" "I") (by decide +kernel)
  have hl : lv_has ls 1 [(0, .ref (ga0 g))] := hl
  have hg := hR.1
  have hN := hR.2.1
  obtain ⟨b1, b2, b3, b4, b5, b6, b7⟩ := gokB hg
  obtain ⟨r3, r4, r5, r6, r7, r8, r9, r10, r11⟩ := id hR.2.2.1
  obtain ⟨i1, i2, i3, i4, i5⟩ := id hR.2.2.2
  refine lv_aload_n hx hb dX0_hand_0 rfl (lv_at hl 0 rfl) ?_
  refine z_get (T := TX0) (v := .int (csh (u))) Z hin rfl Y 9 (by decide) L50 rfl rfl dX0_hand_1 ?_
  exact z_ret (v := csh (u)) (u := u) Z Y (rfl) (⟨rfl, r9⟩) dX0_hand_4

set_option maxHeartbeats 4000000 in
set_option maxRecDepth 100000 in
theorem kX0_resident (l : Launch) (dC : Nat → ClassId) (dI : Nat → Nat → Nat) {g : GE} {N : Nat} {a : AS} {u : CS} (hR : Rep g N a u) (x : Int32) : zMI l yX0_resident wsX0_resident ({ frames := 2, cells := 0, slots := 0, locals := 43 }) dC dI 0 g u [.int (x)] (fun r u1 => u = u1 ∧ r = spRes g a x) := by
  refine zMI_of (cc := cX0_resident) (maxL := 2) (ret := (some .boolean)) (by decide) rfl (Nat.le_of_ble_eq_true rfl) ?_
  intro p e s m below meth c A ls Z Y hl
  have hin : ∀ w ∈ wsX00, w ∈ wsX0_resident := fun w h => List.mem_cons_of_mem _ (List.mem_append_right _ h)
  obtain ⟨hx, hb, hml, hown, hts, hr, hlk⟩ := id Z
  have hl : lv_has ls 2 [(0, .ref (ga0 g)), (1, .int (x))] := hl
  have hg := hR.1
  have hN := hR.2.1
  obtain ⟨b1, b2, b3, b4, b5, b6, b7⟩ := gokB hg
  obtain ⟨r3, r4, r5, r6, r7, r8, r9, r10, r11⟩ := id hR.2.2.1
  obtain ⟨i1, i2, i3, i4, i5⟩ := id hR.2.2.2
  refine lv_aload_n hx hb dX0_resident_0 rfl (lv_at hl 0 rfl) ?_
  refine lv_iload_n hx hb dX0_resident_1 rfl (lv_at hl 1 rfl) ?_
  refine z_callI (rest := []) Z Y rfl (kX0_frameOf l dC dI hR x) (cwV 1 hts gX0_resident_X0_frameOf rfl rfl rfl (by decide +kernel) ⟨Nat.le_of_ble_eq_true rfl, Nat.le_of_ble_eq_true rfl⟩) rfl hl.1 rfl (Nat.le_of_ble_eq_true rfl) dX0_resident_2 ⟨Nat.zero_le _, Nat.zero_le _⟩ (fun r2 u2 Hq lq hw Y => ?_)
  obtain ⟨rfl, hw⟩ := hw
  rcases hw with ⟨f, q2, hf2, hq2, rfl, rfl, hp2, hfo2⟩ | ⟨rfl, hfo2⟩
  · have hne : nI f ≠ -1 := nI_ne_m1 (by omega)
    refine lv_iconst (v := (-1)) hx hb dX0_resident_5 (by decide) ?_
    refine lv_icmp_eq (tgt := 13) hx hb dX0_resident_6 (by decide) (fun c6 => absurd c6 (hne)) (fun _ => ?_)
    refine lv_iconst (v := nI (1)) hx hb dX0_resident_9 (by decide) ?_
    refine lv_goto (tgt := 14) hx hb dX0_resident_10 (by decide) ?_
    exact z_ret (v := nI (1)) (u := u) Z Y (rfl) (⟨rfl, (spRes_1 hfo2).symm⟩) dX0_resident_14
  · refine lv_iconst (v := (-1)) hx hb dX0_resident_5 (by decide) ?_
    refine lv_icmp_eq (tgt := 13) hx hb dX0_resident_6 (by decide) (fun _ => ?_) (fun c6 => absurd (rfl) c6)
    refine lv_iconst (v := nI (0)) hx hb dX0_resident_13 (by decide) ?_
    exact z_ret (v := nI (0)) (u := u) Z Y (rfl) (⟨rfl, (spRes_0 hfo2).symm⟩) dX0_resident_14

set_option maxHeartbeats 4000000 in
set_option maxRecDepth 100000 in
theorem kX0_readWord (l : Launch) (dC : Nat → ClassId) (dI : Nat → Nat → Nat) {g : GE} {N : Nat} {a : AS} {u : CS} (hR : Rep g N a u) (hX : geS g = geW g) (x y : Int32) : zMI l yX0_readWord wsX0_readWord ({ frames := 2, cells := 0, slots := 0, locals := 42 }) dC dI 0 g u [.int (x), .int (y)] (fun r u1 => u = u1 ∧ r = spReadW g a x y) := by
  refine zMI_of (cc := cX0_readWord) (maxL := 3) (ret := (some .int)) (by decide) rfl (Nat.le_of_ble_eq_true rfl) ?_
  intro p e s m below meth c A ls Z Y hl
  have hin : ∀ w ∈ wsX00, w ∈ wsX0_readWord := fun w h => List.mem_cons_of_mem _ (List.mem_append_right _ h)
  obtain ⟨hx, hb, hml, hown, hts, hr, hlk⟩ := id Z
  have L20 := hts (.fieldLink RX0 20 "FramePool" "wordCount" "I") (by decide +kernel)
  have L27 := hts (.fieldLink RX0 27 "FramePool" "frameWords" "[I") (by decide +kernel)
  have hl : lv_has ls 3 [(0, .ref (ga0 g)), (1, .int (x)), (2, .int (y))] := hl
  have hg := hR.1
  have hN := hR.2.1
  obtain ⟨b1, b2, b3, b4, b5, b6, b7⟩ := gokB hg
  obtain ⟨r3, r4, r5, r6, r7, r8, r9, r10, r11⟩ := id hR.2.2.1
  obtain ⟨i1, i2, i3, i4, i5⟩ := id hR.2.2.2
  refine lv_aload_n hx hb dX0_readWord_0 rfl (lv_at hl 0 rfl) ?_
  refine lv_iload_n hx hb dX0_readWord_1 rfl (lv_at hl 1 rfl) ?_
  refine z_callI (rest := []) Z Y rfl (kX0_isPinnedFrame l dC dI hR x) (cwV 1 hts gX0_readWord_X0_isPinnedFrame rfl rfl rfl (by decide +kernel) ⟨Nat.le_of_ble_eq_true rfl, Nat.le_of_ble_eq_true rfl⟩) rfl hl.1 rfl (Nat.le_of_ble_eq_true rfl) dX0_readWord_2 ⟨Nat.zero_le _, Nat.zero_le _⟩ (fun r2 u2 Hq lq hw Y => ?_)
  obtain ⟨rfl, hw⟩ := hw
  rcases hw with ⟨rfl, hw2⟩ | ⟨rfl, hw2⟩
  · refine lv_if_eq (tgt := 16) hx hb dX0_readWord_5 (by decide) (fun c5 => absurd c5 (by decide)) (fun _ => ?_)
    refine lv_aload_n hx hb dX0_readWord_8 rfl (lv_at hl 0 rfl) ?_
    refine lv_iload_n hx hb dX0_readWord_9 rfl (lv_at hl 2 rfl) ?_
    refine z_callI (rest := []) Z Y rfl (kX0_isOffset l dC dI hg u y) (cwV 1 hts gX0_readWord_X0_isOffset rfl rfl rfl (by decide +kernel) ⟨Nat.le_of_ble_eq_true rfl, Nat.le_of_ble_eq_true rfl⟩) rfl hl.1 rfl (Nat.le_of_ble_eq_true rfl) dX0_readWord_10 ⟨Nat.zero_le _, Nat.zero_le _⟩ (fun r10 u10 Hq lq hw Y => ?_)
    obtain ⟨rfl, hw⟩ := hw
    rcases hw with ⟨rfl, hw10⟩ | ⟨rfl, hw10⟩
    · obtain ⟨hv2, hw0⟩ := hw2
      obtain ⟨k, hk, rfl⟩ := vp_in_of hv2 b1
      rw [nI_clamp (by omega)] at hw0
      obtain ⟨j, hj, rfl⟩ := vp_in_of hw10 b3
      refine lv_if_ne (tgt := 18) hx hb dX0_readWord_13 (by decide) (fun _ => ?_) (fun c13 => absurd c13 (by decide))
      refine lv_aload_n hx hb dX0_readWord_18 rfl (lv_at hl 0 rfl) ?_
      refine z_get (T := TX0) (v := .ref (ga4 g)) Z hin rfl Y 4 (by decide) L27 rfl rfl dX0_readWord_19 ?_
      refine lv_iload_n hx hb dX0_readWord_22 rfl (lv_at hl 1 rfl) ?_
      refine lv_aload_n hx hb dX0_readWord_23 rfl (lv_at hl 0 rfl) ?_
      refine z_get (T := TX0) (v := .int (nI (geW g))) Z hin rfl Y 2 (by decide) L20 rfl rfl dX0_readWord_24 ?_
      refine lv_imul hx hb dX0_readWord_27 ?_
      refine z_top (nI (k * geS g)) (by rw [hX]; exact pk_mul _ _) ?_
      refine lv_iload_n hx hb dX0_readWord_28 rfl (lv_at hl 2 rfl) ?_
      refine lv_iadd hx hb dX0_readWord_29 ?_
      refine z_top (nI ((k * geS g) + (j))) (nI_add (k * geS g) (j)) ?_
      refine z_ld4 Z Y ((k * geS g) + (j)) (rfl) (lt4 hg hk hj rfl) (by omega) dX0_readWord_30 ?_
      refine z_top (amm a k j) (rd4 hR hk hj rfl) ?_
      exact z_ret (v := amm a k j) (u := u) Z Y (rfl) (⟨rfl, (spReadW_t (by omega) (by omega) hv2 hw0 hw10).symm⟩) dX0_readWord_31
    · refine lv_if_ne (tgt := 18) hx hb dX0_readWord_13 (by decide) (fun c13 => absurd (by decide) c13) (fun _ => ?_)
      refine lv_iconst (v := nI (0)) hx hb dX0_readWord_16 (by decide) ?_
      exact z_ret (v := nI (0)) (u := u) Z Y (rfl) (⟨rfl, (spReadW_f (fun q => hw10 q.2)).symm⟩) dX0_readWord_17
  · refine lv_if_eq (tgt := 16) hx hb dX0_readWord_5 (by decide) (fun _ => ?_) (fun c5 => absurd (by decide) c5)
    refine lv_iconst (v := nI (0)) hx hb dX0_readWord_16 (by decide) ?_
    exact z_ret (v := nI (0)) (u := u) Z Y (rfl) (⟨rfl, (spReadW_f (fun q => hw2 q.1)).symm⟩) dX0_readWord_17

set_option maxHeartbeats 4000000 in
set_option maxRecDepth 100000 in
theorem kX0_diskWord (l : Launch) (dC : Nat → ClassId) (dI : Nat → Nat → Nat) {g : GE} {N : Nat} {a : AS} {u : CS} (hR : Rep g N a u) (hX : geS g = geW g) (x y : Int32) : zMI l yX0_diskWord wsX0_diskWord ({ frames := 1, cells := 0, slots := 0, locals := 21 }) dC dI 0 g u [.int (x), .int (y)] (fun r u1 => u = u1 ∧ r = spDiskW g a x y) := by
  refine zMI_of (cc := cX0_diskWord) (maxL := 3) (ret := (some .int)) (by decide) rfl (Nat.le_of_ble_eq_true rfl) ?_
  intro p e s m below meth c A ls Z Y hl
  have hin : ∀ w ∈ wsX00, w ∈ wsX0_diskWord := fun w h => List.mem_cons_of_mem _ (List.mem_append_right _ h)
  obtain ⟨hx, hb, hml, hown, hts, hr, hlk⟩ := id Z
  have L20 := hts (.fieldLink RX0 20 "FramePool" "wordCount" "I") (by decide +kernel)
  have L23 := hts (.fieldLink RX0 23 "FramePool" "diskWords" "[I") (by decide +kernel)
  have hl : lv_has ls 3 [(0, .ref (ga0 g)), (1, .int (x)), (2, .int (y))] := hl
  have hg := hR.1
  have hN := hR.2.1
  obtain ⟨b1, b2, b3, b4, b5, b6, b7⟩ := gokB hg
  obtain ⟨r3, r4, r5, r6, r7, r8, r9, r10, r11⟩ := id hR.2.2.1
  obtain ⟨i1, i2, i3, i4, i5⟩ := id hR.2.2.2
  refine lv_aload_n hx hb dX0_diskWord_0 rfl (lv_at hl 0 rfl) ?_
  refine lv_iload_n hx hb dX0_diskWord_1 rfl (lv_at hl 1 rfl) ?_
  refine z_callI (rest := []) Z Y rfl (kX0_isPage l dC dI hg u x) (cwV 1 hts gX0_diskWord_X0_isPage rfl rfl rfl (by decide +kernel) ⟨Nat.le_of_ble_eq_true rfl, Nat.le_of_ble_eq_true rfl⟩) rfl hl.1 rfl (Nat.le_of_ble_eq_true rfl) dX0_diskWord_2 ⟨Nat.zero_le _, Nat.zero_le _⟩ (fun r2 u2 Hq lq hw Y => ?_)
  obtain ⟨rfl, hw⟩ := hw
  rcases hw with ⟨rfl, hw2⟩ | ⟨rfl, hw2⟩
  · refine lv_if_eq (tgt := 16) hx hb dX0_diskWord_5 (by decide) (fun c5 => absurd c5 (by decide)) (fun _ => ?_)
    refine lv_aload_n hx hb dX0_diskWord_8 rfl (lv_at hl 0 rfl) ?_
    refine lv_iload_n hx hb dX0_diskWord_9 rfl (lv_at hl 2 rfl) ?_
    refine z_callI (rest := []) Z Y rfl (kX0_isOffset l dC dI hg u y) (cwV 1 hts gX0_diskWord_X0_isOffset rfl rfl rfl (by decide +kernel) ⟨Nat.le_of_ble_eq_true rfl, Nat.le_of_ble_eq_true rfl⟩) rfl hl.1 rfl (Nat.le_of_ble_eq_true rfl) dX0_diskWord_10 ⟨Nat.zero_le _, Nat.zero_le _⟩ (fun r10 u10 Hq lq hw Y => ?_)
    obtain ⟨rfl, hw⟩ := hw
    rcases hw with ⟨rfl, hw10⟩ | ⟨rfl, hw10⟩
    · obtain ⟨k, hk, rfl⟩ := vp_in_of hw2 b2
      obtain ⟨j, hj, rfl⟩ := vp_in_of hw10 b3
      refine lv_if_ne (tgt := 18) hx hb dX0_diskWord_13 (by decide) (fun _ => ?_) (fun c13 => absurd c13 (by decide))
      refine lv_aload_n hx hb dX0_diskWord_18 rfl (lv_at hl 0 rfl) ?_
      refine z_get (T := TX0) (v := .ref (ga3 g)) Z hin rfl Y 3 (by decide) L23 rfl rfl dX0_diskWord_19 ?_
      refine lv_iload_n hx hb dX0_diskWord_22 rfl (lv_at hl 1 rfl) ?_
      refine lv_aload_n hx hb dX0_diskWord_23 rfl (lv_at hl 0 rfl) ?_
      refine z_get (T := TX0) (v := .int (nI (geW g))) Z hin rfl Y 2 (by decide) L20 rfl rfl dX0_diskWord_24 ?_
      refine lv_imul hx hb dX0_diskWord_27 ?_
      refine z_top (nI (k * geS g)) (by rw [hX]; exact pk_mul _ _) ?_
      refine lv_iload_n hx hb dX0_diskWord_28 rfl (lv_at hl 2 rfl) ?_
      refine lv_iadd hx hb dX0_diskWord_29 ?_
      refine z_top (nI ((k * geS g) + (j))) (nI_add (k * geS g) (j)) ?_
      refine z_ld3 Z Y ((k * geS g) + (j)) (rfl) (lt3 hg hk hj rfl) (by omega) dX0_diskWord_30 ?_
      refine z_top (adk a k j) (rd3 hR hk hj rfl) ?_
      exact z_ret (v := adk a k j) (u := u) Z Y (rfl) (⟨rfl, (spDiskW_t (by omega) (by omega) hw2 hw10).symm⟩) dX0_diskWord_31
    · refine lv_if_ne (tgt := 18) hx hb dX0_diskWord_13 (by decide) (fun c13 => absurd (by decide) c13) (fun _ => ?_)
      refine lv_iconst (v := nI (0)) hx hb dX0_diskWord_16 (by decide) ?_
      exact z_ret (v := nI (0)) (u := u) Z Y (rfl) (⟨rfl, (spDiskW_f (fun q => hw10 q.2)).symm⟩) dX0_diskWord_17
  · refine lv_if_eq (tgt := 16) hx hb dX0_diskWord_5 (by decide) (fun _ => ?_) (fun c5 => absurd (by decide) c5)
    refine lv_iconst (v := nI (0)) hx hb dX0_diskWord_16 (by decide) ?_
    exact z_ret (v := nI (0)) (u := u) Z Y (rfl) (⟨rfl, (spDiskW_f (fun q => hw2 q.1)).symm⟩) dX0_diskWord_17

theorem tb_out {y : Int32} (h0 : ¬ y = nI 0) (h1 : ¬ y = nI 1) (h2 : ¬ y = nI 2) (h3 : ¬ y = nI 3) : y.toInt < 0 ∨ 3 < y.toInt := by
  by_cases h : y.toInt < 0
  · exact Or.inl h
  · refine Or.inr (Int.not_le.mp fun q => ?_)
    obtain ⟨j, hj, rfl⟩ := nI_of (x := y) (fun z => h (by rw [Int32.lt_iff_toInt_lt] at z; exact z))
    rw [nI_toInt hj] at q
    rcases (show j = 0 ∨ j = 1 ∨ j = 2 ∨ j = 3 by omega) with rfl | rfl | rfl | rfl
    · exact h0 rfl
    · exact h1 rfl
    · exact h2 rfl
    · exact h3 rfl

set_option maxHeartbeats 4000000 in
set_option maxRecDepth 100000 in
theorem kX0_told (l : Launch) (dC : Nat → ClassId) (dI : Nat → Nat → Nat) {g : GE} {N : Nat} {a : AS} {u : CS} (hR : Rep g N a u) (x y : Int32) : zMI l yX0_told wsX0_told ({ frames := 1, cells := 0, slots := 0, locals := 21 }) dC dI 0 g u [.int (x), .int (y)] (fun r u1 => u = u1 ∧ r = spTold g a x y) := by
  refine zMI_of (cc := cX0_told) (maxL := 3) (ret := (some .int)) (by decide) rfl (Nat.le_of_ble_eq_true rfl) ?_
  intro p e s m below meth c A ls Z Y hl
  have hin : ∀ w ∈ wsX00, w ∈ wsX0_told := fun w h => List.mem_cons_of_mem _ (List.mem_append_right _ h)
  obtain ⟨hx, hb, hml, hown, hts, hr, hlk⟩ := id Z
  have L30 := hts (.fieldLink RX0 30 "FramePool" "pageIn" "[I") (by decide +kernel)
  have L33 := hts (.fieldLink RX0 33 "FramePool" "pins" "[I") (by decide +kernel)
  have L36 := hts (.fieldLink RX0 36 "FramePool" "dirty" "[Z") (by decide +kernel)
  have L40 := hts (.fieldLink RX0 40 "FramePool" "marked" "[Z") (by decide +kernel)
  have hl : lv_has ls 3 [(0, .ref (ga0 g)), (1, .int (x)), (2, .int (y))] := hl
  have hg := hR.1
  have hN := hR.2.1
  obtain ⟨b1, b2, b3, b4, b5, b6, b7⟩ := gokB hg
  obtain ⟨r3, r4, r5, r6, r7, r8, r9, r10, r11⟩ := id hR.2.2.1
  obtain ⟨i1, i2, i3, i4, i5⟩ := id hR.2.2.2
  refine lv_aload_n hx hb dX0_told_0 rfl (lv_at hl 0 rfl) ?_
  refine lv_iload_n hx hb dX0_told_1 rfl (lv_at hl 1 rfl) ?_
  refine z_callI (rest := []) Z Y rfl (kX0_isFrame l dC dI hg u x) (cwV 1 hts gX0_told_X0_isFrame rfl rfl rfl (by decide +kernel) ⟨Nat.le_of_ble_eq_true rfl, Nat.le_of_ble_eq_true rfl⟩) rfl hl.1 rfl (Nat.le_of_ble_eq_true rfl) dX0_told_2 ⟨Nat.zero_le _, Nat.zero_le _⟩ (fun r2 u2 Hq lq hw Y => ?_)
  obtain ⟨rfl, hw⟩ := hw
  rcases hw with ⟨rfl, hw2⟩ | ⟨rfl, hw2⟩
  · obtain ⟨k, hk, rfl⟩ := vp_in_of hw2 b1
    have hT := fun w => spTold_t (a := a) (w := w) (show k < 2 ^ 31 by omega) hw2
    refine lv_if_ne (tgt := 11) hx hb dX0_told_5 (by decide) (fun _ => ?_) (fun c5 => absurd c5 (by decide))
    refine lv_iload_n hx hb dX0_told_11 rfl (lv_at hl 2 rfl) ?_
    by_cases e0 : y = nI 0
    · subst e0
      refine lv_tableIn (tgt := 44) (off := 32) hx hb dX0_told_12 (by decide +kernel) (by decide +kernel) (by decide +kernel) (by decide) ?_
      refine lv_aload_n hx hb dX0_told_44 rfl (lv_at hl 0 rfl) ?_
      refine z_get (T := TX0) (v := .ref (ga5 g)) Z hin rfl Y 5 (by decide) L30 rfl rfl dX0_told_45 ?_
      refine lv_iload_n hx hb dX0_told_48 rfl (lv_at hl 1 rfl) ?_
      refine z_ld5 Z Y (k) (rfl) (by omega) (by omega) dX0_told_49 ?_
      refine z_top (apg a k) (r5 k hk) ?_
      exact z_ret (v := apg a k) (u := u) Z Y (rfl) (⟨rfl, by rw [hT, if_pos rfl]⟩) dX0_told_50
    by_cases e1 : y = nI 1
    · subst e1
      refine lv_tableIn (tgt := 51) (off := 39) hx hb dX0_told_12 (by decide +kernel) (by decide +kernel) (by decide +kernel) (by decide) ?_
      refine lv_aload_n hx hb dX0_told_51 rfl (lv_at hl 0 rfl) ?_
      refine z_get (T := TX0) (v := .ref (ga6 g)) Z hin rfl Y 6 (by decide) L33 rfl rfl dX0_told_52 ?_
      refine lv_iload_n hx hb dX0_told_55 rfl (lv_at hl 1 rfl) ?_
      refine z_ld6 Z Y (k) (rfl) (by omega) (by omega) dX0_told_56 ?_
      refine z_top (nI (apn a k)) (r6 k hk) ?_
      exact z_ret (v := nI (apn a k)) (u := u) Z Y (rfl) (⟨rfl, by rw [hT, if_neg (by decide), if_pos rfl]⟩) dX0_told_57
    by_cases e2 : y = nI 2
    · subst e2
      refine lv_tableIn (tgt := 58) (off := 46) hx hb dX0_told_12 (by decide +kernel) (by decide +kernel) (by decide +kernel) (by decide) ?_
      refine lv_aload_n hx hb dX0_told_58 rfl (lv_at hl 0 rfl) ?_
      refine z_get (T := TX0) (v := .ref (ga7 g)) Z hin rfl Y 7 (by decide) L36 rfl rfl dX0_told_59 ?_
      refine lv_iload_n hx hb dX0_told_62 rfl (lv_at hl 1 rfl) ?_
      refine z_ld7 Z Y (k) (rfl) (by omega) (by omega) dX0_told_63 ?_
      refine z_top (adt a k) (r7 k hk) ?_
      refine lv_if_eq (tgt := 71) hx hb dX0_told_64 (by decide) (fun c64 => ?_) (fun c64 => ?_)
      · refine lv_iconst (v := nI (0)) hx hb dX0_told_71 (by decide) ?_
        exact z_ret (v := nI (0)) (u := u) Z Y (rfl) (⟨rfl, by rw [hT, if_neg (by decide), if_neg (by decide), if_pos rfl, if_pos c64]⟩) dX0_told_72
      · refine lv_iconst (v := nI (1)) hx hb dX0_told_67 (by decide) ?_
        refine lv_goto (tgt := 72) hx hb dX0_told_68 (by decide) ?_
        exact z_ret (v := nI (1)) (u := u) Z Y (rfl) (⟨rfl, by rw [hT, if_neg (by decide), if_neg (by decide), if_pos rfl, if_neg c64]⟩) dX0_told_72
    by_cases e3 : y = nI 3
    · subst e3
      refine lv_tableIn (tgt := 73) (off := 61) hx hb dX0_told_12 (by decide +kernel) (by decide +kernel) (by decide +kernel) (by decide) ?_
      refine lv_aload_n hx hb dX0_told_73 rfl (lv_at hl 0 rfl) ?_
      refine z_get (T := TX0) (v := .ref (ga8 g)) Z hin rfl Y 8 (by decide) L40 rfl rfl dX0_told_74 ?_
      refine lv_iload_n hx hb dX0_told_77 rfl (lv_at hl 1 rfl) ?_
      refine z_ld8 Z Y (k) (rfl) (by omega) (by omega) dX0_told_78 ?_
      refine z_top (amk a k) (r8 k hk) ?_
      refine lv_if_eq (tgt := 86) hx hb dX0_told_79 (by decide) (fun c79 => ?_) (fun c79 => ?_)
      · refine lv_iconst (v := nI (0)) hx hb dX0_told_86 (by decide) ?_
        exact z_ret (v := nI (0)) (u := u) Z Y (rfl) (⟨rfl, by rw [hT, if_neg (by decide), if_neg (by decide), if_neg (by decide), if_pos rfl, if_pos c79]⟩) dX0_told_87
      · refine lv_iconst (v := nI (1)) hx hb dX0_told_82 (by decide) ?_
        refine lv_goto (tgt := 87) hx hb dX0_told_83 (by decide) ?_
        exact z_ret (v := nI (1)) (u := u) Z Y (rfl) (⟨rfl, by rw [hT, if_neg (by decide), if_neg (by decide), if_neg (by decide), if_pos rfl, if_neg c79]⟩) dX0_told_87
    · refine lv_tableOut (tgt := 88) hx hb dX0_told_12 (tb_out e0 e1 e2 e3) (by decide) ?_
      refine lv_bipush (v := (-5)) hx hb dX0_told_88 (by decide) ?_
      exact z_ret (v := (-5)) (u := u) Z Y (rfl) (⟨rfl, by rw [hT, if_neg e0, if_neg e1, if_neg e2, if_neg e3]⟩) dX0_told_90
  · refine lv_if_ne (tgt := 11) hx hb dX0_told_5 (by decide) (fun c5 => absurd (by decide) c5) (fun _ => ?_)
    refine lv_bipush (v := (-5)) hx hb dX0_told_8 (by decide) ?_
    exact z_ret (v := (-5)) (u := u) Z Y (rfl) (⟨rfl, (spTold_f hw2).symm⟩) dX0_told_10
end
section
/-! ===== FramePool: the rows are copied ===== -/
section ZCP
variable {p : Program} {l : Launch} {e : Env} {R : Room} {s : State} {m : MethodId} {args : Array Value} {below : List Frame} {meth : Method} {c : Code} {H : Heap} {locs : List Loc} {cells slots : Nat} {Q : State → Prop}
variable {cc : ByteArray} {nL : Nat} {ret : Option FieldType} {Ts : List Cond} {own : String} {pc : Nat} {ls : Array Slot} {rest : List Value} {dC : Nat → ClassId} {dI : Nat → Nat → Nat} {ci : Nat} {g : GE} {A : Nat → Prop} {H0 : Heap} {u : CS}
theorem z_cpy34 {index : Nat} (Z : zC p s m args meth c cc nL ret Ts own) (Y : zW dC dI ci g A H0 s u H locs) (hls : ls.size = nL) (hl1 : (Cond.methodLink own index arraycopyName).before args s = true) (hl2 : (Cond.native arraycopyName).before args s = true) (hl3 : (Cond.static arraycopyName).before args s = true) (hl4 : (Cond.initialized "java/lang/System").before args s = true) {sp dp n : Nat} (h4 : sp + n ≤ gn3 g) (h5 : dp + n ≤ gn4 g) (b4 : gn3 g < 2 ^ 31) (b5 : gn4 g < 2 ^ 31) (hfr : 1 ≤ R.frames) (hlo : (rest.map fun v => v.category).sum + (nativeFrameWords "java/lang/System" "arraycopy" 5 + 11) ≤ R.locals) (hdg : decode cc pc = .ok (.invokestatic index, 3))
    (kk : ∀ (H1 : Heap) (locs1 : List Loc), zW dC dI ci g A H0 s (ps4 u (va_cpy (cs3 u) (cs4 u) sp dp n)) H1 locs1 → W p l e R s m args below meth c H1 locs1 cells slots Q (F0 m (pc + 3) ls rest)) : W p l e R s m args below meth c H locs cells slots Q (F0 m pc ls (.int (nI n) :: .int (nI dp) :: .ref (ga4 g) :: .int (nI sp) :: .ref (ga3 g) :: rest)) := by
  obtain ⟨hx, hb, hml, hown, hts, -, -⟩ := Z
  obtain ⟨hK, hP, hD, hS, hA⟩ := Y
  have e1 : (nI sp).toNatClampNeg = sp := nI_clamp (by omega)
  have e2 : (nI dp).toNatClampNeg = dp := nI_clamp (by omega)
  have e3 : (nI n).toNatClampNeg = n := nI_clamp (by omega)
  refine va_copyi hx hb (hml.trans hls.symm) hown hl1 hl2 hl3 hl4 hK hP hD hS 1 2 0 0 (f := cs3 u) (g := cs4 u) rfl rfl rfl rfl rfl (nI_pos (by omega)) (nI_pos (by omega)) (nI_pos (by omega)) (by rw [e1, e3]; exact h4) (by rw [e2, e3]; exact h5) (fun i _ => rfl) hfr hlo hdg (fun H1 locs1 hP1 hD1 hS1 => ?_)
  rw [e1, e2, e3] at hP1 hD1
  exact kk H1 locs1 ⟨hK, hP1, hD1, hS1, hA⟩
theorem z_cpy43 {index : Nat} (Z : zC p s m args meth c cc nL ret Ts own) (Y : zW dC dI ci g A H0 s u H locs) (hls : ls.size = nL) (hl1 : (Cond.methodLink own index arraycopyName).before args s = true) (hl2 : (Cond.native arraycopyName).before args s = true) (hl3 : (Cond.static arraycopyName).before args s = true) (hl4 : (Cond.initialized "java/lang/System").before args s = true) {sp dp n : Nat} (h4 : sp + n ≤ gn4 g) (h5 : dp + n ≤ gn3 g) (b4 : gn4 g < 2 ^ 31) (b5 : gn3 g < 2 ^ 31) (hfr : 1 ≤ R.frames) (hlo : (rest.map fun v => v.category).sum + (nativeFrameWords "java/lang/System" "arraycopy" 5 + 11) ≤ R.locals) (hdg : decode cc pc = .ok (.invokestatic index, 3))
    (kk : ∀ (H1 : Heap) (locs1 : List Loc), zW dC dI ci g A H0 s (ps3 u (va_cpy (cs4 u) (cs3 u) sp dp n)) H1 locs1 → W p l e R s m args below meth c H1 locs1 cells slots Q (F0 m (pc + 3) ls rest)) : W p l e R s m args below meth c H locs cells slots Q (F0 m pc ls (.int (nI n) :: .int (nI dp) :: .ref (ga3 g) :: .int (nI sp) :: .ref (ga4 g) :: rest)) := by
  obtain ⟨hx, hb, hml, hown, hts, -, -⟩ := Z
  obtain ⟨hK, hP, hD, hS, hA⟩ := Y
  have e1 : (nI sp).toNatClampNeg = sp := nI_clamp (by omega)
  have e2 : (nI dp).toNatClampNeg = dp := nI_clamp (by omega)
  have e3 : (nI n).toNatClampNeg = n := nI_clamp (by omega)
  refine va_copyi hx hb (hml.trans hls.symm) hown hl1 hl2 hl3 hl4 hK hP hD hS 2 1 0 0 (f := cs4 u) (g := cs3 u) rfl rfl rfl rfl rfl (nI_pos (by omega)) (nI_pos (by omega)) (nI_pos (by omega)) (by rw [e1, e3]; exact h4) (by rw [e2, e3]; exact h5) (fun i _ => rfl) hfr hlo hdg (fun H1 locs1 hP1 hD1 hS1 => ?_)
  rw [e1, e2, e3] at hP1 hD1
  exact kk H1 locs1 ⟨hK, hP1, hD1, hS1, hA⟩
theorem z_cpy44 {index : Nat} (Z : zC p s m args meth c cc nL ret Ts own) (Y : zW dC dI ci g A H0 s u H locs) (hls : ls.size = nL) (hl1 : (Cond.methodLink own index arraycopyName).before args s = true) (hl2 : (Cond.native arraycopyName).before args s = true) (hl3 : (Cond.static arraycopyName).before args s = true) (hl4 : (Cond.initialized "java/lang/System").before args s = true) {sp dp n : Nat} (h4 : sp + n ≤ gn4 g) (h5 : dp + n ≤ gn4 g) (b4 : gn4 g < 2 ^ 31) (b5 : gn4 g < 2 ^ 31) (hfr : 1 ≤ R.frames) (hlo : (rest.map fun v => v.category).sum + (nativeFrameWords "java/lang/System" "arraycopy" 5 + 11) ≤ R.locals) (hdg : decode cc pc = .ok (.invokestatic index, 3))
    (kk : ∀ (H1 : Heap) (locs1 : List Loc), zW dC dI ci g A H0 s (ps4 u (va_cpy (cs4 u) (cs4 u) sp dp n)) H1 locs1 → W p l e R s m args below meth c H1 locs1 cells slots Q (F0 m (pc + 3) ls rest)) : W p l e R s m args below meth c H locs cells slots Q (F0 m pc ls (.int (nI n) :: .int (nI dp) :: .ref (ga4 g) :: .int (nI sp) :: .ref (ga4 g) :: rest)) := by
  obtain ⟨hx, hb, hml, hown, hts, -, -⟩ := Z
  obtain ⟨hK, hP, hD, hS, hA⟩ := Y
  have e1 : (nI sp).toNatClampNeg = sp := nI_clamp (by omega)
  have e2 : (nI dp).toNatClampNeg = dp := nI_clamp (by omega)
  have e3 : (nI n).toNatClampNeg = n := nI_clamp (by omega)
  refine va_copyi hx hb (hml.trans hls.symm) hown hl1 hl2 hl3 hl4 hK hP hD hS 2 2 0 0 (f := cs4 u) (g := cs4 u) rfl rfl rfl rfl rfl (nI_pos (by omega)) (nI_pos (by omega)) (nI_pos (by omega)) (by rw [e1, e3]; exact h4) (by rw [e2, e3]; exact h5) (fun i _ => rfl) hfr hlo hdg (fun H1 locs1 hP1 hD1 hS1 => ?_)
  rw [e1, e2, e3] at hP1 hD1
  exact kk H1 locs1 ⟨hK, hP1, hD1, hS1, hA⟩
end ZCP
end
section
set_option maxHeartbeats 4000000 in
set_option maxRecDepth 100000 in
theorem kX0_cw34 (l : Launch) (dC : Nat → ClassId) (dI : Nat → Nat → Nat) {g : GE} (hg : gok g) (hX : geS g = geW g) (u : CS) {q f : Nat} (hp : q < geP g) (hf : f < geF g) : zMV l yX0_copyWords wsX0_copyWords ({ frames := 1, cells := 0, slots := 0, locals := 40 }) dC dI 0 g u [.ref (ga3 g), .int (nI (q)), .ref (ga4 g), .int (nI (f))] (fun u1 => ps4 (u) (va_cpy (cs3 u) (cs4 u) (q * geS g) (f * geS g) (geW g)) = u1) := by
  refine zMV_of (cc := cX0_copyWords) (maxL := 5) (ret := none) (by decide) rfl (Nat.le_of_ble_eq_true rfl) ?_
  intro p e s m below meth c A ls Z Y hl
  have hin : ∀ w ∈ wsX00, w ∈ wsX0_copyWords := fun w h => List.mem_cons_of_mem _ (List.mem_append_right _ h)
  obtain ⟨hx, hb, hml, hown, hts, hr, hlk⟩ := id Z
  have L20 := hts (.fieldLink RX0 20 "FramePool" "wordCount" "I") (by decide +kernel)
  have hl : lv_has ls 5 [(0, .ref (ga0 g)), (1, .ref (ga3 g)), (2, .int (nI (q))), (3, .ref (ga4 g)), (4, .int (nI (f)))] := hl
  obtain ⟨b1, b2, b3, b4, b5, b6, b7⟩ := gokB hg
  refine lv_aload_n hx hb dX0_copyWords_0 rfl (lv_at hl 1 rfl) ?_
  refine lv_iload_n hx hb dX0_copyWords_1 rfl (lv_at hl 2 rfl) ?_
  refine lv_aload_n hx hb dX0_copyWords_2 rfl (lv_at hl 0 rfl) ?_
  refine z_get (T := TX0) (v := .int (nI (geW g))) Z hin rfl Y 2 (by decide) L20 rfl rfl dX0_copyWords_3 ?_
  refine lv_imul hx hb dX0_copyWords_6 ?_
  refine z_top (nI (q * geS g)) (by rw [hX]; exact pk_mul _ _) ?_
  refine lv_aload_n hx hb dX0_copyWords_7 rfl (lv_at hl 3 rfl) ?_
  refine lv_iload hx hb dX0_copyWords_8 (lv_at hl 4 rfl) ?_
  refine lv_aload_n hx hb dX0_copyWords_10 rfl (lv_at hl 0 rfl) ?_
  refine z_get (T := TX0) (v := .int (nI (geW g))) Z hin rfl Y 2 (by decide) L20 rfl rfl dX0_copyWords_11 ?_
  refine lv_imul hx hb dX0_copyWords_14 ?_
  refine z_top (nI (f * geS g)) (by rw [hX]; exact pk_mul _ _) ?_
  refine lv_aload_n hx hb dX0_copyWords_15 rfl (lv_at hl 0 rfl) ?_
  refine z_get (T := TX0) (v := .int (nI (geW g))) Z hin rfl Y 2 (by decide) L20 rfl rfl dX0_copyWords_16 ?_
  refine z_cpy34 (rest := []) Z Y hl.1 (hts (.methodLink RX0 108 arraycopyName) (by decide +kernel)) (hts (.native arraycopyName) (by decide +kernel)) (hts (.static arraycopyName) (by decide +kernel)) (hts (.initialized "java/lang/System") (by decide +kernel)) (le3 hg hp) (le4 hg hf) (by omega) (by omega) (Nat.le_of_ble_eq_true rfl) (by decide) dX0_copyWords_19 (fun Hq lq Y => ?_)
  exact z_vret (u := ps4 (u) (va_cpy (cs3 u) (cs4 u) (q * geS g) (f * geS g) (geW g))) Z Y (rfl) dX0_copyWords_22

set_option maxHeartbeats 4000000 in
set_option maxRecDepth 100000 in
theorem kX0_cw43 (l : Launch) (dC : Nat → ClassId) (dI : Nat → Nat → Nat) {g : GE} (hg : gok g) (hX : geS g = geW g) (u : CS) {q f : Nat} (hp : q < geF g) (hf : f < geP g) : zMV l yX0_copyWords wsX0_copyWords ({ frames := 1, cells := 0, slots := 0, locals := 40 }) dC dI 0 g u [.ref (ga4 g), .int (nI (q)), .ref (ga3 g), .int (nI (f))] (fun u1 => ps3 (u) (va_cpy (cs4 u) (cs3 u) (q * geS g) (f * geS g) (geW g)) = u1) := by
  refine zMV_of (cc := cX0_copyWords) (maxL := 5) (ret := none) (by decide) rfl (Nat.le_of_ble_eq_true rfl) ?_
  intro p e s m below meth c A ls Z Y hl
  have hin : ∀ w ∈ wsX00, w ∈ wsX0_copyWords := fun w h => List.mem_cons_of_mem _ (List.mem_append_right _ h)
  obtain ⟨hx, hb, hml, hown, hts, hr, hlk⟩ := id Z
  have L20 := hts (.fieldLink RX0 20 "FramePool" "wordCount" "I") (by decide +kernel)
  have hl : lv_has ls 5 [(0, .ref (ga0 g)), (1, .ref (ga4 g)), (2, .int (nI (q))), (3, .ref (ga3 g)), (4, .int (nI (f)))] := hl
  obtain ⟨b1, b2, b3, b4, b5, b6, b7⟩ := gokB hg
  refine lv_aload_n hx hb dX0_copyWords_0 rfl (lv_at hl 1 rfl) ?_
  refine lv_iload_n hx hb dX0_copyWords_1 rfl (lv_at hl 2 rfl) ?_
  refine lv_aload_n hx hb dX0_copyWords_2 rfl (lv_at hl 0 rfl) ?_
  refine z_get (T := TX0) (v := .int (nI (geW g))) Z hin rfl Y 2 (by decide) L20 rfl rfl dX0_copyWords_3 ?_
  refine lv_imul hx hb dX0_copyWords_6 ?_
  refine z_top (nI (q * geS g)) (by rw [hX]; exact pk_mul _ _) ?_
  refine lv_aload_n hx hb dX0_copyWords_7 rfl (lv_at hl 3 rfl) ?_
  refine lv_iload hx hb dX0_copyWords_8 (lv_at hl 4 rfl) ?_
  refine lv_aload_n hx hb dX0_copyWords_10 rfl (lv_at hl 0 rfl) ?_
  refine z_get (T := TX0) (v := .int (nI (geW g))) Z hin rfl Y 2 (by decide) L20 rfl rfl dX0_copyWords_11 ?_
  refine lv_imul hx hb dX0_copyWords_14 ?_
  refine z_top (nI (f * geS g)) (by rw [hX]; exact pk_mul _ _) ?_
  refine lv_aload_n hx hb dX0_copyWords_15 rfl (lv_at hl 0 rfl) ?_
  refine z_get (T := TX0) (v := .int (nI (geW g))) Z hin rfl Y 2 (by decide) L20 rfl rfl dX0_copyWords_16 ?_
  refine z_cpy43 (rest := []) Z Y hl.1 (hts (.methodLink RX0 108 arraycopyName) (by decide +kernel)) (hts (.native arraycopyName) (by decide +kernel)) (hts (.static arraycopyName) (by decide +kernel)) (hts (.initialized "java/lang/System") (by decide +kernel)) (le4 hg hp) (le3 hg hf) (by omega) (by omega) (Nat.le_of_ble_eq_true rfl) (by decide) dX0_copyWords_19 (fun Hq lq Y => ?_)
  exact z_vret (u := ps3 (u) (va_cpy (cs4 u) (cs3 u) (q * geS g) (f * geS g) (geW g))) Z Y (rfl) dX0_copyWords_22

set_option maxHeartbeats 4000000 in
set_option maxRecDepth 100000 in
theorem kX0_cw44 (l : Launch) (dC : Nat → ClassId) (dI : Nat → Nat → Nat) {g : GE} (hg : gok g) (hX : geS g = geW g) (u : CS) {q f : Nat} (hp : q < geF g) (hf : f < geF g) : zMV l yX0_copyWords wsX0_copyWords ({ frames := 1, cells := 0, slots := 0, locals := 40 }) dC dI 0 g u [.ref (ga4 g), .int (nI (q)), .ref (ga4 g), .int (nI (f))] (fun u1 => ps4 (u) (va_cpy (cs4 u) (cs4 u) (q * geS g) (f * geS g) (geW g)) = u1) := by
  refine zMV_of (cc := cX0_copyWords) (maxL := 5) (ret := none) (by decide) rfl (Nat.le_of_ble_eq_true rfl) ?_
  intro p e s m below meth c A ls Z Y hl
  have hin : ∀ w ∈ wsX00, w ∈ wsX0_copyWords := fun w h => List.mem_cons_of_mem _ (List.mem_append_right _ h)
  obtain ⟨hx, hb, hml, hown, hts, hr, hlk⟩ := id Z
  have L20 := hts (.fieldLink RX0 20 "FramePool" "wordCount" "I") (by decide +kernel)
  have hl : lv_has ls 5 [(0, .ref (ga0 g)), (1, .ref (ga4 g)), (2, .int (nI (q))), (3, .ref (ga4 g)), (4, .int (nI (f)))] := hl
  obtain ⟨b1, b2, b3, b4, b5, b6, b7⟩ := gokB hg
  refine lv_aload_n hx hb dX0_copyWords_0 rfl (lv_at hl 1 rfl) ?_
  refine lv_iload_n hx hb dX0_copyWords_1 rfl (lv_at hl 2 rfl) ?_
  refine lv_aload_n hx hb dX0_copyWords_2 rfl (lv_at hl 0 rfl) ?_
  refine z_get (T := TX0) (v := .int (nI (geW g))) Z hin rfl Y 2 (by decide) L20 rfl rfl dX0_copyWords_3 ?_
  refine lv_imul hx hb dX0_copyWords_6 ?_
  refine z_top (nI (q * geS g)) (by rw [hX]; exact pk_mul _ _) ?_
  refine lv_aload_n hx hb dX0_copyWords_7 rfl (lv_at hl 3 rfl) ?_
  refine lv_iload hx hb dX0_copyWords_8 (lv_at hl 4 rfl) ?_
  refine lv_aload_n hx hb dX0_copyWords_10 rfl (lv_at hl 0 rfl) ?_
  refine z_get (T := TX0) (v := .int (nI (geW g))) Z hin rfl Y 2 (by decide) L20 rfl rfl dX0_copyWords_11 ?_
  refine lv_imul hx hb dX0_copyWords_14 ?_
  refine z_top (nI (f * geS g)) (by rw [hX]; exact pk_mul _ _) ?_
  refine lv_aload_n hx hb dX0_copyWords_15 rfl (lv_at hl 0 rfl) ?_
  refine z_get (T := TX0) (v := .int (nI (geW g))) Z hin rfl Y 2 (by decide) L20 rfl rfl dX0_copyWords_16 ?_
  refine z_cpy44 (rest := []) Z Y hl.1 (hts (.methodLink RX0 108 arraycopyName) (by decide +kernel)) (hts (.native arraycopyName) (by decide +kernel)) (hts (.static arraycopyName) (by decide +kernel)) (hts (.initialized "java/lang/System") (by decide +kernel)) (le4 hg hp) (le4 hg hf) (by omega) (by omega) (Nat.le_of_ble_eq_true rfl) (by decide) dX0_copyWords_19 (fun Hq lq Y => ?_)
  exact z_vret (u := ps4 (u) (va_cpy (cs4 u) (cs4 u) (q * geS g) (f * geS g) (geW g))) Z Y (rfl) dX0_copyWords_22

set_option maxHeartbeats 4000000 in
set_option maxRecDepth 100000 in
theorem kX0_makeEmpty (l : Launch) (dC : Nat → ClassId) (dI : Nat → Nat → Nat) {g : GE} (hg : gok g) (u : CS) {f : Nat} (hf : f < geF g) : zMV l yX0_makeEmpty wsX0_makeEmpty ({ frames := 0, cells := 0, slots := 0, locals := 0 }) dC dI 0 g u [.int (nI (f))] (fun u1 => (cs3 u, cs4 u, upd (cs5 u) f (-1), upd (cs6 u) f (nI 0), upd (cs7 u) f (nI 0), upd (cs8 u) f (nI 0), csh u, csr u, csw u) = u1) := by
  refine zMV_of (cc := cX0_makeEmpty) (maxL := 2) (ret := none) (by decide) rfl (Nat.le_of_ble_eq_true rfl) ?_
  intro p e s m below meth c A ls Z Y hl
  have hin : ∀ w ∈ wsX00, w ∈ wsX0_makeEmpty := fun w h => List.mem_cons_of_mem _ (List.mem_append_right _ h)
  obtain ⟨hx, hb, hml, hown, hts, hr, hlk⟩ := id Z
  have L30 := hts (.fieldLink RX0 30 "FramePool" "pageIn" "[I") (by decide +kernel)
  have L33 := hts (.fieldLink RX0 33 "FramePool" "pins" "[I") (by decide +kernel)
  have L36 := hts (.fieldLink RX0 36 "FramePool" "dirty" "[Z") (by decide +kernel)
  have L40 := hts (.fieldLink RX0 40 "FramePool" "marked" "[Z") (by decide +kernel)
  have hl : lv_has ls 2 [(0, .ref (ga0 g)), (1, .int (nI (f)))] := hl
  obtain ⟨b1, b2, b3, b4, b5, b6, b7⟩ := gokB hg
  refine lv_aload_n hx hb dX0_makeEmpty_0 rfl (lv_at hl 0 rfl) ?_
  refine z_get (T := TX0) (v := .ref (ga5 g)) Z hin rfl Y 5 (by decide) L30 rfl rfl dX0_makeEmpty_1 ?_
  refine lv_iload_n hx hb dX0_makeEmpty_4 rfl (lv_at hl 1 rfl) ?_
  refine lv_iconst (v := (-1)) hx hb dX0_makeEmpty_5 (by decide) ?_
  refine z_st5 (x := (-1)) Z Y (f) (rfl) (by omega) (by omega) dX0_makeEmpty_6 (fun Hq lq Y => ?_)
  refine lv_aload_n hx hb dX0_makeEmpty_7 rfl (lv_at hl 0 rfl) ?_
  refine z_get (T := TX0) (v := .ref (ga6 g)) Z hin rfl Y 6 (by decide) L33 rfl rfl dX0_makeEmpty_8 ?_
  refine lv_iload_n hx hb dX0_makeEmpty_11 rfl (lv_at hl 1 rfl) ?_
  refine lv_iconst (v := nI (0)) hx hb dX0_makeEmpty_12 (by decide) ?_
  refine z_st6 (x := nI (0)) Z Y (f) (rfl) (by omega) (by omega) dX0_makeEmpty_13 (fun Hq lq Y => ?_)
  refine lv_aload_n hx hb dX0_makeEmpty_14 rfl (lv_at hl 0 rfl) ?_
  refine z_get (T := TX0) (v := .ref (ga7 g)) Z hin rfl Y 7 (by decide) L36 rfl rfl dX0_makeEmpty_15 ?_
  refine lv_iload_n hx hb dX0_makeEmpty_18 rfl (lv_at hl 1 rfl) ?_
  refine lv_iconst (v := nI (0)) hx hb dX0_makeEmpty_19 (by decide) ?_
  refine z_st7 (x := nI (0)) Z Y (f) (rfl) (by omega) (by omega) (by decide) dX0_makeEmpty_20 (fun Hq lq Y => ?_)
  refine lv_aload_n hx hb dX0_makeEmpty_21 rfl (lv_at hl 0 rfl) ?_
  refine z_get (T := TX0) (v := .ref (ga8 g)) Z hin rfl Y 8 (by decide) L40 rfl rfl dX0_makeEmpty_22 ?_
  refine lv_iload_n hx hb dX0_makeEmpty_25 rfl (lv_at hl 1 rfl) ?_
  refine lv_iconst (v := nI (0)) hx hb dX0_makeEmpty_26 (by decide) ?_
  refine z_st8 (x := nI (0)) Z Y (f) (rfl) (by omega) (by omega) (by decide) dX0_makeEmpty_27 (fun Hq lq Y => ?_)
  exact z_vret (u := ps8 (ps7 (ps6 (ps5 (u) (upd (cs5 (u)) (f) ((-1)))) (upd (cs6 (ps5 (u) (upd (cs5 (u)) (f) ((-1))))) (f) (nI (0)))) (upd (cs7 (ps6 (ps5 (u) (upd (cs5 (u)) (f) ((-1)))) (upd (cs6 (ps5 (u) (upd (cs5 (u)) (f) ((-1))))) (f) (nI (0))))) (f) (nI (0)))) (upd (cs8 (ps7 (ps6 (ps5 (u) (upd (cs5 (u)) (f) ((-1)))) (upd (cs6 (ps5 (u) (upd (cs5 (u)) (f) ((-1))))) (f) (nI (0)))) (upd (cs7 (ps6 (ps5 (u) (upd (cs5 (u)) (f) ((-1)))) (upd (cs6 (ps5 (u) (upd (cs5 (u)) (f) ((-1))))) (f) (nI (0))))) (f) (nI (0))))) (f) (nI (0)))) Z Y (rfl) dX0_makeEmpty_28

set_option maxHeartbeats 4000000 in
set_option maxRecDepth 100000 in
theorem kX0_writeBack (l : Launch) (dC : Nat → ClassId) (dI : Nat → Nat → Nat) {g : GE} {N : Nat} {a : AS} {u : CS} (hR : Rep g N a u) (hX : geS g = geW g) {f q : Nat} (hf : f < geF g) (hq : q < geP g) (hp : apg a f = nI q) : zMV l yX0_writeBack wsX0_writeBack ({ frames := 2, cells := 0, slots := 0, locals := 64 }) dC dI 0 g u [.int (nI (f))] (fun u1 => Rep g N (oStore f q a) u1) := by
  refine zMV_of (cc := cX0_writeBack) (maxL := 2) (ret := none) (by decide) rfl (Nat.le_of_ble_eq_true rfl) ?_
  intro p e s m below meth c A ls Z Y hl
  have hin : ∀ w ∈ wsX00, w ∈ wsX0_writeBack := fun w h => List.mem_cons_of_mem _ (List.mem_append_right _ h)
  obtain ⟨hx, hb, hml, hown, hts, hr, hlk⟩ := id Z
  have L23 := hts (.fieldLink RX0 23 "FramePool" "diskWords" "[I") (by decide +kernel)
  have L27 := hts (.fieldLink RX0 27 "FramePool" "frameWords" "[I") (by decide +kernel)
  have L30 := hts (.fieldLink RX0 30 "FramePool" "pageIn" "[I") (by decide +kernel)
  have L36 := hts (.fieldLink RX0 36 "FramePool" "dirty" "[Z") (by decide +kernel)
  have L56 := hts (.fieldLink RX0 56 "FramePool" "writes" "I") (by decide +kernel)
  have hl : lv_has ls 2 [(0, .ref (ga0 g)), (1, .int (nI (f)))] := hl
  have hg := hR.1
  have hN := hR.2.1
  obtain ⟨b1, b2, b3, b4, b5, b6, b7⟩ := gokB hg
  obtain ⟨r3, r4, r5, r6, r7, r8, r9, r10, r11⟩ := id hR.2.2.1
  obtain ⟨i1, i2, i3, i4, i5⟩ := id hR.2.2.2
  refine lv_aload_n hx hb dX0_writeBack_0 rfl (lv_at hl 0 rfl) ?_
  refine lv_aload_n hx hb dX0_writeBack_1 rfl (lv_at hl 0 rfl) ?_
  refine z_get (T := TX0) (v := .ref (ga4 g)) Z hin rfl Y 4 (by decide) L27 rfl rfl dX0_writeBack_2 ?_
  refine lv_iload_n hx hb dX0_writeBack_5 rfl (lv_at hl 1 rfl) ?_
  refine lv_aload_n hx hb dX0_writeBack_6 rfl (lv_at hl 0 rfl) ?_
  refine z_get (T := TX0) (v := .ref (ga3 g)) Z hin rfl Y 3 (by decide) L23 rfl rfl dX0_writeBack_7 ?_
  refine lv_aload_n hx hb dX0_writeBack_10 rfl (lv_at hl 0 rfl) ?_
  refine z_get (T := TX0) (v := .ref (ga5 g)) Z hin rfl Y 5 (by decide) L30 rfl rfl dX0_writeBack_11 ?_
  refine lv_iload_n hx hb dX0_writeBack_14 rfl (lv_at hl 1 rfl) ?_
  refine z_ld5 Z Y (f) (rfl) (by omega) (by omega) dX0_writeBack_15 ?_
  refine z_top (nI (q)) ((r5 f hf).trans hp) ?_
  refine z_callV (rest := []) Z Y rfl (kX0_cw43 l dC dI hg hX u hf hq) (cwV 4 hts gX0_writeBack_X0_copyWords rfl rfl rfl (by decide +kernel) ⟨Nat.le_of_ble_eq_true rfl, Nat.le_of_ble_eq_true rfl⟩) rfl hl.1 rfl (Nat.le_of_ble_eq_true rfl) dX0_writeBack_16 ⟨Nat.zero_le _, Nat.zero_le _⟩ (fun u16 Hq lq hw Y => ?_)
  subst hw
  refine lv_aload_n hx hb dX0_writeBack_19 rfl (lv_at hl 0 rfl) ?_
  refine z_get (T := TX0) (v := .ref (ga7 g)) Z hin rfl Y 7 (by decide) L36 rfl rfl dX0_writeBack_20 ?_
  refine lv_iload_n hx hb dX0_writeBack_23 rfl (lv_at hl 1 rfl) ?_
  refine lv_iconst (v := nI (0)) hx hb dX0_writeBack_24 (by decide) ?_
  refine z_st7 (x := nI (0)) Z Y (f) (rfl) (by omega) (by omega) (by decide) dX0_writeBack_25 (fun Hq lq Y => ?_)
  refine lv_aload_n hx hb dX0_writeBack_26 rfl (lv_at hl 0 rfl) ?_
  refine lv_dup hx hb dX0_writeBack_27 rfl ?_
  refine z_get (T := TX0) (v := .int (csw (ps7 (ps3 (u) (va_cpy (cs4 u) (cs3 u) (f * geS g) (q * geS g) (geW g))) (upd (cs7 (ps3 (u) (va_cpy (cs4 u) (cs3 u) (f * geS g) (q * geS g) (geW g)))) (f) (nI (0)))))) Z hin rfl Y 11 (by decide) L56 rfl rfl dX0_writeBack_28 ?_
  refine lv_iconst (v := nI (1)) hx hb dX0_writeBack_31 (by decide) ?_
  refine lv_iadd hx hb dX0_writeBack_32 ?_
  refine z_putw (T := TX0) (v := (csw (ps7 (ps3 (u) (va_cpy (cs4 u) (cs3 u) (f * geS g) (q * geS g) (geW g))) (upd (cs7 (ps3 (u) (va_cpy (cs4 u) (cs3 u) (f * geS g) (q * geS g) (geW g)))) (f) (nI (0)))) + nI (1))) Z hin tyX0_ok nmX0 rfl Y L56 rfl rfl rfl dX0_writeBack_33 (fun Hq lq Y => ?_)
  exact z_vret (u := psw (ps7 (ps3 (u) (va_cpy (cs4 u) (cs3 u) (f * geS g) (q * geS g) (geW g))) (upd (cs7 (ps3 (u) (va_cpy (cs4 u) (cs3 u) (f * geS g) (q * geS g) (geW g)))) (f) (nI (0)))) ((csw (ps7 (ps3 (u) (va_cpy (cs4 u) (cs3 u) (f * geS g) (q * geS g) (geW g))) (upd (cs7 (ps3 (u) (va_cpy (cs4 u) (cs3 u) (f * geS g) (q * geS g) (geW g)))) (f) (nI (0)))) + nI (1)))) Z Y (⟨hg, hN, Rp_store q hg hf hR.2.2.1, Iv_store f q hR.2.2.2⟩) dX0_writeBack_36

set_option maxHeartbeats 4000000 in
set_option maxRecDepth 100000 in
theorem kX0_readInto (l : Launch) (dC : Nat → ClassId) (dI : Nat → Nat → Nat) {g : GE} {N : Nat} {a : AS} {u : CS} (hR : Rep g N a u) (hX : geS g = geW g) {f q : Nat} (hf : f < geF g) (hq : q < geP g) (hno : ∀ k, k < geF g → apg a k ≠ nI q) : zMV l yX0_readInto wsX0_readInto ({ frames := 2, cells := 0, slots := 0, locals := 64 }) dC dI 0 g u [.int (nI (f)), .int (nI (q))] (fun u1 => Rep g N (oRead f q a) u1) := by
  refine zMV_of (cc := cX0_readInto) (maxL := 3) (ret := none) (by decide) rfl (Nat.le_of_ble_eq_true rfl) ?_
  intro p e s m below meth c A ls Z Y hl
  have hin : ∀ w ∈ wsX00, w ∈ wsX0_readInto := fun w h => List.mem_cons_of_mem _ (List.mem_append_right _ h)
  obtain ⟨hx, hb, hml, hown, hts, hr, hlk⟩ := id Z
  have L23 := hts (.fieldLink RX0 23 "FramePool" "diskWords" "[I") (by decide +kernel)
  have L27 := hts (.fieldLink RX0 27 "FramePool" "frameWords" "[I") (by decide +kernel)
  have L30 := hts (.fieldLink RX0 30 "FramePool" "pageIn" "[I") (by decide +kernel)
  have L53 := hts (.fieldLink RX0 53 "FramePool" "reads" "I") (by decide +kernel)
  have hl : lv_has ls 3 [(0, .ref (ga0 g)), (1, .int (nI (f))), (2, .int (nI (q)))] := hl
  have hg := hR.1
  have hN := hR.2.1
  obtain ⟨b1, b2, b3, b4, b5, b6, b7⟩ := gokB hg
  obtain ⟨r3, r4, r5, r6, r7, r8, r9, r10, r11⟩ := id hR.2.2.1
  obtain ⟨i1, i2, i3, i4, i5⟩ := id hR.2.2.2
  refine lv_aload_n hx hb dX0_readInto_0 rfl (lv_at hl 0 rfl) ?_
  refine lv_aload_n hx hb dX0_readInto_1 rfl (lv_at hl 0 rfl) ?_
  refine z_get (T := TX0) (v := .ref (ga3 g)) Z hin rfl Y 3 (by decide) L23 rfl rfl dX0_readInto_2 ?_
  refine lv_iload_n hx hb dX0_readInto_5 rfl (lv_at hl 2 rfl) ?_
  refine lv_aload_n hx hb dX0_readInto_6 rfl (lv_at hl 0 rfl) ?_
  refine z_get (T := TX0) (v := .ref (ga4 g)) Z hin rfl Y 4 (by decide) L27 rfl rfl dX0_readInto_7 ?_
  refine lv_iload_n hx hb dX0_readInto_10 rfl (lv_at hl 1 rfl) ?_
  refine z_callV (rest := []) Z Y rfl (kX0_cw34 l dC dI hg hX u hq hf) (cwV 4 hts gX0_readInto_X0_copyWords rfl rfl rfl (by decide +kernel) ⟨Nat.le_of_ble_eq_true rfl, Nat.le_of_ble_eq_true rfl⟩) rfl hl.1 rfl (Nat.le_of_ble_eq_true rfl) dX0_readInto_11 ⟨Nat.zero_le _, Nat.zero_le _⟩ (fun u11 Hq lq hw Y => ?_)
  subst hw
  refine lv_aload_n hx hb dX0_readInto_14 rfl (lv_at hl 0 rfl) ?_
  refine z_get (T := TX0) (v := .ref (ga5 g)) Z hin rfl Y 5 (by decide) L30 rfl rfl dX0_readInto_15 ?_
  refine lv_iload_n hx hb dX0_readInto_18 rfl (lv_at hl 1 rfl) ?_
  refine lv_iload_n hx hb dX0_readInto_19 rfl (lv_at hl 2 rfl) ?_
  refine z_st5 (x := nI (q)) Z Y (f) (rfl) (by omega) (by omega) dX0_readInto_20 (fun Hq lq Y => ?_)
  refine lv_aload_n hx hb dX0_readInto_21 rfl (lv_at hl 0 rfl) ?_
  refine lv_dup hx hb dX0_readInto_22 rfl ?_
  refine z_get (T := TX0) (v := .int (csr (ps5 (ps4 (u) (va_cpy (cs3 u) (cs4 u) (q * geS g) (f * geS g) (geW g))) (upd (cs5 (ps4 (u) (va_cpy (cs3 u) (cs4 u) (q * geS g) (f * geS g) (geW g)))) (f) (nI (q)))))) Z hin rfl Y 10 (by decide) L53 rfl rfl dX0_readInto_23 ?_
  refine lv_iconst (v := nI (1)) hx hb dX0_readInto_26 (by decide) ?_
  refine lv_iadd hx hb dX0_readInto_27 ?_
  refine z_putr (T := TX0) (v := (csr (ps5 (ps4 (u) (va_cpy (cs3 u) (cs4 u) (q * geS g) (f * geS g) (geW g))) (upd (cs5 (ps4 (u) (va_cpy (cs3 u) (cs4 u) (q * geS g) (f * geS g) (geW g)))) (f) (nI (q)))) + nI (1))) Z hin tyX0_ok nmX0 rfl Y L53 rfl rfl rfl dX0_readInto_28 (fun Hq lq Y => ?_)
  exact z_vret (u := psr (ps5 (ps4 (u) (va_cpy (cs3 u) (cs4 u) (q * geS g) (f * geS g) (geW g))) (upd (cs5 (ps4 (u) (va_cpy (cs3 u) (cs4 u) (q * geS g) (f * geS g) (geW g)))) (f) (nI (q)))) ((csr (ps5 (ps4 (u) (va_cpy (cs3 u) (cs4 u) (q * geS g) (f * geS g) (geW g))) (upd (cs5 (ps4 (u) (va_cpy (cs3 u) (cs4 u) (q * geS g) (f * geS g) (geW g)))) (f) (nI (q)))) + nI (1)))) Z Y (⟨hg, hN, Rp_read f hg hq hR.2.2.1, Iv_read hq b2 hno hR.2.2.2⟩) dX0_readInto_31

set_option maxHeartbeats 4000000 in
set_option maxRecDepth 100000 in
theorem kX0_moveHand (l : Launch) (dC : Nat → ClassId) (dI : Nat → Nat → Nat) {g : GE} {N : Nat} {a : AS} {u : CS} (hR : Rep g N a u) : zMV l yX0_moveHand wsX0_moveHand ({ frames := 0, cells := 0, slots := 0, locals := 0 }) dC dI 0 g u [] (fun u1 => Rep g N (oHand (nx g (ahd a)) a) u1) := by
  refine zMV_of (cc := cX0_moveHand) (maxL := 1) (ret := none) (by decide) rfl (Nat.le_of_ble_eq_true rfl) ?_
  intro p e s m below meth c A ls Z Y hl
  have hin : ∀ w ∈ wsX00, w ∈ wsX0_moveHand := fun w h => List.mem_cons_of_mem _ (List.mem_append_right _ h)
  obtain ⟨hx, hb, hml, hown, hts, hr, hlk⟩ := id Z
  have L13 := hts (.fieldLink RX0 13 "FramePool" "frameCount" "I") (by decide +kernel)
  have L50 := hts (.fieldLink RX0 50 "FramePool" "handAt" "I") (by decide +kernel)
  have hl : lv_has ls 1 [(0, .ref (ga0 g))] := hl
  have hg := hR.1
  have hN := hR.2.1
  obtain ⟨b1, b2, b3, b4, b5, b6, b7⟩ := gokB hg
  obtain ⟨r3, r4, r5, r6, r7, r8, r9, r10, r11⟩ := id hR.2.2.1
  obtain ⟨i1, i2, i3, i4, i5⟩ := id hR.2.2.2
  refine lv_aload_n hx hb dX0_moveHand_0 rfl (lv_at hl 0 rfl) ?_
  refine lv_aload_n hx hb dX0_moveHand_1 rfl (lv_at hl 0 rfl) ?_
  refine z_get (T := TX0) (v := .int (csh (u))) Z hin rfl Y 9 (by decide) L50 rfl rfl dX0_moveHand_2 ?_
  refine z_top (nI (ahd a)) (r9) ?_
  refine lv_iconst (v := nI (1)) hx hb dX0_moveHand_5 (by decide) ?_
  refine lv_iadd hx hb dX0_moveHand_6 ?_
  refine z_top (nI ((ahd a) + (1))) (nI_add (ahd a) (1)) ?_
  refine lv_aload_n hx hb dX0_moveHand_7 rfl (lv_at hl 0 rfl) ?_
  refine z_get (T := TX0) (v := .int (nI (geF g))) Z hin rfl Y 0 (by decide) L13 rfl rfl dX0_moveHand_8 ?_
  refine lv_icmp_ge (tgt := 23) hx hb dX0_moveHand_11 (by decide) (fun c11 => ?_) (fun c11 => ?_)
  · refine lv_iconst (v := nI (0)) hx hb dX0_moveHand_23 (by decide) ?_
    refine z_puth (T := TX0) (v := nI (0)) Z hin tyX0_ok nmX0 rfl Y L50 rfl rfl rfl dX0_moveHand_24 (fun Hq lq Y => ?_)
    exact z_vret (u := psh (u) (nI (0))) Z Y (by rw [nx_f (g := g) (h := ahd a) (by have := (nI_leI b1 (by omega)).mp c11; omega)]; exact ⟨hg, hN, Rp_hand 0 hR.2.2.1, Iv_hand (by omega) hR.2.2.2⟩) dX0_moveHand_27
  · have hlt : ahd a + 1 < geF g := Nat.not_le.mp fun z => c11 ((nI_leI b1 (by omega)).mpr z)
    refine lv_aload_n hx hb dX0_moveHand_14 rfl (lv_at hl 0 rfl) ?_
    refine z_get (T := TX0) (v := .int (csh (u))) Z hin rfl Y 9 (by decide) L50 rfl rfl dX0_moveHand_15 ?_
    refine z_top (nI (ahd a)) (r9) ?_
    refine lv_iconst (v := nI (1)) hx hb dX0_moveHand_18 (by decide) ?_
    refine lv_iadd hx hb dX0_moveHand_19 ?_
    refine z_top (nI ((ahd a) + (1))) (nI_add (ahd a) (1)) ?_
    refine lv_goto (tgt := 24) hx hb dX0_moveHand_20 (by decide) ?_
    refine z_puth (T := TX0) (v := nI ((ahd a) + (1))) Z hin tyX0_ok nmX0 rfl Y L50 rfl rfl rfl dX0_moveHand_24 (fun Hq lq Y => ?_)
    exact z_vret (u := psh (u) (nI ((ahd a) + (1)))) Z Y (by rw [nx_t (g := g) hlt]; exact ⟨hg, hN, Rp_hand (ahd a + 1) hR.2.2.1, Iv_hand hlt hR.2.2.2⟩) dX0_moveHand_27

set_option maxHeartbeats 4000000 in
set_option maxRecDepth 100000 in
theorem kX0_givesWay (l : Launch) (dC : Nat → ClassId) (dI : Nat → Nat → Nat) {g : GE} {N : Nat} {a : AS} {u : CS} (hR : Rep g N a u) (hX : geS g = geW g) {f : Nat} (hf : f < geF g) : zMI l yX0_givesWay wsX0_givesWay ({ frames := 3, cells := 0, slots := 0, locals := 85 }) dC dI 0 g u [.int (nI (f))] (fun r u1 => r = bI (gw f a).1 ∧ Rep g N (gw f a).2 u1) := by
  refine zMI_of (cc := cX0_givesWay) (maxL := 2) (ret := (some .boolean)) (by decide) rfl (Nat.le_of_ble_eq_true rfl) ?_
  intro p e s m below meth c A ls Z Y hl
  have hin : ∀ w ∈ wsX00, w ∈ wsX0_givesWay := fun w h => List.mem_cons_of_mem _ (List.mem_append_right _ h)
  obtain ⟨hx, hb, hml, hown, hts, hr, hlk⟩ := id Z
  have L30 := hts (.fieldLink RX0 30 "FramePool" "pageIn" "[I") (by decide +kernel)
  have L33 := hts (.fieldLink RX0 33 "FramePool" "pins" "[I") (by decide +kernel)
  have L36 := hts (.fieldLink RX0 36 "FramePool" "dirty" "[Z") (by decide +kernel)
  have L40 := hts (.fieldLink RX0 40 "FramePool" "marked" "[Z") (by decide +kernel)
  have hl : lv_has ls 2 [(0, .ref (ga0 g)), (1, .int (nI (f)))] := hl
  have hg := hR.1
  have hN := hR.2.1
  obtain ⟨b1, b2, b3, b4, b5, b6, b7⟩ := gokB hg
  obtain ⟨r3, r4, r5, r6, r7, r8, r9, r10, r11⟩ := id hR.2.2.1
  obtain ⟨i1, i2, i3, i4, i5⟩ := id hR.2.2.2
  refine lv_aload_n hx hb dX0_givesWay_0 rfl (lv_at hl 0 rfl) ?_
  refine z_get (T := TX0) (v := .ref (ga6 g)) Z hin rfl Y 6 (by decide) L33 rfl rfl dX0_givesWay_1 ?_
  refine lv_iload_n hx hb dX0_givesWay_4 rfl (lv_at hl 1 rfl) ?_
  refine z_ld6 Z Y (f) (rfl) (by omega) (by omega) dX0_givesWay_5 ?_
  refine z_top (nI (apn a f)) (r6 f hf) ?_
  have hb6 : apn a f < 2 ^ 31 := by have := pn31 hR hf; omega
  refine lv_if_le (tgt := 11) hx hb dX0_givesWay_6 (by decide) (fun c6 => ?_) (fun c6 => ?_)
  · have h0 : ¬ 0 < apn a f := by have := (nI_le0 hb6).mp c6; omega
    refine lv_aload_n hx hb dX0_givesWay_11 rfl (lv_at hl 0 rfl) ?_
    refine z_get (T := TX0) (v := .ref (ga5 g)) Z hin rfl Y 5 (by decide) L30 rfl rfl dX0_givesWay_12 ?_
    refine lv_iload_n hx hb dX0_givesWay_15 rfl (lv_at hl 1 rfl) ?_
    refine z_ld5 Z Y (f) (rfl) (by omega) (by omega) dX0_givesWay_16 ?_
    refine z_top (apg a f) (r5 f hf) ?_
    refine lv_iconst (v := (-1)) hx hb dX0_givesWay_17 (by decide) ?_
    refine lv_icmp_ne (tgt := 23) hx hb dX0_givesWay_18 (by decide) (fun c18 => ?_) (fun c18 => ?_)
    · refine lv_aload_n hx hb dX0_givesWay_23 rfl (lv_at hl 0 rfl) ?_
      refine z_get (T := TX0) (v := .ref (ga8 g)) Z hin rfl Y 8 (by decide) L40 rfl rfl dX0_givesWay_24 ?_
      refine lv_iload_n hx hb dX0_givesWay_27 rfl (lv_at hl 1 rfl) ?_
      refine z_ld8 Z Y (f) (rfl) (by omega) (by omega) dX0_givesWay_28 ?_
      refine z_top (amk a f) (r8 f hf) ?_
      refine lv_if_eq (tgt := 41) hx hb dX0_givesWay_29 (by decide) (fun c29 => ?_) (fun c29 => ?_)
      · refine lv_aload_n hx hb dX0_givesWay_41 rfl (lv_at hl 0 rfl) ?_
        refine z_get (T := TX0) (v := .ref (ga7 g)) Z hin rfl Y 7 (by decide) L36 rfl rfl dX0_givesWay_42 ?_
        refine lv_iload_n hx hb dX0_givesWay_45 rfl (lv_at hl 1 rfl) ?_
        refine z_ld7 Z Y (f) (rfl) (by omega) (by omega) dX0_givesWay_46 ?_
        refine z_top (adt a f) (r7 f hf) ?_
        refine lv_if_eq (tgt := 55) hx hb dX0_givesWay_47 (by decide) (fun c47 => ?_) (fun c47 => ?_)
        · refine lv_aload_n hx hb dX0_givesWay_55 rfl (lv_at hl 0 rfl) ?_
          refine lv_iload_n hx hb dX0_givesWay_56 rfl (lv_at hl 1 rfl) ?_
          refine z_callV (rest := []) Z Y rfl (kX0_makeEmpty l dC dI hg u hf) (cwV 1 hts gX0_givesWay_X0_makeEmpty rfl rfl rfl (by decide +kernel) ⟨Nat.le_of_ble_eq_true rfl, Nat.le_of_ble_eq_true rfl⟩) rfl hl.1 rfl (Nat.le_of_ble_eq_true rfl) dX0_givesWay_57 ⟨Nat.zero_le _, Nat.zero_le _⟩ (fun u57 Hq lq hw Y => ?_)
          skip
          subst hw
          refine lv_iconst (v := nI (1)) hx hb dX0_givesWay_60 (by decide) ?_
          exact z_ret (v := nI (1)) (u := (cs3 u, cs4 u, upd (cs5 u) f (-1), upd (cs6 u) f (nI 0), upd (cs7 u) f (nI 0), upd (cs8 u) f (nI 0), csh u, csr u, csw u)) Z Y (rfl) (⟨by rw [gw_clean h0 c18 c29 c47]; rfl, by rw [gw_clean h0 c18 c29 c47]; exact ⟨hg, hN, Rp_empty f hR.2.2.1, Iv_empty f hR.2.2.2⟩⟩) dX0_givesWay_61
        · obtain ⟨q, hq, hpq⟩ := dt_pg hR.2.2.2 hf c47
          refine lv_aload_n hx hb dX0_givesWay_50 rfl (lv_at hl 0 rfl) ?_
          refine lv_iload_n hx hb dX0_givesWay_51 rfl (lv_at hl 1 rfl) ?_
          refine z_callV (rest := []) Z Y rfl (kX0_writeBack l dC dI hR hX hf hq hpq) (cwV 1 hts gX0_givesWay_X0_writeBack rfl rfl rfl (by decide +kernel) ⟨Nat.le_of_ble_eq_true rfl, Nat.le_of_ble_eq_true rfl⟩) rfl hl.1 rfl (Nat.le_of_ble_eq_true rfl) dX0_givesWay_52 ⟨Nat.zero_le _, Nat.zero_le _⟩ (fun u52 Hq lq hw Y => ?_)
          have hR52 := hw
          refine lv_aload_n hx hb dX0_givesWay_55 rfl (lv_at hl 0 rfl) ?_
          refine lv_iload_n hx hb dX0_givesWay_56 rfl (lv_at hl 1 rfl) ?_
          refine z_callV (rest := []) Z Y rfl (kX0_makeEmpty l dC dI hg u52 hf) (cwV 1 hts gX0_givesWay_X0_makeEmpty rfl rfl rfl (by decide +kernel) ⟨Nat.le_of_ble_eq_true rfl, Nat.le_of_ble_eq_true rfl⟩) rfl hl.1 rfl (Nat.le_of_ble_eq_true rfl) dX0_givesWay_57 ⟨Nat.zero_le _, Nat.zero_le _⟩ (fun u57 Hq lq hw Y => ?_)
          have hwe := hw
          subst hw
          refine lv_iconst (v := nI (1)) hx hb dX0_givesWay_60 (by decide) ?_
          exact z_ret (v := nI (1)) (u := (cs3 u52, cs4 u52, upd (cs5 u52) f (-1), upd (cs6 u52) f (nI 0), upd (cs7 u52) f (nI 0), upd (cs8 u52) f (nI 0), csh u52, csr u52, csw u52)) Z Y (rfl) (⟨by rw [gw_dirty (by omega) h0 c18 c29 c47 hpq]; rfl, by rw [gw_dirty (by omega) h0 c18 c29 c47 hpq]; exact ⟨hg, hN, Rp_empty f hR52.2.2.1, Iv_empty f hR52.2.2.2⟩⟩) dX0_givesWay_61
      · refine lv_aload_n hx hb dX0_givesWay_32 rfl (lv_at hl 0 rfl) ?_
        refine z_get (T := TX0) (v := .ref (ga8 g)) Z hin rfl Y 8 (by decide) L40 rfl rfl dX0_givesWay_33 ?_
        refine lv_iload_n hx hb dX0_givesWay_36 rfl (lv_at hl 1 rfl) ?_
        refine lv_iconst (v := nI (0)) hx hb dX0_givesWay_37 (by decide) ?_
        refine z_st8 (x := nI (0)) Z Y (f) (rfl) (by omega) (by omega) (by decide) dX0_givesWay_38 (fun Hq lq Y => ?_)
        refine lv_iconst (v := nI (0)) hx hb dX0_givesWay_39 (by decide) ?_
        exact z_ret (v := nI (0)) (u := ps8 (u) (upd (cs8 (u)) (f) (nI (0)))) Z Y (rfl) (⟨by rw [gw_mk h0 c18 c29]; rfl, by rw [gw_mk h0 c18 c29]; exact ⟨hg, hN, Rp_mark f (nI 0) hR.2.2.1, Iv_mark (fun _ => rfl) hR.2.2.2⟩⟩) dX0_givesWay_40
    · refine lv_iconst (v := nI (1)) hx hb dX0_givesWay_21 (by decide) ?_
      exact z_ret (v := nI (1)) (u := u) Z Y (rfl) (⟨by rw [gw_emp h0 c18]; rfl, by rw [gw_emp h0 c18]; exact hR⟩) dX0_givesWay_22
  · have h0 : 0 < apn a f := Nat.pos_of_ne_zero (fun z => c6 ((nI_le0 hb6).mpr z))
    refine lv_iconst (v := nI (0)) hx hb dX0_givesWay_9 (by decide) ?_
    exact z_ret (v := nI (0)) (u := u) Z Y (rfl) (⟨by rw [gw_pin h0]; rfl, by rw [gw_pin h0]; exact hR⟩) dX0_givesWay_10

set_option maxHeartbeats 4000000 in
set_option maxRecDepth 100000 in
theorem kX0_findFrame (l : Launch) (dC : Nat → ClassId) (dI : Nat → Nat → Nat) {g : GE} {N : Nat} {a : AS} {u : CS} (hR : Rep g N a u) (hX : geS g = geW g) : zMI l yX0_findFrame wsX0_findFrame ({ frames := 4, cells := 0, slots := 0, locals := 106 }) dC dI 0 g u [] (fun r u1 => r = onI (-1) (spFind g a).2 ∧ Rep g N (spFind g a).1 u1) := by
  refine zMI_of (cc := cX0_findFrame) (maxL := 3) (ret := (some .int)) (by decide) rfl (Nat.le_of_ble_eq_true rfl) ?_
  intro p e s m below meth c A ls Z Y hl
  have hin : ∀ w ∈ wsX00, w ∈ wsX0_findFrame := fun w h => List.mem_cons_of_mem _ (List.mem_append_right _ h)
  obtain ⟨hx, hb, hml, hown, hts, hr, hlk⟩ := id Z
  have L13 := hts (.fieldLink RX0 13 "FramePool" "frameCount" "I") (by decide +kernel)
  have L50 := hts (.fieldLink RX0 50 "FramePool" "handAt" "I") (by decide +kernel)
  have hl : lv_has ls 3 [(0, .ref (ga0 g))] := hl
  have hg := hR.1
  have hN := hR.2.1
  obtain ⟨b1, b2, b3, b4, b5, b6, b7⟩ := gokB hg
  obtain ⟨r3, r4, r5, r6, r7, r8, r9, r10, r11⟩ := id hR.2.2.1
  obtain ⟨i1, i2, i3, i4, i5⟩ := id hR.2.2.2
  have b8 : geF g ≤ 32 := hg.2.1
  have loop : ∀ (R0 : AS × Option Nat) (n k : Nat) (a : AS) (u : CS), k + n = 2 * geF g → Rep g N a u → findN g n a = R0 → ∀ (H : Heap) (locs : List Loc), zW dC dI 0 g A s.heap s (u) H locs → ∀ ls : Array Slot, lv_has ls 3 [(0, .ref (ga0 g)), (1, .int (nI (k)))] → W p l e ({ frames := 4, cells := 0, slots := 0, locals := 106 }) s m (Value.ref (ga0 g) :: []).toArray below meth c H locs 0 0 (zQI below dC dI 0 g A (fun r u1 => r = onI (-1) R0.2 ∧ Rep g N R0.1 u1) (Value.ref (ga0 g) :: []).toArray s) (F0 m 15 ls []) := by
    intro R0 n
    induction n with
    | zero =>
      intro k a u hkn hR hF0 Hq lq Y ls hl
      refine lv_iload_n hx hb dX0_findFrame_15 rfl (lv_at hl 1 rfl) ?_
      refine lv_iconst (v := nI (2)) hx hb dX0_findFrame_16 (by decide) ?_
      refine lv_aload_n hx hb dX0_findFrame_17 rfl (lv_at hl 0 rfl) ?_
      refine z_get (T := TX0) (v := .int (nI (geF g))) Z hin rfl Y 0 (by decide) L13 rfl rfl dX0_findFrame_18 ?_
      refine lv_imul hx hb dX0_findFrame_21 ?_
      refine z_top (nI ((2) * (geF g))) (pk_mul (2) (geF g)) ?_
      refine lv_icmp_ge (tgt := 50) hx hb dX0_findFrame_22 (by decide) (fun _ => ?_) (fun c22 => absurd ((nI_leI (by omega) (by omega)).mpr (by omega)) c22)
      refine lv_iconst (v := (-1)) hx hb dX0_findFrame_50 (by decide) ?_
      exact z_ret (v := (-1)) (u := u) Z Y (rfl) (by rw [← hF0]; exact ⟨rfl, hR⟩) dX0_findFrame_51
    | succ n ih =>
      intro k a u hkn hR hF0 Hq lq Y ls hl
      obtain ⟨r3, r4, r5, r6, r7, r8, r9, r10, r11⟩ := id hR.2.2.1
      obtain ⟨i1, i2, i3, i4, i5⟩ := id hR.2.2.2
      refine lv_iload_n hx hb dX0_findFrame_15 rfl (lv_at hl 1 rfl) ?_
      refine lv_iconst (v := nI (2)) hx hb dX0_findFrame_16 (by decide) ?_
      refine lv_aload_n hx hb dX0_findFrame_17 rfl (lv_at hl 0 rfl) ?_
      refine z_get (T := TX0) (v := .int (nI (geF g))) Z hin rfl Y 0 (by decide) L13 rfl rfl dX0_findFrame_18 ?_
      refine lv_imul hx hb dX0_findFrame_21 ?_
      refine z_top (nI ((2) * (geF g))) (pk_mul (2) (geF g)) ?_
      refine lv_icmp_ge (tgt := 50) hx hb dX0_findFrame_22 (by decide) (fun c22 => absurd c22 (fun q => absurd ((nI_leI (by omega) (by omega)).mp q) (by omega))) (fun _ => ?_)
      refine lv_aload_n hx hb dX0_findFrame_25 rfl (lv_at hl 0 rfl) ?_
      refine z_get (T := TX0) (v := .int (csh (u))) Z hin rfl Y 9 (by decide) L50 rfl rfl dX0_findFrame_26 ?_
      refine z_top (nI (ahd a)) (r9) ?_
      refine lv_istore_n (lv' := [(2, .int (nI (ahd a))), (0, .ref (ga0 g)), (1, .int (nI (k)))]) hx hb dX0_findFrame_29 rfl hl (by decide) rfl (fun ls hl => ?_)
      refine lv_aload_n hx hb dX0_findFrame_30 rfl (lv_at hl 1 rfl) ?_
      refine z_callV (rest := []) Z Y rfl (kX0_moveHand l dC dI hR) (cwV 0 hts gX0_findFrame_X0_moveHand rfl rfl rfl (by decide +kernel) ⟨Nat.le_of_ble_eq_true rfl, Nat.le_of_ble_eq_true rfl⟩) rfl hl.1 rfl (Nat.le_of_ble_eq_true rfl) dX0_findFrame_31 ⟨Nat.zero_le _, Nat.zero_le _⟩ (fun u31 Hq lq hw Y => ?_)
      have hR31 := hw
      refine lv_aload_n hx hb dX0_findFrame_34 rfl (lv_at hl 1 rfl) ?_
      refine lv_iload_n hx hb dX0_findFrame_35 rfl (lv_at hl 0 rfl) ?_
      refine z_callI (rest := []) Z Y rfl (kX0_givesWay l dC dI hR31 hX i1) (cwV 1 hts gX0_findFrame_X0_givesWay rfl rfl rfl (by decide +kernel) ⟨Nat.le_of_ble_eq_true rfl, Nat.le_of_ble_eq_true rfl⟩) rfl hl.1 rfl (Nat.le_of_ble_eq_true rfl) dX0_findFrame_36 ⟨Nat.zero_le _, Nat.zero_le _⟩ (fun r36 u36 Hq lq hw Y => ?_)
      obtain ⟨hw1, hR36⟩ := hw
      rcases Bool.eq_false_or_eq_true (gw (ahd a) (oHand (nx g (ahd a)) a)).1 with hg1 | hg1
      · obtain rfl : r36 = nI 1 := by rw [hw1, hg1]; rfl
        refine lv_if_eq (tgt := 44) hx hb dX0_findFrame_39 (by decide) (fun c39 => absurd c39 (by decide)) (fun _ => ?_)
        refine lv_iload_n hx hb dX0_findFrame_42 rfl (lv_at hl 0 rfl) ?_
        exact z_ret (v := nI (ahd a)) (u := u36) Z Y (rfl) (by rw [← hF0, findN_t hg1]; exact ⟨rfl, hR36⟩) dX0_findFrame_43
      · obtain rfl : r36 = nI 0 := by rw [hw1, hg1]; rfl
        refine lv_if_eq (tgt := 44) hx hb dX0_findFrame_39 (by decide) (fun _ => ?_) (fun c39 => absurd (by decide) c39)
        refine lv_iinc (v := nI (k + 1)) (lv' := [(1, .int (nI (k + 1))), (2, .int (nI (ahd a))), (0, .ref (ga0 g))]) hx hb dX0_findFrame_44 hl (k := 2) rfl (nI_add (k) 1) (by decide) rfl (fun ls hl => ?_)
        refine lv_goto (tgt := 15) hx hb dX0_findFrame_47 (by decide) ?_
        exact ih (k + 1) _ _ (by omega) hR36 (by rw [← hF0, findN_f hg1]) _ _ Y ls (lv_sub hl [2, 0] rfl)
  refine lv_aload_n hx hb dX0_findFrame_0 rfl (lv_at hl 0 rfl) ?_
  refine z_callI (rest := []) Z Y rfl (kX0_pinned l dC dI hR) (cwV 0 hts gX0_findFrame_X0_pinned rfl rfl rfl (by decide +kernel) ⟨Nat.le_of_ble_eq_true rfl, Nat.le_of_ble_eq_true rfl⟩) rfl hl.1 rfl (Nat.le_of_ble_eq_true rfl) dX0_findFrame_1 ⟨Nat.zero_le _, Nat.zero_le _⟩ (fun r1 u1 Hq lq hw Y => ?_)
  obtain ⟨rfl, rfl⟩ := hw
  refine lv_aload_n hx hb dX0_findFrame_4 rfl (lv_at hl 0 rfl) ?_
  refine z_get (T := TX0) (v := .int (nI (geF g))) Z hin rfl Y 0 (by decide) L13 rfl rfl dX0_findFrame_5 ?_
  have hc31 : cnt (apn a) (geF g) < 2 ^ 31 := by have := cnt_le (apn a) (geF g); omega
  refine lv_icmp_ne (tgt := 13) hx hb dX0_findFrame_8 (by decide) (fun c8 => ?_) (fun c8 => ?_)
  · refine lv_iconst (v := nI (0)) hx hb dX0_findFrame_13 (by decide) ?_
    refine lv_istore_n (lv' := [(1, .int (nI (0))), (0, .ref (ga0 g))]) hx hb dX0_findFrame_14 rfl hl (by decide) rfl (fun ls hl => ?_)
    have hne : ¬ cnt (apn a) (geF g) = geF g := fun z => c8 ((nI_eq hc31 b1).mpr z)
    rw [spFind_go hne]
    exact loop _ (2 * geF g) 0 a u (by omega) hR rfl _ _ Y ls (lv_sub hl [1, 0] rfl)
  · refine lv_iconst (v := (-1)) hx hb dX0_findFrame_11 (by decide) ?_
    have he := (nI_eq hc31 b1).mp c8
    exact z_ret (v := (-1)) (u := u) Z Y (rfl) (by rw [spFind_all he]; exact ⟨rfl, hR⟩) dX0_findFrame_12
end
section
/-! ===== FramePool: the public methods ===== -/
set_option maxHeartbeats 4000000 in
set_option maxRecDepth 100000 in
theorem kX0_fetch (l : Launch) (dC : Nat → ClassId) (dI : Nat → Nat → Nat) {g : GE} {N : Nat} {a : AS} {u : CS} (hR : Rep g N a u) (hX : geS g = geW g) (hN1 : N + 1 < 2 ^ 20) (x : Int32) : zMI l yX0_fetch wsX0_fetch ({ frames := 5, cells := 0, slots := 0, locals := 128 }) dC dI 0 g u [.int (x)] (fun r u1 => r = (spFetch g a x).1 ∧ Rep g (N + 1) (spFetch g a x).2 u1) := by
  refine zMI_of (cc := cX0_fetch) (maxL := 3) (ret := (some .int)) (by decide) rfl (Nat.le_of_ble_eq_true rfl) ?_
  intro p e s m below meth c A ls Z Y hl
  have hin : ∀ w ∈ wsX00, w ∈ wsX0_fetch := fun w h => List.mem_cons_of_mem _ (List.mem_append_right _ h)
  obtain ⟨hx, hb, hml, hown, hts, hr, hlk⟩ := id Z
  have L33 := hts (.fieldLink RX0 33 "FramePool" "pins" "[I") (by decide +kernel)
  have L40 := hts (.fieldLink RX0 40 "FramePool" "marked" "[Z") (by decide +kernel)
  have hl : lv_has ls 3 [(0, .ref (ga0 g)), (1, .int (x))] := hl
  have hg := hR.1
  have hN := hR.2.1
  obtain ⟨b1, b2, b3, b4, b5, b6, b7⟩ := gokB hg
  obtain ⟨r3, r4, r5, r6, r7, r8, r9, r10, r11⟩ := id hR.2.2.1
  obtain ⟨i1, i2, i3, i4, i5⟩ := id hR.2.2.2
  refine lv_aload_n hx hb dX0_fetch_0 rfl (lv_at hl 0 rfl) ?_
  refine lv_iload_n hx hb dX0_fetch_1 rfl (lv_at hl 1 rfl) ?_
  refine z_callI (rest := []) Z Y rfl (kX0_isPage l dC dI hg u x) (cwV 1 hts gX0_fetch_X0_isPage rfl rfl rfl (by decide +kernel) ⟨Nat.le_of_ble_eq_true rfl, Nat.le_of_ble_eq_true rfl⟩) rfl hl.1 rfl (Nat.le_of_ble_eq_true rfl) dX0_fetch_2 ⟨Nat.zero_le _, Nat.zero_le _⟩ (fun r2 u2 Hq lq hw Y => ?_)
  obtain ⟨rfl, hw⟩ := hw
  rcases hw with ⟨rfl, hw2⟩ | ⟨rfl, hw2⟩
  · obtain ⟨q, hq, rfl⟩ := vp_in_of hw2 b2
    refine lv_if_ne (tgt := 11) hx hb dX0_fetch_5 (by decide) (fun _ => ?_) (fun c5 => absurd c5 (by decide))
    refine lv_aload_n hx hb dX0_fetch_11 rfl (lv_at hl 0 rfl) ?_
    refine lv_iload_n hx hb dX0_fetch_12 rfl (lv_at hl 1 rfl) ?_
    refine z_callI (rest := []) Z Y rfl (kX0_frameOf l dC dI hR (nI q)) (cwV 1 hts gX0_fetch_X0_frameOf rfl rfl rfl (by decide +kernel) ⟨Nat.le_of_ble_eq_true rfl, Nat.le_of_ble_eq_true rfl⟩) rfl hl.1 rfl (Nat.le_of_ble_eq_true rfl) dX0_fetch_13 ⟨Nat.zero_le _, Nat.zero_le _⟩ (fun r13 u13 Hq lq hw Y => ?_)
    obtain ⟨rfl, hw⟩ := hw
    rcases hw with ⟨f, q13, hf13, hq13, hx13, rfl, hp13, hfo13⟩ | ⟨rfl, hfo13⟩
    · refine lv_istore_n (lv' := [(2, .int (nI (f))), (0, .ref (ga0 g)), (1, .int (nI (q)))]) hx hb dX0_fetch_16 rfl hl (by decide) rfl (fun ls hl => ?_)
      refine lv_iload_n hx hb dX0_fetch_17 rfl (lv_at hl 0 rfl) ?_
      refine lv_iconst (v := (-1)) hx hb dX0_fetch_18 (by decide) ?_
      refine lv_icmp_ne (tgt := 40) hx hb dX0_fetch_19 (by decide) (fun _ => ?_) (fun c19 => absurd c19 (nI_ne_m1 (show f < 2 ^ 31 by omega)))
      refine lv_aload_n hx hb dX0_fetch_40 rfl (lv_at hl 1 rfl) ?_
      refine z_get (T := TX0) (v := .ref (ga6 g)) Z hin rfl Y 6 (by decide) L33 rfl rfl dX0_fetch_41 ?_
      refine lv_iload_n hx hb dX0_fetch_44 rfl (lv_at hl 0 rfl) ?_
      refine lv_dup2_11 hx hb dX0_fetch_45 rfl rfl ?_
      refine z_ld6 Z Y (f) (rfl) (by omega) (by omega) dX0_fetch_46 ?_
      refine z_top (nI (apn a f)) (r6 f hf13) ?_
      refine lv_iconst (v := nI (1)) hx hb dX0_fetch_47 (by decide) ?_
      refine lv_iadd hx hb dX0_fetch_48 ?_
      refine z_top (nI ((apn a f) + (1))) (nI_add (apn a f) (1)) ?_
      refine z_st6 (x := nI ((apn a f) + (1))) Z Y (f) (rfl) (by omega) (by omega) dX0_fetch_49 (fun Hq lq Y => ?_)
      refine lv_aload_n hx hb dX0_fetch_50 rfl (lv_at hl 1 rfl) ?_
      refine z_get (T := TX0) (v := .ref (ga8 g)) Z hin rfl Y 8 (by decide) L40 rfl rfl dX0_fetch_51 ?_
      refine lv_iload_n hx hb dX0_fetch_54 rfl (lv_at hl 0 rfl) ?_
      refine lv_iconst (v := nI (1)) hx hb dX0_fetch_55 (by decide) ?_
      refine z_st8 (x := nI (1)) Z Y (f) (rfl) (by omega) (by omega) (by decide) dX0_fetch_56 (fun Hq lq Y => ?_)
      refine lv_iload_n hx hb dX0_fetch_57 rfl (lv_at hl 0 rfl) ?_
      exact z_ret (v := nI (f)) (u := ps8 (ps6 (u) (upd (cs6 (u)) (f) (nI ((apn a f) + (1))))) (upd (cs8 (ps6 (u) (upd (cs6 (u)) (f) (nI ((apn a f) + (1)))))) (f) (nI (1)))) Z Y (rfl) (by rw [spFetch_hit hw2 hfo13]; exact ⟨rfl, hg, hN1, Rp_pin f hR.2.2.1, Iv_pin hf13 (by rw [hp13]; exact nI_ne_m1 (show q13 < 2 ^ 31 by omega)) hR.2.2.2⟩) dX0_fetch_58
    · refine lv_istore_n (lv' := [(2, .int ((-1))), (0, .ref (ga0 g)), (1, .int (nI (q)))]) hx hb dX0_fetch_16 rfl hl (by decide) rfl (fun ls hl => ?_)
      refine lv_iload_n hx hb dX0_fetch_17 rfl (lv_at hl 0 rfl) ?_
      refine lv_iconst (v := (-1)) hx hb dX0_fetch_18 (by decide) ?_
      refine lv_icmp_ne (tgt := 40) hx hb dX0_fetch_19 (by decide) (fun c19 => absurd (rfl) c19) (fun _ => ?_)
      refine lv_aload_n hx hb dX0_fetch_22 rfl (lv_at hl 1 rfl) ?_
      refine z_callI (rest := []) Z Y rfl (kX0_findFrame l dC dI hR hX) (cwV 0 hts gX0_fetch_X0_findFrame rfl rfl rfl (by decide +kernel) ⟨Nat.le_of_ble_eq_true rfl, Nat.le_of_ble_eq_true rfl⟩) rfl hl.1 rfl (Nat.le_of_ble_eq_true rfl) dX0_fetch_23 ⟨Nat.zero_le _, Nat.zero_le _⟩ (fun r23 u23 Hq lq hw Y => ?_)
      obtain ⟨hw1, hR23⟩ := hw
      rcases hsf : (spFind g a).2 with _ | f
      · obtain rfl : r23 = -1 := by rw [hw1, hsf]; rfl
        refine lv_istore_n (lv' := [(2, .int ((-1))), (0, .ref (ga0 g)), (1, .int (nI (q)))]) hx hb dX0_fetch_26 rfl hl (by decide) rfl (fun ls hl => ?_)
        refine lv_iload_n hx hb dX0_fetch_27 rfl (lv_at hl 0 rfl) ?_
        refine lv_iconst (v := (-1)) hx hb dX0_fetch_28 (by decide) ?_
        refine lv_icmp_ne (tgt := 34) hx hb dX0_fetch_29 (by decide) (fun c29 => absurd (rfl) c29) (fun _ => ?_)
        refine lv_iconst (v := (-1)) hx hb dX0_fetch_32 (by decide) ?_
        exact z_ret (v := (-1)) (u := u23) Z Y (rfl) (by rw [spFetch_all hw2 hfo13 hsf]; exact ⟨rfl, Rep_more hN1 hR23⟩) dX0_fetch_33
      · obtain rfl : r23 = nI f := by rw [hw1, hsf]; rfl
        obtain ⟨hno, hfl⟩ := spFind_ok (x := nI q) hg (nI_ne_m1 (show q < 2 ^ 31 by omega)) hR.2.2.2 (fop_no hfo13 hw2)
        have hf := hfl f hsf
        refine lv_istore_n (lv' := [(2, .int (nI (f))), (0, .ref (ga0 g)), (1, .int (nI (q)))]) hx hb dX0_fetch_26 rfl hl (by decide) rfl (fun ls hl => ?_)
        refine lv_iload_n hx hb dX0_fetch_27 rfl (lv_at hl 0 rfl) ?_
        refine lv_iconst (v := (-1)) hx hb dX0_fetch_28 (by decide) ?_
        refine lv_icmp_ne (tgt := 34) hx hb dX0_fetch_29 (by decide) (fun _ => ?_) (fun c29 => absurd c29 (nI_ne_m1 (show f < 2 ^ 31 by omega)))
        refine lv_aload_n hx hb dX0_fetch_34 rfl (lv_at hl 1 rfl) ?_
        refine lv_iload_n hx hb dX0_fetch_35 rfl (lv_at hl 0 rfl) ?_
        refine lv_iload_n hx hb dX0_fetch_36 rfl (lv_at hl 2 rfl) ?_
        refine z_callV (rest := []) Z Y rfl (kX0_readInto l dC dI hR23 hX hf hq hno) (cwV 2 hts gX0_fetch_X0_readInto rfl rfl rfl (by decide +kernel) ⟨Nat.le_of_ble_eq_true rfl, Nat.le_of_ble_eq_true rfl⟩) rfl hl.1 rfl (Nat.le_of_ble_eq_true rfl) dX0_fetch_37 ⟨Nat.zero_le _, Nat.zero_le _⟩ (fun u37 Hq lq hw Y => ?_)
        have hR37 := hw
        refine lv_aload_n hx hb dX0_fetch_40 rfl (lv_at hl 1 rfl) ?_
        refine z_get (T := TX0) (v := .ref (ga6 g)) Z hin rfl Y 6 (by decide) L33 rfl rfl dX0_fetch_41 ?_
        refine lv_iload_n hx hb dX0_fetch_44 rfl (lv_at hl 0 rfl) ?_
        refine lv_dup2_11 hx hb dX0_fetch_45 rfl rfl ?_
        refine z_ld6 Z Y (f) (rfl) (by omega) (by omega) dX0_fetch_46 ?_
        refine z_top (nI (apn (oRead f q (spFind g a).1) f)) (hR37.2.2.1.2.2.2.1 f hf) ?_
        refine lv_iconst (v := nI (1)) hx hb dX0_fetch_47 (by decide) ?_
        refine lv_iadd hx hb dX0_fetch_48 ?_
        refine z_top (nI ((apn (oRead f q (spFind g a).1) f) + (1))) (nI_add (apn (oRead f q (spFind g a).1) f) (1)) ?_
        refine z_st6 (x := nI ((apn (oRead f q (spFind g a).1) f) + (1))) Z Y (f) (rfl) (by omega) (by omega) dX0_fetch_49 (fun Hq lq Y => ?_)
        refine lv_aload_n hx hb dX0_fetch_50 rfl (lv_at hl 1 rfl) ?_
        refine z_get (T := TX0) (v := .ref (ga8 g)) Z hin rfl Y 8 (by decide) L40 rfl rfl dX0_fetch_51 ?_
        refine lv_iload_n hx hb dX0_fetch_54 rfl (lv_at hl 0 rfl) ?_
        refine lv_iconst (v := nI (1)) hx hb dX0_fetch_55 (by decide) ?_
        refine z_st8 (x := nI (1)) Z Y (f) (rfl) (by omega) (by omega) (by decide) dX0_fetch_56 (fun Hq lq Y => ?_)
        refine lv_iload_n hx hb dX0_fetch_57 rfl (lv_at hl 0 rfl) ?_
        exact z_ret (v := nI (f)) (u := ps8 (ps6 (u37) (upd (cs6 (u37)) (f) (nI ((apn (oRead f q (spFind g a).1) f) + (1))))) (upd (cs8 (ps6 (u37) (upd (cs6 (u37)) (f) (nI ((apn (oRead f q (spFind g a).1) f) + (1)))))) (f) (nI (1)))) Z Y (rfl) (by rw [spFetch_new (show q < 2 ^ 31 by omega) hw2 hfo13 hsf]; exact ⟨rfl, hg, hN1, Rp_pin f hR37.2.2.1, Iv_pin hf (by show upd _ f _ f ≠ -1; rw [pk_us]; exact nI_ne_m1 (show q < 2 ^ 31 by omega)) hR37.2.2.2⟩) dX0_fetch_58
  · refine lv_if_ne (tgt := 11) hx hb dX0_fetch_5 (by decide) (fun c5 => absurd (by decide) c5) (fun _ => ?_)
    refine lv_bipush (v := (-2)) hx hb dX0_fetch_8 (by decide) ?_
    exact z_ret (v := (-2)) (u := u) Z Y (rfl) (by rw [spFetch_bad hw2]; exact ⟨rfl, Rep_more hN1 hR⟩) dX0_fetch_10

set_option maxHeartbeats 4000000 in
set_option maxRecDepth 100000 in
theorem kX0_unpin (l : Launch) (dC : Nat → ClassId) (dI : Nat → Nat → Nat) {g : GE} {N : Nat} {a : AS} {u : CS} (hR : Rep g N a u) (x : Int32) : zMI l yX0_unpin wsX0_unpin ({ frames := 2, cells := 0, slots := 0, locals := 42 }) dC dI 0 g u [.int (x)] (fun r u1 => r = (spUnpin g a x).1 ∧ Rep g N (spUnpin g a x).2 u1) := by
  refine zMI_of (cc := cX0_unpin) (maxL := 2) (ret := (some .int)) (by decide) rfl (Nat.le_of_ble_eq_true rfl) ?_
  intro p e s m below meth c A ls Z Y hl
  have hin : ∀ w ∈ wsX00, w ∈ wsX0_unpin := fun w h => List.mem_cons_of_mem _ (List.mem_append_right _ h)
  obtain ⟨hx, hb, hml, hown, hts, hr, hlk⟩ := id Z
  have L33 := hts (.fieldLink RX0 33 "FramePool" "pins" "[I") (by decide +kernel)
  have hl : lv_has ls 2 [(0, .ref (ga0 g)), (1, .int (x))] := hl
  have hg := hR.1
  have hN := hR.2.1
  obtain ⟨b1, b2, b3, b4, b5, b6, b7⟩ := gokB hg
  obtain ⟨r3, r4, r5, r6, r7, r8, r9, r10, r11⟩ := id hR.2.2.1
  obtain ⟨i1, i2, i3, i4, i5⟩ := id hR.2.2.2
  refine lv_aload_n hx hb dX0_unpin_0 rfl (lv_at hl 0 rfl) ?_
  refine lv_iload_n hx hb dX0_unpin_1 rfl (lv_at hl 1 rfl) ?_
  refine z_callI (rest := []) Z Y rfl (kX0_isPinnedFrame l dC dI hR x) (cwV 1 hts gX0_unpin_X0_isPinnedFrame rfl rfl rfl (by decide +kernel) ⟨Nat.le_of_ble_eq_true rfl, Nat.le_of_ble_eq_true rfl⟩) rfl hl.1 rfl (Nat.le_of_ble_eq_true rfl) dX0_unpin_2 ⟨Nat.zero_le _, Nat.zero_le _⟩ (fun r2 u2 Hq lq hw Y => ?_)
  obtain ⟨rfl, hw⟩ := hw
  rcases hw with ⟨rfl, hw2⟩ | ⟨rfl, hw2⟩
  · obtain ⟨hv2, hw0⟩ := hw2
    obtain ⟨k, hk, rfl⟩ := vp_in_of hv2 b1
    rw [nI_clamp (show k < 2 ^ 31 by omega)] at hw0
    refine lv_if_ne (tgt := 11) hx hb dX0_unpin_5 (by decide) (fun _ => ?_) (fun c5 => absurd c5 (by decide))
    refine lv_aload_n hx hb dX0_unpin_11 rfl (lv_at hl 0 rfl) ?_
    refine z_get (T := TX0) (v := .ref (ga6 g)) Z hin rfl Y 6 (by decide) L33 rfl rfl dX0_unpin_12 ?_
    refine lv_iload_n hx hb dX0_unpin_15 rfl (lv_at hl 1 rfl) ?_
    refine lv_dup2_11 hx hb dX0_unpin_16 rfl rfl ?_
    refine z_ld6 Z Y (k) (rfl) (by omega) (by omega) dX0_unpin_17 ?_
    refine z_top (nI (apn a k)) (r6 k hk) ?_
    refine lv_iconst (v := nI (1)) hx hb dX0_unpin_18 (by decide) ?_
    refine lv_isub hx hb dX0_unpin_19 ?_
    refine z_top (nI (apn a k - 1)) (pk_sub hw0) ?_
    refine z_st6 (x := nI (apn a k - 1)) Z Y (k) (rfl) (by omega) (by omega) dX0_unpin_20 (fun Hq lq Y => ?_)
    refine lv_aload_n hx hb dX0_unpin_21 rfl (lv_at hl 0 rfl) ?_
    refine z_get (T := TX0) (v := .ref (ga6 g)) Z hin rfl Y 6 (by decide) L33 rfl rfl dX0_unpin_22 ?_
    refine lv_iload_n hx hb dX0_unpin_25 rfl (lv_at hl 1 rfl) ?_
    refine z_ld6 Z Y (k) (rfl) (by omega) (by omega) dX0_unpin_26 ?_
    refine z_top (nI (apn a k - 1)) (pk_us) ?_
    exact z_ret (v := nI (apn a k - 1)) (u := ps6 (u) (upd (cs6 (u)) (k) (nI (apn a k - 1)))) Z Y (rfl) (by rw [spUnpin_t (show k < 2 ^ 31 by omega) hv2 hw0]; exact ⟨rfl, hg, hN, Rp_unpin k hR.2.2.1, Iv_unpin hk hR.2.2.2⟩) dX0_unpin_27
  · refine lv_if_ne (tgt := 11) hx hb dX0_unpin_5 (by decide) (fun c5 => absurd (by decide) c5) (fun _ => ?_)
    refine lv_bipush (v := (-3)) hx hb dX0_unpin_8 (by decide) ?_
    exact z_ret (v := (-3)) (u := u) Z Y (rfl) (by rw [spUnpin_f hw2]; exact ⟨rfl, hR⟩) dX0_unpin_10

set_option maxHeartbeats 4000000 in
set_option maxRecDepth 100000 in
theorem kX0_writeWord (l : Launch) (dC : Nat → ClassId) (dI : Nat → Nat → Nat) {g : GE} {N : Nat} {a : AS} {u : CS} (hR : Rep g N a u) (hX : geS g = geW g) (x y v : Int32) : zMI l yX0_writeWord wsX0_writeWord ({ frames := 2, cells := 0, slots := 0, locals := 42 }) dC dI 0 g u [.int (x), .int (y), .int (v)] (fun r u1 => r = (spWriteW g a x y v).1 ∧ Rep g N (spWriteW g a x y v).2 u1) := by
  refine zMI_of (cc := cX0_writeWord) (maxL := 4) (ret := (some .int)) (by decide) rfl (Nat.le_of_ble_eq_true rfl) ?_
  intro p e s m below meth c A ls Z Y hl
  have hin : ∀ w ∈ wsX00, w ∈ wsX0_writeWord := fun w h => List.mem_cons_of_mem _ (List.mem_append_right _ h)
  obtain ⟨hx, hb, hml, hown, hts, hr, hlk⟩ := id Z
  have L20 := hts (.fieldLink RX0 20 "FramePool" "wordCount" "I") (by decide +kernel)
  have L27 := hts (.fieldLink RX0 27 "FramePool" "frameWords" "[I") (by decide +kernel)
  have L36 := hts (.fieldLink RX0 36 "FramePool" "dirty" "[Z") (by decide +kernel)
  have hl : lv_has ls 4 [(0, .ref (ga0 g)), (1, .int (x)), (2, .int (y)), (3, .int (v))] := hl
  have hg := hR.1
  have hN := hR.2.1
  obtain ⟨b1, b2, b3, b4, b5, b6, b7⟩ := gokB hg
  obtain ⟨r3, r4, r5, r6, r7, r8, r9, r10, r11⟩ := id hR.2.2.1
  obtain ⟨i1, i2, i3, i4, i5⟩ := id hR.2.2.2
  refine lv_aload_n hx hb dX0_writeWord_0 rfl (lv_at hl 0 rfl) ?_
  refine lv_iload_n hx hb dX0_writeWord_1 rfl (lv_at hl 1 rfl) ?_
  refine z_callI (rest := []) Z Y rfl (kX0_isPinnedFrame l dC dI hR x) (cwV 1 hts gX0_writeWord_X0_isPinnedFrame rfl rfl rfl (by decide +kernel) ⟨Nat.le_of_ble_eq_true rfl, Nat.le_of_ble_eq_true rfl⟩) rfl hl.1 rfl (Nat.le_of_ble_eq_true rfl) dX0_writeWord_2 ⟨Nat.zero_le _, Nat.zero_le _⟩ (fun r2 u2 Hq lq hw Y => ?_)
  obtain ⟨rfl, hw⟩ := hw
  rcases hw with ⟨rfl, hw2⟩ | ⟨rfl, hw2⟩
  · refine lv_if_ne (tgt := 11) hx hb dX0_writeWord_5 (by decide) (fun _ => ?_) (fun c5 => absurd c5 (by decide))
    refine lv_aload_n hx hb dX0_writeWord_11 rfl (lv_at hl 0 rfl) ?_
    refine lv_iload_n hx hb dX0_writeWord_12 rfl (lv_at hl 2 rfl) ?_
    refine z_callI (rest := []) Z Y rfl (kX0_isOffset l dC dI hg u y) (cwV 1 hts gX0_writeWord_X0_isOffset rfl rfl rfl (by decide +kernel) ⟨Nat.le_of_ble_eq_true rfl, Nat.le_of_ble_eq_true rfl⟩) rfl hl.1 rfl (Nat.le_of_ble_eq_true rfl) dX0_writeWord_13 ⟨Nat.zero_le _, Nat.zero_le _⟩ (fun r13 u13 Hq lq hw Y => ?_)
    obtain ⟨rfl, hw⟩ := hw
    rcases hw with ⟨rfl, hw13⟩ | ⟨rfl, hw13⟩
    · obtain ⟨hv2, hw0⟩ := hw2
      obtain ⟨k, hk, rfl⟩ := vp_in_of hv2 b1
      rw [nI_clamp (show k < 2 ^ 31 by omega)] at hw0
      obtain ⟨j, hj, rfl⟩ := vp_in_of hw13 b3
      refine lv_if_ne (tgt := 22) hx hb dX0_writeWord_16 (by decide) (fun _ => ?_) (fun c16 => absurd c16 (by decide))
      refine lv_aload_n hx hb dX0_writeWord_22 rfl (lv_at hl 0 rfl) ?_
      refine z_get (T := TX0) (v := .ref (ga4 g)) Z hin rfl Y 4 (by decide) L27 rfl rfl dX0_writeWord_23 ?_
      refine lv_iload_n hx hb dX0_writeWord_26 rfl (lv_at hl 1 rfl) ?_
      refine lv_aload_n hx hb dX0_writeWord_27 rfl (lv_at hl 0 rfl) ?_
      refine z_get (T := TX0) (v := .int (nI (geW g))) Z hin rfl Y 2 (by decide) L20 rfl rfl dX0_writeWord_28 ?_
      refine lv_imul hx hb dX0_writeWord_31 ?_
      refine z_top (nI (k * geS g)) (by rw [hX]; exact pk_mul _ _) ?_
      refine lv_iload_n hx hb dX0_writeWord_32 rfl (lv_at hl 2 rfl) ?_
      refine lv_iadd hx hb dX0_writeWord_33 ?_
      refine z_top (nI ((k * geS g) + (j))) (nI_add (k * geS g) (j)) ?_
      refine lv_iload_n hx hb dX0_writeWord_34 rfl (lv_at hl 3 rfl) ?_
      refine z_st4 (x := v) Z Y ((k * geS g) + (j)) (rfl) (lt4 hg hk hj rfl) (by omega) dX0_writeWord_35 (fun Hq lq Y => ?_)
      refine lv_aload_n hx hb dX0_writeWord_36 rfl (lv_at hl 0 rfl) ?_
      refine z_get (T := TX0) (v := .ref (ga7 g)) Z hin rfl Y 7 (by decide) L36 rfl rfl dX0_writeWord_37 ?_
      refine lv_iload_n hx hb dX0_writeWord_40 rfl (lv_at hl 1 rfl) ?_
      refine lv_iconst (v := nI (1)) hx hb dX0_writeWord_41 (by decide) ?_
      refine z_st7 (x := nI (1)) Z Y (k) (rfl) (by omega) (by omega) (by decide) dX0_writeWord_42 (fun Hq lq Y => ?_)
      refine lv_iconst (v := nI (0)) hx hb dX0_writeWord_43 (by decide) ?_
      exact z_ret (v := nI (0)) (u := ps7 (ps4 (u) (upd (cs4 (u)) ((k * geS g) + (j)) (v))) (upd (cs7 (ps4 (u) (upd (cs4 (u)) ((k * geS g) + (j)) (v)))) (k) (nI (1)))) Z Y (rfl) (by rw [spWriteW_t (show k < 2 ^ 31 by omega) (show j < 2 ^ 31 by omega) hv2 hw0 hw13]; exact ⟨rfl, hg, hN, Rp_word k v hg hj hR.2.2.1, Iv_row _ (pn_pg hR.2.2.2 hk hw0) hR.2.2.2⟩) dX0_writeWord_44
    · refine lv_if_ne (tgt := 22) hx hb dX0_writeWord_16 (by decide) (fun c16 => absurd (by decide) c16) (fun _ => ?_)
      refine lv_bipush (v := (-4)) hx hb dX0_writeWord_19 (by decide) ?_
      exact z_ret (v := (-4)) (u := u) Z Y (rfl) (by rw [spWriteW_o hw2 hw13]; exact ⟨rfl, hR⟩) dX0_writeWord_21
  · refine lv_if_ne (tgt := 11) hx hb dX0_writeWord_5 (by decide) (fun c5 => absurd (by decide) c5) (fun _ => ?_)
    refine lv_bipush (v := (-3)) hx hb dX0_writeWord_8 (by decide) ?_
    exact z_ret (v := (-3)) (u := u) Z Y (rfl) (by rw [spWriteW_f hw2]; exact ⟨rfl, hR⟩) dX0_writeWord_10

set_option maxHeartbeats 4000000 in
set_option maxRecDepth 100000 in
theorem kX0_flush (l : Launch) (dC : Nat → ClassId) (dI : Nat → Nat → Nat) {g : GE} {N : Nat} {a : AS} {u : CS} (hR : Rep g N a u) (hX : geS g = geW g) (x : Int32) : zMI l yX0_flush wsX0_flush ({ frames := 3, cells := 0, slots := 0, locals := 85 }) dC dI 0 g u [.int (x)] (fun r u1 => r = (spFlush g a x).1 ∧ Rep g N (spFlush g a x).2 u1) := by
  refine zMI_of (cc := cX0_flush) (maxL := 3) (ret := (some .int)) (by decide) rfl (Nat.le_of_ble_eq_true rfl) ?_
  intro p e s m below meth c A ls Z Y hl
  have hin : ∀ w ∈ wsX00, w ∈ wsX0_flush := fun w h => List.mem_cons_of_mem _ (List.mem_append_right _ h)
  obtain ⟨hx, hb, hml, hown, hts, hr, hlk⟩ := id Z
  have L36 := hts (.fieldLink RX0 36 "FramePool" "dirty" "[Z") (by decide +kernel)
  have hl : lv_has ls 3 [(0, .ref (ga0 g)), (1, .int (x))] := hl
  have hg := hR.1
  have hN := hR.2.1
  obtain ⟨b1, b2, b3, b4, b5, b6, b7⟩ := gokB hg
  obtain ⟨r3, r4, r5, r6, r7, r8, r9, r10, r11⟩ := id hR.2.2.1
  obtain ⟨i1, i2, i3, i4, i5⟩ := id hR.2.2.2
  refine lv_aload_n hx hb dX0_flush_0 rfl (lv_at hl 0 rfl) ?_
  refine lv_iload_n hx hb dX0_flush_1 rfl (lv_at hl 1 rfl) ?_
  refine z_callI (rest := []) Z Y rfl (kX0_frameOf l dC dI hR x) (cwV 1 hts gX0_flush_X0_frameOf rfl rfl rfl (by decide +kernel) ⟨Nat.le_of_ble_eq_true rfl, Nat.le_of_ble_eq_true rfl⟩) rfl hl.1 rfl (Nat.le_of_ble_eq_true rfl) dX0_flush_2 ⟨Nat.zero_le _, Nat.zero_le _⟩ (fun r2 u2 Hq lq hw Y => ?_)
  obtain ⟨rfl, hw⟩ := hw
  rcases hw with ⟨f, q, hf, hq, hxq, rfl, hp, hfo⟩ | ⟨rfl, hfo⟩
  · refine lv_istore_n (lv' := [(2, .int (nI (f))), (0, .ref (ga0 g)), (1, .int (x))]) hx hb dX0_flush_5 rfl hl (by decide) rfl (fun ls hl => ?_)
    refine lv_iload_n hx hb dX0_flush_6 rfl (lv_at hl 0 rfl) ?_
    refine lv_iconst (v := (-1)) hx hb dX0_flush_7 (by decide) ?_
    refine lv_icmp_eq (tgt := 20) hx hb dX0_flush_8 (by decide) (fun c8 => absurd c8 (nI_ne_m1 (show f < 2 ^ 31 by omega))) (fun _ => ?_)
    refine lv_aload_n hx hb dX0_flush_11 rfl (lv_at hl 1 rfl) ?_
    refine z_get (T := TX0) (v := .ref (ga7 g)) Z hin rfl Y 7 (by decide) L36 rfl rfl dX0_flush_12 ?_
    refine lv_iload_n hx hb dX0_flush_15 rfl (lv_at hl 0 rfl) ?_
    refine z_ld7 Z Y (f) (rfl) (by omega) (by omega) dX0_flush_16 ?_
    refine z_top (adt a f) (r7 f hf) ?_
    refine lv_if_ne (tgt := 22) hx hb dX0_flush_17 (by decide) (fun c17 => ?_) (fun c17 => ?_)
    · refine lv_aload_n hx hb dX0_flush_22 rfl (lv_at hl 1 rfl) ?_
      refine lv_iload_n hx hb dX0_flush_23 rfl (lv_at hl 0 rfl) ?_
      refine z_callV (rest := []) Z Y rfl (kX0_writeBack l dC dI hR hX hf hq hp) (cwV 1 hts gX0_flush_X0_writeBack rfl rfl rfl (by decide +kernel) ⟨Nat.le_of_ble_eq_true rfl, Nat.le_of_ble_eq_true rfl⟩) rfl hl.1 rfl (Nat.le_of_ble_eq_true rfl) dX0_flush_24 ⟨Nat.zero_le _, Nat.zero_le _⟩ (fun u24 Hq lq hw Y => ?_)
      refine lv_iconst (v := nI (1)) hx hb dX0_flush_27 (by decide) ?_
      exact z_ret (v := nI (1)) (u := u24) Z Y (rfl) (by rw [spFlush_1 (show q < 2 ^ 31 by omega) hfo c17 hp]; exact ⟨rfl, hw⟩) dX0_flush_28
    · refine lv_iconst (v := nI (0)) hx hb dX0_flush_20 (by decide) ?_
      exact z_ret (v := nI (0)) (u := u) Z Y (rfl) (by rw [spFlush_0 hfo c17]; exact ⟨rfl, hR⟩) dX0_flush_21
  · refine lv_istore_n (lv' := [(2, .int ((-1))), (0, .ref (ga0 g)), (1, .int (x))]) hx hb dX0_flush_5 rfl hl (by decide) rfl (fun ls hl => ?_)
    refine lv_iload_n hx hb dX0_flush_6 rfl (lv_at hl 0 rfl) ?_
    refine lv_iconst (v := (-1)) hx hb dX0_flush_7 (by decide) ?_
    refine lv_icmp_eq (tgt := 20) hx hb dX0_flush_8 (by decide) (fun _ => ?_) (fun c8 => absurd (rfl) c8)
    refine lv_iconst (v := nI (0)) hx hb dX0_flush_20 (by decide) ?_
    exact z_ret (v := nI (0)) (u := u) Z Y (rfl) (by rw [spFlush_no hfo]; exact ⟨rfl, hR⟩) dX0_flush_21

set_option maxHeartbeats 4000000 in
set_option maxRecDepth 100000 in
theorem kX0_drop (l : Launch) (dC : Nat → ClassId) (dI : Nat → Nat → Nat) {g : GE} {N : Nat} {a : AS} {u : CS} (hR : Rep g N a u) (x : Int32) : zMI l yX0_drop wsX0_drop ({ frames := 2, cells := 0, slots := 0, locals := 43 }) dC dI 0 g u [.int (x)] (fun r u1 => r = (spDrop g a x).1 ∧ Rep g N (spDrop g a x).2 u1) := by
  refine zMI_of (cc := cX0_drop) (maxL := 3) (ret := (some .boolean)) (by decide) rfl (Nat.le_of_ble_eq_true rfl) ?_
  intro p e s m below meth c A ls Z Y hl
  have hin : ∀ w ∈ wsX00, w ∈ wsX0_drop := fun w h => List.mem_cons_of_mem _ (List.mem_append_right _ h)
  obtain ⟨hx, hb, hml, hown, hts, hr, hlk⟩ := id Z
  have L33 := hts (.fieldLink RX0 33 "FramePool" "pins" "[I") (by decide +kernel)
  have hl : lv_has ls 3 [(0, .ref (ga0 g)), (1, .int (x))] := hl
  have hg := hR.1
  have hN := hR.2.1
  obtain ⟨b1, b2, b3, b4, b5, b6, b7⟩ := gokB hg
  obtain ⟨r3, r4, r5, r6, r7, r8, r9, r10, r11⟩ := id hR.2.2.1
  obtain ⟨i1, i2, i3, i4, i5⟩ := id hR.2.2.2
  refine lv_aload_n hx hb dX0_drop_0 rfl (lv_at hl 0 rfl) ?_
  refine lv_iload_n hx hb dX0_drop_1 rfl (lv_at hl 1 rfl) ?_
  refine z_callI (rest := []) Z Y rfl (kX0_frameOf l dC dI hR x) (cwV 1 hts gX0_drop_X0_frameOf rfl rfl rfl (by decide +kernel) ⟨Nat.le_of_ble_eq_true rfl, Nat.le_of_ble_eq_true rfl⟩) rfl hl.1 rfl (Nat.le_of_ble_eq_true rfl) dX0_drop_2 ⟨Nat.zero_le _, Nat.zero_le _⟩ (fun r2 u2 Hq lq hw Y => ?_)
  obtain ⟨rfl, hw⟩ := hw
  rcases hw with ⟨f, q, hf, hq, hxq, rfl, hp, hfo⟩ | ⟨rfl, hfo⟩
  · refine lv_istore_n (lv' := [(2, .int (nI (f))), (0, .ref (ga0 g)), (1, .int (x))]) hx hb dX0_drop_5 rfl hl (by decide) rfl (fun ls hl => ?_)
    refine lv_iload_n hx hb dX0_drop_6 rfl (lv_at hl 0 rfl) ?_
    refine lv_iconst (v := (-1)) hx hb dX0_drop_7 (by decide) ?_
    refine lv_icmp_eq (tgt := 20) hx hb dX0_drop_8 (by decide) (fun c8 => absurd c8 (nI_ne_m1 (show f < 2 ^ 31 by omega))) (fun _ => ?_)
    refine lv_aload_n hx hb dX0_drop_11 rfl (lv_at hl 1 rfl) ?_
    refine z_get (T := TX0) (v := .ref (ga6 g)) Z hin rfl Y 6 (by decide) L33 rfl rfl dX0_drop_12 ?_
    refine lv_iload_n hx hb dX0_drop_15 rfl (lv_at hl 0 rfl) ?_
    refine z_ld6 Z Y (f) (rfl) (by omega) (by omega) dX0_drop_16 ?_
    refine z_top (nI (apn a f)) (r6 f hf) ?_
    have hb6 : apn a f < 2 ^ 31 := by have := pn31 hR hf; omega
    refine lv_if_le (tgt := 22) hx hb dX0_drop_17 (by decide) (fun c17 => ?_) (fun c17 => ?_)
    · refine lv_aload_n hx hb dX0_drop_22 rfl (lv_at hl 1 rfl) ?_
      refine lv_iload_n hx hb dX0_drop_23 rfl (lv_at hl 0 rfl) ?_
      refine z_callV (rest := []) Z Y rfl (kX0_makeEmpty l dC dI hg u hf) (cwV 1 hts gX0_drop_X0_makeEmpty rfl rfl rfl (by decide +kernel) ⟨Nat.le_of_ble_eq_true rfl, Nat.le_of_ble_eq_true rfl⟩) rfl hl.1 rfl (Nat.le_of_ble_eq_true rfl) dX0_drop_24 ⟨Nat.zero_le _, Nat.zero_le _⟩ (fun u24 Hq lq hw Y => ?_)
      subst hw
      refine lv_iconst (v := nI (1)) hx hb dX0_drop_27 (by decide) ?_
      exact z_ret (v := nI (1)) (u := (cs3 u, cs4 u, upd (cs5 u) f (-1), upd (cs6 u) f (nI 0), upd (cs7 u) f (nI 0), upd (cs8 u) f (nI 0), csh u, csr u, csw u)) Z Y (rfl) (by rw [spDrop_1 hfo (by have := (nI_le0 hb6).mp c17; omega)]; exact ⟨rfl, hg, hN, Rp_empty f hR.2.2.1, Iv_empty f hR.2.2.2⟩) dX0_drop_28
    · refine lv_iconst (v := nI (0)) hx hb dX0_drop_20 (by decide) ?_
      exact z_ret (v := nI (0)) (u := u) Z Y (rfl) (by rw [spDrop_0 hfo (Nat.pos_of_ne_zero (fun z => c17 ((nI_le0 hb6).mpr z)))]; exact ⟨rfl, hR⟩) dX0_drop_21
  · refine lv_istore_n (lv' := [(2, .int ((-1))), (0, .ref (ga0 g)), (1, .int (x))]) hx hb dX0_drop_5 rfl hl (by decide) rfl (fun ls hl => ?_)
    refine lv_iload_n hx hb dX0_drop_6 rfl (lv_at hl 0 rfl) ?_
    refine lv_iconst (v := (-1)) hx hb dX0_drop_7 (by decide) ?_
    refine lv_icmp_eq (tgt := 20) hx hb dX0_drop_8 (by decide) (fun _ => ?_) (fun c8 => absurd (rfl) c8)
    refine lv_iconst (v := nI (0)) hx hb dX0_drop_20 (by decide) ?_
    exact z_ret (v := nI (0)) (u := u) Z Y (rfl) (by rw [spDrop_no hfo]; exact ⟨rfl, hR⟩) dX0_drop_21

set_option maxHeartbeats 4000000 in
set_option maxRecDepth 100000 in
theorem kX0_flushAll (l : Launch) (dC : Nat → ClassId) (dI : Nat → Nat → Nat) {g : GE} {N : Nat} {a : AS} {u : CS} (hR : Rep g N a u) (hX : geS g = geW g) : zMI l yX0_flushAll wsX0_flushAll ({ frames := 3, cells := 0, slots := 0, locals := 85 }) dC dI 0 g u [] (fun r u1 => r = nI (faN (geF g) 0 0 a).1 ∧ Rep g N (faN (geF g) 0 0 a).2 u1) := by
  refine zMI_of (cc := cX0_flushAll) (maxL := 3) (ret := (some .int)) (by decide) rfl (Nat.le_of_ble_eq_true rfl) ?_
  intro p e s m below meth c A ls Z Y hl
  have hin : ∀ w ∈ wsX00, w ∈ wsX0_flushAll := fun w h => List.mem_cons_of_mem _ (List.mem_append_right _ h)
  obtain ⟨hx, hb, hml, hown, hts, hr, hlk⟩ := id Z
  have L13 := hts (.fieldLink RX0 13 "FramePool" "frameCount" "I") (by decide +kernel)
  have L36 := hts (.fieldLink RX0 36 "FramePool" "dirty" "[Z") (by decide +kernel)
  have hl : lv_has ls 3 [(0, .ref (ga0 g))] := hl
  have hg := hR.1
  have hN := hR.2.1
  obtain ⟨b1, b2, b3, b4, b5, b6, b7⟩ := gokB hg
  obtain ⟨r3, r4, r5, r6, r7, r8, r9, r10, r11⟩ := id hR.2.2.1
  obtain ⟨i1, i2, i3, i4, i5⟩ := id hR.2.2.2
  have b8 : geF g ≤ 32 := hg.2.1
  have loop : ∀ (R0 : Nat × AS) (n k k1 : Nat) (a : AS) (u : CS), k + n = geF g → Rep g N a u → faN n k k1 a = R0 → ∀ (H : Heap) (locs : List Loc), zW dC dI 0 g A s.heap s (u) H locs → ∀ ls : Array Slot, lv_has ls 3 [(0, .ref (ga0 g)), (1, .int (nI (k1))), (2, .int (nI (k)))] → W p l e ({ frames := 3, cells := 0, slots := 0, locals := 85 }) s m (Value.ref (ga0 g) :: []).toArray below meth c H locs 0 0 (zQI below dC dI 0 g A (fun r u1 => r = nI R0.1 ∧ Rep g N R0.2 u1) (Value.ref (ga0 g) :: []).toArray s) (F0 m 4 ls []) := by
    intro R0 n
    induction n with
    | zero =>
      intro k k1 a u hkn hR hF0 Hq lq Y ls hl
      refine lv_iload_n hx hb dX0_flushAll_4 rfl (lv_at hl 2 rfl) ?_
      refine lv_aload_n hx hb dX0_flushAll_5 rfl (lv_at hl 0 rfl) ?_
      refine z_get (T := TX0) (v := .int (nI (geF g))) Z hin rfl Y 0 (by decide) L13 rfl rfl dX0_flushAll_6 ?_
      refine lv_icmp_ge (tgt := 35) hx hb dX0_flushAll_9 (by decide) (fun _ => ?_) (fun c9 => absurd ((nI_leI (by omega) (by omega)).mpr (by omega)) c9)
      refine lv_iload_n hx hb dX0_flushAll_35 rfl (lv_at hl 1 rfl) ?_
      exact z_ret (v := nI (k1)) (u := u) Z Y (rfl) (by rw [← hF0]; exact ⟨rfl, hR⟩) dX0_flushAll_36
    | succ n ih =>
      intro k k1 a u hkn hR hF0 Hq lq Y ls hl
      have hkF : k < geF g := by omega
      obtain ⟨r3, r4, r5, r6, r7, r8, r9, r10, r11⟩ := id hR.2.2.1
      refine lv_iload_n hx hb dX0_flushAll_4 rfl (lv_at hl 2 rfl) ?_
      refine lv_aload_n hx hb dX0_flushAll_5 rfl (lv_at hl 0 rfl) ?_
      refine z_get (T := TX0) (v := .int (nI (geF g))) Z hin rfl Y 0 (by decide) L13 rfl rfl dX0_flushAll_6 ?_
      refine lv_icmp_ge (tgt := 35) hx hb dX0_flushAll_9 (by decide) (fun c9 => absurd c9 (fun q => absurd ((nI_leI (by omega) (by omega)).mp q) (by omega))) (fun _ => ?_)
      refine lv_aload_n hx hb dX0_flushAll_12 rfl (lv_at hl 0 rfl) ?_
      refine z_get (T := TX0) (v := .ref (ga7 g)) Z hin rfl Y 7 (by decide) L36 rfl rfl dX0_flushAll_13 ?_
      refine lv_iload_n hx hb dX0_flushAll_16 rfl (lv_at hl 2 rfl) ?_
      refine z_ld7 Z Y (k) (rfl) (by omega) (by omega) dX0_flushAll_17 ?_
      refine z_top (adt a k) (r7 k hkF) ?_
      refine lv_if_eq (tgt := 29) hx hb dX0_flushAll_18 (by decide) (fun c18 => ?_) (fun c18 => ?_)
      · refine lv_iinc (v := nI (k + 1)) (lv' := [(2, .int (nI (k + 1))), (0, .ref (ga0 g)), (1, .int (nI (k1)))]) hx hb dX0_flushAll_29 hl (k := 2) rfl (nI_add (k) 1) (by decide) rfl (fun ls hl => ?_)
        refine lv_goto (tgt := 4) hx hb dX0_flushAll_32 (by decide) ?_
        exact ih (k + 1) k1 a u (by omega) hR (by rw [← hF0, faN_0 c18]) _ _ Y ls (lv_sub hl [1, 2, 0] rfl)
      · obtain ⟨q, hq, hpq⟩ := dt_pg hR.2.2.2 hkF c18
        refine lv_aload_n hx hb dX0_flushAll_21 rfl (lv_at hl 0 rfl) ?_
        refine lv_iload_n hx hb dX0_flushAll_22 rfl (lv_at hl 2 rfl) ?_
        refine z_callV (rest := []) Z Y rfl (kX0_writeBack l dC dI hR hX hkF hq hpq) (cwV 1 hts gX0_flushAll_X0_writeBack rfl rfl rfl (by decide +kernel) ⟨Nat.le_of_ble_eq_true rfl, Nat.le_of_ble_eq_true rfl⟩) rfl hl.1 rfl (Nat.le_of_ble_eq_true rfl) dX0_flushAll_23 ⟨Nat.zero_le _, Nat.zero_le _⟩ (fun u23 Hq lq hw Y => ?_)
        refine lv_iinc (v := nI (k1 + 1)) (lv' := [(1, .int (nI (k1 + 1))), (0, .ref (ga0 g)), (2, .int (nI (k)))]) hx hb dX0_flushAll_26 hl (k := 1) rfl (nI_add (k1) 1) (by decide) rfl (fun ls hl => ?_)
        refine lv_iinc (v := nI (k + 1)) (lv' := [(2, .int (nI (k + 1))), (1, .int (nI (k1 + 1))), (0, .ref (ga0 g))]) hx hb dX0_flushAll_29 hl (k := 2) rfl (nI_add (k) 1) (by decide) rfl (fun ls hl => ?_)
        refine lv_goto (tgt := 4) hx hb dX0_flushAll_32 (by decide) ?_
        exact ih (k + 1) (k1 + 1) _ _ (by omega) hw (by rw [← hF0, faN_1 (show q < 2 ^ 31 by omega) c18 hpq]) _ _ Y ls (lv_sub hl [2, 1, 0] rfl)
  refine lv_iconst (v := nI (0)) hx hb dX0_flushAll_0 (by decide) ?_
  refine lv_istore_n (lv' := [(1, .int (nI (0))), (0, .ref (ga0 g))]) hx hb dX0_flushAll_1 rfl hl (by decide) rfl (fun ls hl => ?_)
  refine lv_iconst (v := nI (0)) hx hb dX0_flushAll_2 (by decide) ?_
  refine lv_istore_n (lv' := [(2, .int (nI (0))), (1, .int (nI (0))), (0, .ref (ga0 g))]) hx hb dX0_flushAll_3 rfl hl (by decide) rfl (fun ls hl => ?_)
  exact loop _ (geF g) 0 0 a u (by omega) hR rfl _ _ Y ls (lv_sub hl [2, 1, 0] rfl)

set_option maxHeartbeats 4000000 in
set_option maxRecDepth 100000 in
theorem kX0_copy (l : Launch) (dC : Nat → ClassId) (dI : Nat → Nat → Nat) {g : GE} {N : Nat} {a : AS} {u : CS} (hR : Rep g N a u) (hX : geS g = geW g) (x y : Int32) : zMI l yX0_copy wsX0_copy ({ frames := 2, cells := 0, slots := 0, locals := 64 }) dC dI 0 g u [.int (x), .int (y)] (fun r u1 => r = (spCopy g a x y).1 ∧ Rep g N (spCopy g a x y).2 u1) := by
  refine zMI_of (cc := cX0_copy) (maxL := 5) (ret := (some .int)) (by decide) rfl (Nat.le_of_ble_eq_true rfl) ?_
  intro p e s m below meth c A ls Z Y hl
  have hin : ∀ w ∈ wsX00, w ∈ wsX0_copy := fun w h => List.mem_cons_of_mem _ (List.mem_append_right _ h)
  obtain ⟨hx, hb, hml, hown, hts, hr, hlk⟩ := id Z
  have L23 := hts (.fieldLink RX0 23 "FramePool" "diskWords" "[I") (by decide +kernel)
  have L27 := hts (.fieldLink RX0 27 "FramePool" "frameWords" "[I") (by decide +kernel)
  have L36 := hts (.fieldLink RX0 36 "FramePool" "dirty" "[Z") (by decide +kernel)
  have hl : lv_has ls 5 [(0, .ref (ga0 g)), (1, .int (x)), (2, .int (y))] := hl
  have hg := hR.1
  have hN := hR.2.1
  obtain ⟨b1, b2, b3, b4, b5, b6, b7⟩ := gokB hg
  obtain ⟨r3, r4, r5, r6, r7, r8, r9, r10, r11⟩ := id hR.2.2.1
  obtain ⟨i1, i2, i3, i4, i5⟩ := id hR.2.2.2
  refine lv_aload_n hx hb dX0_copy_0 rfl (lv_at hl 0 rfl) ?_
  refine lv_iload_n hx hb dX0_copy_1 rfl (lv_at hl 1 rfl) ?_
  refine z_callI (rest := []) Z Y rfl (kX0_isPage l dC dI hg u x) (cwV 1 hts gX0_copy_X0_isPage rfl rfl rfl (by decide +kernel) ⟨Nat.le_of_ble_eq_true rfl, Nat.le_of_ble_eq_true rfl⟩) rfl hl.1 rfl (Nat.le_of_ble_eq_true rfl) dX0_copy_2 ⟨Nat.zero_le _, Nat.zero_le _⟩ (fun r2 u2 Hq lq hw Y => ?_)
  obtain ⟨rfl, hw⟩ := hw
  rcases hw with ⟨rfl, hw2⟩ | ⟨rfl, hw2⟩
  · refine lv_if_eq (tgt := 16) hx hb dX0_copy_5 (by decide) (fun c5 => absurd c5 (by decide)) (fun _ => ?_)
    refine lv_aload_n hx hb dX0_copy_8 rfl (lv_at hl 0 rfl) ?_
    refine lv_iload_n hx hb dX0_copy_9 rfl (lv_at hl 2 rfl) ?_
    refine z_callI (rest := []) Z Y rfl (kX0_isPage l dC dI hg u y) (cwV 1 hts gX0_copy_X0_isPage rfl rfl rfl (by decide +kernel) ⟨Nat.le_of_ble_eq_true rfl, Nat.le_of_ble_eq_true rfl⟩) rfl hl.1 rfl (Nat.le_of_ble_eq_true rfl) dX0_copy_10 ⟨Nat.zero_le _, Nat.zero_le _⟩ (fun r10 u10 Hq lq hw Y => ?_)
    obtain ⟨rfl, hw⟩ := hw
    rcases hw with ⟨rfl, hw10⟩ | ⟨rfl, hw10⟩
    · obtain ⟨q, hq, rfl⟩ := vp_in_of hw10 b2
      refine lv_if_ne (tgt := 19) hx hb dX0_copy_13 (by decide) (fun _ => ?_) (fun c13 => absurd c13 (by decide))
      refine lv_aload_n hx hb dX0_copy_19 rfl (lv_at hl 0 rfl) ?_
      refine lv_iload_n hx hb dX0_copy_20 rfl (lv_at hl 1 rfl) ?_
      refine z_callI (rest := []) Z Y rfl (kX0_frameOf l dC dI hR x) (cwV 1 hts gX0_copy_X0_frameOf rfl rfl rfl (by decide +kernel) ⟨Nat.le_of_ble_eq_true rfl, Nat.le_of_ble_eq_true rfl⟩) rfl hl.1 rfl (Nat.le_of_ble_eq_true rfl) dX0_copy_21 ⟨Nat.zero_le _, Nat.zero_le _⟩ (fun r21 u21 Hq lq hw Y => ?_)
      obtain ⟨rfl, hw⟩ := hw
      rcases hw with ⟨f, q21, hf21, hq21, hx21, rfl, hp21, hfo21⟩ | ⟨rfl, hfo21⟩
      · refine lv_istore_n (lv' := [(3, .int (nI (f))), (0, .ref (ga0 g)), (1, .int (x)), (2, .int (nI (q)))]) hx hb dX0_copy_24 rfl hl (by decide) rfl (fun ls hl => ?_)
        refine lv_aload_n hx hb dX0_copy_25 rfl (lv_at hl 1 rfl) ?_
        refine lv_iload_n hx hb dX0_copy_26 rfl (lv_at hl 0 rfl) ?_
        refine z_callI (rest := []) Z Y rfl (kX0_isPinnedFrame l dC dI hR (nI f)) (cwV 1 hts gX0_copy_X0_isPinnedFrame rfl rfl rfl (by decide +kernel) ⟨Nat.le_of_ble_eq_true rfl, Nat.le_of_ble_eq_true rfl⟩) rfl hl.1 rfl (Nat.le_of_ble_eq_true rfl) dX0_copy_27 ⟨Nat.zero_le _, Nat.zero_le _⟩ (fun r27 u27 Hq lq hw Y => ?_)
        obtain ⟨rfl, hw⟩ := hw
        rcases hw with ⟨rfl, hw27⟩ | ⟨rfl, hw27⟩
        · have h0 : 0 < apn a f := by have := hw27.2; rw [nI_clamp (show f < 2 ^ 31 by omega)] at this; exact this
          refine lv_if_ne (tgt := 36) hx hb dX0_copy_30 (by decide) (fun _ => ?_) (fun c30 => absurd c30 (by decide))
          refine lv_aload_n hx hb dX0_copy_36 rfl (lv_at hl 1 rfl) ?_
          refine lv_iload_n hx hb dX0_copy_37 rfl (lv_at hl 3 rfl) ?_
          refine z_callI (rest := []) Z Y rfl (kX0_frameOf l dC dI hR (nI q)) (cwV 1 hts gX0_copy_X0_frameOf rfl rfl rfl (by decide +kernel) ⟨Nat.le_of_ble_eq_true rfl, Nat.le_of_ble_eq_true rfl⟩) rfl hl.1 rfl (Nat.le_of_ble_eq_true rfl) dX0_copy_38 ⟨Nat.zero_le _, Nat.zero_le _⟩ (fun r38 u38 Hq lq hw Y => ?_)
          obtain ⟨rfl, hw⟩ := hw
          rcases hw with ⟨k, q38, hf38, hq38, hx38, rfl, hp38, hfo38⟩ | ⟨rfl, hfo38⟩
          · refine lv_istore (lv' := [(4, .int (nI (k))), (3, .int (nI (f))), (0, .ref (ga0 g)), (1, .int (x)), (2, .int (nI (q)))]) hx hb dX0_copy_41 hl (by decide) rfl (fun ls hl => ?_)
            refine lv_iload hx hb dX0_copy_43 (lv_at hl 0 rfl) ?_
            refine lv_iconst (v := (-1)) hx hb dX0_copy_45 (by decide) ?_
            refine lv_icmp_ne (tgt := 66) hx hb dX0_copy_46 (by decide) (fun _ => ?_) (fun c46 => absurd c46 (nI_ne_m1 (show k < 2 ^ 31 by omega)))
            refine lv_aload_n hx hb dX0_copy_66 rfl (lv_at hl 2 rfl) ?_
            refine lv_aload_n hx hb dX0_copy_67 rfl (lv_at hl 2 rfl) ?_
            refine z_get (T := TX0) (v := .ref (ga4 g)) Z hin rfl Y 4 (by decide) L27 rfl rfl dX0_copy_68 ?_
            refine lv_iload hx hb dX0_copy_71 (lv_at hl 0 rfl) ?_
            refine lv_aload_n hx hb dX0_copy_73 rfl (lv_at hl 2 rfl) ?_
            refine z_get (T := TX0) (v := .ref (ga4 g)) Z hin rfl Y 4 (by decide) L27 rfl rfl dX0_copy_74 ?_
            refine lv_iload_n hx hb dX0_copy_77 rfl (lv_at hl 1 rfl) ?_
            refine z_callV (rest := []) Z Y rfl (kX0_cw44 l dC dI hg hX u hf38 hf21) (cwV 4 hts gX0_copy_X0_copyWords rfl rfl rfl (by decide +kernel) ⟨Nat.le_of_ble_eq_true rfl, Nat.le_of_ble_eq_true rfl⟩) rfl hl.1 rfl (Nat.le_of_ble_eq_true rfl) dX0_copy_78 ⟨Nat.zero_le _, Nat.zero_le _⟩ (fun u78 Hq lq hw Y => ?_)
            subst hw
            refine lv_aload_n hx hb dX0_copy_81 rfl (lv_at hl 2 rfl) ?_
            refine z_get (T := TX0) (v := .ref (ga7 g)) Z hin rfl Y 7 (by decide) L36 rfl rfl dX0_copy_82 ?_
            refine lv_iload_n hx hb dX0_copy_85 rfl (lv_at hl 1 rfl) ?_
            refine lv_iconst (v := nI (1)) hx hb dX0_copy_86 (by decide) ?_
            refine z_st7 (x := nI (1)) Z Y (f) (rfl) (by omega) (by omega) (by decide) dX0_copy_87 (fun Hq lq Y => ?_)
            refine lv_iconst (v := nI (0)) hx hb dX0_copy_88 (by decide) ?_
            exact z_ret (v := nI (0)) (u := ps7 (ps4 (u) (va_cpy (cs4 u) (cs4 u) (k * geS g) (f * geS g) (geW g))) (upd (cs7 (ps4 (u) (va_cpy (cs4 u) (cs4 u) (k * geS g) (f * geS g) (geW g)))) (f) (nI (1)))) Z Y (rfl) (by rw [spCopy_m ⟨hw2, hw10⟩ hfo21 h0 hfo38]; exact ⟨rfl, hg, hN, Rp_rowM f hg hf38 hR.2.2.1, Iv_row _ (pn_pg hR.2.2.2 hf21 h0) hR.2.2.2⟩) dX0_copy_89
          · refine lv_istore (lv' := [(4, .int ((-1))), (3, .int (nI (f))), (0, .ref (ga0 g)), (1, .int (x)), (2, .int (nI (q)))]) hx hb dX0_copy_41 hl (by decide) rfl (fun ls hl => ?_)
            refine lv_iload hx hb dX0_copy_43 (lv_at hl 0 rfl) ?_
            refine lv_iconst (v := (-1)) hx hb dX0_copy_45 (by decide) ?_
            refine lv_icmp_ne (tgt := 66) hx hb dX0_copy_46 (by decide) (fun c46 => absurd (rfl) c46) (fun _ => ?_)
            refine lv_aload_n hx hb dX0_copy_49 rfl (lv_at hl 2 rfl) ?_
            refine lv_aload_n hx hb dX0_copy_50 rfl (lv_at hl 2 rfl) ?_
            refine z_get (T := TX0) (v := .ref (ga3 g)) Z hin rfl Y 3 (by decide) L23 rfl rfl dX0_copy_51 ?_
            refine lv_iload_n hx hb dX0_copy_54 rfl (lv_at hl 4 rfl) ?_
            refine lv_aload_n hx hb dX0_copy_55 rfl (lv_at hl 2 rfl) ?_
            refine z_get (T := TX0) (v := .ref (ga4 g)) Z hin rfl Y 4 (by decide) L27 rfl rfl dX0_copy_56 ?_
            refine lv_iload_n hx hb dX0_copy_59 rfl (lv_at hl 1 rfl) ?_
            refine z_callV (rest := []) Z Y rfl (kX0_cw34 l dC dI hg hX u hq hf21) (cwV 4 hts gX0_copy_X0_copyWords rfl rfl rfl (by decide +kernel) ⟨Nat.le_of_ble_eq_true rfl, Nat.le_of_ble_eq_true rfl⟩) rfl hl.1 rfl (Nat.le_of_ble_eq_true rfl) dX0_copy_60 ⟨Nat.zero_le _, Nat.zero_le _⟩ (fun u60 Hq lq hw Y => ?_)
            subst hw
            refine lv_goto (tgt := 81) hx hb dX0_copy_63 (by decide) ?_
            refine lv_aload_n hx hb dX0_copy_81 rfl (lv_at hl 2 rfl) ?_
            refine z_get (T := TX0) (v := .ref (ga7 g)) Z hin rfl Y 7 (by decide) L36 rfl rfl dX0_copy_82 ?_
            refine lv_iload_n hx hb dX0_copy_85 rfl (lv_at hl 1 rfl) ?_
            refine lv_iconst (v := nI (1)) hx hb dX0_copy_86 (by decide) ?_
            refine z_st7 (x := nI (1)) Z Y (f) (rfl) (by omega) (by omega) (by decide) dX0_copy_87 (fun Hq lq Y => ?_)
            refine lv_iconst (v := nI (0)) hx hb dX0_copy_88 (by decide) ?_
            exact z_ret (v := nI (0)) (u := ps7 (ps4 (u) (va_cpy (cs3 u) (cs4 u) (q * geS g) (f * geS g) (geW g))) (upd (cs7 (ps4 (u) (va_cpy (cs3 u) (cs4 u) (q * geS g) (f * geS g) (geW g)))) (f) (nI (1)))) Z Y (rfl) (by rw [spCopy_d (show q < 2 ^ 31 by omega) ⟨hw2, hw10⟩ hfo21 h0 hfo38]; exact ⟨rfl, hg, hN, Rp_rowD f hg hq hR.2.2.1, Iv_row _ (pn_pg hR.2.2.2 hf21 h0) hR.2.2.2⟩) dX0_copy_89
        · refine lv_if_ne (tgt := 36) hx hb dX0_copy_30 (by decide) (fun c30 => absurd (by decide) c30) (fun _ => ?_)
          refine lv_bipush (v := (-3)) hx hb dX0_copy_33 (by decide) ?_
          exact z_ret (v := (-3)) (u := u) Z Y (rfl) (by rw [spCopy_up ⟨hw2, hw10⟩ hfo21 (fun z => hw27 ⟨in_nI hf21 b1, by rw [nI_clamp (show f < 2 ^ 31 by omega)]; exact z⟩)]; exact ⟨rfl, hR⟩) dX0_copy_35
      · refine lv_istore_n (lv' := [(3, .int ((-1))), (0, .ref (ga0 g)), (1, .int (x)), (2, .int (nI (q)))]) hx hb dX0_copy_24 rfl hl (by decide) rfl (fun ls hl => ?_)
        refine lv_aload_n hx hb dX0_copy_25 rfl (lv_at hl 1 rfl) ?_
        refine lv_iload_n hx hb dX0_copy_26 rfl (lv_at hl 0 rfl) ?_
        refine z_callI (rest := []) Z Y rfl (kX0_isPinnedFrame l dC dI hR (-1)) (cwV 1 hts gX0_copy_X0_isPinnedFrame rfl rfl rfl (by decide +kernel) ⟨Nat.le_of_ble_eq_true rfl, Nat.le_of_ble_eq_true rfl⟩) rfl hl.1 rfl (Nat.le_of_ble_eq_true rfl) dX0_copy_27 ⟨Nat.zero_le _, Nat.zero_le _⟩ (fun r27 u27 Hq lq hw Y => ?_)
        obtain ⟨rfl, hw⟩ := hw
        rcases hw with ⟨rfl, hw27⟩ | ⟨rfl, hw27⟩
        · exact absurd hw27.1 (not_in_neg (by decide))
        · refine lv_if_ne (tgt := 36) hx hb dX0_copy_30 (by decide) (fun c30 => absurd (by decide) c30) (fun _ => ?_)
          refine lv_bipush (v := (-3)) hx hb dX0_copy_33 (by decide) ?_
          exact z_ret (v := (-3)) (u := u) Z Y (rfl) (by rw [spCopy_no ⟨hw2, hw10⟩ hfo21]; exact ⟨rfl, hR⟩) dX0_copy_35
    · refine lv_if_ne (tgt := 19) hx hb dX0_copy_13 (by decide) (fun c13 => absurd (by decide) c13) (fun _ => ?_)
      refine lv_bipush (v := (-2)) hx hb dX0_copy_16 (by decide) ?_
      exact z_ret (v := (-2)) (u := u) Z Y (rfl) (by rw [spCopy_bad (fun z => hw10 z.2)]; exact ⟨rfl, hR⟩) dX0_copy_18
  · refine lv_if_eq (tgt := 16) hx hb dX0_copy_5 (by decide) (fun _ => ?_) (fun c5 => absurd (by decide) c5)
    refine lv_bipush (v := (-2)) hx hb dX0_copy_16 (by decide) ?_
    exact z_ret (v := (-2)) (u := u) Z Y (rfl) (by rw [spCopy_bad (fun z => hw2 z.1)]; exact ⟨rfl, hR⟩) dX0_copy_18

theorem z_len3 {p : Program} {l : Launch} {e : Env} {R : Room} {s : State} {m : MethodId} {args : Array Value} {below : List Frame} {meth : Method} {c : Code} {H : Heap} {locs : List Loc} {cells slots : Nat} {Q : State → Prop} {cc : ByteArray} {nL : Nat} {ret : Option FieldType} {Ts : List Cond} {own : String} {pc : Nat} {ls : Array Slot} {rest : List Value} {dC : Nat → ClassId} {dI : Nat → Nat → Nat} {ci : Nat} {g : GE} {A : Nat → Prop} {H0 : Heap} {u : CS} (Z : zC p s m args meth c cc nL ret Ts own) (Y : zW dC dI ci g A H0 s u H locs) (hdg : decode cc pc = .ok (.arraylength, 1))
    (kk : W p l e R s m args below meth c H locs cells slots Q (F0 m (pc + 1) ls (.int (nI (gn3 g)) :: rest))) : W p l e R s m args below meth c H locs cells slots Q (F0 m pc ls (.ref (ga3 g) :: rest)) :=
  va_alen Z.1 Z.2.1 Y.1 Y.2.1 1 0 (x := (gn3 g, .inl (cs3 u))) rfl rfl rfl hdg kk

set_option maxHeartbeats 4000000 in
set_option maxRecDepth 100000 in
theorem kX0_init_ (l : Launch) (dC : Nat → ClassId) (dI : Nat → Nat → Nat) {g : GE} (hg : gok g) (u : CS) : zMV l yX0_init_ wsX0_init_ ({ frames := 1, cells := 0, slots := 0, locals := 21 }) dC dI 0 g u [] (fun u1 => iniP g (geF g) u u1) := by
  refine zMV_of (cc := cX0_init_) (maxL := 2) (ret := none) (by decide) rfl (Nat.le_of_ble_eq_true rfl) ?_
  intro p e s m below meth c A ls Z Y hl
  have hin : ∀ w ∈ wsX00, w ∈ wsX0_init_ := fun w h => List.mem_cons_of_mem _ (List.mem_append_right _ h)
  obtain ⟨hx, hb, hml, hown, hts, hr, hlk⟩ := id Z
  have L13 := hts (.fieldLink RX0 13 "FramePool" "frameCount" "I") (by decide +kernel)
  have L23 := hts (.fieldLink RX0 23 "FramePool" "diskWords" "[I") (by decide +kernel)
  have L50 := hts (.fieldLink RX0 50 "FramePool" "handAt" "I") (by decide +kernel)
  have L53 := hts (.fieldLink RX0 53 "FramePool" "reads" "I") (by decide +kernel)
  have L56 := hts (.fieldLink RX0 56 "FramePool" "writes" "I") (by decide +kernel)
  have hl : lv_has ls 2 [(0, .ref (ga0 g))] := hl
  obtain ⟨b1, b2, b3, b4, b5, b6, b7⟩ := gokB hg
  have loop2 : ∀ (n k : Nat) (u2 : CS), k + n = gn3 g → cs4 u2 = cs4 u → (∀ j, j < k → cs3 u2 j = nI 0) → (∀ f, f < geF g → cs5 u2 f = -1 ∧ cs6 u2 f = nI 0 ∧ cs7 u2 f = nI 0 ∧ cs8 u2 f = nI 0) → ∀ (H : Heap) (locs : List Loc), zW dC dI 0 g A s.heap s (u2) H locs → ∀ ls : Array Slot, lv_has ls 2 [(0, .ref (ga0 g)), (1, .int (nI (k)))] → W p l e ({ frames := 1, cells := 0, slots := 0, locals := 21 }) s m (Value.ref (ga0 g) :: []).toArray below meth c H locs 0 0 (zQV below dC dI 0 g A (fun u1 => iniP g (geF g) u u1) (Value.ref (ga0 g) :: []).toArray s) (F0 m 23 ls []) := by
    intro n
    induction n with
    | zero =>
      intro k u2 hkn h4 h3 h5 Hq lq Y ls hl
      refine lv_iload_n hx hb dX0_init__23 rfl (lv_at hl 1 rfl) ?_
      refine lv_aload_n hx hb dX0_init__24 rfl (lv_at hl 0 rfl) ?_
      refine z_get (T := TX0) (v := .ref (ga3 g)) Z hin rfl Y 3 (by decide) L23 rfl rfl dX0_init__25 ?_
      refine z_len3 Z Y dX0_init__28 ?_
      refine lv_icmp_ge (tgt := 45) hx hb dX0_init__29 (by decide) (fun _ => ?_) (fun c29 => absurd ((nI_leI (by omega) (by omega)).mpr (by omega)) c29)
      refine lv_aload_n hx hb dX0_init__45 rfl (lv_at hl 0 rfl) ?_
      refine lv_iconst (v := nI (0)) hx hb dX0_init__46 (by decide) ?_
      refine z_puth (T := TX0) (v := nI (0)) Z hin tyX0_ok nmX0 rfl Y L50 rfl rfl rfl dX0_init__47 (fun Hq lq Y => ?_)
      refine lv_aload_n hx hb dX0_init__50 rfl (lv_at hl 0 rfl) ?_
      refine lv_iconst (v := nI (0)) hx hb dX0_init__51 (by decide) ?_
      refine z_putr (T := TX0) (v := nI (0)) Z hin tyX0_ok nmX0 rfl Y L53 rfl rfl rfl dX0_init__52 (fun Hq lq Y => ?_)
      refine lv_aload_n hx hb dX0_init__55 rfl (lv_at hl 0 rfl) ?_
      refine lv_iconst (v := nI (0)) hx hb dX0_init__56 (by decide) ?_
      refine z_putw (T := TX0) (v := nI (0)) Z hin tyX0_ok nmX0 rfl Y L56 rfl rfl rfl dX0_init__57 (fun Hq lq Y => ?_)
      exact z_vret (u := psw (psr (psh (u2) (nI (0))) (nI (0))) (nI (0))) Z Y (⟨h4, fun j hj => h3 j (by omega), h5, rfl, rfl, rfl⟩) dX0_init__60
    | succ n ih =>
      intro k u2 hkn h4 h3 h5 Hq lq Y ls hl
      refine lv_iload_n hx hb dX0_init__23 rfl (lv_at hl 1 rfl) ?_
      refine lv_aload_n hx hb dX0_init__24 rfl (lv_at hl 0 rfl) ?_
      refine z_get (T := TX0) (v := .ref (ga3 g)) Z hin rfl Y 3 (by decide) L23 rfl rfl dX0_init__25 ?_
      refine z_len3 Z Y dX0_init__28 ?_
      refine lv_icmp_ge (tgt := 45) hx hb dX0_init__29 (by decide) (fun c29 => absurd c29 (fun q => absurd ((nI_leI (by omega) (by omega)).mp q) (by omega))) (fun _ => ?_)
      refine lv_aload_n hx hb dX0_init__32 rfl (lv_at hl 0 rfl) ?_
      refine z_get (T := TX0) (v := .ref (ga3 g)) Z hin rfl Y 3 (by decide) L23 rfl rfl dX0_init__33 ?_
      refine lv_iload_n hx hb dX0_init__36 rfl (lv_at hl 1 rfl) ?_
      refine lv_iconst (v := nI (0)) hx hb dX0_init__37 (by decide) ?_
      refine z_st3 (x := nI (0)) Z Y (k) (rfl) (by omega) (by omega) dX0_init__38 (fun Hq lq Y => ?_)
      refine lv_iinc (v := nI (k + 1)) (lv' := [(1, .int (nI (k + 1))), (0, .ref (ga0 g))]) hx hb dX0_init__39 hl (k := 1) rfl (nI_add (k) 1) (by decide) rfl (fun ls hl => ?_)
      refine lv_goto (tgt := 23) hx hb dX0_init__42 (by decide) ?_
      refine ih (k + 1) (ps3 u2 (upd (cs3 u2) k (nI 0))) (by omega) h4 (fun j hj => ?_) h5 _ _ Y ls (lv_sub hl [1, 0] rfl)
      show upd (cs3 u2) k (nI 0) j = nI 0
      by_cases e : j = k
      · subst e; exact pk_us
      · rw [pk_un e]; exact h3 j (by omega)
  have loop1 : ∀ (n k : Nat) (u2 : CS), k + n = geF g → cs4 u2 = cs4 u → (∀ f, f < k → cs5 u2 f = -1 ∧ cs6 u2 f = nI 0 ∧ cs7 u2 f = nI 0 ∧ cs8 u2 f = nI 0) → ∀ (H : Heap) (locs : List Loc), zW dC dI 0 g A s.heap s (u2) H locs → ∀ ls : Array Slot, lv_has ls 2 [(0, .ref (ga0 g)), (1, .int (nI (k)))] → W p l e ({ frames := 1, cells := 0, slots := 0, locals := 21 }) s m (Value.ref (ga0 g) :: []).toArray below meth c H locs 0 0 (zQV below dC dI 0 g A (fun u1 => iniP g (geF g) u u1) (Value.ref (ga0 g) :: []).toArray s) (F0 m 2 ls []) := by
    intro n
    induction n with
    | zero =>
      intro k u2 hkn h4 h5 Hq lq Y ls hl
      refine lv_iload_n hx hb dX0_init__2 rfl (lv_at hl 1 rfl) ?_
      refine lv_aload_n hx hb dX0_init__3 rfl (lv_at hl 0 rfl) ?_
      refine z_get (T := TX0) (v := .int (nI (geF g))) Z hin rfl Y 0 (by decide) L13 rfl rfl dX0_init__4 ?_
      refine lv_icmp_ge (tgt := 21) hx hb dX0_init__7 (by decide) (fun _ => ?_) (fun c7 => absurd ((nI_leI (by omega) (by omega)).mpr (by omega)) c7)
      refine lv_iconst (v := nI (0)) hx hb dX0_init__21 (by decide) ?_
      refine lv_istore_n (lv' := [(1, .int (nI (0))), (0, .ref (ga0 g))]) hx hb dX0_init__22 rfl hl (by decide) rfl (fun ls hl => ?_)
      exact loop2 (gn3 g) 0 u2 (by omega) h4 (fun j hj => absurd hj (by omega)) (fun f hf => h5 f (by omega)) _ _ Y ls (lv_sub hl [1, 0] rfl)
    | succ n ih =>
      intro k u2 hkn h4 h5 Hq lq Y ls hl
      have hkF : k < geF g := by omega
      refine lv_iload_n hx hb dX0_init__2 rfl (lv_at hl 1 rfl) ?_
      refine lv_aload_n hx hb dX0_init__3 rfl (lv_at hl 0 rfl) ?_
      refine z_get (T := TX0) (v := .int (nI (geF g))) Z hin rfl Y 0 (by decide) L13 rfl rfl dX0_init__4 ?_
      refine lv_icmp_ge (tgt := 21) hx hb dX0_init__7 (by decide) (fun c7 => absurd c7 (fun q => absurd ((nI_leI (by omega) (by omega)).mp q) (by omega))) (fun _ => ?_)
      refine lv_aload_n hx hb dX0_init__10 rfl (lv_at hl 0 rfl) ?_
      refine lv_iload_n hx hb dX0_init__11 rfl (lv_at hl 1 rfl) ?_
      refine z_callV (rest := []) Z Y rfl (kX0_makeEmpty l dC dI hg u2 hkF) (cwV 1 hts gX0_init__X0_makeEmpty rfl rfl rfl (by decide +kernel) ⟨Nat.le_of_ble_eq_true rfl, Nat.le_of_ble_eq_true rfl⟩) rfl hl.1 rfl (Nat.le_of_ble_eq_true rfl) dX0_init__12 ⟨Nat.zero_le _, Nat.zero_le _⟩ (fun u12 Hq lq hw Y => ?_)
      subst hw
      refine lv_iinc (v := nI (k + 1)) (lv' := [(1, .int (nI (k + 1))), (0, .ref (ga0 g))]) hx hb dX0_init__15 hl (k := 1) rfl (nI_add (k) 1) (by decide) rfl (fun ls hl => ?_)
      refine lv_goto (tgt := 2) hx hb dX0_init__18 (by decide) ?_
      refine ih (k + 1) (cs3 u2, cs4 u2, upd (cs5 u2) k (-1), upd (cs6 u2) k (nI 0), upd (cs7 u2) k (nI 0), upd (cs8 u2) k (nI 0), csh u2, csr u2, csw u2) (by omega) h4 (fun f hf => ?_) _ _ Y ls (lv_sub hl [1, 0] rfl)
      show upd (cs5 u2) k (-1) f = -1 ∧ upd (cs6 u2) k (nI 0) f = nI 0 ∧ upd (cs7 u2) k (nI 0) f = nI 0 ∧ upd (cs8 u2) k (nI 0) f = nI 0
      by_cases e : f = k
      · subst e; exact ⟨pk_us, pk_us, pk_us, pk_us⟩
      · rw [pk_un e, pk_un e, pk_un e, pk_un e]; exact h5 f (by omega)
  refine lv_iconst (v := nI (0)) hx hb dX0_init__0 (by decide) ?_
  refine lv_istore_n (lv' := [(1, .int (nI (0))), (0, .ref (ga0 g))]) hx hb dX0_init__1 rfl hl (by decide) rfl (fun ls hl => ?_)
  exact loop1 (geF g) 0 u (by omega) rfl (fun f hf => absurd hf (by omega)) _ _ Y ls (lv_sub hl [1, 0] rfl)
end
section
/-! ===== FramePoolModel: the methods that only look ===== -/
theorem m8 {g : GE} {k : Nat} (h : geS g = 8) : nI 8 * nI k = nI (k * geS g) := by rw [h, pk_mul, Nat.mul_comm]
theorem nI_ne_m5 {n : Nat} (h : n < 2 ^ 31) : nI n ≠ -5 := by
  intro e
  have h1 := nI_toInt h
  rw [e] at h1
  have h2 : (-5 : Int32).toInt = -5 := by decide +kernel
  omega
theorem Rp_emptyE {g : GE} {N : Nat} {a : AS} {u : CS} {f : Nat} (hi : Iv g N a) (hf : f < geF g) (he : apg a f = -1) (h : Rp g a u) : Rp g a (cs3 u, cs4 u, upd (cs5 u) f (-1), upd (cs6 u) f (nI 0), upd (cs7 u) f (nI 0), upd (cs8 u) f (nI 0), csh u, csr u, csw u) := by
  obtain ⟨h3, h4, h5, h6, h7, h8, h9, h10, h11⟩ := h
  obtain ⟨q1, q2, q3⟩ := hi.2.2.2.1 f hf he
  exact ⟨h3, h4, ag_same h5 (fun _ => he), ag_same (h := fun j => nI (apn a j)) h6 (fun _ => by show nI (apn a f) = nI 0; rw [q1]), ag_same h7 (fun _ => q2), ag_same h8 (fun _ => q3), h9, h10, h11⟩
theorem cpy_self {h t : Nat → Int32} {k2 f s k W : Nat} (hk : k < W) (hW : W ≤ s) : va_cpy h t (k2 * s) (f * s) k (k2 * s + k) = t (k2 * s + k) := by
  refine pk_cpy_out ?_
  rcases Nat.lt_or_ge k2 f with q | q
  · have : (k2 + 1) * s ≤ f * s := Nat.mul_le_mul_right s q
    rw [Nat.succ_mul] at this
    exact Or.inl (by omega)
  · have : f * s ≤ k2 * s := Nat.mul_le_mul_right s q
    exact Or.inr (by omega)

set_option maxHeartbeats 4000000 in
set_option maxRecDepth 100000 in
theorem kX1_isPage (l : Launch) (dC : Nat → ClassId) (dI : Nat → Nat → Nat) {g : GE} (hg : gok g) (u : CS) (x : Int32) : zMI l yX1_isPage wsX1_isPage ({ frames := 0, cells := 0, slots := 0, locals := 0 }) dC dI 1 g u [.int (x)] (fun r u1 => u = u1 ∧ bP r (vp_in x (geP g))) := by
  refine zMI_of (cc := cX1_isPage) (maxL := 2) (ret := (some .boolean)) (by decide) rfl (Nat.le_of_ble_eq_true rfl) ?_
  intro p e s m below meth c A ls Z Y hl
  have hin : ∀ w ∈ wsX10, w ∈ wsX1_isPage := fun w h => List.mem_cons_of_mem _ (List.mem_append_right _ h)
  obtain ⟨hx, hb, hml, hown, hts, hr, hlk⟩ := id Z
  have L33 := hts (.fieldLink RX1 33 "FramePoolModel" "pages" "I") (by decide +kernel)
  have hl : lv_has ls 2 [(0, .ref (ga0 g)), (1, .int (x))] := hl
  have hn : geP g < 2 ^ 31 := (gokB hg).2.1
  refine lv_iload_n hx hb dX1_isPage_0 rfl (lv_at hl 1 rfl) ?_
  refine lv_if_lt (tgt := 16) hx hb dX1_isPage_1 (by decide) (fun c1 => ?_) (fun c1 => ?_)
  · refine lv_iconst (v := nI (0)) hx hb dX1_isPage_16 (by decide) ?_
    exact z_ret (v := nI (0)) (u := u) Z Y (rfl) (⟨rfl, Or.inr ⟨rfl, not_in_neg c1⟩⟩) dX1_isPage_17
  · refine lv_iload_n hx hb dX1_isPage_4 rfl (lv_at hl 1 rfl) ?_
    refine lv_aload_n hx hb dX1_isPage_5 rfl (lv_at hl 0 rfl) ?_
    refine z_get (T := TX1) (v := .int (nI (geP g))) Z hin rfl Y 1 (by decide) L33 rfl rfl dX1_isPage_6 ?_
    refine lv_icmp_ge (tgt := 16) hx hb dX1_isPage_9 (by decide) (fun c9 => ?_) (fun c9 => ?_)
    · refine lv_iconst (v := nI (0)) hx hb dX1_isPage_16 (by decide) ?_
      exact z_ret (v := nI (0)) (u := u) Z Y (rfl) (⟨rfl, Or.inr ⟨rfl, not_in_ge hn c9⟩⟩) dX1_isPage_17
    · refine lv_iconst (v := nI (1)) hx hb dX1_isPage_12 (by decide) ?_
      refine lv_goto (tgt := 17) hx hb dX1_isPage_13 (by decide) ?_
      exact z_ret (v := nI (1)) (u := u) Z Y (rfl) (⟨rfl, Or.inl ⟨rfl, (in_iff hn).mpr ⟨i_le_of c1, i_lt_of c9⟩⟩⟩) dX1_isPage_17

set_option maxHeartbeats 4000000 in
set_option maxRecDepth 100000 in
theorem kX1_isPinned (l : Launch) (dC : Nat → ClassId) (dI : Nat → Nat → Nat) {g : GE} {N : Nat} {a : AS} {u : CS} (hR : Rep g N a u) (x : Int32) : zMI l yX1_isPinned wsX1_isPinned ({ frames := 0, cells := 0, slots := 0, locals := 0 }) dC dI 1 g u [.int (x)] (fun r u1 => u = u1 ∧ bP r (vp_in x (geF g) ∧ 0 < apn a x.toNatClampNeg)) := by
  refine zMI_of (cc := cX1_isPinned) (maxL := 2) (ret := (some .boolean)) (by decide) rfl (Nat.le_of_ble_eq_true rfl) ?_
  intro p e s m below meth c A ls Z Y hl
  have hin : ∀ w ∈ wsX10, w ∈ wsX1_isPinned := fun w h => List.mem_cons_of_mem _ (List.mem_append_right _ h)
  obtain ⟨hx, hb, hml, hown, hts, hr, hlk⟩ := id Z
  have L19 := hts (.fieldLink RX1 19 "FramePoolModel" "pins" "[I") (by decide +kernel)
  have L29 := hts (.fieldLink RX1 29 "FramePoolModel" "frames" "I") (by decide +kernel)
  have hl : lv_has ls 2 [(0, .ref (ga0 g)), (1, .int (x))] := hl
  have hg := hR.1
  have hN := hR.2.1
  obtain ⟨b1, b2, b3, b4, b5, b6, b7⟩ := gokB hg
  obtain ⟨r3, r4, r5, r6, r7, r8, r9, r10, r11⟩ := id hR.2.2.1
  obtain ⟨i1, i2, i3, i4, i5⟩ := id hR.2.2.2
  refine lv_iload_n hx hb dX1_isPinned_0 rfl (lv_at hl 1 rfl) ?_
  refine lv_if_lt (tgt := 25) hx hb dX1_isPinned_1 (by decide) (fun c1 => ?_) (fun c1 => ?_)
  · refine lv_iconst (v := nI (0)) hx hb dX1_isPinned_25 (by decide) ?_
    exact z_ret (v := nI (0)) (u := u) Z Y (rfl) (⟨rfl, Or.inr ⟨rfl, fun q => not_in_neg c1 q.1⟩⟩) dX1_isPinned_26
  · refine lv_iload_n hx hb dX1_isPinned_4 rfl (lv_at hl 1 rfl) ?_
    refine lv_aload_n hx hb dX1_isPinned_5 rfl (lv_at hl 0 rfl) ?_
    refine z_get (T := TX1) (v := .int (nI (geF g))) Z hin rfl Y 0 (by decide) L29 rfl rfl dX1_isPinned_6 ?_
    refine lv_icmp_ge (tgt := 25) hx hb dX1_isPinned_9 (by decide) (fun c9 => ?_) (fun c9 => ?_)
    · refine lv_iconst (v := nI (0)) hx hb dX1_isPinned_25 (by decide) ?_
      exact z_ret (v := nI (0)) (u := u) Z Y (rfl) (⟨rfl, Or.inr ⟨rfl, fun q => not_in_ge b1 c9 q.1⟩⟩) dX1_isPinned_26
    · obtain ⟨k, hk, rfl⟩ := in_of b1 (i_le_of c1) (i_lt_of c9)
      refine lv_aload_n hx hb dX1_isPinned_12 rfl (lv_at hl 0 rfl) ?_
      refine z_get (T := TX1) (v := .ref (ga6 g)) Z hin rfl Y 6 (by decide) L19 rfl rfl dX1_isPinned_13 ?_
      refine lv_iload_n hx hb dX1_isPinned_16 rfl (lv_at hl 1 rfl) ?_
      refine z_ld6 Z Y (k) (rfl) (by omega) (by omega) dX1_isPinned_17 ?_
      refine z_top (nI (apn a k)) (r6 k hk) ?_
      have hk31 : k < 2 ^ 31 := by omega
      have hb6 : apn a k < 2 ^ 31 := by have := pn31 hR hk; omega
      refine lv_if_le (tgt := 25) hx hb dX1_isPinned_18 (by decide) (fun c18 => ?_) (fun c18 => ?_)
      · refine lv_iconst (v := nI (0)) hx hb dX1_isPinned_25 (by decide) ?_
        exact z_ret (v := nI (0)) (u := u) Z Y (rfl) (⟨rfl, Or.inr ⟨rfl, fun q => by have := (nI_le0 hb6).mp c18; have := q.2; rw [nI_clamp hk31] at this; omega⟩⟩) dX1_isPinned_26
      · refine lv_iconst (v := nI (1)) hx hb dX1_isPinned_21 (by decide) ?_
        refine lv_goto (tgt := 26) hx hb dX1_isPinned_22 (by decide) ?_
        exact z_ret (v := nI (1)) (u := u) Z Y (rfl) (⟨rfl, Or.inl ⟨rfl, in_nI hk b1, by rw [nI_clamp hk31]; exact Nat.pos_of_ne_zero (fun z => c18 ((nI_le0 hb6).mpr z))⟩⟩) dX1_isPinned_26

set_option maxHeartbeats 4000000 in
set_option maxRecDepth 100000 in
theorem kX1_frameOf (l : Launch) (dC : Nat → ClassId) (dI : Nat → Nat → Nat) {g : GE} {N : Nat} {a : AS} {u : CS} (hR : Rep g N a u) (x : Int32) : zMI l yX1_frameOf wsX1_frameOf ({ frames := 0, cells := 0, slots := 0, locals := 0 }) dC dI 1 g u [.int (x)] (fun r u1 => u = u1 ∧ foP g a x (-5) r) := by
  refine zMI_of (cc := cX1_frameOf) (maxL := 3) (ret := (some .int)) (by decide) rfl (Nat.le_of_ble_eq_true rfl) ?_
  intro p e s m below meth c A ls Z Y hl
  have hin : ∀ w ∈ wsX10, w ∈ wsX1_frameOf := fun w h => List.mem_cons_of_mem _ (List.mem_append_right _ h)
  obtain ⟨hx, hb, hml, hown, hts, hr, hlk⟩ := id Z
  have L16 := hts (.fieldLink RX1 16 "FramePoolModel" "page" "[I") (by decide +kernel)
  have L29 := hts (.fieldLink RX1 29 "FramePoolModel" "frames" "I") (by decide +kernel)
  have hl : lv_has ls 3 [(0, .ref (ga0 g)), (1, .int (x))] := hl
  have hg := hR.1
  have hN := hR.2.1
  obtain ⟨b1, b2, b3, b4, b5, b6, b7⟩ := gokB hg
  obtain ⟨r3, r4, r5, r6, r7, r8, r9, r10, r11⟩ := id hR.2.2.1
  obtain ⟨i1, i2, i3, i4, i5⟩ := id hR.2.2.2
  have loop : ∀ (n k : Nat), k + n = geF g → (¬ x < 0 → ∀ j, j < k → apg a j ≠ x) → ∀ (H : Heap) (locs : List Loc), zW dC dI 1 g A s.heap s (u) H locs → ∀ ls : Array Slot, lv_has ls 3 [(0, .ref (ga0 g)), (1, .int (x)), (2, .int (nI (k)))] → W p l e ({ frames := 0, cells := 0, slots := 0, locals := 0 }) s m (Value.ref (ga0 g) :: [.int (x)]).toArray below meth c H locs 0 0 (zQI below dC dI 1 g A (fun r u1 => u = u1 ∧ foP g a x (-5) r) (Value.ref (ga0 g) :: [.int (x)]).toArray s) (F0 m 2 ls []) := by
    intro n
    induction n with
    | zero =>
      intro k hkn hno Hq lq Y ls hl
      refine lv_iload_n hx hb dX1_frameOf_2 rfl (lv_at hl 2 rfl) ?_
      refine lv_aload_n hx hb dX1_frameOf_3 rfl (lv_at hl 0 rfl) ?_
      refine z_get (T := TX1) (v := .int (nI (geF g))) Z hin rfl Y 0 (by decide) L29 rfl rfl dX1_frameOf_4 ?_
      refine lv_icmp_ge (tgt := 32) hx hb dX1_frameOf_7 (by decide) (fun _ => ?_) (fun c7 => absurd ((nI_leI b1 (by omega)).mpr (by omega)) c7)
      refine lv_bipush (v := (-5)) hx hb dX1_frameOf_32 (by decide) ?_
      exact z_ret (v := (-5)) (u := u) Z Y (rfl) (⟨rfl, Or.inr ⟨rfl, fop_none (fun hv f hf => hno (fun z => hv (Or.inl z)) f (by omega))⟩⟩) dX1_frameOf_34
    | succ n ih =>
      intro k hkn hno Hq lq Y ls hl
      have hkF : k < geF g := by omega
      refine lv_iload_n hx hb dX1_frameOf_2 rfl (lv_at hl 2 rfl) ?_
      refine lv_aload_n hx hb dX1_frameOf_3 rfl (lv_at hl 0 rfl) ?_
      refine z_get (T := TX1) (v := .int (nI (geF g))) Z hin rfl Y 0 (by decide) L29 rfl rfl dX1_frameOf_4 ?_
      refine lv_icmp_ge (tgt := 32) hx hb dX1_frameOf_7 (by decide) (fun c7 => absurd c7 (fun q => absurd ((nI_leI b1 (by omega)).mp q) (by omega))) (fun _ => ?_)
      refine lv_iload_n hx hb dX1_frameOf_10 rfl (lv_at hl 1 rfl) ?_
      refine lv_if_lt (tgt := 26) hx hb dX1_frameOf_11 (by decide) (fun c11 => ?_) (fun c11 => ?_)
      · refine lv_iinc (v := nI (k + 1)) (lv' := [(2, .int (nI (k + 1))), (0, .ref (ga0 g)), (1, .int (x))]) hx hb dX1_frameOf_26 hl (k := 2) rfl (nI_add (k) 1) (by decide) rfl (fun ls hl => ?_)
        refine lv_goto (tgt := 2) hx hb dX1_frameOf_29 (by decide) ?_
        exact ih (k + 1) (by omega) (fun h => absurd c11 h) _ _ Y ls (lv_sub hl [1, 2, 0] rfl)
      · refine lv_aload_n hx hb dX1_frameOf_14 rfl (lv_at hl 0 rfl) ?_
        refine z_get (T := TX1) (v := .ref (ga5 g)) Z hin rfl Y 5 (by decide) L16 rfl rfl dX1_frameOf_15 ?_
        refine lv_iload_n hx hb dX1_frameOf_18 rfl (lv_at hl 2 rfl) ?_
        refine z_ld5 Z Y (k) (rfl) (by omega) (by omega) dX1_frameOf_19 ?_
        refine z_top (apg a k) (r5 k hkF) ?_
        refine lv_iload_n hx hb dX1_frameOf_20 rfl (lv_at hl 1 rfl) ?_
        refine lv_icmp_ne (tgt := 26) hx hb dX1_frameOf_21 (by decide) (fun c21 => ?_) (fun c21 => ?_)
        · refine lv_iinc (v := nI (k + 1)) (lv' := [(2, .int (nI (k + 1))), (0, .ref (ga0 g)), (1, .int (x))]) hx hb dX1_frameOf_26 hl (k := 2) rfl (nI_add (k) 1) (by decide) rfl (fun ls hl => ?_)
          refine lv_goto (tgt := 2) hx hb dX1_frameOf_29 (by decide) ?_
          exact ih (k + 1) (by omega) (fun h j hj => by rcases Nat.lt_succ_iff_lt_or_eq.mp hj with q | rfl; exact hno h j q; exact c21) _ _ Y ls (lv_sub hl [1, 2, 0] rfl)
        · refine lv_iload_n hx hb dX1_frameOf_24 rfl (lv_at hl 2 rfl) ?_
          obtain ⟨q, hq, hxq⟩ : ∃ q, q < geP g ∧ x = nI q := by
            rcases i2 k hkF with h1 | ⟨q, h1, h2⟩
            · rw [← c21, h1] at c11; exact absurd (by decide) c11
            · exact ⟨q, h1, by rw [← c21, h2]⟩
          subst hxq
          exact z_ret (v := nI (k)) (u := u) Z Y (rfl) (⟨rfl, Or.inl ⟨k, q, hkF, hq, rfl, rfl, c21, fop_some hg hR.2.2.2 hkF hq c21⟩⟩) dX1_frameOf_25
  refine lv_iconst (v := nI (0)) hx hb dX1_frameOf_0 (by decide) ?_
  refine lv_istore_n (lv' := [(2, .int (nI (0))), (0, .ref (ga0 g)), (1, .int (x))]) hx hb dX1_frameOf_1 rfl hl (by decide) rfl (fun ls hl => ?_)
  exact loop (geF g) 0 (by omega) (fun _ j hj => absurd hj (by omega)) _ _ Y ls (lv_sub hl [1, 2, 0] rfl)

set_option maxHeartbeats 4000000 in
set_option maxRecDepth 100000 in
theorem kX1_pinned (l : Launch) (dC : Nat → ClassId) (dI : Nat → Nat → Nat) {g : GE} {N : Nat} {a : AS} {u : CS} (hR : Rep g N a u) : zMI l yX1_pinned wsX1_pinned ({ frames := 0, cells := 0, slots := 0, locals := 0 }) dC dI 1 g u [] (fun r u1 => u = u1 ∧ r = nI (cnt (apn a) (geF g))) := by
  refine zMI_of (cc := cX1_pinned) (maxL := 3) (ret := (some .int)) (by decide) rfl (Nat.le_of_ble_eq_true rfl) ?_
  intro p e s m below meth c A ls Z Y hl
  have hin : ∀ w ∈ wsX10, w ∈ wsX1_pinned := fun w h => List.mem_cons_of_mem _ (List.mem_append_right _ h)
  obtain ⟨hx, hb, hml, hown, hts, hr, hlk⟩ := id Z
  have L19 := hts (.fieldLink RX1 19 "FramePoolModel" "pins" "[I") (by decide +kernel)
  have L29 := hts (.fieldLink RX1 29 "FramePoolModel" "frames" "I") (by decide +kernel)
  have hl : lv_has ls 3 [(0, .ref (ga0 g))] := hl
  have hg := hR.1
  have hN := hR.2.1
  obtain ⟨b1, b2, b3, b4, b5, b6, b7⟩ := gokB hg
  obtain ⟨r3, r4, r5, r6, r7, r8, r9, r10, r11⟩ := id hR.2.2.1
  obtain ⟨i1, i2, i3, i4, i5⟩ := id hR.2.2.2
  have loop : ∀ (n k : Nat), k + n = geF g → ∀ (H : Heap) (locs : List Loc), zW dC dI 1 g A s.heap s (u) H locs → ∀ ls : Array Slot, lv_has ls 3 [(0, .ref (ga0 g)), (1, .int (nI (cnt (apn a) k))), (2, .int (nI (k)))] → W p l e ({ frames := 0, cells := 0, slots := 0, locals := 0 }) s m (Value.ref (ga0 g) :: []).toArray below meth c H locs 0 0 (zQI below dC dI 1 g A (fun r u1 => u = u1 ∧ r = nI (cnt (apn a) (geF g))) (Value.ref (ga0 g) :: []).toArray s) (F0 m 4 ls []) := by
    intro n
    induction n with
    | zero =>
      intro k hkn Hq lq Y ls hl
      obtain rfl : k = geF g := hkn
      refine lv_iload_n hx hb dX1_pinned_4 rfl (lv_at hl 2 rfl) ?_
      refine lv_aload_n hx hb dX1_pinned_5 rfl (lv_at hl 0 rfl) ?_
      refine z_get (T := TX1) (v := .int (nI (geF g))) Z hin rfl Y 0 (by decide) L29 rfl rfl dX1_pinned_6 ?_
      refine lv_icmp_ge (tgt := 35) hx hb dX1_pinned_9 (by decide) (fun _ => ?_) (fun c9 => absurd ((nI_leI b1 (by omega)).mpr (by omega)) c9)
      refine lv_iload_n hx hb dX1_pinned_35 rfl (lv_at hl 1 rfl) ?_
      exact z_ret (v := nI (cnt (apn a) (geF g))) (u := u) Z Y (rfl) (⟨rfl, rfl⟩) dX1_pinned_36
    | succ n ih =>
      intro k hkn Hq lq Y ls hl
      have hkF : k < geF g := by omega
      have hb6 : apn a k < 2 ^ 31 := by have := pn31 hR hkF; omega
      refine lv_iload_n hx hb dX1_pinned_4 rfl (lv_at hl 2 rfl) ?_
      refine lv_aload_n hx hb dX1_pinned_5 rfl (lv_at hl 0 rfl) ?_
      refine z_get (T := TX1) (v := .int (nI (geF g))) Z hin rfl Y 0 (by decide) L29 rfl rfl dX1_pinned_6 ?_
      refine lv_icmp_ge (tgt := 35) hx hb dX1_pinned_9 (by decide) (fun c9 => absurd c9 (fun q => absurd ((nI_leI b1 (by omega)).mp q) (by omega))) (fun _ => ?_)
      refine lv_iload_n hx hb dX1_pinned_12 rfl (lv_at hl 1 rfl) ?_
      refine lv_aload_n hx hb dX1_pinned_13 rfl (lv_at hl 0 rfl) ?_
      refine z_get (T := TX1) (v := .ref (ga6 g)) Z hin rfl Y 6 (by decide) L19 rfl rfl dX1_pinned_14 ?_
      refine lv_iload_n hx hb dX1_pinned_17 rfl (lv_at hl 2 rfl) ?_
      refine z_ld6 Z Y (k) (rfl) (by omega) (by omega) dX1_pinned_18 ?_
      refine z_top (nI (apn a k)) (r6 k hkF) ?_
      refine lv_if_le (tgt := 26) hx hb dX1_pinned_19 (by decide) (fun c19 => ?_) (fun c19 => ?_)
      · refine lv_iconst (v := nI (0)) hx hb dX1_pinned_26 (by decide) ?_
        refine lv_iadd hx hb dX1_pinned_27 ?_
        refine z_top (nI ((cnt (apn a) k) + (0))) (nI_add (cnt (apn a) k) (0)) ?_
        refine lv_istore_n (lv' := [(1, .int (nI ((cnt (apn a) k) + (0)))), (0, .ref (ga0 g)), (2, .int (nI (k)))]) hx hb dX1_pinned_28 rfl hl (by decide) rfl (fun ls hl => ?_)
        refine lv_iinc (v := nI (k + 1)) (lv' := [(2, .int (nI (k + 1))), (1, .int (nI ((cnt (apn a) k) + (0)))), (0, .ref (ga0 g))]) hx hb dX1_pinned_29 hl (k := 2) rfl (nI_add (k) 1) (by decide) rfl (fun ls hl => ?_)
        refine lv_goto (tgt := 4) hx hb dX1_pinned_32 (by decide) ?_
        exact ih (k + 1) (by omega) _ _ Y ls (by rw [cnt_0 (by have := (nI_le0 hb6).mp c19; omega)]; exact lv_sub hl [2, 1, 0] rfl)
      · refine lv_iconst (v := nI (1)) hx hb dX1_pinned_22 (by decide) ?_
        refine lv_goto (tgt := 27) hx hb dX1_pinned_23 (by decide) ?_
        refine lv_iadd hx hb dX1_pinned_27 ?_
        refine z_top (nI ((cnt (apn a) k) + (1))) (nI_add (cnt (apn a) k) (1)) ?_
        refine lv_istore_n (lv' := [(1, .int (nI ((cnt (apn a) k) + (1)))), (0, .ref (ga0 g)), (2, .int (nI (k)))]) hx hb dX1_pinned_28 rfl hl (by decide) rfl (fun ls hl => ?_)
        refine lv_iinc (v := nI (k + 1)) (lv' := [(2, .int (nI (k + 1))), (1, .int (nI ((cnt (apn a) k) + (1)))), (0, .ref (ga0 g))]) hx hb dX1_pinned_29 hl (k := 2) rfl (nI_add (k) 1) (by decide) rfl (fun ls hl => ?_)
        refine lv_goto (tgt := 4) hx hb dX1_pinned_32 (by decide) ?_
        exact ih (k + 1) (by omega) _ _ Y ls (by rw [cnt_1 (Nat.pos_of_ne_zero (fun z => c19 ((nI_le0 hb6).mpr z)))]; exact lv_sub hl [2, 1, 0] rfl)
  refine lv_iconst (v := nI (0)) hx hb dX1_pinned_0 (by decide) ?_
  refine lv_istore_n (lv' := [(1, .int (nI (0))), (0, .ref (ga0 g))]) hx hb dX1_pinned_1 rfl hl (by decide) rfl (fun ls hl => ?_)
  refine lv_iconst (v := nI (0)) hx hb dX1_pinned_2 (by decide) ?_
  refine lv_istore_n (lv' := [(2, .int (nI (0))), (1, .int (nI (0))), (0, .ref (ga0 g))]) hx hb dX1_pinned_3 rfl hl (by decide) rfl (fun ls hl => ?_)
  exact loop (geF g) 0 (by omega) _ _ Y ls (lv_sub hl [2, 1, 0] rfl)

set_option maxHeartbeats 4000000 in
set_option maxRecDepth 100000 in
theorem kX1_diskReads (l : Launch) (dC : Nat → ClassId) (dI : Nat → Nat → Nat) {g : GE} {N : Nat} {a : AS} {u : CS} (hR : Rep g N a u) : zMI l yX1_diskReads wsX1_diskReads ({ frames := 0, cells := 0, slots := 0, locals := 0 }) dC dI 1 g u [] (fun r u1 => u = u1 ∧ r = ard a) := by
  refine zMI_of (cc := cX1_diskReads) (maxL := 1) (ret := (some .int)) (by decide) rfl (Nat.le_of_ble_eq_true rfl) ?_
  intro p e s m below meth c A ls Z Y hl
  have hin : ∀ w ∈ wsX10, w ∈ wsX1_diskReads := fun w h => List.mem_cons_of_mem _ (List.mem_append_right _ h)
  obtain ⟨hx, hb, hml, hown, hts, hr, hlk⟩ := id Z
  have L49 := hts (.fieldLink RX1 49 "FramePoolModel" "reads" "I") (by decide +kernel)
  have hl : lv_has ls 1 [(0, .ref (ga0 g))] := hl
  have hg := hR.1
  have hN := hR.2.1
  obtain ⟨b1, b2, b3, b4, b5, b6, b7⟩ := gokB hg
  obtain ⟨r3, r4, r5, r6, r7, r8, r9, r10, r11⟩ := id hR.2.2.1
  obtain ⟨i1, i2, i3, i4, i5⟩ := id hR.2.2.2
  refine lv_aload_n hx hb dX1_diskReads_0 rfl (lv_at hl 0 rfl) ?_
  refine z_get (T := TX1) (v := .int (csr (u))) Z hin rfl Y 10 (by decide) L49 rfl rfl dX1_diskReads_1 ?_
  exact z_ret (v := csr (u)) (u := u) Z Y (rfl) (⟨rfl, r10⟩) dX1_diskReads_4

set_option maxHeartbeats 4000000 in
set_option maxRecDepth 100000 in
theorem kX1_diskWrites (l : Launch) (dC : Nat → ClassId) (dI : Nat → Nat → Nat) {g : GE} {N : Nat} {a : AS} {u : CS} (hR : Rep g N a u) : zMI l yX1_diskWrites wsX1_diskWrites ({ frames := 0, cells := 0, slots := 0, locals := 0 }) dC dI 1 g u [] (fun r u1 => u = u1 ∧ r = awr a) := by
  refine zMI_of (cc := cX1_diskWrites) (maxL := 1) (ret := (some .int)) (by decide) rfl (Nat.le_of_ble_eq_true rfl) ?_
  intro p e s m below meth c A ls Z Y hl
  have hin : ∀ w ∈ wsX10, w ∈ wsX1_diskWrites := fun w h => List.mem_cons_of_mem _ (List.mem_append_right _ h)
  obtain ⟨hx, hb, hml, hown, hts, hr, hlk⟩ := id Z
  have L52 := hts (.fieldLink RX1 52 "FramePoolModel" "writes" "I") (by decide +kernel)
  have hl : lv_has ls 1 [(0, .ref (ga0 g))] := hl
  have hg := hR.1
  have hN := hR.2.1
  obtain ⟨b1, b2, b3, b4, b5, b6, b7⟩ := gokB hg
  obtain ⟨r3, r4, r5, r6, r7, r8, r9, r10, r11⟩ := id hR.2.2.1
  obtain ⟨i1, i2, i3, i4, i5⟩ := id hR.2.2.2
  refine lv_aload_n hx hb dX1_diskWrites_0 rfl (lv_at hl 0 rfl) ?_
  refine z_get (T := TX1) (v := .int (csw (u))) Z hin rfl Y 11 (by decide) L52 rfl rfl dX1_diskWrites_1 ?_
  exact z_ret (v := csw (u)) (u := u) Z Y (rfl) (⟨rfl, r11⟩) dX1_diskWrites_4

set_option maxHeartbeats 4000000 in
set_option maxRecDepth 100000 in
theorem kX1_hand (l : Launch) (dC : Nat → ClassId) (dI : Nat → Nat → Nat) {g : GE} {N : Nat} {a : AS} {u : CS} (hR : Rep g N a u) : zMI l yX1_hand wsX1_hand ({ frames := 0, cells := 0, slots := 0, locals := 0 }) dC dI 1 g u [] (fun r u1 => u = u1 ∧ r = nI (ahd a)) := by
  refine zMI_of (cc := cX1_hand) (maxL := 1) (ret := (some .int)) (by decide) rfl (Nat.le_of_ble_eq_true rfl) ?_
  intro p e s m below meth c A ls Z Y hl
  have hin : ∀ w ∈ wsX10, w ∈ wsX1_hand := fun w h => List.mem_cons_of_mem _ (List.mem_append_right _ h)
  obtain ⟨hx, hb, hml, hown, hts, hr, hlk⟩ := id Z
  have L46 := hts (.fieldLink RX1 46 "FramePoolModel" "at" "I") (by decide +kernel)
  have hl : lv_has ls 1 [(0, .ref (ga0 g))] := hl
  have hg := hR.1
  have hN := hR.2.1
  obtain ⟨b1, b2, b3, b4, b5, b6, b7⟩ := gokB hg
  obtain ⟨r3, r4, r5, r6, r7, r8, r9, r10, r11⟩ := id hR.2.2.1
  obtain ⟨i1, i2, i3, i4, i5⟩ := id hR.2.2.2
  refine lv_aload_n hx hb dX1_hand_0 rfl (lv_at hl 0 rfl) ?_
  refine z_get (T := TX1) (v := .int (csh (u))) Z hin rfl Y 9 (by decide) L46 rfl rfl dX1_hand_1 ?_
  exact z_ret (v := csh (u)) (u := u) Z Y (rfl) (⟨rfl, r9⟩) dX1_hand_4

set_option maxHeartbeats 4000000 in
set_option maxRecDepth 100000 in
theorem kX1_resident (l : Launch) (dC : Nat → ClassId) (dI : Nat → Nat → Nat) {g : GE} {N : Nat} {a : AS} {u : CS} (hR : Rep g N a u) (x : Int32) : zMI l yX1_resident wsX1_resident ({ frames := 1, cells := 0, slots := 0, locals := 22 }) dC dI 1 g u [.int (x)] (fun r u1 => u = u1 ∧ r = spRes g a x) := by
  refine zMI_of (cc := cX1_resident) (maxL := 2) (ret := (some .boolean)) (by decide) rfl (Nat.le_of_ble_eq_true rfl) ?_
  intro p e s m below meth c A ls Z Y hl
  have hin : ∀ w ∈ wsX10, w ∈ wsX1_resident := fun w h => List.mem_cons_of_mem _ (List.mem_append_right _ h)
  obtain ⟨hx, hb, hml, hown, hts, hr, hlk⟩ := id Z
  have hl : lv_has ls 2 [(0, .ref (ga0 g)), (1, .int (x))] := hl
  have hg := hR.1
  have hN := hR.2.1
  obtain ⟨b1, b2, b3, b4, b5, b6, b7⟩ := gokB hg
  obtain ⟨r3, r4, r5, r6, r7, r8, r9, r10, r11⟩ := id hR.2.2.1
  obtain ⟨i1, i2, i3, i4, i5⟩ := id hR.2.2.2
  refine lv_aload_n hx hb dX1_resident_0 rfl (lv_at hl 0 rfl) ?_
  refine lv_iload_n hx hb dX1_resident_1 rfl (lv_at hl 1 rfl) ?_
  refine z_callI (rest := []) Z Y rfl (kX1_frameOf l dC dI hR x) (cwV 1 hts gX1_resident_X1_frameOf rfl rfl rfl (by decide +kernel) ⟨Nat.le_of_ble_eq_true rfl, Nat.le_of_ble_eq_true rfl⟩) rfl hl.1 rfl (Nat.le_of_ble_eq_true rfl) dX1_resident_2 ⟨Nat.zero_le _, Nat.zero_le _⟩ (fun r2 u2 Hq lq hw Y => ?_)
  obtain ⟨rfl, hw⟩ := hw
  rcases hw with ⟨f, q, hf, hq, hxq, rfl, hp, hfo⟩ | ⟨rfl, hfo⟩
  · refine lv_bipush (v := (-5)) hx hb dX1_resident_5 (by decide) ?_
    refine lv_icmp_eq (tgt := 14) hx hb dX1_resident_7 (by decide) (fun c7 => absurd c7 (nI_ne_m5 (show f < 2 ^ 31 by omega))) (fun _ => ?_)
    refine lv_iconst (v := nI (1)) hx hb dX1_resident_10 (by decide) ?_
    refine lv_goto (tgt := 15) hx hb dX1_resident_11 (by decide) ?_
    exact z_ret (v := nI (1)) (u := u) Z Y (rfl) (⟨rfl, (spRes_1 hfo).symm⟩) dX1_resident_15
  · refine lv_bipush (v := (-5)) hx hb dX1_resident_5 (by decide) ?_
    refine lv_icmp_eq (tgt := 14) hx hb dX1_resident_7 (by decide) (fun _ => ?_) (fun c7 => absurd (rfl) c7)
    refine lv_iconst (v := nI (0)) hx hb dX1_resident_14 (by decide) ?_
    exact z_ret (v := nI (0)) (u := u) Z Y (rfl) (⟨rfl, (spRes_0 hfo).symm⟩) dX1_resident_15

set_option maxHeartbeats 4000000 in
set_option maxRecDepth 100000 in
theorem kX1_readWord (l : Launch) (dC : Nat → ClassId) (dI : Nat → Nat → Nat) {g : GE} {N : Nat} {a : AS} {u : CS} (hR : Rep g N a u) (hM : geS g = 8) (x y : Int32) : zMI l yX1_readWord wsX1_readWord ({ frames := 1, cells := 0, slots := 0, locals := 21 }) dC dI 1 g u [.int (x), .int (y)] (fun r u1 => u = u1 ∧ r = spReadW g a x y) := by
  refine zMI_of (cc := cX1_readWord) (maxL := 3) (ret := (some .int)) (by decide) rfl (Nat.le_of_ble_eq_true rfl) ?_
  intro p e s m below meth c A ls Z Y hl
  have hin : ∀ w ∈ wsX10, w ∈ wsX1_readWord := fun w h => List.mem_cons_of_mem _ (List.mem_append_right _ h)
  obtain ⟨hx, hb, hml, hown, hts, hr, hlk⟩ := id Z
  have L13 := hts (.fieldLink RX1 13 "FramePoolModel" "memory" "[I") (by decide +kernel)
  have L36 := hts (.fieldLink RX1 36 "FramePoolModel" "words" "I") (by decide +kernel)
  have hl : lv_has ls 3 [(0, .ref (ga0 g)), (1, .int (x)), (2, .int (y))] := hl
  have hg := hR.1
  have hN := hR.2.1
  obtain ⟨b1, b2, b3, b4, b5, b6, b7⟩ := gokB hg
  obtain ⟨r3, r4, r5, r6, r7, r8, r9, r10, r11⟩ := id hR.2.2.1
  obtain ⟨i1, i2, i3, i4, i5⟩ := id hR.2.2.2
  refine lv_aload_n hx hb dX1_readWord_0 rfl (lv_at hl 0 rfl) ?_
  refine lv_iload_n hx hb dX1_readWord_1 rfl (lv_at hl 1 rfl) ?_
  refine z_callI (rest := []) Z Y rfl (kX1_isPinned l dC dI hR x) (cwV 1 hts gX1_readWord_X1_isPinned rfl rfl rfl (by decide +kernel) ⟨Nat.le_of_ble_eq_true rfl, Nat.le_of_ble_eq_true rfl⟩) rfl hl.1 rfl (Nat.le_of_ble_eq_true rfl) dX1_readWord_2 ⟨Nat.zero_le _, Nat.zero_le _⟩ (fun r2 u2 Hq lq hw Y => ?_)
  obtain ⟨rfl, hw⟩ := hw
  rcases hw with ⟨rfl, hw2⟩ | ⟨rfl, hw2⟩
  · refine lv_if_eq (tgt := 20) hx hb dX1_readWord_5 (by decide) (fun c5 => absurd c5 (by decide)) (fun _ => ?_)
    refine lv_iload_n hx hb dX1_readWord_8 rfl (lv_at hl 2 rfl) ?_
    refine lv_if_lt (tgt := 20) hx hb dX1_readWord_9 (by decide) (fun c9 => ?_) (fun c9 => ?_)
    · refine lv_iconst (v := nI (0)) hx hb dX1_readWord_20 (by decide) ?_
      refine lv_goto (tgt := 35) hx hb dX1_readWord_21 (by decide) ?_
      exact z_ret (v := nI (0)) (u := u) Z Y (rfl) (⟨rfl, (spReadW_f (fun q => not_in_neg c9 q.2)).symm⟩) dX1_readWord_35
    · refine lv_iload_n hx hb dX1_readWord_12 rfl (lv_at hl 2 rfl) ?_
      refine lv_aload_n hx hb dX1_readWord_13 rfl (lv_at hl 0 rfl) ?_
      refine z_get (T := TX1) (v := .int (nI (geW g))) Z hin rfl Y 2 (by decide) L36 rfl rfl dX1_readWord_14 ?_
      refine lv_icmp_lt (tgt := 24) hx hb dX1_readWord_17 (by decide) (fun c17 => ?_) (fun c17 => ?_)
      · obtain ⟨hv2, hw0⟩ := hw2
        obtain ⟨k, hk, rfl⟩ := vp_in_of hv2 b1
        rw [nI_clamp (show k < 2 ^ 31 by omega)] at hw0
        have hwj := (in_iff b3).mpr ⟨i_le_of c9, c17⟩
        obtain ⟨j, hj, rfl⟩ := vp_in_of hwj b3
        refine lv_aload_n hx hb dX1_readWord_24 rfl (lv_at hl 0 rfl) ?_
        refine z_get (T := TX1) (v := .ref (ga4 g)) Z hin rfl Y 4 (by decide) L13 rfl rfl dX1_readWord_25 ?_
        refine lv_bipush (v := nI (8)) hx hb dX1_readWord_28 (by decide) ?_
        refine lv_iload_n hx hb dX1_readWord_30 rfl (lv_at hl 1 rfl) ?_
        refine lv_imul hx hb dX1_readWord_31 ?_
        refine z_top (nI (k * geS g)) (m8 hM) ?_
        refine lv_iload_n hx hb dX1_readWord_32 rfl (lv_at hl 2 rfl) ?_
        refine lv_iadd hx hb dX1_readWord_33 ?_
        refine z_top (nI ((k * geS g) + (j))) (nI_add (k * geS g) (j)) ?_
        refine z_ld4 Z Y ((k * geS g) + (j)) (rfl) (lt4 hg hk hj rfl) (by omega) dX1_readWord_34 ?_
        refine z_top (amm a k j) (rd4 hR hk hj rfl) ?_
        exact z_ret (v := amm a k j) (u := u) Z Y (rfl) (⟨rfl, (spReadW_t (show k < 2 ^ 31 by omega) (show j < 2 ^ 31 by omega) hv2 hw0 hwj).symm⟩) dX1_readWord_35
      · refine lv_iconst (v := nI (0)) hx hb dX1_readWord_20 (by decide) ?_
        refine lv_goto (tgt := 35) hx hb dX1_readWord_21 (by decide) ?_
        exact z_ret (v := nI (0)) (u := u) Z Y (rfl) (⟨rfl, (spReadW_f (fun q => not_in_ge b3 (i_le_of c17) q.2)).symm⟩) dX1_readWord_35
  · refine lv_if_eq (tgt := 20) hx hb dX1_readWord_5 (by decide) (fun _ => ?_) (fun c5 => absurd (by decide) c5)
    refine lv_iconst (v := nI (0)) hx hb dX1_readWord_20 (by decide) ?_
    refine lv_goto (tgt := 35) hx hb dX1_readWord_21 (by decide) ?_
    exact z_ret (v := nI (0)) (u := u) Z Y (rfl) (⟨rfl, (spReadW_f (fun q => hw2 q.1)).symm⟩) dX1_readWord_35

set_option maxHeartbeats 4000000 in
set_option maxRecDepth 100000 in
theorem kX1_diskWord (l : Launch) (dC : Nat → ClassId) (dI : Nat → Nat → Nat) {g : GE} {N : Nat} {a : AS} {u : CS} (hR : Rep g N a u) (hM : geS g = 8) (x y : Int32) : zMI l yX1_diskWord wsX1_diskWord ({ frames := 1, cells := 0, slots := 0, locals := 21 }) dC dI 1 g u [.int (x), .int (y)] (fun r u1 => u = u1 ∧ r = spDiskW g a x y) := by
  refine zMI_of (cc := cX1_diskWord) (maxL := 3) (ret := (some .int)) (by decide) rfl (Nat.le_of_ble_eq_true rfl) ?_
  intro p e s m below meth c A ls Z Y hl
  have hin : ∀ w ∈ wsX10, w ∈ wsX1_diskWord := fun w h => List.mem_cons_of_mem _ (List.mem_append_right _ h)
  obtain ⟨hx, hb, hml, hown, hts, hr, hlk⟩ := id Z
  have L7 := hts (.fieldLink RX1 7 "FramePoolModel" "disk" "[I") (by decide +kernel)
  have L36 := hts (.fieldLink RX1 36 "FramePoolModel" "words" "I") (by decide +kernel)
  have hl : lv_has ls 3 [(0, .ref (ga0 g)), (1, .int (x)), (2, .int (y))] := hl
  have hg := hR.1
  have hN := hR.2.1
  obtain ⟨b1, b2, b3, b4, b5, b6, b7⟩ := gokB hg
  obtain ⟨r3, r4, r5, r6, r7, r8, r9, r10, r11⟩ := id hR.2.2.1
  obtain ⟨i1, i2, i3, i4, i5⟩ := id hR.2.2.2
  refine lv_aload_n hx hb dX1_diskWord_0 rfl (lv_at hl 0 rfl) ?_
  refine lv_iload_n hx hb dX1_diskWord_1 rfl (lv_at hl 1 rfl) ?_
  refine z_callI (rest := []) Z Y rfl (kX1_isPage l dC dI hg u x) (cwV 1 hts gX1_diskWord_X1_isPage rfl rfl rfl (by decide +kernel) ⟨Nat.le_of_ble_eq_true rfl, Nat.le_of_ble_eq_true rfl⟩) rfl hl.1 rfl (Nat.le_of_ble_eq_true rfl) dX1_diskWord_2 ⟨Nat.zero_le _, Nat.zero_le _⟩ (fun r2 u2 Hq lq hw Y => ?_)
  obtain ⟨rfl, hw⟩ := hw
  rcases hw with ⟨rfl, hw2⟩ | ⟨rfl, hw2⟩
  · refine lv_if_eq (tgt := 20) hx hb dX1_diskWord_5 (by decide) (fun c5 => absurd c5 (by decide)) (fun _ => ?_)
    refine lv_iload_n hx hb dX1_diskWord_8 rfl (lv_at hl 2 rfl) ?_
    refine lv_if_lt (tgt := 20) hx hb dX1_diskWord_9 (by decide) (fun c9 => ?_) (fun c9 => ?_)
    · refine lv_iconst (v := nI (0)) hx hb dX1_diskWord_20 (by decide) ?_
      refine lv_goto (tgt := 35) hx hb dX1_diskWord_21 (by decide) ?_
      exact z_ret (v := nI (0)) (u := u) Z Y (rfl) (⟨rfl, (spDiskW_f (fun q => not_in_neg c9 q.2)).symm⟩) dX1_diskWord_35
    · refine lv_iload_n hx hb dX1_diskWord_12 rfl (lv_at hl 2 rfl) ?_
      refine lv_aload_n hx hb dX1_diskWord_13 rfl (lv_at hl 0 rfl) ?_
      refine z_get (T := TX1) (v := .int (nI (geW g))) Z hin rfl Y 2 (by decide) L36 rfl rfl dX1_diskWord_14 ?_
      refine lv_icmp_lt (tgt := 24) hx hb dX1_diskWord_17 (by decide) (fun c17 => ?_) (fun c17 => ?_)
      · obtain ⟨k, hk, rfl⟩ := vp_in_of hw2 b2
        have hwj := (in_iff b3).mpr ⟨i_le_of c9, c17⟩
        obtain ⟨j, hj, rfl⟩ := vp_in_of hwj b3
        refine lv_aload_n hx hb dX1_diskWord_24 rfl (lv_at hl 0 rfl) ?_
        refine z_get (T := TX1) (v := .ref (ga3 g)) Z hin rfl Y 3 (by decide) L7 rfl rfl dX1_diskWord_25 ?_
        refine lv_bipush (v := nI (8)) hx hb dX1_diskWord_28 (by decide) ?_
        refine lv_iload_n hx hb dX1_diskWord_30 rfl (lv_at hl 1 rfl) ?_
        refine lv_imul hx hb dX1_diskWord_31 ?_
        refine z_top (nI (k * geS g)) (m8 hM) ?_
        refine lv_iload_n hx hb dX1_diskWord_32 rfl (lv_at hl 2 rfl) ?_
        refine lv_iadd hx hb dX1_diskWord_33 ?_
        refine z_top (nI ((k * geS g) + (j))) (nI_add (k * geS g) (j)) ?_
        refine z_ld3 Z Y ((k * geS g) + (j)) (rfl) (lt3 hg hk hj rfl) (by omega) dX1_diskWord_34 ?_
        refine z_top (adk a k j) (rd3 hR hk hj rfl) ?_
        exact z_ret (v := adk a k j) (u := u) Z Y (rfl) (⟨rfl, (spDiskW_t (show k < 2 ^ 31 by omega) (show j < 2 ^ 31 by omega) hw2 hwj).symm⟩) dX1_diskWord_35
      · refine lv_iconst (v := nI (0)) hx hb dX1_diskWord_20 (by decide) ?_
        refine lv_goto (tgt := 35) hx hb dX1_diskWord_21 (by decide) ?_
        exact z_ret (v := nI (0)) (u := u) Z Y (rfl) (⟨rfl, (spDiskW_f (fun q => not_in_ge b3 (i_le_of c17) q.2)).symm⟩) dX1_diskWord_35
  · refine lv_if_eq (tgt := 20) hx hb dX1_diskWord_5 (by decide) (fun _ => ?_) (fun c5 => absurd (by decide) c5)
    refine lv_iconst (v := nI (0)) hx hb dX1_diskWord_20 (by decide) ?_
    refine lv_goto (tgt := 35) hx hb dX1_diskWord_21 (by decide) ?_
    exact z_ret (v := nI (0)) (u := u) Z Y (rfl) (⟨rfl, (spDiskW_f (fun q => hw2 q.1)).symm⟩) dX1_diskWord_35

set_option maxHeartbeats 4000000 in
set_option maxRecDepth 100000 in
theorem kX1_told (l : Launch) (dC : Nat → ClassId) (dI : Nat → Nat → Nat) {g : GE} {N : Nat} {a : AS} {u : CS} (hR : Rep g N a u) (x y : Int32) : zMI l yX1_told wsX1_told ({ frames := 0, cells := 0, slots := 0, locals := 0 }) dC dI 1 g u [.int (x), .int (y)] (fun r u1 => u = u1 ∧ r = spTold g a x y) := by
  refine zMI_of (cc := cX1_told) (maxL := 3) (ret := (some .int)) (by decide) rfl (Nat.le_of_ble_eq_true rfl) ?_
  intro p e s m below meth c A ls Z Y hl
  have hin : ∀ w ∈ wsX10, w ∈ wsX1_told := fun w h => List.mem_cons_of_mem _ (List.mem_append_right _ h)
  obtain ⟨hx, hb, hml, hown, hts, hr, hlk⟩ := id Z
  have L16 := hts (.fieldLink RX1 16 "FramePoolModel" "page" "[I") (by decide +kernel)
  have L19 := hts (.fieldLink RX1 19 "FramePoolModel" "pins" "[I") (by decide +kernel)
  have L22 := hts (.fieldLink RX1 22 "FramePoolModel" "dirty" "[Z") (by decide +kernel)
  have L26 := hts (.fieldLink RX1 26 "FramePoolModel" "mark" "[Z") (by decide +kernel)
  have L29 := hts (.fieldLink RX1 29 "FramePoolModel" "frames" "I") (by decide +kernel)
  have hl : lv_has ls 3 [(0, .ref (ga0 g)), (1, .int (x)), (2, .int (y))] := hl
  have hg := hR.1
  have hN := hR.2.1
  obtain ⟨b1, b2, b3, b4, b5, b6, b7⟩ := gokB hg
  obtain ⟨r3, r4, r5, r6, r7, r8, r9, r10, r11⟩ := id hR.2.2.1
  obtain ⟨i1, i2, i3, i4, i5⟩ := id hR.2.2.2
  refine lv_iload_n hx hb dX1_told_0 rfl (lv_at hl 1 rfl) ?_
  refine lv_if_lt (tgt := 12) hx hb dX1_told_1 (by decide) (fun c1 => ?_) (fun c1 => ?_)
  · refine lv_bipush (v := (-5)) hx hb dX1_told_12 (by decide) ?_
    exact z_ret (v := (-5)) (u := u) Z Y (rfl) (⟨rfl, (spTold_f (not_in_neg c1)).symm⟩) dX1_told_14
  · refine lv_iload_n hx hb dX1_told_4 rfl (lv_at hl 1 rfl) ?_
    refine lv_aload_n hx hb dX1_told_5 rfl (lv_at hl 0 rfl) ?_
    refine z_get (T := TX1) (v := .int (nI (geF g))) Z hin rfl Y 0 (by decide) L29 rfl rfl dX1_told_6 ?_
    refine lv_icmp_lt (tgt := 15) hx hb dX1_told_9 (by decide) (fun c9 => ?_) (fun c9 => ?_)
    · have hwk := (in_iff b1).mpr ⟨i_le_of c1, c9⟩
      obtain ⟨k, hk, rfl⟩ := vp_in_of hwk b1
      have hT := fun w => spTold_t (a := a) (w := w) (show k < 2 ^ 31 by omega) hwk
      refine lv_iload_n hx hb dX1_told_15 rfl (lv_at hl 2 rfl) ?_
      refine lv_if_ne (tgt := 28) hx hb dX1_told_16 (by decide) (fun c16 => ?_) (fun c16 => ?_)
      · refine lv_iload_n hx hb dX1_told_28 rfl (lv_at hl 2 rfl) ?_
        refine lv_iconst (v := nI (1)) hx hb dX1_told_29 (by decide) ?_
        refine lv_icmp_ne (tgt := 42) hx hb dX1_told_30 (by decide) (fun c30 => ?_) (fun c30 => ?_)
        · refine lv_iload_n hx hb dX1_told_42 rfl (lv_at hl 2 rfl) ?_
          refine lv_iconst (v := nI (2)) hx hb dX1_told_43 (by decide) ?_
          refine lv_icmp_ne (tgt := 64) hx hb dX1_told_44 (by decide) (fun c44 => ?_) (fun c44 => ?_)
          · refine lv_iload_n hx hb dX1_told_64 rfl (lv_at hl 2 rfl) ?_
            refine lv_iconst (v := nI (3)) hx hb dX1_told_65 (by decide) ?_
            refine lv_icmp_ne (tgt := 86) hx hb dX1_told_66 (by decide) (fun c66 => ?_) (fun c66 => ?_)
            · refine lv_bipush (v := (-5)) hx hb dX1_told_86 (by decide) ?_
              exact z_ret (v := (-5)) (u := u) Z Y (rfl) (⟨rfl, by rw [hT, if_neg (fun z => c16 (z.trans nI_0)), if_neg c30, if_neg c44, if_neg c66]⟩) dX1_told_88
            · refine lv_aload_n hx hb dX1_told_69 rfl (lv_at hl 0 rfl) ?_
              refine z_get (T := TX1) (v := .ref (ga8 g)) Z hin rfl Y 8 (by decide) L26 rfl rfl dX1_told_70 ?_
              refine lv_iload_n hx hb dX1_told_73 rfl (lv_at hl 1 rfl) ?_
              refine z_ld8 Z Y (k) (rfl) (by omega) (by omega) dX1_told_74 ?_
              refine z_top (amk a k) (r8 k hk) ?_
              refine lv_if_eq (tgt := 82) hx hb dX1_told_75 (by decide) (fun c75 => ?_) (fun c75 => ?_)
              · refine lv_iconst (v := nI (0)) hx hb dX1_told_82 (by decide) ?_
                refine lv_goto (tgt := 88) hx hb dX1_told_83 (by decide) ?_
                exact z_ret (v := nI (0)) (u := u) Z Y (rfl) (⟨rfl, by rw [hT, if_neg (fun z => c16 (z.trans nI_0)), if_neg c30, if_neg c44, if_pos c66, if_pos c75]⟩) dX1_told_88
              · refine lv_iconst (v := nI (1)) hx hb dX1_told_78 (by decide) ?_
                refine lv_goto (tgt := 88) hx hb dX1_told_79 (by decide) ?_
                exact z_ret (v := nI (1)) (u := u) Z Y (rfl) (⟨rfl, by rw [hT, if_neg (fun z => c16 (z.trans nI_0)), if_neg c30, if_neg c44, if_pos c66, if_neg c75]⟩) dX1_told_88
          · refine lv_aload_n hx hb dX1_told_47 rfl (lv_at hl 0 rfl) ?_
            refine z_get (T := TX1) (v := .ref (ga7 g)) Z hin rfl Y 7 (by decide) L22 rfl rfl dX1_told_48 ?_
            refine lv_iload_n hx hb dX1_told_51 rfl (lv_at hl 1 rfl) ?_
            refine z_ld7 Z Y (k) (rfl) (by omega) (by omega) dX1_told_52 ?_
            refine z_top (adt a k) (r7 k hk) ?_
            refine lv_if_eq (tgt := 60) hx hb dX1_told_53 (by decide) (fun c53 => ?_) (fun c53 => ?_)
            · refine lv_iconst (v := nI (0)) hx hb dX1_told_60 (by decide) ?_
              refine lv_goto (tgt := 88) hx hb dX1_told_61 (by decide) ?_
              exact z_ret (v := nI (0)) (u := u) Z Y (rfl) (⟨rfl, by rw [hT, if_neg (fun z => c16 (z.trans nI_0)), if_neg c30, if_pos c44, if_pos c53]⟩) dX1_told_88
            · refine lv_iconst (v := nI (1)) hx hb dX1_told_56 (by decide) ?_
              refine lv_goto (tgt := 88) hx hb dX1_told_57 (by decide) ?_
              exact z_ret (v := nI (1)) (u := u) Z Y (rfl) (⟨rfl, by rw [hT, if_neg (fun z => c16 (z.trans nI_0)), if_neg c30, if_pos c44, if_neg c53]⟩) dX1_told_88
        · refine lv_aload_n hx hb dX1_told_33 rfl (lv_at hl 0 rfl) ?_
          refine z_get (T := TX1) (v := .ref (ga6 g)) Z hin rfl Y 6 (by decide) L19 rfl rfl dX1_told_34 ?_
          refine lv_iload_n hx hb dX1_told_37 rfl (lv_at hl 1 rfl) ?_
          refine z_ld6 Z Y (k) (rfl) (by omega) (by omega) dX1_told_38 ?_
          refine z_top (nI (apn a k)) (r6 k hk) ?_
          refine lv_goto (tgt := 88) hx hb dX1_told_39 (by decide) ?_
          exact z_ret (v := nI (apn a k)) (u := u) Z Y (rfl) (⟨rfl, by rw [hT, if_neg (fun z => c16 (z.trans nI_0)), if_pos c30]⟩) dX1_told_88
      · refine lv_aload_n hx hb dX1_told_19 rfl (lv_at hl 0 rfl) ?_
        refine z_get (T := TX1) (v := .ref (ga5 g)) Z hin rfl Y 5 (by decide) L16 rfl rfl dX1_told_20 ?_
        refine lv_iload_n hx hb dX1_told_23 rfl (lv_at hl 1 rfl) ?_
        refine z_ld5 Z Y (k) (rfl) (by omega) (by omega) dX1_told_24 ?_
        refine z_top (apg a k) (r5 k hk) ?_
        refine lv_goto (tgt := 88) hx hb dX1_told_25 (by decide) ?_
        exact z_ret (v := apg a k) (u := u) Z Y (rfl) (⟨rfl, by rw [hT, if_pos (c16.trans nI_0.symm)]⟩) dX1_told_88
    · refine lv_bipush (v := (-5)) hx hb dX1_told_12 (by decide) ?_
      exact z_ret (v := (-5)) (u := u) Z Y (rfl) (⟨rfl, (spTold_f (not_in_ge b1 (i_le_of c9))).symm⟩) dX1_told_14
end
section
/-! ===== FramePoolModel: the methods that write ===== -/
set_option maxHeartbeats 4000000 in
set_option maxRecDepth 100000 in
theorem kX1_empty (l : Launch) (dC : Nat → ClassId) (dI : Nat → Nat → Nat) {g : GE} (hg : gok g) (u : CS) {f : Nat} (hf : f < gn5 g) : zMV l yX1_empty wsX1_empty ({ frames := 0, cells := 0, slots := 0, locals := 0 }) dC dI 1 g u [.int (nI (f))] (fun u1 => (cs3 u, cs4 u, upd (cs5 u) f (-1), upd (cs6 u) f (nI 0), upd (cs7 u) f (nI 0), upd (cs8 u) f (nI 0), csh u, csr u, csw u) = u1) := by
  refine zMV_of (cc := cX1_empty) (maxL := 2) (ret := none) (by decide) rfl (Nat.le_of_ble_eq_true rfl) ?_
  intro p e s m below meth c A ls Z Y hl
  have hin : ∀ w ∈ wsX10, w ∈ wsX1_empty := fun w h => List.mem_cons_of_mem _ (List.mem_append_right _ h)
  obtain ⟨hx, hb, hml, hown, hts, hr, hlk⟩ := id Z
  have L16 := hts (.fieldLink RX1 16 "FramePoolModel" "page" "[I") (by decide +kernel)
  have L19 := hts (.fieldLink RX1 19 "FramePoolModel" "pins" "[I") (by decide +kernel)
  have L22 := hts (.fieldLink RX1 22 "FramePoolModel" "dirty" "[Z") (by decide +kernel)
  have L26 := hts (.fieldLink RX1 26 "FramePoolModel" "mark" "[Z") (by decide +kernel)
  have hl : lv_has ls 2 [(0, .ref (ga0 g)), (1, .int (nI (f)))] := hl
  obtain ⟨b1, b2, b3, b4, b5, b6, b7⟩ := gokB hg
  refine lv_aload_n hx hb dX1_empty_0 rfl (lv_at hl 0 rfl) ?_
  refine z_get (T := TX1) (v := .ref (ga5 g)) Z hin rfl Y 5 (by decide) L16 rfl rfl dX1_empty_1 ?_
  refine lv_iload_n hx hb dX1_empty_4 rfl (lv_at hl 1 rfl) ?_
  refine lv_iconst (v := (-1)) hx hb dX1_empty_5 (by decide) ?_
  refine z_st5 (x := (-1)) Z Y (f) (rfl) (by omega) (by omega) dX1_empty_6 (fun Hq lq Y => ?_)
  refine lv_aload_n hx hb dX1_empty_7 rfl (lv_at hl 0 rfl) ?_
  refine z_get (T := TX1) (v := .ref (ga6 g)) Z hin rfl Y 6 (by decide) L19 rfl rfl dX1_empty_8 ?_
  refine lv_iload_n hx hb dX1_empty_11 rfl (lv_at hl 1 rfl) ?_
  refine lv_iconst (v := nI (0)) hx hb dX1_empty_12 (by decide) ?_
  refine z_st6 (x := nI (0)) Z Y (f) (rfl) (by omega) (by omega) dX1_empty_13 (fun Hq lq Y => ?_)
  refine lv_aload_n hx hb dX1_empty_14 rfl (lv_at hl 0 rfl) ?_
  refine z_get (T := TX1) (v := .ref (ga7 g)) Z hin rfl Y 7 (by decide) L22 rfl rfl dX1_empty_15 ?_
  refine lv_iload_n hx hb dX1_empty_18 rfl (lv_at hl 1 rfl) ?_
  refine lv_iconst (v := nI (0)) hx hb dX1_empty_19 (by decide) ?_
  refine z_st7 (x := nI (0)) Z Y (f) (rfl) (by omega) (by omega) (by decide) dX1_empty_20 (fun Hq lq Y => ?_)
  refine lv_aload_n hx hb dX1_empty_21 rfl (lv_at hl 0 rfl) ?_
  refine z_get (T := TX1) (v := .ref (ga8 g)) Z hin rfl Y 8 (by decide) L26 rfl rfl dX1_empty_22 ?_
  refine lv_iload_n hx hb dX1_empty_25 rfl (lv_at hl 1 rfl) ?_
  refine lv_iconst (v := nI (0)) hx hb dX1_empty_26 (by decide) ?_
  refine z_st8 (x := nI (0)) Z Y (f) (rfl) (by omega) (by omega) (by decide) dX1_empty_27 (fun Hq lq Y => ?_)
  exact z_vret (u := ps8 (ps7 (ps6 (ps5 (u) (upd (cs5 (u)) (f) ((-1)))) (upd (cs6 (ps5 (u) (upd (cs5 (u)) (f) ((-1))))) (f) (nI (0)))) (upd (cs7 (ps6 (ps5 (u) (upd (cs5 (u)) (f) ((-1)))) (upd (cs6 (ps5 (u) (upd (cs5 (u)) (f) ((-1))))) (f) (nI (0))))) (f) (nI (0)))) (upd (cs8 (ps7 (ps6 (ps5 (u) (upd (cs5 (u)) (f) ((-1)))) (upd (cs6 (ps5 (u) (upd (cs5 (u)) (f) ((-1))))) (f) (nI (0)))) (upd (cs7 (ps6 (ps5 (u) (upd (cs5 (u)) (f) ((-1)))) (upd (cs6 (ps5 (u) (upd (cs5 (u)) (f) ((-1))))) (f) (nI (0))))) (f) (nI (0))))) (f) (nI (0)))) Z Y (rfl) dX1_empty_28

set_option maxHeartbeats 4000000 in
set_option maxRecDepth 100000 in
theorem kX1_store (l : Launch) (dC : Nat → ClassId) (dI : Nat → Nat → Nat) {g : GE} {N : Nat} {a : AS} {u : CS} (hR : Rep g N a u) (hM : geS g = 8) {f q : Nat} (hf : f < geF g) (hq : q < geP g) (hp : apg a f = nI q) : zMV l yX1_store wsX1_store ({ frames := 0, cells := 0, slots := 0, locals := 0 }) dC dI 1 g u [.int (nI (f))] (fun u1 => Rep g N (oStore f q a) u1) := by
  refine zMV_of (cc := cX1_store) (maxL := 3) (ret := none) (by decide) rfl (Nat.le_of_ble_eq_true rfl) ?_
  intro p e s m below meth c A ls Z Y hl
  have hin : ∀ w ∈ wsX10, w ∈ wsX1_store := fun w h => List.mem_cons_of_mem _ (List.mem_append_right _ h)
  obtain ⟨hx, hb, hml, hown, hts, hr, hlk⟩ := id Z
  have L7 := hts (.fieldLink RX1 7 "FramePoolModel" "disk" "[I") (by decide +kernel)
  have L13 := hts (.fieldLink RX1 13 "FramePoolModel" "memory" "[I") (by decide +kernel)
  have L16 := hts (.fieldLink RX1 16 "FramePoolModel" "page" "[I") (by decide +kernel)
  have L22 := hts (.fieldLink RX1 22 "FramePoolModel" "dirty" "[Z") (by decide +kernel)
  have L36 := hts (.fieldLink RX1 36 "FramePoolModel" "words" "I") (by decide +kernel)
  have L52 := hts (.fieldLink RX1 52 "FramePoolModel" "writes" "I") (by decide +kernel)
  have hl : lv_has ls 3 [(0, .ref (ga0 g)), (1, .int (nI (f)))] := hl
  have hg := hR.1
  have hN := hR.2.1
  obtain ⟨b1, b2, b3, b4, b5, b6, b7⟩ := gokB hg
  obtain ⟨r3, r4, r5, r6, r7, r8, r9, r10, r11⟩ := id hR.2.2.1
  obtain ⟨i1, i2, i3, i4, i5⟩ := id hR.2.2.2
  have loop : ∀ (n k : Nat), k + n = geW g → ∀ (H : Heap) (locs : List Loc), zW dC dI 1 g A s.heap s (ps3 u (va_cpy (cs4 u) (cs3 u) (f * geS g) (q * geS g) k)) H locs → ∀ ls : Array Slot, lv_has ls 3 [(0, .ref (ga0 g)), (1, .int (nI (f))), (2, .int (nI (k)))] → W p l e ({ frames := 0, cells := 0, slots := 0, locals := 0 }) s m (Value.ref (ga0 g) :: [.int (nI (f))]).toArray below meth c H locs 0 0 (zQV below dC dI 1 g A (fun u1 => Rep g N (oStore f q a) u1) (Value.ref (ga0 g) :: [.int (nI (f))]).toArray s) (F0 m 2 ls []) := by
    intro n
    induction n with
    | zero =>
      intro k hkn Hq lq Y ls hl
      obtain rfl : k = geW g := hkn
      refine lv_iload_n hx hb dX1_store_2 rfl (lv_at hl 2 rfl) ?_
      refine lv_aload_n hx hb dX1_store_3 rfl (lv_at hl 0 rfl) ?_
      refine z_get (T := TX1) (v := .int (nI (geW g))) Z hin rfl Y 2 (by decide) L36 rfl rfl dX1_store_4 ?_
      refine lv_icmp_ge (tgt := 43) hx hb dX1_store_7 (by decide) (fun _ => ?_) (fun c7 => absurd ((nI_leI b3 (by omega)).mpr (by omega)) c7)
      refine lv_aload_n hx hb dX1_store_43 rfl (lv_at hl 0 rfl) ?_
      refine z_get (T := TX1) (v := .ref (ga7 g)) Z hin rfl Y 7 (by decide) L22 rfl rfl dX1_store_44 ?_
      refine lv_iload_n hx hb dX1_store_47 rfl (lv_at hl 1 rfl) ?_
      refine lv_iconst (v := nI (0)) hx hb dX1_store_48 (by decide) ?_
      refine z_st7 (x := nI (0)) Z Y (f) (rfl) (by omega) (by omega) (by decide) dX1_store_49 (fun Hq lq Y => ?_)
      refine lv_aload_n hx hb dX1_store_50 rfl (lv_at hl 0 rfl) ?_
      refine lv_dup hx hb dX1_store_51 rfl ?_
      refine z_get (T := TX1) (v := .int (csw (ps7 (ps3 u (va_cpy (cs4 u) (cs3 u) (f * geS g) (q * geS g) (geW g))) (upd (cs7 (ps3 u (va_cpy (cs4 u) (cs3 u) (f * geS g) (q * geS g) (geW g)))) (f) (nI (0)))))) Z hin rfl Y 11 (by decide) L52 rfl rfl dX1_store_52 ?_
      refine lv_iconst (v := nI (1)) hx hb dX1_store_55 (by decide) ?_
      refine lv_iadd hx hb dX1_store_56 ?_
      refine z_putw (T := TX1) (v := (csw (ps7 (ps3 u (va_cpy (cs4 u) (cs3 u) (f * geS g) (q * geS g) (geW g))) (upd (cs7 (ps3 u (va_cpy (cs4 u) (cs3 u) (f * geS g) (q * geS g) (geW g)))) (f) (nI (0)))) + nI (1))) Z hin tyX1_ok nmX1 rfl Y L52 rfl rfl rfl dX1_store_57 (fun Hq lq Y => ?_)
      exact z_vret (u := psw (ps7 (ps3 u (va_cpy (cs4 u) (cs3 u) (f * geS g) (q * geS g) (geW g))) (upd (cs7 (ps3 u (va_cpy (cs4 u) (cs3 u) (f * geS g) (q * geS g) (geW g)))) (f) (nI (0)))) ((csw (ps7 (ps3 u (va_cpy (cs4 u) (cs3 u) (f * geS g) (q * geS g) (geW g))) (upd (cs7 (ps3 u (va_cpy (cs4 u) (cs3 u) (f * geS g) (q * geS g) (geW g)))) (f) (nI (0)))) + nI (1)))) Z Y (⟨hg, hN, Rp_store q hg hf hR.2.2.1, Iv_store f q hR.2.2.2⟩) dX1_store_60
    | succ n ih =>
      intro k hkn Hq lq Y ls hl
      have hkW : k < geW g := by omega
      have e0 := cpy_step (f := cs4 u) (g := cs3 u) (sp := f * geS g) (dp := q * geS g) (n := k) rfl
      refine lv_iload_n hx hb dX1_store_2 rfl (lv_at hl 2 rfl) ?_
      refine lv_aload_n hx hb dX1_store_3 rfl (lv_at hl 0 rfl) ?_
      refine z_get (T := TX1) (v := .int (nI (geW g))) Z hin rfl Y 2 (by decide) L36 rfl rfl dX1_store_4 ?_
      refine lv_icmp_ge (tgt := 43) hx hb dX1_store_7 (by decide) (fun c7 => absurd c7 (fun z => absurd ((nI_leI b3 (by omega)).mp z) (by omega))) (fun _ => ?_)
      refine lv_aload_n hx hb dX1_store_10 rfl (lv_at hl 0 rfl) ?_
      refine z_get (T := TX1) (v := .ref (ga3 g)) Z hin rfl Y 3 (by decide) L7 rfl rfl dX1_store_11 ?_
      refine lv_bipush (v := nI (8)) hx hb dX1_store_14 (by decide) ?_
      refine lv_aload_n hx hb dX1_store_16 rfl (lv_at hl 0 rfl) ?_
      refine z_get (T := TX1) (v := .ref (ga5 g)) Z hin rfl Y 5 (by decide) L16 rfl rfl dX1_store_17 ?_
      refine lv_iload_n hx hb dX1_store_20 rfl (lv_at hl 1 rfl) ?_
      refine z_ld5 Z Y (f) (rfl) (by omega) (by omega) dX1_store_21 ?_
      refine z_top (nI (q)) ((r5 f hf).trans hp) ?_
      refine lv_imul hx hb dX1_store_22 ?_
      refine z_top (nI (q * geS g)) (m8 hM) ?_
      refine lv_iload_n hx hb dX1_store_23 rfl (lv_at hl 2 rfl) ?_
      refine lv_iadd hx hb dX1_store_24 ?_
      refine z_top (nI ((q * geS g) + (k))) (nI_add (q * geS g) (k)) ?_
      refine lv_aload_n hx hb dX1_store_25 rfl (lv_at hl 0 rfl) ?_
      refine z_get (T := TX1) (v := .ref (ga4 g)) Z hin rfl Y 4 (by decide) L13 rfl rfl dX1_store_26 ?_
      refine lv_bipush (v := nI (8)) hx hb dX1_store_29 (by decide) ?_
      refine lv_iload_n hx hb dX1_store_31 rfl (lv_at hl 1 rfl) ?_
      refine lv_imul hx hb dX1_store_32 ?_
      refine z_top (nI (f * geS g)) (m8 hM) ?_
      refine lv_iload_n hx hb dX1_store_33 rfl (lv_at hl 2 rfl) ?_
      refine lv_iadd hx hb dX1_store_34 ?_
      refine z_top (nI ((f * geS g) + (k))) (nI_add (f * geS g) (k)) ?_
      refine z_ld4 Z Y ((f * geS g) + (k)) (rfl) (lt4 hg hf hkW rfl) (by omega) dX1_store_35 ?_
      refine z_st3 (x := cs4 (ps3 u (va_cpy (cs4 u) (cs3 u) (f * geS g) (q * geS g) k)) ((f * geS g) + (k))) Z Y ((q * geS g) + (k)) (rfl) (lt3 hg hq hkW rfl) (by omega) dX1_store_36 (fun Hq lq Y => ?_)
      refine lv_iinc (v := nI (k + 1)) (lv' := [(2, .int (nI (k + 1))), (0, .ref (ga0 g)), (1, .int (nI (f)))]) hx hb dX1_store_37 hl (k := 2) rfl (nI_add (k) 1) (by decide) rfl (fun ls hl => ?_)
      refine lv_goto (tgt := 2) hx hb dX1_store_40 (by decide) ?_
      exact ih (k + 1) (by omega) _ _ (by rw [← e0]; exact Y) ls (lv_sub hl [1, 2, 0] rfl)
  refine lv_iconst (v := nI (0)) hx hb dX1_store_0 (by decide) ?_
  refine lv_istore_n (lv' := [(2, .int (nI (0))), (0, .ref (ga0 g)), (1, .int (nI (f)))]) hx hb dX1_store_1 rfl hl (by decide) rfl (fun ls hl => ?_)
  exact loop (geW g) 0 (by omega) _ _ (by rw [cpy_0]; exact Y) ls (lv_sub hl [1, 2, 0] rfl)

set_option maxHeartbeats 4000000 in
set_option maxRecDepth 100000 in
theorem kX1_find (l : Launch) (dC : Nat → ClassId) (dI : Nat → Nat → Nat) {g : GE} {N : Nat} {a : AS} {u : CS} (hR : Rep g N a u) (hM : geS g = 8) : zMI l yX1_find wsX1_find ({ frames := 1, cells := 0, slots := 0, locals := 22 }) dC dI 1 g u [] (fun r u1 => r = onI (-5) (spFind g a).2 ∧ Rep g N (spFind g a).1 u1) := by
  refine zMI_of (cc := cX1_find) (maxL := 2) (ret := (some .int)) (by decide) rfl (Nat.le_of_ble_eq_true rfl) ?_
  intro p e s m below meth c A ls Z Y hl
  have hin : ∀ w ∈ wsX10, w ∈ wsX1_find := fun w h => List.mem_cons_of_mem _ (List.mem_append_right _ h)
  obtain ⟨hx, hb, hml, hown, hts, hr, hlk⟩ := id Z
  have L16 := hts (.fieldLink RX1 16 "FramePoolModel" "page" "[I") (by decide +kernel)
  have L19 := hts (.fieldLink RX1 19 "FramePoolModel" "pins" "[I") (by decide +kernel)
  have L22 := hts (.fieldLink RX1 22 "FramePoolModel" "dirty" "[Z") (by decide +kernel)
  have L26 := hts (.fieldLink RX1 26 "FramePoolModel" "mark" "[Z") (by decide +kernel)
  have L29 := hts (.fieldLink RX1 29 "FramePoolModel" "frames" "I") (by decide +kernel)
  have L46 := hts (.fieldLink RX1 46 "FramePoolModel" "at" "I") (by decide +kernel)
  have hl : lv_has ls 2 [(0, .ref (ga0 g))] := hl
  have hg := hR.1
  have hN := hR.2.1
  obtain ⟨b1, b2, b3, b4, b5, b6, b7⟩ := gokB hg
  obtain ⟨r3, r4, r5, r6, r7, r8, r9, r10, r11⟩ := id hR.2.2.1
  obtain ⟨i1, i2, i3, i4, i5⟩ := id hR.2.2.2
  have b8 : geF g ≤ 32 := hg.2.1
  have loop : ∀ (R0 : AS × Option Nat) (f0 : Nat), R0.2 = some f0 → ∀ (n : Nat) (a : AS) (u : CS), Rep g N a u → findN g n a = R0 → ∀ (H : Heap) (locs : List Loc), zW dC dI 1 g A s.heap s (u) H locs → ∀ ls : Array Slot, lv_has ls 2 [(0, .ref (ga0 g))] → W p l e ({ frames := 1, cells := 0, slots := 0, locals := 22 }) s m (Value.ref (ga0 g) :: []).toArray below meth c H locs 0 0 (zQI below dC dI 1 g A (fun r u1 => r = onI (-5) R0.2 ∧ Rep g N R0.1 u1) (Value.ref (ga0 g) :: []).toArray s) (F0 m 14 ls []) := by
    intro R0 f0 hf0 n
    induction n with
    | zero =>
      intro a u hR hF0
      rw [← hF0] at hf0
      cases hf0
    | succ n ih =>
      intro a u hR hF0 Hq lq Y ls hl
      obtain ⟨r3, r4, r5, r6, r7, r8, r9, r10, r11⟩ := id hR.2.2.1
      obtain ⟨i1, i2, i3, i4, i5⟩ := id hR.2.2.2
      have hb6 : apn a (ahd a) < 2 ^ 31 := by have := pn31 hR i1; omega
      refine lv_aload_n hx hb dX1_find_14 rfl (lv_at hl 0 rfl) ?_
      refine z_get (T := TX1) (v := .int (csh (u))) Z hin rfl Y 9 (by decide) L46 rfl rfl dX1_find_15 ?_
      refine z_top (nI (ahd a)) (r9) ?_
      refine lv_istore_n (lv' := [(1, .int (nI (ahd a))), (0, .ref (ga0 g))]) hx hb dX1_find_18 rfl hl (by decide) rfl (fun ls hl => ?_)
      refine lv_aload_n hx hb dX1_find_19 rfl (lv_at hl 1 rfl) ?_
      refine lv_aload_n hx hb dX1_find_20 rfl (lv_at hl 1 rfl) ?_
      refine z_get (T := TX1) (v := .int (csh (u))) Z hin rfl Y 9 (by decide) L46 rfl rfl dX1_find_21 ?_
      refine z_top (nI (ahd a)) (r9) ?_
      refine lv_iconst (v := nI (1)) hx hb dX1_find_24 (by decide) ?_
      refine lv_iadd hx hb dX1_find_25 ?_
      refine z_top (nI ((ahd a) + (1))) (nI_add (ahd a) (1)) ?_
      refine lv_aload_n hx hb dX1_find_26 rfl (lv_at hl 1 rfl) ?_
      refine z_get (T := TX1) (v := .int (nI (geF g))) Z hin rfl Y 0 (by decide) L29 rfl rfl dX1_find_27 ?_
      refine lv_icmp_ne (tgt := 37) hx hb dX1_find_30 (by decide) (fun c30 => ?_) (fun c30 => ?_)
      · refine lv_aload_n hx hb dX1_find_37 rfl (lv_at hl 1 rfl) ?_
        refine z_get (T := TX1) (v := .int (csh (u))) Z hin rfl Y 9 (by decide) L46 rfl rfl dX1_find_38 ?_
        refine z_top (nI (ahd a)) (r9) ?_
        refine lv_iconst (v := nI (1)) hx hb dX1_find_41 (by decide) ?_
        refine lv_iadd hx hb dX1_find_42 ?_
        refine z_top (nI ((ahd a) + (1))) (nI_add (ahd a) (1)) ?_
        refine z_puth (T := TX1) (v := nI ((ahd a) + (1))) Z hin tyX1_ok nmX1 rfl Y L46 rfl rfl rfl dX1_find_43 (fun Hq lq Y => ?_)
        have hnx : nx g (ahd a) = ahd a + 1 := nx_t (by have : ¬ ahd a + 1 = geF g := fun z => c30 ((nI_eq (by omega) b1).mpr z); omega)
        have hR1 : Rep g N (oHand (nx g (ahd a)) a) (psh (u) (nI ((ahd a) + (1)))) := by rw [hnx]; exact ⟨hg, hN, Rp_hand (ahd a + 1) hR.2.2.1, Iv_hand (by have := nx_lt hg (ahd a); omega) hR.2.2.2⟩
        refine lv_aload_n hx hb dX1_find_46 rfl (lv_at hl 1 rfl) ?_
        refine z_get (T := TX1) (v := .ref (ga6 g)) Z hin rfl Y 6 (by decide) L19 rfl rfl dX1_find_47 ?_
        refine lv_iload_n hx hb dX1_find_50 rfl (lv_at hl 0 rfl) ?_
        refine z_ld6 Z Y (ahd a) (rfl) (by omega) (by omega) dX1_find_51 ?_
        refine z_top (nI (apn a (ahd a))) (r6 (ahd a) i1) ?_
        refine lv_if_le (tgt := 58) hx hb dX1_find_52 (by decide) (fun c52 => ?_) (fun c52 => ?_)
        · have h0 : ¬ 0 < apn a (ahd a) := by have := (nI_le0 hb6).mp c52; omega
          refine lv_aload_n hx hb dX1_find_58 rfl (lv_at hl 1 rfl) ?_
          refine z_get (T := TX1) (v := .ref (ga5 g)) Z hin rfl Y 5 (by decide) L16 rfl rfl dX1_find_59 ?_
          refine lv_iload_n hx hb dX1_find_62 rfl (lv_at hl 0 rfl) ?_
          refine z_ld5 Z Y (ahd a) (rfl) (by omega) (by omega) dX1_find_63 ?_
          refine z_top (apg a (ahd a)) (r5 (ahd a) i1) ?_
          refine lv_iconst (v := (-1)) hx hb dX1_find_64 (by decide) ?_
          refine lv_icmp_eq (tgt := 87) hx hb dX1_find_65 (by decide) (fun c65 => ?_) (fun c65 => ?_)
          · refine lv_aload_n hx hb dX1_find_87 rfl (lv_at hl 1 rfl) ?_
            refine z_get (T := TX1) (v := .ref (ga5 g)) Z hin rfl Y 5 (by decide) L16 rfl rfl dX1_find_88 ?_
            refine lv_iload_n hx hb dX1_find_91 rfl (lv_at hl 0 rfl) ?_
            refine z_ld5 Z Y (ahd a) (rfl) (by omega) (by omega) dX1_find_92 ?_
            refine z_top (apg a (ahd a)) (r5 (ahd a) i1) ?_
            refine lv_iconst (v := (-1)) hx hb dX1_find_93 (by decide) ?_
            refine lv_icmp_eq (tgt := 111) hx hb dX1_find_94 (by decide) (fun _ => ?_) (fun c94 => absurd (c65) c94)
            refine lv_aload_n hx hb dX1_find_111 rfl (lv_at hl 1 rfl) ?_
            refine lv_iload_n hx hb dX1_find_112 rfl (lv_at hl 0 rfl) ?_
            refine z_callV (rest := []) Z Y rfl (kX1_empty l dC dI hg (psh (u) (nI ((ahd a) + (1)))) (show ahd a < gn5 g by omega)) (cwV 1 hts gX1_find_X1_empty rfl rfl rfl (by decide +kernel) ⟨Nat.le_of_ble_eq_true rfl, Nat.le_of_ble_eq_true rfl⟩) rfl hl.1 rfl (Nat.le_of_ble_eq_true rfl) dX1_find_113 ⟨Nat.zero_le _, Nat.zero_le _⟩ (fun u113 Hq lq hw Y => ?_)
            subst hw
            refine lv_iload_n hx hb dX1_find_116 rfl (lv_at hl 0 rfl) ?_
            exact z_ret (v := nI (ahd a)) (u := (cs3 (psh (u) (nI ((ahd a) + (1)))), cs4 (psh (u) (nI ((ahd a) + (1)))), upd (cs5 (psh (u) (nI ((ahd a) + (1))))) (ahd a) (-1), upd (cs6 (psh (u) (nI ((ahd a) + (1))))) (ahd a) (nI 0), upd (cs7 (psh (u) (nI ((ahd a) + (1))))) (ahd a) (nI 0), upd (cs8 (psh (u) (nI ((ahd a) + (1))))) (ahd a) (nI 0), csh (psh (u) (nI ((ahd a) + (1)))), csr (psh (u) (nI ((ahd a) + (1)))), csw (psh (u) (nI ((ahd a) + (1)))))) Z Y (rfl) (by rw [← hF0, findN_t (by rw [gw_emp (a := (oHand (nx g (ahd a)) a)) h0 c65]), gw_emp (a := (oHand (nx g (ahd a)) a)) h0 c65]; exact ⟨rfl, ⟨hg, hN, Rp_emptyE hR1.2.2.2 i1 c65 hR1.2.2.1, hR1.2.2.2⟩⟩) dX1_find_117
          · refine lv_aload_n hx hb dX1_find_68 rfl (lv_at hl 1 rfl) ?_
            refine z_get (T := TX1) (v := .ref (ga8 g)) Z hin rfl Y 8 (by decide) L26 rfl rfl dX1_find_69 ?_
            refine lv_iload_n hx hb dX1_find_72 rfl (lv_at hl 0 rfl) ?_
            refine z_ld8 Z Y (ahd a) (rfl) (by omega) (by omega) dX1_find_73 ?_
            refine z_top (amk a (ahd a)) (r8 (ahd a) i1) ?_
            refine lv_if_eq (tgt := 87) hx hb dX1_find_74 (by decide) (fun c74 => ?_) (fun c74 => ?_)
            · refine lv_aload_n hx hb dX1_find_87 rfl (lv_at hl 1 rfl) ?_
              refine z_get (T := TX1) (v := .ref (ga5 g)) Z hin rfl Y 5 (by decide) L16 rfl rfl dX1_find_88 ?_
              refine lv_iload_n hx hb dX1_find_91 rfl (lv_at hl 0 rfl) ?_
              refine z_ld5 Z Y (ahd a) (rfl) (by omega) (by omega) dX1_find_92 ?_
              refine z_top (apg a (ahd a)) (r5 (ahd a) i1) ?_
              refine lv_iconst (v := (-1)) hx hb dX1_find_93 (by decide) ?_
              refine lv_icmp_eq (tgt := 111) hx hb dX1_find_94 (by decide) (fun c94 => absurd c94 (c65)) (fun _ => ?_)
              refine lv_aload_n hx hb dX1_find_97 rfl (lv_at hl 1 rfl) ?_
              refine z_get (T := TX1) (v := .ref (ga7 g)) Z hin rfl Y 7 (by decide) L22 rfl rfl dX1_find_98 ?_
              refine lv_iload_n hx hb dX1_find_101 rfl (lv_at hl 0 rfl) ?_
              refine z_ld7 Z Y (ahd a) (rfl) (by omega) (by omega) dX1_find_102 ?_
              refine z_top (adt a (ahd a)) (r7 (ahd a) i1) ?_
              refine lv_if_eq (tgt := 111) hx hb dX1_find_103 (by decide) (fun c103 => ?_) (fun c103 => ?_)
              · refine lv_aload_n hx hb dX1_find_111 rfl (lv_at hl 1 rfl) ?_
                refine lv_iload_n hx hb dX1_find_112 rfl (lv_at hl 0 rfl) ?_
                refine z_callV (rest := []) Z Y rfl (kX1_empty l dC dI hg (psh (u) (nI ((ahd a) + (1)))) (show ahd a < gn5 g by omega)) (cwV 1 hts gX1_find_X1_empty rfl rfl rfl (by decide +kernel) ⟨Nat.le_of_ble_eq_true rfl, Nat.le_of_ble_eq_true rfl⟩) rfl hl.1 rfl (Nat.le_of_ble_eq_true rfl) dX1_find_113 ⟨Nat.zero_le _, Nat.zero_le _⟩ (fun u113 Hq lq hw Y => ?_)
                subst hw
                refine lv_iload_n hx hb dX1_find_116 rfl (lv_at hl 0 rfl) ?_
                exact z_ret (v := nI (ahd a)) (u := (cs3 (psh (u) (nI ((ahd a) + (1)))), cs4 (psh (u) (nI ((ahd a) + (1)))), upd (cs5 (psh (u) (nI ((ahd a) + (1))))) (ahd a) (-1), upd (cs6 (psh (u) (nI ((ahd a) + (1))))) (ahd a) (nI 0), upd (cs7 (psh (u) (nI ((ahd a) + (1))))) (ahd a) (nI 0), upd (cs8 (psh (u) (nI ((ahd a) + (1))))) (ahd a) (nI 0), csh (psh (u) (nI ((ahd a) + (1)))), csr (psh (u) (nI ((ahd a) + (1)))), csw (psh (u) (nI ((ahd a) + (1)))))) Z Y (rfl) (by rw [← hF0, findN_t (by rw [gw_clean (a := (oHand (nx g (ahd a)) a)) h0 c65 c74 c103]), gw_clean (a := (oHand (nx g (ahd a)) a)) h0 c65 c74 c103]; exact ⟨rfl, ⟨hg, hN, Rp_empty (ahd a) hR1.2.2.1, Iv_empty (ahd a) hR1.2.2.2⟩⟩) dX1_find_117
              · obtain ⟨q, hq, hpq⟩ := dt_pg hR.2.2.2 i1 c103
                refine lv_aload_n hx hb dX1_find_106 rfl (lv_at hl 1 rfl) ?_
                refine lv_iload_n hx hb dX1_find_107 rfl (lv_at hl 0 rfl) ?_
                refine z_callV (rest := []) Z Y rfl (kX1_store l dC dI hR1 hM i1 hq hpq) (cwV 1 hts gX1_find_X1_store rfl rfl rfl (by decide +kernel) ⟨Nat.le_of_ble_eq_true rfl, Nat.le_of_ble_eq_true rfl⟩) rfl hl.1 rfl (Nat.le_of_ble_eq_true rfl) dX1_find_108 ⟨Nat.zero_le _, Nat.zero_le _⟩ (fun u108 Hq lq hw Y => ?_)
                have hR108 := hw
                refine lv_aload_n hx hb dX1_find_111 rfl (lv_at hl 1 rfl) ?_
                refine lv_iload_n hx hb dX1_find_112 rfl (lv_at hl 0 rfl) ?_
                refine z_callV (rest := []) Z Y rfl (kX1_empty l dC dI hg u108 (show ahd a < gn5 g by omega)) (cwV 1 hts gX1_find_X1_empty rfl rfl rfl (by decide +kernel) ⟨Nat.le_of_ble_eq_true rfl, Nat.le_of_ble_eq_true rfl⟩) rfl hl.1 rfl (Nat.le_of_ble_eq_true rfl) dX1_find_113 ⟨Nat.zero_le _, Nat.zero_le _⟩ (fun u113 Hq lq hw Y => ?_)
                subst hw
                refine lv_iload_n hx hb dX1_find_116 rfl (lv_at hl 0 rfl) ?_
                exact z_ret (v := nI (ahd a)) (u := (cs3 u108, cs4 u108, upd (cs5 u108) (ahd a) (-1), upd (cs6 u108) (ahd a) (nI 0), upd (cs7 u108) (ahd a) (nI 0), upd (cs8 u108) (ahd a) (nI 0), csh u108, csr u108, csw u108)) Z Y (rfl) (by rw [← hF0, findN_t (by rw [gw_dirty (a := (oHand (nx g (ahd a)) a)) (show q < 2 ^ 31 by omega) h0 c65 c74 c103 hpq]), gw_dirty (a := (oHand (nx g (ahd a)) a)) (show q < 2 ^ 31 by omega) h0 c65 c74 c103 hpq]; exact ⟨rfl, ⟨hg, hN, Rp_empty (ahd a) hR108.2.2.1, Iv_empty (ahd a) hR108.2.2.2⟩⟩) dX1_find_117
            · refine lv_aload_n hx hb dX1_find_77 rfl (lv_at hl 1 rfl) ?_
              refine z_get (T := TX1) (v := .ref (ga8 g)) Z hin rfl Y 8 (by decide) L26 rfl rfl dX1_find_78 ?_
              refine lv_iload_n hx hb dX1_find_81 rfl (lv_at hl 0 rfl) ?_
              refine lv_iconst (v := nI (0)) hx hb dX1_find_82 (by decide) ?_
              refine z_st8 (x := nI (0)) Z Y (ahd a) (rfl) (by omega) (by omega) (by decide) dX1_find_83 (fun Hq lq Y => ?_)
              refine lv_goto (tgt := 14) hx hb dX1_find_84 (by decide) ?_
              exact ih _ _ (⟨hg, hN, Rp_mark (ahd a) (nI 0) hR1.2.2.1, Iv_mark (fun _ => rfl) hR1.2.2.2⟩) (by rw [← hF0, findN_f (by rw [gw_mk (a := (oHand (nx g (ahd a)) a)) h0 c65 c74]), gw_mk (a := (oHand (nx g (ahd a)) a)) h0 c65 c74]) _ _ Y ls (lv_sub hl [1] rfl)
        · have h0 : 0 < apn a (ahd a) := Nat.pos_of_ne_zero (fun z => c52 ((nI_le0 hb6).mpr z))
          refine lv_goto (tgt := 14) hx hb dX1_find_55 (by decide) ?_
          exact ih _ _ (hR1) (by rw [← hF0, findN_f (by rw [gw_pin (a := (oHand (nx g (ahd a)) a)) h0]), gw_pin (a := (oHand (nx g (ahd a)) a)) h0]) _ _ Y ls (lv_sub hl [1] rfl)
      · refine lv_iconst (v := nI (0)) hx hb dX1_find_33 (by decide) ?_
        refine lv_goto (tgt := 43) hx hb dX1_find_34 (by decide) ?_
        refine z_puth (T := TX1) (v := nI (0)) Z hin tyX1_ok nmX1 rfl Y L46 rfl rfl rfl dX1_find_43 (fun Hq lq Y => ?_)
        have hnx : nx g (ahd a) = 0 := nx_f (by have := (nI_eq (by omega) b1).mp c30; omega)
        have hR1 : Rep g N (oHand (nx g (ahd a)) a) (psh (u) (nI (0))) := by rw [hnx]; exact ⟨hg, hN, Rp_hand 0 hR.2.2.1, Iv_hand (by omega) hR.2.2.2⟩
        refine lv_aload_n hx hb dX1_find_46 rfl (lv_at hl 1 rfl) ?_
        refine z_get (T := TX1) (v := .ref (ga6 g)) Z hin rfl Y 6 (by decide) L19 rfl rfl dX1_find_47 ?_
        refine lv_iload_n hx hb dX1_find_50 rfl (lv_at hl 0 rfl) ?_
        refine z_ld6 Z Y (ahd a) (rfl) (by omega) (by omega) dX1_find_51 ?_
        refine z_top (nI (apn a (ahd a))) (r6 (ahd a) i1) ?_
        refine lv_if_le (tgt := 58) hx hb dX1_find_52 (by decide) (fun c52 => ?_) (fun c52 => ?_)
        · have h0 : ¬ 0 < apn a (ahd a) := by have := (nI_le0 hb6).mp c52; omega
          refine lv_aload_n hx hb dX1_find_58 rfl (lv_at hl 1 rfl) ?_
          refine z_get (T := TX1) (v := .ref (ga5 g)) Z hin rfl Y 5 (by decide) L16 rfl rfl dX1_find_59 ?_
          refine lv_iload_n hx hb dX1_find_62 rfl (lv_at hl 0 rfl) ?_
          refine z_ld5 Z Y (ahd a) (rfl) (by omega) (by omega) dX1_find_63 ?_
          refine z_top (apg a (ahd a)) (r5 (ahd a) i1) ?_
          refine lv_iconst (v := (-1)) hx hb dX1_find_64 (by decide) ?_
          refine lv_icmp_eq (tgt := 87) hx hb dX1_find_65 (by decide) (fun c65 => ?_) (fun c65 => ?_)
          · refine lv_aload_n hx hb dX1_find_87 rfl (lv_at hl 1 rfl) ?_
            refine z_get (T := TX1) (v := .ref (ga5 g)) Z hin rfl Y 5 (by decide) L16 rfl rfl dX1_find_88 ?_
            refine lv_iload_n hx hb dX1_find_91 rfl (lv_at hl 0 rfl) ?_
            refine z_ld5 Z Y (ahd a) (rfl) (by omega) (by omega) dX1_find_92 ?_
            refine z_top (apg a (ahd a)) (r5 (ahd a) i1) ?_
            refine lv_iconst (v := (-1)) hx hb dX1_find_93 (by decide) ?_
            refine lv_icmp_eq (tgt := 111) hx hb dX1_find_94 (by decide) (fun _ => ?_) (fun c94 => absurd (c65) c94)
            refine lv_aload_n hx hb dX1_find_111 rfl (lv_at hl 1 rfl) ?_
            refine lv_iload_n hx hb dX1_find_112 rfl (lv_at hl 0 rfl) ?_
            refine z_callV (rest := []) Z Y rfl (kX1_empty l dC dI hg (psh (u) (nI (0))) (show ahd a < gn5 g by omega)) (cwV 1 hts gX1_find_X1_empty rfl rfl rfl (by decide +kernel) ⟨Nat.le_of_ble_eq_true rfl, Nat.le_of_ble_eq_true rfl⟩) rfl hl.1 rfl (Nat.le_of_ble_eq_true rfl) dX1_find_113 ⟨Nat.zero_le _, Nat.zero_le _⟩ (fun u113 Hq lq hw Y => ?_)
            subst hw
            refine lv_iload_n hx hb dX1_find_116 rfl (lv_at hl 0 rfl) ?_
            exact z_ret (v := nI (ahd a)) (u := (cs3 (psh (u) (nI (0))), cs4 (psh (u) (nI (0))), upd (cs5 (psh (u) (nI (0)))) (ahd a) (-1), upd (cs6 (psh (u) (nI (0)))) (ahd a) (nI 0), upd (cs7 (psh (u) (nI (0)))) (ahd a) (nI 0), upd (cs8 (psh (u) (nI (0)))) (ahd a) (nI 0), csh (psh (u) (nI (0))), csr (psh (u) (nI (0))), csw (psh (u) (nI (0))))) Z Y (rfl) (by rw [← hF0, findN_t (by rw [gw_emp (a := (oHand (nx g (ahd a)) a)) h0 c65]), gw_emp (a := (oHand (nx g (ahd a)) a)) h0 c65]; exact ⟨rfl, ⟨hg, hN, Rp_emptyE hR1.2.2.2 i1 c65 hR1.2.2.1, hR1.2.2.2⟩⟩) dX1_find_117
          · refine lv_aload_n hx hb dX1_find_68 rfl (lv_at hl 1 rfl) ?_
            refine z_get (T := TX1) (v := .ref (ga8 g)) Z hin rfl Y 8 (by decide) L26 rfl rfl dX1_find_69 ?_
            refine lv_iload_n hx hb dX1_find_72 rfl (lv_at hl 0 rfl) ?_
            refine z_ld8 Z Y (ahd a) (rfl) (by omega) (by omega) dX1_find_73 ?_
            refine z_top (amk a (ahd a)) (r8 (ahd a) i1) ?_
            refine lv_if_eq (tgt := 87) hx hb dX1_find_74 (by decide) (fun c74 => ?_) (fun c74 => ?_)
            · refine lv_aload_n hx hb dX1_find_87 rfl (lv_at hl 1 rfl) ?_
              refine z_get (T := TX1) (v := .ref (ga5 g)) Z hin rfl Y 5 (by decide) L16 rfl rfl dX1_find_88 ?_
              refine lv_iload_n hx hb dX1_find_91 rfl (lv_at hl 0 rfl) ?_
              refine z_ld5 Z Y (ahd a) (rfl) (by omega) (by omega) dX1_find_92 ?_
              refine z_top (apg a (ahd a)) (r5 (ahd a) i1) ?_
              refine lv_iconst (v := (-1)) hx hb dX1_find_93 (by decide) ?_
              refine lv_icmp_eq (tgt := 111) hx hb dX1_find_94 (by decide) (fun c94 => absurd c94 (c65)) (fun _ => ?_)
              refine lv_aload_n hx hb dX1_find_97 rfl (lv_at hl 1 rfl) ?_
              refine z_get (T := TX1) (v := .ref (ga7 g)) Z hin rfl Y 7 (by decide) L22 rfl rfl dX1_find_98 ?_
              refine lv_iload_n hx hb dX1_find_101 rfl (lv_at hl 0 rfl) ?_
              refine z_ld7 Z Y (ahd a) (rfl) (by omega) (by omega) dX1_find_102 ?_
              refine z_top (adt a (ahd a)) (r7 (ahd a) i1) ?_
              refine lv_if_eq (tgt := 111) hx hb dX1_find_103 (by decide) (fun c103 => ?_) (fun c103 => ?_)
              · refine lv_aload_n hx hb dX1_find_111 rfl (lv_at hl 1 rfl) ?_
                refine lv_iload_n hx hb dX1_find_112 rfl (lv_at hl 0 rfl) ?_
                refine z_callV (rest := []) Z Y rfl (kX1_empty l dC dI hg (psh (u) (nI (0))) (show ahd a < gn5 g by omega)) (cwV 1 hts gX1_find_X1_empty rfl rfl rfl (by decide +kernel) ⟨Nat.le_of_ble_eq_true rfl, Nat.le_of_ble_eq_true rfl⟩) rfl hl.1 rfl (Nat.le_of_ble_eq_true rfl) dX1_find_113 ⟨Nat.zero_le _, Nat.zero_le _⟩ (fun u113 Hq lq hw Y => ?_)
                subst hw
                refine lv_iload_n hx hb dX1_find_116 rfl (lv_at hl 0 rfl) ?_
                exact z_ret (v := nI (ahd a)) (u := (cs3 (psh (u) (nI (0))), cs4 (psh (u) (nI (0))), upd (cs5 (psh (u) (nI (0)))) (ahd a) (-1), upd (cs6 (psh (u) (nI (0)))) (ahd a) (nI 0), upd (cs7 (psh (u) (nI (0)))) (ahd a) (nI 0), upd (cs8 (psh (u) (nI (0)))) (ahd a) (nI 0), csh (psh (u) (nI (0))), csr (psh (u) (nI (0))), csw (psh (u) (nI (0))))) Z Y (rfl) (by rw [← hF0, findN_t (by rw [gw_clean (a := (oHand (nx g (ahd a)) a)) h0 c65 c74 c103]), gw_clean (a := (oHand (nx g (ahd a)) a)) h0 c65 c74 c103]; exact ⟨rfl, ⟨hg, hN, Rp_empty (ahd a) hR1.2.2.1, Iv_empty (ahd a) hR1.2.2.2⟩⟩) dX1_find_117
              · obtain ⟨q, hq, hpq⟩ := dt_pg hR.2.2.2 i1 c103
                refine lv_aload_n hx hb dX1_find_106 rfl (lv_at hl 1 rfl) ?_
                refine lv_iload_n hx hb dX1_find_107 rfl (lv_at hl 0 rfl) ?_
                refine z_callV (rest := []) Z Y rfl (kX1_store l dC dI hR1 hM i1 hq hpq) (cwV 1 hts gX1_find_X1_store rfl rfl rfl (by decide +kernel) ⟨Nat.le_of_ble_eq_true rfl, Nat.le_of_ble_eq_true rfl⟩) rfl hl.1 rfl (Nat.le_of_ble_eq_true rfl) dX1_find_108 ⟨Nat.zero_le _, Nat.zero_le _⟩ (fun u108 Hq lq hw Y => ?_)
                have hR108 := hw
                refine lv_aload_n hx hb dX1_find_111 rfl (lv_at hl 1 rfl) ?_
                refine lv_iload_n hx hb dX1_find_112 rfl (lv_at hl 0 rfl) ?_
                refine z_callV (rest := []) Z Y rfl (kX1_empty l dC dI hg u108 (show ahd a < gn5 g by omega)) (cwV 1 hts gX1_find_X1_empty rfl rfl rfl (by decide +kernel) ⟨Nat.le_of_ble_eq_true rfl, Nat.le_of_ble_eq_true rfl⟩) rfl hl.1 rfl (Nat.le_of_ble_eq_true rfl) dX1_find_113 ⟨Nat.zero_le _, Nat.zero_le _⟩ (fun u113 Hq lq hw Y => ?_)
                subst hw
                refine lv_iload_n hx hb dX1_find_116 rfl (lv_at hl 0 rfl) ?_
                exact z_ret (v := nI (ahd a)) (u := (cs3 u108, cs4 u108, upd (cs5 u108) (ahd a) (-1), upd (cs6 u108) (ahd a) (nI 0), upd (cs7 u108) (ahd a) (nI 0), upd (cs8 u108) (ahd a) (nI 0), csh u108, csr u108, csw u108)) Z Y (rfl) (by rw [← hF0, findN_t (by rw [gw_dirty (a := (oHand (nx g (ahd a)) a)) (show q < 2 ^ 31 by omega) h0 c65 c74 c103 hpq]), gw_dirty (a := (oHand (nx g (ahd a)) a)) (show q < 2 ^ 31 by omega) h0 c65 c74 c103 hpq]; exact ⟨rfl, ⟨hg, hN, Rp_empty (ahd a) hR108.2.2.1, Iv_empty (ahd a) hR108.2.2.2⟩⟩) dX1_find_117
            · refine lv_aload_n hx hb dX1_find_77 rfl (lv_at hl 1 rfl) ?_
              refine z_get (T := TX1) (v := .ref (ga8 g)) Z hin rfl Y 8 (by decide) L26 rfl rfl dX1_find_78 ?_
              refine lv_iload_n hx hb dX1_find_81 rfl (lv_at hl 0 rfl) ?_
              refine lv_iconst (v := nI (0)) hx hb dX1_find_82 (by decide) ?_
              refine z_st8 (x := nI (0)) Z Y (ahd a) (rfl) (by omega) (by omega) (by decide) dX1_find_83 (fun Hq lq Y => ?_)
              refine lv_goto (tgt := 14) hx hb dX1_find_84 (by decide) ?_
              exact ih _ _ (⟨hg, hN, Rp_mark (ahd a) (nI 0) hR1.2.2.1, Iv_mark (fun _ => rfl) hR1.2.2.2⟩) (by rw [← hF0, findN_f (by rw [gw_mk (a := (oHand (nx g (ahd a)) a)) h0 c65 c74]), gw_mk (a := (oHand (nx g (ahd a)) a)) h0 c65 c74]) _ _ Y ls (lv_sub hl [1] rfl)
        · have h0 : 0 < apn a (ahd a) := Nat.pos_of_ne_zero (fun z => c52 ((nI_le0 hb6).mpr z))
          refine lv_goto (tgt := 14) hx hb dX1_find_55 (by decide) ?_
          exact ih _ _ (hR1) (by rw [← hF0, findN_f (by rw [gw_pin (a := (oHand (nx g (ahd a)) a)) h0]), gw_pin (a := (oHand (nx g (ahd a)) a)) h0]) _ _ Y ls (lv_sub hl [1] rfl)
  refine lv_aload_n hx hb dX1_find_0 rfl (lv_at hl 0 rfl) ?_
  refine z_callI (rest := []) Z Y rfl (kX1_pinned l dC dI hR) (cwV 0 hts gX1_find_X1_pinned rfl rfl rfl (by decide +kernel) ⟨Nat.le_of_ble_eq_true rfl, Nat.le_of_ble_eq_true rfl⟩) rfl hl.1 rfl (Nat.le_of_ble_eq_true rfl) dX1_find_1 ⟨Nat.zero_le _, Nat.zero_le _⟩ (fun r1 u1 Hq lq hw Y => ?_)
  obtain ⟨rfl, rfl⟩ := hw
  refine lv_aload_n hx hb dX1_find_4 rfl (lv_at hl 0 rfl) ?_
  refine z_get (T := TX1) (v := .int (nI (geF g))) Z hin rfl Y 0 (by decide) L29 rfl rfl dX1_find_5 ?_
  have hc31 : cnt (apn a) (geF g) < 2 ^ 31 := by have := cnt_le (apn a) (geF g); omega
  refine lv_icmp_ne (tgt := 14) hx hb dX1_find_8 (by decide) (fun c8 => ?_) (fun c8 => ?_)
  · have hne : ¬ cnt (apn a) (geF g) = geF g := fun z => c8 ((nI_eq hc31 b1).mpr z)
    rw [spFind_go hne]
    obtain ⟨f0, hf0⟩ := findN_found hg hR.2.2.2 hne
    exact loop _ f0 hf0 (2 * geF g) a u hR rfl _ _ Y ls (lv_sub hl [0] rfl)
  · refine lv_bipush (v := (-5)) hx hb dX1_find_11 (by decide) ?_
    have he := (nI_eq hc31 b1).mp c8
    exact z_ret (v := (-5)) (u := u) Z Y (rfl) (by rw [spFind_all he]; exact ⟨rfl, hR⟩) dX1_find_13

set_option maxHeartbeats 4000000 in
set_option maxRecDepth 100000 in
theorem kX1_fetch (l : Launch) (dC : Nat → ClassId) (dI : Nat → Nat → Nat) {g : GE} {N : Nat} {a : AS} {u : CS} (hR : Rep g N a u) (hM : geS g = 8) (hN1 : N + 1 < 2 ^ 20) (x : Int32) : zMI l yX1_fetch wsX1_fetch ({ frames := 2, cells := 0, slots := 0, locals := 43 }) dC dI 1 g u [.int (x)] (fun r u1 => r = (spFetch g a x).1 ∧ Rep g (N + 1) (spFetch g a x).2 u1) := by
  refine zMI_of (cc := cX1_fetch) (maxL := 4) (ret := (some .int)) (by decide) rfl (Nat.le_of_ble_eq_true rfl) ?_
  intro p e s m below meth c A ls Z Y hl
  have hin : ∀ w ∈ wsX10, w ∈ wsX1_fetch := fun w h => List.mem_cons_of_mem _ (List.mem_append_right _ h)
  obtain ⟨hx, hb, hml, hown, hts, hr, hlk⟩ := id Z
  have L7 := hts (.fieldLink RX1 7 "FramePoolModel" "disk" "[I") (by decide +kernel)
  have L13 := hts (.fieldLink RX1 13 "FramePoolModel" "memory" "[I") (by decide +kernel)
  have L16 := hts (.fieldLink RX1 16 "FramePoolModel" "page" "[I") (by decide +kernel)
  have L19 := hts (.fieldLink RX1 19 "FramePoolModel" "pins" "[I") (by decide +kernel)
  have L26 := hts (.fieldLink RX1 26 "FramePoolModel" "mark" "[Z") (by decide +kernel)
  have L36 := hts (.fieldLink RX1 36 "FramePoolModel" "words" "I") (by decide +kernel)
  have L49 := hts (.fieldLink RX1 49 "FramePoolModel" "reads" "I") (by decide +kernel)
  have hl : lv_has ls 4 [(0, .ref (ga0 g)), (1, .int (x))] := hl
  have hg := hR.1
  have hN := hR.2.1
  obtain ⟨b1, b2, b3, b4, b5, b6, b7⟩ := gokB hg
  obtain ⟨r3, r4, r5, r6, r7, r8, r9, r10, r11⟩ := id hR.2.2.1
  obtain ⟨i1, i2, i3, i4, i5⟩ := id hR.2.2.2
  refine lv_aload_n hx hb dX1_fetch_0 rfl (lv_at hl 0 rfl) ?_
  refine lv_iload_n hx hb dX1_fetch_1 rfl (lv_at hl 1 rfl) ?_
  refine z_callI (rest := []) Z Y rfl (kX1_isPage l dC dI hg u x) (cwV 1 hts gX1_fetch_X1_isPage rfl rfl rfl (by decide +kernel) ⟨Nat.le_of_ble_eq_true rfl, Nat.le_of_ble_eq_true rfl⟩) rfl hl.1 rfl (Nat.le_of_ble_eq_true rfl) dX1_fetch_2 ⟨Nat.zero_le _, Nat.zero_le _⟩ (fun r2 u2 Hq lq hw Y => ?_)
  obtain ⟨rfl, hw⟩ := hw
  rcases hw with ⟨rfl, hw2⟩ | ⟨rfl, hw2⟩
  · obtain ⟨q, hq, rfl⟩ := vp_in_of hw2 b2
    refine lv_if_ne (tgt := 11) hx hb dX1_fetch_5 (by decide) (fun _ => ?_) (fun c5 => absurd c5 (by decide))
    refine lv_aload_n hx hb dX1_fetch_11 rfl (lv_at hl 0 rfl) ?_
    refine lv_iload_n hx hb dX1_fetch_12 rfl (lv_at hl 1 rfl) ?_
    refine z_callI (rest := []) Z Y rfl (kX1_frameOf l dC dI hR (nI q)) (cwV 1 hts gX1_fetch_X1_frameOf rfl rfl rfl (by decide +kernel) ⟨Nat.le_of_ble_eq_true rfl, Nat.le_of_ble_eq_true rfl⟩) rfl hl.1 rfl (Nat.le_of_ble_eq_true rfl) dX1_fetch_13 ⟨Nat.zero_le _, Nat.zero_le _⟩ (fun r13 u13 Hq lq hw Y => ?_)
    obtain ⟨rfl, hw⟩ := hw
    rcases hw with ⟨f, q13, hf13, hq13, hx13, rfl, hp13, hfo13⟩ | ⟨rfl, hfo13⟩
    · refine lv_istore_n (lv' := [(2, .int (nI (f))), (0, .ref (ga0 g)), (1, .int (nI (q)))]) hx hb dX1_fetch_16 rfl hl (by decide) rfl (fun ls hl => ?_)
      refine lv_iload_n hx hb dX1_fetch_17 rfl (lv_at hl 0 rfl) ?_
      refine lv_bipush (v := (-5)) hx hb dX1_fetch_18 (by decide) ?_
      refine lv_icmp_ne (tgt := 91) hx hb dX1_fetch_20 (by decide) (fun _ => ?_) (fun c20 => absurd c20 (nI_ne_m5 (show f < 2 ^ 31 by omega)))
      refine lv_aload_n hx hb dX1_fetch_91 rfl (lv_at hl 1 rfl) ?_
      refine z_get (T := TX1) (v := .ref (ga6 g)) Z hin rfl Y 6 (by decide) L19 rfl rfl dX1_fetch_92 ?_
      refine lv_iload_n hx hb dX1_fetch_95 rfl (lv_at hl 0 rfl) ?_
      refine lv_dup2_11 hx hb dX1_fetch_96 rfl rfl ?_
      refine z_ld6 Z Y (f) (rfl) (by omega) (by omega) dX1_fetch_97 ?_
      refine z_top (nI (apn a f)) (r6 f hf13) ?_
      refine lv_iconst (v := nI (1)) hx hb dX1_fetch_98 (by decide) ?_
      refine lv_iadd hx hb dX1_fetch_99 ?_
      refine z_top (nI ((apn a f) + (1))) (nI_add (apn a f) (1)) ?_
      refine z_st6 (x := nI ((apn a f) + (1))) Z Y (f) (rfl) (by omega) (by omega) dX1_fetch_100 (fun Hq lq Y => ?_)
      refine lv_aload_n hx hb dX1_fetch_101 rfl (lv_at hl 1 rfl) ?_
      refine z_get (T := TX1) (v := .ref (ga8 g)) Z hin rfl Y 8 (by decide) L26 rfl rfl dX1_fetch_102 ?_
      refine lv_iload_n hx hb dX1_fetch_105 rfl (lv_at hl 0 rfl) ?_
      refine lv_iconst (v := nI (1)) hx hb dX1_fetch_106 (by decide) ?_
      refine z_st8 (x := nI (1)) Z Y (f) (rfl) (by omega) (by omega) (by decide) dX1_fetch_107 (fun Hq lq Y => ?_)
      refine lv_iload_n hx hb dX1_fetch_108 rfl (lv_at hl 0 rfl) ?_
      exact z_ret (v := nI (f)) (u := ps8 (ps6 (u) (upd (cs6 (u)) (f) (nI ((apn a f) + (1))))) (upd (cs8 (ps6 (u) (upd (cs6 (u)) (f) (nI ((apn a f) + (1)))))) (f) (nI (1)))) Z Y (rfl) (by rw [spFetch_hit hw2 hfo13]; exact ⟨rfl, hg, hN1, Rp_pin f hR.2.2.1, Iv_pin hf13 (by rw [hp13]; exact nI_ne_m1 (show q13 < 2 ^ 31 by omega)) hR.2.2.2⟩) dX1_fetch_109
    · refine lv_istore_n (lv' := [(2, .int ((-5))), (0, .ref (ga0 g)), (1, .int (nI (q)))]) hx hb dX1_fetch_16 rfl hl (by decide) rfl (fun ls hl => ?_)
      refine lv_iload_n hx hb dX1_fetch_17 rfl (lv_at hl 0 rfl) ?_
      refine lv_bipush (v := (-5)) hx hb dX1_fetch_18 (by decide) ?_
      refine lv_icmp_ne (tgt := 91) hx hb dX1_fetch_20 (by decide) (fun c20 => absurd (rfl) c20) (fun _ => ?_)
      refine lv_aload_n hx hb dX1_fetch_23 rfl (lv_at hl 1 rfl) ?_
      refine z_callI (rest := []) Z Y rfl (kX1_find l dC dI hR hM) (cwV 0 hts gX1_fetch_X1_find rfl rfl rfl (by decide +kernel) ⟨Nat.le_of_ble_eq_true rfl, Nat.le_of_ble_eq_true rfl⟩) rfl hl.1 rfl (Nat.le_of_ble_eq_true rfl) dX1_fetch_24 ⟨Nat.zero_le _, Nat.zero_le _⟩ (fun r24 u24 Hq lq hw Y => ?_)
      obtain ⟨hw1, hR24⟩ := hw
      rcases hsf : (spFind g a).2 with _ | f
      · obtain rfl : r24 = -5 := by rw [hw1, hsf]; rfl
        refine lv_istore_n (lv' := [(2, .int ((-5))), (0, .ref (ga0 g)), (1, .int (nI (q)))]) hx hb dX1_fetch_27 rfl hl (by decide) rfl (fun ls hl => ?_)
        refine lv_iload_n hx hb dX1_fetch_28 rfl (lv_at hl 0 rfl) ?_
        refine lv_bipush (v := (-5)) hx hb dX1_fetch_29 (by decide) ?_
        refine lv_icmp_ne (tgt := 36) hx hb dX1_fetch_31 (by decide) (fun c31 => absurd (rfl) c31) (fun _ => ?_)
        refine lv_iconst (v := (-1)) hx hb dX1_fetch_34 (by decide) ?_
        exact z_ret (v := (-1)) (u := u24) Z Y (rfl) (by rw [spFetch_all hw2 hfo13 hsf]; exact ⟨rfl, Rep_more hN1 hR24⟩) dX1_fetch_35
      · obtain rfl : r24 = nI f := by rw [hw1, hsf]; rfl
        obtain ⟨hno, hfl⟩ := spFind_ok (x := nI q) hg (nI_ne_m1 (show q < 2 ^ 31 by omega)) hR.2.2.2 (fop_no hfo13 hw2)
        have hf := hfl f hsf
        refine lv_istore_n (lv' := [(2, .int (nI (f))), (0, .ref (ga0 g)), (1, .int (nI (q)))]) hx hb dX1_fetch_27 rfl hl (by decide) rfl (fun ls hl => ?_)
        refine lv_iload_n hx hb dX1_fetch_28 rfl (lv_at hl 0 rfl) ?_
        refine lv_bipush (v := (-5)) hx hb dX1_fetch_29 (by decide) ?_
        refine lv_icmp_ne (tgt := 36) hx hb dX1_fetch_31 (by decide) (fun _ => ?_) (fun c31 => absurd c31 (nI_ne_m5 (show f < 2 ^ 31 by omega)))
        refine lv_iconst (v := nI (0)) hx hb dX1_fetch_36 (by decide) ?_
        refine lv_istore_n (lv' := [(3, .int (nI (0))), (2, .int (nI (f))), (0, .ref (ga0 g)), (1, .int (nI (q)))]) hx hb dX1_fetch_37 rfl hl (by decide) rfl (fun ls hl => ?_)
        have loop : ∀ (n k : Nat), k + n = geW g → ∀ (H : Heap) (locs : List Loc), zW dC dI 1 g A s.heap s (ps4 u24 (va_cpy (cs3 u24) (cs4 u24) (q * geS g) (f * geS g) k)) H locs → ∀ ls : Array Slot, lv_has ls 4 [(0, .ref (ga0 g)), (1, .int (nI (q))), (2, .int (nI (f))), (3, .int (nI (k)))] → W p l e ({ frames := 2, cells := 0, slots := 0, locals := 43 }) s m (Value.ref (ga0 g) :: [.int (nI (q))]).toArray below meth c H locs 0 0 (zQI below dC dI 1 g A (fun r u1 => r = (spFetch g a (nI q)).1 ∧ Rep g (N + 1) (spFetch g a (nI q)).2 u1) (Value.ref (ga0 g) :: [.int (nI (q))]).toArray s) (F0 m 38 ls []) := by
          intro n
          induction n with
          | zero =>
            intro k hkn Hq lq Y ls hl
            obtain rfl : k = geW g := hkn
            refine lv_iload_n hx hb dX1_fetch_38 rfl (lv_at hl 3 rfl) ?_
            refine lv_aload_n hx hb dX1_fetch_39 rfl (lv_at hl 0 rfl) ?_
            refine z_get (T := TX1) (v := .int (nI (geW g))) Z hin rfl Y 2 (by decide) L36 rfl rfl dX1_fetch_40 ?_
            refine lv_icmp_ge (tgt := 74) hx hb dX1_fetch_43 (by decide) (fun _ => ?_) (fun c43 => absurd ((nI_leI b3 (by omega)).mpr (by omega)) c43)
            refine lv_aload_n hx hb dX1_fetch_74 rfl (lv_at hl 0 rfl) ?_
            refine z_get (T := TX1) (v := .ref (ga5 g)) Z hin rfl Y 5 (by decide) L16 rfl rfl dX1_fetch_75 ?_
            refine lv_iload_n hx hb dX1_fetch_78 rfl (lv_at hl 2 rfl) ?_
            refine lv_iload_n hx hb dX1_fetch_79 rfl (lv_at hl 1 rfl) ?_
            refine z_st5 (x := nI (q)) Z Y (f) (rfl) (by omega) (by omega) dX1_fetch_80 (fun Hq lq Y => ?_)
            refine lv_aload_n hx hb dX1_fetch_81 rfl (lv_at hl 0 rfl) ?_
            refine lv_dup hx hb dX1_fetch_82 rfl ?_
            refine z_get (T := TX1) (v := .int (csr (ps5 (ps4 u24 (va_cpy (cs3 u24) (cs4 u24) (q * geS g) (f * geS g) (geW g))) (upd (cs5 (ps4 u24 (va_cpy (cs3 u24) (cs4 u24) (q * geS g) (f * geS g) (geW g)))) (f) (nI (q)))))) Z hin rfl Y 10 (by decide) L49 rfl rfl dX1_fetch_83 ?_
            refine lv_iconst (v := nI (1)) hx hb dX1_fetch_86 (by decide) ?_
            refine lv_iadd hx hb dX1_fetch_87 ?_
            refine z_putr (T := TX1) (v := (csr (ps5 (ps4 u24 (va_cpy (cs3 u24) (cs4 u24) (q * geS g) (f * geS g) (geW g))) (upd (cs5 (ps4 u24 (va_cpy (cs3 u24) (cs4 u24) (q * geS g) (f * geS g) (geW g)))) (f) (nI (q)))) + nI (1))) Z hin tyX1_ok nmX1 rfl Y L49 rfl rfl rfl dX1_fetch_88 (fun Hq lq Y => ?_)
            refine lv_aload_n hx hb dX1_fetch_91 rfl (lv_at hl 0 rfl) ?_
            refine z_get (T := TX1) (v := .ref (ga6 g)) Z hin rfl Y 6 (by decide) L19 rfl rfl dX1_fetch_92 ?_
            refine lv_iload_n hx hb dX1_fetch_95 rfl (lv_at hl 2 rfl) ?_
            refine lv_dup2_11 hx hb dX1_fetch_96 rfl rfl ?_
            refine z_ld6 Z Y (f) (rfl) (by omega) (by omega) dX1_fetch_97 ?_
            refine z_top (nI (apn (spFind g a).1 f)) (hR24.2.2.1.2.2.2.1 f hf) ?_
            refine lv_iconst (v := nI (1)) hx hb dX1_fetch_98 (by decide) ?_
            refine lv_iadd hx hb dX1_fetch_99 ?_
            refine z_top (nI ((apn (spFind g a).1 f) + (1))) (nI_add (apn (spFind g a).1 f) (1)) ?_
            refine z_st6 (x := nI ((apn (spFind g a).1 f) + (1))) Z Y (f) (rfl) (by omega) (by omega) dX1_fetch_100 (fun Hq lq Y => ?_)
            refine lv_aload_n hx hb dX1_fetch_101 rfl (lv_at hl 0 rfl) ?_
            refine z_get (T := TX1) (v := .ref (ga8 g)) Z hin rfl Y 8 (by decide) L26 rfl rfl dX1_fetch_102 ?_
            refine lv_iload_n hx hb dX1_fetch_105 rfl (lv_at hl 2 rfl) ?_
            refine lv_iconst (v := nI (1)) hx hb dX1_fetch_106 (by decide) ?_
            refine z_st8 (x := nI (1)) Z Y (f) (rfl) (by omega) (by omega) (by decide) dX1_fetch_107 (fun Hq lq Y => ?_)
            refine lv_iload_n hx hb dX1_fetch_108 rfl (lv_at hl 2 rfl) ?_
            exact z_ret (v := nI (f)) (u := ps8 (ps6 (psr (ps5 (ps4 u24 (va_cpy (cs3 u24) (cs4 u24) (q * geS g) (f * geS g) (geW g))) (upd (cs5 (ps4 u24 (va_cpy (cs3 u24) (cs4 u24) (q * geS g) (f * geS g) (geW g)))) (f) (nI (q)))) ((csr (ps5 (ps4 u24 (va_cpy (cs3 u24) (cs4 u24) (q * geS g) (f * geS g) (geW g))) (upd (cs5 (ps4 u24 (va_cpy (cs3 u24) (cs4 u24) (q * geS g) (f * geS g) (geW g)))) (f) (nI (q)))) + nI (1)))) (upd (cs6 (psr (ps5 (ps4 u24 (va_cpy (cs3 u24) (cs4 u24) (q * geS g) (f * geS g) (geW g))) (upd (cs5 (ps4 u24 (va_cpy (cs3 u24) (cs4 u24) (q * geS g) (f * geS g) (geW g)))) (f) (nI (q)))) ((csr (ps5 (ps4 u24 (va_cpy (cs3 u24) (cs4 u24) (q * geS g) (f * geS g) (geW g))) (upd (cs5 (ps4 u24 (va_cpy (cs3 u24) (cs4 u24) (q * geS g) (f * geS g) (geW g)))) (f) (nI (q)))) + nI (1))))) (f) (nI ((apn (spFind g a).1 f) + (1))))) (upd (cs8 (ps6 (psr (ps5 (ps4 u24 (va_cpy (cs3 u24) (cs4 u24) (q * geS g) (f * geS g) (geW g))) (upd (cs5 (ps4 u24 (va_cpy (cs3 u24) (cs4 u24) (q * geS g) (f * geS g) (geW g)))) (f) (nI (q)))) ((csr (ps5 (ps4 u24 (va_cpy (cs3 u24) (cs4 u24) (q * geS g) (f * geS g) (geW g))) (upd (cs5 (ps4 u24 (va_cpy (cs3 u24) (cs4 u24) (q * geS g) (f * geS g) (geW g)))) (f) (nI (q)))) + nI (1)))) (upd (cs6 (psr (ps5 (ps4 u24 (va_cpy (cs3 u24) (cs4 u24) (q * geS g) (f * geS g) (geW g))) (upd (cs5 (ps4 u24 (va_cpy (cs3 u24) (cs4 u24) (q * geS g) (f * geS g) (geW g)))) (f) (nI (q)))) ((csr (ps5 (ps4 u24 (va_cpy (cs3 u24) (cs4 u24) (q * geS g) (f * geS g) (geW g))) (upd (cs5 (ps4 u24 (va_cpy (cs3 u24) (cs4 u24) (q * geS g) (f * geS g) (geW g)))) (f) (nI (q)))) + nI (1))))) (f) (nI ((apn (spFind g a).1 f) + (1)))))) (f) (nI (1)))) Z Y (rfl) (by rw [spFetch_new (show q < 2 ^ 31 by omega) hw2 hfo13 hsf]; exact ⟨rfl, hg, hN1, Rp_pin f (Rp_read f hg hq hR24.2.2.1), Iv_pin hf (by show upd _ f _ f ≠ -1; rw [pk_us]; exact nI_ne_m1 (show q < 2 ^ 31 by omega)) (Iv_read hq b2 hno hR24.2.2.2)⟩) dX1_fetch_109
          | succ n ih =>
            intro k hkn Hq lq Y ls hl
            have hkW : k < geW g := by omega
            have e0 := cpy_step (f := cs3 u24) (g := cs4 u24) (sp := q * geS g) (dp := f * geS g) (n := k) rfl
            refine lv_iload_n hx hb dX1_fetch_38 rfl (lv_at hl 3 rfl) ?_
            refine lv_aload_n hx hb dX1_fetch_39 rfl (lv_at hl 0 rfl) ?_
            refine z_get (T := TX1) (v := .int (nI (geW g))) Z hin rfl Y 2 (by decide) L36 rfl rfl dX1_fetch_40 ?_
            refine lv_icmp_ge (tgt := 74) hx hb dX1_fetch_43 (by decide) (fun c43 => absurd c43 (fun z => absurd ((nI_leI b3 (by omega)).mp z) (by omega))) (fun _ => ?_)
            refine lv_aload_n hx hb dX1_fetch_46 rfl (lv_at hl 0 rfl) ?_
            refine z_get (T := TX1) (v := .ref (ga4 g)) Z hin rfl Y 4 (by decide) L13 rfl rfl dX1_fetch_47 ?_
            refine lv_bipush (v := nI (8)) hx hb dX1_fetch_50 (by decide) ?_
            refine lv_iload_n hx hb dX1_fetch_52 rfl (lv_at hl 2 rfl) ?_
            refine lv_imul hx hb dX1_fetch_53 ?_
            refine z_top (nI (f * geS g)) (m8 hM) ?_
            refine lv_iload_n hx hb dX1_fetch_54 rfl (lv_at hl 3 rfl) ?_
            refine lv_iadd hx hb dX1_fetch_55 ?_
            refine z_top (nI ((f * geS g) + (k))) (nI_add (f * geS g) (k)) ?_
            refine lv_aload_n hx hb dX1_fetch_56 rfl (lv_at hl 0 rfl) ?_
            refine z_get (T := TX1) (v := .ref (ga3 g)) Z hin rfl Y 3 (by decide) L7 rfl rfl dX1_fetch_57 ?_
            refine lv_bipush (v := nI (8)) hx hb dX1_fetch_60 (by decide) ?_
            refine lv_iload_n hx hb dX1_fetch_62 rfl (lv_at hl 1 rfl) ?_
            refine lv_imul hx hb dX1_fetch_63 ?_
            refine z_top (nI (q * geS g)) (m8 hM) ?_
            refine lv_iload_n hx hb dX1_fetch_64 rfl (lv_at hl 3 rfl) ?_
            refine lv_iadd hx hb dX1_fetch_65 ?_
            refine z_top (nI ((q * geS g) + (k))) (nI_add (q * geS g) (k)) ?_
            refine z_ld3 Z Y ((q * geS g) + (k)) (rfl) (lt3 hg hq hkW rfl) (by omega) dX1_fetch_66 ?_
            refine z_st4 (x := cs3 (ps4 u24 (va_cpy (cs3 u24) (cs4 u24) (q * geS g) (f * geS g) k)) ((q * geS g) + (k))) Z Y ((f * geS g) + (k)) (rfl) (lt4 hg hf hkW rfl) (by omega) dX1_fetch_67 (fun Hq lq Y => ?_)
            refine lv_iinc (v := nI (k + 1)) (lv' := [(3, .int (nI (k + 1))), (0, .ref (ga0 g)), (1, .int (nI (q))), (2, .int (nI (f)))]) hx hb dX1_fetch_68 hl (k := 3) rfl (nI_add (k) 1) (by decide) rfl (fun ls hl => ?_)
            refine lv_goto (tgt := 38) hx hb dX1_fetch_71 (by decide) ?_
            exact ih (k + 1) (by omega) _ _ (by rw [← e0]; exact Y) ls (lv_sub hl [1, 2, 3, 0] rfl)
        exact loop (geW g) 0 (by omega) _ _ (by rw [cpy_0]; exact Y) ls (lv_sub hl [2, 3, 1, 0] rfl)
  · refine lv_if_ne (tgt := 11) hx hb dX1_fetch_5 (by decide) (fun c5 => absurd (by decide) c5) (fun _ => ?_)
    refine lv_bipush (v := (-2)) hx hb dX1_fetch_8 (by decide) ?_
    exact z_ret (v := (-2)) (u := u) Z Y (rfl) (by rw [spFetch_bad hw2]; exact ⟨rfl, Rep_more hN1 hR⟩) dX1_fetch_10

set_option maxHeartbeats 4000000 in
set_option maxRecDepth 100000 in
theorem kX1_unpin (l : Launch) (dC : Nat → ClassId) (dI : Nat → Nat → Nat) {g : GE} {N : Nat} {a : AS} {u : CS} (hR : Rep g N a u) (x : Int32) : zMI l yX1_unpin wsX1_unpin ({ frames := 1, cells := 0, slots := 0, locals := 21 }) dC dI 1 g u [.int (x)] (fun r u1 => r = (spUnpin g a x).1 ∧ Rep g N (spUnpin g a x).2 u1) := by
  refine zMI_of (cc := cX1_unpin) (maxL := 2) (ret := (some .int)) (by decide) rfl (Nat.le_of_ble_eq_true rfl) ?_
  intro p e s m below meth c A ls Z Y hl
  have hin : ∀ w ∈ wsX10, w ∈ wsX1_unpin := fun w h => List.mem_cons_of_mem _ (List.mem_append_right _ h)
  obtain ⟨hx, hb, hml, hown, hts, hr, hlk⟩ := id Z
  have L19 := hts (.fieldLink RX1 19 "FramePoolModel" "pins" "[I") (by decide +kernel)
  have hl : lv_has ls 2 [(0, .ref (ga0 g)), (1, .int (x))] := hl
  have hg := hR.1
  have hN := hR.2.1
  obtain ⟨b1, b2, b3, b4, b5, b6, b7⟩ := gokB hg
  obtain ⟨r3, r4, r5, r6, r7, r8, r9, r10, r11⟩ := id hR.2.2.1
  obtain ⟨i1, i2, i3, i4, i5⟩ := id hR.2.2.2
  refine lv_aload_n hx hb dX1_unpin_0 rfl (lv_at hl 0 rfl) ?_
  refine lv_iload_n hx hb dX1_unpin_1 rfl (lv_at hl 1 rfl) ?_
  refine z_callI (rest := []) Z Y rfl (kX1_isPinned l dC dI hR x) (cwV 1 hts gX1_unpin_X1_isPinned rfl rfl rfl (by decide +kernel) ⟨Nat.le_of_ble_eq_true rfl, Nat.le_of_ble_eq_true rfl⟩) rfl hl.1 rfl (Nat.le_of_ble_eq_true rfl) dX1_unpin_2 ⟨Nat.zero_le _, Nat.zero_le _⟩ (fun r2 u2 Hq lq hw Y => ?_)
  obtain ⟨rfl, hw⟩ := hw
  rcases hw with ⟨rfl, hw2⟩ | ⟨rfl, hw2⟩
  · obtain ⟨hv2, hw0⟩ := hw2
    obtain ⟨k, hk, rfl⟩ := vp_in_of hv2 b1
    rw [nI_clamp (show k < 2 ^ 31 by omega)] at hw0
    refine lv_if_ne (tgt := 11) hx hb dX1_unpin_5 (by decide) (fun _ => ?_) (fun c5 => absurd c5 (by decide))
    refine lv_aload_n hx hb dX1_unpin_11 rfl (lv_at hl 0 rfl) ?_
    refine z_get (T := TX1) (v := .ref (ga6 g)) Z hin rfl Y 6 (by decide) L19 rfl rfl dX1_unpin_12 ?_
    refine lv_iload_n hx hb dX1_unpin_15 rfl (lv_at hl 1 rfl) ?_
    refine lv_dup2_11 hx hb dX1_unpin_16 rfl rfl ?_
    refine z_ld6 Z Y (k) (rfl) (by omega) (by omega) dX1_unpin_17 ?_
    refine z_top (nI (apn a k)) (r6 k hk) ?_
    refine lv_iconst (v := nI (1)) hx hb dX1_unpin_18 (by decide) ?_
    refine lv_isub hx hb dX1_unpin_19 ?_
    refine z_top (nI (apn a k - 1)) (pk_sub hw0) ?_
    refine z_st6 (x := nI (apn a k - 1)) Z Y (k) (rfl) (by omega) (by omega) dX1_unpin_20 (fun Hq lq Y => ?_)
    refine lv_aload_n hx hb dX1_unpin_21 rfl (lv_at hl 0 rfl) ?_
    refine z_get (T := TX1) (v := .ref (ga6 g)) Z hin rfl Y 6 (by decide) L19 rfl rfl dX1_unpin_22 ?_
    refine lv_iload_n hx hb dX1_unpin_25 rfl (lv_at hl 1 rfl) ?_
    refine z_ld6 Z Y (k) (rfl) (by omega) (by omega) dX1_unpin_26 ?_
    refine z_top (nI (apn a k - 1)) (pk_us) ?_
    exact z_ret (v := nI (apn a k - 1)) (u := ps6 (u) (upd (cs6 (u)) (k) (nI (apn a k - 1)))) Z Y (rfl) (by rw [spUnpin_t (show k < 2 ^ 31 by omega) hv2 hw0]; exact ⟨rfl, hg, hN, Rp_unpin k hR.2.2.1, Iv_unpin hk hR.2.2.2⟩) dX1_unpin_27
  · refine lv_if_ne (tgt := 11) hx hb dX1_unpin_5 (by decide) (fun c5 => absurd (by decide) c5) (fun _ => ?_)
    refine lv_bipush (v := (-3)) hx hb dX1_unpin_8 (by decide) ?_
    exact z_ret (v := (-3)) (u := u) Z Y (rfl) (by rw [spUnpin_f hw2]; exact ⟨rfl, hR⟩) dX1_unpin_10

set_option maxHeartbeats 4000000 in
set_option maxRecDepth 100000 in
theorem kX1_writeWord (l : Launch) (dC : Nat → ClassId) (dI : Nat → Nat → Nat) {g : GE} {N : Nat} {a : AS} {u : CS} (hR : Rep g N a u) (hM : geS g = 8) (x y v : Int32) : zMI l yX1_writeWord wsX1_writeWord ({ frames := 1, cells := 0, slots := 0, locals := 21 }) dC dI 1 g u [.int (x), .int (y), .int (v)] (fun r u1 => r = (spWriteW g a x y v).1 ∧ Rep g N (spWriteW g a x y v).2 u1) := by
  refine zMI_of (cc := cX1_writeWord) (maxL := 4) (ret := (some .int)) (by decide) rfl (Nat.le_of_ble_eq_true rfl) ?_
  intro p e s m below meth c A ls Z Y hl
  have hin : ∀ w ∈ wsX10, w ∈ wsX1_writeWord := fun w h => List.mem_cons_of_mem _ (List.mem_append_right _ h)
  obtain ⟨hx, hb, hml, hown, hts, hr, hlk⟩ := id Z
  have L13 := hts (.fieldLink RX1 13 "FramePoolModel" "memory" "[I") (by decide +kernel)
  have L22 := hts (.fieldLink RX1 22 "FramePoolModel" "dirty" "[Z") (by decide +kernel)
  have L36 := hts (.fieldLink RX1 36 "FramePoolModel" "words" "I") (by decide +kernel)
  have hl : lv_has ls 4 [(0, .ref (ga0 g)), (1, .int (x)), (2, .int (y)), (3, .int (v))] := hl
  have hg := hR.1
  have hN := hR.2.1
  obtain ⟨b1, b2, b3, b4, b5, b6, b7⟩ := gokB hg
  obtain ⟨r3, r4, r5, r6, r7, r8, r9, r10, r11⟩ := id hR.2.2.1
  obtain ⟨i1, i2, i3, i4, i5⟩ := id hR.2.2.2
  refine lv_aload_n hx hb dX1_writeWord_0 rfl (lv_at hl 0 rfl) ?_
  refine lv_iload_n hx hb dX1_writeWord_1 rfl (lv_at hl 1 rfl) ?_
  refine z_callI (rest := []) Z Y rfl (kX1_isPinned l dC dI hR x) (cwV 1 hts gX1_writeWord_X1_isPinned rfl rfl rfl (by decide +kernel) ⟨Nat.le_of_ble_eq_true rfl, Nat.le_of_ble_eq_true rfl⟩) rfl hl.1 rfl (Nat.le_of_ble_eq_true rfl) dX1_writeWord_2 ⟨Nat.zero_le _, Nat.zero_le _⟩ (fun r2 u2 Hq lq hw Y => ?_)
  obtain ⟨rfl, hw⟩ := hw
  rcases hw with ⟨rfl, hw2⟩ | ⟨rfl, hw2⟩
  · refine lv_if_ne (tgt := 11) hx hb dX1_writeWord_5 (by decide) (fun _ => ?_) (fun c5 => absurd c5 (by decide))
    refine lv_iload_n hx hb dX1_writeWord_11 rfl (lv_at hl 2 rfl) ?_
    refine lv_if_lt (tgt := 23) hx hb dX1_writeWord_12 (by decide) (fun c12 => ?_) (fun c12 => ?_)
    · refine lv_bipush (v := (-4)) hx hb dX1_writeWord_23 (by decide) ?_
      exact z_ret (v := (-4)) (u := u) Z Y (rfl) (by rw [spWriteW_o hw2 (not_in_neg c12)]; exact ⟨rfl, hR⟩) dX1_writeWord_25
    · refine lv_iload_n hx hb dX1_writeWord_15 rfl (lv_at hl 2 rfl) ?_
      refine lv_aload_n hx hb dX1_writeWord_16 rfl (lv_at hl 0 rfl) ?_
      refine z_get (T := TX1) (v := .int (nI (geW g))) Z hin rfl Y 2 (by decide) L36 rfl rfl dX1_writeWord_17 ?_
      refine lv_icmp_lt (tgt := 26) hx hb dX1_writeWord_20 (by decide) (fun c20 => ?_) (fun c20 => ?_)
      · obtain ⟨hv2, hw0⟩ := hw2
        obtain ⟨k, hk, rfl⟩ := vp_in_of hv2 b1
        rw [nI_clamp (show k < 2 ^ 31 by omega)] at hw0
        have hwj := (in_iff b3).mpr ⟨i_le_of c12, c20⟩
        obtain ⟨j, hj, rfl⟩ := vp_in_of hwj b3
        refine lv_aload_n hx hb dX1_writeWord_26 rfl (lv_at hl 0 rfl) ?_
        refine z_get (T := TX1) (v := .ref (ga4 g)) Z hin rfl Y 4 (by decide) L13 rfl rfl dX1_writeWord_27 ?_
        refine lv_bipush (v := nI (8)) hx hb dX1_writeWord_30 (by decide) ?_
        refine lv_iload_n hx hb dX1_writeWord_32 rfl (lv_at hl 1 rfl) ?_
        refine lv_imul hx hb dX1_writeWord_33 ?_
        refine z_top (nI (k * geS g)) (m8 hM) ?_
        refine lv_iload_n hx hb dX1_writeWord_34 rfl (lv_at hl 2 rfl) ?_
        refine lv_iadd hx hb dX1_writeWord_35 ?_
        refine z_top (nI ((k * geS g) + (j))) (nI_add (k * geS g) (j)) ?_
        refine lv_iload_n hx hb dX1_writeWord_36 rfl (lv_at hl 3 rfl) ?_
        refine z_st4 (x := v) Z Y ((k * geS g) + (j)) (rfl) (lt4 hg hk hj rfl) (by omega) dX1_writeWord_37 (fun Hq lq Y => ?_)
        refine lv_aload_n hx hb dX1_writeWord_38 rfl (lv_at hl 0 rfl) ?_
        refine z_get (T := TX1) (v := .ref (ga7 g)) Z hin rfl Y 7 (by decide) L22 rfl rfl dX1_writeWord_39 ?_
        refine lv_iload_n hx hb dX1_writeWord_42 rfl (lv_at hl 1 rfl) ?_
        refine lv_iconst (v := nI (1)) hx hb dX1_writeWord_43 (by decide) ?_
        refine z_st7 (x := nI (1)) Z Y (k) (rfl) (by omega) (by omega) (by decide) dX1_writeWord_44 (fun Hq lq Y => ?_)
        refine lv_iconst (v := nI (0)) hx hb dX1_writeWord_45 (by decide) ?_
        exact z_ret (v := nI (0)) (u := ps7 (ps4 (u) (upd (cs4 (u)) ((k * geS g) + (j)) (v))) (upd (cs7 (ps4 (u) (upd (cs4 (u)) ((k * geS g) + (j)) (v)))) (k) (nI (1)))) Z Y (rfl) (by rw [spWriteW_t (show k < 2 ^ 31 by omega) (show j < 2 ^ 31 by omega) hv2 hw0 hwj]; exact ⟨rfl, hg, hN, Rp_word k v hg hj hR.2.2.1, Iv_row _ (pn_pg hR.2.2.2 hk hw0) hR.2.2.2⟩) dX1_writeWord_46
      · refine lv_bipush (v := (-4)) hx hb dX1_writeWord_23 (by decide) ?_
        exact z_ret (v := (-4)) (u := u) Z Y (rfl) (by rw [spWriteW_o hw2 (not_in_ge b3 (i_le_of c20))]; exact ⟨rfl, hR⟩) dX1_writeWord_25
  · refine lv_if_ne (tgt := 11) hx hb dX1_writeWord_5 (by decide) (fun c5 => absurd (by decide) c5) (fun _ => ?_)
    refine lv_bipush (v := (-3)) hx hb dX1_writeWord_8 (by decide) ?_
    exact z_ret (v := (-3)) (u := u) Z Y (rfl) (by rw [spWriteW_f hw2]; exact ⟨rfl, hR⟩) dX1_writeWord_10

set_option maxHeartbeats 4000000 in
set_option maxRecDepth 100000 in
theorem kX1_flush (l : Launch) (dC : Nat → ClassId) (dI : Nat → Nat → Nat) {g : GE} {N : Nat} {a : AS} {u : CS} (hR : Rep g N a u) (hM : geS g = 8) (x : Int32) : zMI l yX1_flush wsX1_flush ({ frames := 1, cells := 0, slots := 0, locals := 22 }) dC dI 1 g u [.int (x)] (fun r u1 => r = (spFlush g a x).1 ∧ Rep g N (spFlush g a x).2 u1) := by
  refine zMI_of (cc := cX1_flush) (maxL := 3) (ret := (some .int)) (by decide) rfl (Nat.le_of_ble_eq_true rfl) ?_
  intro p e s m below meth c A ls Z Y hl
  have hin : ∀ w ∈ wsX10, w ∈ wsX1_flush := fun w h => List.mem_cons_of_mem _ (List.mem_append_right _ h)
  obtain ⟨hx, hb, hml, hown, hts, hr, hlk⟩ := id Z
  have L22 := hts (.fieldLink RX1 22 "FramePoolModel" "dirty" "[Z") (by decide +kernel)
  have hl : lv_has ls 3 [(0, .ref (ga0 g)), (1, .int (x))] := hl
  have hg := hR.1
  have hN := hR.2.1
  obtain ⟨b1, b2, b3, b4, b5, b6, b7⟩ := gokB hg
  obtain ⟨r3, r4, r5, r6, r7, r8, r9, r10, r11⟩ := id hR.2.2.1
  obtain ⟨i1, i2, i3, i4, i5⟩ := id hR.2.2.2
  refine lv_aload_n hx hb dX1_flush_0 rfl (lv_at hl 0 rfl) ?_
  refine lv_iload_n hx hb dX1_flush_1 rfl (lv_at hl 1 rfl) ?_
  refine z_callI (rest := []) Z Y rfl (kX1_frameOf l dC dI hR x) (cwV 1 hts gX1_flush_X1_frameOf rfl rfl rfl (by decide +kernel) ⟨Nat.le_of_ble_eq_true rfl, Nat.le_of_ble_eq_true rfl⟩) rfl hl.1 rfl (Nat.le_of_ble_eq_true rfl) dX1_flush_2 ⟨Nat.zero_le _, Nat.zero_le _⟩ (fun r2 u2 Hq lq hw Y => ?_)
  obtain ⟨rfl, hw⟩ := hw
  rcases hw with ⟨f, q, hf, hq, hxq, rfl, hp, hfo⟩ | ⟨rfl, hfo⟩
  · refine lv_istore_n (lv' := [(2, .int (nI (f))), (0, .ref (ga0 g)), (1, .int (x))]) hx hb dX1_flush_5 rfl hl (by decide) rfl (fun ls hl => ?_)
    refine lv_iload_n hx hb dX1_flush_6 rfl (lv_at hl 0 rfl) ?_
    refine lv_bipush (v := (-5)) hx hb dX1_flush_7 (by decide) ?_
    refine lv_icmp_eq (tgt := 21) hx hb dX1_flush_9 (by decide) (fun c9 => absurd c9 (nI_ne_m5 (show f < 2 ^ 31 by omega))) (fun _ => ?_)
    refine lv_aload_n hx hb dX1_flush_12 rfl (lv_at hl 1 rfl) ?_
    refine z_get (T := TX1) (v := .ref (ga7 g)) Z hin rfl Y 7 (by decide) L22 rfl rfl dX1_flush_13 ?_
    refine lv_iload_n hx hb dX1_flush_16 rfl (lv_at hl 0 rfl) ?_
    refine z_ld7 Z Y (f) (rfl) (by omega) (by omega) dX1_flush_17 ?_
    refine z_top (adt a f) (r7 f hf) ?_
    refine lv_if_ne (tgt := 23) hx hb dX1_flush_18 (by decide) (fun c18 => ?_) (fun c18 => ?_)
    · refine lv_aload_n hx hb dX1_flush_23 rfl (lv_at hl 1 rfl) ?_
      refine lv_iload_n hx hb dX1_flush_24 rfl (lv_at hl 0 rfl) ?_
      refine z_callV (rest := []) Z Y rfl (kX1_store l dC dI hR hM hf hq hp) (cwV 1 hts gX1_flush_X1_store rfl rfl rfl (by decide +kernel) ⟨Nat.le_of_ble_eq_true rfl, Nat.le_of_ble_eq_true rfl⟩) rfl hl.1 rfl (Nat.le_of_ble_eq_true rfl) dX1_flush_25 ⟨Nat.zero_le _, Nat.zero_le _⟩ (fun u25 Hq lq hw Y => ?_)
      refine lv_iconst (v := nI (1)) hx hb dX1_flush_28 (by decide) ?_
      exact z_ret (v := nI (1)) (u := u25) Z Y (rfl) (by rw [spFlush_1 (show q < 2 ^ 31 by omega) hfo c18 hp]; exact ⟨rfl, hw⟩) dX1_flush_29
    · refine lv_iconst (v := nI (0)) hx hb dX1_flush_21 (by decide) ?_
      exact z_ret (v := nI (0)) (u := u) Z Y (rfl) (by rw [spFlush_0 hfo c18]; exact ⟨rfl, hR⟩) dX1_flush_22
  · refine lv_istore_n (lv' := [(2, .int ((-5))), (0, .ref (ga0 g)), (1, .int (x))]) hx hb dX1_flush_5 rfl hl (by decide) rfl (fun ls hl => ?_)
    refine lv_iload_n hx hb dX1_flush_6 rfl (lv_at hl 0 rfl) ?_
    refine lv_bipush (v := (-5)) hx hb dX1_flush_7 (by decide) ?_
    refine lv_icmp_eq (tgt := 21) hx hb dX1_flush_9 (by decide) (fun _ => ?_) (fun c9 => absurd (rfl) c9)
    refine lv_iconst (v := nI (0)) hx hb dX1_flush_21 (by decide) ?_
    exact z_ret (v := nI (0)) (u := u) Z Y (rfl) (by rw [spFlush_no hfo]; exact ⟨rfl, hR⟩) dX1_flush_22

set_option maxHeartbeats 4000000 in
set_option maxRecDepth 100000 in
theorem kX1_drop (l : Launch) (dC : Nat → ClassId) (dI : Nat → Nat → Nat) {g : GE} {N : Nat} {a : AS} {u : CS} (hR : Rep g N a u) (x : Int32) : zMI l yX1_drop wsX1_drop ({ frames := 1, cells := 0, slots := 0, locals := 22 }) dC dI 1 g u [.int (x)] (fun r u1 => r = (spDrop g a x).1 ∧ Rep g N (spDrop g a x).2 u1) := by
  refine zMI_of (cc := cX1_drop) (maxL := 3) (ret := (some .boolean)) (by decide) rfl (Nat.le_of_ble_eq_true rfl) ?_
  intro p e s m below meth c A ls Z Y hl
  have hin : ∀ w ∈ wsX10, w ∈ wsX1_drop := fun w h => List.mem_cons_of_mem _ (List.mem_append_right _ h)
  obtain ⟨hx, hb, hml, hown, hts, hr, hlk⟩ := id Z
  have L19 := hts (.fieldLink RX1 19 "FramePoolModel" "pins" "[I") (by decide +kernel)
  have hl : lv_has ls 3 [(0, .ref (ga0 g)), (1, .int (x))] := hl
  have hg := hR.1
  have hN := hR.2.1
  obtain ⟨b1, b2, b3, b4, b5, b6, b7⟩ := gokB hg
  obtain ⟨r3, r4, r5, r6, r7, r8, r9, r10, r11⟩ := id hR.2.2.1
  obtain ⟨i1, i2, i3, i4, i5⟩ := id hR.2.2.2
  refine lv_aload_n hx hb dX1_drop_0 rfl (lv_at hl 0 rfl) ?_
  refine lv_iload_n hx hb dX1_drop_1 rfl (lv_at hl 1 rfl) ?_
  refine z_callI (rest := []) Z Y rfl (kX1_frameOf l dC dI hR x) (cwV 1 hts gX1_drop_X1_frameOf rfl rfl rfl (by decide +kernel) ⟨Nat.le_of_ble_eq_true rfl, Nat.le_of_ble_eq_true rfl⟩) rfl hl.1 rfl (Nat.le_of_ble_eq_true rfl) dX1_drop_2 ⟨Nat.zero_le _, Nat.zero_le _⟩ (fun r2 u2 Hq lq hw Y => ?_)
  obtain ⟨rfl, hw⟩ := hw
  rcases hw with ⟨f, q, hf, hq, hxq, rfl, hp, hfo⟩ | ⟨rfl, hfo⟩
  · refine lv_istore_n (lv' := [(2, .int (nI (f))), (0, .ref (ga0 g)), (1, .int (x))]) hx hb dX1_drop_5 rfl hl (by decide) rfl (fun ls hl => ?_)
    refine lv_iload_n hx hb dX1_drop_6 rfl (lv_at hl 0 rfl) ?_
    refine lv_bipush (v := (-5)) hx hb dX1_drop_7 (by decide) ?_
    refine lv_icmp_eq (tgt := 21) hx hb dX1_drop_9 (by decide) (fun c9 => absurd c9 (nI_ne_m5 (show f < 2 ^ 31 by omega))) (fun _ => ?_)
    refine lv_aload_n hx hb dX1_drop_12 rfl (lv_at hl 1 rfl) ?_
    refine z_get (T := TX1) (v := .ref (ga6 g)) Z hin rfl Y 6 (by decide) L19 rfl rfl dX1_drop_13 ?_
    refine lv_iload_n hx hb dX1_drop_16 rfl (lv_at hl 0 rfl) ?_
    refine z_ld6 Z Y (f) (rfl) (by omega) (by omega) dX1_drop_17 ?_
    refine z_top (nI (apn a f)) (r6 f hf) ?_
    have hb6 : apn a f < 2 ^ 31 := by have := pn31 hR hf; omega
    refine lv_if_le (tgt := 23) hx hb dX1_drop_18 (by decide) (fun c18 => ?_) (fun c18 => ?_)
    · refine lv_aload_n hx hb dX1_drop_23 rfl (lv_at hl 1 rfl) ?_
      refine lv_iload_n hx hb dX1_drop_24 rfl (lv_at hl 0 rfl) ?_
      refine z_callV (rest := []) Z Y rfl (kX1_empty l dC dI hg u (show f < gn5 g by omega)) (cwV 1 hts gX1_drop_X1_empty rfl rfl rfl (by decide +kernel) ⟨Nat.le_of_ble_eq_true rfl, Nat.le_of_ble_eq_true rfl⟩) rfl hl.1 rfl (Nat.le_of_ble_eq_true rfl) dX1_drop_25 ⟨Nat.zero_le _, Nat.zero_le _⟩ (fun u25 Hq lq hw Y => ?_)
      subst hw
      refine lv_iconst (v := nI (1)) hx hb dX1_drop_28 (by decide) ?_
      exact z_ret (v := nI (1)) (u := (cs3 u, cs4 u, upd (cs5 u) f (-1), upd (cs6 u) f (nI 0), upd (cs7 u) f (nI 0), upd (cs8 u) f (nI 0), csh u, csr u, csw u)) Z Y (rfl) (by rw [spDrop_1 hfo (by have := (nI_le0 hb6).mp c18; omega)]; exact ⟨rfl, hg, hN, Rp_empty f hR.2.2.1, Iv_empty f hR.2.2.2⟩) dX1_drop_29
    · refine lv_iconst (v := nI (0)) hx hb dX1_drop_21 (by decide) ?_
      exact z_ret (v := nI (0)) (u := u) Z Y (rfl) (by rw [spDrop_0 hfo (Nat.pos_of_ne_zero (fun z => c18 ((nI_le0 hb6).mpr z)))]; exact ⟨rfl, hR⟩) dX1_drop_22
  · refine lv_istore_n (lv' := [(2, .int ((-5))), (0, .ref (ga0 g)), (1, .int (x))]) hx hb dX1_drop_5 rfl hl (by decide) rfl (fun ls hl => ?_)
    refine lv_iload_n hx hb dX1_drop_6 rfl (lv_at hl 0 rfl) ?_
    refine lv_bipush (v := (-5)) hx hb dX1_drop_7 (by decide) ?_
    refine lv_icmp_eq (tgt := 21) hx hb dX1_drop_9 (by decide) (fun _ => ?_) (fun c9 => absurd (rfl) c9)
    refine lv_iconst (v := nI (0)) hx hb dX1_drop_21 (by decide) ?_
    exact z_ret (v := nI (0)) (u := u) Z Y (rfl) (by rw [spDrop_no hfo]; exact ⟨rfl, hR⟩) dX1_drop_22

set_option maxHeartbeats 4000000 in
set_option maxRecDepth 100000 in
theorem kX1_flushAll (l : Launch) (dC : Nat → ClassId) (dI : Nat → Nat → Nat) {g : GE} {N : Nat} {a : AS} {u : CS} (hR : Rep g N a u) (hM : geS g = 8) : zMI l yX1_flushAll wsX1_flushAll ({ frames := 2, cells := 0, slots := 0, locals := 44 }) dC dI 1 g u [] (fun r u1 => r = nI (faN (geF g) 0 0 a).1 ∧ Rep g N (faN (geF g) 0 0 a).2 u1) := by
  refine zMI_of (cc := cX1_flushAll) (maxL := 3) (ret := (some .int)) (by decide) rfl (Nat.le_of_ble_eq_true rfl) ?_
  intro p e s m below meth c A ls Z Y hl
  have hin : ∀ w ∈ wsX10, w ∈ wsX1_flushAll := fun w h => List.mem_cons_of_mem _ (List.mem_append_right _ h)
  obtain ⟨hx, hb, hml, hown, hts, hr, hlk⟩ := id Z
  have L16 := hts (.fieldLink RX1 16 "FramePoolModel" "page" "[I") (by decide +kernel)
  have L29 := hts (.fieldLink RX1 29 "FramePoolModel" "frames" "I") (by decide +kernel)
  have hl : lv_has ls 3 [(0, .ref (ga0 g))] := hl
  have hg := hR.1
  have hN := hR.2.1
  obtain ⟨b1, b2, b3, b4, b5, b6, b7⟩ := gokB hg
  obtain ⟨r3, r4, r5, r6, r7, r8, r9, r10, r11⟩ := id hR.2.2.1
  obtain ⟨i1, i2, i3, i4, i5⟩ := id hR.2.2.2
  have b8 : geF g ≤ 32 := hg.2.1
  have loop : ∀ (R0 : Nat × AS) (n k k1 : Nat) (a : AS) (u : CS), k + n = geF g → Rep g N a u → faN n k k1 a = R0 → ∀ (H : Heap) (locs : List Loc), zW dC dI 1 g A s.heap s (u) H locs → ∀ ls : Array Slot, lv_has ls 3 [(0, .ref (ga0 g)), (1, .int (nI (k1))), (2, .int (nI (k)))] → W p l e ({ frames := 2, cells := 0, slots := 0, locals := 44 }) s m (Value.ref (ga0 g) :: []).toArray below meth c H locs 0 0 (zQI below dC dI 1 g A (fun r u1 => r = nI R0.1 ∧ Rep g N R0.2 u1) (Value.ref (ga0 g) :: []).toArray s) (F0 m 4 ls []) := by
    intro R0 n
    induction n with
    | zero =>
      intro k k1 a u hkn hR hF0 Hq lq Y ls hl
      refine lv_iload_n hx hb dX1_flushAll_4 rfl (lv_at hl 2 rfl) ?_
      refine lv_aload_n hx hb dX1_flushAll_5 rfl (lv_at hl 0 rfl) ?_
      refine z_get (T := TX1) (v := .int (nI (geF g))) Z hin rfl Y 0 (by decide) L29 rfl rfl dX1_flushAll_6 ?_
      refine lv_icmp_ge (tgt := 45) hx hb dX1_flushAll_9 (by decide) (fun _ => ?_) (fun c9 => absurd ((nI_leI (by omega) (by omega)).mpr (by omega)) c9)
      refine lv_iload_n hx hb dX1_flushAll_45 rfl (lv_at hl 1 rfl) ?_
      exact z_ret (v := nI (k1)) (u := u) Z Y (rfl) (by rw [← hF0]; exact ⟨rfl, hR⟩) dX1_flushAll_46
    | succ n ih =>
      intro k k1 a u hkn hR hF0 Hq lq Y ls hl
      have hkF : k < geF g := by omega
      obtain ⟨r3, r4, r5, r6, r7, r8, r9, r10, r11⟩ := id hR.2.2.1
      obtain ⟨i1, i2, i3, i4, i5⟩ := id hR.2.2.2
      refine lv_iload_n hx hb dX1_flushAll_4 rfl (lv_at hl 2 rfl) ?_
      refine lv_aload_n hx hb dX1_flushAll_5 rfl (lv_at hl 0 rfl) ?_
      refine z_get (T := TX1) (v := .int (nI (geF g))) Z hin rfl Y 0 (by decide) L29 rfl rfl dX1_flushAll_6 ?_
      refine lv_icmp_ge (tgt := 45) hx hb dX1_flushAll_9 (by decide) (fun c9 => absurd c9 (fun z => absurd ((nI_leI (by omega) (by omega)).mp z) (by omega))) (fun _ => ?_)
      refine lv_iload_n hx hb dX1_flushAll_12 rfl (lv_at hl 1 rfl) ?_
      refine lv_aload_n hx hb dX1_flushAll_13 rfl (lv_at hl 0 rfl) ?_
      refine z_get (T := TX1) (v := .ref (ga5 g)) Z hin rfl Y 5 (by decide) L16 rfl rfl dX1_flushAll_14 ?_
      refine lv_iload_n hx hb dX1_flushAll_17 rfl (lv_at hl 2 rfl) ?_
      refine z_ld5 Z Y (k) (rfl) (by omega) (by omega) dX1_flushAll_18 ?_
      refine z_top (apg a k) (r5 k hkF) ?_
      refine lv_iconst (v := (-1)) hx hb dX1_flushAll_19 (by decide) ?_
      refine lv_icmp_ne (tgt := 27) hx hb dX1_flushAll_20 (by decide) (fun c20 => ?_) (fun c20 => ?_)
      · obtain ⟨q, hq, hpq⟩ : ∃ q, q < geP g ∧ apg a k = nI q := (i2 k hkF).resolve_left c20
        have hfo := fop_some hg hR.2.2.2 hkF hq hpq
        refine lv_aload_n hx hb dX1_flushAll_27 rfl (lv_at hl 0 rfl) ?_
        refine lv_aload_n hx hb dX1_flushAll_28 rfl (lv_at hl 0 rfl) ?_
        refine z_get (T := TX1) (v := .ref (ga5 g)) Z hin rfl Y 5 (by decide) L16 rfl rfl dX1_flushAll_29 ?_
        refine lv_iload_n hx hb dX1_flushAll_32 rfl (lv_at hl 2 rfl) ?_
        refine z_ld5 Z Y (k) (rfl) (by omega) (by omega) dX1_flushAll_33 ?_
        refine z_top (nI (q)) ((r5 k hkF).trans hpq) ?_
        refine z_callI (rest := [.int (nI (k1))]) Z Y rfl (kX1_flush l dC dI hR hM (nI q)) (cwV 1 hts gX1_flushAll_X1_flush rfl rfl rfl (by decide +kernel) ⟨Nat.le_of_ble_eq_true rfl, Nat.le_of_ble_eq_true rfl⟩) rfl hl.1 rfl (Nat.le_of_ble_eq_true rfl) dX1_flushAll_34 ⟨Nat.zero_le _, Nat.zero_le _⟩ (fun r34 u34 Hq lq hw Y => ?_)
        by_cases hd : adt a k = 0
        · rw [spFlush_0 hfo hd] at hw
          obtain ⟨rfl, hw⟩ := hw
          refine lv_iadd hx hb dX1_flushAll_37 ?_
          refine z_top (nI ((k1) + (0))) (nI_add (k1) (0)) ?_
          refine lv_istore_n (lv' := [(1, .int (nI ((k1) + (0)))), (0, .ref (ga0 g)), (2, .int (nI (k)))]) hx hb dX1_flushAll_38 rfl hl (by decide) rfl (fun ls hl => ?_)
          refine lv_iinc (v := nI (k + 1)) (lv' := [(2, .int (nI (k + 1))), (1, .int (nI ((k1) + (0)))), (0, .ref (ga0 g))]) hx hb dX1_flushAll_39 hl (k := 2) rfl (nI_add (k) 1) (by decide) rfl (fun ls hl => ?_)
          refine lv_goto (tgt := 4) hx hb dX1_flushAll_42 (by decide) ?_
          exact ih (k + 1) k1 a _ (by omega) hw (by rw [← hF0, faN_0 hd]) _ _ Y ls (lv_sub hl [2, 1, 0] rfl)
        · rw [spFlush_1 (show q < 2 ^ 31 by omega) hfo hd hpq] at hw
          obtain ⟨rfl, hw⟩ := hw
          refine lv_iadd hx hb dX1_flushAll_37 ?_
          refine z_top (nI ((k1) + (1))) (nI_add (k1) (1)) ?_
          refine lv_istore_n (lv' := [(1, .int (nI ((k1) + (1)))), (0, .ref (ga0 g)), (2, .int (nI (k)))]) hx hb dX1_flushAll_38 rfl hl (by decide) rfl (fun ls hl => ?_)
          refine lv_iinc (v := nI (k + 1)) (lv' := [(2, .int (nI (k + 1))), (1, .int (nI ((k1) + (1)))), (0, .ref (ga0 g))]) hx hb dX1_flushAll_39 hl (k := 2) rfl (nI_add (k) 1) (by decide) rfl (fun ls hl => ?_)
          refine lv_goto (tgt := 4) hx hb dX1_flushAll_42 (by decide) ?_
          exact ih (k + 1) (k1 + 1) _ _ (by omega) hw (by rw [← hF0, faN_1 (show q < 2 ^ 31 by omega) hd hpq]) _ _ Y ls (lv_sub hl [2, 1, 0] rfl)
      · refine lv_iconst (v := nI (0)) hx hb dX1_flushAll_23 (by decide) ?_
        refine lv_goto (tgt := 37) hx hb dX1_flushAll_24 (by decide) ?_
        refine lv_iadd hx hb dX1_flushAll_37 ?_
        refine z_top (nI ((k1) + (0))) (nI_add (k1) (0)) ?_
        refine lv_istore_n (lv' := [(1, .int (nI ((k1) + (0)))), (0, .ref (ga0 g)), (2, .int (nI (k)))]) hx hb dX1_flushAll_38 rfl hl (by decide) rfl (fun ls hl => ?_)
        refine lv_iinc (v := nI (k + 1)) (lv' := [(2, .int (nI (k + 1))), (1, .int (nI ((k1) + (0)))), (0, .ref (ga0 g))]) hx hb dX1_flushAll_39 hl (k := 2) rfl (nI_add (k) 1) (by decide) rfl (fun ls hl => ?_)
        refine lv_goto (tgt := 4) hx hb dX1_flushAll_42 (by decide) ?_
        exact ih (k + 1) k1 a u (by omega) hR (by rw [← hF0, faN_0 ((i4 k hkF c20).2.1.trans nI_0)]) _ _ Y ls (lv_sub hl [2, 1, 0] rfl)
  refine lv_iconst (v := nI (0)) hx hb dX1_flushAll_0 (by decide) ?_
  refine lv_istore_n (lv' := [(1, .int (nI (0))), (0, .ref (ga0 g))]) hx hb dX1_flushAll_1 rfl hl (by decide) rfl (fun ls hl => ?_)
  refine lv_iconst (v := nI (0)) hx hb dX1_flushAll_2 (by decide) ?_
  refine lv_istore_n (lv' := [(2, .int (nI (0))), (1, .int (nI (0))), (0, .ref (ga0 g))]) hx hb dX1_flushAll_3 rfl hl (by decide) rfl (fun ls hl => ?_)
  exact loop _ (geF g) 0 0 a u (by omega) hR rfl _ _ Y ls (lv_sub hl [2, 1, 0] rfl)

set_option maxHeartbeats 4000000 in
set_option maxRecDepth 100000 in
theorem kX1_copy (l : Launch) (dC : Nat → ClassId) (dI : Nat → Nat → Nat) {g : GE} {N : Nat} {a : AS} {u : CS} (hR : Rep g N a u) (hM : geS g = 8) (x y : Int32) : zMI l yX1_copy wsX1_copy ({ frames := 1, cells := 0, slots := 0, locals := 22 }) dC dI 1 g u [.int (x), .int (y)] (fun r u1 => r = (spCopy g a x y).1 ∧ Rep g N (spCopy g a x y).2 u1) := by
  refine zMI_of (cc := cX1_copy) (maxL := 6) (ret := (some .int)) (by decide) rfl (Nat.le_of_ble_eq_true rfl) ?_
  intro p e s m below meth c A ls Z Y hl
  have hin : ∀ w ∈ wsX10, w ∈ wsX1_copy := fun w h => List.mem_cons_of_mem _ (List.mem_append_right _ h)
  obtain ⟨hx, hb, hml, hown, hts, hr, hlk⟩ := id Z
  have L7 := hts (.fieldLink RX1 7 "FramePoolModel" "disk" "[I") (by decide +kernel)
  have L13 := hts (.fieldLink RX1 13 "FramePoolModel" "memory" "[I") (by decide +kernel)
  have L19 := hts (.fieldLink RX1 19 "FramePoolModel" "pins" "[I") (by decide +kernel)
  have L22 := hts (.fieldLink RX1 22 "FramePoolModel" "dirty" "[Z") (by decide +kernel)
  have L36 := hts (.fieldLink RX1 36 "FramePoolModel" "words" "I") (by decide +kernel)
  have hl : lv_has ls 6 [(0, .ref (ga0 g)), (1, .int (x)), (2, .int (y))] := hl
  have hg := hR.1
  have hN := hR.2.1
  obtain ⟨b1, b2, b3, b4, b5, b6, b7⟩ := gokB hg
  obtain ⟨r3, r4, r5, r6, r7, r8, r9, r10, r11⟩ := id hR.2.2.1
  obtain ⟨i1, i2, i3, i4, i5⟩ := id hR.2.2.2
  refine lv_aload_n hx hb dX1_copy_0 rfl (lv_at hl 0 rfl) ?_
  refine lv_iload_n hx hb dX1_copy_1 rfl (lv_at hl 1 rfl) ?_
  refine z_callI (rest := []) Z Y rfl (kX1_isPage l dC dI hg u x) (cwV 1 hts gX1_copy_X1_isPage rfl rfl rfl (by decide +kernel) ⟨Nat.le_of_ble_eq_true rfl, Nat.le_of_ble_eq_true rfl⟩) rfl hl.1 rfl (Nat.le_of_ble_eq_true rfl) dX1_copy_2 ⟨Nat.zero_le _, Nat.zero_le _⟩ (fun r2 u2 Hq lq hw Y => ?_)
  obtain ⟨rfl, hw⟩ := hw
  rcases hw with ⟨rfl, hw2⟩ | ⟨rfl, hw2⟩
  · refine lv_if_eq (tgt := 16) hx hb dX1_copy_5 (by decide) (fun c5 => absurd c5 (by decide)) (fun _ => ?_)
    refine lv_aload_n hx hb dX1_copy_8 rfl (lv_at hl 0 rfl) ?_
    refine lv_iload_n hx hb dX1_copy_9 rfl (lv_at hl 2 rfl) ?_
    refine z_callI (rest := []) Z Y rfl (kX1_isPage l dC dI hg u y) (cwV 1 hts gX1_copy_X1_isPage rfl rfl rfl (by decide +kernel) ⟨Nat.le_of_ble_eq_true rfl, Nat.le_of_ble_eq_true rfl⟩) rfl hl.1 rfl (Nat.le_of_ble_eq_true rfl) dX1_copy_10 ⟨Nat.zero_le _, Nat.zero_le _⟩ (fun r10 u10 Hq lq hw Y => ?_)
    obtain ⟨rfl, hw⟩ := hw
    rcases hw with ⟨rfl, hw10⟩ | ⟨rfl, hw10⟩
    · obtain ⟨q, hq, rfl⟩ := vp_in_of hw10 b2
      refine lv_if_ne (tgt := 19) hx hb dX1_copy_13 (by decide) (fun _ => ?_) (fun c13 => absurd c13 (by decide))
      refine lv_aload_n hx hb dX1_copy_19 rfl (lv_at hl 0 rfl) ?_
      refine lv_iload_n hx hb dX1_copy_20 rfl (lv_at hl 1 rfl) ?_
      refine z_callI (rest := []) Z Y rfl (kX1_frameOf l dC dI hR x) (cwV 1 hts gX1_copy_X1_frameOf rfl rfl rfl (by decide +kernel) ⟨Nat.le_of_ble_eq_true rfl, Nat.le_of_ble_eq_true rfl⟩) rfl hl.1 rfl (Nat.le_of_ble_eq_true rfl) dX1_copy_21 ⟨Nat.zero_le _, Nat.zero_le _⟩ (fun r21 u21 Hq lq hw Y => ?_)
      obtain ⟨rfl, hw⟩ := hw
      rcases hw with ⟨f, q21, hf21, hq21, hx21, rfl, hp21, hfo21⟩ | ⟨rfl, hfo21⟩
      · refine lv_istore_n (lv' := [(3, .int (nI (f))), (0, .ref (ga0 g)), (1, .int (x)), (2, .int (nI (q)))]) hx hb dX1_copy_24 rfl hl (by decide) rfl (fun ls hl => ?_)
        refine lv_iload_n hx hb dX1_copy_25 rfl (lv_at hl 0 rfl) ?_
        refine lv_bipush (v := (-5)) hx hb dX1_copy_26 (by decide) ?_
        refine lv_icmp_eq (tgt := 40) hx hb dX1_copy_28 (by decide) (fun c28 => absurd c28 (nI_ne_m5 (show f < 2 ^ 31 by omega))) (fun _ => ?_)
        refine lv_aload_n hx hb dX1_copy_31 rfl (lv_at hl 1 rfl) ?_
        refine z_get (T := TX1) (v := .ref (ga6 g)) Z hin rfl Y 6 (by decide) L19 rfl rfl dX1_copy_32 ?_
        refine lv_iload_n hx hb dX1_copy_35 rfl (lv_at hl 0 rfl) ?_
        refine z_ld6 Z Y (f) (rfl) (by omega) (by omega) dX1_copy_36 ?_
        refine z_top (nI (apn a f)) (r6 f hf21) ?_
        have hb6 : apn a f < 2 ^ 31 := by have := pn31 hR hf21; omega
        refine lv_if_ne (tgt := 43) hx hb dX1_copy_37 (by decide) (fun c37 => ?_) (fun c37 => ?_)
        · have h0 : 0 < apn a f := Nat.pos_of_ne_zero (fun z => c37 ((nI_eq0 hb6).mpr z))
          refine lv_aload_n hx hb dX1_copy_43 rfl (lv_at hl 1 rfl) ?_
          refine lv_iload_n hx hb dX1_copy_44 rfl (lv_at hl 3 rfl) ?_
          refine z_callI (rest := []) Z Y rfl (kX1_frameOf l dC dI hR (nI q)) (cwV 1 hts gX1_copy_X1_frameOf rfl rfl rfl (by decide +kernel) ⟨Nat.le_of_ble_eq_true rfl, Nat.le_of_ble_eq_true rfl⟩) rfl hl.1 rfl (Nat.le_of_ble_eq_true rfl) dX1_copy_45 ⟨Nat.zero_le _, Nat.zero_le _⟩ (fun r45 u45 Hq lq hw Y => ?_)
          obtain ⟨rfl, hw⟩ := hw
          rcases hw with ⟨k2, q45, hf45, hq45, hx45, rfl, hp45, hfo45⟩ | ⟨rfl, hfo45⟩
          · refine lv_istore (lv' := [(4, .int (nI (k2))), (3, .int (nI (f))), (0, .ref (ga0 g)), (1, .int (x)), (2, .int (nI (q)))]) hx hb dX1_copy_48 hl (by decide) rfl (fun ls hl => ?_)
            refine lv_iconst (v := nI (0)) hx hb dX1_copy_50 (by decide) ?_
            refine lv_istore (lv' := [(5, .int (nI (0))), (4, .int (nI (k2))), (3, .int (nI (f))), (0, .ref (ga0 g)), (1, .int (x)), (2, .int (nI (q)))]) hx hb dX1_copy_51 hl (by decide) rfl (fun ls hl => ?_)
            have loop : ∀ (n k : Nat), k + n = geW g → ∀ (H : Heap) (locs : List Loc), zW dC dI 1 g A s.heap s (ps4 u (va_cpy (cs4 u) (cs4 u) (k2 * geS g) (f * geS g) k)) H locs → ∀ ls : Array Slot, lv_has ls 6 [(0, .ref (ga0 g)), (1, .int (x)), (2, .int (nI (q))), (3, .int (nI (f))), (4, .int (nI (k2))), (5, .int (nI (k)))] → W p l e ({ frames := 1, cells := 0, slots := 0, locals := 22 }) s m (Value.ref (ga0 g) :: [.int (x), .int (nI (q))]).toArray below meth c H locs 0 0 (zQI below dC dI 1 g A (fun r u1 => r = (spCopy g a x (nI q)).1 ∧ Rep g N (spCopy g a x (nI q)).2 u1) (Value.ref (ga0 g) :: [.int (x), .int (nI (q))]).toArray s) (F0 m 53 ls []) := by
              intro n
              induction n with
              | zero =>
                intro k hkn Hq lq Y ls hl
                obtain rfl : k = geW g := hkn
                refine lv_iload hx hb dX1_copy_53 (lv_at hl 5 rfl) ?_
                refine lv_aload_n hx hb dX1_copy_55 rfl (lv_at hl 0 rfl) ?_
                refine z_get (T := TX1) (v := .int (nI (geW g))) Z hin rfl Y 2 (by decide) L36 rfl rfl dX1_copy_56 ?_
                refine lv_icmp_ge (tgt := 115) hx hb dX1_copy_59 (by decide) (fun _ => ?_) (fun c59 => absurd ((nI_leI b3 (by omega)).mpr (by omega)) c59)
                refine lv_aload_n hx hb dX1_copy_115 rfl (lv_at hl 0 rfl) ?_
                refine z_get (T := TX1) (v := .ref (ga7 g)) Z hin rfl Y 7 (by decide) L22 rfl rfl dX1_copy_116 ?_
                refine lv_iload_n hx hb dX1_copy_119 rfl (lv_at hl 3 rfl) ?_
                refine lv_iconst (v := nI (1)) hx hb dX1_copy_120 (by decide) ?_
                refine z_st7 (x := nI (1)) Z Y (f) (rfl) (by omega) (by omega) (by decide) dX1_copy_121 (fun Hq lq Y => ?_)
                refine lv_iconst (v := nI (0)) hx hb dX1_copy_122 (by decide) ?_
                exact z_ret (v := nI (0)) (u := ps7 (ps4 u (va_cpy (cs4 u) (cs4 u) (k2 * geS g) (f * geS g) (geW g))) (upd (cs7 (ps4 u (va_cpy (cs4 u) (cs4 u) (k2 * geS g) (f * geS g) (geW g)))) (f) (nI (1)))) Z Y (rfl) (by rw [spCopy_m ⟨hw2, hw10⟩ hfo21 h0 hfo45]; exact ⟨rfl, hg, hN, Rp_rowM f hg hf45 hR.2.2.1, Iv_row _ (pn_pg hR.2.2.2 hf21 h0) hR.2.2.2⟩) dX1_copy_123
              | succ n ih =>
                intro k hkn Hq lq Y ls hl
                have hkW : k < geW g := by omega
                have e0 := cpy_step (f := cs4 u) (g := cs4 u) (sp := k2 * geS g) (dp := f * geS g) (n := k) rfl
                refine lv_iload hx hb dX1_copy_53 (lv_at hl 5 rfl) ?_
                refine lv_aload_n hx hb dX1_copy_55 rfl (lv_at hl 0 rfl) ?_
                refine z_get (T := TX1) (v := .int (nI (geW g))) Z hin rfl Y 2 (by decide) L36 rfl rfl dX1_copy_56 ?_
                refine lv_icmp_ge (tgt := 115) hx hb dX1_copy_59 (by decide) (fun c59 => absurd c59 (fun z => absurd ((nI_leI b3 (by omega)).mp z) (by omega))) (fun _ => ?_)
                refine lv_aload_n hx hb dX1_copy_62 rfl (lv_at hl 0 rfl) ?_
                refine z_get (T := TX1) (v := .ref (ga4 g)) Z hin rfl Y 4 (by decide) L13 rfl rfl dX1_copy_63 ?_
                refine lv_bipush (v := nI (8)) hx hb dX1_copy_66 (by decide) ?_
                refine lv_iload_n hx hb dX1_copy_68 rfl (lv_at hl 3 rfl) ?_
                refine lv_imul hx hb dX1_copy_69 ?_
                refine z_top (nI (f * geS g)) (m8 hM) ?_
                refine lv_iload hx hb dX1_copy_70 (lv_at hl 5 rfl) ?_
                refine lv_iadd hx hb dX1_copy_72 ?_
                refine z_top (nI ((f * geS g) + (k))) (nI_add (f * geS g) (k)) ?_
                refine lv_iload hx hb dX1_copy_73 (lv_at hl 4 rfl) ?_
                refine lv_bipush (v := (-5)) hx hb dX1_copy_75 (by decide) ?_
                refine lv_icmp_ne (tgt := 95) hx hb dX1_copy_77 (by decide) (fun _ => ?_) (fun c77 => absurd c77 (nI_ne_m5 (show k2 < 2 ^ 31 by omega)))
                refine lv_aload_n hx hb dX1_copy_95 rfl (lv_at hl 0 rfl) ?_
                refine z_get (T := TX1) (v := .ref (ga4 g)) Z hin rfl Y 4 (by decide) L13 rfl rfl dX1_copy_96 ?_
                refine lv_bipush (v := nI (8)) hx hb dX1_copy_99 (by decide) ?_
                refine lv_iload hx hb dX1_copy_101 (lv_at hl 4 rfl) ?_
                refine lv_imul hx hb dX1_copy_103 ?_
                refine z_top (nI (k2 * geS g)) (m8 hM) ?_
                refine lv_iload hx hb dX1_copy_104 (lv_at hl 5 rfl) ?_
                refine lv_iadd hx hb dX1_copy_106 ?_
                refine z_top (nI ((k2 * geS g) + (k))) (nI_add (k2 * geS g) (k)) ?_
                refine z_ld4 Z Y ((k2 * geS g) + (k)) (rfl) (lt4 hg hf45 hkW rfl) (by omega) dX1_copy_107 ?_
                refine z_top (cs4 u (k2 * geS g + k)) (cpy_self hkW hg.2.2.2.2.2.2.1) ?_
                refine z_st4 (x := cs4 u (k2 * geS g + k)) Z Y ((f * geS g) + (k)) (rfl) (lt4 hg hf21 hkW rfl) (by omega) dX1_copy_108 (fun Hq lq Y => ?_)
                refine lv_iinc (v := nI (k + 1)) (lv' := [(5, .int (nI (k + 1))), (0, .ref (ga0 g)), (1, .int (x)), (2, .int (nI (q))), (3, .int (nI (f))), (4, .int (nI (k2)))]) hx hb dX1_copy_109 hl (k := 5) rfl (nI_add (k) 1) (by decide) rfl (fun ls hl => ?_)
                refine lv_goto (tgt := 53) hx hb dX1_copy_112 (by decide) ?_
                exact ih (k + 1) (by omega) _ _ (by rw [← e0]; exact Y) ls (lv_sub hl [1, 2, 3, 4, 5, 0] rfl)
            exact loop (geW g) 0 (by omega) _ _ (by rw [cpy_0]; exact Y) ls (lv_sub hl [3, 4, 5, 2, 1, 0] rfl)
          · refine lv_istore (lv' := [(4, .int ((-5))), (3, .int (nI (f))), (0, .ref (ga0 g)), (1, .int (x)), (2, .int (nI (q)))]) hx hb dX1_copy_48 hl (by decide) rfl (fun ls hl => ?_)
            refine lv_iconst (v := nI (0)) hx hb dX1_copy_50 (by decide) ?_
            refine lv_istore (lv' := [(5, .int (nI (0))), (4, .int ((-5))), (3, .int (nI (f))), (0, .ref (ga0 g)), (1, .int (x)), (2, .int (nI (q)))]) hx hb dX1_copy_51 hl (by decide) rfl (fun ls hl => ?_)
            have loop : ∀ (n k : Nat), k + n = geW g → ∀ (H : Heap) (locs : List Loc), zW dC dI 1 g A s.heap s (ps4 u (va_cpy (cs3 u) (cs4 u) (q * geS g) (f * geS g) k)) H locs → ∀ ls : Array Slot, lv_has ls 6 [(0, .ref (ga0 g)), (1, .int (x)), (2, .int (nI (q))), (3, .int (nI (f))), (4, .int ((-5))), (5, .int (nI (k)))] → W p l e ({ frames := 1, cells := 0, slots := 0, locals := 22 }) s m (Value.ref (ga0 g) :: [.int (x), .int (nI (q))]).toArray below meth c H locs 0 0 (zQI below dC dI 1 g A (fun r u1 => r = (spCopy g a x (nI q)).1 ∧ Rep g N (spCopy g a x (nI q)).2 u1) (Value.ref (ga0 g) :: [.int (x), .int (nI (q))]).toArray s) (F0 m 53 ls []) := by
              intro n
              induction n with
              | zero =>
                intro k hkn Hq lq Y ls hl
                obtain rfl : k = geW g := hkn
                refine lv_iload hx hb dX1_copy_53 (lv_at hl 5 rfl) ?_
                refine lv_aload_n hx hb dX1_copy_55 rfl (lv_at hl 0 rfl) ?_
                refine z_get (T := TX1) (v := .int (nI (geW g))) Z hin rfl Y 2 (by decide) L36 rfl rfl dX1_copy_56 ?_
                refine lv_icmp_ge (tgt := 115) hx hb dX1_copy_59 (by decide) (fun _ => ?_) (fun c59 => absurd ((nI_leI b3 (by omega)).mpr (by omega)) c59)
                refine lv_aload_n hx hb dX1_copy_115 rfl (lv_at hl 0 rfl) ?_
                refine z_get (T := TX1) (v := .ref (ga7 g)) Z hin rfl Y 7 (by decide) L22 rfl rfl dX1_copy_116 ?_
                refine lv_iload_n hx hb dX1_copy_119 rfl (lv_at hl 3 rfl) ?_
                refine lv_iconst (v := nI (1)) hx hb dX1_copy_120 (by decide) ?_
                refine z_st7 (x := nI (1)) Z Y (f) (rfl) (by omega) (by omega) (by decide) dX1_copy_121 (fun Hq lq Y => ?_)
                refine lv_iconst (v := nI (0)) hx hb dX1_copy_122 (by decide) ?_
                exact z_ret (v := nI (0)) (u := ps7 (ps4 u (va_cpy (cs3 u) (cs4 u) (q * geS g) (f * geS g) (geW g))) (upd (cs7 (ps4 u (va_cpy (cs3 u) (cs4 u) (q * geS g) (f * geS g) (geW g)))) (f) (nI (1)))) Z Y (rfl) (by rw [spCopy_d (show q < 2 ^ 31 by omega) ⟨hw2, hw10⟩ hfo21 h0 hfo45]; exact ⟨rfl, hg, hN, Rp_rowD f hg hq hR.2.2.1, Iv_row _ (pn_pg hR.2.2.2 hf21 h0) hR.2.2.2⟩) dX1_copy_123
              | succ n ih =>
                intro k hkn Hq lq Y ls hl
                have hkW : k < geW g := by omega
                have e0 := cpy_step (f := cs3 u) (g := cs4 u) (sp := q * geS g) (dp := f * geS g) (n := k) rfl
                refine lv_iload hx hb dX1_copy_53 (lv_at hl 5 rfl) ?_
                refine lv_aload_n hx hb dX1_copy_55 rfl (lv_at hl 0 rfl) ?_
                refine z_get (T := TX1) (v := .int (nI (geW g))) Z hin rfl Y 2 (by decide) L36 rfl rfl dX1_copy_56 ?_
                refine lv_icmp_ge (tgt := 115) hx hb dX1_copy_59 (by decide) (fun c59 => absurd c59 (fun z => absurd ((nI_leI b3 (by omega)).mp z) (by omega))) (fun _ => ?_)
                refine lv_aload_n hx hb dX1_copy_62 rfl (lv_at hl 0 rfl) ?_
                refine z_get (T := TX1) (v := .ref (ga4 g)) Z hin rfl Y 4 (by decide) L13 rfl rfl dX1_copy_63 ?_
                refine lv_bipush (v := nI (8)) hx hb dX1_copy_66 (by decide) ?_
                refine lv_iload_n hx hb dX1_copy_68 rfl (lv_at hl 3 rfl) ?_
                refine lv_imul hx hb dX1_copy_69 ?_
                refine z_top (nI (f * geS g)) (m8 hM) ?_
                refine lv_iload hx hb dX1_copy_70 (lv_at hl 5 rfl) ?_
                refine lv_iadd hx hb dX1_copy_72 ?_
                refine z_top (nI ((f * geS g) + (k))) (nI_add (f * geS g) (k)) ?_
                refine lv_iload hx hb dX1_copy_73 (lv_at hl 4 rfl) ?_
                refine lv_bipush (v := (-5)) hx hb dX1_copy_75 (by decide) ?_
                refine lv_icmp_ne (tgt := 95) hx hb dX1_copy_77 (by decide) (fun c77 => absurd (rfl) c77) (fun _ => ?_)
                refine lv_aload_n hx hb dX1_copy_80 rfl (lv_at hl 0 rfl) ?_
                refine z_get (T := TX1) (v := .ref (ga3 g)) Z hin rfl Y 3 (by decide) L7 rfl rfl dX1_copy_81 ?_
                refine lv_bipush (v := nI (8)) hx hb dX1_copy_84 (by decide) ?_
                refine lv_iload_n hx hb dX1_copy_86 rfl (lv_at hl 2 rfl) ?_
                refine lv_imul hx hb dX1_copy_87 ?_
                refine z_top (nI (q * geS g)) (m8 hM) ?_
                refine lv_iload hx hb dX1_copy_88 (lv_at hl 5 rfl) ?_
                refine lv_iadd hx hb dX1_copy_90 ?_
                refine z_top (nI ((q * geS g) + (k))) (nI_add (q * geS g) (k)) ?_
                refine z_ld3 Z Y ((q * geS g) + (k)) (rfl) (lt3 hg hq hkW rfl) (by omega) dX1_copy_91 ?_
                refine lv_goto (tgt := 108) hx hb dX1_copy_92 (by decide) ?_
                refine z_st4 (x := cs3 (ps4 u (va_cpy (cs3 u) (cs4 u) (q * geS g) (f * geS g) k)) ((q * geS g) + (k))) Z Y ((f * geS g) + (k)) (rfl) (lt4 hg hf21 hkW rfl) (by omega) dX1_copy_108 (fun Hq lq Y => ?_)
                refine lv_iinc (v := nI (k + 1)) (lv' := [(5, .int (nI (k + 1))), (0, .ref (ga0 g)), (1, .int (x)), (2, .int (nI (q))), (3, .int (nI (f))), (4, .int ((-5)))]) hx hb dX1_copy_109 hl (k := 5) rfl (nI_add (k) 1) (by decide) rfl (fun ls hl => ?_)
                refine lv_goto (tgt := 53) hx hb dX1_copy_112 (by decide) ?_
                exact ih (k + 1) (by omega) _ _ (by rw [← e0]; exact Y) ls (lv_sub hl [1, 2, 3, 4, 5, 0] rfl)
            exact loop (geW g) 0 (by omega) _ _ (by rw [cpy_0]; exact Y) ls (lv_sub hl [3, 4, 5, 2, 1, 0] rfl)
        · refine lv_bipush (v := (-3)) hx hb dX1_copy_40 (by decide) ?_
          exact z_ret (v := (-3)) (u := u) Z Y (rfl) (by rw [spCopy_up ⟨hw2, hw10⟩ hfo21 (by have := (nI_eq0 hb6).mp c37; omega)]; exact ⟨rfl, hR⟩) dX1_copy_42
      · refine lv_istore_n (lv' := [(3, .int ((-5))), (0, .ref (ga0 g)), (1, .int (x)), (2, .int (nI (q)))]) hx hb dX1_copy_24 rfl hl (by decide) rfl (fun ls hl => ?_)
        refine lv_iload_n hx hb dX1_copy_25 rfl (lv_at hl 0 rfl) ?_
        refine lv_bipush (v := (-5)) hx hb dX1_copy_26 (by decide) ?_
        refine lv_icmp_eq (tgt := 40) hx hb dX1_copy_28 (by decide) (fun _ => ?_) (fun c28 => absurd (rfl) c28)
        refine lv_bipush (v := (-3)) hx hb dX1_copy_40 (by decide) ?_
        exact z_ret (v := (-3)) (u := u) Z Y (rfl) (by rw [spCopy_no ⟨hw2, hw10⟩ hfo21]; exact ⟨rfl, hR⟩) dX1_copy_42
    · refine lv_if_ne (tgt := 19) hx hb dX1_copy_13 (by decide) (fun c13 => absurd (by decide) c13) (fun _ => ?_)
      refine lv_bipush (v := (-2)) hx hb dX1_copy_16 (by decide) ?_
      exact z_ret (v := (-2)) (u := u) Z Y (rfl) (by rw [spCopy_bad (fun z => hw10 z.2)]; exact ⟨rfl, hR⟩) dX1_copy_18
  · refine lv_if_eq (tgt := 16) hx hb dX1_copy_5 (by decide) (fun _ => ?_) (fun c5 => absurd (by decide) c5)
    refine lv_bipush (v := (-2)) hx hb dX1_copy_16 (by decide) ?_
    exact z_ret (v := (-2)) (u := u) Z Y (rfl) (by rw [spCopy_bad (fun z => hw2 z.1)]; exact ⟨rfl, hR⟩) dX1_copy_18

set_option maxHeartbeats 4000000 in
set_option maxRecDepth 100000 in
theorem kX1_init_ (l : Launch) (dC : Nat → ClassId) (dI : Nat → Nat → Nat) {g : GE} (hg : gok g) (h3 : gn3 g = 1600) (h5 : gn5 g = 32) (u : CS) : zMV l yX1_init_ wsX1_init_ ({ frames := 1, cells := 0, slots := 0, locals := 21 }) dC dI 1 g u [] (fun u1 => iniP g 32 u u1) := by
  refine zMV_of (cc := cX1_init_) (maxL := 2) (ret := none) (by decide) rfl (Nat.le_of_ble_eq_true rfl) ?_
  intro p e s m below meth c A ls Z Y hl
  have hin : ∀ w ∈ wsX10, w ∈ wsX1_init_ := fun w h => List.mem_cons_of_mem _ (List.mem_append_right _ h)
  obtain ⟨hx, hb, hml, hown, hts, hr, hlk⟩ := id Z
  have L7 := hts (.fieldLink RX1 7 "FramePoolModel" "disk" "[I") (by decide +kernel)
  have L46 := hts (.fieldLink RX1 46 "FramePoolModel" "at" "I") (by decide +kernel)
  have L49 := hts (.fieldLink RX1 49 "FramePoolModel" "reads" "I") (by decide +kernel)
  have L52 := hts (.fieldLink RX1 52 "FramePoolModel" "writes" "I") (by decide +kernel)
  have hl : lv_has ls 2 [(0, .ref (ga0 g))] := hl
  obtain ⟨b1, b2, b3, b4, b5, b6, b7⟩ := gokB hg
  have g3 := h3
  have g5 := h5
  clear h3 h5
  have loop2 : ∀ (n k : Nat) (u2 : CS), k + n = 32 → cs4 u2 = cs4 u → (∀ j, j < gn3 g → cs3 u2 j = nI 0) → (∀ f, f < k → cs5 u2 f = -1 ∧ cs6 u2 f = nI 0 ∧ cs7 u2 f = nI 0 ∧ cs8 u2 f = nI 0) → ∀ (H : Heap) (locs : List Loc), zW dC dI 1 g A s.heap s (u2) H locs → ∀ ls : Array Slot, lv_has ls 2 [(0, .ref (ga0 g)), (1, .int (nI (k)))] → W p l e ({ frames := 1, cells := 0, slots := 0, locals := 21 }) s m (Value.ref (ga0 g) :: []).toArray below meth c H locs 0 0 (zQV below dC dI 1 g A (fun u1 => iniP g 32 u u1) (Value.ref (ga0 g) :: []).toArray s) (F0 m 24 ls []) := by
    intro n
    induction n with
    | zero =>
      intro k u2 hkn h4 h3 h5 Hq lq Y ls hl
      refine lv_iload_n hx hb dX1_init__24 rfl (lv_at hl 1 rfl) ?_
      refine lv_bipush (v := nI (32)) hx hb dX1_init__25 (by decide) ?_
      refine lv_icmp_ge (tgt := 41) hx hb dX1_init__27 (by decide) (fun _ => ?_) (fun c27 => absurd ((nI_leI (by omega) (by omega)).mpr (by omega)) c27)
      refine lv_aload_n hx hb dX1_init__41 rfl (lv_at hl 0 rfl) ?_
      refine lv_iconst (v := nI (0)) hx hb dX1_init__42 (by decide) ?_
      refine z_puth (T := TX1) (v := nI (0)) Z hin tyX1_ok nmX1 rfl Y L46 rfl rfl rfl dX1_init__43 (fun Hq lq Y => ?_)
      refine lv_aload_n hx hb dX1_init__46 rfl (lv_at hl 0 rfl) ?_
      refine lv_iconst (v := nI (0)) hx hb dX1_init__47 (by decide) ?_
      refine z_putr (T := TX1) (v := nI (0)) Z hin tyX1_ok nmX1 rfl Y L49 rfl rfl rfl dX1_init__48 (fun Hq lq Y => ?_)
      refine lv_aload_n hx hb dX1_init__51 rfl (lv_at hl 0 rfl) ?_
      refine lv_iconst (v := nI (0)) hx hb dX1_init__52 (by decide) ?_
      refine z_putw (T := TX1) (v := nI (0)) Z hin tyX1_ok nmX1 rfl Y L52 rfl rfl rfl dX1_init__53 (fun Hq lq Y => ?_)
      exact z_vret (u := psw (psr (psh (u2) (nI (0))) (nI (0))) (nI (0))) Z Y (⟨h4, h3, fun f hf => h5 f (by omega), rfl, rfl, rfl⟩) dX1_init__56
    | succ n ih =>
      intro k u2 hkn h4 h3 h5 Hq lq Y ls hl
      refine lv_iload_n hx hb dX1_init__24 rfl (lv_at hl 1 rfl) ?_
      refine lv_bipush (v := nI (32)) hx hb dX1_init__25 (by decide) ?_
      refine lv_icmp_ge (tgt := 41) hx hb dX1_init__27 (by decide) (fun c27 => absurd c27 (fun z => absurd ((nI_leI (by omega) (by omega)).mp z) (by omega))) (fun _ => ?_)
      refine lv_aload_n hx hb dX1_init__30 rfl (lv_at hl 0 rfl) ?_
      refine lv_iload_n hx hb dX1_init__31 rfl (lv_at hl 1 rfl) ?_
      refine z_callV (rest := []) Z Y rfl (kX1_empty l dC dI hg u2 (show k < gn5 g by omega)) (cwV 1 hts gX1_init__X1_empty rfl rfl rfl (by decide +kernel) ⟨Nat.le_of_ble_eq_true rfl, Nat.le_of_ble_eq_true rfl⟩) rfl hl.1 rfl (Nat.le_of_ble_eq_true rfl) dX1_init__32 ⟨Nat.zero_le _, Nat.zero_le _⟩ (fun u32 Hq lq hw Y => ?_)
      subst hw
      refine lv_iinc (v := nI (k + 1)) (lv' := [(1, .int (nI (k + 1))), (0, .ref (ga0 g))]) hx hb dX1_init__35 hl (k := 1) rfl (nI_add (k) 1) (by decide) rfl (fun ls hl => ?_)
      refine lv_goto (tgt := 24) hx hb dX1_init__38 (by decide) ?_
      refine ih (k + 1) (cs3 u2, cs4 u2, upd (cs5 u2) k (-1), upd (cs6 u2) k (nI 0), upd (cs7 u2) k (nI 0), upd (cs8 u2) k (nI 0), csh u2, csr u2, csw u2) (by omega) h4 h3 (fun f hf => ?_) _ _ Y ls (lv_sub hl [1, 0] rfl)
      show upd (cs5 u2) k (-1) f = -1 ∧ upd (cs6 u2) k (nI 0) f = nI 0 ∧ upd (cs7 u2) k (nI 0) f = nI 0 ∧ upd (cs8 u2) k (nI 0) f = nI 0
      by_cases e : f = k
      · subst e; exact ⟨pk_us, pk_us, pk_us, pk_us⟩
      · rw [pk_un e, pk_un e, pk_un e, pk_un e]; exact h5 f (by omega)
  have loop1 : ∀ (n k : Nat) (u2 : CS), k + n = 1600 → cs4 u2 = cs4 u → (∀ j, j < k → cs3 u2 j = nI 0) → ∀ (H : Heap) (locs : List Loc), zW dC dI 1 g A s.heap s (u2) H locs → ∀ ls : Array Slot, lv_has ls 2 [(0, .ref (ga0 g)), (1, .int (nI (k)))] → W p l e ({ frames := 1, cells := 0, slots := 0, locals := 21 }) s m (Value.ref (ga0 g) :: []).toArray below meth c H locs 0 0 (zQV below dC dI 1 g A (fun u1 => iniP g 32 u u1) (Value.ref (ga0 g) :: []).toArray s) (F0 m 2 ls []) := by
    intro n
    induction n with
    | zero =>
      intro k u2 hkn h4 h3 Hq lq Y ls hl
      refine lv_iload_n hx hb dX1_init__2 rfl (lv_at hl 1 rfl) ?_
      refine lv_sipush (v := nI (1600)) hx hb dX1_init__3 (by decide) ?_
      refine lv_icmp_ge (tgt := 22) hx hb dX1_init__6 (by decide) (fun _ => ?_) (fun c6 => absurd ((nI_leI (by omega) (by omega)).mpr (by omega)) c6)
      refine lv_iconst (v := nI (0)) hx hb dX1_init__22 (by decide) ?_
      refine lv_istore_n (lv' := [(1, .int (nI (0))), (0, .ref (ga0 g))]) hx hb dX1_init__23 rfl hl (by decide) rfl (fun ls hl => ?_)
      exact loop2 32 0 u2 (by omega) h4 (fun j hj => h3 j (by omega)) (fun f hf => absurd hf (by omega)) _ _ Y ls (lv_sub hl [1, 0] rfl)
    | succ n ih =>
      intro k u2 hkn h4 h3 Hq lq Y ls hl
      refine lv_iload_n hx hb dX1_init__2 rfl (lv_at hl 1 rfl) ?_
      refine lv_sipush (v := nI (1600)) hx hb dX1_init__3 (by decide) ?_
      refine lv_icmp_ge (tgt := 22) hx hb dX1_init__6 (by decide) (fun c6 => absurd c6 (fun z => absurd ((nI_leI (by omega) (by omega)).mp z) (by omega))) (fun _ => ?_)
      refine lv_aload_n hx hb dX1_init__9 rfl (lv_at hl 0 rfl) ?_
      refine z_get (T := TX1) (v := .ref (ga3 g)) Z hin rfl Y 3 (by decide) L7 rfl rfl dX1_init__10 ?_
      refine lv_iload_n hx hb dX1_init__13 rfl (lv_at hl 1 rfl) ?_
      refine lv_iconst (v := nI (0)) hx hb dX1_init__14 (by decide) ?_
      refine z_st3 (x := nI (0)) Z Y (k) (rfl) (by omega) (by omega) dX1_init__15 (fun Hq lq Y => ?_)
      refine lv_iinc (v := nI (k + 1)) (lv' := [(1, .int (nI (k + 1))), (0, .ref (ga0 g))]) hx hb dX1_init__16 hl (k := 1) rfl (nI_add (k) 1) (by decide) rfl (fun ls hl => ?_)
      refine lv_goto (tgt := 2) hx hb dX1_init__19 (by decide) ?_
      refine ih (k + 1) (ps3 u2 (upd (cs3 u2) k (nI 0))) (by omega) h4 (fun j hj => ?_) _ _ Y ls (lv_sub hl [1, 0] rfl)
      show upd (cs3 u2) k (nI 0) j = nI 0
      by_cases e : j = k
      · subst e; exact pk_us
      · rw [pk_un e]; exact h3 j (by omega)
  refine lv_iconst (v := nI (0)) hx hb dX1_init__0 (by decide) ?_
  refine lv_istore_n (lv' := [(1, .int (nI (0))), (0, .ref (ga0 g))]) hx hb dX1_init__1 rfl hl (by decide) rfl (fun ls hl => ?_)
  exact loop1 1600 0 u (by omega) rfl (fun j hj => absurd hj (by omega)) _ _ Y ls (lv_sub hl [1, 0] rfl)
end
section
/-! ===== the constructors ===== -/
def clp (x : Int32) (M : Nat) : Nat := if x < nI 1 then 1 else if nI M < x then M else x.toNatClampNeg
theorem clp_in {x : Int32} {M : Nat} (h1 : 1 ≤ M) (hM : M < 2 ^ 31) : 1 ≤ clp x M ∧ clp x M ≤ M := by
  unfold clp
  split
  · exact ⟨Nat.le_refl 1, h1⟩
  · rename_i a
    split
    · exact ⟨h1, Nat.le_refl M⟩
    · rename_i b
      have a' := i_le_of a
      have b' := i_le_of b
      rw [Int32.le_iff_toInt_le, nI_toInt (by decide)] at a'
      rw [Int32.le_iff_toInt_le, nI_toInt hM] at b'
      obtain ⟨j, hj, rfl⟩ := nI_of (x := x) (fun z => by rw [Int32.lt_iff_toInt_lt] at z; have h0 : (0 : Int32).toInt = 0 := by decide +kernel
                                                         omega)
      rw [nI_toInt hj] at a' b'
      rw [nI_clamp hj]
      omega
theorem clp_lo {x : Int32} {M : Nat} (h : ¬ nI 1 ≤ x) : clp x M = 1 := if_pos (i_lt_of h)
theorem nlt_of {x y : Int32} (h : y ≤ x) : ¬ x < y := fun z => by
  rw [Int32.lt_iff_toInt_lt] at z; rw [Int32.le_iff_toInt_le] at h; omega
theorem clp_hi {x : Int32} {M : Nat} (h1 : nI 1 ≤ x) (h : ¬ x ≤ nI M) : clp x M = M := by
  unfold clp
  rw [if_neg (nlt_of h1), if_pos (i_lt_of h)]
theorem clp_mid {x : Int32} {M : Nat} (h1 : nI 1 ≤ x) (h : x ≤ nI M) : nI (clp x M) = x := by
  unfold clp
  rw [if_neg (nlt_of h1), if_neg (nlt_of h)]
  obtain ⟨j, hj, rfl⟩ := nI_of (x := x) (fun z => by
    rw [Int32.lt_iff_toInt_lt] at z; rw [Int32.le_iff_toInt_le, nI_toInt (by decide)] at h1
    have h0 : (0 : Int32).toInt = 0 := by decide +kernel
    omega)
  rw [nI_clamp hj]
theorem clp_X {x : Int32} {M : Nat} (hM1 : 1 ≤ M) (hM : M < 2 ^ 31) : (if nI 1 < (if nI M < x then nI M else x) then (if nI M < x then nI M else x) else nI 1) = nI (clp x M) := by
  by_cases h : nI M < x
  · rw [if_pos h]
    have h1 : nI 1 ≤ x := by
      rw [Int32.lt_iff_toInt_lt, nI_toInt hM] at h
      rw [Int32.le_iff_toInt_le, nI_toInt (by decide)]
      omega
    rw [clp_hi h1 (fun z => nlt_of z h)]
    split
    · rfl
    · rename_i q
      rcases Nat.lt_or_ge 1 M with r | r
      · exact absurd (nI_lt r hM) q
      · rw [show M = 1 by omega]
  · rw [if_neg h]
    by_cases h1 : nI 1 ≤ x
    · rw [clp_mid h1 (i_le_of h)]
      split
      · rfl
      · rename_i q
        have q' := i_le_of q
        exact Int32.toInt_inj.mp (by rw [Int32.le_iff_toInt_le] at h1 q'; omega)
    · rw [clp_lo h1, if_neg (nlt_of (by have := i_lt_of h1; rw [Int32.lt_iff_toInt_lt] at this; rw [Int32.le_iff_toInt_le]; omega))]
abbrev zBlank : List Value := [.int 0, .int 0, .int 0, .null, .null, .null, .null, .null, .null, .int 0, .int 0, .int 0]
def a00 : AS := oInit (fun _ _ => nI 0, fun _ _ => nI 0, fun _ => nI 0, fun _ => 0, fun _ => nI 0, fun _ => nI 0, 0, nI 0, nI 0)
abbrev u00 : CS := (fun _ => 0, fun _ => 0, fun _ => 0, fun _ => 0, fun _ => 0, fun _ => 0, 0, 0, 0)
abbrev zA0 (ci o sz : Nat) : Nat → Prop := va_A [(o, .inr (ci, zBlank))] sz
/-- the contract of a constructor: six rows are made -/
def zMC (l : Launch) (y : MethodName) (ws : List Cond) (rm : Room) (dC : Nat → ClassId) (dI : Nat → Nat → Nat) (ci o : Nat) (av : List Value) (post : GE → CS → Prop) : Prop :=
  ∀ sz, Met l y ws rm (va_Pc (.ref o :: av) (fun U => U.heap.size = sz ∧ va_P (dC, dI) vwCl [(o, .inr (ci, zBlank))] U.heap ∧ va_K (dC, dI) vwCl [] U ∧ va_D (fun _ => True) [(o, .inr (ci, zBlank))])) (va_Qv (fun gu : GE × CS => ga0 gu.1 = o ∧ post gu.1 gu.2) (fun gu t => zB dC dI ci gu.1 (zA0 ci o sz) gu.2 t) (zA0 ci o sz)) 6 1984 (zA0 ci o sz)
theorem zMC_of {l : Launch} {y : MethodName} {ws ws' : List Cond} {rm : Room} {dC : Nat → ClassId} {dI : Nat → Nat → Nat} {ci o : Nat} {av : List Value} {post : GE → CS → Prop} {cc : ByteArray} {maxL : Nat} (hy : plainName y.cls = true) (hyi : y.name = "<init>") (hw : ws = Cond.code y cc maxL none :: ws') (hln : (lg_sl (.ref o :: av)).length ≤ maxL)
    (body : ∀ (p : Program) (e : Env) (s : State) (m : MethodId) (below : List Frame) (meth : Method) (c : Code) (A : Nat → Prop) (ls : Array Slot), zC p s m (Value.ref o :: av).toArray meth c cc maxL none ws y.cls → meth.name = "<init>" → va_P (dC, dI) vwCl [(o, .inr (ci, zBlank))] s.heap → va_K (dC, dI) vwCl [] s → va_D A [(o, .inr (ci, zBlank))] → (∀ q : Nat, s.heap.size ≤ q → A q) → lv_has ls maxL (lv_args 0 (.ref o :: av)) →
      W p l e rm s m (Value.ref o :: av).toArray below meth c s.heap [] 0 0 (MQ below (va_Qv (fun gu : GE × CS => ga0 gu.1 = o ∧ post gu.1 gu.2) (fun gu t => zB dC dI ci gu.1 A gu.2 t) A) (Value.ref o :: av).toArray s 6 1984 A) (F0 m 0 ls [])) : zMC l y ws rm dC dI ci o av post := by
  intro sz
  refine Met.ofW (cc := cc) (maxL := maxL) (ret := none) hy hw ?_
  intro p e s m args below meth c s₁ B hml hv
  obtain ⟨rfl, hsz, hP, hK, hD0⟩ := hv
  subst hsz
  have hD := hD0.self (sz := s.heap.size)
  have hl := lv_entry (.ref o :: av) (n := maxL) hln
  rw [lg_entry_eq]
  exact body p e s m below meth c _ _ ⟨B.exec, B.bytes, hml, findClass_of_methodNamed B.named, atoms_spec (ws := ws) B.pre, B.returns, B.notSynchronized⟩ ((name_of_methodNamed B.named B.method).1.trans hyi) hP hK hD (fun q h => Or.inr h) hl
set_option maxHeartbeats 4000000 in
theorem kX0_within (l : Launch) (x : Int32) {M : Nat} (hM1 : 1 ≤ M) (hM : M < 2 ^ 31) : Met l yX0_within wsX0_within ({ frames := 1, cells := 0, slots := 0, locals := 14 }) (va_Pc [.int x, .int (nI M)] (fun _ => True)) (va_Qi (fun (r : Int32) (_ : Unit) => r = nI (clp x M)) (fun _ _ => True) (fun _ => False)) 0 0 (fun _ => False) := by
  refine Met.ofW (cc := cX0_within) (maxL := 2) (ret := (some .int)) (by decide) rfl ?_
  intro p e s m args below meth c s₁ B hml hv
  obtain ⟨rfl, -⟩ := hv
  have hx := B.exec
  have hb := B.bytes
  have hr := B.returns
  have hts := atoms_spec (ws := wsX0_within) B.pre
  have hown : s.vm.findClass RX0 = some m.cls := findClass_of_methodNamed B.named
  have hlocks := B.notSynchronized
  have hl := lv_entry ([.int x, .int (nI M)]) (n := 2) (Nat.le_of_ble_eq_true rfl)
  rw [lg_entry_eq]
  generalize (lg_sl ([.int x, .int (nI M)]) ++ List.replicate (2 - (lg_sl ([.int x, .int (nI M)])).length) Slot.unset).toArray = ls at hl ⊢
  have hl : lv_has ls 2 [(0, .int x), (1, .int (nI M))] := hl
  refine lv_iconst (v := nI 1) hx hb dX0_within_0 (by decide) ?_
  refine lv_iload_n hx hb dX0_within_1 rfl (lv_at hl 0 rfl) ?_
  refine lv_iload_n hx hb dX0_within_2 rfl (lv_at hl 1 rfl) ?_
  refine va_mmin hx hb (hml.trans hl.1.symm) hown (hts _ (List.mem_of_getElem? (i := 1) rfl)) (hts _ (List.mem_of_getElem? (i := 2) rfl)) (hts _ (List.mem_of_getElem? (i := 3) rfl)) (hts _ (List.mem_of_getElem? (i := 4) rfl)) (Nat.le_of_ble_eq_true rfl) (Nat.le_of_ble_eq_true rfl) (Nat.zero_le _) (Nat.zero_le _) dX0_within_3 ?_
  refine va_mmax hx hb (hml.trans hl.1.symm) hown (hts _ (List.mem_of_getElem? (i := 5) rfl)) (hts _ (List.mem_of_getElem? (i := 6) rfl)) (hts _ (List.mem_of_getElem? (i := 3) rfl)) (hts _ (List.mem_of_getElem? (i := 7) rfl)) (Nat.le_of_ble_eq_true rfl) (Nat.le_of_ble_eq_true rfl) (Nat.zero_le _) (Nat.zero_le _) dX0_within_6 ?_
  exact W.iret hx hb hr (fun t ht hW => ⟨⟨_, (), rfl, clp_X hM1 hM, trivial⟩, by rw [ht]; exact Nat.le_refl _, fun q _ _ => by rw [ht]⟩) (fun q h => by cases h) dX0_within_9

set_option maxHeartbeats 800000 in
set_option maxRecDepth 100000 in
theorem kX0_init (l : Launch) (dC : Nat → ClassId) (dI : Nat → Nat → Nat) (o : Nat) (x y z : Int32) : zMC l yX0_init wsX0_init ({ frames := 2, cells := 6, slots := 1984, locals := 42 }) dC dI 0 o [.int x, .int y, .int z] (fun g u1 => geF g = clp x 32 ∧ geP g = clp y 200 ∧ geW g = clp z 8 ∧ geS g = geW g ∧ Rep g 0 a00 u1) := by
  refine zMC_of (cc := cX0_init) (maxL := 4) (by decide) rfl rfl (Nat.le_of_ble_eq_true rfl) ?_
  intro p e s m below meth c A ls Z hnm hP hK hD hA hl
  obtain ⟨hx, hb, hml, hown, hts, hr, hlocks⟩ := id Z
  have hown : s.vm.findClass RX0 = some m.cls := hown
  have hin : ∀ w ∈ wsX00, w ∈ wsX0_init := fun w h => List.mem_cons_of_mem _ (List.mem_append_right _ h)
  have hS : va_S A s.heap s.heap [] := va_S.rf
  have hl : lv_has ls 4 [(0, .ref o), (1, .int x), (2, .int y), (3, .int z)] := hl
  obtain ⟨F, eF⟩ : ∃ F, F = clp x 32 := ⟨_, rfl⟩
  obtain ⟨P, eP⟩ : ∃ P, P = clp y 200 := ⟨_, rfl⟩
  obtain ⟨V, eV⟩ : ∃ V, V = clp z 8 := ⟨_, rfl⟩
  obtain ⟨F1, F2⟩ : 1 ≤ F ∧ F ≤ 32 := by rw [eF]; exact clp_in (by decide) (by decide)
  obtain ⟨P1, P2⟩ : 1 ≤ P ∧ P ≤ 200 := by rw [eP]; exact clp_in (by decide) (by decide)
  obtain ⟨V1, V2⟩ : 1 ≤ V ∧ V ≤ 8 := by rw [eV]; exact clp_in (by decide) (by decide)
  have hPV : P * V ≤ 1600 := Nat.le_trans (Nat.mul_le_mul P2 V2) (by decide)
  have hFV : F * V ≤ 256 := Nat.le_trans (Nat.mul_le_mul F2 V2) (by decide)
  refine lv_aload_n hx hb dX0_init_0 rfl (lv_at hl 0 rfl) ?_
  refine W.objInit hx hb hown (hts _ (List.mem_of_getElem? (i := 1) rfl)) (hts _ (List.mem_of_getElem? (i := 2) rfl)) (hts _ (List.mem_of_getElem? (i := 3) rfl)) rfl (by rw [hml]; exact hl.1) rfl dX0_init_1 (Nat.le_of_ble_eq_true rfl) (Nat.le_of_ble_eq_true rfl) ?_
  refine W.eq (g2 := F0 m 4 ls []) rfl ?_
  refine lv_aload_n hx hb dX0_init_4 rfl (lv_at hl 0 rfl) ?_
  refine lv_iload_n hx hb dX0_init_5 rfl (lv_at hl 1 rfl) ?_
  refine lv_bipush (v := nI 32) hx hb dX0_init_6 (by decide) ?_
  refine va_calli (va_runS (As := [.int x, .int (nI 32)]) (rest := [.ref o]) ⟨hx, hb, hml, hown, hts⟩ (kX0_within l x (M := 32) (by decide) (by decide)) (va_cwS 2 hts gX0_init_X0_within rfl rfl rfl (by decide +kernel) ⟨Nat.le_of_ble_eq_true rfl, Nat.le_of_ble_eq_true rfl⟩) ⟨fun a U g mk q => q, fun U hU hW => ⟨rfl, trivial⟩⟩ rfl rfl hl.1 rfl (lv_room (Nat.le_of_ble_eq_true rfl)) dX0_init_8 ⟨Nat.zero_le _, Nat.zero_le _⟩) hS (fun q _ h => h.elim) (fun q h => h.elim) (fun r8 u t Hq lq ht hvm hw hB hz1 hk1 hS => ?_)
  have hP := hP.kept (H1 := Hq) (fun k q hk => hk1 q.1 ((hP k q hk).lt) (fun z => z.elim))
  rw [← eF] at hw
  subst hw
  refine va_putF (D := (dC, dI)) (ci := 0) (v := .int (nI (F))) (ty := .int) (C := RX0) (T := TX0) (N := 12) hx hb hts hin tyX0 tyX0_ok nmX0 hown hK hP hD hS 0 rfl rfl 0 (by decide) (hts (.fieldLink RX0 13 "FramePool" "frameCount" "I") (by decide +kernel)) (fun _ h9 => h9) rfl hnm rfl (by decide +kernel) rfl rfl (Nat.le_of_ble_eq_true rfl) dX0_init_11 (fun Hq lq hP hD hS => ?_)
  have hP : va_P (dC, dI) vwCl [(o, .inr (0, [.int (nI (F)), .int 0, .int 0, .null, .null, .null, .null, .null, .null, .int 0, .int 0, .int 0]))] Hq := hP
  have hD : va_D A [(o, .inr (0, [.int (nI (F)), .int 0, .int 0, .null, .null, .null, .null, .null, .null, .int 0, .int 0, .int 0]))] := hD
  refine lv_aload_n hx hb dX0_init_14 rfl (lv_at hl 0 rfl) ?_
  refine lv_iload_n hx hb dX0_init_15 rfl (lv_at hl 2 rfl) ?_
  refine lv_sipush (v := nI 200) hx hb dX0_init_16 (by decide) ?_
  refine va_calli (va_runS (As := [.int y, .int (nI 200)]) (rest := [.ref o]) ⟨hx, hb, hml, hown, hts⟩ (kX0_within l y (M := 200) (by decide) (by decide)) (va_cwS 2 hts gX0_init_X0_within rfl rfl rfl (by decide +kernel) ⟨Nat.le_of_ble_eq_true rfl, Nat.le_of_ble_eq_true rfl⟩) ⟨fun a U g mk q => q, fun U hU hW => ⟨rfl, trivial⟩⟩ rfl rfl hl.1 rfl (lv_room (Nat.le_of_ble_eq_true rfl)) dX0_init_19 ⟨Nat.zero_le _, Nat.zero_le _⟩) hS (fun q _ h => h.elim) (fun q h => h.elim) (fun r19 u t Hq lq ht hvm hw hB hz1 hk1 hS => ?_)
  have hP := hP.kept (H1 := Hq) (fun k q hk => hk1 q.1 ((hP k q hk).lt) (fun z => z.elim))
  rw [← eP] at hw
  subst hw
  refine va_putF (D := (dC, dI)) (ci := 0) (v := .int (nI (P))) (ty := .int) (C := RX0) (T := TX0) (N := 12) hx hb hts hin tyX0 tyX0_ok nmX0 hown hK hP hD hS 0 rfl rfl 1 (by decide) (hts (.fieldLink RX0 17 "FramePool" "pageCount" "I") (by decide +kernel)) (fun _ h9 => h9) rfl hnm rfl (by decide +kernel) rfl rfl (Nat.le_of_ble_eq_true rfl) dX0_init_22 (fun Hq lq hP hD hS => ?_)
  have hP : va_P (dC, dI) vwCl [(o, .inr (0, [.int (nI (F)), .int (nI (P)), .int 0, .null, .null, .null, .null, .null, .null, .int 0, .int 0, .int 0]))] Hq := hP
  have hD : va_D A [(o, .inr (0, [.int (nI (F)), .int (nI (P)), .int 0, .null, .null, .null, .null, .null, .null, .int 0, .int 0, .int 0]))] := hD
  refine lv_aload_n hx hb dX0_init_25 rfl (lv_at hl 0 rfl) ?_
  refine lv_iload_n hx hb dX0_init_26 rfl (lv_at hl 3 rfl) ?_
  refine lv_bipush (v := nI 8) hx hb dX0_init_27 (by decide) ?_
  refine va_calli (va_runS (As := [.int z, .int (nI 8)]) (rest := [.ref o]) ⟨hx, hb, hml, hown, hts⟩ (kX0_within l z (M := 8) (by decide) (by decide)) (va_cwS 2 hts gX0_init_X0_within rfl rfl rfl (by decide +kernel) ⟨Nat.le_of_ble_eq_true rfl, Nat.le_of_ble_eq_true rfl⟩) ⟨fun a U g mk q => q, fun U hU hW => ⟨rfl, trivial⟩⟩ rfl rfl hl.1 rfl (lv_room (Nat.le_of_ble_eq_true rfl)) dX0_init_29 ⟨Nat.zero_le _, Nat.zero_le _⟩) hS (fun q _ h => h.elim) (fun q h => h.elim) (fun r29 u t Hq lq ht hvm hw hB hz1 hk1 hS => ?_)
  have hP := hP.kept (H1 := Hq) (fun k q hk => hk1 q.1 ((hP k q hk).lt) (fun z => z.elim))
  rw [← eV] at hw
  subst hw
  refine va_putF (D := (dC, dI)) (ci := 0) (v := .int (nI (V))) (ty := .int) (C := RX0) (T := TX0) (N := 12) hx hb hts hin tyX0 tyX0_ok nmX0 hown hK hP hD hS 0 rfl rfl 2 (by decide) (hts (.fieldLink RX0 20 "FramePool" "wordCount" "I") (by decide +kernel)) (fun _ h9 => h9) rfl hnm rfl (by decide +kernel) rfl rfl (Nat.le_of_ble_eq_true rfl) dX0_init_32 (fun Hq lq hP hD hS => ?_)
  have hP : va_P (dC, dI) vwCl [(o, .inr (0, [.int (nI (F)), .int (nI (P)), .int (nI (V)), .null, .null, .null, .null, .null, .null, .int 0, .int 0, .int 0]))] Hq := hP
  have hD : va_D A [(o, .inr (0, [.int (nI (F)), .int (nI (P)), .int (nI (V)), .null, .null, .null, .null, .null, .null, .int 0, .int 0, .int 0]))] := hD
  refine lv_aload_n hx hb dX0_init_35 rfl (lv_at hl 0 rfl) ?_
  refine lv_aload_n hx hb dX0_init_36 rfl (lv_at hl 0 rfl) ?_
  refine va_get (D := (dC, dI)) (ci := 0) (v := .int (nI (P))) (C := RX0) (T := TX0) (N := 12) hx hb hts hin hown hK hP 0 rfl rfl 1 (by decide) (hts (.fieldLink RX0 17 "FramePool" "pageCount" "I") (by decide +kernel)) (fun _ h9 => h9) rfl dX0_init_37 ?_
  refine lv_aload_n hx hb dX0_init_40 rfl (lv_at hl 0 rfl) ?_
  refine va_get (D := (dC, dI)) (ci := 0) (v := .int (nI (V))) (C := RX0) (T := TX0) (N := 12) hx hb hts hin hown hK hP 0 rfl rfl 2 (by decide) (hts (.fieldLink RX0 20 "FramePool" "wordCount" "I") (by decide +kernel)) (fun _ h9 => h9) rfl dX0_init_41 ?_
  refine lv_imul hx hb dX0_init_44 ?_
  refine z_top (nI (P * V)) (pk_mul _ _) ?_
  refine va_newa (atype := .int) (a0 := (P * V, .inl (fun _ => 0))) (N' := P * V) (ty := .int) hx hb (hts (.arrayClass .int) (by decide +kernel)) rfl hK hP hD hS hA (fun _ => rfl) (nI_pos (by omega)) (nI_clamp (by omega)) (by show (P * V) * 4 ≤ 536870912; omega) (Nat.le_of_ble_eq_true rfl) (by show _ ≤ 1984; omega) dX0_init_45 (fun q3 c3 Hq hK hP hD hS => ?_)
  have hP : va_P (dC, dI) vwCl [(o, .inr (0, [.int (nI (F)), .int (nI (P)), .int (nI (V)), .null, .null, .null, .null, .null, .null, .int 0, .int 0, .int 0])), (q3, .inl (c3, P * V, .inl (fun _ => 0)))] Hq := hP
  have hD : va_D A [(o, .inr (0, [.int (nI (F)), .int (nI (P)), .int (nI (V)), .null, .null, .null, .null, .null, .null, .int 0, .int 0, .int 0])), (q3, .inl (c3, P * V, .inl (fun _ => 0)))] := hD
  refine va_putF (D := (dC, dI)) (ci := 0) (v := .ref (q3)) (ty := .array .int) (C := RX0) (T := TX0) (N := 12) hx hb hts hin tyX0 tyX0_ok nmX0 hown hK hP hD hS 0 rfl rfl 3 (by decide) (hts (.fieldLink RX0 23 "FramePool" "diskWords" "[I") (by decide +kernel)) (fun _ h9 => h9) rfl hnm rfl (by decide +kernel) rfl rfl (Nat.le_of_ble_eq_true rfl) dX0_init_47 (fun Hq lq hP hD hS => ?_)
  have hP : va_P (dC, dI) vwCl [(o, .inr (0, [.int (nI (F)), .int (nI (P)), .int (nI (V)), .ref (q3), .null, .null, .null, .null, .null, .int 0, .int 0, .int 0])), (q3, .inl (c3, P * V, .inl (fun _ => 0)))] Hq := hP
  have hD : va_D A [(o, .inr (0, [.int (nI (F)), .int (nI (P)), .int (nI (V)), .ref (q3), .null, .null, .null, .null, .null, .int 0, .int 0, .int 0])), (q3, .inl (c3, P * V, .inl (fun _ => 0)))] := hD
  refine lv_aload_n hx hb dX0_init_50 rfl (lv_at hl 0 rfl) ?_
  refine lv_aload_n hx hb dX0_init_51 rfl (lv_at hl 0 rfl) ?_
  refine va_get (D := (dC, dI)) (ci := 0) (v := .int (nI (F))) (C := RX0) (T := TX0) (N := 12) hx hb hts hin hown hK hP 0 rfl rfl 0 (by decide) (hts (.fieldLink RX0 13 "FramePool" "frameCount" "I") (by decide +kernel)) (fun _ h9 => h9) rfl dX0_init_52 ?_
  refine lv_aload_n hx hb dX0_init_55 rfl (lv_at hl 0 rfl) ?_
  refine va_get (D := (dC, dI)) (ci := 0) (v := .int (nI (V))) (C := RX0) (T := TX0) (N := 12) hx hb hts hin hown hK hP 0 rfl rfl 2 (by decide) (hts (.fieldLink RX0 20 "FramePool" "wordCount" "I") (by decide +kernel)) (fun _ h9 => h9) rfl dX0_init_56 ?_
  refine lv_imul hx hb dX0_init_59 ?_
  refine z_top (nI (F * V)) (pk_mul _ _) ?_
  refine va_newa (atype := .int) (a0 := (F * V, .inl (fun _ => 0))) (N' := F * V) (ty := .int) hx hb (hts (.arrayClass .int) (by decide +kernel)) rfl hK hP hD hS hA (fun _ => rfl) (nI_pos (by omega)) (nI_clamp (by omega)) (by show (F * V) * 4 ≤ 536870912; omega) (Nat.le_of_ble_eq_true rfl) (by show _ ≤ 1984; omega) dX0_init_60 (fun q4 c4 Hq hK hP hD hS => ?_)
  have hP : va_P (dC, dI) vwCl [(o, .inr (0, [.int (nI (F)), .int (nI (P)), .int (nI (V)), .ref (q3), .null, .null, .null, .null, .null, .int 0, .int 0, .int 0])), (q3, .inl (c3, P * V, .inl (fun _ => 0))), (q4, .inl (c4, F * V, .inl (fun _ => 0)))] Hq := hP
  have hD : va_D A [(o, .inr (0, [.int (nI (F)), .int (nI (P)), .int (nI (V)), .ref (q3), .null, .null, .null, .null, .null, .int 0, .int 0, .int 0])), (q3, .inl (c3, P * V, .inl (fun _ => 0))), (q4, .inl (c4, F * V, .inl (fun _ => 0)))] := hD
  refine va_putF (D := (dC, dI)) (ci := 0) (v := .ref (q4)) (ty := .array .int) (C := RX0) (T := TX0) (N := 12) hx hb hts hin tyX0 tyX0_ok nmX0 hown hK hP hD hS 0 rfl rfl 4 (by decide) (hts (.fieldLink RX0 27 "FramePool" "frameWords" "[I") (by decide +kernel)) (fun _ h9 => h9) rfl hnm rfl (by decide +kernel) rfl rfl (Nat.le_of_ble_eq_true rfl) dX0_init_62 (fun Hq lq hP hD hS => ?_)
  have hP : va_P (dC, dI) vwCl [(o, .inr (0, [.int (nI (F)), .int (nI (P)), .int (nI (V)), .ref (q3), .ref (q4), .null, .null, .null, .null, .int 0, .int 0, .int 0])), (q3, .inl (c3, P * V, .inl (fun _ => 0))), (q4, .inl (c4, F * V, .inl (fun _ => 0)))] Hq := hP
  have hD : va_D A [(o, .inr (0, [.int (nI (F)), .int (nI (P)), .int (nI (V)), .ref (q3), .ref (q4), .null, .null, .null, .null, .int 0, .int 0, .int 0])), (q3, .inl (c3, P * V, .inl (fun _ => 0))), (q4, .inl (c4, F * V, .inl (fun _ => 0)))] := hD
  refine lv_aload_n hx hb dX0_init_65 rfl (lv_at hl 0 rfl) ?_
  refine lv_aload_n hx hb dX0_init_66 rfl (lv_at hl 0 rfl) ?_
  refine va_get (D := (dC, dI)) (ci := 0) (v := .int (nI (F))) (C := RX0) (T := TX0) (N := 12) hx hb hts hin hown hK hP 0 rfl rfl 0 (by decide) (hts (.fieldLink RX0 13 "FramePool" "frameCount" "I") (by decide +kernel)) (fun _ h9 => h9) rfl dX0_init_67 ?_
  refine va_newa (atype := .int) (a0 := (F, .inl (fun _ => 0))) (N' := F) (ty := .int) hx hb (hts (.arrayClass .int) (by decide +kernel)) rfl hK hP hD hS hA (fun _ => rfl) (nI_pos (by omega)) (nI_clamp (by omega)) (by show F * 4 ≤ 536870912; omega) (Nat.le_of_ble_eq_true rfl) (by show _ ≤ 1984; omega) dX0_init_70 (fun q5 c5 Hq hK hP hD hS => ?_)
  have hP : va_P (dC, dI) vwCl [(o, .inr (0, [.int (nI (F)), .int (nI (P)), .int (nI (V)), .ref (q3), .ref (q4), .null, .null, .null, .null, .int 0, .int 0, .int 0])), (q3, .inl (c3, P * V, .inl (fun _ => 0))), (q4, .inl (c4, F * V, .inl (fun _ => 0))), (q5, .inl (c5, F, .inl (fun _ => 0)))] Hq := hP
  have hD : va_D A [(o, .inr (0, [.int (nI (F)), .int (nI (P)), .int (nI (V)), .ref (q3), .ref (q4), .null, .null, .null, .null, .int 0, .int 0, .int 0])), (q3, .inl (c3, P * V, .inl (fun _ => 0))), (q4, .inl (c4, F * V, .inl (fun _ => 0))), (q5, .inl (c5, F, .inl (fun _ => 0)))] := hD
  refine va_putF (D := (dC, dI)) (ci := 0) (v := .ref (q5)) (ty := .array .int) (C := RX0) (T := TX0) (N := 12) hx hb hts hin tyX0 tyX0_ok nmX0 hown hK hP hD hS 0 rfl rfl 5 (by decide) (hts (.fieldLink RX0 30 "FramePool" "pageIn" "[I") (by decide +kernel)) (fun _ h9 => h9) rfl hnm rfl (by decide +kernel) rfl rfl (Nat.le_of_ble_eq_true rfl) dX0_init_72 (fun Hq lq hP hD hS => ?_)
  have hP : va_P (dC, dI) vwCl [(o, .inr (0, [.int (nI (F)), .int (nI (P)), .int (nI (V)), .ref (q3), .ref (q4), .ref (q5), .null, .null, .null, .int 0, .int 0, .int 0])), (q3, .inl (c3, P * V, .inl (fun _ => 0))), (q4, .inl (c4, F * V, .inl (fun _ => 0))), (q5, .inl (c5, F, .inl (fun _ => 0)))] Hq := hP
  have hD : va_D A [(o, .inr (0, [.int (nI (F)), .int (nI (P)), .int (nI (V)), .ref (q3), .ref (q4), .ref (q5), .null, .null, .null, .int 0, .int 0, .int 0])), (q3, .inl (c3, P * V, .inl (fun _ => 0))), (q4, .inl (c4, F * V, .inl (fun _ => 0))), (q5, .inl (c5, F, .inl (fun _ => 0)))] := hD
  refine lv_aload_n hx hb dX0_init_75 rfl (lv_at hl 0 rfl) ?_
  refine lv_aload_n hx hb dX0_init_76 rfl (lv_at hl 0 rfl) ?_
  refine va_get (D := (dC, dI)) (ci := 0) (v := .int (nI (F))) (C := RX0) (T := TX0) (N := 12) hx hb hts hin hown hK hP 0 rfl rfl 0 (by decide) (hts (.fieldLink RX0 13 "FramePool" "frameCount" "I") (by decide +kernel)) (fun _ h9 => h9) rfl dX0_init_77 ?_
  refine va_newa (atype := .int) (a0 := (F, .inl (fun _ => 0))) (N' := F) (ty := .int) hx hb (hts (.arrayClass .int) (by decide +kernel)) rfl hK hP hD hS hA (fun _ => rfl) (nI_pos (by omega)) (nI_clamp (by omega)) (by show F * 4 ≤ 536870912; omega) (Nat.le_of_ble_eq_true rfl) (by show _ ≤ 1984; omega) dX0_init_80 (fun q6 c6 Hq hK hP hD hS => ?_)
  have hP : va_P (dC, dI) vwCl [(o, .inr (0, [.int (nI (F)), .int (nI (P)), .int (nI (V)), .ref (q3), .ref (q4), .ref (q5), .null, .null, .null, .int 0, .int 0, .int 0])), (q3, .inl (c3, P * V, .inl (fun _ => 0))), (q4, .inl (c4, F * V, .inl (fun _ => 0))), (q5, .inl (c5, F, .inl (fun _ => 0))), (q6, .inl (c6, F, .inl (fun _ => 0)))] Hq := hP
  have hD : va_D A [(o, .inr (0, [.int (nI (F)), .int (nI (P)), .int (nI (V)), .ref (q3), .ref (q4), .ref (q5), .null, .null, .null, .int 0, .int 0, .int 0])), (q3, .inl (c3, P * V, .inl (fun _ => 0))), (q4, .inl (c4, F * V, .inl (fun _ => 0))), (q5, .inl (c5, F, .inl (fun _ => 0))), (q6, .inl (c6, F, .inl (fun _ => 0)))] := hD
  refine va_putF (D := (dC, dI)) (ci := 0) (v := .ref (q6)) (ty := .array .int) (C := RX0) (T := TX0) (N := 12) hx hb hts hin tyX0 tyX0_ok nmX0 hown hK hP hD hS 0 rfl rfl 6 (by decide) (hts (.fieldLink RX0 33 "FramePool" "pins" "[I") (by decide +kernel)) (fun _ h9 => h9) rfl hnm rfl (by decide +kernel) rfl rfl (Nat.le_of_ble_eq_true rfl) dX0_init_82 (fun Hq lq hP hD hS => ?_)
  have hP : va_P (dC, dI) vwCl [(o, .inr (0, [.int (nI (F)), .int (nI (P)), .int (nI (V)), .ref (q3), .ref (q4), .ref (q5), .ref (q6), .null, .null, .int 0, .int 0, .int 0])), (q3, .inl (c3, P * V, .inl (fun _ => 0))), (q4, .inl (c4, F * V, .inl (fun _ => 0))), (q5, .inl (c5, F, .inl (fun _ => 0))), (q6, .inl (c6, F, .inl (fun _ => 0)))] Hq := hP
  have hD : va_D A [(o, .inr (0, [.int (nI (F)), .int (nI (P)), .int (nI (V)), .ref (q3), .ref (q4), .ref (q5), .ref (q6), .null, .null, .int 0, .int 0, .int 0])), (q3, .inl (c3, P * V, .inl (fun _ => 0))), (q4, .inl (c4, F * V, .inl (fun _ => 0))), (q5, .inl (c5, F, .inl (fun _ => 0))), (q6, .inl (c6, F, .inl (fun _ => 0)))] := hD
  refine lv_aload_n hx hb dX0_init_85 rfl (lv_at hl 0 rfl) ?_
  refine lv_aload_n hx hb dX0_init_86 rfl (lv_at hl 0 rfl) ?_
  refine va_get (D := (dC, dI)) (ci := 0) (v := .int (nI (F))) (C := RX0) (T := TX0) (N := 12) hx hb hts hin hown hK hP 0 rfl rfl 0 (by decide) (hts (.fieldLink RX0 13 "FramePool" "frameCount" "I") (by decide +kernel)) (fun _ h9 => h9) rfl dX0_init_87 ?_
  refine va_newa (atype := .boolean) (a0 := (F, .inl (fun _ => 0))) (N' := F) (ty := .boolean) hx hb (hts (.arrayClass .boolean) (by decide +kernel)) rfl hK hP hD hS hA (fun _ => rfl) (nI_pos (by omega)) (nI_clamp (by omega)) (by show F * 1 ≤ 536870912; omega) (Nat.le_of_ble_eq_true rfl) (by show _ ≤ 1984; omega) dX0_init_90 (fun q7 c7 Hq hK hP hD hS => ?_)
  have hP : va_P (dC, dI) vwCl [(o, .inr (0, [.int (nI (F)), .int (nI (P)), .int (nI (V)), .ref (q3), .ref (q4), .ref (q5), .ref (q6), .null, .null, .int 0, .int 0, .int 0])), (q3, .inl (c3, P * V, .inl (fun _ => 0))), (q4, .inl (c4, F * V, .inl (fun _ => 0))), (q5, .inl (c5, F, .inl (fun _ => 0))), (q6, .inl (c6, F, .inl (fun _ => 0))), (q7, .inl (c7, F, .inl (fun _ => 0)))] Hq := hP
  have hD : va_D A [(o, .inr (0, [.int (nI (F)), .int (nI (P)), .int (nI (V)), .ref (q3), .ref (q4), .ref (q5), .ref (q6), .null, .null, .int 0, .int 0, .int 0])), (q3, .inl (c3, P * V, .inl (fun _ => 0))), (q4, .inl (c4, F * V, .inl (fun _ => 0))), (q5, .inl (c5, F, .inl (fun _ => 0))), (q6, .inl (c6, F, .inl (fun _ => 0))), (q7, .inl (c7, F, .inl (fun _ => 0)))] := hD
  refine va_putF (D := (dC, dI)) (ci := 0) (v := .ref (q7)) (ty := .array .boolean) (C := RX0) (T := TX0) (N := 12) hx hb hts hin tyX0 tyX0_ok nmX0 hown hK hP hD hS 0 rfl rfl 7 (by decide) (hts (.fieldLink RX0 36 "FramePool" "dirty" "[Z") (by decide +kernel)) (fun _ h9 => h9) rfl hnm rfl (by decide +kernel) rfl rfl (Nat.le_of_ble_eq_true rfl) dX0_init_92 (fun Hq lq hP hD hS => ?_)
  have hP : va_P (dC, dI) vwCl [(o, .inr (0, [.int (nI (F)), .int (nI (P)), .int (nI (V)), .ref (q3), .ref (q4), .ref (q5), .ref (q6), .ref (q7), .null, .int 0, .int 0, .int 0])), (q3, .inl (c3, P * V, .inl (fun _ => 0))), (q4, .inl (c4, F * V, .inl (fun _ => 0))), (q5, .inl (c5, F, .inl (fun _ => 0))), (q6, .inl (c6, F, .inl (fun _ => 0))), (q7, .inl (c7, F, .inl (fun _ => 0)))] Hq := hP
  have hD : va_D A [(o, .inr (0, [.int (nI (F)), .int (nI (P)), .int (nI (V)), .ref (q3), .ref (q4), .ref (q5), .ref (q6), .ref (q7), .null, .int 0, .int 0, .int 0])), (q3, .inl (c3, P * V, .inl (fun _ => 0))), (q4, .inl (c4, F * V, .inl (fun _ => 0))), (q5, .inl (c5, F, .inl (fun _ => 0))), (q6, .inl (c6, F, .inl (fun _ => 0))), (q7, .inl (c7, F, .inl (fun _ => 0)))] := hD
  refine lv_aload_n hx hb dX0_init_95 rfl (lv_at hl 0 rfl) ?_
  refine lv_aload_n hx hb dX0_init_96 rfl (lv_at hl 0 rfl) ?_
  refine va_get (D := (dC, dI)) (ci := 0) (v := .int (nI (F))) (C := RX0) (T := TX0) (N := 12) hx hb hts hin hown hK hP 0 rfl rfl 0 (by decide) (hts (.fieldLink RX0 13 "FramePool" "frameCount" "I") (by decide +kernel)) (fun _ h9 => h9) rfl dX0_init_97 ?_
  refine va_newa (atype := .boolean) (a0 := (F, .inl (fun _ => 0))) (N' := F) (ty := .boolean) hx hb (hts (.arrayClass .boolean) (by decide +kernel)) rfl hK hP hD hS hA (fun _ => rfl) (nI_pos (by omega)) (nI_clamp (by omega)) (by show F * 1 ≤ 536870912; omega) (Nat.le_of_ble_eq_true rfl) (by show _ ≤ 1984; omega) dX0_init_100 (fun q8 c8 Hq hK hP hD hS => ?_)
  have hP : va_P (dC, dI) vwCl [(o, .inr (0, [.int (nI (F)), .int (nI (P)), .int (nI (V)), .ref (q3), .ref (q4), .ref (q5), .ref (q6), .ref (q7), .null, .int 0, .int 0, .int 0])), (q3, .inl (c3, P * V, .inl (fun _ => 0))), (q4, .inl (c4, F * V, .inl (fun _ => 0))), (q5, .inl (c5, F, .inl (fun _ => 0))), (q6, .inl (c6, F, .inl (fun _ => 0))), (q7, .inl (c7, F, .inl (fun _ => 0))), (q8, .inl (c8, F, .inl (fun _ => 0)))] Hq := hP
  have hD : va_D A [(o, .inr (0, [.int (nI (F)), .int (nI (P)), .int (nI (V)), .ref (q3), .ref (q4), .ref (q5), .ref (q6), .ref (q7), .null, .int 0, .int 0, .int 0])), (q3, .inl (c3, P * V, .inl (fun _ => 0))), (q4, .inl (c4, F * V, .inl (fun _ => 0))), (q5, .inl (c5, F, .inl (fun _ => 0))), (q6, .inl (c6, F, .inl (fun _ => 0))), (q7, .inl (c7, F, .inl (fun _ => 0))), (q8, .inl (c8, F, .inl (fun _ => 0)))] := hD
  refine va_putF (D := (dC, dI)) (ci := 0) (v := .ref (q8)) (ty := .array .boolean) (C := RX0) (T := TX0) (N := 12) hx hb hts hin tyX0 tyX0_ok nmX0 hown hK hP hD hS 0 rfl rfl 8 (by decide) (hts (.fieldLink RX0 40 "FramePool" "marked" "[Z") (by decide +kernel)) (fun _ h9 => h9) rfl hnm rfl (by decide +kernel) rfl rfl (Nat.le_of_ble_eq_true rfl) dX0_init_102 (fun Hq lq hP hD hS => ?_)
  have hP : va_P (dC, dI) vwCl [(o, .inr (0, [.int (nI (F)), .int (nI (P)), .int (nI (V)), .ref (q3), .ref (q4), .ref (q5), .ref (q6), .ref (q7), .ref (q8), .int 0, .int 0, .int 0])), (q3, .inl (c3, P * V, .inl (fun _ => 0))), (q4, .inl (c4, F * V, .inl (fun _ => 0))), (q5, .inl (c5, F, .inl (fun _ => 0))), (q6, .inl (c6, F, .inl (fun _ => 0))), (q7, .inl (c7, F, .inl (fun _ => 0))), (q8, .inl (c8, F, .inl (fun _ => 0)))] Hq := hP
  have hD : va_D A [(o, .inr (0, [.int (nI (F)), .int (nI (P)), .int (nI (V)), .ref (q3), .ref (q4), .ref (q5), .ref (q6), .ref (q7), .ref (q8), .int 0, .int 0, .int 0])), (q3, .inl (c3, P * V, .inl (fun _ => 0))), (q4, .inl (c4, F * V, .inl (fun _ => 0))), (q5, .inl (c5, F, .inl (fun _ => 0))), (q6, .inl (c6, F, .inl (fun _ => 0))), (q7, .inl (c7, F, .inl (fun _ => 0))), (q8, .inl (c8, F, .inl (fun _ => 0)))] := hD
  obtain rfl : c4 = c3 := Option.some.inj ((va_nm_int (hK.2 1 _ rfl).2).symm.trans (va_nm_int (hK.2 0 _ rfl).2))
  obtain rfl : c5 = c4 := Option.some.inj ((va_nm_int (hK.2 2 _ rfl).2).symm.trans (va_nm_int (hK.2 0 _ rfl).2))
  obtain rfl : c6 = c5 := Option.some.inj ((va_nm_int (hK.2 3 _ rfl).2).symm.trans (va_nm_int (hK.2 0 _ rfl).2))
  obtain rfl : c8 = c7 := Option.some.inj ((va_nm_boolean (hK.2 5 _ rfl).2).symm.trans (va_nm_boolean (hK.2 4 _ rfl).2))
  obtain ⟨g, eg⟩ : ∃ g : GE, g = ((F, P, V, V), (P * V, F * V, F), (c6, c8), (o, q3, q4, q5, q6, q7, q8)) := ⟨_, rfl⟩
  have hg : gok g := by rw [eg]; exact ⟨F1, F2, P1, P2, V1, V2, Nat.le_refl _, Nat.le_refl _, Nat.le_refl _, Nat.le_refl _, hPV, hFV, F2⟩
  have Y : zW dC dI 0 g A s.heap s u00 Hq lq := by rw [eg]; exact ⟨hK.sub [0, 4] rfl, hP, hD, hS, hA⟩
  have Z : zC p s m (Value.ref o :: [.int x, .int y, .int z]).toArray meth c cX0_init 4 none wsX0_init RX0 := ⟨hx, hb, hml, hown, hts, hr, hlocks⟩
  have ho : o = ga0 g := by rw [eg]
  have hl0 : lv_has ls 4 [(0, .ref (ga0 g))] := by rw [← ho]; exact lv_sub hl [0] rfl
  refine lv_aload_n hx hb dX0_init_105 rfl (lv_at hl0 0 rfl) ?_
  refine z_callV (rest := []) Z Y rfl (kX0_init_ l dC dI hg u00) (cwV 0 hts gX0_init_X0_init_ rfl rfl rfl (by decide +kernel) ⟨Nat.le_of_ble_eq_true rfl, Nat.le_of_ble_eq_true rfl⟩) rfl hl.1 rfl (Nat.le_of_ble_eq_true rfl) dX0_init_106 ⟨Nat.le_of_ble_eq_true rfl, by show _ ≤ 1984; omega⟩ (fun u1 Hq lq hw Y => ?_)
  refine W.widen (k := 6) (n := 1984) (by decide) (by omega) ?_
  obtain ⟨hK1, hP1, hD1, hS1, -⟩ := Y
  have hpost : geF g = clp x 32 ∧ geP g = clp y 200 ∧ geW g = clp z 8 ∧ geS g = geW g ∧ Rep g 0 a00 u1 := by
    refine ⟨by rw [eg]; exact eF, by rw [eg]; exact eP, by rw [eg]; exact eV, by rw [eg], ini_Rep (n := geF g) (a := (fun _ _ => nI 0, fun _ _ => nI 0, fun _ => nI 0, fun _ => 0, fun _ => nI 0, fun _ => nI 0, 0, nI 0, nI 0)) hg (Nat.le_refl _) (by decide) (fun f _ o _ => nI_0.symm) hw⟩
  exact W.vret hx hb hr (fun t ht hW => ⟨⟨(g, u1), rfl, ⟨ho.symm, hpost⟩, by rw [ht]; exact hP1, va_K.moved hW.alike hK1, hD1⟩, hS1.F ht⟩) hS1.2.2 dX0_init_109

theorem z_clp {p : Program} {l : Launch} {e : Env} {R : Room} {s : State} {m : MethodId} {args : Array Value} {below : List Frame} {meth : Method} {c : Code} {H : Heap} {locs : List Loc} {cells slots : Nat} {Q : State → Prop} {pc j : Nat} {ls : Array Slot} {rest : List Value} {x : Int32} {M : Nat}
    (h1 : (∀ v : Int32, v = nI (clp x M) → W p l e R s m args below meth c H locs cells slots Q (F0 m j ls (.int v :: rest))) → W p l e R s m args below meth c H locs cells slots Q (F0 m pc ls rest)) (h2 : W p l e R s m args below meth c H locs cells slots Q (F0 m j ls (.int (nI (clp x M)) :: rest))) : W p l e R s m args below meth c H locs cells slots Q (F0 m pc ls rest) :=
  h1 (fun v hv => by rw [hv]; exact h2)

set_option maxHeartbeats 800000 in
set_option maxRecDepth 100000 in
theorem kX1_init (l : Launch) (dC : Nat → ClassId) (dI : Nat → Nat → Nat) (o : Nat) (x y z : Int32) : zMC l yX1_init wsX1_init ({ frames := 2, cells := 6, slots := 1984, locals := 42 }) dC dI 1 o [.int x, .int y, .int z] (fun g u1 => geF g = clp x 32 ∧ geP g = clp y 200 ∧ geW g = clp z 8 ∧ geS g = 8 ∧ gn3 g = 1600 ∧ gn5 g = 32 ∧ Rep g 0 a00 u1) := by
  refine zMC_of (cc := cX1_init) (maxL := 4) (by decide) rfl rfl (Nat.le_of_ble_eq_true rfl) ?_
  intro p e s m below meth c A ls Z hnm hP hK hD hA hl
  obtain ⟨hx, hb, hml, hown, hts, hr, hlocks⟩ := id Z
  have hown : s.vm.findClass RX1 = some m.cls := hown
  have hin : ∀ w ∈ wsX10, w ∈ wsX1_init := fun w h => List.mem_cons_of_mem _ (List.mem_append_right _ h)
  have hS : va_S A s.heap s.heap [] := va_S.rf
  have hl : lv_has ls 4 [(0, .ref o), (1, .int x), (2, .int y), (3, .int z)] := hl
  obtain ⟨F, eF⟩ : ∃ F, F = clp x 32 := ⟨_, rfl⟩
  obtain ⟨P, eP⟩ : ∃ P, P = clp y 200 := ⟨_, rfl⟩
  obtain ⟨V, eV⟩ : ∃ V, V = clp z 8 := ⟨_, rfl⟩
  obtain ⟨F1, F2⟩ : 1 ≤ F ∧ F ≤ 32 := by rw [eF]; exact clp_in (by decide) (by decide)
  obtain ⟨P1, P2⟩ : 1 ≤ P ∧ P ≤ 200 := by rw [eP]; exact clp_in (by decide) (by decide)
  obtain ⟨V1, V2⟩ : 1 ≤ V ∧ V ≤ 8 := by rw [eV]; exact clp_in (by decide) (by decide)
  have hPV : P * V ≤ 1600 := Nat.le_trans (Nat.mul_le_mul P2 V2) (by decide)
  have hFV : F * V ≤ 256 := Nat.le_trans (Nat.mul_le_mul F2 V2) (by decide)
  refine lv_aload_n hx hb dX1_init_0 rfl (lv_at hl 0 rfl) ?_
  refine W.objInit hx hb hown (hts _ (List.mem_of_getElem? (i := 1) rfl)) (hts _ (List.mem_of_getElem? (i := 2) rfl)) (hts _ (List.mem_of_getElem? (i := 3) rfl)) rfl (by rw [hml]; exact hl.1) rfl dX1_init_1 (Nat.le_of_ble_eq_true rfl) (Nat.le_of_ble_eq_true rfl) ?_
  refine W.eq (g2 := F0 m 4 ls []) rfl ?_
  refine lv_aload_n hx hb dX1_init_4 rfl (lv_at hl 0 rfl) ?_
  refine lv_sipush (v := nI 1600) hx hb dX1_init_5 (by decide) ?_
  refine va_newa (atype := .int) (a0 := (1600, .inl (fun _ => 0))) (N' := 1600) (ty := .int) hx hb (hts (.arrayClass .int) (by decide +kernel)) rfl hK hP hD hS hA (fun _ => rfl) (nI_pos (by omega)) (nI_clamp (by omega)) (by show 1600 * 4 ≤ 536870912; omega) (Nat.le_of_ble_eq_true rfl) (by show _ ≤ 1984; omega) dX1_init_8 (fun q3 c3 Hq hK hP hD hS => ?_)
  have hP : va_P (dC, dI) vwCl [(o, .inr (1, [.int 0, .int 0, .int 0, .null, .null, .null, .null, .null, .null, .int 0, .int 0, .int 0])), (q3, .inl (c3, 1600, .inl (fun _ => 0)))] Hq := hP
  have hD : va_D A [(o, .inr (1, [.int 0, .int 0, .int 0, .null, .null, .null, .null, .null, .null, .int 0, .int 0, .int 0])), (q3, .inl (c3, 1600, .inl (fun _ => 0)))] := hD
  refine va_putF (D := (dC, dI)) (ci := 1) (v := .ref (q3)) (ty := .array .int) (C := RX1) (T := TX1) (N := 12) hx hb hts hin tyX1 tyX1_ok nmX1 hown hK hP hD hS 0 rfl rfl 3 (by decide) (hts (.fieldLink RX1 7 "FramePoolModel" "disk" "[I") (by decide +kernel)) (fun _ h9 => h9) rfl hnm rfl (by decide +kernel) rfl rfl (Nat.le_of_ble_eq_true rfl) dX1_init_10 (fun Hq lq hP hD hS => ?_)
  have hP : va_P (dC, dI) vwCl [(o, .inr (1, [.int 0, .int 0, .int 0, .ref (q3), .null, .null, .null, .null, .null, .int 0, .int 0, .int 0])), (q3, .inl (c3, 1600, .inl (fun _ => 0)))] Hq := hP
  have hD : va_D A [(o, .inr (1, [.int 0, .int 0, .int 0, .ref (q3), .null, .null, .null, .null, .null, .int 0, .int 0, .int 0])), (q3, .inl (c3, 1600, .inl (fun _ => 0)))] := hD
  refine lv_aload_n hx hb dX1_init_13 rfl (lv_at hl 0 rfl) ?_
  refine lv_sipush (v := nI 256) hx hb dX1_init_14 (by decide) ?_
  refine va_newa (atype := .int) (a0 := (256, .inl (fun _ => 0))) (N' := 256) (ty := .int) hx hb (hts (.arrayClass .int) (by decide +kernel)) rfl hK hP hD hS hA (fun _ => rfl) (nI_pos (by omega)) (nI_clamp (by omega)) (by show 256 * 4 ≤ 536870912; omega) (Nat.le_of_ble_eq_true rfl) (by show _ ≤ 1984; omega) dX1_init_17 (fun q4 c4 Hq hK hP hD hS => ?_)
  have hP : va_P (dC, dI) vwCl [(o, .inr (1, [.int 0, .int 0, .int 0, .ref (q3), .null, .null, .null, .null, .null, .int 0, .int 0, .int 0])), (q3, .inl (c3, 1600, .inl (fun _ => 0))), (q4, .inl (c4, 256, .inl (fun _ => 0)))] Hq := hP
  have hD : va_D A [(o, .inr (1, [.int 0, .int 0, .int 0, .ref (q3), .null, .null, .null, .null, .null, .int 0, .int 0, .int 0])), (q3, .inl (c3, 1600, .inl (fun _ => 0))), (q4, .inl (c4, 256, .inl (fun _ => 0)))] := hD
  refine va_putF (D := (dC, dI)) (ci := 1) (v := .ref (q4)) (ty := .array .int) (C := RX1) (T := TX1) (N := 12) hx hb hts hin tyX1 tyX1_ok nmX1 hown hK hP hD hS 0 rfl rfl 4 (by decide) (hts (.fieldLink RX1 13 "FramePoolModel" "memory" "[I") (by decide +kernel)) (fun _ h9 => h9) rfl hnm rfl (by decide +kernel) rfl rfl (Nat.le_of_ble_eq_true rfl) dX1_init_19 (fun Hq lq hP hD hS => ?_)
  have hP : va_P (dC, dI) vwCl [(o, .inr (1, [.int 0, .int 0, .int 0, .ref (q3), .ref (q4), .null, .null, .null, .null, .int 0, .int 0, .int 0])), (q3, .inl (c3, 1600, .inl (fun _ => 0))), (q4, .inl (c4, 256, .inl (fun _ => 0)))] Hq := hP
  have hD : va_D A [(o, .inr (1, [.int 0, .int 0, .int 0, .ref (q3), .ref (q4), .null, .null, .null, .null, .int 0, .int 0, .int 0])), (q3, .inl (c3, 1600, .inl (fun _ => 0))), (q4, .inl (c4, 256, .inl (fun _ => 0)))] := hD
  refine lv_aload_n hx hb dX1_init_22 rfl (lv_at hl 0 rfl) ?_
  refine lv_bipush (v := nI 32) hx hb dX1_init_23 (by decide) ?_
  refine va_newa (atype := .int) (a0 := (32, .inl (fun _ => 0))) (N' := 32) (ty := .int) hx hb (hts (.arrayClass .int) (by decide +kernel)) rfl hK hP hD hS hA (fun _ => rfl) (nI_pos (by omega)) (nI_clamp (by omega)) (by show 32 * 4 ≤ 536870912; omega) (Nat.le_of_ble_eq_true rfl) (by show _ ≤ 1984; omega) dX1_init_25 (fun q5 c5 Hq hK hP hD hS => ?_)
  have hP : va_P (dC, dI) vwCl [(o, .inr (1, [.int 0, .int 0, .int 0, .ref (q3), .ref (q4), .null, .null, .null, .null, .int 0, .int 0, .int 0])), (q3, .inl (c3, 1600, .inl (fun _ => 0))), (q4, .inl (c4, 256, .inl (fun _ => 0))), (q5, .inl (c5, 32, .inl (fun _ => 0)))] Hq := hP
  have hD : va_D A [(o, .inr (1, [.int 0, .int 0, .int 0, .ref (q3), .ref (q4), .null, .null, .null, .null, .int 0, .int 0, .int 0])), (q3, .inl (c3, 1600, .inl (fun _ => 0))), (q4, .inl (c4, 256, .inl (fun _ => 0))), (q5, .inl (c5, 32, .inl (fun _ => 0)))] := hD
  refine va_putF (D := (dC, dI)) (ci := 1) (v := .ref (q5)) (ty := .array .int) (C := RX1) (T := TX1) (N := 12) hx hb hts hin tyX1 tyX1_ok nmX1 hown hK hP hD hS 0 rfl rfl 5 (by decide) (hts (.fieldLink RX1 16 "FramePoolModel" "page" "[I") (by decide +kernel)) (fun _ h9 => h9) rfl hnm rfl (by decide +kernel) rfl rfl (Nat.le_of_ble_eq_true rfl) dX1_init_27 (fun Hq lq hP hD hS => ?_)
  have hP : va_P (dC, dI) vwCl [(o, .inr (1, [.int 0, .int 0, .int 0, .ref (q3), .ref (q4), .ref (q5), .null, .null, .null, .int 0, .int 0, .int 0])), (q3, .inl (c3, 1600, .inl (fun _ => 0))), (q4, .inl (c4, 256, .inl (fun _ => 0))), (q5, .inl (c5, 32, .inl (fun _ => 0)))] Hq := hP
  have hD : va_D A [(o, .inr (1, [.int 0, .int 0, .int 0, .ref (q3), .ref (q4), .ref (q5), .null, .null, .null, .int 0, .int 0, .int 0])), (q3, .inl (c3, 1600, .inl (fun _ => 0))), (q4, .inl (c4, 256, .inl (fun _ => 0))), (q5, .inl (c5, 32, .inl (fun _ => 0)))] := hD
  refine lv_aload_n hx hb dX1_init_30 rfl (lv_at hl 0 rfl) ?_
  refine lv_bipush (v := nI 32) hx hb dX1_init_31 (by decide) ?_
  refine va_newa (atype := .int) (a0 := (32, .inl (fun _ => 0))) (N' := 32) (ty := .int) hx hb (hts (.arrayClass .int) (by decide +kernel)) rfl hK hP hD hS hA (fun _ => rfl) (nI_pos (by omega)) (nI_clamp (by omega)) (by show 32 * 4 ≤ 536870912; omega) (Nat.le_of_ble_eq_true rfl) (by show _ ≤ 1984; omega) dX1_init_33 (fun q6 c6 Hq hK hP hD hS => ?_)
  have hP : va_P (dC, dI) vwCl [(o, .inr (1, [.int 0, .int 0, .int 0, .ref (q3), .ref (q4), .ref (q5), .null, .null, .null, .int 0, .int 0, .int 0])), (q3, .inl (c3, 1600, .inl (fun _ => 0))), (q4, .inl (c4, 256, .inl (fun _ => 0))), (q5, .inl (c5, 32, .inl (fun _ => 0))), (q6, .inl (c6, 32, .inl (fun _ => 0)))] Hq := hP
  have hD : va_D A [(o, .inr (1, [.int 0, .int 0, .int 0, .ref (q3), .ref (q4), .ref (q5), .null, .null, .null, .int 0, .int 0, .int 0])), (q3, .inl (c3, 1600, .inl (fun _ => 0))), (q4, .inl (c4, 256, .inl (fun _ => 0))), (q5, .inl (c5, 32, .inl (fun _ => 0))), (q6, .inl (c6, 32, .inl (fun _ => 0)))] := hD
  refine va_putF (D := (dC, dI)) (ci := 1) (v := .ref (q6)) (ty := .array .int) (C := RX1) (T := TX1) (N := 12) hx hb hts hin tyX1 tyX1_ok nmX1 hown hK hP hD hS 0 rfl rfl 6 (by decide) (hts (.fieldLink RX1 19 "FramePoolModel" "pins" "[I") (by decide +kernel)) (fun _ h9 => h9) rfl hnm rfl (by decide +kernel) rfl rfl (Nat.le_of_ble_eq_true rfl) dX1_init_35 (fun Hq lq hP hD hS => ?_)
  have hP : va_P (dC, dI) vwCl [(o, .inr (1, [.int 0, .int 0, .int 0, .ref (q3), .ref (q4), .ref (q5), .ref (q6), .null, .null, .int 0, .int 0, .int 0])), (q3, .inl (c3, 1600, .inl (fun _ => 0))), (q4, .inl (c4, 256, .inl (fun _ => 0))), (q5, .inl (c5, 32, .inl (fun _ => 0))), (q6, .inl (c6, 32, .inl (fun _ => 0)))] Hq := hP
  have hD : va_D A [(o, .inr (1, [.int 0, .int 0, .int 0, .ref (q3), .ref (q4), .ref (q5), .ref (q6), .null, .null, .int 0, .int 0, .int 0])), (q3, .inl (c3, 1600, .inl (fun _ => 0))), (q4, .inl (c4, 256, .inl (fun _ => 0))), (q5, .inl (c5, 32, .inl (fun _ => 0))), (q6, .inl (c6, 32, .inl (fun _ => 0)))] := hD
  refine lv_aload_n hx hb dX1_init_38 rfl (lv_at hl 0 rfl) ?_
  refine lv_bipush (v := nI 32) hx hb dX1_init_39 (by decide) ?_
  refine va_newa (atype := .boolean) (a0 := (32, .inl (fun _ => 0))) (N' := 32) (ty := .boolean) hx hb (hts (.arrayClass .boolean) (by decide +kernel)) rfl hK hP hD hS hA (fun _ => rfl) (nI_pos (by omega)) (nI_clamp (by omega)) (by show 32 * 1 ≤ 536870912; omega) (Nat.le_of_ble_eq_true rfl) (by show _ ≤ 1984; omega) dX1_init_41 (fun q7 c7 Hq hK hP hD hS => ?_)
  have hP : va_P (dC, dI) vwCl [(o, .inr (1, [.int 0, .int 0, .int 0, .ref (q3), .ref (q4), .ref (q5), .ref (q6), .null, .null, .int 0, .int 0, .int 0])), (q3, .inl (c3, 1600, .inl (fun _ => 0))), (q4, .inl (c4, 256, .inl (fun _ => 0))), (q5, .inl (c5, 32, .inl (fun _ => 0))), (q6, .inl (c6, 32, .inl (fun _ => 0))), (q7, .inl (c7, 32, .inl (fun _ => 0)))] Hq := hP
  have hD : va_D A [(o, .inr (1, [.int 0, .int 0, .int 0, .ref (q3), .ref (q4), .ref (q5), .ref (q6), .null, .null, .int 0, .int 0, .int 0])), (q3, .inl (c3, 1600, .inl (fun _ => 0))), (q4, .inl (c4, 256, .inl (fun _ => 0))), (q5, .inl (c5, 32, .inl (fun _ => 0))), (q6, .inl (c6, 32, .inl (fun _ => 0))), (q7, .inl (c7, 32, .inl (fun _ => 0)))] := hD
  refine va_putF (D := (dC, dI)) (ci := 1) (v := .ref (q7)) (ty := .array .boolean) (C := RX1) (T := TX1) (N := 12) hx hb hts hin tyX1 tyX1_ok nmX1 hown hK hP hD hS 0 rfl rfl 7 (by decide) (hts (.fieldLink RX1 22 "FramePoolModel" "dirty" "[Z") (by decide +kernel)) (fun _ h9 => h9) rfl hnm rfl (by decide +kernel) rfl rfl (Nat.le_of_ble_eq_true rfl) dX1_init_43 (fun Hq lq hP hD hS => ?_)
  have hP : va_P (dC, dI) vwCl [(o, .inr (1, [.int 0, .int 0, .int 0, .ref (q3), .ref (q4), .ref (q5), .ref (q6), .ref (q7), .null, .int 0, .int 0, .int 0])), (q3, .inl (c3, 1600, .inl (fun _ => 0))), (q4, .inl (c4, 256, .inl (fun _ => 0))), (q5, .inl (c5, 32, .inl (fun _ => 0))), (q6, .inl (c6, 32, .inl (fun _ => 0))), (q7, .inl (c7, 32, .inl (fun _ => 0)))] Hq := hP
  have hD : va_D A [(o, .inr (1, [.int 0, .int 0, .int 0, .ref (q3), .ref (q4), .ref (q5), .ref (q6), .ref (q7), .null, .int 0, .int 0, .int 0])), (q3, .inl (c3, 1600, .inl (fun _ => 0))), (q4, .inl (c4, 256, .inl (fun _ => 0))), (q5, .inl (c5, 32, .inl (fun _ => 0))), (q6, .inl (c6, 32, .inl (fun _ => 0))), (q7, .inl (c7, 32, .inl (fun _ => 0)))] := hD
  refine lv_aload_n hx hb dX1_init_46 rfl (lv_at hl 0 rfl) ?_
  refine lv_bipush (v := nI 32) hx hb dX1_init_47 (by decide) ?_
  refine va_newa (atype := .boolean) (a0 := (32, .inl (fun _ => 0))) (N' := 32) (ty := .boolean) hx hb (hts (.arrayClass .boolean) (by decide +kernel)) rfl hK hP hD hS hA (fun _ => rfl) (nI_pos (by omega)) (nI_clamp (by omega)) (by show 32 * 1 ≤ 536870912; omega) (Nat.le_of_ble_eq_true rfl) (by show _ ≤ 1984; omega) dX1_init_49 (fun q8 c8 Hq hK hP hD hS => ?_)
  have hP : va_P (dC, dI) vwCl [(o, .inr (1, [.int 0, .int 0, .int 0, .ref (q3), .ref (q4), .ref (q5), .ref (q6), .ref (q7), .null, .int 0, .int 0, .int 0])), (q3, .inl (c3, 1600, .inl (fun _ => 0))), (q4, .inl (c4, 256, .inl (fun _ => 0))), (q5, .inl (c5, 32, .inl (fun _ => 0))), (q6, .inl (c6, 32, .inl (fun _ => 0))), (q7, .inl (c7, 32, .inl (fun _ => 0))), (q8, .inl (c8, 32, .inl (fun _ => 0)))] Hq := hP
  have hD : va_D A [(o, .inr (1, [.int 0, .int 0, .int 0, .ref (q3), .ref (q4), .ref (q5), .ref (q6), .ref (q7), .null, .int 0, .int 0, .int 0])), (q3, .inl (c3, 1600, .inl (fun _ => 0))), (q4, .inl (c4, 256, .inl (fun _ => 0))), (q5, .inl (c5, 32, .inl (fun _ => 0))), (q6, .inl (c6, 32, .inl (fun _ => 0))), (q7, .inl (c7, 32, .inl (fun _ => 0))), (q8, .inl (c8, 32, .inl (fun _ => 0)))] := hD
  refine va_putF (D := (dC, dI)) (ci := 1) (v := .ref (q8)) (ty := .array .boolean) (C := RX1) (T := TX1) (N := 12) hx hb hts hin tyX1 tyX1_ok nmX1 hown hK hP hD hS 0 rfl rfl 8 (by decide) (hts (.fieldLink RX1 26 "FramePoolModel" "mark" "[Z") (by decide +kernel)) (fun _ h9 => h9) rfl hnm rfl (by decide +kernel) rfl rfl (Nat.le_of_ble_eq_true rfl) dX1_init_51 (fun Hq lq hP hD hS => ?_)
  have hP : va_P (dC, dI) vwCl [(o, .inr (1, [.int 0, .int 0, .int 0, .ref (q3), .ref (q4), .ref (q5), .ref (q6), .ref (q7), .ref (q8), .int 0, .int 0, .int 0])), (q3, .inl (c3, 1600, .inl (fun _ => 0))), (q4, .inl (c4, 256, .inl (fun _ => 0))), (q5, .inl (c5, 32, .inl (fun _ => 0))), (q6, .inl (c6, 32, .inl (fun _ => 0))), (q7, .inl (c7, 32, .inl (fun _ => 0))), (q8, .inl (c8, 32, .inl (fun _ => 0)))] Hq := hP
  have hD : va_D A [(o, .inr (1, [.int 0, .int 0, .int 0, .ref (q3), .ref (q4), .ref (q5), .ref (q6), .ref (q7), .ref (q8), .int 0, .int 0, .int 0])), (q3, .inl (c3, 1600, .inl (fun _ => 0))), (q4, .inl (c4, 256, .inl (fun _ => 0))), (q5, .inl (c5, 32, .inl (fun _ => 0))), (q6, .inl (c6, 32, .inl (fun _ => 0))), (q7, .inl (c7, 32, .inl (fun _ => 0))), (q8, .inl (c8, 32, .inl (fun _ => 0)))] := hD
  refine lv_aload_n hx hb dX1_init_54 rfl (lv_at hl 0 rfl) ?_
  refine z_clp (j := 76) (x := x) (M := 32) ?_ ?_
  · intro hj
    refine lv_iload_n hx hb dX1_init_55 rfl (lv_at hl 1 rfl) ?_
    refine lv_iconst (v := nI 1) hx hb dX1_init_56 (by decide) ?_
    refine lv_icmp_ge (tgt := 64) hx hb dX1_init_57 (by decide) (fun c1 => ?_) (fun c1 => ?_)
    · refine lv_iload_n hx hb dX1_init_64 rfl (lv_at hl 1 rfl) ?_
      refine lv_bipush (v := nI 32) hx hb dX1_init_65 (by decide) ?_
      refine lv_icmp_le (tgt := 75) hx hb dX1_init_67 (by decide) (fun c2 => ?_) (fun c2 => ?_)
      · refine lv_iload_n hx hb dX1_init_75 rfl (lv_at hl 1 rfl) ?_
        exact hj _ (clp_mid c1 c2).symm
      · refine lv_bipush (v := nI 32) hx hb dX1_init_70 (by decide) ?_
        refine lv_goto (tgt := 76) hx hb dX1_init_72 (by decide) ?_
        exact hj _ (by rw [clp_hi c1 c2])
    · refine lv_iconst (v := nI 1) hx hb dX1_init_60 (by decide) ?_
      refine lv_goto (tgt := 76) hx hb dX1_init_61 (by decide) ?_
      exact hj _ (by rw [clp_lo c1])
  refine z_top (nI (F)) (by rw [eF]) ?_
  refine va_putF (D := (dC, dI)) (ci := 1) (v := .int (nI (F))) (ty := .int) (C := RX1) (T := TX1) (N := 12) hx hb hts hin tyX1 tyX1_ok nmX1 hown hK hP hD hS 0 rfl rfl 0 (by decide) (hts (.fieldLink RX1 29 "FramePoolModel" "frames" "I") (by decide +kernel)) (fun _ h9 => h9) rfl hnm rfl (by decide +kernel) rfl rfl (Nat.le_of_ble_eq_true rfl) dX1_init_76 (fun Hq lq hP hD hS => ?_)
  have hP : va_P (dC, dI) vwCl [(o, .inr (1, [.int (nI (F)), .int 0, .int 0, .ref (q3), .ref (q4), .ref (q5), .ref (q6), .ref (q7), .ref (q8), .int 0, .int 0, .int 0])), (q3, .inl (c3, 1600, .inl (fun _ => 0))), (q4, .inl (c4, 256, .inl (fun _ => 0))), (q5, .inl (c5, 32, .inl (fun _ => 0))), (q6, .inl (c6, 32, .inl (fun _ => 0))), (q7, .inl (c7, 32, .inl (fun _ => 0))), (q8, .inl (c8, 32, .inl (fun _ => 0)))] Hq := hP
  have hD : va_D A [(o, .inr (1, [.int (nI (F)), .int 0, .int 0, .ref (q3), .ref (q4), .ref (q5), .ref (q6), .ref (q7), .ref (q8), .int 0, .int 0, .int 0])), (q3, .inl (c3, 1600, .inl (fun _ => 0))), (q4, .inl (c4, 256, .inl (fun _ => 0))), (q5, .inl (c5, 32, .inl (fun _ => 0))), (q6, .inl (c6, 32, .inl (fun _ => 0))), (q7, .inl (c7, 32, .inl (fun _ => 0))), (q8, .inl (c8, 32, .inl (fun _ => 0)))] := hD
  refine lv_aload_n hx hb dX1_init_79 rfl (lv_at hl 0 rfl) ?_
  refine z_clp (j := 103) (x := y) (M := 200) ?_ ?_
  · intro hj
    refine lv_iload_n hx hb dX1_init_80 rfl (lv_at hl 2 rfl) ?_
    refine lv_iconst (v := nI 1) hx hb dX1_init_81 (by decide) ?_
    refine lv_icmp_ge (tgt := 89) hx hb dX1_init_82 (by decide) (fun c1 => ?_) (fun c1 => ?_)
    · refine lv_iload_n hx hb dX1_init_89 rfl (lv_at hl 2 rfl) ?_
      refine lv_sipush (v := nI 200) hx hb dX1_init_90 (by decide) ?_
      refine lv_icmp_le (tgt := 102) hx hb dX1_init_93 (by decide) (fun c2 => ?_) (fun c2 => ?_)
      · refine lv_iload_n hx hb dX1_init_102 rfl (lv_at hl 2 rfl) ?_
        exact hj _ (clp_mid c1 c2).symm
      · refine lv_sipush (v := nI 200) hx hb dX1_init_96 (by decide) ?_
        refine lv_goto (tgt := 103) hx hb dX1_init_99 (by decide) ?_
        exact hj _ (by rw [clp_hi c1 c2])
    · refine lv_iconst (v := nI 1) hx hb dX1_init_85 (by decide) ?_
      refine lv_goto (tgt := 103) hx hb dX1_init_86 (by decide) ?_
      exact hj _ (by rw [clp_lo c1])
  refine z_top (nI (P)) (by rw [eP]) ?_
  refine va_putF (D := (dC, dI)) (ci := 1) (v := .int (nI (P))) (ty := .int) (C := RX1) (T := TX1) (N := 12) hx hb hts hin tyX1 tyX1_ok nmX1 hown hK hP hD hS 0 rfl rfl 1 (by decide) (hts (.fieldLink RX1 33 "FramePoolModel" "pages" "I") (by decide +kernel)) (fun _ h9 => h9) rfl hnm rfl (by decide +kernel) rfl rfl (Nat.le_of_ble_eq_true rfl) dX1_init_103 (fun Hq lq hP hD hS => ?_)
  have hP : va_P (dC, dI) vwCl [(o, .inr (1, [.int (nI (F)), .int (nI (P)), .int 0, .ref (q3), .ref (q4), .ref (q5), .ref (q6), .ref (q7), .ref (q8), .int 0, .int 0, .int 0])), (q3, .inl (c3, 1600, .inl (fun _ => 0))), (q4, .inl (c4, 256, .inl (fun _ => 0))), (q5, .inl (c5, 32, .inl (fun _ => 0))), (q6, .inl (c6, 32, .inl (fun _ => 0))), (q7, .inl (c7, 32, .inl (fun _ => 0))), (q8, .inl (c8, 32, .inl (fun _ => 0)))] Hq := hP
  have hD : va_D A [(o, .inr (1, [.int (nI (F)), .int (nI (P)), .int 0, .ref (q3), .ref (q4), .ref (q5), .ref (q6), .ref (q7), .ref (q8), .int 0, .int 0, .int 0])), (q3, .inl (c3, 1600, .inl (fun _ => 0))), (q4, .inl (c4, 256, .inl (fun _ => 0))), (q5, .inl (c5, 32, .inl (fun _ => 0))), (q6, .inl (c6, 32, .inl (fun _ => 0))), (q7, .inl (c7, 32, .inl (fun _ => 0))), (q8, .inl (c8, 32, .inl (fun _ => 0)))] := hD
  refine lv_aload_n hx hb dX1_init_106 rfl (lv_at hl 0 rfl) ?_
  refine z_clp (j := 128) (x := z) (M := 8) ?_ ?_
  · intro hj
    refine lv_iload_n hx hb dX1_init_107 rfl (lv_at hl 3 rfl) ?_
    refine lv_iconst (v := nI 1) hx hb dX1_init_108 (by decide) ?_
    refine lv_icmp_ge (tgt := 116) hx hb dX1_init_109 (by decide) (fun c1 => ?_) (fun c1 => ?_)
    · refine lv_iload_n hx hb dX1_init_116 rfl (lv_at hl 3 rfl) ?_
      refine lv_bipush (v := nI 8) hx hb dX1_init_117 (by decide) ?_
      refine lv_icmp_le (tgt := 127) hx hb dX1_init_119 (by decide) (fun c2 => ?_) (fun c2 => ?_)
      · refine lv_iload_n hx hb dX1_init_127 rfl (lv_at hl 3 rfl) ?_
        exact hj _ (clp_mid c1 c2).symm
      · refine lv_bipush (v := nI 8) hx hb dX1_init_122 (by decide) ?_
        refine lv_goto (tgt := 128) hx hb dX1_init_124 (by decide) ?_
        exact hj _ (by rw [clp_hi c1 c2])
    · refine lv_iconst (v := nI 1) hx hb dX1_init_112 (by decide) ?_
      refine lv_goto (tgt := 128) hx hb dX1_init_113 (by decide) ?_
      exact hj _ (by rw [clp_lo c1])
  refine z_top (nI (V)) (by rw [eV]) ?_
  refine va_putF (D := (dC, dI)) (ci := 1) (v := .int (nI (V))) (ty := .int) (C := RX1) (T := TX1) (N := 12) hx hb hts hin tyX1 tyX1_ok nmX1 hown hK hP hD hS 0 rfl rfl 2 (by decide) (hts (.fieldLink RX1 36 "FramePoolModel" "words" "I") (by decide +kernel)) (fun _ h9 => h9) rfl hnm rfl (by decide +kernel) rfl rfl (Nat.le_of_ble_eq_true rfl) dX1_init_128 (fun Hq lq hP hD hS => ?_)
  have hP : va_P (dC, dI) vwCl [(o, .inr (1, [.int (nI (F)), .int (nI (P)), .int (nI (V)), .ref (q3), .ref (q4), .ref (q5), .ref (q6), .ref (q7), .ref (q8), .int 0, .int 0, .int 0])), (q3, .inl (c3, 1600, .inl (fun _ => 0))), (q4, .inl (c4, 256, .inl (fun _ => 0))), (q5, .inl (c5, 32, .inl (fun _ => 0))), (q6, .inl (c6, 32, .inl (fun _ => 0))), (q7, .inl (c7, 32, .inl (fun _ => 0))), (q8, .inl (c8, 32, .inl (fun _ => 0)))] Hq := hP
  have hD : va_D A [(o, .inr (1, [.int (nI (F)), .int (nI (P)), .int (nI (V)), .ref (q3), .ref (q4), .ref (q5), .ref (q6), .ref (q7), .ref (q8), .int 0, .int 0, .int 0])), (q3, .inl (c3, 1600, .inl (fun _ => 0))), (q4, .inl (c4, 256, .inl (fun _ => 0))), (q5, .inl (c5, 32, .inl (fun _ => 0))), (q6, .inl (c6, 32, .inl (fun _ => 0))), (q7, .inl (c7, 32, .inl (fun _ => 0))), (q8, .inl (c8, 32, .inl (fun _ => 0)))] := hD
  obtain rfl : c4 = c3 := Option.some.inj ((va_nm_int (hK.2 1 _ rfl).2).symm.trans (va_nm_int (hK.2 0 _ rfl).2))
  obtain rfl : c5 = c4 := Option.some.inj ((va_nm_int (hK.2 2 _ rfl).2).symm.trans (va_nm_int (hK.2 0 _ rfl).2))
  obtain rfl : c6 = c5 := Option.some.inj ((va_nm_int (hK.2 3 _ rfl).2).symm.trans (va_nm_int (hK.2 0 _ rfl).2))
  obtain rfl : c8 = c7 := Option.some.inj ((va_nm_boolean (hK.2 5 _ rfl).2).symm.trans (va_nm_boolean (hK.2 4 _ rfl).2))
  obtain ⟨g, eg⟩ : ∃ g : GE, g = ((F, P, V, 8), (1600, 256, 32), (c6, c8), (o, q3, q4, q5, q6, q7, q8)) := ⟨_, rfl⟩
  have hg : gok g := by rw [eg]; exact ⟨F1, F2, P1, P2, V1, V2, V2, show P * 8 ≤ 1600 by omega, show F * 8 ≤ 256 by omega, F2, Nat.le_refl _, Nat.le_refl _, Nat.le_refl _⟩
  have Y : zW dC dI 1 g A s.heap s u00 Hq lq := by rw [eg]; exact ⟨hK.sub [0, 4] rfl, hP, hD, hS, hA⟩
  have Z : zC p s m (Value.ref o :: [.int x, .int y, .int z]).toArray meth c cX1_init 4 none wsX1_init RX1 := ⟨hx, hb, hml, hown, hts, hr, hlocks⟩
  have ho : o = ga0 g := by rw [eg]
  have hl0 : lv_has ls 4 [(0, .ref (ga0 g))] := by rw [← ho]; exact lv_sub hl [0] rfl
  refine lv_aload_n hx hb dX1_init_131 rfl (lv_at hl0 0 rfl) ?_
  refine z_callV (rest := []) Z Y rfl (kX1_init_ l dC dI hg (by rw [eg]) (by rw [eg]) u00) (cwV 0 hts gX1_init_X1_init_ rfl rfl rfl (by decide +kernel) ⟨Nat.le_of_ble_eq_true rfl, Nat.le_of_ble_eq_true rfl⟩) rfl hl.1 rfl (Nat.le_of_ble_eq_true rfl) dX1_init_132 ⟨Nat.le_of_ble_eq_true rfl, by show _ ≤ 1984; omega⟩ (fun u1 Hq lq hw Y => ?_)
  refine W.widen (k := 6) (n := 1984) (by decide) (by omega) ?_
  obtain ⟨hK1, hP1, hD1, hS1, -⟩ := Y
  have hpost : geF g = clp x 32 ∧ geP g = clp y 200 ∧ geW g = clp z 8 ∧ geS g = 8 ∧ gn3 g = 1600 ∧ gn5 g = 32 ∧ Rep g 0 a00 u1 := by
    refine ⟨by rw [eg]; exact eF, by rw [eg]; exact eP, by rw [eg]; exact eV, by rw [eg], by rw [eg], by rw [eg], ini_Rep (n := 32) (a := (fun _ _ => nI 0, fun _ _ => nI 0, fun _ => nI 0, fun _ => 0, fun _ => nI 0, fun _ => nI 0, 0, nI 0, nI 0)) hg hg.2.1 (by decide) (fun f _ o _ => nI_0.symm) hw⟩
  exact W.vret hx hb hr (fun t ht hW => ⟨⟨(g, u1), rfl, ⟨ho.symm, hpost⟩, by rw [ht]; exact hP1, va_K.moved hW.alike hK1, hD1⟩, hS1.F ht⟩) hS1.2.2 dX1_init_135
end
section
/-! ===== both pools side by side ===== -/
def Ge (g h : GE) : Prop := geF g = geF h ∧ geP g = geP h ∧ geW g = geW h
theorem fop_c {g h : GE} (e : Ge g h) (a : AS) (x : Int32) : fop g a x = fop h a x := by unfold fop; rw [e.1, e.2.1]
theorem nx_c {g h : GE} (e : Ge g h) (k : Nat) : nx g k = nx h k := by unfold nx; rw [e.1]
theorem findN_c {g h : GE} (e : Ge g h) : ∀ (n : Nat) (a : AS), findN g n a = findN h n a := by
  intro n
  induction n with
  | zero => intro a; rfl
  | succ n ih => intro a; rw [findN, findN, nx_c e, ih]
theorem spFind_c {g h : GE} (e : Ge g h) (a : AS) : spFind g a = spFind h a := by unfold spFind; rw [e.1, findN_c e]
theorem spFetch_c {g h : GE} (e : Ge g h) (a : AS) (x : Int32) : spFetch g a x = spFetch h a x := by unfold spFetch; rw [e.2.1, fop_c e, spFind_c e]
theorem spUnpin_c {g h : GE} (e : Ge g h) (a : AS) (x : Int32) : spUnpin g a x = spUnpin h a x := by unfold spUnpin; rw [e.1]
theorem spReadW_c {g h : GE} (e : Ge g h) (a : AS) (x y : Int32) : spReadW g a x y = spReadW h a x y := by unfold spReadW; rw [e.1, e.2.2]
theorem spWriteW_c {g h : GE} (e : Ge g h) (a : AS) (x y z : Int32) : spWriteW g a x y z = spWriteW h a x y z := by unfold spWriteW; rw [e.1, e.2.2]
theorem spFlush_c {g h : GE} (e : Ge g h) (a : AS) (x : Int32) : spFlush g a x = spFlush h a x := by unfold spFlush; rw [fop_c e]
theorem spDrop_c {g h : GE} (e : Ge g h) (a : AS) (x : Int32) : spDrop g a x = spDrop h a x := by unfold spDrop; rw [fop_c e]
theorem spCopy_c {g h : GE} (e : Ge g h) (a : AS) (x y : Int32) : spCopy g a x y = spCopy h a x y := by unfold spCopy; rw [e.2.1, fop_c e, fop_c e]
theorem spDiskW_c {g h : GE} (e : Ge g h) (a : AS) (x y : Int32) : spDiskW g a x y = spDiskW h a x y := by unfold spDiskW; rw [e.2.1, e.2.2]
theorem spRes_c {g h : GE} (e : Ge g h) (a : AS) (x : Int32) : spRes g a x = spRes h a x := by unfold spRes; rw [fop_c e]
theorem spTold_c {g h : GE} (e : Ge g h) (a : AS) (x y : Int32) : spTold g a x y = spTold h a x y := by unfold spTold; rw [e.1]
theorem Rep_to {g : GE} {N M : Nat} {a : AS} {u : CS} (h : N ≤ M) (hM : M < 2 ^ 20) (r : Rep g N a u) : Rep g M a u := ⟨r.1, hM, r.2.2.1, r.2.2.2.1, r.2.2.2.2.1, r.2.2.2.2.2.1, r.2.2.2.2.2.2.1, fun f hf => Nat.le_trans (r.2.2.2.2.2.2.2 f hf) h⟩
def zL (dC : Nat → ClassId) (dI : Nat → Nat → Nat) (g h : GE) (A : Nat → Prop) (H0 : Heap) (s : State) (u v : CS) (H : Heap) (locs : List Loc) : Prop :=
  va_K (dC, dI) vwCl (zty g ++ zty h) s ∧ va_P (dC, dI) vwCl (wd 0 g u ++ wd 1 h v) H ∧ va_D A (wd 0 g u ++ wd 1 h v) ∧ va_S A H0 H locs ∧ (∀ q, H0.size ≤ q → A q)
section ZL
variable {p : Program} {l : Launch} {e : Env} {R : Room} {s : State} {m : MethodId} {args : Array Value} {below : List Frame} {meth : Method} {c : Code} {H : Heap} {locs : List Loc} {cells slots : Nat} {Q : State → Prop}
variable {cc : ByteArray} {nL : Nat} {Ts : List Cond} {own : String} {pc : Nat} {ls : Array Slot} {rest : List Value} {dC : Nat → ClassId} {dI : Nat → Nat → Nat} {g h : GE} {A : Nat → Prop} {H0 : Heap} {u v : CS}
theorem zL_callI0 {y : MethodName} {ws : List Cond} {rm : Room} {av : List Value} {post : Int32 → CS → Prop} {bytes : ByteArray} {maxL n index : Nat} {ry : Option FieldType} {st0 : List Value} (S : CallFix p m c cc nL s args Ts own) (Y : zL dC dI g h A H0 s u v H locs) (hM : zMI l y ws rm dC dI 0 g u av post) (cw : CallW R s args own RX0 index y bytes maxL ry ws rm 0 0 n)
    (hn : av.length = n) (hsz : ls.size = nL) (hst : st0 = av.reverse ++ .ref (ga0 g) :: rest) (hW : (rest.map fun v => v.category).sum ≤ 8) (hdg : decode cc pc = .ok (.invokevirtual index, 3)) (hf : cells ≤ R.cells ∧ slots ≤ R.slots)
    (kk : ∀ (r : Int32) (u1 : CS) (H1 : Heap) (locs1 : List Loc), post r u1 → zL dC dI g h A H0 s u1 v H1 locs1 → W p l e R s m args below meth c H1 locs1 cells slots Q (F0 m (pc + 3) ls (.int r :: rest))) : W p l e R s m args below meth c H locs cells slots Q (F0 m pc ls st0) := by
  obtain ⟨hK, hP, hD, hS, hA⟩ := Y
  have hPc := hP.sub (ws' := wd 0 g u) [0, 1, 2, 3, 4, 5, 6] rfl
  have hDc := hD.sub (ws' := wd 0 g u) [0, 1, 2, 3, 4, 5, 6] (by decide) rfl
  have hKc := hK.sub (tys' := zty g) [0, 1] rfl
  have hFc := va_free (wc := wd 0 g u) hD hS hA [0, 1, 2, 3, 4, 5, 6] rfl
  refine va_calli (va_runV (C := RX0) (As := av) (rest := rest) (g := F0 m pc ls st0) (nL := nL) S (hM H.size) cw ⟨zPre_blind, va_recv (q := (RX0, TX0, 12)) hKc hPc (ci := 0) (q0 := 0) (fs := zfl g u) rfl rfl, fun U hU hW => ⟨rfl, by rw [hU], by rw [hU]; exact hPc, va_K.moved hW.alike hKc, hDc.weaken (fun _ _ _ _ => trivial)⟩⟩ rfl hn hsz hst (lv_room hW) hdg hf) hS (fun q _ z => hFc q z) hFc (fun r u1 t H1 locs1 ht hvm hw hB hz1 hk1 hS1 => ?_)
  obtain ⟨hP1, hK1, hD1⟩ := hB
  rw [ht] at hP1
  obtain ⟨hPn, hDn⟩ := va_join (wr := wd 1 h v) (w1 := wd 0 g u1) hP hD [0, 1, 2, 3, 4, 5, 6] [7, 8, 9, 10, 11, 12, 13] rfl rfl (by decide) (by decide) hk1 hFc hP1 hD1
  exact kk r u1 H1 locs1 hw ⟨hK, hPn.sub [7, 8, 9, 10, 11, 12, 13, 0, 1, 2, 3, 4, 5, 6] rfl, hDn.sub [7, 8, 9, 10, 11, 12, 13, 0, 1, 2, 3, 4, 5, 6] (by decide) rfl, hS1, hA⟩
theorem zL_callV0 {y : MethodName} {ws : List Cond} {rm : Room} {av : List Value} {post : CS → Prop} {bytes : ByteArray} {maxL n index : Nat} {ry : Option FieldType} {st0 : List Value} (S : CallFix p m c cc nL s args Ts own) (Y : zL dC dI g h A H0 s u v H locs) (hM : zMV l y ws rm dC dI 0 g u av post) (cw : CallW R s args own RX0 index y bytes maxL ry ws rm 0 0 n)
    (hn : av.length = n) (hsz : ls.size = nL) (hst : st0 = av.reverse ++ .ref (ga0 g) :: rest) (hW : (rest.map fun v => v.category).sum ≤ 8) (hdg : decode cc pc = .ok (.invokevirtual index, 3)) (hf : cells ≤ R.cells ∧ slots ≤ R.slots)
    (kk : ∀ (u1 : CS) (H1 : Heap) (locs1 : List Loc), post u1 → zL dC dI g h A H0 s u1 v H1 locs1 → W p l e R s m args below meth c H1 locs1 cells slots Q (F0 m (pc + 3) ls (rest))) : W p l e R s m args below meth c H locs cells slots Q (F0 m pc ls st0) := by
  obtain ⟨hK, hP, hD, hS, hA⟩ := Y
  have hPc := hP.sub (ws' := wd 0 g u) [0, 1, 2, 3, 4, 5, 6] rfl
  have hDc := hD.sub (ws' := wd 0 g u) [0, 1, 2, 3, 4, 5, 6] (by decide) rfl
  have hKc := hK.sub (tys' := zty g) [0, 1] rfl
  have hFc := va_free (wc := wd 0 g u) hD hS hA [0, 1, 2, 3, 4, 5, 6] rfl
  refine va_callv (va_runV (C := RX0) (As := av) (rest := rest) (g := F0 m pc ls st0) (nL := nL) S (hM H.size) cw ⟨zPre_blind, va_recv (q := (RX0, TX0, 12)) hKc hPc (ci := 0) (q0 := 0) (fs := zfl g u) rfl rfl, fun U hU hW => ⟨rfl, by rw [hU], by rw [hU]; exact hPc, va_K.moved hW.alike hKc, hDc.weaken (fun _ _ _ _ => trivial)⟩⟩ rfl hn hsz hst (lv_room hW) hdg hf) hS (fun q _ z => hFc q z) hFc (fun u1 t H1 locs1 ht hvm hw hB hz1 hk1 hS1 => ?_)
  obtain ⟨hP1, hK1, hD1⟩ := hB
  rw [ht] at hP1
  obtain ⟨hPn, hDn⟩ := va_join (wr := wd 1 h v) (w1 := wd 0 g u1) hP hD [0, 1, 2, 3, 4, 5, 6] [7, 8, 9, 10, 11, 12, 13] rfl rfl (by decide) (by decide) hk1 hFc hP1 hD1
  exact kk u1 H1 locs1 hw ⟨hK, hPn.sub [7, 8, 9, 10, 11, 12, 13, 0, 1, 2, 3, 4, 5, 6] rfl, hDn.sub [7, 8, 9, 10, 11, 12, 13, 0, 1, 2, 3, 4, 5, 6] (by decide) rfl, hS1, hA⟩
theorem zL_callI1 {y : MethodName} {ws : List Cond} {rm : Room} {av : List Value} {post : Int32 → CS → Prop} {bytes : ByteArray} {maxL n index : Nat} {ry : Option FieldType} {st0 : List Value} (S : CallFix p m c cc nL s args Ts own) (Y : zL dC dI g h A H0 s u v H locs) (hM : zMI l y ws rm dC dI 1 h v av post) (cw : CallW R s args own RX1 index y bytes maxL ry ws rm 0 0 n)
    (hn : av.length = n) (hsz : ls.size = nL) (hst : st0 = av.reverse ++ .ref (ga0 h) :: rest) (hW : (rest.map fun v => v.category).sum ≤ 8) (hdg : decode cc pc = .ok (.invokevirtual index, 3)) (hf : cells ≤ R.cells ∧ slots ≤ R.slots)
    (kk : ∀ (r : Int32) (u1 : CS) (H1 : Heap) (locs1 : List Loc), post r u1 → zL dC dI g h A H0 s u u1 H1 locs1 → W p l e R s m args below meth c H1 locs1 cells slots Q (F0 m (pc + 3) ls (.int r :: rest))) : W p l e R s m args below meth c H locs cells slots Q (F0 m pc ls st0) := by
  obtain ⟨hK, hP, hD, hS, hA⟩ := Y
  have hPc := hP.sub (ws' := wd 1 h v) [7, 8, 9, 10, 11, 12, 13] rfl
  have hDc := hD.sub (ws' := wd 1 h v) [7, 8, 9, 10, 11, 12, 13] (by decide) rfl
  have hKc := hK.sub (tys' := zty h) [2, 3] rfl
  have hFc := va_free (wc := wd 1 h v) hD hS hA [7, 8, 9, 10, 11, 12, 13] rfl
  refine va_calli (va_runV (C := RX1) (As := av) (rest := rest) (g := F0 m pc ls st0) (nL := nL) S (hM H.size) cw ⟨zPre_blind, va_recv (q := (RX1, TX1, 12)) hKc hPc (ci := 1) (q0 := 0) (fs := zfl h v) rfl rfl, fun U hU hW => ⟨rfl, by rw [hU], by rw [hU]; exact hPc, va_K.moved hW.alike hKc, hDc.weaken (fun _ _ _ _ => trivial)⟩⟩ rfl hn hsz hst (lv_room hW) hdg hf) hS (fun q _ z => hFc q z) hFc (fun r u1 t H1 locs1 ht hvm hw hB hz1 hk1 hS1 => ?_)
  obtain ⟨hP1, hK1, hD1⟩ := hB
  rw [ht] at hP1
  obtain ⟨hPn, hDn⟩ := va_join (wr := wd 0 g u) (w1 := wd 1 h u1) hP hD [7, 8, 9, 10, 11, 12, 13] [0, 1, 2, 3, 4, 5, 6] rfl rfl (by decide) (by decide) hk1 hFc hP1 hD1
  exact kk r u1 H1 locs1 hw ⟨hK, hPn, hDn, hS1, hA⟩
theorem zL_callV1 {y : MethodName} {ws : List Cond} {rm : Room} {av : List Value} {post : CS → Prop} {bytes : ByteArray} {maxL n index : Nat} {ry : Option FieldType} {st0 : List Value} (S : CallFix p m c cc nL s args Ts own) (Y : zL dC dI g h A H0 s u v H locs) (hM : zMV l y ws rm dC dI 1 h v av post) (cw : CallW R s args own RX1 index y bytes maxL ry ws rm 0 0 n)
    (hn : av.length = n) (hsz : ls.size = nL) (hst : st0 = av.reverse ++ .ref (ga0 h) :: rest) (hW : (rest.map fun v => v.category).sum ≤ 8) (hdg : decode cc pc = .ok (.invokevirtual index, 3)) (hf : cells ≤ R.cells ∧ slots ≤ R.slots)
    (kk : ∀ (u1 : CS) (H1 : Heap) (locs1 : List Loc), post u1 → zL dC dI g h A H0 s u u1 H1 locs1 → W p l e R s m args below meth c H1 locs1 cells slots Q (F0 m (pc + 3) ls (rest))) : W p l e R s m args below meth c H locs cells slots Q (F0 m pc ls st0) := by
  obtain ⟨hK, hP, hD, hS, hA⟩ := Y
  have hPc := hP.sub (ws' := wd 1 h v) [7, 8, 9, 10, 11, 12, 13] rfl
  have hDc := hD.sub (ws' := wd 1 h v) [7, 8, 9, 10, 11, 12, 13] (by decide) rfl
  have hKc := hK.sub (tys' := zty h) [2, 3] rfl
  have hFc := va_free (wc := wd 1 h v) hD hS hA [7, 8, 9, 10, 11, 12, 13] rfl
  refine va_callv (va_runV (C := RX1) (As := av) (rest := rest) (g := F0 m pc ls st0) (nL := nL) S (hM H.size) cw ⟨zPre_blind, va_recv (q := (RX1, TX1, 12)) hKc hPc (ci := 1) (q0 := 0) (fs := zfl h v) rfl rfl, fun U hU hW => ⟨rfl, by rw [hU], by rw [hU]; exact hPc, va_K.moved hW.alike hKc, hDc.weaken (fun _ _ _ _ => trivial)⟩⟩ rfl hn hsz hst (lv_room hW) hdg hf) hS (fun q _ z => hFc q z) hFc (fun u1 t H1 locs1 ht hvm hw hB hz1 hk1 hS1 => ?_)
  obtain ⟨hP1, hK1, hD1⟩ := hB
  rw [ht] at hP1
  obtain ⟨hPn, hDn⟩ := va_join (wr := wd 0 g u) (w1 := wd 1 h u1) hP hD [7, 8, 9, 10, 11, 12, 13] [0, 1, 2, 3, 4, 5, 6] rfl rfl (by decide) (by decide) hk1 hFc hP1 hD1
  exact kk u1 H1 locs1 hw ⟨hK, hPn, hDn, hS1, hA⟩
end ZL
/-- a number of the script, 0 beyond it -/
def cel (L : Nat) (xs : Nat → Int32) (j : Nat) : Int32 := if j < L then xs j else nI 0
set_option maxHeartbeats 4000000 in
theorem kL_cell (l : Launch) (b L : Nat) (xs : Nat → Int32) (hL : L < 2 ^ 31) {j : Nat} (hj : j < 2 ^ 31) : Met l yL_cell wsL_cell ({ frames := 0, cells := 0, slots := 0, locals := 0 }) (va_Pc [.ref b, .int (nI j)] (fun U => va_X b L xs U U.heap)) (va_Qi (fun (r : Int32) (_ : Unit) => r = cel L xs j) (fun _ _ => True) (fun _ => False)) 0 0 (fun _ => False) := by
  refine Met.ofW (cc := cL_cell) (maxL := 2) (ret := (some .int)) (by decide) rfl ?_
  intro p e s m args below meth c s₁ B hml hv
  obtain ⟨rfl, hX⟩ := hv
  have hx := B.exec
  have hb := B.bytes
  have hr := B.returns
  have hlocks := B.notSynchronized
  have hbl : b < s.heap.size := by obtain ⟨scr, h1, -⟩ := hX; exact (Array.getElem?_eq_some_iff.mp h1).1
  have hbA : ¬ (fun _ : Nat => False) b := fun z => z
  have hS : va_S (fun _ => False) s.heap s.heap [] := va_S.rf
  have hl := lv_entry ([.ref b, .int (nI j)]) (n := 2) (Nat.le_of_ble_eq_true rfl)
  rw [lg_entry_eq]
  generalize (lg_sl ([.ref b, .int (nI j)]) ++ List.replicate (2 - (lg_sl ([.ref b, .int (nI j)])).length) Slot.unset).toArray = ls at hl ⊢
  have hl : lv_has ls 2 [(0, .ref b), (1, .int (nI j))] := hl
  refine lv_iload_n hx hb dL_cell_0 rfl (lv_at hl 1 rfl) ?_
  refine lv_aload_n hx hb dL_cell_1 rfl (lv_at hl 0 rfl) ?_
  refine va_slen hx hb hX hbl hbA hS dL_cell_2 ?_
  refine lv_icmp_ge (tgt := 12) hx hb dL_cell_3 (by decide) (fun c3 => ?_) (fun c3 => ?_)
  · have hge : L ≤ j := (nI_leI hL hj).mp c3
    refine lv_iconst (v := nI 0) hx hb dL_cell_12 (by decide) ?_
    exact W.iret hx hb hr (fun t ht hW => ⟨⟨_, (), rfl, (if_neg (by omega)).symm, trivial⟩, by rw [ht]; exact Nat.le_refl _, fun q _ _ => by rw [ht]⟩) (fun q h => by cases h) dL_cell_13
  · have hlt : j < L := Nat.not_le.mp fun z => c3 ((nI_leI hL hj).mpr z)
    refine lv_aload_n hx hb dL_cell_6 rfl (lv_at hl 0 rfl) ?_
    refine lv_iload_n hx hb dL_cell_7 rfl (lv_at hl 1 rfl) ?_
    refine va_sld hx hb hX hbl hbA hS (vp_in_nI hlt hL) dL_cell_8 ?_
    refine z_top (xs j) (by rw [nI_clamp hj]) ?_
    refine lv_goto (tgt := 13) hx hb dL_cell_9 (by decide) ?_
    exact W.iret hx hb hr (fun t ht hW => ⟨⟨_, (), rfl, (if_pos hlt).symm, trivial⟩, by rw [ht]; exact Nat.le_refl _, fun q _ _ => by rw [ht]⟩) (fun q h => by cases h) dL_cell_13
end
section
/-! THE CLAIM OUT OF ONE WALK OF THE LAW'S BODY. Your part is whole_start (and what it stands on); all else here is the same for every law, but numbers. -/
def R_law : String := "FramePoolLaw"
def lw_P (b : Addr) (xs : List Int32) (args : Array Value) (s : State) : Prop := args = #[.ref b] ∧ s.IntsAt b xs ∧ xs.length ≤ 2051 ∧ (Jvm.Cond.and given_1 narrow_1).before args s = true
def lw_Q (_ : Array Value) (s : State) (o : Outcome) (t : State) : Prop := o = .returned (some (.int 1)) ∧ Framed s o t [] 600000 7302250
def lw_Z (below : List Frame) (a : Array Value) (s : State) : State → Prop := fun t => ∃ o, t.status = .running ∧ Ended t below o ∧ lw_Q a s o t
/-- the law's own end, with 1 on the stack, nothing written that was there before, its room as the claim has it -/
theorem lw_ret {p : Program} {l : Launch} {e : Env} {s : State} {m : MethodId} {below : List Frame} {meth : Method} {c : Code} {b : Nat} (hx : p.tables.exec = Jvm.exec) (hb : c.code = code) (hr : meth.sig.returnType = ret) (hlocks : meth.locks = false) {pc : Nat} {H : Heap} {ls : Array Slot} (hdg : decode code pc = .ok (.ireturn, 1)) : W p l e room_1 s m #[Value.ref b] below meth c H [] 600000 7302250 (lw_Z below #[Value.ref b] s) (F0 m pc ls [.int 1]) := by
  intro T hT X
  obtain ⟨fs, hret, hrun, hended, hW, hframe⟩ := X.leave (v := some (.int 1)) (hlocks := hlocks) (fun h => by rw [hr] at h; cases h)
  have hmeth' : T.vm.method? m = some meth := X.method'
  refine ⟨T.setFrames fs, ?_, .returned (some (.int 1)), hrun, hended, rfl, ⟨_, rfl⟩, hW, hframe⟩
  jvm_step X.here [X.here.top, hx, hb, hdg, hmeth', hr, ret, narrow_b1]
  (try refine ⟨rfl, ?_⟩); (try refine ⟨rfl, ?_⟩)
  first | (intro acts; rw [hret _ acts rfl rfl rfl]) | rw [hret _ _ rfl rfl rfl]
  exact Steps.refl _
/-- what holds at the law's entry: the machine, the code, the tables' words (any of lw_tbl by 'hts w (by decide +kernel)'), the script of L ints xs at the cell b, what the Statement gives of the start (any of its parts by flat_of_before) -/
def lw_At (p : Program) (s : State) (m : MethodId) (meth : Method) (c : Code) (b L : Nat) (xs : Nat → Int32) : Prop :=
  p.tables.exec = Jvm.exec ∧ c.code = code ∧ meth.sig.returnType = ret ∧ c.maxLocals = 4 ∧ s.vm.findClass R_law = some m.cls ∧ (∀ w ∈ lw_tbl, w.before #[Value.ref b] s = true) ∧ va_X b L xs s s.heap ∧ b < s.heap.size ∧ meth.locks = false ∧ (Jvm.Cond.and given_1 narrow_1).before #[Value.ref b] s = true
set_option maxHeartbeats 4000000 in
set_option maxRecDepth 100000 in
theorem law_c0 {p : Program} {l : Launch} {e : Env} {s : State} {m : MethodId} {below : List Frame} {meth : Method} {c : Code} {b L : Nat} {xs : Nat → Int32} {dC : Nat → ClassId} {dI : Nat → Nat → Nat} {g h : GE} {Q : State → Prop} (hL : L ≤ 2051) (C0 : lw_At p s m meth c b L xs) (hG : Ge h g) (hX : geS g = geW g) (hM : geS h = 8) (hM3 : gn3 h = 1600) (hM5 : gn5 h = 32) {k : Nat} (hk : k + 4 ≤ L) {a : AS} {u v : CS} (rX : Rep g k a u) (rM : Rep h k a v) {H : Heap} {locs : List Loc} (Y : zL dC dI g h (fun q => s.heap.size ≤ q) s.heap s u v H locs) {ls : Array Slot} (hl : lv_has ls 4 [(0, .ref b), (1, .ref (ga0 g)), (2, .ref (ga0 h)), (3, .int (nI k))])
    (kk : ∀ (a1 : AS) (u1 v1 : CS) (H1 : Heap) (locs1 : List Loc), Rep g (k + 4) a1 u1 → Rep h (k + 4) a1 v1 → zL dC dI g h (fun q => s.heap.size ≤ q) s.heap s u1 v1 H1 locs1 → W p l e room_1 s m #[Value.ref b] below meth c H1 locs1 600000 7302250 Q (F0 m 506 ls [])) : W p l e room_1 s m #[Value.ref b] below meth c H locs 600000 7302250 Q (F0 m 140 ls []) := by
  obtain ⟨hx, hb, hr, hml, hown, hts, hXs, hbl, hlocks, hgv⟩ := C0
  have hown : s.vm.findClass RL = some m.cls := hown
  have htsL : ∀ w ∈ wsL_law, w.before #[Value.ref b] s = true := fun w z => hts w (wsL_law_in w z)
  have hbA : ¬ (fun q : Nat => s.heap.size ≤ q) b := Nat.not_le.mpr hbl
  have hN1 : k + 1 < 2 ^ 20 := by omega
  have hN4 : k + 4 < 2 ^ 20 := by omega
  refine lv_aload_n hx hb dL_law_140 rfl (lv_at hl 1 rfl) ?_
  refine zL_callV0 (rest := []) ⟨hx, hb, hml, hown, htsL⟩ Y (kX0_init_ l dC dI rX.1 u) (cwV 0 htsL gL_law_X0_init_ rfl rfl rfl (by decide +kernel) ⟨Nat.le_of_ble_eq_true rfl, Nat.le_of_ble_eq_true rfl⟩) rfl hl.1 rfl (Nat.le_of_ble_eq_true rfl) dL_law_141 ⟨Nat.le_refl _, Nat.le_refl _⟩ (fun u1 Hq lq hw1 Y => ?_)
  refine lv_aload_n hx hb dL_law_144 rfl (lv_at hl 2 rfl) ?_
  refine zL_callV1 (rest := []) ⟨hx, hb, hml, hown, htsL⟩ Y (kX1_init_ l dC dI rM.1 hM3 hM5 v) (cwV 0 htsL gL_law_X1_init_ rfl rfl rfl (by decide +kernel) ⟨Nat.le_of_ble_eq_true rfl, Nat.le_of_ble_eq_true rfl⟩) rfl hl.1 rfl (Nat.le_of_ble_eq_true rfl) dL_law_145 ⟨Nat.le_refl _, Nat.le_refl _⟩ (fun u2 Hq lq hw2 Y => ?_)
  have q1 := ini_Rep (N := k + 4) (a := a) rX.1 (Nat.le_refl _) hN4 rX.2.2.1.2.1 hw1
  have q2 := ini_Rep (N := k + 4) (a := a) rM.1 rM.1.2.1 hN4 rM.2.2.1.2.1 hw2
  refine lv_goto (tgt := 506) hx hb dL_law_148 (by decide) ?_
  exact kk _ _ _ _ _ q1 q2 Y
set_option maxHeartbeats 4000000 in
set_option maxRecDepth 100000 in
theorem law_c1 {p : Program} {l : Launch} {e : Env} {s : State} {m : MethodId} {below : List Frame} {meth : Method} {c : Code} {b L : Nat} {xs : Nat → Int32} {dC : Nat → ClassId} {dI : Nat → Nat → Nat} {g h : GE} {Q : State → Prop} (hL : L ≤ 2051) (C0 : lw_At p s m meth c b L xs) (hG : Ge h g) (hX : geS g = geW g) (hM : geS h = 8) (hM3 : gn3 h = 1600) (hM5 : gn5 h = 32) {k : Nat} (hk : k + 4 ≤ L) {a : AS} {u v : CS} (rX : Rep g k a u) (rM : Rep h k a v) {H : Heap} {locs : List Loc} (Y : zL dC dI g h (fun q => s.heap.size ≤ q) s.heap s u v H locs) {ls : Array Slot} (hl : lv_has ls 4 [(0, .ref b), (1, .ref (ga0 g)), (2, .ref (ga0 h)), (3, .int (nI k))])
    (kk : ∀ (a1 : AS) (u1 v1 : CS) (H1 : Heap) (locs1 : List Loc), Rep g (k + 4) a1 u1 → Rep h (k + 4) a1 v1 → zL dC dI g h (fun q => s.heap.size ≤ q) s.heap s u1 v1 H1 locs1 → W p l e room_1 s m #[Value.ref b] below meth c H1 locs1 600000 7302250 Q (F0 m 506 ls [])) : W p l e room_1 s m #[Value.ref b] below meth c H locs 600000 7302250 Q (F0 m 151 ls []) := by
  obtain ⟨hx, hb, hr, hml, hown, hts, hXs, hbl, hlocks, hgv⟩ := C0
  have hown : s.vm.findClass RL = some m.cls := hown
  have htsL : ∀ w ∈ wsL_law, w.before #[Value.ref b] s = true := fun w z => hts w (wsL_law_in w z)
  have hbA : ¬ (fun q : Nat => s.heap.size ≤ q) b := Nat.not_le.mpr hbl
  have hN1 : k + 1 < 2 ^ 20 := by omega
  have hN4 : k + 4 < 2 ^ 20 := by omega
  refine lv_aload_n hx hb dL_law_151 rfl (lv_at hl 1 rfl) ?_
  refine lv_aload_n hx hb dL_law_152 rfl (lv_at hl 0 rfl) ?_
  refine lv_iload_n hx hb dL_law_153 rfl (lv_at hl 3 rfl) ?_
  refine lv_iconst (v := nI 1) hx hb dL_law_154 (by decide) ?_
  refine lv_iadd hx hb dL_law_155 ?_
  refine z_top (nI (k + 1)) (nI_add k 1) ?_
  refine va_sld hx hb hXs hbl hbA Y.2.2.2.1 (vp_in_nI (show k + 1 < L by omega) (by omega)) dL_law_156 ?_
  refine z_top (xs (k + 1)) (by rw [nI_clamp (by omega)]) ?_
  refine zL_callI0 (rest := []) ⟨hx, hb, hml, hown, htsL⟩ Y (kX0_fetch l dC dI rX hX hN1 (xs (k + 1))) (cwV 1 htsL gL_law_X0_fetch rfl rfl rfl (by decide +kernel) ⟨Nat.le_of_ble_eq_true rfl, Nat.le_of_ble_eq_true rfl⟩) rfl hl.1 rfl (Nat.le_of_ble_eq_true rfl) dL_law_157 ⟨Nat.le_refl _, Nat.le_refl _⟩ (fun r1 u1 Hq lq hw1 Y => ?_)
  refine lv_aload_n hx hb dL_law_160 rfl (lv_at hl 2 rfl) ?_
  refine lv_aload_n hx hb dL_law_161 rfl (lv_at hl 0 rfl) ?_
  refine lv_iload_n hx hb dL_law_162 rfl (lv_at hl 3 rfl) ?_
  refine lv_iconst (v := nI 1) hx hb dL_law_163 (by decide) ?_
  refine lv_iadd hx hb dL_law_164 ?_
  refine z_top (nI (k + 1)) (nI_add k 1) ?_
  refine va_sld hx hb hXs hbl hbA Y.2.2.2.1 (vp_in_nI (show k + 1 < L by omega) (by omega)) dL_law_165 ?_
  refine z_top (xs (k + 1)) (by rw [nI_clamp (by omega)]) ?_
  refine zL_callI1 (rest := [.int r1]) ⟨hx, hb, hml, hown, htsL⟩ Y (kX1_fetch l dC dI rM hM hN1 (xs (k + 1))) (cwV 1 htsL gL_law_X1_fetch rfl rfl rfl (by decide +kernel) ⟨Nat.le_of_ble_eq_true rfl, Nat.le_of_ble_eq_true rfl⟩) rfl hl.1 rfl (Nat.le_of_ble_eq_true rfl) dL_law_166 ⟨Nat.le_refl _, Nat.le_refl _⟩ (fun r2 u2 Hq lq hw2 Y => ?_)
  rw [spFetch_c hG] at hw2
  refine lv_icmp_eq (tgt := 506) hx hb dL_law_169 (by decide) (fun _ => ?_) (fun cq => absurd (hw1.1.trans hw2.1.symm) cq)
  exact kk _ _ _ _ _ (Rep_to (by omega) hN4 hw1.2) (Rep_to (by omega) hN4 hw2.2) Y
set_option maxHeartbeats 4000000 in
set_option maxRecDepth 100000 in
theorem law_c2 {p : Program} {l : Launch} {e : Env} {s : State} {m : MethodId} {below : List Frame} {meth : Method} {c : Code} {b L : Nat} {xs : Nat → Int32} {dC : Nat → ClassId} {dI : Nat → Nat → Nat} {g h : GE} {Q : State → Prop} (hL : L ≤ 2051) (C0 : lw_At p s m meth c b L xs) (hG : Ge h g) (hX : geS g = geW g) (hM : geS h = 8) (hM3 : gn3 h = 1600) (hM5 : gn5 h = 32) {k : Nat} (hk : k + 4 ≤ L) {a : AS} {u v : CS} (rX : Rep g k a u) (rM : Rep h k a v) {H : Heap} {locs : List Loc} (Y : zL dC dI g h (fun q => s.heap.size ≤ q) s.heap s u v H locs) {ls : Array Slot} (hl : lv_has ls 4 [(0, .ref b), (1, .ref (ga0 g)), (2, .ref (ga0 h)), (3, .int (nI k))])
    (kk : ∀ (a1 : AS) (u1 v1 : CS) (H1 : Heap) (locs1 : List Loc), Rep g (k + 4) a1 u1 → Rep h (k + 4) a1 v1 → zL dC dI g h (fun q => s.heap.size ≤ q) s.heap s u1 v1 H1 locs1 → W p l e room_1 s m #[Value.ref b] below meth c H1 locs1 600000 7302250 Q (F0 m 506 ls [])) : W p l e room_1 s m #[Value.ref b] below meth c H locs 600000 7302250 Q (F0 m 174 ls []) := by
  obtain ⟨hx, hb, hr, hml, hown, hts, hXs, hbl, hlocks, hgv⟩ := C0
  have hown : s.vm.findClass RL = some m.cls := hown
  have htsL : ∀ w ∈ wsL_law, w.before #[Value.ref b] s = true := fun w z => hts w (wsL_law_in w z)
  have hbA : ¬ (fun q : Nat => s.heap.size ≤ q) b := Nat.not_le.mpr hbl
  have hN1 : k + 1 < 2 ^ 20 := by omega
  have hN4 : k + 4 < 2 ^ 20 := by omega
  refine lv_aload_n hx hb dL_law_174 rfl (lv_at hl 1 rfl) ?_
  refine lv_aload_n hx hb dL_law_175 rfl (lv_at hl 0 rfl) ?_
  refine lv_iload_n hx hb dL_law_176 rfl (lv_at hl 3 rfl) ?_
  refine lv_iconst (v := nI 1) hx hb dL_law_177 (by decide) ?_
  refine lv_iadd hx hb dL_law_178 ?_
  refine z_top (nI (k + 1)) (nI_add k 1) ?_
  refine va_sld hx hb hXs hbl hbA Y.2.2.2.1 (vp_in_nI (show k + 1 < L by omega) (by omega)) dL_law_179 ?_
  refine z_top (xs (k + 1)) (by rw [nI_clamp (by omega)]) ?_
  refine zL_callI0 (rest := []) ⟨hx, hb, hml, hown, htsL⟩ Y (kX0_unpin l dC dI rX (xs (k + 1))) (cwV 1 htsL gL_law_X0_unpin rfl rfl rfl (by decide +kernel) ⟨Nat.le_of_ble_eq_true rfl, Nat.le_of_ble_eq_true rfl⟩) rfl hl.1 rfl (Nat.le_of_ble_eq_true rfl) dL_law_180 ⟨Nat.le_refl _, Nat.le_refl _⟩ (fun r1 u1 Hq lq hw1 Y => ?_)
  refine lv_aload_n hx hb dL_law_183 rfl (lv_at hl 2 rfl) ?_
  refine lv_aload_n hx hb dL_law_184 rfl (lv_at hl 0 rfl) ?_
  refine lv_iload_n hx hb dL_law_185 rfl (lv_at hl 3 rfl) ?_
  refine lv_iconst (v := nI 1) hx hb dL_law_186 (by decide) ?_
  refine lv_iadd hx hb dL_law_187 ?_
  refine z_top (nI (k + 1)) (nI_add k 1) ?_
  refine va_sld hx hb hXs hbl hbA Y.2.2.2.1 (vp_in_nI (show k + 1 < L by omega) (by omega)) dL_law_188 ?_
  refine z_top (xs (k + 1)) (by rw [nI_clamp (by omega)]) ?_
  refine zL_callI1 (rest := [.int r1]) ⟨hx, hb, hml, hown, htsL⟩ Y (kX1_unpin l dC dI rM (xs (k + 1))) (cwV 1 htsL gL_law_X1_unpin rfl rfl rfl (by decide +kernel) ⟨Nat.le_of_ble_eq_true rfl, Nat.le_of_ble_eq_true rfl⟩) rfl hl.1 rfl (Nat.le_of_ble_eq_true rfl) dL_law_189 ⟨Nat.le_refl _, Nat.le_refl _⟩ (fun r2 u2 Hq lq hw2 Y => ?_)
  rw [spUnpin_c hG] at hw2
  refine lv_icmp_eq (tgt := 506) hx hb dL_law_192 (by decide) (fun _ => ?_) (fun cq => absurd (hw1.1.trans hw2.1.symm) cq)
  exact kk _ _ _ _ _ (Rep_to (by omega) hN4 hw1.2) (Rep_to (by omega) hN4 hw2.2) Y
set_option maxHeartbeats 4000000 in
set_option maxRecDepth 100000 in
theorem law_c3 {p : Program} {l : Launch} {e : Env} {s : State} {m : MethodId} {below : List Frame} {meth : Method} {c : Code} {b L : Nat} {xs : Nat → Int32} {dC : Nat → ClassId} {dI : Nat → Nat → Nat} {g h : GE} {Q : State → Prop} (hL : L ≤ 2051) (C0 : lw_At p s m meth c b L xs) (hG : Ge h g) (hX : geS g = geW g) (hM : geS h = 8) (hM3 : gn3 h = 1600) (hM5 : gn5 h = 32) {k : Nat} (hk : k + 4 ≤ L) {a : AS} {u v : CS} (rX : Rep g k a u) (rM : Rep h k a v) {H : Heap} {locs : List Loc} (Y : zL dC dI g h (fun q => s.heap.size ≤ q) s.heap s u v H locs) {ls : Array Slot} (hl : lv_has ls 4 [(0, .ref b), (1, .ref (ga0 g)), (2, .ref (ga0 h)), (3, .int (nI k))])
    (kk : ∀ (a1 : AS) (u1 v1 : CS) (H1 : Heap) (locs1 : List Loc), Rep g (k + 4) a1 u1 → Rep h (k + 4) a1 v1 → zL dC dI g h (fun q => s.heap.size ≤ q) s.heap s u1 v1 H1 locs1 → W p l e room_1 s m #[Value.ref b] below meth c H1 locs1 600000 7302250 Q (F0 m 506 ls [])) : W p l e room_1 s m #[Value.ref b] below meth c H locs 600000 7302250 Q (F0 m 197 ls []) := by
  obtain ⟨hx, hb, hr, hml, hown, hts, hXs, hbl, hlocks, hgv⟩ := C0
  have hown : s.vm.findClass RL = some m.cls := hown
  have htsL : ∀ w ∈ wsL_law, w.before #[Value.ref b] s = true := fun w z => hts w (wsL_law_in w z)
  have hbA : ¬ (fun q : Nat => s.heap.size ≤ q) b := Nat.not_le.mpr hbl
  have hN1 : k + 1 < 2 ^ 20 := by omega
  have hN4 : k + 4 < 2 ^ 20 := by omega
  refine lv_aload_n hx hb dL_law_197 rfl (lv_at hl 1 rfl) ?_
  refine lv_aload_n hx hb dL_law_198 rfl (lv_at hl 0 rfl) ?_
  refine lv_iload_n hx hb dL_law_199 rfl (lv_at hl 3 rfl) ?_
  refine lv_iconst (v := nI 1) hx hb dL_law_200 (by decide) ?_
  refine lv_iadd hx hb dL_law_201 ?_
  refine z_top (nI (k + 1)) (nI_add k 1) ?_
  refine va_sld hx hb hXs hbl hbA Y.2.2.2.1 (vp_in_nI (show k + 1 < L by omega) (by omega)) dL_law_202 ?_
  refine z_top (xs (k + 1)) (by rw [nI_clamp (by omega)]) ?_
  refine lv_aload_n hx hb dL_law_203 rfl (lv_at hl 0 rfl) ?_
  refine lv_iload_n hx hb dL_law_204 rfl (lv_at hl 3 rfl) ?_
  refine lv_iconst (v := nI 2) hx hb dL_law_205 (by decide) ?_
  refine lv_iadd hx hb dL_law_206 ?_
  refine z_top (nI (k + 2)) (nI_add k 2) ?_
  refine va_sld hx hb hXs hbl hbA Y.2.2.2.1 (vp_in_nI (show k + 2 < L by omega) (by omega)) dL_law_207 ?_
  refine z_top (xs (k + 2)) (by rw [nI_clamp (by omega)]) ?_
  refine zL_callI0 (rest := []) ⟨hx, hb, hml, hown, htsL⟩ Y (kX0_readWord l dC dI rX hX (xs (k + 1)) (xs (k + 2))) (cwV 2 htsL gL_law_X0_readWord rfl rfl rfl (by decide +kernel) ⟨Nat.le_of_ble_eq_true rfl, Nat.le_of_ble_eq_true rfl⟩) rfl hl.1 rfl (Nat.le_of_ble_eq_true rfl) dL_law_208 ⟨Nat.le_refl _, Nat.le_refl _⟩ (fun r1 u1 Hq lq hw1 Y => ?_)
  obtain ⟨rfl, hw1⟩ := hw1
  refine lv_aload_n hx hb dL_law_211 rfl (lv_at hl 2 rfl) ?_
  refine lv_aload_n hx hb dL_law_212 rfl (lv_at hl 0 rfl) ?_
  refine lv_iload_n hx hb dL_law_213 rfl (lv_at hl 3 rfl) ?_
  refine lv_iconst (v := nI 1) hx hb dL_law_214 (by decide) ?_
  refine lv_iadd hx hb dL_law_215 ?_
  refine z_top (nI (k + 1)) (nI_add k 1) ?_
  refine va_sld hx hb hXs hbl hbA Y.2.2.2.1 (vp_in_nI (show k + 1 < L by omega) (by omega)) dL_law_216 ?_
  refine z_top (xs (k + 1)) (by rw [nI_clamp (by omega)]) ?_
  refine lv_aload_n hx hb dL_law_217 rfl (lv_at hl 0 rfl) ?_
  refine lv_iload_n hx hb dL_law_218 rfl (lv_at hl 3 rfl) ?_
  refine lv_iconst (v := nI 2) hx hb dL_law_219 (by decide) ?_
  refine lv_iadd hx hb dL_law_220 ?_
  refine z_top (nI (k + 2)) (nI_add k 2) ?_
  refine va_sld hx hb hXs hbl hbA Y.2.2.2.1 (vp_in_nI (show k + 2 < L by omega) (by omega)) dL_law_221 ?_
  refine z_top (xs (k + 2)) (by rw [nI_clamp (by omega)]) ?_
  refine zL_callI1 (rest := [.int r1]) ⟨hx, hb, hml, hown, htsL⟩ Y (kX1_readWord l dC dI rM hM (xs (k + 1)) (xs (k + 2))) (cwV 2 htsL gL_law_X1_readWord rfl rfl rfl (by decide +kernel) ⟨Nat.le_of_ble_eq_true rfl, Nat.le_of_ble_eq_true rfl⟩) rfl hl.1 rfl (Nat.le_of_ble_eq_true rfl) dL_law_222 ⟨Nat.le_refl _, Nat.le_refl _⟩ (fun r2 u2 Hq lq hw2 Y => ?_)
  obtain ⟨rfl, hw2⟩ := hw2
  rw [spReadW_c hG] at hw2
  refine lv_icmp_eq (tgt := 506) hx hb dL_law_225 (by decide) (fun _ => ?_) (fun cq => absurd (hw1.trans hw2.symm) cq)
  exact kk a _ _ _ _ (Rep_to (by omega) hN4 rX) (Rep_to (by omega) hN4 rM) Y
set_option maxHeartbeats 4000000 in
set_option maxRecDepth 100000 in
theorem law_c4 {p : Program} {l : Launch} {e : Env} {s : State} {m : MethodId} {below : List Frame} {meth : Method} {c : Code} {b L : Nat} {xs : Nat → Int32} {dC : Nat → ClassId} {dI : Nat → Nat → Nat} {g h : GE} {Q : State → Prop} (hL : L ≤ 2051) (C0 : lw_At p s m meth c b L xs) (hG : Ge h g) (hX : geS g = geW g) (hM : geS h = 8) (hM3 : gn3 h = 1600) (hM5 : gn5 h = 32) {k : Nat} (hk : k + 4 ≤ L) {a : AS} {u v : CS} (rX : Rep g k a u) (rM : Rep h k a v) {H : Heap} {locs : List Loc} (Y : zL dC dI g h (fun q => s.heap.size ≤ q) s.heap s u v H locs) {ls : Array Slot} (hl : lv_has ls 4 [(0, .ref b), (1, .ref (ga0 g)), (2, .ref (ga0 h)), (3, .int (nI k))])
    (kk : ∀ (a1 : AS) (u1 v1 : CS) (H1 : Heap) (locs1 : List Loc), Rep g (k + 4) a1 u1 → Rep h (k + 4) a1 v1 → zL dC dI g h (fun q => s.heap.size ≤ q) s.heap s u1 v1 H1 locs1 → W p l e room_1 s m #[Value.ref b] below meth c H1 locs1 600000 7302250 Q (F0 m 506 ls [])) : W p l e room_1 s m #[Value.ref b] below meth c H locs 600000 7302250 Q (F0 m 230 ls []) := by
  obtain ⟨hx, hb, hr, hml, hown, hts, hXs, hbl, hlocks, hgv⟩ := C0
  have hown : s.vm.findClass RL = some m.cls := hown
  have htsL : ∀ w ∈ wsL_law, w.before #[Value.ref b] s = true := fun w z => hts w (wsL_law_in w z)
  have hbA : ¬ (fun q : Nat => s.heap.size ≤ q) b := Nat.not_le.mpr hbl
  have hN1 : k + 1 < 2 ^ 20 := by omega
  have hN4 : k + 4 < 2 ^ 20 := by omega
  refine lv_aload_n hx hb dL_law_230 rfl (lv_at hl 1 rfl) ?_
  refine lv_aload_n hx hb dL_law_231 rfl (lv_at hl 0 rfl) ?_
  refine lv_iload_n hx hb dL_law_232 rfl (lv_at hl 3 rfl) ?_
  refine lv_iconst (v := nI 1) hx hb dL_law_233 (by decide) ?_
  refine lv_iadd hx hb dL_law_234 ?_
  refine z_top (nI (k + 1)) (nI_add k 1) ?_
  refine va_sld hx hb hXs hbl hbA Y.2.2.2.1 (vp_in_nI (show k + 1 < L by omega) (by omega)) dL_law_235 ?_
  refine z_top (xs (k + 1)) (by rw [nI_clamp (by omega)]) ?_
  refine lv_aload_n hx hb dL_law_236 rfl (lv_at hl 0 rfl) ?_
  refine lv_iload_n hx hb dL_law_237 rfl (lv_at hl 3 rfl) ?_
  refine lv_iconst (v := nI 2) hx hb dL_law_238 (by decide) ?_
  refine lv_iadd hx hb dL_law_239 ?_
  refine z_top (nI (k + 2)) (nI_add k 2) ?_
  refine va_sld hx hb hXs hbl hbA Y.2.2.2.1 (vp_in_nI (show k + 2 < L by omega) (by omega)) dL_law_240 ?_
  refine z_top (xs (k + 2)) (by rw [nI_clamp (by omega)]) ?_
  refine lv_aload_n hx hb dL_law_241 rfl (lv_at hl 0 rfl) ?_
  refine lv_iload_n hx hb dL_law_242 rfl (lv_at hl 3 rfl) ?_
  refine lv_iconst (v := nI 3) hx hb dL_law_243 (by decide) ?_
  refine lv_iadd hx hb dL_law_244 ?_
  refine z_top (nI (k + 3)) (nI_add k 3) ?_
  refine va_sld hx hb hXs hbl hbA Y.2.2.2.1 (vp_in_nI (show k + 3 < L by omega) (by omega)) dL_law_245 ?_
  refine z_top (xs (k + 3)) (by rw [nI_clamp (by omega)]) ?_
  refine zL_callI0 (rest := []) ⟨hx, hb, hml, hown, htsL⟩ Y (kX0_writeWord l dC dI rX hX (xs (k + 1)) (xs (k + 2)) (xs (k + 3))) (cwV 3 htsL gL_law_X0_writeWord rfl rfl rfl (by decide +kernel) ⟨Nat.le_of_ble_eq_true rfl, Nat.le_of_ble_eq_true rfl⟩) rfl hl.1 rfl (Nat.le_of_ble_eq_true rfl) dL_law_246 ⟨Nat.le_refl _, Nat.le_refl _⟩ (fun r1 u1 Hq lq hw1 Y => ?_)
  refine lv_aload_n hx hb dL_law_249 rfl (lv_at hl 2 rfl) ?_
  refine lv_aload_n hx hb dL_law_250 rfl (lv_at hl 0 rfl) ?_
  refine lv_iload_n hx hb dL_law_251 rfl (lv_at hl 3 rfl) ?_
  refine lv_iconst (v := nI 1) hx hb dL_law_252 (by decide) ?_
  refine lv_iadd hx hb dL_law_253 ?_
  refine z_top (nI (k + 1)) (nI_add k 1) ?_
  refine va_sld hx hb hXs hbl hbA Y.2.2.2.1 (vp_in_nI (show k + 1 < L by omega) (by omega)) dL_law_254 ?_
  refine z_top (xs (k + 1)) (by rw [nI_clamp (by omega)]) ?_
  refine lv_aload_n hx hb dL_law_255 rfl (lv_at hl 0 rfl) ?_
  refine lv_iload_n hx hb dL_law_256 rfl (lv_at hl 3 rfl) ?_
  refine lv_iconst (v := nI 2) hx hb dL_law_257 (by decide) ?_
  refine lv_iadd hx hb dL_law_258 ?_
  refine z_top (nI (k + 2)) (nI_add k 2) ?_
  refine va_sld hx hb hXs hbl hbA Y.2.2.2.1 (vp_in_nI (show k + 2 < L by omega) (by omega)) dL_law_259 ?_
  refine z_top (xs (k + 2)) (by rw [nI_clamp (by omega)]) ?_
  refine lv_aload_n hx hb dL_law_260 rfl (lv_at hl 0 rfl) ?_
  refine lv_iload_n hx hb dL_law_261 rfl (lv_at hl 3 rfl) ?_
  refine lv_iconst (v := nI 3) hx hb dL_law_262 (by decide) ?_
  refine lv_iadd hx hb dL_law_263 ?_
  refine z_top (nI (k + 3)) (nI_add k 3) ?_
  refine va_sld hx hb hXs hbl hbA Y.2.2.2.1 (vp_in_nI (show k + 3 < L by omega) (by omega)) dL_law_264 ?_
  refine z_top (xs (k + 3)) (by rw [nI_clamp (by omega)]) ?_
  refine zL_callI1 (rest := [.int r1]) ⟨hx, hb, hml, hown, htsL⟩ Y (kX1_writeWord l dC dI rM hM (xs (k + 1)) (xs (k + 2)) (xs (k + 3))) (cwV 3 htsL gL_law_X1_writeWord rfl rfl rfl (by decide +kernel) ⟨Nat.le_of_ble_eq_true rfl, Nat.le_of_ble_eq_true rfl⟩) rfl hl.1 rfl (Nat.le_of_ble_eq_true rfl) dL_law_265 ⟨Nat.le_refl _, Nat.le_refl _⟩ (fun r2 u2 Hq lq hw2 Y => ?_)
  rw [spWriteW_c hG] at hw2
  refine lv_icmp_eq (tgt := 506) hx hb dL_law_268 (by decide) (fun _ => ?_) (fun cq => absurd (hw1.1.trans hw2.1.symm) cq)
  exact kk _ _ _ _ _ (Rep_to (by omega) hN4 hw1.2) (Rep_to (by omega) hN4 hw2.2) Y
set_option maxHeartbeats 4000000 in
set_option maxRecDepth 100000 in
theorem law_c5 {p : Program} {l : Launch} {e : Env} {s : State} {m : MethodId} {below : List Frame} {meth : Method} {c : Code} {b L : Nat} {xs : Nat → Int32} {dC : Nat → ClassId} {dI : Nat → Nat → Nat} {g h : GE} {Q : State → Prop} (hL : L ≤ 2051) (C0 : lw_At p s m meth c b L xs) (hG : Ge h g) (hX : geS g = geW g) (hM : geS h = 8) (hM3 : gn3 h = 1600) (hM5 : gn5 h = 32) {k : Nat} (hk : k + 4 ≤ L) {a : AS} {u v : CS} (rX : Rep g k a u) (rM : Rep h k a v) {H : Heap} {locs : List Loc} (Y : zL dC dI g h (fun q => s.heap.size ≤ q) s.heap s u v H locs) {ls : Array Slot} (hl : lv_has ls 4 [(0, .ref b), (1, .ref (ga0 g)), (2, .ref (ga0 h)), (3, .int (nI k))])
    (kk : ∀ (a1 : AS) (u1 v1 : CS) (H1 : Heap) (locs1 : List Loc), Rep g (k + 4) a1 u1 → Rep h (k + 4) a1 v1 → zL dC dI g h (fun q => s.heap.size ≤ q) s.heap s u1 v1 H1 locs1 → W p l e room_1 s m #[Value.ref b] below meth c H1 locs1 600000 7302250 Q (F0 m 506 ls [])) : W p l e room_1 s m #[Value.ref b] below meth c H locs 600000 7302250 Q (F0 m 273 ls []) := by
  obtain ⟨hx, hb, hr, hml, hown, hts, hXs, hbl, hlocks, hgv⟩ := C0
  have hown : s.vm.findClass RL = some m.cls := hown
  have htsL : ∀ w ∈ wsL_law, w.before #[Value.ref b] s = true := fun w z => hts w (wsL_law_in w z)
  have hbA : ¬ (fun q : Nat => s.heap.size ≤ q) b := Nat.not_le.mpr hbl
  have hN1 : k + 1 < 2 ^ 20 := by omega
  have hN4 : k + 4 < 2 ^ 20 := by omega
  refine lv_aload_n hx hb dL_law_273 rfl (lv_at hl 1 rfl) ?_
  refine lv_aload_n hx hb dL_law_274 rfl (lv_at hl 0 rfl) ?_
  refine lv_iload_n hx hb dL_law_275 rfl (lv_at hl 3 rfl) ?_
  refine lv_iconst (v := nI 1) hx hb dL_law_276 (by decide) ?_
  refine lv_iadd hx hb dL_law_277 ?_
  refine z_top (nI (k + 1)) (nI_add k 1) ?_
  refine va_sld hx hb hXs hbl hbA Y.2.2.2.1 (vp_in_nI (show k + 1 < L by omega) (by omega)) dL_law_278 ?_
  refine z_top (xs (k + 1)) (by rw [nI_clamp (by omega)]) ?_
  refine zL_callI0 (rest := []) ⟨hx, hb, hml, hown, htsL⟩ Y (kX0_flush l dC dI rX hX (xs (k + 1))) (cwV 1 htsL gL_law_X0_flush rfl rfl rfl (by decide +kernel) ⟨Nat.le_of_ble_eq_true rfl, Nat.le_of_ble_eq_true rfl⟩) rfl hl.1 rfl (Nat.le_of_ble_eq_true rfl) dL_law_279 ⟨Nat.le_refl _, Nat.le_refl _⟩ (fun r1 u1 Hq lq hw1 Y => ?_)
  refine lv_aload_n hx hb dL_law_282 rfl (lv_at hl 2 rfl) ?_
  refine lv_aload_n hx hb dL_law_283 rfl (lv_at hl 0 rfl) ?_
  refine lv_iload_n hx hb dL_law_284 rfl (lv_at hl 3 rfl) ?_
  refine lv_iconst (v := nI 1) hx hb dL_law_285 (by decide) ?_
  refine lv_iadd hx hb dL_law_286 ?_
  refine z_top (nI (k + 1)) (nI_add k 1) ?_
  refine va_sld hx hb hXs hbl hbA Y.2.2.2.1 (vp_in_nI (show k + 1 < L by omega) (by omega)) dL_law_287 ?_
  refine z_top (xs (k + 1)) (by rw [nI_clamp (by omega)]) ?_
  refine zL_callI1 (rest := [.int r1]) ⟨hx, hb, hml, hown, htsL⟩ Y (kX1_flush l dC dI rM hM (xs (k + 1))) (cwV 1 htsL gL_law_X1_flush rfl rfl rfl (by decide +kernel) ⟨Nat.le_of_ble_eq_true rfl, Nat.le_of_ble_eq_true rfl⟩) rfl hl.1 rfl (Nat.le_of_ble_eq_true rfl) dL_law_288 ⟨Nat.le_refl _, Nat.le_refl _⟩ (fun r2 u2 Hq lq hw2 Y => ?_)
  rw [spFlush_c hG] at hw2
  refine lv_icmp_eq (tgt := 506) hx hb dL_law_291 (by decide) (fun _ => ?_) (fun cq => absurd (hw1.1.trans hw2.1.symm) cq)
  exact kk _ _ _ _ _ (Rep_to (by omega) hN4 hw1.2) (Rep_to (by omega) hN4 hw2.2) Y
set_option maxHeartbeats 4000000 in
set_option maxRecDepth 100000 in
theorem law_c6 {p : Program} {l : Launch} {e : Env} {s : State} {m : MethodId} {below : List Frame} {meth : Method} {c : Code} {b L : Nat} {xs : Nat → Int32} {dC : Nat → ClassId} {dI : Nat → Nat → Nat} {g h : GE} {Q : State → Prop} (hL : L ≤ 2051) (C0 : lw_At p s m meth c b L xs) (hG : Ge h g) (hX : geS g = geW g) (hM : geS h = 8) (hM3 : gn3 h = 1600) (hM5 : gn5 h = 32) {k : Nat} (hk : k + 4 ≤ L) {a : AS} {u v : CS} (rX : Rep g k a u) (rM : Rep h k a v) {H : Heap} {locs : List Loc} (Y : zL dC dI g h (fun q => s.heap.size ≤ q) s.heap s u v H locs) {ls : Array Slot} (hl : lv_has ls 4 [(0, .ref b), (1, .ref (ga0 g)), (2, .ref (ga0 h)), (3, .int (nI k))])
    (kk : ∀ (a1 : AS) (u1 v1 : CS) (H1 : Heap) (locs1 : List Loc), Rep g (k + 4) a1 u1 → Rep h (k + 4) a1 v1 → zL dC dI g h (fun q => s.heap.size ≤ q) s.heap s u1 v1 H1 locs1 → W p l e room_1 s m #[Value.ref b] below meth c H1 locs1 600000 7302250 Q (F0 m 506 ls [])) : W p l e room_1 s m #[Value.ref b] below meth c H locs 600000 7302250 Q (F0 m 296 ls []) := by
  obtain ⟨hx, hb, hr, hml, hown, hts, hXs, hbl, hlocks, hgv⟩ := C0
  have hown : s.vm.findClass RL = some m.cls := hown
  have htsL : ∀ w ∈ wsL_law, w.before #[Value.ref b] s = true := fun w z => hts w (wsL_law_in w z)
  have hbA : ¬ (fun q : Nat => s.heap.size ≤ q) b := Nat.not_le.mpr hbl
  have hN1 : k + 1 < 2 ^ 20 := by omega
  have hN4 : k + 4 < 2 ^ 20 := by omega
  refine lv_aload_n hx hb dL_law_296 rfl (lv_at hl 1 rfl) ?_
  refine zL_callI0 (rest := []) ⟨hx, hb, hml, hown, htsL⟩ Y (kX0_flushAll l dC dI rX hX) (cwV 0 htsL gL_law_X0_flushAll rfl rfl rfl (by decide +kernel) ⟨Nat.le_of_ble_eq_true rfl, Nat.le_of_ble_eq_true rfl⟩) rfl hl.1 rfl (Nat.le_of_ble_eq_true rfl) dL_law_297 ⟨Nat.le_refl _, Nat.le_refl _⟩ (fun r1 u1 Hq lq hw1 Y => ?_)
  refine lv_aload_n hx hb dL_law_300 rfl (lv_at hl 2 rfl) ?_
  refine zL_callI1 (rest := [.int r1]) ⟨hx, hb, hml, hown, htsL⟩ Y (kX1_flushAll l dC dI rM hM) (cwV 0 htsL gL_law_X1_flushAll rfl rfl rfl (by decide +kernel) ⟨Nat.le_of_ble_eq_true rfl, Nat.le_of_ble_eq_true rfl⟩) rfl hl.1 rfl (Nat.le_of_ble_eq_true rfl) dL_law_301 ⟨Nat.le_refl _, Nat.le_refl _⟩ (fun r2 u2 Hq lq hw2 Y => ?_)
  rw [hG.1] at hw2
  refine lv_icmp_eq (tgt := 506) hx hb dL_law_304 (by decide) (fun _ => ?_) (fun cq => absurd (hw1.1.trans hw2.1.symm) cq)
  exact kk _ _ _ _ _ (Rep_to (by omega) hN4 hw1.2) (Rep_to (by omega) hN4 hw2.2) Y
set_option maxHeartbeats 4000000 in
set_option maxRecDepth 100000 in
theorem law_c7 {p : Program} {l : Launch} {e : Env} {s : State} {m : MethodId} {below : List Frame} {meth : Method} {c : Code} {b L : Nat} {xs : Nat → Int32} {dC : Nat → ClassId} {dI : Nat → Nat → Nat} {g h : GE} {Q : State → Prop} (hL : L ≤ 2051) (C0 : lw_At p s m meth c b L xs) (hG : Ge h g) (hX : geS g = geW g) (hM : geS h = 8) (hM3 : gn3 h = 1600) (hM5 : gn5 h = 32) {k : Nat} (hk : k + 4 ≤ L) {a : AS} {u v : CS} (rX : Rep g k a u) (rM : Rep h k a v) {H : Heap} {locs : List Loc} (Y : zL dC dI g h (fun q => s.heap.size ≤ q) s.heap s u v H locs) {ls : Array Slot} (hl : lv_has ls 4 [(0, .ref b), (1, .ref (ga0 g)), (2, .ref (ga0 h)), (3, .int (nI k))])
    (kk : ∀ (a1 : AS) (u1 v1 : CS) (H1 : Heap) (locs1 : List Loc), Rep g (k + 4) a1 u1 → Rep h (k + 4) a1 v1 → zL dC dI g h (fun q => s.heap.size ≤ q) s.heap s u1 v1 H1 locs1 → W p l e room_1 s m #[Value.ref b] below meth c H1 locs1 600000 7302250 Q (F0 m 506 ls [])) : W p l e room_1 s m #[Value.ref b] below meth c H locs 600000 7302250 Q (F0 m 309 ls []) := by
  obtain ⟨hx, hb, hr, hml, hown, hts, hXs, hbl, hlocks, hgv⟩ := C0
  have hown : s.vm.findClass RL = some m.cls := hown
  have htsL : ∀ w ∈ wsL_law, w.before #[Value.ref b] s = true := fun w z => hts w (wsL_law_in w z)
  have hbA : ¬ (fun q : Nat => s.heap.size ≤ q) b := Nat.not_le.mpr hbl
  have hN1 : k + 1 < 2 ^ 20 := by omega
  have hN4 : k + 4 < 2 ^ 20 := by omega
  refine lv_aload_n hx hb dL_law_309 rfl (lv_at hl 1 rfl) ?_
  refine lv_aload_n hx hb dL_law_310 rfl (lv_at hl 0 rfl) ?_
  refine lv_iload_n hx hb dL_law_311 rfl (lv_at hl 3 rfl) ?_
  refine lv_iconst (v := nI 1) hx hb dL_law_312 (by decide) ?_
  refine lv_iadd hx hb dL_law_313 ?_
  refine z_top (nI (k + 1)) (nI_add k 1) ?_
  refine va_sld hx hb hXs hbl hbA Y.2.2.2.1 (vp_in_nI (show k + 1 < L by omega) (by omega)) dL_law_314 ?_
  refine z_top (xs (k + 1)) (by rw [nI_clamp (by omega)]) ?_
  refine zL_callI0 (rest := []) ⟨hx, hb, hml, hown, htsL⟩ Y (kX0_drop l dC dI rX (xs (k + 1))) (cwV 1 htsL gL_law_X0_drop rfl rfl rfl (by decide +kernel) ⟨Nat.le_of_ble_eq_true rfl, Nat.le_of_ble_eq_true rfl⟩) rfl hl.1 rfl (Nat.le_of_ble_eq_true rfl) dL_law_315 ⟨Nat.le_refl _, Nat.le_refl _⟩ (fun r1 u1 Hq lq hw1 Y => ?_)
  refine lv_aload_n hx hb dL_law_318 rfl (lv_at hl 2 rfl) ?_
  refine lv_aload_n hx hb dL_law_319 rfl (lv_at hl 0 rfl) ?_
  refine lv_iload_n hx hb dL_law_320 rfl (lv_at hl 3 rfl) ?_
  refine lv_iconst (v := nI 1) hx hb dL_law_321 (by decide) ?_
  refine lv_iadd hx hb dL_law_322 ?_
  refine z_top (nI (k + 1)) (nI_add k 1) ?_
  refine va_sld hx hb hXs hbl hbA Y.2.2.2.1 (vp_in_nI (show k + 1 < L by omega) (by omega)) dL_law_323 ?_
  refine z_top (xs (k + 1)) (by rw [nI_clamp (by omega)]) ?_
  refine zL_callI1 (rest := [.int r1]) ⟨hx, hb, hml, hown, htsL⟩ Y (kX1_drop l dC dI rM (xs (k + 1))) (cwV 1 htsL gL_law_X1_drop rfl rfl rfl (by decide +kernel) ⟨Nat.le_of_ble_eq_true rfl, Nat.le_of_ble_eq_true rfl⟩) rfl hl.1 rfl (Nat.le_of_ble_eq_true rfl) dL_law_324 ⟨Nat.le_refl _, Nat.le_refl _⟩ (fun r2 u2 Hq lq hw2 Y => ?_)
  rw [spDrop_c hG] at hw2
  refine lv_icmp_eq (tgt := 506) hx hb dL_law_327 (by decide) (fun _ => ?_) (fun cq => absurd (hw1.1.trans hw2.1.symm) cq)
  exact kk _ _ _ _ _ (Rep_to (by omega) hN4 hw1.2) (Rep_to (by omega) hN4 hw2.2) Y
set_option maxHeartbeats 4000000 in
set_option maxRecDepth 100000 in
theorem law_c8 {p : Program} {l : Launch} {e : Env} {s : State} {m : MethodId} {below : List Frame} {meth : Method} {c : Code} {b L : Nat} {xs : Nat → Int32} {dC : Nat → ClassId} {dI : Nat → Nat → Nat} {g h : GE} {Q : State → Prop} (hL : L ≤ 2051) (C0 : lw_At p s m meth c b L xs) (hG : Ge h g) (hX : geS g = geW g) (hM : geS h = 8) (hM3 : gn3 h = 1600) (hM5 : gn5 h = 32) {k : Nat} (hk : k + 4 ≤ L) {a : AS} {u v : CS} (rX : Rep g k a u) (rM : Rep h k a v) {H : Heap} {locs : List Loc} (Y : zL dC dI g h (fun q => s.heap.size ≤ q) s.heap s u v H locs) {ls : Array Slot} (hl : lv_has ls 4 [(0, .ref b), (1, .ref (ga0 g)), (2, .ref (ga0 h)), (3, .int (nI k))])
    (kk : ∀ (a1 : AS) (u1 v1 : CS) (H1 : Heap) (locs1 : List Loc), Rep g (k + 4) a1 u1 → Rep h (k + 4) a1 v1 → zL dC dI g h (fun q => s.heap.size ≤ q) s.heap s u1 v1 H1 locs1 → W p l e room_1 s m #[Value.ref b] below meth c H1 locs1 600000 7302250 Q (F0 m 506 ls [])) : W p l e room_1 s m #[Value.ref b] below meth c H locs 600000 7302250 Q (F0 m 332 ls []) := by
  obtain ⟨hx, hb, hr, hml, hown, hts, hXs, hbl, hlocks, hgv⟩ := C0
  have hown : s.vm.findClass RL = some m.cls := hown
  have htsL : ∀ w ∈ wsL_law, w.before #[Value.ref b] s = true := fun w z => hts w (wsL_law_in w z)
  have hbA : ¬ (fun q : Nat => s.heap.size ≤ q) b := Nat.not_le.mpr hbl
  have hN1 : k + 1 < 2 ^ 20 := by omega
  have hN4 : k + 4 < 2 ^ 20 := by omega
  refine lv_aload_n hx hb dL_law_332 rfl (lv_at hl 1 rfl) ?_
  refine lv_aload_n hx hb dL_law_333 rfl (lv_at hl 0 rfl) ?_
  refine lv_iload_n hx hb dL_law_334 rfl (lv_at hl 3 rfl) ?_
  refine lv_iconst (v := nI 1) hx hb dL_law_335 (by decide) ?_
  refine lv_iadd hx hb dL_law_336 ?_
  refine z_top (nI (k + 1)) (nI_add k 1) ?_
  refine va_sld hx hb hXs hbl hbA Y.2.2.2.1 (vp_in_nI (show k + 1 < L by omega) (by omega)) dL_law_337 ?_
  refine z_top (xs (k + 1)) (by rw [nI_clamp (by omega)]) ?_
  refine lv_aload_n hx hb dL_law_338 rfl (lv_at hl 0 rfl) ?_
  refine lv_iload_n hx hb dL_law_339 rfl (lv_at hl 3 rfl) ?_
  refine lv_iconst (v := nI 2) hx hb dL_law_340 (by decide) ?_
  refine lv_iadd hx hb dL_law_341 ?_
  refine z_top (nI (k + 2)) (nI_add k 2) ?_
  refine va_sld hx hb hXs hbl hbA Y.2.2.2.1 (vp_in_nI (show k + 2 < L by omega) (by omega)) dL_law_342 ?_
  refine z_top (xs (k + 2)) (by rw [nI_clamp (by omega)]) ?_
  refine zL_callI0 (rest := []) ⟨hx, hb, hml, hown, htsL⟩ Y (kX0_copy l dC dI rX hX (xs (k + 1)) (xs (k + 2))) (cwV 2 htsL gL_law_X0_copy rfl rfl rfl (by decide +kernel) ⟨Nat.le_of_ble_eq_true rfl, Nat.le_of_ble_eq_true rfl⟩) rfl hl.1 rfl (Nat.le_of_ble_eq_true rfl) dL_law_343 ⟨Nat.le_refl _, Nat.le_refl _⟩ (fun r1 u1 Hq lq hw1 Y => ?_)
  refine lv_aload_n hx hb dL_law_346 rfl (lv_at hl 2 rfl) ?_
  refine lv_aload_n hx hb dL_law_347 rfl (lv_at hl 0 rfl) ?_
  refine lv_iload_n hx hb dL_law_348 rfl (lv_at hl 3 rfl) ?_
  refine lv_iconst (v := nI 1) hx hb dL_law_349 (by decide) ?_
  refine lv_iadd hx hb dL_law_350 ?_
  refine z_top (nI (k + 1)) (nI_add k 1) ?_
  refine va_sld hx hb hXs hbl hbA Y.2.2.2.1 (vp_in_nI (show k + 1 < L by omega) (by omega)) dL_law_351 ?_
  refine z_top (xs (k + 1)) (by rw [nI_clamp (by omega)]) ?_
  refine lv_aload_n hx hb dL_law_352 rfl (lv_at hl 0 rfl) ?_
  refine lv_iload_n hx hb dL_law_353 rfl (lv_at hl 3 rfl) ?_
  refine lv_iconst (v := nI 2) hx hb dL_law_354 (by decide) ?_
  refine lv_iadd hx hb dL_law_355 ?_
  refine z_top (nI (k + 2)) (nI_add k 2) ?_
  refine va_sld hx hb hXs hbl hbA Y.2.2.2.1 (vp_in_nI (show k + 2 < L by omega) (by omega)) dL_law_356 ?_
  refine z_top (xs (k + 2)) (by rw [nI_clamp (by omega)]) ?_
  refine zL_callI1 (rest := [.int r1]) ⟨hx, hb, hml, hown, htsL⟩ Y (kX1_copy l dC dI rM hM (xs (k + 1)) (xs (k + 2))) (cwV 2 htsL gL_law_X1_copy rfl rfl rfl (by decide +kernel) ⟨Nat.le_of_ble_eq_true rfl, Nat.le_of_ble_eq_true rfl⟩) rfl hl.1 rfl (Nat.le_of_ble_eq_true rfl) dL_law_357 ⟨Nat.le_refl _, Nat.le_refl _⟩ (fun r2 u2 Hq lq hw2 Y => ?_)
  rw [spCopy_c hG] at hw2
  refine lv_icmp_eq (tgt := 506) hx hb dL_law_360 (by decide) (fun _ => ?_) (fun cq => absurd (hw1.1.trans hw2.1.symm) cq)
  exact kk _ _ _ _ _ (Rep_to (by omega) hN4 hw1.2) (Rep_to (by omega) hN4 hw2.2) Y
set_option maxHeartbeats 4000000 in
set_option maxRecDepth 100000 in
theorem law_c9 {p : Program} {l : Launch} {e : Env} {s : State} {m : MethodId} {below : List Frame} {meth : Method} {c : Code} {b L : Nat} {xs : Nat → Int32} {dC : Nat → ClassId} {dI : Nat → Nat → Nat} {g h : GE} {Q : State → Prop} (hL : L ≤ 2051) (C0 : lw_At p s m meth c b L xs) (hG : Ge h g) (hX : geS g = geW g) (hM : geS h = 8) (hM3 : gn3 h = 1600) (hM5 : gn5 h = 32) {k : Nat} (hk : k + 4 ≤ L) {a : AS} {u v : CS} (rX : Rep g k a u) (rM : Rep h k a v) {H : Heap} {locs : List Loc} (Y : zL dC dI g h (fun q => s.heap.size ≤ q) s.heap s u v H locs) {ls : Array Slot} (hl : lv_has ls 4 [(0, .ref b), (1, .ref (ga0 g)), (2, .ref (ga0 h)), (3, .int (nI k))])
    (kk : ∀ (a1 : AS) (u1 v1 : CS) (H1 : Heap) (locs1 : List Loc), Rep g (k + 4) a1 u1 → Rep h (k + 4) a1 v1 → zL dC dI g h (fun q => s.heap.size ≤ q) s.heap s u1 v1 H1 locs1 → W p l e room_1 s m #[Value.ref b] below meth c H1 locs1 600000 7302250 Q (F0 m 506 ls [])) : W p l e room_1 s m #[Value.ref b] below meth c H locs 600000 7302250 Q (F0 m 365 ls []) := by
  obtain ⟨hx, hb, hr, hml, hown, hts, hXs, hbl, hlocks, hgv⟩ := C0
  have hown : s.vm.findClass RL = some m.cls := hown
  have htsL : ∀ w ∈ wsL_law, w.before #[Value.ref b] s = true := fun w z => hts w (wsL_law_in w z)
  have hbA : ¬ (fun q : Nat => s.heap.size ≤ q) b := Nat.not_le.mpr hbl
  have hN1 : k + 1 < 2 ^ 20 := by omega
  have hN4 : k + 4 < 2 ^ 20 := by omega
  refine lv_aload_n hx hb dL_law_365 rfl (lv_at hl 1 rfl) ?_
  refine lv_aload_n hx hb dL_law_366 rfl (lv_at hl 0 rfl) ?_
  refine lv_iload_n hx hb dL_law_367 rfl (lv_at hl 3 rfl) ?_
  refine lv_iconst (v := nI 1) hx hb dL_law_368 (by decide) ?_
  refine lv_iadd hx hb dL_law_369 ?_
  refine z_top (nI (k + 1)) (nI_add k 1) ?_
  refine va_sld hx hb hXs hbl hbA Y.2.2.2.1 (vp_in_nI (show k + 1 < L by omega) (by omega)) dL_law_370 ?_
  refine z_top (xs (k + 1)) (by rw [nI_clamp (by omega)]) ?_
  refine lv_aload_n hx hb dL_law_371 rfl (lv_at hl 0 rfl) ?_
  refine lv_iload_n hx hb dL_law_372 rfl (lv_at hl 3 rfl) ?_
  refine lv_iconst (v := nI 2) hx hb dL_law_373 (by decide) ?_
  refine lv_iadd hx hb dL_law_374 ?_
  refine z_top (nI (k + 2)) (nI_add k 2) ?_
  refine va_sld hx hb hXs hbl hbA Y.2.2.2.1 (vp_in_nI (show k + 2 < L by omega) (by omega)) dL_law_375 ?_
  refine z_top (xs (k + 2)) (by rw [nI_clamp (by omega)]) ?_
  refine zL_callI0 (rest := []) ⟨hx, hb, hml, hown, htsL⟩ Y (kX0_diskWord l dC dI rX hX (xs (k + 1)) (xs (k + 2))) (cwV 2 htsL gL_law_X0_diskWord rfl rfl rfl (by decide +kernel) ⟨Nat.le_of_ble_eq_true rfl, Nat.le_of_ble_eq_true rfl⟩) rfl hl.1 rfl (Nat.le_of_ble_eq_true rfl) dL_law_376 ⟨Nat.le_refl _, Nat.le_refl _⟩ (fun r1 u1 Hq lq hw1 Y => ?_)
  obtain ⟨rfl, hw1⟩ := hw1
  refine lv_aload_n hx hb dL_law_379 rfl (lv_at hl 2 rfl) ?_
  refine lv_aload_n hx hb dL_law_380 rfl (lv_at hl 0 rfl) ?_
  refine lv_iload_n hx hb dL_law_381 rfl (lv_at hl 3 rfl) ?_
  refine lv_iconst (v := nI 1) hx hb dL_law_382 (by decide) ?_
  refine lv_iadd hx hb dL_law_383 ?_
  refine z_top (nI (k + 1)) (nI_add k 1) ?_
  refine va_sld hx hb hXs hbl hbA Y.2.2.2.1 (vp_in_nI (show k + 1 < L by omega) (by omega)) dL_law_384 ?_
  refine z_top (xs (k + 1)) (by rw [nI_clamp (by omega)]) ?_
  refine lv_aload_n hx hb dL_law_385 rfl (lv_at hl 0 rfl) ?_
  refine lv_iload_n hx hb dL_law_386 rfl (lv_at hl 3 rfl) ?_
  refine lv_iconst (v := nI 2) hx hb dL_law_387 (by decide) ?_
  refine lv_iadd hx hb dL_law_388 ?_
  refine z_top (nI (k + 2)) (nI_add k 2) ?_
  refine va_sld hx hb hXs hbl hbA Y.2.2.2.1 (vp_in_nI (show k + 2 < L by omega) (by omega)) dL_law_389 ?_
  refine z_top (xs (k + 2)) (by rw [nI_clamp (by omega)]) ?_
  refine zL_callI1 (rest := [.int r1]) ⟨hx, hb, hml, hown, htsL⟩ Y (kX1_diskWord l dC dI rM hM (xs (k + 1)) (xs (k + 2))) (cwV 2 htsL gL_law_X1_diskWord rfl rfl rfl (by decide +kernel) ⟨Nat.le_of_ble_eq_true rfl, Nat.le_of_ble_eq_true rfl⟩) rfl hl.1 rfl (Nat.le_of_ble_eq_true rfl) dL_law_390 ⟨Nat.le_refl _, Nat.le_refl _⟩ (fun r2 u2 Hq lq hw2 Y => ?_)
  obtain ⟨rfl, hw2⟩ := hw2
  rw [spDiskW_c hG] at hw2
  refine lv_icmp_eq (tgt := 506) hx hb dL_law_393 (by decide) (fun _ => ?_) (fun cq => absurd (hw1.trans hw2.symm) cq)
  exact kk a _ _ _ _ (Rep_to (by omega) hN4 rX) (Rep_to (by omega) hN4 rM) Y
set_option maxHeartbeats 4000000 in
set_option maxRecDepth 100000 in
theorem law_c10 {p : Program} {l : Launch} {e : Env} {s : State} {m : MethodId} {below : List Frame} {meth : Method} {c : Code} {b L : Nat} {xs : Nat → Int32} {dC : Nat → ClassId} {dI : Nat → Nat → Nat} {g h : GE} {Q : State → Prop} (hL : L ≤ 2051) (C0 : lw_At p s m meth c b L xs) (hG : Ge h g) (hX : geS g = geW g) (hM : geS h = 8) (hM3 : gn3 h = 1600) (hM5 : gn5 h = 32) {k : Nat} (hk : k + 4 ≤ L) {a : AS} {u v : CS} (rX : Rep g k a u) (rM : Rep h k a v) {H : Heap} {locs : List Loc} (Y : zL dC dI g h (fun q => s.heap.size ≤ q) s.heap s u v H locs) {ls : Array Slot} (hl : lv_has ls 4 [(0, .ref b), (1, .ref (ga0 g)), (2, .ref (ga0 h)), (3, .int (nI k))])
    (kk : ∀ (a1 : AS) (u1 v1 : CS) (H1 : Heap) (locs1 : List Loc), Rep g (k + 4) a1 u1 → Rep h (k + 4) a1 v1 → zL dC dI g h (fun q => s.heap.size ≤ q) s.heap s u1 v1 H1 locs1 → W p l e room_1 s m #[Value.ref b] below meth c H1 locs1 600000 7302250 Q (F0 m 506 ls [])) : W p l e room_1 s m #[Value.ref b] below meth c H locs 600000 7302250 Q (F0 m 398 ls []) := by
  obtain ⟨hx, hb, hr, hml, hown, hts, hXs, hbl, hlocks, hgv⟩ := C0
  have hown : s.vm.findClass RL = some m.cls := hown
  have htsL : ∀ w ∈ wsL_law, w.before #[Value.ref b] s = true := fun w z => hts w (wsL_law_in w z)
  have hbA : ¬ (fun q : Nat => s.heap.size ≤ q) b := Nat.not_le.mpr hbl
  have hN1 : k + 1 < 2 ^ 20 := by omega
  have hN4 : k + 4 < 2 ^ 20 := by omega
  refine lv_aload_n hx hb dL_law_398 rfl (lv_at hl 1 rfl) ?_
  refine lv_aload_n hx hb dL_law_399 rfl (lv_at hl 0 rfl) ?_
  refine lv_iload_n hx hb dL_law_400 rfl (lv_at hl 3 rfl) ?_
  refine lv_iconst (v := nI 1) hx hb dL_law_401 (by decide) ?_
  refine lv_iadd hx hb dL_law_402 ?_
  refine z_top (nI (k + 1)) (nI_add k 1) ?_
  refine va_sld hx hb hXs hbl hbA Y.2.2.2.1 (vp_in_nI (show k + 1 < L by omega) (by omega)) dL_law_403 ?_
  refine z_top (xs (k + 1)) (by rw [nI_clamp (by omega)]) ?_
  refine zL_callI0 (rest := []) ⟨hx, hb, hml, hown, htsL⟩ Y (kX0_resident l dC dI rX (xs (k + 1))) (cwV 1 htsL gL_law_X0_resident rfl rfl rfl (by decide +kernel) ⟨Nat.le_of_ble_eq_true rfl, Nat.le_of_ble_eq_true rfl⟩) rfl hl.1 rfl (Nat.le_of_ble_eq_true rfl) dL_law_404 ⟨Nat.le_refl _, Nat.le_refl _⟩ (fun r1 u1 Hq lq hw1 Y => ?_)
  obtain ⟨rfl, hw1⟩ := hw1
  refine lv_aload_n hx hb dL_law_407 rfl (lv_at hl 2 rfl) ?_
  refine lv_aload_n hx hb dL_law_408 rfl (lv_at hl 0 rfl) ?_
  refine lv_iload_n hx hb dL_law_409 rfl (lv_at hl 3 rfl) ?_
  refine lv_iconst (v := nI 1) hx hb dL_law_410 (by decide) ?_
  refine lv_iadd hx hb dL_law_411 ?_
  refine z_top (nI (k + 1)) (nI_add k 1) ?_
  refine va_sld hx hb hXs hbl hbA Y.2.2.2.1 (vp_in_nI (show k + 1 < L by omega) (by omega)) dL_law_412 ?_
  refine z_top (xs (k + 1)) (by rw [nI_clamp (by omega)]) ?_
  refine zL_callI1 (rest := [.int r1]) ⟨hx, hb, hml, hown, htsL⟩ Y (kX1_resident l dC dI rM (xs (k + 1))) (cwV 1 htsL gL_law_X1_resident rfl rfl rfl (by decide +kernel) ⟨Nat.le_of_ble_eq_true rfl, Nat.le_of_ble_eq_true rfl⟩) rfl hl.1 rfl (Nat.le_of_ble_eq_true rfl) dL_law_413 ⟨Nat.le_refl _, Nat.le_refl _⟩ (fun r2 u2 Hq lq hw2 Y => ?_)
  obtain ⟨rfl, hw2⟩ := hw2
  rw [spRes_c hG] at hw2
  refine lv_icmp_eq (tgt := 506) hx hb dL_law_416 (by decide) (fun _ => ?_) (fun cq => absurd (hw1.trans hw2.symm) cq)
  exact kk a _ _ _ _ (Rep_to (by omega) hN4 rX) (Rep_to (by omega) hN4 rM) Y
set_option maxHeartbeats 4000000 in
set_option maxRecDepth 100000 in
theorem law_c11 {p : Program} {l : Launch} {e : Env} {s : State} {m : MethodId} {below : List Frame} {meth : Method} {c : Code} {b L : Nat} {xs : Nat → Int32} {dC : Nat → ClassId} {dI : Nat → Nat → Nat} {g h : GE} {Q : State → Prop} (hL : L ≤ 2051) (C0 : lw_At p s m meth c b L xs) (hG : Ge h g) (hX : geS g = geW g) (hM : geS h = 8) (hM3 : gn3 h = 1600) (hM5 : gn5 h = 32) {k : Nat} (hk : k + 4 ≤ L) {a : AS} {u v : CS} (rX : Rep g k a u) (rM : Rep h k a v) {H : Heap} {locs : List Loc} (Y : zL dC dI g h (fun q => s.heap.size ≤ q) s.heap s u v H locs) {ls : Array Slot} (hl : lv_has ls 4 [(0, .ref b), (1, .ref (ga0 g)), (2, .ref (ga0 h)), (3, .int (nI k))])
    (kk : ∀ (a1 : AS) (u1 v1 : CS) (H1 : Heap) (locs1 : List Loc), Rep g (k + 4) a1 u1 → Rep h (k + 4) a1 v1 → zL dC dI g h (fun q => s.heap.size ≤ q) s.heap s u1 v1 H1 locs1 → W p l e room_1 s m #[Value.ref b] below meth c H1 locs1 600000 7302250 Q (F0 m 506 ls [])) : W p l e room_1 s m #[Value.ref b] below meth c H locs 600000 7302250 Q (F0 m 421 ls []) := by
  obtain ⟨hx, hb, hr, hml, hown, hts, hXs, hbl, hlocks, hgv⟩ := C0
  have hown : s.vm.findClass RL = some m.cls := hown
  have htsL : ∀ w ∈ wsL_law, w.before #[Value.ref b] s = true := fun w z => hts w (wsL_law_in w z)
  have hbA : ¬ (fun q : Nat => s.heap.size ≤ q) b := Nat.not_le.mpr hbl
  have hN1 : k + 1 < 2 ^ 20 := by omega
  have hN4 : k + 4 < 2 ^ 20 := by omega
  refine lv_aload_n hx hb dL_law_421 rfl (lv_at hl 1 rfl) ?_
  refine zL_callI0 (rest := []) ⟨hx, hb, hml, hown, htsL⟩ Y (kX0_diskReads l dC dI rX) (cwV 0 htsL gL_law_X0_diskReads rfl rfl rfl (by decide +kernel) ⟨Nat.le_of_ble_eq_true rfl, Nat.le_of_ble_eq_true rfl⟩) rfl hl.1 rfl (Nat.le_of_ble_eq_true rfl) dL_law_422 ⟨Nat.le_refl _, Nat.le_refl _⟩ (fun r1 u1 Hq lq hw1 Y => ?_)
  obtain ⟨rfl, hw1⟩ := hw1
  refine lv_aload_n hx hb dL_law_425 rfl (lv_at hl 2 rfl) ?_
  refine zL_callI1 (rest := [.int r1]) ⟨hx, hb, hml, hown, htsL⟩ Y (kX1_diskReads l dC dI rM) (cwV 0 htsL gL_law_X1_diskReads rfl rfl rfl (by decide +kernel) ⟨Nat.le_of_ble_eq_true rfl, Nat.le_of_ble_eq_true rfl⟩) rfl hl.1 rfl (Nat.le_of_ble_eq_true rfl) dL_law_426 ⟨Nat.le_refl _, Nat.le_refl _⟩ (fun r2 u2 Hq lq hw2 Y => ?_)
  obtain ⟨rfl, hw2⟩ := hw2
  refine lv_icmp_eq (tgt := 506) hx hb dL_law_429 (by decide) (fun _ => ?_) (fun cq => absurd (hw1.trans hw2.symm) cq)
  exact kk a _ _ _ _ (Rep_to (by omega) hN4 rX) (Rep_to (by omega) hN4 rM) Y
set_option maxHeartbeats 4000000 in
set_option maxRecDepth 100000 in
theorem law_c12 {p : Program} {l : Launch} {e : Env} {s : State} {m : MethodId} {below : List Frame} {meth : Method} {c : Code} {b L : Nat} {xs : Nat → Int32} {dC : Nat → ClassId} {dI : Nat → Nat → Nat} {g h : GE} {Q : State → Prop} (hL : L ≤ 2051) (C0 : lw_At p s m meth c b L xs) (hG : Ge h g) (hX : geS g = geW g) (hM : geS h = 8) (hM3 : gn3 h = 1600) (hM5 : gn5 h = 32) {k : Nat} (hk : k + 4 ≤ L) {a : AS} {u v : CS} (rX : Rep g k a u) (rM : Rep h k a v) {H : Heap} {locs : List Loc} (Y : zL dC dI g h (fun q => s.heap.size ≤ q) s.heap s u v H locs) {ls : Array Slot} (hl : lv_has ls 4 [(0, .ref b), (1, .ref (ga0 g)), (2, .ref (ga0 h)), (3, .int (nI k))])
    (kk : ∀ (a1 : AS) (u1 v1 : CS) (H1 : Heap) (locs1 : List Loc), Rep g (k + 4) a1 u1 → Rep h (k + 4) a1 v1 → zL dC dI g h (fun q => s.heap.size ≤ q) s.heap s u1 v1 H1 locs1 → W p l e room_1 s m #[Value.ref b] below meth c H1 locs1 600000 7302250 Q (F0 m 506 ls [])) : W p l e room_1 s m #[Value.ref b] below meth c H locs 600000 7302250 Q (F0 m 434 ls []) := by
  obtain ⟨hx, hb, hr, hml, hown, hts, hXs, hbl, hlocks, hgv⟩ := C0
  have hown : s.vm.findClass RL = some m.cls := hown
  have htsL : ∀ w ∈ wsL_law, w.before #[Value.ref b] s = true := fun w z => hts w (wsL_law_in w z)
  have hbA : ¬ (fun q : Nat => s.heap.size ≤ q) b := Nat.not_le.mpr hbl
  have hN1 : k + 1 < 2 ^ 20 := by omega
  have hN4 : k + 4 < 2 ^ 20 := by omega
  refine lv_aload_n hx hb dL_law_434 rfl (lv_at hl 1 rfl) ?_
  refine zL_callI0 (rest := []) ⟨hx, hb, hml, hown, htsL⟩ Y (kX0_diskWrites l dC dI rX) (cwV 0 htsL gL_law_X0_diskWrites rfl rfl rfl (by decide +kernel) ⟨Nat.le_of_ble_eq_true rfl, Nat.le_of_ble_eq_true rfl⟩) rfl hl.1 rfl (Nat.le_of_ble_eq_true rfl) dL_law_435 ⟨Nat.le_refl _, Nat.le_refl _⟩ (fun r1 u1 Hq lq hw1 Y => ?_)
  obtain ⟨rfl, hw1⟩ := hw1
  refine lv_aload_n hx hb dL_law_438 rfl (lv_at hl 2 rfl) ?_
  refine zL_callI1 (rest := [.int r1]) ⟨hx, hb, hml, hown, htsL⟩ Y (kX1_diskWrites l dC dI rM) (cwV 0 htsL gL_law_X1_diskWrites rfl rfl rfl (by decide +kernel) ⟨Nat.le_of_ble_eq_true rfl, Nat.le_of_ble_eq_true rfl⟩) rfl hl.1 rfl (Nat.le_of_ble_eq_true rfl) dL_law_439 ⟨Nat.le_refl _, Nat.le_refl _⟩ (fun r2 u2 Hq lq hw2 Y => ?_)
  obtain ⟨rfl, hw2⟩ := hw2
  refine lv_icmp_eq (tgt := 506) hx hb dL_law_442 (by decide) (fun _ => ?_) (fun cq => absurd (hw1.trans hw2.symm) cq)
  exact kk a _ _ _ _ (Rep_to (by omega) hN4 rX) (Rep_to (by omega) hN4 rM) Y
set_option maxHeartbeats 4000000 in
set_option maxRecDepth 100000 in
theorem law_c13 {p : Program} {l : Launch} {e : Env} {s : State} {m : MethodId} {below : List Frame} {meth : Method} {c : Code} {b L : Nat} {xs : Nat → Int32} {dC : Nat → ClassId} {dI : Nat → Nat → Nat} {g h : GE} {Q : State → Prop} (hL : L ≤ 2051) (C0 : lw_At p s m meth c b L xs) (hG : Ge h g) (hX : geS g = geW g) (hM : geS h = 8) (hM3 : gn3 h = 1600) (hM5 : gn5 h = 32) {k : Nat} (hk : k + 4 ≤ L) {a : AS} {u v : CS} (rX : Rep g k a u) (rM : Rep h k a v) {H : Heap} {locs : List Loc} (Y : zL dC dI g h (fun q => s.heap.size ≤ q) s.heap s u v H locs) {ls : Array Slot} (hl : lv_has ls 4 [(0, .ref b), (1, .ref (ga0 g)), (2, .ref (ga0 h)), (3, .int (nI k))])
    (kk : ∀ (a1 : AS) (u1 v1 : CS) (H1 : Heap) (locs1 : List Loc), Rep g (k + 4) a1 u1 → Rep h (k + 4) a1 v1 → zL dC dI g h (fun q => s.heap.size ≤ q) s.heap s u1 v1 H1 locs1 → W p l e room_1 s m #[Value.ref b] below meth c H1 locs1 600000 7302250 Q (F0 m 506 ls [])) : W p l e room_1 s m #[Value.ref b] below meth c H locs 600000 7302250 Q (F0 m 447 ls []) := by
  obtain ⟨hx, hb, hr, hml, hown, hts, hXs, hbl, hlocks, hgv⟩ := C0
  have hown : s.vm.findClass RL = some m.cls := hown
  have htsL : ∀ w ∈ wsL_law, w.before #[Value.ref b] s = true := fun w z => hts w (wsL_law_in w z)
  have hbA : ¬ (fun q : Nat => s.heap.size ≤ q) b := Nat.not_le.mpr hbl
  have hN1 : k + 1 < 2 ^ 20 := by omega
  have hN4 : k + 4 < 2 ^ 20 := by omega
  refine lv_aload_n hx hb dL_law_447 rfl (lv_at hl 1 rfl) ?_
  refine lv_aload_n hx hb dL_law_448 rfl (lv_at hl 0 rfl) ?_
  refine lv_iload_n hx hb dL_law_449 rfl (lv_at hl 3 rfl) ?_
  refine lv_iconst (v := nI 1) hx hb dL_law_450 (by decide) ?_
  refine lv_iadd hx hb dL_law_451 ?_
  refine z_top (nI (k + 1)) (nI_add k 1) ?_
  refine va_sld hx hb hXs hbl hbA Y.2.2.2.1 (vp_in_nI (show k + 1 < L by omega) (by omega)) dL_law_452 ?_
  refine z_top (xs (k + 1)) (by rw [nI_clamp (by omega)]) ?_
  refine lv_aload_n hx hb dL_law_453 rfl (lv_at hl 0 rfl) ?_
  refine lv_iload_n hx hb dL_law_454 rfl (lv_at hl 3 rfl) ?_
  refine lv_iconst (v := nI 2) hx hb dL_law_455 (by decide) ?_
  refine lv_iadd hx hb dL_law_456 ?_
  refine z_top (nI (k + 2)) (nI_add k 2) ?_
  refine va_sld hx hb hXs hbl hbA Y.2.2.2.1 (vp_in_nI (show k + 2 < L by omega) (by omega)) dL_law_457 ?_
  refine z_top (xs (k + 2)) (by rw [nI_clamp (by omega)]) ?_
  refine zL_callI0 (rest := []) ⟨hx, hb, hml, hown, htsL⟩ Y (kX0_told l dC dI rX (xs (k + 1)) (xs (k + 2))) (cwV 2 htsL gL_law_X0_told rfl rfl rfl (by decide +kernel) ⟨Nat.le_of_ble_eq_true rfl, Nat.le_of_ble_eq_true rfl⟩) rfl hl.1 rfl (Nat.le_of_ble_eq_true rfl) dL_law_458 ⟨Nat.le_refl _, Nat.le_refl _⟩ (fun r1 u1 Hq lq hw1 Y => ?_)
  obtain ⟨rfl, hw1⟩ := hw1
  refine lv_aload_n hx hb dL_law_461 rfl (lv_at hl 2 rfl) ?_
  refine lv_aload_n hx hb dL_law_462 rfl (lv_at hl 0 rfl) ?_
  refine lv_iload_n hx hb dL_law_463 rfl (lv_at hl 3 rfl) ?_
  refine lv_iconst (v := nI 1) hx hb dL_law_464 (by decide) ?_
  refine lv_iadd hx hb dL_law_465 ?_
  refine z_top (nI (k + 1)) (nI_add k 1) ?_
  refine va_sld hx hb hXs hbl hbA Y.2.2.2.1 (vp_in_nI (show k + 1 < L by omega) (by omega)) dL_law_466 ?_
  refine z_top (xs (k + 1)) (by rw [nI_clamp (by omega)]) ?_
  refine lv_aload_n hx hb dL_law_467 rfl (lv_at hl 0 rfl) ?_
  refine lv_iload_n hx hb dL_law_468 rfl (lv_at hl 3 rfl) ?_
  refine lv_iconst (v := nI 2) hx hb dL_law_469 (by decide) ?_
  refine lv_iadd hx hb dL_law_470 ?_
  refine z_top (nI (k + 2)) (nI_add k 2) ?_
  refine va_sld hx hb hXs hbl hbA Y.2.2.2.1 (vp_in_nI (show k + 2 < L by omega) (by omega)) dL_law_471 ?_
  refine z_top (xs (k + 2)) (by rw [nI_clamp (by omega)]) ?_
  refine zL_callI1 (rest := [.int r1]) ⟨hx, hb, hml, hown, htsL⟩ Y (kX1_told l dC dI rM (xs (k + 1)) (xs (k + 2))) (cwV 2 htsL gL_law_X1_told rfl rfl rfl (by decide +kernel) ⟨Nat.le_of_ble_eq_true rfl, Nat.le_of_ble_eq_true rfl⟩) rfl hl.1 rfl (Nat.le_of_ble_eq_true rfl) dL_law_472 ⟨Nat.le_refl _, Nat.le_refl _⟩ (fun r2 u2 Hq lq hw2 Y => ?_)
  obtain ⟨rfl, hw2⟩ := hw2
  rw [spTold_c hG] at hw2
  refine lv_icmp_eq (tgt := 506) hx hb dL_law_475 (by decide) (fun _ => ?_) (fun cq => absurd (hw1.trans hw2.symm) cq)
  exact kk a _ _ _ _ (Rep_to (by omega) hN4 rX) (Rep_to (by omega) hN4 rM) Y
set_option maxHeartbeats 4000000 in
set_option maxRecDepth 100000 in
theorem law_c14 {p : Program} {l : Launch} {e : Env} {s : State} {m : MethodId} {below : List Frame} {meth : Method} {c : Code} {b L : Nat} {xs : Nat → Int32} {dC : Nat → ClassId} {dI : Nat → Nat → Nat} {g h : GE} {Q : State → Prop} (hL : L ≤ 2051) (C0 : lw_At p s m meth c b L xs) (hG : Ge h g) (hX : geS g = geW g) (hM : geS h = 8) (hM3 : gn3 h = 1600) (hM5 : gn5 h = 32) {k : Nat} (hk : k + 4 ≤ L) {a : AS} {u v : CS} (rX : Rep g k a u) (rM : Rep h k a v) {H : Heap} {locs : List Loc} (Y : zL dC dI g h (fun q => s.heap.size ≤ q) s.heap s u v H locs) {ls : Array Slot} (hl : lv_has ls 4 [(0, .ref b), (1, .ref (ga0 g)), (2, .ref (ga0 h)), (3, .int (nI k))])
    (kk : ∀ (a1 : AS) (u1 v1 : CS) (H1 : Heap) (locs1 : List Loc), Rep g (k + 4) a1 u1 → Rep h (k + 4) a1 v1 → zL dC dI g h (fun q => s.heap.size ≤ q) s.heap s u1 v1 H1 locs1 → W p l e room_1 s m #[Value.ref b] below meth c H1 locs1 600000 7302250 Q (F0 m 506 ls [])) : W p l e room_1 s m #[Value.ref b] below meth c H locs 600000 7302250 Q (F0 m 480 ls []) := by
  obtain ⟨hx, hb, hr, hml, hown, hts, hXs, hbl, hlocks, hgv⟩ := C0
  have hown : s.vm.findClass RL = some m.cls := hown
  have htsL : ∀ w ∈ wsL_law, w.before #[Value.ref b] s = true := fun w z => hts w (wsL_law_in w z)
  have hbA : ¬ (fun q : Nat => s.heap.size ≤ q) b := Nat.not_le.mpr hbl
  have hN1 : k + 1 < 2 ^ 20 := by omega
  have hN4 : k + 4 < 2 ^ 20 := by omega
  refine lv_aload_n hx hb dL_law_480 rfl (lv_at hl 1 rfl) ?_
  refine zL_callI0 (rest := []) ⟨hx, hb, hml, hown, htsL⟩ Y (kX0_hand l dC dI rX) (cwV 0 htsL gL_law_X0_hand rfl rfl rfl (by decide +kernel) ⟨Nat.le_of_ble_eq_true rfl, Nat.le_of_ble_eq_true rfl⟩) rfl hl.1 rfl (Nat.le_of_ble_eq_true rfl) dL_law_481 ⟨Nat.le_refl _, Nat.le_refl _⟩ (fun r1 u1 Hq lq hw1 Y => ?_)
  obtain ⟨rfl, hw1⟩ := hw1
  refine lv_aload_n hx hb dL_law_484 rfl (lv_at hl 2 rfl) ?_
  refine zL_callI1 (rest := [.int r1]) ⟨hx, hb, hml, hown, htsL⟩ Y (kX1_hand l dC dI rM) (cwV 0 htsL gL_law_X1_hand rfl rfl rfl (by decide +kernel) ⟨Nat.le_of_ble_eq_true rfl, Nat.le_of_ble_eq_true rfl⟩) rfl hl.1 rfl (Nat.le_of_ble_eq_true rfl) dL_law_485 ⟨Nat.le_refl _, Nat.le_refl _⟩ (fun r2 u2 Hq lq hw2 Y => ?_)
  obtain ⟨rfl, hw2⟩ := hw2
  refine lv_icmp_eq (tgt := 506) hx hb dL_law_488 (by decide) (fun _ => ?_) (fun cq => absurd (hw1.trans hw2.symm) cq)
  exact kk a _ _ _ _ (Rep_to (by omega) hN4 rX) (Rep_to (by omega) hN4 rM) Y
set_option maxHeartbeats 4000000 in
set_option maxRecDepth 100000 in
theorem law_c15 {p : Program} {l : Launch} {e : Env} {s : State} {m : MethodId} {below : List Frame} {meth : Method} {c : Code} {b L : Nat} {xs : Nat → Int32} {dC : Nat → ClassId} {dI : Nat → Nat → Nat} {g h : GE} {Q : State → Prop} (hL : L ≤ 2051) (C0 : lw_At p s m meth c b L xs) (hG : Ge h g) (hX : geS g = geW g) (hM : geS h = 8) (hM3 : gn3 h = 1600) (hM5 : gn5 h = 32) {k : Nat} (hk : k + 4 ≤ L) {a : AS} {u v : CS} (rX : Rep g k a u) (rM : Rep h k a v) {H : Heap} {locs : List Loc} (Y : zL dC dI g h (fun q => s.heap.size ≤ q) s.heap s u v H locs) {ls : Array Slot} (hl : lv_has ls 4 [(0, .ref b), (1, .ref (ga0 g)), (2, .ref (ga0 h)), (3, .int (nI k))])
    (kk : ∀ (a1 : AS) (u1 v1 : CS) (H1 : Heap) (locs1 : List Loc), Rep g (k + 4) a1 u1 → Rep h (k + 4) a1 v1 → zL dC dI g h (fun q => s.heap.size ≤ q) s.heap s u1 v1 H1 locs1 → W p l e room_1 s m #[Value.ref b] below meth c H1 locs1 600000 7302250 Q (F0 m 506 ls [])) : W p l e room_1 s m #[Value.ref b] below meth c H locs 600000 7302250 Q (F0 m 493 ls []) := by
  obtain ⟨hx, hb, hr, hml, hown, hts, hXs, hbl, hlocks, hgv⟩ := C0
  have hown : s.vm.findClass RL = some m.cls := hown
  have htsL : ∀ w ∈ wsL_law, w.before #[Value.ref b] s = true := fun w z => hts w (wsL_law_in w z)
  have hbA : ¬ (fun q : Nat => s.heap.size ≤ q) b := Nat.not_le.mpr hbl
  have hN1 : k + 1 < 2 ^ 20 := by omega
  have hN4 : k + 4 < 2 ^ 20 := by omega
  refine lv_aload_n hx hb dL_law_493 rfl (lv_at hl 1 rfl) ?_
  refine zL_callI0 (rest := []) ⟨hx, hb, hml, hown, htsL⟩ Y (kX0_pinned l dC dI rX) (cwV 0 htsL gL_law_X0_pinned rfl rfl rfl (by decide +kernel) ⟨Nat.le_of_ble_eq_true rfl, Nat.le_of_ble_eq_true rfl⟩) rfl hl.1 rfl (Nat.le_of_ble_eq_true rfl) dL_law_494 ⟨Nat.le_refl _, Nat.le_refl _⟩ (fun r1 u1 Hq lq hw1 Y => ?_)
  obtain ⟨rfl, hw1⟩ := hw1
  refine lv_aload_n hx hb dL_law_497 rfl (lv_at hl 2 rfl) ?_
  refine zL_callI1 (rest := [.int r1]) ⟨hx, hb, hml, hown, htsL⟩ Y (kX1_pinned l dC dI rM) (cwV 0 htsL gL_law_X1_pinned rfl rfl rfl (by decide +kernel) ⟨Nat.le_of_ble_eq_true rfl, Nat.le_of_ble_eq_true rfl⟩) rfl hl.1 rfl (Nat.le_of_ble_eq_true rfl) dL_law_498 ⟨Nat.le_refl _, Nat.le_refl _⟩ (fun r2 u2 Hq lq hw2 Y => ?_)
  obtain ⟨rfl, hw2⟩ := hw2
  rw [hG.1] at hw2
  refine lv_icmp_eq (tgt := 506) hx hb dL_law_501 (by decide) (fun _ => ?_) (fun cq => absurd (hw1.trans hw2.symm) cq)
  exact kk a _ _ _ _ (Rep_to (by omega) hN4 rX) (Rep_to (by omega) hN4 rM) Y
theorem cond_le {L k : Nat} (hL : L ≤ 2051) (hk : k ≤ 5000) (h : ¬ Int32.ofNat L - nI 4 < nI k) : k + 4 ≤ L := by
  have h1 := i_le_of h
  rw [Int32.le_iff_toInt_le, nI_toInt (by omega)] at h1
  have h2 : (nI L - nI 4).toInt = (L : Int) - 4 := pk_sub_toInt (by omega) (by decide)
  have h3 : (Int32.ofNat L - nI 4).toInt = (L : Int) - 4 := h2
  omega
set_option maxHeartbeats 4000000 in
set_option maxRecDepth 100000 in
/-- the law's loop -/
theorem law_loop {p : Program} {l : Launch} {e : Env} {s : State} {m : MethodId} {below : List Frame} {meth : Method} {c : Code} {b L : Nat} {xs : Nat → Int32} {dC : Nat → ClassId} {dI : Nat → Nat → Nat} {g h : GE} (hL : L ≤ 2051) (C0 : lw_At p s m meth c b L xs) (hG : Ge h g) (hX : geS g = geW g) (hM : geS h = 8) (hM3 : gn3 h = 1600) (hM5 : gn5 h = 32) : ∀ (n k : Nat), n = L - k → k ≤ 5000 → ∀ (a : AS) (u v : CS), Rep g k a u → Rep h k a v → ∀ (H : Heap) (locs : List Loc), zL dC dI g h (fun q => s.heap.size ≤ q) s.heap s u v H locs → ∀ ls : Array Slot, lv_has ls 4 [(0, .ref b), (1, .ref (ga0 g)), (2, .ref (ga0 h)), (3, .int (nI k))] → W p l e room_1 s m #[Value.ref b] below meth c H locs 600000 7302250 (lw_Z below #[Value.ref b] s) (F0 m 48 ls []) := by
  obtain ⟨hx, hb, hr, hml, hown, hts, hXs, hbl, hlocks, hgv⟩ := id C0
  have hbA : ¬ (fun q : Nat => s.heap.size ≤ q) b := Nat.not_le.mpr hbl
  intro n
  induction n using Nat.strongRecOn with
  | ind n ih =>
    intro k hn hk5 a u v rX rM H locs Y ls hl
    refine lv_iload_n hx hb dL_law_48 rfl (lv_at hl 3 rfl) ?_
    refine lv_aload_n hx hb dL_law_49 rfl (lv_at hl 0 rfl) ?_
    refine va_slen hx hb hXs hbl hbA Y.2.2.2.1 dL_law_50 ?_
    refine lv_iconst (v := nI 4) hx hb dL_law_51 (by decide) ?_
    refine lv_isub hx hb dL_law_52 ?_
    refine lv_icmp_gt (tgt := 512) hx hb dL_law_53 (by decide) (fun c53 => ?_) (fun c53 => ?_)
    · refine lv_iconst (v := 1) hx hb dL_law_512 (by decide) ?_
      refine va_forget (fun q hq => Y.2.2.2.1.2.2 q hq) ?_
      exact lw_ret hx hb hr hlocks dL_law_513
    · have hk : k + 4 ≤ L := cond_le hL hk5 c53
      refine lv_aload_n hx hb dL_law_56 rfl (lv_at hl 0 rfl) ?_
      refine lv_iload_n hx hb dL_law_57 rfl (lv_at hl 3 rfl) ?_
      refine va_sld hx hb hXs hbl hbA Y.2.2.2.1 (vp_in_nI (show k < L by omega) (by omega)) dL_law_58 ?_
      refine lv_bipush (v := nI 15) hx hb dL_law_59 (by decide) ?_
      refine lv_iand hx hb dL_law_61 ?_
      obtain ⟨j, hj, ej⟩ := pk_andE (xs (nI k).toNatClampNeg) (m := nI 15) 4 (by decide +kernel)
      refine z_top (nI j) ej ?_
      have kk : ∀ (a1 : AS) (u1 v1 : CS) (H1 : Heap) (locs1 : List Loc), Rep g (k + 4) a1 u1 → Rep h (k + 4) a1 v1 → zL dC dI g h (fun q => s.heap.size ≤ q) s.heap s u1 v1 H1 locs1 → W p l e room_1 s m #[Value.ref b] below meth c H1 locs1 600000 7302250 (lw_Z below #[Value.ref b] s) (F0 m 506 ls []) := by
        intro a1 u1 v1 H1 locs1 q1 q2 Y1
        refine lv_iinc (v := nI (k + 4)) (lv' := [(3, .int (nI (k + 4))), (0, .ref b), (1, .ref (ga0 g)), (2, .ref (ga0 h))]) hx hb dL_law_506 hl (k := 3) rfl (nI_add k 4) (by decide) rfl (fun ls hl => ?_)
        refine lv_goto (tgt := 48) hx hb dL_law_509 (by decide) ?_
        exact ih (L - (k + 4)) (by omega) (k + 4) rfl (by omega) a1 u1 v1 q1 q2 H1 locs1 Y1 ls (lv_sub hl [1, 2, 3, 0] rfl)
      rcases (show j = 0 ∨ j = 1 ∨ j = 2 ∨ j = 3 ∨ j = 4 ∨ j = 5 ∨ j = 6 ∨ j = 7 ∨ j = 8 ∨ j = 9 ∨ j = 10 ∨ j = 11 ∨ j = 12 ∨ j = 13 ∨ j = 14 ∨ j = 15 by omega) with rfl | rfl | rfl | rfl | rfl | rfl | rfl | rfl | rfl | rfl | rfl | rfl | rfl | rfl | rfl | rfl
      · refine lv_tableIn (tgt := 140) (off := 78) hx hb dL_law_62 (by decide +kernel) (by decide +kernel) (by decide +kernel) (by decide) ?_
        exact law_c0 hL C0 hG hX hM hM3 hM5 hk rX rM Y hl kk
      · refine lv_tableIn (tgt := 151) (off := 89) hx hb dL_law_62 (by decide +kernel) (by decide +kernel) (by decide +kernel) (by decide) ?_
        exact law_c1 hL C0 hG hX hM hM3 hM5 hk rX rM Y hl kk
      · refine lv_tableIn (tgt := 174) (off := 112) hx hb dL_law_62 (by decide +kernel) (by decide +kernel) (by decide +kernel) (by decide) ?_
        exact law_c2 hL C0 hG hX hM hM3 hM5 hk rX rM Y hl kk
      · refine lv_tableIn (tgt := 197) (off := 135) hx hb dL_law_62 (by decide +kernel) (by decide +kernel) (by decide +kernel) (by decide) ?_
        exact law_c3 hL C0 hG hX hM hM3 hM5 hk rX rM Y hl kk
      · refine lv_tableIn (tgt := 230) (off := 168) hx hb dL_law_62 (by decide +kernel) (by decide +kernel) (by decide +kernel) (by decide) ?_
        exact law_c4 hL C0 hG hX hM hM3 hM5 hk rX rM Y hl kk
      · refine lv_tableIn (tgt := 273) (off := 211) hx hb dL_law_62 (by decide +kernel) (by decide +kernel) (by decide +kernel) (by decide) ?_
        exact law_c5 hL C0 hG hX hM hM3 hM5 hk rX rM Y hl kk
      · refine lv_tableIn (tgt := 296) (off := 234) hx hb dL_law_62 (by decide +kernel) (by decide +kernel) (by decide +kernel) (by decide) ?_
        exact law_c6 hL C0 hG hX hM hM3 hM5 hk rX rM Y hl kk
      · refine lv_tableIn (tgt := 309) (off := 247) hx hb dL_law_62 (by decide +kernel) (by decide +kernel) (by decide +kernel) (by decide) ?_
        exact law_c7 hL C0 hG hX hM hM3 hM5 hk rX rM Y hl kk
      · refine lv_tableIn (tgt := 332) (off := 270) hx hb dL_law_62 (by decide +kernel) (by decide +kernel) (by decide +kernel) (by decide) ?_
        exact law_c8 hL C0 hG hX hM hM3 hM5 hk rX rM Y hl kk
      · refine lv_tableIn (tgt := 365) (off := 303) hx hb dL_law_62 (by decide +kernel) (by decide +kernel) (by decide +kernel) (by decide) ?_
        exact law_c9 hL C0 hG hX hM hM3 hM5 hk rX rM Y hl kk
      · refine lv_tableIn (tgt := 398) (off := 336) hx hb dL_law_62 (by decide +kernel) (by decide +kernel) (by decide +kernel) (by decide) ?_
        exact law_c10 hL C0 hG hX hM hM3 hM5 hk rX rM Y hl kk
      · refine lv_tableIn (tgt := 421) (off := 359) hx hb dL_law_62 (by decide +kernel) (by decide +kernel) (by decide +kernel) (by decide) ?_
        exact law_c11 hL C0 hG hX hM hM3 hM5 hk rX rM Y hl kk
      · refine lv_tableIn (tgt := 434) (off := 372) hx hb dL_law_62 (by decide +kernel) (by decide +kernel) (by decide +kernel) (by decide) ?_
        exact law_c12 hL C0 hG hX hM hM3 hM5 hk rX rM Y hl kk
      · refine lv_tableIn (tgt := 447) (off := 385) hx hb dL_law_62 (by decide +kernel) (by decide +kernel) (by decide +kernel) (by decide) ?_
        exact law_c13 hL C0 hG hX hM hM3 hM5 hk rX rM Y hl kk
      · refine lv_tableIn (tgt := 480) (off := 418) hx hb dL_law_62 (by decide +kernel) (by decide +kernel) (by decide +kernel) (by decide) ?_
        exact law_c14 hL C0 hG hX hM hM3 hM5 hk rX rM Y hl kk
      · refine lv_tableIn (tgt := 493) (off := 431) hx hb dL_law_62 (by decide +kernel) (by decide +kernel) (by decide +kernel) (by decide) ?_
        exact law_c15 hL C0 hG hX hM hM3 hM5 hk rX rM Y hl kk
end
section
set_option maxHeartbeats 4000000 in
set_option maxRecDepth 100000 in
/-- THE LAW, from its entry -/
theorem whole_start {p : Program} {e : Env} {s : State} {m : MethodId} {below : List Frame} {meth : Method} {c : Code} (l : Launch) {b L : Nat} {xs : Nat → Int32} (hL : L ≤ 2051) (C0 : lw_At p s m meth c b L xs) : W p l e room_1 s m #[Value.ref b] below meth c s.heap [] 0 0 (lw_Z below #[Value.ref b] s) (entryFrame m ([Value.ref b] : List Value).toArray 4) := by
  obtain ⟨hx, hb, hr, hml, hown, hts, hX, hbl, hlocks, hgv⟩ := id C0
  have hown : s.vm.findClass RL = some m.cls := hown
  have htsL : ∀ w ∈ wsL_law, w.before #[Value.ref b] s = true := fun w z => hts w (wsL_law_in w z)
  have hA : ∀ q : Nat, s.heap.size ≤ q → (fun q : Nat => s.heap.size ≤ q) q := fun _ h => h
  have hbA : ¬ (fun q : Nat => s.heap.size ≤ q) b := Nat.not_le.mpr hbl
  obtain ⟨c0, iS0, hKn0⟩ := u_known (C := RX0) (T := TX0) (N := 12) (n := 12) htsL inlX0 (htsL (.instantiable RX0 12) (by decide +kernel))
  obtain ⟨c1, iS1, hKn1⟩ := u_known (C := RX1) (T := TX1) (N := 12) (n := 12) htsL inlX1 (htsL (.instantiable RX1 12) (by decide +kernel))
  obtain ⟨dC, dI, hKc⟩ : ∃ (dC : Nat → ClassId) (dI : Nat → Nat → Nat), ∀ (k : Nat) (q : vw_C), vwCl[k]? = some q → u_Kn s q.1 q.2.1 q.2.2 (dC k) (dI k) := by
    refine ⟨fun k => if k = 0 then c0 else c1, fun k => if k = 0 then iS0 else iS1, ?_⟩
    intro k q hq
    match k, hq with
    | 0, hq => cases hq; exact hKn0
    | 1, hq => cases hq; exact hKn1
    | k + 2, hq => simp [vwCl] at hq
  have hS : va_S (fun q : Nat => s.heap.size ≤ q) s.heap s.heap [] := va_S.rf
  have hK : va_K (dC, dI) vwCl [] s := ⟨hKc, fun k q h => by simp at h⟩
  have hP : va_P (dC, dI) vwCl [] s.heap := fun k q h => by simp at h
  have hD : va_D (fun q : Nat => s.heap.size ≤ q) [] := ⟨fun i j p q h => by simp at h, fun k q h => by simp at h⟩
  have hl := lv_entry ([.ref b]) (n := 4) (Nat.le_of_ble_eq_true rfl)
  rw [lg_entry_eq]
  generalize (lg_sl ([.ref b]) ++ List.replicate (4 - (lg_sl ([.ref b])).length) Slot.unset).toArray = ls at hl ⊢
  have hl : lv_has ls 4 [(0, .ref b)] := hl
  obtain ⟨x, ex⟩ : ∃ x, x = cel L xs 0 := ⟨_, rfl⟩
  obtain ⟨y, ey⟩ : ∃ y, y = cel L xs 1 := ⟨_, rfl⟩
  obtain ⟨z, ez⟩ : ∃ z, z = cel L xs 2 := ⟨_, rfl⟩
  refine va_new (ci := 0) (fs := zBlank) (C := RX0) (T := TX0) (N := 12) hx hb htsL inlX0 tyX0 tyX0_ok hown (htsL (.classLink RL 7 RX0) (by decide +kernel)) (htsL (.instantiable RX0 12) (by decide +kernel)) (htsL (.initialized RX0) (by decide +kernel)) hK hP hD hS hA rfl (fun j hj => by rcases (show j = 0 ∨ j = 1 ∨ j = 2 ∨ j = 3 ∨ j = 4 ∨ j = 5 ∨ j = 6 ∨ j = 7 ∨ j = 8 ∨ j = 9 ∨ j = 10 ∨ j = 11 by omega) with rfl | rfl | rfl | rfl | rfl | rfl | rfl | rfl | rfl | rfl | rfl | rfl <;> rfl) (Nat.le_of_ble_eq_true rfl) (Nat.le_of_ble_eq_true rfl) dL_law_0 (fun q0 Hq hP hD hS => ?_)
  have hP : va_P (dC, dI) vwCl ([(q0, .inr (0, zBlank))]) Hq := hP
  have hD : va_D (fun q : Nat => s.heap.size ≤ q) ([(q0, .inr (0, zBlank))]) := hD
  refine lv_dup hx hb dL_law_3 rfl ?_
  refine lv_aload_n hx hb dL_law_4 rfl (lv_at hl 0 rfl) ?_
  refine lv_iconst (v := nI 0) hx hb dL_law_5 (by decide) ?_
  refine va_calli (va_runS (As := [.ref b, .int (nI 0)]) (rest := [.ref q0, .ref q0]) ⟨hx, hb, hml, hown, htsL⟩ (kL_cell l b L xs (by omega) (j := 0) (by decide)) (va_cwS 2 htsL gL_law_L_cell rfl rfl rfl (by decide +kernel) ⟨Nat.le_of_ble_eq_true rfl, Nat.le_of_ble_eq_true rfl⟩) ⟨fun a U g mk q => ⟨q.1, va_X.moved (u := U) (U := U.calling g mk a) (Vm.Alike.refl U.vm) q.2⟩, fun U hU hW => ⟨rfl, by show va_X b L xs U U.heap; rw [hU]; exact (hX.kept (hS.2.1 b hbl hbA)).moved hW.alike⟩⟩ rfl rfl hl.1 rfl (lv_room (Nat.le_of_ble_eq_true rfl)) dL_law_6 ⟨Nat.le_of_ble_eq_true rfl, Nat.le_of_ble_eq_true rfl⟩) hS (fun q _ z => z.elim) (fun q z => z.elim) (fun r6 w t Hq lq ht hvm hw hB hz1 hk1 hS => ?_)
  have hP := hP.kept (H1 := Hq) (fun k q hk => hk1 q.1 ((hP k q hk).lt) (fun z => z.elim))
  obtain rfl : x = r6 := ex.trans hw.symm
  refine lv_aload_n hx hb dL_law_9 rfl (lv_at hl 0 rfl) ?_
  refine lv_iconst (v := nI 1) hx hb dL_law_10 (by decide) ?_
  refine va_calli (va_runS (As := [.ref b, .int (nI 1)]) (rest := [.int x, .ref q0, .ref q0]) ⟨hx, hb, hml, hown, htsL⟩ (kL_cell l b L xs (by omega) (j := 1) (by decide)) (va_cwS 2 htsL gL_law_L_cell rfl rfl rfl (by decide +kernel) ⟨Nat.le_of_ble_eq_true rfl, Nat.le_of_ble_eq_true rfl⟩) ⟨fun a U g mk q => ⟨q.1, va_X.moved (u := U) (U := U.calling g mk a) (Vm.Alike.refl U.vm) q.2⟩, fun U hU hW => ⟨rfl, by show va_X b L xs U U.heap; rw [hU]; exact (hX.kept (hS.2.1 b hbl hbA)).moved hW.alike⟩⟩ rfl rfl hl.1 rfl (lv_room (Nat.le_of_ble_eq_true rfl)) dL_law_11 ⟨Nat.le_of_ble_eq_true rfl, Nat.le_of_ble_eq_true rfl⟩) hS (fun q _ z => z.elim) (fun q z => z.elim) (fun r11 w t Hq lq ht hvm hw hB hz1 hk1 hS => ?_)
  have hP := hP.kept (H1 := Hq) (fun k q hk => hk1 q.1 ((hP k q hk).lt) (fun z => z.elim))
  obtain rfl : y = r11 := ey.trans hw.symm
  refine lv_aload_n hx hb dL_law_14 rfl (lv_at hl 0 rfl) ?_
  refine lv_iconst (v := nI 2) hx hb dL_law_15 (by decide) ?_
  refine va_calli (va_runS (As := [.ref b, .int (nI 2)]) (rest := [.int y, .int x, .ref q0, .ref q0]) ⟨hx, hb, hml, hown, htsL⟩ (kL_cell l b L xs (by omega) (j := 2) (by decide)) (va_cwS 2 htsL gL_law_L_cell rfl rfl rfl (by decide +kernel) ⟨Nat.le_of_ble_eq_true rfl, Nat.le_of_ble_eq_true rfl⟩) ⟨fun a U g mk q => ⟨q.1, va_X.moved (u := U) (U := U.calling g mk a) (Vm.Alike.refl U.vm) q.2⟩, fun U hU hW => ⟨rfl, by show va_X b L xs U U.heap; rw [hU]; exact (hX.kept (hS.2.1 b hbl hbA)).moved hW.alike⟩⟩ rfl rfl hl.1 rfl (lv_room (Nat.le_of_ble_eq_true rfl)) dL_law_16 ⟨Nat.le_of_ble_eq_true rfl, Nat.le_of_ble_eq_true rfl⟩) hS (fun q _ z => z.elim) (fun q z => z.elim) (fun r16 w t Hq lq ht hvm hw hB hz1 hk1 hS => ?_)
  have hP := hP.kept (H1 := Hq) (fun k q hk => hk1 q.1 ((hP k q hk).lt) (fun z => z.elim))
  obtain rfl : z = r16 := ez.trans hw.symm
  have hPc := hP.sub (ws' := [(q0, .inr (0, zBlank))]) [0] rfl
  have hDc := hD.sub (ws' := [(q0, .inr (0, zBlank))]) [0] (by decide) rfl
  have hKc := hK.sub (tys' := []) [] rfl
  have hFc := va_free (wc := [(q0, .inr (0, zBlank))]) hD hS hA [0] rfl
  refine va_callv (va_runI (b := q0) (As := [.int x, .int y, .int z]) (rest := [.ref q0]) ⟨hx, hb, hml, hown, htsL⟩ (kX0_init l dC dI q0 x y z Hq.size) (cwI 3 htsL gL_law_X0_init rfl rfl rfl (htsL (.initialized RX0) (by decide +kernel)) (htsL (.methodLink RL 15 yX0_init) (by decide +kernel)) (htsL (.instanceMethod yX0_init) (by decide +kernel)) rfl (by decide +kernel) ⟨Nat.le_of_ble_eq_true rfl, Nat.le_of_ble_eq_true rfl⟩) ⟨fun a U g mk q => by obtain ⟨q0, q1, qP, qK, qD⟩ := q; exact ⟨q0, q1, qP, va_K.moved (u := U) (U := U.calling g mk a) (Vm.Alike.refl U.vm) qK, qD⟩, fun U hU hW => ⟨rfl, by rw [hU], by rw [hU]; exact hPc, va_K.moved hW.alike hKc, hDc.weaken (fun _ _ _ _ => trivial)⟩⟩ rfl rfl hl.1 rfl (lv_room (Nat.le_of_ble_eq_true rfl)) dL_law_19 ⟨Nat.le_of_ble_eq_true rfl, Nat.le_of_ble_eq_true rfl⟩) hS (fun q _ z => hFc q z) hFc (fun gu t Hq lq ht hvm hw hB hz1 hk1 hS => ?_)
  obtain ⟨gX, uX⟩ := gu
  obtain ⟨hP1, hK1, hD1⟩ := hB
  rw [ht] at hP1
  have hK1 := va_K.moved hvm.symm hK1
  obtain ⟨ho, f1, p1, w1, hXs, rX⟩ := hw
  obtain rfl : ga0 gX = q0 := ho
  obtain ⟨hP, hD⟩ := va_join (wr := []) (w1 := wd 0 gX uX) hP hD [0] [] rfl rfl (by decide) (by decide) hk1 hFc hP1 hD1
  have hK : va_K (dC, dI) vwCl (zty gX) s := hK1
  have hP : va_P (dC, dI) vwCl (wd 0 gX uX) Hq := hP
  have hD : va_D (fun q : Nat => s.heap.size ≤ q) (wd 0 gX uX) := hD
  refine lv_astore_n (lv' := [(1, .ref (ga0 gX)), (0, .ref b)]) hx hb dL_law_22 rfl hl (by decide) rfl (fun ls hl => ?_)
  refine va_new (ci := 1) (fs := zBlank) (C := RX1) (T := TX1) (N := 12) hx hb htsL inlX1 tyX1 tyX1_ok hown (htsL (.classLink RL 18 RX1) (by decide +kernel)) (htsL (.instantiable RX1 12) (by decide +kernel)) (htsL (.initialized RX1) (by decide +kernel)) hK hP hD hS hA rfl (fun j hj => by rcases (show j = 0 ∨ j = 1 ∨ j = 2 ∨ j = 3 ∨ j = 4 ∨ j = 5 ∨ j = 6 ∨ j = 7 ∨ j = 8 ∨ j = 9 ∨ j = 10 ∨ j = 11 by omega) with rfl | rfl | rfl | rfl | rfl | rfl | rfl | rfl | rfl | rfl | rfl | rfl <;> rfl) (Nat.le_of_ble_eq_true rfl) (Nat.le_of_ble_eq_true rfl) dL_law_23 (fun q1 Hq hP hD hS => ?_)
  have hP : va_P (dC, dI) vwCl (wd 0 gX uX ++ [(q1, .inr (1, zBlank))]) Hq := hP
  have hD : va_D (fun q : Nat => s.heap.size ≤ q) (wd 0 gX uX ++ [(q1, .inr (1, zBlank))]) := hD
  refine lv_dup hx hb dL_law_26 rfl ?_
  refine lv_aload_n hx hb dL_law_27 rfl (lv_at hl 1 rfl) ?_
  refine lv_iconst (v := nI 0) hx hb dL_law_28 (by decide) ?_
  refine va_calli (va_runS (As := [.ref b, .int (nI 0)]) (rest := [.ref q1, .ref q1]) ⟨hx, hb, hml, hown, htsL⟩ (kL_cell l b L xs (by omega) (j := 0) (by decide)) (va_cwS 2 htsL gL_law_L_cell rfl rfl rfl (by decide +kernel) ⟨Nat.le_of_ble_eq_true rfl, Nat.le_of_ble_eq_true rfl⟩) ⟨fun a U g mk q => ⟨q.1, va_X.moved (u := U) (U := U.calling g mk a) (Vm.Alike.refl U.vm) q.2⟩, fun U hU hW => ⟨rfl, by show va_X b L xs U U.heap; rw [hU]; exact (hX.kept (hS.2.1 b hbl hbA)).moved hW.alike⟩⟩ rfl rfl hl.1 rfl (lv_room (Nat.le_of_ble_eq_true rfl)) dL_law_29 ⟨Nat.le_of_ble_eq_true rfl, Nat.le_of_ble_eq_true rfl⟩) hS (fun q _ z => z.elim) (fun q z => z.elim) (fun r29 w t Hq lq ht hvm hw hB hz1 hk1 hS => ?_)
  have hP := hP.kept (H1 := Hq) (fun k q hk => hk1 q.1 ((hP k q hk).lt) (fun z => z.elim))
  obtain rfl : x = r29 := ex.trans hw.symm
  refine lv_aload_n hx hb dL_law_32 rfl (lv_at hl 1 rfl) ?_
  refine lv_iconst (v := nI 1) hx hb dL_law_33 (by decide) ?_
  refine va_calli (va_runS (As := [.ref b, .int (nI 1)]) (rest := [.int x, .ref q1, .ref q1]) ⟨hx, hb, hml, hown, htsL⟩ (kL_cell l b L xs (by omega) (j := 1) (by decide)) (va_cwS 2 htsL gL_law_L_cell rfl rfl rfl (by decide +kernel) ⟨Nat.le_of_ble_eq_true rfl, Nat.le_of_ble_eq_true rfl⟩) ⟨fun a U g mk q => ⟨q.1, va_X.moved (u := U) (U := U.calling g mk a) (Vm.Alike.refl U.vm) q.2⟩, fun U hU hW => ⟨rfl, by show va_X b L xs U U.heap; rw [hU]; exact (hX.kept (hS.2.1 b hbl hbA)).moved hW.alike⟩⟩ rfl rfl hl.1 rfl (lv_room (Nat.le_of_ble_eq_true rfl)) dL_law_34 ⟨Nat.le_of_ble_eq_true rfl, Nat.le_of_ble_eq_true rfl⟩) hS (fun q _ z => z.elim) (fun q z => z.elim) (fun r34 w t Hq lq ht hvm hw hB hz1 hk1 hS => ?_)
  have hP := hP.kept (H1 := Hq) (fun k q hk => hk1 q.1 ((hP k q hk).lt) (fun z => z.elim))
  obtain rfl : y = r34 := ey.trans hw.symm
  refine lv_aload_n hx hb dL_law_37 rfl (lv_at hl 1 rfl) ?_
  refine lv_iconst (v := nI 2) hx hb dL_law_38 (by decide) ?_
  refine va_calli (va_runS (As := [.ref b, .int (nI 2)]) (rest := [.int y, .int x, .ref q1, .ref q1]) ⟨hx, hb, hml, hown, htsL⟩ (kL_cell l b L xs (by omega) (j := 2) (by decide)) (va_cwS 2 htsL gL_law_L_cell rfl rfl rfl (by decide +kernel) ⟨Nat.le_of_ble_eq_true rfl, Nat.le_of_ble_eq_true rfl⟩) ⟨fun a U g mk q => ⟨q.1, va_X.moved (u := U) (U := U.calling g mk a) (Vm.Alike.refl U.vm) q.2⟩, fun U hU hW => ⟨rfl, by show va_X b L xs U U.heap; rw [hU]; exact (hX.kept (hS.2.1 b hbl hbA)).moved hW.alike⟩⟩ rfl rfl hl.1 rfl (lv_room (Nat.le_of_ble_eq_true rfl)) dL_law_39 ⟨Nat.le_of_ble_eq_true rfl, Nat.le_of_ble_eq_true rfl⟩) hS (fun q _ z => z.elim) (fun q z => z.elim) (fun r39 w t Hq lq ht hvm hw hB hz1 hk1 hS => ?_)
  have hP := hP.kept (H1 := Hq) (fun k q hk => hk1 q.1 ((hP k q hk).lt) (fun z => z.elim))
  obtain rfl : z = r39 := ez.trans hw.symm
  have hPc := hP.sub (ws' := [(q1, .inr (1, zBlank))]) [7] rfl
  have hDc := hD.sub (ws' := [(q1, .inr (1, zBlank))]) [7] (by decide) rfl
  have hKc := hK.sub (tys' := []) [] rfl
  have hFc := va_free (wc := [(q1, .inr (1, zBlank))]) hD hS hA [7] rfl
  refine va_callv (va_runI (b := q1) (As := [.int x, .int y, .int z]) (rest := [.ref q1]) ⟨hx, hb, hml, hown, htsL⟩ (kX1_init l dC dI q1 x y z Hq.size) (cwI 3 htsL gL_law_X1_init rfl rfl rfl (htsL (.initialized RX1) (by decide +kernel)) (htsL (.methodLink RL 20 yX1_init) (by decide +kernel)) (htsL (.instanceMethod yX1_init) (by decide +kernel)) rfl (by decide +kernel) ⟨Nat.le_of_ble_eq_true rfl, Nat.le_of_ble_eq_true rfl⟩) ⟨fun a U g mk q => by obtain ⟨q0, q1, qP, qK, qD⟩ := q; exact ⟨q0, q1, qP, va_K.moved (u := U) (U := U.calling g mk a) (Vm.Alike.refl U.vm) qK, qD⟩, fun U hU hW => ⟨rfl, by rw [hU], by rw [hU]; exact hPc, va_K.moved hW.alike hKc, hDc.weaken (fun _ _ _ _ => trivial)⟩⟩ rfl rfl hl.1 rfl (lv_room (Nat.le_of_ble_eq_true rfl)) dL_law_42 ⟨Nat.le_of_ble_eq_true rfl, Nat.le_of_ble_eq_true rfl⟩) hS (fun q _ z => hFc q z) hFc (fun gu t Hq lq ht hvm hw hB hz1 hk1 hS => ?_)
  obtain ⟨gM, uM⟩ := gu
  obtain ⟨hP1, hK1, hD1⟩ := hB
  rw [ht] at hP1
  have hK1 := va_K.moved hvm.symm hK1
  obtain ⟨ho2, f2, p2, w2, hMs, hM3, hM5, rM⟩ := hw
  obtain rfl : ga0 gM = q1 := ho2
  obtain ⟨hP, hD⟩ := va_join (wr := wd 0 gX uX) (w1 := wd 1 gM uM) hP hD [7] [0, 1, 2, 3, 4, 5, 6] rfl rfl (by decide) (by decide) hk1 hFc hP1 hD1
  have hK : va_K (dC, dI) vwCl (zty gX ++ zty gM) s := hK.app hK1
  refine lv_astore_n (lv' := [(2, .ref (ga0 gM)), (1, .ref (ga0 gX)), (0, .ref b)]) hx hb dL_law_45 rfl hl (by decide) rfl (fun ls hl => ?_)
  refine lv_iconst (v := nI 3) hx hb dL_law_46 (by decide) ?_
  refine lv_istore_n (lv' := [(3, .int (nI 3)), (2, .ref (ga0 gM)), (1, .ref (ga0 gX)), (0, .ref b)]) hx hb dL_law_47 rfl hl (by decide) rfl (fun ls hl => ?_)
  refine W.widen (k := 600000) (n := 7302250) (Nat.le_of_ble_eq_true rfl) (Nat.le_of_ble_eq_true rfl) ?_
  exact law_loop hL C0 ⟨f2.trans f1.symm, p2.trans p1.symm, w2.trans w1.symm⟩ hXs hMs hM3 hM5 (L - 3) 3 rfl (by decide) a00 uX uM (Rep_to (Nat.zero_le 3) (by decide) rX) (Rep_to (Nat.zero_le 3) (by decide) rM) _ _ ⟨hK, hP, hD, hS, hA⟩ ls (lv_sub hl [3, 2, 1, 0] rfl)
end
section
set_option maxHeartbeats 4000000 in
theorem lw_walk (l : Launch) (b : Addr) (xs : List Int32) : MetFree l x (headSpec (Jvm.Cond.code x code maxLocals ret :: tables_1) room_1) (lw_P b xs) (fun _ _ _ _ _ => True) lw_Q := by
  refine MetFree.of_bodyS (code := code) (maxLocals := maxLocals) (ret := ret) (by decide) ?_ ?_
  · intro args s m h hn
    obtain ⟨meth, c, h1, h2, h3, h4, h5, h6, -, -⟩ := Cond.code_spec hn (atoms_spec (ws := Jvm.Cond.code x code maxLocals ret :: tables_1) h _ List.mem_cons_self)
    exact ⟨meth, c, h1, h2, h3, h4, h5, h6⟩
  · intro p e s m args below meth c s₁ B hml0 hP _
    obtain ⟨rfl, hx, hbd, hgv⟩ := hP
    obtain ⟨scr, harrAt, hlist, hof, hsmall⟩ := hx
    obtain ⟨hcb, hkn, -, -⟩ := State.arrayAt?_spec harrAt
    have hown : s.vm.findClass R_law = some m.cls := findClass_of_methodNamed B.named
    have hts0 : ∀ c ∈ (Jvm.Cond.code x code maxLocals ret :: tables_1), c.before #[Value.ref b] s = true := atoms_spec (ws := Jvm.Cond.code x code maxLocals ret :: tables_1) B.pre
    have hts : ∀ w ∈ lw_tbl, w.before #[Value.ref b] s = true := k2_hts_sels lw_privs (fun w hw => hts0 w (List.mem_cons_of_mem _ hw)) lw_privs_ok
    have hml : c.maxLocals = 4 := B.maxLocals_eq (hts0 _ List.mem_cons_self)
    have X₀ : Stand p l e room_1 s m #[Value.ref b] below meth c s₁ [] 0 0 := Stand.of_body B
    have hh0 : s₁.heap = s.heap := by rw [B.state]; rfl
    have hsz : scr.slots.size = xs.length := by rw [← Array.length_toList, hlist, List.length_map]
    have hval : ∀ j : Nat, j < xs.length → scr.slots[j]? = some (.int (xs.getD j 0)) := fun j hj => by
      rw [← Array.getElem?_toList, hlist]
      simp [hj]
    have hbl : b < s.heap.size := (Array.getElem?_eq_some_iff.mp hcb).1
    have hX : va_X b xs.length (fun j => xs.getD j 0) s s.heap := ⟨scr, hcb, hof, hkn, hsz, hval⟩
    have K : W p l e room_1 s m #[Value.ref b] below meth c s₁.heap [] 0 0 (lw_Z below #[Value.ref b] s) (entryFrame m ([Value.ref b] : List Value).toArray 4) := by
      rw [hh0]
      exact whole_start l hbd ⟨B.exec, B.bytes, B.returns, hml, hown, hts, hX, hbl, B.notSynchronized, hgv⟩
    obtain ⟨t, a1, o, b1, b2, b3⟩ := K s₁ rfl X₀
    exact ⟨t, o, a1, b1, b2, b3⟩
theorem lw_pre_spec {args : Array Value} {s : State} (h : (Jvm.Cond.and given_1 narrow_1).before args s = true) (hr : rest_1_c.before args s = true) : ∃ (b : Addr) (xs : List Int32), lw_P b xs args s := by
  have hs := flat_of_before _ h
  have hq := flat_of_before _ hr
  have hc : (Cond.count 1).before args s = true := hs _ (by decide +kernel)
  have harr : (Cond.arrayOf (.arg 0) .int).before args s = true := hs _ (by decide +kernel)
  have hle : (Cond.le (.length (.arg 0)) (.int 2051)).before args s = true := hs _ (by decide +kernel)
  have hlen : (Cond.isInt (.length (.arg 0))).before args s = true := hq _ (by decide +kernel)
  have hall : (Cond.all (.arg 0) (.isInt (.elem (.arg 0) (.index 0)))).before args s = true := hq _ (by decide +kernel)
  obtain ⟨b, xs, hb, hx⟩ := State.ints_of_pre rfl harr hlen hall
  have hsm : xs.length < 2 ^ 31 := hx.choose_spec.2.2.2
  have hev : (Term.length (.arg 0)).eval args s none [] s = some (.int xs.length.toInt32) := hx.length_eval hb
  have hv := Cond.le_ints hev (show (Term.int 2051).eval args s none [] s = some (.int 2051) from rfl)
  have hd : xs.length.toInt32 ≤ 2051 := by
    simpa [Cond.before, Cond.holds, hv] using hle
  have hN : xs.length ≤ 2051 := (Int32.ofNat_le_ofNat hsm (by decide)).mp (show Int32.ofNat xs.length ≤ Int32.ofNat 2051 from hd)
  exact ⟨b, xs, Cond.one_arg hc (show args[0]? = some (.ref b) from hb), hx, hN, h⟩
theorem lw_comes (l : Launch) : Comes l x (Jvm.Cond.code x code maxLocals ret :: tables_1) room_1 (fun tb e args s => Calls_1 tb e args s ∧ rest_1 tb e args s ∧ Pre_1 tb e args s)
    (fun _ _ args s o t => lw_Q args s o t) := by
  intro p e ha hc hk s m args below hf hfit hheap happ hpre
  obtain ⟨b, xs, hP⟩ := lw_pre_spec hpre.2.2 hpre.2.1
  obtain ⟨k, o, h1, h2, h3, hQ⟩ := lw_walk l b xs p e ha hc hk s m args below hf ((Spec.applies_iff_loose hf).mp happ).1 hP trivial
  exact ⟨k, o, h1, h2, h3, hQ⟩
theorem lw_frame {s t : State} {o : Outcome} {args : Array Value} (h : Framed s o t [] 600000 7302250) :
    Framed s o t (fieldLocs frame_1_writes args s ++ arrayLocs frame_1_arrays args s ++ staticLocs frame_1_statics s) 600000 7302250 := h
theorem lw_limb (L : Cond) (hL : ∀ (args : Array Value) (s t : State), L.after args s (.returned (some (.int 1))) t = true) :
    ArmFor flags0 classFile x code maxLocals ret World_1 tables_1 room_1 Calls_1 rest_1 Pre_1
      (fun tb e a s o t => postC L tb e a s o t ∧ Framed s o t (fieldLocs frame_1_writes a s ++ arrayLocs frame_1_arrays a s ++ staticLocs frame_1_statics s) 600000 7302250) := by
  intro l _ _ _ p e ha hc hk s m args below hf hfit hheap happ hpre
  obtain ⟨k, o, h1, h2, h3, rfl, hF⟩ := lw_comes l p e ha hc hk s m args below hf hfit hheap happ hpre
  exact ⟨k, _, h1, h2, h3, hL args s _, lw_frame hF⟩
theorem i_vc : Claimed_1_1 ∧ Claimed_1_2 := ⟨lw_limb limb_1_1 (fun args s t => by simp [limb_1_1, Cond.after, Cond.holds, Cond.value]), lw_limb limb_1_2 (fun args s t => Cond.after_iff.mpr (by
  first | (rw [show limb_1_2 = Cond.eq .result (.int 1) from rfl, Cond.eq_ints (x := 1) (y := 1) rfl rfl]; simp; done) | (simp [limb_1_2, Cond.value, Term.eval]; done)))⟩
end
