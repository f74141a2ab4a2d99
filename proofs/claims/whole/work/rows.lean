section
-- ===== PART A: goes FIRST, ahead of the names: the tables' words, and 'selects' of the private methods out of them =====
/-- a private method of a class that the tables say can be made, by its rows of tables_1 -/
def lw_okq (q : MethodName × Nat) : Prop := (q.1.cls ≠ "java/lang/invoke/MethodHandle" ∧ q.1.cls ≠ "java/lang/invoke/VarHandle") ∧ Cond.instantiable q.1.cls q.2 ∈ tables_1 ∧ Cond.privateMethod q.1 ∈ tables_1 ∧ Cond.instanceMethod q.1 ∈ tables_1
theorem lw_p0 : lw_okq (⟨"SeedMill", "stir", "()V"⟩, 12) := ⟨⟨by decide +kernel, by decide +kernel⟩, List.mem_of_getElem? (i := 11) (by decide +kernel), List.mem_of_getElem? (i := 139) (by decide +kernel), List.mem_of_getElem? (i := 140) (by decide +kernel)⟩
theorem lw_p1 : lw_okq (⟨"SeedMill$Hasher", "pad", "()V"⟩, 3) := ⟨⟨by decide +kernel, by decide +kernel⟩, List.mem_of_getElem? (i := 33) (by decide +kernel), List.mem_of_getElem? (i := 171) (by decide +kernel), List.mem_of_getElem? (i := 172) (by decide +kernel)⟩
theorem lw_p2 : lw_okq (⟨"SeedMill$Hasher", "spread", "(I)V"⟩, 3) := ⟨⟨by decide +kernel, by decide +kernel⟩, List.mem_of_getElem? (i := 33) (by decide +kernel), List.mem_of_getElem? (i := 188) (by decide +kernel), List.mem_of_getElem? (i := 189) (by decide +kernel)⟩
theorem lw_p3 : lw_okq (⟨"SeedMill$Hasher", "mix", "()V"⟩, 3) := ⟨⟨by decide +kernel, by decide +kernel⟩, List.mem_of_getElem? (i := 33) (by decide +kernel), List.mem_of_getElem? (i := 203) (by decide +kernel), List.mem_of_getElem? (i := 204) (by decide +kernel)⟩
theorem lw_p4 : lw_okq (⟨"SeedMill", "renewValue", "()V"⟩, 12) := ⟨⟨by decide +kernel, by decide +kernel⟩, List.mem_of_getElem? (i := 11) (by decide +kernel), List.mem_of_getElem? (i := 238) (by decide +kernel), List.mem_of_getElem? (i := 239) (by decide +kernel)⟩
theorem lw_p5 : lw_okq (⟨"SeedMill", "isSeeded", "()Z"⟩, 12) := ⟨⟨by decide +kernel, by decide +kernel⟩, List.mem_of_getElem? (i := 11) (by decide +kernel), List.mem_of_getElem? (i := 247) (by decide +kernel), List.mem_of_getElem? (i := 248) (by decide +kernel)⟩
theorem lw_p6 : lw_okq (⟨"SeedMill", "fillDrawn", "(I)V"⟩, 12) := ⟨⟨by decide +kernel, by decide +kernel⟩, List.mem_of_getElem? (i := 11) (by decide +kernel), List.mem_of_getElem? (i := 255) (by decide +kernel), List.mem_of_getElem? (i := 256) (by decide +kernel)⟩
theorem lw_p7 : lw_okq (⟨"SeedMillModel", "stir", "()V"⟩, 22) := ⟨⟨by decide +kernel, by decide +kernel⟩, List.mem_of_getElem? (i := 308) (by decide +kernel), List.mem_of_getElem? (i := 465) (by decide +kernel), List.mem_of_getElem? (i := 466) (by decide +kernel)⟩
theorem lw_p8 : lw_okq (⟨"SeedMillModel", "beginKeyed", "()V"⟩, 22) := ⟨⟨by decide +kernel, by decide +kernel⟩, List.mem_of_getElem? (i := 308) (by decide +kernel), List.mem_of_getElem? (i := 469) (by decide +kernel), List.mem_of_getElem? (i := 470) (by decide +kernel)⟩
theorem lw_p9 : lw_okq (⟨"SeedMillModel", "putPad", "(I)V"⟩, 22) := ⟨⟨by decide +kernel, by decide +kernel⟩, List.mem_of_getElem? (i := 308) (by decide +kernel), List.mem_of_getElem? (i := 473) (by decide +kernel), List.mem_of_getElem? (i := 474) (by decide +kernel)⟩
theorem lw_p10 : lw_okq (⟨"SeedMillModel", "put", "(I)V"⟩, 22) := ⟨⟨by decide +kernel, by decide +kernel⟩, List.mem_of_getElem? (i := 308) (by decide +kernel), List.mem_of_getElem? (i := 477) (by decide +kernel), List.mem_of_getElem? (i := 478) (by decide +kernel)⟩
theorem lw_p11 : lw_okq (⟨"SeedMillModel", "finishKeyed", "()V"⟩, 22) := ⟨⟨by decide +kernel, by decide +kernel⟩, List.mem_of_getElem? (i := 308) (by decide +kernel), List.mem_of_getElem? (i := 481) (by decide +kernel), List.mem_of_getElem? (i := 482) (by decide +kernel)⟩
theorem lw_p12 : lw_okq (⟨"SeedMillModel", "hashRow", "()V"⟩, 22) := ⟨⟨by decide +kernel, by decide +kernel⟩, List.mem_of_getElem? (i := 308) (by decide +kernel), List.mem_of_getElem? (i := 485) (by decide +kernel), List.mem_of_getElem? (i := 486) (by decide +kernel)⟩
theorem lw_p13 : lw_okq (⟨"SeedMillModel", "hashBlock", "(I)V"⟩, 22) := ⟨⟨by decide +kernel, by decide +kernel⟩, List.mem_of_getElem? (i := 308) (by decide +kernel), List.mem_of_getElem? (i := 489) (by decide +kernel), List.mem_of_getElem? (i := 490) (by decide +kernel)⟩
theorem lw_p14 : lw_okq (⟨"SeedMillModel", "nextValue", "()V"⟩, 22) := ⟨⟨by decide +kernel, by decide +kernel⟩, List.mem_of_getElem? (i := 308) (by decide +kernel), List.mem_of_getElem? (i := 496) (by decide +kernel), List.mem_of_getElem? (i := 497) (by decide +kernel)⟩
def lw_privs_1 : List (MethodName × Nat) := [(⟨"SeedMill", "stir", "()V"⟩, 12), (⟨"SeedMill$Hasher", "pad", "()V"⟩, 3), (⟨"SeedMill$Hasher", "spread", "(I)V"⟩, 3), (⟨"SeedMill$Hasher", "mix", "()V"⟩, 3), (⟨"SeedMill", "renewValue", "()V"⟩, 12), (⟨"SeedMill", "isSeeded", "()Z"⟩, 12), (⟨"SeedMill", "fillDrawn", "(I)V"⟩, 12), (⟨"SeedMillModel", "stir", "()V"⟩, 22), (⟨"SeedMillModel", "beginKeyed", "()V"⟩, 22), (⟨"SeedMillModel", "putPad", "(I)V"⟩, 22), (⟨"SeedMillModel", "put", "(I)V"⟩, 22), (⟨"SeedMillModel", "finishKeyed", "()V"⟩, 22), (⟨"SeedMillModel", "hashRow", "()V"⟩, 22), (⟨"SeedMillModel", "hashBlock", "(I)V"⟩, 22), (⟨"SeedMillModel", "nextValue", "()V"⟩, 22)]
theorem lw_r1 : ∀ q ∈ lw_privs_1, lw_okq q := List.forall_mem_cons.mpr ⟨lw_p0, List.forall_mem_cons.mpr ⟨lw_p1, List.forall_mem_cons.mpr ⟨lw_p2, List.forall_mem_cons.mpr ⟨lw_p3, List.forall_mem_cons.mpr ⟨lw_p4, List.forall_mem_cons.mpr ⟨lw_p5, List.forall_mem_cons.mpr ⟨lw_p6, List.forall_mem_cons.mpr ⟨lw_p7, List.forall_mem_cons.mpr ⟨lw_p8, List.forall_mem_cons.mpr ⟨lw_p9, List.forall_mem_cons.mpr ⟨lw_p10, List.forall_mem_cons.mpr ⟨lw_p11, List.forall_mem_cons.mpr ⟨lw_p12, List.forall_mem_cons.mpr ⟨lw_p13, List.forall_mem_cons.mpr ⟨lw_p14, fun _ h => absurd h List.not_mem_nil⟩⟩⟩⟩⟩⟩⟩⟩⟩⟩⟩⟩⟩⟩⟩
def lw_privs : List (MethodName × Nat) := lw_privs_1
def lw_tbl : List Cond := k2_sels lw_privs ++ tables_1
theorem lw_privs_ok : ∀ q ∈ lw_privs, lw_okq q := lw_r1
end
section
/-! ===== BEGIN words of one list among another's, by their places ===== -/
theorem goodIn_r {big : List Cond} (ws : List Cond) (ps : List Nat) (hp : ws = ps.filterMap (fun i => big[i]?)) (h : ws.all goodWord = true) : GoodIn big ws := by
  intro w hw
  have h1 := List.all_eq_true.mp h w hw
  rw [hp] at hw
  obtain ⟨i, -, hi⟩ := List.mem_filterMap.mp hw
  have hm : w ∈ big := by first | exact List.mem_of_getElem? hi | exact List.getElem?_mem hi
  exact ⟨hm, good_of_word h1⟩
theorem goodIn_app {big a b : List Cond} (ha : GoodIn big a) (hb : GoodIn big b) : GoodIn big (a ++ b) := fun w h => (List.mem_append.mp h).elim (ha w) (hb w)
theorem goodIn_ca {big a b : List Cond} {c : Cond} (ha : GoodIn big (c :: a)) (hb : GoodIn big b) : GoodIn big (c :: (a ++ b)) := fun w h => (List.mem_cons.mp h).elim (fun e => ha w (List.mem_cons.mpr (Or.inl e))) (fun h => (List.mem_append.mp h).elim (fun h => ha w (List.mem_cons.mpr (Or.inr h))) (hb w))
theorem goodIn_sub {big ws : List Cond} (hm : ∀ w ∈ ws, w ∈ big) (h : ws.all goodWord = true) : GoodIn big ws := fun w hw => ⟨hm w hw, good_of_word (List.all_eq_true.mp h w hw)⟩
/-! ===== END ===== -/

/-! ===== BEGIN printed: names, fields, word lists, decode rows ===== -/
def RX0 : String := "SeedMill$Hasher"
def TX0 : u_T := fun k => match k with
  | 0 => ("SeedMill$Hasher", "message", "LSeedMill$Row;", true)
  | 1 => ("SeedMill$Hasher", "w", "[I", true)
  | _ => ("SeedMill$Hasher", "words", "[I", true)
def tyX0 : Nat → FieldType := fun k => match k with
  | 0 => .object "SeedMill$Row"
  | 1 => .array .int
  | _ => .array .int
abbrev wsX00 : List Cond := u_ws RX0 TX0 3
theorem nmX0 : ∀ a, a < 3 → ∀ b, b < 3 → a ≠ b → (TX0 a).2.1 ≠ (TX0 b).2.1 := by decide +kernel
theorem tyX0_ok : ∀ k, k < 3 → parseFieldDescriptor (TX0 k).2.2.1 = some (tyX0 k) := by decide +kernel
abbrev cX0_init : ByteArray := prog_2_method_1_code
def yX0_init : MethodName := ⟨RX0, "<init>", "()V"⟩
abbrev cX0_begin : ByteArray := prog_2_method_2_code
def yX0_begin : MethodName := ⟨RX0, "begin", "()V"⟩
abbrev cX0_add : ByteArray := prog_2_method_3_code
def yX0_add : MethodName := ⟨RX0, "add", "(LSeedMill$Row;)V"⟩
abbrev cX0_addXor : ByteArray := prog_2_method_4_code
def yX0_addXor : MethodName := ⟨RX0, "addXor", "(LSeedMill$Row;I)V"⟩
abbrev cX0_addByte : ByteArray := prog_2_method_5_code
def yX0_addByte : MethodName := ⟨RX0, "addByte", "(I)V"⟩
abbrev cX0_end : ByteArray := prog_2_method_6_code
def yX0_end : MethodName := ⟨RX0, "end", "(LSeedMill$Row;)V"⟩
abbrev cX0_pad : ByteArray := prog_2_method_7_code
def yX0_pad : MethodName := ⟨RX0, "pad", "()V"⟩
abbrev cX0_spread : ByteArray := prog_2_method_8_code
def yX0_spread : MethodName := ⟨RX0, "spread", "(I)V"⟩
abbrev cX0_mix : ByteArray := prog_2_method_9_code
def yX0_mix : MethodName := ⟨RX0, "mix", "()V"⟩
abbrev cX0_highSum : ByteArray := prog_2_method_10_code
def yX0_highSum : MethodName := ⟨RX0, "highSum", "(IIII)I"⟩
def RX1 : String := "SeedMill$KeyedHasher"
def TX1 : u_T := fun k => match k with
  | 0 => ("SeedMill$KeyedHasher", "hasher", "LSeedMill$Hasher;", true)
  | 1 => ("SeedMill$KeyedHasher", "blockKey", "LSeedMill$Row;", true)
  | _ => ("SeedMill$KeyedHasher", "innerHash", "LSeedMill$Row;", true)
def tyX1 : Nat → FieldType := fun k => match k with
  | 0 => .object "SeedMill$Hasher"
  | 1 => .object "SeedMill$Row"
  | _ => .object "SeedMill$Row"
abbrev wsX10 : List Cond := u_ws RX1 TX1 3
theorem nmX1 : ∀ a, a < 3 → ∀ b, b < 3 → a ≠ b → (TX1 a).2.1 ≠ (TX1 b).2.1 := by decide +kernel
theorem tyX1_ok : ∀ k, k < 3 → parseFieldDescriptor (TX1 k).2.2.1 = some (tyX1 k) := by decide +kernel
abbrev cX1_init : ByteArray := prog_3_method_1_code
def yX1_init : MethodName := ⟨RX1, "<init>", "()V"⟩
abbrev cX1_begin : ByteArray := prog_3_method_2_code
def yX1_begin : MethodName := ⟨RX1, "begin", "(LSeedMill$Row;)V"⟩
abbrev cX1_add : ByteArray := prog_3_method_3_code
def yX1_add : MethodName := ⟨RX1, "add", "(LSeedMill$Row;)V"⟩
abbrev cX1_addByte : ByteArray := prog_3_method_4_code
def yX1_addByte : MethodName := ⟨RX1, "addByte", "(I)V"⟩
abbrev cX1_end : ByteArray := prog_3_method_5_code
def yX1_end : MethodName := ⟨RX1, "end", "(LSeedMill$Row;)V"⟩
def RX2 : String := "SeedMill$Row"
def TX2 : u_T := fun k => match k with
  | 0 => ("SeedMill$Row", "bytes", "[I", true)
  | _ => ("SeedMill$Row", "used", "I", false)
def tyX2 : Nat → FieldType := fun k => match k with
  | 0 => .array .int
  | _ => .int
abbrev wsX20 : List Cond := u_ws RX2 TX2 2
theorem nmX2 : ∀ a, a < 2 → ∀ b, b < 2 → a ≠ b → (TX2 a).2.1 ≠ (TX2 b).2.1 := by decide +kernel
theorem tyX2_ok : ∀ k, k < 2 → parseFieldDescriptor (TX2 k).2.2.1 = some (tyX2 k) := by decide +kernel
abbrev cX2_init : ByteArray := prog_4_method_1_code
def yX2_init : MethodName := ⟨RX2, "<init>", "(I)V"⟩
abbrev cX2_size : ByteArray := prog_4_method_2_code
def yX2_size : MethodName := ⟨RX2, "size", "()I"⟩
abbrev cX2_empty : ByteArray := prog_4_method_3_code
def yX2_empty : MethodName := ⟨RX2, "empty", "()V"⟩
abbrev cX2_put : ByteArray := prog_4_method_4_code
def yX2_put : MethodName := ⟨RX2, "put", "(I)V"⟩
abbrev cX2_fill : ByteArray := prog_4_method_5_code
def yX2_fill : MethodName := ⟨RX2, "fill", "(I)V"⟩
abbrev cX2_append : ByteArray := prog_4_method_6_code
def yX2_append : MethodName := ⟨RX2, "append", "(LSeedMill$Row;I)V"⟩
abbrev cX2_appendXor : ByteArray := prog_4_method_7_code
def yX2_appendXor : MethodName := ⟨RX2, "appendXor", "(LSeedMill$Row;I)V"⟩
abbrev cX2_putWord : ByteArray := prog_4_method_8_code
def yX2_putWord : MethodName := ⟨RX2, "putWord", "(I)V"⟩
abbrev cX2_at : ByteArray := prog_4_method_9_code
def yX2_at : MethodName := ⟨RX2, "at", "(I)I"⟩
abbrev cX2_wordAt : ByteArray := prog_4_method_10_code
def yX2_wordAt : MethodName := ⟨RX2, "wordAt", "(I)I"⟩
abbrev cX2_sameAs : ByteArray := prog_4_method_11_code
def yX2_sameAs : MethodName := ⟨RX2, "sameAs", "(LSeedMill$Row;)Z"⟩
def RX3 : String := "SeedMill"
def TX3 : u_T := fun k => match k with
  | 0 => ("SeedMill", "input", "LSeedMill$Row;", true)
  | 1 => ("SeedMill", "ownKey", "LSeedMill$Row;", true)
  | 2 => ("SeedMill", "drawn", "LSeedMill$Row;", true)
  | 3 => ("SeedMill", "key", "LSeedMill$Row;", true)
  | 4 => ("SeedMill", "value", "LSeedMill$Row;", true)
  | 5 => ("SeedMill", "formerValue", "LSeedMill$Row;", true)
  | 6 => ("SeedMill", "answer", "LSeedMill$Row;", true)
  | 7 => ("SeedMill", "hasher", "LSeedMill$Hasher;", true)
  | 8 => ("SeedMill", "keyedHasher", "LSeedMill$KeyedHasher;", true)
  | 9 => ("SeedMill", "drawCounter", "I", false)
  | 10 => ("SeedMill", "drawInterval", "I", false)
  | _ => ("SeedMill", "drawsInAll", "I", false)
def tyX3 : Nat → FieldType := fun k => match k with
  | 0 => .object "SeedMill$Row"
  | 1 => .object "SeedMill$Row"
  | 2 => .object "SeedMill$Row"
  | 3 => .object "SeedMill$Row"
  | 4 => .object "SeedMill$Row"
  | 5 => .object "SeedMill$Row"
  | 6 => .object "SeedMill$Row"
  | 7 => .object "SeedMill$Hasher"
  | 8 => .object "SeedMill$KeyedHasher"
  | 9 => .int
  | 10 => .int
  | _ => .int
abbrev wsX30 : List Cond := u_ws RX3 TX3 12
theorem nmX3 : ∀ a, a < 12 → ∀ b, b < 12 → a ≠ b → (TX3 a).2.1 ≠ (TX3 b).2.1 := by decide +kernel
theorem tyX3_ok : ∀ k, k < 12 → parseFieldDescriptor (TX3 k).2.2.1 = some (tyX3 k) := by decide +kernel
abbrev cX3_init : ByteArray := prog_1_method_1_code
def yX3_init : MethodName := ⟨RX3, "<init>", "()V"⟩
abbrev cX3_feed : ByteArray := prog_1_method_2_code
def yX3_feed : MethodName := ⟨RX3, "feed", "(JI)I"⟩
abbrev cX3_clear : ByteArray := prog_1_method_3_code
def yX3_clear : MethodName := ⟨RX3, "clear", "()I"⟩
abbrev cX3_seed : ByteArray := prog_1_method_4_code
def yX3_seed : MethodName := ⟨RX3, "seed", "()I"⟩
abbrev cX3_reseed : ByteArray := prog_1_method_5_code
def yX3_reseed : MethodName := ⟨RX3, "reseed", "()I"⟩
abbrev cX3_draw : ByteArray := prog_1_method_6_code
def yX3_draw : MethodName := ⟨RX3, "draw", "(I)I"⟩
abbrev cX3_interval : ByteArray := prog_1_method_7_code
def yX3_interval : MethodName := ⟨RX3, "interval", "(I)I"⟩
abbrev cX3_out : ByteArray := prog_1_method_8_code
def yX3_out : MethodName := ⟨RX3, "out", "(I)I"⟩
abbrev cX3_counter : ByteArray := prog_1_method_9_code
def yX3_counter : MethodName := ⟨RX3, "counter", "()I"⟩
abbrev cX3_state : ByteArray := prog_1_method_10_code
def yX3_state : MethodName := ⟨RX3, "state", "(II)I"⟩
abbrev cX3_forget : ByteArray := prog_1_method_11_code
def yX3_forget : MethodName := ⟨RX3, "forget", "()I"⟩
abbrev cX3_hash : ByteArray := prog_1_method_12_code
def yX3_hash : MethodName := ⟨RX3, "hash", "(I)I"⟩
abbrev cX3_own : ByteArray := prog_1_method_13_code
def yX3_own : MethodName := ⟨RX3, "own", "()I"⟩
abbrev cX3_keyed : ByteArray := prog_1_method_14_code
def yX3_keyed : MethodName := ⟨RX3, "keyed", "(I)I"⟩
abbrev cX3_count : ByteArray := prog_1_method_15_code
def yX3_count : MethodName := ⟨RX3, "count", "(I)I"⟩
abbrev cX3_check : ByteArray := prog_1_method_16_code
def yX3_check : MethodName := ⟨RX3, "check", "()I"⟩
abbrev cX3_isSeeded : ByteArray := prog_1_method_17_code
def yX3_isSeeded : MethodName := ⟨RX3, "isSeeded", "()Z"⟩
abbrev cX3_stir : ByteArray := prog_1_method_18_code
def yX3_stir : MethodName := ⟨RX3, "stir", "()V"⟩
abbrev cX3_renewValue : ByteArray := prog_1_method_19_code
def yX3_renewValue : MethodName := ⟨RX3, "renewValue", "()V"⟩
abbrev cX3_fillDrawn : ByteArray := prog_1_method_20_code
def yX3_fillDrawn : MethodName := ⟨RX3, "fillDrawn", "(I)V"⟩
def RX4 : String := "SeedMillModel"
def TX4 : u_T := fun k => match k with
  | 0 => ("SeedMillModel", "fault", "I", false)
  | 1 => ("SeedMillModel", "roots", "[I", true)
  | 2 => ("SeedMillModel", "first", "[I", true)
  | 3 => ("SeedMillModel", "sum", "[I", true)
  | 4 => ("SeedMillModel", "word", "[I", true)
  | 5 => ("SeedMillModel", "row", "[I", true)
  | 6 => ("SeedMillModel", "rowSize", "I", false)
  | 7 => ("SeedMillModel", "digest", "[I", true)
  | 8 => ("SeedMillModel", "padded", "[I", true)
  | 9 => ("SeedMillModel", "input", "[I", true)
  | 10 => ("SeedMillModel", "inputSize", "I", false)
  | 11 => ("SeedMillModel", "ownKey", "[I", true)
  | 12 => ("SeedMillModel", "ownSize", "I", false)
  | 13 => ("SeedMillModel", "isSeeded", "Z", false)
  | 14 => ("SeedMillModel", "key", "[I", true)
  | 15 => ("SeedMillModel", "value", "[I", true)
  | 16 => ("SeedMillModel", "left", "[I", true)
  | 17 => ("SeedMillModel", "counter", "I", false)
  | 18 => ("SeedMillModel", "interval", "I", false)
  | 19 => ("SeedMillModel", "draws", "I", false)
  | 20 => ("SeedMillModel", "drawn", "[I", true)
  | _ => ("SeedMillModel", "drawnSize", "I", false)
def tyX4 : Nat → FieldType := fun k => match k with
  | 0 => .int
  | 1 => .array .int
  | 2 => .array .int
  | 3 => .array .int
  | 4 => .array .int
  | 5 => .array .int
  | 6 => .int
  | 7 => .array .int
  | 8 => .array .int
  | 9 => .array .int
  | 10 => .int
  | 11 => .array .int
  | 12 => .int
  | 13 => .boolean
  | 14 => .array .int
  | 15 => .array .int
  | 16 => .array .int
  | 17 => .int
  | 18 => .int
  | 19 => .int
  | 20 => .array .int
  | _ => .int
abbrev wsX40 : List Cond := u_ws RX4 TX4 22
theorem nmX4 : ∀ a, a < 22 → ∀ b, b < 22 → a ≠ b → (TX4 a).2.1 ≠ (TX4 b).2.1 := by decide +kernel
theorem tyX4_ok : ∀ k, k < 22 → parseFieldDescriptor (TX4 k).2.2.1 = some (tyX4 k) := by decide +kernel
abbrev cX4_init : ByteArray := prog_6_method_1_code
def yX4_init : MethodName := ⟨RX4, "<init>", "()V"⟩
abbrev cX4_round : ByteArray := prog_6_method_3_code
def yX4_round : MethodName := ⟨RX4, "round", "(II)I"⟩
abbrev cX4_hashBlock : ByteArray := prog_6_method_4_code
def yX4_hashBlock : MethodName := ⟨RX4, "hashBlock", "(I)V"⟩
abbrev cX4_hashRow : ByteArray := prog_6_method_5_code
def yX4_hashRow : MethodName := ⟨RX4, "hashRow", "()V"⟩
abbrev cX4_put : ByteArray := prog_6_method_6_code
def yX4_put : MethodName := ⟨RX4, "put", "(I)V"⟩
abbrev cX4_putPad : ByteArray := prog_6_method_7_code
def yX4_putPad : MethodName := ⟨RX4, "putPad", "(I)V"⟩
abbrev cX4_finishKeyed : ByteArray := prog_6_method_8_code
def yX4_finishKeyed : MethodName := ⟨RX4, "finishKeyed", "()V"⟩
abbrev cX4_beginKeyed : ByteArray := prog_6_method_9_code
def yX4_beginKeyed : MethodName := ⟨RX4, "beginKeyed", "()V"⟩
abbrev cX4_nextValue : ByteArray := prog_6_method_10_code
def yX4_nextValue : MethodName := ⟨RX4, "nextValue", "()V"⟩
abbrev cX4_stir : ByteArray := prog_6_method_11_code
def yX4_stir : MethodName := ⟨RX4, "stir", "()V"⟩
abbrev cX4_feed : ByteArray := prog_6_method_12_code
def yX4_feed : MethodName := ⟨RX4, "feed", "(JI)I"⟩
abbrev cX4_clear : ByteArray := prog_6_method_13_code
def yX4_clear : MethodName := ⟨RX4, "clear", "()I"⟩
abbrev cX4_seed : ByteArray := prog_6_method_14_code
def yX4_seed : MethodName := ⟨RX4, "seed", "()I"⟩
abbrev cX4_reseed : ByteArray := prog_6_method_15_code
def yX4_reseed : MethodName := ⟨RX4, "reseed", "()I"⟩
abbrev cX4_draw : ByteArray := prog_6_method_16_code
def yX4_draw : MethodName := ⟨RX4, "draw", "(I)I"⟩
abbrev cX4_interval : ByteArray := prog_6_method_17_code
def yX4_interval : MethodName := ⟨RX4, "interval", "(I)I"⟩
abbrev cX4_forget : ByteArray := prog_6_method_18_code
def yX4_forget : MethodName := ⟨RX4, "forget", "()I"⟩
abbrev cX4_own : ByteArray := prog_6_method_19_code
def yX4_own : MethodName := ⟨RX4, "own", "()I"⟩
abbrev cX4_out : ByteArray := prog_6_method_20_code
def yX4_out : MethodName := ⟨RX4, "out", "(I)I"⟩
abbrev cX4_counter : ByteArray := prog_6_method_21_code
def yX4_counter : MethodName := ⟨RX4, "counter", "()I"⟩
abbrev cX4_state : ByteArray := prog_6_method_22_code
def yX4_state : MethodName := ⟨RX4, "state", "(II)I"⟩
abbrev cX4_hash : ByteArray := prog_6_method_23_code
def yX4_hash : MethodName := ⟨RX4, "hash", "(I)I"⟩
abbrev cX4_keyed : ByteArray := prog_6_method_24_code
def yX4_keyed : MethodName := ⟨RX4, "keyed", "(I)I"⟩
abbrev cX4_count : ByteArray := prog_6_method_25_code
def yX4_count : MethodName := ⟨RX4, "count", "(I)I"⟩
abbrev cX4_check : ByteArray := prog_6_method_26_code
def yX4_check : MethodName := ⟨RX4, "check", "()I"⟩
def RJ6 : String := "java/lang/Integer"
def TJ6 : u_T := fun k => match k with
  | _ => ("", "", "", false)
def tyJ6 : Nat → FieldType := fun k => match k with
  | _ => .int
abbrev wsJ60 : List Cond := u_ws RJ6 TJ6 0
theorem nmJ6 : ∀ a, a < 0 → ∀ b, b < 0 → a ≠ b → (TJ6 a).2.1 ≠ (TJ6 b).2.1 := by decide +kernel
theorem tyJ6_ok : ∀ k, k < 0 → parseFieldDescriptor (TJ6 k).2.2.1 = some (tyJ6 k) := by decide +kernel
abbrev cJ6_rotateRight_7cf53 : ByteArray := prog_7_method_51_code
def yJ6_rotateRight_7cf53 : MethodName := ⟨RJ6, "rotateRight", "(II)I"⟩
def RJ9 : String := "java/lang/Math"
def TJ9 : u_T := fun k => match k with
  | _ => ("", "", "", false)
def tyJ9 : Nat → FieldType := fun k => match k with
  | _ => .int
abbrev wsJ90 : List Cond := u_ws RJ9 TJ9 0
theorem nmJ9 : ∀ a, a < 0 → ∀ b, b < 0 → a ≠ b → (TJ9 a).2.1 ≠ (TJ9 b).2.1 := by decide +kernel
theorem tyJ9_ok : ∀ k, k < 0 → parseFieldDescriptor (TJ9 k).2.2.1 = some (tyJ9 k) := by decide +kernel
abbrev cJ9_floorMod_7cf53 : ByteArray := prog_8_method_50_code
def yJ9_floorMod_7cf53 : MethodName := ⟨RJ9, "floorMod", "(II)I"⟩
abbrev cJ9_min_7cf53 : ByteArray := prog_8_method_69_code
def yJ9_min_7cf53 : MethodName := ⟨RJ9, "min", "(II)I"⟩
def RJ10 : String := "java/lang/System"
def TJ10 : u_T := fun k => match k with
  | _ => ("", "", "", false)
def tyJ10 : Nat → FieldType := fun k => match k with
  | _ => .int
abbrev wsJ100 : List Cond := u_ws RJ10 TJ10 0
theorem nmJ10 : ∀ a, a < 0 → ∀ b, b < 0 → a ≠ b → (TJ10 a).2.1 ≠ (TJ10 b).2.1 := by decide +kernel
theorem tyJ10_ok : ∀ k, k < 0 → parseFieldDescriptor (TJ10 k).2.2.1 = some (tyJ10 k) := by decide +kernel
def RJ7 : String := "java/util/Arrays"
def TJ7 : u_T := fun k => match k with
  | _ => ("", "", "", false)
def tyJ7 : Nat → FieldType := fun k => match k with
  | _ => .int
abbrev wsJ70 : List Cond := u_ws RJ7 TJ7 0
theorem nmJ7 : ∀ a, a < 0 → ∀ b, b < 0 → a ≠ b → (TJ7 a).2.1 ≠ (TJ7 b).2.1 := by decide +kernel
theorem tyJ7_ok : ∀ k, k < 0 → parseFieldDescriptor (TJ7 k).2.2.1 = some (tyJ7 k) := by decide +kernel
abbrev cJ7_fill_53178 : ByteArray := prog_10_method_103_code
def yJ7_fill_53178 : MethodName := ⟨RJ7, "fill", "([II)V"⟩
def RL : String := "SeedMillLaw"
abbrev cL_law : ByteArray := code
def yL_law : MethodName := ⟨RL, "law", "([I)Z"⟩
def wsX2_init : List Cond := .code yX2_init cX2_init 2 none :: ([.methodLink RX2 3 objectInit, .instanceMethod objectInit, .code objectInit ⟨#[0xb1]⟩ 1 none, .fieldLink RX2 9 "SeedMill$Row" "used" "I", .arrayClass .int, .fieldLink RX2 15 "SeedMill$Row" "bytes" "[I"] ++ wsX20)
def wsX0_init : List Cond := .code yX0_init cX0_init 1 none :: ([.methodLink RX0 3 objectInit, .instanceMethod objectInit, .code objectInit ⟨#[0xb1]⟩ 1 none, .classLink RX0 9 RX2, .instantiable RX2 2, .initialized RX2, .fieldLink RX0 14 "SeedMill$Hasher" "message" "LSeedMill$Row;", .arrayClass .int, .fieldLink RX0 20 "SeedMill$Hasher" "w" "[I", .fieldLink RX0 24 "SeedMill$Hasher" "words" "[I", .methodLink RX0 11 yX2_init, .instanceMethod yX2_init, .code yX2_init cX2_init 2 none, .methodLink RX2 3 objectInit, .fieldLink RX2 9 "SeedMill$Row" "used" "I", .fieldLink RX2 15 "SeedMill$Row" "bytes" "[I"] ++ wsX20 ++ wsX00)
def wsX2_empty : List Cond := .code yX2_empty cX2_empty 1 none :: ([.fieldLink RX2 9 "SeedMill$Row" "used" "I"] ++ wsX20)
def wsX0_begin : List Cond := .code yX0_begin cX0_begin 1 none :: ([.fieldLink RX0 14 "SeedMill$Hasher" "message" "LSeedMill$Row;", .methodLink RX0 27 yX2_empty, .instanceMethod yX2_empty, .selects RX2 yX2_empty yX2_empty, .initialized RX2, .code yX2_empty cX2_empty 1 none, .fieldLink RX2 9 "SeedMill$Row" "used" "I"] ++ wsX00 ++ wsX20)
def wsX2_size : List Cond := .code yX2_size cX2_size 1 (some .int) :: ([.fieldLink RX2 9 "SeedMill$Row" "used" "I"] ++ wsX20)
def wsX2_put : List Cond := .code yX2_put cX2_put 2 none :: ([.fieldLink RX2 9 "SeedMill$Row" "used" "I", .fieldLink RX2 15 "SeedMill$Row" "bytes" "[I"] ++ wsX20)
def wsX2_append : List Cond := .code yX2_append cX2_append 5 none :: ([.fieldLink RX2 9 "SeedMill$Row" "used" "I", .methodLink RX2 25 Lib.Math.min.name, .static Lib.Math.min.name, .initialized "java/lang/Math", .code Lib.Math.min.name Lib.Math.min.code 2 (some .int), .fieldLink RX2 15 "SeedMill$Row" "bytes" "[I", .methodLink RX2 31 yX2_put, .instanceMethod yX2_put, .selects RX2 yX2_put yX2_put, .initialized RX2, .code yX2_put cX2_put 2 none] ++ wsX20)
def wsX0_add : List Cond := .code yX0_add cX0_add 2 none :: ([.fieldLink RX0 14 "SeedMill$Hasher" "message" "LSeedMill$Row;", .methodLink RX0 30 yX2_size, .instanceMethod yX2_size, .selects RX2 yX2_size yX2_size, .initialized RX2, .code yX2_size cX2_size 1 (some .int), .fieldLink RX2 9 "SeedMill$Row" "used" "I", .methodLink RX0 34 yX2_append, .instanceMethod yX2_append, .selects RX2 yX2_append yX2_append, .code yX2_append cX2_append 5 none, .methodLink RX2 25 Lib.Math.min.name, .static Lib.Math.min.name, .initialized "java/lang/Math", .code Lib.Math.min.name Lib.Math.min.code 2 (some .int), .fieldLink RX2 15 "SeedMill$Row" "bytes" "[I", .methodLink RX2 31 yX2_put, .instanceMethod yX2_put, .selects RX2 yX2_put yX2_put, .code yX2_put cX2_put 2 none] ++ wsX00 ++ wsX20)
def wsX2_appendXor : List Cond := .code yX2_appendXor cX2_appendXor 4 none :: ([.fieldLink RX2 9 "SeedMill$Row" "used" "I", .fieldLink RX2 15 "SeedMill$Row" "bytes" "[I", .methodLink RX2 31 yX2_put, .instanceMethod yX2_put, .selects RX2 yX2_put yX2_put, .initialized RX2, .code yX2_put cX2_put 2 none] ++ wsX20)
def wsX0_addXor : List Cond := .code yX0_addXor cX0_addXor 3 none :: ([.fieldLink RX0 14 "SeedMill$Hasher" "message" "LSeedMill$Row;", .methodLink RX0 38 yX2_appendXor, .instanceMethod yX2_appendXor, .selects RX2 yX2_appendXor yX2_appendXor, .initialized RX2, .code yX2_appendXor cX2_appendXor 4 none, .fieldLink RX2 9 "SeedMill$Row" "used" "I", .fieldLink RX2 15 "SeedMill$Row" "bytes" "[I", .methodLink RX2 31 yX2_put, .instanceMethod yX2_put, .selects RX2 yX2_put yX2_put, .code yX2_put cX2_put 2 none] ++ wsX00 ++ wsX20)
def wsX0_addByte : List Cond := .code yX0_addByte cX0_addByte 2 none :: ([.fieldLink RX0 14 "SeedMill$Hasher" "message" "LSeedMill$Row;", .methodLink RX0 41 yX2_put, .instanceMethod yX2_put, .selects RX2 yX2_put yX2_put, .initialized RX2, .code yX2_put cX2_put 2 none, .fieldLink RX2 9 "SeedMill$Row" "used" "I", .fieldLink RX2 15 "SeedMill$Row" "bytes" "[I"] ++ wsX00 ++ wsX20)
def wsJ9_floorMod_7cf53 : List Cond := .code yJ9_floorMod_7cf53 cJ9_floorMod_7cf53 3 (some .int) :: ([])
def wsX2_putWord : List Cond := .code yX2_putWord cX2_putWord 3 none :: ([.methodLink RX2 31 yX2_put, .instanceMethod yX2_put, .selects RX2 yX2_put yX2_put, .initialized RX2, .code yX2_put cX2_put 2 none, .fieldLink RX2 9 "SeedMill$Row" "used" "I", .fieldLink RX2 15 "SeedMill$Row" "bytes" "[I"] ++ wsX20)
def wsX0_pad : List Cond := .code yX0_pad cX0_pad 4 none :: ([.fieldLink RX0 14 "SeedMill$Hasher" "message" "LSeedMill$Row;", .methodLink RX0 30 yX2_size, .instanceMethod yX2_size, .selects RX2 yX2_size yX2_size, .initialized RX2, .code yX2_size cX2_size 1 (some .int), .fieldLink RX2 9 "SeedMill$Row" "used" "I", .methodLink RX0 41 yX2_put, .instanceMethod yX2_put, .selects RX2 yX2_put yX2_put, .code yX2_put cX2_put 2 none, .fieldLink RX2 15 "SeedMill$Row" "bytes" "[I", .methodLink RX0 65 yJ9_floorMod_7cf53, .static yJ9_floorMod_7cf53, .initialized RJ9, .code yJ9_floorMod_7cf53 cJ9_floorMod_7cf53 3 (some .int), .methodLink RX0 62 yX2_putWord, .instanceMethod yX2_putWord, .selects RX2 yX2_putWord yX2_putWord, .code yX2_putWord cX2_putWord 3 none, .methodLink RX2 31 yX2_put] ++ wsX00 ++ wsX20)
def wsX2_at : List Cond := .code yX2_at cX2_at 2 (some .int) :: ([.fieldLink RX2 9 "SeedMill$Row" "used" "I", .fieldLink RX2 15 "SeedMill$Row" "bytes" "[I"] ++ wsX20)
def wsX2_wordAt : List Cond := .code yX2_wordAt cX2_wordAt 2 (some .int) :: ([.methodLink RX2 35 yX2_at, .instanceMethod yX2_at, .selects RX2 yX2_at yX2_at, .initialized RX2, .code yX2_at cX2_at 2 (some .int), .fieldLink RX2 9 "SeedMill$Row" "used" "I", .fieldLink RX2 15 "SeedMill$Row" "bytes" "[I"] ++ wsX20)
def wsJ6_rotateRight_7cf53 : List Cond := .code yJ6_rotateRight_7cf53 cJ6_rotateRight_7cf53 2 (some .int) :: ([])
def wsX0_spread : List Cond := .code yX0_spread cX0_spread 7 none :: ([.fieldLink RX0 20 "SeedMill$Hasher" "w" "[I", .fieldLink RX0 14 "SeedMill$Hasher" "message" "LSeedMill$Row;", .methodLink RX0 71 yX2_wordAt, .instanceMethod yX2_wordAt, .selects RX2 yX2_wordAt yX2_wordAt, .initialized RX2, .code yX2_wordAt cX2_wordAt 2 (some .int), .methodLink RX2 35 yX2_at, .instanceMethod yX2_at, .selects RX2 yX2_at yX2_at, .code yX2_at cX2_at 2 (some .int), .fieldLink RX2 9 "SeedMill$Row" "used" "I", .fieldLink RX2 15 "SeedMill$Row" "bytes" "[I", .methodLink RX0 75 yJ6_rotateRight_7cf53, .static yJ6_rotateRight_7cf53, .initialized RJ6, .code yJ6_rotateRight_7cf53 cJ6_rotateRight_7cf53 2 (some .int)] ++ wsX00 ++ wsX20)
def wsX0_highSum : List Cond := .code yX0_highSum cX0_highSum 4 (some .int) :: ([.methodLink RX0 75 yJ6_rotateRight_7cf53, .static yJ6_rotateRight_7cf53, .initialized RJ6, .code yJ6_rotateRight_7cf53 cJ6_rotateRight_7cf53 2 (some .int)])
def wsX0_mix : List Cond := .code yX0_mix cX0_mix 12 none :: ([.fieldLink RX0 24 "SeedMill$Hasher" "words" "[I", .fieldLink RX0 84 "SeedMill$Hasher" "K" "[I", .fieldLink RX0 20 "SeedMill$Hasher" "w" "[I", .methodLink RX0 80 yX0_highSum, .static yX0_highSum, .initialized RX0, .code yX0_highSum cX0_highSum 4 (some .int), .methodLink RX0 75 yJ6_rotateRight_7cf53, .static yJ6_rotateRight_7cf53, .initialized RJ6, .code yJ6_rotateRight_7cf53 cJ6_rotateRight_7cf53 2 (some .int)] ++ wsX00)
def wsX0_end_r1 : List Cond := [Cond.fieldLink RX0 47 "SeedMill$Hasher" "FIRST_STATE" "[I", Cond.fieldLink RX0 24 "SeedMill$Hasher" "words" "[I", Cond.methodLink RX0 50 arraycopyName, Cond.native arraycopyName, Cond.static arraycopyName, Cond.initialized "java/lang/System", Cond.fieldLink RX0 14 "SeedMill$Hasher" "message" "LSeedMill$Row;", Cond.methodLink RX0 44 yX0_pad, Cond.instanceMethod yX0_pad, Cond.selects RX0 yX0_pad yX0_pad, Cond.initialized RX0, Cond.code yX0_pad cX0_pad 4 none, Cond.methodLink RX0 30 yX2_size, Cond.instanceMethod yX2_size, Cond.selects RX2 yX2_size yX2_size, Cond.initialized RX2, Cond.code yX2_size cX2_size 1 (some .int), Cond.fieldLink RX2 9 "SeedMill$Row" "used" "I", Cond.methodLink RX0 41 yX2_put, Cond.instanceMethod yX2_put, Cond.selects RX2 yX2_put yX2_put, Cond.code yX2_put cX2_put 2 none, Cond.fieldLink RX2 15 "SeedMill$Row" "bytes" "[I", Cond.methodLink RX0 65 yJ9_floorMod_7cf53]
def wsX0_end_r2 : List Cond := [Cond.static yJ9_floorMod_7cf53, Cond.initialized RJ9, Cond.code yJ9_floorMod_7cf53 cJ9_floorMod_7cf53 3 (some .int), Cond.methodLink RX0 62 yX2_putWord, Cond.instanceMethod yX2_putWord, Cond.selects RX2 yX2_putWord yX2_putWord, Cond.code yX2_putWord cX2_putWord 3 none, Cond.methodLink RX2 31 yX2_put, Cond.methodLink RX0 56 yX0_spread, Cond.instanceMethod yX0_spread, Cond.selects RX0 yX0_spread yX0_spread, Cond.code yX0_spread cX0_spread 7 none, Cond.fieldLink RX0 20 "SeedMill$Hasher" "w" "[I", Cond.methodLink RX0 71 yX2_wordAt, Cond.instanceMethod yX2_wordAt, Cond.selects RX2 yX2_wordAt yX2_wordAt, Cond.code yX2_wordAt cX2_wordAt 2 (some .int), Cond.methodLink RX2 35 yX2_at, Cond.instanceMethod yX2_at, Cond.selects RX2 yX2_at yX2_at, Cond.code yX2_at cX2_at 2 (some .int), Cond.methodLink RX0 75 yJ6_rotateRight_7cf53, Cond.static yJ6_rotateRight_7cf53, Cond.initialized RJ6]
def wsX0_end_r3 : List Cond := [Cond.code yJ6_rotateRight_7cf53 cJ6_rotateRight_7cf53 2 (some .int), Cond.methodLink RX0 59 yX0_mix, Cond.instanceMethod yX0_mix, Cond.selects RX0 yX0_mix yX0_mix, Cond.code yX0_mix cX0_mix 12 none, Cond.fieldLink RX0 84 "SeedMill$Hasher" "K" "[I", Cond.methodLink RX0 80 yX0_highSum, Cond.static yX0_highSum, Cond.code yX0_highSum cX0_highSum 4 (some .int), Cond.methodLink RX0 27 yX2_empty, Cond.instanceMethod yX2_empty, Cond.selects RX2 yX2_empty yX2_empty, Cond.code yX2_empty cX2_empty 1 none]
def wsX0_end : List Cond := .code yX0_end cX0_end 3 none :: ((wsX0_end_r1 ++ (wsX0_end_r2 ++ wsX0_end_r3)) ++ wsX00 ++ wsX20)
def wsX1_init_r1 : List Cond := [Cond.methodLink RX1 3 objectInit, Cond.instanceMethod objectInit, Cond.code objectInit ⟨#[0xb1]⟩ 1 none, Cond.classLink RX1 9 RX0, Cond.instantiable RX0 3, Cond.initialized RX0, Cond.fieldLink RX1 12 "SeedMill$KeyedHasher" "hasher" "LSeedMill$Hasher;", Cond.classLink RX1 18 RX2, Cond.instantiable RX2 2, Cond.initialized RX2, Cond.fieldLink RX1 23 "SeedMill$KeyedHasher" "blockKey" "LSeedMill$Row;", Cond.fieldLink RX1 27 "SeedMill$KeyedHasher" "innerHash" "LSeedMill$Row;", Cond.instanceMethod yX0_init, Cond.code yX0_init cX0_init 1 none, Cond.methodLink RX0 3 objectInit, Cond.classLink RX0 9 RX2, Cond.fieldLink RX0 14 "SeedMill$Hasher" "message" "LSeedMill$Row;", Cond.arrayClass .int, Cond.fieldLink RX0 20 "SeedMill$Hasher" "w" "[I", Cond.fieldLink RX0 24 "SeedMill$Hasher" "words" "[I", Cond.methodLink RX0 11 yX2_init, Cond.instanceMethod yX2_init, Cond.code yX2_init cX2_init 2 none, Cond.methodLink RX2 3 objectInit]
def wsX1_init_r2 : List Cond := [Cond.fieldLink RX2 9 "SeedMill$Row" "used" "I", Cond.fieldLink RX2 15 "SeedMill$Row" "bytes" "[I", Cond.methodLink RX1 20 yX2_init]
def wsX1_init : List Cond := .code yX1_init cX1_init 1 none :: ((wsX1_init_r1 ++ wsX1_init_r2) ++ wsX00 ++ wsX10 ++ wsX20)
def wsX1_begin_r1 : List Cond := [Cond.fieldLink RX1 23 "SeedMill$KeyedHasher" "blockKey" "LSeedMill$Row;", Cond.fieldLink RX1 12 "SeedMill$KeyedHasher" "hasher" "LSeedMill$Hasher;", Cond.methodLink RX1 30 yX2_empty, Cond.instanceMethod yX2_empty, Cond.selects RX2 yX2_empty yX2_empty, Cond.initialized RX2, Cond.code yX2_empty cX2_empty 1 none, Cond.fieldLink RX2 9 "SeedMill$Row" "used" "I", Cond.methodLink RX1 33 yX2_size, Cond.instanceMethod yX2_size, Cond.selects RX2 yX2_size yX2_size, Cond.code yX2_size cX2_size 1 (some .int), Cond.methodLink RX1 37 yX0_begin, Cond.instanceMethod yX0_begin, Cond.selects RX0 yX0_begin yX0_begin, Cond.initialized RX0, Cond.code yX0_begin cX0_begin 1 none, Cond.fieldLink RX0 14 "SeedMill$Hasher" "message" "LSeedMill$Row;", Cond.methodLink RX0 27 yX2_empty, Cond.methodLink RX1 40 yX0_add, Cond.instanceMethod yX0_add, Cond.selects RX0 yX0_add yX0_add, Cond.code yX0_add cX0_add 2 none, Cond.methodLink RX0 30 yX2_size]
def wsX1_begin_r2 : List Cond := [Cond.methodLink RX0 34 yX2_append, Cond.instanceMethod yX2_append, Cond.selects RX2 yX2_append yX2_append, Cond.code yX2_append cX2_append 5 none, Cond.methodLink RX2 25 Lib.Math.min.name, Cond.static Lib.Math.min.name, Cond.initialized "java/lang/Math", Cond.code Lib.Math.min.name Lib.Math.min.code 2 (some .int), Cond.fieldLink RX2 15 "SeedMill$Row" "bytes" "[I", Cond.methodLink RX2 31 yX2_put, Cond.instanceMethod yX2_put, Cond.selects RX2 yX2_put yX2_put, Cond.code yX2_put cX2_put 2 none, Cond.methodLink RX1 44 yX0_end, Cond.instanceMethod yX0_end, Cond.selects RX0 yX0_end yX0_end, Cond.code yX0_end cX0_end 3 none, Cond.fieldLink RX0 47 "SeedMill$Hasher" "FIRST_STATE" "[I", Cond.fieldLink RX0 24 "SeedMill$Hasher" "words" "[I", Cond.methodLink RX0 50 arraycopyName, Cond.native arraycopyName, Cond.static arraycopyName, Cond.initialized "java/lang/System", Cond.methodLink RX0 44 yX0_pad]
def wsX1_begin_r3 : List Cond := [Cond.instanceMethod yX0_pad, Cond.selects RX0 yX0_pad yX0_pad, Cond.code yX0_pad cX0_pad 4 none, Cond.methodLink RX0 41 yX2_put, Cond.methodLink RX0 65 yJ9_floorMod_7cf53, Cond.static yJ9_floorMod_7cf53, Cond.initialized RJ9, Cond.code yJ9_floorMod_7cf53 cJ9_floorMod_7cf53 3 (some .int), Cond.methodLink RX0 62 yX2_putWord, Cond.instanceMethod yX2_putWord, Cond.selects RX2 yX2_putWord yX2_putWord, Cond.code yX2_putWord cX2_putWord 3 none, Cond.methodLink RX0 56 yX0_spread, Cond.instanceMethod yX0_spread, Cond.selects RX0 yX0_spread yX0_spread, Cond.code yX0_spread cX0_spread 7 none, Cond.fieldLink RX0 20 "SeedMill$Hasher" "w" "[I", Cond.methodLink RX0 71 yX2_wordAt, Cond.instanceMethod yX2_wordAt, Cond.selects RX2 yX2_wordAt yX2_wordAt, Cond.code yX2_wordAt cX2_wordAt 2 (some .int), Cond.methodLink RX2 35 yX2_at, Cond.instanceMethod yX2_at, Cond.selects RX2 yX2_at yX2_at]
def wsX1_begin_r4 : List Cond := [Cond.code yX2_at cX2_at 2 (some .int), Cond.methodLink RX0 75 yJ6_rotateRight_7cf53, Cond.static yJ6_rotateRight_7cf53, Cond.initialized RJ6, Cond.code yJ6_rotateRight_7cf53 cJ6_rotateRight_7cf53 2 (some .int), Cond.methodLink RX0 59 yX0_mix, Cond.instanceMethod yX0_mix, Cond.selects RX0 yX0_mix yX0_mix, Cond.code yX0_mix cX0_mix 12 none, Cond.fieldLink RX0 84 "SeedMill$Hasher" "K" "[I", Cond.methodLink RX0 80 yX0_highSum, Cond.static yX0_highSum, Cond.code yX0_highSum cX0_highSum 4 (some .int), Cond.methodLink RX1 47 yX2_append, Cond.methodLink RX1 51 yX2_put, Cond.methodLink RX1 54 yX0_addXor, Cond.instanceMethod yX0_addXor, Cond.selects RX0 yX0_addXor yX0_addXor, Cond.code yX0_addXor cX0_addXor 3 none, Cond.methodLink RX0 38 yX2_appendXor, Cond.instanceMethod yX2_appendXor, Cond.selects RX2 yX2_appendXor yX2_appendXor, Cond.code yX2_appendXor cX2_appendXor 4 none]
def wsX1_begin : List Cond := .code yX1_begin cX1_begin 3 none :: ((wsX1_begin_r1 ++ (wsX1_begin_r2 ++ (wsX1_begin_r3 ++ wsX1_begin_r4))) ++ wsX10 ++ wsX20 ++ wsX00)
def wsX1_add_r1 : List Cond := [Cond.fieldLink RX1 12 "SeedMill$KeyedHasher" "hasher" "LSeedMill$Hasher;", Cond.methodLink RX1 40 yX0_add, Cond.instanceMethod yX0_add, Cond.selects RX0 yX0_add yX0_add, Cond.initialized RX0, Cond.code yX0_add cX0_add 2 none, Cond.fieldLink RX0 14 "SeedMill$Hasher" "message" "LSeedMill$Row;", Cond.methodLink RX0 30 yX2_size, Cond.instanceMethod yX2_size, Cond.selects RX2 yX2_size yX2_size, Cond.initialized RX2, Cond.code yX2_size cX2_size 1 (some .int), Cond.fieldLink RX2 9 "SeedMill$Row" "used" "I", Cond.methodLink RX0 34 yX2_append, Cond.instanceMethod yX2_append, Cond.selects RX2 yX2_append yX2_append, Cond.code yX2_append cX2_append 5 none, Cond.methodLink RX2 25 Lib.Math.min.name, Cond.static Lib.Math.min.name, Cond.initialized "java/lang/Math", Cond.code Lib.Math.min.name Lib.Math.min.code 2 (some .int), Cond.fieldLink RX2 15 "SeedMill$Row" "bytes" "[I", Cond.methodLink RX2 31 yX2_put, Cond.instanceMethod yX2_put]
def wsX1_add_r2 : List Cond := [Cond.selects RX2 yX2_put yX2_put, Cond.code yX2_put cX2_put 2 none]
def wsX1_add : List Cond := .code yX1_add cX1_add 2 none :: ((wsX1_add_r1 ++ wsX1_add_r2) ++ wsX10 ++ wsX00 ++ wsX20)
def wsX1_addByte : List Cond := .code yX1_addByte cX1_addByte 2 none :: ([.fieldLink RX1 12 "SeedMill$KeyedHasher" "hasher" "LSeedMill$Hasher;", .methodLink RX1 57 yX0_addByte, .instanceMethod yX0_addByte, .selects RX0 yX0_addByte yX0_addByte, .initialized RX0, .code yX0_addByte cX0_addByte 2 none, .fieldLink RX0 14 "SeedMill$Hasher" "message" "LSeedMill$Row;", .methodLink RX0 41 yX2_put, .instanceMethod yX2_put, .selects RX2 yX2_put yX2_put, .initialized RX2, .code yX2_put cX2_put 2 none, .fieldLink RX2 9 "SeedMill$Row" "used" "I", .fieldLink RX2 15 "SeedMill$Row" "bytes" "[I"] ++ wsX10 ++ wsX00 ++ wsX20)
def wsX1_end_r1 : List Cond := [Cond.fieldLink RX1 12 "SeedMill$KeyedHasher" "hasher" "LSeedMill$Hasher;", Cond.fieldLink RX1 27 "SeedMill$KeyedHasher" "innerHash" "LSeedMill$Row;", Cond.fieldLink RX1 23 "SeedMill$KeyedHasher" "blockKey" "LSeedMill$Row;", Cond.methodLink RX1 44 yX0_end, Cond.instanceMethod yX0_end, Cond.selects RX0 yX0_end yX0_end, Cond.initialized RX0, Cond.code yX0_end cX0_end 3 none, Cond.fieldLink RX0 47 "SeedMill$Hasher" "FIRST_STATE" "[I", Cond.fieldLink RX0 24 "SeedMill$Hasher" "words" "[I", Cond.methodLink RX0 50 arraycopyName, Cond.native arraycopyName, Cond.static arraycopyName, Cond.initialized "java/lang/System", Cond.fieldLink RX0 14 "SeedMill$Hasher" "message" "LSeedMill$Row;", Cond.methodLink RX0 44 yX0_pad, Cond.instanceMethod yX0_pad, Cond.selects RX0 yX0_pad yX0_pad, Cond.code yX0_pad cX0_pad 4 none, Cond.methodLink RX0 30 yX2_size, Cond.instanceMethod yX2_size, Cond.selects RX2 yX2_size yX2_size, Cond.initialized RX2, Cond.code yX2_size cX2_size 1 (some .int)]
def wsX1_end_r2 : List Cond := [Cond.fieldLink RX2 9 "SeedMill$Row" "used" "I", Cond.methodLink RX0 41 yX2_put, Cond.instanceMethod yX2_put, Cond.selects RX2 yX2_put yX2_put, Cond.code yX2_put cX2_put 2 none, Cond.fieldLink RX2 15 "SeedMill$Row" "bytes" "[I", Cond.methodLink RX0 65 yJ9_floorMod_7cf53, Cond.static yJ9_floorMod_7cf53, Cond.initialized RJ9, Cond.code yJ9_floorMod_7cf53 cJ9_floorMod_7cf53 3 (some .int), Cond.methodLink RX0 62 yX2_putWord, Cond.instanceMethod yX2_putWord, Cond.selects RX2 yX2_putWord yX2_putWord, Cond.code yX2_putWord cX2_putWord 3 none, Cond.methodLink RX2 31 yX2_put, Cond.methodLink RX0 56 yX0_spread, Cond.instanceMethod yX0_spread, Cond.selects RX0 yX0_spread yX0_spread, Cond.code yX0_spread cX0_spread 7 none, Cond.fieldLink RX0 20 "SeedMill$Hasher" "w" "[I", Cond.methodLink RX0 71 yX2_wordAt, Cond.instanceMethod yX2_wordAt, Cond.selects RX2 yX2_wordAt yX2_wordAt, Cond.code yX2_wordAt cX2_wordAt 2 (some .int)]
def wsX1_end_r3 : List Cond := [Cond.methodLink RX2 35 yX2_at, Cond.instanceMethod yX2_at, Cond.selects RX2 yX2_at yX2_at, Cond.code yX2_at cX2_at 2 (some .int), Cond.methodLink RX0 75 yJ6_rotateRight_7cf53, Cond.static yJ6_rotateRight_7cf53, Cond.initialized RJ6, Cond.code yJ6_rotateRight_7cf53 cJ6_rotateRight_7cf53 2 (some .int), Cond.methodLink RX0 59 yX0_mix, Cond.instanceMethod yX0_mix, Cond.selects RX0 yX0_mix yX0_mix, Cond.code yX0_mix cX0_mix 12 none, Cond.fieldLink RX0 84 "SeedMill$Hasher" "K" "[I", Cond.methodLink RX0 80 yX0_highSum, Cond.static yX0_highSum, Cond.code yX0_highSum cX0_highSum 4 (some .int), Cond.methodLink RX0 27 yX2_empty, Cond.instanceMethod yX2_empty, Cond.selects RX2 yX2_empty yX2_empty, Cond.code yX2_empty cX2_empty 1 none, Cond.methodLink RX1 37 yX0_begin, Cond.instanceMethod yX0_begin, Cond.selects RX0 yX0_begin yX0_begin, Cond.code yX0_begin cX0_begin 1 none]
def wsX1_end_r4 : List Cond := [Cond.methodLink RX1 54 yX0_addXor, Cond.instanceMethod yX0_addXor, Cond.selects RX0 yX0_addXor yX0_addXor, Cond.code yX0_addXor cX0_addXor 3 none, Cond.methodLink RX0 38 yX2_appendXor, Cond.instanceMethod yX2_appendXor, Cond.selects RX2 yX2_appendXor yX2_appendXor, Cond.code yX2_appendXor cX2_appendXor 4 none, Cond.methodLink RX1 40 yX0_add, Cond.instanceMethod yX0_add, Cond.selects RX0 yX0_add yX0_add, Cond.code yX0_add cX0_add 2 none, Cond.methodLink RX0 34 yX2_append, Cond.instanceMethod yX2_append, Cond.selects RX2 yX2_append yX2_append, Cond.code yX2_append cX2_append 5 none, Cond.methodLink RX2 25 Lib.Math.min.name, Cond.static Lib.Math.min.name, Cond.initialized "java/lang/Math", Cond.code Lib.Math.min.name Lib.Math.min.code 2 (some .int)]
def wsX1_end : List Cond := .code yX1_end cX1_end 2 none :: ((wsX1_end_r1 ++ (wsX1_end_r2 ++ (wsX1_end_r3 ++ wsX1_end_r4))) ++ wsX10 ++ wsX00 ++ wsX20)
def wsJ7_fill_53178 : List Cond := .code yJ7_fill_53178 cJ7_fill_53178 4 none :: ([])
def wsX2_fill : List Cond := .code yX2_fill cX2_fill 2 none :: ([.fieldLink RX2 15 "SeedMill$Row" "bytes" "[I", .fieldLink RX2 9 "SeedMill$Row" "used" "I", .methodLink RX2 19 yJ7_fill_53178, .static yJ7_fill_53178, .initialized RJ7, .code yJ7_fill_53178 cJ7_fill_53178 4 none] ++ wsX20)
def wsX2_sameAs : List Cond := .code yX2_sameAs cX2_sameAs 3 (some .boolean) :: ([.fieldLink RX2 9 "SeedMill$Row" "used" "I", .fieldLink RX2 15 "SeedMill$Row" "bytes" "[I"] ++ wsX20)
def wsX3_init_r1 : List Cond := [Cond.methodLink RX3 3 objectInit, Cond.instanceMethod objectInit, Cond.code objectInit ⟨#[0xb1]⟩ 1 none, Cond.classLink RX3 9 RX2, Cond.instantiable RX2 2, Cond.initialized RX2, Cond.fieldLink RX3 14 "SeedMill" "input" "LSeedMill$Row;", Cond.fieldLink RX3 18 "SeedMill" "ownKey" "LSeedMill$Row;", Cond.fieldLink RX3 21 "SeedMill" "drawn" "LSeedMill$Row;", Cond.fieldLink RX3 24 "SeedMill" "key" "LSeedMill$Row;", Cond.fieldLink RX3 27 "SeedMill" "value" "LSeedMill$Row;", Cond.fieldLink RX3 30 "SeedMill" "formerValue" "LSeedMill$Row;", Cond.fieldLink RX3 33 "SeedMill" "answer" "LSeedMill$Row;", Cond.classLink RX3 36 RX0, Cond.instantiable RX0 3, Cond.initialized RX0, Cond.fieldLink RX3 39 "SeedMill" "hasher" "LSeedMill$Hasher;", Cond.classLink RX3 43 RX1, Cond.instantiable RX1 3, Cond.initialized RX1, Cond.fieldLink RX3 46 "SeedMill" "keyedHasher" "LSeedMill$KeyedHasher;", Cond.fieldLink RX3 50 "SeedMill" "drawCounter" "I", Cond.fieldLink RX3 54 "SeedMill" "drawInterval" "I", Cond.fieldLink RX3 57 "SeedMill" "drawsInAll" "I"]
def wsX3_init_r2 : List Cond := [Cond.methodLink RX3 11 yX2_init, Cond.instanceMethod yX2_init, Cond.code yX2_init cX2_init 2 none, Cond.methodLink RX2 3 objectInit, Cond.fieldLink RX2 9 "SeedMill$Row" "used" "I", Cond.arrayClass .int, Cond.fieldLink RX2 15 "SeedMill$Row" "bytes" "[I", Cond.instanceMethod yX0_init, Cond.code yX0_init cX0_init 1 none, Cond.methodLink RX0 3 objectInit, Cond.classLink RX0 9 RX2, Cond.fieldLink RX0 14 "SeedMill$Hasher" "message" "LSeedMill$Row;", Cond.fieldLink RX0 20 "SeedMill$Hasher" "w" "[I", Cond.fieldLink RX0 24 "SeedMill$Hasher" "words" "[I", Cond.methodLink RX0 11 yX2_init, Cond.instanceMethod yX1_init, Cond.code yX1_init cX1_init 1 none, Cond.methodLink RX1 3 objectInit, Cond.classLink RX1 9 RX0, Cond.fieldLink RX1 12 "SeedMill$KeyedHasher" "hasher" "LSeedMill$Hasher;", Cond.classLink RX1 18 RX2, Cond.fieldLink RX1 23 "SeedMill$KeyedHasher" "blockKey" "LSeedMill$Row;", Cond.fieldLink RX1 27 "SeedMill$KeyedHasher" "innerHash" "LSeedMill$Row;", Cond.methodLink RX1 20 yX2_init]
def wsX3_init : List Cond := .code yX3_init cX3_init 1 none :: ((wsX3_init_r1 ++ wsX3_init_r2) ++ wsX20 ++ wsX30 ++ wsX00 ++ wsX10)
def wsX3_feed : List Cond := .code yX3_feed cX3_feed 5 (some .int) :: ([.fieldLink RX3 14 "SeedMill" "input" "LSeedMill$Row;", .methodLink RX3 60 yX2_size, .instanceMethod yX2_size, .selects RX2 yX2_size yX2_size, .initialized RX2, .code yX2_size cX2_size 1 (some .int), .fieldLink RX2 9 "SeedMill$Row" "used" "I", .methodLink RX3 64 yX2_put, .instanceMethod yX2_put, .selects RX2 yX2_put yX2_put, .code yX2_put cX2_put 2 none, .fieldLink RX2 15 "SeedMill$Row" "bytes" "[I"] ++ wsX30 ++ wsX20)
def wsX3_clear : List Cond := .code yX3_clear cX3_clear 2 (some .int) :: ([.fieldLink RX3 14 "SeedMill" "input" "LSeedMill$Row;", .methodLink RX3 60 yX2_size, .instanceMethod yX2_size, .selects RX2 yX2_size yX2_size, .initialized RX2, .code yX2_size cX2_size 1 (some .int), .fieldLink RX2 9 "SeedMill$Row" "used" "I", .methodLink RX3 67 yX2_empty, .instanceMethod yX2_empty, .selects RX2 yX2_empty yX2_empty, .code yX2_empty cX2_empty 1 none] ++ wsX30 ++ wsX20)
def wsX3_renewValue_r1 : List Cond := [Cond.fieldLink RX3 30 "SeedMill" "formerValue" "LSeedMill$Row;", Cond.fieldLink RX3 27 "SeedMill" "value" "LSeedMill$Row;", Cond.fieldLink RX3 46 "SeedMill" "keyedHasher" "LSeedMill$KeyedHasher;", Cond.fieldLink RX3 24 "SeedMill" "key" "LSeedMill$Row;", Cond.methodLink RX3 67 yX2_empty, Cond.instanceMethod yX2_empty, Cond.selects RX2 yX2_empty yX2_empty, Cond.initialized RX2, Cond.code yX2_empty cX2_empty 1 none, Cond.fieldLink RX2 9 "SeedMill$Row" "used" "I", Cond.methodLink RX3 97 yX2_append, Cond.instanceMethod yX2_append, Cond.selects RX2 yX2_append yX2_append, Cond.code yX2_append cX2_append 5 none, Cond.methodLink RX2 25 Lib.Math.min.name, Cond.static Lib.Math.min.name, Cond.initialized "java/lang/Math", Cond.code Lib.Math.min.name Lib.Math.min.code 2 (some .int), Cond.fieldLink RX2 15 "SeedMill$Row" "bytes" "[I", Cond.methodLink RX2 31 yX2_put, Cond.instanceMethod yX2_put, Cond.selects RX2 yX2_put yX2_put, Cond.code yX2_put cX2_put 2 none, Cond.methodLink RX3 101 yX1_begin]
def wsX3_renewValue_r2 : List Cond := [Cond.instanceMethod yX1_begin, Cond.selects RX1 yX1_begin yX1_begin, Cond.initialized RX1, Cond.code yX1_begin cX1_begin 3 none, Cond.fieldLink RX1 23 "SeedMill$KeyedHasher" "blockKey" "LSeedMill$Row;", Cond.fieldLink RX1 12 "SeedMill$KeyedHasher" "hasher" "LSeedMill$Hasher;", Cond.methodLink RX1 30 yX2_empty, Cond.methodLink RX1 33 yX2_size, Cond.instanceMethod yX2_size, Cond.selects RX2 yX2_size yX2_size, Cond.code yX2_size cX2_size 1 (some .int), Cond.methodLink RX1 37 yX0_begin, Cond.instanceMethod yX0_begin, Cond.selects RX0 yX0_begin yX0_begin, Cond.initialized RX0, Cond.code yX0_begin cX0_begin 1 none, Cond.fieldLink RX0 14 "SeedMill$Hasher" "message" "LSeedMill$Row;", Cond.methodLink RX0 27 yX2_empty, Cond.methodLink RX1 40 yX0_add, Cond.instanceMethod yX0_add, Cond.selects RX0 yX0_add yX0_add, Cond.code yX0_add cX0_add 2 none, Cond.methodLink RX0 30 yX2_size, Cond.methodLink RX0 34 yX2_append]
def wsX3_renewValue_r3 : List Cond := [Cond.methodLink RX1 44 yX0_end, Cond.instanceMethod yX0_end, Cond.selects RX0 yX0_end yX0_end, Cond.code yX0_end cX0_end 3 none, Cond.fieldLink RX0 47 "SeedMill$Hasher" "FIRST_STATE" "[I", Cond.fieldLink RX0 24 "SeedMill$Hasher" "words" "[I", Cond.methodLink RX0 50 arraycopyName, Cond.native arraycopyName, Cond.static arraycopyName, Cond.initialized "java/lang/System", Cond.methodLink RX0 44 yX0_pad, Cond.instanceMethod yX0_pad, Cond.selects RX0 yX0_pad yX0_pad, Cond.code yX0_pad cX0_pad 4 none, Cond.methodLink RX0 41 yX2_put, Cond.methodLink RX0 65 yJ9_floorMod_7cf53, Cond.static yJ9_floorMod_7cf53, Cond.initialized RJ9, Cond.code yJ9_floorMod_7cf53 cJ9_floorMod_7cf53 3 (some .int), Cond.methodLink RX0 62 yX2_putWord, Cond.instanceMethod yX2_putWord, Cond.selects RX2 yX2_putWord yX2_putWord, Cond.code yX2_putWord cX2_putWord 3 none, Cond.methodLink RX0 56 yX0_spread]
def wsX3_renewValue_r4 : List Cond := [Cond.instanceMethod yX0_spread, Cond.selects RX0 yX0_spread yX0_spread, Cond.code yX0_spread cX0_spread 7 none, Cond.fieldLink RX0 20 "SeedMill$Hasher" "w" "[I", Cond.methodLink RX0 71 yX2_wordAt, Cond.instanceMethod yX2_wordAt, Cond.selects RX2 yX2_wordAt yX2_wordAt, Cond.code yX2_wordAt cX2_wordAt 2 (some .int), Cond.methodLink RX2 35 yX2_at, Cond.instanceMethod yX2_at, Cond.selects RX2 yX2_at yX2_at, Cond.code yX2_at cX2_at 2 (some .int), Cond.methodLink RX0 75 yJ6_rotateRight_7cf53, Cond.static yJ6_rotateRight_7cf53, Cond.initialized RJ6, Cond.code yJ6_rotateRight_7cf53 cJ6_rotateRight_7cf53 2 (some .int), Cond.methodLink RX0 59 yX0_mix, Cond.instanceMethod yX0_mix, Cond.selects RX0 yX0_mix yX0_mix, Cond.code yX0_mix cX0_mix 12 none, Cond.fieldLink RX0 84 "SeedMill$Hasher" "K" "[I", Cond.methodLink RX0 80 yX0_highSum, Cond.static yX0_highSum, Cond.code yX0_highSum cX0_highSum 4 (some .int)]
def wsX3_renewValue_r5 : List Cond := [Cond.methodLink RX1 47 yX2_append, Cond.methodLink RX1 51 yX2_put, Cond.methodLink RX1 54 yX0_addXor, Cond.instanceMethod yX0_addXor, Cond.selects RX0 yX0_addXor yX0_addXor, Cond.code yX0_addXor cX0_addXor 3 none, Cond.methodLink RX0 38 yX2_appendXor, Cond.instanceMethod yX2_appendXor, Cond.selects RX2 yX2_appendXor yX2_appendXor, Cond.code yX2_appendXor cX2_appendXor 4 none, Cond.methodLink RX3 103 yX1_add, Cond.instanceMethod yX1_add, Cond.selects RX1 yX1_add yX1_add, Cond.code yX1_add cX1_add 2 none, Cond.methodLink RX3 104 yX1_end, Cond.instanceMethod yX1_end, Cond.selects RX1 yX1_end yX1_end, Cond.code yX1_end cX1_end 2 none, Cond.fieldLink RX1 27 "SeedMill$KeyedHasher" "innerHash" "LSeedMill$Row;"]
def wsX3_renewValue : List Cond := .code yX3_renewValue cX3_renewValue 1 none :: ((wsX3_renewValue_r1 ++ (wsX3_renewValue_r2 ++ (wsX3_renewValue_r3 ++ (wsX3_renewValue_r4 ++ wsX3_renewValue_r5)))) ++ wsX30 ++ wsX20 ++ wsX10 ++ wsX00)
def wsX3_stir_r1 : List Cond := [Cond.fieldLink RX3 14 "SeedMill" "input" "LSeedMill$Row;", Cond.fieldLink RX3 46 "SeedMill" "keyedHasher" "LSeedMill$KeyedHasher;", Cond.fieldLink RX3 24 "SeedMill" "key" "LSeedMill$Row;", Cond.fieldLink RX3 27 "SeedMill" "value" "LSeedMill$Row;", Cond.methodLink RX3 60 yX2_size, Cond.instanceMethod yX2_size, Cond.selects RX2 yX2_size yX2_size, Cond.initialized RX2, Cond.code yX2_size cX2_size 1 (some .int), Cond.fieldLink RX2 9 "SeedMill$Row" "used" "I", Cond.methodLink RX3 101 yX1_begin, Cond.instanceMethod yX1_begin, Cond.selects RX1 yX1_begin yX1_begin, Cond.initialized RX1, Cond.code yX1_begin cX1_begin 3 none, Cond.fieldLink RX1 23 "SeedMill$KeyedHasher" "blockKey" "LSeedMill$Row;", Cond.fieldLink RX1 12 "SeedMill$KeyedHasher" "hasher" "LSeedMill$Hasher;", Cond.methodLink RX1 30 yX2_empty, Cond.instanceMethod yX2_empty, Cond.selects RX2 yX2_empty yX2_empty, Cond.code yX2_empty cX2_empty 1 none, Cond.methodLink RX1 33 yX2_size, Cond.methodLink RX1 37 yX0_begin, Cond.instanceMethod yX0_begin]
def wsX3_stir_r2 : List Cond := [Cond.selects RX0 yX0_begin yX0_begin, Cond.initialized RX0, Cond.code yX0_begin cX0_begin 1 none, Cond.fieldLink RX0 14 "SeedMill$Hasher" "message" "LSeedMill$Row;", Cond.methodLink RX0 27 yX2_empty, Cond.methodLink RX1 40 yX0_add, Cond.instanceMethod yX0_add, Cond.selects RX0 yX0_add yX0_add, Cond.code yX0_add cX0_add 2 none, Cond.methodLink RX0 30 yX2_size, Cond.methodLink RX0 34 yX2_append, Cond.instanceMethod yX2_append, Cond.selects RX2 yX2_append yX2_append, Cond.code yX2_append cX2_append 5 none, Cond.methodLink RX2 25 Lib.Math.min.name, Cond.static Lib.Math.min.name, Cond.initialized "java/lang/Math", Cond.code Lib.Math.min.name Lib.Math.min.code 2 (some .int), Cond.fieldLink RX2 15 "SeedMill$Row" "bytes" "[I", Cond.methodLink RX2 31 yX2_put, Cond.instanceMethod yX2_put, Cond.selects RX2 yX2_put yX2_put, Cond.code yX2_put cX2_put 2 none, Cond.methodLink RX1 44 yX0_end]
def wsX3_stir_r3 : List Cond := [Cond.instanceMethod yX0_end, Cond.selects RX0 yX0_end yX0_end, Cond.code yX0_end cX0_end 3 none, Cond.fieldLink RX0 47 "SeedMill$Hasher" "FIRST_STATE" "[I", Cond.fieldLink RX0 24 "SeedMill$Hasher" "words" "[I", Cond.methodLink RX0 50 arraycopyName, Cond.native arraycopyName, Cond.static arraycopyName, Cond.initialized "java/lang/System", Cond.methodLink RX0 44 yX0_pad, Cond.instanceMethod yX0_pad, Cond.selects RX0 yX0_pad yX0_pad, Cond.code yX0_pad cX0_pad 4 none, Cond.methodLink RX0 41 yX2_put, Cond.methodLink RX0 65 yJ9_floorMod_7cf53, Cond.static yJ9_floorMod_7cf53, Cond.initialized RJ9, Cond.code yJ9_floorMod_7cf53 cJ9_floorMod_7cf53 3 (some .int), Cond.methodLink RX0 62 yX2_putWord, Cond.instanceMethod yX2_putWord, Cond.selects RX2 yX2_putWord yX2_putWord, Cond.code yX2_putWord cX2_putWord 3 none, Cond.methodLink RX0 56 yX0_spread, Cond.instanceMethod yX0_spread]
def wsX3_stir_r4 : List Cond := [Cond.selects RX0 yX0_spread yX0_spread, Cond.code yX0_spread cX0_spread 7 none, Cond.fieldLink RX0 20 "SeedMill$Hasher" "w" "[I", Cond.methodLink RX0 71 yX2_wordAt, Cond.instanceMethod yX2_wordAt, Cond.selects RX2 yX2_wordAt yX2_wordAt, Cond.code yX2_wordAt cX2_wordAt 2 (some .int), Cond.methodLink RX2 35 yX2_at, Cond.instanceMethod yX2_at, Cond.selects RX2 yX2_at yX2_at, Cond.code yX2_at cX2_at 2 (some .int), Cond.methodLink RX0 75 yJ6_rotateRight_7cf53, Cond.static yJ6_rotateRight_7cf53, Cond.initialized RJ6, Cond.code yJ6_rotateRight_7cf53 cJ6_rotateRight_7cf53 2 (some .int), Cond.methodLink RX0 59 yX0_mix, Cond.instanceMethod yX0_mix, Cond.selects RX0 yX0_mix yX0_mix, Cond.code yX0_mix cX0_mix 12 none, Cond.fieldLink RX0 84 "SeedMill$Hasher" "K" "[I", Cond.methodLink RX0 80 yX0_highSum, Cond.static yX0_highSum, Cond.code yX0_highSum cX0_highSum 4 (some .int), Cond.methodLink RX1 47 yX2_append]
def wsX3_stir_r5 : List Cond := [Cond.methodLink RX1 51 yX2_put, Cond.methodLink RX1 54 yX0_addXor, Cond.instanceMethod yX0_addXor, Cond.selects RX0 yX0_addXor yX0_addXor, Cond.code yX0_addXor cX0_addXor 3 none, Cond.methodLink RX0 38 yX2_appendXor, Cond.instanceMethod yX2_appendXor, Cond.selects RX2 yX2_appendXor yX2_appendXor, Cond.code yX2_appendXor cX2_appendXor 4 none, Cond.methodLink RX3 103 yX1_add, Cond.instanceMethod yX1_add, Cond.selects RX1 yX1_add yX1_add, Cond.code yX1_add cX1_add 2 none, Cond.methodLink RX3 109 yX1_addByte, Cond.instanceMethod yX1_addByte, Cond.selects RX1 yX1_addByte yX1_addByte, Cond.code yX1_addByte cX1_addByte 2 none, Cond.methodLink RX1 57 yX0_addByte, Cond.instanceMethod yX0_addByte, Cond.selects RX0 yX0_addByte yX0_addByte, Cond.code yX0_addByte cX0_addByte 2 none, Cond.methodLink RX3 104 yX1_end, Cond.instanceMethod yX1_end, Cond.selects RX1 yX1_end yX1_end]
def wsX3_stir_r6 : List Cond := [Cond.code yX1_end cX1_end 2 none, Cond.fieldLink RX1 27 "SeedMill$KeyedHasher" "innerHash" "LSeedMill$Row;", Cond.methodLink RX3 112 yX3_renewValue, Cond.instanceMethod yX3_renewValue, Cond.selects RX3 yX3_renewValue yX3_renewValue, Cond.initialized RX3, Cond.code yX3_renewValue cX3_renewValue 1 none, Cond.fieldLink RX3 30 "SeedMill" "formerValue" "LSeedMill$Row;", Cond.methodLink RX3 67 yX2_empty, Cond.methodLink RX3 97 yX2_append]
def wsX3_stir : List Cond := .code yX3_stir cX3_stir 3 none :: ((wsX3_stir_r1 ++ (wsX3_stir_r2 ++ (wsX3_stir_r3 ++ (wsX3_stir_r4 ++ (wsX3_stir_r5 ++ wsX3_stir_r6))))) ++ wsX30 ++ wsX20 ++ wsX10 ++ wsX00)
def wsX3_seed_r1 : List Cond := [Cond.fieldLink RX3 14 "SeedMill" "input" "LSeedMill$Row;", Cond.fieldLink RX3 24 "SeedMill" "key" "LSeedMill$Row;", Cond.fieldLink RX3 27 "SeedMill" "value" "LSeedMill$Row;", Cond.fieldLink RX3 50 "SeedMill" "drawCounter" "I", Cond.methodLink RX3 60 yX2_size, Cond.instanceMethod yX2_size, Cond.selects RX2 yX2_size yX2_size, Cond.initialized RX2, Cond.code yX2_size cX2_size 1 (some .int), Cond.fieldLink RX2 9 "SeedMill$Row" "used" "I", Cond.methodLink RX3 70 yX2_fill, Cond.instanceMethod yX2_fill, Cond.selects RX2 yX2_fill yX2_fill, Cond.code yX2_fill cX2_fill 2 none, Cond.fieldLink RX2 15 "SeedMill$Row" "bytes" "[I", Cond.methodLink RX2 19 yJ7_fill_53178, Cond.static yJ7_fill_53178, Cond.initialized RJ7, Cond.code yJ7_fill_53178 cJ7_fill_53178 4 none, Cond.methodLink RX3 73 yX3_stir, Cond.instanceMethod yX3_stir, Cond.selects RX3 yX3_stir yX3_stir, Cond.initialized RX3, Cond.code yX3_stir cX3_stir 3 none]
def wsX3_seed_r2 : List Cond := [Cond.fieldLink RX3 46 "SeedMill" "keyedHasher" "LSeedMill$KeyedHasher;", Cond.methodLink RX3 101 yX1_begin, Cond.instanceMethod yX1_begin, Cond.selects RX1 yX1_begin yX1_begin, Cond.initialized RX1, Cond.code yX1_begin cX1_begin 3 none, Cond.fieldLink RX1 23 "SeedMill$KeyedHasher" "blockKey" "LSeedMill$Row;", Cond.fieldLink RX1 12 "SeedMill$KeyedHasher" "hasher" "LSeedMill$Hasher;", Cond.methodLink RX1 30 yX2_empty, Cond.instanceMethod yX2_empty, Cond.selects RX2 yX2_empty yX2_empty, Cond.code yX2_empty cX2_empty 1 none, Cond.methodLink RX1 33 yX2_size, Cond.methodLink RX1 37 yX0_begin, Cond.instanceMethod yX0_begin, Cond.selects RX0 yX0_begin yX0_begin, Cond.initialized RX0, Cond.code yX0_begin cX0_begin 1 none, Cond.fieldLink RX0 14 "SeedMill$Hasher" "message" "LSeedMill$Row;", Cond.methodLink RX0 27 yX2_empty, Cond.methodLink RX1 40 yX0_add, Cond.instanceMethod yX0_add, Cond.selects RX0 yX0_add yX0_add, Cond.code yX0_add cX0_add 2 none]
def wsX3_seed_r3 : List Cond := [Cond.methodLink RX0 30 yX2_size, Cond.methodLink RX0 34 yX2_append, Cond.instanceMethod yX2_append, Cond.selects RX2 yX2_append yX2_append, Cond.code yX2_append cX2_append 5 none, Cond.methodLink RX2 25 Lib.Math.min.name, Cond.static Lib.Math.min.name, Cond.initialized "java/lang/Math", Cond.code Lib.Math.min.name Lib.Math.min.code 2 (some .int), Cond.methodLink RX2 31 yX2_put, Cond.instanceMethod yX2_put, Cond.selects RX2 yX2_put yX2_put, Cond.code yX2_put cX2_put 2 none, Cond.methodLink RX1 44 yX0_end, Cond.instanceMethod yX0_end, Cond.selects RX0 yX0_end yX0_end, Cond.code yX0_end cX0_end 3 none, Cond.fieldLink RX0 47 "SeedMill$Hasher" "FIRST_STATE" "[I", Cond.fieldLink RX0 24 "SeedMill$Hasher" "words" "[I", Cond.methodLink RX0 50 arraycopyName, Cond.native arraycopyName, Cond.static arraycopyName, Cond.initialized "java/lang/System", Cond.methodLink RX0 44 yX0_pad]
def wsX3_seed_r4 : List Cond := [Cond.instanceMethod yX0_pad, Cond.selects RX0 yX0_pad yX0_pad, Cond.code yX0_pad cX0_pad 4 none, Cond.methodLink RX0 41 yX2_put, Cond.methodLink RX0 65 yJ9_floorMod_7cf53, Cond.static yJ9_floorMod_7cf53, Cond.initialized RJ9, Cond.code yJ9_floorMod_7cf53 cJ9_floorMod_7cf53 3 (some .int), Cond.methodLink RX0 62 yX2_putWord, Cond.instanceMethod yX2_putWord, Cond.selects RX2 yX2_putWord yX2_putWord, Cond.code yX2_putWord cX2_putWord 3 none, Cond.methodLink RX0 56 yX0_spread, Cond.instanceMethod yX0_spread, Cond.selects RX0 yX0_spread yX0_spread, Cond.code yX0_spread cX0_spread 7 none, Cond.fieldLink RX0 20 "SeedMill$Hasher" "w" "[I", Cond.methodLink RX0 71 yX2_wordAt, Cond.instanceMethod yX2_wordAt, Cond.selects RX2 yX2_wordAt yX2_wordAt, Cond.code yX2_wordAt cX2_wordAt 2 (some .int), Cond.methodLink RX2 35 yX2_at, Cond.instanceMethod yX2_at, Cond.selects RX2 yX2_at yX2_at]
def wsX3_seed_r5 : List Cond := [Cond.code yX2_at cX2_at 2 (some .int), Cond.methodLink RX0 75 yJ6_rotateRight_7cf53, Cond.static yJ6_rotateRight_7cf53, Cond.initialized RJ6, Cond.code yJ6_rotateRight_7cf53 cJ6_rotateRight_7cf53 2 (some .int), Cond.methodLink RX0 59 yX0_mix, Cond.instanceMethod yX0_mix, Cond.selects RX0 yX0_mix yX0_mix, Cond.code yX0_mix cX0_mix 12 none, Cond.fieldLink RX0 84 "SeedMill$Hasher" "K" "[I", Cond.methodLink RX0 80 yX0_highSum, Cond.static yX0_highSum, Cond.code yX0_highSum cX0_highSum 4 (some .int), Cond.methodLink RX1 47 yX2_append, Cond.methodLink RX1 51 yX2_put, Cond.methodLink RX1 54 yX0_addXor, Cond.instanceMethod yX0_addXor, Cond.selects RX0 yX0_addXor yX0_addXor, Cond.code yX0_addXor cX0_addXor 3 none, Cond.methodLink RX0 38 yX2_appendXor, Cond.instanceMethod yX2_appendXor, Cond.selects RX2 yX2_appendXor yX2_appendXor, Cond.code yX2_appendXor cX2_appendXor 4 none, Cond.methodLink RX3 103 yX1_add]
def wsX3_seed_r6 : List Cond := [Cond.instanceMethod yX1_add, Cond.selects RX1 yX1_add yX1_add, Cond.code yX1_add cX1_add 2 none, Cond.methodLink RX3 109 yX1_addByte, Cond.instanceMethod yX1_addByte, Cond.selects RX1 yX1_addByte yX1_addByte, Cond.code yX1_addByte cX1_addByte 2 none, Cond.methodLink RX1 57 yX0_addByte, Cond.instanceMethod yX0_addByte, Cond.selects RX0 yX0_addByte yX0_addByte, Cond.code yX0_addByte cX0_addByte 2 none, Cond.methodLink RX3 104 yX1_end, Cond.instanceMethod yX1_end, Cond.selects RX1 yX1_end yX1_end, Cond.code yX1_end cX1_end 2 none, Cond.fieldLink RX1 27 "SeedMill$KeyedHasher" "innerHash" "LSeedMill$Row;", Cond.methodLink RX3 112 yX3_renewValue, Cond.instanceMethod yX3_renewValue, Cond.selects RX3 yX3_renewValue yX3_renewValue, Cond.code yX3_renewValue cX3_renewValue 1 none, Cond.fieldLink RX3 30 "SeedMill" "formerValue" "LSeedMill$Row;", Cond.methodLink RX3 67 yX2_empty, Cond.methodLink RX3 97 yX2_append]
def wsX3_seed : List Cond := .code yX3_seed cX3_seed 1 (some .int) :: ((wsX3_seed_r1 ++ (wsX3_seed_r2 ++ (wsX3_seed_r3 ++ (wsX3_seed_r4 ++ (wsX3_seed_r5 ++ wsX3_seed_r6))))) ++ wsX30 ++ wsX20 ++ wsX10 ++ wsX00)
def wsX3_isSeeded : List Cond := .code yX3_isSeeded cX3_isSeeded 1 (some .boolean) :: ([.fieldLink RX3 50 "SeedMill" "drawCounter" "I"] ++ wsX30)
def wsX3_reseed_r1 : List Cond := [Cond.fieldLink RX3 14 "SeedMill" "input" "LSeedMill$Row;", Cond.fieldLink RX3 50 "SeedMill" "drawCounter" "I", Cond.methodLink RX3 60 yX2_size, Cond.instanceMethod yX2_size, Cond.selects RX2 yX2_size yX2_size, Cond.initialized RX2, Cond.code yX2_size cX2_size 1 (some .int), Cond.fieldLink RX2 9 "SeedMill$Row" "used" "I", Cond.methodLink RX3 76 yX3_isSeeded, Cond.instanceMethod yX3_isSeeded, Cond.selects RX3 yX3_isSeeded yX3_isSeeded, Cond.initialized RX3, Cond.code yX3_isSeeded cX3_isSeeded 1 (some .boolean), Cond.methodLink RX3 73 yX3_stir, Cond.instanceMethod yX3_stir, Cond.selects RX3 yX3_stir yX3_stir, Cond.code yX3_stir cX3_stir 3 none, Cond.fieldLink RX3 46 "SeedMill" "keyedHasher" "LSeedMill$KeyedHasher;", Cond.fieldLink RX3 24 "SeedMill" "key" "LSeedMill$Row;", Cond.fieldLink RX3 27 "SeedMill" "value" "LSeedMill$Row;", Cond.methodLink RX3 101 yX1_begin, Cond.instanceMethod yX1_begin, Cond.selects RX1 yX1_begin yX1_begin, Cond.initialized RX1]
def wsX3_reseed_r2 : List Cond := [Cond.code yX1_begin cX1_begin 3 none, Cond.fieldLink RX1 23 "SeedMill$KeyedHasher" "blockKey" "LSeedMill$Row;", Cond.fieldLink RX1 12 "SeedMill$KeyedHasher" "hasher" "LSeedMill$Hasher;", Cond.methodLink RX1 30 yX2_empty, Cond.instanceMethod yX2_empty, Cond.selects RX2 yX2_empty yX2_empty, Cond.code yX2_empty cX2_empty 1 none, Cond.methodLink RX1 33 yX2_size, Cond.methodLink RX1 37 yX0_begin, Cond.instanceMethod yX0_begin, Cond.selects RX0 yX0_begin yX0_begin, Cond.initialized RX0, Cond.code yX0_begin cX0_begin 1 none, Cond.fieldLink RX0 14 "SeedMill$Hasher" "message" "LSeedMill$Row;", Cond.methodLink RX0 27 yX2_empty, Cond.methodLink RX1 40 yX0_add, Cond.instanceMethod yX0_add, Cond.selects RX0 yX0_add yX0_add, Cond.code yX0_add cX0_add 2 none, Cond.methodLink RX0 30 yX2_size, Cond.methodLink RX0 34 yX2_append, Cond.instanceMethod yX2_append, Cond.selects RX2 yX2_append yX2_append, Cond.code yX2_append cX2_append 5 none]
def wsX3_reseed_r3 : List Cond := [Cond.methodLink RX2 25 Lib.Math.min.name, Cond.static Lib.Math.min.name, Cond.initialized "java/lang/Math", Cond.code Lib.Math.min.name Lib.Math.min.code 2 (some .int), Cond.fieldLink RX2 15 "SeedMill$Row" "bytes" "[I", Cond.methodLink RX2 31 yX2_put, Cond.instanceMethod yX2_put, Cond.selects RX2 yX2_put yX2_put, Cond.code yX2_put cX2_put 2 none, Cond.methodLink RX1 44 yX0_end, Cond.instanceMethod yX0_end, Cond.selects RX0 yX0_end yX0_end, Cond.code yX0_end cX0_end 3 none, Cond.fieldLink RX0 47 "SeedMill$Hasher" "FIRST_STATE" "[I", Cond.fieldLink RX0 24 "SeedMill$Hasher" "words" "[I", Cond.methodLink RX0 50 arraycopyName, Cond.native arraycopyName, Cond.static arraycopyName, Cond.initialized "java/lang/System", Cond.methodLink RX0 44 yX0_pad, Cond.instanceMethod yX0_pad, Cond.selects RX0 yX0_pad yX0_pad, Cond.code yX0_pad cX0_pad 4 none, Cond.methodLink RX0 41 yX2_put]
def wsX3_reseed_r4 : List Cond := [Cond.methodLink RX0 65 yJ9_floorMod_7cf53, Cond.static yJ9_floorMod_7cf53, Cond.initialized RJ9, Cond.code yJ9_floorMod_7cf53 cJ9_floorMod_7cf53 3 (some .int), Cond.methodLink RX0 62 yX2_putWord, Cond.instanceMethod yX2_putWord, Cond.selects RX2 yX2_putWord yX2_putWord, Cond.code yX2_putWord cX2_putWord 3 none, Cond.methodLink RX0 56 yX0_spread, Cond.instanceMethod yX0_spread, Cond.selects RX0 yX0_spread yX0_spread, Cond.code yX0_spread cX0_spread 7 none, Cond.fieldLink RX0 20 "SeedMill$Hasher" "w" "[I", Cond.methodLink RX0 71 yX2_wordAt, Cond.instanceMethod yX2_wordAt, Cond.selects RX2 yX2_wordAt yX2_wordAt, Cond.code yX2_wordAt cX2_wordAt 2 (some .int), Cond.methodLink RX2 35 yX2_at, Cond.instanceMethod yX2_at, Cond.selects RX2 yX2_at yX2_at, Cond.code yX2_at cX2_at 2 (some .int), Cond.methodLink RX0 75 yJ6_rotateRight_7cf53, Cond.static yJ6_rotateRight_7cf53, Cond.initialized RJ6]
def wsX3_reseed_r5 : List Cond := [Cond.code yJ6_rotateRight_7cf53 cJ6_rotateRight_7cf53 2 (some .int), Cond.methodLink RX0 59 yX0_mix, Cond.instanceMethod yX0_mix, Cond.selects RX0 yX0_mix yX0_mix, Cond.code yX0_mix cX0_mix 12 none, Cond.fieldLink RX0 84 "SeedMill$Hasher" "K" "[I", Cond.methodLink RX0 80 yX0_highSum, Cond.static yX0_highSum, Cond.code yX0_highSum cX0_highSum 4 (some .int), Cond.methodLink RX1 47 yX2_append, Cond.methodLink RX1 51 yX2_put, Cond.methodLink RX1 54 yX0_addXor, Cond.instanceMethod yX0_addXor, Cond.selects RX0 yX0_addXor yX0_addXor, Cond.code yX0_addXor cX0_addXor 3 none, Cond.methodLink RX0 38 yX2_appendXor, Cond.instanceMethod yX2_appendXor, Cond.selects RX2 yX2_appendXor yX2_appendXor, Cond.code yX2_appendXor cX2_appendXor 4 none, Cond.methodLink RX3 103 yX1_add, Cond.instanceMethod yX1_add, Cond.selects RX1 yX1_add yX1_add, Cond.code yX1_add cX1_add 2 none, Cond.methodLink RX3 109 yX1_addByte]
def wsX3_reseed_r6 : List Cond := [Cond.instanceMethod yX1_addByte, Cond.selects RX1 yX1_addByte yX1_addByte, Cond.code yX1_addByte cX1_addByte 2 none, Cond.methodLink RX1 57 yX0_addByte, Cond.instanceMethod yX0_addByte, Cond.selects RX0 yX0_addByte yX0_addByte, Cond.code yX0_addByte cX0_addByte 2 none, Cond.methodLink RX3 104 yX1_end, Cond.instanceMethod yX1_end, Cond.selects RX1 yX1_end yX1_end, Cond.code yX1_end cX1_end 2 none, Cond.fieldLink RX1 27 "SeedMill$KeyedHasher" "innerHash" "LSeedMill$Row;", Cond.methodLink RX3 112 yX3_renewValue, Cond.instanceMethod yX3_renewValue, Cond.selects RX3 yX3_renewValue yX3_renewValue, Cond.code yX3_renewValue cX3_renewValue 1 none, Cond.fieldLink RX3 30 "SeedMill" "formerValue" "LSeedMill$Row;", Cond.methodLink RX3 67 yX2_empty, Cond.methodLink RX3 97 yX2_append]
def wsX3_reseed : List Cond := .code yX3_reseed cX3_reseed 1 (some .int) :: ((wsX3_reseed_r1 ++ (wsX3_reseed_r2 ++ (wsX3_reseed_r3 ++ (wsX3_reseed_r4 ++ (wsX3_reseed_r5 ++ wsX3_reseed_r6))))) ++ wsX30 ++ wsX20 ++ wsX10 ++ wsX00)
def wsX3_fillDrawn_r1 : List Cond := [Cond.fieldLink RX3 21 "SeedMill" "drawn" "LSeedMill$Row;", Cond.fieldLink RX3 27 "SeedMill" "value" "LSeedMill$Row;", Cond.methodLink RX3 115 Lib.Math.min.name, Cond.static Lib.Math.min.name, Cond.initialized "java/lang/Math", Cond.code Lib.Math.min.name Lib.Math.min.code 2 (some .int), Cond.methodLink RX3 67 yX2_empty, Cond.instanceMethod yX2_empty, Cond.selects RX2 yX2_empty yX2_empty, Cond.initialized RX2, Cond.code yX2_empty cX2_empty 1 none, Cond.fieldLink RX2 9 "SeedMill$Row" "used" "I", Cond.methodLink RX3 112 yX3_renewValue, Cond.instanceMethod yX3_renewValue, Cond.selects RX3 yX3_renewValue yX3_renewValue, Cond.initialized RX3, Cond.code yX3_renewValue cX3_renewValue 1 none, Cond.fieldLink RX3 30 "SeedMill" "formerValue" "LSeedMill$Row;", Cond.fieldLink RX3 46 "SeedMill" "keyedHasher" "LSeedMill$KeyedHasher;", Cond.fieldLink RX3 24 "SeedMill" "key" "LSeedMill$Row;", Cond.methodLink RX3 97 yX2_append, Cond.instanceMethod yX2_append, Cond.selects RX2 yX2_append yX2_append, Cond.code yX2_append cX2_append 5 none]
def wsX3_fillDrawn_r2 : List Cond := [Cond.methodLink RX2 25 Lib.Math.min.name, Cond.fieldLink RX2 15 "SeedMill$Row" "bytes" "[I", Cond.methodLink RX2 31 yX2_put, Cond.instanceMethod yX2_put, Cond.selects RX2 yX2_put yX2_put, Cond.code yX2_put cX2_put 2 none, Cond.methodLink RX3 101 yX1_begin, Cond.instanceMethod yX1_begin, Cond.selects RX1 yX1_begin yX1_begin, Cond.initialized RX1, Cond.code yX1_begin cX1_begin 3 none, Cond.fieldLink RX1 23 "SeedMill$KeyedHasher" "blockKey" "LSeedMill$Row;", Cond.fieldLink RX1 12 "SeedMill$KeyedHasher" "hasher" "LSeedMill$Hasher;", Cond.methodLink RX1 30 yX2_empty, Cond.methodLink RX1 33 yX2_size, Cond.instanceMethod yX2_size, Cond.selects RX2 yX2_size yX2_size, Cond.code yX2_size cX2_size 1 (some .int), Cond.methodLink RX1 37 yX0_begin, Cond.instanceMethod yX0_begin, Cond.selects RX0 yX0_begin yX0_begin, Cond.initialized RX0, Cond.code yX0_begin cX0_begin 1 none, Cond.fieldLink RX0 14 "SeedMill$Hasher" "message" "LSeedMill$Row;"]
def wsX3_fillDrawn_r3 : List Cond := [Cond.methodLink RX0 27 yX2_empty, Cond.methodLink RX1 40 yX0_add, Cond.instanceMethod yX0_add, Cond.selects RX0 yX0_add yX0_add, Cond.code yX0_add cX0_add 2 none, Cond.methodLink RX0 30 yX2_size, Cond.methodLink RX0 34 yX2_append, Cond.methodLink RX1 44 yX0_end, Cond.instanceMethod yX0_end, Cond.selects RX0 yX0_end yX0_end, Cond.code yX0_end cX0_end 3 none, Cond.fieldLink RX0 47 "SeedMill$Hasher" "FIRST_STATE" "[I", Cond.fieldLink RX0 24 "SeedMill$Hasher" "words" "[I", Cond.methodLink RX0 50 arraycopyName, Cond.native arraycopyName, Cond.static arraycopyName, Cond.initialized "java/lang/System", Cond.methodLink RX0 44 yX0_pad, Cond.instanceMethod yX0_pad, Cond.selects RX0 yX0_pad yX0_pad, Cond.code yX0_pad cX0_pad 4 none, Cond.methodLink RX0 41 yX2_put, Cond.methodLink RX0 65 yJ9_floorMod_7cf53, Cond.static yJ9_floorMod_7cf53]
def wsX3_fillDrawn_r4 : List Cond := [Cond.initialized RJ9, Cond.code yJ9_floorMod_7cf53 cJ9_floorMod_7cf53 3 (some .int), Cond.methodLink RX0 62 yX2_putWord, Cond.instanceMethod yX2_putWord, Cond.selects RX2 yX2_putWord yX2_putWord, Cond.code yX2_putWord cX2_putWord 3 none, Cond.methodLink RX0 56 yX0_spread, Cond.instanceMethod yX0_spread, Cond.selects RX0 yX0_spread yX0_spread, Cond.code yX0_spread cX0_spread 7 none, Cond.fieldLink RX0 20 "SeedMill$Hasher" "w" "[I", Cond.methodLink RX0 71 yX2_wordAt, Cond.instanceMethod yX2_wordAt, Cond.selects RX2 yX2_wordAt yX2_wordAt, Cond.code yX2_wordAt cX2_wordAt 2 (some .int), Cond.methodLink RX2 35 yX2_at, Cond.instanceMethod yX2_at, Cond.selects RX2 yX2_at yX2_at, Cond.code yX2_at cX2_at 2 (some .int), Cond.methodLink RX0 75 yJ6_rotateRight_7cf53, Cond.static yJ6_rotateRight_7cf53, Cond.initialized RJ6, Cond.code yJ6_rotateRight_7cf53 cJ6_rotateRight_7cf53 2 (some .int), Cond.methodLink RX0 59 yX0_mix]
def wsX3_fillDrawn_r5 : List Cond := [Cond.instanceMethod yX0_mix, Cond.selects RX0 yX0_mix yX0_mix, Cond.code yX0_mix cX0_mix 12 none, Cond.fieldLink RX0 84 "SeedMill$Hasher" "K" "[I", Cond.methodLink RX0 80 yX0_highSum, Cond.static yX0_highSum, Cond.code yX0_highSum cX0_highSum 4 (some .int), Cond.methodLink RX1 47 yX2_append, Cond.methodLink RX1 51 yX2_put, Cond.methodLink RX1 54 yX0_addXor, Cond.instanceMethod yX0_addXor, Cond.selects RX0 yX0_addXor yX0_addXor, Cond.code yX0_addXor cX0_addXor 3 none, Cond.methodLink RX0 38 yX2_appendXor, Cond.instanceMethod yX2_appendXor, Cond.selects RX2 yX2_appendXor yX2_appendXor, Cond.code yX2_appendXor cX2_appendXor 4 none, Cond.methodLink RX3 103 yX1_add, Cond.instanceMethod yX1_add, Cond.selects RX1 yX1_add yX1_add, Cond.code yX1_add cX1_add 2 none, Cond.methodLink RX3 104 yX1_end, Cond.instanceMethod yX1_end, Cond.selects RX1 yX1_end yX1_end]
def wsX3_fillDrawn_r6 : List Cond := [Cond.code yX1_end cX1_end 2 none, Cond.fieldLink RX1 27 "SeedMill$KeyedHasher" "innerHash" "LSeedMill$Row;"]
def wsX3_fillDrawn : List Cond := .code yX3_fillDrawn cX3_fillDrawn 3 none :: ((wsX3_fillDrawn_r1 ++ (wsX3_fillDrawn_r2 ++ (wsX3_fillDrawn_r3 ++ (wsX3_fillDrawn_r4 ++ (wsX3_fillDrawn_r5 ++ wsX3_fillDrawn_r6))))) ++ wsX30 ++ wsX20 ++ wsX10 ++ wsX00)
def wsX3_draw_r1 : List Cond := [Cond.fieldLink RX3 50 "SeedMill" "drawCounter" "I", Cond.fieldLink RX3 54 "SeedMill" "drawInterval" "I", Cond.fieldLink RX3 14 "SeedMill" "input" "LSeedMill$Row;", Cond.fieldLink RX3 57 "SeedMill" "drawsInAll" "I", Cond.methodLink RX3 76 yX3_isSeeded, Cond.instanceMethod yX3_isSeeded, Cond.selects RX3 yX3_isSeeded yX3_isSeeded, Cond.initialized RX3, Cond.code yX3_isSeeded cX3_isSeeded 1 (some .boolean), Cond.methodLink RX3 60 yX2_size, Cond.instanceMethod yX2_size, Cond.selects RX2 yX2_size yX2_size, Cond.initialized RX2, Cond.code yX2_size cX2_size 1 (some .int), Cond.fieldLink RX2 9 "SeedMill$Row" "used" "I", Cond.methodLink RX3 73 yX3_stir, Cond.instanceMethod yX3_stir, Cond.selects RX3 yX3_stir yX3_stir, Cond.code yX3_stir cX3_stir 3 none, Cond.fieldLink RX3 46 "SeedMill" "keyedHasher" "LSeedMill$KeyedHasher;", Cond.fieldLink RX3 24 "SeedMill" "key" "LSeedMill$Row;", Cond.fieldLink RX3 27 "SeedMill" "value" "LSeedMill$Row;", Cond.methodLink RX3 101 yX1_begin, Cond.instanceMethod yX1_begin]
def wsX3_draw_r2 : List Cond := [Cond.selects RX1 yX1_begin yX1_begin, Cond.initialized RX1, Cond.code yX1_begin cX1_begin 3 none, Cond.fieldLink RX1 23 "SeedMill$KeyedHasher" "blockKey" "LSeedMill$Row;", Cond.fieldLink RX1 12 "SeedMill$KeyedHasher" "hasher" "LSeedMill$Hasher;", Cond.methodLink RX1 30 yX2_empty, Cond.instanceMethod yX2_empty, Cond.selects RX2 yX2_empty yX2_empty, Cond.code yX2_empty cX2_empty 1 none, Cond.methodLink RX1 33 yX2_size, Cond.methodLink RX1 37 yX0_begin, Cond.instanceMethod yX0_begin, Cond.selects RX0 yX0_begin yX0_begin, Cond.initialized RX0, Cond.code yX0_begin cX0_begin 1 none, Cond.fieldLink RX0 14 "SeedMill$Hasher" "message" "LSeedMill$Row;", Cond.methodLink RX0 27 yX2_empty, Cond.methodLink RX1 40 yX0_add, Cond.instanceMethod yX0_add, Cond.selects RX0 yX0_add yX0_add, Cond.code yX0_add cX0_add 2 none, Cond.methodLink RX0 30 yX2_size, Cond.methodLink RX0 34 yX2_append, Cond.instanceMethod yX2_append]
def wsX3_draw_r3 : List Cond := [Cond.selects RX2 yX2_append yX2_append, Cond.code yX2_append cX2_append 5 none, Cond.methodLink RX2 25 Lib.Math.min.name, Cond.static Lib.Math.min.name, Cond.initialized "java/lang/Math", Cond.code Lib.Math.min.name Lib.Math.min.code 2 (some .int), Cond.fieldLink RX2 15 "SeedMill$Row" "bytes" "[I", Cond.methodLink RX2 31 yX2_put, Cond.instanceMethod yX2_put, Cond.selects RX2 yX2_put yX2_put, Cond.code yX2_put cX2_put 2 none, Cond.methodLink RX1 44 yX0_end, Cond.instanceMethod yX0_end, Cond.selects RX0 yX0_end yX0_end, Cond.code yX0_end cX0_end 3 none, Cond.fieldLink RX0 47 "SeedMill$Hasher" "FIRST_STATE" "[I", Cond.fieldLink RX0 24 "SeedMill$Hasher" "words" "[I", Cond.methodLink RX0 50 arraycopyName, Cond.native arraycopyName, Cond.static arraycopyName, Cond.initialized "java/lang/System", Cond.methodLink RX0 44 yX0_pad, Cond.instanceMethod yX0_pad, Cond.selects RX0 yX0_pad yX0_pad]
def wsX3_draw_r4 : List Cond := [Cond.code yX0_pad cX0_pad 4 none, Cond.methodLink RX0 41 yX2_put, Cond.methodLink RX0 65 yJ9_floorMod_7cf53, Cond.static yJ9_floorMod_7cf53, Cond.initialized RJ9, Cond.code yJ9_floorMod_7cf53 cJ9_floorMod_7cf53 3 (some .int), Cond.methodLink RX0 62 yX2_putWord, Cond.instanceMethod yX2_putWord, Cond.selects RX2 yX2_putWord yX2_putWord, Cond.code yX2_putWord cX2_putWord 3 none, Cond.methodLink RX0 56 yX0_spread, Cond.instanceMethod yX0_spread, Cond.selects RX0 yX0_spread yX0_spread, Cond.code yX0_spread cX0_spread 7 none, Cond.fieldLink RX0 20 "SeedMill$Hasher" "w" "[I", Cond.methodLink RX0 71 yX2_wordAt, Cond.instanceMethod yX2_wordAt, Cond.selects RX2 yX2_wordAt yX2_wordAt, Cond.code yX2_wordAt cX2_wordAt 2 (some .int), Cond.methodLink RX2 35 yX2_at, Cond.instanceMethod yX2_at, Cond.selects RX2 yX2_at yX2_at, Cond.code yX2_at cX2_at 2 (some .int), Cond.methodLink RX0 75 yJ6_rotateRight_7cf53]
def wsX3_draw_r5 : List Cond := [Cond.static yJ6_rotateRight_7cf53, Cond.initialized RJ6, Cond.code yJ6_rotateRight_7cf53 cJ6_rotateRight_7cf53 2 (some .int), Cond.methodLink RX0 59 yX0_mix, Cond.instanceMethod yX0_mix, Cond.selects RX0 yX0_mix yX0_mix, Cond.code yX0_mix cX0_mix 12 none, Cond.fieldLink RX0 84 "SeedMill$Hasher" "K" "[I", Cond.methodLink RX0 80 yX0_highSum, Cond.static yX0_highSum, Cond.code yX0_highSum cX0_highSum 4 (some .int), Cond.methodLink RX1 47 yX2_append, Cond.methodLink RX1 51 yX2_put, Cond.methodLink RX1 54 yX0_addXor, Cond.instanceMethod yX0_addXor, Cond.selects RX0 yX0_addXor yX0_addXor, Cond.code yX0_addXor cX0_addXor 3 none, Cond.methodLink RX0 38 yX2_appendXor, Cond.instanceMethod yX2_appendXor, Cond.selects RX2 yX2_appendXor yX2_appendXor, Cond.code yX2_appendXor cX2_appendXor 4 none, Cond.methodLink RX3 103 yX1_add, Cond.instanceMethod yX1_add, Cond.selects RX1 yX1_add yX1_add]
def wsX3_draw_r6 : List Cond := [Cond.code yX1_add cX1_add 2 none, Cond.methodLink RX3 109 yX1_addByte, Cond.instanceMethod yX1_addByte, Cond.selects RX1 yX1_addByte yX1_addByte, Cond.code yX1_addByte cX1_addByte 2 none, Cond.methodLink RX1 57 yX0_addByte, Cond.instanceMethod yX0_addByte, Cond.selects RX0 yX0_addByte yX0_addByte, Cond.code yX0_addByte cX0_addByte 2 none, Cond.methodLink RX3 104 yX1_end, Cond.instanceMethod yX1_end, Cond.selects RX1 yX1_end yX1_end, Cond.code yX1_end cX1_end 2 none, Cond.fieldLink RX1 27 "SeedMill$KeyedHasher" "innerHash" "LSeedMill$Row;", Cond.methodLink RX3 112 yX3_renewValue, Cond.instanceMethod yX3_renewValue, Cond.selects RX3 yX3_renewValue yX3_renewValue, Cond.code yX3_renewValue cX3_renewValue 1 none, Cond.fieldLink RX3 30 "SeedMill" "formerValue" "LSeedMill$Row;", Cond.methodLink RX3 67 yX2_empty, Cond.methodLink RX3 97 yX2_append, Cond.methodLink RX3 80 yX3_fillDrawn, Cond.instanceMethod yX3_fillDrawn, Cond.selects RX3 yX3_fillDrawn yX3_fillDrawn]
def wsX3_draw_r7 : List Cond := [Cond.code yX3_fillDrawn cX3_fillDrawn 3 none, Cond.fieldLink RX3 21 "SeedMill" "drawn" "LSeedMill$Row;", Cond.methodLink RX3 115 Lib.Math.min.name]
def wsX3_draw : List Cond := .code yX3_draw cX3_draw 2 (some .int) :: ((wsX3_draw_r1 ++ (wsX3_draw_r2 ++ (wsX3_draw_r3 ++ (wsX3_draw_r4 ++ (wsX3_draw_r5 ++ (wsX3_draw_r6 ++ wsX3_draw_r7)))))) ++ wsX30 ++ wsX20 ++ wsX10 ++ wsX00)
def wsX3_interval : List Cond := .code yX3_interval cX3_interval 2 (some .int) :: ([.fieldLink RX3 54 "SeedMill" "drawInterval" "I"] ++ wsX30)
def wsX3_out : List Cond := .code yX3_out cX3_out 2 (some .int) :: ([.fieldLink RX3 21 "SeedMill" "drawn" "LSeedMill$Row;", .methodLink RX3 83 yX2_at, .instanceMethod yX2_at, .selects RX2 yX2_at yX2_at, .initialized RX2, .code yX2_at cX2_at 2 (some .int), .fieldLink RX2 9 "SeedMill$Row" "used" "I", .fieldLink RX2 15 "SeedMill$Row" "bytes" "[I"] ++ wsX30 ++ wsX20)
def wsX3_counter : List Cond := .code yX3_counter cX3_counter 1 (some .int) :: ([.fieldLink RX3 50 "SeedMill" "drawCounter" "I"] ++ wsX30)
def wsX3_state : List Cond := .code yX3_state cX3_state 3 (some .int) :: ([.fieldLink RX3 24 "SeedMill" "key" "LSeedMill$Row;", .fieldLink RX3 27 "SeedMill" "value" "LSeedMill$Row;", .methodLink RX3 76 yX3_isSeeded, .instanceMethod yX3_isSeeded, .selects RX3 yX3_isSeeded yX3_isSeeded, .initialized RX3, .code yX3_isSeeded cX3_isSeeded 1 (some .boolean), .fieldLink RX3 50 "SeedMill" "drawCounter" "I", .methodLink RX3 83 yX2_at, .instanceMethod yX2_at, .selects RX2 yX2_at yX2_at, .initialized RX2, .code yX2_at cX2_at 2 (some .int), .fieldLink RX2 9 "SeedMill$Row" "used" "I", .fieldLink RX2 15 "SeedMill$Row" "bytes" "[I"] ++ wsX30 ++ wsX20)
def wsX3_forget_r1 : List Cond := [Cond.fieldLink RX3 50 "SeedMill" "drawCounter" "I", Cond.fieldLink RX3 24 "SeedMill" "key" "LSeedMill$Row;", Cond.fieldLink RX3 27 "SeedMill" "value" "LSeedMill$Row;", Cond.fieldLink RX3 30 "SeedMill" "formerValue" "LSeedMill$Row;", Cond.fieldLink RX3 21 "SeedMill" "drawn" "LSeedMill$Row;", Cond.methodLink RX3 76 yX3_isSeeded, Cond.instanceMethod yX3_isSeeded, Cond.selects RX3 yX3_isSeeded yX3_isSeeded, Cond.initialized RX3, Cond.code yX3_isSeeded cX3_isSeeded 1 (some .boolean), Cond.methodLink RX3 70 yX2_fill, Cond.instanceMethod yX2_fill, Cond.selects RX2 yX2_fill yX2_fill, Cond.initialized RX2, Cond.code yX2_fill cX2_fill 2 none, Cond.fieldLink RX2 15 "SeedMill$Row" "bytes" "[I", Cond.fieldLink RX2 9 "SeedMill$Row" "used" "I", Cond.methodLink RX2 19 yJ7_fill_53178, Cond.static yJ7_fill_53178, Cond.initialized RJ7, Cond.code yJ7_fill_53178 cJ7_fill_53178 4 none, Cond.methodLink RX3 67 yX2_empty, Cond.instanceMethod yX2_empty, Cond.selects RX2 yX2_empty yX2_empty]
def wsX3_forget_r2 : List Cond := [Cond.code yX2_empty cX2_empty 1 none]
def wsX3_forget : List Cond := .code yX3_forget cX3_forget 1 (some .int) :: ((wsX3_forget_r1 ++ wsX3_forget_r2) ++ wsX30 ++ wsX20)
def wsX3_hash_r1 : List Cond := [Cond.fieldLink RX3 39 "SeedMill" "hasher" "LSeedMill$Hasher;", Cond.fieldLink RX3 14 "SeedMill" "input" "LSeedMill$Row;", Cond.fieldLink RX3 33 "SeedMill" "answer" "LSeedMill$Row;", Cond.methodLink RX3 87 yX0_begin, Cond.instanceMethod yX0_begin, Cond.selects RX0 yX0_begin yX0_begin, Cond.initialized RX0, Cond.code yX0_begin cX0_begin 1 none, Cond.fieldLink RX0 14 "SeedMill$Hasher" "message" "LSeedMill$Row;", Cond.methodLink RX0 27 yX2_empty, Cond.instanceMethod yX2_empty, Cond.selects RX2 yX2_empty yX2_empty, Cond.initialized RX2, Cond.code yX2_empty cX2_empty 1 none, Cond.fieldLink RX2 9 "SeedMill$Row" "used" "I", Cond.methodLink RX3 90 yX0_add, Cond.instanceMethod yX0_add, Cond.selects RX0 yX0_add yX0_add, Cond.code yX0_add cX0_add 2 none, Cond.methodLink RX0 30 yX2_size, Cond.instanceMethod yX2_size, Cond.selects RX2 yX2_size yX2_size, Cond.code yX2_size cX2_size 1 (some .int), Cond.methodLink RX0 34 yX2_append]
def wsX3_hash_r2 : List Cond := [Cond.instanceMethod yX2_append, Cond.selects RX2 yX2_append yX2_append, Cond.code yX2_append cX2_append 5 none, Cond.methodLink RX2 25 Lib.Math.min.name, Cond.static Lib.Math.min.name, Cond.initialized "java/lang/Math", Cond.code Lib.Math.min.name Lib.Math.min.code 2 (some .int), Cond.fieldLink RX2 15 "SeedMill$Row" "bytes" "[I", Cond.methodLink RX2 31 yX2_put, Cond.instanceMethod yX2_put, Cond.selects RX2 yX2_put yX2_put, Cond.code yX2_put cX2_put 2 none, Cond.methodLink RX3 94 yX0_end, Cond.instanceMethod yX0_end, Cond.selects RX0 yX0_end yX0_end, Cond.code yX0_end cX0_end 3 none, Cond.fieldLink RX0 47 "SeedMill$Hasher" "FIRST_STATE" "[I", Cond.fieldLink RX0 24 "SeedMill$Hasher" "words" "[I", Cond.methodLink RX0 50 arraycopyName, Cond.native arraycopyName, Cond.static arraycopyName, Cond.initialized "java/lang/System", Cond.methodLink RX0 44 yX0_pad, Cond.instanceMethod yX0_pad]
def wsX3_hash_r3 : List Cond := [Cond.selects RX0 yX0_pad yX0_pad, Cond.code yX0_pad cX0_pad 4 none, Cond.methodLink RX0 41 yX2_put, Cond.methodLink RX0 65 yJ9_floorMod_7cf53, Cond.static yJ9_floorMod_7cf53, Cond.initialized RJ9, Cond.code yJ9_floorMod_7cf53 cJ9_floorMod_7cf53 3 (some .int), Cond.methodLink RX0 62 yX2_putWord, Cond.instanceMethod yX2_putWord, Cond.selects RX2 yX2_putWord yX2_putWord, Cond.code yX2_putWord cX2_putWord 3 none, Cond.methodLink RX0 56 yX0_spread, Cond.instanceMethod yX0_spread, Cond.selects RX0 yX0_spread yX0_spread, Cond.code yX0_spread cX0_spread 7 none, Cond.fieldLink RX0 20 "SeedMill$Hasher" "w" "[I", Cond.methodLink RX0 71 yX2_wordAt, Cond.instanceMethod yX2_wordAt, Cond.selects RX2 yX2_wordAt yX2_wordAt, Cond.code yX2_wordAt cX2_wordAt 2 (some .int), Cond.methodLink RX2 35 yX2_at, Cond.instanceMethod yX2_at, Cond.selects RX2 yX2_at yX2_at, Cond.code yX2_at cX2_at 2 (some .int)]
def wsX3_hash_r4 : List Cond := [Cond.methodLink RX0 75 yJ6_rotateRight_7cf53, Cond.static yJ6_rotateRight_7cf53, Cond.initialized RJ6, Cond.code yJ6_rotateRight_7cf53 cJ6_rotateRight_7cf53 2 (some .int), Cond.methodLink RX0 59 yX0_mix, Cond.instanceMethod yX0_mix, Cond.selects RX0 yX0_mix yX0_mix, Cond.code yX0_mix cX0_mix 12 none, Cond.fieldLink RX0 84 "SeedMill$Hasher" "K" "[I", Cond.methodLink RX0 80 yX0_highSum, Cond.static yX0_highSum, Cond.code yX0_highSum cX0_highSum 4 (some .int), Cond.methodLink RX3 83 yX2_at]
def wsX3_hash : List Cond := .code yX3_hash cX3_hash 2 (some .int) :: ((wsX3_hash_r1 ++ (wsX3_hash_r2 ++ (wsX3_hash_r3 ++ wsX3_hash_r4))) ++ wsX30 ++ wsX00 ++ wsX20)
def wsX3_own_r1 : List Cond := [Cond.fieldLink RX3 18 "SeedMill" "ownKey" "LSeedMill$Row;", Cond.fieldLink RX3 14 "SeedMill" "input" "LSeedMill$Row;", Cond.methodLink RX3 67 yX2_empty, Cond.instanceMethod yX2_empty, Cond.selects RX2 yX2_empty yX2_empty, Cond.initialized RX2, Cond.code yX2_empty cX2_empty 1 none, Cond.fieldLink RX2 9 "SeedMill$Row" "used" "I", Cond.methodLink RX3 60 yX2_size, Cond.instanceMethod yX2_size, Cond.selects RX2 yX2_size yX2_size, Cond.code yX2_size cX2_size 1 (some .int), Cond.methodLink RX3 97 yX2_append, Cond.instanceMethod yX2_append, Cond.selects RX2 yX2_append yX2_append, Cond.code yX2_append cX2_append 5 none, Cond.methodLink RX2 25 Lib.Math.min.name, Cond.static Lib.Math.min.name, Cond.initialized "java/lang/Math", Cond.code Lib.Math.min.name Lib.Math.min.code 2 (some .int), Cond.fieldLink RX2 15 "SeedMill$Row" "bytes" "[I", Cond.methodLink RX2 31 yX2_put, Cond.instanceMethod yX2_put, Cond.selects RX2 yX2_put yX2_put]
def wsX3_own_r2 : List Cond := [Cond.code yX2_put cX2_put 2 none]
def wsX3_own : List Cond := .code yX3_own cX3_own 1 (some .int) :: ((wsX3_own_r1 ++ wsX3_own_r2) ++ wsX30 ++ wsX20)
def wsX3_keyed_r1 : List Cond := [Cond.fieldLink RX3 46 "SeedMill" "keyedHasher" "LSeedMill$KeyedHasher;", Cond.fieldLink RX3 18 "SeedMill" "ownKey" "LSeedMill$Row;", Cond.fieldLink RX3 14 "SeedMill" "input" "LSeedMill$Row;", Cond.fieldLink RX3 33 "SeedMill" "answer" "LSeedMill$Row;", Cond.methodLink RX3 101 yX1_begin, Cond.instanceMethod yX1_begin, Cond.selects RX1 yX1_begin yX1_begin, Cond.initialized RX1, Cond.code yX1_begin cX1_begin 3 none, Cond.fieldLink RX1 23 "SeedMill$KeyedHasher" "blockKey" "LSeedMill$Row;", Cond.fieldLink RX1 12 "SeedMill$KeyedHasher" "hasher" "LSeedMill$Hasher;", Cond.methodLink RX1 30 yX2_empty, Cond.instanceMethod yX2_empty, Cond.selects RX2 yX2_empty yX2_empty, Cond.initialized RX2, Cond.code yX2_empty cX2_empty 1 none, Cond.fieldLink RX2 9 "SeedMill$Row" "used" "I", Cond.methodLink RX1 33 yX2_size, Cond.instanceMethod yX2_size, Cond.selects RX2 yX2_size yX2_size, Cond.code yX2_size cX2_size 1 (some .int), Cond.methodLink RX1 37 yX0_begin, Cond.instanceMethod yX0_begin, Cond.selects RX0 yX0_begin yX0_begin]
def wsX3_keyed_r2 : List Cond := [Cond.initialized RX0, Cond.code yX0_begin cX0_begin 1 none, Cond.fieldLink RX0 14 "SeedMill$Hasher" "message" "LSeedMill$Row;", Cond.methodLink RX0 27 yX2_empty, Cond.methodLink RX1 40 yX0_add, Cond.instanceMethod yX0_add, Cond.selects RX0 yX0_add yX0_add, Cond.code yX0_add cX0_add 2 none, Cond.methodLink RX0 30 yX2_size, Cond.methodLink RX0 34 yX2_append, Cond.instanceMethod yX2_append, Cond.selects RX2 yX2_append yX2_append, Cond.code yX2_append cX2_append 5 none, Cond.methodLink RX2 25 Lib.Math.min.name, Cond.static Lib.Math.min.name, Cond.initialized "java/lang/Math", Cond.code Lib.Math.min.name Lib.Math.min.code 2 (some .int), Cond.fieldLink RX2 15 "SeedMill$Row" "bytes" "[I", Cond.methodLink RX2 31 yX2_put, Cond.instanceMethod yX2_put, Cond.selects RX2 yX2_put yX2_put, Cond.code yX2_put cX2_put 2 none, Cond.methodLink RX1 44 yX0_end, Cond.instanceMethod yX0_end]
def wsX3_keyed_r3 : List Cond := [Cond.selects RX0 yX0_end yX0_end, Cond.code yX0_end cX0_end 3 none, Cond.fieldLink RX0 47 "SeedMill$Hasher" "FIRST_STATE" "[I", Cond.fieldLink RX0 24 "SeedMill$Hasher" "words" "[I", Cond.methodLink RX0 50 arraycopyName, Cond.native arraycopyName, Cond.static arraycopyName, Cond.initialized "java/lang/System", Cond.methodLink RX0 44 yX0_pad, Cond.instanceMethod yX0_pad, Cond.selects RX0 yX0_pad yX0_pad, Cond.code yX0_pad cX0_pad 4 none, Cond.methodLink RX0 41 yX2_put, Cond.methodLink RX0 65 yJ9_floorMod_7cf53, Cond.static yJ9_floorMod_7cf53, Cond.initialized RJ9, Cond.code yJ9_floorMod_7cf53 cJ9_floorMod_7cf53 3 (some .int), Cond.methodLink RX0 62 yX2_putWord, Cond.instanceMethod yX2_putWord, Cond.selects RX2 yX2_putWord yX2_putWord, Cond.code yX2_putWord cX2_putWord 3 none, Cond.methodLink RX0 56 yX0_spread, Cond.instanceMethod yX0_spread, Cond.selects RX0 yX0_spread yX0_spread]
def wsX3_keyed_r4 : List Cond := [Cond.code yX0_spread cX0_spread 7 none, Cond.fieldLink RX0 20 "SeedMill$Hasher" "w" "[I", Cond.methodLink RX0 71 yX2_wordAt, Cond.instanceMethod yX2_wordAt, Cond.selects RX2 yX2_wordAt yX2_wordAt, Cond.code yX2_wordAt cX2_wordAt 2 (some .int), Cond.methodLink RX2 35 yX2_at, Cond.instanceMethod yX2_at, Cond.selects RX2 yX2_at yX2_at, Cond.code yX2_at cX2_at 2 (some .int), Cond.methodLink RX0 75 yJ6_rotateRight_7cf53, Cond.static yJ6_rotateRight_7cf53, Cond.initialized RJ6, Cond.code yJ6_rotateRight_7cf53 cJ6_rotateRight_7cf53 2 (some .int), Cond.methodLink RX0 59 yX0_mix, Cond.instanceMethod yX0_mix, Cond.selects RX0 yX0_mix yX0_mix, Cond.code yX0_mix cX0_mix 12 none, Cond.fieldLink RX0 84 "SeedMill$Hasher" "K" "[I", Cond.methodLink RX0 80 yX0_highSum, Cond.static yX0_highSum, Cond.code yX0_highSum cX0_highSum 4 (some .int), Cond.methodLink RX1 47 yX2_append, Cond.methodLink RX1 51 yX2_put]
def wsX3_keyed_r5 : List Cond := [Cond.methodLink RX1 54 yX0_addXor, Cond.instanceMethod yX0_addXor, Cond.selects RX0 yX0_addXor yX0_addXor, Cond.code yX0_addXor cX0_addXor 3 none, Cond.methodLink RX0 38 yX2_appendXor, Cond.instanceMethod yX2_appendXor, Cond.selects RX2 yX2_appendXor yX2_appendXor, Cond.code yX2_appendXor cX2_appendXor 4 none, Cond.methodLink RX3 103 yX1_add, Cond.instanceMethod yX1_add, Cond.selects RX1 yX1_add yX1_add, Cond.code yX1_add cX1_add 2 none, Cond.methodLink RX3 104 yX1_end, Cond.instanceMethod yX1_end, Cond.selects RX1 yX1_end yX1_end, Cond.code yX1_end cX1_end 2 none, Cond.fieldLink RX1 27 "SeedMill$KeyedHasher" "innerHash" "LSeedMill$Row;", Cond.methodLink RX3 83 yX2_at]
def wsX3_keyed : List Cond := .code yX3_keyed cX3_keyed 2 (some .int) :: ((wsX3_keyed_r1 ++ (wsX3_keyed_r2 ++ (wsX3_keyed_r3 ++ (wsX3_keyed_r4 ++ wsX3_keyed_r5)))) ++ wsX30 ++ wsX10 ++ wsX20 ++ wsX00)
def wsX3_count : List Cond := .code yX3_count cX3_count 2 (some .int) :: ([.fieldLink RX3 14 "SeedMill" "input" "LSeedMill$Row;", .fieldLink RX3 21 "SeedMill" "drawn" "LSeedMill$Row;", .fieldLink RX3 18 "SeedMill" "ownKey" "LSeedMill$Row;", .fieldLink RX3 57 "SeedMill" "drawsInAll" "I", .fieldLink RX3 54 "SeedMill" "drawInterval" "I", .methodLink RX3 60 yX2_size, .instanceMethod yX2_size, .selects RX2 yX2_size yX2_size, .initialized RX2, .code yX2_size cX2_size 1 (some .int), .fieldLink RX2 9 "SeedMill$Row" "used" "I"] ++ wsX30 ++ wsX20)
def wsX3_check_r1 : List Cond := [Cond.fieldLink RX3 46 "SeedMill" "keyedHasher" "LSeedMill$KeyedHasher;", Cond.fieldLink RX3 24 "SeedMill" "key" "LSeedMill$Row;", Cond.fieldLink RX3 30 "SeedMill" "formerValue" "LSeedMill$Row;", Cond.fieldLink RX3 33 "SeedMill" "answer" "LSeedMill$Row;", Cond.fieldLink RX3 27 "SeedMill" "value" "LSeedMill$Row;", Cond.methodLink RX3 76 yX3_isSeeded, Cond.instanceMethod yX3_isSeeded, Cond.selects RX3 yX3_isSeeded yX3_isSeeded, Cond.initialized RX3, Cond.code yX3_isSeeded cX3_isSeeded 1 (some .boolean), Cond.fieldLink RX3 50 "SeedMill" "drawCounter" "I", Cond.methodLink RX3 101 yX1_begin, Cond.instanceMethod yX1_begin, Cond.selects RX1 yX1_begin yX1_begin, Cond.initialized RX1, Cond.code yX1_begin cX1_begin 3 none, Cond.fieldLink RX1 23 "SeedMill$KeyedHasher" "blockKey" "LSeedMill$Row;", Cond.fieldLink RX1 12 "SeedMill$KeyedHasher" "hasher" "LSeedMill$Hasher;", Cond.methodLink RX1 30 yX2_empty, Cond.instanceMethod yX2_empty, Cond.selects RX2 yX2_empty yX2_empty, Cond.initialized RX2, Cond.code yX2_empty cX2_empty 1 none, Cond.fieldLink RX2 9 "SeedMill$Row" "used" "I"]
def wsX3_check_r2 : List Cond := [Cond.methodLink RX1 33 yX2_size, Cond.instanceMethod yX2_size, Cond.selects RX2 yX2_size yX2_size, Cond.code yX2_size cX2_size 1 (some .int), Cond.methodLink RX1 37 yX0_begin, Cond.instanceMethod yX0_begin, Cond.selects RX0 yX0_begin yX0_begin, Cond.initialized RX0, Cond.code yX0_begin cX0_begin 1 none, Cond.fieldLink RX0 14 "SeedMill$Hasher" "message" "LSeedMill$Row;", Cond.methodLink RX0 27 yX2_empty, Cond.methodLink RX1 40 yX0_add, Cond.instanceMethod yX0_add, Cond.selects RX0 yX0_add yX0_add, Cond.code yX0_add cX0_add 2 none, Cond.methodLink RX0 30 yX2_size, Cond.methodLink RX0 34 yX2_append, Cond.instanceMethod yX2_append, Cond.selects RX2 yX2_append yX2_append, Cond.code yX2_append cX2_append 5 none, Cond.methodLink RX2 25 Lib.Math.min.name, Cond.static Lib.Math.min.name, Cond.initialized "java/lang/Math", Cond.code Lib.Math.min.name Lib.Math.min.code 2 (some .int)]
def wsX3_check_r3 : List Cond := [Cond.fieldLink RX2 15 "SeedMill$Row" "bytes" "[I", Cond.methodLink RX2 31 yX2_put, Cond.instanceMethod yX2_put, Cond.selects RX2 yX2_put yX2_put, Cond.code yX2_put cX2_put 2 none, Cond.methodLink RX1 44 yX0_end, Cond.instanceMethod yX0_end, Cond.selects RX0 yX0_end yX0_end, Cond.code yX0_end cX0_end 3 none, Cond.fieldLink RX0 47 "SeedMill$Hasher" "FIRST_STATE" "[I", Cond.fieldLink RX0 24 "SeedMill$Hasher" "words" "[I", Cond.methodLink RX0 50 arraycopyName, Cond.native arraycopyName, Cond.static arraycopyName, Cond.initialized "java/lang/System", Cond.methodLink RX0 44 yX0_pad, Cond.instanceMethod yX0_pad, Cond.selects RX0 yX0_pad yX0_pad, Cond.code yX0_pad cX0_pad 4 none, Cond.methodLink RX0 41 yX2_put, Cond.methodLink RX0 65 yJ9_floorMod_7cf53, Cond.static yJ9_floorMod_7cf53, Cond.initialized RJ9, Cond.code yJ9_floorMod_7cf53 cJ9_floorMod_7cf53 3 (some .int)]
def wsX3_check_r4 : List Cond := [Cond.methodLink RX0 62 yX2_putWord, Cond.instanceMethod yX2_putWord, Cond.selects RX2 yX2_putWord yX2_putWord, Cond.code yX2_putWord cX2_putWord 3 none, Cond.methodLink RX0 56 yX0_spread, Cond.instanceMethod yX0_spread, Cond.selects RX0 yX0_spread yX0_spread, Cond.code yX0_spread cX0_spread 7 none, Cond.fieldLink RX0 20 "SeedMill$Hasher" "w" "[I", Cond.methodLink RX0 71 yX2_wordAt, Cond.instanceMethod yX2_wordAt, Cond.selects RX2 yX2_wordAt yX2_wordAt, Cond.code yX2_wordAt cX2_wordAt 2 (some .int), Cond.methodLink RX2 35 yX2_at, Cond.instanceMethod yX2_at, Cond.selects RX2 yX2_at yX2_at, Cond.code yX2_at cX2_at 2 (some .int), Cond.methodLink RX0 75 yJ6_rotateRight_7cf53, Cond.static yJ6_rotateRight_7cf53, Cond.initialized RJ6, Cond.code yJ6_rotateRight_7cf53 cJ6_rotateRight_7cf53 2 (some .int), Cond.methodLink RX0 59 yX0_mix, Cond.instanceMethod yX0_mix, Cond.selects RX0 yX0_mix yX0_mix]
def wsX3_check_r5 : List Cond := [Cond.code yX0_mix cX0_mix 12 none, Cond.fieldLink RX0 84 "SeedMill$Hasher" "K" "[I", Cond.methodLink RX0 80 yX0_highSum, Cond.static yX0_highSum, Cond.code yX0_highSum cX0_highSum 4 (some .int), Cond.methodLink RX1 47 yX2_append, Cond.methodLink RX1 51 yX2_put, Cond.methodLink RX1 54 yX0_addXor, Cond.instanceMethod yX0_addXor, Cond.selects RX0 yX0_addXor yX0_addXor, Cond.code yX0_addXor cX0_addXor 3 none, Cond.methodLink RX0 38 yX2_appendXor, Cond.instanceMethod yX2_appendXor, Cond.selects RX2 yX2_appendXor yX2_appendXor, Cond.code yX2_appendXor cX2_appendXor 4 none, Cond.methodLink RX3 103 yX1_add, Cond.instanceMethod yX1_add, Cond.selects RX1 yX1_add yX1_add, Cond.code yX1_add cX1_add 2 none, Cond.methodLink RX3 104 yX1_end, Cond.instanceMethod yX1_end, Cond.selects RX1 yX1_end yX1_end, Cond.code yX1_end cX1_end 2 none, Cond.fieldLink RX1 27 "SeedMill$KeyedHasher" "innerHash" "LSeedMill$Row;"]
def wsX3_check_r6 : List Cond := [Cond.methodLink RX3 105 yX2_sameAs, Cond.instanceMethod yX2_sameAs, Cond.selects RX2 yX2_sameAs yX2_sameAs, Cond.code yX2_sameAs cX2_sameAs 3 (some .boolean)]
def wsX3_check : List Cond := .code yX3_check cX3_check 1 (some .int) :: ((wsX3_check_r1 ++ (wsX3_check_r2 ++ (wsX3_check_r3 ++ (wsX3_check_r4 ++ (wsX3_check_r5 ++ wsX3_check_r6))))) ++ wsX30 ++ wsX10 ++ wsX20 ++ wsX00)
def wsX4_init_r1 : List Cond := [Cond.methodLink RX4 1 objectInit, Cond.instanceMethod objectInit, Cond.code objectInit ⟨#[0xb1]⟩ 1 none, Cond.arrayClass .int, Cond.constant RX4 7 (1116352408), Cond.constant RX4 8 (1899447441), Cond.constant RX4 9 (-1245643825), Cond.constant RX4 10 (-373957723), Cond.constant RX4 11 (961987163), Cond.constant RX4 12 (1508970993), Cond.constant RX4 13 (-1841331548), Cond.constant RX4 14 (-1424204075), Cond.constant RX4 15 (-670586216), Cond.constant RX4 16 (310598401), Cond.constant RX4 17 (607225278), Cond.constant RX4 18 (1426881987), Cond.constant RX4 19 (1925078388), Cond.constant RX4 20 (-2132889090), Cond.constant RX4 21 (-1680079193), Cond.constant RX4 22 (-1046744716), Cond.constant RX4 23 (-459576895), Cond.constant RX4 24 (-272742522), Cond.constant RX4 25 (264347078), Cond.constant RX4 26 (604807628)]
def wsX4_init_r2 : List Cond := [Cond.constant RX4 27 (770255983), Cond.constant RX4 28 (1249150122), Cond.constant RX4 29 (1555081692), Cond.constant RX4 30 (1996064986), Cond.constant RX4 31 (-1740746414), Cond.constant RX4 32 (-1473132947), Cond.constant RX4 33 (-1341970488), Cond.constant RX4 34 (-1084653625), Cond.constant RX4 35 (-958395405), Cond.constant RX4 36 (-710438585), Cond.constant RX4 37 (113926993), Cond.constant RX4 38 (338241895), Cond.constant RX4 39 (666307205), Cond.constant RX4 40 (773529912), Cond.constant RX4 41 (1294757372), Cond.constant RX4 42 (1396182291), Cond.constant RX4 43 (1695183700), Cond.constant RX4 44 (1986661051), Cond.constant RX4 45 (-2117940946), Cond.constant RX4 46 (-1838011259), Cond.constant RX4 47 (-1564481375), Cond.constant RX4 48 (-1474664885), Cond.constant RX4 49 (-1035236496), Cond.constant RX4 50 (-949202525)]
def wsX4_init_r3 : List Cond := [Cond.constant RX4 51 (-778901479), Cond.constant RX4 52 (-694614492), Cond.constant RX4 53 (-200395387), Cond.constant RX4 54 (275423344), Cond.constant RX4 55 (430227734), Cond.constant RX4 56 (506948616), Cond.constant RX4 57 (659060556), Cond.constant RX4 58 (883997877), Cond.constant RX4 59 (958139571), Cond.constant RX4 60 (1322822218), Cond.constant RX4 61 (1537002063), Cond.constant RX4 62 (1747873779), Cond.constant RX4 63 (1955562222), Cond.constant RX4 64 (2024104815), Cond.constant RX4 65 (-2067236844), Cond.constant RX4 66 (-1933114872), Cond.constant RX4 67 (-1866530822), Cond.constant RX4 68 (-1538233109), Cond.constant RX4 69 (-1090935817), Cond.constant RX4 70 (-965641998), Cond.fieldLink RX4 71 "SeedMillModel" "roots" "[I", Cond.constant RX4 77 (1779033703), Cond.constant RX4 78 (-1150833019), Cond.constant RX4 79 (1013904242)]
def wsX4_init_r4 : List Cond := [Cond.constant RX4 80 (-1521486534), Cond.constant RX4 81 (1359893119), Cond.constant RX4 82 (-1694144372), Cond.constant RX4 83 (528734635), Cond.constant RX4 84 (1541459225), Cond.fieldLink RX4 85 "SeedMillModel" "first" "[I", Cond.fieldLink RX4 88 "SeedMillModel" "sum" "[I", Cond.fieldLink RX4 91 "SeedMillModel" "word" "[I", Cond.fieldLink RX4 94 "SeedMillModel" "row" "[I", Cond.fieldLink RX4 97 "SeedMillModel" "digest" "[I", Cond.fieldLink RX4 100 "SeedMillModel" "padded" "[I", Cond.fieldLink RX4 103 "SeedMillModel" "input" "[I", Cond.fieldLink RX4 106 "SeedMillModel" "ownKey" "[I", Cond.fieldLink RX4 109 "SeedMillModel" "key" "[I", Cond.fieldLink RX4 112 "SeedMillModel" "value" "[I", Cond.fieldLink RX4 115 "SeedMillModel" "left" "[I", Cond.fieldLink RX4 118 "SeedMillModel" "interval" "I", Cond.fieldLink RX4 122 "SeedMillModel" "drawn" "[I"]
def wsX4_init : List Cond := .code yX4_init cX4_init 1 none :: ((wsX4_init_r1 ++ (wsX4_init_r2 ++ (wsX4_init_r3 ++ wsX4_init_r4))) ++ wsX40)
def wsX4_round : List Cond := .code yX4_round cX4_round 2 (some .int) :: ([])
def wsX4_hashBlock : List Cond := .code yX4_hashBlock cX4_hashBlock 13 none :: ([.fieldLink RX4 91 "SeedMillModel" "word" "[I", .fieldLink RX4 94 "SeedMillModel" "row" "[I", .fieldLink RX4 88 "SeedMillModel" "sum" "[I", .fieldLink RX4 71 "SeedMillModel" "roots" "[I", .methodLink RX4 128 yX4_round, .static yX4_round, .initialized RX4, .code yX4_round cX4_round 2 (some .int)] ++ wsX40)
def wsX4_put : List Cond := .code yX4_put cX4_put 2 none :: ([.fieldLink RX4 94 "SeedMillModel" "row" "[I", .fieldLink RX4 132 "SeedMillModel" "rowSize" "I"] ++ wsX40)
def wsX4_hashRow : List Cond := .code yX4_hashRow cX4_hashRow 3 none :: ([.fieldLink RX4 132 "SeedMillModel" "rowSize" "I", .fieldLink RX4 88 "SeedMillModel" "sum" "[I", .fieldLink RX4 85 "SeedMillModel" "first" "[I", .fieldLink RX4 97 "SeedMillModel" "digest" "[I", .methodLink RX4 135 yX4_put, .instanceMethod yX4_put, .selects RX4 yX4_put yX4_put, .initialized RX4, .code yX4_put cX4_put 2 none, .fieldLink RX4 94 "SeedMillModel" "row" "[I", .methodLink RX4 139 yX4_hashBlock, .instanceMethod yX4_hashBlock, .selects RX4 yX4_hashBlock yX4_hashBlock, .code yX4_hashBlock cX4_hashBlock 13 none, .fieldLink RX4 91 "SeedMillModel" "word" "[I", .fieldLink RX4 71 "SeedMillModel" "roots" "[I", .methodLink RX4 128 yX4_round, .static yX4_round, .code yX4_round cX4_round 2 (some .int)] ++ wsX40)
def wsX4_putPad : List Cond := .code yX4_putPad cX4_putPad 3 none :: ([.fieldLink RX4 100 "SeedMillModel" "padded" "[I", .methodLink RX4 135 yX4_put, .instanceMethod yX4_put, .selects RX4 yX4_put yX4_put, .initialized RX4, .code yX4_put cX4_put 2 none, .fieldLink RX4 94 "SeedMillModel" "row" "[I", .fieldLink RX4 132 "SeedMillModel" "rowSize" "I"] ++ wsX40)
def wsX4_finishKeyed_r1 : List Cond := [Cond.fieldLink RX4 97 "SeedMillModel" "digest" "[I", Cond.methodLink RX4 142 yX4_hashRow, Cond.instanceMethod yX4_hashRow, Cond.selects RX4 yX4_hashRow yX4_hashRow, Cond.initialized RX4, Cond.code yX4_hashRow cX4_hashRow 3 none, Cond.fieldLink RX4 132 "SeedMillModel" "rowSize" "I", Cond.fieldLink RX4 88 "SeedMillModel" "sum" "[I", Cond.fieldLink RX4 85 "SeedMillModel" "first" "[I", Cond.methodLink RX4 135 yX4_put, Cond.instanceMethod yX4_put, Cond.selects RX4 yX4_put yX4_put, Cond.code yX4_put cX4_put 2 none, Cond.fieldLink RX4 94 "SeedMillModel" "row" "[I", Cond.methodLink RX4 139 yX4_hashBlock, Cond.instanceMethod yX4_hashBlock, Cond.selects RX4 yX4_hashBlock yX4_hashBlock, Cond.code yX4_hashBlock cX4_hashBlock 13 none, Cond.fieldLink RX4 91 "SeedMillModel" "word" "[I", Cond.fieldLink RX4 71 "SeedMillModel" "roots" "[I", Cond.methodLink RX4 128 yX4_round, Cond.static yX4_round, Cond.code yX4_round cX4_round 2 (some .int), Cond.methodLink RX4 145 yX4_putPad]
def wsX4_finishKeyed_r2 : List Cond := [Cond.instanceMethod yX4_putPad, Cond.selects RX4 yX4_putPad yX4_putPad, Cond.code yX4_putPad cX4_putPad 3 none, Cond.fieldLink RX4 100 "SeedMillModel" "padded" "[I"]
def wsX4_finishKeyed : List Cond := .code yX4_finishKeyed cX4_finishKeyed 2 none :: ((wsX4_finishKeyed_r1 ++ wsX4_finishKeyed_r2) ++ wsX40)
def wsX4_beginKeyed : List Cond := .code yX4_beginKeyed cX4_beginKeyed 2 none :: ([.fieldLink RX4 100 "SeedMillModel" "padded" "[I", .fieldLink RX4 109 "SeedMillModel" "key" "[I", .fieldLink RX4 112 "SeedMillModel" "value" "[I", .methodLink RX4 145 yX4_putPad, .instanceMethod yX4_putPad, .selects RX4 yX4_putPad yX4_putPad, .initialized RX4, .code yX4_putPad cX4_putPad 3 none, .methodLink RX4 135 yX4_put, .instanceMethod yX4_put, .selects RX4 yX4_put yX4_put, .code yX4_put cX4_put 2 none, .fieldLink RX4 94 "SeedMillModel" "row" "[I", .fieldLink RX4 132 "SeedMillModel" "rowSize" "I"] ++ wsX40)
def wsX4_nextValue_r1 : List Cond := [Cond.fieldLink RX4 112 "SeedMillModel" "value" "[I", Cond.fieldLink RX4 97 "SeedMillModel" "digest" "[I", Cond.methodLink RX4 148 yX4_beginKeyed, Cond.instanceMethod yX4_beginKeyed, Cond.selects RX4 yX4_beginKeyed yX4_beginKeyed, Cond.initialized RX4, Cond.code yX4_beginKeyed cX4_beginKeyed 2 none, Cond.fieldLink RX4 100 "SeedMillModel" "padded" "[I", Cond.fieldLink RX4 109 "SeedMillModel" "key" "[I", Cond.methodLink RX4 145 yX4_putPad, Cond.instanceMethod yX4_putPad, Cond.selects RX4 yX4_putPad yX4_putPad, Cond.code yX4_putPad cX4_putPad 3 none, Cond.methodLink RX4 135 yX4_put, Cond.instanceMethod yX4_put, Cond.selects RX4 yX4_put yX4_put, Cond.code yX4_put cX4_put 2 none, Cond.fieldLink RX4 94 "SeedMillModel" "row" "[I", Cond.fieldLink RX4 132 "SeedMillModel" "rowSize" "I", Cond.methodLink RX4 151 yX4_finishKeyed, Cond.instanceMethod yX4_finishKeyed, Cond.selects RX4 yX4_finishKeyed yX4_finishKeyed, Cond.code yX4_finishKeyed cX4_finishKeyed 2 none, Cond.methodLink RX4 142 yX4_hashRow]
def wsX4_nextValue_r2 : List Cond := [Cond.instanceMethod yX4_hashRow, Cond.selects RX4 yX4_hashRow yX4_hashRow, Cond.code yX4_hashRow cX4_hashRow 3 none, Cond.fieldLink RX4 88 "SeedMillModel" "sum" "[I", Cond.fieldLink RX4 85 "SeedMillModel" "first" "[I", Cond.methodLink RX4 139 yX4_hashBlock, Cond.instanceMethod yX4_hashBlock, Cond.selects RX4 yX4_hashBlock yX4_hashBlock, Cond.code yX4_hashBlock cX4_hashBlock 13 none, Cond.fieldLink RX4 91 "SeedMillModel" "word" "[I", Cond.fieldLink RX4 71 "SeedMillModel" "roots" "[I", Cond.methodLink RX4 128 yX4_round, Cond.static yX4_round, Cond.code yX4_round cX4_round 2 (some .int)]
def wsX4_nextValue : List Cond := .code yX4_nextValue cX4_nextValue 2 none :: ((wsX4_nextValue_r1 ++ wsX4_nextValue_r2) ++ wsX40)
def wsX4_stir_r1 : List Cond := [Cond.fieldLink RX4 154 "SeedMillModel" "inputSize" "I", Cond.fieldLink RX4 103 "SeedMillModel" "input" "[I", Cond.fieldLink RX4 109 "SeedMillModel" "key" "[I", Cond.fieldLink RX4 97 "SeedMillModel" "digest" "[I", Cond.fieldLink RX4 115 "SeedMillModel" "left" "[I", Cond.fieldLink RX4 112 "SeedMillModel" "value" "[I", Cond.methodLink RX4 148 yX4_beginKeyed, Cond.instanceMethod yX4_beginKeyed, Cond.selects RX4 yX4_beginKeyed yX4_beginKeyed, Cond.initialized RX4, Cond.code yX4_beginKeyed cX4_beginKeyed 2 none, Cond.fieldLink RX4 100 "SeedMillModel" "padded" "[I", Cond.methodLink RX4 145 yX4_putPad, Cond.instanceMethod yX4_putPad, Cond.selects RX4 yX4_putPad yX4_putPad, Cond.code yX4_putPad cX4_putPad 3 none, Cond.methodLink RX4 135 yX4_put, Cond.instanceMethod yX4_put, Cond.selects RX4 yX4_put yX4_put, Cond.code yX4_put cX4_put 2 none, Cond.fieldLink RX4 94 "SeedMillModel" "row" "[I", Cond.fieldLink RX4 132 "SeedMillModel" "rowSize" "I", Cond.methodLink RX4 151 yX4_finishKeyed, Cond.instanceMethod yX4_finishKeyed]
def wsX4_stir_r2 : List Cond := [Cond.selects RX4 yX4_finishKeyed yX4_finishKeyed, Cond.code yX4_finishKeyed cX4_finishKeyed 2 none, Cond.methodLink RX4 142 yX4_hashRow, Cond.instanceMethod yX4_hashRow, Cond.selects RX4 yX4_hashRow yX4_hashRow, Cond.code yX4_hashRow cX4_hashRow 3 none, Cond.fieldLink RX4 88 "SeedMillModel" "sum" "[I", Cond.fieldLink RX4 85 "SeedMillModel" "first" "[I", Cond.methodLink RX4 139 yX4_hashBlock, Cond.instanceMethod yX4_hashBlock, Cond.selects RX4 yX4_hashBlock yX4_hashBlock, Cond.code yX4_hashBlock cX4_hashBlock 13 none, Cond.fieldLink RX4 91 "SeedMillModel" "word" "[I", Cond.fieldLink RX4 71 "SeedMillModel" "roots" "[I", Cond.methodLink RX4 128 yX4_round, Cond.static yX4_round, Cond.code yX4_round cX4_round 2 (some .int), Cond.methodLink RX4 157 yX4_nextValue, Cond.instanceMethod yX4_nextValue, Cond.selects RX4 yX4_nextValue yX4_nextValue, Cond.code yX4_nextValue cX4_nextValue 2 none]
def wsX4_stir : List Cond := .code yX4_stir cX4_stir 3 none :: ((wsX4_stir_r1 ++ wsX4_stir_r2) ++ wsX40)
def wsX4_feed : List Cond := .code yX4_feed cX4_feed 5 (some .int) :: ([.fieldLink RX4 154 "SeedMillModel" "inputSize" "I", .fieldLink RX4 103 "SeedMillModel" "input" "[I", .constantLong RX4 160 (255)] ++ wsX40)
def wsX4_clear : List Cond := .code yX4_clear cX4_clear 2 (some .int) :: ([.fieldLink RX4 154 "SeedMillModel" "inputSize" "I"] ++ wsX40)
def wsX4_seed_r1 : List Cond := [Cond.fieldLink RX4 154 "SeedMillModel" "inputSize" "I", Cond.fieldLink RX4 109 "SeedMillModel" "key" "[I", Cond.fieldLink RX4 112 "SeedMillModel" "value" "[I", Cond.fieldLink RX4 165 "SeedMillModel" "isSeeded" "Z", Cond.fieldLink RX4 169 "SeedMillModel" "counter" "I", Cond.methodLink RX4 162 yX4_stir, Cond.instanceMethod yX4_stir, Cond.selects RX4 yX4_stir yX4_stir, Cond.initialized RX4, Cond.code yX4_stir cX4_stir 3 none, Cond.fieldLink RX4 103 "SeedMillModel" "input" "[I", Cond.fieldLink RX4 97 "SeedMillModel" "digest" "[I", Cond.fieldLink RX4 115 "SeedMillModel" "left" "[I", Cond.methodLink RX4 148 yX4_beginKeyed, Cond.instanceMethod yX4_beginKeyed, Cond.selects RX4 yX4_beginKeyed yX4_beginKeyed, Cond.code yX4_beginKeyed cX4_beginKeyed 2 none, Cond.fieldLink RX4 100 "SeedMillModel" "padded" "[I", Cond.methodLink RX4 145 yX4_putPad, Cond.instanceMethod yX4_putPad, Cond.selects RX4 yX4_putPad yX4_putPad, Cond.code yX4_putPad cX4_putPad 3 none, Cond.methodLink RX4 135 yX4_put, Cond.instanceMethod yX4_put]
def wsX4_seed_r2 : List Cond := [Cond.selects RX4 yX4_put yX4_put, Cond.code yX4_put cX4_put 2 none, Cond.fieldLink RX4 94 "SeedMillModel" "row" "[I", Cond.fieldLink RX4 132 "SeedMillModel" "rowSize" "I", Cond.methodLink RX4 151 yX4_finishKeyed, Cond.instanceMethod yX4_finishKeyed, Cond.selects RX4 yX4_finishKeyed yX4_finishKeyed, Cond.code yX4_finishKeyed cX4_finishKeyed 2 none, Cond.methodLink RX4 142 yX4_hashRow, Cond.instanceMethod yX4_hashRow, Cond.selects RX4 yX4_hashRow yX4_hashRow, Cond.code yX4_hashRow cX4_hashRow 3 none, Cond.fieldLink RX4 88 "SeedMillModel" "sum" "[I", Cond.fieldLink RX4 85 "SeedMillModel" "first" "[I", Cond.methodLink RX4 139 yX4_hashBlock, Cond.instanceMethod yX4_hashBlock, Cond.selects RX4 yX4_hashBlock yX4_hashBlock, Cond.code yX4_hashBlock cX4_hashBlock 13 none, Cond.fieldLink RX4 91 "SeedMillModel" "word" "[I", Cond.fieldLink RX4 71 "SeedMillModel" "roots" "[I", Cond.methodLink RX4 128 yX4_round, Cond.static yX4_round, Cond.code yX4_round cX4_round 2 (some .int), Cond.methodLink RX4 157 yX4_nextValue]
def wsX4_seed_r3 : List Cond := [Cond.instanceMethod yX4_nextValue, Cond.selects RX4 yX4_nextValue yX4_nextValue, Cond.code yX4_nextValue cX4_nextValue 2 none]
def wsX4_seed : List Cond := .code yX4_seed cX4_seed 2 (some .int) :: ((wsX4_seed_r1 ++ (wsX4_seed_r2 ++ wsX4_seed_r3)) ++ wsX40)
def wsX4_reseed_r1 : List Cond := [Cond.fieldLink RX4 154 "SeedMillModel" "inputSize" "I", Cond.fieldLink RX4 165 "SeedMillModel" "isSeeded" "Z", Cond.fieldLink RX4 169 "SeedMillModel" "counter" "I", Cond.methodLink RX4 162 yX4_stir, Cond.instanceMethod yX4_stir, Cond.selects RX4 yX4_stir yX4_stir, Cond.initialized RX4, Cond.code yX4_stir cX4_stir 3 none, Cond.fieldLink RX4 103 "SeedMillModel" "input" "[I", Cond.fieldLink RX4 109 "SeedMillModel" "key" "[I", Cond.fieldLink RX4 97 "SeedMillModel" "digest" "[I", Cond.fieldLink RX4 115 "SeedMillModel" "left" "[I", Cond.fieldLink RX4 112 "SeedMillModel" "value" "[I", Cond.methodLink RX4 148 yX4_beginKeyed, Cond.instanceMethod yX4_beginKeyed, Cond.selects RX4 yX4_beginKeyed yX4_beginKeyed, Cond.code yX4_beginKeyed cX4_beginKeyed 2 none, Cond.fieldLink RX4 100 "SeedMillModel" "padded" "[I", Cond.methodLink RX4 145 yX4_putPad, Cond.instanceMethod yX4_putPad, Cond.selects RX4 yX4_putPad yX4_putPad, Cond.code yX4_putPad cX4_putPad 3 none, Cond.methodLink RX4 135 yX4_put, Cond.instanceMethod yX4_put]
def wsX4_reseed_r2 : List Cond := [Cond.selects RX4 yX4_put yX4_put, Cond.code yX4_put cX4_put 2 none, Cond.fieldLink RX4 94 "SeedMillModel" "row" "[I", Cond.fieldLink RX4 132 "SeedMillModel" "rowSize" "I", Cond.methodLink RX4 151 yX4_finishKeyed, Cond.instanceMethod yX4_finishKeyed, Cond.selects RX4 yX4_finishKeyed yX4_finishKeyed, Cond.code yX4_finishKeyed cX4_finishKeyed 2 none, Cond.methodLink RX4 142 yX4_hashRow, Cond.instanceMethod yX4_hashRow, Cond.selects RX4 yX4_hashRow yX4_hashRow, Cond.code yX4_hashRow cX4_hashRow 3 none, Cond.fieldLink RX4 88 "SeedMillModel" "sum" "[I", Cond.fieldLink RX4 85 "SeedMillModel" "first" "[I", Cond.methodLink RX4 139 yX4_hashBlock, Cond.instanceMethod yX4_hashBlock, Cond.selects RX4 yX4_hashBlock yX4_hashBlock, Cond.code yX4_hashBlock cX4_hashBlock 13 none, Cond.fieldLink RX4 91 "SeedMillModel" "word" "[I", Cond.fieldLink RX4 71 "SeedMillModel" "roots" "[I", Cond.methodLink RX4 128 yX4_round, Cond.static yX4_round, Cond.code yX4_round cX4_round 2 (some .int), Cond.methodLink RX4 157 yX4_nextValue]
def wsX4_reseed_r3 : List Cond := [Cond.instanceMethod yX4_nextValue, Cond.selects RX4 yX4_nextValue yX4_nextValue, Cond.code yX4_nextValue cX4_nextValue 2 none]
def wsX4_reseed : List Cond := .code yX4_reseed cX4_reseed 1 (some .int) :: ((wsX4_reseed_r1 ++ (wsX4_reseed_r2 ++ wsX4_reseed_r3)) ++ wsX40)
def wsX4_draw_r1 : List Cond := [Cond.fieldLink RX4 165 "SeedMillModel" "isSeeded" "Z", Cond.fieldLink RX4 169 "SeedMillModel" "counter" "I", Cond.fieldLink RX4 118 "SeedMillModel" "interval" "I", Cond.fieldLink RX4 154 "SeedMillModel" "inputSize" "I", Cond.fieldLink RX4 122 "SeedMillModel" "drawn" "[I", Cond.fieldLink RX4 112 "SeedMillModel" "value" "[I", Cond.fieldLink RX4 172 "SeedMillModel" "drawnSize" "I", Cond.fieldLink RX4 175 "SeedMillModel" "draws" "I", Cond.methodLink RX4 162 yX4_stir, Cond.instanceMethod yX4_stir, Cond.selects RX4 yX4_stir yX4_stir, Cond.initialized RX4, Cond.code yX4_stir cX4_stir 3 none, Cond.fieldLink RX4 103 "SeedMillModel" "input" "[I", Cond.fieldLink RX4 109 "SeedMillModel" "key" "[I", Cond.fieldLink RX4 97 "SeedMillModel" "digest" "[I", Cond.fieldLink RX4 115 "SeedMillModel" "left" "[I", Cond.methodLink RX4 148 yX4_beginKeyed, Cond.instanceMethod yX4_beginKeyed, Cond.selects RX4 yX4_beginKeyed yX4_beginKeyed, Cond.code yX4_beginKeyed cX4_beginKeyed 2 none, Cond.fieldLink RX4 100 "SeedMillModel" "padded" "[I", Cond.methodLink RX4 145 yX4_putPad, Cond.instanceMethod yX4_putPad]
def wsX4_draw_r2 : List Cond := [Cond.selects RX4 yX4_putPad yX4_putPad, Cond.code yX4_putPad cX4_putPad 3 none, Cond.methodLink RX4 135 yX4_put, Cond.instanceMethod yX4_put, Cond.selects RX4 yX4_put yX4_put, Cond.code yX4_put cX4_put 2 none, Cond.fieldLink RX4 94 "SeedMillModel" "row" "[I", Cond.fieldLink RX4 132 "SeedMillModel" "rowSize" "I", Cond.methodLink RX4 151 yX4_finishKeyed, Cond.instanceMethod yX4_finishKeyed, Cond.selects RX4 yX4_finishKeyed yX4_finishKeyed, Cond.code yX4_finishKeyed cX4_finishKeyed 2 none, Cond.methodLink RX4 142 yX4_hashRow, Cond.instanceMethod yX4_hashRow, Cond.selects RX4 yX4_hashRow yX4_hashRow, Cond.code yX4_hashRow cX4_hashRow 3 none, Cond.fieldLink RX4 88 "SeedMillModel" "sum" "[I", Cond.fieldLink RX4 85 "SeedMillModel" "first" "[I", Cond.methodLink RX4 139 yX4_hashBlock, Cond.instanceMethod yX4_hashBlock, Cond.selects RX4 yX4_hashBlock yX4_hashBlock, Cond.code yX4_hashBlock cX4_hashBlock 13 none, Cond.fieldLink RX4 91 "SeedMillModel" "word" "[I", Cond.fieldLink RX4 71 "SeedMillModel" "roots" "[I"]
def wsX4_draw_r3 : List Cond := [Cond.methodLink RX4 128 yX4_round, Cond.static yX4_round, Cond.code yX4_round cX4_round 2 (some .int), Cond.methodLink RX4 157 yX4_nextValue, Cond.instanceMethod yX4_nextValue, Cond.selects RX4 yX4_nextValue yX4_nextValue, Cond.code yX4_nextValue cX4_nextValue 2 none]
def wsX4_draw : List Cond := .code yX4_draw cX4_draw 3 (some .int) :: ((wsX4_draw_r1 ++ (wsX4_draw_r2 ++ wsX4_draw_r3)) ++ wsX40)
def wsX4_interval : List Cond := .code yX4_interval cX4_interval 2 (some .int) :: ([.fieldLink RX4 118 "SeedMillModel" "interval" "I"] ++ wsX40)
def wsX4_forget : List Cond := .code yX4_forget cX4_forget 2 (some .int) :: ([.fieldLink RX4 165 "SeedMillModel" "isSeeded" "Z", .fieldLink RX4 169 "SeedMillModel" "counter" "I", .fieldLink RX4 172 "SeedMillModel" "drawnSize" "I"] ++ wsX40)
def wsX4_own : List Cond := .code yX4_own cX4_own 2 (some .int) :: ([.fieldLink RX4 154 "SeedMillModel" "inputSize" "I", .fieldLink RX4 106 "SeedMillModel" "ownKey" "[I", .fieldLink RX4 103 "SeedMillModel" "input" "[I", .fieldLink RX4 178 "SeedMillModel" "ownSize" "I"] ++ wsX40)
def wsX4_out : List Cond := .code yX4_out cX4_out 2 (some .int) :: ([.fieldLink RX4 172 "SeedMillModel" "drawnSize" "I", .fieldLink RX4 122 "SeedMillModel" "drawn" "[I"] ++ wsX40)
def wsX4_counter : List Cond := .code yX4_counter cX4_counter 1 (some .int) :: ([.fieldLink RX4 165 "SeedMillModel" "isSeeded" "Z", .fieldLink RX4 169 "SeedMillModel" "counter" "I"] ++ wsX40)
def wsX4_state : List Cond := .code yX4_state cX4_state 3 (some .int) :: ([.fieldLink RX4 165 "SeedMillModel" "isSeeded" "Z", .fieldLink RX4 109 "SeedMillModel" "key" "[I", .fieldLink RX4 112 "SeedMillModel" "value" "[I"] ++ wsX40)
def wsX4_hash_r1 : List Cond := [Cond.fieldLink RX4 154 "SeedMillModel" "inputSize" "I", Cond.fieldLink RX4 103 "SeedMillModel" "input" "[I", Cond.fieldLink RX4 97 "SeedMillModel" "digest" "[I", Cond.methodLink RX4 135 yX4_put, Cond.instanceMethod yX4_put, Cond.selects RX4 yX4_put yX4_put, Cond.initialized RX4, Cond.code yX4_put cX4_put 2 none, Cond.fieldLink RX4 94 "SeedMillModel" "row" "[I", Cond.fieldLink RX4 132 "SeedMillModel" "rowSize" "I", Cond.methodLink RX4 142 yX4_hashRow, Cond.instanceMethod yX4_hashRow, Cond.selects RX4 yX4_hashRow yX4_hashRow, Cond.code yX4_hashRow cX4_hashRow 3 none, Cond.fieldLink RX4 88 "SeedMillModel" "sum" "[I", Cond.fieldLink RX4 85 "SeedMillModel" "first" "[I", Cond.methodLink RX4 139 yX4_hashBlock, Cond.instanceMethod yX4_hashBlock, Cond.selects RX4 yX4_hashBlock yX4_hashBlock, Cond.code yX4_hashBlock cX4_hashBlock 13 none, Cond.fieldLink RX4 91 "SeedMillModel" "word" "[I", Cond.fieldLink RX4 71 "SeedMillModel" "roots" "[I", Cond.methodLink RX4 128 yX4_round, Cond.static yX4_round]
def wsX4_hash_r2 : List Cond := [Cond.code yX4_round cX4_round 2 (some .int)]
def wsX4_hash : List Cond := .code yX4_hash cX4_hash 3 (some .int) :: ((wsX4_hash_r1 ++ wsX4_hash_r2) ++ wsX40)
def wsX4_keyed_r1 : List Cond := [Cond.fieldLink RX4 178 "SeedMillModel" "ownSize" "I", Cond.fieldLink RX4 106 "SeedMillModel" "ownKey" "[I", Cond.fieldLink RX4 100 "SeedMillModel" "padded" "[I", Cond.fieldLink RX4 97 "SeedMillModel" "digest" "[I", Cond.fieldLink RX4 154 "SeedMillModel" "inputSize" "I", Cond.fieldLink RX4 103 "SeedMillModel" "input" "[I", Cond.methodLink RX4 135 yX4_put, Cond.instanceMethod yX4_put, Cond.selects RX4 yX4_put yX4_put, Cond.initialized RX4, Cond.code yX4_put cX4_put 2 none, Cond.fieldLink RX4 94 "SeedMillModel" "row" "[I", Cond.fieldLink RX4 132 "SeedMillModel" "rowSize" "I", Cond.methodLink RX4 142 yX4_hashRow, Cond.instanceMethod yX4_hashRow, Cond.selects RX4 yX4_hashRow yX4_hashRow, Cond.code yX4_hashRow cX4_hashRow 3 none, Cond.fieldLink RX4 88 "SeedMillModel" "sum" "[I", Cond.fieldLink RX4 85 "SeedMillModel" "first" "[I", Cond.methodLink RX4 139 yX4_hashBlock, Cond.instanceMethod yX4_hashBlock, Cond.selects RX4 yX4_hashBlock yX4_hashBlock, Cond.code yX4_hashBlock cX4_hashBlock 13 none, Cond.fieldLink RX4 91 "SeedMillModel" "word" "[I"]
def wsX4_keyed_r2 : List Cond := [Cond.fieldLink RX4 71 "SeedMillModel" "roots" "[I", Cond.methodLink RX4 128 yX4_round, Cond.static yX4_round, Cond.code yX4_round cX4_round 2 (some .int), Cond.methodLink RX4 145 yX4_putPad, Cond.instanceMethod yX4_putPad, Cond.selects RX4 yX4_putPad yX4_putPad, Cond.code yX4_putPad cX4_putPad 3 none, Cond.methodLink RX4 151 yX4_finishKeyed, Cond.instanceMethod yX4_finishKeyed, Cond.selects RX4 yX4_finishKeyed yX4_finishKeyed, Cond.code yX4_finishKeyed cX4_finishKeyed 2 none]
def wsX4_keyed : List Cond := .code yX4_keyed cX4_keyed 3 (some .int) :: ((wsX4_keyed_r1 ++ wsX4_keyed_r2) ++ wsX40)
def wsX4_count : List Cond := .code yX4_count cX4_count 2 (some .int) :: ([.fieldLink RX4 154 "SeedMillModel" "inputSize" "I", .fieldLink RX4 172 "SeedMillModel" "drawnSize" "I", .fieldLink RX4 178 "SeedMillModel" "ownSize" "I", .fieldLink RX4 175 "SeedMillModel" "draws" "I", .fieldLink RX4 118 "SeedMillModel" "interval" "I"] ++ wsX40)
def wsX4_check : List Cond := .code yX4_check cX4_check 3 (some .int) :: ([.fieldLink RX4 112 "SeedMillModel" "value" "[I", .fieldLink RX4 115 "SeedMillModel" "left" "[I", .fieldLink RX4 165 "SeedMillModel" "isSeeded" "Z"] ++ wsX40)
def wsJ9_min_7cf53 : List Cond := .code yJ9_min_7cf53 cJ9_min_7cf53 2 (some .int) :: ([])
def wsL_law_r1 : List Cond := [Cond.classLink RL 7 RX3, Cond.instantiable RX3 12, Cond.initialized RX3, Cond.classLink RL 10 RX4, Cond.instantiable RX4 22, Cond.initialized RX4, Cond.constantLong RL 13 (4294967295), Cond.methodLink RL 9 yX3_init, Cond.instanceMethod yX3_init, Cond.code yX3_init cX3_init 1 none, Cond.methodLink RX3 3 objectInit, Cond.instanceMethod objectInit, Cond.code objectInit ⟨#[0xb1]⟩ 1 none, Cond.classLink RX3 9 RX2, Cond.instantiable RX2 2, Cond.initialized RX2, Cond.fieldLink RX3 14 "SeedMill" "input" "LSeedMill$Row;", Cond.fieldLink RX3 18 "SeedMill" "ownKey" "LSeedMill$Row;", Cond.fieldLink RX3 21 "SeedMill" "drawn" "LSeedMill$Row;", Cond.fieldLink RX3 24 "SeedMill" "key" "LSeedMill$Row;", Cond.fieldLink RX3 27 "SeedMill" "value" "LSeedMill$Row;", Cond.fieldLink RX3 30 "SeedMill" "formerValue" "LSeedMill$Row;", Cond.fieldLink RX3 33 "SeedMill" "answer" "LSeedMill$Row;", Cond.classLink RX3 36 RX0]
def wsL_law_r2 : List Cond := [Cond.instantiable RX0 3, Cond.initialized RX0, Cond.fieldLink RX3 39 "SeedMill" "hasher" "LSeedMill$Hasher;", Cond.classLink RX3 43 RX1, Cond.instantiable RX1 3, Cond.initialized RX1, Cond.fieldLink RX3 46 "SeedMill" "keyedHasher" "LSeedMill$KeyedHasher;", Cond.fieldLink RX3 50 "SeedMill" "drawCounter" "I", Cond.fieldLink RX3 54 "SeedMill" "drawInterval" "I", Cond.fieldLink RX3 57 "SeedMill" "drawsInAll" "I", Cond.methodLink RX3 11 yX2_init, Cond.instanceMethod yX2_init, Cond.code yX2_init cX2_init 2 none, Cond.methodLink RX2 3 objectInit, Cond.fieldLink RX2 9 "SeedMill$Row" "used" "I", Cond.arrayClass .int, Cond.fieldLink RX2 15 "SeedMill$Row" "bytes" "[I", Cond.instanceMethod yX0_init, Cond.code yX0_init cX0_init 1 none, Cond.methodLink RX0 3 objectInit, Cond.classLink RX0 9 RX2, Cond.fieldLink RX0 14 "SeedMill$Hasher" "message" "LSeedMill$Row;", Cond.fieldLink RX0 20 "SeedMill$Hasher" "w" "[I", Cond.fieldLink RX0 24 "SeedMill$Hasher" "words" "[I"]
def wsL_law_r3 : List Cond := [Cond.methodLink RX0 11 yX2_init, Cond.instanceMethod yX1_init, Cond.code yX1_init cX1_init 1 none, Cond.methodLink RX1 3 objectInit, Cond.classLink RX1 9 RX0, Cond.fieldLink RX1 12 "SeedMill$KeyedHasher" "hasher" "LSeedMill$Hasher;", Cond.classLink RX1 18 RX2, Cond.fieldLink RX1 23 "SeedMill$KeyedHasher" "blockKey" "LSeedMill$Row;", Cond.fieldLink RX1 27 "SeedMill$KeyedHasher" "innerHash" "LSeedMill$Row;", Cond.methodLink RX1 20 yX2_init, Cond.methodLink RL 12 yX4_init, Cond.instanceMethod yX4_init, Cond.code yX4_init cX4_init 1 none, Cond.methodLink RX4 1 objectInit, Cond.constant RX4 7 (1116352408), Cond.constant RX4 8 (1899447441), Cond.constant RX4 9 (-1245643825), Cond.constant RX4 10 (-373957723), Cond.constant RX4 11 (961987163), Cond.constant RX4 12 (1508970993), Cond.constant RX4 13 (-1841331548), Cond.constant RX4 14 (-1424204075), Cond.constant RX4 15 (-670586216), Cond.constant RX4 16 (310598401)]
def wsL_law_r4 : List Cond := [Cond.constant RX4 17 (607225278), Cond.constant RX4 18 (1426881987), Cond.constant RX4 19 (1925078388), Cond.constant RX4 20 (-2132889090), Cond.constant RX4 21 (-1680079193), Cond.constant RX4 22 (-1046744716), Cond.constant RX4 23 (-459576895), Cond.constant RX4 24 (-272742522), Cond.constant RX4 25 (264347078), Cond.constant RX4 26 (604807628), Cond.constant RX4 27 (770255983), Cond.constant RX4 28 (1249150122), Cond.constant RX4 29 (1555081692), Cond.constant RX4 30 (1996064986), Cond.constant RX4 31 (-1740746414), Cond.constant RX4 32 (-1473132947), Cond.constant RX4 33 (-1341970488), Cond.constant RX4 34 (-1084653625), Cond.constant RX4 35 (-958395405), Cond.constant RX4 36 (-710438585), Cond.constant RX4 37 (113926993), Cond.constant RX4 38 (338241895), Cond.constant RX4 39 (666307205), Cond.constant RX4 40 (773529912)]
def wsL_law_r5 : List Cond := [Cond.constant RX4 41 (1294757372), Cond.constant RX4 42 (1396182291), Cond.constant RX4 43 (1695183700), Cond.constant RX4 44 (1986661051), Cond.constant RX4 45 (-2117940946), Cond.constant RX4 46 (-1838011259), Cond.constant RX4 47 (-1564481375), Cond.constant RX4 48 (-1474664885), Cond.constant RX4 49 (-1035236496), Cond.constant RX4 50 (-949202525), Cond.constant RX4 51 (-778901479), Cond.constant RX4 52 (-694614492), Cond.constant RX4 53 (-200395387), Cond.constant RX4 54 (275423344), Cond.constant RX4 55 (430227734), Cond.constant RX4 56 (506948616), Cond.constant RX4 57 (659060556), Cond.constant RX4 58 (883997877), Cond.constant RX4 59 (958139571), Cond.constant RX4 60 (1322822218), Cond.constant RX4 61 (1537002063), Cond.constant RX4 62 (1747873779), Cond.constant RX4 63 (1955562222), Cond.constant RX4 64 (2024104815)]
def wsL_law_r6 : List Cond := [Cond.constant RX4 65 (-2067236844), Cond.constant RX4 66 (-1933114872), Cond.constant RX4 67 (-1866530822), Cond.constant RX4 68 (-1538233109), Cond.constant RX4 69 (-1090935817), Cond.constant RX4 70 (-965641998), Cond.fieldLink RX4 71 "SeedMillModel" "roots" "[I", Cond.constant RX4 77 (1779033703), Cond.constant RX4 78 (-1150833019), Cond.constant RX4 79 (1013904242), Cond.constant RX4 80 (-1521486534), Cond.constant RX4 81 (1359893119), Cond.constant RX4 82 (-1694144372), Cond.constant RX4 83 (528734635), Cond.constant RX4 84 (1541459225), Cond.fieldLink RX4 85 "SeedMillModel" "first" "[I", Cond.fieldLink RX4 88 "SeedMillModel" "sum" "[I", Cond.fieldLink RX4 91 "SeedMillModel" "word" "[I", Cond.fieldLink RX4 94 "SeedMillModel" "row" "[I", Cond.fieldLink RX4 97 "SeedMillModel" "digest" "[I", Cond.fieldLink RX4 100 "SeedMillModel" "padded" "[I", Cond.fieldLink RX4 103 "SeedMillModel" "input" "[I", Cond.fieldLink RX4 106 "SeedMillModel" "ownKey" "[I", Cond.fieldLink RX4 109 "SeedMillModel" "key" "[I"]
def wsL_law_r7 : List Cond := [Cond.fieldLink RX4 112 "SeedMillModel" "value" "[I", Cond.fieldLink RX4 115 "SeedMillModel" "left" "[I", Cond.fieldLink RX4 118 "SeedMillModel" "interval" "I", Cond.fieldLink RX4 122 "SeedMillModel" "drawn" "[I", Cond.methodLink RL 15 yX3_feed, Cond.instanceMethod yX3_feed, Cond.selects RX3 yX3_feed yX3_feed, Cond.code yX3_feed cX3_feed 5 (some .int), Cond.methodLink RX3 60 yX2_size, Cond.instanceMethod yX2_size, Cond.selects RX2 yX2_size yX2_size, Cond.code yX2_size cX2_size 1 (some .int), Cond.methodLink RX3 64 yX2_put, Cond.instanceMethod yX2_put, Cond.selects RX2 yX2_put yX2_put, Cond.code yX2_put cX2_put 2 none, Cond.methodLink RL 19 yX4_feed, Cond.instanceMethod yX4_feed, Cond.selects RX4 yX4_feed yX4_feed, Cond.code yX4_feed cX4_feed 5 (some .int), Cond.fieldLink RX4 154 "SeedMillModel" "inputSize" "I", Cond.constantLong RX4 160 (255), Cond.methodLink RL 20 yX3_clear, Cond.instanceMethod yX3_clear]
def wsL_law_r8 : List Cond := [Cond.selects RX3 yX3_clear yX3_clear, Cond.code yX3_clear cX3_clear 2 (some .int), Cond.methodLink RX3 67 yX2_empty, Cond.instanceMethod yX2_empty, Cond.selects RX2 yX2_empty yX2_empty, Cond.code yX2_empty cX2_empty 1 none, Cond.methodLink RL 24 yX4_clear, Cond.instanceMethod yX4_clear, Cond.selects RX4 yX4_clear yX4_clear, Cond.code yX4_clear cX4_clear 2 (some .int), Cond.methodLink RL 25 yX3_seed, Cond.instanceMethod yX3_seed, Cond.selects RX3 yX3_seed yX3_seed, Cond.code yX3_seed cX3_seed 1 (some .int), Cond.methodLink RX3 70 yX2_fill, Cond.instanceMethod yX2_fill, Cond.selects RX2 yX2_fill yX2_fill, Cond.code yX2_fill cX2_fill 2 none, Cond.methodLink RX2 19 yJ7_fill_53178, Cond.static yJ7_fill_53178, Cond.initialized RJ7, Cond.code yJ7_fill_53178 cJ7_fill_53178 4 none, Cond.methodLink RX3 73 yX3_stir, Cond.instanceMethod yX3_stir]
def wsL_law_r9 : List Cond := [Cond.selects RX3 yX3_stir yX3_stir, Cond.code yX3_stir cX3_stir 3 none, Cond.methodLink RX3 101 yX1_begin, Cond.instanceMethod yX1_begin, Cond.selects RX1 yX1_begin yX1_begin, Cond.code yX1_begin cX1_begin 3 none, Cond.methodLink RX1 30 yX2_empty, Cond.methodLink RX1 33 yX2_size, Cond.methodLink RX1 37 yX0_begin, Cond.instanceMethod yX0_begin, Cond.selects RX0 yX0_begin yX0_begin, Cond.code yX0_begin cX0_begin 1 none, Cond.methodLink RX0 27 yX2_empty, Cond.methodLink RX1 40 yX0_add, Cond.instanceMethod yX0_add, Cond.selects RX0 yX0_add yX0_add, Cond.code yX0_add cX0_add 2 none, Cond.methodLink RX0 30 yX2_size, Cond.methodLink RX0 34 yX2_append, Cond.instanceMethod yX2_append, Cond.selects RX2 yX2_append yX2_append, Cond.code yX2_append cX2_append 5 none, Cond.methodLink RX2 25 Lib.Math.min.name, Cond.static Lib.Math.min.name]
def wsL_law_r10 : List Cond := [Cond.initialized "java/lang/Math", Cond.code Lib.Math.min.name Lib.Math.min.code 2 (some .int), Cond.methodLink RX2 31 yX2_put, Cond.methodLink RX1 44 yX0_end, Cond.instanceMethod yX0_end, Cond.selects RX0 yX0_end yX0_end, Cond.code yX0_end cX0_end 3 none, Cond.fieldLink RX0 47 "SeedMill$Hasher" "FIRST_STATE" "[I", Cond.methodLink RX0 50 arraycopyName, Cond.native arraycopyName, Cond.static arraycopyName, Cond.initialized "java/lang/System", Cond.methodLink RX0 44 yX0_pad, Cond.instanceMethod yX0_pad, Cond.selects RX0 yX0_pad yX0_pad, Cond.code yX0_pad cX0_pad 4 none, Cond.methodLink RX0 41 yX2_put, Cond.methodLink RX0 65 yJ9_floorMod_7cf53, Cond.static yJ9_floorMod_7cf53, Cond.initialized RJ9, Cond.code yJ9_floorMod_7cf53 cJ9_floorMod_7cf53 3 (some .int), Cond.methodLink RX0 62 yX2_putWord, Cond.instanceMethod yX2_putWord, Cond.selects RX2 yX2_putWord yX2_putWord]
def wsL_law_r11 : List Cond := [Cond.code yX2_putWord cX2_putWord 3 none, Cond.methodLink RX0 56 yX0_spread, Cond.instanceMethod yX0_spread, Cond.selects RX0 yX0_spread yX0_spread, Cond.code yX0_spread cX0_spread 7 none, Cond.methodLink RX0 71 yX2_wordAt, Cond.instanceMethod yX2_wordAt, Cond.selects RX2 yX2_wordAt yX2_wordAt, Cond.code yX2_wordAt cX2_wordAt 2 (some .int), Cond.methodLink RX2 35 yX2_at, Cond.instanceMethod yX2_at, Cond.selects RX2 yX2_at yX2_at, Cond.code yX2_at cX2_at 2 (some .int), Cond.methodLink RX0 75 yJ6_rotateRight_7cf53, Cond.static yJ6_rotateRight_7cf53, Cond.initialized RJ6, Cond.code yJ6_rotateRight_7cf53 cJ6_rotateRight_7cf53 2 (some .int), Cond.methodLink RX0 59 yX0_mix, Cond.instanceMethod yX0_mix, Cond.selects RX0 yX0_mix yX0_mix, Cond.code yX0_mix cX0_mix 12 none, Cond.fieldLink RX0 84 "SeedMill$Hasher" "K" "[I", Cond.methodLink RX0 80 yX0_highSum, Cond.static yX0_highSum]
def wsL_law_r12 : List Cond := [Cond.code yX0_highSum cX0_highSum 4 (some .int), Cond.methodLink RX1 47 yX2_append, Cond.methodLink RX1 51 yX2_put, Cond.methodLink RX1 54 yX0_addXor, Cond.instanceMethod yX0_addXor, Cond.selects RX0 yX0_addXor yX0_addXor, Cond.code yX0_addXor cX0_addXor 3 none, Cond.methodLink RX0 38 yX2_appendXor, Cond.instanceMethod yX2_appendXor, Cond.selects RX2 yX2_appendXor yX2_appendXor, Cond.code yX2_appendXor cX2_appendXor 4 none, Cond.methodLink RX3 103 yX1_add, Cond.instanceMethod yX1_add, Cond.selects RX1 yX1_add yX1_add, Cond.code yX1_add cX1_add 2 none, Cond.methodLink RX3 109 yX1_addByte, Cond.instanceMethod yX1_addByte, Cond.selects RX1 yX1_addByte yX1_addByte, Cond.code yX1_addByte cX1_addByte 2 none, Cond.methodLink RX1 57 yX0_addByte, Cond.instanceMethod yX0_addByte, Cond.selects RX0 yX0_addByte yX0_addByte, Cond.code yX0_addByte cX0_addByte 2 none, Cond.methodLink RX3 104 yX1_end]
def wsL_law_r13 : List Cond := [Cond.instanceMethod yX1_end, Cond.selects RX1 yX1_end yX1_end, Cond.code yX1_end cX1_end 2 none, Cond.methodLink RX3 112 yX3_renewValue, Cond.instanceMethod yX3_renewValue, Cond.selects RX3 yX3_renewValue yX3_renewValue, Cond.code yX3_renewValue cX3_renewValue 1 none, Cond.methodLink RX3 97 yX2_append, Cond.methodLink RL 28 yX4_seed, Cond.instanceMethod yX4_seed, Cond.selects RX4 yX4_seed yX4_seed, Cond.code yX4_seed cX4_seed 2 (some .int), Cond.fieldLink RX4 165 "SeedMillModel" "isSeeded" "Z", Cond.fieldLink RX4 169 "SeedMillModel" "counter" "I", Cond.methodLink RX4 162 yX4_stir, Cond.instanceMethod yX4_stir, Cond.selects RX4 yX4_stir yX4_stir, Cond.code yX4_stir cX4_stir 3 none, Cond.methodLink RX4 148 yX4_beginKeyed, Cond.instanceMethod yX4_beginKeyed, Cond.selects RX4 yX4_beginKeyed yX4_beginKeyed, Cond.code yX4_beginKeyed cX4_beginKeyed 2 none, Cond.methodLink RX4 145 yX4_putPad, Cond.instanceMethod yX4_putPad]
def wsL_law_r14 : List Cond := [Cond.selects RX4 yX4_putPad yX4_putPad, Cond.code yX4_putPad cX4_putPad 3 none, Cond.methodLink RX4 135 yX4_put, Cond.instanceMethod yX4_put, Cond.selects RX4 yX4_put yX4_put, Cond.code yX4_put cX4_put 2 none, Cond.fieldLink RX4 132 "SeedMillModel" "rowSize" "I", Cond.methodLink RX4 151 yX4_finishKeyed, Cond.instanceMethod yX4_finishKeyed, Cond.selects RX4 yX4_finishKeyed yX4_finishKeyed, Cond.code yX4_finishKeyed cX4_finishKeyed 2 none, Cond.methodLink RX4 142 yX4_hashRow, Cond.instanceMethod yX4_hashRow, Cond.selects RX4 yX4_hashRow yX4_hashRow, Cond.code yX4_hashRow cX4_hashRow 3 none, Cond.methodLink RX4 139 yX4_hashBlock, Cond.instanceMethod yX4_hashBlock, Cond.selects RX4 yX4_hashBlock yX4_hashBlock, Cond.code yX4_hashBlock cX4_hashBlock 13 none, Cond.methodLink RX4 128 yX4_round, Cond.static yX4_round, Cond.code yX4_round cX4_round 2 (some .int), Cond.methodLink RX4 157 yX4_nextValue, Cond.instanceMethod yX4_nextValue]
def wsL_law_r15 : List Cond := [Cond.selects RX4 yX4_nextValue yX4_nextValue, Cond.code yX4_nextValue cX4_nextValue 2 none, Cond.methodLink RL 29 yX3_reseed, Cond.instanceMethod yX3_reseed, Cond.selects RX3 yX3_reseed yX3_reseed, Cond.code yX3_reseed cX3_reseed 1 (some .int), Cond.methodLink RX3 76 yX3_isSeeded, Cond.instanceMethod yX3_isSeeded, Cond.selects RX3 yX3_isSeeded yX3_isSeeded, Cond.code yX3_isSeeded cX3_isSeeded 1 (some .boolean), Cond.methodLink RL 32 yX4_reseed, Cond.instanceMethod yX4_reseed, Cond.selects RX4 yX4_reseed yX4_reseed, Cond.code yX4_reseed cX4_reseed 1 (some .int), Cond.methodLink RL 33 yX3_draw, Cond.instanceMethod yX3_draw, Cond.selects RX3 yX3_draw yX3_draw, Cond.code yX3_draw cX3_draw 2 (some .int), Cond.methodLink RX3 80 yX3_fillDrawn, Cond.instanceMethod yX3_fillDrawn, Cond.selects RX3 yX3_fillDrawn yX3_fillDrawn, Cond.code yX3_fillDrawn cX3_fillDrawn 3 none, Cond.methodLink RX3 115 Lib.Math.min.name, Cond.methodLink RL 37 yX4_draw]
def wsL_law_r16 : List Cond := [Cond.instanceMethod yX4_draw, Cond.selects RX4 yX4_draw yX4_draw, Cond.code yX4_draw cX4_draw 3 (some .int), Cond.fieldLink RX4 172 "SeedMillModel" "drawnSize" "I", Cond.fieldLink RX4 175 "SeedMillModel" "draws" "I", Cond.methodLink RL 38 yX3_interval, Cond.instanceMethod yX3_interval, Cond.selects RX3 yX3_interval yX3_interval, Cond.code yX3_interval cX3_interval 2 (some .int), Cond.methodLink RL 41 yX4_interval, Cond.instanceMethod yX4_interval, Cond.selects RX4 yX4_interval yX4_interval, Cond.code yX4_interval cX4_interval 2 (some .int), Cond.methodLink RL 42 yX3_out, Cond.instanceMethod yX3_out, Cond.selects RX3 yX3_out yX3_out, Cond.code yX3_out cX3_out 2 (some .int), Cond.methodLink RX3 83 yX2_at, Cond.methodLink RL 45 yX4_out, Cond.instanceMethod yX4_out, Cond.selects RX4 yX4_out yX4_out, Cond.code yX4_out cX4_out 2 (some .int), Cond.methodLink RL 46 yX3_counter, Cond.instanceMethod yX3_counter]
def wsL_law_r17 : List Cond := [Cond.selects RX3 yX3_counter yX3_counter, Cond.code yX3_counter cX3_counter 1 (some .int), Cond.methodLink RL 49 yX4_counter, Cond.instanceMethod yX4_counter, Cond.selects RX4 yX4_counter yX4_counter, Cond.code yX4_counter cX4_counter 1 (some .int), Cond.methodLink RL 50 yX3_state, Cond.instanceMethod yX3_state, Cond.selects RX3 yX3_state yX3_state, Cond.code yX3_state cX3_state 3 (some .int), Cond.methodLink RL 54 yX4_state, Cond.instanceMethod yX4_state, Cond.selects RX4 yX4_state yX4_state, Cond.code yX4_state cX4_state 3 (some .int), Cond.methodLink RL 55 yX3_forget, Cond.instanceMethod yX3_forget, Cond.selects RX3 yX3_forget yX3_forget, Cond.code yX3_forget cX3_forget 1 (some .int), Cond.methodLink RL 58 yX4_forget, Cond.instanceMethod yX4_forget, Cond.selects RX4 yX4_forget yX4_forget, Cond.code yX4_forget cX4_forget 2 (some .int), Cond.methodLink RL 59 yX3_hash, Cond.instanceMethod yX3_hash]
def wsL_law_r18 : List Cond := [Cond.selects RX3 yX3_hash yX3_hash, Cond.code yX3_hash cX3_hash 2 (some .int), Cond.methodLink RX3 87 yX0_begin, Cond.methodLink RX3 90 yX0_add, Cond.methodLink RX3 94 yX0_end, Cond.methodLink RL 62 yX4_hash, Cond.instanceMethod yX4_hash, Cond.selects RX4 yX4_hash yX4_hash, Cond.code yX4_hash cX4_hash 3 (some .int), Cond.methodLink RL 63 yX3_own, Cond.instanceMethod yX3_own, Cond.selects RX3 yX3_own yX3_own, Cond.code yX3_own cX3_own 1 (some .int), Cond.methodLink RL 66 yX4_own, Cond.instanceMethod yX4_own, Cond.selects RX4 yX4_own yX4_own, Cond.code yX4_own cX4_own 2 (some .int), Cond.fieldLink RX4 178 "SeedMillModel" "ownSize" "I", Cond.methodLink RL 67 yX3_keyed, Cond.instanceMethod yX3_keyed, Cond.selects RX3 yX3_keyed yX3_keyed, Cond.code yX3_keyed cX3_keyed 2 (some .int), Cond.methodLink RL 70 yX4_keyed, Cond.instanceMethod yX4_keyed]
def wsL_law_r19 : List Cond := [Cond.selects RX4 yX4_keyed yX4_keyed, Cond.code yX4_keyed cX4_keyed 3 (some .int), Cond.methodLink RL 71 yX3_count, Cond.instanceMethod yX3_count, Cond.selects RX3 yX3_count yX3_count, Cond.code yX3_count cX3_count 2 (some .int), Cond.methodLink RL 74 yX4_count, Cond.instanceMethod yX4_count, Cond.selects RX4 yX4_count yX4_count, Cond.code yX4_count cX4_count 2 (some .int), Cond.methodLink RL 75 yX3_check, Cond.instanceMethod yX3_check, Cond.selects RX3 yX3_check yX3_check, Cond.code yX3_check cX3_check 1 (some .int), Cond.methodLink RX3 105 yX2_sameAs, Cond.instanceMethod yX2_sameAs, Cond.selects RX2 yX2_sameAs yX2_sameAs, Cond.code yX2_sameAs cX2_sameAs 3 (some .boolean), Cond.methodLink RL 78 yX4_check, Cond.instanceMethod yX4_check, Cond.selects RX4 yX4_check yX4_check, Cond.code yX4_check cX4_check 3 (some .int)]
def wsL_law : List Cond := (wsL_law_r1 ++ (wsL_law_r2 ++ (wsL_law_r3 ++ (wsL_law_r4 ++ (wsL_law_r5 ++ (wsL_law_r6 ++ (wsL_law_r7 ++ (wsL_law_r8 ++ (wsL_law_r9 ++ (wsL_law_r10 ++ (wsL_law_r11 ++ (wsL_law_r12 ++ (wsL_law_r13 ++ (wsL_law_r14 ++ (wsL_law_r15 ++ (wsL_law_r16 ++ (wsL_law_r17 ++ (wsL_law_r18 ++ wsL_law_r19)))))))))))))))))) ++ wsX30 ++ wsX40 ++ wsX20 ++ wsX00 ++ wsX10 ++ ([] : List Cond)
abbrev vwCl : List vw_C := [(RX0, TX0, 3), (RX1, TX1, 3), (RX2, TX2, 2), (RX3, TX3, 12), (RX4, TX4, 22)]
/-! ===== END printed: names ===== -/
end
section
set_option maxRecDepth 20000 in
theorem ggX0_init_X2_init : GoodIn wsX0_init wsX2_init := goodIn_r _ [13, 14, 2, 3, 15, 8, 16, 17, 18] (by decide +kernel) (by decide +kernel)
set_option maxRecDepth 20000 in
theorem gX0_init_X2_init : GoodIn wsX0_init (wsX2_init) := ggX0_init_X2_init
theorem dX0_init_0 : decode cX0_init 0 = .ok (.aload_n 0, 1) := by decide +kernel
theorem dX0_init_1 : decode cX0_init 1 = .ok (.invokespecial 3, 3) := by decide +kernel
theorem dX0_init_4 : decode cX0_init 4 = .ok (.aload_n 0, 1) := by decide +kernel
theorem dX0_init_5 : decode cX0_init 5 = .ok (.new 9, 3) := by decide +kernel
theorem dX0_init_8 : decode cX0_init 8 = .ok (.dup, 1) := by decide +kernel
theorem dX0_init_9 : decode cX0_init 9 = .ok (.sipush 448, 3) := by decide +kernel
theorem dX0_init_12 : decode cX0_init 12 = .ok (.invokespecial 11, 3) := by decide +kernel
theorem dX0_init_15 : decode cX0_init 15 = .ok (.putfield 14, 3) := by decide +kernel
theorem dX0_init_18 : decode cX0_init 18 = .ok (.aload_n 0, 1) := by decide +kernel
theorem dX0_init_19 : decode cX0_init 19 = .ok (.bipush 64, 2) := by decide +kernel
theorem dX0_init_21 : decode cX0_init 21 = .ok (.newarray .int, 2) := by decide +kernel
theorem dX0_init_23 : decode cX0_init 23 = .ok (.putfield 20, 3) := by decide +kernel
theorem dX0_init_26 : decode cX0_init 26 = .ok (.aload_n 0, 1) := by decide +kernel
theorem dX0_init_27 : decode cX0_init 27 = .ok (.bipush 8, 2) := by decide +kernel
theorem dX0_init_29 : decode cX0_init 29 = .ok (.newarray .int, 2) := by decide +kernel
theorem dX0_init_31 : decode cX0_init 31 = .ok (.putfield 24, 3) := by decide +kernel
theorem dX0_init_34 : decode cX0_init 34 = .ok (.return_, 1) := by decide +kernel
set_option maxRecDepth 20000 in
theorem ggX0_begin_X2_empty : GoodIn wsX0_begin wsX2_empty := goodIn_r _ [6, 7, 11, 12] (by decide +kernel) (by decide +kernel)
set_option maxRecDepth 20000 in
theorem gX0_begin_X2_empty : GoodIn wsX0_begin (wsV RX0 27 RX2 yX2_empty wsX2_empty) := goodIn_app (goodIn_of _ (by decide +kernel)) ggX0_begin_X2_empty
theorem dX0_begin_0 : decode cX0_begin 0 = .ok (.aload_n 0, 1) := by decide +kernel
theorem dX0_begin_1 : decode cX0_begin 1 = .ok (.getfield 14, 3) := by decide +kernel
theorem dX0_begin_4 : decode cX0_begin 4 = .ok (.invokevirtual 27, 3) := by decide +kernel
theorem dX0_begin_7 : decode cX0_begin 7 = .ok (.return_, 1) := by decide +kernel
set_option maxRecDepth 20000 in
theorem ggX0_add_X2_size : GoodIn wsX0_add wsX2_size := goodIn_r _ [6, 7, 24, 25] (by decide +kernel) (by decide +kernel)
set_option maxRecDepth 20000 in
theorem gX0_add_X2_size : GoodIn wsX0_add (wsV RX0 30 RX2 yX2_size wsX2_size) := goodIn_app (goodIn_of _ (by decide +kernel)) ggX0_add_X2_size
set_option maxRecDepth 20000 in
theorem ggX0_add_X2_append : GoodIn wsX0_add wsX2_append := goodIn_r _ [11, 7, 12, 13, 14, 15, 16, 17, 18, 19, 5, 20, 24, 25] (by decide +kernel) (by decide +kernel)
set_option maxRecDepth 20000 in
theorem gX0_add_X2_append : GoodIn wsX0_add (wsV RX0 34 RX2 yX2_append wsX2_append) := goodIn_app (goodIn_of _ (by decide +kernel)) ggX0_add_X2_append
theorem dX0_add_0 : decode cX0_add 0 = .ok (.aload_n 0, 1) := by decide +kernel
theorem dX0_add_1 : decode cX0_add 1 = .ok (.getfield 14, 3) := by decide +kernel
theorem dX0_add_4 : decode cX0_add 4 = .ok (.aload_n 1, 1) := by decide +kernel
theorem dX0_add_5 : decode cX0_add 5 = .ok (.aload_n 1, 1) := by decide +kernel
theorem dX0_add_6 : decode cX0_add 6 = .ok (.invokevirtual 30, 3) := by decide +kernel
theorem dX0_add_9 : decode cX0_add 9 = .ok (.invokevirtual 34, 3) := by decide +kernel
theorem dX0_add_12 : decode cX0_add 12 = .ok (.return_, 1) := by decide +kernel
set_option maxRecDepth 20000 in
theorem ggX0_addXor_X2_appendXor : GoodIn wsX0_addXor wsX2_appendXor := goodIn_r _ [6, 7, 8, 9, 10, 11, 5, 12, 16, 17] (by decide +kernel) (by decide +kernel)
set_option maxRecDepth 20000 in
theorem gX0_addXor_X2_appendXor : GoodIn wsX0_addXor (wsV RX0 38 RX2 yX2_appendXor wsX2_appendXor) := goodIn_app (goodIn_of _ (by decide +kernel)) ggX0_addXor_X2_appendXor
theorem dX0_addXor_0 : decode cX0_addXor 0 = .ok (.aload_n 0, 1) := by decide +kernel
theorem dX0_addXor_1 : decode cX0_addXor 1 = .ok (.getfield 14, 3) := by decide +kernel
theorem dX0_addXor_4 : decode cX0_addXor 4 = .ok (.aload_n 1, 1) := by decide +kernel
theorem dX0_addXor_5 : decode cX0_addXor 5 = .ok (.iload_n 2, 1) := by decide +kernel
theorem dX0_addXor_6 : decode cX0_addXor 6 = .ok (.invokevirtual 38, 3) := by decide +kernel
theorem dX0_addXor_9 : decode cX0_addXor 9 = .ok (.return_, 1) := by decide +kernel
set_option maxRecDepth 20000 in
theorem ggX0_addByte_X2_put : GoodIn wsX0_addByte wsX2_put := goodIn_r _ [6, 7, 8, 12, 13] (by decide +kernel) (by decide +kernel)
set_option maxRecDepth 20000 in
theorem gX0_addByte_X2_put : GoodIn wsX0_addByte (wsV RX0 41 RX2 yX2_put wsX2_put) := goodIn_app (goodIn_of _ (by decide +kernel)) ggX0_addByte_X2_put
theorem dX0_addByte_0 : decode cX0_addByte 0 = .ok (.aload_n 0, 1) := by decide +kernel
theorem dX0_addByte_1 : decode cX0_addByte 1 = .ok (.getfield 14, 3) := by decide +kernel
theorem dX0_addByte_4 : decode cX0_addByte 4 = .ok (.iload_n 1, 1) := by decide +kernel
theorem dX0_addByte_5 : decode cX0_addByte 5 = .ok (.invokevirtual 41, 3) := by decide +kernel
theorem dX0_addByte_8 : decode cX0_addByte 8 = .ok (.return_, 1) := by decide +kernel
set_option maxRecDepth 20000 in
theorem ggX0_end_X0_pad : GoodIn wsX0_end wsX0_pad := goodIn_r _ [12, 7, 13, 14, 15, 16, 17, 18, 19, 20, 21, 22, 23, 24, 25, 26, 27, 28, 29, 30, 31, 32, 62, 63, 64, 65, 66] (by decide +kernel) (by decide +kernel)
set_option maxRecDepth 20000 in
theorem gX0_end_X0_pad : GoodIn wsX0_end (wsV RX0 44 RX0 yX0_pad wsX0_pad) := goodIn_app (goodIn_of _ (by decide +kernel)) ggX0_end_X0_pad
set_option maxRecDepth 20000 in
theorem ggX0_end_X2_size : GoodIn wsX0_end wsX2_size := goodIn_r _ [17, 18, 65, 66] (by decide +kernel) (by decide +kernel)
set_option maxRecDepth 20000 in
theorem gX0_end_X2_size : GoodIn wsX0_end (wsV RX0 30 RX2 yX2_size wsX2_size) := goodIn_app (goodIn_of _ (by decide +kernel)) ggX0_end_X2_size
set_option maxRecDepth 20000 in
theorem ggX0_end_X0_spread : GoodIn wsX0_end wsX0_spread := goodIn_r _ [36, 37, 7, 38, 39, 40, 16, 41, 42, 43, 44, 45, 18, 23, 46, 47, 48, 49, 62, 63, 64, 65, 66] (by decide +kernel) (by decide +kernel)
set_option maxRecDepth 20000 in
theorem gX0_end_X0_spread : GoodIn wsX0_end (wsV RX0 56 RX0 yX0_spread wsX0_spread) := goodIn_app (goodIn_of _ (by decide +kernel)) ggX0_end_X0_spread
set_option maxRecDepth 20000 in
theorem ggX0_end_X0_mix : GoodIn wsX0_end wsX0_mix := goodIn_r _ [53, 2, 54, 37, 55, 56, 11, 57, 46, 47, 48, 49, 62, 63, 64] (by decide +kernel) (by decide +kernel)
set_option maxRecDepth 20000 in
theorem gX0_end_X0_mix : GoodIn wsX0_end (wsV RX0 59 RX0 yX0_mix wsX0_mix) := goodIn_app (goodIn_of _ (by decide +kernel)) ggX0_end_X0_mix
set_option maxRecDepth 20000 in
theorem ggX0_end_X2_empty : GoodIn wsX0_end wsX2_empty := goodIn_r _ [61, 18, 65, 66] (by decide +kernel) (by decide +kernel)
set_option maxRecDepth 20000 in
theorem gX0_end_X2_empty : GoodIn wsX0_end (wsV RX0 27 RX2 yX2_empty wsX2_empty) := goodIn_app (goodIn_of _ (by decide +kernel)) ggX0_end_X2_empty
set_option maxRecDepth 20000 in
theorem ggX0_end_X2_putWord : GoodIn wsX0_end wsX2_putWord := goodIn_r _ [31, 32, 20, 21, 16, 22, 18, 23, 65, 66] (by decide +kernel) (by decide +kernel)
set_option maxRecDepth 20000 in
theorem gX0_end_X2_putWord : GoodIn wsX0_end (wsV RX0 62 RX2 yX2_putWord wsX2_putWord) := goodIn_app (goodIn_of _ (by decide +kernel)) ggX0_end_X2_putWord
theorem dX0_end_0 : decode cX0_end 0 = .ok (.aload_n 0, 1) := by decide +kernel
theorem dX0_end_1 : decode cX0_end 1 = .ok (.invokevirtual 44, 3) := by decide +kernel
theorem dX0_end_4 : decode cX0_end 4 = .ok (.getstatic 47, 3) := by decide +kernel
theorem dX0_end_7 : decode cX0_end 7 = .ok (.iconst 0, 1) := by decide +kernel
theorem dX0_end_8 : decode cX0_end 8 = .ok (.aload_n 0, 1) := by decide +kernel
theorem dX0_end_9 : decode cX0_end 9 = .ok (.getfield 24, 3) := by decide +kernel
theorem dX0_end_12 : decode cX0_end 12 = .ok (.iconst 0, 1) := by decide +kernel
theorem dX0_end_13 : decode cX0_end 13 = .ok (.bipush 8, 2) := by decide +kernel
theorem dX0_end_15 : decode cX0_end 15 = .ok (.invokestatic 50, 3) := by decide +kernel
theorem dX0_end_18 : decode cX0_end 18 = .ok (.iconst 0, 1) := by decide +kernel
theorem dX0_end_19 : decode cX0_end 19 = .ok (.istore_n 2, 1) := by decide +kernel
theorem dX0_end_20 : decode cX0_end 20 = .ok (.iload_n 2, 1) := by decide +kernel
theorem dX0_end_21 : decode cX0_end 21 = .ok (.aload_n 0, 1) := by decide +kernel
theorem dX0_end_22 : decode cX0_end 22 = .ok (.getfield 14, 3) := by decide +kernel
theorem dX0_end_25 : decode cX0_end 25 = .ok (.invokevirtual 30, 3) := by decide +kernel
theorem dX0_end_28 : decode cX0_end 28 = .ok (.if_icmp .ge 18, 3) := by decide +kernel
theorem dX0_end_31 : decode cX0_end 31 = .ok (.aload_n 0, 1) := by decide +kernel
theorem dX0_end_32 : decode cX0_end 32 = .ok (.iload_n 2, 1) := by decide +kernel
theorem dX0_end_33 : decode cX0_end 33 = .ok (.invokevirtual 56, 3) := by decide +kernel
theorem dX0_end_36 : decode cX0_end 36 = .ok (.aload_n 0, 1) := by decide +kernel
theorem dX0_end_37 : decode cX0_end 37 = .ok (.invokevirtual 59, 3) := by decide +kernel
theorem dX0_end_40 : decode cX0_end 40 = .ok (.iinc 2 64, 3) := by decide +kernel
theorem dX0_end_43 : decode cX0_end 43 = .ok (.goto (-23), 3) := by decide +kernel
theorem dX0_end_46 : decode cX0_end 46 = .ok (.aload_n 1, 1) := by decide +kernel
theorem dX0_end_47 : decode cX0_end 47 = .ok (.invokevirtual 27, 3) := by decide +kernel
theorem dX0_end_50 : decode cX0_end 50 = .ok (.iconst 0, 1) := by decide +kernel
theorem dX0_end_51 : decode cX0_end 51 = .ok (.istore_n 2, 1) := by decide +kernel
theorem dX0_end_52 : decode cX0_end 52 = .ok (.iload_n 2, 1) := by decide +kernel
theorem dX0_end_53 : decode cX0_end 53 = .ok (.bipush 8, 2) := by decide +kernel
theorem dX0_end_55 : decode cX0_end 55 = .ok (.if_icmp .ge 19, 3) := by decide +kernel
theorem dX0_end_58 : decode cX0_end 58 = .ok (.aload_n 1, 1) := by decide +kernel
theorem dX0_end_59 : decode cX0_end 59 = .ok (.aload_n 0, 1) := by decide +kernel
theorem dX0_end_60 : decode cX0_end 60 = .ok (.getfield 24, 3) := by decide +kernel
theorem dX0_end_63 : decode cX0_end 63 = .ok (.iload_n 2, 1) := by decide +kernel
theorem dX0_end_64 : decode cX0_end 64 = .ok (.iaload, 1) := by decide +kernel
theorem dX0_end_65 : decode cX0_end 65 = .ok (.invokevirtual 62, 3) := by decide +kernel
theorem dX0_end_68 : decode cX0_end 68 = .ok (.iinc 2 1, 3) := by decide +kernel
theorem dX0_end_71 : decode cX0_end 71 = .ok (.goto (-19), 3) := by decide +kernel
theorem dX0_end_74 : decode cX0_end 74 = .ok (.return_, 1) := by decide +kernel
set_option maxRecDepth 20000 in
theorem ggX0_pad_X2_size : GoodIn wsX0_pad wsX2_size := goodIn_r _ [6, 7, 25, 26] (by decide +kernel) (by decide +kernel)
set_option maxRecDepth 20000 in
theorem gX0_pad_X2_size : GoodIn wsX0_pad (wsV RX0 30 RX2 yX2_size wsX2_size) := goodIn_app (goodIn_of _ (by decide +kernel)) ggX0_pad_X2_size
set_option maxRecDepth 20000 in
theorem ggX0_pad_X2_put : GoodIn wsX0_pad wsX2_put := goodIn_r _ [11, 7, 12, 25, 26] (by decide +kernel) (by decide +kernel)
set_option maxRecDepth 20000 in
theorem gX0_pad_X2_put : GoodIn wsX0_pad (wsV RX0 41 RX2 yX2_put wsX2_put) := goodIn_app (goodIn_of _ (by decide +kernel)) ggX0_pad_X2_put
set_option maxRecDepth 20000 in
theorem ggX0_pad_J9_floorMod_7cf53 : GoodIn wsX0_pad wsJ9_floorMod_7cf53 := goodIn_r _ [16] (by decide +kernel) (by decide +kernel)
set_option maxRecDepth 20000 in
theorem gX0_pad_J9_floorMod_7cf53 : GoodIn wsX0_pad (va_wsS RX0 65 yJ9_floorMod_7cf53 wsJ9_floorMod_7cf53) := goodIn_app (goodIn_of _ (by decide +kernel)) ggX0_pad_J9_floorMod_7cf53
set_option maxRecDepth 20000 in
theorem ggX0_pad_X2_putWord : GoodIn wsX0_pad wsX2_putWord := goodIn_r _ [20, 21, 9, 10, 5, 11, 7, 12, 25, 26] (by decide +kernel) (by decide +kernel)
set_option maxRecDepth 20000 in
theorem gX0_pad_X2_putWord : GoodIn wsX0_pad (wsV RX0 62 RX2 yX2_putWord wsX2_putWord) := goodIn_app (goodIn_of _ (by decide +kernel)) ggX0_pad_X2_putWord
theorem dX0_pad_0 : decode cX0_pad 0 = .ok (.aload_n 0, 1) := by decide +kernel
theorem dX0_pad_1 : decode cX0_pad 1 = .ok (.getfield 14, 3) := by decide +kernel
theorem dX0_pad_4 : decode cX0_pad 4 = .ok (.invokevirtual 30, 3) := by decide +kernel
theorem dX0_pad_7 : decode cX0_pad 7 = .ok (.bipush 8, 2) := by decide +kernel
theorem dX0_pad_9 : decode cX0_pad 9 = .ok (.imul, 1) := by decide +kernel
theorem dX0_pad_10 : decode cX0_pad 10 = .ok (.istore_n 1, 1) := by decide +kernel
theorem dX0_pad_11 : decode cX0_pad 11 = .ok (.aload_n 0, 1) := by decide +kernel
theorem dX0_pad_12 : decode cX0_pad 12 = .ok (.getfield 14, 3) := by decide +kernel
theorem dX0_pad_15 : decode cX0_pad 15 = .ok (.sipush 128, 3) := by decide +kernel
theorem dX0_pad_18 : decode cX0_pad 18 = .ok (.invokevirtual 41, 3) := by decide +kernel
theorem dX0_pad_21 : decode cX0_pad 21 = .ok (.bipush 56, 2) := by decide +kernel
theorem dX0_pad_23 : decode cX0_pad 23 = .ok (.aload_n 0, 1) := by decide +kernel
theorem dX0_pad_24 : decode cX0_pad 24 = .ok (.getfield 14, 3) := by decide +kernel
theorem dX0_pad_27 : decode cX0_pad 27 = .ok (.invokevirtual 30, 3) := by decide +kernel
theorem dX0_pad_30 : decode cX0_pad 30 = .ok (.isub, 1) := by decide +kernel
theorem dX0_pad_31 : decode cX0_pad 31 = .ok (.bipush 64, 2) := by decide +kernel
theorem dX0_pad_33 : decode cX0_pad 33 = .ok (.invokestatic 65, 3) := by decide +kernel
theorem dX0_pad_36 : decode cX0_pad 36 = .ok (.istore_n 2, 1) := by decide +kernel
theorem dX0_pad_37 : decode cX0_pad 37 = .ok (.iconst 0, 1) := by decide +kernel
theorem dX0_pad_38 : decode cX0_pad 38 = .ok (.istore_n 3, 1) := by decide +kernel
theorem dX0_pad_39 : decode cX0_pad 39 = .ok (.iload_n 3, 1) := by decide +kernel
theorem dX0_pad_40 : decode cX0_pad 40 = .ok (.iload_n 2, 1) := by decide +kernel
theorem dX0_pad_41 : decode cX0_pad 41 = .ok (.if_icmp .ge 17, 3) := by decide +kernel
theorem dX0_pad_44 : decode cX0_pad 44 = .ok (.aload_n 0, 1) := by decide +kernel
theorem dX0_pad_45 : decode cX0_pad 45 = .ok (.getfield 14, 3) := by decide +kernel
theorem dX0_pad_48 : decode cX0_pad 48 = .ok (.iconst 0, 1) := by decide +kernel
theorem dX0_pad_49 : decode cX0_pad 49 = .ok (.invokevirtual 41, 3) := by decide +kernel
theorem dX0_pad_52 : decode cX0_pad 52 = .ok (.iinc 3 1, 3) := by decide +kernel
theorem dX0_pad_55 : decode cX0_pad 55 = .ok (.goto (-16), 3) := by decide +kernel
theorem dX0_pad_58 : decode cX0_pad 58 = .ok (.aload_n 0, 1) := by decide +kernel
theorem dX0_pad_59 : decode cX0_pad 59 = .ok (.getfield 14, 3) := by decide +kernel
theorem dX0_pad_62 : decode cX0_pad 62 = .ok (.iconst 0, 1) := by decide +kernel
theorem dX0_pad_63 : decode cX0_pad 63 = .ok (.invokevirtual 62, 3) := by decide +kernel
theorem dX0_pad_66 : decode cX0_pad 66 = .ok (.aload_n 0, 1) := by decide +kernel
theorem dX0_pad_67 : decode cX0_pad 67 = .ok (.getfield 14, 3) := by decide +kernel
theorem dX0_pad_70 : decode cX0_pad 70 = .ok (.iload_n 1, 1) := by decide +kernel
theorem dX0_pad_71 : decode cX0_pad 71 = .ok (.invokevirtual 62, 3) := by decide +kernel
theorem dX0_pad_74 : decode cX0_pad 74 = .ok (.return_, 1) := by decide +kernel
set_option maxRecDepth 20000 in
theorem ggX0_spread_X2_wordAt : GoodIn wsX0_spread wsX2_wordAt := goodIn_r _ [7, 8, 9, 10, 6, 11, 12, 13, 21, 22] (by decide +kernel) (by decide +kernel)
set_option maxRecDepth 20000 in
theorem gX0_spread_X2_wordAt : GoodIn wsX0_spread (wsV RX0 71 RX2 yX2_wordAt wsX2_wordAt) := goodIn_app (goodIn_of _ (by decide +kernel)) ggX0_spread_X2_wordAt
set_option maxRecDepth 20000 in
theorem ggX0_spread_J6_rotateRight_7cf53 : GoodIn wsX0_spread wsJ6_rotateRight_7cf53 := goodIn_r _ [17] (by decide +kernel) (by decide +kernel)
set_option maxRecDepth 20000 in
theorem gX0_spread_J6_rotateRight_7cf53 : GoodIn wsX0_spread (va_wsS RX0 75 yJ6_rotateRight_7cf53 wsJ6_rotateRight_7cf53) := goodIn_app (goodIn_of _ (by decide +kernel)) ggX0_spread_J6_rotateRight_7cf53
theorem dX0_spread_0 : decode cX0_spread 0 = .ok (.iconst 0, 1) := by decide +kernel
theorem dX0_spread_1 : decode cX0_spread 1 = .ok (.istore_n 2, 1) := by decide +kernel
theorem dX0_spread_2 : decode cX0_spread 2 = .ok (.iload_n 2, 1) := by decide +kernel
theorem dX0_spread_3 : decode cX0_spread 3 = .ok (.bipush 16, 2) := by decide +kernel
theorem dX0_spread_5 : decode cX0_spread 5 = .ok (.if_icmp .ge 27, 3) := by decide +kernel
theorem dX0_spread_8 : decode cX0_spread 8 = .ok (.aload_n 0, 1) := by decide +kernel
theorem dX0_spread_9 : decode cX0_spread 9 = .ok (.getfield 20, 3) := by decide +kernel
theorem dX0_spread_12 : decode cX0_spread 12 = .ok (.iload_n 2, 1) := by decide +kernel
theorem dX0_spread_13 : decode cX0_spread 13 = .ok (.aload_n 0, 1) := by decide +kernel
theorem dX0_spread_14 : decode cX0_spread 14 = .ok (.getfield 14, 3) := by decide +kernel
theorem dX0_spread_17 : decode cX0_spread 17 = .ok (.iload_n 1, 1) := by decide +kernel
theorem dX0_spread_18 : decode cX0_spread 18 = .ok (.iconst 4, 1) := by decide +kernel
theorem dX0_spread_19 : decode cX0_spread 19 = .ok (.iload_n 2, 1) := by decide +kernel
theorem dX0_spread_20 : decode cX0_spread 20 = .ok (.imul, 1) := by decide +kernel
theorem dX0_spread_21 : decode cX0_spread 21 = .ok (.iadd, 1) := by decide +kernel
theorem dX0_spread_22 : decode cX0_spread 22 = .ok (.invokevirtual 71, 3) := by decide +kernel
theorem dX0_spread_25 : decode cX0_spread 25 = .ok (.iastore, 1) := by decide +kernel
theorem dX0_spread_26 : decode cX0_spread 26 = .ok (.iinc 2 1, 3) := by decide +kernel
theorem dX0_spread_29 : decode cX0_spread 29 = .ok (.goto (-27), 3) := by decide +kernel
theorem dX0_spread_32 : decode cX0_spread 32 = .ok (.bipush 16, 2) := by decide +kernel
theorem dX0_spread_34 : decode cX0_spread 34 = .ok (.istore_n 2, 1) := by decide +kernel
theorem dX0_spread_35 : decode cX0_spread 35 = .ok (.iload_n 2, 1) := by decide +kernel
theorem dX0_spread_36 : decode cX0_spread 36 = .ok (.bipush 64, 2) := by decide +kernel
theorem dX0_spread_38 : decode cX0_spread 38 = .ok (.if_icmp .ge 102, 3) := by decide +kernel
theorem dX0_spread_41 : decode cX0_spread 41 = .ok (.aload_n 0, 1) := by decide +kernel
theorem dX0_spread_42 : decode cX0_spread 42 = .ok (.getfield 20, 3) := by decide +kernel
theorem dX0_spread_45 : decode cX0_spread 45 = .ok (.iload_n 2, 1) := by decide +kernel
theorem dX0_spread_46 : decode cX0_spread 46 = .ok (.bipush 15, 2) := by decide +kernel
theorem dX0_spread_48 : decode cX0_spread 48 = .ok (.isub, 1) := by decide +kernel
theorem dX0_spread_49 : decode cX0_spread 49 = .ok (.iaload, 1) := by decide +kernel
theorem dX0_spread_50 : decode cX0_spread 50 = .ok (.istore_n 3, 1) := by decide +kernel
theorem dX0_spread_51 : decode cX0_spread 51 = .ok (.aload_n 0, 1) := by decide +kernel
theorem dX0_spread_52 : decode cX0_spread 52 = .ok (.getfield 20, 3) := by decide +kernel
theorem dX0_spread_55 : decode cX0_spread 55 = .ok (.iload_n 2, 1) := by decide +kernel
theorem dX0_spread_56 : decode cX0_spread 56 = .ok (.iconst 2, 1) := by decide +kernel
theorem dX0_spread_57 : decode cX0_spread 57 = .ok (.isub, 1) := by decide +kernel
theorem dX0_spread_58 : decode cX0_spread 58 = .ok (.iaload, 1) := by decide +kernel
theorem dX0_spread_59 : decode cX0_spread 59 = .ok (.istore 4, 2) := by decide +kernel
theorem dX0_spread_61 : decode cX0_spread 61 = .ok (.iload_n 3, 1) := by decide +kernel
theorem dX0_spread_62 : decode cX0_spread 62 = .ok (.bipush 7, 2) := by decide +kernel
theorem dX0_spread_64 : decode cX0_spread 64 = .ok (.invokestatic 75, 3) := by decide +kernel
theorem dX0_spread_67 : decode cX0_spread 67 = .ok (.iload_n 3, 1) := by decide +kernel
theorem dX0_spread_68 : decode cX0_spread 68 = .ok (.bipush 18, 2) := by decide +kernel
theorem dX0_spread_70 : decode cX0_spread 70 = .ok (.invokestatic 75, 3) := by decide +kernel
theorem dX0_spread_73 : decode cX0_spread 73 = .ok (.ixor, 1) := by decide +kernel
theorem dX0_spread_74 : decode cX0_spread 74 = .ok (.iload_n 3, 1) := by decide +kernel
theorem dX0_spread_75 : decode cX0_spread 75 = .ok (.iconst 3, 1) := by decide +kernel
theorem dX0_spread_76 : decode cX0_spread 76 = .ok (.iushr, 1) := by decide +kernel
theorem dX0_spread_77 : decode cX0_spread 77 = .ok (.ixor, 1) := by decide +kernel
theorem dX0_spread_78 : decode cX0_spread 78 = .ok (.istore 5, 2) := by decide +kernel
theorem dX0_spread_80 : decode cX0_spread 80 = .ok (.iload 4, 2) := by decide +kernel
theorem dX0_spread_82 : decode cX0_spread 82 = .ok (.bipush 17, 2) := by decide +kernel
theorem dX0_spread_84 : decode cX0_spread 84 = .ok (.invokestatic 75, 3) := by decide +kernel
theorem dX0_spread_87 : decode cX0_spread 87 = .ok (.iload 4, 2) := by decide +kernel
theorem dX0_spread_89 : decode cX0_spread 89 = .ok (.bipush 19, 2) := by decide +kernel
theorem dX0_spread_91 : decode cX0_spread 91 = .ok (.invokestatic 75, 3) := by decide +kernel
theorem dX0_spread_94 : decode cX0_spread 94 = .ok (.ixor, 1) := by decide +kernel
theorem dX0_spread_95 : decode cX0_spread 95 = .ok (.iload 4, 2) := by decide +kernel
theorem dX0_spread_97 : decode cX0_spread 97 = .ok (.bipush 10, 2) := by decide +kernel
theorem dX0_spread_99 : decode cX0_spread 99 = .ok (.iushr, 1) := by decide +kernel
theorem dX0_spread_100 : decode cX0_spread 100 = .ok (.ixor, 1) := by decide +kernel
theorem dX0_spread_101 : decode cX0_spread 101 = .ok (.istore 6, 2) := by decide +kernel
theorem dX0_spread_103 : decode cX0_spread 103 = .ok (.aload_n 0, 1) := by decide +kernel
theorem dX0_spread_104 : decode cX0_spread 104 = .ok (.getfield 20, 3) := by decide +kernel
theorem dX0_spread_107 : decode cX0_spread 107 = .ok (.iload_n 2, 1) := by decide +kernel
theorem dX0_spread_108 : decode cX0_spread 108 = .ok (.aload_n 0, 1) := by decide +kernel
theorem dX0_spread_109 : decode cX0_spread 109 = .ok (.getfield 20, 3) := by decide +kernel
theorem dX0_spread_112 : decode cX0_spread 112 = .ok (.iload_n 2, 1) := by decide +kernel
theorem dX0_spread_113 : decode cX0_spread 113 = .ok (.bipush 16, 2) := by decide +kernel
theorem dX0_spread_115 : decode cX0_spread 115 = .ok (.isub, 1) := by decide +kernel
theorem dX0_spread_116 : decode cX0_spread 116 = .ok (.iaload, 1) := by decide +kernel
theorem dX0_spread_117 : decode cX0_spread 117 = .ok (.iload 5, 2) := by decide +kernel
theorem dX0_spread_119 : decode cX0_spread 119 = .ok (.iadd, 1) := by decide +kernel
theorem dX0_spread_120 : decode cX0_spread 120 = .ok (.aload_n 0, 1) := by decide +kernel
theorem dX0_spread_121 : decode cX0_spread 121 = .ok (.getfield 20, 3) := by decide +kernel
theorem dX0_spread_124 : decode cX0_spread 124 = .ok (.iload_n 2, 1) := by decide +kernel
theorem dX0_spread_125 : decode cX0_spread 125 = .ok (.bipush 7, 2) := by decide +kernel
theorem dX0_spread_127 : decode cX0_spread 127 = .ok (.isub, 1) := by decide +kernel
theorem dX0_spread_128 : decode cX0_spread 128 = .ok (.iaload, 1) := by decide +kernel
theorem dX0_spread_129 : decode cX0_spread 129 = .ok (.iadd, 1) := by decide +kernel
theorem dX0_spread_130 : decode cX0_spread 130 = .ok (.iload 6, 2) := by decide +kernel
theorem dX0_spread_132 : decode cX0_spread 132 = .ok (.iadd, 1) := by decide +kernel
theorem dX0_spread_133 : decode cX0_spread 133 = .ok (.iastore, 1) := by decide +kernel
theorem dX0_spread_134 : decode cX0_spread 134 = .ok (.iinc 2 1, 3) := by decide +kernel
theorem dX0_spread_137 : decode cX0_spread 137 = .ok (.goto (-102), 3) := by decide +kernel
theorem dX0_spread_140 : decode cX0_spread 140 = .ok (.return_, 1) := by decide +kernel
set_option maxRecDepth 20000 in
theorem ggX0_mix_X0_highSum : GoodIn wsX0_mix wsX0_highSum := goodIn_r _ [7, 8, 9, 10, 11] (by decide +kernel) (by decide +kernel)
set_option maxRecDepth 20000 in
theorem gX0_mix_X0_highSum : GoodIn wsX0_mix (va_wsS RX0 80 yX0_highSum wsX0_highSum) := goodIn_app (goodIn_of _ (by decide +kernel)) ggX0_mix_X0_highSum
theorem dX0_mix_0 : decode cX0_mix 0 = .ok (.aload_n 0, 1) := by decide +kernel
theorem dX0_mix_1 : decode cX0_mix 1 = .ok (.getfield 24, 3) := by decide +kernel
theorem dX0_mix_4 : decode cX0_mix 4 = .ok (.iconst 0, 1) := by decide +kernel
theorem dX0_mix_5 : decode cX0_mix 5 = .ok (.iaload, 1) := by decide +kernel
theorem dX0_mix_6 : decode cX0_mix 6 = .ok (.istore_n 1, 1) := by decide +kernel
theorem dX0_mix_7 : decode cX0_mix 7 = .ok (.aload_n 0, 1) := by decide +kernel
theorem dX0_mix_8 : decode cX0_mix 8 = .ok (.getfield 24, 3) := by decide +kernel
theorem dX0_mix_11 : decode cX0_mix 11 = .ok (.iconst 1, 1) := by decide +kernel
theorem dX0_mix_12 : decode cX0_mix 12 = .ok (.iaload, 1) := by decide +kernel
theorem dX0_mix_13 : decode cX0_mix 13 = .ok (.istore_n 2, 1) := by decide +kernel
theorem dX0_mix_14 : decode cX0_mix 14 = .ok (.aload_n 0, 1) := by decide +kernel
theorem dX0_mix_15 : decode cX0_mix 15 = .ok (.getfield 24, 3) := by decide +kernel
theorem dX0_mix_18 : decode cX0_mix 18 = .ok (.iconst 2, 1) := by decide +kernel
theorem dX0_mix_19 : decode cX0_mix 19 = .ok (.iaload, 1) := by decide +kernel
theorem dX0_mix_20 : decode cX0_mix 20 = .ok (.istore_n 3, 1) := by decide +kernel
theorem dX0_mix_21 : decode cX0_mix 21 = .ok (.aload_n 0, 1) := by decide +kernel
theorem dX0_mix_22 : decode cX0_mix 22 = .ok (.getfield 24, 3) := by decide +kernel
theorem dX0_mix_25 : decode cX0_mix 25 = .ok (.iconst 3, 1) := by decide +kernel
theorem dX0_mix_26 : decode cX0_mix 26 = .ok (.iaload, 1) := by decide +kernel
theorem dX0_mix_27 : decode cX0_mix 27 = .ok (.istore 4, 2) := by decide +kernel
theorem dX0_mix_29 : decode cX0_mix 29 = .ok (.aload_n 0, 1) := by decide +kernel
theorem dX0_mix_30 : decode cX0_mix 30 = .ok (.getfield 24, 3) := by decide +kernel
theorem dX0_mix_33 : decode cX0_mix 33 = .ok (.iconst 4, 1) := by decide +kernel
theorem dX0_mix_34 : decode cX0_mix 34 = .ok (.iaload, 1) := by decide +kernel
theorem dX0_mix_35 : decode cX0_mix 35 = .ok (.istore 5, 2) := by decide +kernel
theorem dX0_mix_37 : decode cX0_mix 37 = .ok (.aload_n 0, 1) := by decide +kernel
theorem dX0_mix_38 : decode cX0_mix 38 = .ok (.getfield 24, 3) := by decide +kernel
theorem dX0_mix_41 : decode cX0_mix 41 = .ok (.iconst 5, 1) := by decide +kernel
theorem dX0_mix_42 : decode cX0_mix 42 = .ok (.iaload, 1) := by decide +kernel
theorem dX0_mix_43 : decode cX0_mix 43 = .ok (.istore 6, 2) := by decide +kernel
theorem dX0_mix_45 : decode cX0_mix 45 = .ok (.aload_n 0, 1) := by decide +kernel
theorem dX0_mix_46 : decode cX0_mix 46 = .ok (.getfield 24, 3) := by decide +kernel
theorem dX0_mix_49 : decode cX0_mix 49 = .ok (.bipush 6, 2) := by decide +kernel
theorem dX0_mix_51 : decode cX0_mix 51 = .ok (.iaload, 1) := by decide +kernel
theorem dX0_mix_52 : decode cX0_mix 52 = .ok (.istore 7, 2) := by decide +kernel
theorem dX0_mix_54 : decode cX0_mix 54 = .ok (.aload_n 0, 1) := by decide +kernel
theorem dX0_mix_55 : decode cX0_mix 55 = .ok (.getfield 24, 3) := by decide +kernel
theorem dX0_mix_58 : decode cX0_mix 58 = .ok (.bipush 7, 2) := by decide +kernel
theorem dX0_mix_60 : decode cX0_mix 60 = .ok (.iaload, 1) := by decide +kernel
theorem dX0_mix_61 : decode cX0_mix 61 = .ok (.istore 8, 2) := by decide +kernel
theorem dX0_mix_63 : decode cX0_mix 63 = .ok (.iconst 0, 1) := by decide +kernel
theorem dX0_mix_64 : decode cX0_mix 64 = .ok (.istore 9, 2) := by decide +kernel
theorem dX0_mix_66 : decode cX0_mix 66 = .ok (.iload 9, 2) := by decide +kernel
theorem dX0_mix_68 : decode cX0_mix 68 = .ok (.bipush 64, 2) := by decide +kernel
theorem dX0_mix_70 : decode cX0_mix 70 = .ok (.if_icmp .ge 109, 3) := by decide +kernel
theorem dX0_mix_73 : decode cX0_mix 73 = .ok (.iload 8, 2) := by decide +kernel
theorem dX0_mix_75 : decode cX0_mix 75 = .ok (.iload 5, 2) := by decide +kernel
theorem dX0_mix_77 : decode cX0_mix 77 = .ok (.bipush 6, 2) := by decide +kernel
theorem dX0_mix_79 : decode cX0_mix 79 = .ok (.bipush 11, 2) := by decide +kernel
theorem dX0_mix_81 : decode cX0_mix 81 = .ok (.bipush 25, 2) := by decide +kernel
theorem dX0_mix_83 : decode cX0_mix 83 = .ok (.invokestatic 80, 3) := by decide +kernel
theorem dX0_mix_86 : decode cX0_mix 86 = .ok (.iadd, 1) := by decide +kernel
theorem dX0_mix_87 : decode cX0_mix 87 = .ok (.iload 5, 2) := by decide +kernel
theorem dX0_mix_89 : decode cX0_mix 89 = .ok (.iload 6, 2) := by decide +kernel
theorem dX0_mix_91 : decode cX0_mix 91 = .ok (.iand, 1) := by decide +kernel
theorem dX0_mix_92 : decode cX0_mix 92 = .ok (.iload 5, 2) := by decide +kernel
theorem dX0_mix_94 : decode cX0_mix 94 = .ok (.iconst (-1), 1) := by decide +kernel
theorem dX0_mix_95 : decode cX0_mix 95 = .ok (.ixor, 1) := by decide +kernel
theorem dX0_mix_96 : decode cX0_mix 96 = .ok (.iload 7, 2) := by decide +kernel
theorem dX0_mix_98 : decode cX0_mix 98 = .ok (.iand, 1) := by decide +kernel
theorem dX0_mix_99 : decode cX0_mix 99 = .ok (.ixor, 1) := by decide +kernel
theorem dX0_mix_100 : decode cX0_mix 100 = .ok (.iadd, 1) := by decide +kernel
theorem dX0_mix_101 : decode cX0_mix 101 = .ok (.getstatic 84, 3) := by decide +kernel
theorem dX0_mix_104 : decode cX0_mix 104 = .ok (.iload 9, 2) := by decide +kernel
theorem dX0_mix_106 : decode cX0_mix 106 = .ok (.iaload, 1) := by decide +kernel
theorem dX0_mix_107 : decode cX0_mix 107 = .ok (.iadd, 1) := by decide +kernel
theorem dX0_mix_108 : decode cX0_mix 108 = .ok (.aload_n 0, 1) := by decide +kernel
theorem dX0_mix_109 : decode cX0_mix 109 = .ok (.getfield 20, 3) := by decide +kernel
theorem dX0_mix_112 : decode cX0_mix 112 = .ok (.iload 9, 2) := by decide +kernel
theorem dX0_mix_114 : decode cX0_mix 114 = .ok (.iaload, 1) := by decide +kernel
theorem dX0_mix_115 : decode cX0_mix 115 = .ok (.iadd, 1) := by decide +kernel
theorem dX0_mix_116 : decode cX0_mix 116 = .ok (.istore 10, 2) := by decide +kernel
theorem dX0_mix_118 : decode cX0_mix 118 = .ok (.iload_n 1, 1) := by decide +kernel
theorem dX0_mix_119 : decode cX0_mix 119 = .ok (.iconst 2, 1) := by decide +kernel
theorem dX0_mix_120 : decode cX0_mix 120 = .ok (.bipush 13, 2) := by decide +kernel
theorem dX0_mix_122 : decode cX0_mix 122 = .ok (.bipush 22, 2) := by decide +kernel
theorem dX0_mix_124 : decode cX0_mix 124 = .ok (.invokestatic 80, 3) := by decide +kernel
theorem dX0_mix_127 : decode cX0_mix 127 = .ok (.iload_n 1, 1) := by decide +kernel
theorem dX0_mix_128 : decode cX0_mix 128 = .ok (.iload_n 2, 1) := by decide +kernel
theorem dX0_mix_129 : decode cX0_mix 129 = .ok (.iand, 1) := by decide +kernel
theorem dX0_mix_130 : decode cX0_mix 130 = .ok (.iload_n 1, 1) := by decide +kernel
theorem dX0_mix_131 : decode cX0_mix 131 = .ok (.iload_n 3, 1) := by decide +kernel
theorem dX0_mix_132 : decode cX0_mix 132 = .ok (.iand, 1) := by decide +kernel
theorem dX0_mix_133 : decode cX0_mix 133 = .ok (.ixor, 1) := by decide +kernel
theorem dX0_mix_134 : decode cX0_mix 134 = .ok (.iload_n 2, 1) := by decide +kernel
theorem dX0_mix_135 : decode cX0_mix 135 = .ok (.iload_n 3, 1) := by decide +kernel
theorem dX0_mix_136 : decode cX0_mix 136 = .ok (.iand, 1) := by decide +kernel
theorem dX0_mix_137 : decode cX0_mix 137 = .ok (.ixor, 1) := by decide +kernel
theorem dX0_mix_138 : decode cX0_mix 138 = .ok (.iadd, 1) := by decide +kernel
theorem dX0_mix_139 : decode cX0_mix 139 = .ok (.istore 11, 2) := by decide +kernel
theorem dX0_mix_141 : decode cX0_mix 141 = .ok (.iload 7, 2) := by decide +kernel
theorem dX0_mix_143 : decode cX0_mix 143 = .ok (.istore 8, 2) := by decide +kernel
theorem dX0_mix_145 : decode cX0_mix 145 = .ok (.iload 6, 2) := by decide +kernel
theorem dX0_mix_147 : decode cX0_mix 147 = .ok (.istore 7, 2) := by decide +kernel
theorem dX0_mix_149 : decode cX0_mix 149 = .ok (.iload 5, 2) := by decide +kernel
theorem dX0_mix_151 : decode cX0_mix 151 = .ok (.istore 6, 2) := by decide +kernel
theorem dX0_mix_153 : decode cX0_mix 153 = .ok (.iload 4, 2) := by decide +kernel
theorem dX0_mix_155 : decode cX0_mix 155 = .ok (.iload 10, 2) := by decide +kernel
theorem dX0_mix_157 : decode cX0_mix 157 = .ok (.iadd, 1) := by decide +kernel
theorem dX0_mix_158 : decode cX0_mix 158 = .ok (.istore 5, 2) := by decide +kernel
theorem dX0_mix_160 : decode cX0_mix 160 = .ok (.iload_n 3, 1) := by decide +kernel
theorem dX0_mix_161 : decode cX0_mix 161 = .ok (.istore 4, 2) := by decide +kernel
theorem dX0_mix_163 : decode cX0_mix 163 = .ok (.iload_n 2, 1) := by decide +kernel
theorem dX0_mix_164 : decode cX0_mix 164 = .ok (.istore_n 3, 1) := by decide +kernel
theorem dX0_mix_165 : decode cX0_mix 165 = .ok (.iload_n 1, 1) := by decide +kernel
theorem dX0_mix_166 : decode cX0_mix 166 = .ok (.istore_n 2, 1) := by decide +kernel
theorem dX0_mix_167 : decode cX0_mix 167 = .ok (.iload 10, 2) := by decide +kernel
theorem dX0_mix_169 : decode cX0_mix 169 = .ok (.iload 11, 2) := by decide +kernel
theorem dX0_mix_171 : decode cX0_mix 171 = .ok (.iadd, 1) := by decide +kernel
theorem dX0_mix_172 : decode cX0_mix 172 = .ok (.istore_n 1, 1) := by decide +kernel
theorem dX0_mix_173 : decode cX0_mix 173 = .ok (.iinc 9 1, 3) := by decide +kernel
theorem dX0_mix_176 : decode cX0_mix 176 = .ok (.goto (-110), 3) := by decide +kernel
theorem dX0_mix_179 : decode cX0_mix 179 = .ok (.aload_n 0, 1) := by decide +kernel
theorem dX0_mix_180 : decode cX0_mix 180 = .ok (.getfield 24, 3) := by decide +kernel
theorem dX0_mix_183 : decode cX0_mix 183 = .ok (.iconst 0, 1) := by decide +kernel
theorem dX0_mix_184 : decode cX0_mix 184 = .ok (.dup2, 1) := by decide +kernel
theorem dX0_mix_185 : decode cX0_mix 185 = .ok (.iaload, 1) := by decide +kernel
theorem dX0_mix_186 : decode cX0_mix 186 = .ok (.iload_n 1, 1) := by decide +kernel
theorem dX0_mix_187 : decode cX0_mix 187 = .ok (.iadd, 1) := by decide +kernel
theorem dX0_mix_188 : decode cX0_mix 188 = .ok (.iastore, 1) := by decide +kernel
theorem dX0_mix_189 : decode cX0_mix 189 = .ok (.aload_n 0, 1) := by decide +kernel
theorem dX0_mix_190 : decode cX0_mix 190 = .ok (.getfield 24, 3) := by decide +kernel
theorem dX0_mix_193 : decode cX0_mix 193 = .ok (.iconst 1, 1) := by decide +kernel
theorem dX0_mix_194 : decode cX0_mix 194 = .ok (.dup2, 1) := by decide +kernel
theorem dX0_mix_195 : decode cX0_mix 195 = .ok (.iaload, 1) := by decide +kernel
theorem dX0_mix_196 : decode cX0_mix 196 = .ok (.iload_n 2, 1) := by decide +kernel
theorem dX0_mix_197 : decode cX0_mix 197 = .ok (.iadd, 1) := by decide +kernel
theorem dX0_mix_198 : decode cX0_mix 198 = .ok (.iastore, 1) := by decide +kernel
theorem dX0_mix_199 : decode cX0_mix 199 = .ok (.aload_n 0, 1) := by decide +kernel
theorem dX0_mix_200 : decode cX0_mix 200 = .ok (.getfield 24, 3) := by decide +kernel
theorem dX0_mix_203 : decode cX0_mix 203 = .ok (.iconst 2, 1) := by decide +kernel
theorem dX0_mix_204 : decode cX0_mix 204 = .ok (.dup2, 1) := by decide +kernel
theorem dX0_mix_205 : decode cX0_mix 205 = .ok (.iaload, 1) := by decide +kernel
theorem dX0_mix_206 : decode cX0_mix 206 = .ok (.iload_n 3, 1) := by decide +kernel
theorem dX0_mix_207 : decode cX0_mix 207 = .ok (.iadd, 1) := by decide +kernel
theorem dX0_mix_208 : decode cX0_mix 208 = .ok (.iastore, 1) := by decide +kernel
theorem dX0_mix_209 : decode cX0_mix 209 = .ok (.aload_n 0, 1) := by decide +kernel
theorem dX0_mix_210 : decode cX0_mix 210 = .ok (.getfield 24, 3) := by decide +kernel
theorem dX0_mix_213 : decode cX0_mix 213 = .ok (.iconst 3, 1) := by decide +kernel
theorem dX0_mix_214 : decode cX0_mix 214 = .ok (.dup2, 1) := by decide +kernel
theorem dX0_mix_215 : decode cX0_mix 215 = .ok (.iaload, 1) := by decide +kernel
theorem dX0_mix_216 : decode cX0_mix 216 = .ok (.iload 4, 2) := by decide +kernel
theorem dX0_mix_218 : decode cX0_mix 218 = .ok (.iadd, 1) := by decide +kernel
theorem dX0_mix_219 : decode cX0_mix 219 = .ok (.iastore, 1) := by decide +kernel
theorem dX0_mix_220 : decode cX0_mix 220 = .ok (.aload_n 0, 1) := by decide +kernel
theorem dX0_mix_221 : decode cX0_mix 221 = .ok (.getfield 24, 3) := by decide +kernel
theorem dX0_mix_224 : decode cX0_mix 224 = .ok (.iconst 4, 1) := by decide +kernel
theorem dX0_mix_225 : decode cX0_mix 225 = .ok (.dup2, 1) := by decide +kernel
theorem dX0_mix_226 : decode cX0_mix 226 = .ok (.iaload, 1) := by decide +kernel
theorem dX0_mix_227 : decode cX0_mix 227 = .ok (.iload 5, 2) := by decide +kernel
theorem dX0_mix_229 : decode cX0_mix 229 = .ok (.iadd, 1) := by decide +kernel
theorem dX0_mix_230 : decode cX0_mix 230 = .ok (.iastore, 1) := by decide +kernel
theorem dX0_mix_231 : decode cX0_mix 231 = .ok (.aload_n 0, 1) := by decide +kernel
theorem dX0_mix_232 : decode cX0_mix 232 = .ok (.getfield 24, 3) := by decide +kernel
theorem dX0_mix_235 : decode cX0_mix 235 = .ok (.iconst 5, 1) := by decide +kernel
theorem dX0_mix_236 : decode cX0_mix 236 = .ok (.dup2, 1) := by decide +kernel
theorem dX0_mix_237 : decode cX0_mix 237 = .ok (.iaload, 1) := by decide +kernel
theorem dX0_mix_238 : decode cX0_mix 238 = .ok (.iload 6, 2) := by decide +kernel
theorem dX0_mix_240 : decode cX0_mix 240 = .ok (.iadd, 1) := by decide +kernel
theorem dX0_mix_241 : decode cX0_mix 241 = .ok (.iastore, 1) := by decide +kernel
theorem dX0_mix_242 : decode cX0_mix 242 = .ok (.aload_n 0, 1) := by decide +kernel
theorem dX0_mix_243 : decode cX0_mix 243 = .ok (.getfield 24, 3) := by decide +kernel
theorem dX0_mix_246 : decode cX0_mix 246 = .ok (.bipush 6, 2) := by decide +kernel
theorem dX0_mix_248 : decode cX0_mix 248 = .ok (.dup2, 1) := by decide +kernel
theorem dX0_mix_249 : decode cX0_mix 249 = .ok (.iaload, 1) := by decide +kernel
theorem dX0_mix_250 : decode cX0_mix 250 = .ok (.iload 7, 2) := by decide +kernel
theorem dX0_mix_252 : decode cX0_mix 252 = .ok (.iadd, 1) := by decide +kernel
theorem dX0_mix_253 : decode cX0_mix 253 = .ok (.iastore, 1) := by decide +kernel
theorem dX0_mix_254 : decode cX0_mix 254 = .ok (.aload_n 0, 1) := by decide +kernel
theorem dX0_mix_255 : decode cX0_mix 255 = .ok (.getfield 24, 3) := by decide +kernel
theorem dX0_mix_258 : decode cX0_mix 258 = .ok (.bipush 7, 2) := by decide +kernel
theorem dX0_mix_260 : decode cX0_mix 260 = .ok (.dup2, 1) := by decide +kernel
theorem dX0_mix_261 : decode cX0_mix 261 = .ok (.iaload, 1) := by decide +kernel
theorem dX0_mix_262 : decode cX0_mix 262 = .ok (.iload 8, 2) := by decide +kernel
theorem dX0_mix_264 : decode cX0_mix 264 = .ok (.iadd, 1) := by decide +kernel
theorem dX0_mix_265 : decode cX0_mix 265 = .ok (.iastore, 1) := by decide +kernel
theorem dX0_mix_266 : decode cX0_mix 266 = .ok (.return_, 1) := by decide +kernel
set_option maxRecDepth 20000 in
theorem ggX0_highSum_J6_rotateRight_7cf53 : GoodIn wsX0_highSum wsJ6_rotateRight_7cf53 := goodIn_r _ [4] (by decide +kernel) (by decide +kernel)
set_option maxRecDepth 20000 in
theorem gX0_highSum_J6_rotateRight_7cf53 : GoodIn wsX0_highSum (va_wsS RX0 75 yJ6_rotateRight_7cf53 wsJ6_rotateRight_7cf53) := goodIn_app (goodIn_of _ (by decide +kernel)) ggX0_highSum_J6_rotateRight_7cf53
theorem dX0_highSum_0 : decode cX0_highSum 0 = .ok (.iload_n 0, 1) := by decide +kernel
theorem dX0_highSum_1 : decode cX0_highSum 1 = .ok (.iload_n 1, 1) := by decide +kernel
theorem dX0_highSum_2 : decode cX0_highSum 2 = .ok (.invokestatic 75, 3) := by decide +kernel
theorem dX0_highSum_5 : decode cX0_highSum 5 = .ok (.iload_n 0, 1) := by decide +kernel
theorem dX0_highSum_6 : decode cX0_highSum 6 = .ok (.iload_n 2, 1) := by decide +kernel
theorem dX0_highSum_7 : decode cX0_highSum 7 = .ok (.invokestatic 75, 3) := by decide +kernel
theorem dX0_highSum_10 : decode cX0_highSum 10 = .ok (.ixor, 1) := by decide +kernel
theorem dX0_highSum_11 : decode cX0_highSum 11 = .ok (.iload_n 0, 1) := by decide +kernel
theorem dX0_highSum_12 : decode cX0_highSum 12 = .ok (.iload_n 3, 1) := by decide +kernel
theorem dX0_highSum_13 : decode cX0_highSum 13 = .ok (.invokestatic 75, 3) := by decide +kernel
theorem dX0_highSum_16 : decode cX0_highSum 16 = .ok (.ixor, 1) := by decide +kernel
theorem dX0_highSum_17 : decode cX0_highSum 17 = .ok (.ireturn, 1) := by decide +kernel
set_option maxRecDepth 20000 in
theorem ggX1_init_X0_init : GoodIn wsX1_init wsX0_init := goodIn_r _ [14, 15, 2, 3, 16, 9, 10, 17, 18, 19, 20, 21, 22, 23, 24, 25, 26, 34, 35, 28, 29, 30] (by decide +kernel) (by decide +kernel)
set_option maxRecDepth 20000 in
theorem gX1_init_X0_init_n11 : GoodIn wsX1_init (wsX0_init) := ggX1_init_X0_init
set_option maxRecDepth 20000 in
theorem ggX1_init_X2_init : GoodIn wsX1_init wsX2_init := goodIn_r _ [23, 24, 2, 3, 25, 18, 26, 34, 35] (by decide +kernel) (by decide +kernel)
set_option maxRecDepth 20000 in
theorem gX1_init_X2_init : GoodIn wsX1_init (wsX2_init) := ggX1_init_X2_init
theorem dX1_init_0 : decode cX1_init 0 = .ok (.aload_n 0, 1) := by decide +kernel
theorem dX1_init_1 : decode cX1_init 1 = .ok (.invokespecial 3, 3) := by decide +kernel
theorem dX1_init_4 : decode cX1_init 4 = .ok (.aload_n 0, 1) := by decide +kernel
theorem dX1_init_5 : decode cX1_init 5 = .ok (.new 9, 3) := by decide +kernel
theorem dX1_init_8 : decode cX1_init 8 = .ok (.dup, 1) := by decide +kernel
theorem dX1_init_9 : decode cX1_init 9 = .ok (.invokespecial 11, 3) := by decide +kernel
theorem dX1_init_12 : decode cX1_init 12 = .ok (.putfield 12, 3) := by decide +kernel
theorem dX1_init_15 : decode cX1_init 15 = .ok (.aload_n 0, 1) := by decide +kernel
theorem dX1_init_16 : decode cX1_init 16 = .ok (.new 18, 3) := by decide +kernel
theorem dX1_init_19 : decode cX1_init 19 = .ok (.dup, 1) := by decide +kernel
theorem dX1_init_20 : decode cX1_init 20 = .ok (.bipush 64, 2) := by decide +kernel
theorem dX1_init_22 : decode cX1_init 22 = .ok (.invokespecial 20, 3) := by decide +kernel
theorem dX1_init_25 : decode cX1_init 25 = .ok (.putfield 23, 3) := by decide +kernel
theorem dX1_init_28 : decode cX1_init 28 = .ok (.aload_n 0, 1) := by decide +kernel
theorem dX1_init_29 : decode cX1_init 29 = .ok (.new 18, 3) := by decide +kernel
theorem dX1_init_32 : decode cX1_init 32 = .ok (.dup, 1) := by decide +kernel
theorem dX1_init_33 : decode cX1_init 33 = .ok (.bipush 32, 2) := by decide +kernel
theorem dX1_init_35 : decode cX1_init 35 = .ok (.invokespecial 20, 3) := by decide +kernel
theorem dX1_init_38 : decode cX1_init 38 = .ok (.putfield 27, 3) := by decide +kernel
theorem dX1_init_41 : decode cX1_init 41 = .ok (.return_, 1) := by decide +kernel
set_option maxRecDepth 20000 in
theorem ggX1_begin_X2_empty : GoodIn wsX1_begin wsX2_empty := goodIn_r _ [7, 8, 99, 100] (by decide +kernel) (by decide +kernel)
set_option maxRecDepth 20000 in
theorem gX1_begin_X2_empty : GoodIn wsX1_begin (wsV RX1 30 RX2 yX2_empty wsX2_empty) := goodIn_app (goodIn_of _ (by decide +kernel)) ggX1_begin_X2_empty
set_option maxRecDepth 20000 in
theorem ggX1_begin_X2_size : GoodIn wsX1_begin wsX2_size := goodIn_r _ [12, 8, 99, 100] (by decide +kernel) (by decide +kernel)
set_option maxRecDepth 20000 in
theorem gX1_begin_X2_size : GoodIn wsX1_begin (wsV RX1 33 RX2 yX2_size wsX2_size) := goodIn_app (goodIn_of _ (by decide +kernel)) ggX1_begin_X2_size
set_option maxRecDepth 20000 in
theorem ggX1_begin_X0_begin : GoodIn wsX1_begin wsX0_begin := goodIn_r _ [17, 18, 19, 4, 5, 6, 7, 8, 101, 102, 103, 99, 100] (by decide +kernel) (by decide +kernel)
set_option maxRecDepth 20000 in
theorem gX1_begin_X0_begin : GoodIn wsX1_begin (wsV RX1 37 RX0 yX0_begin wsX0_begin) := goodIn_app (goodIn_of _ (by decide +kernel)) ggX1_begin_X0_begin
set_option maxRecDepth 20000 in
theorem ggX1_begin_X0_add : GoodIn wsX1_begin wsX0_add := goodIn_r _ [23, 18, 24, 10, 11, 6, 12, 8, 25, 26, 27, 28, 29, 30, 31, 32, 33, 34, 35, 36, 37, 101, 102, 103, 99, 100] (by decide +kernel) (by decide +kernel)
set_option maxRecDepth 20000 in
theorem gX1_begin_X0_add : GoodIn wsX1_begin (wsV RX1 40 RX0 yX0_add wsX0_add) := goodIn_app (goodIn_of _ (by decide +kernel)) ggX1_begin_X0_add
set_option maxRecDepth 20000 in
theorem ggX1_begin_X0_end : GoodIn wsX1_begin wsX0_end := goodIn_r _ [41, 42, 43, 44, 45, 46, 47, 18, 48, 49, 50, 16, 51, 24, 10, 11, 6, 12, 8, 52, 35, 36, 37, 33, 53, 54, 55, 56, 57, 58, 59, 60, 34, 61, 62, 63, 64, 65, 66, 67, 68, 69, 70, 71, 72, 73, 74, 75, 76, 77, 78, 79, 80, 81, 82, 83, 84, 85, 19, 4, 5, 7, 101, 102, 103, 99, 100] (by decide +kernel) (by decide +kernel)
set_option maxRecDepth 20000 in
theorem gX1_begin_X0_end : GoodIn wsX1_begin (wsV RX1 44 RX0 yX0_end wsX0_end) := goodIn_app (goodIn_of _ (by decide +kernel)) ggX1_begin_X0_end
set_option maxRecDepth 20000 in
theorem ggX1_begin_X2_append : GoodIn wsX1_begin wsX2_append := goodIn_r _ [28, 8, 29, 30, 31, 32, 33, 34, 35, 36, 6, 37, 99, 100] (by decide +kernel) (by decide +kernel)
set_option maxRecDepth 20000 in
theorem gX1_begin_X2_append : GoodIn wsX1_begin (wsV RX1 47 RX2 yX2_append wsX2_append) := goodIn_app (goodIn_of _ (by decide +kernel)) ggX1_begin_X2_append
set_option maxRecDepth 20000 in
theorem ggX1_begin_X2_put : GoodIn wsX1_begin wsX2_put := goodIn_r _ [37, 8, 33, 99, 100] (by decide +kernel) (by decide +kernel)
set_option maxRecDepth 20000 in
theorem gX1_begin_X2_put : GoodIn wsX1_begin (wsV RX1 51 RX2 yX2_put wsX2_put) := goodIn_app (goodIn_of _ (by decide +kernel)) ggX1_begin_X2_put
set_option maxRecDepth 20000 in
theorem ggX1_begin_X0_addXor : GoodIn wsX1_begin wsX0_addXor := goodIn_r _ [91, 18, 92, 93, 94, 6, 95, 8, 33, 34, 35, 36, 37, 101, 102, 103, 99, 100] (by decide +kernel) (by decide +kernel)
set_option maxRecDepth 20000 in
theorem gX1_begin_X0_addXor : GoodIn wsX1_begin (wsV RX1 54 RX0 yX0_addXor wsX0_addXor) := goodIn_app (goodIn_of _ (by decide +kernel)) ggX1_begin_X0_addXor
theorem dX1_begin_0 : decode cX1_begin 0 = .ok (.aload_n 0, 1) := by decide +kernel
theorem dX1_begin_1 : decode cX1_begin 1 = .ok (.getfield 23, 3) := by decide +kernel
theorem dX1_begin_4 : decode cX1_begin 4 = .ok (.invokevirtual 30, 3) := by decide +kernel
theorem dX1_begin_7 : decode cX1_begin 7 = .ok (.aload_n 1, 1) := by decide +kernel
theorem dX1_begin_8 : decode cX1_begin 8 = .ok (.invokevirtual 33, 3) := by decide +kernel
theorem dX1_begin_11 : decode cX1_begin 11 = .ok (.bipush 64, 2) := by decide +kernel
theorem dX1_begin_13 : decode cX1_begin 13 = .ok (.if_icmp .le 32, 3) := by decide +kernel
theorem dX1_begin_16 : decode cX1_begin 16 = .ok (.aload_n 0, 1) := by decide +kernel
theorem dX1_begin_17 : decode cX1_begin 17 = .ok (.getfield 12, 3) := by decide +kernel
theorem dX1_begin_20 : decode cX1_begin 20 = .ok (.invokevirtual 37, 3) := by decide +kernel
theorem dX1_begin_23 : decode cX1_begin 23 = .ok (.aload_n 0, 1) := by decide +kernel
theorem dX1_begin_24 : decode cX1_begin 24 = .ok (.getfield 12, 3) := by decide +kernel
theorem dX1_begin_27 : decode cX1_begin 27 = .ok (.aload_n 1, 1) := by decide +kernel
theorem dX1_begin_28 : decode cX1_begin 28 = .ok (.invokevirtual 40, 3) := by decide +kernel
theorem dX1_begin_31 : decode cX1_begin 31 = .ok (.aload_n 0, 1) := by decide +kernel
theorem dX1_begin_32 : decode cX1_begin 32 = .ok (.getfield 12, 3) := by decide +kernel
theorem dX1_begin_35 : decode cX1_begin 35 = .ok (.aload_n 0, 1) := by decide +kernel
theorem dX1_begin_36 : decode cX1_begin 36 = .ok (.getfield 23, 3) := by decide +kernel
theorem dX1_begin_39 : decode cX1_begin 39 = .ok (.invokevirtual 44, 3) := by decide +kernel
theorem dX1_begin_42 : decode cX1_begin 42 = .ok (.goto 15, 3) := by decide +kernel
theorem dX1_begin_45 : decode cX1_begin 45 = .ok (.aload_n 0, 1) := by decide +kernel
theorem dX1_begin_46 : decode cX1_begin 46 = .ok (.getfield 23, 3) := by decide +kernel
theorem dX1_begin_49 : decode cX1_begin 49 = .ok (.aload_n 1, 1) := by decide +kernel
theorem dX1_begin_50 : decode cX1_begin 50 = .ok (.aload_n 1, 1) := by decide +kernel
theorem dX1_begin_51 : decode cX1_begin 51 = .ok (.invokevirtual 33, 3) := by decide +kernel
theorem dX1_begin_54 : decode cX1_begin 54 = .ok (.invokevirtual 47, 3) := by decide +kernel
theorem dX1_begin_57 : decode cX1_begin 57 = .ok (.aload_n 0, 1) := by decide +kernel
theorem dX1_begin_58 : decode cX1_begin 58 = .ok (.getfield 23, 3) := by decide +kernel
theorem dX1_begin_61 : decode cX1_begin 61 = .ok (.invokevirtual 33, 3) := by decide +kernel
theorem dX1_begin_64 : decode cX1_begin 64 = .ok (.istore_n 2, 1) := by decide +kernel
theorem dX1_begin_65 : decode cX1_begin 65 = .ok (.iload_n 2, 1) := by decide +kernel
theorem dX1_begin_66 : decode cX1_begin 66 = .ok (.bipush 64, 2) := by decide +kernel
theorem dX1_begin_68 : decode cX1_begin 68 = .ok (.if_icmp .ge 17, 3) := by decide +kernel
theorem dX1_begin_71 : decode cX1_begin 71 = .ok (.aload_n 0, 1) := by decide +kernel
theorem dX1_begin_72 : decode cX1_begin 72 = .ok (.getfield 23, 3) := by decide +kernel
theorem dX1_begin_75 : decode cX1_begin 75 = .ok (.iconst 0, 1) := by decide +kernel
theorem dX1_begin_76 : decode cX1_begin 76 = .ok (.invokevirtual 51, 3) := by decide +kernel
theorem dX1_begin_79 : decode cX1_begin 79 = .ok (.iinc 2 1, 3) := by decide +kernel
theorem dX1_begin_82 : decode cX1_begin 82 = .ok (.goto (-17), 3) := by decide +kernel
theorem dX1_begin_85 : decode cX1_begin 85 = .ok (.aload_n 0, 1) := by decide +kernel
theorem dX1_begin_86 : decode cX1_begin 86 = .ok (.getfield 12, 3) := by decide +kernel
theorem dX1_begin_89 : decode cX1_begin 89 = .ok (.invokevirtual 37, 3) := by decide +kernel
theorem dX1_begin_92 : decode cX1_begin 92 = .ok (.aload_n 0, 1) := by decide +kernel
theorem dX1_begin_93 : decode cX1_begin 93 = .ok (.getfield 12, 3) := by decide +kernel
theorem dX1_begin_96 : decode cX1_begin 96 = .ok (.aload_n 0, 1) := by decide +kernel
theorem dX1_begin_97 : decode cX1_begin 97 = .ok (.getfield 23, 3) := by decide +kernel
theorem dX1_begin_100 : decode cX1_begin 100 = .ok (.bipush 54, 2) := by decide +kernel
theorem dX1_begin_102 : decode cX1_begin 102 = .ok (.invokevirtual 54, 3) := by decide +kernel
theorem dX1_begin_105 : decode cX1_begin 105 = .ok (.return_, 1) := by decide +kernel
set_option maxRecDepth 20000 in
theorem ggX1_add_X0_add : GoodIn wsX1_add wsX0_add := goodIn_r _ [6, 7, 8, 9, 10, 11, 12, 13, 14, 15, 16, 17, 18, 19, 20, 21, 22, 23, 24, 25, 26, 30, 31, 32, 33, 34] (by decide +kernel) (by decide +kernel)
set_option maxRecDepth 20000 in
theorem gX1_add_X0_add : GoodIn wsX1_add (wsV RX1 40 RX0 yX0_add wsX0_add) := goodIn_app (goodIn_of _ (by decide +kernel)) ggX1_add_X0_add
theorem dX1_add_0 : decode cX1_add 0 = .ok (.aload_n 0, 1) := by decide +kernel
theorem dX1_add_1 : decode cX1_add 1 = .ok (.getfield 12, 3) := by decide +kernel
theorem dX1_add_4 : decode cX1_add 4 = .ok (.aload_n 1, 1) := by decide +kernel
theorem dX1_add_5 : decode cX1_add 5 = .ok (.invokevirtual 40, 3) := by decide +kernel
theorem dX1_add_8 : decode cX1_add 8 = .ok (.return_, 1) := by decide +kernel
set_option maxRecDepth 20000 in
theorem ggX1_addByte_X0_addByte : GoodIn wsX1_addByte wsX0_addByte := goodIn_r _ [6, 7, 8, 9, 10, 11, 12, 13, 14, 18, 19, 20, 21, 22] (by decide +kernel) (by decide +kernel)
set_option maxRecDepth 20000 in
theorem gX1_addByte_X0_addByte : GoodIn wsX1_addByte (wsV RX1 57 RX0 yX0_addByte wsX0_addByte) := goodIn_app (goodIn_of _ (by decide +kernel)) ggX1_addByte_X0_addByte
theorem dX1_addByte_0 : decode cX1_addByte 0 = .ok (.aload_n 0, 1) := by decide +kernel
theorem dX1_addByte_1 : decode cX1_addByte 1 = .ok (.getfield 12, 3) := by decide +kernel
theorem dX1_addByte_4 : decode cX1_addByte 4 = .ok (.iload_n 1, 1) := by decide +kernel
theorem dX1_addByte_5 : decode cX1_addByte 5 = .ok (.invokevirtual 57, 3) := by decide +kernel
theorem dX1_addByte_8 : decode cX1_addByte 8 = .ok (.return_, 1) := by decide +kernel
set_option maxRecDepth 20000 in
theorem ggX1_end_X0_end : GoodIn wsX1_end wsX0_end := goodIn_r _ [8, 9, 10, 11, 12, 13, 14, 15, 16, 17, 18, 7, 19, 20, 21, 22, 23, 24, 25, 26, 27, 28, 29, 30, 31, 32, 33, 34, 35, 36, 37, 38, 39, 40, 41, 42, 43, 44, 45, 46, 47, 48, 49, 50, 51, 52, 53, 54, 55, 56, 57, 58, 59, 60, 61, 62, 63, 64, 65, 66, 67, 68, 96, 97, 98, 99, 100] (by decide +kernel) (by decide +kernel)
set_option maxRecDepth 20000 in
theorem gX1_end_X0_end : GoodIn wsX1_end (wsV RX1 44 RX0 yX0_end wsX0_end) := goodIn_app (goodIn_of _ (by decide +kernel)) ggX1_end_X0_end
set_option maxRecDepth 20000 in
theorem ggX1_end_X0_begin : GoodIn wsX1_end wsX0_begin := goodIn_r _ [72, 15, 65, 66, 67, 23, 68, 25, 96, 97, 98, 99, 100] (by decide +kernel) (by decide +kernel)
set_option maxRecDepth 20000 in
theorem gX1_end_X0_begin : GoodIn wsX1_end (wsV RX1 37 RX0 yX0_begin wsX0_begin) := goodIn_app (goodIn_of _ (by decide +kernel)) ggX1_end_X0_begin
set_option maxRecDepth 20000 in
theorem ggX1_end_X0_addXor : GoodIn wsX1_end wsX0_addXor := goodIn_r _ [76, 15, 77, 78, 79, 23, 80, 25, 30, 39, 27, 28, 29, 96, 97, 98, 99, 100] (by decide +kernel) (by decide +kernel)
set_option maxRecDepth 20000 in
theorem gX1_end_X0_addXor : GoodIn wsX1_end (wsV RX1 54 RX0 yX0_addXor wsX0_addXor) := goodIn_app (goodIn_of _ (by decide +kernel)) ggX1_end_X0_addXor
set_option maxRecDepth 20000 in
theorem ggX1_end_X0_add : GoodIn wsX1_end wsX0_add := goodIn_r _ [84, 15, 20, 21, 22, 23, 24, 25, 85, 86, 87, 88, 89, 90, 91, 92, 30, 39, 27, 28, 29, 96, 97, 98, 99, 100] (by decide +kernel) (by decide +kernel)
set_option maxRecDepth 20000 in
theorem gX1_end_X0_add : GoodIn wsX1_end (wsV RX1 40 RX0 yX0_add wsX0_add) := goodIn_app (goodIn_of _ (by decide +kernel)) ggX1_end_X0_add
theorem dX1_end_0 : decode cX1_end 0 = .ok (.aload_n 0, 1) := by decide +kernel
theorem dX1_end_1 : decode cX1_end 1 = .ok (.getfield 12, 3) := by decide +kernel
theorem dX1_end_4 : decode cX1_end 4 = .ok (.aload_n 0, 1) := by decide +kernel
theorem dX1_end_5 : decode cX1_end 5 = .ok (.getfield 27, 3) := by decide +kernel
theorem dX1_end_8 : decode cX1_end 8 = .ok (.invokevirtual 44, 3) := by decide +kernel
theorem dX1_end_11 : decode cX1_end 11 = .ok (.aload_n 0, 1) := by decide +kernel
theorem dX1_end_12 : decode cX1_end 12 = .ok (.getfield 12, 3) := by decide +kernel
theorem dX1_end_15 : decode cX1_end 15 = .ok (.invokevirtual 37, 3) := by decide +kernel
theorem dX1_end_18 : decode cX1_end 18 = .ok (.aload_n 0, 1) := by decide +kernel
theorem dX1_end_19 : decode cX1_end 19 = .ok (.getfield 12, 3) := by decide +kernel
theorem dX1_end_22 : decode cX1_end 22 = .ok (.aload_n 0, 1) := by decide +kernel
theorem dX1_end_23 : decode cX1_end 23 = .ok (.getfield 23, 3) := by decide +kernel
theorem dX1_end_26 : decode cX1_end 26 = .ok (.bipush 92, 2) := by decide +kernel
theorem dX1_end_28 : decode cX1_end 28 = .ok (.invokevirtual 54, 3) := by decide +kernel
theorem dX1_end_31 : decode cX1_end 31 = .ok (.aload_n 0, 1) := by decide +kernel
theorem dX1_end_32 : decode cX1_end 32 = .ok (.getfield 12, 3) := by decide +kernel
theorem dX1_end_35 : decode cX1_end 35 = .ok (.aload_n 0, 1) := by decide +kernel
theorem dX1_end_36 : decode cX1_end 36 = .ok (.getfield 27, 3) := by decide +kernel
theorem dX1_end_39 : decode cX1_end 39 = .ok (.invokevirtual 40, 3) := by decide +kernel
theorem dX1_end_42 : decode cX1_end 42 = .ok (.aload_n 0, 1) := by decide +kernel
theorem dX1_end_43 : decode cX1_end 43 = .ok (.getfield 12, 3) := by decide +kernel
theorem dX1_end_46 : decode cX1_end 46 = .ok (.aload_n 1, 1) := by decide +kernel
theorem dX1_end_47 : decode cX1_end 47 = .ok (.invokevirtual 44, 3) := by decide +kernel
theorem dX1_end_50 : decode cX1_end 50 = .ok (.return_, 1) := by decide +kernel
theorem dX2_init_0 : decode cX2_init 0 = .ok (.aload_n 0, 1) := by decide +kernel
theorem dX2_init_1 : decode cX2_init 1 = .ok (.invokespecial 3, 3) := by decide +kernel
theorem dX2_init_4 : decode cX2_init 4 = .ok (.aload_n 0, 1) := by decide +kernel
theorem dX2_init_5 : decode cX2_init 5 = .ok (.iconst 0, 1) := by decide +kernel
theorem dX2_init_6 : decode cX2_init 6 = .ok (.putfield 9, 3) := by decide +kernel
theorem dX2_init_9 : decode cX2_init 9 = .ok (.aload_n 0, 1) := by decide +kernel
theorem dX2_init_10 : decode cX2_init 10 = .ok (.iload_n 1, 1) := by decide +kernel
theorem dX2_init_11 : decode cX2_init 11 = .ok (.newarray .int, 2) := by decide +kernel
theorem dX2_init_13 : decode cX2_init 13 = .ok (.putfield 15, 3) := by decide +kernel
theorem dX2_init_16 : decode cX2_init 16 = .ok (.return_, 1) := by decide +kernel
theorem dX2_size_0 : decode cX2_size 0 = .ok (.aload_n 0, 1) := by decide +kernel
theorem dX2_size_1 : decode cX2_size 1 = .ok (.getfield 9, 3) := by decide +kernel
theorem dX2_size_4 : decode cX2_size 4 = .ok (.ireturn, 1) := by decide +kernel
theorem dX2_empty_0 : decode cX2_empty 0 = .ok (.aload_n 0, 1) := by decide +kernel
theorem dX2_empty_1 : decode cX2_empty 1 = .ok (.iconst 0, 1) := by decide +kernel
theorem dX2_empty_2 : decode cX2_empty 2 = .ok (.putfield 9, 3) := by decide +kernel
theorem dX2_empty_5 : decode cX2_empty 5 = .ok (.return_, 1) := by decide +kernel
theorem dX2_put_0 : decode cX2_put 0 = .ok (.aload_n 0, 1) := by decide +kernel
theorem dX2_put_1 : decode cX2_put 1 = .ok (.getfield 9, 3) := by decide +kernel
theorem dX2_put_4 : decode cX2_put 4 = .ok (.aload_n 0, 1) := by decide +kernel
theorem dX2_put_5 : decode cX2_put 5 = .ok (.getfield 15, 3) := by decide +kernel
theorem dX2_put_8 : decode cX2_put 8 = .ok (.arraylength, 1) := by decide +kernel
theorem dX2_put_9 : decode cX2_put 9 = .ok (.if_icmp .ge 23, 3) := by decide +kernel
theorem dX2_put_12 : decode cX2_put 12 = .ok (.aload_n 0, 1) := by decide +kernel
theorem dX2_put_13 : decode cX2_put 13 = .ok (.getfield 15, 3) := by decide +kernel
theorem dX2_put_16 : decode cX2_put 16 = .ok (.aload_n 0, 1) := by decide +kernel
theorem dX2_put_17 : decode cX2_put 17 = .ok (.getfield 9, 3) := by decide +kernel
theorem dX2_put_20 : decode cX2_put 20 = .ok (.iload_n 1, 1) := by decide +kernel
theorem dX2_put_21 : decode cX2_put 21 = .ok (.iastore, 1) := by decide +kernel
theorem dX2_put_22 : decode cX2_put 22 = .ok (.aload_n 0, 1) := by decide +kernel
theorem dX2_put_23 : decode cX2_put 23 = .ok (.dup, 1) := by decide +kernel
theorem dX2_put_24 : decode cX2_put 24 = .ok (.getfield 9, 3) := by decide +kernel
theorem dX2_put_27 : decode cX2_put 27 = .ok (.iconst 1, 1) := by decide +kernel
theorem dX2_put_28 : decode cX2_put 28 = .ok (.iadd, 1) := by decide +kernel
theorem dX2_put_29 : decode cX2_put 29 = .ok (.putfield 9, 3) := by decide +kernel
theorem dX2_put_32 : decode cX2_put 32 = .ok (.return_, 1) := by decide +kernel
set_option maxRecDepth 20000 in
theorem ggX2_fill_J7_fill_53178 : GoodIn wsX2_fill wsJ7_fill_53178 := goodIn_r _ [6] (by decide +kernel) (by decide +kernel)
set_option maxRecDepth 20000 in
theorem gX2_fill_J7_fill_53178 : GoodIn wsX2_fill (va_wsS RX2 19 yJ7_fill_53178 wsJ7_fill_53178) := goodIn_app (goodIn_of _ (by decide +kernel)) ggX2_fill_J7_fill_53178
theorem dX2_fill_0 : decode cX2_fill 0 = .ok (.aload_n 0, 1) := by decide +kernel
theorem dX2_fill_1 : decode cX2_fill 1 = .ok (.getfield 15, 3) := by decide +kernel
theorem dX2_fill_4 : decode cX2_fill 4 = .ok (.iload_n 1, 1) := by decide +kernel
theorem dX2_fill_5 : decode cX2_fill 5 = .ok (.invokestatic 19, 3) := by decide +kernel
theorem dX2_fill_8 : decode cX2_fill 8 = .ok (.aload_n 0, 1) := by decide +kernel
theorem dX2_fill_9 : decode cX2_fill 9 = .ok (.aload_n 0, 1) := by decide +kernel
theorem dX2_fill_10 : decode cX2_fill 10 = .ok (.getfield 15, 3) := by decide +kernel
theorem dX2_fill_13 : decode cX2_fill 13 = .ok (.arraylength, 1) := by decide +kernel
theorem dX2_fill_14 : decode cX2_fill 14 = .ok (.putfield 9, 3) := by decide +kernel
theorem dX2_fill_17 : decode cX2_fill 17 = .ok (.return_, 1) := by decide +kernel
set_option maxRecDepth 20000 in
theorem ggX2_append_X2_put : GoodIn wsX2_append wsX2_put := goodIn_r _ [11, 1, 6, 12, 13] (by decide +kernel) (by decide +kernel)
set_option maxRecDepth 20000 in
theorem gX2_append_X2_put : GoodIn wsX2_append (wsV RX2 31 RX2 yX2_put wsX2_put) := goodIn_app (goodIn_of _ (by decide +kernel)) ggX2_append_X2_put
theorem dX2_append_0 : decode cX2_append 0 = .ok (.iload_n 2, 1) := by decide +kernel
theorem dX2_append_1 : decode cX2_append 1 = .ok (.aload_n 1, 1) := by decide +kernel
theorem dX2_append_2 : decode cX2_append 2 = .ok (.getfield 9, 3) := by decide +kernel
theorem dX2_append_5 : decode cX2_append 5 = .ok (.invokestatic 25, 3) := by decide +kernel
theorem dX2_append_8 : decode cX2_append 8 = .ok (.istore_n 3, 1) := by decide +kernel
theorem dX2_append_9 : decode cX2_append 9 = .ok (.iconst 0, 1) := by decide +kernel
theorem dX2_append_10 : decode cX2_append 10 = .ok (.istore 4, 2) := by decide +kernel
theorem dX2_append_12 : decode cX2_append 12 = .ok (.iload 4, 2) := by decide +kernel
theorem dX2_append_14 : decode cX2_append 14 = .ok (.iload_n 3, 1) := by decide +kernel
theorem dX2_append_15 : decode cX2_append 15 = .ok (.if_icmp .ge 20, 3) := by decide +kernel
theorem dX2_append_18 : decode cX2_append 18 = .ok (.aload_n 0, 1) := by decide +kernel
theorem dX2_append_19 : decode cX2_append 19 = .ok (.aload_n 1, 1) := by decide +kernel
theorem dX2_append_20 : decode cX2_append 20 = .ok (.getfield 15, 3) := by decide +kernel
theorem dX2_append_23 : decode cX2_append 23 = .ok (.iload 4, 2) := by decide +kernel
theorem dX2_append_25 : decode cX2_append 25 = .ok (.iaload, 1) := by decide +kernel
theorem dX2_append_26 : decode cX2_append 26 = .ok (.invokevirtual 31, 3) := by decide +kernel
theorem dX2_append_29 : decode cX2_append 29 = .ok (.iinc 4 1, 3) := by decide +kernel
theorem dX2_append_32 : decode cX2_append 32 = .ok (.goto (-20), 3) := by decide +kernel
theorem dX2_append_35 : decode cX2_append 35 = .ok (.return_, 1) := by decide +kernel
set_option maxRecDepth 20000 in
theorem ggX2_appendXor_X2_put : GoodIn wsX2_appendXor wsX2_put := goodIn_r _ [7, 1, 2, 8, 9] (by decide +kernel) (by decide +kernel)
set_option maxRecDepth 20000 in
theorem gX2_appendXor_X2_put : GoodIn wsX2_appendXor (wsV RX2 31 RX2 yX2_put wsX2_put) := goodIn_app (goodIn_of _ (by decide +kernel)) ggX2_appendXor_X2_put
theorem dX2_appendXor_0 : decode cX2_appendXor 0 = .ok (.iconst 0, 1) := by decide +kernel
theorem dX2_appendXor_1 : decode cX2_appendXor 1 = .ok (.istore_n 3, 1) := by decide +kernel
theorem dX2_appendXor_2 : decode cX2_appendXor 2 = .ok (.iload_n 3, 1) := by decide +kernel
theorem dX2_appendXor_3 : decode cX2_appendXor 3 = .ok (.aload_n 1, 1) := by decide +kernel
theorem dX2_appendXor_4 : decode cX2_appendXor 4 = .ok (.getfield 9, 3) := by decide +kernel
theorem dX2_appendXor_7 : decode cX2_appendXor 7 = .ok (.if_icmp .ge 21, 3) := by decide +kernel
theorem dX2_appendXor_10 : decode cX2_appendXor 10 = .ok (.aload_n 0, 1) := by decide +kernel
theorem dX2_appendXor_11 : decode cX2_appendXor 11 = .ok (.aload_n 1, 1) := by decide +kernel
theorem dX2_appendXor_12 : decode cX2_appendXor 12 = .ok (.getfield 15, 3) := by decide +kernel
theorem dX2_appendXor_15 : decode cX2_appendXor 15 = .ok (.iload_n 3, 1) := by decide +kernel
theorem dX2_appendXor_16 : decode cX2_appendXor 16 = .ok (.iaload, 1) := by decide +kernel
theorem dX2_appendXor_17 : decode cX2_appendXor 17 = .ok (.iload_n 2, 1) := by decide +kernel
theorem dX2_appendXor_18 : decode cX2_appendXor 18 = .ok (.ixor, 1) := by decide +kernel
theorem dX2_appendXor_19 : decode cX2_appendXor 19 = .ok (.invokevirtual 31, 3) := by decide +kernel
theorem dX2_appendXor_22 : decode cX2_appendXor 22 = .ok (.iinc 3 1, 3) := by decide +kernel
theorem dX2_appendXor_25 : decode cX2_appendXor 25 = .ok (.goto (-23), 3) := by decide +kernel
theorem dX2_appendXor_28 : decode cX2_appendXor 28 = .ok (.return_, 1) := by decide +kernel
set_option maxRecDepth 20000 in
theorem ggX2_putWord_X2_put : GoodIn wsX2_putWord wsX2_put := goodIn_r _ [5, 6, 7, 8, 9] (by decide +kernel) (by decide +kernel)
set_option maxRecDepth 20000 in
theorem gX2_putWord_X2_put : GoodIn wsX2_putWord (wsV RX2 31 RX2 yX2_put wsX2_put) := goodIn_app (goodIn_of _ (by decide +kernel)) ggX2_putWord_X2_put
theorem dX2_putWord_0 : decode cX2_putWord 0 = .ok (.bipush 24, 2) := by decide +kernel
theorem dX2_putWord_2 : decode cX2_putWord 2 = .ok (.istore_n 2, 1) := by decide +kernel
theorem dX2_putWord_3 : decode cX2_putWord 3 = .ok (.iload_n 2, 1) := by decide +kernel
theorem dX2_putWord_4 : decode cX2_putWord 4 = .ok (.ifCond .lt 20, 3) := by decide +kernel
theorem dX2_putWord_7 : decode cX2_putWord 7 = .ok (.aload_n 0, 1) := by decide +kernel
theorem dX2_putWord_8 : decode cX2_putWord 8 = .ok (.iload_n 1, 1) := by decide +kernel
theorem dX2_putWord_9 : decode cX2_putWord 9 = .ok (.iload_n 2, 1) := by decide +kernel
theorem dX2_putWord_10 : decode cX2_putWord 10 = .ok (.iushr, 1) := by decide +kernel
theorem dX2_putWord_11 : decode cX2_putWord 11 = .ok (.sipush 255, 3) := by decide +kernel
theorem dX2_putWord_14 : decode cX2_putWord 14 = .ok (.iand, 1) := by decide +kernel
theorem dX2_putWord_15 : decode cX2_putWord 15 = .ok (.invokevirtual 31, 3) := by decide +kernel
theorem dX2_putWord_18 : decode cX2_putWord 18 = .ok (.iinc 2 (-8), 3) := by decide +kernel
theorem dX2_putWord_21 : decode cX2_putWord 21 = .ok (.goto (-18), 3) := by decide +kernel
theorem dX2_putWord_24 : decode cX2_putWord 24 = .ok (.return_, 1) := by decide +kernel
theorem dX2_at_0 : decode cX2_at 0 = .ok (.iload_n 1, 1) := by decide +kernel
theorem dX2_at_1 : decode cX2_at 1 = .ok (.ifCond .lt 20, 3) := by decide +kernel
theorem dX2_at_4 : decode cX2_at 4 = .ok (.iload_n 1, 1) := by decide +kernel
theorem dX2_at_5 : decode cX2_at 5 = .ok (.aload_n 0, 1) := by decide +kernel
theorem dX2_at_6 : decode cX2_at 6 = .ok (.getfield 9, 3) := by decide +kernel
theorem dX2_at_9 : decode cX2_at 9 = .ok (.if_icmp .ge 12, 3) := by decide +kernel
theorem dX2_at_12 : decode cX2_at 12 = .ok (.aload_n 0, 1) := by decide +kernel
theorem dX2_at_13 : decode cX2_at 13 = .ok (.getfield 15, 3) := by decide +kernel
theorem dX2_at_16 : decode cX2_at 16 = .ok (.iload_n 1, 1) := by decide +kernel
theorem dX2_at_17 : decode cX2_at 17 = .ok (.iaload, 1) := by decide +kernel
theorem dX2_at_18 : decode cX2_at 18 = .ok (.goto 4, 3) := by decide +kernel
theorem dX2_at_21 : decode cX2_at 21 = .ok (.iconst (-1), 1) := by decide +kernel
theorem dX2_at_22 : decode cX2_at 22 = .ok (.ireturn, 1) := by decide +kernel
set_option maxRecDepth 20000 in
theorem ggX2_wordAt_X2_at : GoodIn wsX2_wordAt wsX2_at := goodIn_r _ [5, 6, 7, 8, 9] (by decide +kernel) (by decide +kernel)
set_option maxRecDepth 20000 in
theorem gX2_wordAt_X2_at : GoodIn wsX2_wordAt (wsV RX2 35 RX2 yX2_at wsX2_at) := goodIn_app (goodIn_of _ (by decide +kernel)) ggX2_wordAt_X2_at
theorem dX2_wordAt_0 : decode cX2_wordAt 0 = .ok (.aload_n 0, 1) := by decide +kernel
theorem dX2_wordAt_1 : decode cX2_wordAt 1 = .ok (.iload_n 1, 1) := by decide +kernel
theorem dX2_wordAt_2 : decode cX2_wordAt 2 = .ok (.invokevirtual 35, 3) := by decide +kernel
theorem dX2_wordAt_5 : decode cX2_wordAt 5 = .ok (.bipush 24, 2) := by decide +kernel
theorem dX2_wordAt_7 : decode cX2_wordAt 7 = .ok (.ishl, 1) := by decide +kernel
theorem dX2_wordAt_8 : decode cX2_wordAt 8 = .ok (.aload_n 0, 1) := by decide +kernel
theorem dX2_wordAt_9 : decode cX2_wordAt 9 = .ok (.iload_n 1, 1) := by decide +kernel
theorem dX2_wordAt_10 : decode cX2_wordAt 10 = .ok (.iconst 1, 1) := by decide +kernel
theorem dX2_wordAt_11 : decode cX2_wordAt 11 = .ok (.iadd, 1) := by decide +kernel
theorem dX2_wordAt_12 : decode cX2_wordAt 12 = .ok (.invokevirtual 35, 3) := by decide +kernel
theorem dX2_wordAt_15 : decode cX2_wordAt 15 = .ok (.bipush 16, 2) := by decide +kernel
theorem dX2_wordAt_17 : decode cX2_wordAt 17 = .ok (.ishl, 1) := by decide +kernel
theorem dX2_wordAt_18 : decode cX2_wordAt 18 = .ok (.ior, 1) := by decide +kernel
theorem dX2_wordAt_19 : decode cX2_wordAt 19 = .ok (.aload_n 0, 1) := by decide +kernel
theorem dX2_wordAt_20 : decode cX2_wordAt 20 = .ok (.iload_n 1, 1) := by decide +kernel
theorem dX2_wordAt_21 : decode cX2_wordAt 21 = .ok (.iconst 2, 1) := by decide +kernel
theorem dX2_wordAt_22 : decode cX2_wordAt 22 = .ok (.iadd, 1) := by decide +kernel
theorem dX2_wordAt_23 : decode cX2_wordAt 23 = .ok (.invokevirtual 35, 3) := by decide +kernel
theorem dX2_wordAt_26 : decode cX2_wordAt 26 = .ok (.bipush 8, 2) := by decide +kernel
theorem dX2_wordAt_28 : decode cX2_wordAt 28 = .ok (.ishl, 1) := by decide +kernel
theorem dX2_wordAt_29 : decode cX2_wordAt 29 = .ok (.ior, 1) := by decide +kernel
theorem dX2_wordAt_30 : decode cX2_wordAt 30 = .ok (.aload_n 0, 1) := by decide +kernel
theorem dX2_wordAt_31 : decode cX2_wordAt 31 = .ok (.iload_n 1, 1) := by decide +kernel
theorem dX2_wordAt_32 : decode cX2_wordAt 32 = .ok (.iconst 3, 1) := by decide +kernel
theorem dX2_wordAt_33 : decode cX2_wordAt 33 = .ok (.iadd, 1) := by decide +kernel
theorem dX2_wordAt_34 : decode cX2_wordAt 34 = .ok (.invokevirtual 35, 3) := by decide +kernel
theorem dX2_wordAt_37 : decode cX2_wordAt 37 = .ok (.ior, 1) := by decide +kernel
theorem dX2_wordAt_38 : decode cX2_wordAt 38 = .ok (.ireturn, 1) := by decide +kernel
theorem dX2_sameAs_0 : decode cX2_sameAs 0 = .ok (.aload_n 0, 1) := by decide +kernel
theorem dX2_sameAs_1 : decode cX2_sameAs 1 = .ok (.getfield 9, 3) := by decide +kernel
theorem dX2_sameAs_4 : decode cX2_sameAs 4 = .ok (.aload_n 1, 1) := by decide +kernel
theorem dX2_sameAs_5 : decode cX2_sameAs 5 = .ok (.getfield 9, 3) := by decide +kernel
theorem dX2_sameAs_8 : decode cX2_sameAs 8 = .ok (.if_icmp .eq 5, 3) := by decide +kernel
theorem dX2_sameAs_11 : decode cX2_sameAs 11 = .ok (.iconst 0, 1) := by decide +kernel
theorem dX2_sameAs_12 : decode cX2_sameAs 12 = .ok (.ireturn, 1) := by decide +kernel
theorem dX2_sameAs_13 : decode cX2_sameAs 13 = .ok (.iconst 0, 1) := by decide +kernel
theorem dX2_sameAs_14 : decode cX2_sameAs 14 = .ok (.istore_n 2, 1) := by decide +kernel
theorem dX2_sameAs_15 : decode cX2_sameAs 15 = .ok (.iload_n 2, 1) := by decide +kernel
theorem dX2_sameAs_16 : decode cX2_sameAs 16 = .ok (.aload_n 0, 1) := by decide +kernel
theorem dX2_sameAs_17 : decode cX2_sameAs 17 = .ok (.getfield 9, 3) := by decide +kernel
theorem dX2_sameAs_20 : decode cX2_sameAs 20 = .ok (.if_icmp .ge 26, 3) := by decide +kernel
theorem dX2_sameAs_23 : decode cX2_sameAs 23 = .ok (.aload_n 0, 1) := by decide +kernel
theorem dX2_sameAs_24 : decode cX2_sameAs 24 = .ok (.getfield 15, 3) := by decide +kernel
theorem dX2_sameAs_27 : decode cX2_sameAs 27 = .ok (.iload_n 2, 1) := by decide +kernel
theorem dX2_sameAs_28 : decode cX2_sameAs 28 = .ok (.iaload, 1) := by decide +kernel
theorem dX2_sameAs_29 : decode cX2_sameAs 29 = .ok (.aload_n 1, 1) := by decide +kernel
theorem dX2_sameAs_30 : decode cX2_sameAs 30 = .ok (.getfield 15, 3) := by decide +kernel
theorem dX2_sameAs_33 : decode cX2_sameAs 33 = .ok (.iload_n 2, 1) := by decide +kernel
theorem dX2_sameAs_34 : decode cX2_sameAs 34 = .ok (.iaload, 1) := by decide +kernel
theorem dX2_sameAs_35 : decode cX2_sameAs 35 = .ok (.if_icmp .eq 5, 3) := by decide +kernel
theorem dX2_sameAs_38 : decode cX2_sameAs 38 = .ok (.iconst 0, 1) := by decide +kernel
theorem dX2_sameAs_39 : decode cX2_sameAs 39 = .ok (.ireturn, 1) := by decide +kernel
theorem dX2_sameAs_40 : decode cX2_sameAs 40 = .ok (.iinc 2 1, 3) := by decide +kernel
theorem dX2_sameAs_43 : decode cX2_sameAs 43 = .ok (.goto (-28), 3) := by decide +kernel
theorem dX2_sameAs_46 : decode cX2_sameAs 46 = .ok (.iconst 1, 1) := by decide +kernel
theorem dX2_sameAs_47 : decode cX2_sameAs 47 = .ok (.ireturn, 1) := by decide +kernel
theorem dJ6_rotateRight_7cf53_0 : decode cJ6_rotateRight_7cf53 0 = .ok (.iload_n 0, 1) := by decide +kernel
theorem dJ6_rotateRight_7cf53_1 : decode cJ6_rotateRight_7cf53 1 = .ok (.iload_n 1, 1) := by decide +kernel
theorem dJ6_rotateRight_7cf53_2 : decode cJ6_rotateRight_7cf53 2 = .ok (.iushr, 1) := by decide +kernel
theorem dJ6_rotateRight_7cf53_3 : decode cJ6_rotateRight_7cf53 3 = .ok (.iload_n 0, 1) := by decide +kernel
theorem dJ6_rotateRight_7cf53_4 : decode cJ6_rotateRight_7cf53 4 = .ok (.iload_n 1, 1) := by decide +kernel
theorem dJ6_rotateRight_7cf53_5 : decode cJ6_rotateRight_7cf53 5 = .ok (.ineg, 1) := by decide +kernel
theorem dJ6_rotateRight_7cf53_6 : decode cJ6_rotateRight_7cf53 6 = .ok (.ishl, 1) := by decide +kernel
theorem dJ6_rotateRight_7cf53_7 : decode cJ6_rotateRight_7cf53 7 = .ok (.ior, 1) := by decide +kernel
theorem dJ6_rotateRight_7cf53_8 : decode cJ6_rotateRight_7cf53 8 = .ok (.ireturn, 1) := by decide +kernel
theorem dJ9_floorMod_7cf53_0 : decode cJ9_floorMod_7cf53 0 = .ok (.iload_n 0, 1) := by decide +kernel
theorem dJ9_floorMod_7cf53_1 : decode cJ9_floorMod_7cf53 1 = .ok (.iload_n 1, 1) := by decide +kernel
theorem dJ9_floorMod_7cf53_2 : decode cJ9_floorMod_7cf53 2 = .ok (.irem, 1) := by decide +kernel
theorem dJ9_floorMod_7cf53_3 : decode cJ9_floorMod_7cf53 3 = .ok (.istore_n 2, 1) := by decide +kernel
theorem dJ9_floorMod_7cf53_4 : decode cJ9_floorMod_7cf53 4 = .ok (.iload_n 0, 1) := by decide +kernel
theorem dJ9_floorMod_7cf53_5 : decode cJ9_floorMod_7cf53 5 = .ok (.iload_n 1, 1) := by decide +kernel
theorem dJ9_floorMod_7cf53_6 : decode cJ9_floorMod_7cf53 6 = .ok (.ixor, 1) := by decide +kernel
theorem dJ9_floorMod_7cf53_7 : decode cJ9_floorMod_7cf53 7 = .ok (.ifCond .ge 11, 3) := by decide +kernel
theorem dJ9_floorMod_7cf53_10 : decode cJ9_floorMod_7cf53 10 = .ok (.iload_n 2, 1) := by decide +kernel
theorem dJ9_floorMod_7cf53_11 : decode cJ9_floorMod_7cf53 11 = .ok (.ifCond .eq 7, 3) := by decide +kernel
theorem dJ9_floorMod_7cf53_14 : decode cJ9_floorMod_7cf53 14 = .ok (.iload_n 2, 1) := by decide +kernel
theorem dJ9_floorMod_7cf53_15 : decode cJ9_floorMod_7cf53 15 = .ok (.iload_n 1, 1) := by decide +kernel
theorem dJ9_floorMod_7cf53_16 : decode cJ9_floorMod_7cf53 16 = .ok (.iadd, 1) := by decide +kernel
theorem dJ9_floorMod_7cf53_17 : decode cJ9_floorMod_7cf53 17 = .ok (.ireturn, 1) := by decide +kernel
theorem dJ9_floorMod_7cf53_18 : decode cJ9_floorMod_7cf53 18 = .ok (.iload_n 2, 1) := by decide +kernel
theorem dJ9_floorMod_7cf53_19 : decode cJ9_floorMod_7cf53 19 = .ok (.ireturn, 1) := by decide +kernel
theorem dJ9_min_7cf53_0 : decode cJ9_min_7cf53 0 = .ok (.iload_n 0, 1) := by decide +kernel
theorem dJ9_min_7cf53_1 : decode cJ9_min_7cf53 1 = .ok (.iload_n 1, 1) := by decide +kernel
theorem dJ9_min_7cf53_2 : decode cJ9_min_7cf53 2 = .ok (.if_icmp .gt 7, 3) := by decide +kernel
theorem dJ9_min_7cf53_5 : decode cJ9_min_7cf53 5 = .ok (.iload_n 0, 1) := by decide +kernel
theorem dJ9_min_7cf53_6 : decode cJ9_min_7cf53 6 = .ok (.goto 4, 3) := by decide +kernel
theorem dJ9_min_7cf53_9 : decode cJ9_min_7cf53 9 = .ok (.iload_n 1, 1) := by decide +kernel
theorem dJ9_min_7cf53_10 : decode cJ9_min_7cf53 10 = .ok (.ireturn, 1) := by decide +kernel
theorem dJ7_fill_53178_0 : decode cJ7_fill_53178 0 = .ok (.iconst 0, 1) := by decide +kernel
theorem dJ7_fill_53178_1 : decode cJ7_fill_53178 1 = .ok (.istore_n 2, 1) := by decide +kernel
theorem dJ7_fill_53178_2 : decode cJ7_fill_53178 2 = .ok (.aload_n 0, 1) := by decide +kernel
theorem dJ7_fill_53178_3 : decode cJ7_fill_53178 3 = .ok (.arraylength, 1) := by decide +kernel
theorem dJ7_fill_53178_4 : decode cJ7_fill_53178 4 = .ok (.istore_n 3, 1) := by decide +kernel
theorem dJ7_fill_53178_5 : decode cJ7_fill_53178 5 = .ok (.iload_n 2, 1) := by decide +kernel
theorem dJ7_fill_53178_6 : decode cJ7_fill_53178 6 = .ok (.iload_n 3, 1) := by decide +kernel
theorem dJ7_fill_53178_7 : decode cJ7_fill_53178 7 = .ok (.if_icmp .ge 13, 3) := by decide +kernel
theorem dJ7_fill_53178_10 : decode cJ7_fill_53178 10 = .ok (.aload_n 0, 1) := by decide +kernel
theorem dJ7_fill_53178_11 : decode cJ7_fill_53178 11 = .ok (.iload_n 2, 1) := by decide +kernel
theorem dJ7_fill_53178_12 : decode cJ7_fill_53178 12 = .ok (.iload_n 1, 1) := by decide +kernel
theorem dJ7_fill_53178_13 : decode cJ7_fill_53178 13 = .ok (.iastore, 1) := by decide +kernel
theorem dJ7_fill_53178_14 : decode cJ7_fill_53178 14 = .ok (.iinc 2 1, 3) := by decide +kernel
theorem dJ7_fill_53178_17 : decode cJ7_fill_53178 17 = .ok (.goto (-12), 3) := by decide +kernel
theorem dJ7_fill_53178_20 : decode cJ7_fill_53178 20 = .ok (.return_, 1) := by decide +kernel
end
section
set_option maxRecDepth 20000 in
theorem ggX3_init_X2_init : GoodIn wsX3_init wsX2_init := goodIn_r _ [27, 28, 2, 3, 29, 30, 31, 49, 50] (by decide +kernel) (by decide +kernel)
set_option maxRecDepth 20000 in
theorem gX3_init_X2_init : GoodIn wsX3_init (wsX2_init) := ggX3_init_X2_init
set_option maxRecDepth 20000 in
theorem ggX3_init_X0_init : GoodIn wsX3_init wsX0_init := goodIn_r _ [33, 34, 2, 3, 35, 5, 6, 36, 30, 37, 38, 39, 26, 27, 28, 29, 31, 49, 50, 63, 64, 65] (by decide +kernel) (by decide +kernel)
set_option maxRecDepth 20000 in
theorem gX3_init_X0_init_n38 : GoodIn wsX3_init (wsX0_init) := ggX3_init_X0_init
set_option maxRecDepth 20000 in
theorem ggX3_init_X1_init : GoodIn wsX3_init wsX1_init := goodIn_r _ [41, 42, 2, 3, 43, 15, 16, 44, 45, 5, 6, 46, 47, 32, 33, 34, 35, 36, 30, 37, 38, 39, 26, 27, 28, 29, 31, 48, 63, 64, 65, 66, 67, 68, 49, 50] (by decide +kernel) (by decide +kernel)
set_option maxRecDepth 20000 in
theorem gX3_init_X1_init_n45 : GoodIn wsX3_init (wsX1_init) := ggX3_init_X1_init
theorem dX3_init_0 : decode cX3_init 0 = .ok (.aload_n 0, 1) := by decide +kernel
theorem dX3_init_1 : decode cX3_init 1 = .ok (.invokespecial 3, 3) := by decide +kernel
theorem dX3_init_4 : decode cX3_init 4 = .ok (.aload_n 0, 1) := by decide +kernel
theorem dX3_init_5 : decode cX3_init 5 = .ok (.new 9, 3) := by decide +kernel
theorem dX3_init_8 : decode cX3_init 8 = .ok (.dup, 1) := by decide +kernel
theorem dX3_init_9 : decode cX3_init 9 = .ok (.sipush 300, 3) := by decide +kernel
theorem dX3_init_12 : decode cX3_init 12 = .ok (.invokespecial 11, 3) := by decide +kernel
theorem dX3_init_15 : decode cX3_init 15 = .ok (.putfield 14, 3) := by decide +kernel
theorem dX3_init_18 : decode cX3_init 18 = .ok (.aload_n 0, 1) := by decide +kernel
theorem dX3_init_19 : decode cX3_init 19 = .ok (.new 9, 3) := by decide +kernel
theorem dX3_init_22 : decode cX3_init 22 = .ok (.dup, 1) := by decide +kernel
theorem dX3_init_23 : decode cX3_init 23 = .ok (.sipush 300, 3) := by decide +kernel
theorem dX3_init_26 : decode cX3_init 26 = .ok (.invokespecial 11, 3) := by decide +kernel
theorem dX3_init_29 : decode cX3_init 29 = .ok (.putfield 18, 3) := by decide +kernel
theorem dX3_init_32 : decode cX3_init 32 = .ok (.aload_n 0, 1) := by decide +kernel
theorem dX3_init_33 : decode cX3_init 33 = .ok (.new 9, 3) := by decide +kernel
theorem dX3_init_36 : decode cX3_init 36 = .ok (.dup, 1) := by decide +kernel
theorem dX3_init_37 : decode cX3_init 37 = .ok (.sipush 400, 3) := by decide +kernel
theorem dX3_init_40 : decode cX3_init 40 = .ok (.invokespecial 11, 3) := by decide +kernel
theorem dX3_init_43 : decode cX3_init 43 = .ok (.putfield 21, 3) := by decide +kernel
theorem dX3_init_46 : decode cX3_init 46 = .ok (.aload_n 0, 1) := by decide +kernel
theorem dX3_init_47 : decode cX3_init 47 = .ok (.new 9, 3) := by decide +kernel
theorem dX3_init_50 : decode cX3_init 50 = .ok (.dup, 1) := by decide +kernel
theorem dX3_init_51 : decode cX3_init 51 = .ok (.bipush 32, 2) := by decide +kernel
theorem dX3_init_53 : decode cX3_init 53 = .ok (.invokespecial 11, 3) := by decide +kernel
theorem dX3_init_56 : decode cX3_init 56 = .ok (.putfield 24, 3) := by decide +kernel
theorem dX3_init_59 : decode cX3_init 59 = .ok (.aload_n 0, 1) := by decide +kernel
theorem dX3_init_60 : decode cX3_init 60 = .ok (.new 9, 3) := by decide +kernel
theorem dX3_init_63 : decode cX3_init 63 = .ok (.dup, 1) := by decide +kernel
theorem dX3_init_64 : decode cX3_init 64 = .ok (.bipush 32, 2) := by decide +kernel
theorem dX3_init_66 : decode cX3_init 66 = .ok (.invokespecial 11, 3) := by decide +kernel
theorem dX3_init_69 : decode cX3_init 69 = .ok (.putfield 27, 3) := by decide +kernel
theorem dX3_init_72 : decode cX3_init 72 = .ok (.aload_n 0, 1) := by decide +kernel
theorem dX3_init_73 : decode cX3_init 73 = .ok (.new 9, 3) := by decide +kernel
theorem dX3_init_76 : decode cX3_init 76 = .ok (.dup, 1) := by decide +kernel
theorem dX3_init_77 : decode cX3_init 77 = .ok (.bipush 32, 2) := by decide +kernel
theorem dX3_init_79 : decode cX3_init 79 = .ok (.invokespecial 11, 3) := by decide +kernel
theorem dX3_init_82 : decode cX3_init 82 = .ok (.putfield 30, 3) := by decide +kernel
theorem dX3_init_85 : decode cX3_init 85 = .ok (.aload_n 0, 1) := by decide +kernel
theorem dX3_init_86 : decode cX3_init 86 = .ok (.new 9, 3) := by decide +kernel
theorem dX3_init_89 : decode cX3_init 89 = .ok (.dup, 1) := by decide +kernel
theorem dX3_init_90 : decode cX3_init 90 = .ok (.bipush 32, 2) := by decide +kernel
theorem dX3_init_92 : decode cX3_init 92 = .ok (.invokespecial 11, 3) := by decide +kernel
theorem dX3_init_95 : decode cX3_init 95 = .ok (.putfield 33, 3) := by decide +kernel
theorem dX3_init_98 : decode cX3_init 98 = .ok (.aload_n 0, 1) := by decide +kernel
theorem dX3_init_99 : decode cX3_init 99 = .ok (.new 36, 3) := by decide +kernel
theorem dX3_init_102 : decode cX3_init 102 = .ok (.dup, 1) := by decide +kernel
theorem dX3_init_103 : decode cX3_init 103 = .ok (.invokespecial 38, 3) := by decide +kernel
theorem dX3_init_106 : decode cX3_init 106 = .ok (.putfield 39, 3) := by decide +kernel
theorem dX3_init_109 : decode cX3_init 109 = .ok (.aload_n 0, 1) := by decide +kernel
theorem dX3_init_110 : decode cX3_init 110 = .ok (.new 43, 3) := by decide +kernel
theorem dX3_init_113 : decode cX3_init 113 = .ok (.dup, 1) := by decide +kernel
theorem dX3_init_114 : decode cX3_init 114 = .ok (.invokespecial 45, 3) := by decide +kernel
theorem dX3_init_117 : decode cX3_init 117 = .ok (.putfield 46, 3) := by decide +kernel
theorem dX3_init_120 : decode cX3_init 120 = .ok (.aload_n 0, 1) := by decide +kernel
theorem dX3_init_121 : decode cX3_init 121 = .ok (.iconst 0, 1) := by decide +kernel
theorem dX3_init_122 : decode cX3_init 122 = .ok (.putfield 50, 3) := by decide +kernel
theorem dX3_init_125 : decode cX3_init 125 = .ok (.aload_n 0, 1) := by decide +kernel
theorem dX3_init_126 : decode cX3_init 126 = .ok (.bipush 100, 2) := by decide +kernel
theorem dX3_init_128 : decode cX3_init 128 = .ok (.putfield 54, 3) := by decide +kernel
theorem dX3_init_131 : decode cX3_init 131 = .ok (.aload_n 0, 1) := by decide +kernel
theorem dX3_init_132 : decode cX3_init 132 = .ok (.iconst 0, 1) := by decide +kernel
theorem dX3_init_133 : decode cX3_init 133 = .ok (.putfield 57, 3) := by decide +kernel
theorem dX3_init_136 : decode cX3_init 136 = .ok (.return_, 1) := by decide +kernel
set_option maxRecDepth 20000 in
theorem ggX3_feed_X2_size : GoodIn wsX3_feed wsX2_size := goodIn_r _ [6, 7, 25, 26] (by decide +kernel) (by decide +kernel)
set_option maxRecDepth 20000 in
theorem gX3_feed_X2_size : GoodIn wsX3_feed (wsV RX3 60 RX2 yX2_size wsX2_size) := goodIn_app (goodIn_of _ (by decide +kernel)) ggX3_feed_X2_size
set_option maxRecDepth 20000 in
theorem ggX3_feed_X2_put : GoodIn wsX3_feed wsX2_put := goodIn_r _ [11, 7, 12, 25, 26] (by decide +kernel) (by decide +kernel)
set_option maxRecDepth 20000 in
theorem gX3_feed_X2_put : GoodIn wsX3_feed (wsV RX3 64 RX2 yX2_put wsX2_put) := goodIn_app (goodIn_of _ (by decide +kernel)) ggX3_feed_X2_put
theorem dX3_feed_0 : decode cX3_feed 0 = .ok (.iload_n 3, 1) := by decide +kernel
theorem dX3_feed_1 : decode cX3_feed 1 = .ok (.iconst 1, 1) := by decide +kernel
theorem dX3_feed_2 : decode cX3_feed 2 = .ok (.if_icmp .lt 24, 3) := by decide +kernel
theorem dX3_feed_5 : decode cX3_feed 5 = .ok (.iload_n 3, 1) := by decide +kernel
theorem dX3_feed_6 : decode cX3_feed 6 = .ok (.bipush 8, 2) := by decide +kernel
theorem dX3_feed_8 : decode cX3_feed 8 = .ok (.if_icmp .gt 18, 3) := by decide +kernel
theorem dX3_feed_11 : decode cX3_feed 11 = .ok (.aload_n 0, 1) := by decide +kernel
theorem dX3_feed_12 : decode cX3_feed 12 = .ok (.getfield 14, 3) := by decide +kernel
theorem dX3_feed_15 : decode cX3_feed 15 = .ok (.invokevirtual 60, 3) := by decide +kernel
theorem dX3_feed_18 : decode cX3_feed 18 = .ok (.iload_n 3, 1) := by decide +kernel
theorem dX3_feed_19 : decode cX3_feed 19 = .ok (.iadd, 1) := by decide +kernel
theorem dX3_feed_20 : decode cX3_feed 20 = .ok (.sipush 300, 3) := by decide +kernel
theorem dX3_feed_23 : decode cX3_feed 23 = .ok (.if_icmp .le 5, 3) := by decide +kernel
theorem dX3_feed_26 : decode cX3_feed 26 = .ok (.iconst (-1), 1) := by decide +kernel
theorem dX3_feed_27 : decode cX3_feed 27 = .ok (.ireturn, 1) := by decide +kernel
theorem dX3_feed_28 : decode cX3_feed 28 = .ok (.iload_n 3, 1) := by decide +kernel
theorem dX3_feed_29 : decode cX3_feed 29 = .ok (.iconst 1, 1) := by decide +kernel
theorem dX3_feed_30 : decode cX3_feed 30 = .ok (.isub, 1) := by decide +kernel
theorem dX3_feed_31 : decode cX3_feed 31 = .ok (.istore 4, 2) := by decide +kernel
theorem dX3_feed_33 : decode cX3_feed 33 = .ok (.iload 4, 2) := by decide +kernel
theorem dX3_feed_35 : decode cX3_feed 35 = .ok (.ifCond .lt 28, 3) := by decide +kernel
theorem dX3_feed_38 : decode cX3_feed 38 = .ok (.aload_n 0, 1) := by decide +kernel
theorem dX3_feed_39 : decode cX3_feed 39 = .ok (.getfield 14, 3) := by decide +kernel
theorem dX3_feed_42 : decode cX3_feed 42 = .ok (.lload_n 1, 1) := by decide +kernel
theorem dX3_feed_43 : decode cX3_feed 43 = .ok (.bipush 8, 2) := by decide +kernel
theorem dX3_feed_45 : decode cX3_feed 45 = .ok (.iload 4, 2) := by decide +kernel
theorem dX3_feed_47 : decode cX3_feed 47 = .ok (.imul, 1) := by decide +kernel
theorem dX3_feed_48 : decode cX3_feed 48 = .ok (.lushr, 1) := by decide +kernel
theorem dX3_feed_49 : decode cX3_feed 49 = .ok (.l2i, 1) := by decide +kernel
theorem dX3_feed_50 : decode cX3_feed 50 = .ok (.sipush 255, 3) := by decide +kernel
theorem dX3_feed_53 : decode cX3_feed 53 = .ok (.iand, 1) := by decide +kernel
theorem dX3_feed_54 : decode cX3_feed 54 = .ok (.invokevirtual 64, 3) := by decide +kernel
theorem dX3_feed_57 : decode cX3_feed 57 = .ok (.iinc 4 (-1), 3) := by decide +kernel
theorem dX3_feed_60 : decode cX3_feed 60 = .ok (.goto (-27), 3) := by decide +kernel
theorem dX3_feed_63 : decode cX3_feed 63 = .ok (.aload_n 0, 1) := by decide +kernel
theorem dX3_feed_64 : decode cX3_feed 64 = .ok (.getfield 14, 3) := by decide +kernel
theorem dX3_feed_67 : decode cX3_feed 67 = .ok (.invokevirtual 60, 3) := by decide +kernel
theorem dX3_feed_70 : decode cX3_feed 70 = .ok (.ireturn, 1) := by decide +kernel
set_option maxRecDepth 20000 in
theorem ggX3_clear_X2_size : GoodIn wsX3_clear wsX2_size := goodIn_r _ [6, 7, 24, 25] (by decide +kernel) (by decide +kernel)
set_option maxRecDepth 20000 in
theorem gX3_clear_X2_size : GoodIn wsX3_clear (wsV RX3 60 RX2 yX2_size wsX2_size) := goodIn_app (goodIn_of _ (by decide +kernel)) ggX3_clear_X2_size
set_option maxRecDepth 20000 in
theorem ggX3_clear_X2_empty : GoodIn wsX3_clear wsX2_empty := goodIn_r _ [11, 7, 24, 25] (by decide +kernel) (by decide +kernel)
set_option maxRecDepth 20000 in
theorem gX3_clear_X2_empty : GoodIn wsX3_clear (wsV RX3 67 RX2 yX2_empty wsX2_empty) := goodIn_app (goodIn_of _ (by decide +kernel)) ggX3_clear_X2_empty
theorem dX3_clear_0 : decode cX3_clear 0 = .ok (.aload_n 0, 1) := by decide +kernel
theorem dX3_clear_1 : decode cX3_clear 1 = .ok (.getfield 14, 3) := by decide +kernel
theorem dX3_clear_4 : decode cX3_clear 4 = .ok (.invokevirtual 60, 3) := by decide +kernel
theorem dX3_clear_7 : decode cX3_clear 7 = .ok (.istore_n 1, 1) := by decide +kernel
theorem dX3_clear_8 : decode cX3_clear 8 = .ok (.aload_n 0, 1) := by decide +kernel
theorem dX3_clear_9 : decode cX3_clear 9 = .ok (.getfield 14, 3) := by decide +kernel
theorem dX3_clear_12 : decode cX3_clear 12 = .ok (.invokevirtual 67, 3) := by decide +kernel
theorem dX3_clear_15 : decode cX3_clear 15 = .ok (.iload_n 1, 1) := by decide +kernel
theorem dX3_clear_16 : decode cX3_clear 16 = .ok (.ireturn, 1) := by decide +kernel
set_option maxRecDepth 20000 in
theorem ggX3_seed_X2_size : GoodIn wsX3_seed wsX2_size := goodIn_r _ [9, 10, 156, 157] (by decide +kernel) (by decide +kernel)
set_option maxRecDepth 20000 in
theorem gX3_seed_X2_size : GoodIn wsX3_seed (wsV RX3 60 RX2 yX2_size wsX2_size) := goodIn_app (goodIn_of _ (by decide +kernel)) ggX3_seed_X2_size
set_option maxRecDepth 20000 in
theorem ggX3_seed_X2_fill : GoodIn wsX3_seed wsX2_fill := goodIn_r _ [14, 15, 10, 16, 17, 18, 19, 156, 157] (by decide +kernel) (by decide +kernel)
set_option maxRecDepth 20000 in
theorem gX3_seed_X2_fill : GoodIn wsX3_seed (wsV RX3 70 RX2 yX2_fill wsX2_fill) := goodIn_app (goodIn_of _ (by decide +kernel)) ggX3_seed_X2_fill
set_option maxRecDepth 20000 in
theorem ggX3_seed_X3_stir : GoodIn wsX3_seed wsX3_stir := goodIn_r _ [24, 1, 25, 2, 3, 5, 6, 7, 8, 9, 10, 26, 27, 28, 29, 30, 31, 32, 33, 34, 35, 36, 37, 38, 39, 40, 41, 42, 43, 44, 45, 46, 47, 48, 49, 50, 51, 52, 53, 54, 55, 56, 57, 15, 58, 59, 60, 61, 62, 63, 64, 65, 66, 67, 68, 69, 70, 71, 72, 73, 74, 75, 76, 77, 78, 79, 80, 81, 82, 83, 84, 85, 86, 87, 88, 89, 90, 91, 92, 93, 94, 95, 96, 97, 98, 99, 100, 101, 102, 103, 104, 105, 106, 107, 108, 109, 110, 111, 112, 113, 114, 115, 116, 117, 118, 119, 120, 121, 122, 123, 124, 125, 126, 127, 128, 129, 130, 131, 132, 133, 134, 135, 136, 137, 138, 139, 23, 140, 141, 142, 143, 144, 145, 146, 147, 148, 149, 150, 151, 152, 153, 154, 155, 156, 157, 158, 159, 160, 161, 162, 163] (by decide +kernel) (by decide +kernel)
set_option maxRecDepth 20000 in
theorem gX3_seed_X3_stir : GoodIn wsX3_seed (wsV RX3 73 RX3 yX3_stir wsX3_stir) := goodIn_app (goodIn_of _ (by decide +kernel)) ggX3_seed_X3_stir
set_option maxRecDepth 20000 in
theorem ggX3_seed_X2_empty : GoodIn wsX3_seed wsX2_empty := goodIn_r _ [36, 10, 156, 157] (by decide +kernel) (by decide +kernel)
set_option maxRecDepth 20000 in
theorem gX3_seed_X2_empty : GoodIn wsX3_seed (wsV RX3 67 RX2 yX2_empty wsX2_empty) := goodIn_app (goodIn_of _ (by decide +kernel)) ggX3_seed_X2_empty
theorem dX3_seed_0 : decode cX3_seed 0 = .ok (.aload_n 0, 1) := by decide +kernel
theorem dX3_seed_1 : decode cX3_seed 1 = .ok (.getfield 14, 3) := by decide +kernel
theorem dX3_seed_4 : decode cX3_seed 4 = .ok (.invokevirtual 60, 3) := by decide +kernel
theorem dX3_seed_7 : decode cX3_seed 7 = .ok (.ifCond .ne 5, 3) := by decide +kernel
theorem dX3_seed_10 : decode cX3_seed 10 = .ok (.iconst 0, 1) := by decide +kernel
theorem dX3_seed_11 : decode cX3_seed 11 = .ok (.ireturn, 1) := by decide +kernel
theorem dX3_seed_12 : decode cX3_seed 12 = .ok (.aload_n 0, 1) := by decide +kernel
theorem dX3_seed_13 : decode cX3_seed 13 = .ok (.getfield 24, 3) := by decide +kernel
theorem dX3_seed_16 : decode cX3_seed 16 = .ok (.iconst 0, 1) := by decide +kernel
theorem dX3_seed_17 : decode cX3_seed 17 = .ok (.invokevirtual 70, 3) := by decide +kernel
theorem dX3_seed_20 : decode cX3_seed 20 = .ok (.aload_n 0, 1) := by decide +kernel
theorem dX3_seed_21 : decode cX3_seed 21 = .ok (.getfield 27, 3) := by decide +kernel
theorem dX3_seed_24 : decode cX3_seed 24 = .ok (.iconst 1, 1) := by decide +kernel
theorem dX3_seed_25 : decode cX3_seed 25 = .ok (.invokevirtual 70, 3) := by decide +kernel
theorem dX3_seed_28 : decode cX3_seed 28 = .ok (.aload_n 0, 1) := by decide +kernel
theorem dX3_seed_29 : decode cX3_seed 29 = .ok (.invokevirtual 73, 3) := by decide +kernel
theorem dX3_seed_32 : decode cX3_seed 32 = .ok (.aload_n 0, 1) := by decide +kernel
theorem dX3_seed_33 : decode cX3_seed 33 = .ok (.getfield 14, 3) := by decide +kernel
theorem dX3_seed_36 : decode cX3_seed 36 = .ok (.invokevirtual 67, 3) := by decide +kernel
theorem dX3_seed_39 : decode cX3_seed 39 = .ok (.aload_n 0, 1) := by decide +kernel
theorem dX3_seed_40 : decode cX3_seed 40 = .ok (.iconst 1, 1) := by decide +kernel
theorem dX3_seed_41 : decode cX3_seed 41 = .ok (.putfield 50, 3) := by decide +kernel
theorem dX3_seed_44 : decode cX3_seed 44 = .ok (.iconst 1, 1) := by decide +kernel
theorem dX3_seed_45 : decode cX3_seed 45 = .ok (.ireturn, 1) := by decide +kernel
set_option maxRecDepth 20000 in
theorem ggX3_reseed_X2_size : GoodIn wsX3_reseed wsX2_size := goodIn_r _ [7, 8, 152, 153] (by decide +kernel) (by decide +kernel)
set_option maxRecDepth 20000 in
theorem gX3_reseed_X2_size : GoodIn wsX3_reseed (wsV RX3 60 RX2 yX2_size wsX2_size) := goodIn_app (goodIn_of _ (by decide +kernel)) ggX3_reseed_X2_size
set_option maxRecDepth 20000 in
theorem ggX3_reseed_X3_isSeeded : GoodIn wsX3_reseed wsX3_isSeeded := goodIn_r _ [13, 2, 140, 141, 142, 143, 144, 145, 146, 147, 148, 149, 150, 151] (by decide +kernel) (by decide +kernel)
set_option maxRecDepth 20000 in
theorem gX3_reseed_X3_isSeeded : GoodIn wsX3_reseed (wsV RX3 76 RX3 yX3_isSeeded wsX3_isSeeded) := goodIn_app (goodIn_of _ (by decide +kernel)) ggX3_reseed_X3_isSeeded
set_option maxRecDepth 20000 in
theorem ggX3_reseed_X3_stir : GoodIn wsX3_reseed wsX3_stir := goodIn_r _ [17, 1, 18, 19, 20, 3, 4, 5, 6, 7, 8, 21, 22, 23, 24, 25, 26, 27, 28, 29, 30, 31, 32, 33, 34, 35, 36, 37, 38, 39, 40, 41, 42, 43, 44, 45, 46, 47, 48, 49, 50, 51, 52, 53, 54, 55, 56, 57, 58, 59, 60, 61, 62, 63, 64, 65, 66, 67, 68, 69, 70, 71, 72, 73, 74, 75, 76, 77, 78, 79, 80, 81, 82, 83, 84, 85, 86, 87, 88, 89, 90, 91, 92, 93, 94, 95, 96, 97, 98, 99, 100, 101, 102, 103, 104, 105, 106, 107, 108, 109, 110, 111, 112, 113, 114, 115, 116, 117, 118, 119, 120, 121, 122, 123, 124, 125, 126, 127, 128, 129, 130, 131, 132, 133, 134, 135, 12, 136, 137, 138, 139, 140, 141, 142, 143, 144, 145, 146, 147, 148, 149, 150, 151, 152, 153, 154, 155, 156, 157, 158, 159] (by decide +kernel) (by decide +kernel)
set_option maxRecDepth 20000 in
theorem gX3_reseed_X3_stir : GoodIn wsX3_reseed (wsV RX3 73 RX3 yX3_stir wsX3_stir) := goodIn_app (goodIn_of _ (by decide +kernel)) ggX3_reseed_X3_stir
set_option maxRecDepth 20000 in
theorem ggX3_reseed_X2_empty : GoodIn wsX3_reseed wsX2_empty := goodIn_r _ [31, 8, 152, 153] (by decide +kernel) (by decide +kernel)
set_option maxRecDepth 20000 in
theorem gX3_reseed_X2_empty : GoodIn wsX3_reseed (wsV RX3 67 RX2 yX2_empty wsX2_empty) := goodIn_app (goodIn_of _ (by decide +kernel)) ggX3_reseed_X2_empty
theorem dX3_reseed_0 : decode cX3_reseed 0 = .ok (.aload_n 0, 1) := by decide +kernel
theorem dX3_reseed_1 : decode cX3_reseed 1 = .ok (.getfield 14, 3) := by decide +kernel
theorem dX3_reseed_4 : decode cX3_reseed 4 = .ok (.invokevirtual 60, 3) := by decide +kernel
theorem dX3_reseed_7 : decode cX3_reseed 7 = .ok (.ifCond .eq 10, 3) := by decide +kernel
theorem dX3_reseed_10 : decode cX3_reseed 10 = .ok (.aload_n 0, 1) := by decide +kernel
theorem dX3_reseed_11 : decode cX3_reseed 11 = .ok (.invokevirtual 76, 3) := by decide +kernel
theorem dX3_reseed_14 : decode cX3_reseed 14 = .ok (.ifCond .ne 5, 3) := by decide +kernel
theorem dX3_reseed_17 : decode cX3_reseed 17 = .ok (.iconst 0, 1) := by decide +kernel
theorem dX3_reseed_18 : decode cX3_reseed 18 = .ok (.ireturn, 1) := by decide +kernel
theorem dX3_reseed_19 : decode cX3_reseed 19 = .ok (.aload_n 0, 1) := by decide +kernel
theorem dX3_reseed_20 : decode cX3_reseed 20 = .ok (.invokevirtual 73, 3) := by decide +kernel
theorem dX3_reseed_23 : decode cX3_reseed 23 = .ok (.aload_n 0, 1) := by decide +kernel
theorem dX3_reseed_24 : decode cX3_reseed 24 = .ok (.getfield 14, 3) := by decide +kernel
theorem dX3_reseed_27 : decode cX3_reseed 27 = .ok (.invokevirtual 67, 3) := by decide +kernel
theorem dX3_reseed_30 : decode cX3_reseed 30 = .ok (.aload_n 0, 1) := by decide +kernel
theorem dX3_reseed_31 : decode cX3_reseed 31 = .ok (.iconst 1, 1) := by decide +kernel
theorem dX3_reseed_32 : decode cX3_reseed 32 = .ok (.putfield 50, 3) := by decide +kernel
theorem dX3_reseed_35 : decode cX3_reseed 35 = .ok (.iconst 1, 1) := by decide +kernel
theorem dX3_reseed_36 : decode cX3_reseed 36 = .ok (.ireturn, 1) := by decide +kernel
set_option maxRecDepth 20000 in
theorem ggX3_draw_X3_isSeeded : GoodIn wsX3_draw wsX3_isSeeded := goodIn_r _ [9, 1, 148, 149, 150, 151, 152, 153, 154, 155, 156, 157, 158, 159] (by decide +kernel) (by decide +kernel)
set_option maxRecDepth 20000 in
theorem gX3_draw_X3_isSeeded : GoodIn wsX3_draw (wsV RX3 76 RX3 yX3_isSeeded wsX3_isSeeded) := goodIn_app (goodIn_of _ (by decide +kernel)) ggX3_draw_X3_isSeeded
set_option maxRecDepth 20000 in
theorem ggX3_draw_X2_size : GoodIn wsX3_draw wsX2_size := goodIn_r _ [14, 15, 160, 161] (by decide +kernel) (by decide +kernel)
set_option maxRecDepth 20000 in
theorem gX3_draw_X2_size : GoodIn wsX3_draw (wsV RX3 60 RX2 yX2_size wsX2_size) := goodIn_app (goodIn_of _ (by decide +kernel)) ggX3_draw_X2_size
set_option maxRecDepth 20000 in
theorem ggX3_draw_X3_stir : GoodIn wsX3_draw wsX3_stir := goodIn_r _ [19, 3, 20, 21, 22, 10, 11, 12, 13, 14, 15, 23, 24, 25, 26, 27, 28, 29, 30, 31, 32, 33, 34, 35, 36, 37, 38, 39, 40, 41, 42, 43, 44, 45, 46, 47, 48, 49, 50, 51, 52, 53, 54, 55, 56, 57, 58, 59, 60, 61, 62, 63, 64, 65, 66, 67, 68, 69, 70, 71, 72, 73, 74, 75, 76, 77, 78, 79, 80, 81, 82, 83, 84, 85, 86, 87, 88, 89, 90, 91, 92, 93, 94, 95, 96, 97, 98, 99, 100, 101, 102, 103, 104, 105, 106, 107, 108, 109, 110, 111, 112, 113, 114, 115, 116, 117, 118, 119, 120, 121, 122, 123, 124, 125, 126, 127, 128, 129, 130, 131, 132, 133, 134, 135, 136, 137, 8, 138, 139, 140, 141, 148, 149, 150, 151, 152, 153, 154, 155, 156, 157, 158, 159, 160, 161, 162, 163, 164, 165, 166, 167] (by decide +kernel) (by decide +kernel)
set_option maxRecDepth 20000 in
theorem gX3_draw_X3_stir : GoodIn wsX3_draw (wsV RX3 73 RX3 yX3_stir wsX3_stir) := goodIn_app (goodIn_of _ (by decide +kernel)) ggX3_draw_X3_stir
set_option maxRecDepth 20000 in
theorem ggX3_draw_X3_fillDrawn : GoodIn wsX3_draw wsX3_fillDrawn := goodIn_r _ [145, 146, 22, 147, 52, 53, 54, 140, 31, 32, 13, 33, 15, 135, 136, 137, 8, 138, 139, 20, 21, 141, 48, 49, 50, 51, 55, 56, 57, 58, 59, 23, 24, 25, 26, 27, 28, 29, 30, 34, 11, 12, 14, 35, 36, 37, 38, 39, 40, 41, 42, 43, 44, 45, 46, 47, 60, 61, 62, 63, 64, 65, 66, 67, 68, 69, 70, 71, 72, 73, 74, 75, 76, 77, 78, 79, 80, 81, 82, 83, 84, 85, 86, 87, 88, 89, 90, 91, 92, 93, 94, 95, 96, 97, 98, 99, 100, 101, 102, 103, 104, 105, 106, 107, 108, 109, 110, 111, 112, 113, 114, 115, 116, 117, 118, 119, 120, 121, 130, 131, 132, 133, 134, 148, 149, 150, 151, 152, 153, 154, 155, 156, 157, 158, 159, 160, 161, 162, 163, 164, 165, 166, 167] (by decide +kernel) (by decide +kernel)
set_option maxRecDepth 20000 in
theorem gX3_draw_X3_fillDrawn : GoodIn wsX3_draw (wsV RX3 80 RX3 yX3_fillDrawn wsX3_fillDrawn) := goodIn_app (goodIn_of _ (by decide +kernel)) ggX3_draw_X3_fillDrawn
set_option maxRecDepth 20000 in
theorem ggX3_draw_X2_empty : GoodIn wsX3_draw wsX2_empty := goodIn_r _ [33, 15, 160, 161] (by decide +kernel) (by decide +kernel)
set_option maxRecDepth 20000 in
theorem gX3_draw_X2_empty : GoodIn wsX3_draw (wsV RX3 67 RX2 yX2_empty wsX2_empty) := goodIn_app (goodIn_of _ (by decide +kernel)) ggX3_draw_X2_empty
theorem dX3_draw_0 : decode cX3_draw 0 = .ok (.aload_n 0, 1) := by decide +kernel
theorem dX3_draw_1 : decode cX3_draw 1 = .ok (.invokevirtual 76, 3) := by decide +kernel
theorem dX3_draw_4 : decode cX3_draw 4 = .ok (.ifCond .ne 5, 3) := by decide +kernel
theorem dX3_draw_7 : decode cX3_draw 7 = .ok (.iconst 1, 1) := by decide +kernel
theorem dX3_draw_8 : decode cX3_draw 8 = .ok (.ireturn, 1) := by decide +kernel
theorem dX3_draw_9 : decode cX3_draw 9 = .ok (.iload_n 1, 1) := by decide +kernel
theorem dX3_draw_10 : decode cX3_draw 10 = .ok (.iconst 1, 1) := by decide +kernel
theorem dX3_draw_11 : decode cX3_draw 11 = .ok (.if_icmp .lt 10, 3) := by decide +kernel
theorem dX3_draw_14 : decode cX3_draw 14 = .ok (.iload_n 1, 1) := by decide +kernel
theorem dX3_draw_15 : decode cX3_draw 15 = .ok (.sipush 400, 3) := by decide +kernel
theorem dX3_draw_18 : decode cX3_draw 18 = .ok (.if_icmp .le 5, 3) := by decide +kernel
theorem dX3_draw_21 : decode cX3_draw 21 = .ok (.iconst 2, 1) := by decide +kernel
theorem dX3_draw_22 : decode cX3_draw 22 = .ok (.ireturn, 1) := by decide +kernel
theorem dX3_draw_23 : decode cX3_draw 23 = .ok (.aload_n 0, 1) := by decide +kernel
theorem dX3_draw_24 : decode cX3_draw 24 = .ok (.getfield 50, 3) := by decide +kernel
theorem dX3_draw_27 : decode cX3_draw 27 = .ok (.aload_n 0, 1) := by decide +kernel
theorem dX3_draw_28 : decode cX3_draw 28 = .ok (.getfield 54, 3) := by decide +kernel
theorem dX3_draw_31 : decode cX3_draw 31 = .ok (.if_icmp .le 5, 3) := by decide +kernel
theorem dX3_draw_34 : decode cX3_draw 34 = .ok (.iconst 3, 1) := by decide +kernel
theorem dX3_draw_35 : decode cX3_draw 35 = .ok (.ireturn, 1) := by decide +kernel
theorem dX3_draw_36 : decode cX3_draw 36 = .ok (.aload_n 0, 1) := by decide +kernel
theorem dX3_draw_37 : decode cX3_draw 37 = .ok (.getfield 14, 3) := by decide +kernel
theorem dX3_draw_40 : decode cX3_draw 40 = .ok (.invokevirtual 60, 3) := by decide +kernel
theorem dX3_draw_43 : decode cX3_draw 43 = .ok (.ifCond .le 7, 3) := by decide +kernel
theorem dX3_draw_46 : decode cX3_draw 46 = .ok (.aload_n 0, 1) := by decide +kernel
theorem dX3_draw_47 : decode cX3_draw 47 = .ok (.invokevirtual 73, 3) := by decide +kernel
theorem dX3_draw_50 : decode cX3_draw 50 = .ok (.aload_n 0, 1) := by decide +kernel
theorem dX3_draw_51 : decode cX3_draw 51 = .ok (.iload_n 1, 1) := by decide +kernel
theorem dX3_draw_52 : decode cX3_draw 52 = .ok (.invokevirtual 80, 3) := by decide +kernel
theorem dX3_draw_55 : decode cX3_draw 55 = .ok (.aload_n 0, 1) := by decide +kernel
theorem dX3_draw_56 : decode cX3_draw 56 = .ok (.invokevirtual 73, 3) := by decide +kernel
theorem dX3_draw_59 : decode cX3_draw 59 = .ok (.aload_n 0, 1) := by decide +kernel
theorem dX3_draw_60 : decode cX3_draw 60 = .ok (.getfield 14, 3) := by decide +kernel
theorem dX3_draw_63 : decode cX3_draw 63 = .ok (.invokevirtual 67, 3) := by decide +kernel
theorem dX3_draw_66 : decode cX3_draw 66 = .ok (.aload_n 0, 1) := by decide +kernel
theorem dX3_draw_67 : decode cX3_draw 67 = .ok (.dup, 1) := by decide +kernel
theorem dX3_draw_68 : decode cX3_draw 68 = .ok (.getfield 50, 3) := by decide +kernel
theorem dX3_draw_71 : decode cX3_draw 71 = .ok (.iconst 1, 1) := by decide +kernel
theorem dX3_draw_72 : decode cX3_draw 72 = .ok (.iadd, 1) := by decide +kernel
theorem dX3_draw_73 : decode cX3_draw 73 = .ok (.putfield 50, 3) := by decide +kernel
theorem dX3_draw_76 : decode cX3_draw 76 = .ok (.aload_n 0, 1) := by decide +kernel
theorem dX3_draw_77 : decode cX3_draw 77 = .ok (.dup, 1) := by decide +kernel
theorem dX3_draw_78 : decode cX3_draw 78 = .ok (.getfield 57, 3) := by decide +kernel
theorem dX3_draw_81 : decode cX3_draw 81 = .ok (.iconst 1, 1) := by decide +kernel
theorem dX3_draw_82 : decode cX3_draw 82 = .ok (.iadd, 1) := by decide +kernel
theorem dX3_draw_83 : decode cX3_draw 83 = .ok (.putfield 57, 3) := by decide +kernel
theorem dX3_draw_86 : decode cX3_draw 86 = .ok (.iconst 0, 1) := by decide +kernel
theorem dX3_draw_87 : decode cX3_draw 87 = .ok (.ireturn, 1) := by decide +kernel
theorem dX3_interval_0 : decode cX3_interval 0 = .ok (.iload_n 1, 1) := by decide +kernel
theorem dX3_interval_1 : decode cX3_interval 1 = .ok (.iconst 1, 1) := by decide +kernel
theorem dX3_interval_2 : decode cX3_interval 2 = .ok (.if_icmp .lt 10, 3) := by decide +kernel
theorem dX3_interval_5 : decode cX3_interval 5 = .ok (.iload_n 1, 1) := by decide +kernel
theorem dX3_interval_6 : decode cX3_interval 6 = .ok (.sipush 1000, 3) := by decide +kernel
theorem dX3_interval_9 : decode cX3_interval 9 = .ok (.if_icmp .le 5, 3) := by decide +kernel
theorem dX3_interval_12 : decode cX3_interval 12 = .ok (.iconst 0, 1) := by decide +kernel
theorem dX3_interval_13 : decode cX3_interval 13 = .ok (.ireturn, 1) := by decide +kernel
theorem dX3_interval_14 : decode cX3_interval 14 = .ok (.aload_n 0, 1) := by decide +kernel
theorem dX3_interval_15 : decode cX3_interval 15 = .ok (.iload_n 1, 1) := by decide +kernel
theorem dX3_interval_16 : decode cX3_interval 16 = .ok (.putfield 54, 3) := by decide +kernel
theorem dX3_interval_19 : decode cX3_interval 19 = .ok (.iconst 1, 1) := by decide +kernel
theorem dX3_interval_20 : decode cX3_interval 20 = .ok (.ireturn, 1) := by decide +kernel
set_option maxRecDepth 20000 in
theorem ggX3_out_X2_at : GoodIn wsX3_out wsX2_at := goodIn_r _ [6, 7, 8, 21, 22] (by decide +kernel) (by decide +kernel)
set_option maxRecDepth 20000 in
theorem gX3_out_X2_at : GoodIn wsX3_out (wsV RX3 83 RX2 yX2_at wsX2_at) := goodIn_app (goodIn_of _ (by decide +kernel)) ggX3_out_X2_at
theorem dX3_out_0 : decode cX3_out 0 = .ok (.aload_n 0, 1) := by decide +kernel
theorem dX3_out_1 : decode cX3_out 1 = .ok (.getfield 21, 3) := by decide +kernel
theorem dX3_out_4 : decode cX3_out 4 = .ok (.iload_n 1, 1) := by decide +kernel
theorem dX3_out_5 : decode cX3_out 5 = .ok (.invokevirtual 83, 3) := by decide +kernel
theorem dX3_out_8 : decode cX3_out 8 = .ok (.ireturn, 1) := by decide +kernel
theorem dX3_counter_0 : decode cX3_counter 0 = .ok (.aload_n 0, 1) := by decide +kernel
theorem dX3_counter_1 : decode cX3_counter 1 = .ok (.getfield 50, 3) := by decide +kernel
theorem dX3_counter_4 : decode cX3_counter 4 = .ok (.ireturn, 1) := by decide +kernel
set_option maxRecDepth 20000 in
theorem ggX3_state_X3_isSeeded : GoodIn wsX3_state wsX3_isSeeded := goodIn_r _ [7, 8, 16, 17, 18, 19, 20, 21, 22, 23, 24, 25, 26, 27] (by decide +kernel) (by decide +kernel)
set_option maxRecDepth 20000 in
theorem gX3_state_X3_isSeeded : GoodIn wsX3_state (wsV RX3 76 RX3 yX3_isSeeded wsX3_isSeeded) := goodIn_app (goodIn_of _ (by decide +kernel)) ggX3_state_X3_isSeeded
set_option maxRecDepth 20000 in
theorem ggX3_state_X2_at : GoodIn wsX3_state wsX2_at := goodIn_r _ [13, 14, 15, 28, 29] (by decide +kernel) (by decide +kernel)
set_option maxRecDepth 20000 in
theorem gX3_state_X2_at : GoodIn wsX3_state (wsV RX3 83 RX2 yX2_at wsX2_at) := goodIn_app (goodIn_of _ (by decide +kernel)) ggX3_state_X2_at
theorem dX3_state_0 : decode cX3_state 0 = .ok (.aload_n 0, 1) := by decide +kernel
theorem dX3_state_1 : decode cX3_state 1 = .ok (.invokevirtual 76, 3) := by decide +kernel
theorem dX3_state_4 : decode cX3_state 4 = .ok (.ifCond .ne 5, 3) := by decide +kernel
theorem dX3_state_7 : decode cX3_state 7 = .ok (.iconst (-1), 1) := by decide +kernel
theorem dX3_state_8 : decode cX3_state 8 = .ok (.ireturn, 1) := by decide +kernel
theorem dX3_state_9 : decode cX3_state 9 = .ok (.iload_n 1, 1) := by decide +kernel
theorem dX3_state_10 : decode cX3_state 10 = .ok (.lookupswitch 44 #[(0, 26), (1, 35)], 26) := by decide +kernel
theorem dX3_state_36 : decode cX3_state 36 = .ok (.aload_n 0, 1) := by decide +kernel
theorem dX3_state_37 : decode cX3_state 37 = .ok (.getfield 24, 3) := by decide +kernel
theorem dX3_state_40 : decode cX3_state 40 = .ok (.iload_n 2, 1) := by decide +kernel
theorem dX3_state_41 : decode cX3_state 41 = .ok (.invokevirtual 83, 3) := by decide +kernel
theorem dX3_state_44 : decode cX3_state 44 = .ok (.ireturn, 1) := by decide +kernel
theorem dX3_state_45 : decode cX3_state 45 = .ok (.aload_n 0, 1) := by decide +kernel
theorem dX3_state_46 : decode cX3_state 46 = .ok (.getfield 27, 3) := by decide +kernel
theorem dX3_state_49 : decode cX3_state 49 = .ok (.iload_n 2, 1) := by decide +kernel
theorem dX3_state_50 : decode cX3_state 50 = .ok (.invokevirtual 83, 3) := by decide +kernel
theorem dX3_state_53 : decode cX3_state 53 = .ok (.ireturn, 1) := by decide +kernel
theorem dX3_state_54 : decode cX3_state 54 = .ok (.iconst (-1), 1) := by decide +kernel
theorem dX3_state_55 : decode cX3_state 55 = .ok (.ireturn, 1) := by decide +kernel
set_option maxRecDepth 20000 in
theorem ggX3_forget_X3_isSeeded : GoodIn wsX3_forget wsX3_isSeeded := goodIn_r _ [10, 1, 26, 27, 28, 29, 30, 31, 32, 33, 34, 35, 36, 37] (by decide +kernel) (by decide +kernel)
set_option maxRecDepth 20000 in
theorem gX3_forget_X3_isSeeded : GoodIn wsX3_forget (wsV RX3 76 RX3 yX3_isSeeded wsX3_isSeeded) := goodIn_app (goodIn_of _ (by decide +kernel)) ggX3_forget_X3_isSeeded
set_option maxRecDepth 20000 in
theorem ggX3_forget_X2_fill : GoodIn wsX3_forget wsX2_fill := goodIn_r _ [15, 16, 17, 18, 19, 20, 21, 38, 39] (by decide +kernel) (by decide +kernel)
set_option maxRecDepth 20000 in
theorem gX3_forget_X2_fill : GoodIn wsX3_forget (wsV RX3 70 RX2 yX2_fill wsX2_fill) := goodIn_app (goodIn_of _ (by decide +kernel)) ggX3_forget_X2_fill
set_option maxRecDepth 20000 in
theorem ggX3_forget_X2_empty : GoodIn wsX3_forget wsX2_empty := goodIn_r _ [25, 17, 38, 39] (by decide +kernel) (by decide +kernel)
set_option maxRecDepth 20000 in
theorem gX3_forget_X2_empty : GoodIn wsX3_forget (wsV RX3 67 RX2 yX2_empty wsX2_empty) := goodIn_app (goodIn_of _ (by decide +kernel)) ggX3_forget_X2_empty
theorem dX3_forget_0 : decode cX3_forget 0 = .ok (.aload_n 0, 1) := by decide +kernel
theorem dX3_forget_1 : decode cX3_forget 1 = .ok (.invokevirtual 76, 3) := by decide +kernel
theorem dX3_forget_4 : decode cX3_forget 4 = .ok (.ifCond .ne 5, 3) := by decide +kernel
theorem dX3_forget_7 : decode cX3_forget 7 = .ok (.iconst 0, 1) := by decide +kernel
theorem dX3_forget_8 : decode cX3_forget 8 = .ok (.ireturn, 1) := by decide +kernel
theorem dX3_forget_9 : decode cX3_forget 9 = .ok (.aload_n 0, 1) := by decide +kernel
theorem dX3_forget_10 : decode cX3_forget 10 = .ok (.iconst 0, 1) := by decide +kernel
theorem dX3_forget_11 : decode cX3_forget 11 = .ok (.putfield 50, 3) := by decide +kernel
theorem dX3_forget_14 : decode cX3_forget 14 = .ok (.aload_n 0, 1) := by decide +kernel
theorem dX3_forget_15 : decode cX3_forget 15 = .ok (.getfield 24, 3) := by decide +kernel
theorem dX3_forget_18 : decode cX3_forget 18 = .ok (.iconst 0, 1) := by decide +kernel
theorem dX3_forget_19 : decode cX3_forget 19 = .ok (.invokevirtual 70, 3) := by decide +kernel
theorem dX3_forget_22 : decode cX3_forget 22 = .ok (.aload_n 0, 1) := by decide +kernel
theorem dX3_forget_23 : decode cX3_forget 23 = .ok (.getfield 27, 3) := by decide +kernel
theorem dX3_forget_26 : decode cX3_forget 26 = .ok (.iconst 0, 1) := by decide +kernel
theorem dX3_forget_27 : decode cX3_forget 27 = .ok (.invokevirtual 70, 3) := by decide +kernel
theorem dX3_forget_30 : decode cX3_forget 30 = .ok (.aload_n 0, 1) := by decide +kernel
theorem dX3_forget_31 : decode cX3_forget 31 = .ok (.getfield 30, 3) := by decide +kernel
theorem dX3_forget_34 : decode cX3_forget 34 = .ok (.iconst 0, 1) := by decide +kernel
theorem dX3_forget_35 : decode cX3_forget 35 = .ok (.invokevirtual 70, 3) := by decide +kernel
theorem dX3_forget_38 : decode cX3_forget 38 = .ok (.aload_n 0, 1) := by decide +kernel
theorem dX3_forget_39 : decode cX3_forget 39 = .ok (.getfield 21, 3) := by decide +kernel
theorem dX3_forget_42 : decode cX3_forget 42 = .ok (.iconst 0, 1) := by decide +kernel
theorem dX3_forget_43 : decode cX3_forget 43 = .ok (.invokevirtual 70, 3) := by decide +kernel
theorem dX3_forget_46 : decode cX3_forget 46 = .ok (.aload_n 0, 1) := by decide +kernel
theorem dX3_forget_47 : decode cX3_forget 47 = .ok (.getfield 21, 3) := by decide +kernel
theorem dX3_forget_50 : decode cX3_forget 50 = .ok (.invokevirtual 67, 3) := by decide +kernel
theorem dX3_forget_53 : decode cX3_forget 53 = .ok (.iconst 1, 1) := by decide +kernel
theorem dX3_forget_54 : decode cX3_forget 54 = .ok (.ireturn, 1) := by decide +kernel
set_option maxRecDepth 20000 in
theorem ggX3_hash_X0_begin : GoodIn wsX3_hash wsX0_begin := goodIn_r _ [8, 9, 10, 11, 12, 13, 14, 15, 98, 99, 100, 101, 102] (by decide +kernel) (by decide +kernel)
set_option maxRecDepth 20000 in
theorem gX3_hash_X0_begin : GoodIn wsX3_hash (wsV RX3 87 RX0 yX0_begin wsX0_begin) := goodIn_app (goodIn_of _ (by decide +kernel)) ggX3_hash_X0_begin
set_option maxRecDepth 20000 in
theorem ggX3_hash_X0_add : GoodIn wsX3_hash wsX0_add := goodIn_r _ [19, 9, 20, 21, 22, 13, 23, 15, 24, 25, 26, 27, 28, 29, 30, 31, 32, 33, 34, 35, 36, 98, 99, 100, 101, 102] (by decide +kernel) (by decide +kernel)
set_option maxRecDepth 20000 in
theorem gX3_hash_X0_add : GoodIn wsX3_hash (wsV RX3 90 RX0 yX0_add wsX0_add) := goodIn_app (goodIn_of _ (by decide +kernel)) ggX3_hash_X0_add
set_option maxRecDepth 20000 in
theorem ggX3_hash_X0_end : GoodIn wsX3_hash wsX0_end := goodIn_r _ [40, 41, 42, 43, 44, 45, 46, 9, 47, 48, 49, 7, 50, 20, 21, 22, 13, 23, 15, 51, 34, 35, 36, 32, 52, 53, 54, 55, 56, 57, 58, 59, 33, 60, 61, 62, 63, 64, 65, 66, 67, 68, 69, 70, 71, 72, 73, 74, 75, 76, 77, 78, 79, 80, 81, 82, 83, 84, 10, 11, 12, 14, 98, 99, 100, 101, 102] (by decide +kernel) (by decide +kernel)
set_option maxRecDepth 20000 in
theorem gX3_hash_X0_end : GoodIn wsX3_hash (wsV RX3 94 RX0 yX0_end wsX0_end) := goodIn_app (goodIn_of _ (by decide +kernel)) ggX3_hash_X0_end
set_option maxRecDepth 20000 in
theorem ggX3_hash_X2_at : GoodIn wsX3_hash wsX2_at := goodIn_r _ [72, 15, 32, 101, 102] (by decide +kernel) (by decide +kernel)
set_option maxRecDepth 20000 in
theorem gX3_hash_X2_at : GoodIn wsX3_hash (wsV RX3 83 RX2 yX2_at wsX2_at) := goodIn_app (goodIn_of _ (by decide +kernel)) ggX3_hash_X2_at
theorem dX3_hash_0 : decode cX3_hash 0 = .ok (.aload_n 0, 1) := by decide +kernel
theorem dX3_hash_1 : decode cX3_hash 1 = .ok (.getfield 39, 3) := by decide +kernel
theorem dX3_hash_4 : decode cX3_hash 4 = .ok (.invokevirtual 87, 3) := by decide +kernel
theorem dX3_hash_7 : decode cX3_hash 7 = .ok (.aload_n 0, 1) := by decide +kernel
theorem dX3_hash_8 : decode cX3_hash 8 = .ok (.getfield 39, 3) := by decide +kernel
theorem dX3_hash_11 : decode cX3_hash 11 = .ok (.aload_n 0, 1) := by decide +kernel
theorem dX3_hash_12 : decode cX3_hash 12 = .ok (.getfield 14, 3) := by decide +kernel
theorem dX3_hash_15 : decode cX3_hash 15 = .ok (.invokevirtual 90, 3) := by decide +kernel
theorem dX3_hash_18 : decode cX3_hash 18 = .ok (.aload_n 0, 1) := by decide +kernel
theorem dX3_hash_19 : decode cX3_hash 19 = .ok (.getfield 39, 3) := by decide +kernel
theorem dX3_hash_22 : decode cX3_hash 22 = .ok (.aload_n 0, 1) := by decide +kernel
theorem dX3_hash_23 : decode cX3_hash 23 = .ok (.getfield 33, 3) := by decide +kernel
theorem dX3_hash_26 : decode cX3_hash 26 = .ok (.invokevirtual 94, 3) := by decide +kernel
theorem dX3_hash_29 : decode cX3_hash 29 = .ok (.aload_n 0, 1) := by decide +kernel
theorem dX3_hash_30 : decode cX3_hash 30 = .ok (.getfield 33, 3) := by decide +kernel
theorem dX3_hash_33 : decode cX3_hash 33 = .ok (.iload_n 1, 1) := by decide +kernel
theorem dX3_hash_34 : decode cX3_hash 34 = .ok (.invokevirtual 83, 3) := by decide +kernel
theorem dX3_hash_37 : decode cX3_hash 37 = .ok (.ireturn, 1) := by decide +kernel
set_option maxRecDepth 20000 in
theorem ggX3_own_X2_empty : GoodIn wsX3_own wsX2_empty := goodIn_r _ [7, 8, 38, 39] (by decide +kernel) (by decide +kernel)
set_option maxRecDepth 20000 in
theorem gX3_own_X2_empty : GoodIn wsX3_own (wsV RX3 67 RX2 yX2_empty wsX2_empty) := goodIn_app (goodIn_of _ (by decide +kernel)) ggX3_own_X2_empty
set_option maxRecDepth 20000 in
theorem ggX3_own_X2_size : GoodIn wsX3_own wsX2_size := goodIn_r _ [12, 8, 38, 39] (by decide +kernel) (by decide +kernel)
set_option maxRecDepth 20000 in
theorem gX3_own_X2_size : GoodIn wsX3_own (wsV RX3 60 RX2 yX2_size wsX2_size) := goodIn_app (goodIn_of _ (by decide +kernel)) ggX3_own_X2_size
set_option maxRecDepth 20000 in
theorem ggX3_own_X2_append : GoodIn wsX3_own wsX2_append := goodIn_r _ [16, 8, 17, 18, 19, 20, 21, 22, 23, 24, 6, 25, 38, 39] (by decide +kernel) (by decide +kernel)
set_option maxRecDepth 20000 in
theorem gX3_own_X2_append : GoodIn wsX3_own (wsV RX3 97 RX2 yX2_append wsX2_append) := goodIn_app (goodIn_of _ (by decide +kernel)) ggX3_own_X2_append
theorem dX3_own_0 : decode cX3_own 0 = .ok (.aload_n 0, 1) := by decide +kernel
theorem dX3_own_1 : decode cX3_own 1 = .ok (.getfield 18, 3) := by decide +kernel
theorem dX3_own_4 : decode cX3_own 4 = .ok (.invokevirtual 67, 3) := by decide +kernel
theorem dX3_own_7 : decode cX3_own 7 = .ok (.aload_n 0, 1) := by decide +kernel
theorem dX3_own_8 : decode cX3_own 8 = .ok (.getfield 18, 3) := by decide +kernel
theorem dX3_own_11 : decode cX3_own 11 = .ok (.aload_n 0, 1) := by decide +kernel
theorem dX3_own_12 : decode cX3_own 12 = .ok (.getfield 14, 3) := by decide +kernel
theorem dX3_own_15 : decode cX3_own 15 = .ok (.aload_n 0, 1) := by decide +kernel
theorem dX3_own_16 : decode cX3_own 16 = .ok (.getfield 14, 3) := by decide +kernel
theorem dX3_own_19 : decode cX3_own 19 = .ok (.invokevirtual 60, 3) := by decide +kernel
theorem dX3_own_22 : decode cX3_own 22 = .ok (.invokevirtual 97, 3) := by decide +kernel
theorem dX3_own_25 : decode cX3_own 25 = .ok (.aload_n 0, 1) := by decide +kernel
theorem dX3_own_26 : decode cX3_own 26 = .ok (.getfield 14, 3) := by decide +kernel
theorem dX3_own_29 : decode cX3_own 29 = .ok (.invokevirtual 67, 3) := by decide +kernel
theorem dX3_own_32 : decode cX3_own 32 = .ok (.aload_n 0, 1) := by decide +kernel
theorem dX3_own_33 : decode cX3_own 33 = .ok (.getfield 18, 3) := by decide +kernel
theorem dX3_own_36 : decode cX3_own 36 = .ok (.invokevirtual 60, 3) := by decide +kernel
theorem dX3_own_39 : decode cX3_own 39 = .ok (.ireturn, 1) := by decide +kernel
set_option maxRecDepth 20000 in
theorem ggX3_keyed_X1_begin : GoodIn wsX3_keyed wsX1_begin := goodIn_r _ [9, 10, 11, 12, 13, 14, 15, 16, 17, 18, 19, 20, 21, 22, 23, 24, 25, 26, 27, 28, 29, 30, 31, 32, 33, 34, 35, 36, 37, 38, 39, 40, 41, 42, 43, 44, 45, 46, 47, 48, 49, 50, 51, 52, 53, 54, 55, 56, 57, 58, 59, 60, 61, 62, 63, 64, 65, 66, 67, 68, 69, 70, 71, 72, 73, 74, 75, 76, 77, 78, 79, 80, 81, 82, 83, 84, 85, 86, 87, 88, 89, 90, 91, 92, 93, 94, 95, 96, 97, 98, 99, 100, 101, 102, 103, 104, 127, 128, 129, 130, 131, 132, 133, 134] (by decide +kernel) (by decide +kernel)
set_option maxRecDepth 20000 in
theorem gX3_keyed_X1_begin : GoodIn wsX3_keyed (wsV RX3 101 RX1 yX1_begin wsX1_begin) := goodIn_app (goodIn_of _ (by decide +kernel)) ggX3_keyed_X1_begin
set_option maxRecDepth 20000 in
theorem ggX3_keyed_X1_add : GoodIn wsX3_keyed wsX1_add := goodIn_r _ [108, 11, 29, 30, 31, 25, 32, 27, 33, 19, 20, 15, 21, 17, 34, 35, 36, 37, 38, 39, 40, 41, 42, 43, 44, 45, 46, 127, 128, 129, 132, 133, 134, 130, 131] (by decide +kernel) (by decide +kernel)
set_option maxRecDepth 20000 in
theorem gX3_keyed_X1_add : GoodIn wsX3_keyed (wsV RX3 103 RX1 yX1_add wsX1_add) := goodIn_app (goodIn_of _ (by decide +kernel)) ggX3_keyed_X1_add
set_option maxRecDepth 20000 in
theorem ggX3_keyed_X1_end : GoodIn wsX3_keyed wsX1_end := goodIn_r _ [112, 11, 113, 10, 47, 48, 49, 25, 50, 51, 52, 53, 54, 55, 56, 27, 57, 58, 59, 60, 33, 19, 20, 15, 21, 17, 61, 44, 45, 46, 42, 62, 63, 64, 65, 66, 67, 68, 69, 43, 70, 71, 72, 73, 74, 75, 76, 77, 78, 79, 80, 81, 82, 83, 84, 85, 86, 87, 88, 89, 90, 91, 92, 93, 94, 28, 13, 14, 16, 22, 23, 24, 26, 97, 98, 99, 100, 101, 102, 103, 104, 29, 30, 31, 32, 34, 35, 36, 37, 38, 39, 40, 41, 127, 128, 129, 132, 133, 134, 130, 131] (by decide +kernel) (by decide +kernel)
set_option maxRecDepth 20000 in
theorem gX3_keyed_X1_end : GoodIn wsX3_keyed (wsV RX3 104 RX1 yX1_end wsX1_end) := goodIn_app (goodIn_of _ (by decide +kernel)) ggX3_keyed_X1_end
set_option maxRecDepth 20000 in
theorem ggX3_keyed_X2_at : GoodIn wsX3_keyed wsX2_at := goodIn_r _ [82, 17, 42, 130, 131] (by decide +kernel) (by decide +kernel)
set_option maxRecDepth 20000 in
theorem gX3_keyed_X2_at : GoodIn wsX3_keyed (wsV RX3 83 RX2 yX2_at wsX2_at) := goodIn_app (goodIn_of _ (by decide +kernel)) ggX3_keyed_X2_at
theorem dX3_keyed_0 : decode cX3_keyed 0 = .ok (.aload_n 0, 1) := by decide +kernel
theorem dX3_keyed_1 : decode cX3_keyed 1 = .ok (.getfield 46, 3) := by decide +kernel
theorem dX3_keyed_4 : decode cX3_keyed 4 = .ok (.aload_n 0, 1) := by decide +kernel
theorem dX3_keyed_5 : decode cX3_keyed 5 = .ok (.getfield 18, 3) := by decide +kernel
theorem dX3_keyed_8 : decode cX3_keyed 8 = .ok (.invokevirtual 101, 3) := by decide +kernel
theorem dX3_keyed_11 : decode cX3_keyed 11 = .ok (.aload_n 0, 1) := by decide +kernel
theorem dX3_keyed_12 : decode cX3_keyed 12 = .ok (.getfield 46, 3) := by decide +kernel
theorem dX3_keyed_15 : decode cX3_keyed 15 = .ok (.aload_n 0, 1) := by decide +kernel
theorem dX3_keyed_16 : decode cX3_keyed 16 = .ok (.getfield 14, 3) := by decide +kernel
theorem dX3_keyed_19 : decode cX3_keyed 19 = .ok (.invokevirtual 103, 3) := by decide +kernel
theorem dX3_keyed_22 : decode cX3_keyed 22 = .ok (.aload_n 0, 1) := by decide +kernel
theorem dX3_keyed_23 : decode cX3_keyed 23 = .ok (.getfield 46, 3) := by decide +kernel
theorem dX3_keyed_26 : decode cX3_keyed 26 = .ok (.aload_n 0, 1) := by decide +kernel
theorem dX3_keyed_27 : decode cX3_keyed 27 = .ok (.getfield 33, 3) := by decide +kernel
theorem dX3_keyed_30 : decode cX3_keyed 30 = .ok (.invokevirtual 104, 3) := by decide +kernel
theorem dX3_keyed_33 : decode cX3_keyed 33 = .ok (.aload_n 0, 1) := by decide +kernel
theorem dX3_keyed_34 : decode cX3_keyed 34 = .ok (.getfield 33, 3) := by decide +kernel
theorem dX3_keyed_37 : decode cX3_keyed 37 = .ok (.iload_n 1, 1) := by decide +kernel
theorem dX3_keyed_38 : decode cX3_keyed 38 = .ok (.invokevirtual 83, 3) := by decide +kernel
theorem dX3_keyed_41 : decode cX3_keyed 41 = .ok (.ireturn, 1) := by decide +kernel
set_option maxRecDepth 20000 in
theorem ggX3_count_X2_size : GoodIn wsX3_count wsX2_size := goodIn_r _ [10, 11, 24, 25] (by decide +kernel) (by decide +kernel)
set_option maxRecDepth 20000 in
theorem gX3_count_X2_size : GoodIn wsX3_count (wsV RX3 60 RX2 yX2_size wsX2_size) := goodIn_app (goodIn_of _ (by decide +kernel)) ggX3_count_X2_size
theorem dX3_count_0 : decode cX3_count 0 = .ok (.iload_n 1, 1) := by decide +kernel
theorem dX3_count_1 : decode cX3_count 1 = .ok (.tableswitch 69 0 4 #[35, 43, 51, 59, 64], 35) := by decide +kernel
theorem dX3_count_36 : decode cX3_count 36 = .ok (.aload_n 0, 1) := by decide +kernel
theorem dX3_count_37 : decode cX3_count 37 = .ok (.getfield 14, 3) := by decide +kernel
theorem dX3_count_40 : decode cX3_count 40 = .ok (.invokevirtual 60, 3) := by decide +kernel
theorem dX3_count_43 : decode cX3_count 43 = .ok (.ireturn, 1) := by decide +kernel
theorem dX3_count_44 : decode cX3_count 44 = .ok (.aload_n 0, 1) := by decide +kernel
theorem dX3_count_45 : decode cX3_count 45 = .ok (.getfield 21, 3) := by decide +kernel
theorem dX3_count_48 : decode cX3_count 48 = .ok (.invokevirtual 60, 3) := by decide +kernel
theorem dX3_count_51 : decode cX3_count 51 = .ok (.ireturn, 1) := by decide +kernel
theorem dX3_count_52 : decode cX3_count 52 = .ok (.aload_n 0, 1) := by decide +kernel
theorem dX3_count_53 : decode cX3_count 53 = .ok (.getfield 18, 3) := by decide +kernel
theorem dX3_count_56 : decode cX3_count 56 = .ok (.invokevirtual 60, 3) := by decide +kernel
theorem dX3_count_59 : decode cX3_count 59 = .ok (.ireturn, 1) := by decide +kernel
theorem dX3_count_60 : decode cX3_count 60 = .ok (.aload_n 0, 1) := by decide +kernel
theorem dX3_count_61 : decode cX3_count 61 = .ok (.getfield 57, 3) := by decide +kernel
theorem dX3_count_64 : decode cX3_count 64 = .ok (.ireturn, 1) := by decide +kernel
theorem dX3_count_65 : decode cX3_count 65 = .ok (.aload_n 0, 1) := by decide +kernel
theorem dX3_count_66 : decode cX3_count 66 = .ok (.getfield 54, 3) := by decide +kernel
theorem dX3_count_69 : decode cX3_count 69 = .ok (.ireturn, 1) := by decide +kernel
theorem dX3_count_70 : decode cX3_count 70 = .ok (.iconst (-1), 1) := by decide +kernel
theorem dX3_count_71 : decode cX3_count 71 = .ok (.ireturn, 1) := by decide +kernel
set_option maxRecDepth 20000 in
theorem ggX3_check_X3_isSeeded : GoodIn wsX3_check wsX3_isSeeded := goodIn_r _ [10, 11, 125, 126, 127, 128, 129, 130, 131, 132, 133, 134, 135, 136] (by decide +kernel) (by decide +kernel)
set_option maxRecDepth 20000 in
theorem gX3_check_X3_isSeeded : GoodIn wsX3_check (wsV RX3 76 RX3 yX3_isSeeded wsX3_isSeeded) := goodIn_app (goodIn_of _ (by decide +kernel)) ggX3_check_X3_isSeeded
set_option maxRecDepth 20000 in
theorem ggX3_check_X1_begin : GoodIn wsX3_check wsX1_begin := goodIn_r _ [16, 17, 18, 19, 20, 21, 22, 23, 24, 25, 26, 27, 28, 29, 30, 31, 32, 33, 34, 35, 36, 37, 38, 39, 40, 41, 42, 43, 44, 45, 46, 47, 48, 49, 50, 51, 52, 53, 54, 55, 56, 57, 58, 59, 60, 61, 62, 63, 64, 65, 66, 67, 68, 69, 70, 71, 72, 73, 74, 75, 76, 77, 78, 79, 80, 81, 82, 83, 84, 85, 86, 87, 88, 89, 90, 91, 92, 93, 94, 95, 96, 97, 98, 99, 100, 101, 102, 103, 104, 105, 106, 107, 108, 109, 110, 111, 137, 138, 139, 140, 141, 142, 143, 144] (by decide +kernel) (by decide +kernel)
set_option maxRecDepth 20000 in
theorem gX3_check_X1_begin : GoodIn wsX3_check (wsV RX3 101 RX1 yX1_begin wsX1_begin) := goodIn_app (goodIn_of _ (by decide +kernel)) ggX3_check_X1_begin
set_option maxRecDepth 20000 in
theorem ggX3_check_X1_add : GoodIn wsX3_check wsX1_add := goodIn_r _ [115, 18, 36, 37, 38, 32, 39, 34, 40, 26, 27, 22, 28, 24, 41, 42, 43, 44, 45, 46, 47, 48, 49, 50, 51, 52, 53, 137, 138, 139, 142, 143, 144, 140, 141] (by decide +kernel) (by decide +kernel)
set_option maxRecDepth 20000 in
theorem gX3_check_X1_add : GoodIn wsX3_check (wsV RX3 103 RX1 yX1_add wsX1_add) := goodIn_app (goodIn_of _ (by decide +kernel)) ggX3_check_X1_add
set_option maxRecDepth 20000 in
theorem ggX3_check_X1_end : GoodIn wsX3_check wsX1_end := goodIn_r _ [119, 18, 120, 17, 54, 55, 56, 32, 57, 58, 59, 60, 61, 62, 63, 34, 64, 65, 66, 67, 40, 26, 27, 22, 28, 24, 68, 51, 52, 53, 49, 69, 70, 71, 72, 73, 74, 75, 76, 50, 77, 78, 79, 80, 81, 82, 83, 84, 85, 86, 87, 88, 89, 90, 91, 92, 93, 94, 95, 96, 97, 98, 99, 100, 101, 35, 20, 21, 23, 29, 30, 31, 33, 104, 105, 106, 107, 108, 109, 110, 111, 36, 37, 38, 39, 41, 42, 43, 44, 45, 46, 47, 48, 137, 138, 139, 142, 143, 144, 140, 141] (by decide +kernel) (by decide +kernel)
set_option maxRecDepth 20000 in
theorem gX3_check_X1_end : GoodIn wsX3_check (wsV RX3 104 RX1 yX1_end wsX1_end) := goodIn_app (goodIn_of _ (by decide +kernel)) ggX3_check_X1_end
set_option maxRecDepth 20000 in
theorem ggX3_check_X2_sameAs : GoodIn wsX3_check wsX2_sameAs := goodIn_r _ [124, 24, 49, 140, 141] (by decide +kernel) (by decide +kernel)
set_option maxRecDepth 20000 in
theorem gX3_check_X2_sameAs : GoodIn wsX3_check (wsV RX3 105 RX2 yX2_sameAs wsX2_sameAs) := goodIn_app (goodIn_of _ (by decide +kernel)) ggX3_check_X2_sameAs
theorem dX3_check_0 : decode cX3_check 0 = .ok (.aload_n 0, 1) := by decide +kernel
theorem dX3_check_1 : decode cX3_check 1 = .ok (.invokevirtual 76, 3) := by decide +kernel
theorem dX3_check_4 : decode cX3_check 4 = .ok (.ifCond .ne 5, 3) := by decide +kernel
theorem dX3_check_7 : decode cX3_check 7 = .ok (.iconst 1, 1) := by decide +kernel
theorem dX3_check_8 : decode cX3_check 8 = .ok (.ireturn, 1) := by decide +kernel
theorem dX3_check_9 : decode cX3_check 9 = .ok (.aload_n 0, 1) := by decide +kernel
theorem dX3_check_10 : decode cX3_check 10 = .ok (.getfield 46, 3) := by decide +kernel
theorem dX3_check_13 : decode cX3_check 13 = .ok (.aload_n 0, 1) := by decide +kernel
theorem dX3_check_14 : decode cX3_check 14 = .ok (.getfield 24, 3) := by decide +kernel
theorem dX3_check_17 : decode cX3_check 17 = .ok (.invokevirtual 101, 3) := by decide +kernel
theorem dX3_check_20 : decode cX3_check 20 = .ok (.aload_n 0, 1) := by decide +kernel
theorem dX3_check_21 : decode cX3_check 21 = .ok (.getfield 46, 3) := by decide +kernel
theorem dX3_check_24 : decode cX3_check 24 = .ok (.aload_n 0, 1) := by decide +kernel
theorem dX3_check_25 : decode cX3_check 25 = .ok (.getfield 30, 3) := by decide +kernel
theorem dX3_check_28 : decode cX3_check 28 = .ok (.invokevirtual 103, 3) := by decide +kernel
theorem dX3_check_31 : decode cX3_check 31 = .ok (.aload_n 0, 1) := by decide +kernel
theorem dX3_check_32 : decode cX3_check 32 = .ok (.getfield 46, 3) := by decide +kernel
theorem dX3_check_35 : decode cX3_check 35 = .ok (.aload_n 0, 1) := by decide +kernel
theorem dX3_check_36 : decode cX3_check 36 = .ok (.getfield 33, 3) := by decide +kernel
theorem dX3_check_39 : decode cX3_check 39 = .ok (.invokevirtual 104, 3) := by decide +kernel
theorem dX3_check_42 : decode cX3_check 42 = .ok (.aload_n 0, 1) := by decide +kernel
theorem dX3_check_43 : decode cX3_check 43 = .ok (.getfield 33, 3) := by decide +kernel
theorem dX3_check_46 : decode cX3_check 46 = .ok (.aload_n 0, 1) := by decide +kernel
theorem dX3_check_47 : decode cX3_check 47 = .ok (.getfield 27, 3) := by decide +kernel
theorem dX3_check_50 : decode cX3_check 50 = .ok (.invokevirtual 105, 3) := by decide +kernel
theorem dX3_check_53 : decode cX3_check 53 = .ok (.ifCond .eq 7, 3) := by decide +kernel
theorem dX3_check_56 : decode cX3_check 56 = .ok (.iconst 1, 1) := by decide +kernel
theorem dX3_check_57 : decode cX3_check 57 = .ok (.goto 4, 3) := by decide +kernel
theorem dX3_check_60 : decode cX3_check 60 = .ok (.iconst 0, 1) := by decide +kernel
theorem dX3_check_61 : decode cX3_check 61 = .ok (.ireturn, 1) := by decide +kernel
theorem dX3_isSeeded_0 : decode cX3_isSeeded 0 = .ok (.aload_n 0, 1) := by decide +kernel
theorem dX3_isSeeded_1 : decode cX3_isSeeded 1 = .ok (.getfield 50, 3) := by decide +kernel
theorem dX3_isSeeded_4 : decode cX3_isSeeded 4 = .ok (.ifCond .le 7, 3) := by decide +kernel
theorem dX3_isSeeded_7 : decode cX3_isSeeded 7 = .ok (.iconst 1, 1) := by decide +kernel
theorem dX3_isSeeded_8 : decode cX3_isSeeded 8 = .ok (.goto 4, 3) := by decide +kernel
theorem dX3_isSeeded_11 : decode cX3_isSeeded 11 = .ok (.iconst 0, 1) := by decide +kernel
theorem dX3_isSeeded_12 : decode cX3_isSeeded 12 = .ok (.ireturn, 1) := by decide +kernel
set_option maxRecDepth 20000 in
theorem ggX3_stir_X2_size : GoodIn wsX3_stir wsX2_size := goodIn_r _ [9, 10, 143, 144] (by decide +kernel) (by decide +kernel)
set_option maxRecDepth 20000 in
theorem gX3_stir_X2_size : GoodIn wsX3_stir (wsV RX3 60 RX2 yX2_size wsX2_size) := goodIn_app (goodIn_of _ (by decide +kernel)) ggX3_stir_X2_size
set_option maxRecDepth 20000 in
theorem ggX3_stir_X1_begin : GoodIn wsX3_stir wsX1_begin := goodIn_r _ [15, 16, 17, 18, 19, 20, 8, 21, 10, 22, 6, 7, 9, 23, 24, 25, 26, 27, 28, 29, 30, 31, 32, 33, 34, 35, 36, 37, 38, 39, 40, 41, 42, 43, 44, 45, 46, 47, 48, 49, 50, 51, 52, 53, 54, 55, 56, 57, 58, 59, 60, 61, 62, 63, 64, 65, 66, 67, 68, 69, 70, 71, 72, 73, 74, 75, 76, 77, 78, 79, 80, 81, 82, 83, 84, 85, 86, 87, 88, 89, 90, 91, 92, 93, 94, 95, 96, 97, 98, 99, 100, 101, 102, 103, 104, 105, 145, 146, 147, 143, 144, 148, 149, 150] (by decide +kernel) (by decide +kernel)
set_option maxRecDepth 20000 in
theorem gX3_stir_X1_begin : GoodIn wsX3_stir (wsV RX3 101 RX1 yX1_begin wsX1_begin) := goodIn_app (goodIn_of _ (by decide +kernel)) ggX3_stir_X1_begin
set_option maxRecDepth 20000 in
theorem ggX3_stir_X1_add : GoodIn wsX3_stir wsX1_add := goodIn_r _ [109, 17, 30, 31, 32, 26, 33, 28, 34, 6, 7, 8, 9, 10, 35, 36, 37, 38, 39, 40, 41, 42, 43, 44, 45, 46, 47, 145, 146, 147, 148, 149, 150, 143, 144] (by decide +kernel) (by decide +kernel)
set_option maxRecDepth 20000 in
theorem gX3_stir_X1_add : GoodIn wsX3_stir (wsV RX3 103 RX1 yX1_add wsX1_add) := goodIn_app (goodIn_of _ (by decide +kernel)) ggX3_stir_X1_add
set_option maxRecDepth 20000 in
theorem ggX3_stir_X1_addByte : GoodIn wsX3_stir wsX1_addByte := goodIn_r _ [113, 17, 114, 115, 116, 26, 117, 28, 62, 45, 46, 8, 47, 10, 43, 145, 146, 147, 148, 149, 150, 143, 144] (by decide +kernel) (by decide +kernel)
set_option maxRecDepth 20000 in
theorem gX3_stir_X1_addByte : GoodIn wsX3_stir (wsV RX3 109 RX1 yX1_addByte wsX1_addByte) := goodIn_app (goodIn_of _ (by decide +kernel)) ggX3_stir_X1_addByte
set_option maxRecDepth 20000 in
theorem ggX3_stir_X1_end : GoodIn wsX3_stir wsX1_end := goodIn_r _ [121, 17, 122, 16, 48, 49, 50, 26, 51, 52, 53, 54, 55, 56, 57, 28, 58, 59, 60, 61, 34, 6, 7, 8, 9, 10, 62, 45, 46, 47, 43, 63, 64, 65, 66, 67, 68, 69, 70, 44, 71, 72, 73, 74, 75, 76, 77, 78, 79, 80, 81, 82, 83, 84, 85, 86, 87, 88, 89, 90, 91, 92, 93, 94, 95, 29, 19, 20, 21, 23, 24, 25, 27, 98, 99, 100, 101, 102, 103, 104, 105, 30, 31, 32, 33, 35, 36, 37, 38, 39, 40, 41, 42, 145, 146, 147, 148, 149, 150, 143, 144] (by decide +kernel) (by decide +kernel)
set_option maxRecDepth 20000 in
theorem gX3_stir_X1_end : GoodIn wsX3_stir (wsV RX3 104 RX1 yX1_end wsX1_end) := goodIn_app (goodIn_of _ (by decide +kernel)) ggX3_stir_X1_end
set_option maxRecDepth 20000 in
theorem ggX3_stir_X3_renewValue : GoodIn wsX3_stir wsX3_renewValue := goodIn_r _ [127, 128, 4, 2, 3, 129, 19, 20, 8, 21, 10, 130, 36, 37, 38, 39, 40, 41, 42, 43, 44, 45, 46, 47, 11, 12, 13, 14, 15, 16, 17, 18, 22, 6, 7, 9, 23, 24, 25, 26, 27, 28, 29, 30, 31, 32, 33, 34, 35, 48, 49, 50, 51, 52, 53, 54, 55, 56, 57, 58, 59, 60, 61, 62, 63, 64, 65, 66, 67, 68, 69, 70, 71, 72, 73, 74, 75, 76, 77, 78, 79, 80, 81, 82, 83, 84, 85, 86, 87, 88, 89, 90, 91, 92, 93, 94, 95, 96, 97, 98, 99, 100, 101, 102, 103, 104, 105, 106, 107, 108, 109, 118, 119, 120, 121, 122, 131, 132, 133, 134, 135, 136, 137, 138, 139, 140, 141, 142, 143, 144, 145, 146, 147, 148, 149, 150] (by decide +kernel) (by decide +kernel)
set_option maxRecDepth 20000 in
theorem gX3_stir_X3_renewValue : GoodIn wsX3_stir (wsV RX3 112 RX3 yX3_renewValue wsX3_renewValue) := goodIn_app (goodIn_of _ (by decide +kernel)) ggX3_stir_X3_renewValue
theorem dX3_stir_0 : decode cX3_stir 0 = .ok (.aload_n 0, 1) := by decide +kernel
theorem dX3_stir_1 : decode cX3_stir 1 = .ok (.getfield 14, 3) := by decide +kernel
theorem dX3_stir_4 : decode cX3_stir 4 = .ok (.invokevirtual 60, 3) := by decide +kernel
theorem dX3_stir_7 : decode cX3_stir 7 = .ok (.ifCond .ne 7, 3) := by decide +kernel
theorem dX3_stir_10 : decode cX3_stir 10 = .ok (.iconst 1, 1) := by decide +kernel
theorem dX3_stir_11 : decode cX3_stir 11 = .ok (.goto 4, 3) := by decide +kernel
theorem dX3_stir_14 : decode cX3_stir 14 = .ok (.iconst 2, 1) := by decide +kernel
theorem dX3_stir_15 : decode cX3_stir 15 = .ok (.istore_n 1, 1) := by decide +kernel
theorem dX3_stir_16 : decode cX3_stir 16 = .ok (.iconst 0, 1) := by decide +kernel
theorem dX3_stir_17 : decode cX3_stir 17 = .ok (.istore_n 2, 1) := by decide +kernel
theorem dX3_stir_18 : decode cX3_stir 18 = .ok (.iload_n 2, 1) := by decide +kernel
theorem dX3_stir_19 : decode cX3_stir 19 = .ok (.iload_n 1, 1) := by decide +kernel
theorem dX3_stir_20 : decode cX3_stir 20 = .ok (.if_icmp .ge 65, 3) := by decide +kernel
theorem dX3_stir_23 : decode cX3_stir 23 = .ok (.aload_n 0, 1) := by decide +kernel
theorem dX3_stir_24 : decode cX3_stir 24 = .ok (.getfield 46, 3) := by decide +kernel
theorem dX3_stir_27 : decode cX3_stir 27 = .ok (.aload_n 0, 1) := by decide +kernel
theorem dX3_stir_28 : decode cX3_stir 28 = .ok (.getfield 24, 3) := by decide +kernel
theorem dX3_stir_31 : decode cX3_stir 31 = .ok (.invokevirtual 101, 3) := by decide +kernel
theorem dX3_stir_34 : decode cX3_stir 34 = .ok (.aload_n 0, 1) := by decide +kernel
theorem dX3_stir_35 : decode cX3_stir 35 = .ok (.getfield 46, 3) := by decide +kernel
theorem dX3_stir_38 : decode cX3_stir 38 = .ok (.aload_n 0, 1) := by decide +kernel
theorem dX3_stir_39 : decode cX3_stir 39 = .ok (.getfield 27, 3) := by decide +kernel
theorem dX3_stir_42 : decode cX3_stir 42 = .ok (.invokevirtual 103, 3) := by decide +kernel
theorem dX3_stir_45 : decode cX3_stir 45 = .ok (.aload_n 0, 1) := by decide +kernel
theorem dX3_stir_46 : decode cX3_stir 46 = .ok (.getfield 46, 3) := by decide +kernel
theorem dX3_stir_49 : decode cX3_stir 49 = .ok (.iload_n 2, 1) := by decide +kernel
theorem dX3_stir_50 : decode cX3_stir 50 = .ok (.invokevirtual 109, 3) := by decide +kernel
theorem dX3_stir_53 : decode cX3_stir 53 = .ok (.aload_n 0, 1) := by decide +kernel
theorem dX3_stir_54 : decode cX3_stir 54 = .ok (.getfield 46, 3) := by decide +kernel
theorem dX3_stir_57 : decode cX3_stir 57 = .ok (.aload_n 0, 1) := by decide +kernel
theorem dX3_stir_58 : decode cX3_stir 58 = .ok (.getfield 14, 3) := by decide +kernel
theorem dX3_stir_61 : decode cX3_stir 61 = .ok (.invokevirtual 103, 3) := by decide +kernel
theorem dX3_stir_64 : decode cX3_stir 64 = .ok (.aload_n 0, 1) := by decide +kernel
theorem dX3_stir_65 : decode cX3_stir 65 = .ok (.getfield 46, 3) := by decide +kernel
theorem dX3_stir_68 : decode cX3_stir 68 = .ok (.aload_n 0, 1) := by decide +kernel
theorem dX3_stir_69 : decode cX3_stir 69 = .ok (.getfield 24, 3) := by decide +kernel
theorem dX3_stir_72 : decode cX3_stir 72 = .ok (.invokevirtual 104, 3) := by decide +kernel
theorem dX3_stir_75 : decode cX3_stir 75 = .ok (.aload_n 0, 1) := by decide +kernel
theorem dX3_stir_76 : decode cX3_stir 76 = .ok (.invokevirtual 112, 3) := by decide +kernel
theorem dX3_stir_79 : decode cX3_stir 79 = .ok (.iinc 2 1, 3) := by decide +kernel
theorem dX3_stir_82 : decode cX3_stir 82 = .ok (.goto (-64), 3) := by decide +kernel
theorem dX3_stir_85 : decode cX3_stir 85 = .ok (.return_, 1) := by decide +kernel
set_option maxRecDepth 20000 in
theorem ggX3_renewValue_X2_empty : GoodIn wsX3_renewValue wsX2_empty := goodIn_r _ [9, 10, 128, 129] (by decide +kernel) (by decide +kernel)
set_option maxRecDepth 20000 in
theorem gX3_renewValue_X2_empty : GoodIn wsX3_renewValue (wsV RX3 67 RX2 yX2_empty wsX2_empty) := goodIn_app (goodIn_of _ (by decide +kernel)) ggX3_renewValue_X2_empty
set_option maxRecDepth 20000 in
theorem ggX3_renewValue_X2_append : GoodIn wsX3_renewValue wsX2_append := goodIn_r _ [14, 10, 15, 16, 17, 18, 19, 20, 21, 22, 8, 23, 128, 129] (by decide +kernel) (by decide +kernel)
set_option maxRecDepth 20000 in
theorem gX3_renewValue_X2_append : GoodIn wsX3_renewValue (wsV RX3 97 RX2 yX2_append wsX2_append) := goodIn_app (goodIn_of _ (by decide +kernel)) ggX3_renewValue_X2_append
set_option maxRecDepth 20000 in
theorem ggX3_renewValue_X1_begin : GoodIn wsX3_renewValue wsX1_begin := goodIn_r _ [28, 29, 30, 31, 6, 7, 8, 9, 10, 32, 33, 34, 35, 36, 37, 38, 39, 40, 41, 42, 43, 44, 45, 46, 47, 48, 12, 13, 14, 15, 16, 17, 18, 19, 20, 21, 22, 23, 49, 50, 51, 52, 53, 54, 55, 56, 57, 58, 59, 60, 61, 62, 63, 64, 65, 66, 67, 68, 69, 70, 71, 72, 73, 74, 75, 76, 77, 78, 79, 80, 81, 82, 83, 84, 85, 86, 87, 88, 89, 90, 91, 92, 93, 94, 95, 96, 97, 98, 99, 100, 101, 102, 103, 104, 105, 106, 130, 131, 132, 128, 129, 133, 134, 135] (by decide +kernel) (by decide +kernel)
set_option maxRecDepth 20000 in
theorem gX3_renewValue_X1_begin : GoodIn wsX3_renewValue (wsV RX3 101 RX1 yX1_begin wsX1_begin) := goodIn_app (goodIn_of _ (by decide +kernel)) ggX3_renewValue_X1_begin
set_option maxRecDepth 20000 in
theorem ggX3_renewValue_X1_add : GoodIn wsX3_renewValue wsX1_add := goodIn_r _ [110, 30, 43, 44, 45, 39, 46, 41, 47, 33, 34, 8, 35, 10, 48, 12, 13, 14, 15, 16, 17, 18, 19, 20, 21, 22, 23, 130, 131, 132, 133, 134, 135, 128, 129] (by decide +kernel) (by decide +kernel)
set_option maxRecDepth 20000 in
theorem gX3_renewValue_X1_add : GoodIn wsX3_renewValue (wsV RX3 103 RX1 yX1_add wsX1_add) := goodIn_app (goodIn_of _ (by decide +kernel)) ggX3_renewValue_X1_add
set_option maxRecDepth 20000 in
theorem ggX3_renewValue_X1_end : GoodIn wsX3_renewValue wsX1_end := goodIn_r _ [114, 30, 115, 29, 49, 50, 51, 39, 52, 53, 54, 55, 56, 57, 58, 41, 59, 60, 61, 62, 47, 33, 34, 8, 35, 10, 63, 21, 22, 23, 19, 64, 65, 66, 67, 68, 69, 70, 71, 20, 72, 73, 74, 75, 76, 77, 78, 79, 80, 81, 82, 83, 84, 85, 86, 87, 88, 89, 90, 91, 92, 93, 94, 95, 96, 42, 6, 7, 9, 36, 37, 38, 40, 99, 100, 101, 102, 103, 104, 105, 106, 43, 44, 45, 46, 48, 12, 13, 14, 15, 16, 17, 18, 130, 131, 132, 133, 134, 135, 128, 129] (by decide +kernel) (by decide +kernel)
set_option maxRecDepth 20000 in
theorem gX3_renewValue_X1_end : GoodIn wsX3_renewValue (wsV RX3 104 RX1 yX1_end wsX1_end) := goodIn_app (goodIn_of _ (by decide +kernel)) ggX3_renewValue_X1_end
theorem dX3_renewValue_0 : decode cX3_renewValue 0 = .ok (.aload_n 0, 1) := by decide +kernel
theorem dX3_renewValue_1 : decode cX3_renewValue 1 = .ok (.getfield 30, 3) := by decide +kernel
theorem dX3_renewValue_4 : decode cX3_renewValue 4 = .ok (.invokevirtual 67, 3) := by decide +kernel
theorem dX3_renewValue_7 : decode cX3_renewValue 7 = .ok (.aload_n 0, 1) := by decide +kernel
theorem dX3_renewValue_8 : decode cX3_renewValue 8 = .ok (.getfield 30, 3) := by decide +kernel
theorem dX3_renewValue_11 : decode cX3_renewValue 11 = .ok (.aload_n 0, 1) := by decide +kernel
theorem dX3_renewValue_12 : decode cX3_renewValue 12 = .ok (.getfield 27, 3) := by decide +kernel
theorem dX3_renewValue_15 : decode cX3_renewValue 15 = .ok (.bipush 32, 2) := by decide +kernel
theorem dX3_renewValue_17 : decode cX3_renewValue 17 = .ok (.invokevirtual 97, 3) := by decide +kernel
theorem dX3_renewValue_20 : decode cX3_renewValue 20 = .ok (.aload_n 0, 1) := by decide +kernel
theorem dX3_renewValue_21 : decode cX3_renewValue 21 = .ok (.getfield 46, 3) := by decide +kernel
theorem dX3_renewValue_24 : decode cX3_renewValue 24 = .ok (.aload_n 0, 1) := by decide +kernel
theorem dX3_renewValue_25 : decode cX3_renewValue 25 = .ok (.getfield 24, 3) := by decide +kernel
theorem dX3_renewValue_28 : decode cX3_renewValue 28 = .ok (.invokevirtual 101, 3) := by decide +kernel
theorem dX3_renewValue_31 : decode cX3_renewValue 31 = .ok (.aload_n 0, 1) := by decide +kernel
theorem dX3_renewValue_32 : decode cX3_renewValue 32 = .ok (.getfield 46, 3) := by decide +kernel
theorem dX3_renewValue_35 : decode cX3_renewValue 35 = .ok (.aload_n 0, 1) := by decide +kernel
theorem dX3_renewValue_36 : decode cX3_renewValue 36 = .ok (.getfield 27, 3) := by decide +kernel
theorem dX3_renewValue_39 : decode cX3_renewValue 39 = .ok (.invokevirtual 103, 3) := by decide +kernel
theorem dX3_renewValue_42 : decode cX3_renewValue 42 = .ok (.aload_n 0, 1) := by decide +kernel
theorem dX3_renewValue_43 : decode cX3_renewValue 43 = .ok (.getfield 46, 3) := by decide +kernel
theorem dX3_renewValue_46 : decode cX3_renewValue 46 = .ok (.aload_n 0, 1) := by decide +kernel
theorem dX3_renewValue_47 : decode cX3_renewValue 47 = .ok (.getfield 27, 3) := by decide +kernel
theorem dX3_renewValue_50 : decode cX3_renewValue 50 = .ok (.invokevirtual 104, 3) := by decide +kernel
theorem dX3_renewValue_53 : decode cX3_renewValue 53 = .ok (.return_, 1) := by decide +kernel
set_option maxRecDepth 20000 in
theorem ggX3_fillDrawn_X2_empty : GoodIn wsX3_fillDrawn wsX2_empty := goodIn_r _ [11, 12, 135, 136] (by decide +kernel) (by decide +kernel)
set_option maxRecDepth 20000 in
theorem gX3_fillDrawn_X2_empty : GoodIn wsX3_fillDrawn (wsV RX3 67 RX2 yX2_empty wsX2_empty) := goodIn_app (goodIn_of _ (by decide +kernel)) ggX3_fillDrawn_X2_empty
set_option maxRecDepth 20000 in
theorem ggX3_fillDrawn_X3_renewValue : GoodIn wsX3_fillDrawn wsX3_renewValue := goodIn_r _ [17, 18, 2, 19, 20, 7, 8, 9, 10, 11, 12, 21, 22, 23, 24, 25, 4, 5, 6, 26, 27, 28, 29, 30, 31, 32, 33, 34, 35, 36, 37, 38, 39, 40, 41, 42, 43, 44, 45, 46, 47, 48, 49, 50, 51, 52, 53, 54, 55, 56, 57, 58, 59, 60, 61, 62, 63, 64, 65, 66, 67, 68, 69, 70, 71, 72, 73, 74, 75, 76, 77, 78, 79, 80, 81, 82, 83, 84, 85, 86, 87, 88, 89, 90, 91, 92, 93, 94, 95, 96, 97, 98, 99, 100, 101, 102, 103, 104, 105, 106, 107, 108, 109, 110, 111, 112, 113, 114, 115, 116, 117, 118, 119, 120, 121, 122, 123, 124, 125, 126, 127, 128, 129, 130, 131, 132, 133, 134, 135, 136, 137, 138, 139, 140, 141, 142] (by decide +kernel) (by decide +kernel)
set_option maxRecDepth 20000 in
theorem gX3_fillDrawn_X3_renewValue : GoodIn wsX3_fillDrawn (wsV RX3 112 RX3 yX3_renewValue wsX3_renewValue) := goodIn_app (goodIn_of _ (by decide +kernel)) ggX3_fillDrawn_X3_renewValue
set_option maxRecDepth 20000 in
theorem ggX3_fillDrawn_X2_append : GoodIn wsX3_fillDrawn wsX2_append := goodIn_r _ [24, 12, 25, 4, 5, 6, 26, 27, 28, 29, 10, 30, 135, 136] (by decide +kernel) (by decide +kernel)
set_option maxRecDepth 20000 in
theorem gX3_fillDrawn_X2_append : GoodIn wsX3_fillDrawn (wsV RX3 97 RX2 yX2_append wsX2_append) := goodIn_app (goodIn_of _ (by decide +kernel)) ggX3_fillDrawn_X2_append
theorem dX3_fillDrawn_0 : decode cX3_fillDrawn 0 = .ok (.aload_n 0, 1) := by decide +kernel
theorem dX3_fillDrawn_1 : decode cX3_fillDrawn 1 = .ok (.getfield 21, 3) := by decide +kernel
theorem dX3_fillDrawn_4 : decode cX3_fillDrawn 4 = .ok (.invokevirtual 67, 3) := by decide +kernel
theorem dX3_fillDrawn_7 : decode cX3_fillDrawn 7 = .ok (.iconst 0, 1) := by decide +kernel
theorem dX3_fillDrawn_8 : decode cX3_fillDrawn 8 = .ok (.istore_n 2, 1) := by decide +kernel
theorem dX3_fillDrawn_9 : decode cX3_fillDrawn 9 = .ok (.iload_n 2, 1) := by decide +kernel
theorem dX3_fillDrawn_10 : decode cX3_fillDrawn 10 = .ok (.iload_n 1, 1) := by decide +kernel
theorem dX3_fillDrawn_11 : decode cX3_fillDrawn 11 = .ok (.if_icmp .ge 32, 3) := by decide +kernel
theorem dX3_fillDrawn_14 : decode cX3_fillDrawn 14 = .ok (.aload_n 0, 1) := by decide +kernel
theorem dX3_fillDrawn_15 : decode cX3_fillDrawn 15 = .ok (.invokevirtual 112, 3) := by decide +kernel
theorem dX3_fillDrawn_18 : decode cX3_fillDrawn 18 = .ok (.aload_n 0, 1) := by decide +kernel
theorem dX3_fillDrawn_19 : decode cX3_fillDrawn 19 = .ok (.getfield 21, 3) := by decide +kernel
theorem dX3_fillDrawn_22 : decode cX3_fillDrawn 22 = .ok (.aload_n 0, 1) := by decide +kernel
theorem dX3_fillDrawn_23 : decode cX3_fillDrawn 23 = .ok (.getfield 27, 3) := by decide +kernel
theorem dX3_fillDrawn_26 : decode cX3_fillDrawn 26 = .ok (.bipush 32, 2) := by decide +kernel
theorem dX3_fillDrawn_28 : decode cX3_fillDrawn 28 = .ok (.iload_n 1, 1) := by decide +kernel
theorem dX3_fillDrawn_29 : decode cX3_fillDrawn 29 = .ok (.iload_n 2, 1) := by decide +kernel
theorem dX3_fillDrawn_30 : decode cX3_fillDrawn 30 = .ok (.isub, 1) := by decide +kernel
theorem dX3_fillDrawn_31 : decode cX3_fillDrawn 31 = .ok (.invokestatic 115, 3) := by decide +kernel
theorem dX3_fillDrawn_34 : decode cX3_fillDrawn 34 = .ok (.invokevirtual 97, 3) := by decide +kernel
theorem dX3_fillDrawn_37 : decode cX3_fillDrawn 37 = .ok (.iinc 2 32, 3) := by decide +kernel
theorem dX3_fillDrawn_40 : decode cX3_fillDrawn 40 = .ok (.goto (-31), 3) := by decide +kernel
theorem dX3_fillDrawn_43 : decode cX3_fillDrawn 43 = .ok (.return_, 1) := by decide +kernel
end
section
theorem dX4_init_0 : decode cX4_init 0 = .ok (.aload_n 0, 1) := by decide +kernel
theorem dX4_init_1 : decode cX4_init 1 = .ok (.invokespecial 1, 3) := by decide +kernel
theorem dX4_init_4 : decode cX4_init 4 = .ok (.aload_n 0, 1) := by decide +kernel
theorem dX4_init_5 : decode cX4_init 5 = .ok (.bipush 64, 2) := by decide +kernel
theorem dX4_init_7 : decode cX4_init 7 = .ok (.newarray .int, 2) := by decide +kernel
theorem dX4_init_9 : decode cX4_init 9 = .ok (.dup, 1) := by decide +kernel
theorem dX4_init_10 : decode cX4_init 10 = .ok (.iconst 0, 1) := by decide +kernel
theorem dX4_init_11 : decode cX4_init 11 = .ok (.ldc 7, 2) := by decide +kernel
theorem dX4_init_13 : decode cX4_init 13 = .ok (.iastore, 1) := by decide +kernel
theorem dX4_init_14 : decode cX4_init 14 = .ok (.dup, 1) := by decide +kernel
theorem dX4_init_15 : decode cX4_init 15 = .ok (.iconst 1, 1) := by decide +kernel
theorem dX4_init_16 : decode cX4_init 16 = .ok (.ldc 8, 2) := by decide +kernel
theorem dX4_init_18 : decode cX4_init 18 = .ok (.iastore, 1) := by decide +kernel
theorem dX4_init_19 : decode cX4_init 19 = .ok (.dup, 1) := by decide +kernel
theorem dX4_init_20 : decode cX4_init 20 = .ok (.iconst 2, 1) := by decide +kernel
theorem dX4_init_21 : decode cX4_init 21 = .ok (.ldc 9, 2) := by decide +kernel
theorem dX4_init_23 : decode cX4_init 23 = .ok (.iastore, 1) := by decide +kernel
theorem dX4_init_24 : decode cX4_init 24 = .ok (.dup, 1) := by decide +kernel
theorem dX4_init_25 : decode cX4_init 25 = .ok (.iconst 3, 1) := by decide +kernel
theorem dX4_init_26 : decode cX4_init 26 = .ok (.ldc 10, 2) := by decide +kernel
theorem dX4_init_28 : decode cX4_init 28 = .ok (.iastore, 1) := by decide +kernel
theorem dX4_init_29 : decode cX4_init 29 = .ok (.dup, 1) := by decide +kernel
theorem dX4_init_30 : decode cX4_init 30 = .ok (.iconst 4, 1) := by decide +kernel
theorem dX4_init_31 : decode cX4_init 31 = .ok (.ldc 11, 2) := by decide +kernel
theorem dX4_init_33 : decode cX4_init 33 = .ok (.iastore, 1) := by decide +kernel
theorem dX4_init_34 : decode cX4_init 34 = .ok (.dup, 1) := by decide +kernel
theorem dX4_init_35 : decode cX4_init 35 = .ok (.iconst 5, 1) := by decide +kernel
theorem dX4_init_36 : decode cX4_init 36 = .ok (.ldc 12, 2) := by decide +kernel
theorem dX4_init_38 : decode cX4_init 38 = .ok (.iastore, 1) := by decide +kernel
theorem dX4_init_39 : decode cX4_init 39 = .ok (.dup, 1) := by decide +kernel
theorem dX4_init_40 : decode cX4_init 40 = .ok (.bipush 6, 2) := by decide +kernel
theorem dX4_init_42 : decode cX4_init 42 = .ok (.ldc 13, 2) := by decide +kernel
theorem dX4_init_44 : decode cX4_init 44 = .ok (.iastore, 1) := by decide +kernel
theorem dX4_init_45 : decode cX4_init 45 = .ok (.dup, 1) := by decide +kernel
theorem dX4_init_46 : decode cX4_init 46 = .ok (.bipush 7, 2) := by decide +kernel
theorem dX4_init_48 : decode cX4_init 48 = .ok (.ldc 14, 2) := by decide +kernel
theorem dX4_init_50 : decode cX4_init 50 = .ok (.iastore, 1) := by decide +kernel
theorem dX4_init_51 : decode cX4_init 51 = .ok (.dup, 1) := by decide +kernel
theorem dX4_init_52 : decode cX4_init 52 = .ok (.bipush 8, 2) := by decide +kernel
theorem dX4_init_54 : decode cX4_init 54 = .ok (.ldc 15, 2) := by decide +kernel
theorem dX4_init_56 : decode cX4_init 56 = .ok (.iastore, 1) := by decide +kernel
theorem dX4_init_57 : decode cX4_init 57 = .ok (.dup, 1) := by decide +kernel
theorem dX4_init_58 : decode cX4_init 58 = .ok (.bipush 9, 2) := by decide +kernel
theorem dX4_init_60 : decode cX4_init 60 = .ok (.ldc 16, 2) := by decide +kernel
theorem dX4_init_62 : decode cX4_init 62 = .ok (.iastore, 1) := by decide +kernel
theorem dX4_init_63 : decode cX4_init 63 = .ok (.dup, 1) := by decide +kernel
theorem dX4_init_64 : decode cX4_init 64 = .ok (.bipush 10, 2) := by decide +kernel
theorem dX4_init_66 : decode cX4_init 66 = .ok (.ldc 17, 2) := by decide +kernel
theorem dX4_init_68 : decode cX4_init 68 = .ok (.iastore, 1) := by decide +kernel
theorem dX4_init_69 : decode cX4_init 69 = .ok (.dup, 1) := by decide +kernel
theorem dX4_init_70 : decode cX4_init 70 = .ok (.bipush 11, 2) := by decide +kernel
theorem dX4_init_72 : decode cX4_init 72 = .ok (.ldc 18, 2) := by decide +kernel
theorem dX4_init_74 : decode cX4_init 74 = .ok (.iastore, 1) := by decide +kernel
theorem dX4_init_75 : decode cX4_init 75 = .ok (.dup, 1) := by decide +kernel
theorem dX4_init_76 : decode cX4_init 76 = .ok (.bipush 12, 2) := by decide +kernel
theorem dX4_init_78 : decode cX4_init 78 = .ok (.ldc 19, 2) := by decide +kernel
theorem dX4_init_80 : decode cX4_init 80 = .ok (.iastore, 1) := by decide +kernel
theorem dX4_init_81 : decode cX4_init 81 = .ok (.dup, 1) := by decide +kernel
theorem dX4_init_82 : decode cX4_init 82 = .ok (.bipush 13, 2) := by decide +kernel
theorem dX4_init_84 : decode cX4_init 84 = .ok (.ldc 20, 2) := by decide +kernel
theorem dX4_init_86 : decode cX4_init 86 = .ok (.iastore, 1) := by decide +kernel
theorem dX4_init_87 : decode cX4_init 87 = .ok (.dup, 1) := by decide +kernel
theorem dX4_init_88 : decode cX4_init 88 = .ok (.bipush 14, 2) := by decide +kernel
theorem dX4_init_90 : decode cX4_init 90 = .ok (.ldc 21, 2) := by decide +kernel
theorem dX4_init_92 : decode cX4_init 92 = .ok (.iastore, 1) := by decide +kernel
theorem dX4_init_93 : decode cX4_init 93 = .ok (.dup, 1) := by decide +kernel
theorem dX4_init_94 : decode cX4_init 94 = .ok (.bipush 15, 2) := by decide +kernel
theorem dX4_init_96 : decode cX4_init 96 = .ok (.ldc 22, 2) := by decide +kernel
theorem dX4_init_98 : decode cX4_init 98 = .ok (.iastore, 1) := by decide +kernel
theorem dX4_init_99 : decode cX4_init 99 = .ok (.dup, 1) := by decide +kernel
theorem dX4_init_100 : decode cX4_init 100 = .ok (.bipush 16, 2) := by decide +kernel
theorem dX4_init_102 : decode cX4_init 102 = .ok (.ldc 23, 2) := by decide +kernel
theorem dX4_init_104 : decode cX4_init 104 = .ok (.iastore, 1) := by decide +kernel
theorem dX4_init_105 : decode cX4_init 105 = .ok (.dup, 1) := by decide +kernel
theorem dX4_init_106 : decode cX4_init 106 = .ok (.bipush 17, 2) := by decide +kernel
theorem dX4_init_108 : decode cX4_init 108 = .ok (.ldc 24, 2) := by decide +kernel
theorem dX4_init_110 : decode cX4_init 110 = .ok (.iastore, 1) := by decide +kernel
theorem dX4_init_111 : decode cX4_init 111 = .ok (.dup, 1) := by decide +kernel
theorem dX4_init_112 : decode cX4_init 112 = .ok (.bipush 18, 2) := by decide +kernel
theorem dX4_init_114 : decode cX4_init 114 = .ok (.ldc 25, 2) := by decide +kernel
theorem dX4_init_116 : decode cX4_init 116 = .ok (.iastore, 1) := by decide +kernel
theorem dX4_init_117 : decode cX4_init 117 = .ok (.dup, 1) := by decide +kernel
theorem dX4_init_118 : decode cX4_init 118 = .ok (.bipush 19, 2) := by decide +kernel
theorem dX4_init_120 : decode cX4_init 120 = .ok (.ldc 26, 2) := by decide +kernel
theorem dX4_init_122 : decode cX4_init 122 = .ok (.iastore, 1) := by decide +kernel
theorem dX4_init_123 : decode cX4_init 123 = .ok (.dup, 1) := by decide +kernel
theorem dX4_init_124 : decode cX4_init 124 = .ok (.bipush 20, 2) := by decide +kernel
theorem dX4_init_126 : decode cX4_init 126 = .ok (.ldc 27, 2) := by decide +kernel
theorem dX4_init_128 : decode cX4_init 128 = .ok (.iastore, 1) := by decide +kernel
theorem dX4_init_129 : decode cX4_init 129 = .ok (.dup, 1) := by decide +kernel
theorem dX4_init_130 : decode cX4_init 130 = .ok (.bipush 21, 2) := by decide +kernel
theorem dX4_init_132 : decode cX4_init 132 = .ok (.ldc 28, 2) := by decide +kernel
theorem dX4_init_134 : decode cX4_init 134 = .ok (.iastore, 1) := by decide +kernel
theorem dX4_init_135 : decode cX4_init 135 = .ok (.dup, 1) := by decide +kernel
theorem dX4_init_136 : decode cX4_init 136 = .ok (.bipush 22, 2) := by decide +kernel
theorem dX4_init_138 : decode cX4_init 138 = .ok (.ldc 29, 2) := by decide +kernel
theorem dX4_init_140 : decode cX4_init 140 = .ok (.iastore, 1) := by decide +kernel
theorem dX4_init_141 : decode cX4_init 141 = .ok (.dup, 1) := by decide +kernel
theorem dX4_init_142 : decode cX4_init 142 = .ok (.bipush 23, 2) := by decide +kernel
theorem dX4_init_144 : decode cX4_init 144 = .ok (.ldc 30, 2) := by decide +kernel
theorem dX4_init_146 : decode cX4_init 146 = .ok (.iastore, 1) := by decide +kernel
theorem dX4_init_147 : decode cX4_init 147 = .ok (.dup, 1) := by decide +kernel
theorem dX4_init_148 : decode cX4_init 148 = .ok (.bipush 24, 2) := by decide +kernel
theorem dX4_init_150 : decode cX4_init 150 = .ok (.ldc 31, 2) := by decide +kernel
theorem dX4_init_152 : decode cX4_init 152 = .ok (.iastore, 1) := by decide +kernel
theorem dX4_init_153 : decode cX4_init 153 = .ok (.dup, 1) := by decide +kernel
theorem dX4_init_154 : decode cX4_init 154 = .ok (.bipush 25, 2) := by decide +kernel
theorem dX4_init_156 : decode cX4_init 156 = .ok (.ldc 32, 2) := by decide +kernel
theorem dX4_init_158 : decode cX4_init 158 = .ok (.iastore, 1) := by decide +kernel
theorem dX4_init_159 : decode cX4_init 159 = .ok (.dup, 1) := by decide +kernel
theorem dX4_init_160 : decode cX4_init 160 = .ok (.bipush 26, 2) := by decide +kernel
theorem dX4_init_162 : decode cX4_init 162 = .ok (.ldc 33, 2) := by decide +kernel
theorem dX4_init_164 : decode cX4_init 164 = .ok (.iastore, 1) := by decide +kernel
theorem dX4_init_165 : decode cX4_init 165 = .ok (.dup, 1) := by decide +kernel
theorem dX4_init_166 : decode cX4_init 166 = .ok (.bipush 27, 2) := by decide +kernel
theorem dX4_init_168 : decode cX4_init 168 = .ok (.ldc 34, 2) := by decide +kernel
theorem dX4_init_170 : decode cX4_init 170 = .ok (.iastore, 1) := by decide +kernel
theorem dX4_init_171 : decode cX4_init 171 = .ok (.dup, 1) := by decide +kernel
theorem dX4_init_172 : decode cX4_init 172 = .ok (.bipush 28, 2) := by decide +kernel
theorem dX4_init_174 : decode cX4_init 174 = .ok (.ldc 35, 2) := by decide +kernel
theorem dX4_init_176 : decode cX4_init 176 = .ok (.iastore, 1) := by decide +kernel
theorem dX4_init_177 : decode cX4_init 177 = .ok (.dup, 1) := by decide +kernel
theorem dX4_init_178 : decode cX4_init 178 = .ok (.bipush 29, 2) := by decide +kernel
theorem dX4_init_180 : decode cX4_init 180 = .ok (.ldc 36, 2) := by decide +kernel
theorem dX4_init_182 : decode cX4_init 182 = .ok (.iastore, 1) := by decide +kernel
theorem dX4_init_183 : decode cX4_init 183 = .ok (.dup, 1) := by decide +kernel
theorem dX4_init_184 : decode cX4_init 184 = .ok (.bipush 30, 2) := by decide +kernel
theorem dX4_init_186 : decode cX4_init 186 = .ok (.ldc 37, 2) := by decide +kernel
theorem dX4_init_188 : decode cX4_init 188 = .ok (.iastore, 1) := by decide +kernel
theorem dX4_init_189 : decode cX4_init 189 = .ok (.dup, 1) := by decide +kernel
theorem dX4_init_190 : decode cX4_init 190 = .ok (.bipush 31, 2) := by decide +kernel
theorem dX4_init_192 : decode cX4_init 192 = .ok (.ldc 38, 2) := by decide +kernel
theorem dX4_init_194 : decode cX4_init 194 = .ok (.iastore, 1) := by decide +kernel
theorem dX4_init_195 : decode cX4_init 195 = .ok (.dup, 1) := by decide +kernel
theorem dX4_init_196 : decode cX4_init 196 = .ok (.bipush 32, 2) := by decide +kernel
theorem dX4_init_198 : decode cX4_init 198 = .ok (.ldc 39, 2) := by decide +kernel
theorem dX4_init_200 : decode cX4_init 200 = .ok (.iastore, 1) := by decide +kernel
theorem dX4_init_201 : decode cX4_init 201 = .ok (.dup, 1) := by decide +kernel
theorem dX4_init_202 : decode cX4_init 202 = .ok (.bipush 33, 2) := by decide +kernel
theorem dX4_init_204 : decode cX4_init 204 = .ok (.ldc 40, 2) := by decide +kernel
theorem dX4_init_206 : decode cX4_init 206 = .ok (.iastore, 1) := by decide +kernel
theorem dX4_init_207 : decode cX4_init 207 = .ok (.dup, 1) := by decide +kernel
theorem dX4_init_208 : decode cX4_init 208 = .ok (.bipush 34, 2) := by decide +kernel
theorem dX4_init_210 : decode cX4_init 210 = .ok (.ldc 41, 2) := by decide +kernel
theorem dX4_init_212 : decode cX4_init 212 = .ok (.iastore, 1) := by decide +kernel
theorem dX4_init_213 : decode cX4_init 213 = .ok (.dup, 1) := by decide +kernel
theorem dX4_init_214 : decode cX4_init 214 = .ok (.bipush 35, 2) := by decide +kernel
theorem dX4_init_216 : decode cX4_init 216 = .ok (.ldc 42, 2) := by decide +kernel
theorem dX4_init_218 : decode cX4_init 218 = .ok (.iastore, 1) := by decide +kernel
theorem dX4_init_219 : decode cX4_init 219 = .ok (.dup, 1) := by decide +kernel
theorem dX4_init_220 : decode cX4_init 220 = .ok (.bipush 36, 2) := by decide +kernel
theorem dX4_init_222 : decode cX4_init 222 = .ok (.ldc 43, 2) := by decide +kernel
theorem dX4_init_224 : decode cX4_init 224 = .ok (.iastore, 1) := by decide +kernel
theorem dX4_init_225 : decode cX4_init 225 = .ok (.dup, 1) := by decide +kernel
theorem dX4_init_226 : decode cX4_init 226 = .ok (.bipush 37, 2) := by decide +kernel
theorem dX4_init_228 : decode cX4_init 228 = .ok (.ldc 44, 2) := by decide +kernel
theorem dX4_init_230 : decode cX4_init 230 = .ok (.iastore, 1) := by decide +kernel
theorem dX4_init_231 : decode cX4_init 231 = .ok (.dup, 1) := by decide +kernel
theorem dX4_init_232 : decode cX4_init 232 = .ok (.bipush 38, 2) := by decide +kernel
theorem dX4_init_234 : decode cX4_init 234 = .ok (.ldc 45, 2) := by decide +kernel
theorem dX4_init_236 : decode cX4_init 236 = .ok (.iastore, 1) := by decide +kernel
theorem dX4_init_237 : decode cX4_init 237 = .ok (.dup, 1) := by decide +kernel
theorem dX4_init_238 : decode cX4_init 238 = .ok (.bipush 39, 2) := by decide +kernel
theorem dX4_init_240 : decode cX4_init 240 = .ok (.ldc 46, 2) := by decide +kernel
theorem dX4_init_242 : decode cX4_init 242 = .ok (.iastore, 1) := by decide +kernel
theorem dX4_init_243 : decode cX4_init 243 = .ok (.dup, 1) := by decide +kernel
theorem dX4_init_244 : decode cX4_init 244 = .ok (.bipush 40, 2) := by decide +kernel
theorem dX4_init_246 : decode cX4_init 246 = .ok (.ldc 47, 2) := by decide +kernel
theorem dX4_init_248 : decode cX4_init 248 = .ok (.iastore, 1) := by decide +kernel
theorem dX4_init_249 : decode cX4_init 249 = .ok (.dup, 1) := by decide +kernel
theorem dX4_init_250 : decode cX4_init 250 = .ok (.bipush 41, 2) := by decide +kernel
theorem dX4_init_252 : decode cX4_init 252 = .ok (.ldc 48, 2) := by decide +kernel
theorem dX4_init_254 : decode cX4_init 254 = .ok (.iastore, 1) := by decide +kernel
theorem dX4_init_255 : decode cX4_init 255 = .ok (.dup, 1) := by decide +kernel
theorem dX4_init_256 : decode cX4_init 256 = .ok (.bipush 42, 2) := by decide +kernel
theorem dX4_init_258 : decode cX4_init 258 = .ok (.ldc 49, 2) := by decide +kernel
theorem dX4_init_260 : decode cX4_init 260 = .ok (.iastore, 1) := by decide +kernel
theorem dX4_init_261 : decode cX4_init 261 = .ok (.dup, 1) := by decide +kernel
theorem dX4_init_262 : decode cX4_init 262 = .ok (.bipush 43, 2) := by decide +kernel
theorem dX4_init_264 : decode cX4_init 264 = .ok (.ldc 50, 2) := by decide +kernel
theorem dX4_init_266 : decode cX4_init 266 = .ok (.iastore, 1) := by decide +kernel
theorem dX4_init_267 : decode cX4_init 267 = .ok (.dup, 1) := by decide +kernel
theorem dX4_init_268 : decode cX4_init 268 = .ok (.bipush 44, 2) := by decide +kernel
theorem dX4_init_270 : decode cX4_init 270 = .ok (.ldc 51, 2) := by decide +kernel
theorem dX4_init_272 : decode cX4_init 272 = .ok (.iastore, 1) := by decide +kernel
theorem dX4_init_273 : decode cX4_init 273 = .ok (.dup, 1) := by decide +kernel
theorem dX4_init_274 : decode cX4_init 274 = .ok (.bipush 45, 2) := by decide +kernel
theorem dX4_init_276 : decode cX4_init 276 = .ok (.ldc 52, 2) := by decide +kernel
theorem dX4_init_278 : decode cX4_init 278 = .ok (.iastore, 1) := by decide +kernel
theorem dX4_init_279 : decode cX4_init 279 = .ok (.dup, 1) := by decide +kernel
theorem dX4_init_280 : decode cX4_init 280 = .ok (.bipush 46, 2) := by decide +kernel
theorem dX4_init_282 : decode cX4_init 282 = .ok (.ldc 53, 2) := by decide +kernel
theorem dX4_init_284 : decode cX4_init 284 = .ok (.iastore, 1) := by decide +kernel
theorem dX4_init_285 : decode cX4_init 285 = .ok (.dup, 1) := by decide +kernel
theorem dX4_init_286 : decode cX4_init 286 = .ok (.bipush 47, 2) := by decide +kernel
theorem dX4_init_288 : decode cX4_init 288 = .ok (.ldc 54, 2) := by decide +kernel
theorem dX4_init_290 : decode cX4_init 290 = .ok (.iastore, 1) := by decide +kernel
theorem dX4_init_291 : decode cX4_init 291 = .ok (.dup, 1) := by decide +kernel
theorem dX4_init_292 : decode cX4_init 292 = .ok (.bipush 48, 2) := by decide +kernel
theorem dX4_init_294 : decode cX4_init 294 = .ok (.ldc 55, 2) := by decide +kernel
theorem dX4_init_296 : decode cX4_init 296 = .ok (.iastore, 1) := by decide +kernel
theorem dX4_init_297 : decode cX4_init 297 = .ok (.dup, 1) := by decide +kernel
theorem dX4_init_298 : decode cX4_init 298 = .ok (.bipush 49, 2) := by decide +kernel
theorem dX4_init_300 : decode cX4_init 300 = .ok (.ldc 56, 2) := by decide +kernel
theorem dX4_init_302 : decode cX4_init 302 = .ok (.iastore, 1) := by decide +kernel
theorem dX4_init_303 : decode cX4_init 303 = .ok (.dup, 1) := by decide +kernel
theorem dX4_init_304 : decode cX4_init 304 = .ok (.bipush 50, 2) := by decide +kernel
theorem dX4_init_306 : decode cX4_init 306 = .ok (.ldc 57, 2) := by decide +kernel
theorem dX4_init_308 : decode cX4_init 308 = .ok (.iastore, 1) := by decide +kernel
theorem dX4_init_309 : decode cX4_init 309 = .ok (.dup, 1) := by decide +kernel
theorem dX4_init_310 : decode cX4_init 310 = .ok (.bipush 51, 2) := by decide +kernel
theorem dX4_init_312 : decode cX4_init 312 = .ok (.ldc 58, 2) := by decide +kernel
theorem dX4_init_314 : decode cX4_init 314 = .ok (.iastore, 1) := by decide +kernel
theorem dX4_init_315 : decode cX4_init 315 = .ok (.dup, 1) := by decide +kernel
theorem dX4_init_316 : decode cX4_init 316 = .ok (.bipush 52, 2) := by decide +kernel
theorem dX4_init_318 : decode cX4_init 318 = .ok (.ldc 59, 2) := by decide +kernel
theorem dX4_init_320 : decode cX4_init 320 = .ok (.iastore, 1) := by decide +kernel
theorem dX4_init_321 : decode cX4_init 321 = .ok (.dup, 1) := by decide +kernel
theorem dX4_init_322 : decode cX4_init 322 = .ok (.bipush 53, 2) := by decide +kernel
theorem dX4_init_324 : decode cX4_init 324 = .ok (.ldc 60, 2) := by decide +kernel
theorem dX4_init_326 : decode cX4_init 326 = .ok (.iastore, 1) := by decide +kernel
theorem dX4_init_327 : decode cX4_init 327 = .ok (.dup, 1) := by decide +kernel
theorem dX4_init_328 : decode cX4_init 328 = .ok (.bipush 54, 2) := by decide +kernel
theorem dX4_init_330 : decode cX4_init 330 = .ok (.ldc 61, 2) := by decide +kernel
theorem dX4_init_332 : decode cX4_init 332 = .ok (.iastore, 1) := by decide +kernel
theorem dX4_init_333 : decode cX4_init 333 = .ok (.dup, 1) := by decide +kernel
theorem dX4_init_334 : decode cX4_init 334 = .ok (.bipush 55, 2) := by decide +kernel
theorem dX4_init_336 : decode cX4_init 336 = .ok (.ldc 62, 2) := by decide +kernel
theorem dX4_init_338 : decode cX4_init 338 = .ok (.iastore, 1) := by decide +kernel
theorem dX4_init_339 : decode cX4_init 339 = .ok (.dup, 1) := by decide +kernel
theorem dX4_init_340 : decode cX4_init 340 = .ok (.bipush 56, 2) := by decide +kernel
theorem dX4_init_342 : decode cX4_init 342 = .ok (.ldc 63, 2) := by decide +kernel
theorem dX4_init_344 : decode cX4_init 344 = .ok (.iastore, 1) := by decide +kernel
theorem dX4_init_345 : decode cX4_init 345 = .ok (.dup, 1) := by decide +kernel
theorem dX4_init_346 : decode cX4_init 346 = .ok (.bipush 57, 2) := by decide +kernel
theorem dX4_init_348 : decode cX4_init 348 = .ok (.ldc 64, 2) := by decide +kernel
theorem dX4_init_350 : decode cX4_init 350 = .ok (.iastore, 1) := by decide +kernel
theorem dX4_init_351 : decode cX4_init 351 = .ok (.dup, 1) := by decide +kernel
theorem dX4_init_352 : decode cX4_init 352 = .ok (.bipush 58, 2) := by decide +kernel
theorem dX4_init_354 : decode cX4_init 354 = .ok (.ldc 65, 2) := by decide +kernel
theorem dX4_init_356 : decode cX4_init 356 = .ok (.iastore, 1) := by decide +kernel
theorem dX4_init_357 : decode cX4_init 357 = .ok (.dup, 1) := by decide +kernel
theorem dX4_init_358 : decode cX4_init 358 = .ok (.bipush 59, 2) := by decide +kernel
theorem dX4_init_360 : decode cX4_init 360 = .ok (.ldc 66, 2) := by decide +kernel
theorem dX4_init_362 : decode cX4_init 362 = .ok (.iastore, 1) := by decide +kernel
theorem dX4_init_363 : decode cX4_init 363 = .ok (.dup, 1) := by decide +kernel
theorem dX4_init_364 : decode cX4_init 364 = .ok (.bipush 60, 2) := by decide +kernel
theorem dX4_init_366 : decode cX4_init 366 = .ok (.ldc 67, 2) := by decide +kernel
theorem dX4_init_368 : decode cX4_init 368 = .ok (.iastore, 1) := by decide +kernel
theorem dX4_init_369 : decode cX4_init 369 = .ok (.dup, 1) := by decide +kernel
theorem dX4_init_370 : decode cX4_init 370 = .ok (.bipush 61, 2) := by decide +kernel
theorem dX4_init_372 : decode cX4_init 372 = .ok (.ldc 68, 2) := by decide +kernel
theorem dX4_init_374 : decode cX4_init 374 = .ok (.iastore, 1) := by decide +kernel
theorem dX4_init_375 : decode cX4_init 375 = .ok (.dup, 1) := by decide +kernel
theorem dX4_init_376 : decode cX4_init 376 = .ok (.bipush 62, 2) := by decide +kernel
theorem dX4_init_378 : decode cX4_init 378 = .ok (.ldc 69, 2) := by decide +kernel
theorem dX4_init_380 : decode cX4_init 380 = .ok (.iastore, 1) := by decide +kernel
theorem dX4_init_381 : decode cX4_init 381 = .ok (.dup, 1) := by decide +kernel
theorem dX4_init_382 : decode cX4_init 382 = .ok (.bipush 63, 2) := by decide +kernel
theorem dX4_init_384 : decode cX4_init 384 = .ok (.ldc 70, 2) := by decide +kernel
theorem dX4_init_386 : decode cX4_init 386 = .ok (.iastore, 1) := by decide +kernel
theorem dX4_init_387 : decode cX4_init 387 = .ok (.putfield 71, 3) := by decide +kernel
theorem dX4_init_390 : decode cX4_init 390 = .ok (.aload_n 0, 1) := by decide +kernel
theorem dX4_init_391 : decode cX4_init 391 = .ok (.bipush 8, 2) := by decide +kernel
theorem dX4_init_393 : decode cX4_init 393 = .ok (.newarray .int, 2) := by decide +kernel
theorem dX4_init_395 : decode cX4_init 395 = .ok (.dup, 1) := by decide +kernel
theorem dX4_init_396 : decode cX4_init 396 = .ok (.iconst 0, 1) := by decide +kernel
theorem dX4_init_397 : decode cX4_init 397 = .ok (.ldc 77, 2) := by decide +kernel
theorem dX4_init_399 : decode cX4_init 399 = .ok (.iastore, 1) := by decide +kernel
theorem dX4_init_400 : decode cX4_init 400 = .ok (.dup, 1) := by decide +kernel
theorem dX4_init_401 : decode cX4_init 401 = .ok (.iconst 1, 1) := by decide +kernel
theorem dX4_init_402 : decode cX4_init 402 = .ok (.ldc 78, 2) := by decide +kernel
theorem dX4_init_404 : decode cX4_init 404 = .ok (.iastore, 1) := by decide +kernel
theorem dX4_init_405 : decode cX4_init 405 = .ok (.dup, 1) := by decide +kernel
theorem dX4_init_406 : decode cX4_init 406 = .ok (.iconst 2, 1) := by decide +kernel
theorem dX4_init_407 : decode cX4_init 407 = .ok (.ldc 79, 2) := by decide +kernel
theorem dX4_init_409 : decode cX4_init 409 = .ok (.iastore, 1) := by decide +kernel
theorem dX4_init_410 : decode cX4_init 410 = .ok (.dup, 1) := by decide +kernel
theorem dX4_init_411 : decode cX4_init 411 = .ok (.iconst 3, 1) := by decide +kernel
theorem dX4_init_412 : decode cX4_init 412 = .ok (.ldc 80, 2) := by decide +kernel
theorem dX4_init_414 : decode cX4_init 414 = .ok (.iastore, 1) := by decide +kernel
theorem dX4_init_415 : decode cX4_init 415 = .ok (.dup, 1) := by decide +kernel
theorem dX4_init_416 : decode cX4_init 416 = .ok (.iconst 4, 1) := by decide +kernel
theorem dX4_init_417 : decode cX4_init 417 = .ok (.ldc 81, 2) := by decide +kernel
theorem dX4_init_419 : decode cX4_init 419 = .ok (.iastore, 1) := by decide +kernel
theorem dX4_init_420 : decode cX4_init 420 = .ok (.dup, 1) := by decide +kernel
theorem dX4_init_421 : decode cX4_init 421 = .ok (.iconst 5, 1) := by decide +kernel
theorem dX4_init_422 : decode cX4_init 422 = .ok (.ldc 82, 2) := by decide +kernel
theorem dX4_init_424 : decode cX4_init 424 = .ok (.iastore, 1) := by decide +kernel
theorem dX4_init_425 : decode cX4_init 425 = .ok (.dup, 1) := by decide +kernel
theorem dX4_init_426 : decode cX4_init 426 = .ok (.bipush 6, 2) := by decide +kernel
theorem dX4_init_428 : decode cX4_init 428 = .ok (.ldc 83, 2) := by decide +kernel
theorem dX4_init_430 : decode cX4_init 430 = .ok (.iastore, 1) := by decide +kernel
theorem dX4_init_431 : decode cX4_init 431 = .ok (.dup, 1) := by decide +kernel
theorem dX4_init_432 : decode cX4_init 432 = .ok (.bipush 7, 2) := by decide +kernel
theorem dX4_init_434 : decode cX4_init 434 = .ok (.ldc 84, 2) := by decide +kernel
theorem dX4_init_436 : decode cX4_init 436 = .ok (.iastore, 1) := by decide +kernel
theorem dX4_init_437 : decode cX4_init 437 = .ok (.putfield 85, 3) := by decide +kernel
theorem dX4_init_440 : decode cX4_init 440 = .ok (.aload_n 0, 1) := by decide +kernel
theorem dX4_init_441 : decode cX4_init 441 = .ok (.bipush 8, 2) := by decide +kernel
theorem dX4_init_443 : decode cX4_init 443 = .ok (.newarray .int, 2) := by decide +kernel
theorem dX4_init_445 : decode cX4_init 445 = .ok (.putfield 88, 3) := by decide +kernel
theorem dX4_init_448 : decode cX4_init 448 = .ok (.aload_n 0, 1) := by decide +kernel
theorem dX4_init_449 : decode cX4_init 449 = .ok (.bipush 64, 2) := by decide +kernel
theorem dX4_init_451 : decode cX4_init 451 = .ok (.newarray .int, 2) := by decide +kernel
theorem dX4_init_453 : decode cX4_init 453 = .ok (.putfield 91, 3) := by decide +kernel
theorem dX4_init_456 : decode cX4_init 456 = .ok (.aload_n 0, 1) := by decide +kernel
theorem dX4_init_457 : decode cX4_init 457 = .ok (.sipush 512, 3) := by decide +kernel
theorem dX4_init_460 : decode cX4_init 460 = .ok (.newarray .int, 2) := by decide +kernel
theorem dX4_init_462 : decode cX4_init 462 = .ok (.putfield 94, 3) := by decide +kernel
theorem dX4_init_465 : decode cX4_init 465 = .ok (.aload_n 0, 1) := by decide +kernel
theorem dX4_init_466 : decode cX4_init 466 = .ok (.bipush 32, 2) := by decide +kernel
theorem dX4_init_468 : decode cX4_init 468 = .ok (.newarray .int, 2) := by decide +kernel
theorem dX4_init_470 : decode cX4_init 470 = .ok (.putfield 97, 3) := by decide +kernel
theorem dX4_init_473 : decode cX4_init 473 = .ok (.aload_n 0, 1) := by decide +kernel
theorem dX4_init_474 : decode cX4_init 474 = .ok (.bipush 64, 2) := by decide +kernel
theorem dX4_init_476 : decode cX4_init 476 = .ok (.newarray .int, 2) := by decide +kernel
theorem dX4_init_478 : decode cX4_init 478 = .ok (.putfield 100, 3) := by decide +kernel
theorem dX4_init_481 : decode cX4_init 481 = .ok (.aload_n 0, 1) := by decide +kernel
theorem dX4_init_482 : decode cX4_init 482 = .ok (.sipush 300, 3) := by decide +kernel
theorem dX4_init_485 : decode cX4_init 485 = .ok (.newarray .int, 2) := by decide +kernel
theorem dX4_init_487 : decode cX4_init 487 = .ok (.putfield 103, 3) := by decide +kernel
theorem dX4_init_490 : decode cX4_init 490 = .ok (.aload_n 0, 1) := by decide +kernel
theorem dX4_init_491 : decode cX4_init 491 = .ok (.sipush 300, 3) := by decide +kernel
theorem dX4_init_494 : decode cX4_init 494 = .ok (.newarray .int, 2) := by decide +kernel
theorem dX4_init_496 : decode cX4_init 496 = .ok (.putfield 106, 3) := by decide +kernel
theorem dX4_init_499 : decode cX4_init 499 = .ok (.aload_n 0, 1) := by decide +kernel
theorem dX4_init_500 : decode cX4_init 500 = .ok (.bipush 32, 2) := by decide +kernel
theorem dX4_init_502 : decode cX4_init 502 = .ok (.newarray .int, 2) := by decide +kernel
theorem dX4_init_504 : decode cX4_init 504 = .ok (.putfield 109, 3) := by decide +kernel
theorem dX4_init_507 : decode cX4_init 507 = .ok (.aload_n 0, 1) := by decide +kernel
theorem dX4_init_508 : decode cX4_init 508 = .ok (.bipush 32, 2) := by decide +kernel
theorem dX4_init_510 : decode cX4_init 510 = .ok (.newarray .int, 2) := by decide +kernel
theorem dX4_init_512 : decode cX4_init 512 = .ok (.putfield 112, 3) := by decide +kernel
theorem dX4_init_515 : decode cX4_init 515 = .ok (.aload_n 0, 1) := by decide +kernel
theorem dX4_init_516 : decode cX4_init 516 = .ok (.bipush 32, 2) := by decide +kernel
theorem dX4_init_518 : decode cX4_init 518 = .ok (.newarray .int, 2) := by decide +kernel
theorem dX4_init_520 : decode cX4_init 520 = .ok (.putfield 115, 3) := by decide +kernel
theorem dX4_init_523 : decode cX4_init 523 = .ok (.aload_n 0, 1) := by decide +kernel
theorem dX4_init_524 : decode cX4_init 524 = .ok (.bipush 100, 2) := by decide +kernel
theorem dX4_init_526 : decode cX4_init 526 = .ok (.putfield 118, 3) := by decide +kernel
theorem dX4_init_529 : decode cX4_init 529 = .ok (.aload_n 0, 1) := by decide +kernel
theorem dX4_init_530 : decode cX4_init 530 = .ok (.sipush 400, 3) := by decide +kernel
theorem dX4_init_533 : decode cX4_init 533 = .ok (.newarray .int, 2) := by decide +kernel
theorem dX4_init_535 : decode cX4_init 535 = .ok (.putfield 122, 3) := by decide +kernel
theorem dX4_init_538 : decode cX4_init 538 = .ok (.return_, 1) := by decide +kernel
theorem dX4_round_0 : decode cX4_round 0 = .ok (.iload_n 0, 1) := by decide +kernel
theorem dX4_round_1 : decode cX4_round 1 = .ok (.iload_n 1, 1) := by decide +kernel
theorem dX4_round_2 : decode cX4_round 2 = .ok (.iushr, 1) := by decide +kernel
theorem dX4_round_3 : decode cX4_round 3 = .ok (.iload_n 0, 1) := by decide +kernel
theorem dX4_round_4 : decode cX4_round 4 = .ok (.bipush 32, 2) := by decide +kernel
theorem dX4_round_6 : decode cX4_round 6 = .ok (.iload_n 1, 1) := by decide +kernel
theorem dX4_round_7 : decode cX4_round 7 = .ok (.isub, 1) := by decide +kernel
theorem dX4_round_8 : decode cX4_round 8 = .ok (.ishl, 1) := by decide +kernel
theorem dX4_round_9 : decode cX4_round 9 = .ok (.ior, 1) := by decide +kernel
theorem dX4_round_10 : decode cX4_round 10 = .ok (.ireturn, 1) := by decide +kernel
set_option maxRecDepth 20000 in
theorem ggX4_hashBlock_X4_round : GoodIn wsX4_hashBlock wsX4_round := goodIn_r _ [8] (by decide +kernel) (by decide +kernel)
set_option maxRecDepth 20000 in
theorem gX4_hashBlock_X4_round : GoodIn wsX4_hashBlock (va_wsS RX4 128 yX4_round wsX4_round) := goodIn_app (goodIn_of _ (by decide +kernel)) ggX4_hashBlock_X4_round
theorem dX4_hashBlock_0 : decode cX4_hashBlock 0 = .ok (.iconst 0, 1) := by decide +kernel
theorem dX4_hashBlock_1 : decode cX4_hashBlock 1 = .ok (.istore_n 2, 1) := by decide +kernel
theorem dX4_hashBlock_2 : decode cX4_hashBlock 2 = .ok (.iload_n 2, 1) := by decide +kernel
theorem dX4_hashBlock_3 : decode cX4_hashBlock 3 = .ok (.bipush 64, 2) := by decide +kernel
theorem dX4_hashBlock_5 : decode cX4_hashBlock 5 = .ok (.if_icmp .ge 165, 3) := by decide +kernel
theorem dX4_hashBlock_8 : decode cX4_hashBlock 8 = .ok (.iload_n 2, 1) := by decide +kernel
theorem dX4_hashBlock_9 : decode cX4_hashBlock 9 = .ok (.bipush 16, 2) := by decide +kernel
theorem dX4_hashBlock_11 : decode cX4_hashBlock 11 = .ok (.if_icmp .ge 60, 3) := by decide +kernel
theorem dX4_hashBlock_14 : decode cX4_hashBlock 14 = .ok (.iload_n 1, 1) := by decide +kernel
theorem dX4_hashBlock_15 : decode cX4_hashBlock 15 = .ok (.iconst 4, 1) := by decide +kernel
theorem dX4_hashBlock_16 : decode cX4_hashBlock 16 = .ok (.iload_n 2, 1) := by decide +kernel
theorem dX4_hashBlock_17 : decode cX4_hashBlock 17 = .ok (.imul, 1) := by decide +kernel
theorem dX4_hashBlock_18 : decode cX4_hashBlock 18 = .ok (.iadd, 1) := by decide +kernel
theorem dX4_hashBlock_19 : decode cX4_hashBlock 19 = .ok (.istore_n 3, 1) := by decide +kernel
theorem dX4_hashBlock_20 : decode cX4_hashBlock 20 = .ok (.aload_n 0, 1) := by decide +kernel
theorem dX4_hashBlock_21 : decode cX4_hashBlock 21 = .ok (.getfield 91, 3) := by decide +kernel
theorem dX4_hashBlock_24 : decode cX4_hashBlock 24 = .ok (.iload_n 2, 1) := by decide +kernel
theorem dX4_hashBlock_25 : decode cX4_hashBlock 25 = .ok (.aload_n 0, 1) := by decide +kernel
theorem dX4_hashBlock_26 : decode cX4_hashBlock 26 = .ok (.getfield 94, 3) := by decide +kernel
theorem dX4_hashBlock_29 : decode cX4_hashBlock 29 = .ok (.iload_n 3, 1) := by decide +kernel
theorem dX4_hashBlock_30 : decode cX4_hashBlock 30 = .ok (.iaload, 1) := by decide +kernel
theorem dX4_hashBlock_31 : decode cX4_hashBlock 31 = .ok (.bipush 24, 2) := by decide +kernel
theorem dX4_hashBlock_33 : decode cX4_hashBlock 33 = .ok (.ishl, 1) := by decide +kernel
theorem dX4_hashBlock_34 : decode cX4_hashBlock 34 = .ok (.aload_n 0, 1) := by decide +kernel
theorem dX4_hashBlock_35 : decode cX4_hashBlock 35 = .ok (.getfield 94, 3) := by decide +kernel
theorem dX4_hashBlock_38 : decode cX4_hashBlock 38 = .ok (.iload_n 3, 1) := by decide +kernel
theorem dX4_hashBlock_39 : decode cX4_hashBlock 39 = .ok (.iconst 1, 1) := by decide +kernel
theorem dX4_hashBlock_40 : decode cX4_hashBlock 40 = .ok (.iadd, 1) := by decide +kernel
theorem dX4_hashBlock_41 : decode cX4_hashBlock 41 = .ok (.iaload, 1) := by decide +kernel
theorem dX4_hashBlock_42 : decode cX4_hashBlock 42 = .ok (.bipush 16, 2) := by decide +kernel
theorem dX4_hashBlock_44 : decode cX4_hashBlock 44 = .ok (.ishl, 1) := by decide +kernel
theorem dX4_hashBlock_45 : decode cX4_hashBlock 45 = .ok (.ior, 1) := by decide +kernel
theorem dX4_hashBlock_46 : decode cX4_hashBlock 46 = .ok (.aload_n 0, 1) := by decide +kernel
theorem dX4_hashBlock_47 : decode cX4_hashBlock 47 = .ok (.getfield 94, 3) := by decide +kernel
theorem dX4_hashBlock_50 : decode cX4_hashBlock 50 = .ok (.iload_n 3, 1) := by decide +kernel
theorem dX4_hashBlock_51 : decode cX4_hashBlock 51 = .ok (.iconst 2, 1) := by decide +kernel
theorem dX4_hashBlock_52 : decode cX4_hashBlock 52 = .ok (.iadd, 1) := by decide +kernel
theorem dX4_hashBlock_53 : decode cX4_hashBlock 53 = .ok (.iaload, 1) := by decide +kernel
theorem dX4_hashBlock_54 : decode cX4_hashBlock 54 = .ok (.bipush 8, 2) := by decide +kernel
theorem dX4_hashBlock_56 : decode cX4_hashBlock 56 = .ok (.ishl, 1) := by decide +kernel
theorem dX4_hashBlock_57 : decode cX4_hashBlock 57 = .ok (.ior, 1) := by decide +kernel
theorem dX4_hashBlock_58 : decode cX4_hashBlock 58 = .ok (.aload_n 0, 1) := by decide +kernel
theorem dX4_hashBlock_59 : decode cX4_hashBlock 59 = .ok (.getfield 94, 3) := by decide +kernel
theorem dX4_hashBlock_62 : decode cX4_hashBlock 62 = .ok (.iload_n 3, 1) := by decide +kernel
theorem dX4_hashBlock_63 : decode cX4_hashBlock 63 = .ok (.iconst 3, 1) := by decide +kernel
theorem dX4_hashBlock_64 : decode cX4_hashBlock 64 = .ok (.iadd, 1) := by decide +kernel
theorem dX4_hashBlock_65 : decode cX4_hashBlock 65 = .ok (.iaload, 1) := by decide +kernel
theorem dX4_hashBlock_66 : decode cX4_hashBlock 66 = .ok (.ior, 1) := by decide +kernel
theorem dX4_hashBlock_67 : decode cX4_hashBlock 67 = .ok (.iastore, 1) := by decide +kernel
theorem dX4_hashBlock_68 : decode cX4_hashBlock 68 = .ok (.goto 96, 3) := by decide +kernel
theorem dX4_hashBlock_71 : decode cX4_hashBlock 71 = .ok (.aload_n 0, 1) := by decide +kernel
theorem dX4_hashBlock_72 : decode cX4_hashBlock 72 = .ok (.getfield 91, 3) := by decide +kernel
theorem dX4_hashBlock_75 : decode cX4_hashBlock 75 = .ok (.iload_n 2, 1) := by decide +kernel
theorem dX4_hashBlock_76 : decode cX4_hashBlock 76 = .ok (.bipush 15, 2) := by decide +kernel
theorem dX4_hashBlock_78 : decode cX4_hashBlock 78 = .ok (.isub, 1) := by decide +kernel
theorem dX4_hashBlock_79 : decode cX4_hashBlock 79 = .ok (.iaload, 1) := by decide +kernel
theorem dX4_hashBlock_80 : decode cX4_hashBlock 80 = .ok (.istore_n 3, 1) := by decide +kernel
theorem dX4_hashBlock_81 : decode cX4_hashBlock 81 = .ok (.aload_n 0, 1) := by decide +kernel
theorem dX4_hashBlock_82 : decode cX4_hashBlock 82 = .ok (.getfield 91, 3) := by decide +kernel
theorem dX4_hashBlock_85 : decode cX4_hashBlock 85 = .ok (.iload_n 2, 1) := by decide +kernel
theorem dX4_hashBlock_86 : decode cX4_hashBlock 86 = .ok (.iconst 2, 1) := by decide +kernel
theorem dX4_hashBlock_87 : decode cX4_hashBlock 87 = .ok (.isub, 1) := by decide +kernel
theorem dX4_hashBlock_88 : decode cX4_hashBlock 88 = .ok (.iaload, 1) := by decide +kernel
theorem dX4_hashBlock_89 : decode cX4_hashBlock 89 = .ok (.istore 4, 2) := by decide +kernel
theorem dX4_hashBlock_91 : decode cX4_hashBlock 91 = .ok (.iload_n 3, 1) := by decide +kernel
theorem dX4_hashBlock_92 : decode cX4_hashBlock 92 = .ok (.bipush 7, 2) := by decide +kernel
theorem dX4_hashBlock_94 : decode cX4_hashBlock 94 = .ok (.invokestatic 128, 3) := by decide +kernel
theorem dX4_hashBlock_97 : decode cX4_hashBlock 97 = .ok (.iload_n 3, 1) := by decide +kernel
theorem dX4_hashBlock_98 : decode cX4_hashBlock 98 = .ok (.bipush 18, 2) := by decide +kernel
theorem dX4_hashBlock_100 : decode cX4_hashBlock 100 = .ok (.invokestatic 128, 3) := by decide +kernel
theorem dX4_hashBlock_103 : decode cX4_hashBlock 103 = .ok (.ixor, 1) := by decide +kernel
theorem dX4_hashBlock_104 : decode cX4_hashBlock 104 = .ok (.iload_n 3, 1) := by decide +kernel
theorem dX4_hashBlock_105 : decode cX4_hashBlock 105 = .ok (.iconst 3, 1) := by decide +kernel
theorem dX4_hashBlock_106 : decode cX4_hashBlock 106 = .ok (.iushr, 1) := by decide +kernel
theorem dX4_hashBlock_107 : decode cX4_hashBlock 107 = .ok (.ixor, 1) := by decide +kernel
theorem dX4_hashBlock_108 : decode cX4_hashBlock 108 = .ok (.istore 5, 2) := by decide +kernel
theorem dX4_hashBlock_110 : decode cX4_hashBlock 110 = .ok (.iload 4, 2) := by decide +kernel
theorem dX4_hashBlock_112 : decode cX4_hashBlock 112 = .ok (.bipush 17, 2) := by decide +kernel
theorem dX4_hashBlock_114 : decode cX4_hashBlock 114 = .ok (.invokestatic 128, 3) := by decide +kernel
theorem dX4_hashBlock_117 : decode cX4_hashBlock 117 = .ok (.iload 4, 2) := by decide +kernel
theorem dX4_hashBlock_119 : decode cX4_hashBlock 119 = .ok (.bipush 19, 2) := by decide +kernel
theorem dX4_hashBlock_121 : decode cX4_hashBlock 121 = .ok (.invokestatic 128, 3) := by decide +kernel
theorem dX4_hashBlock_124 : decode cX4_hashBlock 124 = .ok (.ixor, 1) := by decide +kernel
theorem dX4_hashBlock_125 : decode cX4_hashBlock 125 = .ok (.iload 4, 2) := by decide +kernel
theorem dX4_hashBlock_127 : decode cX4_hashBlock 127 = .ok (.bipush 10, 2) := by decide +kernel
theorem dX4_hashBlock_129 : decode cX4_hashBlock 129 = .ok (.iushr, 1) := by decide +kernel
theorem dX4_hashBlock_130 : decode cX4_hashBlock 130 = .ok (.ixor, 1) := by decide +kernel
theorem dX4_hashBlock_131 : decode cX4_hashBlock 131 = .ok (.istore 6, 2) := by decide +kernel
theorem dX4_hashBlock_133 : decode cX4_hashBlock 133 = .ok (.aload_n 0, 1) := by decide +kernel
theorem dX4_hashBlock_134 : decode cX4_hashBlock 134 = .ok (.getfield 91, 3) := by decide +kernel
theorem dX4_hashBlock_137 : decode cX4_hashBlock 137 = .ok (.iload_n 2, 1) := by decide +kernel
theorem dX4_hashBlock_138 : decode cX4_hashBlock 138 = .ok (.aload_n 0, 1) := by decide +kernel
theorem dX4_hashBlock_139 : decode cX4_hashBlock 139 = .ok (.getfield 91, 3) := by decide +kernel
theorem dX4_hashBlock_142 : decode cX4_hashBlock 142 = .ok (.iload_n 2, 1) := by decide +kernel
theorem dX4_hashBlock_143 : decode cX4_hashBlock 143 = .ok (.bipush 16, 2) := by decide +kernel
theorem dX4_hashBlock_145 : decode cX4_hashBlock 145 = .ok (.isub, 1) := by decide +kernel
theorem dX4_hashBlock_146 : decode cX4_hashBlock 146 = .ok (.iaload, 1) := by decide +kernel
theorem dX4_hashBlock_147 : decode cX4_hashBlock 147 = .ok (.iload 5, 2) := by decide +kernel
theorem dX4_hashBlock_149 : decode cX4_hashBlock 149 = .ok (.iadd, 1) := by decide +kernel
theorem dX4_hashBlock_150 : decode cX4_hashBlock 150 = .ok (.aload_n 0, 1) := by decide +kernel
theorem dX4_hashBlock_151 : decode cX4_hashBlock 151 = .ok (.getfield 91, 3) := by decide +kernel
theorem dX4_hashBlock_154 : decode cX4_hashBlock 154 = .ok (.iload_n 2, 1) := by decide +kernel
theorem dX4_hashBlock_155 : decode cX4_hashBlock 155 = .ok (.bipush 7, 2) := by decide +kernel
theorem dX4_hashBlock_157 : decode cX4_hashBlock 157 = .ok (.isub, 1) := by decide +kernel
theorem dX4_hashBlock_158 : decode cX4_hashBlock 158 = .ok (.iaload, 1) := by decide +kernel
theorem dX4_hashBlock_159 : decode cX4_hashBlock 159 = .ok (.iadd, 1) := by decide +kernel
theorem dX4_hashBlock_160 : decode cX4_hashBlock 160 = .ok (.iload 6, 2) := by decide +kernel
theorem dX4_hashBlock_162 : decode cX4_hashBlock 162 = .ok (.iadd, 1) := by decide +kernel
theorem dX4_hashBlock_163 : decode cX4_hashBlock 163 = .ok (.iastore, 1) := by decide +kernel
theorem dX4_hashBlock_164 : decode cX4_hashBlock 164 = .ok (.iinc 2 1, 3) := by decide +kernel
theorem dX4_hashBlock_167 : decode cX4_hashBlock 167 = .ok (.goto (-165), 3) := by decide +kernel
theorem dX4_hashBlock_170 : decode cX4_hashBlock 170 = .ok (.aload_n 0, 1) := by decide +kernel
theorem dX4_hashBlock_171 : decode cX4_hashBlock 171 = .ok (.getfield 88, 3) := by decide +kernel
theorem dX4_hashBlock_174 : decode cX4_hashBlock 174 = .ok (.iconst 0, 1) := by decide +kernel
theorem dX4_hashBlock_175 : decode cX4_hashBlock 175 = .ok (.iaload, 1) := by decide +kernel
theorem dX4_hashBlock_176 : decode cX4_hashBlock 176 = .ok (.istore_n 2, 1) := by decide +kernel
theorem dX4_hashBlock_177 : decode cX4_hashBlock 177 = .ok (.aload_n 0, 1) := by decide +kernel
theorem dX4_hashBlock_178 : decode cX4_hashBlock 178 = .ok (.getfield 88, 3) := by decide +kernel
theorem dX4_hashBlock_181 : decode cX4_hashBlock 181 = .ok (.iconst 1, 1) := by decide +kernel
theorem dX4_hashBlock_182 : decode cX4_hashBlock 182 = .ok (.iaload, 1) := by decide +kernel
theorem dX4_hashBlock_183 : decode cX4_hashBlock 183 = .ok (.istore_n 3, 1) := by decide +kernel
theorem dX4_hashBlock_184 : decode cX4_hashBlock 184 = .ok (.aload_n 0, 1) := by decide +kernel
theorem dX4_hashBlock_185 : decode cX4_hashBlock 185 = .ok (.getfield 88, 3) := by decide +kernel
theorem dX4_hashBlock_188 : decode cX4_hashBlock 188 = .ok (.iconst 2, 1) := by decide +kernel
theorem dX4_hashBlock_189 : decode cX4_hashBlock 189 = .ok (.iaload, 1) := by decide +kernel
theorem dX4_hashBlock_190 : decode cX4_hashBlock 190 = .ok (.istore 4, 2) := by decide +kernel
theorem dX4_hashBlock_192 : decode cX4_hashBlock 192 = .ok (.aload_n 0, 1) := by decide +kernel
theorem dX4_hashBlock_193 : decode cX4_hashBlock 193 = .ok (.getfield 88, 3) := by decide +kernel
theorem dX4_hashBlock_196 : decode cX4_hashBlock 196 = .ok (.iconst 3, 1) := by decide +kernel
theorem dX4_hashBlock_197 : decode cX4_hashBlock 197 = .ok (.iaload, 1) := by decide +kernel
theorem dX4_hashBlock_198 : decode cX4_hashBlock 198 = .ok (.istore 5, 2) := by decide +kernel
theorem dX4_hashBlock_200 : decode cX4_hashBlock 200 = .ok (.aload_n 0, 1) := by decide +kernel
theorem dX4_hashBlock_201 : decode cX4_hashBlock 201 = .ok (.getfield 88, 3) := by decide +kernel
theorem dX4_hashBlock_204 : decode cX4_hashBlock 204 = .ok (.iconst 4, 1) := by decide +kernel
theorem dX4_hashBlock_205 : decode cX4_hashBlock 205 = .ok (.iaload, 1) := by decide +kernel
theorem dX4_hashBlock_206 : decode cX4_hashBlock 206 = .ok (.istore 6, 2) := by decide +kernel
theorem dX4_hashBlock_208 : decode cX4_hashBlock 208 = .ok (.aload_n 0, 1) := by decide +kernel
theorem dX4_hashBlock_209 : decode cX4_hashBlock 209 = .ok (.getfield 88, 3) := by decide +kernel
theorem dX4_hashBlock_212 : decode cX4_hashBlock 212 = .ok (.iconst 5, 1) := by decide +kernel
theorem dX4_hashBlock_213 : decode cX4_hashBlock 213 = .ok (.iaload, 1) := by decide +kernel
theorem dX4_hashBlock_214 : decode cX4_hashBlock 214 = .ok (.istore 7, 2) := by decide +kernel
theorem dX4_hashBlock_216 : decode cX4_hashBlock 216 = .ok (.aload_n 0, 1) := by decide +kernel
theorem dX4_hashBlock_217 : decode cX4_hashBlock 217 = .ok (.getfield 88, 3) := by decide +kernel
theorem dX4_hashBlock_220 : decode cX4_hashBlock 220 = .ok (.bipush 6, 2) := by decide +kernel
theorem dX4_hashBlock_222 : decode cX4_hashBlock 222 = .ok (.iaload, 1) := by decide +kernel
theorem dX4_hashBlock_223 : decode cX4_hashBlock 223 = .ok (.istore 8, 2) := by decide +kernel
theorem dX4_hashBlock_225 : decode cX4_hashBlock 225 = .ok (.aload_n 0, 1) := by decide +kernel
theorem dX4_hashBlock_226 : decode cX4_hashBlock 226 = .ok (.getfield 88, 3) := by decide +kernel
theorem dX4_hashBlock_229 : decode cX4_hashBlock 229 = .ok (.bipush 7, 2) := by decide +kernel
theorem dX4_hashBlock_231 : decode cX4_hashBlock 231 = .ok (.iaload, 1) := by decide +kernel
theorem dX4_hashBlock_232 : decode cX4_hashBlock 232 = .ok (.istore 9, 2) := by decide +kernel
theorem dX4_hashBlock_234 : decode cX4_hashBlock 234 = .ok (.iconst 0, 1) := by decide +kernel
theorem dX4_hashBlock_235 : decode cX4_hashBlock 235 = .ok (.istore 10, 2) := by decide +kernel
theorem dX4_hashBlock_237 : decode cX4_hashBlock 237 = .ok (.iload 10, 2) := by decide +kernel
theorem dX4_hashBlock_239 : decode cX4_hashBlock 239 = .ok (.bipush 64, 2) := by decide +kernel
theorem dX4_hashBlock_241 : decode cX4_hashBlock 241 = .ok (.if_icmp .ge 136, 3) := by decide +kernel
theorem dX4_hashBlock_244 : decode cX4_hashBlock 244 = .ok (.iload 9, 2) := by decide +kernel
theorem dX4_hashBlock_246 : decode cX4_hashBlock 246 = .ok (.iload 6, 2) := by decide +kernel
theorem dX4_hashBlock_248 : decode cX4_hashBlock 248 = .ok (.bipush 6, 2) := by decide +kernel
theorem dX4_hashBlock_250 : decode cX4_hashBlock 250 = .ok (.invokestatic 128, 3) := by decide +kernel
theorem dX4_hashBlock_253 : decode cX4_hashBlock 253 = .ok (.iload 6, 2) := by decide +kernel
theorem dX4_hashBlock_255 : decode cX4_hashBlock 255 = .ok (.bipush 11, 2) := by decide +kernel
theorem dX4_hashBlock_257 : decode cX4_hashBlock 257 = .ok (.invokestatic 128, 3) := by decide +kernel
theorem dX4_hashBlock_260 : decode cX4_hashBlock 260 = .ok (.ixor, 1) := by decide +kernel
theorem dX4_hashBlock_261 : decode cX4_hashBlock 261 = .ok (.iload 6, 2) := by decide +kernel
theorem dX4_hashBlock_263 : decode cX4_hashBlock 263 = .ok (.bipush 25, 2) := by decide +kernel
theorem dX4_hashBlock_265 : decode cX4_hashBlock 265 = .ok (.invokestatic 128, 3) := by decide +kernel
theorem dX4_hashBlock_268 : decode cX4_hashBlock 268 = .ok (.ixor, 1) := by decide +kernel
theorem dX4_hashBlock_269 : decode cX4_hashBlock 269 = .ok (.iadd, 1) := by decide +kernel
theorem dX4_hashBlock_270 : decode cX4_hashBlock 270 = .ok (.iload 6, 2) := by decide +kernel
theorem dX4_hashBlock_272 : decode cX4_hashBlock 272 = .ok (.iload 7, 2) := by decide +kernel
theorem dX4_hashBlock_274 : decode cX4_hashBlock 274 = .ok (.iand, 1) := by decide +kernel
theorem dX4_hashBlock_275 : decode cX4_hashBlock 275 = .ok (.iload 6, 2) := by decide +kernel
theorem dX4_hashBlock_277 : decode cX4_hashBlock 277 = .ok (.iconst (-1), 1) := by decide +kernel
theorem dX4_hashBlock_278 : decode cX4_hashBlock 278 = .ok (.ixor, 1) := by decide +kernel
theorem dX4_hashBlock_279 : decode cX4_hashBlock 279 = .ok (.iload 8, 2) := by decide +kernel
theorem dX4_hashBlock_281 : decode cX4_hashBlock 281 = .ok (.iand, 1) := by decide +kernel
theorem dX4_hashBlock_282 : decode cX4_hashBlock 282 = .ok (.ixor, 1) := by decide +kernel
theorem dX4_hashBlock_283 : decode cX4_hashBlock 283 = .ok (.iadd, 1) := by decide +kernel
theorem dX4_hashBlock_284 : decode cX4_hashBlock 284 = .ok (.aload_n 0, 1) := by decide +kernel
theorem dX4_hashBlock_285 : decode cX4_hashBlock 285 = .ok (.getfield 71, 3) := by decide +kernel
theorem dX4_hashBlock_288 : decode cX4_hashBlock 288 = .ok (.iload 10, 2) := by decide +kernel
theorem dX4_hashBlock_290 : decode cX4_hashBlock 290 = .ok (.iaload, 1) := by decide +kernel
theorem dX4_hashBlock_291 : decode cX4_hashBlock 291 = .ok (.iadd, 1) := by decide +kernel
theorem dX4_hashBlock_292 : decode cX4_hashBlock 292 = .ok (.aload_n 0, 1) := by decide +kernel
theorem dX4_hashBlock_293 : decode cX4_hashBlock 293 = .ok (.getfield 91, 3) := by decide +kernel
theorem dX4_hashBlock_296 : decode cX4_hashBlock 296 = .ok (.iload 10, 2) := by decide +kernel
theorem dX4_hashBlock_298 : decode cX4_hashBlock 298 = .ok (.iaload, 1) := by decide +kernel
theorem dX4_hashBlock_299 : decode cX4_hashBlock 299 = .ok (.iadd, 1) := by decide +kernel
theorem dX4_hashBlock_300 : decode cX4_hashBlock 300 = .ok (.istore 11, 2) := by decide +kernel
theorem dX4_hashBlock_302 : decode cX4_hashBlock 302 = .ok (.iload_n 2, 1) := by decide +kernel
theorem dX4_hashBlock_303 : decode cX4_hashBlock 303 = .ok (.iconst 2, 1) := by decide +kernel
theorem dX4_hashBlock_304 : decode cX4_hashBlock 304 = .ok (.invokestatic 128, 3) := by decide +kernel
theorem dX4_hashBlock_307 : decode cX4_hashBlock 307 = .ok (.iload_n 2, 1) := by decide +kernel
theorem dX4_hashBlock_308 : decode cX4_hashBlock 308 = .ok (.bipush 13, 2) := by decide +kernel
theorem dX4_hashBlock_310 : decode cX4_hashBlock 310 = .ok (.invokestatic 128, 3) := by decide +kernel
theorem dX4_hashBlock_313 : decode cX4_hashBlock 313 = .ok (.ixor, 1) := by decide +kernel
theorem dX4_hashBlock_314 : decode cX4_hashBlock 314 = .ok (.iload_n 2, 1) := by decide +kernel
theorem dX4_hashBlock_315 : decode cX4_hashBlock 315 = .ok (.bipush 22, 2) := by decide +kernel
theorem dX4_hashBlock_317 : decode cX4_hashBlock 317 = .ok (.invokestatic 128, 3) := by decide +kernel
theorem dX4_hashBlock_320 : decode cX4_hashBlock 320 = .ok (.ixor, 1) := by decide +kernel
theorem dX4_hashBlock_321 : decode cX4_hashBlock 321 = .ok (.iload_n 2, 1) := by decide +kernel
theorem dX4_hashBlock_322 : decode cX4_hashBlock 322 = .ok (.iload_n 3, 1) := by decide +kernel
theorem dX4_hashBlock_323 : decode cX4_hashBlock 323 = .ok (.iand, 1) := by decide +kernel
theorem dX4_hashBlock_324 : decode cX4_hashBlock 324 = .ok (.iload_n 2, 1) := by decide +kernel
theorem dX4_hashBlock_325 : decode cX4_hashBlock 325 = .ok (.iload 4, 2) := by decide +kernel
theorem dX4_hashBlock_327 : decode cX4_hashBlock 327 = .ok (.iand, 1) := by decide +kernel
theorem dX4_hashBlock_328 : decode cX4_hashBlock 328 = .ok (.ixor, 1) := by decide +kernel
theorem dX4_hashBlock_329 : decode cX4_hashBlock 329 = .ok (.iload_n 3, 1) := by decide +kernel
theorem dX4_hashBlock_330 : decode cX4_hashBlock 330 = .ok (.iload 4, 2) := by decide +kernel
theorem dX4_hashBlock_332 : decode cX4_hashBlock 332 = .ok (.iand, 1) := by decide +kernel
theorem dX4_hashBlock_333 : decode cX4_hashBlock 333 = .ok (.ixor, 1) := by decide +kernel
theorem dX4_hashBlock_334 : decode cX4_hashBlock 334 = .ok (.iadd, 1) := by decide +kernel
theorem dX4_hashBlock_335 : decode cX4_hashBlock 335 = .ok (.istore 12, 2) := by decide +kernel
theorem dX4_hashBlock_337 : decode cX4_hashBlock 337 = .ok (.iload 8, 2) := by decide +kernel
theorem dX4_hashBlock_339 : decode cX4_hashBlock 339 = .ok (.istore 9, 2) := by decide +kernel
theorem dX4_hashBlock_341 : decode cX4_hashBlock 341 = .ok (.iload 7, 2) := by decide +kernel
theorem dX4_hashBlock_343 : decode cX4_hashBlock 343 = .ok (.istore 8, 2) := by decide +kernel
theorem dX4_hashBlock_345 : decode cX4_hashBlock 345 = .ok (.iload 6, 2) := by decide +kernel
theorem dX4_hashBlock_347 : decode cX4_hashBlock 347 = .ok (.istore 7, 2) := by decide +kernel
theorem dX4_hashBlock_349 : decode cX4_hashBlock 349 = .ok (.iload 5, 2) := by decide +kernel
theorem dX4_hashBlock_351 : decode cX4_hashBlock 351 = .ok (.iload 11, 2) := by decide +kernel
theorem dX4_hashBlock_353 : decode cX4_hashBlock 353 = .ok (.iadd, 1) := by decide +kernel
theorem dX4_hashBlock_354 : decode cX4_hashBlock 354 = .ok (.istore 6, 2) := by decide +kernel
theorem dX4_hashBlock_356 : decode cX4_hashBlock 356 = .ok (.iload 4, 2) := by decide +kernel
theorem dX4_hashBlock_358 : decode cX4_hashBlock 358 = .ok (.istore 5, 2) := by decide +kernel
theorem dX4_hashBlock_360 : decode cX4_hashBlock 360 = .ok (.iload_n 3, 1) := by decide +kernel
theorem dX4_hashBlock_361 : decode cX4_hashBlock 361 = .ok (.istore 4, 2) := by decide +kernel
theorem dX4_hashBlock_363 : decode cX4_hashBlock 363 = .ok (.iload_n 2, 1) := by decide +kernel
theorem dX4_hashBlock_364 : decode cX4_hashBlock 364 = .ok (.istore_n 3, 1) := by decide +kernel
theorem dX4_hashBlock_365 : decode cX4_hashBlock 365 = .ok (.iload 11, 2) := by decide +kernel
theorem dX4_hashBlock_367 : decode cX4_hashBlock 367 = .ok (.iload 12, 2) := by decide +kernel
theorem dX4_hashBlock_369 : decode cX4_hashBlock 369 = .ok (.iadd, 1) := by decide +kernel
theorem dX4_hashBlock_370 : decode cX4_hashBlock 370 = .ok (.istore_n 2, 1) := by decide +kernel
theorem dX4_hashBlock_371 : decode cX4_hashBlock 371 = .ok (.iinc 10 1, 3) := by decide +kernel
theorem dX4_hashBlock_374 : decode cX4_hashBlock 374 = .ok (.goto (-137), 3) := by decide +kernel
theorem dX4_hashBlock_377 : decode cX4_hashBlock 377 = .ok (.aload_n 0, 1) := by decide +kernel
theorem dX4_hashBlock_378 : decode cX4_hashBlock 378 = .ok (.getfield 88, 3) := by decide +kernel
theorem dX4_hashBlock_381 : decode cX4_hashBlock 381 = .ok (.iconst 0, 1) := by decide +kernel
theorem dX4_hashBlock_382 : decode cX4_hashBlock 382 = .ok (.aload_n 0, 1) := by decide +kernel
theorem dX4_hashBlock_383 : decode cX4_hashBlock 383 = .ok (.getfield 88, 3) := by decide +kernel
theorem dX4_hashBlock_386 : decode cX4_hashBlock 386 = .ok (.iconst 0, 1) := by decide +kernel
theorem dX4_hashBlock_387 : decode cX4_hashBlock 387 = .ok (.iaload, 1) := by decide +kernel
theorem dX4_hashBlock_388 : decode cX4_hashBlock 388 = .ok (.iload_n 2, 1) := by decide +kernel
theorem dX4_hashBlock_389 : decode cX4_hashBlock 389 = .ok (.iadd, 1) := by decide +kernel
theorem dX4_hashBlock_390 : decode cX4_hashBlock 390 = .ok (.iastore, 1) := by decide +kernel
theorem dX4_hashBlock_391 : decode cX4_hashBlock 391 = .ok (.aload_n 0, 1) := by decide +kernel
theorem dX4_hashBlock_392 : decode cX4_hashBlock 392 = .ok (.getfield 88, 3) := by decide +kernel
theorem dX4_hashBlock_395 : decode cX4_hashBlock 395 = .ok (.iconst 1, 1) := by decide +kernel
theorem dX4_hashBlock_396 : decode cX4_hashBlock 396 = .ok (.aload_n 0, 1) := by decide +kernel
theorem dX4_hashBlock_397 : decode cX4_hashBlock 397 = .ok (.getfield 88, 3) := by decide +kernel
theorem dX4_hashBlock_400 : decode cX4_hashBlock 400 = .ok (.iconst 1, 1) := by decide +kernel
theorem dX4_hashBlock_401 : decode cX4_hashBlock 401 = .ok (.iaload, 1) := by decide +kernel
theorem dX4_hashBlock_402 : decode cX4_hashBlock 402 = .ok (.iload_n 3, 1) := by decide +kernel
theorem dX4_hashBlock_403 : decode cX4_hashBlock 403 = .ok (.iadd, 1) := by decide +kernel
theorem dX4_hashBlock_404 : decode cX4_hashBlock 404 = .ok (.iastore, 1) := by decide +kernel
theorem dX4_hashBlock_405 : decode cX4_hashBlock 405 = .ok (.aload_n 0, 1) := by decide +kernel
theorem dX4_hashBlock_406 : decode cX4_hashBlock 406 = .ok (.getfield 88, 3) := by decide +kernel
theorem dX4_hashBlock_409 : decode cX4_hashBlock 409 = .ok (.iconst 2, 1) := by decide +kernel
theorem dX4_hashBlock_410 : decode cX4_hashBlock 410 = .ok (.aload_n 0, 1) := by decide +kernel
theorem dX4_hashBlock_411 : decode cX4_hashBlock 411 = .ok (.getfield 88, 3) := by decide +kernel
theorem dX4_hashBlock_414 : decode cX4_hashBlock 414 = .ok (.iconst 2, 1) := by decide +kernel
theorem dX4_hashBlock_415 : decode cX4_hashBlock 415 = .ok (.iaload, 1) := by decide +kernel
theorem dX4_hashBlock_416 : decode cX4_hashBlock 416 = .ok (.iload 4, 2) := by decide +kernel
theorem dX4_hashBlock_418 : decode cX4_hashBlock 418 = .ok (.iadd, 1) := by decide +kernel
theorem dX4_hashBlock_419 : decode cX4_hashBlock 419 = .ok (.iastore, 1) := by decide +kernel
theorem dX4_hashBlock_420 : decode cX4_hashBlock 420 = .ok (.aload_n 0, 1) := by decide +kernel
theorem dX4_hashBlock_421 : decode cX4_hashBlock 421 = .ok (.getfield 88, 3) := by decide +kernel
theorem dX4_hashBlock_424 : decode cX4_hashBlock 424 = .ok (.iconst 3, 1) := by decide +kernel
theorem dX4_hashBlock_425 : decode cX4_hashBlock 425 = .ok (.aload_n 0, 1) := by decide +kernel
theorem dX4_hashBlock_426 : decode cX4_hashBlock 426 = .ok (.getfield 88, 3) := by decide +kernel
theorem dX4_hashBlock_429 : decode cX4_hashBlock 429 = .ok (.iconst 3, 1) := by decide +kernel
theorem dX4_hashBlock_430 : decode cX4_hashBlock 430 = .ok (.iaload, 1) := by decide +kernel
theorem dX4_hashBlock_431 : decode cX4_hashBlock 431 = .ok (.iload 5, 2) := by decide +kernel
theorem dX4_hashBlock_433 : decode cX4_hashBlock 433 = .ok (.iadd, 1) := by decide +kernel
theorem dX4_hashBlock_434 : decode cX4_hashBlock 434 = .ok (.iastore, 1) := by decide +kernel
theorem dX4_hashBlock_435 : decode cX4_hashBlock 435 = .ok (.aload_n 0, 1) := by decide +kernel
theorem dX4_hashBlock_436 : decode cX4_hashBlock 436 = .ok (.getfield 88, 3) := by decide +kernel
theorem dX4_hashBlock_439 : decode cX4_hashBlock 439 = .ok (.iconst 4, 1) := by decide +kernel
theorem dX4_hashBlock_440 : decode cX4_hashBlock 440 = .ok (.aload_n 0, 1) := by decide +kernel
theorem dX4_hashBlock_441 : decode cX4_hashBlock 441 = .ok (.getfield 88, 3) := by decide +kernel
theorem dX4_hashBlock_444 : decode cX4_hashBlock 444 = .ok (.iconst 4, 1) := by decide +kernel
theorem dX4_hashBlock_445 : decode cX4_hashBlock 445 = .ok (.iaload, 1) := by decide +kernel
theorem dX4_hashBlock_446 : decode cX4_hashBlock 446 = .ok (.iload 6, 2) := by decide +kernel
theorem dX4_hashBlock_448 : decode cX4_hashBlock 448 = .ok (.iadd, 1) := by decide +kernel
theorem dX4_hashBlock_449 : decode cX4_hashBlock 449 = .ok (.iastore, 1) := by decide +kernel
theorem dX4_hashBlock_450 : decode cX4_hashBlock 450 = .ok (.aload_n 0, 1) := by decide +kernel
theorem dX4_hashBlock_451 : decode cX4_hashBlock 451 = .ok (.getfield 88, 3) := by decide +kernel
theorem dX4_hashBlock_454 : decode cX4_hashBlock 454 = .ok (.iconst 5, 1) := by decide +kernel
theorem dX4_hashBlock_455 : decode cX4_hashBlock 455 = .ok (.aload_n 0, 1) := by decide +kernel
theorem dX4_hashBlock_456 : decode cX4_hashBlock 456 = .ok (.getfield 88, 3) := by decide +kernel
theorem dX4_hashBlock_459 : decode cX4_hashBlock 459 = .ok (.iconst 5, 1) := by decide +kernel
theorem dX4_hashBlock_460 : decode cX4_hashBlock 460 = .ok (.iaload, 1) := by decide +kernel
theorem dX4_hashBlock_461 : decode cX4_hashBlock 461 = .ok (.iload 7, 2) := by decide +kernel
theorem dX4_hashBlock_463 : decode cX4_hashBlock 463 = .ok (.iadd, 1) := by decide +kernel
theorem dX4_hashBlock_464 : decode cX4_hashBlock 464 = .ok (.iastore, 1) := by decide +kernel
theorem dX4_hashBlock_465 : decode cX4_hashBlock 465 = .ok (.aload_n 0, 1) := by decide +kernel
theorem dX4_hashBlock_466 : decode cX4_hashBlock 466 = .ok (.getfield 88, 3) := by decide +kernel
theorem dX4_hashBlock_469 : decode cX4_hashBlock 469 = .ok (.bipush 6, 2) := by decide +kernel
theorem dX4_hashBlock_471 : decode cX4_hashBlock 471 = .ok (.aload_n 0, 1) := by decide +kernel
theorem dX4_hashBlock_472 : decode cX4_hashBlock 472 = .ok (.getfield 88, 3) := by decide +kernel
theorem dX4_hashBlock_475 : decode cX4_hashBlock 475 = .ok (.bipush 6, 2) := by decide +kernel
theorem dX4_hashBlock_477 : decode cX4_hashBlock 477 = .ok (.iaload, 1) := by decide +kernel
theorem dX4_hashBlock_478 : decode cX4_hashBlock 478 = .ok (.iload 8, 2) := by decide +kernel
theorem dX4_hashBlock_480 : decode cX4_hashBlock 480 = .ok (.iadd, 1) := by decide +kernel
theorem dX4_hashBlock_481 : decode cX4_hashBlock 481 = .ok (.iastore, 1) := by decide +kernel
theorem dX4_hashBlock_482 : decode cX4_hashBlock 482 = .ok (.aload_n 0, 1) := by decide +kernel
theorem dX4_hashBlock_483 : decode cX4_hashBlock 483 = .ok (.getfield 88, 3) := by decide +kernel
theorem dX4_hashBlock_486 : decode cX4_hashBlock 486 = .ok (.bipush 7, 2) := by decide +kernel
theorem dX4_hashBlock_488 : decode cX4_hashBlock 488 = .ok (.aload_n 0, 1) := by decide +kernel
theorem dX4_hashBlock_489 : decode cX4_hashBlock 489 = .ok (.getfield 88, 3) := by decide +kernel
theorem dX4_hashBlock_492 : decode cX4_hashBlock 492 = .ok (.bipush 7, 2) := by decide +kernel
theorem dX4_hashBlock_494 : decode cX4_hashBlock 494 = .ok (.iaload, 1) := by decide +kernel
theorem dX4_hashBlock_495 : decode cX4_hashBlock 495 = .ok (.iload 9, 2) := by decide +kernel
theorem dX4_hashBlock_497 : decode cX4_hashBlock 497 = .ok (.iadd, 1) := by decide +kernel
theorem dX4_hashBlock_498 : decode cX4_hashBlock 498 = .ok (.iastore, 1) := by decide +kernel
theorem dX4_hashBlock_499 : decode cX4_hashBlock 499 = .ok (.return_, 1) := by decide +kernel
set_option maxRecDepth 20000 in
theorem ggX4_hashRow_X4_put : GoodIn wsX4_hashRow wsX4_put := goodIn_r _ [9, 10, 1, 20, 21, 22, 23, 24, 25, 26, 27, 28, 29, 30, 31, 32, 33, 34, 35, 36, 37, 38, 39, 40, 41] (by decide +kernel) (by decide +kernel)
set_option maxRecDepth 20000 in
theorem gX4_hashRow_X4_put : GoodIn wsX4_hashRow (wsV RX4 135 RX4 yX4_put wsX4_put) := goodIn_app (goodIn_of _ (by decide +kernel)) ggX4_hashRow_X4_put
set_option maxRecDepth 20000 in
theorem ggX4_hashRow_X4_hashBlock : GoodIn wsX4_hashRow wsX4_hashBlock := goodIn_r _ [14, 15, 10, 2, 16, 17, 18, 8, 19, 20, 21, 22, 23, 24, 25, 26, 27, 28, 29, 30, 31, 32, 33, 34, 35, 36, 37, 38, 39, 40, 41] (by decide +kernel) (by decide +kernel)
set_option maxRecDepth 20000 in
theorem gX4_hashRow_X4_hashBlock : GoodIn wsX4_hashRow (wsV RX4 139 RX4 yX4_hashBlock wsX4_hashBlock) := goodIn_app (goodIn_of _ (by decide +kernel)) ggX4_hashRow_X4_hashBlock
theorem dX4_hashRow_0 : decode cX4_hashRow 0 = .ok (.bipush 8, 2) := by decide +kernel
theorem dX4_hashRow_2 : decode cX4_hashRow 2 = .ok (.aload_n 0, 1) := by decide +kernel
theorem dX4_hashRow_3 : decode cX4_hashRow 3 = .ok (.getfield 132, 3) := by decide +kernel
theorem dX4_hashRow_6 : decode cX4_hashRow 6 = .ok (.imul, 1) := by decide +kernel
theorem dX4_hashRow_7 : decode cX4_hashRow 7 = .ok (.istore_n 1, 1) := by decide +kernel
theorem dX4_hashRow_8 : decode cX4_hashRow 8 = .ok (.aload_n 0, 1) := by decide +kernel
theorem dX4_hashRow_9 : decode cX4_hashRow 9 = .ok (.sipush 128, 3) := by decide +kernel
theorem dX4_hashRow_12 : decode cX4_hashRow 12 = .ok (.invokevirtual 135, 3) := by decide +kernel
theorem dX4_hashRow_15 : decode cX4_hashRow 15 = .ok (.aload_n 0, 1) := by decide +kernel
theorem dX4_hashRow_16 : decode cX4_hashRow 16 = .ok (.getfield 132, 3) := by decide +kernel
theorem dX4_hashRow_19 : decode cX4_hashRow 19 = .ok (.bipush 64, 2) := by decide +kernel
theorem dX4_hashRow_21 : decode cX4_hashRow 21 = .ok (.irem, 1) := by decide +kernel
theorem dX4_hashRow_22 : decode cX4_hashRow 22 = .ok (.bipush 56, 2) := by decide +kernel
theorem dX4_hashRow_24 : decode cX4_hashRow 24 = .ok (.if_icmp .eq 11, 3) := by decide +kernel
theorem dX4_hashRow_27 : decode cX4_hashRow 27 = .ok (.aload_n 0, 1) := by decide +kernel
theorem dX4_hashRow_28 : decode cX4_hashRow 28 = .ok (.iconst 0, 1) := by decide +kernel
theorem dX4_hashRow_29 : decode cX4_hashRow 29 = .ok (.invokevirtual 135, 3) := by decide +kernel
theorem dX4_hashRow_32 : decode cX4_hashRow 32 = .ok (.goto (-17), 3) := by decide +kernel
theorem dX4_hashRow_35 : decode cX4_hashRow 35 = .ok (.iconst 0, 1) := by decide +kernel
theorem dX4_hashRow_36 : decode cX4_hashRow 36 = .ok (.istore_n 2, 1) := by decide +kernel
theorem dX4_hashRow_37 : decode cX4_hashRow 37 = .ok (.iload_n 2, 1) := by decide +kernel
theorem dX4_hashRow_38 : decode cX4_hashRow 38 = .ok (.bipush 8, 2) := by decide +kernel
theorem dX4_hashRow_40 : decode cX4_hashRow 40 = .ok (.if_icmp .ge 31, 3) := by decide +kernel
theorem dX4_hashRow_43 : decode cX4_hashRow 43 = .ok (.aload_n 0, 1) := by decide +kernel
theorem dX4_hashRow_44 : decode cX4_hashRow 44 = .ok (.iload_n 2, 1) := by decide +kernel
theorem dX4_hashRow_45 : decode cX4_hashRow 45 = .ok (.iconst 4, 1) := by decide +kernel
theorem dX4_hashRow_46 : decode cX4_hashRow 46 = .ok (.if_icmp .ge 7, 3) := by decide +kernel
theorem dX4_hashRow_49 : decode cX4_hashRow 49 = .ok (.iconst 0, 1) := by decide +kernel
theorem dX4_hashRow_50 : decode cX4_hashRow 50 = .ok (.goto 12, 3) := by decide +kernel
theorem dX4_hashRow_53 : decode cX4_hashRow 53 = .ok (.iload_n 1, 1) := by decide +kernel
theorem dX4_hashRow_54 : decode cX4_hashRow 54 = .ok (.bipush 56, 2) := by decide +kernel
theorem dX4_hashRow_56 : decode cX4_hashRow 56 = .ok (.bipush 8, 2) := by decide +kernel
theorem dX4_hashRow_58 : decode cX4_hashRow 58 = .ok (.iload_n 2, 1) := by decide +kernel
theorem dX4_hashRow_59 : decode cX4_hashRow 59 = .ok (.imul, 1) := by decide +kernel
theorem dX4_hashRow_60 : decode cX4_hashRow 60 = .ok (.isub, 1) := by decide +kernel
theorem dX4_hashRow_61 : decode cX4_hashRow 61 = .ok (.ishr, 1) := by decide +kernel
theorem dX4_hashRow_62 : decode cX4_hashRow 62 = .ok (.invokevirtual 135, 3) := by decide +kernel
theorem dX4_hashRow_65 : decode cX4_hashRow 65 = .ok (.iinc 2 1, 3) := by decide +kernel
theorem dX4_hashRow_68 : decode cX4_hashRow 68 = .ok (.goto (-31), 3) := by decide +kernel
theorem dX4_hashRow_71 : decode cX4_hashRow 71 = .ok (.iconst 0, 1) := by decide +kernel
theorem dX4_hashRow_72 : decode cX4_hashRow 72 = .ok (.istore_n 2, 1) := by decide +kernel
theorem dX4_hashRow_73 : decode cX4_hashRow 73 = .ok (.iload_n 2, 1) := by decide +kernel
theorem dX4_hashRow_74 : decode cX4_hashRow 74 = .ok (.bipush 8, 2) := by decide +kernel
theorem dX4_hashRow_76 : decode cX4_hashRow 76 = .ok (.if_icmp .ge 21, 3) := by decide +kernel
theorem dX4_hashRow_79 : decode cX4_hashRow 79 = .ok (.aload_n 0, 1) := by decide +kernel
theorem dX4_hashRow_80 : decode cX4_hashRow 80 = .ok (.getfield 88, 3) := by decide +kernel
theorem dX4_hashRow_83 : decode cX4_hashRow 83 = .ok (.iload_n 2, 1) := by decide +kernel
theorem dX4_hashRow_84 : decode cX4_hashRow 84 = .ok (.aload_n 0, 1) := by decide +kernel
theorem dX4_hashRow_85 : decode cX4_hashRow 85 = .ok (.getfield 85, 3) := by decide +kernel
theorem dX4_hashRow_88 : decode cX4_hashRow 88 = .ok (.iload_n 2, 1) := by decide +kernel
theorem dX4_hashRow_89 : decode cX4_hashRow 89 = .ok (.iaload, 1) := by decide +kernel
theorem dX4_hashRow_90 : decode cX4_hashRow 90 = .ok (.iastore, 1) := by decide +kernel
theorem dX4_hashRow_91 : decode cX4_hashRow 91 = .ok (.iinc 2 1, 3) := by decide +kernel
theorem dX4_hashRow_94 : decode cX4_hashRow 94 = .ok (.goto (-21), 3) := by decide +kernel
theorem dX4_hashRow_97 : decode cX4_hashRow 97 = .ok (.iconst 0, 1) := by decide +kernel
theorem dX4_hashRow_98 : decode cX4_hashRow 98 = .ok (.istore_n 2, 1) := by decide +kernel
theorem dX4_hashRow_99 : decode cX4_hashRow 99 = .ok (.iload_n 2, 1) := by decide +kernel
theorem dX4_hashRow_100 : decode cX4_hashRow 100 = .ok (.aload_n 0, 1) := by decide +kernel
theorem dX4_hashRow_101 : decode cX4_hashRow 101 = .ok (.getfield 132, 3) := by decide +kernel
theorem dX4_hashRow_104 : decode cX4_hashRow 104 = .ok (.if_icmp .ge 14, 3) := by decide +kernel
theorem dX4_hashRow_107 : decode cX4_hashRow 107 = .ok (.aload_n 0, 1) := by decide +kernel
theorem dX4_hashRow_108 : decode cX4_hashRow 108 = .ok (.iload_n 2, 1) := by decide +kernel
theorem dX4_hashRow_109 : decode cX4_hashRow 109 = .ok (.invokevirtual 139, 3) := by decide +kernel
theorem dX4_hashRow_112 : decode cX4_hashRow 112 = .ok (.iinc 2 64, 3) := by decide +kernel
theorem dX4_hashRow_115 : decode cX4_hashRow 115 = .ok (.goto (-16), 3) := by decide +kernel
theorem dX4_hashRow_118 : decode cX4_hashRow 118 = .ok (.iconst 0, 1) := by decide +kernel
theorem dX4_hashRow_119 : decode cX4_hashRow 119 = .ok (.istore_n 2, 1) := by decide +kernel
theorem dX4_hashRow_120 : decode cX4_hashRow 120 = .ok (.iload_n 2, 1) := by decide +kernel
theorem dX4_hashRow_121 : decode cX4_hashRow 121 = .ok (.bipush 32, 2) := by decide +kernel
theorem dX4_hashRow_123 : decode cX4_hashRow 123 = .ok (.if_icmp .ge 37, 3) := by decide +kernel
theorem dX4_hashRow_126 : decode cX4_hashRow 126 = .ok (.aload_n 0, 1) := by decide +kernel
theorem dX4_hashRow_127 : decode cX4_hashRow 127 = .ok (.getfield 97, 3) := by decide +kernel
theorem dX4_hashRow_130 : decode cX4_hashRow 130 = .ok (.iload_n 2, 1) := by decide +kernel
theorem dX4_hashRow_131 : decode cX4_hashRow 131 = .ok (.aload_n 0, 1) := by decide +kernel
theorem dX4_hashRow_132 : decode cX4_hashRow 132 = .ok (.getfield 88, 3) := by decide +kernel
theorem dX4_hashRow_135 : decode cX4_hashRow 135 = .ok (.iload_n 2, 1) := by decide +kernel
theorem dX4_hashRow_136 : decode cX4_hashRow 136 = .ok (.iconst 4, 1) := by decide +kernel
theorem dX4_hashRow_137 : decode cX4_hashRow 137 = .ok (.idiv, 1) := by decide +kernel
theorem dX4_hashRow_138 : decode cX4_hashRow 138 = .ok (.iaload, 1) := by decide +kernel
theorem dX4_hashRow_139 : decode cX4_hashRow 139 = .ok (.bipush 24, 2) := by decide +kernel
theorem dX4_hashRow_141 : decode cX4_hashRow 141 = .ok (.bipush 8, 2) := by decide +kernel
theorem dX4_hashRow_143 : decode cX4_hashRow 143 = .ok (.iload_n 2, 1) := by decide +kernel
theorem dX4_hashRow_144 : decode cX4_hashRow 144 = .ok (.iconst 4, 1) := by decide +kernel
theorem dX4_hashRow_145 : decode cX4_hashRow 145 = .ok (.irem, 1) := by decide +kernel
theorem dX4_hashRow_146 : decode cX4_hashRow 146 = .ok (.imul, 1) := by decide +kernel
theorem dX4_hashRow_147 : decode cX4_hashRow 147 = .ok (.isub, 1) := by decide +kernel
theorem dX4_hashRow_148 : decode cX4_hashRow 148 = .ok (.ishr, 1) := by decide +kernel
theorem dX4_hashRow_149 : decode cX4_hashRow 149 = .ok (.sipush 255, 3) := by decide +kernel
theorem dX4_hashRow_152 : decode cX4_hashRow 152 = .ok (.iand, 1) := by decide +kernel
theorem dX4_hashRow_153 : decode cX4_hashRow 153 = .ok (.iastore, 1) := by decide +kernel
theorem dX4_hashRow_154 : decode cX4_hashRow 154 = .ok (.iinc 2 1, 3) := by decide +kernel
theorem dX4_hashRow_157 : decode cX4_hashRow 157 = .ok (.goto (-37), 3) := by decide +kernel
theorem dX4_hashRow_160 : decode cX4_hashRow 160 = .ok (.aload_n 0, 1) := by decide +kernel
theorem dX4_hashRow_161 : decode cX4_hashRow 161 = .ok (.iconst 0, 1) := by decide +kernel
theorem dX4_hashRow_162 : decode cX4_hashRow 162 = .ok (.putfield 132, 3) := by decide +kernel
theorem dX4_hashRow_165 : decode cX4_hashRow 165 = .ok (.return_, 1) := by decide +kernel
theorem dX4_put_0 : decode cX4_put 0 = .ok (.aload_n 0, 1) := by decide +kernel
theorem dX4_put_1 : decode cX4_put 1 = .ok (.getfield 94, 3) := by decide +kernel
theorem dX4_put_4 : decode cX4_put 4 = .ok (.aload_n 0, 1) := by decide +kernel
theorem dX4_put_5 : decode cX4_put 5 = .ok (.getfield 132, 3) := by decide +kernel
theorem dX4_put_8 : decode cX4_put 8 = .ok (.iload_n 1, 1) := by decide +kernel
theorem dX4_put_9 : decode cX4_put 9 = .ok (.sipush 255, 3) := by decide +kernel
theorem dX4_put_12 : decode cX4_put 12 = .ok (.iand, 1) := by decide +kernel
theorem dX4_put_13 : decode cX4_put 13 = .ok (.iastore, 1) := by decide +kernel
theorem dX4_put_14 : decode cX4_put 14 = .ok (.aload_n 0, 1) := by decide +kernel
theorem dX4_put_15 : decode cX4_put 15 = .ok (.dup, 1) := by decide +kernel
theorem dX4_put_16 : decode cX4_put 16 = .ok (.getfield 132, 3) := by decide +kernel
theorem dX4_put_19 : decode cX4_put 19 = .ok (.iconst 1, 1) := by decide +kernel
theorem dX4_put_20 : decode cX4_put 20 = .ok (.iadd, 1) := by decide +kernel
theorem dX4_put_21 : decode cX4_put 21 = .ok (.putfield 132, 3) := by decide +kernel
theorem dX4_put_24 : decode cX4_put 24 = .ok (.return_, 1) := by decide +kernel
set_option maxRecDepth 20000 in
theorem ggX4_putPad_X4_put : GoodIn wsX4_putPad wsX4_put := goodIn_r _ [6, 7, 8, 9, 10, 11, 12, 13, 14, 15, 16, 17, 18, 19, 20, 21, 22, 23, 24, 25, 26, 27, 28, 29, 30] (by decide +kernel) (by decide +kernel)
set_option maxRecDepth 20000 in
theorem gX4_putPad_X4_put : GoodIn wsX4_putPad (wsV RX4 135 RX4 yX4_put wsX4_put) := goodIn_app (goodIn_of _ (by decide +kernel)) ggX4_putPad_X4_put
theorem dX4_putPad_0 : decode cX4_putPad 0 = .ok (.iconst 0, 1) := by decide +kernel
theorem dX4_putPad_1 : decode cX4_putPad 1 = .ok (.istore_n 2, 1) := by decide +kernel
theorem dX4_putPad_2 : decode cX4_putPad 2 = .ok (.iload_n 2, 1) := by decide +kernel
theorem dX4_putPad_3 : decode cX4_putPad 3 = .ok (.bipush 64, 2) := by decide +kernel
theorem dX4_putPad_5 : decode cX4_putPad 5 = .ok (.if_icmp .ge 21, 3) := by decide +kernel
theorem dX4_putPad_8 : decode cX4_putPad 8 = .ok (.aload_n 0, 1) := by decide +kernel
theorem dX4_putPad_9 : decode cX4_putPad 9 = .ok (.aload_n 0, 1) := by decide +kernel
theorem dX4_putPad_10 : decode cX4_putPad 10 = .ok (.getfield 100, 3) := by decide +kernel
theorem dX4_putPad_13 : decode cX4_putPad 13 = .ok (.iload_n 2, 1) := by decide +kernel
theorem dX4_putPad_14 : decode cX4_putPad 14 = .ok (.iaload, 1) := by decide +kernel
theorem dX4_putPad_15 : decode cX4_putPad 15 = .ok (.iload_n 1, 1) := by decide +kernel
theorem dX4_putPad_16 : decode cX4_putPad 16 = .ok (.ixor, 1) := by decide +kernel
theorem dX4_putPad_17 : decode cX4_putPad 17 = .ok (.invokevirtual 135, 3) := by decide +kernel
theorem dX4_putPad_20 : decode cX4_putPad 20 = .ok (.iinc 2 1, 3) := by decide +kernel
theorem dX4_putPad_23 : decode cX4_putPad 23 = .ok (.goto (-21), 3) := by decide +kernel
theorem dX4_putPad_26 : decode cX4_putPad 26 = .ok (.return_, 1) := by decide +kernel
set_option maxRecDepth 20000 in
theorem ggX4_finishKeyed_X4_hashRow : GoodIn wsX4_finishKeyed wsX4_hashRow := goodIn_r _ [6, 7, 8, 9, 1, 10, 11, 12, 5, 13, 14, 15, 16, 17, 18, 19, 20, 21, 22, 23, 29, 30, 31, 32, 33, 34, 35, 36, 37, 38, 39, 40, 41, 42, 43, 44, 45, 46, 47, 48, 49, 50] (by decide +kernel) (by decide +kernel)
set_option maxRecDepth 20000 in
theorem gX4_finishKeyed_X4_hashRow : GoodIn wsX4_finishKeyed (wsV RX4 142 RX4 yX4_hashRow wsX4_hashRow) := goodIn_app (goodIn_of _ (by decide +kernel)) ggX4_finishKeyed_X4_hashRow
set_option maxRecDepth 20000 in
theorem ggX4_finishKeyed_X4_putPad : GoodIn wsX4_finishKeyed wsX4_putPad := goodIn_r _ [27, 28, 10, 11, 12, 5, 13, 14, 7, 29, 30, 31, 32, 33, 34, 35, 36, 37, 38, 39, 40, 41, 42, 43, 44, 45, 46, 47, 48, 49, 50] (by decide +kernel) (by decide +kernel)
set_option maxRecDepth 20000 in
theorem gX4_finishKeyed_X4_putPad : GoodIn wsX4_finishKeyed (wsV RX4 145 RX4 yX4_putPad wsX4_putPad) := goodIn_app (goodIn_of _ (by decide +kernel)) ggX4_finishKeyed_X4_putPad
set_option maxRecDepth 20000 in
theorem ggX4_finishKeyed_X4_put : GoodIn wsX4_finishKeyed wsX4_put := goodIn_r _ [13, 14, 7, 29, 30, 31, 32, 33, 34, 35, 36, 37, 38, 39, 40, 41, 42, 43, 44, 45, 46, 47, 48, 49, 50] (by decide +kernel) (by decide +kernel)
set_option maxRecDepth 20000 in
theorem gX4_finishKeyed_X4_put : GoodIn wsX4_finishKeyed (wsV RX4 135 RX4 yX4_put wsX4_put) := goodIn_app (goodIn_of _ (by decide +kernel)) ggX4_finishKeyed_X4_put
theorem dX4_finishKeyed_0 : decode cX4_finishKeyed 0 = .ok (.aload_n 0, 1) := by decide +kernel
theorem dX4_finishKeyed_1 : decode cX4_finishKeyed 1 = .ok (.invokevirtual 142, 3) := by decide +kernel
theorem dX4_finishKeyed_4 : decode cX4_finishKeyed 4 = .ok (.aload_n 0, 1) := by decide +kernel
theorem dX4_finishKeyed_5 : decode cX4_finishKeyed 5 = .ok (.bipush 92, 2) := by decide +kernel
theorem dX4_finishKeyed_7 : decode cX4_finishKeyed 7 = .ok (.invokevirtual 145, 3) := by decide +kernel
theorem dX4_finishKeyed_10 : decode cX4_finishKeyed 10 = .ok (.iconst 0, 1) := by decide +kernel
theorem dX4_finishKeyed_11 : decode cX4_finishKeyed 11 = .ok (.istore_n 1, 1) := by decide +kernel
theorem dX4_finishKeyed_12 : decode cX4_finishKeyed 12 = .ok (.iload_n 1, 1) := by decide +kernel
theorem dX4_finishKeyed_13 : decode cX4_finishKeyed 13 = .ok (.bipush 32, 2) := by decide +kernel
theorem dX4_finishKeyed_15 : decode cX4_finishKeyed 15 = .ok (.if_icmp .ge 19, 3) := by decide +kernel
theorem dX4_finishKeyed_18 : decode cX4_finishKeyed 18 = .ok (.aload_n 0, 1) := by decide +kernel
theorem dX4_finishKeyed_19 : decode cX4_finishKeyed 19 = .ok (.aload_n 0, 1) := by decide +kernel
theorem dX4_finishKeyed_20 : decode cX4_finishKeyed 20 = .ok (.getfield 97, 3) := by decide +kernel
theorem dX4_finishKeyed_23 : decode cX4_finishKeyed 23 = .ok (.iload_n 1, 1) := by decide +kernel
theorem dX4_finishKeyed_24 : decode cX4_finishKeyed 24 = .ok (.iaload, 1) := by decide +kernel
theorem dX4_finishKeyed_25 : decode cX4_finishKeyed 25 = .ok (.invokevirtual 135, 3) := by decide +kernel
theorem dX4_finishKeyed_28 : decode cX4_finishKeyed 28 = .ok (.iinc 1 1, 3) := by decide +kernel
theorem dX4_finishKeyed_31 : decode cX4_finishKeyed 31 = .ok (.goto (-19), 3) := by decide +kernel
theorem dX4_finishKeyed_34 : decode cX4_finishKeyed 34 = .ok (.aload_n 0, 1) := by decide +kernel
theorem dX4_finishKeyed_35 : decode cX4_finishKeyed 35 = .ok (.invokevirtual 142, 3) := by decide +kernel
theorem dX4_finishKeyed_38 : decode cX4_finishKeyed 38 = .ok (.return_, 1) := by decide +kernel
set_option maxRecDepth 20000 in
theorem ggX4_beginKeyed_X4_putPad : GoodIn wsX4_beginKeyed wsX4_putPad := goodIn_r _ [8, 1, 9, 10, 11, 7, 12, 13, 14, 15, 16, 17, 18, 19, 20, 21, 22, 23, 24, 25, 26, 27, 28, 29, 30, 31, 32, 33, 34, 35, 36] (by decide +kernel) (by decide +kernel)
set_option maxRecDepth 20000 in
theorem gX4_beginKeyed_X4_putPad : GoodIn wsX4_beginKeyed (wsV RX4 145 RX4 yX4_putPad wsX4_putPad) := goodIn_app (goodIn_of _ (by decide +kernel)) ggX4_beginKeyed_X4_putPad
set_option maxRecDepth 20000 in
theorem ggX4_beginKeyed_X4_put : GoodIn wsX4_beginKeyed wsX4_put := goodIn_r _ [12, 13, 14, 15, 16, 17, 18, 19, 20, 21, 22, 23, 24, 25, 26, 27, 28, 29, 30, 31, 32, 33, 34, 35, 36] (by decide +kernel) (by decide +kernel)
set_option maxRecDepth 20000 in
theorem gX4_beginKeyed_X4_put : GoodIn wsX4_beginKeyed (wsV RX4 135 RX4 yX4_put wsX4_put) := goodIn_app (goodIn_of _ (by decide +kernel)) ggX4_beginKeyed_X4_put
theorem dX4_beginKeyed_0 : decode cX4_beginKeyed 0 = .ok (.iconst 0, 1) := by decide +kernel
theorem dX4_beginKeyed_1 : decode cX4_beginKeyed 1 = .ok (.istore_n 1, 1) := by decide +kernel
theorem dX4_beginKeyed_2 : decode cX4_beginKeyed 2 = .ok (.iload_n 1, 1) := by decide +kernel
theorem dX4_beginKeyed_3 : decode cX4_beginKeyed 3 = .ok (.bipush 64, 2) := by decide +kernel
theorem dX4_beginKeyed_5 : decode cX4_beginKeyed 5 = .ok (.if_icmp .ge 31, 3) := by decide +kernel
theorem dX4_beginKeyed_8 : decode cX4_beginKeyed 8 = .ok (.aload_n 0, 1) := by decide +kernel
theorem dX4_beginKeyed_9 : decode cX4_beginKeyed 9 = .ok (.getfield 100, 3) := by decide +kernel
theorem dX4_beginKeyed_12 : decode cX4_beginKeyed 12 = .ok (.iload_n 1, 1) := by decide +kernel
theorem dX4_beginKeyed_13 : decode cX4_beginKeyed 13 = .ok (.iload_n 1, 1) := by decide +kernel
theorem dX4_beginKeyed_14 : decode cX4_beginKeyed 14 = .ok (.bipush 32, 2) := by decide +kernel
theorem dX4_beginKeyed_16 : decode cX4_beginKeyed 16 = .ok (.if_icmp .ge 12, 3) := by decide +kernel
theorem dX4_beginKeyed_19 : decode cX4_beginKeyed 19 = .ok (.aload_n 0, 1) := by decide +kernel
theorem dX4_beginKeyed_20 : decode cX4_beginKeyed 20 = .ok (.getfield 109, 3) := by decide +kernel
theorem dX4_beginKeyed_23 : decode cX4_beginKeyed 23 = .ok (.iload_n 1, 1) := by decide +kernel
theorem dX4_beginKeyed_24 : decode cX4_beginKeyed 24 = .ok (.iaload, 1) := by decide +kernel
theorem dX4_beginKeyed_25 : decode cX4_beginKeyed 25 = .ok (.goto 4, 3) := by decide +kernel
theorem dX4_beginKeyed_28 : decode cX4_beginKeyed 28 = .ok (.iconst 0, 1) := by decide +kernel
theorem dX4_beginKeyed_29 : decode cX4_beginKeyed 29 = .ok (.iastore, 1) := by decide +kernel
theorem dX4_beginKeyed_30 : decode cX4_beginKeyed 30 = .ok (.iinc 1 1, 3) := by decide +kernel
theorem dX4_beginKeyed_33 : decode cX4_beginKeyed 33 = .ok (.goto (-31), 3) := by decide +kernel
theorem dX4_beginKeyed_36 : decode cX4_beginKeyed 36 = .ok (.aload_n 0, 1) := by decide +kernel
theorem dX4_beginKeyed_37 : decode cX4_beginKeyed 37 = .ok (.bipush 54, 2) := by decide +kernel
theorem dX4_beginKeyed_39 : decode cX4_beginKeyed 39 = .ok (.invokevirtual 145, 3) := by decide +kernel
theorem dX4_beginKeyed_42 : decode cX4_beginKeyed 42 = .ok (.iconst 0, 1) := by decide +kernel
theorem dX4_beginKeyed_43 : decode cX4_beginKeyed 43 = .ok (.istore_n 1, 1) := by decide +kernel
theorem dX4_beginKeyed_44 : decode cX4_beginKeyed 44 = .ok (.iload_n 1, 1) := by decide +kernel
theorem dX4_beginKeyed_45 : decode cX4_beginKeyed 45 = .ok (.bipush 32, 2) := by decide +kernel
theorem dX4_beginKeyed_47 : decode cX4_beginKeyed 47 = .ok (.if_icmp .ge 19, 3) := by decide +kernel
theorem dX4_beginKeyed_50 : decode cX4_beginKeyed 50 = .ok (.aload_n 0, 1) := by decide +kernel
theorem dX4_beginKeyed_51 : decode cX4_beginKeyed 51 = .ok (.aload_n 0, 1) := by decide +kernel
theorem dX4_beginKeyed_52 : decode cX4_beginKeyed 52 = .ok (.getfield 112, 3) := by decide +kernel
theorem dX4_beginKeyed_55 : decode cX4_beginKeyed 55 = .ok (.iload_n 1, 1) := by decide +kernel
theorem dX4_beginKeyed_56 : decode cX4_beginKeyed 56 = .ok (.iaload, 1) := by decide +kernel
theorem dX4_beginKeyed_57 : decode cX4_beginKeyed 57 = .ok (.invokevirtual 135, 3) := by decide +kernel
theorem dX4_beginKeyed_60 : decode cX4_beginKeyed 60 = .ok (.iinc 1 1, 3) := by decide +kernel
theorem dX4_beginKeyed_63 : decode cX4_beginKeyed 63 = .ok (.goto (-19), 3) := by decide +kernel
theorem dX4_beginKeyed_66 : decode cX4_beginKeyed 66 = .ok (.return_, 1) := by decide +kernel
set_option maxRecDepth 20000 in
theorem ggX4_nextValue_X4_beginKeyed : GoodIn wsX4_nextValue wsX4_beginKeyed := goodIn_r _ [7, 8, 9, 1, 10, 11, 12, 6, 13, 14, 15, 16, 17, 18, 19, 39, 40, 41, 42, 43, 44, 45, 46, 47, 48, 49, 50, 51, 52, 53, 54, 55, 56, 57, 58, 59, 60] (by decide +kernel) (by decide +kernel)
set_option maxRecDepth 20000 in
theorem gX4_nextValue_X4_beginKeyed : GoodIn wsX4_nextValue (wsV RX4 148 RX4 yX4_beginKeyed wsX4_beginKeyed) := goodIn_app (goodIn_of _ (by decide +kernel)) ggX4_nextValue_X4_beginKeyed
set_option maxRecDepth 20000 in
theorem ggX4_nextValue_X4_finishKeyed : GoodIn wsX4_nextValue wsX4_finishKeyed := goodIn_r _ [23, 2, 24, 25, 26, 6, 27, 19, 28, 29, 14, 15, 16, 17, 18, 30, 31, 32, 33, 34, 35, 36, 37, 38, 10, 11, 12, 13, 8, 39, 40, 41, 42, 43, 44, 45, 46, 47, 48, 49, 50, 51, 52, 53, 54, 55, 56, 57, 58, 59, 60] (by decide +kernel) (by decide +kernel)
set_option maxRecDepth 20000 in
theorem gX4_nextValue_X4_finishKeyed : GoodIn wsX4_nextValue (wsV RX4 151 RX4 yX4_finishKeyed wsX4_finishKeyed) := goodIn_app (goodIn_of _ (by decide +kernel)) ggX4_nextValue_X4_finishKeyed
theorem dX4_nextValue_0 : decode cX4_nextValue 0 = .ok (.aload_n 0, 1) := by decide +kernel
theorem dX4_nextValue_1 : decode cX4_nextValue 1 = .ok (.invokevirtual 148, 3) := by decide +kernel
theorem dX4_nextValue_4 : decode cX4_nextValue 4 = .ok (.aload_n 0, 1) := by decide +kernel
theorem dX4_nextValue_5 : decode cX4_nextValue 5 = .ok (.invokevirtual 151, 3) := by decide +kernel
theorem dX4_nextValue_8 : decode cX4_nextValue 8 = .ok (.iconst 0, 1) := by decide +kernel
theorem dX4_nextValue_9 : decode cX4_nextValue 9 = .ok (.istore_n 1, 1) := by decide +kernel
theorem dX4_nextValue_10 : decode cX4_nextValue 10 = .ok (.iload_n 1, 1) := by decide +kernel
theorem dX4_nextValue_11 : decode cX4_nextValue 11 = .ok (.bipush 32, 2) := by decide +kernel
theorem dX4_nextValue_13 : decode cX4_nextValue 13 = .ok (.if_icmp .ge 21, 3) := by decide +kernel
theorem dX4_nextValue_16 : decode cX4_nextValue 16 = .ok (.aload_n 0, 1) := by decide +kernel
theorem dX4_nextValue_17 : decode cX4_nextValue 17 = .ok (.getfield 112, 3) := by decide +kernel
theorem dX4_nextValue_20 : decode cX4_nextValue 20 = .ok (.iload_n 1, 1) := by decide +kernel
theorem dX4_nextValue_21 : decode cX4_nextValue 21 = .ok (.aload_n 0, 1) := by decide +kernel
theorem dX4_nextValue_22 : decode cX4_nextValue 22 = .ok (.getfield 97, 3) := by decide +kernel
theorem dX4_nextValue_25 : decode cX4_nextValue 25 = .ok (.iload_n 1, 1) := by decide +kernel
theorem dX4_nextValue_26 : decode cX4_nextValue 26 = .ok (.iaload, 1) := by decide +kernel
theorem dX4_nextValue_27 : decode cX4_nextValue 27 = .ok (.iastore, 1) := by decide +kernel
theorem dX4_nextValue_28 : decode cX4_nextValue 28 = .ok (.iinc 1 1, 3) := by decide +kernel
theorem dX4_nextValue_31 : decode cX4_nextValue 31 = .ok (.goto (-21), 3) := by decide +kernel
theorem dX4_nextValue_34 : decode cX4_nextValue 34 = .ok (.return_, 1) := by decide +kernel
set_option maxRecDepth 20000 in
theorem ggX4_stir_X4_beginKeyed : GoodIn wsX4_stir wsX4_beginKeyed := goodIn_r _ [11, 12, 3, 6, 13, 14, 15, 10, 16, 17, 18, 19, 20, 21, 22, 46, 47, 48, 49, 50, 51, 52, 53, 54, 55, 56, 57, 58, 59, 60, 61, 62, 63, 64, 65, 66, 67] (by decide +kernel) (by decide +kernel)
set_option maxRecDepth 20000 in
theorem gX4_stir_X4_beginKeyed : GoodIn wsX4_stir (wsV RX4 148 RX4 yX4_beginKeyed wsX4_beginKeyed) := goodIn_app (goodIn_of _ (by decide +kernel)) ggX4_stir_X4_beginKeyed
set_option maxRecDepth 20000 in
theorem ggX4_stir_X4_put : GoodIn wsX4_stir wsX4_put := goodIn_r _ [20, 21, 22, 46, 47, 48, 49, 50, 51, 52, 53, 54, 55, 56, 57, 58, 59, 60, 61, 62, 63, 64, 65, 66, 67] (by decide +kernel) (by decide +kernel)
set_option maxRecDepth 20000 in
theorem gX4_stir_X4_put : GoodIn wsX4_stir (wsV RX4 135 RX4 yX4_put wsX4_put) := goodIn_app (goodIn_of _ (by decide +kernel)) ggX4_stir_X4_put
set_option maxRecDepth 20000 in
theorem ggX4_stir_X4_finishKeyed : GoodIn wsX4_stir wsX4_finishKeyed := goodIn_r _ [26, 4, 27, 28, 29, 10, 30, 22, 31, 32, 17, 18, 19, 20, 21, 33, 34, 35, 36, 37, 38, 39, 40, 41, 13, 14, 15, 16, 12, 46, 47, 48, 49, 50, 51, 52, 53, 54, 55, 56, 57, 58, 59, 60, 61, 62, 63, 64, 65, 66, 67] (by decide +kernel) (by decide +kernel)
set_option maxRecDepth 20000 in
theorem gX4_stir_X4_finishKeyed : GoodIn wsX4_stir (wsV RX4 151 RX4 yX4_finishKeyed wsX4_finishKeyed) := goodIn_app (goodIn_of _ (by decide +kernel)) ggX4_stir_X4_finishKeyed
set_option maxRecDepth 20000 in
theorem ggX4_stir_X4_nextValue : GoodIn wsX4_stir wsX4_nextValue := goodIn_r _ [45, 6, 4, 7, 8, 9, 10, 11, 12, 3, 13, 14, 15, 16, 17, 18, 19, 20, 21, 22, 23, 24, 25, 26, 27, 28, 29, 30, 31, 32, 33, 34, 35, 36, 37, 38, 39, 40, 41, 46, 47, 48, 49, 50, 51, 52, 53, 54, 55, 56, 57, 58, 59, 60, 61, 62, 63, 64, 65, 66, 67] (by decide +kernel) (by decide +kernel)
set_option maxRecDepth 20000 in
theorem gX4_stir_X4_nextValue : GoodIn wsX4_stir (wsV RX4 157 RX4 yX4_nextValue wsX4_nextValue) := goodIn_app (goodIn_of _ (by decide +kernel)) ggX4_stir_X4_nextValue
theorem dX4_stir_0 : decode cX4_stir 0 = .ok (.iconst 0, 1) := by decide +kernel
theorem dX4_stir_1 : decode cX4_stir 1 = .ok (.istore_n 1, 1) := by decide +kernel
theorem dX4_stir_2 : decode cX4_stir 2 = .ok (.iload_n 1, 1) := by decide +kernel
theorem dX4_stir_3 : decode cX4_stir 3 = .ok (.aload_n 0, 1) := by decide +kernel
theorem dX4_stir_4 : decode cX4_stir 4 = .ok (.getfield 154, 3) := by decide +kernel
theorem dX4_stir_7 : decode cX4_stir 7 = .ok (.ifCond .le 7, 3) := by decide +kernel
theorem dX4_stir_10 : decode cX4_stir 10 = .ok (.iconst 2, 1) := by decide +kernel
theorem dX4_stir_11 : decode cX4_stir 11 = .ok (.goto 4, 3) := by decide +kernel
theorem dX4_stir_14 : decode cX4_stir 14 = .ok (.iconst 1, 1) := by decide +kernel
theorem dX4_stir_15 : decode cX4_stir 15 = .ok (.if_icmp .ge 78, 3) := by decide +kernel
theorem dX4_stir_18 : decode cX4_stir 18 = .ok (.aload_n 0, 1) := by decide +kernel
theorem dX4_stir_19 : decode cX4_stir 19 = .ok (.invokevirtual 148, 3) := by decide +kernel
theorem dX4_stir_22 : decode cX4_stir 22 = .ok (.aload_n 0, 1) := by decide +kernel
theorem dX4_stir_23 : decode cX4_stir 23 = .ok (.iload_n 1, 1) := by decide +kernel
theorem dX4_stir_24 : decode cX4_stir 24 = .ok (.invokevirtual 135, 3) := by decide +kernel
theorem dX4_stir_27 : decode cX4_stir 27 = .ok (.iconst 0, 1) := by decide +kernel
theorem dX4_stir_28 : decode cX4_stir 28 = .ok (.istore_n 2, 1) := by decide +kernel
theorem dX4_stir_29 : decode cX4_stir 29 = .ok (.iload_n 2, 1) := by decide +kernel
theorem dX4_stir_30 : decode cX4_stir 30 = .ok (.aload_n 0, 1) := by decide +kernel
theorem dX4_stir_31 : decode cX4_stir 31 = .ok (.getfield 154, 3) := by decide +kernel
theorem dX4_stir_34 : decode cX4_stir 34 = .ok (.if_icmp .ge 19, 3) := by decide +kernel
theorem dX4_stir_37 : decode cX4_stir 37 = .ok (.aload_n 0, 1) := by decide +kernel
theorem dX4_stir_38 : decode cX4_stir 38 = .ok (.aload_n 0, 1) := by decide +kernel
theorem dX4_stir_39 : decode cX4_stir 39 = .ok (.getfield 103, 3) := by decide +kernel
theorem dX4_stir_42 : decode cX4_stir 42 = .ok (.iload_n 2, 1) := by decide +kernel
theorem dX4_stir_43 : decode cX4_stir 43 = .ok (.iaload, 1) := by decide +kernel
theorem dX4_stir_44 : decode cX4_stir 44 = .ok (.invokevirtual 135, 3) := by decide +kernel
theorem dX4_stir_47 : decode cX4_stir 47 = .ok (.iinc 2 1, 3) := by decide +kernel
theorem dX4_stir_50 : decode cX4_stir 50 = .ok (.goto (-21), 3) := by decide +kernel
theorem dX4_stir_53 : decode cX4_stir 53 = .ok (.aload_n 0, 1) := by decide +kernel
theorem dX4_stir_54 : decode cX4_stir 54 = .ok (.invokevirtual 151, 3) := by decide +kernel
theorem dX4_stir_57 : decode cX4_stir 57 = .ok (.iconst 0, 1) := by decide +kernel
theorem dX4_stir_58 : decode cX4_stir 58 = .ok (.istore_n 2, 1) := by decide +kernel
theorem dX4_stir_59 : decode cX4_stir 59 = .ok (.iload_n 2, 1) := by decide +kernel
theorem dX4_stir_60 : decode cX4_stir 60 = .ok (.bipush 32, 2) := by decide +kernel
theorem dX4_stir_62 : decode cX4_stir 62 = .ok (.if_icmp .ge 21, 3) := by decide +kernel
theorem dX4_stir_65 : decode cX4_stir 65 = .ok (.aload_n 0, 1) := by decide +kernel
theorem dX4_stir_66 : decode cX4_stir 66 = .ok (.getfield 109, 3) := by decide +kernel
theorem dX4_stir_69 : decode cX4_stir 69 = .ok (.iload_n 2, 1) := by decide +kernel
theorem dX4_stir_70 : decode cX4_stir 70 = .ok (.aload_n 0, 1) := by decide +kernel
theorem dX4_stir_71 : decode cX4_stir 71 = .ok (.getfield 97, 3) := by decide +kernel
theorem dX4_stir_74 : decode cX4_stir 74 = .ok (.iload_n 2, 1) := by decide +kernel
theorem dX4_stir_75 : decode cX4_stir 75 = .ok (.iaload, 1) := by decide +kernel
theorem dX4_stir_76 : decode cX4_stir 76 = .ok (.iastore, 1) := by decide +kernel
theorem dX4_stir_77 : decode cX4_stir 77 = .ok (.iinc 2 1, 3) := by decide +kernel
theorem dX4_stir_80 : decode cX4_stir 80 = .ok (.goto (-21), 3) := by decide +kernel
theorem dX4_stir_83 : decode cX4_stir 83 = .ok (.aload_n 0, 1) := by decide +kernel
theorem dX4_stir_84 : decode cX4_stir 84 = .ok (.invokevirtual 157, 3) := by decide +kernel
theorem dX4_stir_87 : decode cX4_stir 87 = .ok (.iinc 1 1, 3) := by decide +kernel
theorem dX4_stir_90 : decode cX4_stir 90 = .ok (.goto (-88), 3) := by decide +kernel
theorem dX4_stir_93 : decode cX4_stir 93 = .ok (.iconst 0, 1) := by decide +kernel
theorem dX4_stir_94 : decode cX4_stir 94 = .ok (.istore_n 1, 1) := by decide +kernel
theorem dX4_stir_95 : decode cX4_stir 95 = .ok (.iload_n 1, 1) := by decide +kernel
theorem dX4_stir_96 : decode cX4_stir 96 = .ok (.bipush 32, 2) := by decide +kernel
theorem dX4_stir_98 : decode cX4_stir 98 = .ok (.if_icmp .ge 21, 3) := by decide +kernel
theorem dX4_stir_101 : decode cX4_stir 101 = .ok (.aload_n 0, 1) := by decide +kernel
theorem dX4_stir_102 : decode cX4_stir 102 = .ok (.getfield 115, 3) := by decide +kernel
theorem dX4_stir_105 : decode cX4_stir 105 = .ok (.iload_n 1, 1) := by decide +kernel
theorem dX4_stir_106 : decode cX4_stir 106 = .ok (.aload_n 0, 1) := by decide +kernel
theorem dX4_stir_107 : decode cX4_stir 107 = .ok (.getfield 112, 3) := by decide +kernel
theorem dX4_stir_110 : decode cX4_stir 110 = .ok (.iload_n 1, 1) := by decide +kernel
theorem dX4_stir_111 : decode cX4_stir 111 = .ok (.iaload, 1) := by decide +kernel
theorem dX4_stir_112 : decode cX4_stir 112 = .ok (.iastore, 1) := by decide +kernel
theorem dX4_stir_113 : decode cX4_stir 113 = .ok (.iinc 1 1, 3) := by decide +kernel
theorem dX4_stir_116 : decode cX4_stir 116 = .ok (.goto (-21), 3) := by decide +kernel
theorem dX4_stir_119 : decode cX4_stir 119 = .ok (.return_, 1) := by decide +kernel
theorem dX4_feed_0 : decode cX4_feed 0 = .ok (.iload_n 3, 1) := by decide +kernel
theorem dX4_feed_1 : decode cX4_feed 1 = .ok (.iconst 1, 1) := by decide +kernel
theorem dX4_feed_2 : decode cX4_feed 2 = .ok (.if_icmp .lt 21, 3) := by decide +kernel
theorem dX4_feed_5 : decode cX4_feed 5 = .ok (.iload_n 3, 1) := by decide +kernel
theorem dX4_feed_6 : decode cX4_feed 6 = .ok (.bipush 8, 2) := by decide +kernel
theorem dX4_feed_8 : decode cX4_feed 8 = .ok (.if_icmp .gt 15, 3) := by decide +kernel
theorem dX4_feed_11 : decode cX4_feed 11 = .ok (.aload_n 0, 1) := by decide +kernel
theorem dX4_feed_12 : decode cX4_feed 12 = .ok (.getfield 154, 3) := by decide +kernel
theorem dX4_feed_15 : decode cX4_feed 15 = .ok (.iload_n 3, 1) := by decide +kernel
theorem dX4_feed_16 : decode cX4_feed 16 = .ok (.iadd, 1) := by decide +kernel
theorem dX4_feed_17 : decode cX4_feed 17 = .ok (.sipush 300, 3) := by decide +kernel
theorem dX4_feed_20 : decode cX4_feed 20 = .ok (.if_icmp .le 5, 3) := by decide +kernel
theorem dX4_feed_23 : decode cX4_feed 23 = .ok (.iconst (-1), 1) := by decide +kernel
theorem dX4_feed_24 : decode cX4_feed 24 = .ok (.ireturn, 1) := by decide +kernel
theorem dX4_feed_25 : decode cX4_feed 25 = .ok (.iload_n 3, 1) := by decide +kernel
theorem dX4_feed_26 : decode cX4_feed 26 = .ok (.iconst 1, 1) := by decide +kernel
theorem dX4_feed_27 : decode cX4_feed 27 = .ok (.isub, 1) := by decide +kernel
theorem dX4_feed_28 : decode cX4_feed 28 = .ok (.istore 4, 2) := by decide +kernel
theorem dX4_feed_30 : decode cX4_feed 30 = .ok (.iload 4, 2) := by decide +kernel
theorem dX4_feed_32 : decode cX4_feed 32 = .ok (.ifCond .lt 40, 3) := by decide +kernel
theorem dX4_feed_35 : decode cX4_feed 35 = .ok (.aload_n 0, 1) := by decide +kernel
theorem dX4_feed_36 : decode cX4_feed 36 = .ok (.getfield 103, 3) := by decide +kernel
theorem dX4_feed_39 : decode cX4_feed 39 = .ok (.aload_n 0, 1) := by decide +kernel
theorem dX4_feed_40 : decode cX4_feed 40 = .ok (.getfield 154, 3) := by decide +kernel
theorem dX4_feed_43 : decode cX4_feed 43 = .ok (.lload_n 1, 1) := by decide +kernel
theorem dX4_feed_44 : decode cX4_feed 44 = .ok (.bipush 8, 2) := by decide +kernel
theorem dX4_feed_46 : decode cX4_feed 46 = .ok (.iload 4, 2) := by decide +kernel
theorem dX4_feed_48 : decode cX4_feed 48 = .ok (.imul, 1) := by decide +kernel
theorem dX4_feed_49 : decode cX4_feed 49 = .ok (.lshr, 1) := by decide +kernel
theorem dX4_feed_50 : decode cX4_feed 50 = .ok (.ldc2_w 160, 3) := by decide +kernel
theorem dX4_feed_53 : decode cX4_feed 53 = .ok (.land, 1) := by decide +kernel
theorem dX4_feed_54 : decode cX4_feed 54 = .ok (.l2i, 1) := by decide +kernel
theorem dX4_feed_55 : decode cX4_feed 55 = .ok (.iastore, 1) := by decide +kernel
theorem dX4_feed_56 : decode cX4_feed 56 = .ok (.aload_n 0, 1) := by decide +kernel
theorem dX4_feed_57 : decode cX4_feed 57 = .ok (.dup, 1) := by decide +kernel
theorem dX4_feed_58 : decode cX4_feed 58 = .ok (.getfield 154, 3) := by decide +kernel
theorem dX4_feed_61 : decode cX4_feed 61 = .ok (.iconst 1, 1) := by decide +kernel
theorem dX4_feed_62 : decode cX4_feed 62 = .ok (.iadd, 1) := by decide +kernel
theorem dX4_feed_63 : decode cX4_feed 63 = .ok (.putfield 154, 3) := by decide +kernel
theorem dX4_feed_66 : decode cX4_feed 66 = .ok (.iinc 4 (-1), 3) := by decide +kernel
theorem dX4_feed_69 : decode cX4_feed 69 = .ok (.goto (-39), 3) := by decide +kernel
theorem dX4_feed_72 : decode cX4_feed 72 = .ok (.aload_n 0, 1) := by decide +kernel
theorem dX4_feed_73 : decode cX4_feed 73 = .ok (.getfield 154, 3) := by decide +kernel
theorem dX4_feed_76 : decode cX4_feed 76 = .ok (.ireturn, 1) := by decide +kernel
theorem dX4_clear_0 : decode cX4_clear 0 = .ok (.aload_n 0, 1) := by decide +kernel
theorem dX4_clear_1 : decode cX4_clear 1 = .ok (.getfield 154, 3) := by decide +kernel
theorem dX4_clear_4 : decode cX4_clear 4 = .ok (.istore_n 1, 1) := by decide +kernel
theorem dX4_clear_5 : decode cX4_clear 5 = .ok (.aload_n 0, 1) := by decide +kernel
theorem dX4_clear_6 : decode cX4_clear 6 = .ok (.iconst 0, 1) := by decide +kernel
theorem dX4_clear_7 : decode cX4_clear 7 = .ok (.putfield 154, 3) := by decide +kernel
theorem dX4_clear_10 : decode cX4_clear 10 = .ok (.iload_n 1, 1) := by decide +kernel
theorem dX4_clear_11 : decode cX4_clear 11 = .ok (.ireturn, 1) := by decide +kernel
set_option maxRecDepth 20000 in
theorem ggX4_seed_X4_stir : GoodIn wsX4_seed wsX4_stir := goodIn_r _ [10, 1, 11, 2, 12, 13, 3, 14, 15, 16, 9, 17, 18, 19, 20, 21, 22, 23, 24, 25, 26, 27, 28, 29, 30, 31, 32, 33, 34, 35, 36, 37, 38, 39, 40, 41, 42, 43, 44, 45, 46, 47, 48, 49, 50, 51, 52, 53, 54, 55, 56, 57, 58, 59, 60, 61, 62, 63, 64, 65, 66, 67, 68, 69, 70, 71, 72, 73] (by decide +kernel) (by decide +kernel)
set_option maxRecDepth 20000 in
theorem gX4_seed_X4_stir : GoodIn wsX4_seed (wsV RX4 162 RX4 yX4_stir wsX4_stir) := goodIn_app (goodIn_of _ (by decide +kernel)) ggX4_seed_X4_stir
theorem dX4_seed_0 : decode cX4_seed 0 = .ok (.aload_n 0, 1) := by decide +kernel
theorem dX4_seed_1 : decode cX4_seed 1 = .ok (.getfield 154, 3) := by decide +kernel
theorem dX4_seed_4 : decode cX4_seed 4 = .ok (.ifCond .ne 5, 3) := by decide +kernel
theorem dX4_seed_7 : decode cX4_seed 7 = .ok (.iconst 0, 1) := by decide +kernel
theorem dX4_seed_8 : decode cX4_seed 8 = .ok (.ireturn, 1) := by decide +kernel
theorem dX4_seed_9 : decode cX4_seed 9 = .ok (.iconst 0, 1) := by decide +kernel
theorem dX4_seed_10 : decode cX4_seed 10 = .ok (.istore_n 1, 1) := by decide +kernel
theorem dX4_seed_11 : decode cX4_seed 11 = .ok (.iload_n 1, 1) := by decide +kernel
theorem dX4_seed_12 : decode cX4_seed 12 = .ok (.bipush 32, 2) := by decide +kernel
theorem dX4_seed_14 : decode cX4_seed 14 = .ok (.if_icmp .ge 23, 3) := by decide +kernel
theorem dX4_seed_17 : decode cX4_seed 17 = .ok (.aload_n 0, 1) := by decide +kernel
theorem dX4_seed_18 : decode cX4_seed 18 = .ok (.getfield 109, 3) := by decide +kernel
theorem dX4_seed_21 : decode cX4_seed 21 = .ok (.iload_n 1, 1) := by decide +kernel
theorem dX4_seed_22 : decode cX4_seed 22 = .ok (.iconst 0, 1) := by decide +kernel
theorem dX4_seed_23 : decode cX4_seed 23 = .ok (.iastore, 1) := by decide +kernel
theorem dX4_seed_24 : decode cX4_seed 24 = .ok (.aload_n 0, 1) := by decide +kernel
theorem dX4_seed_25 : decode cX4_seed 25 = .ok (.getfield 112, 3) := by decide +kernel
theorem dX4_seed_28 : decode cX4_seed 28 = .ok (.iload_n 1, 1) := by decide +kernel
theorem dX4_seed_29 : decode cX4_seed 29 = .ok (.iconst 1, 1) := by decide +kernel
theorem dX4_seed_30 : decode cX4_seed 30 = .ok (.iastore, 1) := by decide +kernel
theorem dX4_seed_31 : decode cX4_seed 31 = .ok (.iinc 1 1, 3) := by decide +kernel
theorem dX4_seed_34 : decode cX4_seed 34 = .ok (.goto (-23), 3) := by decide +kernel
theorem dX4_seed_37 : decode cX4_seed 37 = .ok (.aload_n 0, 1) := by decide +kernel
theorem dX4_seed_38 : decode cX4_seed 38 = .ok (.invokevirtual 162, 3) := by decide +kernel
theorem dX4_seed_41 : decode cX4_seed 41 = .ok (.aload_n 0, 1) := by decide +kernel
theorem dX4_seed_42 : decode cX4_seed 42 = .ok (.iconst 1, 1) := by decide +kernel
theorem dX4_seed_43 : decode cX4_seed 43 = .ok (.putfield 165, 3) := by decide +kernel
theorem dX4_seed_46 : decode cX4_seed 46 = .ok (.aload_n 0, 1) := by decide +kernel
theorem dX4_seed_47 : decode cX4_seed 47 = .ok (.iconst 1, 1) := by decide +kernel
theorem dX4_seed_48 : decode cX4_seed 48 = .ok (.putfield 169, 3) := by decide +kernel
theorem dX4_seed_51 : decode cX4_seed 51 = .ok (.aload_n 0, 1) := by decide +kernel
theorem dX4_seed_52 : decode cX4_seed 52 = .ok (.iconst 0, 1) := by decide +kernel
theorem dX4_seed_53 : decode cX4_seed 53 = .ok (.putfield 154, 3) := by decide +kernel
theorem dX4_seed_56 : decode cX4_seed 56 = .ok (.iconst 1, 1) := by decide +kernel
theorem dX4_seed_57 : decode cX4_seed 57 = .ok (.ireturn, 1) := by decide +kernel
set_option maxRecDepth 20000 in
theorem ggX4_reseed_X4_stir : GoodIn wsX4_reseed wsX4_stir := goodIn_r _ [8, 1, 9, 10, 11, 12, 13, 14, 15, 16, 7, 17, 18, 19, 20, 21, 22, 23, 24, 25, 26, 27, 28, 29, 30, 31, 32, 33, 34, 35, 36, 37, 38, 39, 40, 41, 42, 43, 44, 45, 46, 47, 48, 49, 50, 51, 52, 53, 54, 55, 56, 57, 58, 59, 60, 61, 62, 63, 64, 65, 66, 67, 68, 69, 70, 71, 72, 73] (by decide +kernel) (by decide +kernel)
set_option maxRecDepth 20000 in
theorem gX4_reseed_X4_stir : GoodIn wsX4_reseed (wsV RX4 162 RX4 yX4_stir wsX4_stir) := goodIn_app (goodIn_of _ (by decide +kernel)) ggX4_reseed_X4_stir
theorem dX4_reseed_0 : decode cX4_reseed 0 = .ok (.aload_n 0, 1) := by decide +kernel
theorem dX4_reseed_1 : decode cX4_reseed 1 = .ok (.getfield 154, 3) := by decide +kernel
theorem dX4_reseed_4 : decode cX4_reseed 4 = .ok (.ifCond .eq 10, 3) := by decide +kernel
theorem dX4_reseed_7 : decode cX4_reseed 7 = .ok (.aload_n 0, 1) := by decide +kernel
theorem dX4_reseed_8 : decode cX4_reseed 8 = .ok (.getfield 165, 3) := by decide +kernel
theorem dX4_reseed_11 : decode cX4_reseed 11 = .ok (.ifCond .ne 5, 3) := by decide +kernel
theorem dX4_reseed_14 : decode cX4_reseed 14 = .ok (.iconst 0, 1) := by decide +kernel
theorem dX4_reseed_15 : decode cX4_reseed 15 = .ok (.ireturn, 1) := by decide +kernel
theorem dX4_reseed_16 : decode cX4_reseed 16 = .ok (.aload_n 0, 1) := by decide +kernel
theorem dX4_reseed_17 : decode cX4_reseed 17 = .ok (.invokevirtual 162, 3) := by decide +kernel
theorem dX4_reseed_20 : decode cX4_reseed 20 = .ok (.aload_n 0, 1) := by decide +kernel
theorem dX4_reseed_21 : decode cX4_reseed 21 = .ok (.iconst 1, 1) := by decide +kernel
theorem dX4_reseed_22 : decode cX4_reseed 22 = .ok (.putfield 169, 3) := by decide +kernel
theorem dX4_reseed_25 : decode cX4_reseed 25 = .ok (.aload_n 0, 1) := by decide +kernel
theorem dX4_reseed_26 : decode cX4_reseed 26 = .ok (.iconst 0, 1) := by decide +kernel
theorem dX4_reseed_27 : decode cX4_reseed 27 = .ok (.putfield 154, 3) := by decide +kernel
theorem dX4_reseed_30 : decode cX4_reseed 30 = .ok (.iconst 1, 1) := by decide +kernel
theorem dX4_reseed_31 : decode cX4_reseed 31 = .ok (.ireturn, 1) := by decide +kernel
set_option maxRecDepth 20000 in
theorem ggX4_draw_X4_stir : GoodIn wsX4_draw wsX4_stir := goodIn_r _ [13, 4, 14, 15, 16, 17, 6, 18, 19, 20, 12, 21, 22, 23, 24, 25, 26, 27, 28, 29, 30, 31, 32, 33, 34, 35, 36, 37, 38, 39, 40, 41, 42, 43, 44, 45, 46, 47, 48, 49, 50, 51, 52, 53, 54, 55, 56, 57, 58, 59, 60, 61, 62, 63, 64, 65, 66, 67, 68, 69, 70, 71, 72, 73, 74, 75, 76, 77] (by decide +kernel) (by decide +kernel)
set_option maxRecDepth 20000 in
theorem gX4_draw_X4_stir : GoodIn wsX4_draw (wsV RX4 162 RX4 yX4_stir wsX4_stir) := goodIn_app (goodIn_of _ (by decide +kernel)) ggX4_draw_X4_stir
set_option maxRecDepth 20000 in
theorem ggX4_draw_X4_nextValue : GoodIn wsX4_draw wsX4_nextValue := goodIn_r _ [55, 6, 16, 18, 19, 20, 12, 21, 22, 15, 23, 24, 25, 26, 27, 28, 29, 30, 31, 32, 33, 34, 35, 36, 37, 38, 39, 40, 41, 42, 43, 44, 45, 46, 47, 48, 49, 50, 51, 56, 57, 58, 59, 60, 61, 62, 63, 64, 65, 66, 67, 68, 69, 70, 71, 72, 73, 74, 75, 76, 77] (by decide +kernel) (by decide +kernel)
set_option maxRecDepth 20000 in
theorem gX4_draw_X4_nextValue : GoodIn wsX4_draw (wsV RX4 157 RX4 yX4_nextValue wsX4_nextValue) := goodIn_app (goodIn_of _ (by decide +kernel)) ggX4_draw_X4_nextValue
theorem dX4_draw_0 : decode cX4_draw 0 = .ok (.aload_n 0, 1) := by decide +kernel
theorem dX4_draw_1 : decode cX4_draw 1 = .ok (.getfield 165, 3) := by decide +kernel
theorem dX4_draw_4 : decode cX4_draw 4 = .ok (.ifCond .ne 5, 3) := by decide +kernel
theorem dX4_draw_7 : decode cX4_draw 7 = .ok (.iconst 1, 1) := by decide +kernel
theorem dX4_draw_8 : decode cX4_draw 8 = .ok (.ireturn, 1) := by decide +kernel
theorem dX4_draw_9 : decode cX4_draw 9 = .ok (.iload_n 1, 1) := by decide +kernel
theorem dX4_draw_10 : decode cX4_draw 10 = .ok (.iconst 1, 1) := by decide +kernel
theorem dX4_draw_11 : decode cX4_draw 11 = .ok (.if_icmp .lt 10, 3) := by decide +kernel
theorem dX4_draw_14 : decode cX4_draw 14 = .ok (.iload_n 1, 1) := by decide +kernel
theorem dX4_draw_15 : decode cX4_draw 15 = .ok (.sipush 400, 3) := by decide +kernel
theorem dX4_draw_18 : decode cX4_draw 18 = .ok (.if_icmp .le 5, 3) := by decide +kernel
theorem dX4_draw_21 : decode cX4_draw 21 = .ok (.iconst 2, 1) := by decide +kernel
theorem dX4_draw_22 : decode cX4_draw 22 = .ok (.ireturn, 1) := by decide +kernel
theorem dX4_draw_23 : decode cX4_draw 23 = .ok (.aload_n 0, 1) := by decide +kernel
theorem dX4_draw_24 : decode cX4_draw 24 = .ok (.getfield 169, 3) := by decide +kernel
theorem dX4_draw_27 : decode cX4_draw 27 = .ok (.aload_n 0, 1) := by decide +kernel
theorem dX4_draw_28 : decode cX4_draw 28 = .ok (.getfield 118, 3) := by decide +kernel
theorem dX4_draw_31 : decode cX4_draw 31 = .ok (.if_icmp .le 5, 3) := by decide +kernel
theorem dX4_draw_34 : decode cX4_draw 34 = .ok (.iconst 3, 1) := by decide +kernel
theorem dX4_draw_35 : decode cX4_draw 35 = .ok (.ireturn, 1) := by decide +kernel
theorem dX4_draw_36 : decode cX4_draw 36 = .ok (.aload_n 0, 1) := by decide +kernel
theorem dX4_draw_37 : decode cX4_draw 37 = .ok (.getfield 154, 3) := by decide +kernel
theorem dX4_draw_40 : decode cX4_draw 40 = .ok (.ifCond .le 7, 3) := by decide +kernel
theorem dX4_draw_43 : decode cX4_draw 43 = .ok (.aload_n 0, 1) := by decide +kernel
theorem dX4_draw_44 : decode cX4_draw 44 = .ok (.invokevirtual 162, 3) := by decide +kernel
theorem dX4_draw_47 : decode cX4_draw 47 = .ok (.iconst 0, 1) := by decide +kernel
theorem dX4_draw_48 : decode cX4_draw 48 = .ok (.istore_n 2, 1) := by decide +kernel
theorem dX4_draw_49 : decode cX4_draw 49 = .ok (.iload_n 2, 1) := by decide +kernel
theorem dX4_draw_50 : decode cX4_draw 50 = .ok (.iload_n 1, 1) := by decide +kernel
theorem dX4_draw_51 : decode cX4_draw 51 = .ok (.if_icmp .ge 35, 3) := by decide +kernel
theorem dX4_draw_54 : decode cX4_draw 54 = .ok (.iload_n 2, 1) := by decide +kernel
theorem dX4_draw_55 : decode cX4_draw 55 = .ok (.bipush 32, 2) := by decide +kernel
theorem dX4_draw_57 : decode cX4_draw 57 = .ok (.irem, 1) := by decide +kernel
theorem dX4_draw_58 : decode cX4_draw 58 = .ok (.ifCond .ne 7, 3) := by decide +kernel
theorem dX4_draw_61 : decode cX4_draw 61 = .ok (.aload_n 0, 1) := by decide +kernel
theorem dX4_draw_62 : decode cX4_draw 62 = .ok (.invokevirtual 157, 3) := by decide +kernel
theorem dX4_draw_65 : decode cX4_draw 65 = .ok (.aload_n 0, 1) := by decide +kernel
theorem dX4_draw_66 : decode cX4_draw 66 = .ok (.getfield 122, 3) := by decide +kernel
theorem dX4_draw_69 : decode cX4_draw 69 = .ok (.iload_n 2, 1) := by decide +kernel
theorem dX4_draw_70 : decode cX4_draw 70 = .ok (.aload_n 0, 1) := by decide +kernel
theorem dX4_draw_71 : decode cX4_draw 71 = .ok (.getfield 112, 3) := by decide +kernel
theorem dX4_draw_74 : decode cX4_draw 74 = .ok (.iload_n 2, 1) := by decide +kernel
theorem dX4_draw_75 : decode cX4_draw 75 = .ok (.bipush 32, 2) := by decide +kernel
theorem dX4_draw_77 : decode cX4_draw 77 = .ok (.irem, 1) := by decide +kernel
theorem dX4_draw_78 : decode cX4_draw 78 = .ok (.iaload, 1) := by decide +kernel
theorem dX4_draw_79 : decode cX4_draw 79 = .ok (.iastore, 1) := by decide +kernel
theorem dX4_draw_80 : decode cX4_draw 80 = .ok (.iinc 2 1, 3) := by decide +kernel
theorem dX4_draw_83 : decode cX4_draw 83 = .ok (.goto (-34), 3) := by decide +kernel
theorem dX4_draw_86 : decode cX4_draw 86 = .ok (.aload_n 0, 1) := by decide +kernel
theorem dX4_draw_87 : decode cX4_draw 87 = .ok (.iload_n 1, 1) := by decide +kernel
theorem dX4_draw_88 : decode cX4_draw 88 = .ok (.putfield 172, 3) := by decide +kernel
theorem dX4_draw_91 : decode cX4_draw 91 = .ok (.aload_n 0, 1) := by decide +kernel
theorem dX4_draw_92 : decode cX4_draw 92 = .ok (.invokevirtual 162, 3) := by decide +kernel
theorem dX4_draw_95 : decode cX4_draw 95 = .ok (.aload_n 0, 1) := by decide +kernel
theorem dX4_draw_96 : decode cX4_draw 96 = .ok (.dup, 1) := by decide +kernel
theorem dX4_draw_97 : decode cX4_draw 97 = .ok (.getfield 169, 3) := by decide +kernel
theorem dX4_draw_100 : decode cX4_draw 100 = .ok (.iconst 1, 1) := by decide +kernel
theorem dX4_draw_101 : decode cX4_draw 101 = .ok (.iadd, 1) := by decide +kernel
theorem dX4_draw_102 : decode cX4_draw 102 = .ok (.putfield 169, 3) := by decide +kernel
theorem dX4_draw_105 : decode cX4_draw 105 = .ok (.aload_n 0, 1) := by decide +kernel
theorem dX4_draw_106 : decode cX4_draw 106 = .ok (.dup, 1) := by decide +kernel
theorem dX4_draw_107 : decode cX4_draw 107 = .ok (.getfield 175, 3) := by decide +kernel
theorem dX4_draw_110 : decode cX4_draw 110 = .ok (.iconst 1, 1) := by decide +kernel
theorem dX4_draw_111 : decode cX4_draw 111 = .ok (.iadd, 1) := by decide +kernel
theorem dX4_draw_112 : decode cX4_draw 112 = .ok (.putfield 175, 3) := by decide +kernel
theorem dX4_draw_115 : decode cX4_draw 115 = .ok (.aload_n 0, 1) := by decide +kernel
theorem dX4_draw_116 : decode cX4_draw 116 = .ok (.iconst 0, 1) := by decide +kernel
theorem dX4_draw_117 : decode cX4_draw 117 = .ok (.putfield 154, 3) := by decide +kernel
theorem dX4_draw_120 : decode cX4_draw 120 = .ok (.iconst 0, 1) := by decide +kernel
theorem dX4_draw_121 : decode cX4_draw 121 = .ok (.ireturn, 1) := by decide +kernel
theorem dX4_interval_0 : decode cX4_interval 0 = .ok (.iload_n 1, 1) := by decide +kernel
theorem dX4_interval_1 : decode cX4_interval 1 = .ok (.iconst 1, 1) := by decide +kernel
theorem dX4_interval_2 : decode cX4_interval 2 = .ok (.if_icmp .lt 10, 3) := by decide +kernel
theorem dX4_interval_5 : decode cX4_interval 5 = .ok (.iload_n 1, 1) := by decide +kernel
theorem dX4_interval_6 : decode cX4_interval 6 = .ok (.sipush 1000, 3) := by decide +kernel
theorem dX4_interval_9 : decode cX4_interval 9 = .ok (.if_icmp .le 5, 3) := by decide +kernel
theorem dX4_interval_12 : decode cX4_interval 12 = .ok (.iconst 0, 1) := by decide +kernel
theorem dX4_interval_13 : decode cX4_interval 13 = .ok (.ireturn, 1) := by decide +kernel
theorem dX4_interval_14 : decode cX4_interval 14 = .ok (.aload_n 0, 1) := by decide +kernel
theorem dX4_interval_15 : decode cX4_interval 15 = .ok (.iload_n 1, 1) := by decide +kernel
theorem dX4_interval_16 : decode cX4_interval 16 = .ok (.putfield 118, 3) := by decide +kernel
theorem dX4_interval_19 : decode cX4_interval 19 = .ok (.iconst 1, 1) := by decide +kernel
theorem dX4_interval_20 : decode cX4_interval 20 = .ok (.ireturn, 1) := by decide +kernel
theorem dX4_forget_0 : decode cX4_forget 0 = .ok (.aload_n 0, 1) := by decide +kernel
theorem dX4_forget_1 : decode cX4_forget 1 = .ok (.getfield 165, 3) := by decide +kernel
theorem dX4_forget_4 : decode cX4_forget 4 = .ok (.istore_n 1, 1) := by decide +kernel
theorem dX4_forget_5 : decode cX4_forget 5 = .ok (.aload_n 0, 1) := by decide +kernel
theorem dX4_forget_6 : decode cX4_forget 6 = .ok (.iconst 0, 1) := by decide +kernel
theorem dX4_forget_7 : decode cX4_forget 7 = .ok (.putfield 165, 3) := by decide +kernel
theorem dX4_forget_10 : decode cX4_forget 10 = .ok (.aload_n 0, 1) := by decide +kernel
theorem dX4_forget_11 : decode cX4_forget 11 = .ok (.iconst 0, 1) := by decide +kernel
theorem dX4_forget_12 : decode cX4_forget 12 = .ok (.putfield 169, 3) := by decide +kernel
theorem dX4_forget_15 : decode cX4_forget 15 = .ok (.aload_n 0, 1) := by decide +kernel
theorem dX4_forget_16 : decode cX4_forget 16 = .ok (.iload_n 1, 1) := by decide +kernel
theorem dX4_forget_17 : decode cX4_forget 17 = .ok (.ifCond .eq 7, 3) := by decide +kernel
theorem dX4_forget_20 : decode cX4_forget 20 = .ok (.iconst 0, 1) := by decide +kernel
theorem dX4_forget_21 : decode cX4_forget 21 = .ok (.goto 7, 3) := by decide +kernel
theorem dX4_forget_24 : decode cX4_forget 24 = .ok (.aload_n 0, 1) := by decide +kernel
theorem dX4_forget_25 : decode cX4_forget 25 = .ok (.getfield 172, 3) := by decide +kernel
theorem dX4_forget_28 : decode cX4_forget 28 = .ok (.putfield 172, 3) := by decide +kernel
theorem dX4_forget_31 : decode cX4_forget 31 = .ok (.iload_n 1, 1) := by decide +kernel
theorem dX4_forget_32 : decode cX4_forget 32 = .ok (.ifCond .eq 7, 3) := by decide +kernel
theorem dX4_forget_35 : decode cX4_forget 35 = .ok (.iconst 1, 1) := by decide +kernel
theorem dX4_forget_36 : decode cX4_forget 36 = .ok (.goto 4, 3) := by decide +kernel
theorem dX4_forget_39 : decode cX4_forget 39 = .ok (.iconst 0, 1) := by decide +kernel
theorem dX4_forget_40 : decode cX4_forget 40 = .ok (.ireturn, 1) := by decide +kernel
theorem dX4_own_0 : decode cX4_own 0 = .ok (.iconst 0, 1) := by decide +kernel
theorem dX4_own_1 : decode cX4_own 1 = .ok (.istore_n 1, 1) := by decide +kernel
theorem dX4_own_2 : decode cX4_own 2 = .ok (.iload_n 1, 1) := by decide +kernel
theorem dX4_own_3 : decode cX4_own 3 = .ok (.aload_n 0, 1) := by decide +kernel
theorem dX4_own_4 : decode cX4_own 4 = .ok (.getfield 154, 3) := by decide +kernel
theorem dX4_own_7 : decode cX4_own 7 = .ok (.if_icmp .ge 21, 3) := by decide +kernel
theorem dX4_own_10 : decode cX4_own 10 = .ok (.aload_n 0, 1) := by decide +kernel
theorem dX4_own_11 : decode cX4_own 11 = .ok (.getfield 106, 3) := by decide +kernel
theorem dX4_own_14 : decode cX4_own 14 = .ok (.iload_n 1, 1) := by decide +kernel
theorem dX4_own_15 : decode cX4_own 15 = .ok (.aload_n 0, 1) := by decide +kernel
theorem dX4_own_16 : decode cX4_own 16 = .ok (.getfield 103, 3) := by decide +kernel
theorem dX4_own_19 : decode cX4_own 19 = .ok (.iload_n 1, 1) := by decide +kernel
theorem dX4_own_20 : decode cX4_own 20 = .ok (.iaload, 1) := by decide +kernel
theorem dX4_own_21 : decode cX4_own 21 = .ok (.iastore, 1) := by decide +kernel
theorem dX4_own_22 : decode cX4_own 22 = .ok (.iinc 1 1, 3) := by decide +kernel
theorem dX4_own_25 : decode cX4_own 25 = .ok (.goto (-23), 3) := by decide +kernel
theorem dX4_own_28 : decode cX4_own 28 = .ok (.aload_n 0, 1) := by decide +kernel
theorem dX4_own_29 : decode cX4_own 29 = .ok (.aload_n 0, 1) := by decide +kernel
theorem dX4_own_30 : decode cX4_own 30 = .ok (.getfield 154, 3) := by decide +kernel
theorem dX4_own_33 : decode cX4_own 33 = .ok (.putfield 178, 3) := by decide +kernel
theorem dX4_own_36 : decode cX4_own 36 = .ok (.aload_n 0, 1) := by decide +kernel
theorem dX4_own_37 : decode cX4_own 37 = .ok (.iconst 0, 1) := by decide +kernel
theorem dX4_own_38 : decode cX4_own 38 = .ok (.putfield 154, 3) := by decide +kernel
theorem dX4_own_41 : decode cX4_own 41 = .ok (.aload_n 0, 1) := by decide +kernel
theorem dX4_own_42 : decode cX4_own 42 = .ok (.getfield 178, 3) := by decide +kernel
theorem dX4_own_45 : decode cX4_own 45 = .ok (.ireturn, 1) := by decide +kernel
theorem dX4_out_0 : decode cX4_out 0 = .ok (.iload_n 1, 1) := by decide +kernel
theorem dX4_out_1 : decode cX4_out 1 = .ok (.ifCond .lt 20, 3) := by decide +kernel
theorem dX4_out_4 : decode cX4_out 4 = .ok (.iload_n 1, 1) := by decide +kernel
theorem dX4_out_5 : decode cX4_out 5 = .ok (.aload_n 0, 1) := by decide +kernel
theorem dX4_out_6 : decode cX4_out 6 = .ok (.getfield 172, 3) := by decide +kernel
theorem dX4_out_9 : decode cX4_out 9 = .ok (.if_icmp .ge 12, 3) := by decide +kernel
theorem dX4_out_12 : decode cX4_out 12 = .ok (.aload_n 0, 1) := by decide +kernel
theorem dX4_out_13 : decode cX4_out 13 = .ok (.getfield 122, 3) := by decide +kernel
theorem dX4_out_16 : decode cX4_out 16 = .ok (.iload_n 1, 1) := by decide +kernel
theorem dX4_out_17 : decode cX4_out 17 = .ok (.iaload, 1) := by decide +kernel
theorem dX4_out_18 : decode cX4_out 18 = .ok (.goto 4, 3) := by decide +kernel
theorem dX4_out_21 : decode cX4_out 21 = .ok (.iconst (-1), 1) := by decide +kernel
theorem dX4_out_22 : decode cX4_out 22 = .ok (.ireturn, 1) := by decide +kernel
theorem dX4_counter_0 : decode cX4_counter 0 = .ok (.aload_n 0, 1) := by decide +kernel
theorem dX4_counter_1 : decode cX4_counter 1 = .ok (.getfield 165, 3) := by decide +kernel
theorem dX4_counter_4 : decode cX4_counter 4 = .ok (.ifCond .eq 10, 3) := by decide +kernel
theorem dX4_counter_7 : decode cX4_counter 7 = .ok (.aload_n 0, 1) := by decide +kernel
theorem dX4_counter_8 : decode cX4_counter 8 = .ok (.getfield 169, 3) := by decide +kernel
theorem dX4_counter_11 : decode cX4_counter 11 = .ok (.goto 4, 3) := by decide +kernel
theorem dX4_counter_14 : decode cX4_counter 14 = .ok (.iconst 0, 1) := by decide +kernel
theorem dX4_counter_15 : decode cX4_counter 15 = .ok (.ireturn, 1) := by decide +kernel
theorem dX4_state_0 : decode cX4_state 0 = .ok (.aload_n 0, 1) := by decide +kernel
theorem dX4_state_1 : decode cX4_state 1 = .ok (.getfield 165, 3) := by decide +kernel
theorem dX4_state_4 : decode cX4_state 4 = .ok (.ifCond .eq 22, 3) := by decide +kernel
theorem dX4_state_7 : decode cX4_state 7 = .ok (.iload_n 1, 1) := by decide +kernel
theorem dX4_state_8 : decode cX4_state 8 = .ok (.ifCond .lt 18, 3) := by decide +kernel
theorem dX4_state_11 : decode cX4_state 11 = .ok (.iload_n 1, 1) := by decide +kernel
theorem dX4_state_12 : decode cX4_state 12 = .ok (.iconst 1, 1) := by decide +kernel
theorem dX4_state_13 : decode cX4_state 13 = .ok (.if_icmp .gt 13, 3) := by decide +kernel
theorem dX4_state_16 : decode cX4_state 16 = .ok (.iload_n 2, 1) := by decide +kernel
theorem dX4_state_17 : decode cX4_state 17 = .ok (.ifCond .lt 9, 3) := by decide +kernel
theorem dX4_state_20 : decode cX4_state 20 = .ok (.iload_n 2, 1) := by decide +kernel
theorem dX4_state_21 : decode cX4_state 21 = .ok (.bipush 32, 2) := by decide +kernel
theorem dX4_state_23 : decode cX4_state 23 = .ok (.if_icmp .lt 5, 3) := by decide +kernel
theorem dX4_state_26 : decode cX4_state 26 = .ok (.iconst (-1), 1) := by decide +kernel
theorem dX4_state_27 : decode cX4_state 27 = .ok (.ireturn, 1) := by decide +kernel
theorem dX4_state_28 : decode cX4_state 28 = .ok (.iload_n 1, 1) := by decide +kernel
theorem dX4_state_29 : decode cX4_state 29 = .ok (.ifCond .ne 12, 3) := by decide +kernel
theorem dX4_state_32 : decode cX4_state 32 = .ok (.aload_n 0, 1) := by decide +kernel
theorem dX4_state_33 : decode cX4_state 33 = .ok (.getfield 109, 3) := by decide +kernel
theorem dX4_state_36 : decode cX4_state 36 = .ok (.iload_n 2, 1) := by decide +kernel
theorem dX4_state_37 : decode cX4_state 37 = .ok (.iaload, 1) := by decide +kernel
theorem dX4_state_38 : decode cX4_state 38 = .ok (.goto 9, 3) := by decide +kernel
theorem dX4_state_41 : decode cX4_state 41 = .ok (.aload_n 0, 1) := by decide +kernel
theorem dX4_state_42 : decode cX4_state 42 = .ok (.getfield 112, 3) := by decide +kernel
theorem dX4_state_45 : decode cX4_state 45 = .ok (.iload_n 2, 1) := by decide +kernel
theorem dX4_state_46 : decode cX4_state 46 = .ok (.iaload, 1) := by decide +kernel
theorem dX4_state_47 : decode cX4_state 47 = .ok (.ireturn, 1) := by decide +kernel
set_option maxRecDepth 20000 in
theorem ggX4_hash_X4_put : GoodIn wsX4_hash wsX4_put := goodIn_r _ [8, 9, 10, 26, 27, 28, 29, 30, 31, 32, 33, 34, 35, 36, 37, 38, 39, 40, 41, 42, 43, 44, 45, 46, 47] (by decide +kernel) (by decide +kernel)
set_option maxRecDepth 20000 in
theorem gX4_hash_X4_put : GoodIn wsX4_hash (wsV RX4 135 RX4 yX4_put wsX4_put) := goodIn_app (goodIn_of _ (by decide +kernel)) ggX4_hash_X4_put
set_option maxRecDepth 20000 in
theorem ggX4_hash_X4_hashRow : GoodIn wsX4_hash wsX4_hashRow := goodIn_r _ [14, 10, 15, 16, 3, 4, 5, 6, 7, 8, 9, 17, 18, 19, 20, 21, 22, 23, 24, 25, 26, 27, 28, 29, 30, 31, 32, 33, 34, 35, 36, 37, 38, 39, 40, 41, 42, 43, 44, 45, 46, 47] (by decide +kernel) (by decide +kernel)
set_option maxRecDepth 20000 in
theorem gX4_hash_X4_hashRow : GoodIn wsX4_hash (wsV RX4 142 RX4 yX4_hashRow wsX4_hashRow) := goodIn_app (goodIn_of _ (by decide +kernel)) ggX4_hash_X4_hashRow
theorem dX4_hash_0 : decode cX4_hash 0 = .ok (.iload_n 1, 1) := by decide +kernel
theorem dX4_hash_1 : decode cX4_hash 1 = .ok (.ifCond .lt 9, 3) := by decide +kernel
theorem dX4_hash_4 : decode cX4_hash 4 = .ok (.iload_n 1, 1) := by decide +kernel
theorem dX4_hash_5 : decode cX4_hash 5 = .ok (.bipush 32, 2) := by decide +kernel
theorem dX4_hash_7 : decode cX4_hash 7 = .ok (.if_icmp .lt 5, 3) := by decide +kernel
theorem dX4_hash_10 : decode cX4_hash 10 = .ok (.iconst (-1), 1) := by decide +kernel
theorem dX4_hash_11 : decode cX4_hash 11 = .ok (.ireturn, 1) := by decide +kernel
theorem dX4_hash_12 : decode cX4_hash 12 = .ok (.iconst 0, 1) := by decide +kernel
theorem dX4_hash_13 : decode cX4_hash 13 = .ok (.istore_n 2, 1) := by decide +kernel
theorem dX4_hash_14 : decode cX4_hash 14 = .ok (.iload_n 2, 1) := by decide +kernel
theorem dX4_hash_15 : decode cX4_hash 15 = .ok (.aload_n 0, 1) := by decide +kernel
theorem dX4_hash_16 : decode cX4_hash 16 = .ok (.getfield 154, 3) := by decide +kernel
theorem dX4_hash_19 : decode cX4_hash 19 = .ok (.if_icmp .ge 19, 3) := by decide +kernel
theorem dX4_hash_22 : decode cX4_hash 22 = .ok (.aload_n 0, 1) := by decide +kernel
theorem dX4_hash_23 : decode cX4_hash 23 = .ok (.aload_n 0, 1) := by decide +kernel
theorem dX4_hash_24 : decode cX4_hash 24 = .ok (.getfield 103, 3) := by decide +kernel
theorem dX4_hash_27 : decode cX4_hash 27 = .ok (.iload_n 2, 1) := by decide +kernel
theorem dX4_hash_28 : decode cX4_hash 28 = .ok (.iaload, 1) := by decide +kernel
theorem dX4_hash_29 : decode cX4_hash 29 = .ok (.invokevirtual 135, 3) := by decide +kernel
theorem dX4_hash_32 : decode cX4_hash 32 = .ok (.iinc 2 1, 3) := by decide +kernel
theorem dX4_hash_35 : decode cX4_hash 35 = .ok (.goto (-21), 3) := by decide +kernel
theorem dX4_hash_38 : decode cX4_hash 38 = .ok (.aload_n 0, 1) := by decide +kernel
theorem dX4_hash_39 : decode cX4_hash 39 = .ok (.invokevirtual 142, 3) := by decide +kernel
theorem dX4_hash_42 : decode cX4_hash 42 = .ok (.aload_n 0, 1) := by decide +kernel
theorem dX4_hash_43 : decode cX4_hash 43 = .ok (.getfield 97, 3) := by decide +kernel
theorem dX4_hash_46 : decode cX4_hash 46 = .ok (.iload_n 1, 1) := by decide +kernel
theorem dX4_hash_47 : decode cX4_hash 47 = .ok (.iaload, 1) := by decide +kernel
theorem dX4_hash_48 : decode cX4_hash 48 = .ok (.ireturn, 1) := by decide +kernel
set_option maxRecDepth 20000 in
theorem ggX4_keyed_X4_put : GoodIn wsX4_keyed wsX4_put := goodIn_r _ [11, 12, 13, 37, 38, 39, 40, 41, 42, 43, 44, 45, 46, 47, 48, 49, 50, 51, 52, 53, 54, 55, 56, 57, 58] (by decide +kernel) (by decide +kernel)
set_option maxRecDepth 20000 in
theorem gX4_keyed_X4_put : GoodIn wsX4_keyed (wsV RX4 135 RX4 yX4_put wsX4_put) := goodIn_app (goodIn_of _ (by decide +kernel)) ggX4_keyed_X4_put
set_option maxRecDepth 20000 in
theorem ggX4_keyed_X4_hashRow : GoodIn wsX4_keyed wsX4_hashRow := goodIn_r _ [17, 13, 18, 19, 4, 7, 8, 9, 10, 11, 12, 20, 21, 22, 23, 24, 25, 26, 27, 28, 37, 38, 39, 40, 41, 42, 43, 44, 45, 46, 47, 48, 49, 50, 51, 52, 53, 54, 55, 56, 57, 58] (by decide +kernel) (by decide +kernel)
set_option maxRecDepth 20000 in
theorem gX4_keyed_X4_hashRow : GoodIn wsX4_keyed (wsV RX4 142 RX4 yX4_hashRow wsX4_hashRow) := goodIn_app (goodIn_of _ (by decide +kernel)) ggX4_keyed_X4_hashRow
set_option maxRecDepth 20000 in
theorem ggX4_keyed_X4_putPad : GoodIn wsX4_keyed wsX4_putPad := goodIn_r _ [32, 3, 7, 8, 9, 10, 11, 12, 13, 37, 38, 39, 40, 41, 42, 43, 44, 45, 46, 47, 48, 49, 50, 51, 52, 53, 54, 55, 56, 57, 58] (by decide +kernel) (by decide +kernel)
set_option maxRecDepth 20000 in
theorem gX4_keyed_X4_putPad : GoodIn wsX4_keyed (wsV RX4 145 RX4 yX4_putPad wsX4_putPad) := goodIn_app (goodIn_of _ (by decide +kernel)) ggX4_keyed_X4_putPad
set_option maxRecDepth 20000 in
theorem ggX4_keyed_X4_finishKeyed : GoodIn wsX4_keyed wsX4_finishKeyed := goodIn_r _ [36, 4, 14, 15, 16, 10, 17, 13, 18, 19, 7, 8, 9, 11, 12, 20, 21, 22, 23, 24, 25, 26, 27, 28, 29, 30, 31, 32, 3, 37, 38, 39, 40, 41, 42, 43, 44, 45, 46, 47, 48, 49, 50, 51, 52, 53, 54, 55, 56, 57, 58] (by decide +kernel) (by decide +kernel)
set_option maxRecDepth 20000 in
theorem gX4_keyed_X4_finishKeyed : GoodIn wsX4_keyed (wsV RX4 151 RX4 yX4_finishKeyed wsX4_finishKeyed) := goodIn_app (goodIn_of _ (by decide +kernel)) ggX4_keyed_X4_finishKeyed
theorem dX4_keyed_0 : decode cX4_keyed 0 = .ok (.iload_n 1, 1) := by decide +kernel
theorem dX4_keyed_1 : decode cX4_keyed 1 = .ok (.ifCond .lt 9, 3) := by decide +kernel
theorem dX4_keyed_4 : decode cX4_keyed 4 = .ok (.iload_n 1, 1) := by decide +kernel
theorem dX4_keyed_5 : decode cX4_keyed 5 = .ok (.bipush 32, 2) := by decide +kernel
theorem dX4_keyed_7 : decode cX4_keyed 7 = .ok (.if_icmp .lt 5, 3) := by decide +kernel
theorem dX4_keyed_10 : decode cX4_keyed 10 = .ok (.iconst (-1), 1) := by decide +kernel
theorem dX4_keyed_11 : decode cX4_keyed 11 = .ok (.ireturn, 1) := by decide +kernel
theorem dX4_keyed_12 : decode cX4_keyed 12 = .ok (.aload_n 0, 1) := by decide +kernel
theorem dX4_keyed_13 : decode cX4_keyed 13 = .ok (.getfield 178, 3) := by decide +kernel
theorem dX4_keyed_16 : decode cX4_keyed 16 = .ok (.bipush 64, 2) := by decide +kernel
theorem dX4_keyed_18 : decode cX4_keyed 18 = .ok (.if_icmp .le 33, 3) := by decide +kernel
theorem dX4_keyed_21 : decode cX4_keyed 21 = .ok (.iconst 0, 1) := by decide +kernel
theorem dX4_keyed_22 : decode cX4_keyed 22 = .ok (.istore_n 2, 1) := by decide +kernel
theorem dX4_keyed_23 : decode cX4_keyed 23 = .ok (.iload_n 2, 1) := by decide +kernel
theorem dX4_keyed_24 : decode cX4_keyed 24 = .ok (.aload_n 0, 1) := by decide +kernel
theorem dX4_keyed_25 : decode cX4_keyed 25 = .ok (.getfield 178, 3) := by decide +kernel
theorem dX4_keyed_28 : decode cX4_keyed 28 = .ok (.if_icmp .ge 19, 3) := by decide +kernel
theorem dX4_keyed_31 : decode cX4_keyed 31 = .ok (.aload_n 0, 1) := by decide +kernel
theorem dX4_keyed_32 : decode cX4_keyed 32 = .ok (.aload_n 0, 1) := by decide +kernel
theorem dX4_keyed_33 : decode cX4_keyed 33 = .ok (.getfield 106, 3) := by decide +kernel
theorem dX4_keyed_36 : decode cX4_keyed 36 = .ok (.iload_n 2, 1) := by decide +kernel
theorem dX4_keyed_37 : decode cX4_keyed 37 = .ok (.iaload, 1) := by decide +kernel
theorem dX4_keyed_38 : decode cX4_keyed 38 = .ok (.invokevirtual 135, 3) := by decide +kernel
theorem dX4_keyed_41 : decode cX4_keyed 41 = .ok (.iinc 2 1, 3) := by decide +kernel
theorem dX4_keyed_44 : decode cX4_keyed 44 = .ok (.goto (-21), 3) := by decide +kernel
theorem dX4_keyed_47 : decode cX4_keyed 47 = .ok (.aload_n 0, 1) := by decide +kernel
theorem dX4_keyed_48 : decode cX4_keyed 48 = .ok (.invokevirtual 142, 3) := by decide +kernel
theorem dX4_keyed_51 : decode cX4_keyed 51 = .ok (.iconst 0, 1) := by decide +kernel
theorem dX4_keyed_52 : decode cX4_keyed 52 = .ok (.istore_n 2, 1) := by decide +kernel
theorem dX4_keyed_53 : decode cX4_keyed 53 = .ok (.iload_n 2, 1) := by decide +kernel
theorem dX4_keyed_54 : decode cX4_keyed 54 = .ok (.bipush 64, 2) := by decide +kernel
theorem dX4_keyed_56 : decode cX4_keyed 56 = .ok (.if_icmp .ge 61, 3) := by decide +kernel
theorem dX4_keyed_59 : decode cX4_keyed 59 = .ok (.aload_n 0, 1) := by decide +kernel
theorem dX4_keyed_60 : decode cX4_keyed 60 = .ok (.getfield 100, 3) := by decide +kernel
theorem dX4_keyed_63 : decode cX4_keyed 63 = .ok (.iload_n 2, 1) := by decide +kernel
theorem dX4_keyed_64 : decode cX4_keyed 64 = .ok (.aload_n 0, 1) := by decide +kernel
theorem dX4_keyed_65 : decode cX4_keyed 65 = .ok (.getfield 178, 3) := by decide +kernel
theorem dX4_keyed_68 : decode cX4_keyed 68 = .ok (.bipush 64, 2) := by decide +kernel
theorem dX4_keyed_70 : decode cX4_keyed 70 = .ok (.if_icmp .le 22, 3) := by decide +kernel
theorem dX4_keyed_73 : decode cX4_keyed 73 = .ok (.iload_n 2, 1) := by decide +kernel
theorem dX4_keyed_74 : decode cX4_keyed 74 = .ok (.bipush 32, 2) := by decide +kernel
theorem dX4_keyed_76 : decode cX4_keyed 76 = .ok (.if_icmp .ge 12, 3) := by decide +kernel
theorem dX4_keyed_79 : decode cX4_keyed 79 = .ok (.aload_n 0, 1) := by decide +kernel
theorem dX4_keyed_80 : decode cX4_keyed 80 = .ok (.getfield 97, 3) := by decide +kernel
theorem dX4_keyed_83 : decode cX4_keyed 83 = .ok (.iload_n 2, 1) := by decide +kernel
theorem dX4_keyed_84 : decode cX4_keyed 84 = .ok (.iaload, 1) := by decide +kernel
theorem dX4_keyed_85 : decode cX4_keyed 85 = .ok (.goto 25, 3) := by decide +kernel
theorem dX4_keyed_88 : decode cX4_keyed 88 = .ok (.iconst 0, 1) := by decide +kernel
theorem dX4_keyed_89 : decode cX4_keyed 89 = .ok (.goto 21, 3) := by decide +kernel
theorem dX4_keyed_92 : decode cX4_keyed 92 = .ok (.iload_n 2, 1) := by decide +kernel
theorem dX4_keyed_93 : decode cX4_keyed 93 = .ok (.aload_n 0, 1) := by decide +kernel
theorem dX4_keyed_94 : decode cX4_keyed 94 = .ok (.getfield 178, 3) := by decide +kernel
theorem dX4_keyed_97 : decode cX4_keyed 97 = .ok (.if_icmp .ge 12, 3) := by decide +kernel
theorem dX4_keyed_100 : decode cX4_keyed 100 = .ok (.aload_n 0, 1) := by decide +kernel
theorem dX4_keyed_101 : decode cX4_keyed 101 = .ok (.getfield 106, 3) := by decide +kernel
theorem dX4_keyed_104 : decode cX4_keyed 104 = .ok (.iload_n 2, 1) := by decide +kernel
theorem dX4_keyed_105 : decode cX4_keyed 105 = .ok (.iaload, 1) := by decide +kernel
theorem dX4_keyed_106 : decode cX4_keyed 106 = .ok (.goto 4, 3) := by decide +kernel
theorem dX4_keyed_109 : decode cX4_keyed 109 = .ok (.iconst 0, 1) := by decide +kernel
theorem dX4_keyed_110 : decode cX4_keyed 110 = .ok (.iastore, 1) := by decide +kernel
theorem dX4_keyed_111 : decode cX4_keyed 111 = .ok (.iinc 2 1, 3) := by decide +kernel
theorem dX4_keyed_114 : decode cX4_keyed 114 = .ok (.goto (-61), 3) := by decide +kernel
theorem dX4_keyed_117 : decode cX4_keyed 117 = .ok (.aload_n 0, 1) := by decide +kernel
theorem dX4_keyed_118 : decode cX4_keyed 118 = .ok (.bipush 54, 2) := by decide +kernel
theorem dX4_keyed_120 : decode cX4_keyed 120 = .ok (.invokevirtual 145, 3) := by decide +kernel
theorem dX4_keyed_123 : decode cX4_keyed 123 = .ok (.iconst 0, 1) := by decide +kernel
theorem dX4_keyed_124 : decode cX4_keyed 124 = .ok (.istore_n 2, 1) := by decide +kernel
theorem dX4_keyed_125 : decode cX4_keyed 125 = .ok (.iload_n 2, 1) := by decide +kernel
theorem dX4_keyed_126 : decode cX4_keyed 126 = .ok (.aload_n 0, 1) := by decide +kernel
theorem dX4_keyed_127 : decode cX4_keyed 127 = .ok (.getfield 154, 3) := by decide +kernel
theorem dX4_keyed_130 : decode cX4_keyed 130 = .ok (.if_icmp .ge 19, 3) := by decide +kernel
theorem dX4_keyed_133 : decode cX4_keyed 133 = .ok (.aload_n 0, 1) := by decide +kernel
theorem dX4_keyed_134 : decode cX4_keyed 134 = .ok (.aload_n 0, 1) := by decide +kernel
theorem dX4_keyed_135 : decode cX4_keyed 135 = .ok (.getfield 103, 3) := by decide +kernel
theorem dX4_keyed_138 : decode cX4_keyed 138 = .ok (.iload_n 2, 1) := by decide +kernel
theorem dX4_keyed_139 : decode cX4_keyed 139 = .ok (.iaload, 1) := by decide +kernel
theorem dX4_keyed_140 : decode cX4_keyed 140 = .ok (.invokevirtual 135, 3) := by decide +kernel
theorem dX4_keyed_143 : decode cX4_keyed 143 = .ok (.iinc 2 1, 3) := by decide +kernel
theorem dX4_keyed_146 : decode cX4_keyed 146 = .ok (.goto (-21), 3) := by decide +kernel
theorem dX4_keyed_149 : decode cX4_keyed 149 = .ok (.aload_n 0, 1) := by decide +kernel
theorem dX4_keyed_150 : decode cX4_keyed 150 = .ok (.invokevirtual 151, 3) := by decide +kernel
theorem dX4_keyed_153 : decode cX4_keyed 153 = .ok (.aload_n 0, 1) := by decide +kernel
theorem dX4_keyed_154 : decode cX4_keyed 154 = .ok (.getfield 97, 3) := by decide +kernel
theorem dX4_keyed_157 : decode cX4_keyed 157 = .ok (.iload_n 1, 1) := by decide +kernel
theorem dX4_keyed_158 : decode cX4_keyed 158 = .ok (.iaload, 1) := by decide +kernel
theorem dX4_keyed_159 : decode cX4_keyed 159 = .ok (.ireturn, 1) := by decide +kernel
theorem dX4_count_0 : decode cX4_count 0 = .ok (.iload_n 1, 1) := by decide +kernel
theorem dX4_count_1 : decode cX4_count 1 = .ok (.tableswitch 60 0 4 #[35, 40, 45, 50, 55], 35) := by decide +kernel
theorem dX4_count_36 : decode cX4_count 36 = .ok (.aload_n 0, 1) := by decide +kernel
theorem dX4_count_37 : decode cX4_count 37 = .ok (.getfield 154, 3) := by decide +kernel
theorem dX4_count_40 : decode cX4_count 40 = .ok (.ireturn, 1) := by decide +kernel
theorem dX4_count_41 : decode cX4_count 41 = .ok (.aload_n 0, 1) := by decide +kernel
theorem dX4_count_42 : decode cX4_count 42 = .ok (.getfield 172, 3) := by decide +kernel
theorem dX4_count_45 : decode cX4_count 45 = .ok (.ireturn, 1) := by decide +kernel
theorem dX4_count_46 : decode cX4_count 46 = .ok (.aload_n 0, 1) := by decide +kernel
theorem dX4_count_47 : decode cX4_count 47 = .ok (.getfield 178, 3) := by decide +kernel
theorem dX4_count_50 : decode cX4_count 50 = .ok (.ireturn, 1) := by decide +kernel
theorem dX4_count_51 : decode cX4_count 51 = .ok (.aload_n 0, 1) := by decide +kernel
theorem dX4_count_52 : decode cX4_count 52 = .ok (.getfield 175, 3) := by decide +kernel
theorem dX4_count_55 : decode cX4_count 55 = .ok (.ireturn, 1) := by decide +kernel
theorem dX4_count_56 : decode cX4_count 56 = .ok (.aload_n 0, 1) := by decide +kernel
theorem dX4_count_57 : decode cX4_count 57 = .ok (.getfield 118, 3) := by decide +kernel
theorem dX4_count_60 : decode cX4_count 60 = .ok (.ireturn, 1) := by decide +kernel
theorem dX4_count_61 : decode cX4_count 61 = .ok (.iconst (-1), 1) := by decide +kernel
theorem dX4_count_62 : decode cX4_count 62 = .ok (.ireturn, 1) := by decide +kernel
theorem dX4_check_0 : decode cX4_check 0 = .ok (.iconst 1, 1) := by decide +kernel
theorem dX4_check_1 : decode cX4_check 1 = .ok (.istore_n 1, 1) := by decide +kernel
theorem dX4_check_2 : decode cX4_check 2 = .ok (.iconst 0, 1) := by decide +kernel
theorem dX4_check_3 : decode cX4_check 3 = .ok (.istore_n 2, 1) := by decide +kernel
theorem dX4_check_4 : decode cX4_check 4 = .ok (.iload_n 2, 1) := by decide +kernel
theorem dX4_check_5 : decode cX4_check 5 = .ok (.bipush 32, 2) := by decide +kernel
theorem dX4_check_7 : decode cX4_check 7 = .ok (.if_icmp .ge 34, 3) := by decide +kernel
theorem dX4_check_10 : decode cX4_check 10 = .ok (.iload_n 1, 1) := by decide +kernel
theorem dX4_check_11 : decode cX4_check 11 = .ok (.ifCond .eq 22, 3) := by decide +kernel
theorem dX4_check_14 : decode cX4_check 14 = .ok (.aload_n 0, 1) := by decide +kernel
theorem dX4_check_15 : decode cX4_check 15 = .ok (.getfield 112, 3) := by decide +kernel
theorem dX4_check_18 : decode cX4_check 18 = .ok (.iload_n 2, 1) := by decide +kernel
theorem dX4_check_19 : decode cX4_check 19 = .ok (.iaload, 1) := by decide +kernel
theorem dX4_check_20 : decode cX4_check 20 = .ok (.aload_n 0, 1) := by decide +kernel
theorem dX4_check_21 : decode cX4_check 21 = .ok (.getfield 115, 3) := by decide +kernel
theorem dX4_check_24 : decode cX4_check 24 = .ok (.iload_n 2, 1) := by decide +kernel
theorem dX4_check_25 : decode cX4_check 25 = .ok (.iaload, 1) := by decide +kernel
theorem dX4_check_26 : decode cX4_check 26 = .ok (.if_icmp .ne 7, 3) := by decide +kernel
theorem dX4_check_29 : decode cX4_check 29 = .ok (.iconst 1, 1) := by decide +kernel
theorem dX4_check_30 : decode cX4_check 30 = .ok (.goto 4, 3) := by decide +kernel
theorem dX4_check_33 : decode cX4_check 33 = .ok (.iconst 0, 1) := by decide +kernel
theorem dX4_check_34 : decode cX4_check 34 = .ok (.istore_n 1, 1) := by decide +kernel
theorem dX4_check_35 : decode cX4_check 35 = .ok (.iinc 2 1, 3) := by decide +kernel
theorem dX4_check_38 : decode cX4_check 38 = .ok (.goto (-34), 3) := by decide +kernel
theorem dX4_check_41 : decode cX4_check 41 = .ok (.iload_n 1, 1) := by decide +kernel
theorem dX4_check_42 : decode cX4_check 42 = .ok (.ifCond .ne 10, 3) := by decide +kernel
theorem dX4_check_45 : decode cX4_check 45 = .ok (.aload_n 0, 1) := by decide +kernel
theorem dX4_check_46 : decode cX4_check 46 = .ok (.getfield 165, 3) := by decide +kernel
theorem dX4_check_49 : decode cX4_check 49 = .ok (.ifCond .ne 7, 3) := by decide +kernel
theorem dX4_check_52 : decode cX4_check 52 = .ok (.iconst 1, 1) := by decide +kernel
theorem dX4_check_53 : decode cX4_check 53 = .ok (.goto 4, 3) := by decide +kernel
theorem dX4_check_56 : decode cX4_check 56 = .ok (.iconst 0, 1) := by decide +kernel
theorem dX4_check_57 : decode cX4_check 57 = .ok (.ireturn, 1) := by decide +kernel
end
section
/-! OUR BASE: one form of contract (sm_PW, sm_QW), static tables (sm_tab), calls and returns in that form, array contents up to their length -/
/-- the two static tables of the class: K at a cell of 64 ints, FIRST_STATE at a cell of 8 ints; 'none': nothing is asked -/
def sm_K : Nat → Int32 := fun j => (#[1116352408, 1899447441, -1245643825, -373957723, 961987163, 1508970993, -1841331548, -1424204075, -670586216, 310598401, 607225278, 1426881987, 1925078388, -2132889090, -1680079193, -1046744716, -459576895, -272742522, 264347078, 604807628, 770255983, 1249150122, 1555081692, 1996064986, -1740746414, -1473132947, -1341970488, -1084653625, -958395405, -710438585, 113926993, 338241895, 666307205, 773529912, 1294757372, 1396182291, 1695183700, 1986661051, -2117940946, -1838011259, -1564481375, -1474664885, -1035236496, -949202525, -778901479, -694614492, -200395387, 275423344, 430227734, 506948616, 659060556, 883997877, 958139571, 1322822218, 1537002063, 1747873779, 1955562222, 2024104815, -2067236844, -1933114872, -1866530822, -1538233109, -1090935817, -965641998] : Array Int32).getD j 0
def sm_F : Nat → Int32 := fun j => (#[1779033703, -1150833019, 1013904242, -1521486534, 1359893119, -1694144372, 528734635, 1541459225] : Array Int32).getD j 0
def sm_tab (th : Option (Nat × Nat)) (A : Nat → Prop) (U : State) (H : Heap) : Prop := match th with
  | none => True
  | some q => (va_Z "SeedMill$Hasher" "K" "[I" (.ref q.1) A U H ∧ va_T .int q.1 64 (fun j => .int (sm_K j)) A U H) ∧ (va_Z "SeedMill$Hasher" "FIRST_STATE" "[I" (.ref q.2) A U H ∧ va_T .int q.2 8 (fun j => .int (sm_F j)) A U H)
theorem sm_tab.moved {th : Option (Nat × Nat)} {A : Nat → Prop} {u U : State} {H : Heap} (hvm : u.vm.Alike U.vm) (h : sm_tab th A u H) : sm_tab th A U H := by
  cases th with
  | none => trivial
  | some q => exact ⟨⟨h.1.1.moved hvm, h.1.2.moved hvm⟩, ⟨h.2.1.moved hvm, h.2.2.moved hvm⟩⟩
theorem sm_tab.kept {th : Option (Nat × Nat)} {A : Nat → Prop} {U : State} {H H1 : Heap} (h : sm_tab th A U H) (hq : ∀ a : Nat, a < H.size → ¬ A a → H1[a]? = H[a]?) : sm_tab th A U H1 := by
  cases th with
  | none => trivial
  | some q => exact ⟨⟨h.1.1.kept hq, h.1.2.kept hq⟩, ⟨h.2.1.kept hq, h.2.2.kept hq⟩⟩
theorem sm_tab.narrow {th : Option (Nat × Nat)} {A B : Nat → Prop} {U : State} {H : Heap} (h : sm_tab th A U H) (hAB : ∀ q, B q → A q) : sm_tab th B U H := by
  cases th with
  | none => trivial
  | some q => exact ⟨⟨h.1.1.narrow hAB, h.1.2.narrow hAB⟩, ⟨h.2.1.narrow hAB, h.2.2.narrow hAB⟩⟩
/-- a contract's start: the cells ws, and only they -/
def sm_PW (D : va_G) (cI : ClassId) (th : Option (Nat × Nat)) (ws : va_W) (sz : Nat) (U : State) : Prop := U.heap.size = sz ∧ va_P D vwCl ws U.heap ∧ va_K D vwCl [(cI, .int)] U ∧ va_D (fun _ => True) ws ∧ sm_tab th (va_A ws sz) U U.heap
/-- a contract's end: the cells w1, out of those that were free for it -/
def sm_QW (D : va_G) (cI : ClassId) (A : Nat → Prop) (w1 : va_W) (t : State) : Prop := va_P D vwCl w1 t.heap ∧ va_K D vwCl [(cI, .int)] t ∧ va_D A w1
theorem sm_blind {D : va_G} {cI : ClassId} {th : Option (Nat × Nat)} {ws : va_W} {sz : Nat} {av : List Value} : FrameBlind (va_Pc av (sm_PW D cI th ws sz)) := by
  intro a U g mk q
  obtain ⟨q0, q1, qP, qK, qD, qT⟩ := q
  exact ⟨q0, q1, qP, va_K.moved (u := U) (U := U.calling g mk a) (Vm.Alike.refl U.vm) qK, qD, sm_tab.moved (u := U) (U := U.calling g mk a) (Vm.Alike.refl U.vm) qT⟩
theorem sm_pre {D : va_G} {cI : ClassId} {th : Option (Nat × Nat)} {wc : va_W} {s : State} {H H0 : Heap} {locs : List Loc} {A : Nat → Prop} {av : List Value} (hPc : va_P D vwCl wc H) (hDc : va_D A wc) (hK : va_K D vwCl [(cI, .int)] s) (hT : sm_tab th A s s.heap) (hS : va_S A s.heap H locs) (hFc : ∀ q, va_A wc H.size q → A q) : ∀ U : State, U.heap = H → s.WarmedH U.vm → va_Pc av (sm_PW D cI th wc H.size) av.toArray U := by
  intro U hU hW
  refine ⟨rfl, by rw [hU], by rw [hU]; exact hPc, va_K.moved hW.alike hK, hDc.weaken (fun _ _ _ _ => trivial), ?_⟩
  rw [hU]
  exact sm_tab.moved hW.alike ((hT.kept (H1 := H) hS.2.1).narrow hFc)
/-- array contents count up to the array's length only -/
theorem sm_cell_congr {cA : ClassId} {n : Nat} {f g : Nat → Int32} (h : ∀ j, j < n → f j = g j) : vp_cell cA (n, .inl f) = vp_cell cA (n, .inl g) := by
  show arrV cA n (fun j => .int (f j)) = arrV cA n (fun j => .int (g j))
  unfold arrV
  have : (Array.ofFn (n := n) fun j => Value.int (f j.val)) = (Array.ofFn (n := n) fun j => Value.int (g j.val)) := by
    congr 1
    funext j
    rw [h j.val j.isLt]
  rw [this]
theorem sm_arr {D : va_G} {cl : List vw_C} {ws : va_W} {H : Heap} (hP : va_P D cl ws H) (q0 : Nat) {a : Nat} {cA : ClassId} {n : Nat} {f : Nat → Int32} (he : ws[q0]? = some (a, .inl (cA, n, .inl f))) (g : Nat → Int32) (h : ∀ j, j < n → f j = g j) : va_P D cl (ws.set q0 (a, .inl (cA, n, .inl g))) H := by
  intro k q hk
  by_cases e : q0 = k
  · subst e
    have hl : q0 < ws.length := (List.getElem?_eq_some_iff.mp he).1
    rw [List.getElem?_set_self hl] at hk
    cases hk
    have := hP q0 _ he
    show H[a]? = some (vp_cell cA (n, .inl g))
    rw [← sm_cell_congr h]
    exact this
  · rw [List.getElem?_set_ne e] at hk
    exact hP k q hk
theorem sm_arrD {A : Nat → Prop} {ws : va_W} (hD : va_D A ws) (q0 : Nat) {a : Nat} {x y : va_E} (he : ws[q0]? = some (a, x)) : va_D A (ws.set q0 (a, y)) := hD.set he
/-- one class of int arrays -/
theorem sm_oneI {D : va_G} {cl : List vw_C} {tys : List (ClassId × FieldType)} {U : State} (h : va_K D cl tys U) {i j : Nat} {c1 c2 : ClassId} (h1 : tys[i]? = some (c1, .int)) (h2 : tys[j]? = some (c2, .int)) : c1 = c2 := by
  have e1 : U.vm.findClass ("[" ++ FieldType.int.toString) = some c1 := (h.2 i _ h1).2
  have e2 : U.vm.findClass ("[" ++ FieldType.int.toString) = some c2 := (h.2 j _ h2).2
  exact Option.some.inj (e1.symm.trans e2)
section SMW
variable {p : Program} {l : Launch} {e : Env} {R : Room} {s : State} {m : MethodId} {args : Array Value} {below : List Frame} {meth : Method} {c : Code} {H : Heap} {locs : List Loc} {cells slots : Nat} {Q : State → Prop}
variable {pc : Nat} {ls : Array Slot} {rest st0 As : List Value} {A : Nat → Prop} {mc ms : Nat} {D : va_G} {cI : ClassId} {th : Option (Nat × Nat)} {ws0 wc wr : va_W} {cc bytes : ByteArray} {nL maxL n index : Nat} {own C : String} {y : MethodName} {ret : Option FieldType} {wy Ts : List Cond} {rm : Room} {b : Nat}
/-- the end wanted gets a name -/
theorem sm_name {g : JFrame} (k : ∀ Q' : State → Prop, Q' = Q → W p l e R s m args below meth c H locs cells slots Q' g) : W p l e R s m args below meth c H locs cells slots Q g := k Q rfl
/-- another word for the number on top -/
theorem sm_top {x z : Int32} (h : x = z) (k : W p l e R s m args below meth c H locs cells slots Q (F0 m pc ls (.int z :: rest))) : W p l e R s m args below meth c H locs cells slots Q (F0 m pc ls (.int x :: rest)) := h ▸ k
theorem sm_topl {x z : Int64} (h : x = z) (k : W p l e R s m args below meth c H locs cells slots Q (F0 m pc ls (.long z :: rest))) : W p l e R s m args below meth c H locs cells slots Q (F0 m pc ls (.long x :: rest)) := h ▸ k
/-- what a caller has behind a call: the callee's new cells beside its own others -/
def sm_J (D : va_G) (A : Nat → Prop) (wc wr : va_W) (sz : Nat) (H1 : Heap) : Prop := ∀ w1 : va_W, va_P D vwCl w1 H1 → va_D (va_A wc sz) w1 → va_P D vwCl (wr ++ w1) H1 ∧ va_D A (wr ++ w1)
/-- a call of an instance method that answers an int -/
theorem sm_callVi {post : Int32 → Prop} {B : State → Prop} (S : CallFix p m c cc nL s args Ts own) (hM : Met l y wy rm (va_Pc (.ref b :: As) (sm_PW D cI th wc H.size)) (va_Qi (fun (r : Int32) (_ : Unit) => post r) (fun _ t => B t) (va_A wc H.size)) mc ms (va_A wc H.size)) (cw : CallW R s args own C index y bytes maxL ret wy rm mc ms n)
    (hP : va_P D vwCl ws0 H) (hD : va_D A ws0) (hS : va_S A s.heap H locs) (hA : ∀ q, s.heap.size ≤ q → A q) (hK : va_K D vwCl [(cI, .int)] s) (hT : sm_tab th A s s.heap)
    (isC isR : List Nat) (hC : isC.map (fun i => ws0[i]?) = wc.map some) (hR : isR.map (fun i => ws0[i]?) = wr.map some) (hnd : va_nd isC = true) (hn : va_nd isR = true) (hdis : ∀ i ∈ isR, i ∉ isC)
    (q0 ci : Nat) {qc : vw_C} {fs : List Value} (hci : vwCl[ci]? = some qc) (hqc : qc.1 = C) (hq0 : wc[q0]? = some (b, .inr (ci, fs)))
    (hnA : As.length = n) (hsize : ls.size = nL) (hstack : st0 = As.reverse ++ .ref b :: rest) (hW : (rest.map fun v => v.category).sum ≤ 8) (hdg : decode cc pc = .ok (.invokevirtual index, 3)) (hf : cells + mc ≤ R.cells ∧ slots + ms ≤ R.slots)
    (kk : ∀ (r : Int32) (t : State) (H1 : Heap) (locs1 : List Loc), t.heap = H1 → s.vm.Alike t.vm → post r → B t → sm_J D A wc wr H.size H1 → va_S A s.heap H1 locs1 → W p l e R s m args below meth c H1 locs1 (cells + mc) (slots + ms) Q (F0 m (pc + 3) ls (.int r :: rest))) : W p l e R s m args below meth c H locs cells slots Q (F0 m pc ls st0) := by
  have hFc : ∀ q, va_A wc H.size q → A q := va_free hD hS hA isC hC
  have hPc : va_P D vwCl wc H := by
    intro k q hq
    have h1 : (isC.map (fun i => ws0[i]?))[k]? = some (some q) := by rw [hC, List.getElem?_map, hq]; rfl
    rw [List.getElem?_map] at h1
    cases hi : isC[k]? with
    | none => rw [hi] at h1; cases h1
    | some i => rw [hi] at h1; exact hP i q (Option.some.inj h1)
  have hDc : va_D A wc := hD.sub isC hnd hC
  refine va_calli (va_runV S hM cw ⟨sm_blind, by rw [← hqc]; exact va_recv hK hPc hci hq0, sm_pre (av := .ref b :: As) (H0 := s.heap) hPc hDc hK hT hS hFc⟩ rfl hnA hsize hstack (lv_room hW) hdg hf) hS (fun q _ h => hFc q h) hFc (fun r u t H1 locs1 ht hvm hw hB hz hk hS1 => kk r t H1 locs1 ht hvm hw hB (fun w1 h1 h2 => va_join hP hD isC isR hC hR hn hdis hk hFc h1 h2) hS1)
/-- a call of an instance method that answers nothing -/
theorem sm_callVv {B : State → Prop} (S : CallFix p m c cc nL s args Ts own) (hM : Met l y wy rm (va_Pc (.ref b :: As) (sm_PW D cI th wc H.size)) (va_Qv (fun (_ : Unit) => True) (fun _ t => B t) (va_A wc H.size)) mc ms (va_A wc H.size)) (cw : CallW R s args own C index y bytes maxL ret wy rm mc ms n)
    (hP : va_P D vwCl ws0 H) (hD : va_D A ws0) (hS : va_S A s.heap H locs) (hA : ∀ q, s.heap.size ≤ q → A q) (hK : va_K D vwCl [(cI, .int)] s) (hT : sm_tab th A s s.heap)
    (isC isR : List Nat) (hC : isC.map (fun i => ws0[i]?) = wc.map some) (hR : isR.map (fun i => ws0[i]?) = wr.map some) (hnd : va_nd isC = true) (hn : va_nd isR = true) (hdis : ∀ i ∈ isR, i ∉ isC)
    (q0 ci : Nat) {qc : vw_C} {fs : List Value} (hci : vwCl[ci]? = some qc) (hqc : qc.1 = C) (hq0 : wc[q0]? = some (b, .inr (ci, fs)))
    (hnA : As.length = n) (hsize : ls.size = nL) (hstack : st0 = As.reverse ++ .ref b :: rest) (hW : (rest.map fun v => v.category).sum ≤ 8) (hdg : decode cc pc = .ok (.invokevirtual index, 3)) (hf : cells + mc ≤ R.cells ∧ slots + ms ≤ R.slots)
    (kk : ∀ (t : State) (H1 : Heap) (locs1 : List Loc), t.heap = H1 → s.vm.Alike t.vm → B t → sm_J D A wc wr H.size H1 → va_S A s.heap H1 locs1 → W p l e R s m args below meth c H1 locs1 (cells + mc) (slots + ms) Q (F0 m (pc + 3) ls rest)) : W p l e R s m args below meth c H locs cells slots Q (F0 m pc ls st0) := by
  have hFc : ∀ q, va_A wc H.size q → A q := va_free hD hS hA isC hC
  have hPc : va_P D vwCl wc H := by
    intro k q hq
    have h1 : (isC.map (fun i => ws0[i]?))[k]? = some (some q) := by rw [hC, List.getElem?_map, hq]; rfl
    rw [List.getElem?_map] at h1
    cases hi : isC[k]? with
    | none => rw [hi] at h1; cases h1
    | some i => rw [hi] at h1; exact hP i q (Option.some.inj h1)
  have hDc : va_D A wc := hD.sub isC hnd hC
  refine va_callv (va_runV S hM cw ⟨sm_blind, by rw [← hqc]; exact va_recv hK hPc hci hq0, sm_pre (av := .ref b :: As) (H0 := s.heap) hPc hDc hK hT hS hFc⟩ rfl hnA hsize hstack (lv_room hW) hdg hf) hS (fun q _ h => hFc q h) hFc (fun u t H1 locs1 ht hvm hw hB hz hk hS1 => kk t H1 locs1 ht hvm hB (fun w1 h1 h2 => va_join hP hD isC isR hC hR hn hdis hk hFc h1 h2) hS1)
/-- a call of a static method that answers an int -/
theorem sm_callSi {post : Int32 → Prop} {B : State → Prop} (S : CallFix p m c cc nL s args Ts own) (hM : Met l y wy rm (va_Pc As (sm_PW D cI th wc H.size)) (va_Qi (fun (r : Int32) (_ : Unit) => post r) (fun _ t => B t) (va_A wc H.size)) mc ms (va_A wc H.size)) (cw : CallB R s args own index y bytes maxL ret wy rm mc ms n ∧ (Cond.static y).before args s = true)
    (hP : va_P D vwCl ws0 H) (hD : va_D A ws0) (hS : va_S A s.heap H locs) (hA : ∀ q, s.heap.size ≤ q → A q) (hK : va_K D vwCl [(cI, .int)] s) (hT : sm_tab th A s s.heap)
    (isC isR : List Nat) (hC : isC.map (fun i => ws0[i]?) = wc.map some) (hR : isR.map (fun i => ws0[i]?) = wr.map some) (hnd : va_nd isC = true) (hn : va_nd isR = true) (hdis : ∀ i ∈ isR, i ∉ isC)
    (hnA : As.length = n) (hsize : ls.size = nL) (hstack : st0 = As.reverse ++ rest) (hW : (rest.map fun v => v.category).sum ≤ 8) (hdg : decode cc pc = .ok (.invokestatic index, 3)) (hf : cells + mc ≤ R.cells ∧ slots + ms ≤ R.slots)
    (kk : ∀ (r : Int32) (t : State) (H1 : Heap) (locs1 : List Loc), t.heap = H1 → s.vm.Alike t.vm → post r → B t → sm_J D A wc wr H.size H1 → va_S A s.heap H1 locs1 → W p l e R s m args below meth c H1 locs1 (cells + mc) (slots + ms) Q (F0 m (pc + 3) ls (.int r :: rest))) : W p l e R s m args below meth c H locs cells slots Q (F0 m pc ls st0) := by
  have hFc : ∀ q, va_A wc H.size q → A q := va_free hD hS hA isC hC
  have hPc : va_P D vwCl wc H := by
    intro k q hq
    have h1 : (isC.map (fun i => ws0[i]?))[k]? = some (some q) := by rw [hC, List.getElem?_map, hq]; rfl
    rw [List.getElem?_map] at h1
    cases hi : isC[k]? with
    | none => rw [hi] at h1; cases h1
    | some i => rw [hi] at h1; exact hP i q (Option.some.inj h1)
  have hDc : va_D A wc := hD.sub isC hnd hC
  refine va_calli (va_runS S hM cw ⟨sm_blind, sm_pre (av := As) (H0 := s.heap) hPc hDc hK hT hS hFc⟩ rfl hnA hsize hstack (lv_room hW) hdg hf) hS (fun q _ h => hFc q h) hFc (fun r u t H1 locs1 ht hvm hw hB hz hk hS1 => kk r t H1 locs1 ht hvm hw hB (fun w1 h1 h2 => va_join hP hD isC isR hC hR hn hdis hk hFc h1 h2) hS1)
/-- a call of a static method that answers nothing -/
theorem sm_callSv {B : State → Prop} (S : CallFix p m c cc nL s args Ts own) (hM : Met l y wy rm (va_Pc As (sm_PW D cI th wc H.size)) (va_Qv (fun (_ : Unit) => True) (fun _ t => B t) (va_A wc H.size)) mc ms (va_A wc H.size)) (cw : CallB R s args own index y bytes maxL ret wy rm mc ms n ∧ (Cond.static y).before args s = true)
    (hP : va_P D vwCl ws0 H) (hD : va_D A ws0) (hS : va_S A s.heap H locs) (hA : ∀ q, s.heap.size ≤ q → A q) (hK : va_K D vwCl [(cI, .int)] s) (hT : sm_tab th A s s.heap)
    (isC isR : List Nat) (hC : isC.map (fun i => ws0[i]?) = wc.map some) (hR : isR.map (fun i => ws0[i]?) = wr.map some) (hnd : va_nd isC = true) (hn : va_nd isR = true) (hdis : ∀ i ∈ isR, i ∉ isC)
    (hnA : As.length = n) (hsize : ls.size = nL) (hstack : st0 = As.reverse ++ rest) (hW : (rest.map fun v => v.category).sum ≤ 8) (hdg : decode cc pc = .ok (.invokestatic index, 3)) (hf : cells + mc ≤ R.cells ∧ slots + ms ≤ R.slots)
    (kk : ∀ (t : State) (H1 : Heap) (locs1 : List Loc), t.heap = H1 → s.vm.Alike t.vm → B t → sm_J D A wc wr H.size H1 → va_S A s.heap H1 locs1 → W p l e R s m args below meth c H1 locs1 (cells + mc) (slots + ms) Q (F0 m (pc + 3) ls rest)) : W p l e R s m args below meth c H locs cells slots Q (F0 m pc ls st0) := by
  have hFc : ∀ q, va_A wc H.size q → A q := va_free hD hS hA isC hC
  have hPc : va_P D vwCl wc H := by
    intro k q hq
    have h1 : (isC.map (fun i => ws0[i]?))[k]? = some (some q) := by rw [hC, List.getElem?_map, hq]; rfl
    rw [List.getElem?_map] at h1
    cases hi : isC[k]? with
    | none => rw [hi] at h1; cases h1
    | some i => rw [hi] at h1; exact hP i q (Option.some.inj h1)
  have hDc : va_D A wc := hD.sub isC hnd hC
  refine va_callv (va_runS S hM cw ⟨sm_blind, sm_pre (av := As) (H0 := s.heap) hPc hDc hK hT hS hFc⟩ rfl hnA hsize hstack (lv_room hW) hdg hf) hS (fun q _ h => hFc q h) hFc (fun u t H1 locs1 ht hvm hw hB hz hk hS1 => kk t H1 locs1 ht hvm hB (fun w1 h1 h2 => va_join hP hD isC isR hC hR hn hdis hk hFc h1 h2) hS1)
/-- a call of a constructor -/
theorem sm_callIv {B : State → Prop} (S : CallFix p m c cc nL s args Ts own) (hM : Met l y wy rm (va_Pc (.ref b :: As) (sm_PW D cI th wc H.size)) (va_Qv (fun (_ : Unit) => True) (fun _ t => B t) (va_A wc H.size)) mc ms (va_A wc H.size)) (cw : CallB R s args own index y bytes maxL none wy rm mc ms n ∧ y.name = "<init>" ∧ (Cond.instanceMethod y).before args s = true)
    (hP : va_P D vwCl ws0 H) (hD : va_D A ws0) (hS : va_S A s.heap H locs) (hA : ∀ q, s.heap.size ≤ q → A q) (hK : va_K D vwCl [(cI, .int)] s) (hT : sm_tab th A s s.heap)
    (isC isR : List Nat) (hC : isC.map (fun i => ws0[i]?) = wc.map some) (hR : isR.map (fun i => ws0[i]?) = wr.map some) (hnd : va_nd isC = true) (hn : va_nd isR = true) (hdis : ∀ i ∈ isR, i ∉ isC)
    (hnA : As.length = n) (hsize : ls.size = nL) (hstack : st0 = As.reverse ++ .ref b :: rest) (hW : (rest.map fun v => v.category).sum ≤ 8) (hdg : decode cc pc = .ok (.invokespecial index, 3)) (hf : cells + mc ≤ R.cells ∧ slots + ms ≤ R.slots)
    (kk : ∀ (t : State) (H1 : Heap) (locs1 : List Loc), t.heap = H1 → s.vm.Alike t.vm → B t → sm_J D A wc wr H.size H1 → va_S A s.heap H1 locs1 → W p l e R s m args below meth c H1 locs1 (cells + mc) (slots + ms) Q (F0 m (pc + 3) ls rest)) : W p l e R s m args below meth c H locs cells slots Q (F0 m pc ls st0) := by
  have hFc : ∀ q, va_A wc H.size q → A q := va_free hD hS hA isC hC
  have hPc : va_P D vwCl wc H := by
    intro k q hq
    have h1 : (isC.map (fun i => ws0[i]?))[k]? = some (some q) := by rw [hC, List.getElem?_map, hq]; rfl
    rw [List.getElem?_map] at h1
    cases hi : isC[k]? with
    | none => rw [hi] at h1; cases h1
    | some i => rw [hi] at h1; exact hP i q (Option.some.inj h1)
  have hDc : va_D A wc := hD.sub isC hnd hC
  refine va_callv (va_runI S hM cw ⟨sm_blind, sm_pre (av := .ref b :: As) (H0 := s.heap) hPc hDc hK hT hS hFc⟩ rfl hnA hsize hstack (lv_room hW) hdg hf) hS (fun q _ h => hFc q h) hFc (fun u t H1 locs1 ht hvm hw hB hz hk hS1 => kk t H1 locs1 ht hvm hB (fun w1 h1 h2 => va_join hP hD isC isR hC hR hn hdis hk hFc h1 h2) hS1)
end SMW
end
section
/-! THE MATHEMATICS that both sides are tied to: rows as functions with a length; the hash; the keyed hash -/
def sm_us (x y : Int32) : Int32 := (x.toUInt32 >>> (y.toUInt32 &&& Int32.toUInt32 31)).toInt32
def sm_lus (x : Int64) (y : Int32) : Int64 := (x.toUInt64 >>> (y.toInt64.toUInt64 &&& Int64.toUInt64 63)).toInt64
def sm_lsr (x : Int64) (y : Int32) : Int64 := x >>> (y.toInt64 &&& 63)
def sm_lsl (x : Int64) (y : Int32) : Int64 := x <<< (y.toInt64 &&& 63)
/-- e places of g laid into f from u on -/
def sm_ap (f : Nat → Int32) (u : Nat) (g : Nat → Int32) (e : Nat) : Nat → Int32 := fun j => if u ≤ j ∧ j < u + e then g (j - u) else f j
theorem sm_ap_0 (f : Nat → Int32) (u : Nat) (g : Nat → Int32) : sm_ap f u g 0 = f := by
  funext j
  unfold sm_ap
  rw [if_neg (by omega)]
theorem sm_ap_s (f : Nat → Int32) (u : Nat) (g : Nat → Int32) (i : Nat) : upd (sm_ap f u g i) (u + i) (g i) = sm_ap f u g (i + 1) := by
  funext j
  unfold upd sm_ap
  by_cases h : j = u + i
  · subst h
    rw [if_pos rfl, if_pos (by omega)]
    congr 1
    omega
  · rw [if_neg h]
    by_cases h2 : u ≤ j ∧ j < u + i
    · rw [if_pos h2, if_pos (by omega)]
    · rw [if_neg h2, if_neg (by omega)]
theorem sm_ap_lo {f g : Nat → Int32} {u e j : Nat} (h : j < u) : sm_ap f u g e j = f j := by unfold sm_ap; rw [if_neg (by omega)]
theorem sm_ap_hi {f g : Nat → Int32} {u e j : Nat} (h : j < e) : sm_ap f u g e (u + j) = g j := by
  unfold sm_ap
  rw [if_pos (by omega)]
  congr 1
  omega
theorem sm_ap_out {f g : Nat → Int32} {u e j : Nat} (h : u + e ≤ j) : sm_ap f u g e j = f j := by unfold sm_ap; rw [if_neg (by omega)]
/-- the four bytes of a word, the highest first -/
def sm_wb (w : Int32) (j : Nat) : Int32 := sm_us w (nI (24 - 8 * j)) &&& 255
/-- the word that four bytes make -/
def sm_wd (m : Nat → Int32) (i : Nat) : Int32 := m i <<< ((24 : Int32) &&& 31) ||| m (i + 1) <<< ((16 : Int32) &&& 31) ||| m (i + 2) <<< ((8 : Int32) &&& 31) ||| m (i + 3)
theorem sm_wb_4 (f : Nat → Int32) (u : Nat) (w : Int32) : upd (upd (upd (upd f u (sm_us w 24 &&& 255)) (u + 1) (sm_us w 16 &&& 255)) (u + 1 + 1) (sm_us w 8 &&& 255)) (u + 1 + 1 + 1) (sm_us w 0 &&& 255) = sm_ap f u (sm_wb w) 4 := by
  have h := sm_ap_s f u (sm_wb w)
  rw [← h 3, ← h 2, ← h 1, ← h 0, sm_ap_0]
  rfl
/-- what Row.at answers -/
def sm_at (f : Nat → Int32) (k : Nat) (i : Int32) : Int32 := if i < 0 ∨ nI k ≤ i then -1 else f i.toNatClampNeg
theorem sm_at_in {f : Nat → Int32} {k j : Nat} (h : j < k) (hk : k < 2 ^ 31) : sm_at f k (nI j) = f j := by
  unfold sm_at
  rw [if_neg, nI_clamp (by omega)]
  intro q
  rcases q with q | q
  · exact nI_pos (by omega) q
  · exact nI_ge h hk q
theorem sm_min {a b : Nat} (ha : a < 2 ^ 31) (hb : b < 2 ^ 31) : (if nI b < nI a then nI b else nI a) = nI (min a b) := by
  by_cases h : b < a
  · rw [if_pos (nI_lt h ha), Nat.min_eq_right (Nat.le_of_lt h)]
  · rw [if_neg (nI_nlt (Nat.le_of_not_lt h) hb), Nat.min_eq_left (Nat.le_of_not_lt h)]
/-- moved round, as the library does it -/
def sm_rr (x y : Int32) : Int32 := sm_us x y ||| x <<< (-y &&& 31)
end
section
/-! the hash, as mathematics over rows (functions with a length) -/
def sm_s0 (x : Int32) : Int32 := sm_rr x 7 ^^^ sm_rr x 18 ^^^ sm_us x 3
def sm_s1 (x : Int32) : Int32 := sm_rr x 17 ^^^ sm_rr x 19 ^^^ sm_us x 10
def sm_S (x a b c : Int32) : Int32 := sm_rr x a ^^^ sm_rr x b ^^^ sm_rr x c
/-- the schedule's array behind t steps, w being there at first -/
def sm_sc (m : Nat → Int32) (s : Nat) (w : Nat → Int32) : Nat → Nat → Int32
  | 0 => w
  | t + 1 => upd (sm_sc m s w t) t (if t < 16 then sm_wd m (s + 4 * t) else sm_sc m s w t (t - 16) + sm_s0 (sm_sc m s w t (t - 15)) + sm_sc m s w t (t - 7) + sm_s1 (sm_sc m s w t (t - 2)))
def sm_W (m : Nat → Int32) (s : Nat) : Nat → Int32 := sm_sc m s (fun _ => 0) 64
theorem sm_sc_congr {m m' : Nat → Int32} {s : Nat} {w w' : Nat → Int32} (hm : ∀ j, s ≤ j → j < s + 64 → m j = m' j) : ∀ t j, j < t → sm_sc m s w t j = sm_sc m' s w' t j := by
  intro t
  induction t with
  | zero => intro j h; omega
  | succ t ih =>
    intro j h
    show upd (sm_sc m s w t) t _ j = upd (sm_sc m' s w' t) t _ j
    unfold upd
    by_cases e : j = t
    · rw [if_pos e, if_pos e]
      by_cases h16 : t < 16
      · rw [if_pos h16, if_pos h16]
        unfold sm_wd
        rw [hm _ (by omega) (by omega), hm _ (by omega) (by omega), hm _ (by omega) (by omega), hm _ (by omega) (by omega)]
      · rw [if_neg h16, if_neg h16, ih (t - 16) (by omega), ih (t - 15) (by omega), ih (t - 7) (by omega), ih (t - 2) (by omega)]
    · rw [if_neg e, if_neg e]
      exact ih j (by omega)
theorem sm_W_congr {m m' : Nat → Int32} {s : Nat} (hm : ∀ j, s ≤ j → j < s + 64 → m j = m' j) : ∀ j, j < 64 → sm_W m s j = sm_W m' s j := sm_sc_congr hm 64
abbrev sm_T8 : Type := Int32 × Int32 × Int32 × Int32 × Int32 × Int32 × Int32 × Int32
def sm_t1 (e f g h k w : Int32) : Int32 := h + sm_S e 6 11 25 + (e &&& f ^^^ (e ^^^ (-1)) &&& g) + k + w
def sm_t2 (a b c : Int32) : Int32 := sm_S a 2 13 22 + (a &&& b ^^^ a &&& c ^^^ b &&& c)
def sm_rd (k w : Int32) (x : sm_T8) : sm_T8 := match x with
  | (a, b, c, d, e, f, g, h) => (sm_t1 e f g h k w + sm_t2 a b c, a, b, c, d + sm_t1 e f g h k w, e, f, g)
def sm_rds (w : Nat → Int32) : Nat → sm_T8 → sm_T8
  | 0, x => x
  | t + 1, x => sm_rd (sm_K t) (w t) (sm_rds w t x)
theorem sm_rds_congr {w w' : Nat → Int32} (x : sm_T8) : ∀ t, (∀ j, j < t → w j = w' j) → sm_rds w t x = sm_rds w' t x := by
  intro t
  induction t with
  | zero => intro _; rfl
  | succ t ih =>
    intro h
    show sm_rd _ _ _ = sm_rd _ _ _
    rw [ih (fun j hj => h j (by omega)), h t (by omega)]
def sm_o8 (x : sm_T8) (j : Nat) : Int32 := match x with
  | (a, b, c, d, e, f, g, h) => match j with
    | 0 => a
    | 1 => b
    | 2 => c
    | 3 => d
    | 4 => e
    | 5 => f
    | 6 => g
    | _ => h
def sm_i8 (H : Nat → Int32) : sm_T8 := (H 0, H 1, H 2, H 3, H 4, H 5, H 6, H 7)
/-- one block: the state's words behind it -/
def sm_cp (w H : Nat → Int32) : Nat → Int32 := fun j => H j + sm_o8 (sm_rds w 64 (sm_i8 H)) j
theorem sm_cp_congr {w w' H H' : Nat → Int32} (hw : ∀ j, j < 64 → w j = w' j) (hH : ∀ j, j < 8 → H j = H' j) : ∀ j, j < 8 → sm_cp w H j = sm_cp w' H' j := by
  intro j hj
  unfold sm_cp
  have e : sm_i8 H = sm_i8 H' := by
    unfold sm_i8
    rw [hH 0 (by omega), hH 1 (by omega), hH 2 (by omega), hH 3 (by omega), hH 4 (by omega), hH 5 (by omega), hH 6 (by omega), hH 7 (by omega)]
  rw [hH j hj, e, sm_rds_congr _ 64 hw]
def sm_hs (m : Nat → Int32) : Nat → Nat → Int32
  | 0 => sm_F
  | b + 1 => sm_cp (sm_W m (64 * b)) (sm_hs m b)
theorem sm_hs_congr {m m' : Nat → Int32} : ∀ b, (∀ j, j < 64 * b → m j = m' j) → ∀ j, j < 8 → sm_hs m b j = sm_hs m' b j := by
  intro b
  induction b with
  | zero => intro _ j _; rfl
  | succ b ih =>
    intro h
    exact sm_cp_congr (sm_W_congr (fun j h1 h2 => h j (by omega))) (ih (fun j hj => h j (by omega)))
/-- blocks of a row of n bytes, padded -/
def sm_nb (n : Nat) : Nat := (n + 8) / 64 + 1
def sm_pm (m : Nat → Int32) (n : Nat) : Nat → Int32 := fun j => if j < n then m j else if j = n then 128 else if j < 64 * sm_nb n - 4 then 0 else sm_wb (nI (8 * n)) (j - (64 * sm_nb n - 4))
theorem sm_pm_congr {m m' : Nat → Int32} {n : Nat} (h : ∀ j, j < n → m j = m' j) : sm_pm m n = sm_pm m' n := by
  funext j
  unfold sm_pm
  by_cases e : j < n
  · rw [if_pos e, if_pos e, h j e]
  · rw [if_neg e, if_neg e]
/-- THE HASH of the n bytes m: its 32 bytes -/
def sm_sha (m : Nat → Int32) (n : Nat) : Nat → Int32 := fun j => sm_wb (sm_hs (sm_pm m n) (sm_nb n) (j / 4)) (j % 4)
theorem sm_sha_congr {m m' : Nat → Int32} {n : Nat} (h : ∀ j, j < n → m j = m' j) : sm_sha m n = sm_sha m' n := by
  unfold sm_sha
  rw [sm_pm_congr h]
/-- two rows, one behind the other -/
def sm_cat (f : Nat → Int32) (a : Nat) (g : Nat → Int32) : Nat → Int32 := fun j => if j < a then f j else g (j - a)
theorem sm_cat_lo {f g : Nat → Int32} {a j : Nat} (h : j < a) : sm_cat f a g j = f j := if_pos h
theorem sm_cat_hi {f g : Nat → Int32} {a j : Nat} (h : a ≤ j) : sm_cat f a g j = g (j - a) := if_neg (by omega)
/-- the key as the keyed hash has it: 64 bytes -/
def sm_kb (k : Nat → Int32) (n : Nat) : Nat → Int32 := fun j => if 64 < n then (if j < 32 then sm_sha k n j else 0) else (if j < n then k j else 0)
theorem sm_kb_congr {k k' : Nat → Int32} {n : Nat} (h : ∀ j, j < n → k j = k' j) : sm_kb k n = sm_kb k' n := by
  funext j
  unfold sm_kb
  rw [sm_sha_congr h]
  by_cases e : 64 < n
  · rw [if_pos e, if_pos e]
  · rw [if_neg e, if_neg e]
    by_cases e2 : j < n
    · rw [if_pos e2, if_pos e2, h j e2]
    · rw [if_neg e2, if_neg e2]
def sm_out (kb d : Nat → Int32) : Nat → Int32 := sm_sha (sm_cat (fun j => kb j ^^^ 92) 64 d) 96
/-- THE KEYED HASH of the key k of kn bytes and the n bytes m -/
def sm_hm (k : Nat → Int32) (kn : Nat) (m : Nat → Int32) (n : Nat) : Nat → Int32 := sm_out (sm_kb k kn) (sm_sha (sm_cat (fun j => sm_kb k kn j ^^^ 54) 64 m) (64 + n))
theorem sm_out_congr {kb kb' d d' : Nat → Int32} (h1 : ∀ j, j < 64 → kb j = kb' j) (h2 : ∀ j, j < 32 → d j = d' j) : sm_out kb d = sm_out kb' d' := by
  unfold sm_out
  apply sm_sha_congr
  intro j hj
  by_cases e : j < 64
  · rw [sm_cat_lo e, sm_cat_lo e, h1 j e]
  · rw [sm_cat_hi (by omega), sm_cat_hi (by omega), h2 _ (by omega)]
theorem sm_hm_congr {k k' m m' : Nat → Int32} {kn n : Nat} (hk : ∀ j, j < kn → k j = k' j) (hm : ∀ j, j < n → m j = m' j) : sm_hm k kn m n = sm_hm k' kn m' n := by
  unfold sm_hm
  rw [sm_kb_congr hk]
  refine congrArg (sm_out (sm_kb k' kn)) (sm_sha_congr (fun j hj => ?_))
  by_cases e : j < 64
  · rw [sm_cat_lo e, sm_cat_lo e]
  · rw [sm_cat_hi (by omega), sm_cat_hi (by omega), hm _ (by omega)]
end
section
/-! small laws for the walks of the hash -/
theorem sm_sc_lo {m : Nat → Int32} {s : Nat} {w : Nat → Int32} {t : Nat} (h : t < 16) : upd (sm_sc m s w t) t (sm_wd m (s + 4 * t)) = sm_sc m s w (t + 1) := by
  show _ = upd (sm_sc m s w t) t _
  rw [if_pos h]
theorem sm_sc_hi {m : Nat → Int32} {s : Nat} {w : Nat → Int32} {t : Nat} (h : 16 ≤ t) : upd (sm_sc m s w t) t (sm_sc m s w t (t - 16) + sm_s0 (sm_sc m s w t (t - 15)) + sm_sc m s w t (t - 7) + sm_s1 (sm_sc m s w t (t - 2))) = sm_sc m s w (t + 1) := by
  show _ = upd (sm_sc m s w t) t _
  rw [if_neg (by omega)]
theorem sm_cp_8 {w H : Nat → Int32} {x1 x2 x3 x4 x5 x6 x7 x8 : Int32} (hx : (x1, x2, x3, x4, x5, x6, x7, x8) = sm_rds w 64 (sm_i8 H)) : ∀ j, j < 8 → upd (upd (upd (upd (upd (upd (upd (upd H 0 (H 0 + x1)) 1 (H 1 + x2)) 2 (H 2 + x3)) 3 (H 3 + x4)) 4 (H 4 + x5)) 5 (H 5 + x6)) 6 (H 6 + x7)) 7 (H 7 + x8) j = sm_cp w H j := by
  intro j hj
  unfold sm_cp
  rw [← hx]
  rcases (show j = 0 ∨ j = 1 ∨ j = 2 ∨ j = 3 ∨ j = 4 ∨ j = 5 ∨ j = 6 ∨ j = 7 by omega) with h | h | h | h | h | h | h | h <;> subst h <;> rfl
theorem sm_rds_s {w : Nat → Int32} {t : Nat} {x : sm_T8} {x1 x2 x3 x4 x5 x6 x7 x8 : Int32} (hx : (x1, x2, x3, x4, x5, x6, x7, x8) = sm_rds w t x) : (sm_t1 x5 x6 x7 x8 (sm_K t) (w t) + sm_t2 x1 x2 x3, x1, x2, x3, x4 + sm_t1 x5 x6 x7 x8 (sm_K t) (w t), x5, x6, x7) = sm_rds w (t + 1) x := by
  show _ = sm_rd (sm_K t) (w t) (sm_rds w t x)
  rw [← hx]
  rfl
theorem sm_ap_congr {f g g' : Nat → Int32} {u e : Nat} (h : ∀ j, j < e → g j = g' j) : sm_ap f u g e = sm_ap f u g' e := by
  funext j
  unfold sm_ap
  by_cases c : u ≤ j ∧ j < u + e
  · rw [if_pos c, if_pos c, h _ (by omega)]
  · rw [if_neg c, if_neg c]
theorem sm_ap_ap {f g h : Nat → Int32} {u e k : Nat} (hh : ∀ j, j < k → h j = g (e + j)) : sm_ap (sm_ap f u g e) (u + e) h k = sm_ap f u g (e + k) := by
  funext j
  unfold sm_ap
  by_cases c : u + e ≤ j ∧ j < u + e + k
  · rw [if_pos c, if_pos (by omega), hh _ (by omega)]
    congr 1
    omega
  · rw [if_neg c]
    by_cases c2 : u ≤ j ∧ j < u + e
    · rw [if_pos c2, if_pos (by omega)]
    · rw [if_neg c2, if_neg (by omega)]
/-- the bytes of eight words -/
def sm_dg (H : Nat → Int32) : Nat → Int32 := fun j => sm_wb (H (j / 4)) (j % 4)
theorem sm_dg_s (f H : Nat → Int32) (i : Nat) : sm_ap (sm_ap f 0 (sm_dg H) (4 * i)) (4 * i) (sm_wb (H i)) 4 = sm_ap f 0 (sm_dg H) (4 * (i + 1)) := by
  have h := sm_ap_ap (f := f) (g := sm_dg H) (h := sm_wb (H i)) (u := 0) (e := 4 * i) (k := 4) (fun j hj => by
    unfold sm_dg
    rw [show (4 * i + j) / 4 = i by omega, show (4 * i + j) % 4 = j by omega])
  rw [Nat.zero_add] at h
  exact h
theorem sm_dg_sha {f m m' : Nat → Int32} {n : Nat} (h : ∀ j, j < 64 * sm_nb n → m' j = sm_pm m n j) : sm_ap f 0 (sm_dg (sm_hs m' (sm_nb n))) 32 = sm_ap f 0 (sm_sha m n) 32 := by
  apply sm_ap_congr
  intro j hj
  show sm_wb _ _ = sm_wb _ _
  rw [sm_hs_congr (sm_nb n) h (j / 4) (by omega)]
theorem sm_wb0 : ∀ j, j < 4 → sm_wb 0 j = 0 := by decide +kernel
/-- Math.floorMod as its code does it -/
def sm_fm (x y : Int32) : Int32 := if 0 ≤ x ^^^ y then x - x / y * y else if x - x / y * y = 0 then x - x / y * y else (x - x / y * y) + y
theorem sm_fm_64 : ∀ a, a < 449 → sm_fm (56 - nI a) 64 = nI (64 * ((a + 7) / 64) + 56 - a) := by decide +kernel
/-- the padded row, as it is laid -/
theorem sm_pad (f : Nat → Int32) (n z : Nat) (hz : z = 64 * ((n + 1 + 7) / 64) + 56 - (n + 1)) : ∀ j, j < 64 * sm_nb n → sm_ap (sm_ap (sm_ap (upd f n 128) (n + 1) (fun _ => 0) z) (n + 1 + z) (sm_wb 0) 4) (n + 1 + z + 4) (sm_wb (nI (n * 8))) 4 j = sm_pm f n j := by
  intro j hj
  have hb : 64 * sm_nb n = n + 1 + z + 8 := by unfold sm_nb; omega
  unfold sm_pm
  rw [hb]
  by_cases h1 : j < n
  · rw [sm_ap_lo (by omega), sm_ap_lo (by omega), sm_ap_lo (by omega), if_pos h1, pk_un (by omega)]
  · rw [if_neg h1]
    by_cases h2 : j = n
    · rw [if_pos h2, sm_ap_lo (by omega), sm_ap_lo (by omega), sm_ap_lo (by omega), h2, pk_us]
    · rw [if_neg h2]
      by_cases h3 : j < n + 1 + z + 8 - 4
      · rw [if_pos h3, sm_ap_lo (by omega)]
        by_cases h4 : j < n + 1 + z
        · rw [sm_ap_lo h4]
          obtain ⟨i, rfl⟩ : ∃ i, j = n + 1 + i := ⟨j - (n + 1), by omega⟩
          rw [sm_ap_hi (by omega)]
        · obtain ⟨i, rfl⟩ : ∃ i, j = n + 1 + z + i := ⟨j - (n + 1 + z), by omega⟩
          rw [sm_ap_hi (by omega), sm_wb0 i (by omega)]
      · rw [if_neg h3]
        obtain ⟨i, rfl⟩ : ∃ i, j = n + 1 + z + 4 + i := ⟨j - (n + 1 + z + 4), by omega⟩
        rw [sm_ap_hi (by omega), Nat.mul_comm]
        congr 1
        omega
section SMC
variable {p : Program} {l : Launch} {e : Env} {R : Room} {s : State} {m : MethodId} {args : Array Value} {below : List Frame} {meth : Method} {c : Code} {H : Heap} {locs : List Loc} {cells slots : Nat} {Q : State → Prop}
variable {pc : Nat} {ls : Array Slot} {rest : List Value} {D : va_G} {A : Nat → Prop} {a : Nat} {ws : va_W}
/-- System.arraycopy out of a static table (a table says only: at least N places, and N as an int) -/
theorem sm_copyT {cc : ByteArray} (hexec : p.tables.exec = Jvm.exec) (hb : c.code = cc) (hml : c.maxLocals = ls.size) {own : String} {index : Nat} (hown : s.vm.findClass own = some m.cls) (hlink : (Cond.methodLink own index arraycopyName).before args s = true) (hnat : (Cond.native arraycopyName).before args s = true) (hstat : (Cond.static arraycopyName).before args s = true) (hini : (Cond.initialized "java/lang/System").before args s = true)
    {tys : List (ClassId × FieldType)} (hK : va_K D vwCl tys s) (hP : va_P D vwCl ws H) (hD : va_D A ws) (hS : va_S A s.heap H locs) {b0 N : Nat} {f : Nat → Int32} (hT : va_T .int b0 N (fun j => .int (f j)) A s s.heap) (q1 t1 : Nat) {c1 : ClassId} {n1 : Nat} {g : Nat → Int32} (ha1 : ws[q1]? = some (a, .inl (c1, n1, .inl g))) (ht1 : tys[t1]? = some (c1, .int))
    {k : Nat} (hk : k < 2 ^ 31) (hkN : k ≤ N) (hk1 : k ≤ n1)
    (hframes : 1 ≤ R.frames) (hlocals : (rest.map fun v => v.category).sum + (nativeFrameWords "java/lang/System" "arraycopy" 5 + 11) ≤ R.locals) (hdg : decode cc pc = .ok (.invokestatic index, 3))
    (kk : ∀ (H1 : Heap) (locs1 : List Loc), va_P D vwCl (ws.set q1 (a, .inl (c1, n1, .inl (sm_ap g 0 f k)))) H1 → va_D A (ws.set q1 (a, .inl (c1, n1, .inl (sm_ap g 0 f k)))) → va_S A s.heap H1 locs1 → W p l e R s m args below meth c H1 locs1 cells slots Q (F0 m (pc + 3) ls rest)) : W p l e R s m args below meth c H locs cells slots Q (F0 m pc ls (.int (nI k) :: .int 0 :: .ref a :: .int 0 :: .ref b0 :: rest)) := by
  intro T hT0 X
  obtain ⟨scr, hs1, hs2, hs3, hs4, -, hs5, hbA⟩ := hT
  have hc0 : H[b0]? = some scr := by rw [hS.2.1 b0 (Array.getElem?_eq_some_iff.mp hs1).1 hbA]; exact hs1
  have hc1 : H[a]? = some (vp_cell c1 (n1, .inl g)) := hP q1 _ ha1
  obtain ⟨hs6, k0, hk0, cm0, hkk0⟩ := hs2
  obtain ⟨-, k1, hkc1, cm1, hkk1⟩ := (hK.2 t1 _ ht1).1 n1 (fun j => .int (g j))
  have z0 : (0 : Int32).toInt = 0 := rfl
  have z1 : (0 : Int32).toNatClampNeg = 0 := rfl
  have zk : (nI k).toInt = (k : Int) := nI_toInt hk
  have zc : (nI k).toNatClampNeg = k := nI_clamp hk
  obtain ⟨vm', X', step⟩ := X.arraycopy hexec hown hlink hnat hstat hini (src := b0) (dst := a) (cs := scr) (cd := vp_cell c1 (n1, .inl g)) (srcPos := 0) (destPos := 0) (n := nI k) (by rw [hT0]; exact hc0) (by rw [hT0]; exact hc1)
    hs6 (fun _ h => by cases h) hs3 (fun h => by cases h) hk0 hkc1 hkk0 hkk1 (by simp [refKind]) (by decide) (by decide) (nI_pos hk)
    (by rw [z0, zk]; omega)
    (by rw [z0, zk]; show ¬ _ > ((arrV c1 n1 (fun j => .int (g j))).slots.size : Int); rw [arrV_size]; omega)
    (fun vm₁ _ i hi => by
      have hi : i < k := by rw [← zc]; exact hi
      have e : scr.slots.getD ((0 : Int32).toNatClampNeg + i) .null = .int (f i) := by
        rw [z1, Nat.zero_add, Array.getD_eq_getD_getElem?, hs5 _ (by omega)]
        rfl
      refine ⟨?_, ?_⟩
      · rw [e]
        rfl
      · rw [e]
        exact trivial)
    (g := F0 m pc ls (.int (nI k) :: .int 0 :: .ref a :: .int 0 :: .ref b0 :: rest)) rfl (by rw [hml]) (rest := rest) rfl (by rw [hb]; exact hdg) hframes (by show 2 * 0 + _ + _ ≤ _; omega)
  have e1 : copied scr (vp_cell c1 (n1, .inl g)) 0 0 (nI k) = vp_cell c1 (n1, .inl (sm_ap g 0 f k)) := by
    have h := va_copiedX (fun z => .int z) scr c1 (n0 := N) (n1 := n1) (sp := 0) (dp := 0) (n := k) f g hs5 (by omega)
    have e2 : va_cpy f g 0 0 k = sm_ap g 0 f k := by
      funext j
      unfold va_cpy sm_ap
      by_cases q : 0 ≤ j ∧ j < 0 + k
      · rw [if_pos q, if_pos q, Nat.zero_add]
      · rw [if_neg q, if_neg q]
    rw [← e2]
    show (vp_cell c1 (n1, .inl g)).storeRun (0 : Int32).toNatClampNeg (scr.stretch (0 : Int32).toNatClampNeg (nI k).toNatClampNeg) = _
    rw [z1, zc]
    exact h
  rw [e1] at X' step
  have hl : a < H.size := (Array.getElem?_eq_some_iff.mp hc1).1
  have hheap : ((T.setVm vm').setCell a (vp_cell c1 (n1, .inl (sm_ap g 0 f k)))).heap = H.setIfInBounds a (vp_cell c1 (n1, .inl (sm_ap g 0 f k))) := by rw [← hT0]; rfl
  have oq : ∀ q : Nat, q ≠ a → (H.setIfInBounds a (vp_cell c1 (n1, .inl (sm_ap g 0 f k))))[q]? = H[q]? := fun q hq => by simp [Array.getElem?_setIfInBounds, Ne.symm hq]
  obtain ⟨t, a1, b1⟩ := kk _ _ (hP.set hD ha1 (show (H.setIfInBounds a _)[a]? = some _ by simp [Array.getElem?_setIfInBounds, hl]) oq) (hD.set ha1) ⟨by simp; exact hS.1, fun q g1 g2 => by
      rw [oq q (fun e => g2 (by rw [e]; exact hD.2 q1 _ ha1))]
      exact hS.2.1 q g1 g2, fun q hq => by
      rcases List.mem_append.mp hq with h | h
      · exact hS.2.2 q h
      · obtain ⟨z, -, hz⟩ := List.mem_map.mp h
        rw [← hz]
        exact hD.2 q1 _ ha1⟩ _ hheap X'
  exact ⟨t, step t a1, b1⟩
end SMC
theorem sm_kbA {f g k : Nat → Int32} {n : Nat} (h : 64 < n) : ∀ j, j < 64 → sm_ap (sm_ap f 0 (sm_sha (sm_ap g 0 k n) (0 + n)) 32) 32 (fun _ => 0) (64 - 32) j = sm_kb k n j := by
  intro j hj
  have e : sm_sha (sm_ap g 0 k n) (0 + n) = sm_sha k n := by
    rw [Nat.zero_add]
    apply sm_sha_congr
    intro i hi
    have := sm_ap_hi (f := g) (g := k) (u := 0) hi
    rwa [Nat.zero_add] at this
  rw [e]
  unfold sm_kb
  rw [if_pos h]
  by_cases q : j < 32
  · rw [if_pos q, sm_ap_lo q]
    have := sm_ap_hi (f := f) (g := sm_sha k n) (u := 0) q
    rwa [Nat.zero_add] at this
  · rw [if_neg q]
    obtain ⟨i, rfl⟩ : ∃ i, j = 32 + i := ⟨j - 32, by omega⟩
    rw [sm_ap_hi (by omega)]
theorem sm_kbB {f k : Nat → Int32} {n : Nat} (h : n ≤ 64) : ∀ j, j < 64 → sm_ap (sm_ap f 0 k n) n (fun _ => 0) (64 - n) j = sm_kb k n j := by
  intro j hj
  unfold sm_kb
  rw [if_neg (by omega)]
  by_cases q : j < n
  · rw [if_pos q, sm_ap_lo q]
    have := sm_ap_hi (f := f) (g := k) (u := 0) q
    rwa [Nat.zero_add] at this
  · rw [if_neg q]
    obtain ⟨i, rfl⟩ : ∃ i, j = n + i := ⟨j - n, by omega⟩
    rw [sm_ap_hi (by omega)]
theorem sm_ap_z {f g : Nat → Int32} {e j : Nat} (h : j < e) : sm_ap f 0 g e j = g j := by
  have := sm_ap_hi (f := f) (g := g) (u := 0) h
  rwa [Nat.zero_add] at this
theorem sm_outE {f g kb d : Nat → Int32} : sm_sha (sm_ap (sm_ap f 0 (fun j => kb j ^^^ 92) 64) (0 + 64) (sm_ap g 0 d 32) 32) (0 + 64 + 32) = sm_out kb d := by
  unfold sm_out
  apply sm_sha_congr
  intro j hj
  by_cases q : j < 64
  · rw [sm_ap_lo (by omega), sm_ap_z q, sm_cat_lo q]
  · obtain ⟨i, rfl⟩ : ∃ i, j = 0 + 64 + i := ⟨j - 64, by omega⟩
    rw [sm_ap_hi (by omega), sm_ap_z (by omega), sm_cat_hi (by omega)]
    congr 1
    omega
end
section
def rm_J7_fill_53178 : Room := ({ frames := 0, cells := 0, slots := 0, locals := 0 } : Room)
set_option maxHeartbeats 4000000 in
set_option maxRecDepth 100000 in
/-- Arrays.fill over ints -/
theorem sc_J7_fill_53178 (l : Launch) (D : va_G) (cI : ClassId) (th : Option (Nat × Nat)) (sz : Nat) (b n : Nat) (f : Nat → Int32) (x : Int32) (hn : n < 2 ^ 31) : Met l yJ7_fill_53178 wsJ7_fill_53178 rm_J7_fill_53178 (va_Pc [.ref b, .int x] (sm_PW D cI th [(b, .inl (cI, n, .inl f))] sz)) (va_Qv (fun (_ : Unit) => True) (fun _ t => sm_QW D cI (va_A [(b, .inl (cI, n, .inl f))] sz) [(b, .inl (cI, n, .inl (fun _ => x)))] t) (va_A [(b, .inl (cI, n, .inl f))] sz)) 0 0 (va_A [(b, .inl (cI, n, .inl f))] sz) := by
  refine Met.ofW (cc := cJ7_fill_53178) (maxL := 4) (ret := none) (by decide) rfl ?_
  intro p e s m args below meth c s₁ B hml hv
  obtain ⟨rfl, hsz, hP, hK, hD0, hT⟩ := hv
  have hx := B.exec
  have hb := B.bytes
  have hr := B.returns
  have hts := atoms_spec (ws := wsJ7_fill_53178) B.pre
  have hown : s.vm.findClass RJ7 = some m.cls := findClass_of_methodNamed B.named
  have hlocks := B.notSynchronized
  subst hsz
  have hD := hD0.self (sz := s.heap.size)
  generalize hAe : va_A [(b, .inl (cI, n, .inl f))] s.heap.size = A at hD hT ⊢
  have hA : ∀ q : Nat, s.heap.size ≤ q → A q := fun q h => by rw [← hAe]; exact Or.inr h
  have hS : va_S A s.heap s.heap [] := va_S.rf
  have hl := lv_entry ([.ref b, .int x]) (n := 4) (Nat.le_of_ble_eq_true rfl)
  rw [lg_entry_eq]
  generalize (lg_sl ([.ref b, .int x]) ++ List.replicate (4 - (lg_sl ([.ref b, .int x])).length) Slot.unset).toArray = ls at hl ⊢
  have hl : lv_has ls 4 [(0, .ref b), (1, .int x)] := hl
  refine sm_name (fun Q hQ => ?_)
  refine lv_iconst (v := 0) hx hb dJ7_fill_53178_0 (by decide) ?_
  refine lv_istore_n (lv' := [(2, .int 0), (0, .ref b), (1, .int x)]) hx hb dJ7_fill_53178_1 rfl hl (by decide) rfl (fun ls hl => ?_)
  refine lv_aload_n hx hb dJ7_fill_53178_2 rfl (lv_at hl 1 rfl) ?_
  refine va_alen hx hb hK hP 0 0 rfl rfl (v := nI n) rfl dJ7_fill_53178_3 ?_
  refine lv_istore_n (lv' := [(3, .int (nI n)), (2, .int 0), (0, .ref b), (1, .int x)]) hx hb dJ7_fill_53178_4 rfl hl (by decide) rfl (fun ls hl => ?_)
  have lp5 : ∀ (zn : Nat) (i : Nat) (H : Heap) (locs : List Loc) (ls : Array Slot), n - i < zn → i ≤ n → va_P D vwCl [(b, .inl (cI, n, .inl (sm_ap f 0 (fun _ => x) i)))] H → va_D A [(b, .inl (cI, n, .inl (sm_ap f 0 (fun _ => x) i)))] → va_S A s.heap H locs → lv_has ls 4 [(2, .int (nI i)), (3, .int (nI n)), (0, .ref b), (1, .int x)] → W p l e (headSpec wsJ7_fill_53178 rm_J7_fill_53178).room s m ([.ref b, .int x] : List Value).toArray below meth c H locs 0 0 Q (F0 m 5 ls []) := by
    intro zn
    induction zn with
    | zero => intro i H locs ls hmu; exact absurd hmu (Nat.not_lt_zero _)
    | succ zn ih =>
      intro i H locs ls hmu hi_5 hP hD hS hl
      refine lv_iload_n hx hb dJ7_fill_53178_5 rfl (lv_at hl 0 rfl) ?_
      refine lv_iload_n hx hb dJ7_fill_53178_6 rfl (lv_at hl 1 rfl) ?_
      refine lv_icmp_ge (tgt := 20) hx hb dJ7_fill_53178_7 (by decide) (fun c_7 => ?_) (fun c_7 => ?_)
      ·
        have hex_5 : i = n := by
          rcases Nat.lt_or_ge i (n) with q | q
          · exact absurd c_7 (nI_ge q (by omega))
          · omega
        rw [hQ]
        have hP := sm_arr hP 0 rfl (fun _ => x) (fun j hj => by unfold sm_ap; rw [if_pos (by omega)])
        have hD := sm_arrD (y := .inl (cI, n, .inl (fun _ => x))) hD 0 rfl
        have hP9 : va_P D vwCl [(b, .inl (cI, n, .inl (fun _ => x)))] H := hP
        have hD9 : va_D A [(b, .inl (cI, n, .inl (fun _ => x)))] := hD
        exact W.vret hx hb hr (fun t ht hW => ⟨⟨(), rfl, trivial, ⟨by rw [ht]; exact hP9, va_K.moved hW.alike hK, hD9⟩⟩, hS.F ht⟩) hS.2.2 dJ7_fill_53178_20
      ·
        have hlt_5 : i < n := by
          rcases Nat.lt_or_ge i (n) with q | q
          · exact q
          · exact absurd (nI_le q (by omega)) c_7
        refine lv_aload_n hx hb dJ7_fill_53178_10 rfl (lv_at hl 2 rfl) ?_
        refine lv_iload_n hx hb dJ7_fill_53178_11 rfl (lv_at hl 0 rfl) ?_
        refine lv_iload_n hx hb dJ7_fill_53178_12 rfl (lv_at hl 3 rfl) ?_
        refine va_iast (i := nI i) (x := x) hx hb hK hP hD hS 0 0 rfl rfl (vp_in_nI (n := i) hlt_5 (by omega)) dJ7_fill_53178_13 (fun H locs hP hD hS => ?_)
        rw [show Int32.toNatClampNeg (nI i) = i from nI_clamp (n := i) (by omega)] at hP hD
        have hP : va_P D vwCl [(b, .inl (cI, n, .inl (upd (sm_ap f 0 (fun _ => x) i) i x)))] H := hP
        have hD : va_D A [(b, .inl (cI, n, .inl (upd (sm_ap f 0 (fun _ => x) i) i x)))] := hD
        refine lv_iinc (v := nI (i + 1)) (lv' := [(2, .int (nI (i + 1))), (3, .int (nI n)), (0, .ref b), (1, .int x)]) hx hb dJ7_fill_53178_14 hl (k := 0) rfl (nI_1 i) (by decide) rfl (fun ls hl => ?_)
        refine lv_goto (tgt := 5) hx hb dJ7_fill_53178_17 (by decide) ?_
        have e9 : upd (sm_ap f 0 (fun _ => x) i) i x = sm_ap f 0 (fun _ => x) (i + 1) := by
          have := sm_ap_s f 0 (fun _ => x) i
          rwa [Nat.zero_add] at this
        rw [e9] at hP hD
        exact ih (i + 1) _ _ _ (by omega) (by omega) hP hD hS (lv_sub hl [0, 1, 2, 3] rfl)
  exact lp5 _ 0 _ _ _ (Nat.lt_succ_self _) (Nat.zero_le _) (by rw [sm_ap_0]; exact hP) (by rw [sm_ap_0]; exact hD) hS (lv_sub hl [1, 0, 2, 3] rfl)

def rm_J6_rotateRight_7cf53 : Room := ({ frames := 0, cells := 0, slots := 0, locals := 0 } : Room)
set_option maxHeartbeats 4000000 in
set_option maxRecDepth 100000 in
/-- Integer.rotateRight -/
theorem sc_J6_rotateRight_7cf53 (l : Launch) (D : va_G) (cI : ClassId) (th : Option (Nat × Nat)) (sz : Nat) (x y : Int32)  : Met l yJ6_rotateRight_7cf53 wsJ6_rotateRight_7cf53 rm_J6_rotateRight_7cf53 (va_Pc [.int x, .int y] (sm_PW D cI th [] sz)) (va_Qi (fun (r : Int32) (_ : Unit) => r = sm_rr x y) (fun _ t => sm_QW D cI (va_A [] sz) [] t) (va_A [] sz)) 0 0 (va_A [] sz) := by
  refine Met.ofW (cc := cJ6_rotateRight_7cf53) (maxL := 2) (ret := (some .int)) (by decide) rfl ?_
  intro p e s m args below meth c s₁ B hml hv
  obtain ⟨rfl, hsz, hP, hK, hD0, hT⟩ := hv
  have hx := B.exec
  have hb := B.bytes
  have hr := B.returns
  have hts := atoms_spec (ws := wsJ6_rotateRight_7cf53) B.pre
  have hown : s.vm.findClass RJ6 = some m.cls := findClass_of_methodNamed B.named
  have hlocks := B.notSynchronized
  subst hsz
  have hD := hD0.self (sz := s.heap.size)
  generalize hAe : va_A [] s.heap.size = A at hD hT ⊢
  have hA : ∀ q : Nat, s.heap.size ≤ q → A q := fun q h => by rw [← hAe]; exact Or.inr h
  have hS : va_S A s.heap s.heap [] := va_S.rf
  have hl := lv_entry ([.int x, .int y]) (n := 2) (Nat.le_of_ble_eq_true rfl)
  rw [lg_entry_eq]
  generalize (lg_sl ([.int x, .int y]) ++ List.replicate (2 - (lg_sl ([.int x, .int y])).length) Slot.unset).toArray = ls at hl ⊢
  have hl : lv_has ls 2 [(0, .int x), (1, .int y)] := hl
  refine sm_name (fun Q hQ => ?_)
  refine lv_iload_n hx hb dJ6_rotateRight_7cf53_0 rfl (lv_at hl 0 rfl) ?_
  refine lv_iload_n hx hb dJ6_rotateRight_7cf53_1 rfl (lv_at hl 1 rfl) ?_
  refine lv_iushr (v := sm_us x y) hx hb dJ6_rotateRight_7cf53_2 rfl ?_
  refine lv_iload_n hx hb dJ6_rotateRight_7cf53_3 rfl (lv_at hl 0 rfl) ?_
  refine lv_iload_n hx hb dJ6_rotateRight_7cf53_4 rfl (lv_at hl 1 rfl) ?_
  refine lv_ineg hx hb dJ6_rotateRight_7cf53_5 ?_
  refine lv_ishl hx hb dJ6_rotateRight_7cf53_6 ?_
  refine lv_ior hx hb dJ6_rotateRight_7cf53_7 ?_
  rw [hQ]
  have hP9 : va_P D vwCl [] s.heap := hP
  have hD9 : va_D A [] := hD
  exact W.iret (v := (sm_us x y) ||| (x <<< ((-y) &&& 31))) hx hb hr (fun t ht hW => ⟨⟨(sm_us x y) ||| (x <<< ((-y) &&& 31)), (), rfl, rfl, ⟨by rw [ht]; exact hP9, va_K.moved hW.alike hK, hD9⟩⟩, hS.F ht⟩) hS.2.2 dJ6_rotateRight_7cf53_8

def rm_X2_size : Room := ({ frames := 0, cells := 0, slots := 0, locals := 0 } : Room)
set_option maxHeartbeats 4000000 in
set_option maxRecDepth 100000 in
/-- Row.size -/
theorem sc_X2_size (l : Launch) (D : va_G) (cI : ClassId) (th : Option (Nat × Nat)) (sz : Nat) (h b n : Nat) (f : Nat → Int32) (u : Int32)  : Met l yX2_size wsX2_size rm_X2_size (va_Pc [.ref h] (sm_PW D cI th [(h, .inr (2, [.ref b, .int u])), (b, .inl (cI, n, .inl f))] sz)) (va_Qi (fun (r : Int32) (_ : Unit) => r = u) (fun _ t => sm_QW D cI (va_A [(h, .inr (2, [.ref b, .int u])), (b, .inl (cI, n, .inl f))] sz) [(h, .inr (2, [.ref b, .int u])), (b, .inl (cI, n, .inl f))] t) (va_A [(h, .inr (2, [.ref b, .int u])), (b, .inl (cI, n, .inl f))] sz)) 0 0 (va_A [(h, .inr (2, [.ref b, .int u])), (b, .inl (cI, n, .inl f))] sz) := by
  refine Met.ofW (cc := cX2_size) (maxL := 1) (ret := (some .int)) (by decide) rfl ?_
  intro p e s m args below meth c s₁ B hml hv
  obtain ⟨rfl, hsz, hP, hK, hD0, hT⟩ := hv
  have hx := B.exec
  have hb := B.bytes
  have hr := B.returns
  have hts := atoms_spec (ws := wsX2_size) B.pre
  have hown : s.vm.findClass RX2 = some m.cls := findClass_of_methodNamed B.named
  have hlocks := B.notSynchronized
  subst hsz
  have hD := hD0.self (sz := s.heap.size)
  generalize hAe : va_A [(h, .inr (2, [.ref b, .int u])), (b, .inl (cI, n, .inl f))] s.heap.size = A at hD hT ⊢
  have hA : ∀ q : Nat, s.heap.size ≤ q → A q := fun q h => by rw [← hAe]; exact Or.inr h
  have hS : va_S A s.heap s.heap [] := va_S.rf
  have hl := lv_entry ([.ref h]) (n := 1) (Nat.le_of_ble_eq_true rfl)
  rw [lg_entry_eq]
  generalize (lg_sl ([.ref h]) ++ List.replicate (1 - (lg_sl ([.ref h])).length) Slot.unset).toArray = ls at hl ⊢
  have hl : lv_has ls 1 [(0, .ref h)] := hl
  refine sm_name (fun Q hQ => ?_)
  have hf_9 := hts (.fieldLink RX2 9 "SeedMill$Row" "used" "I") (by decide +kernel)
  have hw_X2 : ∀ w ∈ wsX20, w ∈ wsX2_size := by decide +kernel
  refine lv_aload_n hx hb dX2_size_0 rfl (lv_at hl 0 rfl) ?_
  refine va_get (D := D) (ci := 2) (v := .int u) (C := RX2) (T := TX2) (N := 2) hx hb hts hw_X2 hown hK hP 0 rfl rfl 1 (by decide) hf_9 (fun _ h9 => h9) rfl dX2_size_1 ?_
  rw [hQ]
  have hP9 : va_P D vwCl [(h, .inr (2, [.ref b, .int u])), (b, .inl (cI, n, .inl f))] s.heap := hP
  have hD9 : va_D A [(h, .inr (2, [.ref b, .int u])), (b, .inl (cI, n, .inl f))] := hD
  exact W.iret (v := u) hx hb hr (fun t ht hW => ⟨⟨u, (), rfl, rfl, ⟨by rw [ht]; exact hP9, va_K.moved hW.alike hK, hD9⟩⟩, hS.F ht⟩) hS.2.2 dX2_size_4

def rm_X2_empty : Room := ({ frames := 0, cells := 0, slots := 0, locals := 0 } : Room)
set_option maxHeartbeats 4000000 in
set_option maxRecDepth 100000 in
/-- Row.empty -/
theorem sc_X2_empty (l : Launch) (D : va_G) (cI : ClassId) (th : Option (Nat × Nat)) (sz : Nat) (h b n : Nat) (f : Nat → Int32) (u : Int32)  : Met l yX2_empty wsX2_empty rm_X2_empty (va_Pc [.ref h] (sm_PW D cI th [(h, .inr (2, [.ref b, .int u])), (b, .inl (cI, n, .inl f))] sz)) (va_Qv (fun (_ : Unit) => True) (fun _ t => sm_QW D cI (va_A [(h, .inr (2, [.ref b, .int u])), (b, .inl (cI, n, .inl f))] sz) [(h, .inr (2, [.ref b, .int (nI 0)])), (b, .inl (cI, n, .inl f))] t) (va_A [(h, .inr (2, [.ref b, .int u])), (b, .inl (cI, n, .inl f))] sz)) 0 0 (va_A [(h, .inr (2, [.ref b, .int u])), (b, .inl (cI, n, .inl f))] sz) := by
  refine Met.ofW (cc := cX2_empty) (maxL := 1) (ret := none) (by decide) rfl ?_
  intro p e s m args below meth c s₁ B hml hv
  obtain ⟨rfl, hsz, hP, hK, hD0, hT⟩ := hv
  have hx := B.exec
  have hb := B.bytes
  have hr := B.returns
  have hts := atoms_spec (ws := wsX2_empty) B.pre
  have hown : s.vm.findClass RX2 = some m.cls := findClass_of_methodNamed B.named
  have hlocks := B.notSynchronized
  subst hsz
  have hD := hD0.self (sz := s.heap.size)
  generalize hAe : va_A [(h, .inr (2, [.ref b, .int u])), (b, .inl (cI, n, .inl f))] s.heap.size = A at hD hT ⊢
  have hA : ∀ q : Nat, s.heap.size ≤ q → A q := fun q h => by rw [← hAe]; exact Or.inr h
  have hS : va_S A s.heap s.heap [] := va_S.rf
  have hl := lv_entry ([.ref h]) (n := 1) (Nat.le_of_ble_eq_true rfl)
  rw [lg_entry_eq]
  generalize (lg_sl ([.ref h]) ++ List.replicate (1 - (lg_sl ([.ref h])).length) Slot.unset).toArray = ls at hl ⊢
  have hl : lv_has ls 1 [(0, .ref h)] := hl
  refine sm_name (fun Q hQ => ?_)
  have hf_9 := hts (.fieldLink RX2 9 "SeedMill$Row" "used" "I") (by decide +kernel)
  have hw_X2 : ∀ w ∈ wsX20, w ∈ wsX2_empty := by decide +kernel
  refine lv_aload_n hx hb dX2_empty_0 rfl (lv_at hl 0 rfl) ?_
  refine lv_iconst (v := 0) hx hb dX2_empty_1 (by decide) ?_
  refine va_put (D := D) (ci := 2) (v := .int 0) (ty := .int) (C := RX2) (T := TX2) (N := 2) hx hb hts hw_X2 tyX2 tyX2_ok nmX2 hown hK hP hD hS 0 rfl rfl 1 (by decide) hf_9 (fun _ h9 => h9) rfl (by decide +kernel) rfl rfl (Nat.le_of_ble_eq_true rfl) dX2_empty_2 (fun H locs hP hD hS => ?_)
  have hP : va_P D vwCl [(h, .inr (2, [.ref b, .int 0])), (b, .inl (cI, n, .inl f))] H := hP
  have hD : va_D A [(h, .inr (2, [.ref b, .int 0])), (b, .inl (cI, n, .inl f))] := hD
  rw [hQ]
  have hP9 : va_P D vwCl [(h, .inr (2, [.ref b, .int (nI 0)])), (b, .inl (cI, n, .inl f))] H := hP
  have hD9 : va_D A [(h, .inr (2, [.ref b, .int (nI 0)])), (b, .inl (cI, n, .inl f))] := hD
  exact W.vret hx hb hr (fun t ht hW => ⟨⟨(), rfl, trivial, ⟨by rw [ht]; exact hP9, va_K.moved hW.alike hK, hD9⟩⟩, hS.F ht⟩) hS.2.2 dX2_empty_5

def rm_X2_put : Room := ({ frames := 0, cells := 0, slots := 0, locals := 0 } : Room)
set_option maxHeartbeats 4000000 in
set_option maxRecDepth 100000 in
/-- Row.put within the limit -/
theorem sc_X2_put (l : Launch) (D : va_G) (cI : ClassId) (th : Option (Nat × Nat)) (sz : Nat) (h b n u : Nat) (f : Nat → Int32) (x : Int32) (hu : u < n) (hn : n < 2 ^ 31) : Met l yX2_put wsX2_put rm_X2_put (va_Pc [.ref h, .int x] (sm_PW D cI th [(h, .inr (2, [.ref b, .int (nI u)])), (b, .inl (cI, n, .inl f))] sz)) (va_Qv (fun (_ : Unit) => True) (fun _ t => sm_QW D cI (va_A [(h, .inr (2, [.ref b, .int (nI u)])), (b, .inl (cI, n, .inl f))] sz) [(h, .inr (2, [.ref b, .int (nI (u + 1))])), (b, .inl (cI, n, .inl (upd f u x)))] t) (va_A [(h, .inr (2, [.ref b, .int (nI u)])), (b, .inl (cI, n, .inl f))] sz)) 0 0 (va_A [(h, .inr (2, [.ref b, .int (nI u)])), (b, .inl (cI, n, .inl f))] sz) := by
  refine Met.ofW (cc := cX2_put) (maxL := 2) (ret := none) (by decide) rfl ?_
  intro p e s m args below meth c s₁ B hml hv
  obtain ⟨rfl, hsz, hP, hK, hD0, hT⟩ := hv
  have hx := B.exec
  have hb := B.bytes
  have hr := B.returns
  have hts := atoms_spec (ws := wsX2_put) B.pre
  have hown : s.vm.findClass RX2 = some m.cls := findClass_of_methodNamed B.named
  have hlocks := B.notSynchronized
  subst hsz
  have hD := hD0.self (sz := s.heap.size)
  generalize hAe : va_A [(h, .inr (2, [.ref b, .int (nI u)])), (b, .inl (cI, n, .inl f))] s.heap.size = A at hD hT ⊢
  have hA : ∀ q : Nat, s.heap.size ≤ q → A q := fun q h => by rw [← hAe]; exact Or.inr h
  have hS : va_S A s.heap s.heap [] := va_S.rf
  have hl := lv_entry ([.ref h, .int x]) (n := 2) (Nat.le_of_ble_eq_true rfl)
  rw [lg_entry_eq]
  generalize (lg_sl ([.ref h, .int x]) ++ List.replicate (2 - (lg_sl ([.ref h, .int x])).length) Slot.unset).toArray = ls at hl ⊢
  have hl : lv_has ls 2 [(0, .ref h), (1, .int x)] := hl
  refine sm_name (fun Q hQ => ?_)
  have hf_9 := hts (.fieldLink RX2 9 "SeedMill$Row" "used" "I") (by decide +kernel)
  have hw_X2 : ∀ w ∈ wsX20, w ∈ wsX2_put := by decide +kernel
  have hf_15 := hts (.fieldLink RX2 15 "SeedMill$Row" "bytes" "[I") (by decide +kernel)
  refine lv_aload_n hx hb dX2_put_0 rfl (lv_at hl 0 rfl) ?_
  refine va_get (D := D) (ci := 2) (v := .int (nI u)) (C := RX2) (T := TX2) (N := 2) hx hb hts hw_X2 hown hK hP 0 rfl rfl 1 (by decide) hf_9 (fun _ h9 => h9) rfl dX2_put_1 ?_
  refine lv_aload_n hx hb dX2_put_4 rfl (lv_at hl 0 rfl) ?_
  refine va_get (D := D) (ci := 2) (v := .ref b) (C := RX2) (T := TX2) (N := 2) hx hb hts hw_X2 hown hK hP 0 rfl rfl 0 (by decide) hf_15 (fun _ h9 => h9) rfl dX2_put_5 ?_
  refine va_alen hx hb hK hP 1 0 rfl rfl (v := nI n) rfl dX2_put_8 ?_
  refine lv_icmp_ge (tgt := 32) hx hb dX2_put_9 (by decide) (fun c_9 => ?_) (fun c_9 => ?_)
  ·
    exact absurd c_9 (nI_ge hu hn)
  ·
    refine lv_aload_n hx hb dX2_put_12 rfl (lv_at hl 0 rfl) ?_
    refine va_get (D := D) (ci := 2) (v := .ref b) (C := RX2) (T := TX2) (N := 2) hx hb hts hw_X2 hown hK hP 0 rfl rfl 0 (by decide) hf_15 (fun _ h9 => h9) rfl dX2_put_13 ?_
    refine lv_aload_n hx hb dX2_put_16 rfl (lv_at hl 0 rfl) ?_
    refine va_get (D := D) (ci := 2) (v := .int (nI u)) (C := RX2) (T := TX2) (N := 2) hx hb hts hw_X2 hown hK hP 0 rfl rfl 1 (by decide) hf_9 (fun _ h9 => h9) rfl dX2_put_17 ?_
    refine lv_iload_n hx hb dX2_put_20 rfl (lv_at hl 1 rfl) ?_
    refine va_iast (i := nI u) (x := x) hx hb hK hP hD hS 1 0 rfl rfl (vp_in_nI (n := u) hu (by omega)) dX2_put_21 (fun H locs hP hD hS => ?_)
    rw [show Int32.toNatClampNeg (nI u) = u from nI_clamp (n := u) (by omega)] at hP hD
    have hP : va_P D vwCl [(h, .inr (2, [.ref b, .int (nI u)])), (b, .inl (cI, n, .inl (upd f u x)))] H := hP
    have hD : va_D A [(h, .inr (2, [.ref b, .int (nI u)])), (b, .inl (cI, n, .inl (upd f u x)))] := hD
    refine lv_aload_n hx hb dX2_put_22 rfl (lv_at hl 0 rfl) ?_
    refine lv_dup hx hb dX2_put_23 rfl ?_
    refine va_get (D := D) (ci := 2) (v := .int (nI u)) (C := RX2) (T := TX2) (N := 2) hx hb hts hw_X2 hown hK hP 0 rfl rfl 1 (by decide) hf_9 (fun _ h9 => h9) rfl dX2_put_24 ?_
    refine lv_iconst (v := 1) hx hb dX2_put_27 (by decide) ?_
    refine lv_iadd hx hb dX2_put_28 ?_
    refine va_put (D := D) (ci := 2) (v := .int ((nI u) + 1)) (ty := .int) (C := RX2) (T := TX2) (N := 2) hx hb hts hw_X2 tyX2 tyX2_ok nmX2 hown hK hP hD hS 0 rfl rfl 1 (by decide) hf_9 (fun _ h9 => h9) rfl (by decide +kernel) rfl rfl (Nat.le_of_ble_eq_true rfl) dX2_put_29 (fun H locs hP hD hS => ?_)
    have hP : va_P D vwCl [(h, .inr (2, [.ref b, .int ((nI u) + 1)])), (b, .inl (cI, n, .inl (upd f u x)))] H := hP
    have hD : va_D A [(h, .inr (2, [.ref b, .int ((nI u) + 1)])), (b, .inl (cI, n, .inl (upd f u x)))] := hD
    rw [hQ]
    rw [show nI u + 1 = nI (u + 1) from nI_1 u] at hP hD
    have hP9 : va_P D vwCl [(h, .inr (2, [.ref b, .int (nI (u + 1))])), (b, .inl (cI, n, .inl (upd f u x)))] H := hP
    have hD9 : va_D A [(h, .inr (2, [.ref b, .int (nI (u + 1))])), (b, .inl (cI, n, .inl (upd f u x)))] := hD
    exact W.vret hx hb hr (fun t ht hW => ⟨⟨(), rfl, trivial, ⟨by rw [ht]; exact hP9, va_K.moved hW.alike hK, hD9⟩⟩, hS.F ht⟩) hS.2.2 dX2_put_32

def rm_X2_fill : Room := ({ frames := 1, cells := 0, slots := 0, locals := 23 } : Room)
set_option maxHeartbeats 4000000 in
set_option maxRecDepth 100000 in
/-- Row.fill -/
theorem sc_X2_fill (l : Launch) (D : va_G) (cI : ClassId) (th : Option (Nat × Nat)) (sz : Nat) (h b n : Nat) (f : Nat → Int32) (u x : Int32) (hn : n < 2 ^ 31) : Met l yX2_fill wsX2_fill rm_X2_fill (va_Pc [.ref h, .int x] (sm_PW D cI th [(h, .inr (2, [.ref b, .int u])), (b, .inl (cI, n, .inl f))] sz)) (va_Qv (fun (_ : Unit) => True) (fun _ t => sm_QW D cI (va_A [(h, .inr (2, [.ref b, .int u])), (b, .inl (cI, n, .inl f))] sz) [(h, .inr (2, [.ref b, .int (nI n)])), (b, .inl (cI, n, .inl (fun _ => x)))] t) (va_A [(h, .inr (2, [.ref b, .int u])), (b, .inl (cI, n, .inl f))] sz)) 0 0 (va_A [(h, .inr (2, [.ref b, .int u])), (b, .inl (cI, n, .inl f))] sz) := by
  refine Met.ofW (cc := cX2_fill) (maxL := 2) (ret := none) (by decide) rfl ?_
  intro p e s m args below meth c s₁ B hml hv
  obtain ⟨rfl, hsz, hP, hK, hD0, hT⟩ := hv
  have hx := B.exec
  have hb := B.bytes
  have hr := B.returns
  have hts := atoms_spec (ws := wsX2_fill) B.pre
  have hown : s.vm.findClass RX2 = some m.cls := findClass_of_methodNamed B.named
  have hlocks := B.notSynchronized
  subst hsz
  have hD := hD0.self (sz := s.heap.size)
  generalize hAe : va_A [(h, .inr (2, [.ref b, .int u])), (b, .inl (cI, n, .inl f))] s.heap.size = A at hD hT ⊢
  have hA : ∀ q : Nat, s.heap.size ≤ q → A q := fun q h => by rw [← hAe]; exact Or.inr h
  have hS : va_S A s.heap s.heap [] := va_S.rf
  have hl := lv_entry ([.ref h, .int x]) (n := 2) (Nat.le_of_ble_eq_true rfl)
  rw [lg_entry_eq]
  generalize (lg_sl ([.ref h, .int x]) ++ List.replicate (2 - (lg_sl ([.ref h, .int x])).length) Slot.unset).toArray = ls at hl ⊢
  have hl : lv_has ls 2 [(0, .ref h), (1, .int x)] := hl
  refine sm_name (fun Q hQ => ?_)
  have hf_15 := hts (.fieldLink RX2 15 "SeedMill$Row" "bytes" "[I") (by decide +kernel)
  have hw_X2 : ∀ w ∈ wsX20, w ∈ wsX2_fill := by decide +kernel
  have hf_9 := hts (.fieldLink RX2 9 "SeedMill$Row" "used" "I") (by decide +kernel)
  refine lv_aload_n hx hb dX2_fill_0 rfl (lv_at hl 0 rfl) ?_
  refine va_get (D := D) (ci := 2) (v := .ref b) (C := RX2) (T := TX2) (N := 2) hx hb hts hw_X2 hown hK hP 0 rfl rfl 0 (by decide) hf_15 (fun _ h9 => h9) rfl dX2_fill_1 ?_
  refine lv_iload_n hx hb dX2_fill_4 rfl (lv_at hl 1 rfl) ?_
  refine sm_callSv (wc := [(b, .inl (cI, n, .inl f))]) (wr := [(h, .inr (2, [.ref b, .int u]))]) (As := [.ref b, .int x]) (rest := []) ⟨hx, hb, hml, hown, hts⟩ (sc_J7_fill_53178 l D cI th _ b n f x hn) (va_cwS 2 hts gX2_fill_J7_fill_53178 rfl rfl rfl (by decide +kernel) ⟨Nat.le_of_ble_eq_true rfl, Nat.le_of_ble_eq_true rfl⟩) hP hD hS hA hK hT [1] [0] rfl rfl rfl rfl (by decide) rfl hl.1 rfl (Nat.le_of_ble_eq_true rfl) dX2_fill_5 ⟨Nat.zero_le _, Nat.zero_le _⟩ (fun zt H1 locs ht hvm hB hJ hS => ?_)
  obtain ⟨hP1, -, hD1⟩ := hB
  rw [ht] at hP1
  obtain ⟨hP, hD⟩ := hJ _ hP1 hD1
  clear hJ
  generalize H1 = H at hP hS ⊢
  have hP : va_P D vwCl [(h, .inr (2, [.ref b, .int u])), (b, .inl (cI, n, .inl (fun _ => x)))] H := hP.sub [0, 1] rfl
  have hD : va_D A [(h, .inr (2, [.ref b, .int u])), (b, .inl (cI, n, .inl (fun _ => x)))] := hD.sub [0, 1] rfl rfl
  refine lv_aload_n hx hb dX2_fill_8 rfl (lv_at hl 0 rfl) ?_
  refine lv_aload_n hx hb dX2_fill_9 rfl (lv_at hl 0 rfl) ?_
  refine va_get (D := D) (ci := 2) (v := .ref b) (C := RX2) (T := TX2) (N := 2) hx hb hts hw_X2 hown hK hP 0 rfl rfl 0 (by decide) hf_15 (fun _ h9 => h9) rfl dX2_fill_10 ?_
  refine va_alen hx hb hK hP 1 0 rfl rfl (v := nI n) rfl dX2_fill_13 ?_
  refine va_put (D := D) (ci := 2) (v := .int (nI n)) (ty := .int) (C := RX2) (T := TX2) (N := 2) hx hb hts hw_X2 tyX2 tyX2_ok nmX2 hown hK hP hD hS 0 rfl rfl 1 (by decide) hf_9 (fun _ h9 => h9) rfl (by decide +kernel) rfl rfl (Nat.le_of_ble_eq_true rfl) dX2_fill_14 (fun H locs hP hD hS => ?_)
  have hP : va_P D vwCl [(h, .inr (2, [.ref b, .int (nI n)])), (b, .inl (cI, n, .inl (fun _ => x)))] H := hP
  have hD : va_D A [(h, .inr (2, [.ref b, .int (nI n)])), (b, .inl (cI, n, .inl (fun _ => x)))] := hD
  rw [hQ]
  have hP9 : va_P D vwCl [(h, .inr (2, [.ref b, .int (nI n)])), (b, .inl (cI, n, .inl (fun _ => x)))] H := hP
  have hD9 : va_D A [(h, .inr (2, [.ref b, .int (nI n)])), (b, .inl (cI, n, .inl (fun _ => x)))] := hD
  exact W.vret hx hb hr (fun t ht hW => ⟨⟨(), rfl, trivial, ⟨by rw [ht]; exact hP9, va_K.moved hW.alike hK, hD9⟩⟩, hS.F ht⟩) hS.2.2 dX2_fill_17

def rm_X2_append : Room := ({ frames := 1, cells := 0, slots := 0, locals := 21 } : Room)
set_option maxHeartbeats 4000000 in
set_option maxRecDepth 100000 in
/-- Row.append within the limit -/
theorem sc_X2_append (l : Launch) (D : va_G) (cI : ClassId) (th : Option (Nat × Nat)) (sz : Nat) (h b n u h2 b2 n2 u2 k : Nat) (f g : Nat → Int32) (hE : u + min k u2 ≤ n) (hu2 : u2 ≤ n2) (hn : n < 2 ^ 31) (hn2 : n2 < 2 ^ 31) (hk : k < 2 ^ 31) : Met l yX2_append wsX2_append rm_X2_append (va_Pc [.ref h, .ref h2, .int (nI k)] (sm_PW D cI th [(h, .inr (2, [.ref b, .int (nI u)])), (b, .inl (cI, n, .inl f)), (h2, .inr (2, [.ref b2, .int (nI u2)])), (b2, .inl (cI, n2, .inl g))] sz)) (va_Qv (fun (_ : Unit) => True) (fun _ t => sm_QW D cI (va_A [(h, .inr (2, [.ref b, .int (nI u)])), (b, .inl (cI, n, .inl f)), (h2, .inr (2, [.ref b2, .int (nI u2)])), (b2, .inl (cI, n2, .inl g))] sz) [(h, .inr (2, [.ref b, .int (nI (u + min k u2))])), (b, .inl (cI, n, .inl (sm_ap f u g (min k u2)))), (h2, .inr (2, [.ref b2, .int (nI u2)])), (b2, .inl (cI, n2, .inl g))] t) (va_A [(h, .inr (2, [.ref b, .int (nI u)])), (b, .inl (cI, n, .inl f)), (h2, .inr (2, [.ref b2, .int (nI u2)])), (b2, .inl (cI, n2, .inl g))] sz)) 0 0 (va_A [(h, .inr (2, [.ref b, .int (nI u)])), (b, .inl (cI, n, .inl f)), (h2, .inr (2, [.ref b2, .int (nI u2)])), (b2, .inl (cI, n2, .inl g))] sz) := by
  refine Met.ofW (cc := cX2_append) (maxL := 5) (ret := none) (by decide) rfl ?_
  intro p e s m args below meth c s₁ B hml hv
  obtain ⟨rfl, hsz, hP, hK, hD0, hT⟩ := hv
  have hx := B.exec
  have hb := B.bytes
  have hr := B.returns
  have hts := atoms_spec (ws := wsX2_append) B.pre
  have hown : s.vm.findClass RX2 = some m.cls := findClass_of_methodNamed B.named
  have hlocks := B.notSynchronized
  subst hsz
  have hD := hD0.self (sz := s.heap.size)
  generalize hAe : va_A [(h, .inr (2, [.ref b, .int (nI u)])), (b, .inl (cI, n, .inl f)), (h2, .inr (2, [.ref b2, .int (nI u2)])), (b2, .inl (cI, n2, .inl g))] s.heap.size = A at hD hT ⊢
  have hA : ∀ q : Nat, s.heap.size ≤ q → A q := fun q h => by rw [← hAe]; exact Or.inr h
  have hS : va_S A s.heap s.heap [] := va_S.rf
  have hl := lv_entry ([.ref h, .ref h2, .int (nI k)]) (n := 5) (Nat.le_of_ble_eq_true rfl)
  rw [lg_entry_eq]
  generalize (lg_sl ([.ref h, .ref h2, .int (nI k)]) ++ List.replicate (5 - (lg_sl ([.ref h, .ref h2, .int (nI k)])).length) Slot.unset).toArray = ls at hl ⊢
  have hl : lv_has ls 5 [(0, .ref h), (1, .ref h2), (2, .int (nI k))] := hl
  refine sm_name (fun Q hQ => ?_)
  have hf_9 := hts (.fieldLink RX2 9 "SeedMill$Row" "used" "I") (by decide +kernel)
  have hw_X2 : ∀ w ∈ wsX20, w ∈ wsX2_append := by decide +kernel
  have hf_15 := hts (.fieldLink RX2 15 "SeedMill$Row" "bytes" "[I") (by decide +kernel)
  refine lv_iload_n hx hb dX2_append_0 rfl (lv_at hl 2 rfl) ?_
  refine lv_aload_n hx hb dX2_append_1 rfl (lv_at hl 1 rfl) ?_
  refine va_get (D := D) (ci := 2) (v := .int (nI u2)) (C := RX2) (T := TX2) (N := 2) hx hb hts hw_X2 hown hK hP 2 rfl rfl 1 (by decide) hf_9 (fun _ h9 => h9) rfl dX2_append_2 ?_
  refine va_mmin hx hb (hml.trans hl.1.symm) hown (hts (.methodLink RX2 25 Lib.Math.min.name) (by decide +kernel)) (hts (.static Lib.Math.min.name) (by decide +kernel)) (hts (.initialized "java/lang/Math") (by decide +kernel)) (hts (.code Lib.Math.min.name Lib.Math.min.code 2 (some .int)) (by decide +kernel)) (Nat.le_of_ble_eq_true rfl) (Nat.le_of_ble_eq_true rfl) (Nat.zero_le _) (Nat.zero_le _) dX2_append_5 ?_
  refine sm_top (z := nI (min k u2)) (sm_min hk (by omega)) ?_
  refine lv_istore_n (lv' := [(3, .int (nI (min k u2))), (0, .ref h), (1, .ref h2), (2, .int (nI k))]) hx hb dX2_append_8 rfl hl (by decide) rfl (fun ls hl => ?_)
  refine lv_iconst (v := 0) hx hb dX2_append_9 (by decide) ?_
  refine lv_istore (lv' := [(4, .int 0), (3, .int (nI (min k u2))), (0, .ref h), (1, .ref h2), (2, .int (nI k))]) hx hb dX2_append_10 hl (by decide) rfl (fun ls hl => ?_)
  have lp12 : ∀ (zn : Nat) (i : Nat) (H : Heap) (locs : List Loc) (ls : Array Slot), min k u2 - i < zn → i ≤ min k u2 → va_P D vwCl [(h, .inr (2, [.ref b, .int (nI (u + i))])), (b, .inl (cI, n, .inl (sm_ap f u g i))), (h2, .inr (2, [.ref b2, .int (nI u2)])), (b2, .inl (cI, n2, .inl g))] H → va_D A [(h, .inr (2, [.ref b, .int (nI (u + i))])), (b, .inl (cI, n, .inl (sm_ap f u g i))), (h2, .inr (2, [.ref b2, .int (nI u2)])), (b2, .inl (cI, n2, .inl g))] → va_S A s.heap H locs → lv_has ls 5 [(4, .int (nI i)), (3, .int (nI (min k u2))), (0, .ref h), (1, .ref h2), (2, .int (nI k))] → W p l e (headSpec wsX2_append rm_X2_append).room s m ([.ref h, .ref h2, .int (nI k)] : List Value).toArray below meth c H locs 0 0 Q (F0 m 12 ls []) := by
    intro zn
    induction zn with
    | zero => intro i H locs ls hmu; exact absurd hmu (Nat.not_lt_zero _)
    | succ zn ih =>
      intro i H locs ls hmu hi_12 hP hD hS hl
      refine lv_iload hx hb dX2_append_12 (lv_at hl 0 rfl) ?_
      refine lv_iload_n hx hb dX2_append_14 rfl (lv_at hl 1 rfl) ?_
      refine lv_icmp_ge (tgt := 35) hx hb dX2_append_15 (by decide) (fun c_15 => ?_) (fun c_15 => ?_)
      ·
        have hex_12 : i = min k u2 := by
          rcases Nat.lt_or_ge i (min k u2) with q | q
          · exact absurd c_15 (nI_ge q (by omega))
          · omega
        rw [hQ]
        rw [hex_12] at hP hD
        have hP9 : va_P D vwCl [(h, .inr (2, [.ref b, .int (nI (u + min k u2))])), (b, .inl (cI, n, .inl (sm_ap f u g (min k u2)))), (h2, .inr (2, [.ref b2, .int (nI u2)])), (b2, .inl (cI, n2, .inl g))] H := hP
        have hD9 : va_D A [(h, .inr (2, [.ref b, .int (nI (u + min k u2))])), (b, .inl (cI, n, .inl (sm_ap f u g (min k u2)))), (h2, .inr (2, [.ref b2, .int (nI u2)])), (b2, .inl (cI, n2, .inl g))] := hD
        exact W.vret hx hb hr (fun t ht hW => ⟨⟨(), rfl, trivial, ⟨by rw [ht]; exact hP9, va_K.moved hW.alike hK, hD9⟩⟩, hS.F ht⟩) hS.2.2 dX2_append_35
      ·
        have hlt_12 : i < min k u2 := by
          rcases Nat.lt_or_ge i (min k u2) with q | q
          · exact q
          · exact absurd (nI_le q (by omega)) c_15
        refine lv_aload_n hx hb dX2_append_18 rfl (lv_at hl 2 rfl) ?_
        refine lv_aload_n hx hb dX2_append_19 rfl (lv_at hl 3 rfl) ?_
        refine va_get (D := D) (ci := 2) (v := .ref b2) (C := RX2) (T := TX2) (N := 2) hx hb hts hw_X2 hown hK hP 2 rfl rfl 0 (by decide) hf_15 (fun _ h9 => h9) rfl dX2_append_20 ?_
        refine lv_iload hx hb dX2_append_23 (lv_at hl 0 rfl) ?_
        refine va_iald (i := nI i) hx hb hK hP 3 0 rfl rfl (vp_in_nI (n := i) (by omega) (by omega)) dX2_append_25 ?_
        refine sm_top (z := g i) (congrArg g (nI_clamp (n := i) (by omega))) ?_
        refine sm_callVv (wc := [(h, .inr (2, [.ref b, .int (nI (u + i))])), (b, .inl (cI, n, .inl (sm_ap f u g i)))]) (wr := [(h2, .inr (2, [.ref b2, .int (nI u2)])), (b2, .inl (cI, n2, .inl g))]) (As := [.int (g i)]) (rest := []) ⟨hx, hb, hml, hown, hts⟩ (sc_X2_put l D cI th _ h b n (u + i) (sm_ap f u g i) (g i) (by omega) hn) (cwV 1 hts gX2_append_X2_put rfl rfl rfl (by decide +kernel) ⟨Nat.le_of_ble_eq_true rfl, Nat.le_of_ble_eq_true rfl⟩) hP hD hS hA hK hT [0, 1] [2, 3] rfl rfl rfl rfl (by decide) 0 2 rfl rfl rfl rfl hl.1 rfl (Nat.le_of_ble_eq_true rfl) dX2_append_26 ⟨Nat.zero_le _, Nat.zero_le _⟩ (fun zt H1 locs ht hvm hB hJ hS => ?_)
        obtain ⟨hP1, -, hD1⟩ := hB
        rw [ht] at hP1
        obtain ⟨hP, hD⟩ := hJ _ hP1 hD1
        clear hJ
        generalize H1 = H at hP hS ⊢
        have hP : va_P D vwCl [(h, .inr (2, [.ref b, .int (nI (u + i + 1))])), (b, .inl (cI, n, .inl (upd (sm_ap f u g i) (u + i) (g i)))), (h2, .inr (2, [.ref b2, .int (nI u2)])), (b2, .inl (cI, n2, .inl g))] H := hP.sub [2, 3, 0, 1] rfl
        have hD : va_D A [(h, .inr (2, [.ref b, .int (nI (u + i + 1))])), (b, .inl (cI, n, .inl (upd (sm_ap f u g i) (u + i) (g i)))), (h2, .inr (2, [.ref b2, .int (nI u2)])), (b2, .inl (cI, n2, .inl g))] := hD.sub [2, 3, 0, 1] rfl rfl
        refine lv_iinc (v := nI (i + 1)) (lv' := [(4, .int (nI (i + 1))), (3, .int (nI (min k u2))), (0, .ref h), (1, .ref h2), (2, .int (nI k))]) hx hb dX2_append_29 hl (k := 0) rfl (nI_1 i) (by decide) rfl (fun ls hl => ?_)
        refine lv_goto (tgt := 12) hx hb dX2_append_32 (by decide) ?_
        rw [sm_ap_s] at hP hD
        exact ih (i + 1) _ _ _ (by omega) (by omega) hP hD hS (lv_sub hl [0, 1, 2, 3, 4] rfl)
  exact lp12 _ 0 _ _ _ (Nat.lt_succ_self _) (Nat.zero_le _) (by rw [sm_ap_0]; exact hP) (by rw [sm_ap_0]; exact hD) hS (lv_sub hl [0, 1, 2, 3, 4] rfl)

def rm_X2_appendXor : Room := ({ frames := 1, cells := 0, slots := 0, locals := 21 } : Room)
set_option maxHeartbeats 4000000 in
set_option maxRecDepth 100000 in
/-- Row.appendXor within the limit -/
theorem sc_X2_appendXor (l : Launch) (D : va_G) (cI : ClassId) (th : Option (Nat × Nat)) (sz : Nat) (h b n u h2 b2 n2 u2 : Nat) (f g : Nat → Int32) (x : Int32) (hE : u + u2 ≤ n) (hu2 : u2 ≤ n2) (hn : n < 2 ^ 31) (hn2 : n2 < 2 ^ 31) : Met l yX2_appendXor wsX2_appendXor rm_X2_appendXor (va_Pc [.ref h, .ref h2, .int x] (sm_PW D cI th [(h, .inr (2, [.ref b, .int (nI u)])), (b, .inl (cI, n, .inl f)), (h2, .inr (2, [.ref b2, .int (nI u2)])), (b2, .inl (cI, n2, .inl g))] sz)) (va_Qv (fun (_ : Unit) => True) (fun _ t => sm_QW D cI (va_A [(h, .inr (2, [.ref b, .int (nI u)])), (b, .inl (cI, n, .inl f)), (h2, .inr (2, [.ref b2, .int (nI u2)])), (b2, .inl (cI, n2, .inl g))] sz) [(h, .inr (2, [.ref b, .int (nI (u + u2))])), (b, .inl (cI, n, .inl (sm_ap f u (fun j => g j ^^^ x) u2))), (h2, .inr (2, [.ref b2, .int (nI u2)])), (b2, .inl (cI, n2, .inl g))] t) (va_A [(h, .inr (2, [.ref b, .int (nI u)])), (b, .inl (cI, n, .inl f)), (h2, .inr (2, [.ref b2, .int (nI u2)])), (b2, .inl (cI, n2, .inl g))] sz)) 0 0 (va_A [(h, .inr (2, [.ref b, .int (nI u)])), (b, .inl (cI, n, .inl f)), (h2, .inr (2, [.ref b2, .int (nI u2)])), (b2, .inl (cI, n2, .inl g))] sz) := by
  refine Met.ofW (cc := cX2_appendXor) (maxL := 4) (ret := none) (by decide) rfl ?_
  intro p e s m args below meth c s₁ B hml hv
  obtain ⟨rfl, hsz, hP, hK, hD0, hT⟩ := hv
  have hx := B.exec
  have hb := B.bytes
  have hr := B.returns
  have hts := atoms_spec (ws := wsX2_appendXor) B.pre
  have hown : s.vm.findClass RX2 = some m.cls := findClass_of_methodNamed B.named
  have hlocks := B.notSynchronized
  subst hsz
  have hD := hD0.self (sz := s.heap.size)
  generalize hAe : va_A [(h, .inr (2, [.ref b, .int (nI u)])), (b, .inl (cI, n, .inl f)), (h2, .inr (2, [.ref b2, .int (nI u2)])), (b2, .inl (cI, n2, .inl g))] s.heap.size = A at hD hT ⊢
  have hA : ∀ q : Nat, s.heap.size ≤ q → A q := fun q h => by rw [← hAe]; exact Or.inr h
  have hS : va_S A s.heap s.heap [] := va_S.rf
  have hl := lv_entry ([.ref h, .ref h2, .int x]) (n := 4) (Nat.le_of_ble_eq_true rfl)
  rw [lg_entry_eq]
  generalize (lg_sl ([.ref h, .ref h2, .int x]) ++ List.replicate (4 - (lg_sl ([.ref h, .ref h2, .int x])).length) Slot.unset).toArray = ls at hl ⊢
  have hl : lv_has ls 4 [(0, .ref h), (1, .ref h2), (2, .int x)] := hl
  refine sm_name (fun Q hQ => ?_)
  have hf_9 := hts (.fieldLink RX2 9 "SeedMill$Row" "used" "I") (by decide +kernel)
  have hw_X2 : ∀ w ∈ wsX20, w ∈ wsX2_appendXor := by decide +kernel
  have hf_15 := hts (.fieldLink RX2 15 "SeedMill$Row" "bytes" "[I") (by decide +kernel)
  refine lv_iconst (v := 0) hx hb dX2_appendXor_0 (by decide) ?_
  refine lv_istore_n (lv' := [(3, .int 0), (0, .ref h), (1, .ref h2), (2, .int x)]) hx hb dX2_appendXor_1 rfl hl (by decide) rfl (fun ls hl => ?_)
  have lp2 : ∀ (zn : Nat) (i : Nat) (H : Heap) (locs : List Loc) (ls : Array Slot), u2 - i < zn → i ≤ u2 → va_P D vwCl [(h, .inr (2, [.ref b, .int (nI (u + i))])), (b, .inl (cI, n, .inl (sm_ap f u (fun j => g j ^^^ x) i))), (h2, .inr (2, [.ref b2, .int (nI u2)])), (b2, .inl (cI, n2, .inl g))] H → va_D A [(h, .inr (2, [.ref b, .int (nI (u + i))])), (b, .inl (cI, n, .inl (sm_ap f u (fun j => g j ^^^ x) i))), (h2, .inr (2, [.ref b2, .int (nI u2)])), (b2, .inl (cI, n2, .inl g))] → va_S A s.heap H locs → lv_has ls 4 [(3, .int (nI i)), (0, .ref h), (1, .ref h2), (2, .int x)] → W p l e (headSpec wsX2_appendXor rm_X2_appendXor).room s m ([.ref h, .ref h2, .int x] : List Value).toArray below meth c H locs 0 0 Q (F0 m 2 ls []) := by
    intro zn
    induction zn with
    | zero => intro i H locs ls hmu; exact absurd hmu (Nat.not_lt_zero _)
    | succ zn ih =>
      intro i H locs ls hmu hi_2 hP hD hS hl
      refine lv_iload_n hx hb dX2_appendXor_2 rfl (lv_at hl 0 rfl) ?_
      refine lv_aload_n hx hb dX2_appendXor_3 rfl (lv_at hl 2 rfl) ?_
      refine va_get (D := D) (ci := 2) (v := .int (nI u2)) (C := RX2) (T := TX2) (N := 2) hx hb hts hw_X2 hown hK hP 2 rfl rfl 1 (by decide) hf_9 (fun _ h9 => h9) rfl dX2_appendXor_4 ?_
      refine lv_icmp_ge (tgt := 28) hx hb dX2_appendXor_7 (by decide) (fun c_7 => ?_) (fun c_7 => ?_)
      ·
        have hex_2 : i = u2 := by
          rcases Nat.lt_or_ge i (u2) with q | q
          · exact absurd c_7 (nI_ge q (by omega))
          · omega
        rw [hQ]
        rw [hex_2] at hP hD
        have hP9 : va_P D vwCl [(h, .inr (2, [.ref b, .int (nI (u + u2))])), (b, .inl (cI, n, .inl (sm_ap f u (fun j => g j ^^^ x) u2))), (h2, .inr (2, [.ref b2, .int (nI u2)])), (b2, .inl (cI, n2, .inl g))] H := hP
        have hD9 : va_D A [(h, .inr (2, [.ref b, .int (nI (u + u2))])), (b, .inl (cI, n, .inl (sm_ap f u (fun j => g j ^^^ x) u2))), (h2, .inr (2, [.ref b2, .int (nI u2)])), (b2, .inl (cI, n2, .inl g))] := hD
        exact W.vret hx hb hr (fun t ht hW => ⟨⟨(), rfl, trivial, ⟨by rw [ht]; exact hP9, va_K.moved hW.alike hK, hD9⟩⟩, hS.F ht⟩) hS.2.2 dX2_appendXor_28
      ·
        have hlt_2 : i < u2 := by
          rcases Nat.lt_or_ge i (u2) with q | q
          · exact q
          · exact absurd (nI_le q (by omega)) c_7
        refine lv_aload_n hx hb dX2_appendXor_10 rfl (lv_at hl 1 rfl) ?_
        refine lv_aload_n hx hb dX2_appendXor_11 rfl (lv_at hl 2 rfl) ?_
        refine va_get (D := D) (ci := 2) (v := .ref b2) (C := RX2) (T := TX2) (N := 2) hx hb hts hw_X2 hown hK hP 2 rfl rfl 0 (by decide) hf_15 (fun _ h9 => h9) rfl dX2_appendXor_12 ?_
        refine lv_iload_n hx hb dX2_appendXor_15 rfl (lv_at hl 0 rfl) ?_
        refine va_iald (i := nI i) hx hb hK hP 3 0 rfl rfl (vp_in_nI (n := i) (by omega) (by omega)) dX2_appendXor_16 ?_
        refine sm_top (z := g i) (congrArg g (nI_clamp (n := i) (by omega))) ?_
        refine lv_iload_n hx hb dX2_appendXor_17 rfl (lv_at hl 3 rfl) ?_
        refine lv_ixor hx hb dX2_appendXor_18 ?_
        refine sm_callVv (wc := [(h, .inr (2, [.ref b, .int (nI (u + i))])), (b, .inl (cI, n, .inl (sm_ap f u (fun j => g j ^^^ x) i)))]) (wr := [(h2, .inr (2, [.ref b2, .int (nI u2)])), (b2, .inl (cI, n2, .inl g))]) (As := [.int ((g i) ^^^ x)]) (rest := []) ⟨hx, hb, hml, hown, hts⟩ (sc_X2_put l D cI th _ h b n (u + i) (sm_ap f u (fun j => g j ^^^ x) i) ((g i) ^^^ x) (by omega) hn) (cwV 1 hts gX2_appendXor_X2_put rfl rfl rfl (by decide +kernel) ⟨Nat.le_of_ble_eq_true rfl, Nat.le_of_ble_eq_true rfl⟩) hP hD hS hA hK hT [0, 1] [2, 3] rfl rfl rfl rfl (by decide) 0 2 rfl rfl rfl rfl hl.1 rfl (Nat.le_of_ble_eq_true rfl) dX2_appendXor_19 ⟨Nat.zero_le _, Nat.zero_le _⟩ (fun zt H1 locs ht hvm hB hJ hS => ?_)
        obtain ⟨hP1, -, hD1⟩ := hB
        rw [ht] at hP1
        obtain ⟨hP, hD⟩ := hJ _ hP1 hD1
        clear hJ
        generalize H1 = H at hP hS ⊢
        have hP : va_P D vwCl [(h, .inr (2, [.ref b, .int (nI (u + i + 1))])), (b, .inl (cI, n, .inl (upd (sm_ap f u (fun j => g j ^^^ x) i) (u + i) ((g i) ^^^ x)))), (h2, .inr (2, [.ref b2, .int (nI u2)])), (b2, .inl (cI, n2, .inl g))] H := hP.sub [2, 3, 0, 1] rfl
        have hD : va_D A [(h, .inr (2, [.ref b, .int (nI (u + i + 1))])), (b, .inl (cI, n, .inl (upd (sm_ap f u (fun j => g j ^^^ x) i) (u + i) ((g i) ^^^ x)))), (h2, .inr (2, [.ref b2, .int (nI u2)])), (b2, .inl (cI, n2, .inl g))] := hD.sub [2, 3, 0, 1] rfl rfl
        refine lv_iinc (v := nI (i + 1)) (lv' := [(3, .int (nI (i + 1))), (0, .ref h), (1, .ref h2), (2, .int x)]) hx hb dX2_appendXor_22 hl (k := 0) rfl (nI_1 i) (by decide) rfl (fun ls hl => ?_)
        refine lv_goto (tgt := 2) hx hb dX2_appendXor_25 (by decide) ?_
        rw [show upd (sm_ap f u (fun j => g j ^^^ x) i) (u + i) (g i ^^^ x) = _ from sm_ap_s f u (fun j => g j ^^^ x) i] at hP hD
        exact ih (i + 1) _ _ _ (by omega) (by omega) hP hD hS (lv_sub hl [0, 1, 2, 3] rfl)
  exact lp2 _ 0 _ _ _ (Nat.lt_succ_self _) (Nat.zero_le _) (by rw [sm_ap_0]; exact hP) (by rw [sm_ap_0]; exact hD) hS (lv_sub hl [0, 1, 2, 3] rfl)

def rm_X2_putWord : Room := ({ frames := 1, cells := 0, slots := 0, locals := 21 } : Room)
set_option maxHeartbeats 4000000 in
set_option maxRecDepth 100000 in
/-- Row.putWord within the limit -/
theorem sc_X2_putWord (l : Launch) (D : va_G) (cI : ClassId) (th : Option (Nat × Nat)) (sz : Nat) (h b n u : Nat) (f : Nat → Int32) (x : Int32) (hu : u + 4 ≤ n) (hn : n < 2 ^ 31) : Met l yX2_putWord wsX2_putWord rm_X2_putWord (va_Pc [.ref h, .int x] (sm_PW D cI th [(h, .inr (2, [.ref b, .int (nI u)])), (b, .inl (cI, n, .inl f))] sz)) (va_Qv (fun (_ : Unit) => True) (fun _ t => sm_QW D cI (va_A [(h, .inr (2, [.ref b, .int (nI u)])), (b, .inl (cI, n, .inl f))] sz) [(h, .inr (2, [.ref b, .int (nI (u + 4))])), (b, .inl (cI, n, .inl (sm_ap f u (sm_wb x) 4)))] t) (va_A [(h, .inr (2, [.ref b, .int (nI u)])), (b, .inl (cI, n, .inl f))] sz)) 0 0 (va_A [(h, .inr (2, [.ref b, .int (nI u)])), (b, .inl (cI, n, .inl f))] sz) := by
  refine Met.ofW (cc := cX2_putWord) (maxL := 3) (ret := none) (by decide) rfl ?_
  intro p e s m args below meth c s₁ B hml hv
  obtain ⟨rfl, hsz, hP, hK, hD0, hT⟩ := hv
  have hx := B.exec
  have hb := B.bytes
  have hr := B.returns
  have hts := atoms_spec (ws := wsX2_putWord) B.pre
  have hown : s.vm.findClass RX2 = some m.cls := findClass_of_methodNamed B.named
  have hlocks := B.notSynchronized
  subst hsz
  have hD := hD0.self (sz := s.heap.size)
  generalize hAe : va_A [(h, .inr (2, [.ref b, .int (nI u)])), (b, .inl (cI, n, .inl f))] s.heap.size = A at hD hT ⊢
  have hA : ∀ q : Nat, s.heap.size ≤ q → A q := fun q h => by rw [← hAe]; exact Or.inr h
  have hS : va_S A s.heap s.heap [] := va_S.rf
  have hl := lv_entry ([.ref h, .int x]) (n := 3) (Nat.le_of_ble_eq_true rfl)
  rw [lg_entry_eq]
  generalize (lg_sl ([.ref h, .int x]) ++ List.replicate (3 - (lg_sl ([.ref h, .int x])).length) Slot.unset).toArray = ls at hl ⊢
  have hl : lv_has ls 3 [(0, .ref h), (1, .int x)] := hl
  refine sm_name (fun Q hQ => ?_)
  refine lv_bipush (v := 24) hx hb dX2_putWord_0 (by decide) ?_
  refine lv_istore_n (lv' := [(2, .int 24), (0, .ref h), (1, .int x)]) hx hb dX2_putWord_2 rfl hl (by decide) rfl (fun ls hl => ?_)
  refine lv_iload_n hx hb dX2_putWord_3 rfl (lv_at hl 0 rfl) ?_
  refine lv_if_lt (tgt := 24) hx hb dX2_putWord_4 (by decide) (fun c_4 => ?_) (fun c_4 => ?_)
  ·
    exact absurd c_4 (by decide)
  ·
    refine lv_aload_n hx hb dX2_putWord_7 rfl (lv_at hl 1 rfl) ?_
    refine lv_iload_n hx hb dX2_putWord_8 rfl (lv_at hl 2 rfl) ?_
    refine lv_iload_n hx hb dX2_putWord_9 rfl (lv_at hl 0 rfl) ?_
    refine lv_iushr (v := sm_us x 24) hx hb dX2_putWord_10 rfl ?_
    refine lv_sipush (v := 255) hx hb dX2_putWord_11 (by decide) ?_
    refine lv_iand hx hb dX2_putWord_14 ?_
    refine sm_callVv (wc := [(h, .inr (2, [.ref b, .int (nI u)])), (b, .inl (cI, n, .inl f))]) (wr := []) (As := [.int ((sm_us x 24) &&& 255)]) (rest := []) ⟨hx, hb, hml, hown, hts⟩ (sc_X2_put l D cI th _ h b n u f ((sm_us x 24) &&& 255) (by omega) hn) (cwV 1 hts gX2_putWord_X2_put rfl rfl rfl (by decide +kernel) ⟨Nat.le_of_ble_eq_true rfl, Nat.le_of_ble_eq_true rfl⟩) hP hD hS hA hK hT [0, 1] [] rfl rfl rfl rfl (by decide) 0 2 rfl rfl rfl rfl hl.1 rfl (Nat.le_of_ble_eq_true rfl) dX2_putWord_15 ⟨Nat.zero_le _, Nat.zero_le _⟩ (fun zt H1 locs ht hvm hB hJ hS => ?_)
    obtain ⟨hP1, -, hD1⟩ := hB
    rw [ht] at hP1
    obtain ⟨hP, hD⟩ := hJ _ hP1 hD1
    clear hJ
    generalize H1 = H at hP hS ⊢
    have hP : va_P D vwCl [(h, .inr (2, [.ref b, .int (nI (u + 1))])), (b, .inl (cI, n, .inl (upd f u ((sm_us x 24) &&& 255))))] H := hP.sub [0, 1] rfl
    have hD : va_D A [(h, .inr (2, [.ref b, .int (nI (u + 1))])), (b, .inl (cI, n, .inl (upd f u ((sm_us x 24) &&& 255))))] := hD.sub [0, 1] rfl rfl
    refine lv_iinc (v := 16) (lv' := [(2, .int 16), (0, .ref h), (1, .int x)]) hx hb dX2_putWord_18 hl (k := 0) rfl (by decide) (by decide) rfl (fun ls hl => ?_)
    refine lv_goto (tgt := 3) hx hb dX2_putWord_21 (by decide) ?_
    refine lv_iload_n hx hb dX2_putWord_3 rfl (lv_at hl 0 rfl) ?_
    refine lv_if_lt (tgt := 24) hx hb dX2_putWord_4 (by decide) (fun c_4 => ?_) (fun c_4 => ?_)
    ·
      exact absurd c_4 (by decide)
    ·
      refine lv_aload_n hx hb dX2_putWord_7 rfl (lv_at hl 1 rfl) ?_
      refine lv_iload_n hx hb dX2_putWord_8 rfl (lv_at hl 2 rfl) ?_
      refine lv_iload_n hx hb dX2_putWord_9 rfl (lv_at hl 0 rfl) ?_
      refine lv_iushr (v := sm_us x 16) hx hb dX2_putWord_10 rfl ?_
      refine lv_sipush (v := 255) hx hb dX2_putWord_11 (by decide) ?_
      refine lv_iand hx hb dX2_putWord_14 ?_
      refine sm_callVv (wc := [(h, .inr (2, [.ref b, .int (nI (u + 1))])), (b, .inl (cI, n, .inl (upd f u ((sm_us x 24) &&& 255))))]) (wr := []) (As := [.int ((sm_us x 16) &&& 255)]) (rest := []) ⟨hx, hb, hml, hown, hts⟩ (sc_X2_put l D cI th _ h b n (u + 1) (upd f u ((sm_us x 24) &&& 255)) ((sm_us x 16) &&& 255) (by omega) hn) (cwV 1 hts gX2_putWord_X2_put rfl rfl rfl (by decide +kernel) ⟨Nat.le_of_ble_eq_true rfl, Nat.le_of_ble_eq_true rfl⟩) hP hD hS hA hK hT [0, 1] [] rfl rfl rfl rfl (by decide) 0 2 rfl rfl rfl rfl hl.1 rfl (Nat.le_of_ble_eq_true rfl) dX2_putWord_15 ⟨Nat.zero_le _, Nat.zero_le _⟩ (fun zt H1 locs ht hvm hB hJ hS => ?_)
      obtain ⟨hP1, -, hD1⟩ := hB
      rw [ht] at hP1
      obtain ⟨hP, hD⟩ := hJ _ hP1 hD1
      clear hJ
      generalize H1 = H at hP hS ⊢
      have hP : va_P D vwCl [(h, .inr (2, [.ref b, .int (nI (u + 1 + 1))])), (b, .inl (cI, n, .inl (upd (upd f u ((sm_us x 24) &&& 255)) (u + 1) ((sm_us x 16) &&& 255))))] H := hP.sub [0, 1] rfl
      have hD : va_D A [(h, .inr (2, [.ref b, .int (nI (u + 1 + 1))])), (b, .inl (cI, n, .inl (upd (upd f u ((sm_us x 24) &&& 255)) (u + 1) ((sm_us x 16) &&& 255))))] := hD.sub [0, 1] rfl rfl
      refine lv_iinc (v := 8) (lv' := [(2, .int 8), (0, .ref h), (1, .int x)]) hx hb dX2_putWord_18 hl (k := 0) rfl (by decide) (by decide) rfl (fun ls hl => ?_)
      refine lv_goto (tgt := 3) hx hb dX2_putWord_21 (by decide) ?_
      refine lv_iload_n hx hb dX2_putWord_3 rfl (lv_at hl 0 rfl) ?_
      refine lv_if_lt (tgt := 24) hx hb dX2_putWord_4 (by decide) (fun c_4 => ?_) (fun c_4 => ?_)
      ·
        exact absurd c_4 (by decide)
      ·
        refine lv_aload_n hx hb dX2_putWord_7 rfl (lv_at hl 1 rfl) ?_
        refine lv_iload_n hx hb dX2_putWord_8 rfl (lv_at hl 2 rfl) ?_
        refine lv_iload_n hx hb dX2_putWord_9 rfl (lv_at hl 0 rfl) ?_
        refine lv_iushr (v := sm_us x 8) hx hb dX2_putWord_10 rfl ?_
        refine lv_sipush (v := 255) hx hb dX2_putWord_11 (by decide) ?_
        refine lv_iand hx hb dX2_putWord_14 ?_
        refine sm_callVv (wc := [(h, .inr (2, [.ref b, .int (nI (u + 1 + 1))])), (b, .inl (cI, n, .inl (upd (upd f u ((sm_us x 24) &&& 255)) (u + 1) ((sm_us x 16) &&& 255))))]) (wr := []) (As := [.int ((sm_us x 8) &&& 255)]) (rest := []) ⟨hx, hb, hml, hown, hts⟩ (sc_X2_put l D cI th _ h b n (u + 1 + 1) (upd (upd f u ((sm_us x 24) &&& 255)) (u + 1) ((sm_us x 16) &&& 255)) ((sm_us x 8) &&& 255) (by omega) hn) (cwV 1 hts gX2_putWord_X2_put rfl rfl rfl (by decide +kernel) ⟨Nat.le_of_ble_eq_true rfl, Nat.le_of_ble_eq_true rfl⟩) hP hD hS hA hK hT [0, 1] [] rfl rfl rfl rfl (by decide) 0 2 rfl rfl rfl rfl hl.1 rfl (Nat.le_of_ble_eq_true rfl) dX2_putWord_15 ⟨Nat.zero_le _, Nat.zero_le _⟩ (fun zt H1 locs ht hvm hB hJ hS => ?_)
        obtain ⟨hP1, -, hD1⟩ := hB
        rw [ht] at hP1
        obtain ⟨hP, hD⟩ := hJ _ hP1 hD1
        clear hJ
        generalize H1 = H at hP hS ⊢
        have hP : va_P D vwCl [(h, .inr (2, [.ref b, .int (nI (u + 1 + 1 + 1))])), (b, .inl (cI, n, .inl (upd (upd (upd f u ((sm_us x 24) &&& 255)) (u + 1) ((sm_us x 16) &&& 255)) (u + 1 + 1) ((sm_us x 8) &&& 255))))] H := hP.sub [0, 1] rfl
        have hD : va_D A [(h, .inr (2, [.ref b, .int (nI (u + 1 + 1 + 1))])), (b, .inl (cI, n, .inl (upd (upd (upd f u ((sm_us x 24) &&& 255)) (u + 1) ((sm_us x 16) &&& 255)) (u + 1 + 1) ((sm_us x 8) &&& 255))))] := hD.sub [0, 1] rfl rfl
        refine lv_iinc (v := 0) (lv' := [(2, .int 0), (0, .ref h), (1, .int x)]) hx hb dX2_putWord_18 hl (k := 0) rfl (by decide) (by decide) rfl (fun ls hl => ?_)
        refine lv_goto (tgt := 3) hx hb dX2_putWord_21 (by decide) ?_
        refine lv_iload_n hx hb dX2_putWord_3 rfl (lv_at hl 0 rfl) ?_
        refine lv_if_lt (tgt := 24) hx hb dX2_putWord_4 (by decide) (fun c_4 => ?_) (fun c_4 => ?_)
        ·
          exact absurd c_4 (by decide)
        ·
          refine lv_aload_n hx hb dX2_putWord_7 rfl (lv_at hl 1 rfl) ?_
          refine lv_iload_n hx hb dX2_putWord_8 rfl (lv_at hl 2 rfl) ?_
          refine lv_iload_n hx hb dX2_putWord_9 rfl (lv_at hl 0 rfl) ?_
          refine lv_iushr (v := sm_us x 0) hx hb dX2_putWord_10 rfl ?_
          refine lv_sipush (v := 255) hx hb dX2_putWord_11 (by decide) ?_
          refine lv_iand hx hb dX2_putWord_14 ?_
          refine sm_callVv (wc := [(h, .inr (2, [.ref b, .int (nI (u + 1 + 1 + 1))])), (b, .inl (cI, n, .inl (upd (upd (upd f u ((sm_us x 24) &&& 255)) (u + 1) ((sm_us x 16) &&& 255)) (u + 1 + 1) ((sm_us x 8) &&& 255))))]) (wr := []) (As := [.int ((sm_us x 0) &&& 255)]) (rest := []) ⟨hx, hb, hml, hown, hts⟩ (sc_X2_put l D cI th _ h b n (u + 1 + 1 + 1) (upd (upd (upd f u ((sm_us x 24) &&& 255)) (u + 1) ((sm_us x 16) &&& 255)) (u + 1 + 1) ((sm_us x 8) &&& 255)) ((sm_us x 0) &&& 255) (by omega) hn) (cwV 1 hts gX2_putWord_X2_put rfl rfl rfl (by decide +kernel) ⟨Nat.le_of_ble_eq_true rfl, Nat.le_of_ble_eq_true rfl⟩) hP hD hS hA hK hT [0, 1] [] rfl rfl rfl rfl (by decide) 0 2 rfl rfl rfl rfl hl.1 rfl (Nat.le_of_ble_eq_true rfl) dX2_putWord_15 ⟨Nat.zero_le _, Nat.zero_le _⟩ (fun zt H1 locs ht hvm hB hJ hS => ?_)
          obtain ⟨hP1, -, hD1⟩ := hB
          rw [ht] at hP1
          obtain ⟨hP, hD⟩ := hJ _ hP1 hD1
          clear hJ
          generalize H1 = H at hP hS ⊢
          have hP : va_P D vwCl [(h, .inr (2, [.ref b, .int (nI (u + 1 + 1 + 1 + 1))])), (b, .inl (cI, n, .inl (upd (upd (upd (upd f u ((sm_us x 24) &&& 255)) (u + 1) ((sm_us x 16) &&& 255)) (u + 1 + 1) ((sm_us x 8) &&& 255)) (u + 1 + 1 + 1) ((sm_us x 0) &&& 255))))] H := hP.sub [0, 1] rfl
          have hD : va_D A [(h, .inr (2, [.ref b, .int (nI (u + 1 + 1 + 1 + 1))])), (b, .inl (cI, n, .inl (upd (upd (upd (upd f u ((sm_us x 24) &&& 255)) (u + 1) ((sm_us x 16) &&& 255)) (u + 1 + 1) ((sm_us x 8) &&& 255)) (u + 1 + 1 + 1) ((sm_us x 0) &&& 255))))] := hD.sub [0, 1] rfl rfl
          refine lv_iinc (v := (-8)) (lv' := [(2, .int (-8)), (0, .ref h), (1, .int x)]) hx hb dX2_putWord_18 hl (k := 0) rfl (by decide) (by decide) rfl (fun ls hl => ?_)
          refine lv_goto (tgt := 3) hx hb dX2_putWord_21 (by decide) ?_
          refine lv_iload_n hx hb dX2_putWord_3 rfl (lv_at hl 0 rfl) ?_
          refine lv_if_lt (tgt := 24) hx hb dX2_putWord_4 (by decide) (fun c_4 => ?_) (fun c_4 => ?_)
          ·
            rw [hQ]
            rw [sm_wb_4] at hP hD
            have hP9 : va_P D vwCl [(h, .inr (2, [.ref b, .int (nI (u + 4))])), (b, .inl (cI, n, .inl (sm_ap f u (sm_wb x) 4)))] H := hP
            have hD9 : va_D A [(h, .inr (2, [.ref b, .int (nI (u + 4))])), (b, .inl (cI, n, .inl (sm_ap f u (sm_wb x) 4)))] := hD
            exact W.vret hx hb hr (fun t ht hW => ⟨⟨(), rfl, trivial, ⟨by rw [ht]; exact hP9, va_K.moved hW.alike hK, hD9⟩⟩, hS.F ht⟩) hS.2.2 dX2_putWord_24
          ·
            exact absurd (show ((-8) : Int32) < 0 by decide) c_4

def rm_X2_at : Room := ({ frames := 0, cells := 0, slots := 0, locals := 0 } : Room)
set_option maxHeartbeats 4000000 in
set_option maxRecDepth 100000 in
/-- Row.at -/
theorem sc_X2_at (l : Launch) (D : va_G) (cI : ClassId) (th : Option (Nat × Nat)) (sz : Nat) (h b n k : Nat) (f : Nat → Int32) (i : Int32) (hk : k ≤ n) (hn : n < 2 ^ 31) : Met l yX2_at wsX2_at rm_X2_at (va_Pc [.ref h, .int i] (sm_PW D cI th [(h, .inr (2, [.ref b, .int (nI k)])), (b, .inl (cI, n, .inl f))] sz)) (va_Qi (fun (r : Int32) (_ : Unit) => r = sm_at f k i) (fun _ t => sm_QW D cI (va_A [(h, .inr (2, [.ref b, .int (nI k)])), (b, .inl (cI, n, .inl f))] sz) [(h, .inr (2, [.ref b, .int (nI k)])), (b, .inl (cI, n, .inl f))] t) (va_A [(h, .inr (2, [.ref b, .int (nI k)])), (b, .inl (cI, n, .inl f))] sz)) 0 0 (va_A [(h, .inr (2, [.ref b, .int (nI k)])), (b, .inl (cI, n, .inl f))] sz) := by
  refine Met.ofW (cc := cX2_at) (maxL := 2) (ret := (some .int)) (by decide) rfl ?_
  intro p e s m args below meth c s₁ B hml hv
  obtain ⟨rfl, hsz, hP, hK, hD0, hT⟩ := hv
  have hx := B.exec
  have hb := B.bytes
  have hr := B.returns
  have hts := atoms_spec (ws := wsX2_at) B.pre
  have hown : s.vm.findClass RX2 = some m.cls := findClass_of_methodNamed B.named
  have hlocks := B.notSynchronized
  subst hsz
  have hD := hD0.self (sz := s.heap.size)
  generalize hAe : va_A [(h, .inr (2, [.ref b, .int (nI k)])), (b, .inl (cI, n, .inl f))] s.heap.size = A at hD hT ⊢
  have hA : ∀ q : Nat, s.heap.size ≤ q → A q := fun q h => by rw [← hAe]; exact Or.inr h
  have hS : va_S A s.heap s.heap [] := va_S.rf
  have hl := lv_entry ([.ref h, .int i]) (n := 2) (Nat.le_of_ble_eq_true rfl)
  rw [lg_entry_eq]
  generalize (lg_sl ([.ref h, .int i]) ++ List.replicate (2 - (lg_sl ([.ref h, .int i])).length) Slot.unset).toArray = ls at hl ⊢
  have hl : lv_has ls 2 [(0, .ref h), (1, .int i)] := hl
  refine sm_name (fun Q hQ => ?_)
  have hf_9 := hts (.fieldLink RX2 9 "SeedMill$Row" "used" "I") (by decide +kernel)
  have hw_X2 : ∀ w ∈ wsX20, w ∈ wsX2_at := by decide +kernel
  have hf_15 := hts (.fieldLink RX2 15 "SeedMill$Row" "bytes" "[I") (by decide +kernel)
  refine lv_iload_n hx hb dX2_at_0 rfl (lv_at hl 1 rfl) ?_
  refine lv_if_lt (tgt := 21) hx hb dX2_at_1 (by decide) (fun c_1 => ?_) (fun c_1 => ?_)
  ·
    refine lv_iconst (v := (-1)) hx hb dX2_at_21 (by decide) ?_
    rw [hQ]
    have hP9 : va_P D vwCl [(h, .inr (2, [.ref b, .int (nI k)])), (b, .inl (cI, n, .inl f))] s.heap := hP
    have hD9 : va_D A [(h, .inr (2, [.ref b, .int (nI k)])), (b, .inl (cI, n, .inl f))] := hD
    exact W.iret (v := (-1)) hx hb hr (fun t ht hW => ⟨⟨(-1), (), rfl, (by unfold sm_at; rw [if_pos (by first | exact Or.inl c_1 | exact Or.inr c_9)]), ⟨by rw [ht]; exact hP9, va_K.moved hW.alike hK, hD9⟩⟩, hS.F ht⟩) hS.2.2 dX2_at_22
  ·
    refine lv_iload_n hx hb dX2_at_4 rfl (lv_at hl 1 rfl) ?_
    refine lv_aload_n hx hb dX2_at_5 rfl (lv_at hl 0 rfl) ?_
    refine va_get (D := D) (ci := 2) (v := .int (nI k)) (C := RX2) (T := TX2) (N := 2) hx hb hts hw_X2 hown hK hP 0 rfl rfl 1 (by decide) hf_9 (fun _ h9 => h9) rfl dX2_at_6 ?_
    refine lv_icmp_ge (tgt := 21) hx hb dX2_at_9 (by decide) (fun c_9 => ?_) (fun c_9 => ?_)
    ·
      refine lv_iconst (v := (-1)) hx hb dX2_at_21 (by decide) ?_
      rw [hQ]
      have hP9 : va_P D vwCl [(h, .inr (2, [.ref b, .int (nI k)])), (b, .inl (cI, n, .inl f))] s.heap := hP
      have hD9 : va_D A [(h, .inr (2, [.ref b, .int (nI k)])), (b, .inl (cI, n, .inl f))] := hD
      exact W.iret (v := (-1)) hx hb hr (fun t ht hW => ⟨⟨(-1), (), rfl, (by unfold sm_at; rw [if_pos (by first | exact Or.inl c_1 | exact Or.inr c_9)]), ⟨by rw [ht]; exact hP9, va_K.moved hW.alike hK, hD9⟩⟩, hS.F ht⟩) hS.2.2 dX2_at_22
    ·
      refine lv_aload_n hx hb dX2_at_12 rfl (lv_at hl 0 rfl) ?_
      refine va_get (D := D) (ci := 2) (v := .ref b) (C := RX2) (T := TX2) (N := 2) hx hb hts hw_X2 hown hK hP 0 rfl rfl 0 (by decide) hf_15 (fun _ h9 => h9) rfl dX2_at_13 ?_
      refine lv_iload_n hx hb dX2_at_16 rfl (lv_at hl 1 rfl) ?_
      have hi0 : ∃ j : Nat, j < k ∧ i = nI j := by
        rcases pk_ix i (n := k) (by omega) with q | q | q
        · exact absurd q c_1
        · exact absurd q c_9
        · exact q
      obtain ⟨j, hj, ej⟩ := hi0
      have hin9 : vp_in i n := by rw [ej]; exact vp_in_nI (by omega) hn
      refine va_iald (i := i) hx hb hK hP 1 0 rfl rfl hin9 dX2_at_17 ?_
      refine lv_goto (tgt := 22) hx hb dX2_at_18 (by decide) ?_
      rw [hQ]
      have hP9 : va_P D vwCl [(h, .inr (2, [.ref b, .int (nI k)])), (b, .inl (cI, n, .inl f))] s.heap := hP
      have hD9 : va_D A [(h, .inr (2, [.ref b, .int (nI k)])), (b, .inl (cI, n, .inl f))] := hD
      exact W.iret (v := f i.toNatClampNeg) hx hb hr (fun t ht hW => ⟨⟨f i.toNatClampNeg, (), rfl, (by unfold sm_at; rw [if_neg (fun q => q.elim c_1 c_9)]), ⟨by rw [ht]; exact hP9, va_K.moved hW.alike hK, hD9⟩⟩, hS.F ht⟩) hS.2.2 dX2_at_22

def rm_X2_wordAt : Room := ({ frames := 1, cells := 0, slots := 0, locals := 21 } : Room)
set_option maxHeartbeats 4000000 in
set_option maxRecDepth 100000 in
/-- Row.wordAt where four bytes are -/
theorem sc_X2_wordAt (l : Launch) (D : va_G) (cI : ClassId) (th : Option (Nat × Nat)) (sz : Nat) (h b n k j : Nat) (f : Nat → Int32) (hj : j + 3 < k) (hk : k ≤ n) (hn : n < 2 ^ 31) : Met l yX2_wordAt wsX2_wordAt rm_X2_wordAt (va_Pc [.ref h, .int (nI j)] (sm_PW D cI th [(h, .inr (2, [.ref b, .int (nI k)])), (b, .inl (cI, n, .inl f))] sz)) (va_Qi (fun (r : Int32) (_ : Unit) => r = sm_wd f j) (fun _ t => sm_QW D cI (va_A [(h, .inr (2, [.ref b, .int (nI k)])), (b, .inl (cI, n, .inl f))] sz) [(h, .inr (2, [.ref b, .int (nI k)])), (b, .inl (cI, n, .inl f))] t) (va_A [(h, .inr (2, [.ref b, .int (nI k)])), (b, .inl (cI, n, .inl f))] sz)) 0 0 (va_A [(h, .inr (2, [.ref b, .int (nI k)])), (b, .inl (cI, n, .inl f))] sz) := by
  refine Met.ofW (cc := cX2_wordAt) (maxL := 2) (ret := (some .int)) (by decide) rfl ?_
  intro p e s m args below meth c s₁ B hml hv
  obtain ⟨rfl, hsz, hP, hK, hD0, hT⟩ := hv
  have hx := B.exec
  have hb := B.bytes
  have hr := B.returns
  have hts := atoms_spec (ws := wsX2_wordAt) B.pre
  have hown : s.vm.findClass RX2 = some m.cls := findClass_of_methodNamed B.named
  have hlocks := B.notSynchronized
  subst hsz
  have hD := hD0.self (sz := s.heap.size)
  generalize hAe : va_A [(h, .inr (2, [.ref b, .int (nI k)])), (b, .inl (cI, n, .inl f))] s.heap.size = A at hD hT ⊢
  have hA : ∀ q : Nat, s.heap.size ≤ q → A q := fun q h => by rw [← hAe]; exact Or.inr h
  have hS : va_S A s.heap s.heap [] := va_S.rf
  have hl := lv_entry ([.ref h, .int (nI j)]) (n := 2) (Nat.le_of_ble_eq_true rfl)
  rw [lg_entry_eq]
  generalize (lg_sl ([.ref h, .int (nI j)]) ++ List.replicate (2 - (lg_sl ([.ref h, .int (nI j)])).length) Slot.unset).toArray = ls at hl ⊢
  have hl : lv_has ls 2 [(0, .ref h), (1, .int (nI j))] := hl
  refine sm_name (fun Q hQ => ?_)
  refine lv_aload_n hx hb dX2_wordAt_0 rfl (lv_at hl 0 rfl) ?_
  refine lv_iload_n hx hb dX2_wordAt_1 rfl (lv_at hl 1 rfl) ?_
  refine sm_callVi (wc := [(h, .inr (2, [.ref b, .int (nI k)])), (b, .inl (cI, n, .inl f))]) (wr := []) (As := [.int (nI j)]) (rest := []) ⟨hx, hb, hml, hown, hts⟩ (sc_X2_at l D cI th _ h b n k f (nI j) hk hn) (cwV 1 hts gX2_wordAt_X2_at rfl rfl rfl (by decide +kernel) ⟨Nat.le_of_ble_eq_true rfl, Nat.le_of_ble_eq_true rfl⟩) hP hD hS hA hK hT [0, 1] [] rfl rfl rfl rfl (by decide) 0 2 rfl rfl rfl rfl hl.1 rfl (Nat.le_of_ble_eq_true rfl) dX2_wordAt_2 ⟨Nat.zero_le _, Nat.zero_le _⟩ (fun r_2 zt H1 locs ht hvm hw hB hJ hS => ?_)
  obtain ⟨hP1, -, hD1⟩ := hB
  rw [ht] at hP1
  obtain ⟨hP, hD⟩ := hJ _ hP1 hD1
  clear hJ
  generalize H1 = H at hP hS ⊢
  have hP : va_P D vwCl [(h, .inr (2, [.ref b, .int (nI k)])), (b, .inl (cI, n, .inl f))] H := hP.sub [0, 1] rfl
  have hD : va_D A [(h, .inr (2, [.ref b, .int (nI k)])), (b, .inl (cI, n, .inl f))] := hD.sub [0, 1] rfl rfl
  subst hw
  refine sm_top (z := f j) (sm_at_in (by omega) (by omega)) ?_
  refine lv_bipush (v := 24) hx hb dX2_wordAt_5 (by decide) ?_
  refine lv_ishl hx hb dX2_wordAt_7 ?_
  refine lv_aload_n hx hb dX2_wordAt_8 rfl (lv_at hl 0 rfl) ?_
  refine lv_iload_n hx hb dX2_wordAt_9 rfl (lv_at hl 1 rfl) ?_
  refine lv_iconst (v := 1) hx hb dX2_wordAt_10 (by decide) ?_
  refine lv_iadd hx hb dX2_wordAt_11 ?_
  refine sm_top (z := nI (j + 1)) (nI_add j 1) ?_
  refine sm_callVi (wc := [(h, .inr (2, [.ref b, .int (nI k)])), (b, .inl (cI, n, .inl f))]) (wr := []) (As := [.int (nI (j + 1))]) (rest := [.int ((f j) <<< (24 &&& 31))]) ⟨hx, hb, hml, hown, hts⟩ (sc_X2_at l D cI th _ h b n k f (nI (j + 1)) hk hn) (cwV 1 hts gX2_wordAt_X2_at rfl rfl rfl (by decide +kernel) ⟨Nat.le_of_ble_eq_true rfl, Nat.le_of_ble_eq_true rfl⟩) hP hD hS hA hK hT [0, 1] [] rfl rfl rfl rfl (by decide) 0 2 rfl rfl rfl rfl hl.1 rfl (Nat.le_of_ble_eq_true rfl) dX2_wordAt_12 ⟨Nat.zero_le _, Nat.zero_le _⟩ (fun r_12 zt H1 locs ht hvm hw hB hJ hS => ?_)
  obtain ⟨hP1, -, hD1⟩ := hB
  rw [ht] at hP1
  obtain ⟨hP, hD⟩ := hJ _ hP1 hD1
  clear hJ
  generalize H1 = H at hP hS ⊢
  have hP : va_P D vwCl [(h, .inr (2, [.ref b, .int (nI k)])), (b, .inl (cI, n, .inl f))] H := hP.sub [0, 1] rfl
  have hD : va_D A [(h, .inr (2, [.ref b, .int (nI k)])), (b, .inl (cI, n, .inl f))] := hD.sub [0, 1] rfl rfl
  subst hw
  refine sm_top (z := f (j + 1)) (sm_at_in (by omega) (by omega)) ?_
  refine lv_bipush (v := 16) hx hb dX2_wordAt_15 (by decide) ?_
  refine lv_ishl hx hb dX2_wordAt_17 ?_
  refine lv_ior hx hb dX2_wordAt_18 ?_
  refine lv_aload_n hx hb dX2_wordAt_19 rfl (lv_at hl 0 rfl) ?_
  refine lv_iload_n hx hb dX2_wordAt_20 rfl (lv_at hl 1 rfl) ?_
  refine lv_iconst (v := 2) hx hb dX2_wordAt_21 (by decide) ?_
  refine lv_iadd hx hb dX2_wordAt_22 ?_
  refine sm_top (z := nI (j + 2)) (nI_add j 2) ?_
  refine sm_callVi (wc := [(h, .inr (2, [.ref b, .int (nI k)])), (b, .inl (cI, n, .inl f))]) (wr := []) (As := [.int (nI (j + 2))]) (rest := [.int (((f j) <<< (24 &&& 31)) ||| ((f (j + 1)) <<< (16 &&& 31)))]) ⟨hx, hb, hml, hown, hts⟩ (sc_X2_at l D cI th _ h b n k f (nI (j + 2)) hk hn) (cwV 1 hts gX2_wordAt_X2_at rfl rfl rfl (by decide +kernel) ⟨Nat.le_of_ble_eq_true rfl, Nat.le_of_ble_eq_true rfl⟩) hP hD hS hA hK hT [0, 1] [] rfl rfl rfl rfl (by decide) 0 2 rfl rfl rfl rfl hl.1 rfl (Nat.le_of_ble_eq_true rfl) dX2_wordAt_23 ⟨Nat.zero_le _, Nat.zero_le _⟩ (fun r_23 zt H1 locs ht hvm hw hB hJ hS => ?_)
  obtain ⟨hP1, -, hD1⟩ := hB
  rw [ht] at hP1
  obtain ⟨hP, hD⟩ := hJ _ hP1 hD1
  clear hJ
  generalize H1 = H at hP hS ⊢
  have hP : va_P D vwCl [(h, .inr (2, [.ref b, .int (nI k)])), (b, .inl (cI, n, .inl f))] H := hP.sub [0, 1] rfl
  have hD : va_D A [(h, .inr (2, [.ref b, .int (nI k)])), (b, .inl (cI, n, .inl f))] := hD.sub [0, 1] rfl rfl
  subst hw
  refine sm_top (z := f (j + 2)) (sm_at_in (by omega) (by omega)) ?_
  refine lv_bipush (v := 8) hx hb dX2_wordAt_26 (by decide) ?_
  refine lv_ishl hx hb dX2_wordAt_28 ?_
  refine lv_ior hx hb dX2_wordAt_29 ?_
  refine lv_aload_n hx hb dX2_wordAt_30 rfl (lv_at hl 0 rfl) ?_
  refine lv_iload_n hx hb dX2_wordAt_31 rfl (lv_at hl 1 rfl) ?_
  refine lv_iconst (v := 3) hx hb dX2_wordAt_32 (by decide) ?_
  refine lv_iadd hx hb dX2_wordAt_33 ?_
  refine sm_top (z := nI (j + 3)) (nI_add j 3) ?_
  refine sm_callVi (wc := [(h, .inr (2, [.ref b, .int (nI k)])), (b, .inl (cI, n, .inl f))]) (wr := []) (As := [.int (nI (j + 3))]) (rest := [.int ((((f j) <<< (24 &&& 31)) ||| ((f (j + 1)) <<< (16 &&& 31))) ||| ((f (j + 2)) <<< (8 &&& 31)))]) ⟨hx, hb, hml, hown, hts⟩ (sc_X2_at l D cI th _ h b n k f (nI (j + 3)) hk hn) (cwV 1 hts gX2_wordAt_X2_at rfl rfl rfl (by decide +kernel) ⟨Nat.le_of_ble_eq_true rfl, Nat.le_of_ble_eq_true rfl⟩) hP hD hS hA hK hT [0, 1] [] rfl rfl rfl rfl (by decide) 0 2 rfl rfl rfl rfl hl.1 rfl (Nat.le_of_ble_eq_true rfl) dX2_wordAt_34 ⟨Nat.zero_le _, Nat.zero_le _⟩ (fun r_34 zt H1 locs ht hvm hw hB hJ hS => ?_)
  obtain ⟨hP1, -, hD1⟩ := hB
  rw [ht] at hP1
  obtain ⟨hP, hD⟩ := hJ _ hP1 hD1
  clear hJ
  generalize H1 = H at hP hS ⊢
  have hP : va_P D vwCl [(h, .inr (2, [.ref b, .int (nI k)])), (b, .inl (cI, n, .inl f))] H := hP.sub [0, 1] rfl
  have hD : va_D A [(h, .inr (2, [.ref b, .int (nI k)])), (b, .inl (cI, n, .inl f))] := hD.sub [0, 1] rfl rfl
  subst hw
  refine sm_top (z := f (j + 3)) (sm_at_in (by omega) (by omega)) ?_
  refine lv_ior hx hb dX2_wordAt_37 ?_
  rw [hQ]
  have hP9 : va_P D vwCl [(h, .inr (2, [.ref b, .int (nI k)])), (b, .inl (cI, n, .inl f))] H := hP
  have hD9 : va_D A [(h, .inr (2, [.ref b, .int (nI k)])), (b, .inl (cI, n, .inl f))] := hD
  exact W.iret (v := ((((f j) <<< (24 &&& 31)) ||| ((f (j + 1)) <<< (16 &&& 31))) ||| ((f (j + 2)) <<< (8 &&& 31))) ||| (f (j + 3))) hx hb hr (fun t ht hW => ⟨⟨((((f j) <<< (24 &&& 31)) ||| ((f (j + 1)) <<< (16 &&& 31))) ||| ((f (j + 2)) <<< (8 &&& 31))) ||| (f (j + 3)), (), rfl, rfl, ⟨by rw [ht]; exact hP9, va_K.moved hW.alike hK, hD9⟩⟩, hS.F ht⟩) hS.2.2 dX2_wordAt_38

def rm_X2_sameAs : Room := ({ frames := 0, cells := 0, slots := 0, locals := 0 } : Room)
set_option maxHeartbeats 4000000 in
set_option maxRecDepth 100000 in
/-- Row.sameAs of two rows that are the same -/
theorem sc_X2_sameAs (l : Launch) (D : va_G) (cI : ClassId) (th : Option (Nat × Nat)) (sz : Nat) (h b n h2 b2 n2 k : Nat) (f g : Nat → Int32) (he : ∀ j, j < k → f j = g j) (hk : k ≤ n) (hk2 : k ≤ n2) (hn : n < 2 ^ 31) (hn2 : n2 < 2 ^ 31) : Met l yX2_sameAs wsX2_sameAs rm_X2_sameAs (va_Pc [.ref h, .ref h2] (sm_PW D cI th [(h, .inr (2, [.ref b, .int (nI k)])), (b, .inl (cI, n, .inl f)), (h2, .inr (2, [.ref b2, .int (nI k)])), (b2, .inl (cI, n2, .inl g))] sz)) (va_Qi (fun (r : Int32) (_ : Unit) => r = 1) (fun _ t => sm_QW D cI (va_A [(h, .inr (2, [.ref b, .int (nI k)])), (b, .inl (cI, n, .inl f)), (h2, .inr (2, [.ref b2, .int (nI k)])), (b2, .inl (cI, n2, .inl g))] sz) [(h, .inr (2, [.ref b, .int (nI k)])), (b, .inl (cI, n, .inl f)), (h2, .inr (2, [.ref b2, .int (nI k)])), (b2, .inl (cI, n2, .inl g))] t) (va_A [(h, .inr (2, [.ref b, .int (nI k)])), (b, .inl (cI, n, .inl f)), (h2, .inr (2, [.ref b2, .int (nI k)])), (b2, .inl (cI, n2, .inl g))] sz)) 0 0 (va_A [(h, .inr (2, [.ref b, .int (nI k)])), (b, .inl (cI, n, .inl f)), (h2, .inr (2, [.ref b2, .int (nI k)])), (b2, .inl (cI, n2, .inl g))] sz) := by
  refine Met.ofW (cc := cX2_sameAs) (maxL := 3) (ret := (some .boolean)) (by decide) rfl ?_
  intro p e s m args below meth c s₁ B hml hv
  obtain ⟨rfl, hsz, hP, hK, hD0, hT⟩ := hv
  have hx := B.exec
  have hb := B.bytes
  have hr := B.returns
  have hts := atoms_spec (ws := wsX2_sameAs) B.pre
  have hown : s.vm.findClass RX2 = some m.cls := findClass_of_methodNamed B.named
  have hlocks := B.notSynchronized
  subst hsz
  have hD := hD0.self (sz := s.heap.size)
  generalize hAe : va_A [(h, .inr (2, [.ref b, .int (nI k)])), (b, .inl (cI, n, .inl f)), (h2, .inr (2, [.ref b2, .int (nI k)])), (b2, .inl (cI, n2, .inl g))] s.heap.size = A at hD hT ⊢
  have hA : ∀ q : Nat, s.heap.size ≤ q → A q := fun q h => by rw [← hAe]; exact Or.inr h
  have hS : va_S A s.heap s.heap [] := va_S.rf
  have hl := lv_entry ([.ref h, .ref h2]) (n := 3) (Nat.le_of_ble_eq_true rfl)
  rw [lg_entry_eq]
  generalize (lg_sl ([.ref h, .ref h2]) ++ List.replicate (3 - (lg_sl ([.ref h, .ref h2])).length) Slot.unset).toArray = ls at hl ⊢
  have hl : lv_has ls 3 [(0, .ref h), (1, .ref h2)] := hl
  refine sm_name (fun Q hQ => ?_)
  have hf_9 := hts (.fieldLink RX2 9 "SeedMill$Row" "used" "I") (by decide +kernel)
  have hw_X2 : ∀ w ∈ wsX20, w ∈ wsX2_sameAs := by decide +kernel
  have hf_15 := hts (.fieldLink RX2 15 "SeedMill$Row" "bytes" "[I") (by decide +kernel)
  refine lv_aload_n hx hb dX2_sameAs_0 rfl (lv_at hl 0 rfl) ?_
  refine va_get (D := D) (ci := 2) (v := .int (nI k)) (C := RX2) (T := TX2) (N := 2) hx hb hts hw_X2 hown hK hP 0 rfl rfl 1 (by decide) hf_9 (fun _ h9 => h9) rfl dX2_sameAs_1 ?_
  refine lv_aload_n hx hb dX2_sameAs_4 rfl (lv_at hl 1 rfl) ?_
  refine va_get (D := D) (ci := 2) (v := .int (nI k)) (C := RX2) (T := TX2) (N := 2) hx hb hts hw_X2 hown hK hP 2 rfl rfl 1 (by decide) hf_9 (fun _ h9 => h9) rfl dX2_sameAs_5 ?_
  refine lv_icmp_eq (tgt := 13) hx hb dX2_sameAs_8 (by decide) (fun c_8 => ?_) (fun c_8 => ?_)
  ·
    refine lv_iconst (v := 0) hx hb dX2_sameAs_13 (by decide) ?_
    refine lv_istore_n (lv' := [(2, .int 0), (0, .ref h), (1, .ref h2)]) hx hb dX2_sameAs_14 rfl hl (by decide) rfl (fun ls hl => ?_)
    have lp15 : ∀ (zn : Nat) (i : Nat) (H : Heap) (locs : List Loc) (ls : Array Slot), k - i < zn → i ≤ k → va_P D vwCl [(h, .inr (2, [.ref b, .int (nI k)])), (b, .inl (cI, n, .inl f)), (h2, .inr (2, [.ref b2, .int (nI k)])), (b2, .inl (cI, n2, .inl g))] H → va_D A [(h, .inr (2, [.ref b, .int (nI k)])), (b, .inl (cI, n, .inl f)), (h2, .inr (2, [.ref b2, .int (nI k)])), (b2, .inl (cI, n2, .inl g))] → va_S A s.heap H locs → lv_has ls 3 [(2, .int (nI i)), (0, .ref h), (1, .ref h2)] → W p l e (headSpec wsX2_sameAs rm_X2_sameAs).room s m ([.ref h, .ref h2] : List Value).toArray below meth c H locs 0 0 Q (F0 m 15 ls []) := by
      intro zn
      induction zn with
      | zero => intro i H locs ls hmu; exact absurd hmu (Nat.not_lt_zero _)
      | succ zn ih =>
        intro i H locs ls hmu hi_15 hP hD hS hl
        refine lv_iload_n hx hb dX2_sameAs_15 rfl (lv_at hl 0 rfl) ?_
        refine lv_aload_n hx hb dX2_sameAs_16 rfl (lv_at hl 1 rfl) ?_
        refine va_get (D := D) (ci := 2) (v := .int (nI k)) (C := RX2) (T := TX2) (N := 2) hx hb hts hw_X2 hown hK hP 0 rfl rfl 1 (by decide) hf_9 (fun _ h9 => h9) rfl dX2_sameAs_17 ?_
        refine lv_icmp_ge (tgt := 46) hx hb dX2_sameAs_20 (by decide) (fun c_20 => ?_) (fun c_20 => ?_)
        ·
          have hex_15 : i = k := by
            rcases Nat.lt_or_ge i (k) with q | q
            · exact absurd c_20 (nI_ge q (by omega))
            · omega
          refine lv_iconst (v := 1) hx hb dX2_sameAs_46 (by decide) ?_
          rw [hQ]
          have hP9 : va_P D vwCl [(h, .inr (2, [.ref b, .int (nI k)])), (b, .inl (cI, n, .inl f)), (h2, .inr (2, [.ref b2, .int (nI k)])), (b2, .inl (cI, n2, .inl g))] H := hP
          have hD9 : va_D A [(h, .inr (2, [.ref b, .int (nI k)])), (b, .inl (cI, n, .inl f)), (h2, .inr (2, [.ref b2, .int (nI k)])), (b2, .inl (cI, n2, .inl g))] := hD
          exact W.zret (v := 1) (ty := .boolean) hx hb hr rfl (fun t ht hW => ⟨⟨1, (), rfl, rfl, ⟨by rw [ht]; exact hP9, va_K.moved hW.alike hK, hD9⟩⟩, hS.F ht⟩) hS.2.2 dX2_sameAs_47
        ·
          have hlt_15 : i < k := by
            rcases Nat.lt_or_ge i (k) with q | q
            · exact q
            · exact absurd (nI_le q (by omega)) c_20
          refine lv_aload_n hx hb dX2_sameAs_23 rfl (lv_at hl 1 rfl) ?_
          refine va_get (D := D) (ci := 2) (v := .ref b) (C := RX2) (T := TX2) (N := 2) hx hb hts hw_X2 hown hK hP 0 rfl rfl 0 (by decide) hf_15 (fun _ h9 => h9) rfl dX2_sameAs_24 ?_
          refine lv_iload_n hx hb dX2_sameAs_27 rfl (lv_at hl 0 rfl) ?_
          refine va_iald (i := nI i) hx hb hK hP 1 0 rfl rfl (vp_in_nI (n := i) (by omega) (by omega)) dX2_sameAs_28 ?_
          refine sm_top (z := f i) (congrArg f (nI_clamp (n := i) (by omega))) ?_
          refine lv_aload_n hx hb dX2_sameAs_29 rfl (lv_at hl 2 rfl) ?_
          refine va_get (D := D) (ci := 2) (v := .ref b2) (C := RX2) (T := TX2) (N := 2) hx hb hts hw_X2 hown hK hP 2 rfl rfl 0 (by decide) hf_15 (fun _ h9 => h9) rfl dX2_sameAs_30 ?_
          refine lv_iload_n hx hb dX2_sameAs_33 rfl (lv_at hl 0 rfl) ?_
          refine va_iald (i := nI i) hx hb hK hP 3 0 rfl rfl (vp_in_nI (n := i) (by omega) (by omega)) dX2_sameAs_34 ?_
          refine sm_top (z := g i) (congrArg g (nI_clamp (n := i) (by omega))) ?_
          refine lv_icmp_eq (tgt := 40) hx hb dX2_sameAs_35 (by decide) (fun c_35 => ?_) (fun c_35 => ?_)
          ·
            refine lv_iinc (v := nI (i + 1)) (lv' := [(2, .int (nI (i + 1))), (0, .ref h), (1, .ref h2)]) hx hb dX2_sameAs_40 hl (k := 0) rfl (nI_1 i) (by decide) rfl (fun ls hl => ?_)
            refine lv_goto (tgt := 15) hx hb dX2_sameAs_43 (by decide) ?_
            exact ih (i + 1) _ _ _ (by omega) (by omega) hP hD hS (lv_sub hl [0, 1, 2] rfl)
          ·
            exact absurd (he i hlt_15) c_35
    exact lp15 _ 0 _ _ _ (Nat.lt_succ_self _) (Nat.zero_le _) hP hD hS (lv_sub hl [0, 1, 2] rfl)
  ·
    exact absurd rfl c_8
end
section
def rm_X0_begin : Room := ({ frames := 1, cells := 0, slots := 0, locals := 20 } : Room)
set_option maxHeartbeats 4000000 in
set_option maxRecDepth 100000 in
/-- Hasher.begin -/
theorem sc_X0_begin (l : Launch) (D : va_G) (cI : ClassId) (th : Option (Nat × Nat)) (sz : Nat) (hh hm bm aw ad : Nat) (fm : Nat → Int32) (u : Int32)  : Met l yX0_begin wsX0_begin rm_X0_begin (va_Pc [.ref hh] (sm_PW D cI th [(hh, .inr (0, [.ref hm, .ref aw, .ref ad])), (hm, .inr (2, [.ref bm, .int u])), (bm, .inl (cI, 448, .inl fm))] sz)) (va_Qv (fun (_ : Unit) => True) (fun _ t => sm_QW D cI (va_A [(hh, .inr (0, [.ref hm, .ref aw, .ref ad])), (hm, .inr (2, [.ref bm, .int u])), (bm, .inl (cI, 448, .inl fm))] sz) [(hh, .inr (0, [.ref hm, .ref aw, .ref ad])), (hm, .inr (2, [.ref bm, .int (nI 0)])), (bm, .inl (cI, 448, .inl fm))] t) (va_A [(hh, .inr (0, [.ref hm, .ref aw, .ref ad])), (hm, .inr (2, [.ref bm, .int u])), (bm, .inl (cI, 448, .inl fm))] sz)) 0 0 (va_A [(hh, .inr (0, [.ref hm, .ref aw, .ref ad])), (hm, .inr (2, [.ref bm, .int u])), (bm, .inl (cI, 448, .inl fm))] sz) := by
  refine Met.ofW (cc := cX0_begin) (maxL := 1) (ret := none) (by decide) rfl ?_
  intro p e s m args below meth c s₁ B hml hv
  obtain ⟨rfl, hsz, hP, hK, hD0, hT⟩ := hv
  have hx := B.exec
  have hb := B.bytes
  have hr := B.returns
  have hts := atoms_spec (ws := wsX0_begin) B.pre
  have hown : s.vm.findClass RX0 = some m.cls := findClass_of_methodNamed B.named
  have hlocks := B.notSynchronized
  subst hsz
  have hD := hD0.self (sz := s.heap.size)
  generalize hAe : va_A [(hh, .inr (0, [.ref hm, .ref aw, .ref ad])), (hm, .inr (2, [.ref bm, .int u])), (bm, .inl (cI, 448, .inl fm))] s.heap.size = A at hD hT ⊢
  have hA : ∀ q : Nat, s.heap.size ≤ q → A q := fun q h => by rw [← hAe]; exact Or.inr h
  have hS : va_S A s.heap s.heap [] := va_S.rf
  have hl := lv_entry ([.ref hh]) (n := 1) (Nat.le_of_ble_eq_true rfl)
  rw [lg_entry_eq]
  generalize (lg_sl ([.ref hh]) ++ List.replicate (1 - (lg_sl ([.ref hh])).length) Slot.unset).toArray = ls at hl ⊢
  have hl : lv_has ls 1 [(0, .ref hh)] := hl
  refine sm_name (fun Q hQ => ?_)
  have hf_14 := hts (.fieldLink RX0 14 "SeedMill$Hasher" "message" "LSeedMill$Row;") (by decide +kernel)
  have hw_X0 : ∀ w ∈ wsX00, w ∈ wsX0_begin := by decide +kernel
  refine lv_aload_n hx hb dX0_begin_0 rfl (lv_at hl 0 rfl) ?_
  refine va_get (D := D) (ci := 0) (v := .ref hm) (C := RX0) (T := TX0) (N := 3) hx hb hts hw_X0 hown hK hP 0 rfl rfl 0 (by decide) hf_14 (fun _ h9 => h9) rfl dX0_begin_1 ?_
  refine sm_callVv (wc := [(hm, .inr (2, [.ref bm, .int u])), (bm, .inl (cI, 448, .inl fm))]) (wr := [(hh, .inr (0, [.ref hm, .ref aw, .ref ad]))]) (As := []) (rest := []) ⟨hx, hb, hml, hown, hts⟩ (sc_X2_empty l D cI th _ hm bm 448 fm u ) (cwV 0 hts gX0_begin_X2_empty rfl rfl rfl (by decide +kernel) ⟨Nat.le_of_ble_eq_true rfl, Nat.le_of_ble_eq_true rfl⟩) hP hD hS hA hK hT [1, 2] [0] rfl rfl rfl rfl (by decide) 0 2 rfl rfl rfl rfl hl.1 rfl (Nat.le_of_ble_eq_true rfl) dX0_begin_4 ⟨Nat.zero_le _, Nat.zero_le _⟩ (fun zt H1 locs ht hvm hB hJ hS => ?_)
  obtain ⟨hP1, -, hD1⟩ := hB
  rw [ht] at hP1
  obtain ⟨hP, hD⟩ := hJ _ hP1 hD1
  clear hJ
  generalize H1 = H at hP hS ⊢
  have hP : va_P D vwCl [(hh, .inr (0, [.ref hm, .ref aw, .ref ad])), (hm, .inr (2, [.ref bm, .int (nI 0)])), (bm, .inl (cI, 448, .inl fm))] H := hP.sub [0, 1, 2] rfl
  have hD : va_D A [(hh, .inr (0, [.ref hm, .ref aw, .ref ad])), (hm, .inr (2, [.ref bm, .int (nI 0)])), (bm, .inl (cI, 448, .inl fm))] := hD.sub [0, 1, 2] rfl rfl
  rw [hQ]
  have hP9 : va_P D vwCl [(hh, .inr (0, [.ref hm, .ref aw, .ref ad])), (hm, .inr (2, [.ref bm, .int (nI 0)])), (bm, .inl (cI, 448, .inl fm))] H := hP
  have hD9 : va_D A [(hh, .inr (0, [.ref hm, .ref aw, .ref ad])), (hm, .inr (2, [.ref bm, .int (nI 0)])), (bm, .inl (cI, 448, .inl fm))] := hD
  exact W.vret hx hb hr (fun t ht hW => ⟨⟨(), rfl, trivial, ⟨by rw [ht]; exact hP9, va_K.moved hW.alike hK, hD9⟩⟩, hS.F ht⟩) hS.2.2 dX0_begin_7

def rm_X0_add : Room := ({ frames := 2, cells := 0, slots := 0, locals := 45 } : Room)
set_option maxHeartbeats 4000000 in
set_option maxRecDepth 100000 in
/-- Hasher.add -/
theorem sc_X0_add (l : Launch) (D : va_G) (cI : ClassId) (th : Option (Nat × Nat)) (sz : Nat) (hh hm bm aw ad : Nat) (u qr rb nr u2 : Nat) (fm g : Nat → Int32) (hE : u + u2 ≤ 448) (hu2 : u2 ≤ nr) (hnr : nr < 2 ^ 31) : Met l yX0_add wsX0_add rm_X0_add (va_Pc [.ref hh, .ref qr] (sm_PW D cI th [(hh, .inr (0, [.ref hm, .ref aw, .ref ad])), (hm, .inr (2, [.ref bm, .int (nI u)])), (bm, .inl (cI, 448, .inl fm)), (qr, .inr (2, [.ref rb, .int (nI u2)])), (rb, .inl (cI, nr, .inl g))] sz)) (va_Qv (fun (_ : Unit) => True) (fun _ t => sm_QW D cI (va_A [(hh, .inr (0, [.ref hm, .ref aw, .ref ad])), (hm, .inr (2, [.ref bm, .int (nI u)])), (bm, .inl (cI, 448, .inl fm)), (qr, .inr (2, [.ref rb, .int (nI u2)])), (rb, .inl (cI, nr, .inl g))] sz) [(hh, .inr (0, [.ref hm, .ref aw, .ref ad])), (hm, .inr (2, [.ref bm, .int (nI (u + u2))])), (bm, .inl (cI, 448, .inl (sm_ap fm u g u2))), (qr, .inr (2, [.ref rb, .int (nI u2)])), (rb, .inl (cI, nr, .inl g))] t) (va_A [(hh, .inr (0, [.ref hm, .ref aw, .ref ad])), (hm, .inr (2, [.ref bm, .int (nI u)])), (bm, .inl (cI, 448, .inl fm)), (qr, .inr (2, [.ref rb, .int (nI u2)])), (rb, .inl (cI, nr, .inl g))] sz)) 0 0 (va_A [(hh, .inr (0, [.ref hm, .ref aw, .ref ad])), (hm, .inr (2, [.ref bm, .int (nI u)])), (bm, .inl (cI, 448, .inl fm)), (qr, .inr (2, [.ref rb, .int (nI u2)])), (rb, .inl (cI, nr, .inl g))] sz) := by
  refine Met.ofW (cc := cX0_add) (maxL := 2) (ret := none) (by decide) rfl ?_
  intro p e s m args below meth c s₁ B hml hv
  obtain ⟨rfl, hsz, hP, hK, hD0, hT⟩ := hv
  have hx := B.exec
  have hb := B.bytes
  have hr := B.returns
  have hts := atoms_spec (ws := wsX0_add) B.pre
  have hown : s.vm.findClass RX0 = some m.cls := findClass_of_methodNamed B.named
  have hlocks := B.notSynchronized
  subst hsz
  have hD := hD0.self (sz := s.heap.size)
  generalize hAe : va_A [(hh, .inr (0, [.ref hm, .ref aw, .ref ad])), (hm, .inr (2, [.ref bm, .int (nI u)])), (bm, .inl (cI, 448, .inl fm)), (qr, .inr (2, [.ref rb, .int (nI u2)])), (rb, .inl (cI, nr, .inl g))] s.heap.size = A at hD hT ⊢
  have hA : ∀ q : Nat, s.heap.size ≤ q → A q := fun q h => by rw [← hAe]; exact Or.inr h
  have hS : va_S A s.heap s.heap [] := va_S.rf
  have hl := lv_entry ([.ref hh, .ref qr]) (n := 2) (Nat.le_of_ble_eq_true rfl)
  rw [lg_entry_eq]
  generalize (lg_sl ([.ref hh, .ref qr]) ++ List.replicate (2 - (lg_sl ([.ref hh, .ref qr])).length) Slot.unset).toArray = ls at hl ⊢
  have hl : lv_has ls 2 [(0, .ref hh), (1, .ref qr)] := hl
  refine sm_name (fun Q hQ => ?_)
  have hf_14 := hts (.fieldLink RX0 14 "SeedMill$Hasher" "message" "LSeedMill$Row;") (by decide +kernel)
  have hw_X0 : ∀ w ∈ wsX00, w ∈ wsX0_add := by decide +kernel
  refine lv_aload_n hx hb dX0_add_0 rfl (lv_at hl 0 rfl) ?_
  refine va_get (D := D) (ci := 0) (v := .ref hm) (C := RX0) (T := TX0) (N := 3) hx hb hts hw_X0 hown hK hP 0 rfl rfl 0 (by decide) hf_14 (fun _ h9 => h9) rfl dX0_add_1 ?_
  refine lv_aload_n hx hb dX0_add_4 rfl (lv_at hl 1 rfl) ?_
  refine lv_aload_n hx hb dX0_add_5 rfl (lv_at hl 1 rfl) ?_
  refine sm_callVi (wc := [(qr, .inr (2, [.ref rb, .int (nI u2)])), (rb, .inl (cI, nr, .inl g))]) (wr := [(hh, .inr (0, [.ref hm, .ref aw, .ref ad])), (hm, .inr (2, [.ref bm, .int (nI u)])), (bm, .inl (cI, 448, .inl fm))]) (As := []) (rest := [.ref qr, .ref hm]) ⟨hx, hb, hml, hown, hts⟩ (sc_X2_size l D cI th _ qr rb nr g (nI u2) ) (cwV 0 hts gX0_add_X2_size rfl rfl rfl (by decide +kernel) ⟨Nat.le_of_ble_eq_true rfl, Nat.le_of_ble_eq_true rfl⟩) hP hD hS hA hK hT [3, 4] [0, 1, 2] rfl rfl rfl rfl (by decide) 0 2 rfl rfl rfl rfl hl.1 rfl (Nat.le_of_ble_eq_true rfl) dX0_add_6 ⟨Nat.zero_le _, Nat.zero_le _⟩ (fun r_6 zt H1 locs ht hvm hw hB hJ hS => ?_)
  obtain ⟨hP1, -, hD1⟩ := hB
  rw [ht] at hP1
  obtain ⟨hP, hD⟩ := hJ _ hP1 hD1
  clear hJ
  generalize H1 = H at hP hS ⊢
  have hP : va_P D vwCl [(hh, .inr (0, [.ref hm, .ref aw, .ref ad])), (hm, .inr (2, [.ref bm, .int (nI u)])), (bm, .inl (cI, 448, .inl fm)), (qr, .inr (2, [.ref rb, .int (nI u2)])), (rb, .inl (cI, nr, .inl g))] H := hP.sub [0, 1, 2, 3, 4] rfl
  have hD : va_D A [(hh, .inr (0, [.ref hm, .ref aw, .ref ad])), (hm, .inr (2, [.ref bm, .int (nI u)])), (bm, .inl (cI, 448, .inl fm)), (qr, .inr (2, [.ref rb, .int (nI u2)])), (rb, .inl (cI, nr, .inl g))] := hD.sub [0, 1, 2, 3, 4] rfl rfl
  subst hw
  refine sm_callVv (wc := [(hm, .inr (2, [.ref bm, .int (nI u)])), (bm, .inl (cI, 448, .inl fm)), (qr, .inr (2, [.ref rb, .int (nI u2)])), (rb, .inl (cI, nr, .inl g))]) (wr := [(hh, .inr (0, [.ref hm, .ref aw, .ref ad]))]) (As := [.ref qr, .int (nI u2)]) (rest := []) ⟨hx, hb, hml, hown, hts⟩ (sc_X2_append l D cI th _ hm bm 448 u qr rb nr u2 u2 fm g (by omega) hu2 (by decide) hnr (by omega)) (cwV 2 hts gX0_add_X2_append rfl rfl rfl (by decide +kernel) ⟨Nat.le_of_ble_eq_true rfl, Nat.le_of_ble_eq_true rfl⟩) hP hD hS hA hK hT [1, 2, 3, 4] [0] rfl rfl rfl rfl (by decide) 0 2 rfl rfl rfl rfl hl.1 rfl (Nat.le_of_ble_eq_true rfl) dX0_add_9 ⟨Nat.zero_le _, Nat.zero_le _⟩ (fun zt H1 locs ht hvm hB hJ hS => ?_)
  obtain ⟨hP1, -, hD1⟩ := hB
  rw [ht] at hP1
  obtain ⟨hP, hD⟩ := hJ _ hP1 hD1
  clear hJ
  generalize H1 = H at hP hS ⊢
  have hP : va_P D vwCl [(hh, .inr (0, [.ref hm, .ref aw, .ref ad])), (hm, .inr (2, [.ref bm, .int (nI (u + min u2 u2))])), (bm, .inl (cI, 448, .inl (sm_ap fm u g (min u2 u2)))), (qr, .inr (2, [.ref rb, .int (nI u2)])), (rb, .inl (cI, nr, .inl g))] H := hP.sub [0, 1, 2, 3, 4] rfl
  have hD : va_D A [(hh, .inr (0, [.ref hm, .ref aw, .ref ad])), (hm, .inr (2, [.ref bm, .int (nI (u + min u2 u2))])), (bm, .inl (cI, 448, .inl (sm_ap fm u g (min u2 u2)))), (qr, .inr (2, [.ref rb, .int (nI u2)])), (rb, .inl (cI, nr, .inl g))] := hD.sub [0, 1, 2, 3, 4] rfl rfl
  rw [hQ]
  rw [Nat.min_self] at hP hD
  have hP9 : va_P D vwCl [(hh, .inr (0, [.ref hm, .ref aw, .ref ad])), (hm, .inr (2, [.ref bm, .int (nI (u + u2))])), (bm, .inl (cI, 448, .inl (sm_ap fm u g u2))), (qr, .inr (2, [.ref rb, .int (nI u2)])), (rb, .inl (cI, nr, .inl g))] H := hP
  have hD9 : va_D A [(hh, .inr (0, [.ref hm, .ref aw, .ref ad])), (hm, .inr (2, [.ref bm, .int (nI (u + u2))])), (bm, .inl (cI, 448, .inl (sm_ap fm u g u2))), (qr, .inr (2, [.ref rb, .int (nI u2)])), (rb, .inl (cI, nr, .inl g))] := hD
  exact W.vret hx hb hr (fun t ht hW => ⟨⟨(), rfl, trivial, ⟨by rw [ht]; exact hP9, va_K.moved hW.alike hK, hD9⟩⟩, hS.F ht⟩) hS.2.2 dX0_add_12

def rm_X0_addXor : Room := ({ frames := 2, cells := 0, slots := 0, locals := 44 } : Room)
set_option maxHeartbeats 4000000 in
set_option maxRecDepth 100000 in
/-- Hasher.addXor -/
theorem sc_X0_addXor (l : Launch) (D : va_G) (cI : ClassId) (th : Option (Nat × Nat)) (sz : Nat) (hh hm bm aw ad : Nat) (u qr rb nr u2 : Nat) (fm g : Nat → Int32) (x : Int32) (hE : u + u2 ≤ 448) (hu2 : u2 ≤ nr) (hnr : nr < 2 ^ 31) : Met l yX0_addXor wsX0_addXor rm_X0_addXor (va_Pc [.ref hh, .ref qr, .int x] (sm_PW D cI th [(hh, .inr (0, [.ref hm, .ref aw, .ref ad])), (hm, .inr (2, [.ref bm, .int (nI u)])), (bm, .inl (cI, 448, .inl fm)), (qr, .inr (2, [.ref rb, .int (nI u2)])), (rb, .inl (cI, nr, .inl g))] sz)) (va_Qv (fun (_ : Unit) => True) (fun _ t => sm_QW D cI (va_A [(hh, .inr (0, [.ref hm, .ref aw, .ref ad])), (hm, .inr (2, [.ref bm, .int (nI u)])), (bm, .inl (cI, 448, .inl fm)), (qr, .inr (2, [.ref rb, .int (nI u2)])), (rb, .inl (cI, nr, .inl g))] sz) [(hh, .inr (0, [.ref hm, .ref aw, .ref ad])), (hm, .inr (2, [.ref bm, .int (nI (u + u2))])), (bm, .inl (cI, 448, .inl (sm_ap fm u (fun j => g j ^^^ x) u2))), (qr, .inr (2, [.ref rb, .int (nI u2)])), (rb, .inl (cI, nr, .inl g))] t) (va_A [(hh, .inr (0, [.ref hm, .ref aw, .ref ad])), (hm, .inr (2, [.ref bm, .int (nI u)])), (bm, .inl (cI, 448, .inl fm)), (qr, .inr (2, [.ref rb, .int (nI u2)])), (rb, .inl (cI, nr, .inl g))] sz)) 0 0 (va_A [(hh, .inr (0, [.ref hm, .ref aw, .ref ad])), (hm, .inr (2, [.ref bm, .int (nI u)])), (bm, .inl (cI, 448, .inl fm)), (qr, .inr (2, [.ref rb, .int (nI u2)])), (rb, .inl (cI, nr, .inl g))] sz) := by
  refine Met.ofW (cc := cX0_addXor) (maxL := 3) (ret := none) (by decide) rfl ?_
  intro p e s m args below meth c s₁ B hml hv
  obtain ⟨rfl, hsz, hP, hK, hD0, hT⟩ := hv
  have hx := B.exec
  have hb := B.bytes
  have hr := B.returns
  have hts := atoms_spec (ws := wsX0_addXor) B.pre
  have hown : s.vm.findClass RX0 = some m.cls := findClass_of_methodNamed B.named
  have hlocks := B.notSynchronized
  subst hsz
  have hD := hD0.self (sz := s.heap.size)
  generalize hAe : va_A [(hh, .inr (0, [.ref hm, .ref aw, .ref ad])), (hm, .inr (2, [.ref bm, .int (nI u)])), (bm, .inl (cI, 448, .inl fm)), (qr, .inr (2, [.ref rb, .int (nI u2)])), (rb, .inl (cI, nr, .inl g))] s.heap.size = A at hD hT ⊢
  have hA : ∀ q : Nat, s.heap.size ≤ q → A q := fun q h => by rw [← hAe]; exact Or.inr h
  have hS : va_S A s.heap s.heap [] := va_S.rf
  have hl := lv_entry ([.ref hh, .ref qr, .int x]) (n := 3) (Nat.le_of_ble_eq_true rfl)
  rw [lg_entry_eq]
  generalize (lg_sl ([.ref hh, .ref qr, .int x]) ++ List.replicate (3 - (lg_sl ([.ref hh, .ref qr, .int x])).length) Slot.unset).toArray = ls at hl ⊢
  have hl : lv_has ls 3 [(0, .ref hh), (1, .ref qr), (2, .int x)] := hl
  refine sm_name (fun Q hQ => ?_)
  have hf_14 := hts (.fieldLink RX0 14 "SeedMill$Hasher" "message" "LSeedMill$Row;") (by decide +kernel)
  have hw_X0 : ∀ w ∈ wsX00, w ∈ wsX0_addXor := by decide +kernel
  refine lv_aload_n hx hb dX0_addXor_0 rfl (lv_at hl 0 rfl) ?_
  refine va_get (D := D) (ci := 0) (v := .ref hm) (C := RX0) (T := TX0) (N := 3) hx hb hts hw_X0 hown hK hP 0 rfl rfl 0 (by decide) hf_14 (fun _ h9 => h9) rfl dX0_addXor_1 ?_
  refine lv_aload_n hx hb dX0_addXor_4 rfl (lv_at hl 1 rfl) ?_
  refine lv_iload_n hx hb dX0_addXor_5 rfl (lv_at hl 2 rfl) ?_
  refine sm_callVv (wc := [(hm, .inr (2, [.ref bm, .int (nI u)])), (bm, .inl (cI, 448, .inl fm)), (qr, .inr (2, [.ref rb, .int (nI u2)])), (rb, .inl (cI, nr, .inl g))]) (wr := [(hh, .inr (0, [.ref hm, .ref aw, .ref ad]))]) (As := [.ref qr, .int x]) (rest := []) ⟨hx, hb, hml, hown, hts⟩ (sc_X2_appendXor l D cI th _ hm bm 448 u qr rb nr u2 fm g x hE hu2 (by decide) hnr) (cwV 2 hts gX0_addXor_X2_appendXor rfl rfl rfl (by decide +kernel) ⟨Nat.le_of_ble_eq_true rfl, Nat.le_of_ble_eq_true rfl⟩) hP hD hS hA hK hT [1, 2, 3, 4] [0] rfl rfl rfl rfl (by decide) 0 2 rfl rfl rfl rfl hl.1 rfl (Nat.le_of_ble_eq_true rfl) dX0_addXor_6 ⟨Nat.zero_le _, Nat.zero_le _⟩ (fun zt H1 locs ht hvm hB hJ hS => ?_)
  obtain ⟨hP1, -, hD1⟩ := hB
  rw [ht] at hP1
  obtain ⟨hP, hD⟩ := hJ _ hP1 hD1
  clear hJ
  generalize H1 = H at hP hS ⊢
  have hP : va_P D vwCl [(hh, .inr (0, [.ref hm, .ref aw, .ref ad])), (hm, .inr (2, [.ref bm, .int (nI (u + u2))])), (bm, .inl (cI, 448, .inl (sm_ap fm u (fun j => g j ^^^ x) u2))), (qr, .inr (2, [.ref rb, .int (nI u2)])), (rb, .inl (cI, nr, .inl g))] H := hP.sub [0, 1, 2, 3, 4] rfl
  have hD : va_D A [(hh, .inr (0, [.ref hm, .ref aw, .ref ad])), (hm, .inr (2, [.ref bm, .int (nI (u + u2))])), (bm, .inl (cI, 448, .inl (sm_ap fm u (fun j => g j ^^^ x) u2))), (qr, .inr (2, [.ref rb, .int (nI u2)])), (rb, .inl (cI, nr, .inl g))] := hD.sub [0, 1, 2, 3, 4] rfl rfl
  rw [hQ]
  have hP9 : va_P D vwCl [(hh, .inr (0, [.ref hm, .ref aw, .ref ad])), (hm, .inr (2, [.ref bm, .int (nI (u + u2))])), (bm, .inl (cI, 448, .inl (sm_ap fm u (fun j => g j ^^^ x) u2))), (qr, .inr (2, [.ref rb, .int (nI u2)])), (rb, .inl (cI, nr, .inl g))] H := hP
  have hD9 : va_D A [(hh, .inr (0, [.ref hm, .ref aw, .ref ad])), (hm, .inr (2, [.ref bm, .int (nI (u + u2))])), (bm, .inl (cI, 448, .inl (sm_ap fm u (fun j => g j ^^^ x) u2))), (qr, .inr (2, [.ref rb, .int (nI u2)])), (rb, .inl (cI, nr, .inl g))] := hD
  exact W.vret hx hb hr (fun t ht hW => ⟨⟨(), rfl, trivial, ⟨by rw [ht]; exact hP9, va_K.moved hW.alike hK, hD9⟩⟩, hS.F ht⟩) hS.2.2 dX0_addXor_9

def rm_X0_addByte : Room := ({ frames := 1, cells := 0, slots := 0, locals := 21 } : Room)
set_option maxHeartbeats 4000000 in
set_option maxRecDepth 100000 in
/-- Hasher.addByte -/
theorem sc_X0_addByte (l : Launch) (D : va_G) (cI : ClassId) (th : Option (Nat × Nat)) (sz : Nat) (hh hm bm aw ad : Nat) (u : Nat) (fm : Nat → Int32) (x : Int32) (hE : u < 448) : Met l yX0_addByte wsX0_addByte rm_X0_addByte (va_Pc [.ref hh, .int x] (sm_PW D cI th [(hh, .inr (0, [.ref hm, .ref aw, .ref ad])), (hm, .inr (2, [.ref bm, .int (nI u)])), (bm, .inl (cI, 448, .inl fm))] sz)) (va_Qv (fun (_ : Unit) => True) (fun _ t => sm_QW D cI (va_A [(hh, .inr (0, [.ref hm, .ref aw, .ref ad])), (hm, .inr (2, [.ref bm, .int (nI u)])), (bm, .inl (cI, 448, .inl fm))] sz) [(hh, .inr (0, [.ref hm, .ref aw, .ref ad])), (hm, .inr (2, [.ref bm, .int (nI (u + 1))])), (bm, .inl (cI, 448, .inl (upd fm u x)))] t) (va_A [(hh, .inr (0, [.ref hm, .ref aw, .ref ad])), (hm, .inr (2, [.ref bm, .int (nI u)])), (bm, .inl (cI, 448, .inl fm))] sz)) 0 0 (va_A [(hh, .inr (0, [.ref hm, .ref aw, .ref ad])), (hm, .inr (2, [.ref bm, .int (nI u)])), (bm, .inl (cI, 448, .inl fm))] sz) := by
  refine Met.ofW (cc := cX0_addByte) (maxL := 2) (ret := none) (by decide) rfl ?_
  intro p e s m args below meth c s₁ B hml hv
  obtain ⟨rfl, hsz, hP, hK, hD0, hT⟩ := hv
  have hx := B.exec
  have hb := B.bytes
  have hr := B.returns
  have hts := atoms_spec (ws := wsX0_addByte) B.pre
  have hown : s.vm.findClass RX0 = some m.cls := findClass_of_methodNamed B.named
  have hlocks := B.notSynchronized
  subst hsz
  have hD := hD0.self (sz := s.heap.size)
  generalize hAe : va_A [(hh, .inr (0, [.ref hm, .ref aw, .ref ad])), (hm, .inr (2, [.ref bm, .int (nI u)])), (bm, .inl (cI, 448, .inl fm))] s.heap.size = A at hD hT ⊢
  have hA : ∀ q : Nat, s.heap.size ≤ q → A q := fun q h => by rw [← hAe]; exact Or.inr h
  have hS : va_S A s.heap s.heap [] := va_S.rf
  have hl := lv_entry ([.ref hh, .int x]) (n := 2) (Nat.le_of_ble_eq_true rfl)
  rw [lg_entry_eq]
  generalize (lg_sl ([.ref hh, .int x]) ++ List.replicate (2 - (lg_sl ([.ref hh, .int x])).length) Slot.unset).toArray = ls at hl ⊢
  have hl : lv_has ls 2 [(0, .ref hh), (1, .int x)] := hl
  refine sm_name (fun Q hQ => ?_)
  have hf_14 := hts (.fieldLink RX0 14 "SeedMill$Hasher" "message" "LSeedMill$Row;") (by decide +kernel)
  have hw_X0 : ∀ w ∈ wsX00, w ∈ wsX0_addByte := by decide +kernel
  refine lv_aload_n hx hb dX0_addByte_0 rfl (lv_at hl 0 rfl) ?_
  refine va_get (D := D) (ci := 0) (v := .ref hm) (C := RX0) (T := TX0) (N := 3) hx hb hts hw_X0 hown hK hP 0 rfl rfl 0 (by decide) hf_14 (fun _ h9 => h9) rfl dX0_addByte_1 ?_
  refine lv_iload_n hx hb dX0_addByte_4 rfl (lv_at hl 1 rfl) ?_
  refine sm_callVv (wc := [(hm, .inr (2, [.ref bm, .int (nI u)])), (bm, .inl (cI, 448, .inl fm))]) (wr := [(hh, .inr (0, [.ref hm, .ref aw, .ref ad]))]) (As := [.int x]) (rest := []) ⟨hx, hb, hml, hown, hts⟩ (sc_X2_put l D cI th _ hm bm 448 u fm x hE (by decide)) (cwV 1 hts gX0_addByte_X2_put rfl rfl rfl (by decide +kernel) ⟨Nat.le_of_ble_eq_true rfl, Nat.le_of_ble_eq_true rfl⟩) hP hD hS hA hK hT [1, 2] [0] rfl rfl rfl rfl (by decide) 0 2 rfl rfl rfl rfl hl.1 rfl (Nat.le_of_ble_eq_true rfl) dX0_addByte_5 ⟨Nat.zero_le _, Nat.zero_le _⟩ (fun zt H1 locs ht hvm hB hJ hS => ?_)
  obtain ⟨hP1, -, hD1⟩ := hB
  rw [ht] at hP1
  obtain ⟨hP, hD⟩ := hJ _ hP1 hD1
  clear hJ
  generalize H1 = H at hP hS ⊢
  have hP : va_P D vwCl [(hh, .inr (0, [.ref hm, .ref aw, .ref ad])), (hm, .inr (2, [.ref bm, .int (nI (u + 1))])), (bm, .inl (cI, 448, .inl (upd fm u x)))] H := hP.sub [0, 1, 2] rfl
  have hD : va_D A [(hh, .inr (0, [.ref hm, .ref aw, .ref ad])), (hm, .inr (2, [.ref bm, .int (nI (u + 1))])), (bm, .inl (cI, 448, .inl (upd fm u x)))] := hD.sub [0, 1, 2] rfl rfl
  rw [hQ]
  have hP9 : va_P D vwCl [(hh, .inr (0, [.ref hm, .ref aw, .ref ad])), (hm, .inr (2, [.ref bm, .int (nI (u + 1))])), (bm, .inl (cI, 448, .inl (upd fm u x)))] H := hP
  have hD9 : va_D A [(hh, .inr (0, [.ref hm, .ref aw, .ref ad])), (hm, .inr (2, [.ref bm, .int (nI (u + 1))])), (bm, .inl (cI, 448, .inl (upd fm u x)))] := hD
  exact W.vret hx hb hr (fun t ht hW => ⟨⟨(), rfl, trivial, ⟨by rw [ht]; exact hP9, va_K.moved hW.alike hK, hD9⟩⟩, hS.F ht⟩) hS.2.2 dX0_addByte_8

def rm_J9_floorMod_7cf53 : Room := ({ frames := 0, cells := 0, slots := 0, locals := 0 } : Room)
set_option maxHeartbeats 4000000 in
set_option maxRecDepth 100000 in
/-- Math.floorMod by 64 -/
theorem sc_J9_floorMod_7cf53 (l : Launch) (D : va_G) (cI : ClassId) (th : Option (Nat × Nat)) (sz : Nat) (x : Int32)  : Met l yJ9_floorMod_7cf53 wsJ9_floorMod_7cf53 rm_J9_floorMod_7cf53 (va_Pc [.int x, .int 64] (sm_PW D cI th [] sz)) (va_Qi (fun (r : Int32) (_ : Unit) => r = sm_fm x 64) (fun _ t => sm_QW D cI (va_A [] sz) [] t) (va_A [] sz)) 0 0 (va_A [] sz) := by
  refine va_MetF (cc := cJ9_floorMod_7cf53) (maxL := 3) (ret := (some .int)) (by decide +kernel) rfl ?_
  intro p e s m args below meth c s₁ B hml hv
  obtain ⟨rfl, hsz, hP, hK, hD0, hT⟩ := hv
  have hx := B.exec
  have hb := B.bytes
  have hr := B.returns
  have hts := atoms_spec (ws := wsJ9_floorMod_7cf53) B.pre
  have hown : s.vm.findClass RJ9 = some m.cls := findClass_of_methodNamed B.named
  have hlocks := B.notSynchronized
  subst hsz
  have hD := hD0.self (sz := s.heap.size)
  generalize hAe : va_A [] s.heap.size = A at hD hT ⊢
  have hA : ∀ q : Nat, s.heap.size ≤ q → A q := fun q h => by rw [← hAe]; exact Or.inr h
  have hS : va_S A s.heap s.heap [] := va_S.rf
  have hl := lv_entry ([.int x, .int 64]) (n := 3) (Nat.le_of_ble_eq_true rfl)
  rw [lg_entry_eq]
  generalize (lg_sl ([.int x, .int 64]) ++ List.replicate (3 - (lg_sl ([.int x, .int 64])).length) Slot.unset).toArray = ls at hl ⊢
  have hl : lv_has ls 3 [(0, .int x), (1, .int 64)] := hl
  refine sm_name (fun Q hQ => ?_)
  refine lv_iload_n hx hb dJ9_floorMod_7cf53_0 rfl (lv_at hl 0 rfl) ?_
  refine lv_iload_n hx hb dJ9_floorMod_7cf53_1 rfl (lv_at hl 1 rfl) ?_
  refine lv_irem hx hb dJ9_floorMod_7cf53_2 (by decide) ?_
  refine lv_istore_n (lv' := [(2, .int (x - x / 64 * 64)), (0, .int x), (1, .int 64)]) hx hb dJ9_floorMod_7cf53_3 rfl hl (by decide) rfl (fun ls hl => ?_)
  refine lv_iload_n hx hb dJ9_floorMod_7cf53_4 rfl (lv_at hl 1 rfl) ?_
  refine lv_iload_n hx hb dJ9_floorMod_7cf53_5 rfl (lv_at hl 2 rfl) ?_
  refine lv_ixor hx hb dJ9_floorMod_7cf53_6 ?_
  refine lv_if_ge (tgt := 18) hx hb dJ9_floorMod_7cf53_7 (by decide) (fun c_7 => ?_) (fun c_7 => ?_)
  ·
    refine lv_iload_n hx hb dJ9_floorMod_7cf53_18 rfl (lv_at hl 0 rfl) ?_
    rw [hQ]
    have hP9 : va_P D vwCl [] s.heap := hP
    have hD9 : va_D A [] := hD
    exact W.iret (v := x - x / 64 * 64) hx hb hr (fun t ht hW => ⟨⟨x - x / 64 * 64, (), rfl, (by unfold sm_fm; first | rw [if_pos c_7] | rw [if_neg c_7, if_pos c_11]), ⟨by rw [ht]; exact hP9, va_K.moved hW.alike hK, hD9⟩⟩, hS.F ht⟩) hS.2.2 dJ9_floorMod_7cf53_19
  ·
    refine lv_iload_n hx hb dJ9_floorMod_7cf53_10 rfl (lv_at hl 0 rfl) ?_
    refine lv_if_eq (tgt := 18) hx hb dJ9_floorMod_7cf53_11 (by decide) (fun c_11 => ?_) (fun c_11 => ?_)
    ·
      refine lv_iload_n hx hb dJ9_floorMod_7cf53_18 rfl (lv_at hl 0 rfl) ?_
      rw [hQ]
      have hP9 : va_P D vwCl [] s.heap := hP
      have hD9 : va_D A [] := hD
      exact W.iret (v := x - x / 64 * 64) hx hb hr (fun t ht hW => ⟨⟨x - x / 64 * 64, (), rfl, (by unfold sm_fm; first | rw [if_pos c_7] | rw [if_neg c_7, if_pos c_11]), ⟨by rw [ht]; exact hP9, va_K.moved hW.alike hK, hD9⟩⟩, hS.F ht⟩) hS.2.2 dJ9_floorMod_7cf53_19
    ·
      refine lv_iload_n hx hb dJ9_floorMod_7cf53_14 rfl (lv_at hl 0 rfl) ?_
      refine lv_iload_n hx hb dJ9_floorMod_7cf53_15 rfl (lv_at hl 2 rfl) ?_
      refine lv_iadd hx hb dJ9_floorMod_7cf53_16 ?_
      rw [hQ]
      have hP9 : va_P D vwCl [] s.heap := hP
      have hD9 : va_D A [] := hD
      exact W.iret (v := (x - x / 64 * 64) + 64) hx hb hr (fun t ht hW => ⟨⟨(x - x / 64 * 64) + 64, (), rfl, (by unfold sm_fm; rw [if_neg c_7, if_neg c_11]), ⟨by rw [ht]; exact hP9, va_K.moved hW.alike hK, hD9⟩⟩, hS.F ht⟩) hS.2.2 dJ9_floorMod_7cf53_17

def rm_X0_highSum : Room := ({ frames := 1, cells := 0, slots := 0, locals := 21 } : Room)
set_option maxHeartbeats 4000000 in
set_option maxRecDepth 100000 in
/-- Hasher.highSum -/
theorem sc_X0_highSum (l : Launch) (D : va_G) (cI : ClassId) (th : Option (Nat × Nat)) (sz : Nat) (x y z v : Int32)  : Met l yX0_highSum wsX0_highSum rm_X0_highSum (va_Pc [.int x, .int y, .int z, .int v] (sm_PW D cI th [] sz)) (va_Qi (fun (r : Int32) (_ : Unit) => r = sm_S x y z v) (fun _ t => sm_QW D cI (va_A [] sz) [] t) (va_A [] sz)) 0 0 (va_A [] sz) := by
  refine Met.ofW (cc := cX0_highSum) (maxL := 4) (ret := (some .int)) (by decide) rfl ?_
  intro p e s m args below meth c s₁ B hml hv
  obtain ⟨rfl, hsz, hP, hK, hD0, hT⟩ := hv
  have hx := B.exec
  have hb := B.bytes
  have hr := B.returns
  have hts := atoms_spec (ws := wsX0_highSum) B.pre
  have hown : s.vm.findClass RX0 = some m.cls := findClass_of_methodNamed B.named
  have hlocks := B.notSynchronized
  subst hsz
  have hD := hD0.self (sz := s.heap.size)
  generalize hAe : va_A [] s.heap.size = A at hD hT ⊢
  have hA : ∀ q : Nat, s.heap.size ≤ q → A q := fun q h => by rw [← hAe]; exact Or.inr h
  have hS : va_S A s.heap s.heap [] := va_S.rf
  have hl := lv_entry ([.int x, .int y, .int z, .int v]) (n := 4) (Nat.le_of_ble_eq_true rfl)
  rw [lg_entry_eq]
  generalize (lg_sl ([.int x, .int y, .int z, .int v]) ++ List.replicate (4 - (lg_sl ([.int x, .int y, .int z, .int v])).length) Slot.unset).toArray = ls at hl ⊢
  have hl : lv_has ls 4 [(0, .int x), (1, .int y), (2, .int z), (3, .int v)] := hl
  refine sm_name (fun Q hQ => ?_)
  refine lv_iload_n hx hb dX0_highSum_0 rfl (lv_at hl 0 rfl) ?_
  refine lv_iload_n hx hb dX0_highSum_1 rfl (lv_at hl 1 rfl) ?_
  refine sm_callSi (wc := []) (wr := []) (As := [.int x, .int y]) (rest := []) ⟨hx, hb, hml, hown, hts⟩ (sc_J6_rotateRight_7cf53 l D cI th _ x y ) (va_cwS 2 hts gX0_highSum_J6_rotateRight_7cf53 rfl rfl rfl (by decide +kernel) ⟨Nat.le_of_ble_eq_true rfl, Nat.le_of_ble_eq_true rfl⟩) hP hD hS hA hK hT [] [] rfl rfl rfl rfl (by decide) rfl hl.1 rfl (Nat.le_of_ble_eq_true rfl) dX0_highSum_2 ⟨Nat.zero_le _, Nat.zero_le _⟩ (fun r_2 zt H1 locs ht hvm hw hB hJ hS => ?_)
  obtain ⟨hP1, -, hD1⟩ := hB
  rw [ht] at hP1
  obtain ⟨hP, hD⟩ := hJ _ hP1 hD1
  clear hJ
  generalize H1 = H at hP hS ⊢
  have hP : va_P D vwCl [] H := hP.sub [] rfl
  have hD : va_D A [] := hD.sub [] rfl rfl
  subst hw
  refine lv_iload_n hx hb dX0_highSum_5 rfl (lv_at hl 0 rfl) ?_
  refine lv_iload_n hx hb dX0_highSum_6 rfl (lv_at hl 2 rfl) ?_
  refine sm_callSi (wc := []) (wr := []) (As := [.int x, .int z]) (rest := [.int (sm_rr x y)]) ⟨hx, hb, hml, hown, hts⟩ (sc_J6_rotateRight_7cf53 l D cI th _ x z ) (va_cwS 2 hts gX0_highSum_J6_rotateRight_7cf53 rfl rfl rfl (by decide +kernel) ⟨Nat.le_of_ble_eq_true rfl, Nat.le_of_ble_eq_true rfl⟩) hP hD hS hA hK hT [] [] rfl rfl rfl rfl (by decide) rfl hl.1 rfl (Nat.le_of_ble_eq_true rfl) dX0_highSum_7 ⟨Nat.zero_le _, Nat.zero_le _⟩ (fun r_7 zt H1 locs ht hvm hw hB hJ hS => ?_)
  obtain ⟨hP1, -, hD1⟩ := hB
  rw [ht] at hP1
  obtain ⟨hP, hD⟩ := hJ _ hP1 hD1
  clear hJ
  generalize H1 = H at hP hS ⊢
  have hP : va_P D vwCl [] H := hP.sub [] rfl
  have hD : va_D A [] := hD.sub [] rfl rfl
  subst hw
  refine lv_ixor hx hb dX0_highSum_10 ?_
  refine lv_iload_n hx hb dX0_highSum_11 rfl (lv_at hl 0 rfl) ?_
  refine lv_iload_n hx hb dX0_highSum_12 rfl (lv_at hl 3 rfl) ?_
  refine sm_callSi (wc := []) (wr := []) (As := [.int x, .int v]) (rest := [.int ((sm_rr x y) ^^^ (sm_rr x z))]) ⟨hx, hb, hml, hown, hts⟩ (sc_J6_rotateRight_7cf53 l D cI th _ x v ) (va_cwS 2 hts gX0_highSum_J6_rotateRight_7cf53 rfl rfl rfl (by decide +kernel) ⟨Nat.le_of_ble_eq_true rfl, Nat.le_of_ble_eq_true rfl⟩) hP hD hS hA hK hT [] [] rfl rfl rfl rfl (by decide) rfl hl.1 rfl (Nat.le_of_ble_eq_true rfl) dX0_highSum_13 ⟨Nat.zero_le _, Nat.zero_le _⟩ (fun r_13 zt H1 locs ht hvm hw hB hJ hS => ?_)
  obtain ⟨hP1, -, hD1⟩ := hB
  rw [ht] at hP1
  obtain ⟨hP, hD⟩ := hJ _ hP1 hD1
  clear hJ
  generalize H1 = H at hP hS ⊢
  have hP : va_P D vwCl [] H := hP.sub [] rfl
  have hD : va_D A [] := hD.sub [] rfl rfl
  subst hw
  refine lv_ixor hx hb dX0_highSum_16 ?_
  rw [hQ]
  have hP9 : va_P D vwCl [] H := hP
  have hD9 : va_D A [] := hD
  exact W.iret (v := ((sm_rr x y) ^^^ (sm_rr x z)) ^^^ (sm_rr x v)) hx hb hr (fun t ht hW => ⟨⟨((sm_rr x y) ^^^ (sm_rr x z)) ^^^ (sm_rr x v), (), rfl, rfl, ⟨by rw [ht]; exact hP9, va_K.moved hW.alike hK, hD9⟩⟩, hS.F ht⟩) hS.2.2 dX0_highSum_17

def rm_X0_pad : Room := ({ frames := 2, cells := 0, slots := 0, locals := 43 } : Room)
set_option maxHeartbeats 4000000 in
set_option maxRecDepth 100000 in
/-- Hasher.pad -/
theorem sc_X0_pad (l : Launch) (D : va_G) (cI : ClassId) (th : Option (Nat × Nat)) (sz : Nat) (hh hm bm aw ad : Nat) (n : Nat) (fm : Nat → Int32) (hn : 64 * sm_nb n ≤ 448) : Met l yX0_pad wsX0_pad rm_X0_pad (va_Pc [.ref hh] (sm_PW D cI th [(hh, .inr (0, [.ref hm, .ref aw, .ref ad])), (hm, .inr (2, [.ref bm, .int (nI n)])), (bm, .inl (cI, 448, .inl fm))] sz)) (va_Qv (fun (_ : Unit) => True) (fun _ t => ∃ (f2 : Nat → Int32), (∀ j, j < 64 * sm_nb n → f2 j = sm_pm fm n j) ∧ sm_QW D cI (va_A [(hh, .inr (0, [.ref hm, .ref aw, .ref ad])), (hm, .inr (2, [.ref bm, .int (nI n)])), (bm, .inl (cI, 448, .inl fm))] sz) [(hh, .inr (0, [.ref hm, .ref aw, .ref ad])), (hm, .inr (2, [.ref bm, .int (nI (64 * sm_nb n))])), (bm, .inl (cI, 448, .inl f2))] t) (va_A [(hh, .inr (0, [.ref hm, .ref aw, .ref ad])), (hm, .inr (2, [.ref bm, .int (nI n)])), (bm, .inl (cI, 448, .inl fm))] sz)) 0 0 (va_A [(hh, .inr (0, [.ref hm, .ref aw, .ref ad])), (hm, .inr (2, [.ref bm, .int (nI n)])), (bm, .inl (cI, 448, .inl fm))] sz) := by
  refine Met.ofW (cc := cX0_pad) (maxL := 4) (ret := none) (by decide) rfl ?_
  intro p e s m args below meth c s₁ B hml hv
  obtain ⟨rfl, hsz, hP, hK, hD0, hT⟩ := hv
  have hx := B.exec
  have hb := B.bytes
  have hr := B.returns
  have hts := atoms_spec (ws := wsX0_pad) B.pre
  have hown : s.vm.findClass RX0 = some m.cls := findClass_of_methodNamed B.named
  have hlocks := B.notSynchronized
  subst hsz
  have hD := hD0.self (sz := s.heap.size)
  generalize hAe : va_A [(hh, .inr (0, [.ref hm, .ref aw, .ref ad])), (hm, .inr (2, [.ref bm, .int (nI n)])), (bm, .inl (cI, 448, .inl fm))] s.heap.size = A at hD hT ⊢
  have hA : ∀ q : Nat, s.heap.size ≤ q → A q := fun q h => by rw [← hAe]; exact Or.inr h
  have hS : va_S A s.heap s.heap [] := va_S.rf
  have hl := lv_entry ([.ref hh]) (n := 4) (Nat.le_of_ble_eq_true rfl)
  rw [lg_entry_eq]
  generalize (lg_sl ([.ref hh]) ++ List.replicate (4 - (lg_sl ([.ref hh])).length) Slot.unset).toArray = ls at hl ⊢
  have hl : lv_has ls 4 [(0, .ref hh)] := hl
  refine sm_name (fun Q hQ => ?_)
  have hf_14 := hts (.fieldLink RX0 14 "SeedMill$Hasher" "message" "LSeedMill$Row;") (by decide +kernel)
  have hw_X0 : ∀ w ∈ wsX00, w ∈ wsX0_pad := by decide +kernel
  have hnb : 64 * sm_nb n = n + 1 + (64 * ((n + 1 + 7) / 64) + 56 - (n + 1)) + 8 := by unfold sm_nb; omega
  refine lv_aload_n hx hb dX0_pad_0 rfl (lv_at hl 0 rfl) ?_
  refine va_get (D := D) (ci := 0) (v := .ref hm) (C := RX0) (T := TX0) (N := 3) hx hb hts hw_X0 hown hK hP 0 rfl rfl 0 (by decide) hf_14 (fun _ h9 => h9) rfl dX0_pad_1 ?_
  refine sm_callVi (wc := [(hm, .inr (2, [.ref bm, .int (nI n)])), (bm, .inl (cI, 448, .inl fm))]) (wr := [(hh, .inr (0, [.ref hm, .ref aw, .ref ad]))]) (As := []) (rest := []) ⟨hx, hb, hml, hown, hts⟩ (sc_X2_size l D cI th _ hm bm 448 fm (nI n) ) (cwV 0 hts gX0_pad_X2_size rfl rfl rfl (by decide +kernel) ⟨Nat.le_of_ble_eq_true rfl, Nat.le_of_ble_eq_true rfl⟩) hP hD hS hA hK hT [1, 2] [0] rfl rfl rfl rfl (by decide) 0 2 rfl rfl rfl rfl hl.1 rfl (Nat.le_of_ble_eq_true rfl) dX0_pad_4 ⟨Nat.zero_le _, Nat.zero_le _⟩ (fun r_4 zt H1 locs ht hvm hw hB hJ hS => ?_)
  obtain ⟨hP1, -, hD1⟩ := hB
  rw [ht] at hP1
  obtain ⟨hP, hD⟩ := hJ _ hP1 hD1
  clear hJ
  generalize H1 = H at hP hS ⊢
  have hP : va_P D vwCl [(hh, .inr (0, [.ref hm, .ref aw, .ref ad])), (hm, .inr (2, [.ref bm, .int (nI n)])), (bm, .inl (cI, 448, .inl fm))] H := hP.sub [0, 1, 2] rfl
  have hD : va_D A [(hh, .inr (0, [.ref hm, .ref aw, .ref ad])), (hm, .inr (2, [.ref bm, .int (nI n)])), (bm, .inl (cI, 448, .inl fm))] := hD.sub [0, 1, 2] rfl rfl
  subst hw
  refine lv_bipush (v := 8) hx hb dX0_pad_7 (by decide) ?_
  refine lv_imul hx hb dX0_pad_9 ?_
  refine sm_top (z := nI (n * 8)) (pk_mul n 8) ?_
  refine lv_istore_n (lv' := [(1, .int (nI (n * 8))), (0, .ref hh)]) hx hb dX0_pad_10 rfl hl (by decide) rfl (fun ls hl => ?_)
  refine lv_aload_n hx hb dX0_pad_11 rfl (lv_at hl 1 rfl) ?_
  refine va_get (D := D) (ci := 0) (v := .ref hm) (C := RX0) (T := TX0) (N := 3) hx hb hts hw_X0 hown hK hP 0 rfl rfl 0 (by decide) hf_14 (fun _ h9 => h9) rfl dX0_pad_12 ?_
  refine lv_sipush (v := 128) hx hb dX0_pad_15 (by decide) ?_
  refine sm_callVv (wc := [(hm, .inr (2, [.ref bm, .int (nI n)])), (bm, .inl (cI, 448, .inl fm))]) (wr := [(hh, .inr (0, [.ref hm, .ref aw, .ref ad]))]) (As := [.int 128]) (rest := []) ⟨hx, hb, hml, hown, hts⟩ (sc_X2_put l D cI th _ hm bm 448 n fm 128 (by omega) (by decide)) (cwV 1 hts gX0_pad_X2_put rfl rfl rfl (by decide +kernel) ⟨Nat.le_of_ble_eq_true rfl, Nat.le_of_ble_eq_true rfl⟩) hP hD hS hA hK hT [1, 2] [0] rfl rfl rfl rfl (by decide) 0 2 rfl rfl rfl rfl hl.1 rfl (Nat.le_of_ble_eq_true rfl) dX0_pad_18 ⟨Nat.zero_le _, Nat.zero_le _⟩ (fun zt H1 locs ht hvm hB hJ hS => ?_)
  obtain ⟨hP1, -, hD1⟩ := hB
  rw [ht] at hP1
  obtain ⟨hP, hD⟩ := hJ _ hP1 hD1
  clear hJ
  generalize H1 = H at hP hS ⊢
  have hP : va_P D vwCl [(hh, .inr (0, [.ref hm, .ref aw, .ref ad])), (hm, .inr (2, [.ref bm, .int (nI (n + 1))])), (bm, .inl (cI, 448, .inl (upd fm n 128)))] H := hP.sub [0, 1, 2] rfl
  have hD : va_D A [(hh, .inr (0, [.ref hm, .ref aw, .ref ad])), (hm, .inr (2, [.ref bm, .int (nI (n + 1))])), (bm, .inl (cI, 448, .inl (upd fm n 128)))] := hD.sub [0, 1, 2] rfl rfl
  refine lv_bipush (v := 56) hx hb dX0_pad_21 (by decide) ?_
  refine lv_aload_n hx hb dX0_pad_23 rfl (lv_at hl 1 rfl) ?_
  refine va_get (D := D) (ci := 0) (v := .ref hm) (C := RX0) (T := TX0) (N := 3) hx hb hts hw_X0 hown hK hP 0 rfl rfl 0 (by decide) hf_14 (fun _ h9 => h9) rfl dX0_pad_24 ?_
  refine sm_callVi (wc := [(hm, .inr (2, [.ref bm, .int (nI (n + 1))])), (bm, .inl (cI, 448, .inl (upd fm n 128)))]) (wr := [(hh, .inr (0, [.ref hm, .ref aw, .ref ad]))]) (As := []) (rest := [.int 56]) ⟨hx, hb, hml, hown, hts⟩ (sc_X2_size l D cI th _ hm bm 448 (upd fm n 128) (nI (n + 1)) ) (cwV 0 hts gX0_pad_X2_size rfl rfl rfl (by decide +kernel) ⟨Nat.le_of_ble_eq_true rfl, Nat.le_of_ble_eq_true rfl⟩) hP hD hS hA hK hT [1, 2] [0] rfl rfl rfl rfl (by decide) 0 2 rfl rfl rfl rfl hl.1 rfl (Nat.le_of_ble_eq_true rfl) dX0_pad_27 ⟨Nat.zero_le _, Nat.zero_le _⟩ (fun r_27 zt H1 locs ht hvm hw hB hJ hS => ?_)
  obtain ⟨hP1, -, hD1⟩ := hB
  rw [ht] at hP1
  obtain ⟨hP, hD⟩ := hJ _ hP1 hD1
  clear hJ
  generalize H1 = H at hP hS ⊢
  have hP : va_P D vwCl [(hh, .inr (0, [.ref hm, .ref aw, .ref ad])), (hm, .inr (2, [.ref bm, .int (nI (n + 1))])), (bm, .inl (cI, 448, .inl (upd fm n 128)))] H := hP.sub [0, 1, 2] rfl
  have hD : va_D A [(hh, .inr (0, [.ref hm, .ref aw, .ref ad])), (hm, .inr (2, [.ref bm, .int (nI (n + 1))])), (bm, .inl (cI, 448, .inl (upd fm n 128)))] := hD.sub [0, 1, 2] rfl rfl
  subst hw
  refine lv_isub hx hb dX0_pad_30 ?_
  refine lv_bipush (v := 64) hx hb dX0_pad_31 (by decide) ?_
  refine sm_callSi (wc := []) (wr := [(hh, .inr (0, [.ref hm, .ref aw, .ref ad])), (hm, .inr (2, [.ref bm, .int (nI (n + 1))])), (bm, .inl (cI, 448, .inl (upd fm n 128)))]) (As := [.int (56 - (nI (n + 1))), .int 64]) (rest := []) ⟨hx, hb, hml, hown, hts⟩ (sc_J9_floorMod_7cf53 l D cI th _ (56 - (nI (n + 1))) ) (va_cwS 2 hts gX0_pad_J9_floorMod_7cf53 rfl rfl rfl (by decide +kernel) ⟨Nat.le_of_ble_eq_true rfl, Nat.le_of_ble_eq_true rfl⟩) hP hD hS hA hK hT [] [0, 1, 2] rfl rfl rfl rfl (by decide) rfl hl.1 rfl (Nat.le_of_ble_eq_true rfl) dX0_pad_33 ⟨Nat.zero_le _, Nat.zero_le _⟩ (fun r_33 zt H1 locs ht hvm hw hB hJ hS => ?_)
  obtain ⟨hP1, -, hD1⟩ := hB
  rw [ht] at hP1
  obtain ⟨hP, hD⟩ := hJ _ hP1 hD1
  clear hJ
  generalize H1 = H at hP hS ⊢
  have hP : va_P D vwCl [(hh, .inr (0, [.ref hm, .ref aw, .ref ad])), (hm, .inr (2, [.ref bm, .int (nI (n + 1))])), (bm, .inl (cI, 448, .inl (upd fm n 128)))] H := hP.sub [0, 1, 2] rfl
  have hD : va_D A [(hh, .inr (0, [.ref hm, .ref aw, .ref ad])), (hm, .inr (2, [.ref bm, .int (nI (n + 1))])), (bm, .inl (cI, 448, .inl (upd fm n 128)))] := hD.sub [0, 1, 2] rfl rfl
  subst hw
  refine sm_top (z := nI (64 * ((n + 1 + 7) / 64) + 56 - (n + 1))) (sm_fm_64 (n + 1) (by omega)) ?_
  obtain ⟨z, hz⟩ : ∃ z, z = (64 * ((n + 1 + 7) / 64) + 56 - (n + 1)) := ⟨_, rfl⟩
  rw [← hz]
  rw [← hz] at hnb
  refine lv_istore_n (lv' := [(2, .int (nI z)), (1, .int (nI (n * 8))), (0, .ref hh)]) hx hb dX0_pad_36 rfl hl (by decide) rfl (fun ls hl => ?_)
  refine lv_iconst (v := 0) hx hb dX0_pad_37 (by decide) ?_
  refine lv_istore_n (lv' := [(3, .int 0), (2, .int (nI z)), (1, .int (nI (n * 8))), (0, .ref hh)]) hx hb dX0_pad_38 rfl hl (by decide) rfl (fun ls hl => ?_)
  have lp39 : ∀ (zn : Nat) (i : Nat) (H : Heap) (locs : List Loc) (ls : Array Slot), z - i < zn → i ≤ z → va_P D vwCl [(hh, .inr (0, [.ref hm, .ref aw, .ref ad])), (hm, .inr (2, [.ref bm, .int (nI (n + 1 + i))])), (bm, .inl (cI, 448, .inl (sm_ap (upd fm n 128) (n + 1) (fun _ => 0) i)))] H → va_D A [(hh, .inr (0, [.ref hm, .ref aw, .ref ad])), (hm, .inr (2, [.ref bm, .int (nI (n + 1 + i))])), (bm, .inl (cI, 448, .inl (sm_ap (upd fm n 128) (n + 1) (fun _ => 0) i)))] → va_S A s.heap H locs → lv_has ls 4 [(3, .int (nI i)), (2, .int (nI z)), (0, .ref hh), (1, .int (nI (n * 8)))] → W p l e (headSpec wsX0_pad rm_X0_pad).room s m ([.ref hh] : List Value).toArray below meth c H locs 0 0 Q (F0 m 39 ls []) := by
    intro zn
    induction zn with
    | zero => intro i H locs ls hmu; exact absurd hmu (Nat.not_lt_zero _)
    | succ zn ih =>
      intro i H locs ls hmu hi_39 hP hD hS hl
      refine lv_iload_n hx hb dX0_pad_39 rfl (lv_at hl 0 rfl) ?_
      refine lv_iload_n hx hb dX0_pad_40 rfl (lv_at hl 1 rfl) ?_
      refine lv_icmp_ge (tgt := 58) hx hb dX0_pad_41 (by decide) (fun c_41 => ?_) (fun c_41 => ?_)
      ·
        have hex_39 : i = z := by
          rcases Nat.lt_or_ge i (z) with q | q
          · exact absurd c_41 (nI_ge q (by omega))
          · omega
        rw [hex_39] at hP hD
        have hP : va_P D vwCl [(hh, .inr (0, [.ref hm, .ref aw, .ref ad])), (hm, .inr (2, [.ref bm, .int (nI (n + 1 + z))])), (bm, .inl (cI, 448, .inl (sm_ap (upd fm n 128) (n + 1) (fun _ => 0) z)))] H := hP
        have hD : va_D A [(hh, .inr (0, [.ref hm, .ref aw, .ref ad])), (hm, .inr (2, [.ref bm, .int (nI (n + 1 + z))])), (bm, .inl (cI, 448, .inl (sm_ap (upd fm n 128) (n + 1) (fun _ => 0) z)))] := hD
        refine lv_aload_n hx hb dX0_pad_58 rfl (lv_at hl 2 rfl) ?_
        refine va_get (D := D) (ci := 0) (v := .ref hm) (C := RX0) (T := TX0) (N := 3) hx hb hts hw_X0 hown hK hP 0 rfl rfl 0 (by decide) hf_14 (fun _ h9 => h9) rfl dX0_pad_59 ?_
        refine lv_iconst (v := 0) hx hb dX0_pad_62 (by decide) ?_
        refine sm_callVv (wc := [(hm, .inr (2, [.ref bm, .int (nI (n + 1 + z))])), (bm, .inl (cI, 448, .inl (sm_ap (upd fm n 128) (n + 1) (fun _ => 0) z)))]) (wr := [(hh, .inr (0, [.ref hm, .ref aw, .ref ad]))]) (As := [.int 0]) (rest := []) ⟨hx, hb, hml, hown, hts⟩ (sc_X2_putWord l D cI th _ hm bm 448 (n + 1 + z) (sm_ap (upd fm n 128) (n + 1) (fun _ => 0) z) 0 (by omega) (by decide)) (cwV 1 hts gX0_pad_X2_putWord rfl rfl rfl (by decide +kernel) ⟨Nat.le_of_ble_eq_true rfl, Nat.le_of_ble_eq_true rfl⟩) hP hD hS hA hK hT [1, 2] [0] rfl rfl rfl rfl (by decide) 0 2 rfl rfl rfl rfl hl.1 rfl (Nat.le_of_ble_eq_true rfl) dX0_pad_63 ⟨Nat.zero_le _, Nat.zero_le _⟩ (fun zt H1 locs ht hvm hB hJ hS => ?_)
        obtain ⟨hP1, -, hD1⟩ := hB
        rw [ht] at hP1
        obtain ⟨hP, hD⟩ := hJ _ hP1 hD1
        clear hJ
        generalize H1 = H at hP hS ⊢
        have hP : va_P D vwCl [(hh, .inr (0, [.ref hm, .ref aw, .ref ad])), (hm, .inr (2, [.ref bm, .int (nI (n + 1 + z + 4))])), (bm, .inl (cI, 448, .inl (sm_ap (sm_ap (upd fm n 128) (n + 1) (fun _ => 0) z) (n + 1 + z) (sm_wb 0) 4)))] H := hP.sub [0, 1, 2] rfl
        have hD : va_D A [(hh, .inr (0, [.ref hm, .ref aw, .ref ad])), (hm, .inr (2, [.ref bm, .int (nI (n + 1 + z + 4))])), (bm, .inl (cI, 448, .inl (sm_ap (sm_ap (upd fm n 128) (n + 1) (fun _ => 0) z) (n + 1 + z) (sm_wb 0) 4)))] := hD.sub [0, 1, 2] rfl rfl
        refine lv_aload_n hx hb dX0_pad_66 rfl (lv_at hl 2 rfl) ?_
        refine va_get (D := D) (ci := 0) (v := .ref hm) (C := RX0) (T := TX0) (N := 3) hx hb hts hw_X0 hown hK hP 0 rfl rfl 0 (by decide) hf_14 (fun _ h9 => h9) rfl dX0_pad_67 ?_
        refine lv_iload_n hx hb dX0_pad_70 rfl (lv_at hl 3 rfl) ?_
        refine sm_callVv (wc := [(hm, .inr (2, [.ref bm, .int (nI (n + 1 + z + 4))])), (bm, .inl (cI, 448, .inl (sm_ap (sm_ap (upd fm n 128) (n + 1) (fun _ => 0) z) (n + 1 + z) (sm_wb 0) 4)))]) (wr := [(hh, .inr (0, [.ref hm, .ref aw, .ref ad]))]) (As := [.int (nI (n * 8))]) (rest := []) ⟨hx, hb, hml, hown, hts⟩ (sc_X2_putWord l D cI th _ hm bm 448 (n + 1 + z + 4) (sm_ap (sm_ap (upd fm n 128) (n + 1) (fun _ => 0) z) (n + 1 + z) (sm_wb 0) 4) (nI (n * 8)) (by omega) (by decide)) (cwV 1 hts gX0_pad_X2_putWord rfl rfl rfl (by decide +kernel) ⟨Nat.le_of_ble_eq_true rfl, Nat.le_of_ble_eq_true rfl⟩) hP hD hS hA hK hT [1, 2] [0] rfl rfl rfl rfl (by decide) 0 2 rfl rfl rfl rfl hl.1 rfl (Nat.le_of_ble_eq_true rfl) dX0_pad_71 ⟨Nat.zero_le _, Nat.zero_le _⟩ (fun zt H1 locs ht hvm hB hJ hS => ?_)
        obtain ⟨hP1, -, hD1⟩ := hB
        rw [ht] at hP1
        obtain ⟨hP, hD⟩ := hJ _ hP1 hD1
        clear hJ
        generalize H1 = H at hP hS ⊢
        have hP : va_P D vwCl [(hh, .inr (0, [.ref hm, .ref aw, .ref ad])), (hm, .inr (2, [.ref bm, .int (nI (n + 1 + z + 4 + 4))])), (bm, .inl (cI, 448, .inl (sm_ap (sm_ap (sm_ap (upd fm n 128) (n + 1) (fun _ => 0) z) (n + 1 + z) (sm_wb 0) 4) (n + 1 + z + 4) (sm_wb (nI (n * 8))) 4)))] H := hP.sub [0, 1, 2] rfl
        have hD : va_D A [(hh, .inr (0, [.ref hm, .ref aw, .ref ad])), (hm, .inr (2, [.ref bm, .int (nI (n + 1 + z + 4 + 4))])), (bm, .inl (cI, 448, .inl (sm_ap (sm_ap (sm_ap (upd fm n 128) (n + 1) (fun _ => 0) z) (n + 1 + z) (sm_wb 0) 4) (n + 1 + z + 4) (sm_wb (nI (n * 8))) 4)))] := hD.sub [0, 1, 2] rfl rfl
        rw [hQ]
        rw [show n + 1 + z + 4 + 4 = 64 * sm_nb n by omega] at hP hD
        have hP9 : va_P D vwCl [(hh, .inr (0, [.ref hm, .ref aw, .ref ad])), (hm, .inr (2, [.ref bm, .int (nI (64 * sm_nb n))])), (bm, .inl (cI, 448, .inl (sm_ap (sm_ap (sm_ap (upd fm n 128) (n + 1) (fun _ => 0) z) (n + 1 + z) (sm_wb 0) 4) (n + 1 + z + 4) (sm_wb (nI (n * 8))) 4)))] H := hP
        have hD9 : va_D A [(hh, .inr (0, [.ref hm, .ref aw, .ref ad])), (hm, .inr (2, [.ref bm, .int (nI (64 * sm_nb n))])), (bm, .inl (cI, 448, .inl (sm_ap (sm_ap (sm_ap (upd fm n 128) (n + 1) (fun _ => 0) z) (n + 1 + z) (sm_wb 0) 4) (n + 1 + z + 4) (sm_wb (nI (n * 8))) 4)))] := hD
        exact W.vret hx hb hr (fun t ht hW => ⟨⟨(), rfl, trivial, ⟨_, sm_pad fm n z hz, by rw [ht]; exact hP9, va_K.moved hW.alike hK, hD9⟩⟩, hS.F ht⟩) hS.2.2 dX0_pad_74
      ·
        have hlt_39 : i < z := by
          rcases Nat.lt_or_ge i (z) with q | q
          · exact q
          · exact absurd (nI_le q (by omega)) c_41
        refine lv_aload_n hx hb dX0_pad_44 rfl (lv_at hl 2 rfl) ?_
        refine va_get (D := D) (ci := 0) (v := .ref hm) (C := RX0) (T := TX0) (N := 3) hx hb hts hw_X0 hown hK hP 0 rfl rfl 0 (by decide) hf_14 (fun _ h9 => h9) rfl dX0_pad_45 ?_
        refine lv_iconst (v := 0) hx hb dX0_pad_48 (by decide) ?_
        refine sm_callVv (wc := [(hm, .inr (2, [.ref bm, .int (nI (n + 1 + i))])), (bm, .inl (cI, 448, .inl (sm_ap (upd fm n 128) (n + 1) (fun _ => 0) i)))]) (wr := [(hh, .inr (0, [.ref hm, .ref aw, .ref ad]))]) (As := [.int 0]) (rest := []) ⟨hx, hb, hml, hown, hts⟩ (sc_X2_put l D cI th _ hm bm 448 (n + 1 + i) (sm_ap (upd fm n 128) (n + 1) (fun _ => 0) i) 0 (by omega) (by decide)) (cwV 1 hts gX0_pad_X2_put rfl rfl rfl (by decide +kernel) ⟨Nat.le_of_ble_eq_true rfl, Nat.le_of_ble_eq_true rfl⟩) hP hD hS hA hK hT [1, 2] [0] rfl rfl rfl rfl (by decide) 0 2 rfl rfl rfl rfl hl.1 rfl (Nat.le_of_ble_eq_true rfl) dX0_pad_49 ⟨Nat.zero_le _, Nat.zero_le _⟩ (fun zt H1 locs ht hvm hB hJ hS => ?_)
        obtain ⟨hP1, -, hD1⟩ := hB
        rw [ht] at hP1
        obtain ⟨hP, hD⟩ := hJ _ hP1 hD1
        clear hJ
        generalize H1 = H at hP hS ⊢
        have hP : va_P D vwCl [(hh, .inr (0, [.ref hm, .ref aw, .ref ad])), (hm, .inr (2, [.ref bm, .int (nI (n + 1 + i + 1))])), (bm, .inl (cI, 448, .inl (upd (sm_ap (upd fm n 128) (n + 1) (fun _ => 0) i) (n + 1 + i) 0)))] H := hP.sub [0, 1, 2] rfl
        have hD : va_D A [(hh, .inr (0, [.ref hm, .ref aw, .ref ad])), (hm, .inr (2, [.ref bm, .int (nI (n + 1 + i + 1))])), (bm, .inl (cI, 448, .inl (upd (sm_ap (upd fm n 128) (n + 1) (fun _ => 0) i) (n + 1 + i) 0)))] := hD.sub [0, 1, 2] rfl rfl
        refine lv_iinc (v := nI (i + 1)) (lv' := [(3, .int (nI (i + 1))), (2, .int (nI z)), (0, .ref hh), (1, .int (nI (n * 8)))]) hx hb dX0_pad_52 hl (k := 0) rfl (nI_1 i) (by decide) rfl (fun ls hl => ?_)
        refine lv_goto (tgt := 39) hx hb dX0_pad_55 (by decide) ?_
        rw [show upd (sm_ap (upd fm n 128) (n + 1) (fun _ => 0) i) (n + 1 + i) 0 = _ from sm_ap_s (upd fm n 128) (n + 1) (fun _ => 0) i] at hP hD
        exact ih (i + 1) _ _ _ (by omega) (by omega) hP hD hS (lv_sub hl [0, 1, 2, 3] rfl)
  exact lp39 _ 0 _ _ _ (Nat.lt_succ_self _) (Nat.zero_le _) (by rw [sm_ap_0]; exact hP) (by rw [sm_ap_0]; exact hD) hS (lv_sub hl [0, 1, 3, 2] rfl)

def rm_X0_spread : Room := ({ frames := 2, cells := 0, slots := 0, locals := 42 } : Room)
set_option maxHeartbeats 4000000 in
set_option maxRecDepth 100000 in
/-- Hasher.spread -/
theorem sc_X0_spread (l : Launch) (D : va_G) (cI : ClassId) (th : Option (Nat × Nat)) (sz : Nat) (hh hm bm aw ad : Nat) (u a : Nat) (fm fw : Nat → Int32) (ha : a + 64 ≤ u) (hu : u ≤ 448) : Met l yX0_spread wsX0_spread rm_X0_spread (va_Pc [.ref hh, .int (nI a)] (sm_PW D cI th [(hh, .inr (0, [.ref hm, .ref aw, .ref ad])), (hm, .inr (2, [.ref bm, .int (nI u)])), (bm, .inl (cI, 448, .inl fm)), (aw, .inl (cI, 64, .inl fw))] sz)) (va_Qv (fun (_ : Unit) => True) (fun _ t => sm_QW D cI (va_A [(hh, .inr (0, [.ref hm, .ref aw, .ref ad])), (hm, .inr (2, [.ref bm, .int (nI u)])), (bm, .inl (cI, 448, .inl fm)), (aw, .inl (cI, 64, .inl fw))] sz) [(hh, .inr (0, [.ref hm, .ref aw, .ref ad])), (hm, .inr (2, [.ref bm, .int (nI u)])), (bm, .inl (cI, 448, .inl fm)), (aw, .inl (cI, 64, .inl (sm_W fm a)))] t) (va_A [(hh, .inr (0, [.ref hm, .ref aw, .ref ad])), (hm, .inr (2, [.ref bm, .int (nI u)])), (bm, .inl (cI, 448, .inl fm)), (aw, .inl (cI, 64, .inl fw))] sz)) 0 0 (va_A [(hh, .inr (0, [.ref hm, .ref aw, .ref ad])), (hm, .inr (2, [.ref bm, .int (nI u)])), (bm, .inl (cI, 448, .inl fm)), (aw, .inl (cI, 64, .inl fw))] sz) := by
  refine Met.ofW (cc := cX0_spread) (maxL := 7) (ret := none) (by decide) rfl ?_
  intro p e s m args below meth c s₁ B hml hv
  obtain ⟨rfl, hsz, hP, hK, hD0, hT⟩ := hv
  have hx := B.exec
  have hb := B.bytes
  have hr := B.returns
  have hts := atoms_spec (ws := wsX0_spread) B.pre
  have hown : s.vm.findClass RX0 = some m.cls := findClass_of_methodNamed B.named
  have hlocks := B.notSynchronized
  subst hsz
  have hD := hD0.self (sz := s.heap.size)
  generalize hAe : va_A [(hh, .inr (0, [.ref hm, .ref aw, .ref ad])), (hm, .inr (2, [.ref bm, .int (nI u)])), (bm, .inl (cI, 448, .inl fm)), (aw, .inl (cI, 64, .inl fw))] s.heap.size = A at hD hT ⊢
  have hA : ∀ q : Nat, s.heap.size ≤ q → A q := fun q h => by rw [← hAe]; exact Or.inr h
  have hS : va_S A s.heap s.heap [] := va_S.rf
  have hl := lv_entry ([.ref hh, .int (nI a)]) (n := 7) (Nat.le_of_ble_eq_true rfl)
  rw [lg_entry_eq]
  generalize (lg_sl ([.ref hh, .int (nI a)]) ++ List.replicate (7 - (lg_sl ([.ref hh, .int (nI a)])).length) Slot.unset).toArray = ls at hl ⊢
  have hl : lv_has ls 7 [(0, .ref hh), (1, .int (nI a))] := hl
  refine sm_name (fun Q hQ => ?_)
  have hf_20 := hts (.fieldLink RX0 20 "SeedMill$Hasher" "w" "[I") (by decide +kernel)
  have hw_X0 : ∀ w ∈ wsX00, w ∈ wsX0_spread := by decide +kernel
  have hf_14 := hts (.fieldLink RX0 14 "SeedMill$Hasher" "message" "LSeedMill$Row;") (by decide +kernel)
  refine lv_iconst (v := 0) hx hb dX0_spread_0 (by decide) ?_
  refine lv_istore_n (lv' := [(2, .int 0), (0, .ref hh), (1, .int (nI a))]) hx hb dX0_spread_1 rfl hl (by decide) rfl (fun ls hl => ?_)
  have lp2 : ∀ (zn : Nat) (t : Nat) (H : Heap) (locs : List Loc) (ls : Array Slot), 16 - t < zn → t ≤ 16 → va_P D vwCl [(hh, .inr (0, [.ref hm, .ref aw, .ref ad])), (hm, .inr (2, [.ref bm, .int (nI u)])), (bm, .inl (cI, 448, .inl fm)), (aw, .inl (cI, 64, .inl (sm_sc fm a fw t)))] H → va_D A [(hh, .inr (0, [.ref hm, .ref aw, .ref ad])), (hm, .inr (2, [.ref bm, .int (nI u)])), (bm, .inl (cI, 448, .inl fm)), (aw, .inl (cI, 64, .inl (sm_sc fm a fw t)))] → va_S A s.heap H locs → lv_has ls 7 [(2, .int (nI t)), (0, .ref hh), (1, .int (nI a))] → W p l e (headSpec wsX0_spread rm_X0_spread).room s m ([.ref hh, .int (nI a)] : List Value).toArray below meth c H locs 0 0 Q (F0 m 2 ls []) := by
    intro zn
    induction zn with
    | zero => intro t H locs ls hmu; exact absurd hmu (Nat.not_lt_zero _)
    | succ zn ih =>
      intro t H locs ls hmu hi_2 hP hD hS hl
      refine lv_iload_n hx hb dX0_spread_2 rfl (lv_at hl 0 rfl) ?_
      refine lv_bipush (v := 16) hx hb dX0_spread_3 (by decide) ?_
      refine lv_icmp_ge (tgt := 32) hx hb dX0_spread_5 (by decide) (fun c_5 => ?_) (fun c_5 => ?_)
      ·
        have hex_2 : t = 16 := by
          rcases Nat.lt_or_ge t (16) with q | q
          · exact absurd c_5 (nI_ge q (by decide))
          · omega
        refine lv_bipush (v := 16) hx hb dX0_spread_32 (by decide) ?_
        refine lv_istore_n (lv' := [(2, .int 16), (0, .ref hh), (1, .int (nI a))]) hx hb dX0_spread_34 rfl hl (by decide) rfl (fun ls hl => ?_)
        have lp35 : ∀ (zn : Nat) (v : Nat) (H : Heap) (locs : List Loc) (ls : Array Slot), 64 - v < zn → 16 ≤ v → v ≤ 64 → va_P D vwCl [(hh, .inr (0, [.ref hm, .ref aw, .ref ad])), (hm, .inr (2, [.ref bm, .int (nI u)])), (bm, .inl (cI, 448, .inl fm)), (aw, .inl (cI, 64, .inl (sm_sc fm a fw v)))] H → va_D A [(hh, .inr (0, [.ref hm, .ref aw, .ref ad])), (hm, .inr (2, [.ref bm, .int (nI u)])), (bm, .inl (cI, 448, .inl fm)), (aw, .inl (cI, 64, .inl (sm_sc fm a fw v)))] → va_S A s.heap H locs → lv_has ls 7 [(2, .int (nI v)), (0, .ref hh), (1, .int (nI a))] → W p l e (headSpec wsX0_spread rm_X0_spread).room s m ([.ref hh, .int (nI a)] : List Value).toArray below meth c H locs 0 0 Q (F0 m 35 ls []) := by
          intro zn
          induction zn with
          | zero => intro v H locs ls hmu; exact absurd hmu (Nat.not_lt_zero _)
          | succ zn ih =>
            intro v H locs ls hmu hv1 hv2 hP hD hS hl
            refine lv_iload_n hx hb dX0_spread_35 rfl (lv_at hl 0 rfl) ?_
            refine lv_bipush (v := 64) hx hb dX0_spread_36 (by decide) ?_
            refine lv_icmp_ge (tgt := 140) hx hb dX0_spread_38 (by decide) (fun c_38 => ?_) (fun c_38 => ?_)
            ·
              have hex : v = 64 := by
                rcases Nat.lt_or_ge v 64 with q | q
                · exact absurd c_38 (nI_ge q (by decide))
                · omega
              rw [hQ]
              rw [hex] at hP hD
              have hP := sm_arr hP 3 rfl (sm_W fm a) (sm_sc_congr (fun _ _ _ => rfl) 64)
              have hD := sm_arrD (y := .inl (cI, 64, .inl (sm_W fm a))) hD 3 rfl
              have hP9 : va_P D vwCl [(hh, .inr (0, [.ref hm, .ref aw, .ref ad])), (hm, .inr (2, [.ref bm, .int (nI u)])), (bm, .inl (cI, 448, .inl fm)), (aw, .inl (cI, 64, .inl (sm_W fm a)))] H := hP
              have hD9 : va_D A [(hh, .inr (0, [.ref hm, .ref aw, .ref ad])), (hm, .inr (2, [.ref bm, .int (nI u)])), (bm, .inl (cI, 448, .inl fm)), (aw, .inl (cI, 64, .inl (sm_W fm a)))] := hD
              exact W.vret hx hb hr (fun t ht hW => ⟨⟨(), rfl, trivial, ⟨by rw [ht]; exact hP9, va_K.moved hW.alike hK, hD9⟩⟩, hS.F ht⟩) hS.2.2 dX0_spread_140
            ·
              have hlt : v < 64 := by
                rcases Nat.lt_or_ge v 64 with q | q
                · exact q
                · exact absurd (nI_le q (by omega)) c_38
              refine lv_aload_n hx hb dX0_spread_41 rfl (lv_at hl 1 rfl) ?_
              refine va_get (D := D) (ci := 0) (v := .ref aw) (C := RX0) (T := TX0) (N := 3) hx hb hts hw_X0 hown hK hP 0 rfl rfl 1 (by decide) hf_20 (fun _ h9 => h9) rfl dX0_spread_42 ?_
              refine lv_iload_n hx hb dX0_spread_45 rfl (lv_at hl 0 rfl) ?_
              refine lv_bipush (v := 15) hx hb dX0_spread_46 (by decide) ?_
              refine lv_isub hx hb dX0_spread_48 ?_
              refine sm_top (z := nI (v - 15)) (pk_sub (a := v) (b := 15) (by omega)) ?_
              refine va_iald (i := nI (v - 15)) hx hb hK hP 3 0 rfl rfl (vp_in_nI (n := (v - 15)) (by omega) (by omega)) dX0_spread_49 ?_
              refine sm_top (z := (sm_sc fm a fw v) (v - 15)) (congrArg (sm_sc fm a fw v) (nI_clamp (n := (v - 15)) (by omega))) ?_
              refine lv_istore_n (lv' := [(3, .int ((sm_sc fm a fw v) (v - 15))), (2, .int (nI v)), (0, .ref hh), (1, .int (nI a))]) hx hb dX0_spread_50 rfl hl (by decide) rfl (fun ls hl => ?_)
              refine lv_aload_n hx hb dX0_spread_51 rfl (lv_at hl 2 rfl) ?_
              refine va_get (D := D) (ci := 0) (v := .ref aw) (C := RX0) (T := TX0) (N := 3) hx hb hts hw_X0 hown hK hP 0 rfl rfl 1 (by decide) hf_20 (fun _ h9 => h9) rfl dX0_spread_52 ?_
              refine lv_iload_n hx hb dX0_spread_55 rfl (lv_at hl 1 rfl) ?_
              refine lv_iconst (v := 2) hx hb dX0_spread_56 (by decide) ?_
              refine lv_isub hx hb dX0_spread_57 ?_
              refine sm_top (z := nI (v - 2)) (pk_sub (a := v) (b := 2) (by omega)) ?_
              refine va_iald (i := nI (v - 2)) hx hb hK hP 3 0 rfl rfl (vp_in_nI (n := (v - 2)) (by omega) (by omega)) dX0_spread_58 ?_
              refine sm_top (z := (sm_sc fm a fw v) (v - 2)) (congrArg (sm_sc fm a fw v) (nI_clamp (n := (v - 2)) (by omega))) ?_
              refine lv_istore (lv' := [(4, .int ((sm_sc fm a fw v) (v - 2))), (3, .int ((sm_sc fm a fw v) (v - 15))), (2, .int (nI v)), (0, .ref hh), (1, .int (nI a))]) hx hb dX0_spread_59 hl (by decide) rfl (fun ls hl => ?_)
              refine lv_iload_n hx hb dX0_spread_61 rfl (lv_at hl 1 rfl) ?_
              refine lv_bipush (v := 7) hx hb dX0_spread_62 (by decide) ?_
              refine sm_callSi (wc := []) (wr := [(hh, .inr (0, [.ref hm, .ref aw, .ref ad])), (hm, .inr (2, [.ref bm, .int (nI u)])), (bm, .inl (cI, 448, .inl fm)), (aw, .inl (cI, 64, .inl (sm_sc fm a fw v)))]) (As := [.int ((sm_sc fm a fw v) (v - 15)), .int 7]) (rest := []) ⟨hx, hb, hml, hown, hts⟩ (sc_J6_rotateRight_7cf53 l D cI th _ ((sm_sc fm a fw v) (v - 15)) 7 ) (va_cwS 2 hts gX0_spread_J6_rotateRight_7cf53 rfl rfl rfl (by decide +kernel) ⟨Nat.le_of_ble_eq_true rfl, Nat.le_of_ble_eq_true rfl⟩) hP hD hS hA hK hT [] [0, 1, 2, 3] rfl rfl rfl rfl (by decide) rfl hl.1 rfl (Nat.le_of_ble_eq_true rfl) dX0_spread_64 ⟨Nat.zero_le _, Nat.zero_le _⟩ (fun r_64 zt H1 locs ht hvm hw hB hJ hS => ?_)
              obtain ⟨hP1, -, hD1⟩ := hB
              rw [ht] at hP1
              obtain ⟨hP, hD⟩ := hJ _ hP1 hD1
              clear hJ
              generalize H1 = H at hP hS ⊢
              have hP : va_P D vwCl [(hh, .inr (0, [.ref hm, .ref aw, .ref ad])), (hm, .inr (2, [.ref bm, .int (nI u)])), (bm, .inl (cI, 448, .inl fm)), (aw, .inl (cI, 64, .inl (sm_sc fm a fw v)))] H := hP.sub [0, 1, 2, 3] rfl
              have hD : va_D A [(hh, .inr (0, [.ref hm, .ref aw, .ref ad])), (hm, .inr (2, [.ref bm, .int (nI u)])), (bm, .inl (cI, 448, .inl fm)), (aw, .inl (cI, 64, .inl (sm_sc fm a fw v)))] := hD.sub [0, 1, 2, 3] rfl rfl
              subst hw
              refine lv_iload_n hx hb dX0_spread_67 rfl (lv_at hl 1 rfl) ?_
              refine lv_bipush (v := 18) hx hb dX0_spread_68 (by decide) ?_
              refine sm_callSi (wc := []) (wr := [(hh, .inr (0, [.ref hm, .ref aw, .ref ad])), (hm, .inr (2, [.ref bm, .int (nI u)])), (bm, .inl (cI, 448, .inl fm)), (aw, .inl (cI, 64, .inl (sm_sc fm a fw v)))]) (As := [.int ((sm_sc fm a fw v) (v - 15)), .int 18]) (rest := [.int (sm_rr ((sm_sc fm a fw v) (v - 15)) 7)]) ⟨hx, hb, hml, hown, hts⟩ (sc_J6_rotateRight_7cf53 l D cI th _ ((sm_sc fm a fw v) (v - 15)) 18 ) (va_cwS 2 hts gX0_spread_J6_rotateRight_7cf53 rfl rfl rfl (by decide +kernel) ⟨Nat.le_of_ble_eq_true rfl, Nat.le_of_ble_eq_true rfl⟩) hP hD hS hA hK hT [] [0, 1, 2, 3] rfl rfl rfl rfl (by decide) rfl hl.1 rfl (Nat.le_of_ble_eq_true rfl) dX0_spread_70 ⟨Nat.zero_le _, Nat.zero_le _⟩ (fun r_70 zt H1 locs ht hvm hw hB hJ hS => ?_)
              obtain ⟨hP1, -, hD1⟩ := hB
              rw [ht] at hP1
              obtain ⟨hP, hD⟩ := hJ _ hP1 hD1
              clear hJ
              generalize H1 = H at hP hS ⊢
              have hP : va_P D vwCl [(hh, .inr (0, [.ref hm, .ref aw, .ref ad])), (hm, .inr (2, [.ref bm, .int (nI u)])), (bm, .inl (cI, 448, .inl fm)), (aw, .inl (cI, 64, .inl (sm_sc fm a fw v)))] H := hP.sub [0, 1, 2, 3] rfl
              have hD : va_D A [(hh, .inr (0, [.ref hm, .ref aw, .ref ad])), (hm, .inr (2, [.ref bm, .int (nI u)])), (bm, .inl (cI, 448, .inl fm)), (aw, .inl (cI, 64, .inl (sm_sc fm a fw v)))] := hD.sub [0, 1, 2, 3] rfl rfl
              subst hw
              refine lv_ixor hx hb dX0_spread_73 ?_
              refine lv_iload_n hx hb dX0_spread_74 rfl (lv_at hl 1 rfl) ?_
              refine lv_iconst (v := 3) hx hb dX0_spread_75 (by decide) ?_
              refine lv_iushr (v := sm_us ((sm_sc fm a fw v) (v - 15)) 3) hx hb dX0_spread_76 rfl ?_
              refine lv_ixor hx hb dX0_spread_77 ?_
              refine sm_top (z := sm_s0 (sm_sc fm a fw v (v - 15))) rfl ?_
              refine lv_istore (lv' := [(5, .int (sm_s0 (sm_sc fm a fw v (v - 15)))), (4, .int ((sm_sc fm a fw v) (v - 2))), (3, .int ((sm_sc fm a fw v) (v - 15))), (2, .int (nI v)), (0, .ref hh), (1, .int (nI a))]) hx hb dX0_spread_78 hl (by decide) rfl (fun ls hl => ?_)
              refine lv_iload hx hb dX0_spread_80 (lv_at hl 1 rfl) ?_
              refine lv_bipush (v := 17) hx hb dX0_spread_82 (by decide) ?_
              refine sm_callSi (wc := []) (wr := [(hh, .inr (0, [.ref hm, .ref aw, .ref ad])), (hm, .inr (2, [.ref bm, .int (nI u)])), (bm, .inl (cI, 448, .inl fm)), (aw, .inl (cI, 64, .inl (sm_sc fm a fw v)))]) (As := [.int ((sm_sc fm a fw v) (v - 2)), .int 17]) (rest := []) ⟨hx, hb, hml, hown, hts⟩ (sc_J6_rotateRight_7cf53 l D cI th _ ((sm_sc fm a fw v) (v - 2)) 17 ) (va_cwS 2 hts gX0_spread_J6_rotateRight_7cf53 rfl rfl rfl (by decide +kernel) ⟨Nat.le_of_ble_eq_true rfl, Nat.le_of_ble_eq_true rfl⟩) hP hD hS hA hK hT [] [0, 1, 2, 3] rfl rfl rfl rfl (by decide) rfl hl.1 rfl (Nat.le_of_ble_eq_true rfl) dX0_spread_84 ⟨Nat.zero_le _, Nat.zero_le _⟩ (fun r_84 zt H1 locs ht hvm hw hB hJ hS => ?_)
              obtain ⟨hP1, -, hD1⟩ := hB
              rw [ht] at hP1
              obtain ⟨hP, hD⟩ := hJ _ hP1 hD1
              clear hJ
              generalize H1 = H at hP hS ⊢
              have hP : va_P D vwCl [(hh, .inr (0, [.ref hm, .ref aw, .ref ad])), (hm, .inr (2, [.ref bm, .int (nI u)])), (bm, .inl (cI, 448, .inl fm)), (aw, .inl (cI, 64, .inl (sm_sc fm a fw v)))] H := hP.sub [0, 1, 2, 3] rfl
              have hD : va_D A [(hh, .inr (0, [.ref hm, .ref aw, .ref ad])), (hm, .inr (2, [.ref bm, .int (nI u)])), (bm, .inl (cI, 448, .inl fm)), (aw, .inl (cI, 64, .inl (sm_sc fm a fw v)))] := hD.sub [0, 1, 2, 3] rfl rfl
              subst hw
              refine lv_iload hx hb dX0_spread_87 (lv_at hl 1 rfl) ?_
              refine lv_bipush (v := 19) hx hb dX0_spread_89 (by decide) ?_
              refine sm_callSi (wc := []) (wr := [(hh, .inr (0, [.ref hm, .ref aw, .ref ad])), (hm, .inr (2, [.ref bm, .int (nI u)])), (bm, .inl (cI, 448, .inl fm)), (aw, .inl (cI, 64, .inl (sm_sc fm a fw v)))]) (As := [.int ((sm_sc fm a fw v) (v - 2)), .int 19]) (rest := [.int (sm_rr ((sm_sc fm a fw v) (v - 2)) 17)]) ⟨hx, hb, hml, hown, hts⟩ (sc_J6_rotateRight_7cf53 l D cI th _ ((sm_sc fm a fw v) (v - 2)) 19 ) (va_cwS 2 hts gX0_spread_J6_rotateRight_7cf53 rfl rfl rfl (by decide +kernel) ⟨Nat.le_of_ble_eq_true rfl, Nat.le_of_ble_eq_true rfl⟩) hP hD hS hA hK hT [] [0, 1, 2, 3] rfl rfl rfl rfl (by decide) rfl hl.1 rfl (Nat.le_of_ble_eq_true rfl) dX0_spread_91 ⟨Nat.zero_le _, Nat.zero_le _⟩ (fun r_91 zt H1 locs ht hvm hw hB hJ hS => ?_)
              obtain ⟨hP1, -, hD1⟩ := hB
              rw [ht] at hP1
              obtain ⟨hP, hD⟩ := hJ _ hP1 hD1
              clear hJ
              generalize H1 = H at hP hS ⊢
              have hP : va_P D vwCl [(hh, .inr (0, [.ref hm, .ref aw, .ref ad])), (hm, .inr (2, [.ref bm, .int (nI u)])), (bm, .inl (cI, 448, .inl fm)), (aw, .inl (cI, 64, .inl (sm_sc fm a fw v)))] H := hP.sub [0, 1, 2, 3] rfl
              have hD : va_D A [(hh, .inr (0, [.ref hm, .ref aw, .ref ad])), (hm, .inr (2, [.ref bm, .int (nI u)])), (bm, .inl (cI, 448, .inl fm)), (aw, .inl (cI, 64, .inl (sm_sc fm a fw v)))] := hD.sub [0, 1, 2, 3] rfl rfl
              subst hw
              refine lv_ixor hx hb dX0_spread_94 ?_
              refine lv_iload hx hb dX0_spread_95 (lv_at hl 1 rfl) ?_
              refine lv_bipush (v := 10) hx hb dX0_spread_97 (by decide) ?_
              refine lv_iushr (v := sm_us ((sm_sc fm a fw v) (v - 2)) 10) hx hb dX0_spread_99 rfl ?_
              refine lv_ixor hx hb dX0_spread_100 ?_
              refine sm_top (z := sm_s1 (sm_sc fm a fw v (v - 2))) rfl ?_
              refine lv_istore (lv' := [(6, .int (sm_s1 (sm_sc fm a fw v (v - 2)))), (5, .int (sm_s0 (sm_sc fm a fw v (v - 15)))), (4, .int ((sm_sc fm a fw v) (v - 2))), (3, .int ((sm_sc fm a fw v) (v - 15))), (2, .int (nI v)), (0, .ref hh), (1, .int (nI a))]) hx hb dX0_spread_101 hl (by decide) rfl (fun ls hl => ?_)
              refine lv_aload_n hx hb dX0_spread_103 rfl (lv_at hl 5 rfl) ?_
              refine va_get (D := D) (ci := 0) (v := .ref aw) (C := RX0) (T := TX0) (N := 3) hx hb hts hw_X0 hown hK hP 0 rfl rfl 1 (by decide) hf_20 (fun _ h9 => h9) rfl dX0_spread_104 ?_
              refine lv_iload_n hx hb dX0_spread_107 rfl (lv_at hl 4 rfl) ?_
              refine lv_aload_n hx hb dX0_spread_108 rfl (lv_at hl 5 rfl) ?_
              refine va_get (D := D) (ci := 0) (v := .ref aw) (C := RX0) (T := TX0) (N := 3) hx hb hts hw_X0 hown hK hP 0 rfl rfl 1 (by decide) hf_20 (fun _ h9 => h9) rfl dX0_spread_109 ?_
              refine lv_iload_n hx hb dX0_spread_112 rfl (lv_at hl 4 rfl) ?_
              refine lv_bipush (v := 16) hx hb dX0_spread_113 (by decide) ?_
              refine lv_isub hx hb dX0_spread_115 ?_
              refine sm_top (z := nI (v - 16)) (pk_sub (a := v) (b := 16) (by omega)) ?_
              refine va_iald (i := nI (v - 16)) hx hb hK hP 3 0 rfl rfl (vp_in_nI (n := (v - 16)) (by omega) (by omega)) dX0_spread_116 ?_
              refine sm_top (z := (sm_sc fm a fw v) (v - 16)) (congrArg (sm_sc fm a fw v) (nI_clamp (n := (v - 16)) (by omega))) ?_
              refine lv_iload hx hb dX0_spread_117 (lv_at hl 1 rfl) ?_
              refine lv_iadd hx hb dX0_spread_119 ?_
              refine lv_aload_n hx hb dX0_spread_120 rfl (lv_at hl 5 rfl) ?_
              refine va_get (D := D) (ci := 0) (v := .ref aw) (C := RX0) (T := TX0) (N := 3) hx hb hts hw_X0 hown hK hP 0 rfl rfl 1 (by decide) hf_20 (fun _ h9 => h9) rfl dX0_spread_121 ?_
              refine lv_iload_n hx hb dX0_spread_124 rfl (lv_at hl 4 rfl) ?_
              refine lv_bipush (v := 7) hx hb dX0_spread_125 (by decide) ?_
              refine lv_isub hx hb dX0_spread_127 ?_
              refine sm_top (z := nI (v - 7)) (pk_sub (a := v) (b := 7) (by omega)) ?_
              refine va_iald (i := nI (v - 7)) hx hb hK hP 3 0 rfl rfl (vp_in_nI (n := (v - 7)) (by omega) (by omega)) dX0_spread_128 ?_
              refine sm_top (z := (sm_sc fm a fw v) (v - 7)) (congrArg (sm_sc fm a fw v) (nI_clamp (n := (v - 7)) (by omega))) ?_
              refine lv_iadd hx hb dX0_spread_129 ?_
              refine lv_iload hx hb dX0_spread_130 (lv_at hl 0 rfl) ?_
              refine lv_iadd hx hb dX0_spread_132 ?_
              refine va_iast (i := nI v) (x := ((((sm_sc fm a fw v) (v - 16)) + (sm_s0 (sm_sc fm a fw v (v - 15)))) + ((sm_sc fm a fw v) (v - 7))) + (sm_s1 (sm_sc fm a fw v (v - 2)))) hx hb hK hP hD hS 3 0 rfl rfl (vp_in_nI (n := v) (by omega) (by omega)) dX0_spread_133 (fun H locs hP hD hS => ?_)
              rw [show Int32.toNatClampNeg (nI v) = v from nI_clamp (n := v) (by omega)] at hP hD
              have hP : va_P D vwCl [(hh, .inr (0, [.ref hm, .ref aw, .ref ad])), (hm, .inr (2, [.ref bm, .int (nI u)])), (bm, .inl (cI, 448, .inl fm)), (aw, .inl (cI, 64, .inl (upd (sm_sc fm a fw v) v (((((sm_sc fm a fw v) (v - 16)) + (sm_s0 (sm_sc fm a fw v (v - 15)))) + ((sm_sc fm a fw v) (v - 7))) + (sm_s1 (sm_sc fm a fw v (v - 2)))))))] H := hP
              have hD : va_D A [(hh, .inr (0, [.ref hm, .ref aw, .ref ad])), (hm, .inr (2, [.ref bm, .int (nI u)])), (bm, .inl (cI, 448, .inl fm)), (aw, .inl (cI, 64, .inl (upd (sm_sc fm a fw v) v (((((sm_sc fm a fw v) (v - 16)) + (sm_s0 (sm_sc fm a fw v (v - 15)))) + ((sm_sc fm a fw v) (v - 7))) + (sm_s1 (sm_sc fm a fw v (v - 2)))))))] := hD
              refine lv_iinc (v := nI (v + 1)) (lv' := [(2, .int (nI (v + 1))), (6, .int (sm_s1 (sm_sc fm a fw v (v - 2)))), (5, .int (sm_s0 (sm_sc fm a fw v (v - 15)))), (4, .int ((sm_sc fm a fw v) (v - 2))), (3, .int ((sm_sc fm a fw v) (v - 15))), (0, .ref hh), (1, .int (nI a))]) hx hb dX0_spread_134 hl (k := 4) rfl (nI_1 v) (by decide) rfl (fun ls hl => ?_)
              refine lv_goto (tgt := 35) hx hb dX0_spread_137 (by decide) ?_
              rw [show upd (sm_sc fm a fw v) v _ = _ from sm_sc_hi hv1] at hP hD
              exact ih (v + 1) _ _ _ (by omega) (by omega) (by omega) hP hD hS (lv_sub hl [0, 5, 6] rfl)
        exact lp35 _ 16 _ _ _ (Nat.lt_succ_self _) (by decide) (by decide) (by rw [hex_2] at hP; exact hP) (by rw [hex_2] at hD; exact hD) hS (lv_sub hl [0, 1, 2] rfl)
      ·
        have hlt_2 : t < 16 := by
          rcases Nat.lt_or_ge t (16) with q | q
          · exact q
          · exact absurd (nI_le q (by omega)) c_5
        refine lv_aload_n hx hb dX0_spread_8 rfl (lv_at hl 1 rfl) ?_
        refine va_get (D := D) (ci := 0) (v := .ref aw) (C := RX0) (T := TX0) (N := 3) hx hb hts hw_X0 hown hK hP 0 rfl rfl 1 (by decide) hf_20 (fun _ h9 => h9) rfl dX0_spread_9 ?_
        refine lv_iload_n hx hb dX0_spread_12 rfl (lv_at hl 0 rfl) ?_
        refine lv_aload_n hx hb dX0_spread_13 rfl (lv_at hl 1 rfl) ?_
        refine va_get (D := D) (ci := 0) (v := .ref hm) (C := RX0) (T := TX0) (N := 3) hx hb hts hw_X0 hown hK hP 0 rfl rfl 0 (by decide) hf_14 (fun _ h9 => h9) rfl dX0_spread_14 ?_
        refine lv_iload_n hx hb dX0_spread_17 rfl (lv_at hl 2 rfl) ?_
        refine lv_iconst (v := 4) hx hb dX0_spread_18 (by decide) ?_
        refine lv_iload_n hx hb dX0_spread_19 rfl (lv_at hl 0 rfl) ?_
        refine lv_imul hx hb dX0_spread_20 ?_
        refine lv_iadd hx hb dX0_spread_21 ?_
        refine sm_top (z := nI (a + 4 * t)) (by rw [show (4 : Int32) * nI t = nI (4 * t) from pk_mul 4 t, nI_add]) ?_
        refine sm_callVi (wc := [(hm, .inr (2, [.ref bm, .int (nI u)])), (bm, .inl (cI, 448, .inl fm))]) (wr := [(hh, .inr (0, [.ref hm, .ref aw, .ref ad])), (aw, .inl (cI, 64, .inl (sm_sc fm a fw t)))]) (As := [.int (nI (a + 4 * t))]) (rest := [.int (nI t), .ref aw]) ⟨hx, hb, hml, hown, hts⟩ (sc_X2_wordAt l D cI th _ hm bm 448 u (a + 4 * t) fm (by omega) hu (by decide)) (cwV 1 hts gX0_spread_X2_wordAt rfl rfl rfl (by decide +kernel) ⟨Nat.le_of_ble_eq_true rfl, Nat.le_of_ble_eq_true rfl⟩) hP hD hS hA hK hT [1, 2] [0, 3] rfl rfl rfl rfl (by decide) 0 2 rfl rfl rfl rfl hl.1 rfl (Nat.le_of_ble_eq_true rfl) dX0_spread_22 ⟨Nat.zero_le _, Nat.zero_le _⟩ (fun r_22 zt H1 locs ht hvm hw hB hJ hS => ?_)
        obtain ⟨hP1, -, hD1⟩ := hB
        rw [ht] at hP1
        obtain ⟨hP, hD⟩ := hJ _ hP1 hD1
        clear hJ
        generalize H1 = H at hP hS ⊢
        have hP : va_P D vwCl [(hh, .inr (0, [.ref hm, .ref aw, .ref ad])), (hm, .inr (2, [.ref bm, .int (nI u)])), (bm, .inl (cI, 448, .inl fm)), (aw, .inl (cI, 64, .inl (sm_sc fm a fw t)))] H := hP.sub [0, 2, 3, 1] rfl
        have hD : va_D A [(hh, .inr (0, [.ref hm, .ref aw, .ref ad])), (hm, .inr (2, [.ref bm, .int (nI u)])), (bm, .inl (cI, 448, .inl fm)), (aw, .inl (cI, 64, .inl (sm_sc fm a fw t)))] := hD.sub [0, 2, 3, 1] rfl rfl
        subst hw
        refine va_iast (i := nI t) (x := sm_wd fm (a + 4 * t)) hx hb hK hP hD hS 3 0 rfl rfl (vp_in_nI (n := t) (by omega) (by omega)) dX0_spread_25 (fun H locs hP hD hS => ?_)
        rw [show Int32.toNatClampNeg (nI t) = t from nI_clamp (n := t) (by omega)] at hP hD
        have hP : va_P D vwCl [(hh, .inr (0, [.ref hm, .ref aw, .ref ad])), (hm, .inr (2, [.ref bm, .int (nI u)])), (bm, .inl (cI, 448, .inl fm)), (aw, .inl (cI, 64, .inl (upd (sm_sc fm a fw t) t (sm_wd fm (a + 4 * t)))))] H := hP
        have hD : va_D A [(hh, .inr (0, [.ref hm, .ref aw, .ref ad])), (hm, .inr (2, [.ref bm, .int (nI u)])), (bm, .inl (cI, 448, .inl fm)), (aw, .inl (cI, 64, .inl (upd (sm_sc fm a fw t) t (sm_wd fm (a + 4 * t)))))] := hD
        refine lv_iinc (v := nI (t + 1)) (lv' := [(2, .int (nI (t + 1))), (0, .ref hh), (1, .int (nI a))]) hx hb dX0_spread_26 hl (k := 0) rfl (nI_1 t) (by decide) rfl (fun ls hl => ?_)
        refine lv_goto (tgt := 2) hx hb dX0_spread_29 (by decide) ?_
        rw [sm_sc_lo hlt_2] at hP hD
        exact ih (t + 1) _ _ _ (by omega) (by omega) hP hD hS (lv_sub hl [0, 1, 2] rfl)
  exact lp2 _ 0 _ _ _ (Nat.lt_succ_self _) (Nat.zero_le _) hP hD hS (lv_sub hl [0, 1, 2] rfl)

def rm_X0_mix : Room := ({ frames := 2, cells := 0, slots := 0, locals := 44 } : Room)
set_option maxHeartbeats 4000000 in
set_option maxRecDepth 100000 in
/-- Hasher.mix -/
theorem sc_X0_mix (l : Launch) (D : va_G) (cI : ClassId) (tk tf : Nat) (sz : Nat) (hh hm bm aw ad : Nat) (fw fd : Nat → Int32)  : Met l yX0_mix wsX0_mix rm_X0_mix (va_Pc [.ref hh] (sm_PW D cI (some (tk, tf)) [(hh, .inr (0, [.ref hm, .ref aw, .ref ad])), (aw, .inl (cI, 64, .inl fw)), (ad, .inl (cI, 8, .inl fd))] sz)) (va_Qv (fun (_ : Unit) => True) (fun _ t => sm_QW D cI (va_A [(hh, .inr (0, [.ref hm, .ref aw, .ref ad])), (aw, .inl (cI, 64, .inl fw)), (ad, .inl (cI, 8, .inl fd))] sz) [(hh, .inr (0, [.ref hm, .ref aw, .ref ad])), (aw, .inl (cI, 64, .inl fw)), (ad, .inl (cI, 8, .inl (sm_cp fw fd)))] t) (va_A [(hh, .inr (0, [.ref hm, .ref aw, .ref ad])), (aw, .inl (cI, 64, .inl fw)), (ad, .inl (cI, 8, .inl fd))] sz)) 0 0 (va_A [(hh, .inr (0, [.ref hm, .ref aw, .ref ad])), (aw, .inl (cI, 64, .inl fw)), (ad, .inl (cI, 8, .inl fd))] sz) := by
  refine Met.ofW (cc := cX0_mix) (maxL := 12) (ret := none) (by decide) rfl ?_
  intro p e s m args below meth c s₁ B hml hv
  obtain ⟨rfl, hsz, hP, hK, hD0, hT⟩ := hv
  have hx := B.exec
  have hb := B.bytes
  have hr := B.returns
  have hts := atoms_spec (ws := wsX0_mix) B.pre
  have hown : s.vm.findClass RX0 = some m.cls := findClass_of_methodNamed B.named
  have hlocks := B.notSynchronized
  subst hsz
  have hD := hD0.self (sz := s.heap.size)
  generalize hAe : va_A [(hh, .inr (0, [.ref hm, .ref aw, .ref ad])), (aw, .inl (cI, 64, .inl fw)), (ad, .inl (cI, 8, .inl fd))] s.heap.size = A at hD hT ⊢
  have hA : ∀ q : Nat, s.heap.size ≤ q → A q := fun q h => by rw [← hAe]; exact Or.inr h
  have hS : va_S A s.heap s.heap [] := va_S.rf
  have hl := lv_entry ([.ref hh]) (n := 12) (Nat.le_of_ble_eq_true rfl)
  rw [lg_entry_eq]
  generalize (lg_sl ([.ref hh]) ++ List.replicate (12 - (lg_sl ([.ref hh])).length) Slot.unset).toArray = ls at hl ⊢
  have hl : lv_has ls 12 [(0, .ref hh)] := hl
  refine sm_name (fun Q hQ => ?_)
  have hf_24 := hts (.fieldLink RX0 24 "SeedMill$Hasher" "words" "[I") (by decide +kernel)
  have hw_X0 : ∀ w ∈ wsX00, w ∈ wsX0_mix := by decide +kernel
  have hf_20 := hts (.fieldLink RX0 20 "SeedMill$Hasher" "w" "[I") (by decide +kernel)
  refine lv_aload_n hx hb dX0_mix_0 rfl (lv_at hl 0 rfl) ?_
  refine va_get (D := D) (ci := 0) (v := .ref ad) (C := RX0) (T := TX0) (N := 3) hx hb hts hw_X0 hown hK hP 0 rfl rfl 2 (by decide) hf_24 (fun _ h9 => h9) rfl dX0_mix_1 ?_
  refine lv_iconst (v := 0) hx hb dX0_mix_4 (by decide) ?_
  refine va_iald (i := 0) hx hb hK hP 2 0 rfl rfl (vp_in_nI (n := 0) (by decide) (by omega)) dX0_mix_5 ?_
  refine sm_top (z := fd 0) (congrArg fd (nI_clamp (n := 0) (by omega))) ?_
  refine lv_istore_n (lv' := [(1, .int (fd 0)), (0, .ref hh)]) hx hb dX0_mix_6 rfl hl (by decide) rfl (fun ls hl => ?_)
  refine lv_aload_n hx hb dX0_mix_7 rfl (lv_at hl 1 rfl) ?_
  refine va_get (D := D) (ci := 0) (v := .ref ad) (C := RX0) (T := TX0) (N := 3) hx hb hts hw_X0 hown hK hP 0 rfl rfl 2 (by decide) hf_24 (fun _ h9 => h9) rfl dX0_mix_8 ?_
  refine lv_iconst (v := 1) hx hb dX0_mix_11 (by decide) ?_
  refine va_iald (i := 1) hx hb hK hP 2 0 rfl rfl (vp_in_nI (n := 1) (by decide) (by omega)) dX0_mix_12 ?_
  refine sm_top (z := fd 1) (congrArg fd (nI_clamp (n := 1) (by omega))) ?_
  refine lv_istore_n (lv' := [(2, .int (fd 1)), (1, .int (fd 0)), (0, .ref hh)]) hx hb dX0_mix_13 rfl hl (by decide) rfl (fun ls hl => ?_)
  refine lv_aload_n hx hb dX0_mix_14 rfl (lv_at hl 2 rfl) ?_
  refine va_get (D := D) (ci := 0) (v := .ref ad) (C := RX0) (T := TX0) (N := 3) hx hb hts hw_X0 hown hK hP 0 rfl rfl 2 (by decide) hf_24 (fun _ h9 => h9) rfl dX0_mix_15 ?_
  refine lv_iconst (v := 2) hx hb dX0_mix_18 (by decide) ?_
  refine va_iald (i := 2) hx hb hK hP 2 0 rfl rfl (vp_in_nI (n := 2) (by decide) (by omega)) dX0_mix_19 ?_
  refine sm_top (z := fd 2) (congrArg fd (nI_clamp (n := 2) (by omega))) ?_
  refine lv_istore_n (lv' := [(3, .int (fd 2)), (2, .int (fd 1)), (1, .int (fd 0)), (0, .ref hh)]) hx hb dX0_mix_20 rfl hl (by decide) rfl (fun ls hl => ?_)
  refine lv_aload_n hx hb dX0_mix_21 rfl (lv_at hl 3 rfl) ?_
  refine va_get (D := D) (ci := 0) (v := .ref ad) (C := RX0) (T := TX0) (N := 3) hx hb hts hw_X0 hown hK hP 0 rfl rfl 2 (by decide) hf_24 (fun _ h9 => h9) rfl dX0_mix_22 ?_
  refine lv_iconst (v := 3) hx hb dX0_mix_25 (by decide) ?_
  refine va_iald (i := 3) hx hb hK hP 2 0 rfl rfl (vp_in_nI (n := 3) (by decide) (by omega)) dX0_mix_26 ?_
  refine sm_top (z := fd 3) (congrArg fd (nI_clamp (n := 3) (by omega))) ?_
  refine lv_istore (lv' := [(4, .int (fd 3)), (3, .int (fd 2)), (2, .int (fd 1)), (1, .int (fd 0)), (0, .ref hh)]) hx hb dX0_mix_27 hl (by decide) rfl (fun ls hl => ?_)
  refine lv_aload_n hx hb dX0_mix_29 rfl (lv_at hl 4 rfl) ?_
  refine va_get (D := D) (ci := 0) (v := .ref ad) (C := RX0) (T := TX0) (N := 3) hx hb hts hw_X0 hown hK hP 0 rfl rfl 2 (by decide) hf_24 (fun _ h9 => h9) rfl dX0_mix_30 ?_
  refine lv_iconst (v := 4) hx hb dX0_mix_33 (by decide) ?_
  refine va_iald (i := 4) hx hb hK hP 2 0 rfl rfl (vp_in_nI (n := 4) (by decide) (by omega)) dX0_mix_34 ?_
  refine sm_top (z := fd 4) (congrArg fd (nI_clamp (n := 4) (by omega))) ?_
  refine lv_istore (lv' := [(5, .int (fd 4)), (4, .int (fd 3)), (3, .int (fd 2)), (2, .int (fd 1)), (1, .int (fd 0)), (0, .ref hh)]) hx hb dX0_mix_35 hl (by decide) rfl (fun ls hl => ?_)
  refine lv_aload_n hx hb dX0_mix_37 rfl (lv_at hl 5 rfl) ?_
  refine va_get (D := D) (ci := 0) (v := .ref ad) (C := RX0) (T := TX0) (N := 3) hx hb hts hw_X0 hown hK hP 0 rfl rfl 2 (by decide) hf_24 (fun _ h9 => h9) rfl dX0_mix_38 ?_
  refine lv_iconst (v := 5) hx hb dX0_mix_41 (by decide) ?_
  refine va_iald (i := 5) hx hb hK hP 2 0 rfl rfl (vp_in_nI (n := 5) (by decide) (by omega)) dX0_mix_42 ?_
  refine sm_top (z := fd 5) (congrArg fd (nI_clamp (n := 5) (by omega))) ?_
  refine lv_istore (lv' := [(6, .int (fd 5)), (5, .int (fd 4)), (4, .int (fd 3)), (3, .int (fd 2)), (2, .int (fd 1)), (1, .int (fd 0)), (0, .ref hh)]) hx hb dX0_mix_43 hl (by decide) rfl (fun ls hl => ?_)
  refine lv_aload_n hx hb dX0_mix_45 rfl (lv_at hl 6 rfl) ?_
  refine va_get (D := D) (ci := 0) (v := .ref ad) (C := RX0) (T := TX0) (N := 3) hx hb hts hw_X0 hown hK hP 0 rfl rfl 2 (by decide) hf_24 (fun _ h9 => h9) rfl dX0_mix_46 ?_
  refine lv_bipush (v := 6) hx hb dX0_mix_49 (by decide) ?_
  refine va_iald (i := 6) hx hb hK hP 2 0 rfl rfl (vp_in_nI (n := 6) (by decide) (by omega)) dX0_mix_51 ?_
  refine sm_top (z := fd 6) (congrArg fd (nI_clamp (n := 6) (by omega))) ?_
  refine lv_istore (lv' := [(7, .int (fd 6)), (6, .int (fd 5)), (5, .int (fd 4)), (4, .int (fd 3)), (3, .int (fd 2)), (2, .int (fd 1)), (1, .int (fd 0)), (0, .ref hh)]) hx hb dX0_mix_52 hl (by decide) rfl (fun ls hl => ?_)
  refine lv_aload_n hx hb dX0_mix_54 rfl (lv_at hl 7 rfl) ?_
  refine va_get (D := D) (ci := 0) (v := .ref ad) (C := RX0) (T := TX0) (N := 3) hx hb hts hw_X0 hown hK hP 0 rfl rfl 2 (by decide) hf_24 (fun _ h9 => h9) rfl dX0_mix_55 ?_
  refine lv_bipush (v := 7) hx hb dX0_mix_58 (by decide) ?_
  refine va_iald (i := 7) hx hb hK hP 2 0 rfl rfl (vp_in_nI (n := 7) (by decide) (by omega)) dX0_mix_60 ?_
  refine sm_top (z := fd 7) (congrArg fd (nI_clamp (n := 7) (by omega))) ?_
  refine lv_istore (lv' := [(8, .int (fd 7)), (7, .int (fd 6)), (6, .int (fd 5)), (5, .int (fd 4)), (4, .int (fd 3)), (3, .int (fd 2)), (2, .int (fd 1)), (1, .int (fd 0)), (0, .ref hh)]) hx hb dX0_mix_61 hl (by decide) rfl (fun ls hl => ?_)
  refine lv_iconst (v := 0) hx hb dX0_mix_63 (by decide) ?_
  refine lv_istore (lv' := [(9, .int 0), (8, .int (fd 7)), (7, .int (fd 6)), (6, .int (fd 5)), (5, .int (fd 4)), (4, .int (fd 3)), (3, .int (fd 2)), (2, .int (fd 1)), (1, .int (fd 0)), (0, .ref hh)]) hx hb dX0_mix_64 hl (by decide) rfl (fun ls hl => ?_)
  have ex8 : (fd 0, fd 1, fd 2, fd 3, fd 4, fd 5, fd 6, fd 7) = sm_rds fw 0 (sm_i8 fd) := rfl
  have lp66 : ∀ (zn : Nat) (t : Nat) (x1 : Int32) (x2 : Int32) (x3 : Int32) (x4 : Int32) (x5 : Int32) (x6 : Int32) (x7 : Int32) (x8 : Int32) (H : Heap) (locs : List Loc) (ls : Array Slot), 64 - t < zn → t ≤ 64 → (x1, x2, x3, x4, x5, x6, x7, x8) = sm_rds fw t (sm_i8 fd) → va_P D vwCl [(hh, .inr (0, [.ref hm, .ref aw, .ref ad])), (aw, .inl (cI, 64, .inl fw)), (ad, .inl (cI, 8, .inl fd))] H → va_D A [(hh, .inr (0, [.ref hm, .ref aw, .ref ad])), (aw, .inl (cI, 64, .inl fw)), (ad, .inl (cI, 8, .inl fd))] → va_S A s.heap H locs → lv_has ls 12 [(9, .int (nI t)), (1, .int x1), (2, .int x2), (3, .int x3), (4, .int x4), (5, .int x5), (6, .int x6), (7, .int x7), (8, .int x8), (0, .ref hh)] → W p l e (headSpec wsX0_mix rm_X0_mix).room s m ([.ref hh] : List Value).toArray below meth c H locs 0 0 Q (F0 m 66 ls []) := by
    intro zn
    induction zn with
    | zero => intro t x1 x2 x3 x4 x5 x6 x7 x8 H locs ls hmu; exact absurd hmu (Nat.not_lt_zero _)
    | succ zn ih =>
      intro t x1 x2 x3 x4 x5 x6 x7 x8 H locs ls hmu ht1 hx8 hP hD hS hl
      refine lv_iload hx hb dX0_mix_66 (lv_at hl 0 rfl) ?_
      refine lv_bipush (v := 64) hx hb dX0_mix_68 (by decide) ?_
      refine lv_icmp_ge (tgt := 179) hx hb dX0_mix_70 (by decide) (fun c_70 => ?_) (fun c_70 => ?_)
      ·
        have hex : t = 64 := by
          rcases Nat.lt_or_ge t 64 with q | q
          · exact absurd c_70 (nI_ge q (by decide))
          · omega
        rw [hex] at hx8
        refine lv_aload_n hx hb dX0_mix_179 rfl (lv_at hl 9 rfl) ?_
        refine va_get (D := D) (ci := 0) (v := .ref ad) (C := RX0) (T := TX0) (N := 3) hx hb hts hw_X0 hown hK hP 0 rfl rfl 2 (by decide) hf_24 (fun _ h9 => h9) rfl dX0_mix_180 ?_
        refine lv_iconst (v := 0) hx hb dX0_mix_183 (by decide) ?_
        refine lv_dup2_11 hx hb dX0_mix_184 rfl rfl ?_
        refine va_iald (i := 0) hx hb hK hP 2 0 rfl rfl (vp_in_nI (n := 0) (by decide) (by omega)) dX0_mix_185 ?_
        refine sm_top (z := fd 0) (congrArg fd (nI_clamp (n := 0) (by omega))) ?_
        refine sm_top (z := fd 0) rfl ?_
        refine lv_iload_n hx hb dX0_mix_186 rfl (lv_at hl 1 rfl) ?_
        refine lv_iadd hx hb dX0_mix_187 ?_
        refine va_iast (i := 0) (x := (fd 0) + x1) hx hb hK hP hD hS 2 0 rfl rfl (vp_in_nI (n := 0) (by decide) (by omega)) dX0_mix_188 (fun H locs hP hD hS => ?_)
        rw [show Int32.toNatClampNeg 0 = 0 from nI_clamp (n := 0) (by omega)] at hP hD
        have hP : va_P D vwCl [(hh, .inr (0, [.ref hm, .ref aw, .ref ad])), (aw, .inl (cI, 64, .inl fw)), (ad, .inl (cI, 8, .inl (upd fd 0 ((fd 0) + x1))))] H := hP
        have hD : va_D A [(hh, .inr (0, [.ref hm, .ref aw, .ref ad])), (aw, .inl (cI, 64, .inl fw)), (ad, .inl (cI, 8, .inl (upd fd 0 ((fd 0) + x1))))] := hD
        refine lv_aload_n hx hb dX0_mix_189 rfl (lv_at hl 9 rfl) ?_
        refine va_get (D := D) (ci := 0) (v := .ref ad) (C := RX0) (T := TX0) (N := 3) hx hb hts hw_X0 hown hK hP 0 rfl rfl 2 (by decide) hf_24 (fun _ h9 => h9) rfl dX0_mix_190 ?_
        refine lv_iconst (v := 1) hx hb dX0_mix_193 (by decide) ?_
        refine lv_dup2_11 hx hb dX0_mix_194 rfl rfl ?_
        refine va_iald (i := 1) hx hb hK hP 2 0 rfl rfl (vp_in_nI (n := 1) (by decide) (by omega)) dX0_mix_195 ?_
        refine sm_top (z := (upd fd 0 ((fd 0) + x1)) 1) (congrArg (upd fd 0 ((fd 0) + x1)) (nI_clamp (n := 1) (by omega))) ?_
        refine sm_top (z := fd 1) rfl ?_
        refine lv_iload_n hx hb dX0_mix_196 rfl (lv_at hl 2 rfl) ?_
        refine lv_iadd hx hb dX0_mix_197 ?_
        refine va_iast (i := 1) (x := (fd 1) + x2) hx hb hK hP hD hS 2 0 rfl rfl (vp_in_nI (n := 1) (by decide) (by omega)) dX0_mix_198 (fun H locs hP hD hS => ?_)
        rw [show Int32.toNatClampNeg 1 = 1 from nI_clamp (n := 1) (by omega)] at hP hD
        have hP : va_P D vwCl [(hh, .inr (0, [.ref hm, .ref aw, .ref ad])), (aw, .inl (cI, 64, .inl fw)), (ad, .inl (cI, 8, .inl (upd (upd fd 0 ((fd 0) + x1)) 1 ((fd 1) + x2))))] H := hP
        have hD : va_D A [(hh, .inr (0, [.ref hm, .ref aw, .ref ad])), (aw, .inl (cI, 64, .inl fw)), (ad, .inl (cI, 8, .inl (upd (upd fd 0 ((fd 0) + x1)) 1 ((fd 1) + x2))))] := hD
        refine lv_aload_n hx hb dX0_mix_199 rfl (lv_at hl 9 rfl) ?_
        refine va_get (D := D) (ci := 0) (v := .ref ad) (C := RX0) (T := TX0) (N := 3) hx hb hts hw_X0 hown hK hP 0 rfl rfl 2 (by decide) hf_24 (fun _ h9 => h9) rfl dX0_mix_200 ?_
        refine lv_iconst (v := 2) hx hb dX0_mix_203 (by decide) ?_
        refine lv_dup2_11 hx hb dX0_mix_204 rfl rfl ?_
        refine va_iald (i := 2) hx hb hK hP 2 0 rfl rfl (vp_in_nI (n := 2) (by decide) (by omega)) dX0_mix_205 ?_
        refine sm_top (z := (upd (upd fd 0 ((fd 0) + x1)) 1 ((fd 1) + x2)) 2) (congrArg (upd (upd fd 0 ((fd 0) + x1)) 1 ((fd 1) + x2)) (nI_clamp (n := 2) (by omega))) ?_
        refine sm_top (z := fd 2) rfl ?_
        refine lv_iload_n hx hb dX0_mix_206 rfl (lv_at hl 3 rfl) ?_
        refine lv_iadd hx hb dX0_mix_207 ?_
        refine va_iast (i := 2) (x := (fd 2) + x3) hx hb hK hP hD hS 2 0 rfl rfl (vp_in_nI (n := 2) (by decide) (by omega)) dX0_mix_208 (fun H locs hP hD hS => ?_)
        rw [show Int32.toNatClampNeg 2 = 2 from nI_clamp (n := 2) (by omega)] at hP hD
        have hP : va_P D vwCl [(hh, .inr (0, [.ref hm, .ref aw, .ref ad])), (aw, .inl (cI, 64, .inl fw)), (ad, .inl (cI, 8, .inl (upd (upd (upd fd 0 ((fd 0) + x1)) 1 ((fd 1) + x2)) 2 ((fd 2) + x3))))] H := hP
        have hD : va_D A [(hh, .inr (0, [.ref hm, .ref aw, .ref ad])), (aw, .inl (cI, 64, .inl fw)), (ad, .inl (cI, 8, .inl (upd (upd (upd fd 0 ((fd 0) + x1)) 1 ((fd 1) + x2)) 2 ((fd 2) + x3))))] := hD
        refine lv_aload_n hx hb dX0_mix_209 rfl (lv_at hl 9 rfl) ?_
        refine va_get (D := D) (ci := 0) (v := .ref ad) (C := RX0) (T := TX0) (N := 3) hx hb hts hw_X0 hown hK hP 0 rfl rfl 2 (by decide) hf_24 (fun _ h9 => h9) rfl dX0_mix_210 ?_
        refine lv_iconst (v := 3) hx hb dX0_mix_213 (by decide) ?_
        refine lv_dup2_11 hx hb dX0_mix_214 rfl rfl ?_
        refine va_iald (i := 3) hx hb hK hP 2 0 rfl rfl (vp_in_nI (n := 3) (by decide) (by omega)) dX0_mix_215 ?_
        refine sm_top (z := (upd (upd (upd fd 0 ((fd 0) + x1)) 1 ((fd 1) + x2)) 2 ((fd 2) + x3)) 3) (congrArg (upd (upd (upd fd 0 ((fd 0) + x1)) 1 ((fd 1) + x2)) 2 ((fd 2) + x3)) (nI_clamp (n := 3) (by omega))) ?_
        refine sm_top (z := fd 3) rfl ?_
        refine lv_iload hx hb dX0_mix_216 (lv_at hl 4 rfl) ?_
        refine lv_iadd hx hb dX0_mix_218 ?_
        refine va_iast (i := 3) (x := (fd 3) + x4) hx hb hK hP hD hS 2 0 rfl rfl (vp_in_nI (n := 3) (by decide) (by omega)) dX0_mix_219 (fun H locs hP hD hS => ?_)
        rw [show Int32.toNatClampNeg 3 = 3 from nI_clamp (n := 3) (by omega)] at hP hD
        have hP : va_P D vwCl [(hh, .inr (0, [.ref hm, .ref aw, .ref ad])), (aw, .inl (cI, 64, .inl fw)), (ad, .inl (cI, 8, .inl (upd (upd (upd (upd fd 0 ((fd 0) + x1)) 1 ((fd 1) + x2)) 2 ((fd 2) + x3)) 3 ((fd 3) + x4))))] H := hP
        have hD : va_D A [(hh, .inr (0, [.ref hm, .ref aw, .ref ad])), (aw, .inl (cI, 64, .inl fw)), (ad, .inl (cI, 8, .inl (upd (upd (upd (upd fd 0 ((fd 0) + x1)) 1 ((fd 1) + x2)) 2 ((fd 2) + x3)) 3 ((fd 3) + x4))))] := hD
        refine lv_aload_n hx hb dX0_mix_220 rfl (lv_at hl 9 rfl) ?_
        refine va_get (D := D) (ci := 0) (v := .ref ad) (C := RX0) (T := TX0) (N := 3) hx hb hts hw_X0 hown hK hP 0 rfl rfl 2 (by decide) hf_24 (fun _ h9 => h9) rfl dX0_mix_221 ?_
        refine lv_iconst (v := 4) hx hb dX0_mix_224 (by decide) ?_
        refine lv_dup2_11 hx hb dX0_mix_225 rfl rfl ?_
        refine va_iald (i := 4) hx hb hK hP 2 0 rfl rfl (vp_in_nI (n := 4) (by decide) (by omega)) dX0_mix_226 ?_
        refine sm_top (z := (upd (upd (upd (upd fd 0 ((fd 0) + x1)) 1 ((fd 1) + x2)) 2 ((fd 2) + x3)) 3 ((fd 3) + x4)) 4) (congrArg (upd (upd (upd (upd fd 0 ((fd 0) + x1)) 1 ((fd 1) + x2)) 2 ((fd 2) + x3)) 3 ((fd 3) + x4)) (nI_clamp (n := 4) (by omega))) ?_
        refine sm_top (z := fd 4) rfl ?_
        refine lv_iload hx hb dX0_mix_227 (lv_at hl 5 rfl) ?_
        refine lv_iadd hx hb dX0_mix_229 ?_
        refine va_iast (i := 4) (x := (fd 4) + x5) hx hb hK hP hD hS 2 0 rfl rfl (vp_in_nI (n := 4) (by decide) (by omega)) dX0_mix_230 (fun H locs hP hD hS => ?_)
        rw [show Int32.toNatClampNeg 4 = 4 from nI_clamp (n := 4) (by omega)] at hP hD
        have hP : va_P D vwCl [(hh, .inr (0, [.ref hm, .ref aw, .ref ad])), (aw, .inl (cI, 64, .inl fw)), (ad, .inl (cI, 8, .inl (upd (upd (upd (upd (upd fd 0 ((fd 0) + x1)) 1 ((fd 1) + x2)) 2 ((fd 2) + x3)) 3 ((fd 3) + x4)) 4 ((fd 4) + x5))))] H := hP
        have hD : va_D A [(hh, .inr (0, [.ref hm, .ref aw, .ref ad])), (aw, .inl (cI, 64, .inl fw)), (ad, .inl (cI, 8, .inl (upd (upd (upd (upd (upd fd 0 ((fd 0) + x1)) 1 ((fd 1) + x2)) 2 ((fd 2) + x3)) 3 ((fd 3) + x4)) 4 ((fd 4) + x5))))] := hD
        refine lv_aload_n hx hb dX0_mix_231 rfl (lv_at hl 9 rfl) ?_
        refine va_get (D := D) (ci := 0) (v := .ref ad) (C := RX0) (T := TX0) (N := 3) hx hb hts hw_X0 hown hK hP 0 rfl rfl 2 (by decide) hf_24 (fun _ h9 => h9) rfl dX0_mix_232 ?_
        refine lv_iconst (v := 5) hx hb dX0_mix_235 (by decide) ?_
        refine lv_dup2_11 hx hb dX0_mix_236 rfl rfl ?_
        refine va_iald (i := 5) hx hb hK hP 2 0 rfl rfl (vp_in_nI (n := 5) (by decide) (by omega)) dX0_mix_237 ?_
        refine sm_top (z := (upd (upd (upd (upd (upd fd 0 ((fd 0) + x1)) 1 ((fd 1) + x2)) 2 ((fd 2) + x3)) 3 ((fd 3) + x4)) 4 ((fd 4) + x5)) 5) (congrArg (upd (upd (upd (upd (upd fd 0 ((fd 0) + x1)) 1 ((fd 1) + x2)) 2 ((fd 2) + x3)) 3 ((fd 3) + x4)) 4 ((fd 4) + x5)) (nI_clamp (n := 5) (by omega))) ?_
        refine sm_top (z := fd 5) rfl ?_
        refine lv_iload hx hb dX0_mix_238 (lv_at hl 6 rfl) ?_
        refine lv_iadd hx hb dX0_mix_240 ?_
        refine va_iast (i := 5) (x := (fd 5) + x6) hx hb hK hP hD hS 2 0 rfl rfl (vp_in_nI (n := 5) (by decide) (by omega)) dX0_mix_241 (fun H locs hP hD hS => ?_)
        rw [show Int32.toNatClampNeg 5 = 5 from nI_clamp (n := 5) (by omega)] at hP hD
        have hP : va_P D vwCl [(hh, .inr (0, [.ref hm, .ref aw, .ref ad])), (aw, .inl (cI, 64, .inl fw)), (ad, .inl (cI, 8, .inl (upd (upd (upd (upd (upd (upd fd 0 ((fd 0) + x1)) 1 ((fd 1) + x2)) 2 ((fd 2) + x3)) 3 ((fd 3) + x4)) 4 ((fd 4) + x5)) 5 ((fd 5) + x6))))] H := hP
        have hD : va_D A [(hh, .inr (0, [.ref hm, .ref aw, .ref ad])), (aw, .inl (cI, 64, .inl fw)), (ad, .inl (cI, 8, .inl (upd (upd (upd (upd (upd (upd fd 0 ((fd 0) + x1)) 1 ((fd 1) + x2)) 2 ((fd 2) + x3)) 3 ((fd 3) + x4)) 4 ((fd 4) + x5)) 5 ((fd 5) + x6))))] := hD
        refine lv_aload_n hx hb dX0_mix_242 rfl (lv_at hl 9 rfl) ?_
        refine va_get (D := D) (ci := 0) (v := .ref ad) (C := RX0) (T := TX0) (N := 3) hx hb hts hw_X0 hown hK hP 0 rfl rfl 2 (by decide) hf_24 (fun _ h9 => h9) rfl dX0_mix_243 ?_
        refine lv_bipush (v := 6) hx hb dX0_mix_246 (by decide) ?_
        refine lv_dup2_11 hx hb dX0_mix_248 rfl rfl ?_
        refine va_iald (i := 6) hx hb hK hP 2 0 rfl rfl (vp_in_nI (n := 6) (by decide) (by omega)) dX0_mix_249 ?_
        refine sm_top (z := (upd (upd (upd (upd (upd (upd fd 0 ((fd 0) + x1)) 1 ((fd 1) + x2)) 2 ((fd 2) + x3)) 3 ((fd 3) + x4)) 4 ((fd 4) + x5)) 5 ((fd 5) + x6)) 6) (congrArg (upd (upd (upd (upd (upd (upd fd 0 ((fd 0) + x1)) 1 ((fd 1) + x2)) 2 ((fd 2) + x3)) 3 ((fd 3) + x4)) 4 ((fd 4) + x5)) 5 ((fd 5) + x6)) (nI_clamp (n := 6) (by omega))) ?_
        refine sm_top (z := fd 6) rfl ?_
        refine lv_iload hx hb dX0_mix_250 (lv_at hl 7 rfl) ?_
        refine lv_iadd hx hb dX0_mix_252 ?_
        refine va_iast (i := 6) (x := (fd 6) + x7) hx hb hK hP hD hS 2 0 rfl rfl (vp_in_nI (n := 6) (by decide) (by omega)) dX0_mix_253 (fun H locs hP hD hS => ?_)
        rw [show Int32.toNatClampNeg 6 = 6 from nI_clamp (n := 6) (by omega)] at hP hD
        have hP : va_P D vwCl [(hh, .inr (0, [.ref hm, .ref aw, .ref ad])), (aw, .inl (cI, 64, .inl fw)), (ad, .inl (cI, 8, .inl (upd (upd (upd (upd (upd (upd (upd fd 0 ((fd 0) + x1)) 1 ((fd 1) + x2)) 2 ((fd 2) + x3)) 3 ((fd 3) + x4)) 4 ((fd 4) + x5)) 5 ((fd 5) + x6)) 6 ((fd 6) + x7))))] H := hP
        have hD : va_D A [(hh, .inr (0, [.ref hm, .ref aw, .ref ad])), (aw, .inl (cI, 64, .inl fw)), (ad, .inl (cI, 8, .inl (upd (upd (upd (upd (upd (upd (upd fd 0 ((fd 0) + x1)) 1 ((fd 1) + x2)) 2 ((fd 2) + x3)) 3 ((fd 3) + x4)) 4 ((fd 4) + x5)) 5 ((fd 5) + x6)) 6 ((fd 6) + x7))))] := hD
        refine lv_aload_n hx hb dX0_mix_254 rfl (lv_at hl 9 rfl) ?_
        refine va_get (D := D) (ci := 0) (v := .ref ad) (C := RX0) (T := TX0) (N := 3) hx hb hts hw_X0 hown hK hP 0 rfl rfl 2 (by decide) hf_24 (fun _ h9 => h9) rfl dX0_mix_255 ?_
        refine lv_bipush (v := 7) hx hb dX0_mix_258 (by decide) ?_
        refine lv_dup2_11 hx hb dX0_mix_260 rfl rfl ?_
        refine va_iald (i := 7) hx hb hK hP 2 0 rfl rfl (vp_in_nI (n := 7) (by decide) (by omega)) dX0_mix_261 ?_
        refine sm_top (z := (upd (upd (upd (upd (upd (upd (upd fd 0 ((fd 0) + x1)) 1 ((fd 1) + x2)) 2 ((fd 2) + x3)) 3 ((fd 3) + x4)) 4 ((fd 4) + x5)) 5 ((fd 5) + x6)) 6 ((fd 6) + x7)) 7) (congrArg (upd (upd (upd (upd (upd (upd (upd fd 0 ((fd 0) + x1)) 1 ((fd 1) + x2)) 2 ((fd 2) + x3)) 3 ((fd 3) + x4)) 4 ((fd 4) + x5)) 5 ((fd 5) + x6)) 6 ((fd 6) + x7)) (nI_clamp (n := 7) (by omega))) ?_
        refine sm_top (z := fd 7) rfl ?_
        refine lv_iload hx hb dX0_mix_262 (lv_at hl 8 rfl) ?_
        refine lv_iadd hx hb dX0_mix_264 ?_
        refine va_iast (i := 7) (x := (fd 7) + x8) hx hb hK hP hD hS 2 0 rfl rfl (vp_in_nI (n := 7) (by decide) (by omega)) dX0_mix_265 (fun H locs hP hD hS => ?_)
        rw [show Int32.toNatClampNeg 7 = 7 from nI_clamp (n := 7) (by omega)] at hP hD
        have hP : va_P D vwCl [(hh, .inr (0, [.ref hm, .ref aw, .ref ad])), (aw, .inl (cI, 64, .inl fw)), (ad, .inl (cI, 8, .inl (upd (upd (upd (upd (upd (upd (upd (upd fd 0 ((fd 0) + x1)) 1 ((fd 1) + x2)) 2 ((fd 2) + x3)) 3 ((fd 3) + x4)) 4 ((fd 4) + x5)) 5 ((fd 5) + x6)) 6 ((fd 6) + x7)) 7 ((fd 7) + x8))))] H := hP
        have hD : va_D A [(hh, .inr (0, [.ref hm, .ref aw, .ref ad])), (aw, .inl (cI, 64, .inl fw)), (ad, .inl (cI, 8, .inl (upd (upd (upd (upd (upd (upd (upd (upd fd 0 ((fd 0) + x1)) 1 ((fd 1) + x2)) 2 ((fd 2) + x3)) 3 ((fd 3) + x4)) 4 ((fd 4) + x5)) 5 ((fd 5) + x6)) 6 ((fd 6) + x7)) 7 ((fd 7) + x8))))] := hD
        rw [hQ]
        have hP := sm_arr hP 2 rfl (sm_cp fw fd) (sm_cp_8 hx8)
        have hD := sm_arrD (y := .inl (cI, 8, .inl (sm_cp fw fd))) hD 2 rfl
        have hP9 : va_P D vwCl [(hh, .inr (0, [.ref hm, .ref aw, .ref ad])), (aw, .inl (cI, 64, .inl fw)), (ad, .inl (cI, 8, .inl (sm_cp fw fd)))] H := hP
        have hD9 : va_D A [(hh, .inr (0, [.ref hm, .ref aw, .ref ad])), (aw, .inl (cI, 64, .inl fw)), (ad, .inl (cI, 8, .inl (sm_cp fw fd)))] := hD
        exact W.vret hx hb hr (fun t ht hW => ⟨⟨(), rfl, trivial, ⟨by rw [ht]; exact hP9, va_K.moved hW.alike hK, hD9⟩⟩, hS.F ht⟩) hS.2.2 dX0_mix_266
      ·
        have hlt : t < 64 := by
          rcases Nat.lt_or_ge t 64 with q | q
          · exact q
          · exact absurd (nI_le q (by omega)) c_70
        refine lv_iload hx hb dX0_mix_73 (lv_at hl 8 rfl) ?_
        refine lv_iload hx hb dX0_mix_75 (lv_at hl 5 rfl) ?_
        refine lv_bipush (v := 6) hx hb dX0_mix_77 (by decide) ?_
        refine lv_bipush (v := 11) hx hb dX0_mix_79 (by decide) ?_
        refine lv_bipush (v := 25) hx hb dX0_mix_81 (by decide) ?_
        refine sm_callSi (wc := []) (wr := [(hh, .inr (0, [.ref hm, .ref aw, .ref ad])), (aw, .inl (cI, 64, .inl fw)), (ad, .inl (cI, 8, .inl fd))]) (As := [.int x5, .int 6, .int 11, .int 25]) (rest := [.int x8]) ⟨hx, hb, hml, hown, hts⟩ (sc_X0_highSum l D cI (some (tk, tf)) _ x5 6 11 25 ) (va_cwS 4 hts gX0_mix_X0_highSum rfl rfl rfl (by decide +kernel) ⟨Nat.le_of_ble_eq_true rfl, Nat.le_of_ble_eq_true rfl⟩) hP hD hS hA hK hT [] [0, 1, 2] rfl rfl rfl rfl (by decide) rfl hl.1 rfl (Nat.le_of_ble_eq_true rfl) dX0_mix_83 ⟨Nat.zero_le _, Nat.zero_le _⟩ (fun r_83 zt H1 locs ht hvm hw hB hJ hS => ?_)
        obtain ⟨hP1, -, hD1⟩ := hB
        rw [ht] at hP1
        obtain ⟨hP, hD⟩ := hJ _ hP1 hD1
        clear hJ
        generalize H1 = H at hP hS ⊢
        have hP : va_P D vwCl [(hh, .inr (0, [.ref hm, .ref aw, .ref ad])), (aw, .inl (cI, 64, .inl fw)), (ad, .inl (cI, 8, .inl fd))] H := hP.sub [0, 1, 2] rfl
        have hD : va_D A [(hh, .inr (0, [.ref hm, .ref aw, .ref ad])), (aw, .inl (cI, 64, .inl fw)), (ad, .inl (cI, 8, .inl fd))] := hD.sub [0, 1, 2] rfl rfl
        subst hw
        refine lv_iadd hx hb dX0_mix_86 ?_
        refine lv_iload hx hb dX0_mix_87 (lv_at hl 5 rfl) ?_
        refine lv_iload hx hb dX0_mix_89 (lv_at hl 6 rfl) ?_
        refine lv_iand hx hb dX0_mix_91 ?_
        refine lv_iload hx hb dX0_mix_92 (lv_at hl 5 rfl) ?_
        refine lv_iconst (v := (-1)) hx hb dX0_mix_94 (by decide) ?_
        refine lv_ixor hx hb dX0_mix_95 ?_
        refine lv_iload hx hb dX0_mix_96 (lv_at hl 7 rfl) ?_
        refine lv_iand hx hb dX0_mix_98 ?_
        refine lv_ixor hx hb dX0_mix_99 ?_
        refine lv_iadd hx hb dX0_mix_100 ?_
        refine va_gets hx hb hT.1.1 hS hown (hts (.fieldLink RX0 84 "SeedMill$Hasher" "K" "[I") (by decide +kernel)) (fun _ h9 => h9) dX0_mix_101 ?_
        refine lv_iload hx hb dX0_mix_104 (lv_at hl 0 rfl) ?_
        refine va_ti hx hb hT.1.2 hS (vp_in_nI (n := t) hlt (by decide)) (v := .int (sm_K t)) (by rw [nI_clamp (by omega)]) dX0_mix_106 ?_
        refine lv_iadd hx hb dX0_mix_107 ?_
        refine lv_aload_n hx hb dX0_mix_108 rfl (lv_at hl 9 rfl) ?_
        refine va_get (D := D) (ci := 0) (v := .ref aw) (C := RX0) (T := TX0) (N := 3) hx hb hts hw_X0 hown hK hP 0 rfl rfl 1 (by decide) hf_20 (fun _ h9 => h9) rfl dX0_mix_109 ?_
        refine lv_iload hx hb dX0_mix_112 (lv_at hl 0 rfl) ?_
        refine va_iald (i := nI t) hx hb hK hP 1 0 rfl rfl (vp_in_nI (n := t) (by omega) (by omega)) dX0_mix_114 ?_
        refine sm_top (z := fw t) (congrArg fw (nI_clamp (n := t) (by omega))) ?_
        refine lv_iadd hx hb dX0_mix_115 ?_
        refine sm_top (z := sm_t1 x5 x6 x7 x8 (sm_K t) (fw t)) rfl ?_
        refine lv_istore (lv' := [(10, .int (sm_t1 x5 x6 x7 x8 (sm_K t) (fw t))), (9, .int (nI t)), (1, .int x1), (2, .int x2), (3, .int x3), (4, .int x4), (5, .int x5), (6, .int x6), (7, .int x7), (8, .int x8), (0, .ref hh)]) hx hb dX0_mix_116 hl (by decide) rfl (fun ls hl => ?_)
        refine lv_iload_n hx hb dX0_mix_118 rfl (lv_at hl 2 rfl) ?_
        refine lv_iconst (v := 2) hx hb dX0_mix_119 (by decide) ?_
        refine lv_bipush (v := 13) hx hb dX0_mix_120 (by decide) ?_
        refine lv_bipush (v := 22) hx hb dX0_mix_122 (by decide) ?_
        refine sm_callSi (wc := []) (wr := [(hh, .inr (0, [.ref hm, .ref aw, .ref ad])), (aw, .inl (cI, 64, .inl fw)), (ad, .inl (cI, 8, .inl fd))]) (As := [.int x1, .int 2, .int 13, .int 22]) (rest := []) ⟨hx, hb, hml, hown, hts⟩ (sc_X0_highSum l D cI (some (tk, tf)) _ x1 2 13 22 ) (va_cwS 4 hts gX0_mix_X0_highSum rfl rfl rfl (by decide +kernel) ⟨Nat.le_of_ble_eq_true rfl, Nat.le_of_ble_eq_true rfl⟩) hP hD hS hA hK hT [] [0, 1, 2] rfl rfl rfl rfl (by decide) rfl hl.1 rfl (Nat.le_of_ble_eq_true rfl) dX0_mix_124 ⟨Nat.zero_le _, Nat.zero_le _⟩ (fun r_124 zt H1 locs ht hvm hw hB hJ hS => ?_)
        obtain ⟨hP1, -, hD1⟩ := hB
        rw [ht] at hP1
        obtain ⟨hP, hD⟩ := hJ _ hP1 hD1
        clear hJ
        generalize H1 = H at hP hS ⊢
        have hP : va_P D vwCl [(hh, .inr (0, [.ref hm, .ref aw, .ref ad])), (aw, .inl (cI, 64, .inl fw)), (ad, .inl (cI, 8, .inl fd))] H := hP.sub [0, 1, 2] rfl
        have hD : va_D A [(hh, .inr (0, [.ref hm, .ref aw, .ref ad])), (aw, .inl (cI, 64, .inl fw)), (ad, .inl (cI, 8, .inl fd))] := hD.sub [0, 1, 2] rfl rfl
        subst hw
        refine lv_iload_n hx hb dX0_mix_127 rfl (lv_at hl 2 rfl) ?_
        refine lv_iload_n hx hb dX0_mix_128 rfl (lv_at hl 3 rfl) ?_
        refine lv_iand hx hb dX0_mix_129 ?_
        refine lv_iload_n hx hb dX0_mix_130 rfl (lv_at hl 2 rfl) ?_
        refine lv_iload_n hx hb dX0_mix_131 rfl (lv_at hl 4 rfl) ?_
        refine lv_iand hx hb dX0_mix_132 ?_
        refine lv_ixor hx hb dX0_mix_133 ?_
        refine lv_iload_n hx hb dX0_mix_134 rfl (lv_at hl 3 rfl) ?_
        refine lv_iload_n hx hb dX0_mix_135 rfl (lv_at hl 4 rfl) ?_
        refine lv_iand hx hb dX0_mix_136 ?_
        refine lv_ixor hx hb dX0_mix_137 ?_
        refine lv_iadd hx hb dX0_mix_138 ?_
        refine sm_top (z := sm_t2 x1 x2 x3) rfl ?_
        refine lv_istore (lv' := [(11, .int (sm_t2 x1 x2 x3)), (10, .int (sm_t1 x5 x6 x7 x8 (sm_K t) (fw t))), (9, .int (nI t)), (1, .int x1), (2, .int x2), (3, .int x3), (4, .int x4), (5, .int x5), (6, .int x6), (7, .int x7), (8, .int x8), (0, .ref hh)]) hx hb dX0_mix_139 hl (by decide) rfl (fun ls hl => ?_)
        refine lv_iload hx hb dX0_mix_141 (lv_at hl 9 rfl) ?_
        refine lv_istore (lv' := [(8, .int x7), (11, .int (sm_t2 x1 x2 x3)), (10, .int (sm_t1 x5 x6 x7 x8 (sm_K t) (fw t))), (9, .int (nI t)), (1, .int x1), (2, .int x2), (3, .int x3), (4, .int x4), (5, .int x5), (6, .int x6), (7, .int x7), (0, .ref hh)]) hx hb dX0_mix_143 hl (by decide) rfl (fun ls hl => ?_)
        refine lv_iload hx hb dX0_mix_145 (lv_at hl 9 rfl) ?_
        refine lv_istore (lv' := [(7, .int x6), (8, .int x7), (11, .int (sm_t2 x1 x2 x3)), (10, .int (sm_t1 x5 x6 x7 x8 (sm_K t) (fw t))), (9, .int (nI t)), (1, .int x1), (2, .int x2), (3, .int x3), (4, .int x4), (5, .int x5), (6, .int x6), (0, .ref hh)]) hx hb dX0_mix_147 hl (by decide) rfl (fun ls hl => ?_)
        refine lv_iload hx hb dX0_mix_149 (lv_at hl 9 rfl) ?_
        refine lv_istore (lv' := [(6, .int x5), (7, .int x6), (8, .int x7), (11, .int (sm_t2 x1 x2 x3)), (10, .int (sm_t1 x5 x6 x7 x8 (sm_K t) (fw t))), (9, .int (nI t)), (1, .int x1), (2, .int x2), (3, .int x3), (4, .int x4), (5, .int x5), (0, .ref hh)]) hx hb dX0_mix_151 hl (by decide) rfl (fun ls hl => ?_)
        refine lv_iload hx hb dX0_mix_153 (lv_at hl 9 rfl) ?_
        refine lv_iload hx hb dX0_mix_155 (lv_at hl 4 rfl) ?_
        refine lv_iadd hx hb dX0_mix_157 ?_
        refine lv_istore (lv' := [(5, .int (x4 + (sm_t1 x5 x6 x7 x8 (sm_K t) (fw t)))), (6, .int x5), (7, .int x6), (8, .int x7), (11, .int (sm_t2 x1 x2 x3)), (10, .int (sm_t1 x5 x6 x7 x8 (sm_K t) (fw t))), (9, .int (nI t)), (1, .int x1), (2, .int x2), (3, .int x3), (4, .int x4), (0, .ref hh)]) hx hb dX0_mix_158 hl (by decide) rfl (fun ls hl => ?_)
        refine lv_iload_n hx hb dX0_mix_160 rfl (lv_at hl 9 rfl) ?_
        refine lv_istore (lv' := [(4, .int x3), (5, .int (x4 + (sm_t1 x5 x6 x7 x8 (sm_K t) (fw t)))), (6, .int x5), (7, .int x6), (8, .int x7), (11, .int (sm_t2 x1 x2 x3)), (10, .int (sm_t1 x5 x6 x7 x8 (sm_K t) (fw t))), (9, .int (nI t)), (1, .int x1), (2, .int x2), (3, .int x3), (0, .ref hh)]) hx hb dX0_mix_161 hl (by decide) rfl (fun ls hl => ?_)
        refine lv_iload_n hx hb dX0_mix_163 rfl (lv_at hl 9 rfl) ?_
        refine lv_istore_n (lv' := [(3, .int x2), (4, .int x3), (5, .int (x4 + (sm_t1 x5 x6 x7 x8 (sm_K t) (fw t)))), (6, .int x5), (7, .int x6), (8, .int x7), (11, .int (sm_t2 x1 x2 x3)), (10, .int (sm_t1 x5 x6 x7 x8 (sm_K t) (fw t))), (9, .int (nI t)), (1, .int x1), (2, .int x2), (0, .ref hh)]) hx hb dX0_mix_164 rfl hl (by decide) rfl (fun ls hl => ?_)
        refine lv_iload_n hx hb dX0_mix_165 rfl (lv_at hl 9 rfl) ?_
        refine lv_istore_n (lv' := [(2, .int x1), (3, .int x2), (4, .int x3), (5, .int (x4 + (sm_t1 x5 x6 x7 x8 (sm_K t) (fw t)))), (6, .int x5), (7, .int x6), (8, .int x7), (11, .int (sm_t2 x1 x2 x3)), (10, .int (sm_t1 x5 x6 x7 x8 (sm_K t) (fw t))), (9, .int (nI t)), (1, .int x1), (0, .ref hh)]) hx hb dX0_mix_166 rfl hl (by decide) rfl (fun ls hl => ?_)
        refine lv_iload hx hb dX0_mix_167 (lv_at hl 8 rfl) ?_
        refine lv_iload hx hb dX0_mix_169 (lv_at hl 7 rfl) ?_
        refine lv_iadd hx hb dX0_mix_171 ?_
        refine lv_istore_n (lv' := [(1, .int ((sm_t1 x5 x6 x7 x8 (sm_K t) (fw t)) + (sm_t2 x1 x2 x3))), (2, .int x1), (3, .int x2), (4, .int x3), (5, .int (x4 + (sm_t1 x5 x6 x7 x8 (sm_K t) (fw t)))), (6, .int x5), (7, .int x6), (8, .int x7), (11, .int (sm_t2 x1 x2 x3)), (10, .int (sm_t1 x5 x6 x7 x8 (sm_K t) (fw t))), (9, .int (nI t)), (0, .ref hh)]) hx hb dX0_mix_172 rfl hl (by decide) rfl (fun ls hl => ?_)
        refine lv_iinc (v := nI (t + 1)) (lv' := [(9, .int (nI (t + 1))), (1, .int ((sm_t1 x5 x6 x7 x8 (sm_K t) (fw t)) + (sm_t2 x1 x2 x3))), (2, .int x1), (3, .int x2), (4, .int x3), (5, .int (x4 + (sm_t1 x5 x6 x7 x8 (sm_K t) (fw t)))), (6, .int x5), (7, .int x6), (8, .int x7), (11, .int (sm_t2 x1 x2 x3)), (10, .int (sm_t1 x5 x6 x7 x8 (sm_K t) (fw t))), (0, .ref hh)]) hx hb dX0_mix_173 hl (k := 10) rfl (nI_1 t) (by decide) rfl (fun ls hl => ?_)
        refine lv_goto (tgt := 66) hx hb dX0_mix_176 (by decide) ?_
        have hy8 := sm_rds_s hx8
        exact ih (t + 1) (sm_t1 x5 x6 x7 x8 (sm_K t) (fw t) + sm_t2 x1 x2 x3) x1 x2 x3 (x4 + sm_t1 x5 x6 x7 x8 (sm_K t) (fw t)) x5 x6 x7 _ _ _ (by omega) (by omega) hy8 hP hD hS (lv_sub hl [0, 1, 2, 3, 4, 5, 6, 7, 8, 11] rfl)
  exact lp66 _ 0 (fd 0) (fd 1) (fd 2) (fd 3) (fd 4) (fd 5) (fd 6) (fd 7) _ _ _ (Nat.lt_succ_self _) (by decide) ex8 hP hD hS (lv_sub hl [0, 8, 7, 6, 5, 4, 3, 2, 1, 9] rfl)

def rm_X0_end : Room := ({ frames := 3, cells := 0, slots := 0, locals := 75 } : Room)
set_option maxHeartbeats 4000000 in
set_option maxRecDepth 100000 in
/-- Hasher.end -/
theorem sc_X0_end (l : Launch) (D : va_G) (cI : ClassId) (tk tf : Nat) (sz : Nat) (hh hm bm aw ad : Nat) (qr rb nr n : Nat) (fm fw fd fr : Nat → Int32) (ur : Int32) (hn : 64 * sm_nb n ≤ 448) (hr32 : 32 ≤ nr) (hnr : nr < 2 ^ 31) : Met l yX0_end wsX0_end rm_X0_end (va_Pc [.ref hh, .ref qr] (sm_PW D cI (some (tk, tf)) [(hh, .inr (0, [.ref hm, .ref aw, .ref ad])), (hm, .inr (2, [.ref bm, .int (nI n)])), (bm, .inl (cI, 448, .inl fm)), (aw, .inl (cI, 64, .inl fw)), (ad, .inl (cI, 8, .inl fd)), (qr, .inr (2, [.ref rb, .int ur])), (rb, .inl (cI, nr, .inl fr))] sz)) (va_Qv (fun (_ : Unit) => True) (fun _ t => ∃ (f2 : Nat → Int32) (fw2 : Nat → Int32) (fd2 : Nat → Int32), sm_QW D cI (va_A [(hh, .inr (0, [.ref hm, .ref aw, .ref ad])), (hm, .inr (2, [.ref bm, .int (nI n)])), (bm, .inl (cI, 448, .inl fm)), (aw, .inl (cI, 64, .inl fw)), (ad, .inl (cI, 8, .inl fd)), (qr, .inr (2, [.ref rb, .int ur])), (rb, .inl (cI, nr, .inl fr))] sz) [(hh, .inr (0, [.ref hm, .ref aw, .ref ad])), (hm, .inr (2, [.ref bm, .int (nI (64 * sm_nb n))])), (bm, .inl (cI, 448, .inl f2)), (aw, .inl (cI, 64, .inl fw2)), (ad, .inl (cI, 8, .inl fd2)), (qr, .inr (2, [.ref rb, .int (nI 32)])), (rb, .inl (cI, nr, .inl (sm_ap fr 0 (sm_sha fm n) 32)))] t) (va_A [(hh, .inr (0, [.ref hm, .ref aw, .ref ad])), (hm, .inr (2, [.ref bm, .int (nI n)])), (bm, .inl (cI, 448, .inl fm)), (aw, .inl (cI, 64, .inl fw)), (ad, .inl (cI, 8, .inl fd)), (qr, .inr (2, [.ref rb, .int ur])), (rb, .inl (cI, nr, .inl fr))] sz)) 0 0 (va_A [(hh, .inr (0, [.ref hm, .ref aw, .ref ad])), (hm, .inr (2, [.ref bm, .int (nI n)])), (bm, .inl (cI, 448, .inl fm)), (aw, .inl (cI, 64, .inl fw)), (ad, .inl (cI, 8, .inl fd)), (qr, .inr (2, [.ref rb, .int ur])), (rb, .inl (cI, nr, .inl fr))] sz) := by
  refine Met.ofW (cc := cX0_end) (maxL := 3) (ret := none) (by decide) rfl ?_
  intro p e s m args below meth c s₁ B hml hv
  obtain ⟨rfl, hsz, hP, hK, hD0, hT⟩ := hv
  have hx := B.exec
  have hb := B.bytes
  have hr := B.returns
  have hts := atoms_spec (ws := wsX0_end) B.pre
  have hown : s.vm.findClass RX0 = some m.cls := findClass_of_methodNamed B.named
  have hlocks := B.notSynchronized
  subst hsz
  have hD := hD0.self (sz := s.heap.size)
  generalize hAe : va_A [(hh, .inr (0, [.ref hm, .ref aw, .ref ad])), (hm, .inr (2, [.ref bm, .int (nI n)])), (bm, .inl (cI, 448, .inl fm)), (aw, .inl (cI, 64, .inl fw)), (ad, .inl (cI, 8, .inl fd)), (qr, .inr (2, [.ref rb, .int ur])), (rb, .inl (cI, nr, .inl fr))] s.heap.size = A at hD hT ⊢
  have hA : ∀ q : Nat, s.heap.size ≤ q → A q := fun q h => by rw [← hAe]; exact Or.inr h
  have hS : va_S A s.heap s.heap [] := va_S.rf
  have hl := lv_entry ([.ref hh, .ref qr]) (n := 3) (Nat.le_of_ble_eq_true rfl)
  rw [lg_entry_eq]
  generalize (lg_sl ([.ref hh, .ref qr]) ++ List.replicate (3 - (lg_sl ([.ref hh, .ref qr])).length) Slot.unset).toArray = ls at hl ⊢
  have hl : lv_has ls 3 [(0, .ref hh), (1, .ref qr)] := hl
  refine sm_name (fun Q hQ => ?_)
  have hf_24 := hts (.fieldLink RX0 24 "SeedMill$Hasher" "words" "[I") (by decide +kernel)
  have hw_X0 : ∀ w ∈ wsX00, w ∈ wsX0_end := by decide +kernel
  have hf_14 := hts (.fieldLink RX0 14 "SeedMill$Hasher" "message" "LSeedMill$Row;") (by decide +kernel)
  refine lv_aload_n hx hb dX0_end_0 rfl (lv_at hl 0 rfl) ?_
  refine sm_callVv (wc := [(hh, .inr (0, [.ref hm, .ref aw, .ref ad])), (hm, .inr (2, [.ref bm, .int (nI n)])), (bm, .inl (cI, 448, .inl fm))]) (wr := [(aw, .inl (cI, 64, .inl fw)), (ad, .inl (cI, 8, .inl fd)), (qr, .inr (2, [.ref rb, .int ur])), (rb, .inl (cI, nr, .inl fr))]) (As := []) (rest := []) ⟨hx, hb, hml, hown, hts⟩ (sc_X0_pad l D cI (some (tk, tf)) _ hh hm bm aw ad n fm hn) (cwV 0 hts gX0_end_X0_pad rfl rfl rfl (by decide +kernel) ⟨Nat.le_of_ble_eq_true rfl, Nat.le_of_ble_eq_true rfl⟩) hP hD hS hA hK hT [0, 1, 2] [3, 4, 5, 6] rfl rfl rfl rfl (by decide) 0 0 rfl rfl rfl rfl hl.1 rfl (Nat.le_of_ble_eq_true rfl) dX0_end_1 ⟨Nat.zero_le _, Nat.zero_le _⟩ (fun zt H1 locs ht hvm hB hJ hS => ?_)
  obtain ⟨f1, hf1, hP1, -, hD1⟩ := hB
  rw [ht] at hP1
  obtain ⟨hP, hD⟩ := hJ _ hP1 hD1
  clear hJ
  generalize H1 = H at hP hS ⊢
  have hP : va_P D vwCl [(hh, .inr (0, [.ref hm, .ref aw, .ref ad])), (hm, .inr (2, [.ref bm, .int (nI (64 * sm_nb n))])), (bm, .inl (cI, 448, .inl f1)), (aw, .inl (cI, 64, .inl fw)), (ad, .inl (cI, 8, .inl fd)), (qr, .inr (2, [.ref rb, .int ur])), (rb, .inl (cI, nr, .inl fr))] H := hP.sub [4, 5, 6, 0, 1, 2, 3] rfl
  have hD : va_D A [(hh, .inr (0, [.ref hm, .ref aw, .ref ad])), (hm, .inr (2, [.ref bm, .int (nI (64 * sm_nb n))])), (bm, .inl (cI, 448, .inl f1)), (aw, .inl (cI, 64, .inl fw)), (ad, .inl (cI, 8, .inl fd)), (qr, .inr (2, [.ref rb, .int ur])), (rb, .inl (cI, nr, .inl fr))] := hD.sub [4, 5, 6, 0, 1, 2, 3] rfl rfl
  refine va_gets hx hb hT.2.1 hS hown (hts (.fieldLink RX0 47 "SeedMill$Hasher" "FIRST_STATE" "[I") (by decide +kernel)) (fun _ h9 => h9) dX0_end_4 ?_
  refine lv_iconst (v := 0) hx hb dX0_end_7 (by decide) ?_
  refine lv_aload_n hx hb dX0_end_8 rfl (lv_at hl 0 rfl) ?_
  refine va_get (D := D) (ci := 0) (v := .ref ad) (C := RX0) (T := TX0) (N := 3) hx hb hts hw_X0 hown hK hP 0 rfl rfl 2 (by decide) hf_24 (fun _ h9 => h9) rfl dX0_end_9 ?_
  refine lv_iconst (v := 0) hx hb dX0_end_12 (by decide) ?_
  refine lv_bipush (v := 8) hx hb dX0_end_13 (by decide) ?_
  refine sm_copyT (k := 8) hx hb (hml.trans hl.1.symm) hown (hts (.methodLink RX0 50 arraycopyName) (by decide +kernel)) (hts (.native arraycopyName) (by decide +kernel)) (hts (.static arraycopyName) (by decide +kernel)) (hts (.initialized "java/lang/System") (by decide +kernel)) hK hP hD hS hT.2.2 4 0 rfl rfl (by decide) (by decide) (by decide) (Nat.le_of_ble_eq_true rfl) (Nat.le_of_ble_eq_true rfl) dX0_end_15 (fun H locs hP hD hS => ?_)
  have hP := sm_arr hP 4 rfl (sm_hs f1 0) (fun j hj => by show sm_ap fd 0 sm_F 8 j = sm_F j; exact sm_ap_z hj)
  have hD := sm_arrD (y := .inl (cI, 8, .inl (sm_hs f1 0))) hD 4 rfl
  have hP : va_P D vwCl [(hh, .inr (0, [.ref hm, .ref aw, .ref ad])), (hm, .inr (2, [.ref bm, .int (nI (64 * sm_nb n))])), (bm, .inl (cI, 448, .inl f1)), (aw, .inl (cI, 64, .inl fw)), (ad, .inl (cI, 8, .inl (sm_hs f1 0))), (qr, .inr (2, [.ref rb, .int ur])), (rb, .inl (cI, nr, .inl fr))] H := hP
  have hD : va_D A [(hh, .inr (0, [.ref hm, .ref aw, .ref ad])), (hm, .inr (2, [.ref bm, .int (nI (64 * sm_nb n))])), (bm, .inl (cI, 448, .inl f1)), (aw, .inl (cI, 64, .inl fw)), (ad, .inl (cI, 8, .inl (sm_hs f1 0))), (qr, .inr (2, [.ref rb, .int ur])), (rb, .inl (cI, nr, .inl fr))] := hD
  refine lv_iconst (v := 0) hx hb dX0_end_18 (by decide) ?_
  refine lv_istore_n (lv' := [(2, .int 0), (0, .ref hh), (1, .ref qr)]) hx hb dX0_end_19 rfl hl (by decide) rfl (fun ls hl => ?_)
  have lp20 : ∀ (zn : Nat) (k : Nat) (fv : Nat → Int32) (H : Heap) (locs : List Loc) (ls : Array Slot), sm_nb n - k < zn → k ≤ sm_nb n → va_P D vwCl [(hh, .inr (0, [.ref hm, .ref aw, .ref ad])), (hm, .inr (2, [.ref bm, .int (nI (64 * sm_nb n))])), (bm, .inl (cI, 448, .inl f1)), (aw, .inl (cI, 64, .inl fv)), (ad, .inl (cI, 8, .inl (sm_hs f1 k))), (qr, .inr (2, [.ref rb, .int ur])), (rb, .inl (cI, nr, .inl fr))] H → va_D A [(hh, .inr (0, [.ref hm, .ref aw, .ref ad])), (hm, .inr (2, [.ref bm, .int (nI (64 * sm_nb n))])), (bm, .inl (cI, 448, .inl f1)), (aw, .inl (cI, 64, .inl fv)), (ad, .inl (cI, 8, .inl (sm_hs f1 k))), (qr, .inr (2, [.ref rb, .int ur])), (rb, .inl (cI, nr, .inl fr))] → va_S A s.heap H locs → lv_has ls 3 [(2, .int (nI (64 * k))), (0, .ref hh), (1, .ref qr)] → W p l e (headSpec wsX0_end rm_X0_end).room s m ([.ref hh, .ref qr] : List Value).toArray below meth c H locs 0 0 Q (F0 m 20 ls []) := by
    intro zn
    induction zn with
    | zero => intro k fv H locs ls hmu; exact absurd hmu (Nat.not_lt_zero _)
    | succ zn ih =>
      intro k fv H locs ls hmu hk1 hP hD hS hl
      refine lv_iload_n hx hb dX0_end_20 rfl (lv_at hl 0 rfl) ?_
      refine lv_aload_n hx hb dX0_end_21 rfl (lv_at hl 1 rfl) ?_
      refine va_get (D := D) (ci := 0) (v := .ref hm) (C := RX0) (T := TX0) (N := 3) hx hb hts hw_X0 hown hK hP 0 rfl rfl 0 (by decide) hf_14 (fun _ h9 => h9) rfl dX0_end_22 ?_
      refine sm_callVi (wc := [(hm, .inr (2, [.ref bm, .int (nI (64 * sm_nb n))])), (bm, .inl (cI, 448, .inl f1))]) (wr := [(hh, .inr (0, [.ref hm, .ref aw, .ref ad])), (aw, .inl (cI, 64, .inl fv)), (ad, .inl (cI, 8, .inl (sm_hs f1 k))), (qr, .inr (2, [.ref rb, .int ur])), (rb, .inl (cI, nr, .inl fr))]) (As := []) (rest := [.int (nI (64 * k))]) ⟨hx, hb, hml, hown, hts⟩ (sc_X2_size l D cI (some (tk, tf)) _ hm bm 448 f1 (nI (64 * sm_nb n)) ) (cwV 0 hts gX0_end_X2_size rfl rfl rfl (by decide +kernel) ⟨Nat.le_of_ble_eq_true rfl, Nat.le_of_ble_eq_true rfl⟩) hP hD hS hA hK hT [1, 2] [0, 3, 4, 5, 6] rfl rfl rfl rfl (by decide) 0 2 rfl rfl rfl rfl hl.1 rfl (Nat.le_of_ble_eq_true rfl) dX0_end_25 ⟨Nat.zero_le _, Nat.zero_le _⟩ (fun r_25 zt H1 locs ht hvm hw hB hJ hS => ?_)
      obtain ⟨hP1, -, hD1⟩ := hB
      rw [ht] at hP1
      obtain ⟨hP, hD⟩ := hJ _ hP1 hD1
      clear hJ
      generalize H1 = H at hP hS ⊢
      have hP : va_P D vwCl [(hh, .inr (0, [.ref hm, .ref aw, .ref ad])), (hm, .inr (2, [.ref bm, .int (nI (64 * sm_nb n))])), (bm, .inl (cI, 448, .inl f1)), (aw, .inl (cI, 64, .inl fv)), (ad, .inl (cI, 8, .inl (sm_hs f1 k))), (qr, .inr (2, [.ref rb, .int ur])), (rb, .inl (cI, nr, .inl fr))] H := hP.sub [0, 5, 6, 1, 2, 3, 4] rfl
      have hD : va_D A [(hh, .inr (0, [.ref hm, .ref aw, .ref ad])), (hm, .inr (2, [.ref bm, .int (nI (64 * sm_nb n))])), (bm, .inl (cI, 448, .inl f1)), (aw, .inl (cI, 64, .inl fv)), (ad, .inl (cI, 8, .inl (sm_hs f1 k))), (qr, .inr (2, [.ref rb, .int ur])), (rb, .inl (cI, nr, .inl fr))] := hD.sub [0, 5, 6, 1, 2, 3, 4] rfl rfl
      subst hw
      refine lv_icmp_ge (tgt := 46) hx hb dX0_end_28 (by decide) (fun c_28 => ?_) (fun c_28 => ?_)
      ·
        have hex : k = sm_nb n := by
          rcases Nat.lt_or_ge k (sm_nb n) with q | q
          · exact absurd c_28 (nI_ge (by omega) (by omega))
          · omega
        rw [hex] at hP hD
        refine lv_aload_n hx hb dX0_end_46 rfl (lv_at hl 2 rfl) ?_
        refine sm_callVv (wc := [(qr, .inr (2, [.ref rb, .int ur])), (rb, .inl (cI, nr, .inl fr))]) (wr := [(hh, .inr (0, [.ref hm, .ref aw, .ref ad])), (hm, .inr (2, [.ref bm, .int (nI (64 * sm_nb n))])), (bm, .inl (cI, 448, .inl f1)), (aw, .inl (cI, 64, .inl fv)), (ad, .inl (cI, 8, .inl (sm_hs f1 (sm_nb n))))]) (As := []) (rest := []) ⟨hx, hb, hml, hown, hts⟩ (sc_X2_empty l D cI (some (tk, tf)) _ qr rb nr fr ur ) (cwV 0 hts gX0_end_X2_empty rfl rfl rfl (by decide +kernel) ⟨Nat.le_of_ble_eq_true rfl, Nat.le_of_ble_eq_true rfl⟩) hP hD hS hA hK hT [5, 6] [0, 1, 2, 3, 4] rfl rfl rfl rfl (by decide) 0 2 rfl rfl rfl rfl hl.1 rfl (Nat.le_of_ble_eq_true rfl) dX0_end_47 ⟨Nat.zero_le _, Nat.zero_le _⟩ (fun zt H1 locs ht hvm hB hJ hS => ?_)
        obtain ⟨hP1, -, hD1⟩ := hB
        rw [ht] at hP1
        obtain ⟨hP, hD⟩ := hJ _ hP1 hD1
        clear hJ
        generalize H1 = H at hP hS ⊢
        have hP : va_P D vwCl [(hh, .inr (0, [.ref hm, .ref aw, .ref ad])), (hm, .inr (2, [.ref bm, .int (nI (64 * sm_nb n))])), (bm, .inl (cI, 448, .inl f1)), (aw, .inl (cI, 64, .inl fv)), (ad, .inl (cI, 8, .inl (sm_hs f1 (sm_nb n)))), (qr, .inr (2, [.ref rb, .int (nI 0)])), (rb, .inl (cI, nr, .inl fr))] H := hP.sub [0, 1, 2, 3, 4, 5, 6] rfl
        have hD : va_D A [(hh, .inr (0, [.ref hm, .ref aw, .ref ad])), (hm, .inr (2, [.ref bm, .int (nI (64 * sm_nb n))])), (bm, .inl (cI, 448, .inl f1)), (aw, .inl (cI, 64, .inl fv)), (ad, .inl (cI, 8, .inl (sm_hs f1 (sm_nb n)))), (qr, .inr (2, [.ref rb, .int (nI 0)])), (rb, .inl (cI, nr, .inl fr))] := hD.sub [0, 1, 2, 3, 4, 5, 6] rfl rfl
        refine lv_iconst (v := 0) hx hb dX0_end_50 (by decide) ?_
        refine lv_istore_n (lv' := [(2, .int 0), (0, .ref hh), (1, .ref qr)]) hx hb dX0_end_51 rfl hl (by decide) rfl (fun ls hl => ?_)
        have lp52 : ∀ (zn : Nat) (i : Nat) (H : Heap) (locs : List Loc) (ls : Array Slot), 8 - i < zn → i ≤ 8 → va_P D vwCl [(hh, .inr (0, [.ref hm, .ref aw, .ref ad])), (hm, .inr (2, [.ref bm, .int (nI (64 * sm_nb n))])), (bm, .inl (cI, 448, .inl f1)), (aw, .inl (cI, 64, .inl fv)), (ad, .inl (cI, 8, .inl (sm_hs f1 (sm_nb n)))), (qr, .inr (2, [.ref rb, .int (nI (4 * i))])), (rb, .inl (cI, nr, .inl (sm_ap fr 0 (sm_dg (sm_hs f1 (sm_nb n))) (4 * i))))] H → va_D A [(hh, .inr (0, [.ref hm, .ref aw, .ref ad])), (hm, .inr (2, [.ref bm, .int (nI (64 * sm_nb n))])), (bm, .inl (cI, 448, .inl f1)), (aw, .inl (cI, 64, .inl fv)), (ad, .inl (cI, 8, .inl (sm_hs f1 (sm_nb n)))), (qr, .inr (2, [.ref rb, .int (nI (4 * i))])), (rb, .inl (cI, nr, .inl (sm_ap fr 0 (sm_dg (sm_hs f1 (sm_nb n))) (4 * i))))] → va_S A s.heap H locs → lv_has ls 3 [(2, .int (nI i)), (0, .ref hh), (1, .ref qr)] → W p l e (headSpec wsX0_end rm_X0_end).room s m ([.ref hh, .ref qr] : List Value).toArray below meth c H locs 0 0 Q (F0 m 52 ls []) := by
          intro zn
          induction zn with
          | zero => intro i H locs ls hmu; exact absurd hmu (Nat.not_lt_zero _)
          | succ zn ih =>
            intro i H locs ls hmu hi1 hP hD hS hl
            refine lv_iload_n hx hb dX0_end_52 rfl (lv_at hl 0 rfl) ?_
            refine lv_bipush (v := 8) hx hb dX0_end_53 (by decide) ?_
            refine lv_icmp_ge (tgt := 74) hx hb dX0_end_55 (by decide) (fun c_55 => ?_) (fun c_55 => ?_)
            ·
              have hex2 : i = 8 := by
                rcases Nat.lt_or_ge i 8 with q | q
                · exact absurd c_55 (nI_ge q (by decide))
                · omega
              rw [hex2] at hP hD
              rw [hQ]
              rw [show (4 : Nat) * 8 = 32 from rfl, sm_dg_sha hf1] at hP hD
              have hP9 : va_P D vwCl [(hh, .inr (0, [.ref hm, .ref aw, .ref ad])), (hm, .inr (2, [.ref bm, .int (nI (64 * sm_nb n))])), (bm, .inl (cI, 448, .inl f1)), (aw, .inl (cI, 64, .inl fv)), (ad, .inl (cI, 8, .inl (sm_hs f1 (sm_nb n)))), (qr, .inr (2, [.ref rb, .int (nI 32)])), (rb, .inl (cI, nr, .inl (sm_ap fr 0 (sm_sha fm n) 32)))] H := hP
              have hD9 : va_D A [(hh, .inr (0, [.ref hm, .ref aw, .ref ad])), (hm, .inr (2, [.ref bm, .int (nI (64 * sm_nb n))])), (bm, .inl (cI, 448, .inl f1)), (aw, .inl (cI, 64, .inl fv)), (ad, .inl (cI, 8, .inl (sm_hs f1 (sm_nb n)))), (qr, .inr (2, [.ref rb, .int (nI 32)])), (rb, .inl (cI, nr, .inl (sm_ap fr 0 (sm_sha fm n) 32)))] := hD
              exact W.vret hx hb hr (fun t ht hW => ⟨⟨(), rfl, trivial, ⟨f1, fv, _, by rw [ht]; exact hP9, va_K.moved hW.alike hK, hD9⟩⟩, hS.F ht⟩) hS.2.2 dX0_end_74
            ·
              have hlt2 : i < 8 := by
                rcases Nat.lt_or_ge i 8 with q | q
                · exact q
                · exact absurd (nI_le q (by omega)) c_55
              refine lv_aload_n hx hb dX0_end_58 rfl (lv_at hl 2 rfl) ?_
              refine lv_aload_n hx hb dX0_end_59 rfl (lv_at hl 1 rfl) ?_
              refine va_get (D := D) (ci := 0) (v := .ref ad) (C := RX0) (T := TX0) (N := 3) hx hb hts hw_X0 hown hK hP 0 rfl rfl 2 (by decide) hf_24 (fun _ h9 => h9) rfl dX0_end_60 ?_
              refine lv_iload_n hx hb dX0_end_63 rfl (lv_at hl 0 rfl) ?_
              refine va_iald (i := nI i) hx hb hK hP 4 0 rfl rfl (vp_in_nI (n := i) (by omega) (by omega)) dX0_end_64 ?_
              refine sm_top (z := (sm_hs f1 (sm_nb n)) i) (congrArg (sm_hs f1 (sm_nb n)) (nI_clamp (n := i) (by omega))) ?_
              refine sm_callVv (wc := [(qr, .inr (2, [.ref rb, .int (nI (4 * i))])), (rb, .inl (cI, nr, .inl (sm_ap fr 0 (sm_dg (sm_hs f1 (sm_nb n))) (4 * i))))]) (wr := [(hh, .inr (0, [.ref hm, .ref aw, .ref ad])), (hm, .inr (2, [.ref bm, .int (nI (64 * sm_nb n))])), (bm, .inl (cI, 448, .inl f1)), (aw, .inl (cI, 64, .inl fv)), (ad, .inl (cI, 8, .inl (sm_hs f1 (sm_nb n))))]) (As := [.int ((sm_hs f1 (sm_nb n)) i)]) (rest := []) ⟨hx, hb, hml, hown, hts⟩ (sc_X2_putWord l D cI (some (tk, tf)) _ qr rb nr (4 * i) (sm_ap fr 0 (sm_dg (sm_hs f1 (sm_nb n))) (4 * i)) ((sm_hs f1 (sm_nb n)) i) (by omega) hnr) (cwV 1 hts gX0_end_X2_putWord rfl rfl rfl (by decide +kernel) ⟨Nat.le_of_ble_eq_true rfl, Nat.le_of_ble_eq_true rfl⟩) hP hD hS hA hK hT [5, 6] [0, 1, 2, 3, 4] rfl rfl rfl rfl (by decide) 0 2 rfl rfl rfl rfl hl.1 rfl (Nat.le_of_ble_eq_true rfl) dX0_end_65 ⟨Nat.zero_le _, Nat.zero_le _⟩ (fun zt H1 locs ht hvm hB hJ hS => ?_)
              obtain ⟨hP1, -, hD1⟩ := hB
              rw [ht] at hP1
              obtain ⟨hP, hD⟩ := hJ _ hP1 hD1
              clear hJ
              generalize H1 = H at hP hS ⊢
              have hP : va_P D vwCl [(hh, .inr (0, [.ref hm, .ref aw, .ref ad])), (hm, .inr (2, [.ref bm, .int (nI (64 * sm_nb n))])), (bm, .inl (cI, 448, .inl f1)), (aw, .inl (cI, 64, .inl fv)), (ad, .inl (cI, 8, .inl (sm_hs f1 (sm_nb n)))), (qr, .inr (2, [.ref rb, .int (nI (4 * i + 4))])), (rb, .inl (cI, nr, .inl (sm_ap (sm_ap fr 0 (sm_dg (sm_hs f1 (sm_nb n))) (4 * i)) (4 * i) (sm_wb ((sm_hs f1 (sm_nb n)) i)) 4)))] H := hP.sub [0, 1, 2, 3, 4, 5, 6] rfl
              have hD : va_D A [(hh, .inr (0, [.ref hm, .ref aw, .ref ad])), (hm, .inr (2, [.ref bm, .int (nI (64 * sm_nb n))])), (bm, .inl (cI, 448, .inl f1)), (aw, .inl (cI, 64, .inl fv)), (ad, .inl (cI, 8, .inl (sm_hs f1 (sm_nb n)))), (qr, .inr (2, [.ref rb, .int (nI (4 * i + 4))])), (rb, .inl (cI, nr, .inl (sm_ap (sm_ap fr 0 (sm_dg (sm_hs f1 (sm_nb n))) (4 * i)) (4 * i) (sm_wb ((sm_hs f1 (sm_nb n)) i)) 4)))] := hD.sub [0, 1, 2, 3, 4, 5, 6] rfl rfl
              refine lv_iinc (v := nI (i + 1)) (lv' := [(2, .int (nI (i + 1))), (0, .ref hh), (1, .ref qr)]) hx hb dX0_end_68 hl (k := 0) rfl (nI_1 i) (by decide) rfl (fun ls hl => ?_)
              refine lv_goto (tgt := 52) hx hb dX0_end_71 (by decide) ?_
              rw [sm_dg_s] at hP hD
              exact ih (i + 1) _ _ _ (by omega) (by omega) hP hD hS (lv_sub hl [0, 1, 2] rfl)
        exact lp52 _ 0 _ _ _ (Nat.lt_succ_self _) (by decide) (by rw [sm_ap_0]; exact hP) (by rw [sm_ap_0]; exact hD) hS (lv_sub hl [0, 1, 2] rfl)
      ·
        have hlt : k < sm_nb n := by
          rcases Nat.lt_or_ge k (sm_nb n) with q | q
          · exact q
          · exact absurd (nI_le (by omega) (by omega)) c_28
        refine lv_aload_n hx hb dX0_end_31 rfl (lv_at hl 1 rfl) ?_
        refine lv_iload_n hx hb dX0_end_32 rfl (lv_at hl 0 rfl) ?_
        refine sm_callVv (wc := [(hh, .inr (0, [.ref hm, .ref aw, .ref ad])), (hm, .inr (2, [.ref bm, .int (nI (64 * sm_nb n))])), (bm, .inl (cI, 448, .inl f1)), (aw, .inl (cI, 64, .inl fv))]) (wr := [(ad, .inl (cI, 8, .inl (sm_hs f1 k))), (qr, .inr (2, [.ref rb, .int ur])), (rb, .inl (cI, nr, .inl fr))]) (As := [.int (nI (64 * k))]) (rest := []) ⟨hx, hb, hml, hown, hts⟩ (sc_X0_spread l D cI (some (tk, tf)) _ hh hm bm aw ad (64 * sm_nb n) (64 * k) f1 fv (by omega) hn) (cwV 1 hts gX0_end_X0_spread rfl rfl rfl (by decide +kernel) ⟨Nat.le_of_ble_eq_true rfl, Nat.le_of_ble_eq_true rfl⟩) hP hD hS hA hK hT [0, 1, 2, 3] [4, 5, 6] rfl rfl rfl rfl (by decide) 0 0 rfl rfl rfl rfl hl.1 rfl (Nat.le_of_ble_eq_true rfl) dX0_end_33 ⟨Nat.zero_le _, Nat.zero_le _⟩ (fun zt H1 locs ht hvm hB hJ hS => ?_)
        obtain ⟨hP1, -, hD1⟩ := hB
        rw [ht] at hP1
        obtain ⟨hP, hD⟩ := hJ _ hP1 hD1
        clear hJ
        generalize H1 = H at hP hS ⊢
        have hP : va_P D vwCl [(hh, .inr (0, [.ref hm, .ref aw, .ref ad])), (hm, .inr (2, [.ref bm, .int (nI (64 * sm_nb n))])), (bm, .inl (cI, 448, .inl f1)), (aw, .inl (cI, 64, .inl (sm_W f1 (64 * k)))), (ad, .inl (cI, 8, .inl (sm_hs f1 k))), (qr, .inr (2, [.ref rb, .int ur])), (rb, .inl (cI, nr, .inl fr))] H := hP.sub [3, 4, 5, 6, 0, 1, 2] rfl
        have hD : va_D A [(hh, .inr (0, [.ref hm, .ref aw, .ref ad])), (hm, .inr (2, [.ref bm, .int (nI (64 * sm_nb n))])), (bm, .inl (cI, 448, .inl f1)), (aw, .inl (cI, 64, .inl (sm_W f1 (64 * k)))), (ad, .inl (cI, 8, .inl (sm_hs f1 k))), (qr, .inr (2, [.ref rb, .int ur])), (rb, .inl (cI, nr, .inl fr))] := hD.sub [3, 4, 5, 6, 0, 1, 2] rfl rfl
        refine lv_aload_n hx hb dX0_end_36 rfl (lv_at hl 1 rfl) ?_
        refine sm_callVv (wc := [(hh, .inr (0, [.ref hm, .ref aw, .ref ad])), (aw, .inl (cI, 64, .inl (sm_W f1 (64 * k)))), (ad, .inl (cI, 8, .inl (sm_hs f1 k)))]) (wr := [(hm, .inr (2, [.ref bm, .int (nI (64 * sm_nb n))])), (bm, .inl (cI, 448, .inl f1)), (qr, .inr (2, [.ref rb, .int ur])), (rb, .inl (cI, nr, .inl fr))]) (As := []) (rest := []) ⟨hx, hb, hml, hown, hts⟩ (sc_X0_mix l D cI tk tf _ hh hm bm aw ad (sm_W f1 (64 * k)) (sm_hs f1 k) ) (cwV 0 hts gX0_end_X0_mix rfl rfl rfl (by decide +kernel) ⟨Nat.le_of_ble_eq_true rfl, Nat.le_of_ble_eq_true rfl⟩) hP hD hS hA hK hT [0, 3, 4] [1, 2, 5, 6] rfl rfl rfl rfl (by decide) 0 0 rfl rfl rfl rfl hl.1 rfl (Nat.le_of_ble_eq_true rfl) dX0_end_37 ⟨Nat.zero_le _, Nat.zero_le _⟩ (fun zt H1 locs ht hvm hB hJ hS => ?_)
        obtain ⟨hP1, -, hD1⟩ := hB
        rw [ht] at hP1
        obtain ⟨hP, hD⟩ := hJ _ hP1 hD1
        clear hJ
        generalize H1 = H at hP hS ⊢
        have hP : va_P D vwCl [(hh, .inr (0, [.ref hm, .ref aw, .ref ad])), (hm, .inr (2, [.ref bm, .int (nI (64 * sm_nb n))])), (bm, .inl (cI, 448, .inl f1)), (aw, .inl (cI, 64, .inl (sm_W f1 (64 * k)))), (ad, .inl (cI, 8, .inl (sm_hs f1 (k + 1)))), (qr, .inr (2, [.ref rb, .int ur])), (rb, .inl (cI, nr, .inl fr))] H := hP.sub [4, 0, 1, 5, 6, 2, 3] rfl
        have hD : va_D A [(hh, .inr (0, [.ref hm, .ref aw, .ref ad])), (hm, .inr (2, [.ref bm, .int (nI (64 * sm_nb n))])), (bm, .inl (cI, 448, .inl f1)), (aw, .inl (cI, 64, .inl (sm_W f1 (64 * k)))), (ad, .inl (cI, 8, .inl (sm_hs f1 (k + 1)))), (qr, .inr (2, [.ref rb, .int ur])), (rb, .inl (cI, nr, .inl fr))] := hD.sub [4, 0, 1, 5, 6, 2, 3] rfl rfl
        refine lv_iinc (v := nI (64 * (k + 1))) (lv' := [(2, .int (nI (64 * (k + 1)))), (0, .ref hh), (1, .ref qr)]) hx hb dX0_end_40 hl (k := 0) rfl (nI_add (64 * k) 64) (by decide) rfl (fun ls hl => ?_)
        refine lv_goto (tgt := 20) hx hb dX0_end_43 (by decide) ?_
        exact ih (k + 1) _ _ _ _ (by omega) (by omega) hP hD hS (lv_sub hl [0, 1, 2] rfl)
  exact lp20 _ 0 fw _ _ _ (Nat.lt_succ_self _) (Nat.zero_le _) hP hD hS (lv_sub hl [0, 1, 2] rfl)
end
section
def rm_X1_begin : Room := ({ frames := 4, cells := 0, slots := 0, locals := 97 } : Room)
set_option maxHeartbeats 4000000 in
set_option maxRecDepth 100000 in
/-- KeyedHasher.begin -/
theorem sc_X1_begin (l : Launch) (D : va_G) (cI : ClassId) (tk tf : Nat) (sz : Nat) (hk hh hm bm aw ad hB bB hI bI : Nat) (hy by_ ny nk : Nat) (fm fw fd fB fk : Nat → Int32) (um uB : Int32) (hnk : nk ≤ ny) (hnk3 : nk ≤ 300) (hny : ny < 2 ^ 31) : Met l yX1_begin wsX1_begin rm_X1_begin (va_Pc [.ref hk, .ref hy] (sm_PW D cI (some (tk, tf)) [(hk, .inr (1, [.ref hh, .ref hB, .ref hI])), (hh, .inr (0, [.ref hm, .ref aw, .ref ad])), (hm, .inr (2, [.ref bm, .int um])), (bm, .inl (cI, 448, .inl fm)), (aw, .inl (cI, 64, .inl fw)), (ad, .inl (cI, 8, .inl fd)), (hB, .inr (2, [.ref bB, .int uB])), (bB, .inl (cI, 64, .inl fB)), (hy, .inr (2, [.ref by_, .int (nI nk)])), (by_, .inl (cI, ny, .inl fk))] sz)) (va_Qv (fun (_ : Unit) => True) (fun _ t => ∃ (f2 : Nat → Int32) (fw2 : Nat → Int32) (fd2 : Nat → Int32), sm_QW D cI (va_A [(hk, .inr (1, [.ref hh, .ref hB, .ref hI])), (hh, .inr (0, [.ref hm, .ref aw, .ref ad])), (hm, .inr (2, [.ref bm, .int um])), (bm, .inl (cI, 448, .inl fm)), (aw, .inl (cI, 64, .inl fw)), (ad, .inl (cI, 8, .inl fd)), (hB, .inr (2, [.ref bB, .int uB])), (bB, .inl (cI, 64, .inl fB)), (hy, .inr (2, [.ref by_, .int (nI nk)])), (by_, .inl (cI, ny, .inl fk))] sz) [(hk, .inr (1, [.ref hh, .ref hB, .ref hI])), (hh, .inr (0, [.ref hm, .ref aw, .ref ad])), (hm, .inr (2, [.ref bm, .int (nI (0 + 64))])), (bm, .inl (cI, 448, .inl (sm_ap f2 0 (fun j => sm_kb fk nk j ^^^ 54) 64))), (aw, .inl (cI, 64, .inl fw2)), (ad, .inl (cI, 8, .inl fd2)), (hB, .inr (2, [.ref bB, .int (nI 64)])), (bB, .inl (cI, 64, .inl (sm_kb fk nk))), (hy, .inr (2, [.ref by_, .int (nI nk)])), (by_, .inl (cI, ny, .inl fk))] t) (va_A [(hk, .inr (1, [.ref hh, .ref hB, .ref hI])), (hh, .inr (0, [.ref hm, .ref aw, .ref ad])), (hm, .inr (2, [.ref bm, .int um])), (bm, .inl (cI, 448, .inl fm)), (aw, .inl (cI, 64, .inl fw)), (ad, .inl (cI, 8, .inl fd)), (hB, .inr (2, [.ref bB, .int uB])), (bB, .inl (cI, 64, .inl fB)), (hy, .inr (2, [.ref by_, .int (nI nk)])), (by_, .inl (cI, ny, .inl fk))] sz)) 0 0 (va_A [(hk, .inr (1, [.ref hh, .ref hB, .ref hI])), (hh, .inr (0, [.ref hm, .ref aw, .ref ad])), (hm, .inr (2, [.ref bm, .int um])), (bm, .inl (cI, 448, .inl fm)), (aw, .inl (cI, 64, .inl fw)), (ad, .inl (cI, 8, .inl fd)), (hB, .inr (2, [.ref bB, .int uB])), (bB, .inl (cI, 64, .inl fB)), (hy, .inr (2, [.ref by_, .int (nI nk)])), (by_, .inl (cI, ny, .inl fk))] sz) := by
  refine Met.ofW (cc := cX1_begin) (maxL := 3) (ret := none) (by decide) rfl ?_
  intro p e s m args below meth c s₁ B hml hv
  obtain ⟨rfl, hsz, hP, hK, hD0, hT⟩ := hv
  have hx := B.exec
  have hb := B.bytes
  have hr := B.returns
  have hts := atoms_spec (ws := wsX1_begin) B.pre
  have hown : s.vm.findClass RX1 = some m.cls := findClass_of_methodNamed B.named
  have hlocks := B.notSynchronized
  subst hsz
  have hD := hD0.self (sz := s.heap.size)
  generalize hAe : va_A [(hk, .inr (1, [.ref hh, .ref hB, .ref hI])), (hh, .inr (0, [.ref hm, .ref aw, .ref ad])), (hm, .inr (2, [.ref bm, .int um])), (bm, .inl (cI, 448, .inl fm)), (aw, .inl (cI, 64, .inl fw)), (ad, .inl (cI, 8, .inl fd)), (hB, .inr (2, [.ref bB, .int uB])), (bB, .inl (cI, 64, .inl fB)), (hy, .inr (2, [.ref by_, .int (nI nk)])), (by_, .inl (cI, ny, .inl fk))] s.heap.size = A at hD hT ⊢
  have hA : ∀ q : Nat, s.heap.size ≤ q → A q := fun q h => by rw [← hAe]; exact Or.inr h
  have hS : va_S A s.heap s.heap [] := va_S.rf
  have hl := lv_entry ([.ref hk, .ref hy]) (n := 3) (Nat.le_of_ble_eq_true rfl)
  rw [lg_entry_eq]
  generalize (lg_sl ([.ref hk, .ref hy]) ++ List.replicate (3 - (lg_sl ([.ref hk, .ref hy])).length) Slot.unset).toArray = ls at hl ⊢
  have hl : lv_has ls 3 [(0, .ref hk), (1, .ref hy)] := hl
  refine sm_name (fun Q hQ => ?_)
  have hf_23 := hts (.fieldLink RX1 23 "SeedMill$KeyedHasher" "blockKey" "LSeedMill$Row;") (by decide +kernel)
  have hw_X1 : ∀ w ∈ wsX10, w ∈ wsX1_begin := by decide +kernel
  have hf_12 := hts (.fieldLink RX1 12 "SeedMill$KeyedHasher" "hasher" "LSeedMill$Hasher;") (by decide +kernel)
  refine lv_aload_n hx hb dX1_begin_0 rfl (lv_at hl 0 rfl) ?_
  refine va_get (D := D) (ci := 1) (v := .ref hB) (C := RX1) (T := TX1) (N := 3) hx hb hts hw_X1 hown hK hP 0 rfl rfl 1 (by decide) hf_23 (fun _ h9 => h9) rfl dX1_begin_1 ?_
  refine sm_callVv (wc := [(hB, .inr (2, [.ref bB, .int uB])), (bB, .inl (cI, 64, .inl fB))]) (wr := [(hk, .inr (1, [.ref hh, .ref hB, .ref hI])), (hh, .inr (0, [.ref hm, .ref aw, .ref ad])), (hm, .inr (2, [.ref bm, .int um])), (bm, .inl (cI, 448, .inl fm)), (aw, .inl (cI, 64, .inl fw)), (ad, .inl (cI, 8, .inl fd)), (hy, .inr (2, [.ref by_, .int (nI nk)])), (by_, .inl (cI, ny, .inl fk))]) (As := []) (rest := []) ⟨hx, hb, hml, hown, hts⟩ (sc_X2_empty l D cI (some (tk, tf)) _ hB bB 64 fB uB ) (cwV 0 hts gX1_begin_X2_empty rfl rfl rfl (by decide +kernel) ⟨Nat.le_of_ble_eq_true rfl, Nat.le_of_ble_eq_true rfl⟩) hP hD hS hA hK hT [6, 7] [0, 1, 2, 3, 4, 5, 8, 9] rfl rfl rfl rfl (by decide) 0 2 rfl rfl rfl rfl hl.1 rfl (Nat.le_of_ble_eq_true rfl) dX1_begin_4 ⟨Nat.zero_le _, Nat.zero_le _⟩ (fun zt H1 locs ht hvm hB hJ hS => ?_)
  obtain ⟨hP1, -, hD1⟩ := hB
  rw [ht] at hP1
  obtain ⟨hP, hD⟩ := hJ _ hP1 hD1
  clear hJ
  generalize H1 = H at hP hS ⊢
  have hP : va_P D vwCl [(hk, .inr (1, [.ref hh, .ref hB, .ref hI])), (hh, .inr (0, [.ref hm, .ref aw, .ref ad])), (hm, .inr (2, [.ref bm, .int um])), (bm, .inl (cI, 448, .inl fm)), (aw, .inl (cI, 64, .inl fw)), (ad, .inl (cI, 8, .inl fd)), (hB, .inr (2, [.ref bB, .int (nI 0)])), (bB, .inl (cI, 64, .inl fB)), (hy, .inr (2, [.ref by_, .int (nI nk)])), (by_, .inl (cI, ny, .inl fk))] H := hP.sub [0, 1, 2, 3, 4, 5, 8, 9, 6, 7] rfl
  have hD : va_D A [(hk, .inr (1, [.ref hh, .ref hB, .ref hI])), (hh, .inr (0, [.ref hm, .ref aw, .ref ad])), (hm, .inr (2, [.ref bm, .int um])), (bm, .inl (cI, 448, .inl fm)), (aw, .inl (cI, 64, .inl fw)), (ad, .inl (cI, 8, .inl fd)), (hB, .inr (2, [.ref bB, .int (nI 0)])), (bB, .inl (cI, 64, .inl fB)), (hy, .inr (2, [.ref by_, .int (nI nk)])), (by_, .inl (cI, ny, .inl fk))] := hD.sub [0, 1, 2, 3, 4, 5, 8, 9, 6, 7] rfl rfl
  refine lv_aload_n hx hb dX1_begin_7 rfl (lv_at hl 1 rfl) ?_
  refine sm_callVi (wc := [(hy, .inr (2, [.ref by_, .int (nI nk)])), (by_, .inl (cI, ny, .inl fk))]) (wr := [(hk, .inr (1, [.ref hh, .ref hB, .ref hI])), (hh, .inr (0, [.ref hm, .ref aw, .ref ad])), (hm, .inr (2, [.ref bm, .int um])), (bm, .inl (cI, 448, .inl fm)), (aw, .inl (cI, 64, .inl fw)), (ad, .inl (cI, 8, .inl fd)), (hB, .inr (2, [.ref bB, .int (nI 0)])), (bB, .inl (cI, 64, .inl fB))]) (As := []) (rest := []) ⟨hx, hb, hml, hown, hts⟩ (sc_X2_size l D cI (some (tk, tf)) _ hy by_ ny fk (nI nk) ) (cwV 0 hts gX1_begin_X2_size rfl rfl rfl (by decide +kernel) ⟨Nat.le_of_ble_eq_true rfl, Nat.le_of_ble_eq_true rfl⟩) hP hD hS hA hK hT [8, 9] [0, 1, 2, 3, 4, 5, 6, 7] rfl rfl rfl rfl (by decide) 0 2 rfl rfl rfl rfl hl.1 rfl (Nat.le_of_ble_eq_true rfl) dX1_begin_8 ⟨Nat.zero_le _, Nat.zero_le _⟩ (fun r_8 zt H1 locs ht hvm hw hB hJ hS => ?_)
  obtain ⟨hP1, -, hD1⟩ := hB
  rw [ht] at hP1
  obtain ⟨hP, hD⟩ := hJ _ hP1 hD1
  clear hJ
  generalize H1 = H at hP hS ⊢
  have hP : va_P D vwCl [(hk, .inr (1, [.ref hh, .ref hB, .ref hI])), (hh, .inr (0, [.ref hm, .ref aw, .ref ad])), (hm, .inr (2, [.ref bm, .int um])), (bm, .inl (cI, 448, .inl fm)), (aw, .inl (cI, 64, .inl fw)), (ad, .inl (cI, 8, .inl fd)), (hB, .inr (2, [.ref bB, .int (nI 0)])), (bB, .inl (cI, 64, .inl fB)), (hy, .inr (2, [.ref by_, .int (nI nk)])), (by_, .inl (cI, ny, .inl fk))] H := hP.sub [0, 1, 2, 3, 4, 5, 6, 7, 8, 9] rfl
  have hD : va_D A [(hk, .inr (1, [.ref hh, .ref hB, .ref hI])), (hh, .inr (0, [.ref hm, .ref aw, .ref ad])), (hm, .inr (2, [.ref bm, .int um])), (bm, .inl (cI, 448, .inl fm)), (aw, .inl (cI, 64, .inl fw)), (ad, .inl (cI, 8, .inl fd)), (hB, .inr (2, [.ref bB, .int (nI 0)])), (bB, .inl (cI, 64, .inl fB)), (hy, .inr (2, [.ref by_, .int (nI nk)])), (by_, .inl (cI, ny, .inl fk))] := hD.sub [0, 1, 2, 3, 4, 5, 6, 7, 8, 9] rfl rfl
  subst hw
  refine lv_bipush (v := 64) hx hb dX1_begin_11 (by decide) ?_
  refine lv_icmp_le (tgt := 45) hx hb dX1_begin_13 (by decide) (fun c_13 => ?_) (fun c_13 => ?_)
  ·
    have hsm : nk ≤ 64 := by
      rcases Nat.lt_or_ge 64 nk with q | q
      · exact absurd c_13 (nI_ge q (by omega))
      · exact q
    refine lv_aload_n hx hb dX1_begin_45 rfl (lv_at hl 0 rfl) ?_
    refine va_get (D := D) (ci := 1) (v := .ref hB) (C := RX1) (T := TX1) (N := 3) hx hb hts hw_X1 hown hK hP 0 rfl rfl 1 (by decide) hf_23 (fun _ h9 => h9) rfl dX1_begin_46 ?_
    refine lv_aload_n hx hb dX1_begin_49 rfl (lv_at hl 1 rfl) ?_
    refine lv_aload_n hx hb dX1_begin_50 rfl (lv_at hl 1 rfl) ?_
    refine sm_callVi (wc := [(hy, .inr (2, [.ref by_, .int (nI nk)])), (by_, .inl (cI, ny, .inl fk))]) (wr := [(hk, .inr (1, [.ref hh, .ref hB, .ref hI])), (hh, .inr (0, [.ref hm, .ref aw, .ref ad])), (hm, .inr (2, [.ref bm, .int um])), (bm, .inl (cI, 448, .inl fm)), (aw, .inl (cI, 64, .inl fw)), (ad, .inl (cI, 8, .inl fd)), (hB, .inr (2, [.ref bB, .int (nI 0)])), (bB, .inl (cI, 64, .inl fB))]) (As := []) (rest := [.ref hy, .ref hB]) ⟨hx, hb, hml, hown, hts⟩ (sc_X2_size l D cI (some (tk, tf)) _ hy by_ ny fk (nI nk) ) (cwV 0 hts gX1_begin_X2_size rfl rfl rfl (by decide +kernel) ⟨Nat.le_of_ble_eq_true rfl, Nat.le_of_ble_eq_true rfl⟩) hP hD hS hA hK hT [8, 9] [0, 1, 2, 3, 4, 5, 6, 7] rfl rfl rfl rfl (by decide) 0 2 rfl rfl rfl rfl hl.1 rfl (Nat.le_of_ble_eq_true rfl) dX1_begin_51 ⟨Nat.zero_le _, Nat.zero_le _⟩ (fun r_51 zt H1 locs ht hvm hw hB hJ hS => ?_)
    obtain ⟨hP1, -, hD1⟩ := hB
    rw [ht] at hP1
    obtain ⟨hP, hD⟩ := hJ _ hP1 hD1
    clear hJ
    generalize H1 = H at hP hS ⊢
    have hP : va_P D vwCl [(hk, .inr (1, [.ref hh, .ref hB, .ref hI])), (hh, .inr (0, [.ref hm, .ref aw, .ref ad])), (hm, .inr (2, [.ref bm, .int um])), (bm, .inl (cI, 448, .inl fm)), (aw, .inl (cI, 64, .inl fw)), (ad, .inl (cI, 8, .inl fd)), (hB, .inr (2, [.ref bB, .int (nI 0)])), (bB, .inl (cI, 64, .inl fB)), (hy, .inr (2, [.ref by_, .int (nI nk)])), (by_, .inl (cI, ny, .inl fk))] H := hP.sub [0, 1, 2, 3, 4, 5, 6, 7, 8, 9] rfl
    have hD : va_D A [(hk, .inr (1, [.ref hh, .ref hB, .ref hI])), (hh, .inr (0, [.ref hm, .ref aw, .ref ad])), (hm, .inr (2, [.ref bm, .int um])), (bm, .inl (cI, 448, .inl fm)), (aw, .inl (cI, 64, .inl fw)), (ad, .inl (cI, 8, .inl fd)), (hB, .inr (2, [.ref bB, .int (nI 0)])), (bB, .inl (cI, 64, .inl fB)), (hy, .inr (2, [.ref by_, .int (nI nk)])), (by_, .inl (cI, ny, .inl fk))] := hD.sub [0, 1, 2, 3, 4, 5, 6, 7, 8, 9] rfl rfl
    subst hw
    refine sm_callVv (wc := [(hB, .inr (2, [.ref bB, .int (nI 0)])), (bB, .inl (cI, 64, .inl fB)), (hy, .inr (2, [.ref by_, .int (nI nk)])), (by_, .inl (cI, ny, .inl fk))]) (wr := [(hk, .inr (1, [.ref hh, .ref hB, .ref hI])), (hh, .inr (0, [.ref hm, .ref aw, .ref ad])), (hm, .inr (2, [.ref bm, .int um])), (bm, .inl (cI, 448, .inl fm)), (aw, .inl (cI, 64, .inl fw)), (ad, .inl (cI, 8, .inl fd))]) (As := [.ref hy, .int (nI nk)]) (rest := []) ⟨hx, hb, hml, hown, hts⟩ (sc_X2_append l D cI (some (tk, tf)) _ hB bB 64 0 hy by_ ny nk nk fB fk (by omega) hnk (by decide) hny (by omega)) (cwV 2 hts gX1_begin_X2_append rfl rfl rfl (by decide +kernel) ⟨Nat.le_of_ble_eq_true rfl, Nat.le_of_ble_eq_true rfl⟩) hP hD hS hA hK hT [6, 7, 8, 9] [0, 1, 2, 3, 4, 5] rfl rfl rfl rfl (by decide) 0 2 rfl rfl rfl rfl hl.1 rfl (Nat.le_of_ble_eq_true rfl) dX1_begin_54 ⟨Nat.zero_le _, Nat.zero_le _⟩ (fun zt H1 locs ht hvm hB hJ hS => ?_)
    obtain ⟨hP1, -, hD1⟩ := hB
    rw [ht] at hP1
    obtain ⟨hP, hD⟩ := hJ _ hP1 hD1
    clear hJ
    generalize H1 = H at hP hS ⊢
    have hP : va_P D vwCl [(hk, .inr (1, [.ref hh, .ref hB, .ref hI])), (hh, .inr (0, [.ref hm, .ref aw, .ref ad])), (hm, .inr (2, [.ref bm, .int um])), (bm, .inl (cI, 448, .inl fm)), (aw, .inl (cI, 64, .inl fw)), (ad, .inl (cI, 8, .inl fd)), (hB, .inr (2, [.ref bB, .int (nI (0 + min nk nk))])), (bB, .inl (cI, 64, .inl (sm_ap fB 0 fk (min nk nk)))), (hy, .inr (2, [.ref by_, .int (nI nk)])), (by_, .inl (cI, ny, .inl fk))] H := hP.sub [0, 1, 2, 3, 4, 5, 6, 7, 8, 9] rfl
    have hD : va_D A [(hk, .inr (1, [.ref hh, .ref hB, .ref hI])), (hh, .inr (0, [.ref hm, .ref aw, .ref ad])), (hm, .inr (2, [.ref bm, .int um])), (bm, .inl (cI, 448, .inl fm)), (aw, .inl (cI, 64, .inl fw)), (ad, .inl (cI, 8, .inl fd)), (hB, .inr (2, [.ref bB, .int (nI (0 + min nk nk))])), (bB, .inl (cI, 64, .inl (sm_ap fB 0 fk (min nk nk)))), (hy, .inr (2, [.ref by_, .int (nI nk)])), (by_, .inl (cI, ny, .inl fk))] := hD.sub [0, 1, 2, 3, 4, 5, 6, 7, 8, 9] rfl rfl
    refine lv_aload_n hx hb dX1_begin_57 rfl (lv_at hl 0 rfl) ?_
    refine va_get (D := D) (ci := 1) (v := .ref hB) (C := RX1) (T := TX1) (N := 3) hx hb hts hw_X1 hown hK hP 0 rfl rfl 1 (by decide) hf_23 (fun _ h9 => h9) rfl dX1_begin_58 ?_
    refine sm_callVi (wc := [(hB, .inr (2, [.ref bB, .int (nI (0 + min nk nk))])), (bB, .inl (cI, 64, .inl (sm_ap fB 0 fk (min nk nk))))]) (wr := [(hk, .inr (1, [.ref hh, .ref hB, .ref hI])), (hh, .inr (0, [.ref hm, .ref aw, .ref ad])), (hm, .inr (2, [.ref bm, .int um])), (bm, .inl (cI, 448, .inl fm)), (aw, .inl (cI, 64, .inl fw)), (ad, .inl (cI, 8, .inl fd)), (hy, .inr (2, [.ref by_, .int (nI nk)])), (by_, .inl (cI, ny, .inl fk))]) (As := []) (rest := []) ⟨hx, hb, hml, hown, hts⟩ (sc_X2_size l D cI (some (tk, tf)) _ hB bB 64 (sm_ap fB 0 fk (min nk nk)) (nI (0 + min nk nk)) ) (cwV 0 hts gX1_begin_X2_size rfl rfl rfl (by decide +kernel) ⟨Nat.le_of_ble_eq_true rfl, Nat.le_of_ble_eq_true rfl⟩) hP hD hS hA hK hT [6, 7] [0, 1, 2, 3, 4, 5, 8, 9] rfl rfl rfl rfl (by decide) 0 2 rfl rfl rfl rfl hl.1 rfl (Nat.le_of_ble_eq_true rfl) dX1_begin_61 ⟨Nat.zero_le _, Nat.zero_le _⟩ (fun r_61 zt H1 locs ht hvm hw hB hJ hS => ?_)
    obtain ⟨hP1, -, hD1⟩ := hB
    rw [ht] at hP1
    obtain ⟨hP, hD⟩ := hJ _ hP1 hD1
    clear hJ
    generalize H1 = H at hP hS ⊢
    have hP : va_P D vwCl [(hk, .inr (1, [.ref hh, .ref hB, .ref hI])), (hh, .inr (0, [.ref hm, .ref aw, .ref ad])), (hm, .inr (2, [.ref bm, .int um])), (bm, .inl (cI, 448, .inl fm)), (aw, .inl (cI, 64, .inl fw)), (ad, .inl (cI, 8, .inl fd)), (hB, .inr (2, [.ref bB, .int (nI (0 + min nk nk))])), (bB, .inl (cI, 64, .inl (sm_ap fB 0 fk (min nk nk)))), (hy, .inr (2, [.ref by_, .int (nI nk)])), (by_, .inl (cI, ny, .inl fk))] H := hP.sub [0, 1, 2, 3, 4, 5, 8, 9, 6, 7] rfl
    have hD : va_D A [(hk, .inr (1, [.ref hh, .ref hB, .ref hI])), (hh, .inr (0, [.ref hm, .ref aw, .ref ad])), (hm, .inr (2, [.ref bm, .int um])), (bm, .inl (cI, 448, .inl fm)), (aw, .inl (cI, 64, .inl fw)), (ad, .inl (cI, 8, .inl fd)), (hB, .inr (2, [.ref bB, .int (nI (0 + min nk nk))])), (bB, .inl (cI, 64, .inl (sm_ap fB 0 fk (min nk nk)))), (hy, .inr (2, [.ref by_, .int (nI nk)])), (by_, .inl (cI, ny, .inl fk))] := hD.sub [0, 1, 2, 3, 4, 5, 8, 9, 6, 7] rfl rfl
    subst hw
    refine lv_istore_n (lv' := [(2, .int (nI (0 + min nk nk))), (0, .ref hk), (1, .ref hy)]) hx hb dX1_begin_64 rfl hl (by decide) rfl (fun ls hl => ?_)
    rw [Nat.min_self, Nat.zero_add] at hP hD
    have hP : va_P D vwCl [(hk, .inr (1, [.ref hh, .ref hB, .ref hI])), (hh, .inr (0, [.ref hm, .ref aw, .ref ad])), (hm, .inr (2, [.ref bm, .int um])), (bm, .inl (cI, 448, .inl fm)), (aw, .inl (cI, 64, .inl fw)), (ad, .inl (cI, 8, .inl fd)), (hB, .inr (2, [.ref bB, .int (nI nk)])), (bB, .inl (cI, 64, .inl (sm_ap fB 0 fk nk))), (hy, .inr (2, [.ref by_, .int (nI nk)])), (by_, .inl (cI, ny, .inl fk))] H := hP
    have hD : va_D A [(hk, .inr (1, [.ref hh, .ref hB, .ref hI])), (hh, .inr (0, [.ref hm, .ref aw, .ref ad])), (hm, .inr (2, [.ref bm, .int um])), (bm, .inl (cI, 448, .inl fm)), (aw, .inl (cI, 64, .inl fw)), (ad, .inl (cI, 8, .inl fd)), (hB, .inr (2, [.ref bB, .int (nI nk)])), (bB, .inl (cI, 64, .inl (sm_ap fB 0 fk nk))), (hy, .inr (2, [.ref by_, .int (nI nk)])), (by_, .inl (cI, ny, .inl fk))] := hD
    have hl : lv_has ls 3 [(2, .int (nI nk)), (0, .ref hk), (1, .ref hy)] := by rw [Nat.min_self, Nat.zero_add] at hl; exact hl
    have lp65 : ∀ (zn : Nat) (k : Nat) (H : Heap) (locs : List Loc) (ls : Array Slot), 64 - nk - k < zn → k ≤ 64 - nk → va_P D vwCl [(hk, .inr (1, [.ref hh, .ref hB, .ref hI])), (hh, .inr (0, [.ref hm, .ref aw, .ref ad])), (hm, .inr (2, [.ref bm, .int um])), (bm, .inl (cI, 448, .inl fm)), (aw, .inl (cI, 64, .inl fw)), (ad, .inl (cI, 8, .inl fd)), (hB, .inr (2, [.ref bB, .int (nI (nk + k))])), (bB, .inl (cI, 64, .inl (sm_ap (sm_ap fB 0 fk nk) nk (fun _ => 0) k))), (hy, .inr (2, [.ref by_, .int (nI nk)])), (by_, .inl (cI, ny, .inl fk))] H → va_D A [(hk, .inr (1, [.ref hh, .ref hB, .ref hI])), (hh, .inr (0, [.ref hm, .ref aw, .ref ad])), (hm, .inr (2, [.ref bm, .int um])), (bm, .inl (cI, 448, .inl fm)), (aw, .inl (cI, 64, .inl fw)), (ad, .inl (cI, 8, .inl fd)), (hB, .inr (2, [.ref bB, .int (nI (nk + k))])), (bB, .inl (cI, 64, .inl (sm_ap (sm_ap fB 0 fk nk) nk (fun _ => 0) k))), (hy, .inr (2, [.ref by_, .int (nI nk)])), (by_, .inl (cI, ny, .inl fk))] → va_S A s.heap H locs → lv_has ls 3 [(2, .int (nI (nk + k))), (0, .ref hk), (1, .ref hy)] → W p l e (headSpec wsX1_begin rm_X1_begin).room s m ([.ref hk, .ref hy] : List Value).toArray below meth c H locs 0 0 Q (F0 m 65 ls []) := by
      intro zn
      induction zn with
      | zero => intro k H locs ls hmu; exact absurd hmu (Nat.not_lt_zero _)
      | succ zn ih =>
        intro k H locs ls hmu hk1 hP hD hS hl
        refine lv_iload_n hx hb dX1_begin_65 rfl (lv_at hl 0 rfl) ?_
        refine lv_bipush (v := 64) hx hb dX1_begin_66 (by decide) ?_
        refine lv_icmp_ge (tgt := 85) hx hb dX1_begin_68 (by decide) (fun c_68 => ?_) (fun c_68 => ?_)
        ·
          have hex : k = 64 - nk := by
            rcases Nat.lt_or_ge (nk + k) 64 with q | q
            · exact absurd c_68 (nI_ge q (by decide))
            · omega
          rw [hex, show nk + (64 - nk) = 64 by omega] at hP hD
          have hP := sm_arr hP 7 rfl (sm_kb fk nk) (sm_kbB hsm)
          have hD := sm_arrD (y := .inl (cI, 64, .inl (sm_kb fk nk))) hD 7 rfl
          have hP : va_P D vwCl [(hk, .inr (1, [.ref hh, .ref hB, .ref hI])), (hh, .inr (0, [.ref hm, .ref aw, .ref ad])), (hm, .inr (2, [.ref bm, .int um])), (bm, .inl (cI, 448, .inl fm)), (aw, .inl (cI, 64, .inl fw)), (ad, .inl (cI, 8, .inl fd)), (hB, .inr (2, [.ref bB, .int (nI 64)])), (bB, .inl (cI, 64, .inl (sm_kb fk nk))), (hy, .inr (2, [.ref by_, .int (nI nk)])), (by_, .inl (cI, ny, .inl fk))] H := hP
          have hD : va_D A [(hk, .inr (1, [.ref hh, .ref hB, .ref hI])), (hh, .inr (0, [.ref hm, .ref aw, .ref ad])), (hm, .inr (2, [.ref bm, .int um])), (bm, .inl (cI, 448, .inl fm)), (aw, .inl (cI, 64, .inl fw)), (ad, .inl (cI, 8, .inl fd)), (hB, .inr (2, [.ref bB, .int (nI 64)])), (bB, .inl (cI, 64, .inl (sm_kb fk nk))), (hy, .inr (2, [.ref by_, .int (nI nk)])), (by_, .inl (cI, ny, .inl fk))] := hD
          refine lv_aload_n hx hb dX1_begin_85 rfl (lv_at hl 1 rfl) ?_
          refine va_get (D := D) (ci := 1) (v := .ref hh) (C := RX1) (T := TX1) (N := 3) hx hb hts hw_X1 hown hK hP 0 rfl rfl 0 (by decide) hf_12 (fun _ h9 => h9) rfl dX1_begin_86 ?_
          refine sm_callVv (wc := [(hh, .inr (0, [.ref hm, .ref aw, .ref ad])), (hm, .inr (2, [.ref bm, .int um])), (bm, .inl (cI, 448, .inl fm))]) (wr := [(hk, .inr (1, [.ref hh, .ref hB, .ref hI])), (aw, .inl (cI, 64, .inl fw)), (ad, .inl (cI, 8, .inl fd)), (hB, .inr (2, [.ref bB, .int (nI 64)])), (bB, .inl (cI, 64, .inl (sm_kb fk nk))), (hy, .inr (2, [.ref by_, .int (nI nk)])), (by_, .inl (cI, ny, .inl fk))]) (As := []) (rest := []) ⟨hx, hb, hml, hown, hts⟩ (sc_X0_begin l D cI (some (tk, tf)) _ hh hm bm aw ad fm um ) (cwV 0 hts gX1_begin_X0_begin rfl rfl rfl (by decide +kernel) ⟨Nat.le_of_ble_eq_true rfl, Nat.le_of_ble_eq_true rfl⟩) hP hD hS hA hK hT [1, 2, 3] [0, 4, 5, 6, 7, 8, 9] rfl rfl rfl rfl (by decide) 0 0 rfl rfl rfl rfl hl.1 rfl (Nat.le_of_ble_eq_true rfl) dX1_begin_89 ⟨Nat.zero_le _, Nat.zero_le _⟩ (fun zt H1 locs ht hvm hB hJ hS => ?_)
          obtain ⟨hP1, -, hD1⟩ := hB
          rw [ht] at hP1
          obtain ⟨hP, hD⟩ := hJ _ hP1 hD1
          clear hJ
          generalize H1 = H at hP hS ⊢
          have hP : va_P D vwCl [(hk, .inr (1, [.ref hh, .ref hB, .ref hI])), (hh, .inr (0, [.ref hm, .ref aw, .ref ad])), (hm, .inr (2, [.ref bm, .int (nI 0)])), (bm, .inl (cI, 448, .inl fm)), (aw, .inl (cI, 64, .inl fw)), (ad, .inl (cI, 8, .inl fd)), (hB, .inr (2, [.ref bB, .int (nI 64)])), (bB, .inl (cI, 64, .inl (sm_kb fk nk))), (hy, .inr (2, [.ref by_, .int (nI nk)])), (by_, .inl (cI, ny, .inl fk))] H := hP.sub [0, 7, 8, 9, 1, 2, 3, 4, 5, 6] rfl
          have hD : va_D A [(hk, .inr (1, [.ref hh, .ref hB, .ref hI])), (hh, .inr (0, [.ref hm, .ref aw, .ref ad])), (hm, .inr (2, [.ref bm, .int (nI 0)])), (bm, .inl (cI, 448, .inl fm)), (aw, .inl (cI, 64, .inl fw)), (ad, .inl (cI, 8, .inl fd)), (hB, .inr (2, [.ref bB, .int (nI 64)])), (bB, .inl (cI, 64, .inl (sm_kb fk nk))), (hy, .inr (2, [.ref by_, .int (nI nk)])), (by_, .inl (cI, ny, .inl fk))] := hD.sub [0, 7, 8, 9, 1, 2, 3, 4, 5, 6] rfl rfl
          refine lv_aload_n hx hb dX1_begin_92 rfl (lv_at hl 1 rfl) ?_
          refine va_get (D := D) (ci := 1) (v := .ref hh) (C := RX1) (T := TX1) (N := 3) hx hb hts hw_X1 hown hK hP 0 rfl rfl 0 (by decide) hf_12 (fun _ h9 => h9) rfl dX1_begin_93 ?_
          refine lv_aload_n hx hb dX1_begin_96 rfl (lv_at hl 1 rfl) ?_
          refine va_get (D := D) (ci := 1) (v := .ref hB) (C := RX1) (T := TX1) (N := 3) hx hb hts hw_X1 hown hK hP 0 rfl rfl 1 (by decide) hf_23 (fun _ h9 => h9) rfl dX1_begin_97 ?_
          refine lv_bipush (v := 54) hx hb dX1_begin_100 (by decide) ?_
          refine sm_callVv (wc := [(hh, .inr (0, [.ref hm, .ref aw, .ref ad])), (hm, .inr (2, [.ref bm, .int (nI 0)])), (bm, .inl (cI, 448, .inl fm)), (hB, .inr (2, [.ref bB, .int (nI 64)])), (bB, .inl (cI, 64, .inl (sm_kb fk nk)))]) (wr := [(hk, .inr (1, [.ref hh, .ref hB, .ref hI])), (aw, .inl (cI, 64, .inl fw)), (ad, .inl (cI, 8, .inl fd)), (hy, .inr (2, [.ref by_, .int (nI nk)])), (by_, .inl (cI, ny, .inl fk))]) (As := [.ref hB, .int 54]) (rest := []) ⟨hx, hb, hml, hown, hts⟩ (sc_X0_addXor l D cI (some (tk, tf)) _ hh hm bm aw ad 0 hB bB 64 64 fm (sm_kb fk nk) 54 (by decide) (by decide) (by decide)) (cwV 2 hts gX1_begin_X0_addXor rfl rfl rfl (by decide +kernel) ⟨Nat.le_of_ble_eq_true rfl, Nat.le_of_ble_eq_true rfl⟩) hP hD hS hA hK hT [1, 2, 3, 6, 7] [0, 4, 5, 8, 9] rfl rfl rfl rfl (by decide) 0 0 rfl rfl rfl rfl hl.1 rfl (Nat.le_of_ble_eq_true rfl) dX1_begin_102 ⟨Nat.zero_le _, Nat.zero_le _⟩ (fun zt H1 locs ht hvm hB hJ hS => ?_)
          obtain ⟨hP1, -, hD1⟩ := hB
          rw [ht] at hP1
          obtain ⟨hP, hD⟩ := hJ _ hP1 hD1
          clear hJ
          generalize H1 = H at hP hS ⊢
          have hP : va_P D vwCl [(hk, .inr (1, [.ref hh, .ref hB, .ref hI])), (hh, .inr (0, [.ref hm, .ref aw, .ref ad])), (hm, .inr (2, [.ref bm, .int (nI (0 + 64))])), (bm, .inl (cI, 448, .inl (sm_ap fm 0 (fun j => (sm_kb fk nk) j ^^^ 54) 64))), (aw, .inl (cI, 64, .inl fw)), (ad, .inl (cI, 8, .inl fd)), (hB, .inr (2, [.ref bB, .int (nI 64)])), (bB, .inl (cI, 64, .inl (sm_kb fk nk))), (hy, .inr (2, [.ref by_, .int (nI nk)])), (by_, .inl (cI, ny, .inl fk))] H := hP.sub [0, 5, 6, 7, 1, 2, 8, 9, 3, 4] rfl
          have hD : va_D A [(hk, .inr (1, [.ref hh, .ref hB, .ref hI])), (hh, .inr (0, [.ref hm, .ref aw, .ref ad])), (hm, .inr (2, [.ref bm, .int (nI (0 + 64))])), (bm, .inl (cI, 448, .inl (sm_ap fm 0 (fun j => (sm_kb fk nk) j ^^^ 54) 64))), (aw, .inl (cI, 64, .inl fw)), (ad, .inl (cI, 8, .inl fd)), (hB, .inr (2, [.ref bB, .int (nI 64)])), (bB, .inl (cI, 64, .inl (sm_kb fk nk))), (hy, .inr (2, [.ref by_, .int (nI nk)])), (by_, .inl (cI, ny, .inl fk))] := hD.sub [0, 5, 6, 7, 1, 2, 8, 9, 3, 4] rfl rfl
          rw [hQ]
          have hP9 : va_P D vwCl [(hk, .inr (1, [.ref hh, .ref hB, .ref hI])), (hh, .inr (0, [.ref hm, .ref aw, .ref ad])), (hm, .inr (2, [.ref bm, .int (nI (0 + 64))])), (bm, .inl (cI, 448, .inl (sm_ap fm 0 (fun j => (sm_kb fk nk) j ^^^ 54) 64))), (aw, .inl (cI, 64, .inl fw)), (ad, .inl (cI, 8, .inl fd)), (hB, .inr (2, [.ref bB, .int (nI 64)])), (bB, .inl (cI, 64, .inl (sm_kb fk nk))), (hy, .inr (2, [.ref by_, .int (nI nk)])), (by_, .inl (cI, ny, .inl fk))] H := hP
          have hD9 : va_D A [(hk, .inr (1, [.ref hh, .ref hB, .ref hI])), (hh, .inr (0, [.ref hm, .ref aw, .ref ad])), (hm, .inr (2, [.ref bm, .int (nI (0 + 64))])), (bm, .inl (cI, 448, .inl (sm_ap fm 0 (fun j => (sm_kb fk nk) j ^^^ 54) 64))), (aw, .inl (cI, 64, .inl fw)), (ad, .inl (cI, 8, .inl fd)), (hB, .inr (2, [.ref bB, .int (nI 64)])), (bB, .inl (cI, 64, .inl (sm_kb fk nk))), (hy, .inr (2, [.ref by_, .int (nI nk)])), (by_, .inl (cI, ny, .inl fk))] := hD
          exact W.vret hx hb hr (fun t ht hW => ⟨⟨(), rfl, trivial, ⟨_, _, _, by rw [ht]; exact hP9, va_K.moved hW.alike hK, hD9⟩⟩, hS.F ht⟩) hS.2.2 dX1_begin_105
        ·
          have hlt : nk + k < 64 := by
            rcases Nat.lt_or_ge (nk + k) 64 with q | q
            · exact q
            · exact absurd (nI_le q (by omega)) c_68
          refine lv_aload_n hx hb dX1_begin_71 rfl (lv_at hl 1 rfl) ?_
          refine va_get (D := D) (ci := 1) (v := .ref hB) (C := RX1) (T := TX1) (N := 3) hx hb hts hw_X1 hown hK hP 0 rfl rfl 1 (by decide) hf_23 (fun _ h9 => h9) rfl dX1_begin_72 ?_
          refine lv_iconst (v := 0) hx hb dX1_begin_75 (by decide) ?_
          refine sm_callVv (wc := [(hB, .inr (2, [.ref bB, .int (nI (nk + k))])), (bB, .inl (cI, 64, .inl (sm_ap (sm_ap fB 0 fk nk) nk (fun _ => 0) k)))]) (wr := [(hk, .inr (1, [.ref hh, .ref hB, .ref hI])), (hh, .inr (0, [.ref hm, .ref aw, .ref ad])), (hm, .inr (2, [.ref bm, .int um])), (bm, .inl (cI, 448, .inl fm)), (aw, .inl (cI, 64, .inl fw)), (ad, .inl (cI, 8, .inl fd)), (hy, .inr (2, [.ref by_, .int (nI nk)])), (by_, .inl (cI, ny, .inl fk))]) (As := [.int 0]) (rest := []) ⟨hx, hb, hml, hown, hts⟩ (sc_X2_put l D cI (some (tk, tf)) _ hB bB 64 (nk + k) (sm_ap (sm_ap fB 0 fk nk) nk (fun _ => 0) k) 0 hlt (by decide)) (cwV 1 hts gX1_begin_X2_put rfl rfl rfl (by decide +kernel) ⟨Nat.le_of_ble_eq_true rfl, Nat.le_of_ble_eq_true rfl⟩) hP hD hS hA hK hT [6, 7] [0, 1, 2, 3, 4, 5, 8, 9] rfl rfl rfl rfl (by decide) 0 2 rfl rfl rfl rfl hl.1 rfl (Nat.le_of_ble_eq_true rfl) dX1_begin_76 ⟨Nat.zero_le _, Nat.zero_le _⟩ (fun zt H1 locs ht hvm hB hJ hS => ?_)
          obtain ⟨hP1, -, hD1⟩ := hB
          rw [ht] at hP1
          obtain ⟨hP, hD⟩ := hJ _ hP1 hD1
          clear hJ
          generalize H1 = H at hP hS ⊢
          have hP : va_P D vwCl [(hk, .inr (1, [.ref hh, .ref hB, .ref hI])), (hh, .inr (0, [.ref hm, .ref aw, .ref ad])), (hm, .inr (2, [.ref bm, .int um])), (bm, .inl (cI, 448, .inl fm)), (aw, .inl (cI, 64, .inl fw)), (ad, .inl (cI, 8, .inl fd)), (hB, .inr (2, [.ref bB, .int (nI (nk + k + 1))])), (bB, .inl (cI, 64, .inl (upd (sm_ap (sm_ap fB 0 fk nk) nk (fun _ => 0) k) (nk + k) 0))), (hy, .inr (2, [.ref by_, .int (nI nk)])), (by_, .inl (cI, ny, .inl fk))] H := hP.sub [0, 1, 2, 3, 4, 5, 8, 9, 6, 7] rfl
          have hD : va_D A [(hk, .inr (1, [.ref hh, .ref hB, .ref hI])), (hh, .inr (0, [.ref hm, .ref aw, .ref ad])), (hm, .inr (2, [.ref bm, .int um])), (bm, .inl (cI, 448, .inl fm)), (aw, .inl (cI, 64, .inl fw)), (ad, .inl (cI, 8, .inl fd)), (hB, .inr (2, [.ref bB, .int (nI (nk + k + 1))])), (bB, .inl (cI, 64, .inl (upd (sm_ap (sm_ap fB 0 fk nk) nk (fun _ => 0) k) (nk + k) 0))), (hy, .inr (2, [.ref by_, .int (nI nk)])), (by_, .inl (cI, ny, .inl fk))] := hD.sub [0, 1, 2, 3, 4, 5, 8, 9, 6, 7] rfl rfl
          refine lv_iinc (v := nI (nk + (k + 1))) (lv' := [(2, .int (nI (nk + (k + 1)))), (0, .ref hk), (1, .ref hy)]) hx hb dX1_begin_79 hl (k := 0) rfl (nI_1 (nk + k)) (by decide) rfl (fun ls hl => ?_)
          refine lv_goto (tgt := 65) hx hb dX1_begin_82 (by decide) ?_
          rw [show upd (sm_ap _ nk (fun _ => 0) k) (nk + k) 0 = _ from sm_ap_s _ nk (fun _ => 0) k] at hP hD
          exact ih (k + 1) _ _ _ (by omega) (by omega) hP hD hS (lv_sub hl [0, 1, 2] rfl)
    exact lp65 _ 0 _ _ _ (Nat.lt_succ_self _) (Nat.zero_le _) (by rw [sm_ap_0]; exact hP) (by rw [sm_ap_0]; exact hD) hS (lv_sub hl [0, 1, 2] rfl)
  ·
    have hsm : 64 < nk := by
      rcases Nat.lt_or_ge 64 nk with q | q
      · exact q
      · exact absurd (nI_le q (by omega)) c_13
    refine lv_aload_n hx hb dX1_begin_16 rfl (lv_at hl 0 rfl) ?_
    refine va_get (D := D) (ci := 1) (v := .ref hh) (C := RX1) (T := TX1) (N := 3) hx hb hts hw_X1 hown hK hP 0 rfl rfl 0 (by decide) hf_12 (fun _ h9 => h9) rfl dX1_begin_17 ?_
    refine sm_callVv (wc := [(hh, .inr (0, [.ref hm, .ref aw, .ref ad])), (hm, .inr (2, [.ref bm, .int um])), (bm, .inl (cI, 448, .inl fm))]) (wr := [(hk, .inr (1, [.ref hh, .ref hB, .ref hI])), (aw, .inl (cI, 64, .inl fw)), (ad, .inl (cI, 8, .inl fd)), (hB, .inr (2, [.ref bB, .int (nI 0)])), (bB, .inl (cI, 64, .inl fB)), (hy, .inr (2, [.ref by_, .int (nI nk)])), (by_, .inl (cI, ny, .inl fk))]) (As := []) (rest := []) ⟨hx, hb, hml, hown, hts⟩ (sc_X0_begin l D cI (some (tk, tf)) _ hh hm bm aw ad fm um ) (cwV 0 hts gX1_begin_X0_begin rfl rfl rfl (by decide +kernel) ⟨Nat.le_of_ble_eq_true rfl, Nat.le_of_ble_eq_true rfl⟩) hP hD hS hA hK hT [1, 2, 3] [0, 4, 5, 6, 7, 8, 9] rfl rfl rfl rfl (by decide) 0 0 rfl rfl rfl rfl hl.1 rfl (Nat.le_of_ble_eq_true rfl) dX1_begin_20 ⟨Nat.zero_le _, Nat.zero_le _⟩ (fun zt H1 locs ht hvm hB hJ hS => ?_)
    obtain ⟨hP1, -, hD1⟩ := hB
    rw [ht] at hP1
    obtain ⟨hP, hD⟩ := hJ _ hP1 hD1
    clear hJ
    generalize H1 = H at hP hS ⊢
    have hP : va_P D vwCl [(hk, .inr (1, [.ref hh, .ref hB, .ref hI])), (hh, .inr (0, [.ref hm, .ref aw, .ref ad])), (hm, .inr (2, [.ref bm, .int (nI 0)])), (bm, .inl (cI, 448, .inl fm)), (aw, .inl (cI, 64, .inl fw)), (ad, .inl (cI, 8, .inl fd)), (hB, .inr (2, [.ref bB, .int (nI 0)])), (bB, .inl (cI, 64, .inl fB)), (hy, .inr (2, [.ref by_, .int (nI nk)])), (by_, .inl (cI, ny, .inl fk))] H := hP.sub [0, 7, 8, 9, 1, 2, 3, 4, 5, 6] rfl
    have hD : va_D A [(hk, .inr (1, [.ref hh, .ref hB, .ref hI])), (hh, .inr (0, [.ref hm, .ref aw, .ref ad])), (hm, .inr (2, [.ref bm, .int (nI 0)])), (bm, .inl (cI, 448, .inl fm)), (aw, .inl (cI, 64, .inl fw)), (ad, .inl (cI, 8, .inl fd)), (hB, .inr (2, [.ref bB, .int (nI 0)])), (bB, .inl (cI, 64, .inl fB)), (hy, .inr (2, [.ref by_, .int (nI nk)])), (by_, .inl (cI, ny, .inl fk))] := hD.sub [0, 7, 8, 9, 1, 2, 3, 4, 5, 6] rfl rfl
    refine lv_aload_n hx hb dX1_begin_23 rfl (lv_at hl 0 rfl) ?_
    refine va_get (D := D) (ci := 1) (v := .ref hh) (C := RX1) (T := TX1) (N := 3) hx hb hts hw_X1 hown hK hP 0 rfl rfl 0 (by decide) hf_12 (fun _ h9 => h9) rfl dX1_begin_24 ?_
    refine lv_aload_n hx hb dX1_begin_27 rfl (lv_at hl 1 rfl) ?_
    refine sm_callVv (wc := [(hh, .inr (0, [.ref hm, .ref aw, .ref ad])), (hm, .inr (2, [.ref bm, .int (nI 0)])), (bm, .inl (cI, 448, .inl fm)), (hy, .inr (2, [.ref by_, .int (nI nk)])), (by_, .inl (cI, ny, .inl fk))]) (wr := [(hk, .inr (1, [.ref hh, .ref hB, .ref hI])), (aw, .inl (cI, 64, .inl fw)), (ad, .inl (cI, 8, .inl fd)), (hB, .inr (2, [.ref bB, .int (nI 0)])), (bB, .inl (cI, 64, .inl fB))]) (As := [.ref hy]) (rest := []) ⟨hx, hb, hml, hown, hts⟩ (sc_X0_add l D cI (some (tk, tf)) _ hh hm bm aw ad 0 hy by_ ny nk fm fk (by omega) hnk hny) (cwV 1 hts gX1_begin_X0_add rfl rfl rfl (by decide +kernel) ⟨Nat.le_of_ble_eq_true rfl, Nat.le_of_ble_eq_true rfl⟩) hP hD hS hA hK hT [1, 2, 3, 8, 9] [0, 4, 5, 6, 7] rfl rfl rfl rfl (by decide) 0 0 rfl rfl rfl rfl hl.1 rfl (Nat.le_of_ble_eq_true rfl) dX1_begin_28 ⟨Nat.zero_le _, Nat.zero_le _⟩ (fun zt H1 locs ht hvm hB hJ hS => ?_)
    obtain ⟨hP1, -, hD1⟩ := hB
    rw [ht] at hP1
    obtain ⟨hP, hD⟩ := hJ _ hP1 hD1
    clear hJ
    generalize H1 = H at hP hS ⊢
    have hP : va_P D vwCl [(hk, .inr (1, [.ref hh, .ref hB, .ref hI])), (hh, .inr (0, [.ref hm, .ref aw, .ref ad])), (hm, .inr (2, [.ref bm, .int (nI (0 + nk))])), (bm, .inl (cI, 448, .inl (sm_ap fm 0 fk nk))), (aw, .inl (cI, 64, .inl fw)), (ad, .inl (cI, 8, .inl fd)), (hB, .inr (2, [.ref bB, .int (nI 0)])), (bB, .inl (cI, 64, .inl fB)), (hy, .inr (2, [.ref by_, .int (nI nk)])), (by_, .inl (cI, ny, .inl fk))] H := hP.sub [0, 5, 6, 7, 1, 2, 3, 4, 8, 9] rfl
    have hD : va_D A [(hk, .inr (1, [.ref hh, .ref hB, .ref hI])), (hh, .inr (0, [.ref hm, .ref aw, .ref ad])), (hm, .inr (2, [.ref bm, .int (nI (0 + nk))])), (bm, .inl (cI, 448, .inl (sm_ap fm 0 fk nk))), (aw, .inl (cI, 64, .inl fw)), (ad, .inl (cI, 8, .inl fd)), (hB, .inr (2, [.ref bB, .int (nI 0)])), (bB, .inl (cI, 64, .inl fB)), (hy, .inr (2, [.ref by_, .int (nI nk)])), (by_, .inl (cI, ny, .inl fk))] := hD.sub [0, 5, 6, 7, 1, 2, 3, 4, 8, 9] rfl rfl
    refine lv_aload_n hx hb dX1_begin_31 rfl (lv_at hl 0 rfl) ?_
    refine va_get (D := D) (ci := 1) (v := .ref hh) (C := RX1) (T := TX1) (N := 3) hx hb hts hw_X1 hown hK hP 0 rfl rfl 0 (by decide) hf_12 (fun _ h9 => h9) rfl dX1_begin_32 ?_
    refine lv_aload_n hx hb dX1_begin_35 rfl (lv_at hl 0 rfl) ?_
    refine va_get (D := D) (ci := 1) (v := .ref hB) (C := RX1) (T := TX1) (N := 3) hx hb hts hw_X1 hown hK hP 0 rfl rfl 1 (by decide) hf_23 (fun _ h9 => h9) rfl dX1_begin_36 ?_
    refine sm_callVv (wc := [(hh, .inr (0, [.ref hm, .ref aw, .ref ad])), (hm, .inr (2, [.ref bm, .int (nI (0 + nk))])), (bm, .inl (cI, 448, .inl (sm_ap fm 0 fk nk))), (aw, .inl (cI, 64, .inl fw)), (ad, .inl (cI, 8, .inl fd)), (hB, .inr (2, [.ref bB, .int (nI 0)])), (bB, .inl (cI, 64, .inl fB))]) (wr := [(hk, .inr (1, [.ref hh, .ref hB, .ref hI])), (hy, .inr (2, [.ref by_, .int (nI nk)])), (by_, .inl (cI, ny, .inl fk))]) (As := [.ref hB]) (rest := []) ⟨hx, hb, hml, hown, hts⟩ (sc_X0_end l D cI tk tf _ hh hm bm aw ad hB bB 64 (0 + nk) (sm_ap fm 0 fk nk) fw fd fB (nI 0) (by unfold sm_nb; omega) (by decide) (by decide)) (cwV 1 hts gX1_begin_X0_end rfl rfl rfl (by decide +kernel) ⟨Nat.le_of_ble_eq_true rfl, Nat.le_of_ble_eq_true rfl⟩) hP hD hS hA hK hT [1, 2, 3, 4, 5, 6, 7] [0, 8, 9] rfl rfl rfl rfl (by decide) 0 0 rfl rfl rfl rfl hl.1 rfl (Nat.le_of_ble_eq_true rfl) dX1_begin_39 ⟨Nat.zero_le _, Nat.zero_le _⟩ (fun zt H1 locs ht hvm hB hJ hS => ?_)
    obtain ⟨fm3, fw3, fd3, hP1, -, hD1⟩ := hB
    rw [ht] at hP1
    obtain ⟨hP, hD⟩ := hJ _ hP1 hD1
    clear hJ
    generalize H1 = H at hP hS ⊢
    have hP : va_P D vwCl [(hk, .inr (1, [.ref hh, .ref hB, .ref hI])), (hh, .inr (0, [.ref hm, .ref aw, .ref ad])), (hm, .inr (2, [.ref bm, .int (nI (64 * sm_nb (0 + nk)))])), (bm, .inl (cI, 448, .inl fm3)), (aw, .inl (cI, 64, .inl fw3)), (ad, .inl (cI, 8, .inl fd3)), (hB, .inr (2, [.ref bB, .int (nI 32)])), (bB, .inl (cI, 64, .inl (sm_ap fB 0 (sm_sha (sm_ap fm 0 fk nk) (0 + nk)) 32))), (hy, .inr (2, [.ref by_, .int (nI nk)])), (by_, .inl (cI, ny, .inl fk))] H := hP.sub [0, 3, 4, 5, 6, 7, 8, 9, 1, 2] rfl
    have hD : va_D A [(hk, .inr (1, [.ref hh, .ref hB, .ref hI])), (hh, .inr (0, [.ref hm, .ref aw, .ref ad])), (hm, .inr (2, [.ref bm, .int (nI (64 * sm_nb (0 + nk)))])), (bm, .inl (cI, 448, .inl fm3)), (aw, .inl (cI, 64, .inl fw3)), (ad, .inl (cI, 8, .inl fd3)), (hB, .inr (2, [.ref bB, .int (nI 32)])), (bB, .inl (cI, 64, .inl (sm_ap fB 0 (sm_sha (sm_ap fm 0 fk nk) (0 + nk)) 32))), (hy, .inr (2, [.ref by_, .int (nI nk)])), (by_, .inl (cI, ny, .inl fk))] := hD.sub [0, 3, 4, 5, 6, 7, 8, 9, 1, 2] rfl rfl
    refine lv_goto (tgt := 57) hx hb dX1_begin_42 (by decide) ?_
    refine lv_aload_n hx hb dX1_begin_57 rfl (lv_at hl 0 rfl) ?_
    refine va_get (D := D) (ci := 1) (v := .ref hB) (C := RX1) (T := TX1) (N := 3) hx hb hts hw_X1 hown hK hP 0 rfl rfl 1 (by decide) hf_23 (fun _ h9 => h9) rfl dX1_begin_58 ?_
    refine sm_callVi (wc := [(hB, .inr (2, [.ref bB, .int (nI 32)])), (bB, .inl (cI, 64, .inl (sm_ap fB 0 (sm_sha (sm_ap fm 0 fk nk) (0 + nk)) 32)))]) (wr := [(hk, .inr (1, [.ref hh, .ref hB, .ref hI])), (hh, .inr (0, [.ref hm, .ref aw, .ref ad])), (hm, .inr (2, [.ref bm, .int (nI (64 * sm_nb (0 + nk)))])), (bm, .inl (cI, 448, .inl fm3)), (aw, .inl (cI, 64, .inl fw3)), (ad, .inl (cI, 8, .inl fd3)), (hy, .inr (2, [.ref by_, .int (nI nk)])), (by_, .inl (cI, ny, .inl fk))]) (As := []) (rest := []) ⟨hx, hb, hml, hown, hts⟩ (sc_X2_size l D cI (some (tk, tf)) _ hB bB 64 (sm_ap fB 0 (sm_sha (sm_ap fm 0 fk nk) (0 + nk)) 32) (nI 32) ) (cwV 0 hts gX1_begin_X2_size rfl rfl rfl (by decide +kernel) ⟨Nat.le_of_ble_eq_true rfl, Nat.le_of_ble_eq_true rfl⟩) hP hD hS hA hK hT [6, 7] [0, 1, 2, 3, 4, 5, 8, 9] rfl rfl rfl rfl (by decide) 0 2 rfl rfl rfl rfl hl.1 rfl (Nat.le_of_ble_eq_true rfl) dX1_begin_61 ⟨Nat.zero_le _, Nat.zero_le _⟩ (fun r_61 zt H1 locs ht hvm hw hB hJ hS => ?_)
    obtain ⟨hP1, -, hD1⟩ := hB
    rw [ht] at hP1
    obtain ⟨hP, hD⟩ := hJ _ hP1 hD1
    clear hJ
    generalize H1 = H at hP hS ⊢
    have hP : va_P D vwCl [(hk, .inr (1, [.ref hh, .ref hB, .ref hI])), (hh, .inr (0, [.ref hm, .ref aw, .ref ad])), (hm, .inr (2, [.ref bm, .int (nI (64 * sm_nb (0 + nk)))])), (bm, .inl (cI, 448, .inl fm3)), (aw, .inl (cI, 64, .inl fw3)), (ad, .inl (cI, 8, .inl fd3)), (hB, .inr (2, [.ref bB, .int (nI 32)])), (bB, .inl (cI, 64, .inl (sm_ap fB 0 (sm_sha (sm_ap fm 0 fk nk) (0 + nk)) 32))), (hy, .inr (2, [.ref by_, .int (nI nk)])), (by_, .inl (cI, ny, .inl fk))] H := hP.sub [0, 1, 2, 3, 4, 5, 8, 9, 6, 7] rfl
    have hD : va_D A [(hk, .inr (1, [.ref hh, .ref hB, .ref hI])), (hh, .inr (0, [.ref hm, .ref aw, .ref ad])), (hm, .inr (2, [.ref bm, .int (nI (64 * sm_nb (0 + nk)))])), (bm, .inl (cI, 448, .inl fm3)), (aw, .inl (cI, 64, .inl fw3)), (ad, .inl (cI, 8, .inl fd3)), (hB, .inr (2, [.ref bB, .int (nI 32)])), (bB, .inl (cI, 64, .inl (sm_ap fB 0 (sm_sha (sm_ap fm 0 fk nk) (0 + nk)) 32))), (hy, .inr (2, [.ref by_, .int (nI nk)])), (by_, .inl (cI, ny, .inl fk))] := hD.sub [0, 1, 2, 3, 4, 5, 8, 9, 6, 7] rfl rfl
    subst hw
    refine lv_istore_n (lv' := [(2, .int (nI 32)), (0, .ref hk), (1, .ref hy)]) hx hb dX1_begin_64 rfl hl (by decide) rfl (fun ls hl => ?_)
    have lp65 : ∀ (zn : Nat) (k : Nat) (H : Heap) (locs : List Loc) (ls : Array Slot), 64 - 32 - k < zn → k ≤ 64 - 32 → va_P D vwCl [(hk, .inr (1, [.ref hh, .ref hB, .ref hI])), (hh, .inr (0, [.ref hm, .ref aw, .ref ad])), (hm, .inr (2, [.ref bm, .int (nI (64 * sm_nb (0 + nk)))])), (bm, .inl (cI, 448, .inl fm3)), (aw, .inl (cI, 64, .inl fw3)), (ad, .inl (cI, 8, .inl fd3)), (hB, .inr (2, [.ref bB, .int (nI (32 + k))])), (bB, .inl (cI, 64, .inl (sm_ap (sm_ap fB 0 (sm_sha (sm_ap fm 0 fk nk) (0 + nk)) 32) 32 (fun _ => 0) k))), (hy, .inr (2, [.ref by_, .int (nI nk)])), (by_, .inl (cI, ny, .inl fk))] H → va_D A [(hk, .inr (1, [.ref hh, .ref hB, .ref hI])), (hh, .inr (0, [.ref hm, .ref aw, .ref ad])), (hm, .inr (2, [.ref bm, .int (nI (64 * sm_nb (0 + nk)))])), (bm, .inl (cI, 448, .inl fm3)), (aw, .inl (cI, 64, .inl fw3)), (ad, .inl (cI, 8, .inl fd3)), (hB, .inr (2, [.ref bB, .int (nI (32 + k))])), (bB, .inl (cI, 64, .inl (sm_ap (sm_ap fB 0 (sm_sha (sm_ap fm 0 fk nk) (0 + nk)) 32) 32 (fun _ => 0) k))), (hy, .inr (2, [.ref by_, .int (nI nk)])), (by_, .inl (cI, ny, .inl fk))] → va_S A s.heap H locs → lv_has ls 3 [(2, .int (nI (32 + k))), (0, .ref hk), (1, .ref hy)] → W p l e (headSpec wsX1_begin rm_X1_begin).room s m ([.ref hk, .ref hy] : List Value).toArray below meth c H locs 0 0 Q (F0 m 65 ls []) := by
      intro zn
      induction zn with
      | zero => intro k H locs ls hmu; exact absurd hmu (Nat.not_lt_zero _)
      | succ zn ih =>
        intro k H locs ls hmu hk1 hP hD hS hl
        refine lv_iload_n hx hb dX1_begin_65 rfl (lv_at hl 0 rfl) ?_
        refine lv_bipush (v := 64) hx hb dX1_begin_66 (by decide) ?_
        refine lv_icmp_ge (tgt := 85) hx hb dX1_begin_68 (by decide) (fun c_68 => ?_) (fun c_68 => ?_)
        ·
          have hex : k = 64 - 32 := by
            rcases Nat.lt_or_ge (32 + k) 64 with q | q
            · exact absurd c_68 (nI_ge q (by decide))
            · omega
          rw [hex, show 32 + (64 - 32) = 64 by omega] at hP hD
          have hP := sm_arr hP 7 rfl (sm_kb fk nk) (sm_kbA hsm)
          have hD := sm_arrD (y := .inl (cI, 64, .inl (sm_kb fk nk))) hD 7 rfl
          have hP : va_P D vwCl [(hk, .inr (1, [.ref hh, .ref hB, .ref hI])), (hh, .inr (0, [.ref hm, .ref aw, .ref ad])), (hm, .inr (2, [.ref bm, .int (nI (64 * sm_nb (0 + nk)))])), (bm, .inl (cI, 448, .inl fm3)), (aw, .inl (cI, 64, .inl fw3)), (ad, .inl (cI, 8, .inl fd3)), (hB, .inr (2, [.ref bB, .int (nI 64)])), (bB, .inl (cI, 64, .inl (sm_kb fk nk))), (hy, .inr (2, [.ref by_, .int (nI nk)])), (by_, .inl (cI, ny, .inl fk))] H := hP
          have hD : va_D A [(hk, .inr (1, [.ref hh, .ref hB, .ref hI])), (hh, .inr (0, [.ref hm, .ref aw, .ref ad])), (hm, .inr (2, [.ref bm, .int (nI (64 * sm_nb (0 + nk)))])), (bm, .inl (cI, 448, .inl fm3)), (aw, .inl (cI, 64, .inl fw3)), (ad, .inl (cI, 8, .inl fd3)), (hB, .inr (2, [.ref bB, .int (nI 64)])), (bB, .inl (cI, 64, .inl (sm_kb fk nk))), (hy, .inr (2, [.ref by_, .int (nI nk)])), (by_, .inl (cI, ny, .inl fk))] := hD
          refine lv_aload_n hx hb dX1_begin_85 rfl (lv_at hl 1 rfl) ?_
          refine va_get (D := D) (ci := 1) (v := .ref hh) (C := RX1) (T := TX1) (N := 3) hx hb hts hw_X1 hown hK hP 0 rfl rfl 0 (by decide) hf_12 (fun _ h9 => h9) rfl dX1_begin_86 ?_
          refine sm_callVv (wc := [(hh, .inr (0, [.ref hm, .ref aw, .ref ad])), (hm, .inr (2, [.ref bm, .int (nI (64 * sm_nb (0 + nk)))])), (bm, .inl (cI, 448, .inl fm3))]) (wr := [(hk, .inr (1, [.ref hh, .ref hB, .ref hI])), (aw, .inl (cI, 64, .inl fw3)), (ad, .inl (cI, 8, .inl fd3)), (hB, .inr (2, [.ref bB, .int (nI 64)])), (bB, .inl (cI, 64, .inl (sm_kb fk nk))), (hy, .inr (2, [.ref by_, .int (nI nk)])), (by_, .inl (cI, ny, .inl fk))]) (As := []) (rest := []) ⟨hx, hb, hml, hown, hts⟩ (sc_X0_begin l D cI (some (tk, tf)) _ hh hm bm aw ad fm3 (nI (64 * sm_nb (0 + nk))) ) (cwV 0 hts gX1_begin_X0_begin rfl rfl rfl (by decide +kernel) ⟨Nat.le_of_ble_eq_true rfl, Nat.le_of_ble_eq_true rfl⟩) hP hD hS hA hK hT [1, 2, 3] [0, 4, 5, 6, 7, 8, 9] rfl rfl rfl rfl (by decide) 0 0 rfl rfl rfl rfl hl.1 rfl (Nat.le_of_ble_eq_true rfl) dX1_begin_89 ⟨Nat.zero_le _, Nat.zero_le _⟩ (fun zt H1 locs ht hvm hB hJ hS => ?_)
          obtain ⟨hP1, -, hD1⟩ := hB
          rw [ht] at hP1
          obtain ⟨hP, hD⟩ := hJ _ hP1 hD1
          clear hJ
          generalize H1 = H at hP hS ⊢
          have hP : va_P D vwCl [(hk, .inr (1, [.ref hh, .ref hB, .ref hI])), (hh, .inr (0, [.ref hm, .ref aw, .ref ad])), (hm, .inr (2, [.ref bm, .int (nI 0)])), (bm, .inl (cI, 448, .inl fm3)), (aw, .inl (cI, 64, .inl fw3)), (ad, .inl (cI, 8, .inl fd3)), (hB, .inr (2, [.ref bB, .int (nI 64)])), (bB, .inl (cI, 64, .inl (sm_kb fk nk))), (hy, .inr (2, [.ref by_, .int (nI nk)])), (by_, .inl (cI, ny, .inl fk))] H := hP.sub [0, 7, 8, 9, 1, 2, 3, 4, 5, 6] rfl
          have hD : va_D A [(hk, .inr (1, [.ref hh, .ref hB, .ref hI])), (hh, .inr (0, [.ref hm, .ref aw, .ref ad])), (hm, .inr (2, [.ref bm, .int (nI 0)])), (bm, .inl (cI, 448, .inl fm3)), (aw, .inl (cI, 64, .inl fw3)), (ad, .inl (cI, 8, .inl fd3)), (hB, .inr (2, [.ref bB, .int (nI 64)])), (bB, .inl (cI, 64, .inl (sm_kb fk nk))), (hy, .inr (2, [.ref by_, .int (nI nk)])), (by_, .inl (cI, ny, .inl fk))] := hD.sub [0, 7, 8, 9, 1, 2, 3, 4, 5, 6] rfl rfl
          refine lv_aload_n hx hb dX1_begin_92 rfl (lv_at hl 1 rfl) ?_
          refine va_get (D := D) (ci := 1) (v := .ref hh) (C := RX1) (T := TX1) (N := 3) hx hb hts hw_X1 hown hK hP 0 rfl rfl 0 (by decide) hf_12 (fun _ h9 => h9) rfl dX1_begin_93 ?_
          refine lv_aload_n hx hb dX1_begin_96 rfl (lv_at hl 1 rfl) ?_
          refine va_get (D := D) (ci := 1) (v := .ref hB) (C := RX1) (T := TX1) (N := 3) hx hb hts hw_X1 hown hK hP 0 rfl rfl 1 (by decide) hf_23 (fun _ h9 => h9) rfl dX1_begin_97 ?_
          refine lv_bipush (v := 54) hx hb dX1_begin_100 (by decide) ?_
          refine sm_callVv (wc := [(hh, .inr (0, [.ref hm, .ref aw, .ref ad])), (hm, .inr (2, [.ref bm, .int (nI 0)])), (bm, .inl (cI, 448, .inl fm3)), (hB, .inr (2, [.ref bB, .int (nI 64)])), (bB, .inl (cI, 64, .inl (sm_kb fk nk)))]) (wr := [(hk, .inr (1, [.ref hh, .ref hB, .ref hI])), (aw, .inl (cI, 64, .inl fw3)), (ad, .inl (cI, 8, .inl fd3)), (hy, .inr (2, [.ref by_, .int (nI nk)])), (by_, .inl (cI, ny, .inl fk))]) (As := [.ref hB, .int 54]) (rest := []) ⟨hx, hb, hml, hown, hts⟩ (sc_X0_addXor l D cI (some (tk, tf)) _ hh hm bm aw ad 0 hB bB 64 64 fm3 (sm_kb fk nk) 54 (by decide) (by decide) (by decide)) (cwV 2 hts gX1_begin_X0_addXor rfl rfl rfl (by decide +kernel) ⟨Nat.le_of_ble_eq_true rfl, Nat.le_of_ble_eq_true rfl⟩) hP hD hS hA hK hT [1, 2, 3, 6, 7] [0, 4, 5, 8, 9] rfl rfl rfl rfl (by decide) 0 0 rfl rfl rfl rfl hl.1 rfl (Nat.le_of_ble_eq_true rfl) dX1_begin_102 ⟨Nat.zero_le _, Nat.zero_le _⟩ (fun zt H1 locs ht hvm hB hJ hS => ?_)
          obtain ⟨hP1, -, hD1⟩ := hB
          rw [ht] at hP1
          obtain ⟨hP, hD⟩ := hJ _ hP1 hD1
          clear hJ
          generalize H1 = H at hP hS ⊢
          have hP : va_P D vwCl [(hk, .inr (1, [.ref hh, .ref hB, .ref hI])), (hh, .inr (0, [.ref hm, .ref aw, .ref ad])), (hm, .inr (2, [.ref bm, .int (nI (0 + 64))])), (bm, .inl (cI, 448, .inl (sm_ap fm3 0 (fun j => (sm_kb fk nk) j ^^^ 54) 64))), (aw, .inl (cI, 64, .inl fw3)), (ad, .inl (cI, 8, .inl fd3)), (hB, .inr (2, [.ref bB, .int (nI 64)])), (bB, .inl (cI, 64, .inl (sm_kb fk nk))), (hy, .inr (2, [.ref by_, .int (nI nk)])), (by_, .inl (cI, ny, .inl fk))] H := hP.sub [0, 5, 6, 7, 1, 2, 8, 9, 3, 4] rfl
          have hD : va_D A [(hk, .inr (1, [.ref hh, .ref hB, .ref hI])), (hh, .inr (0, [.ref hm, .ref aw, .ref ad])), (hm, .inr (2, [.ref bm, .int (nI (0 + 64))])), (bm, .inl (cI, 448, .inl (sm_ap fm3 0 (fun j => (sm_kb fk nk) j ^^^ 54) 64))), (aw, .inl (cI, 64, .inl fw3)), (ad, .inl (cI, 8, .inl fd3)), (hB, .inr (2, [.ref bB, .int (nI 64)])), (bB, .inl (cI, 64, .inl (sm_kb fk nk))), (hy, .inr (2, [.ref by_, .int (nI nk)])), (by_, .inl (cI, ny, .inl fk))] := hD.sub [0, 5, 6, 7, 1, 2, 8, 9, 3, 4] rfl rfl
          rw [hQ]
          have hP9 : va_P D vwCl [(hk, .inr (1, [.ref hh, .ref hB, .ref hI])), (hh, .inr (0, [.ref hm, .ref aw, .ref ad])), (hm, .inr (2, [.ref bm, .int (nI (0 + 64))])), (bm, .inl (cI, 448, .inl (sm_ap fm3 0 (fun j => (sm_kb fk nk) j ^^^ 54) 64))), (aw, .inl (cI, 64, .inl fw3)), (ad, .inl (cI, 8, .inl fd3)), (hB, .inr (2, [.ref bB, .int (nI 64)])), (bB, .inl (cI, 64, .inl (sm_kb fk nk))), (hy, .inr (2, [.ref by_, .int (nI nk)])), (by_, .inl (cI, ny, .inl fk))] H := hP
          have hD9 : va_D A [(hk, .inr (1, [.ref hh, .ref hB, .ref hI])), (hh, .inr (0, [.ref hm, .ref aw, .ref ad])), (hm, .inr (2, [.ref bm, .int (nI (0 + 64))])), (bm, .inl (cI, 448, .inl (sm_ap fm3 0 (fun j => (sm_kb fk nk) j ^^^ 54) 64))), (aw, .inl (cI, 64, .inl fw3)), (ad, .inl (cI, 8, .inl fd3)), (hB, .inr (2, [.ref bB, .int (nI 64)])), (bB, .inl (cI, 64, .inl (sm_kb fk nk))), (hy, .inr (2, [.ref by_, .int (nI nk)])), (by_, .inl (cI, ny, .inl fk))] := hD
          exact W.vret hx hb hr (fun t ht hW => ⟨⟨(), rfl, trivial, ⟨_, _, _, by rw [ht]; exact hP9, va_K.moved hW.alike hK, hD9⟩⟩, hS.F ht⟩) hS.2.2 dX1_begin_105
        ·
          have hlt : 32 + k < 64 := by
            rcases Nat.lt_or_ge (32 + k) 64 with q | q
            · exact q
            · exact absurd (nI_le q (by omega)) c_68
          refine lv_aload_n hx hb dX1_begin_71 rfl (lv_at hl 1 rfl) ?_
          refine va_get (D := D) (ci := 1) (v := .ref hB) (C := RX1) (T := TX1) (N := 3) hx hb hts hw_X1 hown hK hP 0 rfl rfl 1 (by decide) hf_23 (fun _ h9 => h9) rfl dX1_begin_72 ?_
          refine lv_iconst (v := 0) hx hb dX1_begin_75 (by decide) ?_
          refine sm_callVv (wc := [(hB, .inr (2, [.ref bB, .int (nI (32 + k))])), (bB, .inl (cI, 64, .inl (sm_ap (sm_ap fB 0 (sm_sha (sm_ap fm 0 fk nk) (0 + nk)) 32) 32 (fun _ => 0) k)))]) (wr := [(hk, .inr (1, [.ref hh, .ref hB, .ref hI])), (hh, .inr (0, [.ref hm, .ref aw, .ref ad])), (hm, .inr (2, [.ref bm, .int (nI (64 * sm_nb (0 + nk)))])), (bm, .inl (cI, 448, .inl fm3)), (aw, .inl (cI, 64, .inl fw3)), (ad, .inl (cI, 8, .inl fd3)), (hy, .inr (2, [.ref by_, .int (nI nk)])), (by_, .inl (cI, ny, .inl fk))]) (As := [.int 0]) (rest := []) ⟨hx, hb, hml, hown, hts⟩ (sc_X2_put l D cI (some (tk, tf)) _ hB bB 64 (32 + k) (sm_ap (sm_ap fB 0 (sm_sha (sm_ap fm 0 fk nk) (0 + nk)) 32) 32 (fun _ => 0) k) 0 hlt (by decide)) (cwV 1 hts gX1_begin_X2_put rfl rfl rfl (by decide +kernel) ⟨Nat.le_of_ble_eq_true rfl, Nat.le_of_ble_eq_true rfl⟩) hP hD hS hA hK hT [6, 7] [0, 1, 2, 3, 4, 5, 8, 9] rfl rfl rfl rfl (by decide) 0 2 rfl rfl rfl rfl hl.1 rfl (Nat.le_of_ble_eq_true rfl) dX1_begin_76 ⟨Nat.zero_le _, Nat.zero_le _⟩ (fun zt H1 locs ht hvm hB hJ hS => ?_)
          obtain ⟨hP1, -, hD1⟩ := hB
          rw [ht] at hP1
          obtain ⟨hP, hD⟩ := hJ _ hP1 hD1
          clear hJ
          generalize H1 = H at hP hS ⊢
          have hP : va_P D vwCl [(hk, .inr (1, [.ref hh, .ref hB, .ref hI])), (hh, .inr (0, [.ref hm, .ref aw, .ref ad])), (hm, .inr (2, [.ref bm, .int (nI (64 * sm_nb (0 + nk)))])), (bm, .inl (cI, 448, .inl fm3)), (aw, .inl (cI, 64, .inl fw3)), (ad, .inl (cI, 8, .inl fd3)), (hB, .inr (2, [.ref bB, .int (nI (32 + k + 1))])), (bB, .inl (cI, 64, .inl (upd (sm_ap (sm_ap fB 0 (sm_sha (sm_ap fm 0 fk nk) (0 + nk)) 32) 32 (fun _ => 0) k) (32 + k) 0))), (hy, .inr (2, [.ref by_, .int (nI nk)])), (by_, .inl (cI, ny, .inl fk))] H := hP.sub [0, 1, 2, 3, 4, 5, 8, 9, 6, 7] rfl
          have hD : va_D A [(hk, .inr (1, [.ref hh, .ref hB, .ref hI])), (hh, .inr (0, [.ref hm, .ref aw, .ref ad])), (hm, .inr (2, [.ref bm, .int (nI (64 * sm_nb (0 + nk)))])), (bm, .inl (cI, 448, .inl fm3)), (aw, .inl (cI, 64, .inl fw3)), (ad, .inl (cI, 8, .inl fd3)), (hB, .inr (2, [.ref bB, .int (nI (32 + k + 1))])), (bB, .inl (cI, 64, .inl (upd (sm_ap (sm_ap fB 0 (sm_sha (sm_ap fm 0 fk nk) (0 + nk)) 32) 32 (fun _ => 0) k) (32 + k) 0))), (hy, .inr (2, [.ref by_, .int (nI nk)])), (by_, .inl (cI, ny, .inl fk))] := hD.sub [0, 1, 2, 3, 4, 5, 8, 9, 6, 7] rfl rfl
          refine lv_iinc (v := nI (32 + (k + 1))) (lv' := [(2, .int (nI (32 + (k + 1)))), (0, .ref hk), (1, .ref hy)]) hx hb dX1_begin_79 hl (k := 0) rfl (nI_1 (32 + k)) (by decide) rfl (fun ls hl => ?_)
          refine lv_goto (tgt := 65) hx hb dX1_begin_82 (by decide) ?_
          rw [show upd (sm_ap _ 32 (fun _ => 0) k) (32 + k) 0 = _ from sm_ap_s _ 32 (fun _ => 0) k] at hP hD
          exact ih (k + 1) _ _ _ (by omega) (by omega) hP hD hS (lv_sub hl [0, 1, 2] rfl)
    exact lp65 _ 0 _ _ _ (Nat.lt_succ_self _) (Nat.zero_le _) (by rw [sm_ap_0]; exact hP) (by rw [sm_ap_0]; exact hD) hS (lv_sub hl [0, 1, 2] rfl)

def rm_X1_add : Room := ({ frames := 3, cells := 0, slots := 0, locals := 66 } : Room)
set_option maxHeartbeats 4000000 in
set_option maxRecDepth 100000 in
/-- KeyedHasher.add -/
theorem sc_X1_add (l : Launch) (D : va_G) (cI : ClassId) (th : Option (Nat × Nat)) (sz : Nat) (hk hh hm bm aw ad hB bB hI bI : Nat) (u qr rb nr u2 : Nat) (fm g : Nat → Int32) (hE : u + u2 ≤ 448) (hu2 : u2 ≤ nr) (hnr : nr < 2 ^ 31) : Met l yX1_add wsX1_add rm_X1_add (va_Pc [.ref hk, .ref qr] (sm_PW D cI th [(hk, .inr (1, [.ref hh, .ref hB, .ref hI])), (hh, .inr (0, [.ref hm, .ref aw, .ref ad])), (hm, .inr (2, [.ref bm, .int (nI u)])), (bm, .inl (cI, 448, .inl fm)), (qr, .inr (2, [.ref rb, .int (nI u2)])), (rb, .inl (cI, nr, .inl g))] sz)) (va_Qv (fun (_ : Unit) => True) (fun _ t => sm_QW D cI (va_A [(hk, .inr (1, [.ref hh, .ref hB, .ref hI])), (hh, .inr (0, [.ref hm, .ref aw, .ref ad])), (hm, .inr (2, [.ref bm, .int (nI u)])), (bm, .inl (cI, 448, .inl fm)), (qr, .inr (2, [.ref rb, .int (nI u2)])), (rb, .inl (cI, nr, .inl g))] sz) [(hk, .inr (1, [.ref hh, .ref hB, .ref hI])), (hh, .inr (0, [.ref hm, .ref aw, .ref ad])), (hm, .inr (2, [.ref bm, .int (nI (u + u2))])), (bm, .inl (cI, 448, .inl (sm_ap fm u g u2))), (qr, .inr (2, [.ref rb, .int (nI u2)])), (rb, .inl (cI, nr, .inl g))] t) (va_A [(hk, .inr (1, [.ref hh, .ref hB, .ref hI])), (hh, .inr (0, [.ref hm, .ref aw, .ref ad])), (hm, .inr (2, [.ref bm, .int (nI u)])), (bm, .inl (cI, 448, .inl fm)), (qr, .inr (2, [.ref rb, .int (nI u2)])), (rb, .inl (cI, nr, .inl g))] sz)) 0 0 (va_A [(hk, .inr (1, [.ref hh, .ref hB, .ref hI])), (hh, .inr (0, [.ref hm, .ref aw, .ref ad])), (hm, .inr (2, [.ref bm, .int (nI u)])), (bm, .inl (cI, 448, .inl fm)), (qr, .inr (2, [.ref rb, .int (nI u2)])), (rb, .inl (cI, nr, .inl g))] sz) := by
  refine Met.ofW (cc := cX1_add) (maxL := 2) (ret := none) (by decide) rfl ?_
  intro p e s m args below meth c s₁ B hml hv
  obtain ⟨rfl, hsz, hP, hK, hD0, hT⟩ := hv
  have hx := B.exec
  have hb := B.bytes
  have hr := B.returns
  have hts := atoms_spec (ws := wsX1_add) B.pre
  have hown : s.vm.findClass RX1 = some m.cls := findClass_of_methodNamed B.named
  have hlocks := B.notSynchronized
  subst hsz
  have hD := hD0.self (sz := s.heap.size)
  generalize hAe : va_A [(hk, .inr (1, [.ref hh, .ref hB, .ref hI])), (hh, .inr (0, [.ref hm, .ref aw, .ref ad])), (hm, .inr (2, [.ref bm, .int (nI u)])), (bm, .inl (cI, 448, .inl fm)), (qr, .inr (2, [.ref rb, .int (nI u2)])), (rb, .inl (cI, nr, .inl g))] s.heap.size = A at hD hT ⊢
  have hA : ∀ q : Nat, s.heap.size ≤ q → A q := fun q h => by rw [← hAe]; exact Or.inr h
  have hS : va_S A s.heap s.heap [] := va_S.rf
  have hl := lv_entry ([.ref hk, .ref qr]) (n := 2) (Nat.le_of_ble_eq_true rfl)
  rw [lg_entry_eq]
  generalize (lg_sl ([.ref hk, .ref qr]) ++ List.replicate (2 - (lg_sl ([.ref hk, .ref qr])).length) Slot.unset).toArray = ls at hl ⊢
  have hl : lv_has ls 2 [(0, .ref hk), (1, .ref qr)] := hl
  refine sm_name (fun Q hQ => ?_)
  have hf_12 := hts (.fieldLink RX1 12 "SeedMill$KeyedHasher" "hasher" "LSeedMill$Hasher;") (by decide +kernel)
  have hw_X1 : ∀ w ∈ wsX10, w ∈ wsX1_add := by decide +kernel
  refine lv_aload_n hx hb dX1_add_0 rfl (lv_at hl 0 rfl) ?_
  refine va_get (D := D) (ci := 1) (v := .ref hh) (C := RX1) (T := TX1) (N := 3) hx hb hts hw_X1 hown hK hP 0 rfl rfl 0 (by decide) hf_12 (fun _ h9 => h9) rfl dX1_add_1 ?_
  refine lv_aload_n hx hb dX1_add_4 rfl (lv_at hl 1 rfl) ?_
  refine sm_callVv (wc := [(hh, .inr (0, [.ref hm, .ref aw, .ref ad])), (hm, .inr (2, [.ref bm, .int (nI u)])), (bm, .inl (cI, 448, .inl fm)), (qr, .inr (2, [.ref rb, .int (nI u2)])), (rb, .inl (cI, nr, .inl g))]) (wr := [(hk, .inr (1, [.ref hh, .ref hB, .ref hI]))]) (As := [.ref qr]) (rest := []) ⟨hx, hb, hml, hown, hts⟩ (sc_X0_add l D cI th _ hh hm bm aw ad u qr rb nr u2 fm g hE hu2 hnr) (cwV 1 hts gX1_add_X0_add rfl rfl rfl (by decide +kernel) ⟨Nat.le_of_ble_eq_true rfl, Nat.le_of_ble_eq_true rfl⟩) hP hD hS hA hK hT [1, 2, 3, 4, 5] [0] rfl rfl rfl rfl (by decide) 0 0 rfl rfl rfl rfl hl.1 rfl (Nat.le_of_ble_eq_true rfl) dX1_add_5 ⟨Nat.zero_le _, Nat.zero_le _⟩ (fun zt H1 locs ht hvm hB hJ hS => ?_)
  obtain ⟨hP1, -, hD1⟩ := hB
  rw [ht] at hP1
  obtain ⟨hP, hD⟩ := hJ _ hP1 hD1
  clear hJ
  generalize H1 = H at hP hS ⊢
  have hP : va_P D vwCl [(hk, .inr (1, [.ref hh, .ref hB, .ref hI])), (hh, .inr (0, [.ref hm, .ref aw, .ref ad])), (hm, .inr (2, [.ref bm, .int (nI (u + u2))])), (bm, .inl (cI, 448, .inl (sm_ap fm u g u2))), (qr, .inr (2, [.ref rb, .int (nI u2)])), (rb, .inl (cI, nr, .inl g))] H := hP.sub [0, 1, 2, 3, 4, 5] rfl
  have hD : va_D A [(hk, .inr (1, [.ref hh, .ref hB, .ref hI])), (hh, .inr (0, [.ref hm, .ref aw, .ref ad])), (hm, .inr (2, [.ref bm, .int (nI (u + u2))])), (bm, .inl (cI, 448, .inl (sm_ap fm u g u2))), (qr, .inr (2, [.ref rb, .int (nI u2)])), (rb, .inl (cI, nr, .inl g))] := hD.sub [0, 1, 2, 3, 4, 5] rfl rfl
  rw [hQ]
  have hP9 : va_P D vwCl [(hk, .inr (1, [.ref hh, .ref hB, .ref hI])), (hh, .inr (0, [.ref hm, .ref aw, .ref ad])), (hm, .inr (2, [.ref bm, .int (nI (u + u2))])), (bm, .inl (cI, 448, .inl (sm_ap fm u g u2))), (qr, .inr (2, [.ref rb, .int (nI u2)])), (rb, .inl (cI, nr, .inl g))] H := hP
  have hD9 : va_D A [(hk, .inr (1, [.ref hh, .ref hB, .ref hI])), (hh, .inr (0, [.ref hm, .ref aw, .ref ad])), (hm, .inr (2, [.ref bm, .int (nI (u + u2))])), (bm, .inl (cI, 448, .inl (sm_ap fm u g u2))), (qr, .inr (2, [.ref rb, .int (nI u2)])), (rb, .inl (cI, nr, .inl g))] := hD
  exact W.vret hx hb hr (fun t ht hW => ⟨⟨(), rfl, trivial, ⟨by rw [ht]; exact hP9, va_K.moved hW.alike hK, hD9⟩⟩, hS.F ht⟩) hS.2.2 dX1_add_8

def rm_X1_addByte : Room := ({ frames := 2, cells := 0, slots := 0, locals := 42 } : Room)
set_option maxHeartbeats 4000000 in
set_option maxRecDepth 100000 in
/-- KeyedHasher.addByte -/
theorem sc_X1_addByte (l : Launch) (D : va_G) (cI : ClassId) (th : Option (Nat × Nat)) (sz : Nat) (hk hh hm bm aw ad hB bB hI bI : Nat) (u : Nat) (fm : Nat → Int32) (x : Int32) (hE : u < 448) : Met l yX1_addByte wsX1_addByte rm_X1_addByte (va_Pc [.ref hk, .int x] (sm_PW D cI th [(hk, .inr (1, [.ref hh, .ref hB, .ref hI])), (hh, .inr (0, [.ref hm, .ref aw, .ref ad])), (hm, .inr (2, [.ref bm, .int (nI u)])), (bm, .inl (cI, 448, .inl fm))] sz)) (va_Qv (fun (_ : Unit) => True) (fun _ t => sm_QW D cI (va_A [(hk, .inr (1, [.ref hh, .ref hB, .ref hI])), (hh, .inr (0, [.ref hm, .ref aw, .ref ad])), (hm, .inr (2, [.ref bm, .int (nI u)])), (bm, .inl (cI, 448, .inl fm))] sz) [(hk, .inr (1, [.ref hh, .ref hB, .ref hI])), (hh, .inr (0, [.ref hm, .ref aw, .ref ad])), (hm, .inr (2, [.ref bm, .int (nI (u + 1))])), (bm, .inl (cI, 448, .inl (upd fm u x)))] t) (va_A [(hk, .inr (1, [.ref hh, .ref hB, .ref hI])), (hh, .inr (0, [.ref hm, .ref aw, .ref ad])), (hm, .inr (2, [.ref bm, .int (nI u)])), (bm, .inl (cI, 448, .inl fm))] sz)) 0 0 (va_A [(hk, .inr (1, [.ref hh, .ref hB, .ref hI])), (hh, .inr (0, [.ref hm, .ref aw, .ref ad])), (hm, .inr (2, [.ref bm, .int (nI u)])), (bm, .inl (cI, 448, .inl fm))] sz) := by
  refine Met.ofW (cc := cX1_addByte) (maxL := 2) (ret := none) (by decide) rfl ?_
  intro p e s m args below meth c s₁ B hml hv
  obtain ⟨rfl, hsz, hP, hK, hD0, hT⟩ := hv
  have hx := B.exec
  have hb := B.bytes
  have hr := B.returns
  have hts := atoms_spec (ws := wsX1_addByte) B.pre
  have hown : s.vm.findClass RX1 = some m.cls := findClass_of_methodNamed B.named
  have hlocks := B.notSynchronized
  subst hsz
  have hD := hD0.self (sz := s.heap.size)
  generalize hAe : va_A [(hk, .inr (1, [.ref hh, .ref hB, .ref hI])), (hh, .inr (0, [.ref hm, .ref aw, .ref ad])), (hm, .inr (2, [.ref bm, .int (nI u)])), (bm, .inl (cI, 448, .inl fm))] s.heap.size = A at hD hT ⊢
  have hA : ∀ q : Nat, s.heap.size ≤ q → A q := fun q h => by rw [← hAe]; exact Or.inr h
  have hS : va_S A s.heap s.heap [] := va_S.rf
  have hl := lv_entry ([.ref hk, .int x]) (n := 2) (Nat.le_of_ble_eq_true rfl)
  rw [lg_entry_eq]
  generalize (lg_sl ([.ref hk, .int x]) ++ List.replicate (2 - (lg_sl ([.ref hk, .int x])).length) Slot.unset).toArray = ls at hl ⊢
  have hl : lv_has ls 2 [(0, .ref hk), (1, .int x)] := hl
  refine sm_name (fun Q hQ => ?_)
  have hf_12 := hts (.fieldLink RX1 12 "SeedMill$KeyedHasher" "hasher" "LSeedMill$Hasher;") (by decide +kernel)
  have hw_X1 : ∀ w ∈ wsX10, w ∈ wsX1_addByte := by decide +kernel
  refine lv_aload_n hx hb dX1_addByte_0 rfl (lv_at hl 0 rfl) ?_
  refine va_get (D := D) (ci := 1) (v := .ref hh) (C := RX1) (T := TX1) (N := 3) hx hb hts hw_X1 hown hK hP 0 rfl rfl 0 (by decide) hf_12 (fun _ h9 => h9) rfl dX1_addByte_1 ?_
  refine lv_iload_n hx hb dX1_addByte_4 rfl (lv_at hl 1 rfl) ?_
  refine sm_callVv (wc := [(hh, .inr (0, [.ref hm, .ref aw, .ref ad])), (hm, .inr (2, [.ref bm, .int (nI u)])), (bm, .inl (cI, 448, .inl fm))]) (wr := [(hk, .inr (1, [.ref hh, .ref hB, .ref hI]))]) (As := [.int x]) (rest := []) ⟨hx, hb, hml, hown, hts⟩ (sc_X0_addByte l D cI th _ hh hm bm aw ad u fm x hE) (cwV 1 hts gX1_addByte_X0_addByte rfl rfl rfl (by decide +kernel) ⟨Nat.le_of_ble_eq_true rfl, Nat.le_of_ble_eq_true rfl⟩) hP hD hS hA hK hT [1, 2, 3] [0] rfl rfl rfl rfl (by decide) 0 0 rfl rfl rfl rfl hl.1 rfl (Nat.le_of_ble_eq_true rfl) dX1_addByte_5 ⟨Nat.zero_le _, Nat.zero_le _⟩ (fun zt H1 locs ht hvm hB hJ hS => ?_)
  obtain ⟨hP1, -, hD1⟩ := hB
  rw [ht] at hP1
  obtain ⟨hP, hD⟩ := hJ _ hP1 hD1
  clear hJ
  generalize H1 = H at hP hS ⊢
  have hP : va_P D vwCl [(hk, .inr (1, [.ref hh, .ref hB, .ref hI])), (hh, .inr (0, [.ref hm, .ref aw, .ref ad])), (hm, .inr (2, [.ref bm, .int (nI (u + 1))])), (bm, .inl (cI, 448, .inl (upd fm u x)))] H := hP.sub [0, 1, 2, 3] rfl
  have hD : va_D A [(hk, .inr (1, [.ref hh, .ref hB, .ref hI])), (hh, .inr (0, [.ref hm, .ref aw, .ref ad])), (hm, .inr (2, [.ref bm, .int (nI (u + 1))])), (bm, .inl (cI, 448, .inl (upd fm u x)))] := hD.sub [0, 1, 2, 3] rfl rfl
  rw [hQ]
  have hP9 : va_P D vwCl [(hk, .inr (1, [.ref hh, .ref hB, .ref hI])), (hh, .inr (0, [.ref hm, .ref aw, .ref ad])), (hm, .inr (2, [.ref bm, .int (nI (u + 1))])), (bm, .inl (cI, 448, .inl (upd fm u x)))] H := hP
  have hD9 : va_D A [(hk, .inr (1, [.ref hh, .ref hB, .ref hI])), (hh, .inr (0, [.ref hm, .ref aw, .ref ad])), (hm, .inr (2, [.ref bm, .int (nI (u + 1))])), (bm, .inl (cI, 448, .inl (upd fm u x)))] := hD
  exact W.vret hx hb hr (fun t ht hW => ⟨⟨(), rfl, trivial, ⟨by rw [ht]; exact hP9, va_K.moved hW.alike hK, hD9⟩⟩, hS.F ht⟩) hS.2.2 dX1_addByte_8

def rm_X1_end : Room := ({ frames := 4, cells := 0, slots := 0, locals := 97 } : Room)
set_option maxHeartbeats 4000000 in
set_option maxRecDepth 100000 in
/-- KeyedHasher.end -/
theorem sc_X1_end (l : Launch) (D : va_G) (cI : ClassId) (tk tf : Nat) (sz : Nat) (hk hh hm bm aw ad hB bB hI bI : Nat) (qr rb nr u : Nat) (fm fw fd kb fI fr : Nat → Int32) (uI ur : Int32) (hn : 64 * sm_nb u ≤ 448) (hr32 : 32 ≤ nr) (hnr : nr < 2 ^ 31) : Met l yX1_end wsX1_end rm_X1_end (va_Pc [.ref hk, .ref qr] (sm_PW D cI (some (tk, tf)) [(hk, .inr (1, [.ref hh, .ref hB, .ref hI])), (hh, .inr (0, [.ref hm, .ref aw, .ref ad])), (hm, .inr (2, [.ref bm, .int (nI u)])), (bm, .inl (cI, 448, .inl fm)), (aw, .inl (cI, 64, .inl fw)), (ad, .inl (cI, 8, .inl fd)), (hB, .inr (2, [.ref bB, .int (nI 64)])), (bB, .inl (cI, 64, .inl kb)), (hI, .inr (2, [.ref bI, .int uI])), (bI, .inl (cI, 32, .inl fI)), (qr, .inr (2, [.ref rb, .int ur])), (rb, .inl (cI, nr, .inl fr))] sz)) (va_Qv (fun (_ : Unit) => True) (fun _ t => ∃ (f2 : Nat → Int32) (u3 : Int32) (fw2 : Nat → Int32) (fd2 : Nat → Int32) (fI2 : Nat → Int32), sm_QW D cI (va_A [(hk, .inr (1, [.ref hh, .ref hB, .ref hI])), (hh, .inr (0, [.ref hm, .ref aw, .ref ad])), (hm, .inr (2, [.ref bm, .int (nI u)])), (bm, .inl (cI, 448, .inl fm)), (aw, .inl (cI, 64, .inl fw)), (ad, .inl (cI, 8, .inl fd)), (hB, .inr (2, [.ref bB, .int (nI 64)])), (bB, .inl (cI, 64, .inl kb)), (hI, .inr (2, [.ref bI, .int uI])), (bI, .inl (cI, 32, .inl fI)), (qr, .inr (2, [.ref rb, .int ur])), (rb, .inl (cI, nr, .inl fr))] sz) [(hk, .inr (1, [.ref hh, .ref hB, .ref hI])), (hh, .inr (0, [.ref hm, .ref aw, .ref ad])), (hm, .inr (2, [.ref bm, .int u3])), (bm, .inl (cI, 448, .inl f2)), (aw, .inl (cI, 64, .inl fw2)), (ad, .inl (cI, 8, .inl fd2)), (hB, .inr (2, [.ref bB, .int (nI 64)])), (bB, .inl (cI, 64, .inl kb)), (hI, .inr (2, [.ref bI, .int (nI 32)])), (bI, .inl (cI, 32, .inl fI2)), (qr, .inr (2, [.ref rb, .int (nI 32)])), (rb, .inl (cI, nr, .inl (sm_ap fr 0 (sm_out kb (sm_sha fm u)) 32)))] t) (va_A [(hk, .inr (1, [.ref hh, .ref hB, .ref hI])), (hh, .inr (0, [.ref hm, .ref aw, .ref ad])), (hm, .inr (2, [.ref bm, .int (nI u)])), (bm, .inl (cI, 448, .inl fm)), (aw, .inl (cI, 64, .inl fw)), (ad, .inl (cI, 8, .inl fd)), (hB, .inr (2, [.ref bB, .int (nI 64)])), (bB, .inl (cI, 64, .inl kb)), (hI, .inr (2, [.ref bI, .int uI])), (bI, .inl (cI, 32, .inl fI)), (qr, .inr (2, [.ref rb, .int ur])), (rb, .inl (cI, nr, .inl fr))] sz)) 0 0 (va_A [(hk, .inr (1, [.ref hh, .ref hB, .ref hI])), (hh, .inr (0, [.ref hm, .ref aw, .ref ad])), (hm, .inr (2, [.ref bm, .int (nI u)])), (bm, .inl (cI, 448, .inl fm)), (aw, .inl (cI, 64, .inl fw)), (ad, .inl (cI, 8, .inl fd)), (hB, .inr (2, [.ref bB, .int (nI 64)])), (bB, .inl (cI, 64, .inl kb)), (hI, .inr (2, [.ref bI, .int uI])), (bI, .inl (cI, 32, .inl fI)), (qr, .inr (2, [.ref rb, .int ur])), (rb, .inl (cI, nr, .inl fr))] sz) := by
  refine Met.ofW (cc := cX1_end) (maxL := 2) (ret := none) (by decide) rfl ?_
  intro p e s m args below meth c s₁ B hml hv
  obtain ⟨rfl, hsz, hP, hK, hD0, hT⟩ := hv
  have hx := B.exec
  have hb := B.bytes
  have hr := B.returns
  have hts := atoms_spec (ws := wsX1_end) B.pre
  have hown : s.vm.findClass RX1 = some m.cls := findClass_of_methodNamed B.named
  have hlocks := B.notSynchronized
  subst hsz
  have hD := hD0.self (sz := s.heap.size)
  generalize hAe : va_A [(hk, .inr (1, [.ref hh, .ref hB, .ref hI])), (hh, .inr (0, [.ref hm, .ref aw, .ref ad])), (hm, .inr (2, [.ref bm, .int (nI u)])), (bm, .inl (cI, 448, .inl fm)), (aw, .inl (cI, 64, .inl fw)), (ad, .inl (cI, 8, .inl fd)), (hB, .inr (2, [.ref bB, .int (nI 64)])), (bB, .inl (cI, 64, .inl kb)), (hI, .inr (2, [.ref bI, .int uI])), (bI, .inl (cI, 32, .inl fI)), (qr, .inr (2, [.ref rb, .int ur])), (rb, .inl (cI, nr, .inl fr))] s.heap.size = A at hD hT ⊢
  have hA : ∀ q : Nat, s.heap.size ≤ q → A q := fun q h => by rw [← hAe]; exact Or.inr h
  have hS : va_S A s.heap s.heap [] := va_S.rf
  have hl := lv_entry ([.ref hk, .ref qr]) (n := 2) (Nat.le_of_ble_eq_true rfl)
  rw [lg_entry_eq]
  generalize (lg_sl ([.ref hk, .ref qr]) ++ List.replicate (2 - (lg_sl ([.ref hk, .ref qr])).length) Slot.unset).toArray = ls at hl ⊢
  have hl : lv_has ls 2 [(0, .ref hk), (1, .ref qr)] := hl
  refine sm_name (fun Q hQ => ?_)
  have hf_12 := hts (.fieldLink RX1 12 "SeedMill$KeyedHasher" "hasher" "LSeedMill$Hasher;") (by decide +kernel)
  have hw_X1 : ∀ w ∈ wsX10, w ∈ wsX1_end := by decide +kernel
  have hf_27 := hts (.fieldLink RX1 27 "SeedMill$KeyedHasher" "innerHash" "LSeedMill$Row;") (by decide +kernel)
  have hf_23 := hts (.fieldLink RX1 23 "SeedMill$KeyedHasher" "blockKey" "LSeedMill$Row;") (by decide +kernel)
  refine lv_aload_n hx hb dX1_end_0 rfl (lv_at hl 0 rfl) ?_
  refine va_get (D := D) (ci := 1) (v := .ref hh) (C := RX1) (T := TX1) (N := 3) hx hb hts hw_X1 hown hK hP 0 rfl rfl 0 (by decide) hf_12 (fun _ h9 => h9) rfl dX1_end_1 ?_
  refine lv_aload_n hx hb dX1_end_4 rfl (lv_at hl 0 rfl) ?_
  refine va_get (D := D) (ci := 1) (v := .ref hI) (C := RX1) (T := TX1) (N := 3) hx hb hts hw_X1 hown hK hP 0 rfl rfl 2 (by decide) hf_27 (fun _ h9 => h9) rfl dX1_end_5 ?_
  refine sm_callVv (wc := [(hh, .inr (0, [.ref hm, .ref aw, .ref ad])), (hm, .inr (2, [.ref bm, .int (nI u)])), (bm, .inl (cI, 448, .inl fm)), (aw, .inl (cI, 64, .inl fw)), (ad, .inl (cI, 8, .inl fd)), (hI, .inr (2, [.ref bI, .int uI])), (bI, .inl (cI, 32, .inl fI))]) (wr := [(hk, .inr (1, [.ref hh, .ref hB, .ref hI])), (hB, .inr (2, [.ref bB, .int (nI 64)])), (bB, .inl (cI, 64, .inl kb)), (qr, .inr (2, [.ref rb, .int ur])), (rb, .inl (cI, nr, .inl fr))]) (As := [.ref hI]) (rest := []) ⟨hx, hb, hml, hown, hts⟩ (sc_X0_end l D cI tk tf _ hh hm bm aw ad hI bI 32 u fm fw fd fI uI hn (by decide) (by decide)) (cwV 1 hts gX1_end_X0_end rfl rfl rfl (by decide +kernel) ⟨Nat.le_of_ble_eq_true rfl, Nat.le_of_ble_eq_true rfl⟩) hP hD hS hA hK hT [1, 2, 3, 4, 5, 8, 9] [0, 6, 7, 10, 11] rfl rfl rfl rfl (by decide) 0 0 rfl rfl rfl rfl hl.1 rfl (Nat.le_of_ble_eq_true rfl) dX1_end_8 ⟨Nat.zero_le _, Nat.zero_le _⟩ (fun zt H1 locs ht hvm hB hJ hS => ?_)
  obtain ⟨fm3, fw3, fd3, hP1, -, hD1⟩ := hB
  rw [ht] at hP1
  obtain ⟨hP, hD⟩ := hJ _ hP1 hD1
  clear hJ
  generalize H1 = H at hP hS ⊢
  have hP : va_P D vwCl [(hk, .inr (1, [.ref hh, .ref hB, .ref hI])), (hh, .inr (0, [.ref hm, .ref aw, .ref ad])), (hm, .inr (2, [.ref bm, .int (nI (64 * sm_nb u))])), (bm, .inl (cI, 448, .inl fm3)), (aw, .inl (cI, 64, .inl fw3)), (ad, .inl (cI, 8, .inl fd3)), (hB, .inr (2, [.ref bB, .int (nI 64)])), (bB, .inl (cI, 64, .inl kb)), (hI, .inr (2, [.ref bI, .int (nI 32)])), (bI, .inl (cI, 32, .inl (sm_ap fI 0 (sm_sha fm u) 32))), (qr, .inr (2, [.ref rb, .int ur])), (rb, .inl (cI, nr, .inl fr))] H := hP.sub [0, 5, 6, 7, 8, 9, 1, 2, 10, 11, 3, 4] rfl
  have hD : va_D A [(hk, .inr (1, [.ref hh, .ref hB, .ref hI])), (hh, .inr (0, [.ref hm, .ref aw, .ref ad])), (hm, .inr (2, [.ref bm, .int (nI (64 * sm_nb u))])), (bm, .inl (cI, 448, .inl fm3)), (aw, .inl (cI, 64, .inl fw3)), (ad, .inl (cI, 8, .inl fd3)), (hB, .inr (2, [.ref bB, .int (nI 64)])), (bB, .inl (cI, 64, .inl kb)), (hI, .inr (2, [.ref bI, .int (nI 32)])), (bI, .inl (cI, 32, .inl (sm_ap fI 0 (sm_sha fm u) 32))), (qr, .inr (2, [.ref rb, .int ur])), (rb, .inl (cI, nr, .inl fr))] := hD.sub [0, 5, 6, 7, 8, 9, 1, 2, 10, 11, 3, 4] rfl rfl
  refine lv_aload_n hx hb dX1_end_11 rfl (lv_at hl 0 rfl) ?_
  refine va_get (D := D) (ci := 1) (v := .ref hh) (C := RX1) (T := TX1) (N := 3) hx hb hts hw_X1 hown hK hP 0 rfl rfl 0 (by decide) hf_12 (fun _ h9 => h9) rfl dX1_end_12 ?_
  refine sm_callVv (wc := [(hh, .inr (0, [.ref hm, .ref aw, .ref ad])), (hm, .inr (2, [.ref bm, .int (nI (64 * sm_nb u))])), (bm, .inl (cI, 448, .inl fm3))]) (wr := [(hk, .inr (1, [.ref hh, .ref hB, .ref hI])), (aw, .inl (cI, 64, .inl fw3)), (ad, .inl (cI, 8, .inl fd3)), (hB, .inr (2, [.ref bB, .int (nI 64)])), (bB, .inl (cI, 64, .inl kb)), (hI, .inr (2, [.ref bI, .int (nI 32)])), (bI, .inl (cI, 32, .inl (sm_ap fI 0 (sm_sha fm u) 32))), (qr, .inr (2, [.ref rb, .int ur])), (rb, .inl (cI, nr, .inl fr))]) (As := []) (rest := []) ⟨hx, hb, hml, hown, hts⟩ (sc_X0_begin l D cI (some (tk, tf)) _ hh hm bm aw ad fm3 (nI (64 * sm_nb u)) ) (cwV 0 hts gX1_end_X0_begin rfl rfl rfl (by decide +kernel) ⟨Nat.le_of_ble_eq_true rfl, Nat.le_of_ble_eq_true rfl⟩) hP hD hS hA hK hT [1, 2, 3] [0, 4, 5, 6, 7, 8, 9, 10, 11] rfl rfl rfl rfl (by decide) 0 0 rfl rfl rfl rfl hl.1 rfl (Nat.le_of_ble_eq_true rfl) dX1_end_15 ⟨Nat.zero_le _, Nat.zero_le _⟩ (fun zt H1 locs ht hvm hB hJ hS => ?_)
  obtain ⟨hP1, -, hD1⟩ := hB
  rw [ht] at hP1
  obtain ⟨hP, hD⟩ := hJ _ hP1 hD1
  clear hJ
  generalize H1 = H at hP hS ⊢
  have hP : va_P D vwCl [(hk, .inr (1, [.ref hh, .ref hB, .ref hI])), (hh, .inr (0, [.ref hm, .ref aw, .ref ad])), (hm, .inr (2, [.ref bm, .int (nI 0)])), (bm, .inl (cI, 448, .inl fm3)), (aw, .inl (cI, 64, .inl fw3)), (ad, .inl (cI, 8, .inl fd3)), (hB, .inr (2, [.ref bB, .int (nI 64)])), (bB, .inl (cI, 64, .inl kb)), (hI, .inr (2, [.ref bI, .int (nI 32)])), (bI, .inl (cI, 32, .inl (sm_ap fI 0 (sm_sha fm u) 32))), (qr, .inr (2, [.ref rb, .int ur])), (rb, .inl (cI, nr, .inl fr))] H := hP.sub [0, 9, 10, 11, 1, 2, 3, 4, 5, 6, 7, 8] rfl
  have hD : va_D A [(hk, .inr (1, [.ref hh, .ref hB, .ref hI])), (hh, .inr (0, [.ref hm, .ref aw, .ref ad])), (hm, .inr (2, [.ref bm, .int (nI 0)])), (bm, .inl (cI, 448, .inl fm3)), (aw, .inl (cI, 64, .inl fw3)), (ad, .inl (cI, 8, .inl fd3)), (hB, .inr (2, [.ref bB, .int (nI 64)])), (bB, .inl (cI, 64, .inl kb)), (hI, .inr (2, [.ref bI, .int (nI 32)])), (bI, .inl (cI, 32, .inl (sm_ap fI 0 (sm_sha fm u) 32))), (qr, .inr (2, [.ref rb, .int ur])), (rb, .inl (cI, nr, .inl fr))] := hD.sub [0, 9, 10, 11, 1, 2, 3, 4, 5, 6, 7, 8] rfl rfl
  refine lv_aload_n hx hb dX1_end_18 rfl (lv_at hl 0 rfl) ?_
  refine va_get (D := D) (ci := 1) (v := .ref hh) (C := RX1) (T := TX1) (N := 3) hx hb hts hw_X1 hown hK hP 0 rfl rfl 0 (by decide) hf_12 (fun _ h9 => h9) rfl dX1_end_19 ?_
  refine lv_aload_n hx hb dX1_end_22 rfl (lv_at hl 0 rfl) ?_
  refine va_get (D := D) (ci := 1) (v := .ref hB) (C := RX1) (T := TX1) (N := 3) hx hb hts hw_X1 hown hK hP 0 rfl rfl 1 (by decide) hf_23 (fun _ h9 => h9) rfl dX1_end_23 ?_
  refine lv_bipush (v := 92) hx hb dX1_end_26 (by decide) ?_
  refine sm_callVv (wc := [(hh, .inr (0, [.ref hm, .ref aw, .ref ad])), (hm, .inr (2, [.ref bm, .int (nI 0)])), (bm, .inl (cI, 448, .inl fm3)), (hB, .inr (2, [.ref bB, .int (nI 64)])), (bB, .inl (cI, 64, .inl kb))]) (wr := [(hk, .inr (1, [.ref hh, .ref hB, .ref hI])), (aw, .inl (cI, 64, .inl fw3)), (ad, .inl (cI, 8, .inl fd3)), (hI, .inr (2, [.ref bI, .int (nI 32)])), (bI, .inl (cI, 32, .inl (sm_ap fI 0 (sm_sha fm u) 32))), (qr, .inr (2, [.ref rb, .int ur])), (rb, .inl (cI, nr, .inl fr))]) (As := [.ref hB, .int 92]) (rest := []) ⟨hx, hb, hml, hown, hts⟩ (sc_X0_addXor l D cI (some (tk, tf)) _ hh hm bm aw ad 0 hB bB 64 64 fm3 kb 92 (by decide) (by decide) (by decide)) (cwV 2 hts gX1_end_X0_addXor rfl rfl rfl (by decide +kernel) ⟨Nat.le_of_ble_eq_true rfl, Nat.le_of_ble_eq_true rfl⟩) hP hD hS hA hK hT [1, 2, 3, 6, 7] [0, 4, 5, 8, 9, 10, 11] rfl rfl rfl rfl (by decide) 0 0 rfl rfl rfl rfl hl.1 rfl (Nat.le_of_ble_eq_true rfl) dX1_end_28 ⟨Nat.zero_le _, Nat.zero_le _⟩ (fun zt H1 locs ht hvm hB hJ hS => ?_)
  obtain ⟨hP1, -, hD1⟩ := hB
  rw [ht] at hP1
  obtain ⟨hP, hD⟩ := hJ _ hP1 hD1
  clear hJ
  generalize H1 = H at hP hS ⊢
  have hP : va_P D vwCl [(hk, .inr (1, [.ref hh, .ref hB, .ref hI])), (hh, .inr (0, [.ref hm, .ref aw, .ref ad])), (hm, .inr (2, [.ref bm, .int (nI (0 + 64))])), (bm, .inl (cI, 448, .inl (sm_ap fm3 0 (fun j => kb j ^^^ 92) 64))), (aw, .inl (cI, 64, .inl fw3)), (ad, .inl (cI, 8, .inl fd3)), (hB, .inr (2, [.ref bB, .int (nI 64)])), (bB, .inl (cI, 64, .inl kb)), (hI, .inr (2, [.ref bI, .int (nI 32)])), (bI, .inl (cI, 32, .inl (sm_ap fI 0 (sm_sha fm u) 32))), (qr, .inr (2, [.ref rb, .int ur])), (rb, .inl (cI, nr, .inl fr))] H := hP.sub [0, 7, 8, 9, 1, 2, 10, 11, 3, 4, 5, 6] rfl
  have hD : va_D A [(hk, .inr (1, [.ref hh, .ref hB, .ref hI])), (hh, .inr (0, [.ref hm, .ref aw, .ref ad])), (hm, .inr (2, [.ref bm, .int (nI (0 + 64))])), (bm, .inl (cI, 448, .inl (sm_ap fm3 0 (fun j => kb j ^^^ 92) 64))), (aw, .inl (cI, 64, .inl fw3)), (ad, .inl (cI, 8, .inl fd3)), (hB, .inr (2, [.ref bB, .int (nI 64)])), (bB, .inl (cI, 64, .inl kb)), (hI, .inr (2, [.ref bI, .int (nI 32)])), (bI, .inl (cI, 32, .inl (sm_ap fI 0 (sm_sha fm u) 32))), (qr, .inr (2, [.ref rb, .int ur])), (rb, .inl (cI, nr, .inl fr))] := hD.sub [0, 7, 8, 9, 1, 2, 10, 11, 3, 4, 5, 6] rfl rfl
  refine lv_aload_n hx hb dX1_end_31 rfl (lv_at hl 0 rfl) ?_
  refine va_get (D := D) (ci := 1) (v := .ref hh) (C := RX1) (T := TX1) (N := 3) hx hb hts hw_X1 hown hK hP 0 rfl rfl 0 (by decide) hf_12 (fun _ h9 => h9) rfl dX1_end_32 ?_
  refine lv_aload_n hx hb dX1_end_35 rfl (lv_at hl 0 rfl) ?_
  refine va_get (D := D) (ci := 1) (v := .ref hI) (C := RX1) (T := TX1) (N := 3) hx hb hts hw_X1 hown hK hP 0 rfl rfl 2 (by decide) hf_27 (fun _ h9 => h9) rfl dX1_end_36 ?_
  refine sm_callVv (wc := [(hh, .inr (0, [.ref hm, .ref aw, .ref ad])), (hm, .inr (2, [.ref bm, .int (nI (0 + 64))])), (bm, .inl (cI, 448, .inl (sm_ap fm3 0 (fun j => kb j ^^^ 92) 64))), (hI, .inr (2, [.ref bI, .int (nI 32)])), (bI, .inl (cI, 32, .inl (sm_ap fI 0 (sm_sha fm u) 32)))]) (wr := [(hk, .inr (1, [.ref hh, .ref hB, .ref hI])), (aw, .inl (cI, 64, .inl fw3)), (ad, .inl (cI, 8, .inl fd3)), (hB, .inr (2, [.ref bB, .int (nI 64)])), (bB, .inl (cI, 64, .inl kb)), (qr, .inr (2, [.ref rb, .int ur])), (rb, .inl (cI, nr, .inl fr))]) (As := [.ref hI]) (rest := []) ⟨hx, hb, hml, hown, hts⟩ (sc_X0_add l D cI (some (tk, tf)) _ hh hm bm aw ad (0 + 64) hI bI 32 32 (sm_ap fm3 0 (fun j => kb j ^^^ 92) 64) (sm_ap fI 0 (sm_sha fm u) 32) (by decide) (by decide) (by decide)) (cwV 1 hts gX1_end_X0_add rfl rfl rfl (by decide +kernel) ⟨Nat.le_of_ble_eq_true rfl, Nat.le_of_ble_eq_true rfl⟩) hP hD hS hA hK hT [1, 2, 3, 8, 9] [0, 4, 5, 6, 7, 10, 11] rfl rfl rfl rfl (by decide) 0 0 rfl rfl rfl rfl hl.1 rfl (Nat.le_of_ble_eq_true rfl) dX1_end_39 ⟨Nat.zero_le _, Nat.zero_le _⟩ (fun zt H1 locs ht hvm hB hJ hS => ?_)
  obtain ⟨hP1, -, hD1⟩ := hB
  rw [ht] at hP1
  obtain ⟨hP, hD⟩ := hJ _ hP1 hD1
  clear hJ
  generalize H1 = H at hP hS ⊢
  have hP : va_P D vwCl [(hk, .inr (1, [.ref hh, .ref hB, .ref hI])), (hh, .inr (0, [.ref hm, .ref aw, .ref ad])), (hm, .inr (2, [.ref bm, .int (nI (0 + 64 + 32))])), (bm, .inl (cI, 448, .inl (sm_ap (sm_ap fm3 0 (fun j => kb j ^^^ 92) 64) (0 + 64) (sm_ap fI 0 (sm_sha fm u) 32) 32))), (aw, .inl (cI, 64, .inl fw3)), (ad, .inl (cI, 8, .inl fd3)), (hB, .inr (2, [.ref bB, .int (nI 64)])), (bB, .inl (cI, 64, .inl kb)), (hI, .inr (2, [.ref bI, .int (nI 32)])), (bI, .inl (cI, 32, .inl (sm_ap fI 0 (sm_sha fm u) 32))), (qr, .inr (2, [.ref rb, .int ur])), (rb, .inl (cI, nr, .inl fr))] H := hP.sub [0, 7, 8, 9, 1, 2, 3, 4, 10, 11, 5, 6] rfl
  have hD : va_D A [(hk, .inr (1, [.ref hh, .ref hB, .ref hI])), (hh, .inr (0, [.ref hm, .ref aw, .ref ad])), (hm, .inr (2, [.ref bm, .int (nI (0 + 64 + 32))])), (bm, .inl (cI, 448, .inl (sm_ap (sm_ap fm3 0 (fun j => kb j ^^^ 92) 64) (0 + 64) (sm_ap fI 0 (sm_sha fm u) 32) 32))), (aw, .inl (cI, 64, .inl fw3)), (ad, .inl (cI, 8, .inl fd3)), (hB, .inr (2, [.ref bB, .int (nI 64)])), (bB, .inl (cI, 64, .inl kb)), (hI, .inr (2, [.ref bI, .int (nI 32)])), (bI, .inl (cI, 32, .inl (sm_ap fI 0 (sm_sha fm u) 32))), (qr, .inr (2, [.ref rb, .int ur])), (rb, .inl (cI, nr, .inl fr))] := hD.sub [0, 7, 8, 9, 1, 2, 3, 4, 10, 11, 5, 6] rfl rfl
  refine lv_aload_n hx hb dX1_end_42 rfl (lv_at hl 0 rfl) ?_
  refine va_get (D := D) (ci := 1) (v := .ref hh) (C := RX1) (T := TX1) (N := 3) hx hb hts hw_X1 hown hK hP 0 rfl rfl 0 (by decide) hf_12 (fun _ h9 => h9) rfl dX1_end_43 ?_
  refine lv_aload_n hx hb dX1_end_46 rfl (lv_at hl 1 rfl) ?_
  refine sm_callVv (wc := [(hh, .inr (0, [.ref hm, .ref aw, .ref ad])), (hm, .inr (2, [.ref bm, .int (nI (0 + 64 + 32))])), (bm, .inl (cI, 448, .inl (sm_ap (sm_ap fm3 0 (fun j => kb j ^^^ 92) 64) (0 + 64) (sm_ap fI 0 (sm_sha fm u) 32) 32))), (aw, .inl (cI, 64, .inl fw3)), (ad, .inl (cI, 8, .inl fd3)), (qr, .inr (2, [.ref rb, .int ur])), (rb, .inl (cI, nr, .inl fr))]) (wr := [(hk, .inr (1, [.ref hh, .ref hB, .ref hI])), (hB, .inr (2, [.ref bB, .int (nI 64)])), (bB, .inl (cI, 64, .inl kb)), (hI, .inr (2, [.ref bI, .int (nI 32)])), (bI, .inl (cI, 32, .inl (sm_ap fI 0 (sm_sha fm u) 32)))]) (As := [.ref qr]) (rest := []) ⟨hx, hb, hml, hown, hts⟩ (sc_X0_end l D cI tk tf _ hh hm bm aw ad qr rb nr (0 + 64 + 32) (sm_ap (sm_ap fm3 0 (fun j => kb j ^^^ 92) 64) (0 + 64) (sm_ap fI 0 (sm_sha fm u) 32) 32) fw3 fd3 fr ur (by decide) hr32 hnr) (cwV 1 hts gX1_end_X0_end rfl rfl rfl (by decide +kernel) ⟨Nat.le_of_ble_eq_true rfl, Nat.le_of_ble_eq_true rfl⟩) hP hD hS hA hK hT [1, 2, 3, 4, 5, 10, 11] [0, 6, 7, 8, 9] rfl rfl rfl rfl (by decide) 0 0 rfl rfl rfl rfl hl.1 rfl (Nat.le_of_ble_eq_true rfl) dX1_end_47 ⟨Nat.zero_le _, Nat.zero_le _⟩ (fun zt H1 locs ht hvm hB hJ hS => ?_)
  obtain ⟨fm4, fw4, fd4, hP1, -, hD1⟩ := hB
  rw [ht] at hP1
  obtain ⟨hP, hD⟩ := hJ _ hP1 hD1
  clear hJ
  generalize H1 = H at hP hS ⊢
  have hP : va_P D vwCl [(hk, .inr (1, [.ref hh, .ref hB, .ref hI])), (hh, .inr (0, [.ref hm, .ref aw, .ref ad])), (hm, .inr (2, [.ref bm, .int (nI (64 * sm_nb (0 + 64 + 32)))])), (bm, .inl (cI, 448, .inl fm4)), (aw, .inl (cI, 64, .inl fw4)), (ad, .inl (cI, 8, .inl fd4)), (hB, .inr (2, [.ref bB, .int (nI 64)])), (bB, .inl (cI, 64, .inl kb)), (hI, .inr (2, [.ref bI, .int (nI 32)])), (bI, .inl (cI, 32, .inl (sm_ap fI 0 (sm_sha fm u) 32))), (qr, .inr (2, [.ref rb, .int (nI 32)])), (rb, .inl (cI, nr, .inl (sm_ap fr 0 (sm_sha (sm_ap (sm_ap fm3 0 (fun j => kb j ^^^ 92) 64) (0 + 64) (sm_ap fI 0 (sm_sha fm u) 32) 32) (0 + 64 + 32)) 32)))] H := hP.sub [0, 5, 6, 7, 8, 9, 1, 2, 3, 4, 10, 11] rfl
  have hD : va_D A [(hk, .inr (1, [.ref hh, .ref hB, .ref hI])), (hh, .inr (0, [.ref hm, .ref aw, .ref ad])), (hm, .inr (2, [.ref bm, .int (nI (64 * sm_nb (0 + 64 + 32)))])), (bm, .inl (cI, 448, .inl fm4)), (aw, .inl (cI, 64, .inl fw4)), (ad, .inl (cI, 8, .inl fd4)), (hB, .inr (2, [.ref bB, .int (nI 64)])), (bB, .inl (cI, 64, .inl kb)), (hI, .inr (2, [.ref bI, .int (nI 32)])), (bI, .inl (cI, 32, .inl (sm_ap fI 0 (sm_sha fm u) 32))), (qr, .inr (2, [.ref rb, .int (nI 32)])), (rb, .inl (cI, nr, .inl (sm_ap fr 0 (sm_sha (sm_ap (sm_ap fm3 0 (fun j => kb j ^^^ 92) 64) (0 + 64) (sm_ap fI 0 (sm_sha fm u) 32) 32) (0 + 64 + 32)) 32)))] := hD.sub [0, 5, 6, 7, 8, 9, 1, 2, 3, 4, 10, 11] rfl rfl
  rw [hQ]
  rw [sm_outE] at hP hD
  have hP9 : va_P D vwCl [(hk, .inr (1, [.ref hh, .ref hB, .ref hI])), (hh, .inr (0, [.ref hm, .ref aw, .ref ad])), (hm, .inr (2, [.ref bm, .int (nI (64 * sm_nb (0 + 64 + 32)))])), (bm, .inl (cI, 448, .inl fm4)), (aw, .inl (cI, 64, .inl fw4)), (ad, .inl (cI, 8, .inl fd4)), (hB, .inr (2, [.ref bB, .int (nI 64)])), (bB, .inl (cI, 64, .inl kb)), (hI, .inr (2, [.ref bI, .int (nI 32)])), (bI, .inl (cI, 32, .inl (sm_ap fI 0 (sm_sha fm u) 32))), (qr, .inr (2, [.ref rb, .int (nI 32)])), (rb, .inl (cI, nr, .inl (sm_ap fr 0 (sm_out kb (sm_sha fm u)) 32)))] H := hP
  have hD9 : va_D A [(hk, .inr (1, [.ref hh, .ref hB, .ref hI])), (hh, .inr (0, [.ref hm, .ref aw, .ref ad])), (hm, .inr (2, [.ref bm, .int (nI (64 * sm_nb (0 + 64 + 32)))])), (bm, .inl (cI, 448, .inl fm4)), (aw, .inl (cI, 64, .inl fw4)), (ad, .inl (cI, 8, .inl fd4)), (hB, .inr (2, [.ref bB, .int (nI 64)])), (bB, .inl (cI, 64, .inl kb)), (hI, .inr (2, [.ref bI, .int (nI 32)])), (bI, .inl (cI, 32, .inl (sm_ap fI 0 (sm_sha fm u) 32))), (qr, .inr (2, [.ref rb, .int (nI 32)])), (rb, .inl (cI, nr, .inl (sm_ap fr 0 (sm_out kb (sm_sha fm u)) 32)))] := hD
  exact W.vret hx hb hr (fun t ht hW => ⟨⟨(), rfl, trivial, ⟨_, _, _, _, _, by rw [ht]; exact hP9, va_K.moved hW.alike hK, hD9⟩⟩, hS.F ht⟩) hS.2.2 dX1_end_50
end
section
/-! the mill, as mathematics: stirring, drawing; small laws for its walks -/
/-- the value behind the value -/
def sm_nv (k v : Nat → Int32) : Nat → Int32 := sm_hm k 32 v 32
/-- the key behind one turn of stirring with the byte t and the n bytes i -/
def sm_tn (k v : Nat → Int32) (t : Int32) (i : Nat → Int32) (n : Nat) : Nat → Int32 := sm_hm k 32 (sm_cat v 32 (sm_cat (fun _ => t) 1 i)) (33 + n)
def sm_turn (x : (Nat → Int32) × (Nat → Int32)) (t : Int32) (i : Nat → Int32) (n : Nat) : (Nat → Int32) × (Nat → Int32) := (sm_tn x.1 x.2 t i n, sm_nv (sm_tn x.1 x.2 t i n) x.2)
/-- STIRRED with the n bytes i -/
def sm_stir (x : (Nat → Int32) × (Nat → Int32)) (i : Nat → Int32) (n : Nat) : (Nat → Int32) × (Nat → Int32) := if n = 0 then sm_turn x 0 i n else sm_turn (sm_turn x 0 i n) 1 i n
theorem sm_tn_congr {k v i i' : Nat → Int32} {t : Int32} {n : Nat} (h : ∀ j, j < n → i j = i' j) : sm_tn k v t i n = sm_tn k v t i' n := by
  refine sm_hm_congr (fun _ _ => rfl) (fun j hj => ?_)
  by_cases q : j < 32
  · rw [sm_cat_lo q, sm_cat_lo q]
  · rw [sm_cat_hi (a := 32) (by omega), sm_cat_hi (a := 32) (by omega)]
    by_cases q2 : j - 32 < 1
    · rw [sm_cat_lo q2, sm_cat_lo q2]
    · rw [sm_cat_hi (a := 1) (by omega), sm_cat_hi (a := 1) (by omega), h _ (by omega)]
theorem sm_stir_congr {x : (Nat → Int32) × (Nat → Int32)} {i i' : Nat → Int32} {n : Nat} (h : ∀ j, j < n → i j = i' j) : sm_stir x i n = sm_stir x i' n := by
  unfold sm_stir sm_turn
  rw [sm_tn_congr (i' := i') h, sm_tn_congr (k := (sm_tn x.1 x.2 0 i' n, sm_nv (sm_tn x.1 x.2 0 i' n) x.2).1) (i' := i') h]
theorem sm_stir_v (x : (Nat → Int32) × (Nat → Int32)) (i : Nat → Int32) (n : Nat) : ∃ w, (sm_stir x i n).2 = sm_nv (sm_stir x i n).1 w := by
  unfold sm_stir
  by_cases h : n = 0
  · rw [if_pos h]; exact ⟨_, rfl⟩
  · rw [if_neg h]; exact ⟨_, rfl⟩
theorem sm_hmE {f k v : Nat → Int32} {kn n : Nat} : sm_out (sm_kb k kn) (sm_sha (sm_ap (sm_ap f 0 (fun j => sm_kb k kn j ^^^ 54) 64) (0 + 64) v n) (0 + 64 + n)) = sm_hm k kn v n := by
  unfold sm_hm
  refine congrArg (sm_out (sm_kb k kn)) ?_
  rw [show 0 + 64 + n = 64 + n by omega]
  refine sm_sha_congr (fun j hj => ?_)
  by_cases q : j < 64
  · rw [sm_ap_lo (by omega), sm_ap_z q, sm_cat_lo q]
  · obtain ⟨i, rfl⟩ : ∃ i, j = 0 + 64 + i := ⟨j - 64, by omega⟩
    rw [sm_ap_hi (by omega), sm_cat_hi (by omega), show 0 + 64 + i - 64 = i by omega]
theorem sm_tnE {f k v i : Nat → Int32} {t : Int32} {n : Nat} : sm_out (sm_kb k 32) (sm_sha (sm_ap (upd (sm_ap (sm_ap f 0 (fun j => sm_kb k 32 j ^^^ 54) 64) (0 + 64) v 32) (0 + 64 + 32) t) (0 + 64 + 32 + 1) i n) (0 + 64 + 32 + 1 + n)) = sm_tn k v t i n := by
  unfold sm_tn sm_hm
  refine congrArg (sm_out (sm_kb k 32)) ?_
  rw [show 0 + 64 + 32 + 1 + n = 64 + (33 + n) by omega]
  refine sm_sha_congr (fun j hj => ?_)
  by_cases q : j < 64
  · rw [sm_ap_lo (by omega), pk_un (by omega), sm_ap_lo (by omega), sm_ap_z q, sm_cat_lo q]
  · rw [sm_cat_hi (by omega)]
    by_cases q2 : j < 96
    · rw [sm_ap_lo (by omega), pk_un (by omega), sm_cat_lo (by omega)]
      obtain ⟨i, rfl⟩ : ∃ i, j = 0 + 64 + i := ⟨j - 64, by omega⟩
      rw [sm_ap_hi (by omega), show 0 + 64 + i - 64 = i by omega]
    · rw [sm_cat_hi (by omega)]
      by_cases q3 : j = 96
      · rw [sm_ap_lo (by omega), q3, sm_cat_lo (by omega)]
        exact pk_us
      · rw [sm_cat_hi (by omega)]
        obtain ⟨z, rfl⟩ : ∃ z, j = 0 + 64 + 32 + 1 + z := ⟨j - 97, by omega⟩
        rw [sm_ap_hi (by omega), show 0 + 64 + 32 + 1 + z - 64 - 32 - 1 = z by omega]
/-- the values behind a value, one after the other -/
def sm_vs (k v : Nat → Int32) : Nat → Nat → Int32
  | 0 => v
  | t + 1 => sm_nv k (sm_vs k v t)
/-- the bytes that are drawn -/
def sm_dr (k v : Nat → Int32) : Nat → Int32 := fun j => sm_vs k v (j / 32 + 1) (j % 32)
theorem sm_dr_s {f k v : Nat → Int32} {q e : Nat} (h : e ≤ 32) : sm_ap (sm_ap f 0 (sm_dr k v) (32 * q)) (32 * q) (sm_vs k v (q + 1)) e = sm_ap f 0 (sm_dr k v) (32 * q + e) := by
  have := sm_ap_ap (f := f) (g := sm_dr k v) (h := sm_vs k v (q + 1)) (u := 0) (e := 32 * q) (k := e) (fun j hj => by
    unfold sm_dr
    rw [show (32 * q + j) / 32 = q by omega, show (32 * q + j) % 32 = j by omega])
  rw [Nat.zero_add] at this
  exact this
/-- what is fed: the n lowest bytes of x, the highest of them first -/
def sm_fb (x : Int64) (n : Nat) : Nat → Int32 := fun j => Int64.toInt32 (sm_lus x (nI (8 * (n - 1 - j)))) &&& 255
/-- a number that may be fed -/
def sm_fok (k : Int32) (ni n : Nat) : Prop := 1 ≤ n ∧ n ≤ 8 ∧ ni + n ≤ 300 ∧ k = nI n
theorem sm_fok_of {k : Int32} {ni : Nat} (h1 : ¬ k < 1) (h2 : ¬ 8 < k) (h3 : nI ni + k ≤ 300) (hn : ni ≤ 300) : ∃ n, sm_fok k ni n := by
  have h0 : ¬ k < 0 := fun q => h1 (by
    have a := Int32.lt_iff_toInt_lt.mp q
    apply Int32.lt_iff_toInt_lt.mpr
    have b : (0 : Int32).toInt = 0 := rfl
    have c : (1 : Int32).toInt = 1 := rfl
    omega)
  obtain ⟨n, hn8, rfl⟩ := nI_of2 (x := k) (M := 8) (n := 8) rfl h0 (Int32.not_lt.mp h2)
  refine ⟨n, ?_, hn8, ?_, rfl⟩
  · rcases Nat.eq_zero_or_pos n with q | q
    · subst q
      exact absurd (by decide) h1
    · exact q
  · rw [nI_add] at h3
    exact (nI_leI (b := 300) (by omega) (by decide)).mp h3
theorem sm_pl1 {n : Nat} (h : 1 ≤ n) : nI n - 1 = nI (n - 1) := pk_sub (b := 1) h
end
section
def rm_X3_isSeeded : Room := ({ frames := 0, cells := 0, slots := 0, locals := 0 } : Room)
set_option maxHeartbeats 4000000 in
set_option maxRecDepth 100000 in
/-- isSeeded -/
theorem sc_X3_isSeeded (l : Launch) (D : va_G) (cI : ClassId) (th : Option (Nat × Nat)) (sz : Nat) (qs qi bi qo bo qd bd qk bk qv bv qf bf qa ba gh gm gb gw gd hk hh hm bm aw ad hB bB hI bI : Nat) (cnt ivl drw : Int32)   : Met l yX3_isSeeded wsX3_isSeeded rm_X3_isSeeded (va_Pc [.ref qs] (sm_PW D cI th [(qs, .inr (3, [.ref qi, .ref qo, .ref qd, .ref qk, .ref qv, .ref qf, .ref qa, .ref gh, .ref hk, .int cnt, .int ivl, .int drw]))] sz)) (va_Qi (fun (r : Int32) (_ : Unit) => r = if 0 < cnt then 1 else 0) (fun _ t => sm_QW D cI (va_A [(qs, .inr (3, [.ref qi, .ref qo, .ref qd, .ref qk, .ref qv, .ref qf, .ref qa, .ref gh, .ref hk, .int cnt, .int ivl, .int drw]))] sz) [(qs, .inr (3, [.ref qi, .ref qo, .ref qd, .ref qk, .ref qv, .ref qf, .ref qa, .ref gh, .ref hk, .int cnt, .int ivl, .int drw]))] t) (va_A [(qs, .inr (3, [.ref qi, .ref qo, .ref qd, .ref qk, .ref qv, .ref qf, .ref qa, .ref gh, .ref hk, .int cnt, .int ivl, .int drw]))] sz)) 0 0 (va_A [(qs, .inr (3, [.ref qi, .ref qo, .ref qd, .ref qk, .ref qv, .ref qf, .ref qa, .ref gh, .ref hk, .int cnt, .int ivl, .int drw]))] sz) := by
  refine Met.ofW (cc := cX3_isSeeded) (maxL := 1) (ret := (some .boolean)) (by decide) rfl ?_
  intro p e s m args below meth c s₁ B hml hv
  obtain ⟨rfl, hsz, hP, hK, hD0, hT⟩ := hv
  have hx := B.exec
  have hb := B.bytes
  have hr := B.returns
  have hts := atoms_spec (ws := wsX3_isSeeded) B.pre
  have hown : s.vm.findClass RX3 = some m.cls := findClass_of_methodNamed B.named
  have hlocks := B.notSynchronized
  subst hsz
  have hD := hD0.self (sz := s.heap.size)
  generalize hAe : va_A [(qs, .inr (3, [.ref qi, .ref qo, .ref qd, .ref qk, .ref qv, .ref qf, .ref qa, .ref gh, .ref hk, .int cnt, .int ivl, .int drw]))] s.heap.size = A at hD hT ⊢
  have hA : ∀ q : Nat, s.heap.size ≤ q → A q := fun q h => by rw [← hAe]; exact Or.inr h
  have hS : va_S A s.heap s.heap [] := va_S.rf
  have hl := lv_entry ([.ref qs]) (n := 1) (Nat.le_of_ble_eq_true rfl)
  rw [lg_entry_eq]
  generalize (lg_sl ([.ref qs]) ++ List.replicate (1 - (lg_sl ([.ref qs])).length) Slot.unset).toArray = ls at hl ⊢
  have hl : lv_has ls 1 [(0, .ref qs)] := hl
  refine sm_name (fun Q hQ => ?_)
  have hf_50 := hts (.fieldLink RX3 50 "SeedMill" "drawCounter" "I") (by decide +kernel)
  have hw_X3 : ∀ w ∈ wsX30, w ∈ wsX3_isSeeded := by decide +kernel
  refine lv_aload_n hx hb dX3_isSeeded_0 rfl (lv_at hl 0 rfl) ?_
  refine va_get (D := D) (ci := 3) (v := .int cnt) (C := RX3) (T := TX3) (N := 12) hx hb hts hw_X3 hown hK hP 0 rfl rfl 9 (by decide) hf_50 (fun _ h9 => h9) rfl dX3_isSeeded_1 ?_
  refine lv_if_le (tgt := 11) hx hb dX3_isSeeded_4 (by decide) (fun c_4 => ?_) (fun c_4 => ?_)
  ·
    refine lv_iconst (v := 0) hx hb dX3_isSeeded_11 (by decide) ?_
    rw [hQ]
    have hP9 : va_P D vwCl [(qs, .inr (3, [.ref qi, .ref qo, .ref qd, .ref qk, .ref qv, .ref qf, .ref qa, .ref gh, .ref hk, .int cnt, .int ivl, .int drw]))] s.heap := hP
    have hD9 : va_D A [(qs, .inr (3, [.ref qi, .ref qo, .ref qd, .ref qk, .ref qv, .ref qf, .ref qa, .ref gh, .ref hk, .int cnt, .int ivl, .int drw]))] := hD
    exact W.zret (v := 0) (ty := .boolean) hx hb hr rfl (fun t ht hW => ⟨⟨0, (), rfl, (by rw [if_neg (Int32.not_lt.mpr c_4)]), ⟨by rw [ht]; exact hP9, va_K.moved hW.alike hK, hD9⟩⟩, hS.F ht⟩) hS.2.2 dX3_isSeeded_12
  ·
    refine lv_iconst (v := 1) hx hb dX3_isSeeded_7 (by decide) ?_
    refine lv_goto (tgt := 12) hx hb dX3_isSeeded_8 (by decide) ?_
    rw [hQ]
    have hP9 : va_P D vwCl [(qs, .inr (3, [.ref qi, .ref qo, .ref qd, .ref qk, .ref qv, .ref qf, .ref qa, .ref gh, .ref hk, .int cnt, .int ivl, .int drw]))] s.heap := hP
    have hD9 : va_D A [(qs, .inr (3, [.ref qi, .ref qo, .ref qd, .ref qk, .ref qv, .ref qf, .ref qa, .ref gh, .ref hk, .int cnt, .int ivl, .int drw]))] := hD
    exact W.zret (v := 1) (ty := .boolean) hx hb hr rfl (fun t ht hW => ⟨⟨1, (), rfl, (by rw [if_pos (Int32.not_le.mp c_4)]), ⟨by rw [ht]; exact hP9, va_K.moved hW.alike hK, hD9⟩⟩, hS.F ht⟩) hS.2.2 dX3_isSeeded_12

def rm_X3_renewValue : Room := ({ frames := 5, cells := 0, slots := 0, locals := 119 } : Room)
set_option maxHeartbeats 4000000 in
set_option maxRecDepth 100000 in
/-- renewValue -/
theorem sc_X3_renewValue (l : Launch) (D : va_G) (cI : ClassId) (tk tf : Nat) (sz : Nat) (qs qi bi qo bo qd bd qk bk qv bv qf bf qa ba gh gm gb gw gd hk hh hm bm aw ad hB bB hI bI : Nat) (cnt ivl drw : Int32) (fk fv ff : Nat → Int32) (uf : Int32) (fm : Nat → Int32) (um : Int32) (fw fd fB : Nat → Int32) (uB : Int32) (fI : Nat → Int32) (uI : Int32)  : Met l yX3_renewValue wsX3_renewValue rm_X3_renewValue (va_Pc [.ref qs] (sm_PW D cI (some (tk, tf)) [(qs, .inr (3, [.ref qi, .ref qo, .ref qd, .ref qk, .ref qv, .ref qf, .ref qa, .ref gh, .ref hk, .int cnt, .int ivl, .int drw])), (qk, .inr (2, [.ref bk, .int (nI 32)])), (bk, .inl (cI, 32, .inl fk)), (qv, .inr (2, [.ref bv, .int (nI 32)])), (bv, .inl (cI, 32, .inl fv)), (qf, .inr (2, [.ref bf, .int uf])), (bf, .inl (cI, 32, .inl ff)), (hk, .inr (1, [.ref hh, .ref hB, .ref hI])), (hh, .inr (0, [.ref hm, .ref aw, .ref ad])), (hm, .inr (2, [.ref bm, .int um])), (bm, .inl (cI, 448, .inl fm)), (aw, .inl (cI, 64, .inl fw)), (ad, .inl (cI, 8, .inl fd)), (hB, .inr (2, [.ref bB, .int uB])), (bB, .inl (cI, 64, .inl fB)), (hI, .inr (2, [.ref bI, .int uI])), (bI, .inl (cI, 32, .inl fI))] sz)) (va_Qv (fun (_ : Unit) => True) (fun _ t => ∃ (fm2 : Nat → Int32) (um2 : Int32) (fw2 : Nat → Int32) (fd2 : Nat → Int32) (fB2 : Nat → Int32) (uB2 : Int32) (fI2 : Nat → Int32) (uI2 : Int32), sm_QW D cI (va_A [(qs, .inr (3, [.ref qi, .ref qo, .ref qd, .ref qk, .ref qv, .ref qf, .ref qa, .ref gh, .ref hk, .int cnt, .int ivl, .int drw])), (qk, .inr (2, [.ref bk, .int (nI 32)])), (bk, .inl (cI, 32, .inl fk)), (qv, .inr (2, [.ref bv, .int (nI 32)])), (bv, .inl (cI, 32, .inl fv)), (qf, .inr (2, [.ref bf, .int uf])), (bf, .inl (cI, 32, .inl ff)), (hk, .inr (1, [.ref hh, .ref hB, .ref hI])), (hh, .inr (0, [.ref hm, .ref aw, .ref ad])), (hm, .inr (2, [.ref bm, .int um])), (bm, .inl (cI, 448, .inl fm)), (aw, .inl (cI, 64, .inl fw)), (ad, .inl (cI, 8, .inl fd)), (hB, .inr (2, [.ref bB, .int uB])), (bB, .inl (cI, 64, .inl fB)), (hI, .inr (2, [.ref bI, .int uI])), (bI, .inl (cI, 32, .inl fI))] sz) [(qs, .inr (3, [.ref qi, .ref qo, .ref qd, .ref qk, .ref qv, .ref qf, .ref qa, .ref gh, .ref hk, .int cnt, .int ivl, .int drw])), (qk, .inr (2, [.ref bk, .int (nI 32)])), (bk, .inl (cI, 32, .inl fk)), (qv, .inr (2, [.ref bv, .int (nI 32)])), (bv, .inl (cI, 32, .inl (sm_nv fk fv))), (qf, .inr (2, [.ref bf, .int (nI 32)])), (bf, .inl (cI, 32, .inl fv)), (hk, .inr (1, [.ref hh, .ref hB, .ref hI])), (hh, .inr (0, [.ref hm, .ref aw, .ref ad])), (hm, .inr (2, [.ref bm, .int um2])), (bm, .inl (cI, 448, .inl fm2)), (aw, .inl (cI, 64, .inl fw2)), (ad, .inl (cI, 8, .inl fd2)), (hB, .inr (2, [.ref bB, .int uB2])), (bB, .inl (cI, 64, .inl fB2)), (hI, .inr (2, [.ref bI, .int uI2])), (bI, .inl (cI, 32, .inl fI2))] t) (va_A [(qs, .inr (3, [.ref qi, .ref qo, .ref qd, .ref qk, .ref qv, .ref qf, .ref qa, .ref gh, .ref hk, .int cnt, .int ivl, .int drw])), (qk, .inr (2, [.ref bk, .int (nI 32)])), (bk, .inl (cI, 32, .inl fk)), (qv, .inr (2, [.ref bv, .int (nI 32)])), (bv, .inl (cI, 32, .inl fv)), (qf, .inr (2, [.ref bf, .int uf])), (bf, .inl (cI, 32, .inl ff)), (hk, .inr (1, [.ref hh, .ref hB, .ref hI])), (hh, .inr (0, [.ref hm, .ref aw, .ref ad])), (hm, .inr (2, [.ref bm, .int um])), (bm, .inl (cI, 448, .inl fm)), (aw, .inl (cI, 64, .inl fw)), (ad, .inl (cI, 8, .inl fd)), (hB, .inr (2, [.ref bB, .int uB])), (bB, .inl (cI, 64, .inl fB)), (hI, .inr (2, [.ref bI, .int uI])), (bI, .inl (cI, 32, .inl fI))] sz)) 0 0 (va_A [(qs, .inr (3, [.ref qi, .ref qo, .ref qd, .ref qk, .ref qv, .ref qf, .ref qa, .ref gh, .ref hk, .int cnt, .int ivl, .int drw])), (qk, .inr (2, [.ref bk, .int (nI 32)])), (bk, .inl (cI, 32, .inl fk)), (qv, .inr (2, [.ref bv, .int (nI 32)])), (bv, .inl (cI, 32, .inl fv)), (qf, .inr (2, [.ref bf, .int uf])), (bf, .inl (cI, 32, .inl ff)), (hk, .inr (1, [.ref hh, .ref hB, .ref hI])), (hh, .inr (0, [.ref hm, .ref aw, .ref ad])), (hm, .inr (2, [.ref bm, .int um])), (bm, .inl (cI, 448, .inl fm)), (aw, .inl (cI, 64, .inl fw)), (ad, .inl (cI, 8, .inl fd)), (hB, .inr (2, [.ref bB, .int uB])), (bB, .inl (cI, 64, .inl fB)), (hI, .inr (2, [.ref bI, .int uI])), (bI, .inl (cI, 32, .inl fI))] sz) := by
  refine Met.ofW (cc := cX3_renewValue) (maxL := 1) (ret := none) (by decide) rfl ?_
  intro p e s m args below meth c s₁ B hml hv
  obtain ⟨rfl, hsz, hP, hK, hD0, hT⟩ := hv
  have hx := B.exec
  have hb := B.bytes
  have hr := B.returns
  have hts := atoms_spec (ws := wsX3_renewValue) B.pre
  have hown : s.vm.findClass RX3 = some m.cls := findClass_of_methodNamed B.named
  have hlocks := B.notSynchronized
  subst hsz
  have hD := hD0.self (sz := s.heap.size)
  generalize hAe : va_A [(qs, .inr (3, [.ref qi, .ref qo, .ref qd, .ref qk, .ref qv, .ref qf, .ref qa, .ref gh, .ref hk, .int cnt, .int ivl, .int drw])), (qk, .inr (2, [.ref bk, .int (nI 32)])), (bk, .inl (cI, 32, .inl fk)), (qv, .inr (2, [.ref bv, .int (nI 32)])), (bv, .inl (cI, 32, .inl fv)), (qf, .inr (2, [.ref bf, .int uf])), (bf, .inl (cI, 32, .inl ff)), (hk, .inr (1, [.ref hh, .ref hB, .ref hI])), (hh, .inr (0, [.ref hm, .ref aw, .ref ad])), (hm, .inr (2, [.ref bm, .int um])), (bm, .inl (cI, 448, .inl fm)), (aw, .inl (cI, 64, .inl fw)), (ad, .inl (cI, 8, .inl fd)), (hB, .inr (2, [.ref bB, .int uB])), (bB, .inl (cI, 64, .inl fB)), (hI, .inr (2, [.ref bI, .int uI])), (bI, .inl (cI, 32, .inl fI))] s.heap.size = A at hD hT ⊢
  have hA : ∀ q : Nat, s.heap.size ≤ q → A q := fun q h => by rw [← hAe]; exact Or.inr h
  have hS : va_S A s.heap s.heap [] := va_S.rf
  have hl := lv_entry ([.ref qs]) (n := 1) (Nat.le_of_ble_eq_true rfl)
  rw [lg_entry_eq]
  generalize (lg_sl ([.ref qs]) ++ List.replicate (1 - (lg_sl ([.ref qs])).length) Slot.unset).toArray = ls at hl ⊢
  have hl : lv_has ls 1 [(0, .ref qs)] := hl
  refine sm_name (fun Q hQ => ?_)
  have hf_30 := hts (.fieldLink RX3 30 "SeedMill" "formerValue" "LSeedMill$Row;") (by decide +kernel)
  have hw_X3 : ∀ w ∈ wsX30, w ∈ wsX3_renewValue := by decide +kernel
  have hf_27 := hts (.fieldLink RX3 27 "SeedMill" "value" "LSeedMill$Row;") (by decide +kernel)
  have hf_46 := hts (.fieldLink RX3 46 "SeedMill" "keyedHasher" "LSeedMill$KeyedHasher;") (by decide +kernel)
  have hf_24 := hts (.fieldLink RX3 24 "SeedMill" "key" "LSeedMill$Row;") (by decide +kernel)
  refine lv_aload_n hx hb dX3_renewValue_0 rfl (lv_at hl 0 rfl) ?_
  refine va_get (D := D) (ci := 3) (v := .ref qf) (C := RX3) (T := TX3) (N := 12) hx hb hts hw_X3 hown hK hP 0 rfl rfl 5 (by decide) hf_30 (fun _ h9 => h9) rfl dX3_renewValue_1 ?_
  refine sm_callVv (wc := [(qf, .inr (2, [.ref bf, .int uf])), (bf, .inl (cI, 32, .inl ff))]) (wr := [(qs, .inr (3, [.ref qi, .ref qo, .ref qd, .ref qk, .ref qv, .ref qf, .ref qa, .ref gh, .ref hk, .int cnt, .int ivl, .int drw])), (qk, .inr (2, [.ref bk, .int (nI 32)])), (bk, .inl (cI, 32, .inl fk)), (qv, .inr (2, [.ref bv, .int (nI 32)])), (bv, .inl (cI, 32, .inl fv)), (hk, .inr (1, [.ref hh, .ref hB, .ref hI])), (hh, .inr (0, [.ref hm, .ref aw, .ref ad])), (hm, .inr (2, [.ref bm, .int um])), (bm, .inl (cI, 448, .inl fm)), (aw, .inl (cI, 64, .inl fw)), (ad, .inl (cI, 8, .inl fd)), (hB, .inr (2, [.ref bB, .int uB])), (bB, .inl (cI, 64, .inl fB)), (hI, .inr (2, [.ref bI, .int uI])), (bI, .inl (cI, 32, .inl fI))]) (As := []) (rest := []) ⟨hx, hb, hml, hown, hts⟩ (sc_X2_empty l D cI (some (tk, tf)) _ qf bf 32 ff uf ) (cwV 0 hts gX3_renewValue_X2_empty rfl rfl rfl (by decide +kernel) ⟨Nat.le_of_ble_eq_true rfl, Nat.le_of_ble_eq_true rfl⟩) hP hD hS hA hK hT [5, 6] [0, 1, 2, 3, 4, 7, 8, 9, 10, 11, 12, 13, 14, 15, 16] rfl rfl rfl rfl (by decide) 0 2 rfl rfl rfl rfl hl.1 rfl (Nat.le_of_ble_eq_true rfl) dX3_renewValue_4 ⟨Nat.zero_le _, Nat.zero_le _⟩ (fun zt H1 locs ht hvm hB hJ hS => ?_)
  obtain ⟨hP1, -, hD1⟩ := hB
  rw [ht] at hP1
  obtain ⟨hP, hD⟩ := hJ _ hP1 hD1
  clear hJ
  generalize H1 = H at hP hS ⊢
  have hP : va_P D vwCl [(qs, .inr (3, [.ref qi, .ref qo, .ref qd, .ref qk, .ref qv, .ref qf, .ref qa, .ref gh, .ref hk, .int cnt, .int ivl, .int drw])), (qk, .inr (2, [.ref bk, .int (nI 32)])), (bk, .inl (cI, 32, .inl fk)), (qv, .inr (2, [.ref bv, .int (nI 32)])), (bv, .inl (cI, 32, .inl fv)), (qf, .inr (2, [.ref bf, .int (nI 0)])), (bf, .inl (cI, 32, .inl ff)), (hk, .inr (1, [.ref hh, .ref hB, .ref hI])), (hh, .inr (0, [.ref hm, .ref aw, .ref ad])), (hm, .inr (2, [.ref bm, .int um])), (bm, .inl (cI, 448, .inl fm)), (aw, .inl (cI, 64, .inl fw)), (ad, .inl (cI, 8, .inl fd)), (hB, .inr (2, [.ref bB, .int uB])), (bB, .inl (cI, 64, .inl fB)), (hI, .inr (2, [.ref bI, .int uI])), (bI, .inl (cI, 32, .inl fI))] H := hP.sub [0, 1, 2, 3, 4, 15, 16, 5, 6, 7, 8, 9, 10, 11, 12, 13, 14] rfl
  have hD : va_D A [(qs, .inr (3, [.ref qi, .ref qo, .ref qd, .ref qk, .ref qv, .ref qf, .ref qa, .ref gh, .ref hk, .int cnt, .int ivl, .int drw])), (qk, .inr (2, [.ref bk, .int (nI 32)])), (bk, .inl (cI, 32, .inl fk)), (qv, .inr (2, [.ref bv, .int (nI 32)])), (bv, .inl (cI, 32, .inl fv)), (qf, .inr (2, [.ref bf, .int (nI 0)])), (bf, .inl (cI, 32, .inl ff)), (hk, .inr (1, [.ref hh, .ref hB, .ref hI])), (hh, .inr (0, [.ref hm, .ref aw, .ref ad])), (hm, .inr (2, [.ref bm, .int um])), (bm, .inl (cI, 448, .inl fm)), (aw, .inl (cI, 64, .inl fw)), (ad, .inl (cI, 8, .inl fd)), (hB, .inr (2, [.ref bB, .int uB])), (bB, .inl (cI, 64, .inl fB)), (hI, .inr (2, [.ref bI, .int uI])), (bI, .inl (cI, 32, .inl fI))] := hD.sub [0, 1, 2, 3, 4, 15, 16, 5, 6, 7, 8, 9, 10, 11, 12, 13, 14] rfl rfl
  refine lv_aload_n hx hb dX3_renewValue_7 rfl (lv_at hl 0 rfl) ?_
  refine va_get (D := D) (ci := 3) (v := .ref qf) (C := RX3) (T := TX3) (N := 12) hx hb hts hw_X3 hown hK hP 0 rfl rfl 5 (by decide) hf_30 (fun _ h9 => h9) rfl dX3_renewValue_8 ?_
  refine lv_aload_n hx hb dX3_renewValue_11 rfl (lv_at hl 0 rfl) ?_
  refine va_get (D := D) (ci := 3) (v := .ref qv) (C := RX3) (T := TX3) (N := 12) hx hb hts hw_X3 hown hK hP 0 rfl rfl 4 (by decide) hf_27 (fun _ h9 => h9) rfl dX3_renewValue_12 ?_
  refine lv_bipush (v := 32) hx hb dX3_renewValue_15 (by decide) ?_
  refine sm_top (z := nI 32) rfl ?_
  refine sm_callVv (wc := [(qf, .inr (2, [.ref bf, .int (nI 0)])), (bf, .inl (cI, 32, .inl ff)), (qv, .inr (2, [.ref bv, .int (nI 32)])), (bv, .inl (cI, 32, .inl fv))]) (wr := [(qs, .inr (3, [.ref qi, .ref qo, .ref qd, .ref qk, .ref qv, .ref qf, .ref qa, .ref gh, .ref hk, .int cnt, .int ivl, .int drw])), (qk, .inr (2, [.ref bk, .int (nI 32)])), (bk, .inl (cI, 32, .inl fk)), (hk, .inr (1, [.ref hh, .ref hB, .ref hI])), (hh, .inr (0, [.ref hm, .ref aw, .ref ad])), (hm, .inr (2, [.ref bm, .int um])), (bm, .inl (cI, 448, .inl fm)), (aw, .inl (cI, 64, .inl fw)), (ad, .inl (cI, 8, .inl fd)), (hB, .inr (2, [.ref bB, .int uB])), (bB, .inl (cI, 64, .inl fB)), (hI, .inr (2, [.ref bI, .int uI])), (bI, .inl (cI, 32, .inl fI))]) (As := [.ref qv, .int (nI 32)]) (rest := []) ⟨hx, hb, hml, hown, hts⟩ (sc_X2_append l D cI (some (tk, tf)) _ qf bf 32 0 qv bv 32 32 32 ff fv (by decide) (by decide) (by decide) (by decide) (by decide)) (cwV 2 hts gX3_renewValue_X2_append rfl rfl rfl (by decide +kernel) ⟨Nat.le_of_ble_eq_true rfl, Nat.le_of_ble_eq_true rfl⟩) hP hD hS hA hK hT [5, 6, 3, 4] [0, 1, 2, 7, 8, 9, 10, 11, 12, 13, 14, 15, 16] rfl rfl rfl rfl (by decide) 0 2 rfl rfl rfl rfl hl.1 rfl (Nat.le_of_ble_eq_true rfl) dX3_renewValue_17 ⟨Nat.zero_le _, Nat.zero_le _⟩ (fun zt H1 locs ht hvm hB hJ hS => ?_)
  obtain ⟨hP1, -, hD1⟩ := hB
  rw [ht] at hP1
  obtain ⟨hP, hD⟩ := hJ _ hP1 hD1
  clear hJ
  generalize H1 = H at hP hS ⊢
  have hP : va_P D vwCl [(qs, .inr (3, [.ref qi, .ref qo, .ref qd, .ref qk, .ref qv, .ref qf, .ref qa, .ref gh, .ref hk, .int cnt, .int ivl, .int drw])), (qk, .inr (2, [.ref bk, .int (nI 32)])), (bk, .inl (cI, 32, .inl fk)), (qv, .inr (2, [.ref bv, .int (nI 32)])), (bv, .inl (cI, 32, .inl fv)), (qf, .inr (2, [.ref bf, .int (nI (0 + min 32 32))])), (bf, .inl (cI, 32, .inl (sm_ap ff 0 fv (min 32 32)))), (hk, .inr (1, [.ref hh, .ref hB, .ref hI])), (hh, .inr (0, [.ref hm, .ref aw, .ref ad])), (hm, .inr (2, [.ref bm, .int um])), (bm, .inl (cI, 448, .inl fm)), (aw, .inl (cI, 64, .inl fw)), (ad, .inl (cI, 8, .inl fd)), (hB, .inr (2, [.ref bB, .int uB])), (bB, .inl (cI, 64, .inl fB)), (hI, .inr (2, [.ref bI, .int uI])), (bI, .inl (cI, 32, .inl fI))] H := hP.sub [0, 1, 2, 15, 16, 13, 14, 3, 4, 5, 6, 7, 8, 9, 10, 11, 12] rfl
  have hD : va_D A [(qs, .inr (3, [.ref qi, .ref qo, .ref qd, .ref qk, .ref qv, .ref qf, .ref qa, .ref gh, .ref hk, .int cnt, .int ivl, .int drw])), (qk, .inr (2, [.ref bk, .int (nI 32)])), (bk, .inl (cI, 32, .inl fk)), (qv, .inr (2, [.ref bv, .int (nI 32)])), (bv, .inl (cI, 32, .inl fv)), (qf, .inr (2, [.ref bf, .int (nI (0 + min 32 32))])), (bf, .inl (cI, 32, .inl (sm_ap ff 0 fv (min 32 32)))), (hk, .inr (1, [.ref hh, .ref hB, .ref hI])), (hh, .inr (0, [.ref hm, .ref aw, .ref ad])), (hm, .inr (2, [.ref bm, .int um])), (bm, .inl (cI, 448, .inl fm)), (aw, .inl (cI, 64, .inl fw)), (ad, .inl (cI, 8, .inl fd)), (hB, .inr (2, [.ref bB, .int uB])), (bB, .inl (cI, 64, .inl fB)), (hI, .inr (2, [.ref bI, .int uI])), (bI, .inl (cI, 32, .inl fI))] := hD.sub [0, 1, 2, 15, 16, 13, 14, 3, 4, 5, 6, 7, 8, 9, 10, 11, 12] rfl rfl
  rw [show min 32 32 = 32 from rfl, Nat.zero_add] at hP hD
  have hP := sm_arr hP 6 rfl (fv) (fun j hj => sm_ap_z hj)
  have hD := sm_arrD (y := .inl (cI, 32, .inl (fv))) hD 6 rfl
  have hP : va_P D vwCl [(qs, .inr (3, [.ref qi, .ref qo, .ref qd, .ref qk, .ref qv, .ref qf, .ref qa, .ref gh, .ref hk, .int cnt, .int ivl, .int drw])), (qk, .inr (2, [.ref bk, .int (nI 32)])), (bk, .inl (cI, 32, .inl fk)), (qv, .inr (2, [.ref bv, .int (nI 32)])), (bv, .inl (cI, 32, .inl fv)), (qf, .inr (2, [.ref bf, .int (nI 32)])), (bf, .inl (cI, 32, .inl fv)), (hk, .inr (1, [.ref hh, .ref hB, .ref hI])), (hh, .inr (0, [.ref hm, .ref aw, .ref ad])), (hm, .inr (2, [.ref bm, .int um])), (bm, .inl (cI, 448, .inl fm)), (aw, .inl (cI, 64, .inl fw)), (ad, .inl (cI, 8, .inl fd)), (hB, .inr (2, [.ref bB, .int uB])), (bB, .inl (cI, 64, .inl fB)), (hI, .inr (2, [.ref bI, .int uI])), (bI, .inl (cI, 32, .inl fI))] H := hP
  have hD : va_D A [(qs, .inr (3, [.ref qi, .ref qo, .ref qd, .ref qk, .ref qv, .ref qf, .ref qa, .ref gh, .ref hk, .int cnt, .int ivl, .int drw])), (qk, .inr (2, [.ref bk, .int (nI 32)])), (bk, .inl (cI, 32, .inl fk)), (qv, .inr (2, [.ref bv, .int (nI 32)])), (bv, .inl (cI, 32, .inl fv)), (qf, .inr (2, [.ref bf, .int (nI 32)])), (bf, .inl (cI, 32, .inl fv)), (hk, .inr (1, [.ref hh, .ref hB, .ref hI])), (hh, .inr (0, [.ref hm, .ref aw, .ref ad])), (hm, .inr (2, [.ref bm, .int um])), (bm, .inl (cI, 448, .inl fm)), (aw, .inl (cI, 64, .inl fw)), (ad, .inl (cI, 8, .inl fd)), (hB, .inr (2, [.ref bB, .int uB])), (bB, .inl (cI, 64, .inl fB)), (hI, .inr (2, [.ref bI, .int uI])), (bI, .inl (cI, 32, .inl fI))] := hD
  refine lv_aload_n hx hb dX3_renewValue_20 rfl (lv_at hl 0 rfl) ?_
  refine va_get (D := D) (ci := 3) (v := .ref hk) (C := RX3) (T := TX3) (N := 12) hx hb hts hw_X3 hown hK hP 0 rfl rfl 8 (by decide) hf_46 (fun _ h9 => h9) rfl dX3_renewValue_21 ?_
  refine lv_aload_n hx hb dX3_renewValue_24 rfl (lv_at hl 0 rfl) ?_
  refine va_get (D := D) (ci := 3) (v := .ref qk) (C := RX3) (T := TX3) (N := 12) hx hb hts hw_X3 hown hK hP 0 rfl rfl 3 (by decide) hf_24 (fun _ h9 => h9) rfl dX3_renewValue_25 ?_
  refine sm_callVv (wc := [(hk, .inr (1, [.ref hh, .ref hB, .ref hI])), (hh, .inr (0, [.ref hm, .ref aw, .ref ad])), (hm, .inr (2, [.ref bm, .int um])), (bm, .inl (cI, 448, .inl fm)), (aw, .inl (cI, 64, .inl fw)), (ad, .inl (cI, 8, .inl fd)), (hB, .inr (2, [.ref bB, .int uB])), (bB, .inl (cI, 64, .inl fB)), (qk, .inr (2, [.ref bk, .int (nI 32)])), (bk, .inl (cI, 32, .inl fk))]) (wr := [(qs, .inr (3, [.ref qi, .ref qo, .ref qd, .ref qk, .ref qv, .ref qf, .ref qa, .ref gh, .ref hk, .int cnt, .int ivl, .int drw])), (qv, .inr (2, [.ref bv, .int (nI 32)])), (bv, .inl (cI, 32, .inl fv)), (qf, .inr (2, [.ref bf, .int (nI 32)])), (bf, .inl (cI, 32, .inl fv)), (hI, .inr (2, [.ref bI, .int uI])), (bI, .inl (cI, 32, .inl fI))]) (As := [.ref qk]) (rest := []) ⟨hx, hb, hml, hown, hts⟩ (sc_X1_begin l D cI tk tf _ hk hh hm bm aw ad hB bB hI bI qk bk 32 32 fm fw fd fB fk um uB (by decide) (by decide) (by decide)) (cwV 1 hts gX3_renewValue_X1_begin rfl rfl rfl (by decide +kernel) ⟨Nat.le_of_ble_eq_true rfl, Nat.le_of_ble_eq_true rfl⟩) hP hD hS hA hK hT [7, 8, 9, 10, 11, 12, 13, 14, 1, 2] [0, 3, 4, 5, 6, 15, 16] rfl rfl rfl rfl (by decide) 0 1 rfl rfl rfl rfl hl.1 rfl (Nat.le_of_ble_eq_true rfl) dX3_renewValue_28 ⟨Nat.zero_le _, Nat.zero_le _⟩ (fun zt H1 locs ht hvm hB hJ hS => ?_)
  obtain ⟨fm3, fw3, fd3, hP1, -, hD1⟩ := hB
  rw [ht] at hP1
  obtain ⟨hP, hD⟩ := hJ _ hP1 hD1
  clear hJ
  generalize H1 = H at hP hS ⊢
  have hP : va_P D vwCl [(qs, .inr (3, [.ref qi, .ref qo, .ref qd, .ref qk, .ref qv, .ref qf, .ref qa, .ref gh, .ref hk, .int cnt, .int ivl, .int drw])), (qk, .inr (2, [.ref bk, .int (nI 32)])), (bk, .inl (cI, 32, .inl fk)), (qv, .inr (2, [.ref bv, .int (nI 32)])), (bv, .inl (cI, 32, .inl fv)), (qf, .inr (2, [.ref bf, .int (nI 32)])), (bf, .inl (cI, 32, .inl fv)), (hk, .inr (1, [.ref hh, .ref hB, .ref hI])), (hh, .inr (0, [.ref hm, .ref aw, .ref ad])), (hm, .inr (2, [.ref bm, .int (nI (0 + 64))])), (bm, .inl (cI, 448, .inl (sm_ap fm3 0 (fun j => sm_kb fk 32 j ^^^ 54) 64))), (aw, .inl (cI, 64, .inl fw3)), (ad, .inl (cI, 8, .inl fd3)), (hB, .inr (2, [.ref bB, .int (nI 64)])), (bB, .inl (cI, 64, .inl (sm_kb fk 32))), (hI, .inr (2, [.ref bI, .int uI])), (bI, .inl (cI, 32, .inl fI))] H := hP.sub [0, 15, 16, 1, 2, 3, 4, 7, 8, 9, 10, 11, 12, 13, 14, 5, 6] rfl
  have hD : va_D A [(qs, .inr (3, [.ref qi, .ref qo, .ref qd, .ref qk, .ref qv, .ref qf, .ref qa, .ref gh, .ref hk, .int cnt, .int ivl, .int drw])), (qk, .inr (2, [.ref bk, .int (nI 32)])), (bk, .inl (cI, 32, .inl fk)), (qv, .inr (2, [.ref bv, .int (nI 32)])), (bv, .inl (cI, 32, .inl fv)), (qf, .inr (2, [.ref bf, .int (nI 32)])), (bf, .inl (cI, 32, .inl fv)), (hk, .inr (1, [.ref hh, .ref hB, .ref hI])), (hh, .inr (0, [.ref hm, .ref aw, .ref ad])), (hm, .inr (2, [.ref bm, .int (nI (0 + 64))])), (bm, .inl (cI, 448, .inl (sm_ap fm3 0 (fun j => sm_kb fk 32 j ^^^ 54) 64))), (aw, .inl (cI, 64, .inl fw3)), (ad, .inl (cI, 8, .inl fd3)), (hB, .inr (2, [.ref bB, .int (nI 64)])), (bB, .inl (cI, 64, .inl (sm_kb fk 32))), (hI, .inr (2, [.ref bI, .int uI])), (bI, .inl (cI, 32, .inl fI))] := hD.sub [0, 15, 16, 1, 2, 3, 4, 7, 8, 9, 10, 11, 12, 13, 14, 5, 6] rfl rfl
  refine lv_aload_n hx hb dX3_renewValue_31 rfl (lv_at hl 0 rfl) ?_
  refine va_get (D := D) (ci := 3) (v := .ref hk) (C := RX3) (T := TX3) (N := 12) hx hb hts hw_X3 hown hK hP 0 rfl rfl 8 (by decide) hf_46 (fun _ h9 => h9) rfl dX3_renewValue_32 ?_
  refine lv_aload_n hx hb dX3_renewValue_35 rfl (lv_at hl 0 rfl) ?_
  refine va_get (D := D) (ci := 3) (v := .ref qv) (C := RX3) (T := TX3) (N := 12) hx hb hts hw_X3 hown hK hP 0 rfl rfl 4 (by decide) hf_27 (fun _ h9 => h9) rfl dX3_renewValue_36 ?_
  refine sm_callVv (wc := [(hk, .inr (1, [.ref hh, .ref hB, .ref hI])), (hh, .inr (0, [.ref hm, .ref aw, .ref ad])), (hm, .inr (2, [.ref bm, .int (nI (0 + 64))])), (bm, .inl (cI, 448, .inl (sm_ap fm3 0 (fun j => sm_kb fk 32 j ^^^ 54) 64))), (qv, .inr (2, [.ref bv, .int (nI 32)])), (bv, .inl (cI, 32, .inl fv))]) (wr := [(qs, .inr (3, [.ref qi, .ref qo, .ref qd, .ref qk, .ref qv, .ref qf, .ref qa, .ref gh, .ref hk, .int cnt, .int ivl, .int drw])), (qk, .inr (2, [.ref bk, .int (nI 32)])), (bk, .inl (cI, 32, .inl fk)), (qf, .inr (2, [.ref bf, .int (nI 32)])), (bf, .inl (cI, 32, .inl fv)), (aw, .inl (cI, 64, .inl fw3)), (ad, .inl (cI, 8, .inl fd3)), (hB, .inr (2, [.ref bB, .int (nI 64)])), (bB, .inl (cI, 64, .inl (sm_kb fk 32))), (hI, .inr (2, [.ref bI, .int uI])), (bI, .inl (cI, 32, .inl fI))]) (As := [.ref qv]) (rest := []) ⟨hx, hb, hml, hown, hts⟩ (sc_X1_add l D cI (some (tk, tf)) _ hk hh hm bm aw ad hB bB hI bI (0 + 64) qv bv 32 32 (sm_ap fm3 0 (fun j => sm_kb fk 32 j ^^^ 54) 64) fv (by decide) (by decide) (by decide)) (cwV 1 hts gX3_renewValue_X1_add rfl rfl rfl (by decide +kernel) ⟨Nat.le_of_ble_eq_true rfl, Nat.le_of_ble_eq_true rfl⟩) hP hD hS hA hK hT [7, 8, 9, 10, 3, 4] [0, 1, 2, 5, 6, 11, 12, 13, 14, 15, 16] rfl rfl rfl rfl (by decide) 0 1 rfl rfl rfl rfl hl.1 rfl (Nat.le_of_ble_eq_true rfl) dX3_renewValue_39 ⟨Nat.zero_le _, Nat.zero_le _⟩ (fun zt H1 locs ht hvm hB hJ hS => ?_)
  obtain ⟨hP1, -, hD1⟩ := hB
  rw [ht] at hP1
  obtain ⟨hP, hD⟩ := hJ _ hP1 hD1
  clear hJ
  generalize H1 = H at hP hS ⊢
  have hP : va_P D vwCl [(qs, .inr (3, [.ref qi, .ref qo, .ref qd, .ref qk, .ref qv, .ref qf, .ref qa, .ref gh, .ref hk, .int cnt, .int ivl, .int drw])), (qk, .inr (2, [.ref bk, .int (nI 32)])), (bk, .inl (cI, 32, .inl fk)), (qv, .inr (2, [.ref bv, .int (nI 32)])), (bv, .inl (cI, 32, .inl fv)), (qf, .inr (2, [.ref bf, .int (nI 32)])), (bf, .inl (cI, 32, .inl fv)), (hk, .inr (1, [.ref hh, .ref hB, .ref hI])), (hh, .inr (0, [.ref hm, .ref aw, .ref ad])), (hm, .inr (2, [.ref bm, .int (nI (0 + 64 + 32))])), (bm, .inl (cI, 448, .inl (sm_ap (sm_ap fm3 0 (fun j => sm_kb fk 32 j ^^^ 54) 64) (0 + 64) fv 32))), (aw, .inl (cI, 64, .inl fw3)), (ad, .inl (cI, 8, .inl fd3)), (hB, .inr (2, [.ref bB, .int (nI 64)])), (bB, .inl (cI, 64, .inl (sm_kb fk 32))), (hI, .inr (2, [.ref bI, .int uI])), (bI, .inl (cI, 32, .inl fI))] H := hP.sub [0, 1, 2, 15, 16, 3, 4, 11, 12, 13, 14, 5, 6, 7, 8, 9, 10] rfl
  have hD : va_D A [(qs, .inr (3, [.ref qi, .ref qo, .ref qd, .ref qk, .ref qv, .ref qf, .ref qa, .ref gh, .ref hk, .int cnt, .int ivl, .int drw])), (qk, .inr (2, [.ref bk, .int (nI 32)])), (bk, .inl (cI, 32, .inl fk)), (qv, .inr (2, [.ref bv, .int (nI 32)])), (bv, .inl (cI, 32, .inl fv)), (qf, .inr (2, [.ref bf, .int (nI 32)])), (bf, .inl (cI, 32, .inl fv)), (hk, .inr (1, [.ref hh, .ref hB, .ref hI])), (hh, .inr (0, [.ref hm, .ref aw, .ref ad])), (hm, .inr (2, [.ref bm, .int (nI (0 + 64 + 32))])), (bm, .inl (cI, 448, .inl (sm_ap (sm_ap fm3 0 (fun j => sm_kb fk 32 j ^^^ 54) 64) (0 + 64) fv 32))), (aw, .inl (cI, 64, .inl fw3)), (ad, .inl (cI, 8, .inl fd3)), (hB, .inr (2, [.ref bB, .int (nI 64)])), (bB, .inl (cI, 64, .inl (sm_kb fk 32))), (hI, .inr (2, [.ref bI, .int uI])), (bI, .inl (cI, 32, .inl fI))] := hD.sub [0, 1, 2, 15, 16, 3, 4, 11, 12, 13, 14, 5, 6, 7, 8, 9, 10] rfl rfl
  refine lv_aload_n hx hb dX3_renewValue_42 rfl (lv_at hl 0 rfl) ?_
  refine va_get (D := D) (ci := 3) (v := .ref hk) (C := RX3) (T := TX3) (N := 12) hx hb hts hw_X3 hown hK hP 0 rfl rfl 8 (by decide) hf_46 (fun _ h9 => h9) rfl dX3_renewValue_43 ?_
  refine lv_aload_n hx hb dX3_renewValue_46 rfl (lv_at hl 0 rfl) ?_
  refine va_get (D := D) (ci := 3) (v := .ref qv) (C := RX3) (T := TX3) (N := 12) hx hb hts hw_X3 hown hK hP 0 rfl rfl 4 (by decide) hf_27 (fun _ h9 => h9) rfl dX3_renewValue_47 ?_
  refine sm_callVv (wc := [(hk, .inr (1, [.ref hh, .ref hB, .ref hI])), (hh, .inr (0, [.ref hm, .ref aw, .ref ad])), (hm, .inr (2, [.ref bm, .int (nI (0 + 64 + 32))])), (bm, .inl (cI, 448, .inl (sm_ap (sm_ap fm3 0 (fun j => sm_kb fk 32 j ^^^ 54) 64) (0 + 64) fv 32))), (aw, .inl (cI, 64, .inl fw3)), (ad, .inl (cI, 8, .inl fd3)), (hB, .inr (2, [.ref bB, .int (nI 64)])), (bB, .inl (cI, 64, .inl (sm_kb fk 32))), (hI, .inr (2, [.ref bI, .int uI])), (bI, .inl (cI, 32, .inl fI)), (qv, .inr (2, [.ref bv, .int (nI 32)])), (bv, .inl (cI, 32, .inl fv))]) (wr := [(qs, .inr (3, [.ref qi, .ref qo, .ref qd, .ref qk, .ref qv, .ref qf, .ref qa, .ref gh, .ref hk, .int cnt, .int ivl, .int drw])), (qk, .inr (2, [.ref bk, .int (nI 32)])), (bk, .inl (cI, 32, .inl fk)), (qf, .inr (2, [.ref bf, .int (nI 32)])), (bf, .inl (cI, 32, .inl fv))]) (As := [.ref qv]) (rest := []) ⟨hx, hb, hml, hown, hts⟩ (sc_X1_end l D cI tk tf _ hk hh hm bm aw ad hB bB hI bI qv bv 32 (0 + 64 + 32) (sm_ap (sm_ap fm3 0 (fun j => sm_kb fk 32 j ^^^ 54) 64) (0 + 64) fv 32) fw3 fd3 (sm_kb fk 32) fI fv uI (nI 32) (by decide) (by decide) (by decide)) (cwV 1 hts gX3_renewValue_X1_end rfl rfl rfl (by decide +kernel) ⟨Nat.le_of_ble_eq_true rfl, Nat.le_of_ble_eq_true rfl⟩) hP hD hS hA hK hT [7, 8, 9, 10, 11, 12, 13, 14, 15, 16, 3, 4] [0, 1, 2, 5, 6] rfl rfl rfl rfl (by decide) 0 1 rfl rfl rfl rfl hl.1 rfl (Nat.le_of_ble_eq_true rfl) dX3_renewValue_50 ⟨Nat.zero_le _, Nat.zero_le _⟩ (fun zt H1 locs ht hvm hB hJ hS => ?_)
  obtain ⟨fm4, um4, fw4, fd4, fI4, hP1, -, hD1⟩ := hB
  rw [ht] at hP1
  obtain ⟨hP, hD⟩ := hJ _ hP1 hD1
  clear hJ
  generalize H1 = H at hP hS ⊢
  have hP : va_P D vwCl [(qs, .inr (3, [.ref qi, .ref qo, .ref qd, .ref qk, .ref qv, .ref qf, .ref qa, .ref gh, .ref hk, .int cnt, .int ivl, .int drw])), (qk, .inr (2, [.ref bk, .int (nI 32)])), (bk, .inl (cI, 32, .inl fk)), (qv, .inr (2, [.ref bv, .int (nI 32)])), (bv, .inl (cI, 32, .inl (sm_ap fv 0 (sm_out (sm_kb fk 32) (sm_sha (sm_ap (sm_ap fm3 0 (fun j => sm_kb fk 32 j ^^^ 54) 64) (0 + 64) fv 32) (0 + 64 + 32))) 32))), (qf, .inr (2, [.ref bf, .int (nI 32)])), (bf, .inl (cI, 32, .inl fv)), (hk, .inr (1, [.ref hh, .ref hB, .ref hI])), (hh, .inr (0, [.ref hm, .ref aw, .ref ad])), (hm, .inr (2, [.ref bm, .int um4])), (bm, .inl (cI, 448, .inl fm4)), (aw, .inl (cI, 64, .inl fw4)), (ad, .inl (cI, 8, .inl fd4)), (hB, .inr (2, [.ref bB, .int (nI 64)])), (bB, .inl (cI, 64, .inl (sm_kb fk 32))), (hI, .inr (2, [.ref bI, .int (nI 32)])), (bI, .inl (cI, 32, .inl fI4))] H := hP.sub [0, 1, 2, 15, 16, 3, 4, 5, 6, 7, 8, 9, 10, 11, 12, 13, 14] rfl
  have hD : va_D A [(qs, .inr (3, [.ref qi, .ref qo, .ref qd, .ref qk, .ref qv, .ref qf, .ref qa, .ref gh, .ref hk, .int cnt, .int ivl, .int drw])), (qk, .inr (2, [.ref bk, .int (nI 32)])), (bk, .inl (cI, 32, .inl fk)), (qv, .inr (2, [.ref bv, .int (nI 32)])), (bv, .inl (cI, 32, .inl (sm_ap fv 0 (sm_out (sm_kb fk 32) (sm_sha (sm_ap (sm_ap fm3 0 (fun j => sm_kb fk 32 j ^^^ 54) 64) (0 + 64) fv 32) (0 + 64 + 32))) 32))), (qf, .inr (2, [.ref bf, .int (nI 32)])), (bf, .inl (cI, 32, .inl fv)), (hk, .inr (1, [.ref hh, .ref hB, .ref hI])), (hh, .inr (0, [.ref hm, .ref aw, .ref ad])), (hm, .inr (2, [.ref bm, .int um4])), (bm, .inl (cI, 448, .inl fm4)), (aw, .inl (cI, 64, .inl fw4)), (ad, .inl (cI, 8, .inl fd4)), (hB, .inr (2, [.ref bB, .int (nI 64)])), (bB, .inl (cI, 64, .inl (sm_kb fk 32))), (hI, .inr (2, [.ref bI, .int (nI 32)])), (bI, .inl (cI, 32, .inl fI4))] := hD.sub [0, 1, 2, 15, 16, 3, 4, 5, 6, 7, 8, 9, 10, 11, 12, 13, 14] rfl rfl
  rw [sm_hmE] at hP hD
  have hP := sm_arr hP 4 rfl (sm_nv fk fv) (fun j hj => sm_ap_z hj)
  have hD := sm_arrD (y := .inl (cI, 32, .inl (sm_nv fk fv))) hD 4 rfl
  have hP : va_P D vwCl [(qs, .inr (3, [.ref qi, .ref qo, .ref qd, .ref qk, .ref qv, .ref qf, .ref qa, .ref gh, .ref hk, .int cnt, .int ivl, .int drw])), (qk, .inr (2, [.ref bk, .int (nI 32)])), (bk, .inl (cI, 32, .inl fk)), (qv, .inr (2, [.ref bv, .int (nI 32)])), (bv, .inl (cI, 32, .inl (sm_nv fk fv))), (qf, .inr (2, [.ref bf, .int (nI 32)])), (bf, .inl (cI, 32, .inl fv)), (hk, .inr (1, [.ref hh, .ref hB, .ref hI])), (hh, .inr (0, [.ref hm, .ref aw, .ref ad])), (hm, .inr (2, [.ref bm, .int um4])), (bm, .inl (cI, 448, .inl fm4)), (aw, .inl (cI, 64, .inl fw4)), (ad, .inl (cI, 8, .inl fd4)), (hB, .inr (2, [.ref bB, .int (nI 64)])), (bB, .inl (cI, 64, .inl (sm_kb fk 32))), (hI, .inr (2, [.ref bI, .int (nI 32)])), (bI, .inl (cI, 32, .inl fI4))] H := hP
  have hD : va_D A [(qs, .inr (3, [.ref qi, .ref qo, .ref qd, .ref qk, .ref qv, .ref qf, .ref qa, .ref gh, .ref hk, .int cnt, .int ivl, .int drw])), (qk, .inr (2, [.ref bk, .int (nI 32)])), (bk, .inl (cI, 32, .inl fk)), (qv, .inr (2, [.ref bv, .int (nI 32)])), (bv, .inl (cI, 32, .inl (sm_nv fk fv))), (qf, .inr (2, [.ref bf, .int (nI 32)])), (bf, .inl (cI, 32, .inl fv)), (hk, .inr (1, [.ref hh, .ref hB, .ref hI])), (hh, .inr (0, [.ref hm, .ref aw, .ref ad])), (hm, .inr (2, [.ref bm, .int um4])), (bm, .inl (cI, 448, .inl fm4)), (aw, .inl (cI, 64, .inl fw4)), (ad, .inl (cI, 8, .inl fd4)), (hB, .inr (2, [.ref bB, .int (nI 64)])), (bB, .inl (cI, 64, .inl (sm_kb fk 32))), (hI, .inr (2, [.ref bI, .int (nI 32)])), (bI, .inl (cI, 32, .inl fI4))] := hD
  rw [hQ]
  have hP9 : va_P D vwCl [(qs, .inr (3, [.ref qi, .ref qo, .ref qd, .ref qk, .ref qv, .ref qf, .ref qa, .ref gh, .ref hk, .int cnt, .int ivl, .int drw])), (qk, .inr (2, [.ref bk, .int (nI 32)])), (bk, .inl (cI, 32, .inl fk)), (qv, .inr (2, [.ref bv, .int (nI 32)])), (bv, .inl (cI, 32, .inl (sm_nv fk fv))), (qf, .inr (2, [.ref bf, .int (nI 32)])), (bf, .inl (cI, 32, .inl fv)), (hk, .inr (1, [.ref hh, .ref hB, .ref hI])), (hh, .inr (0, [.ref hm, .ref aw, .ref ad])), (hm, .inr (2, [.ref bm, .int um4])), (bm, .inl (cI, 448, .inl fm4)), (aw, .inl (cI, 64, .inl fw4)), (ad, .inl (cI, 8, .inl fd4)), (hB, .inr (2, [.ref bB, .int (nI 64)])), (bB, .inl (cI, 64, .inl (sm_kb fk 32))), (hI, .inr (2, [.ref bI, .int (nI 32)])), (bI, .inl (cI, 32, .inl fI4))] H := hP
  have hD9 : va_D A [(qs, .inr (3, [.ref qi, .ref qo, .ref qd, .ref qk, .ref qv, .ref qf, .ref qa, .ref gh, .ref hk, .int cnt, .int ivl, .int drw])), (qk, .inr (2, [.ref bk, .int (nI 32)])), (bk, .inl (cI, 32, .inl fk)), (qv, .inr (2, [.ref bv, .int (nI 32)])), (bv, .inl (cI, 32, .inl (sm_nv fk fv))), (qf, .inr (2, [.ref bf, .int (nI 32)])), (bf, .inl (cI, 32, .inl fv)), (hk, .inr (1, [.ref hh, .ref hB, .ref hI])), (hh, .inr (0, [.ref hm, .ref aw, .ref ad])), (hm, .inr (2, [.ref bm, .int um4])), (bm, .inl (cI, 448, .inl fm4)), (aw, .inl (cI, 64, .inl fw4)), (ad, .inl (cI, 8, .inl fd4)), (hB, .inr (2, [.ref bB, .int (nI 64)])), (bB, .inl (cI, 64, .inl (sm_kb fk 32))), (hI, .inr (2, [.ref bI, .int (nI 32)])), (bI, .inl (cI, 32, .inl fI4))] := hD
  exact W.vret hx hb hr (fun t ht hW => ⟨⟨(), rfl, trivial, ⟨_, _, _, _, _, _, _, _, by rw [ht]; exact hP9, va_K.moved hW.alike hK, hD9⟩⟩, hS.F ht⟩) hS.2.2 dX3_renewValue_53

def rm_X3_stir : Room := ({ frames := 6, cells := 0, slots := 0, locals := 139 } : Room)
set_option maxHeartbeats 4000000 in
set_option maxRecDepth 100000 in
/-- stir -/
theorem sc_X3_stir (l : Launch) (D : va_G) (cI : ClassId) (tk tf : Nat) (sz : Nat) (qs qi bi qo bo qd bd qk bk qv bv qf bf qa ba gh gm gb gw gd hk hh hm bm aw ad hB bB hI bI : Nat) (cnt ivl drw : Int32) (ni : Nat) (fi fk fv ff : Nat → Int32) (uf : Int32) (fm : Nat → Int32) (um : Int32) (fw fd fB : Nat → Int32) (uB : Int32) (fI : Nat → Int32) (uI : Int32) (hni : ni ≤ 300) : Met l yX3_stir wsX3_stir rm_X3_stir (va_Pc [.ref qs] (sm_PW D cI (some (tk, tf)) [(qs, .inr (3, [.ref qi, .ref qo, .ref qd, .ref qk, .ref qv, .ref qf, .ref qa, .ref gh, .ref hk, .int cnt, .int ivl, .int drw])), (qi, .inr (2, [.ref bi, .int (nI ni)])), (bi, .inl (cI, 300, .inl fi)), (qk, .inr (2, [.ref bk, .int (nI 32)])), (bk, .inl (cI, 32, .inl fk)), (qv, .inr (2, [.ref bv, .int (nI 32)])), (bv, .inl (cI, 32, .inl fv)), (qf, .inr (2, [.ref bf, .int uf])), (bf, .inl (cI, 32, .inl ff)), (hk, .inr (1, [.ref hh, .ref hB, .ref hI])), (hh, .inr (0, [.ref hm, .ref aw, .ref ad])), (hm, .inr (2, [.ref bm, .int um])), (bm, .inl (cI, 448, .inl fm)), (aw, .inl (cI, 64, .inl fw)), (ad, .inl (cI, 8, .inl fd)), (hB, .inr (2, [.ref bB, .int uB])), (bB, .inl (cI, 64, .inl fB)), (hI, .inr (2, [.ref bI, .int uI])), (bI, .inl (cI, 32, .inl fI))] sz)) (va_Qv (fun (_ : Unit) => True) (fun _ t => ∃ (ff2 : Nat → Int32) (fm2 : Nat → Int32) (um2 : Int32) (fw2 : Nat → Int32) (fd2 : Nat → Int32) (fB2 : Nat → Int32) (uB2 : Int32) (fI2 : Nat → Int32) (uI2 : Int32), (sm_stir (fk, fv) fi ni).2 = sm_nv (sm_stir (fk, fv) fi ni).1 ff2 ∧ sm_QW D cI (va_A [(qs, .inr (3, [.ref qi, .ref qo, .ref qd, .ref qk, .ref qv, .ref qf, .ref qa, .ref gh, .ref hk, .int cnt, .int ivl, .int drw])), (qi, .inr (2, [.ref bi, .int (nI ni)])), (bi, .inl (cI, 300, .inl fi)), (qk, .inr (2, [.ref bk, .int (nI 32)])), (bk, .inl (cI, 32, .inl fk)), (qv, .inr (2, [.ref bv, .int (nI 32)])), (bv, .inl (cI, 32, .inl fv)), (qf, .inr (2, [.ref bf, .int uf])), (bf, .inl (cI, 32, .inl ff)), (hk, .inr (1, [.ref hh, .ref hB, .ref hI])), (hh, .inr (0, [.ref hm, .ref aw, .ref ad])), (hm, .inr (2, [.ref bm, .int um])), (bm, .inl (cI, 448, .inl fm)), (aw, .inl (cI, 64, .inl fw)), (ad, .inl (cI, 8, .inl fd)), (hB, .inr (2, [.ref bB, .int uB])), (bB, .inl (cI, 64, .inl fB)), (hI, .inr (2, [.ref bI, .int uI])), (bI, .inl (cI, 32, .inl fI))] sz) [(qs, .inr (3, [.ref qi, .ref qo, .ref qd, .ref qk, .ref qv, .ref qf, .ref qa, .ref gh, .ref hk, .int cnt, .int ivl, .int drw])), (qi, .inr (2, [.ref bi, .int (nI ni)])), (bi, .inl (cI, 300, .inl fi)), (qk, .inr (2, [.ref bk, .int (nI 32)])), (bk, .inl (cI, 32, .inl ((sm_stir (fk, fv) fi ni).1))), (qv, .inr (2, [.ref bv, .int (nI 32)])), (bv, .inl (cI, 32, .inl ((sm_stir (fk, fv) fi ni).2))), (qf, .inr (2, [.ref bf, .int (nI 32)])), (bf, .inl (cI, 32, .inl ff2)), (hk, .inr (1, [.ref hh, .ref hB, .ref hI])), (hh, .inr (0, [.ref hm, .ref aw, .ref ad])), (hm, .inr (2, [.ref bm, .int um2])), (bm, .inl (cI, 448, .inl fm2)), (aw, .inl (cI, 64, .inl fw2)), (ad, .inl (cI, 8, .inl fd2)), (hB, .inr (2, [.ref bB, .int uB2])), (bB, .inl (cI, 64, .inl fB2)), (hI, .inr (2, [.ref bI, .int uI2])), (bI, .inl (cI, 32, .inl fI2))] t) (va_A [(qs, .inr (3, [.ref qi, .ref qo, .ref qd, .ref qk, .ref qv, .ref qf, .ref qa, .ref gh, .ref hk, .int cnt, .int ivl, .int drw])), (qi, .inr (2, [.ref bi, .int (nI ni)])), (bi, .inl (cI, 300, .inl fi)), (qk, .inr (2, [.ref bk, .int (nI 32)])), (bk, .inl (cI, 32, .inl fk)), (qv, .inr (2, [.ref bv, .int (nI 32)])), (bv, .inl (cI, 32, .inl fv)), (qf, .inr (2, [.ref bf, .int uf])), (bf, .inl (cI, 32, .inl ff)), (hk, .inr (1, [.ref hh, .ref hB, .ref hI])), (hh, .inr (0, [.ref hm, .ref aw, .ref ad])), (hm, .inr (2, [.ref bm, .int um])), (bm, .inl (cI, 448, .inl fm)), (aw, .inl (cI, 64, .inl fw)), (ad, .inl (cI, 8, .inl fd)), (hB, .inr (2, [.ref bB, .int uB])), (bB, .inl (cI, 64, .inl fB)), (hI, .inr (2, [.ref bI, .int uI])), (bI, .inl (cI, 32, .inl fI))] sz)) 0 0 (va_A [(qs, .inr (3, [.ref qi, .ref qo, .ref qd, .ref qk, .ref qv, .ref qf, .ref qa, .ref gh, .ref hk, .int cnt, .int ivl, .int drw])), (qi, .inr (2, [.ref bi, .int (nI ni)])), (bi, .inl (cI, 300, .inl fi)), (qk, .inr (2, [.ref bk, .int (nI 32)])), (bk, .inl (cI, 32, .inl fk)), (qv, .inr (2, [.ref bv, .int (nI 32)])), (bv, .inl (cI, 32, .inl fv)), (qf, .inr (2, [.ref bf, .int uf])), (bf, .inl (cI, 32, .inl ff)), (hk, .inr (1, [.ref hh, .ref hB, .ref hI])), (hh, .inr (0, [.ref hm, .ref aw, .ref ad])), (hm, .inr (2, [.ref bm, .int um])), (bm, .inl (cI, 448, .inl fm)), (aw, .inl (cI, 64, .inl fw)), (ad, .inl (cI, 8, .inl fd)), (hB, .inr (2, [.ref bB, .int uB])), (bB, .inl (cI, 64, .inl fB)), (hI, .inr (2, [.ref bI, .int uI])), (bI, .inl (cI, 32, .inl fI))] sz) := by
  refine Met.ofW (cc := cX3_stir) (maxL := 3) (ret := none) (by decide) rfl ?_
  intro p e s m args below meth c s₁ B hml hv
  obtain ⟨rfl, hsz, hP, hK, hD0, hT⟩ := hv
  have hx := B.exec
  have hb := B.bytes
  have hr := B.returns
  have hts := atoms_spec (ws := wsX3_stir) B.pre
  have hown : s.vm.findClass RX3 = some m.cls := findClass_of_methodNamed B.named
  have hlocks := B.notSynchronized
  subst hsz
  have hD := hD0.self (sz := s.heap.size)
  generalize hAe : va_A [(qs, .inr (3, [.ref qi, .ref qo, .ref qd, .ref qk, .ref qv, .ref qf, .ref qa, .ref gh, .ref hk, .int cnt, .int ivl, .int drw])), (qi, .inr (2, [.ref bi, .int (nI ni)])), (bi, .inl (cI, 300, .inl fi)), (qk, .inr (2, [.ref bk, .int (nI 32)])), (bk, .inl (cI, 32, .inl fk)), (qv, .inr (2, [.ref bv, .int (nI 32)])), (bv, .inl (cI, 32, .inl fv)), (qf, .inr (2, [.ref bf, .int uf])), (bf, .inl (cI, 32, .inl ff)), (hk, .inr (1, [.ref hh, .ref hB, .ref hI])), (hh, .inr (0, [.ref hm, .ref aw, .ref ad])), (hm, .inr (2, [.ref bm, .int um])), (bm, .inl (cI, 448, .inl fm)), (aw, .inl (cI, 64, .inl fw)), (ad, .inl (cI, 8, .inl fd)), (hB, .inr (2, [.ref bB, .int uB])), (bB, .inl (cI, 64, .inl fB)), (hI, .inr (2, [.ref bI, .int uI])), (bI, .inl (cI, 32, .inl fI))] s.heap.size = A at hD hT ⊢
  have hA : ∀ q : Nat, s.heap.size ≤ q → A q := fun q h => by rw [← hAe]; exact Or.inr h
  have hS : va_S A s.heap s.heap [] := va_S.rf
  have hl := lv_entry ([.ref qs]) (n := 3) (Nat.le_of_ble_eq_true rfl)
  rw [lg_entry_eq]
  generalize (lg_sl ([.ref qs]) ++ List.replicate (3 - (lg_sl ([.ref qs])).length) Slot.unset).toArray = ls at hl ⊢
  have hl : lv_has ls 3 [(0, .ref qs)] := hl
  refine sm_name (fun Q hQ => ?_)
  have hf_14 := hts (.fieldLink RX3 14 "SeedMill" "input" "LSeedMill$Row;") (by decide +kernel)
  have hw_X3 : ∀ w ∈ wsX30, w ∈ wsX3_stir := by decide +kernel
  have hf_46 := hts (.fieldLink RX3 46 "SeedMill" "keyedHasher" "LSeedMill$KeyedHasher;") (by decide +kernel)
  have hf_24 := hts (.fieldLink RX3 24 "SeedMill" "key" "LSeedMill$Row;") (by decide +kernel)
  have hf_27 := hts (.fieldLink RX3 27 "SeedMill" "value" "LSeedMill$Row;") (by decide +kernel)
  refine lv_aload_n hx hb dX3_stir_0 rfl (lv_at hl 0 rfl) ?_
  refine va_get (D := D) (ci := 3) (v := .ref qi) (C := RX3) (T := TX3) (N := 12) hx hb hts hw_X3 hown hK hP 0 rfl rfl 0 (by decide) hf_14 (fun _ h9 => h9) rfl dX3_stir_1 ?_
  refine sm_callVi (wc := [(qi, .inr (2, [.ref bi, .int (nI ni)])), (bi, .inl (cI, 300, .inl fi))]) (wr := [(qs, .inr (3, [.ref qi, .ref qo, .ref qd, .ref qk, .ref qv, .ref qf, .ref qa, .ref gh, .ref hk, .int cnt, .int ivl, .int drw])), (qk, .inr (2, [.ref bk, .int (nI 32)])), (bk, .inl (cI, 32, .inl fk)), (qv, .inr (2, [.ref bv, .int (nI 32)])), (bv, .inl (cI, 32, .inl fv)), (qf, .inr (2, [.ref bf, .int uf])), (bf, .inl (cI, 32, .inl ff)), (hk, .inr (1, [.ref hh, .ref hB, .ref hI])), (hh, .inr (0, [.ref hm, .ref aw, .ref ad])), (hm, .inr (2, [.ref bm, .int um])), (bm, .inl (cI, 448, .inl fm)), (aw, .inl (cI, 64, .inl fw)), (ad, .inl (cI, 8, .inl fd)), (hB, .inr (2, [.ref bB, .int uB])), (bB, .inl (cI, 64, .inl fB)), (hI, .inr (2, [.ref bI, .int uI])), (bI, .inl (cI, 32, .inl fI))]) (As := []) (rest := []) ⟨hx, hb, hml, hown, hts⟩ (sc_X2_size l D cI (some (tk, tf)) _ qi bi 300 fi (nI ni) ) (cwV 0 hts gX3_stir_X2_size rfl rfl rfl (by decide +kernel) ⟨Nat.le_of_ble_eq_true rfl, Nat.le_of_ble_eq_true rfl⟩) hP hD hS hA hK hT [1, 2] [0, 3, 4, 5, 6, 7, 8, 9, 10, 11, 12, 13, 14, 15, 16, 17, 18] rfl rfl rfl rfl (by decide) 0 2 rfl rfl rfl rfl hl.1 rfl (Nat.le_of_ble_eq_true rfl) dX3_stir_4 ⟨Nat.zero_le _, Nat.zero_le _⟩ (fun r_4 zt H1 locs ht hvm hw hB hJ hS => ?_)
  obtain ⟨hP1, -, hD1⟩ := hB
  rw [ht] at hP1
  obtain ⟨hP, hD⟩ := hJ _ hP1 hD1
  clear hJ
  generalize H1 = H at hP hS ⊢
  have hP : va_P D vwCl [(qs, .inr (3, [.ref qi, .ref qo, .ref qd, .ref qk, .ref qv, .ref qf, .ref qa, .ref gh, .ref hk, .int cnt, .int ivl, .int drw])), (qi, .inr (2, [.ref bi, .int (nI ni)])), (bi, .inl (cI, 300, .inl fi)), (qk, .inr (2, [.ref bk, .int (nI 32)])), (bk, .inl (cI, 32, .inl fk)), (qv, .inr (2, [.ref bv, .int (nI 32)])), (bv, .inl (cI, 32, .inl fv)), (qf, .inr (2, [.ref bf, .int uf])), (bf, .inl (cI, 32, .inl ff)), (hk, .inr (1, [.ref hh, .ref hB, .ref hI])), (hh, .inr (0, [.ref hm, .ref aw, .ref ad])), (hm, .inr (2, [.ref bm, .int um])), (bm, .inl (cI, 448, .inl fm)), (aw, .inl (cI, 64, .inl fw)), (ad, .inl (cI, 8, .inl fd)), (hB, .inr (2, [.ref bB, .int uB])), (bB, .inl (cI, 64, .inl fB)), (hI, .inr (2, [.ref bI, .int uI])), (bI, .inl (cI, 32, .inl fI))] H := hP.sub [0, 17, 18, 1, 2, 3, 4, 5, 6, 7, 8, 9, 10, 11, 12, 13, 14, 15, 16] rfl
  have hD : va_D A [(qs, .inr (3, [.ref qi, .ref qo, .ref qd, .ref qk, .ref qv, .ref qf, .ref qa, .ref gh, .ref hk, .int cnt, .int ivl, .int drw])), (qi, .inr (2, [.ref bi, .int (nI ni)])), (bi, .inl (cI, 300, .inl fi)), (qk, .inr (2, [.ref bk, .int (nI 32)])), (bk, .inl (cI, 32, .inl fk)), (qv, .inr (2, [.ref bv, .int (nI 32)])), (bv, .inl (cI, 32, .inl fv)), (qf, .inr (2, [.ref bf, .int uf])), (bf, .inl (cI, 32, .inl ff)), (hk, .inr (1, [.ref hh, .ref hB, .ref hI])), (hh, .inr (0, [.ref hm, .ref aw, .ref ad])), (hm, .inr (2, [.ref bm, .int um])), (bm, .inl (cI, 448, .inl fm)), (aw, .inl (cI, 64, .inl fw)), (ad, .inl (cI, 8, .inl fd)), (hB, .inr (2, [.ref bB, .int uB])), (bB, .inl (cI, 64, .inl fB)), (hI, .inr (2, [.ref bI, .int uI])), (bI, .inl (cI, 32, .inl fI))] := hD.sub [0, 17, 18, 1, 2, 3, 4, 5, 6, 7, 8, 9, 10, 11, 12, 13, 14, 15, 16] rfl rfl
  subst hw
  refine lv_if_ne (tgt := 14) hx hb dX3_stir_7 (by decide) (fun c_7 => ?_) (fun c_7 => ?_)
  ·
    have hz : ni ≠ 0 := fun q => c_7 (by rw [q]; rfl)
    refine lv_iconst (v := 2) hx hb dX3_stir_14 (by decide) ?_
    refine lv_istore_n (lv' := [(1, .int 2), (0, .ref qs)]) hx hb dX3_stir_15 rfl hl (by decide) rfl (fun ls hl => ?_)
    refine lv_iconst (v := 0) hx hb dX3_stir_16 (by decide) ?_
    refine lv_istore_n (lv' := [(2, .int 0), (1, .int 2), (0, .ref qs)]) hx hb dX3_stir_17 rfl hl (by decide) rfl (fun ls hl => ?_)
    refine lv_iload_n hx hb dX3_stir_18 rfl (lv_at hl 0 rfl) ?_
    refine lv_iload_n hx hb dX3_stir_19 rfl (lv_at hl 1 rfl) ?_
    refine lv_icmp_ge (tgt := 85) hx hb dX3_stir_20 (by decide) (fun c_20 => ?_) (fun c_20 => ?_)
    ·
      exact absurd c_20 (by decide)
    ·
      refine lv_aload_n hx hb dX3_stir_23 rfl (lv_at hl 2 rfl) ?_
      refine va_get (D := D) (ci := 3) (v := .ref hk) (C := RX3) (T := TX3) (N := 12) hx hb hts hw_X3 hown hK hP 0 rfl rfl 8 (by decide) hf_46 (fun _ h9 => h9) rfl dX3_stir_24 ?_
      refine lv_aload_n hx hb dX3_stir_27 rfl (lv_at hl 2 rfl) ?_
      refine va_get (D := D) (ci := 3) (v := .ref qk) (C := RX3) (T := TX3) (N := 12) hx hb hts hw_X3 hown hK hP 0 rfl rfl 3 (by decide) hf_24 (fun _ h9 => h9) rfl dX3_stir_28 ?_
      refine sm_callVv (wc := [(hk, .inr (1, [.ref hh, .ref hB, .ref hI])), (hh, .inr (0, [.ref hm, .ref aw, .ref ad])), (hm, .inr (2, [.ref bm, .int um])), (bm, .inl (cI, 448, .inl fm)), (aw, .inl (cI, 64, .inl fw)), (ad, .inl (cI, 8, .inl fd)), (hB, .inr (2, [.ref bB, .int uB])), (bB, .inl (cI, 64, .inl fB)), (qk, .inr (2, [.ref bk, .int (nI 32)])), (bk, .inl (cI, 32, .inl fk))]) (wr := [(qs, .inr (3, [.ref qi, .ref qo, .ref qd, .ref qk, .ref qv, .ref qf, .ref qa, .ref gh, .ref hk, .int cnt, .int ivl, .int drw])), (qi, .inr (2, [.ref bi, .int (nI ni)])), (bi, .inl (cI, 300, .inl fi)), (qv, .inr (2, [.ref bv, .int (nI 32)])), (bv, .inl (cI, 32, .inl fv)), (qf, .inr (2, [.ref bf, .int uf])), (bf, .inl (cI, 32, .inl ff)), (hI, .inr (2, [.ref bI, .int uI])), (bI, .inl (cI, 32, .inl fI))]) (As := [.ref qk]) (rest := []) ⟨hx, hb, hml, hown, hts⟩ (sc_X1_begin l D cI tk tf _ hk hh hm bm aw ad hB bB hI bI qk bk 32 32 fm fw fd fB fk um uB (by decide) (by decide) (by decide)) (cwV 1 hts gX3_stir_X1_begin rfl rfl rfl (by decide +kernel) ⟨Nat.le_of_ble_eq_true rfl, Nat.le_of_ble_eq_true rfl⟩) hP hD hS hA hK hT [9, 10, 11, 12, 13, 14, 15, 16, 3, 4] [0, 1, 2, 5, 6, 7, 8, 17, 18] rfl rfl rfl rfl (by decide) 0 1 rfl rfl rfl rfl hl.1 rfl (Nat.le_of_ble_eq_true rfl) dX3_stir_31 ⟨Nat.zero_le _, Nat.zero_le _⟩ (fun zt H1 locs ht hvm hB hJ hS => ?_)
      obtain ⟨fma0, fwa0, fda0, hP1, -, hD1⟩ := hB
      rw [ht] at hP1
      obtain ⟨hP, hD⟩ := hJ _ hP1 hD1
      clear hJ
      generalize H1 = H at hP hS ⊢
      have hP : va_P D vwCl [(qs, .inr (3, [.ref qi, .ref qo, .ref qd, .ref qk, .ref qv, .ref qf, .ref qa, .ref gh, .ref hk, .int cnt, .int ivl, .int drw])), (qi, .inr (2, [.ref bi, .int (nI ni)])), (bi, .inl (cI, 300, .inl fi)), (qk, .inr (2, [.ref bk, .int (nI 32)])), (bk, .inl (cI, 32, .inl fk)), (qv, .inr (2, [.ref bv, .int (nI 32)])), (bv, .inl (cI, 32, .inl fv)), (qf, .inr (2, [.ref bf, .int uf])), (bf, .inl (cI, 32, .inl ff)), (hk, .inr (1, [.ref hh, .ref hB, .ref hI])), (hh, .inr (0, [.ref hm, .ref aw, .ref ad])), (hm, .inr (2, [.ref bm, .int (nI (0 + 64))])), (bm, .inl (cI, 448, .inl (sm_ap fma0 0 (fun j => sm_kb fk 32 j ^^^ 54) 64))), (aw, .inl (cI, 64, .inl fwa0)), (ad, .inl (cI, 8, .inl fda0)), (hB, .inr (2, [.ref bB, .int (nI 64)])), (bB, .inl (cI, 64, .inl (sm_kb fk 32))), (hI, .inr (2, [.ref bI, .int uI])), (bI, .inl (cI, 32, .inl fI))] H := hP.sub [0, 1, 2, 17, 18, 3, 4, 5, 6, 9, 10, 11, 12, 13, 14, 15, 16, 7, 8] rfl
      have hD : va_D A [(qs, .inr (3, [.ref qi, .ref qo, .ref qd, .ref qk, .ref qv, .ref qf, .ref qa, .ref gh, .ref hk, .int cnt, .int ivl, .int drw])), (qi, .inr (2, [.ref bi, .int (nI ni)])), (bi, .inl (cI, 300, .inl fi)), (qk, .inr (2, [.ref bk, .int (nI 32)])), (bk, .inl (cI, 32, .inl fk)), (qv, .inr (2, [.ref bv, .int (nI 32)])), (bv, .inl (cI, 32, .inl fv)), (qf, .inr (2, [.ref bf, .int uf])), (bf, .inl (cI, 32, .inl ff)), (hk, .inr (1, [.ref hh, .ref hB, .ref hI])), (hh, .inr (0, [.ref hm, .ref aw, .ref ad])), (hm, .inr (2, [.ref bm, .int (nI (0 + 64))])), (bm, .inl (cI, 448, .inl (sm_ap fma0 0 (fun j => sm_kb fk 32 j ^^^ 54) 64))), (aw, .inl (cI, 64, .inl fwa0)), (ad, .inl (cI, 8, .inl fda0)), (hB, .inr (2, [.ref bB, .int (nI 64)])), (bB, .inl (cI, 64, .inl (sm_kb fk 32))), (hI, .inr (2, [.ref bI, .int uI])), (bI, .inl (cI, 32, .inl fI))] := hD.sub [0, 1, 2, 17, 18, 3, 4, 5, 6, 9, 10, 11, 12, 13, 14, 15, 16, 7, 8] rfl rfl
      refine lv_aload_n hx hb dX3_stir_34 rfl (lv_at hl 2 rfl) ?_
      refine va_get (D := D) (ci := 3) (v := .ref hk) (C := RX3) (T := TX3) (N := 12) hx hb hts hw_X3 hown hK hP 0 rfl rfl 8 (by decide) hf_46 (fun _ h9 => h9) rfl dX3_stir_35 ?_
      refine lv_aload_n hx hb dX3_stir_38 rfl (lv_at hl 2 rfl) ?_
      refine va_get (D := D) (ci := 3) (v := .ref qv) (C := RX3) (T := TX3) (N := 12) hx hb hts hw_X3 hown hK hP 0 rfl rfl 4 (by decide) hf_27 (fun _ h9 => h9) rfl dX3_stir_39 ?_
      refine sm_callVv (wc := [(hk, .inr (1, [.ref hh, .ref hB, .ref hI])), (hh, .inr (0, [.ref hm, .ref aw, .ref ad])), (hm, .inr (2, [.ref bm, .int (nI (0 + 64))])), (bm, .inl (cI, 448, .inl (sm_ap fma0 0 (fun j => sm_kb fk 32 j ^^^ 54) 64))), (qv, .inr (2, [.ref bv, .int (nI 32)])), (bv, .inl (cI, 32, .inl fv))]) (wr := [(qs, .inr (3, [.ref qi, .ref qo, .ref qd, .ref qk, .ref qv, .ref qf, .ref qa, .ref gh, .ref hk, .int cnt, .int ivl, .int drw])), (qi, .inr (2, [.ref bi, .int (nI ni)])), (bi, .inl (cI, 300, .inl fi)), (qk, .inr (2, [.ref bk, .int (nI 32)])), (bk, .inl (cI, 32, .inl fk)), (qf, .inr (2, [.ref bf, .int uf])), (bf, .inl (cI, 32, .inl ff)), (aw, .inl (cI, 64, .inl fwa0)), (ad, .inl (cI, 8, .inl fda0)), (hB, .inr (2, [.ref bB, .int (nI 64)])), (bB, .inl (cI, 64, .inl (sm_kb fk 32))), (hI, .inr (2, [.ref bI, .int uI])), (bI, .inl (cI, 32, .inl fI))]) (As := [.ref qv]) (rest := []) ⟨hx, hb, hml, hown, hts⟩ (sc_X1_add l D cI (some (tk, tf)) _ hk hh hm bm aw ad hB bB hI bI (0 + 64) qv bv 32 32 (sm_ap fma0 0 (fun j => sm_kb fk 32 j ^^^ 54) 64) fv (by decide) (by decide) (by decide)) (cwV 1 hts gX3_stir_X1_add rfl rfl rfl (by decide +kernel) ⟨Nat.le_of_ble_eq_true rfl, Nat.le_of_ble_eq_true rfl⟩) hP hD hS hA hK hT [9, 10, 11, 12, 5, 6] [0, 1, 2, 3, 4, 7, 8, 13, 14, 15, 16, 17, 18] rfl rfl rfl rfl (by decide) 0 1 rfl rfl rfl rfl hl.1 rfl (Nat.le_of_ble_eq_true rfl) dX3_stir_42 ⟨Nat.zero_le _, Nat.zero_le _⟩ (fun zt H1 locs ht hvm hB hJ hS => ?_)
      obtain ⟨hP1, -, hD1⟩ := hB
      rw [ht] at hP1
      obtain ⟨hP, hD⟩ := hJ _ hP1 hD1
      clear hJ
      generalize H1 = H at hP hS ⊢
      have hP : va_P D vwCl [(qs, .inr (3, [.ref qi, .ref qo, .ref qd, .ref qk, .ref qv, .ref qf, .ref qa, .ref gh, .ref hk, .int cnt, .int ivl, .int drw])), (qi, .inr (2, [.ref bi, .int (nI ni)])), (bi, .inl (cI, 300, .inl fi)), (qk, .inr (2, [.ref bk, .int (nI 32)])), (bk, .inl (cI, 32, .inl fk)), (qv, .inr (2, [.ref bv, .int (nI 32)])), (bv, .inl (cI, 32, .inl fv)), (qf, .inr (2, [.ref bf, .int uf])), (bf, .inl (cI, 32, .inl ff)), (hk, .inr (1, [.ref hh, .ref hB, .ref hI])), (hh, .inr (0, [.ref hm, .ref aw, .ref ad])), (hm, .inr (2, [.ref bm, .int (nI (0 + 64 + 32))])), (bm, .inl (cI, 448, .inl (sm_ap (sm_ap fma0 0 (fun j => sm_kb fk 32 j ^^^ 54) 64) (0 + 64) fv 32))), (aw, .inl (cI, 64, .inl fwa0)), (ad, .inl (cI, 8, .inl fda0)), (hB, .inr (2, [.ref bB, .int (nI 64)])), (bB, .inl (cI, 64, .inl (sm_kb fk 32))), (hI, .inr (2, [.ref bI, .int uI])), (bI, .inl (cI, 32, .inl fI))] H := hP.sub [0, 1, 2, 3, 4, 17, 18, 5, 6, 13, 14, 15, 16, 7, 8, 9, 10, 11, 12] rfl
      have hD : va_D A [(qs, .inr (3, [.ref qi, .ref qo, .ref qd, .ref qk, .ref qv, .ref qf, .ref qa, .ref gh, .ref hk, .int cnt, .int ivl, .int drw])), (qi, .inr (2, [.ref bi, .int (nI ni)])), (bi, .inl (cI, 300, .inl fi)), (qk, .inr (2, [.ref bk, .int (nI 32)])), (bk, .inl (cI, 32, .inl fk)), (qv, .inr (2, [.ref bv, .int (nI 32)])), (bv, .inl (cI, 32, .inl fv)), (qf, .inr (2, [.ref bf, .int uf])), (bf, .inl (cI, 32, .inl ff)), (hk, .inr (1, [.ref hh, .ref hB, .ref hI])), (hh, .inr (0, [.ref hm, .ref aw, .ref ad])), (hm, .inr (2, [.ref bm, .int (nI (0 + 64 + 32))])), (bm, .inl (cI, 448, .inl (sm_ap (sm_ap fma0 0 (fun j => sm_kb fk 32 j ^^^ 54) 64) (0 + 64) fv 32))), (aw, .inl (cI, 64, .inl fwa0)), (ad, .inl (cI, 8, .inl fda0)), (hB, .inr (2, [.ref bB, .int (nI 64)])), (bB, .inl (cI, 64, .inl (sm_kb fk 32))), (hI, .inr (2, [.ref bI, .int uI])), (bI, .inl (cI, 32, .inl fI))] := hD.sub [0, 1, 2, 3, 4, 17, 18, 5, 6, 13, 14, 15, 16, 7, 8, 9, 10, 11, 12] rfl rfl
      refine lv_aload_n hx hb dX3_stir_45 rfl (lv_at hl 2 rfl) ?_
      refine va_get (D := D) (ci := 3) (v := .ref hk) (C := RX3) (T := TX3) (N := 12) hx hb hts hw_X3 hown hK hP 0 rfl rfl 8 (by decide) hf_46 (fun _ h9 => h9) rfl dX3_stir_46 ?_
      refine lv_iload_n hx hb dX3_stir_49 rfl (lv_at hl 0 rfl) ?_
      refine sm_callVv (wc := [(hk, .inr (1, [.ref hh, .ref hB, .ref hI])), (hh, .inr (0, [.ref hm, .ref aw, .ref ad])), (hm, .inr (2, [.ref bm, .int (nI (0 + 64 + 32))])), (bm, .inl (cI, 448, .inl (sm_ap (sm_ap fma0 0 (fun j => sm_kb fk 32 j ^^^ 54) 64) (0 + 64) fv 32)))]) (wr := [(qs, .inr (3, [.ref qi, .ref qo, .ref qd, .ref qk, .ref qv, .ref qf, .ref qa, .ref gh, .ref hk, .int cnt, .int ivl, .int drw])), (qi, .inr (2, [.ref bi, .int (nI ni)])), (bi, .inl (cI, 300, .inl fi)), (qk, .inr (2, [.ref bk, .int (nI 32)])), (bk, .inl (cI, 32, .inl fk)), (qv, .inr (2, [.ref bv, .int (nI 32)])), (bv, .inl (cI, 32, .inl fv)), (qf, .inr (2, [.ref bf, .int uf])), (bf, .inl (cI, 32, .inl ff)), (aw, .inl (cI, 64, .inl fwa0)), (ad, .inl (cI, 8, .inl fda0)), (hB, .inr (2, [.ref bB, .int (nI 64)])), (bB, .inl (cI, 64, .inl (sm_kb fk 32))), (hI, .inr (2, [.ref bI, .int uI])), (bI, .inl (cI, 32, .inl fI))]) (As := [.int 0]) (rest := []) ⟨hx, hb, hml, hown, hts⟩ (sc_X1_addByte l D cI (some (tk, tf)) _ hk hh hm bm aw ad hB bB hI bI (0 + 64 + 32) (sm_ap (sm_ap fma0 0 (fun j => sm_kb fk 32 j ^^^ 54) 64) (0 + 64) fv 32) 0 (by decide)) (cwV 1 hts gX3_stir_X1_addByte rfl rfl rfl (by decide +kernel) ⟨Nat.le_of_ble_eq_true rfl, Nat.le_of_ble_eq_true rfl⟩) hP hD hS hA hK hT [9, 10, 11, 12] [0, 1, 2, 3, 4, 5, 6, 7, 8, 13, 14, 15, 16, 17, 18] rfl rfl rfl rfl (by decide) 0 1 rfl rfl rfl rfl hl.1 rfl (Nat.le_of_ble_eq_true rfl) dX3_stir_50 ⟨Nat.zero_le _, Nat.zero_le _⟩ (fun zt H1 locs ht hvm hB hJ hS => ?_)
      obtain ⟨hP1, -, hD1⟩ := hB
      rw [ht] at hP1
      obtain ⟨hP, hD⟩ := hJ _ hP1 hD1
      clear hJ
      generalize H1 = H at hP hS ⊢
      have hP : va_P D vwCl [(qs, .inr (3, [.ref qi, .ref qo, .ref qd, .ref qk, .ref qv, .ref qf, .ref qa, .ref gh, .ref hk, .int cnt, .int ivl, .int drw])), (qi, .inr (2, [.ref bi, .int (nI ni)])), (bi, .inl (cI, 300, .inl fi)), (qk, .inr (2, [.ref bk, .int (nI 32)])), (bk, .inl (cI, 32, .inl fk)), (qv, .inr (2, [.ref bv, .int (nI 32)])), (bv, .inl (cI, 32, .inl fv)), (qf, .inr (2, [.ref bf, .int uf])), (bf, .inl (cI, 32, .inl ff)), (hk, .inr (1, [.ref hh, .ref hB, .ref hI])), (hh, .inr (0, [.ref hm, .ref aw, .ref ad])), (hm, .inr (2, [.ref bm, .int (nI (0 + 64 + 32 + 1))])), (bm, .inl (cI, 448, .inl (upd (sm_ap (sm_ap fma0 0 (fun j => sm_kb fk 32 j ^^^ 54) 64) (0 + 64) fv 32) (0 + 64 + 32) 0))), (aw, .inl (cI, 64, .inl fwa0)), (ad, .inl (cI, 8, .inl fda0)), (hB, .inr (2, [.ref bB, .int (nI 64)])), (bB, .inl (cI, 64, .inl (sm_kb fk 32))), (hI, .inr (2, [.ref bI, .int uI])), (bI, .inl (cI, 32, .inl fI))] H := hP.sub [0, 1, 2, 3, 4, 5, 6, 7, 8, 15, 16, 17, 18, 9, 10, 11, 12, 13, 14] rfl
      have hD : va_D A [(qs, .inr (3, [.ref qi, .ref qo, .ref qd, .ref qk, .ref qv, .ref qf, .ref qa, .ref gh, .ref hk, .int cnt, .int ivl, .int drw])), (qi, .inr (2, [.ref bi, .int (nI ni)])), (bi, .inl (cI, 300, .inl fi)), (qk, .inr (2, [.ref bk, .int (nI 32)])), (bk, .inl (cI, 32, .inl fk)), (qv, .inr (2, [.ref bv, .int (nI 32)])), (bv, .inl (cI, 32, .inl fv)), (qf, .inr (2, [.ref bf, .int uf])), (bf, .inl (cI, 32, .inl ff)), (hk, .inr (1, [.ref hh, .ref hB, .ref hI])), (hh, .inr (0, [.ref hm, .ref aw, .ref ad])), (hm, .inr (2, [.ref bm, .int (nI (0 + 64 + 32 + 1))])), (bm, .inl (cI, 448, .inl (upd (sm_ap (sm_ap fma0 0 (fun j => sm_kb fk 32 j ^^^ 54) 64) (0 + 64) fv 32) (0 + 64 + 32) 0))), (aw, .inl (cI, 64, .inl fwa0)), (ad, .inl (cI, 8, .inl fda0)), (hB, .inr (2, [.ref bB, .int (nI 64)])), (bB, .inl (cI, 64, .inl (sm_kb fk 32))), (hI, .inr (2, [.ref bI, .int uI])), (bI, .inl (cI, 32, .inl fI))] := hD.sub [0, 1, 2, 3, 4, 5, 6, 7, 8, 15, 16, 17, 18, 9, 10, 11, 12, 13, 14] rfl rfl
      refine lv_aload_n hx hb dX3_stir_53 rfl (lv_at hl 2 rfl) ?_
      refine va_get (D := D) (ci := 3) (v := .ref hk) (C := RX3) (T := TX3) (N := 12) hx hb hts hw_X3 hown hK hP 0 rfl rfl 8 (by decide) hf_46 (fun _ h9 => h9) rfl dX3_stir_54 ?_
      refine lv_aload_n hx hb dX3_stir_57 rfl (lv_at hl 2 rfl) ?_
      refine va_get (D := D) (ci := 3) (v := .ref qi) (C := RX3) (T := TX3) (N := 12) hx hb hts hw_X3 hown hK hP 0 rfl rfl 0 (by decide) hf_14 (fun _ h9 => h9) rfl dX3_stir_58 ?_
      refine sm_callVv (wc := [(hk, .inr (1, [.ref hh, .ref hB, .ref hI])), (hh, .inr (0, [.ref hm, .ref aw, .ref ad])), (hm, .inr (2, [.ref bm, .int (nI (0 + 64 + 32 + 1))])), (bm, .inl (cI, 448, .inl (upd (sm_ap (sm_ap fma0 0 (fun j => sm_kb fk 32 j ^^^ 54) 64) (0 + 64) fv 32) (0 + 64 + 32) 0))), (qi, .inr (2, [.ref bi, .int (nI ni)])), (bi, .inl (cI, 300, .inl fi))]) (wr := [(qs, .inr (3, [.ref qi, .ref qo, .ref qd, .ref qk, .ref qv, .ref qf, .ref qa, .ref gh, .ref hk, .int cnt, .int ivl, .int drw])), (qk, .inr (2, [.ref bk, .int (nI 32)])), (bk, .inl (cI, 32, .inl fk)), (qv, .inr (2, [.ref bv, .int (nI 32)])), (bv, .inl (cI, 32, .inl fv)), (qf, .inr (2, [.ref bf, .int uf])), (bf, .inl (cI, 32, .inl ff)), (aw, .inl (cI, 64, .inl fwa0)), (ad, .inl (cI, 8, .inl fda0)), (hB, .inr (2, [.ref bB, .int (nI 64)])), (bB, .inl (cI, 64, .inl (sm_kb fk 32))), (hI, .inr (2, [.ref bI, .int uI])), (bI, .inl (cI, 32, .inl fI))]) (As := [.ref qi]) (rest := []) ⟨hx, hb, hml, hown, hts⟩ (sc_X1_add l D cI (some (tk, tf)) _ hk hh hm bm aw ad hB bB hI bI (0 + 64 + 32 + 1) qi bi 300 ni (upd (sm_ap (sm_ap fma0 0 (fun j => sm_kb fk 32 j ^^^ 54) 64) (0 + 64) fv 32) (0 + 64 + 32) 0) fi (by omega) hni (by decide)) (cwV 1 hts gX3_stir_X1_add rfl rfl rfl (by decide +kernel) ⟨Nat.le_of_ble_eq_true rfl, Nat.le_of_ble_eq_true rfl⟩) hP hD hS hA hK hT [9, 10, 11, 12, 1, 2] [0, 3, 4, 5, 6, 7, 8, 13, 14, 15, 16, 17, 18] rfl rfl rfl rfl (by decide) 0 1 rfl rfl rfl rfl hl.1 rfl (Nat.le_of_ble_eq_true rfl) dX3_stir_61 ⟨Nat.zero_le _, Nat.zero_le _⟩ (fun zt H1 locs ht hvm hB hJ hS => ?_)
      obtain ⟨hP1, -, hD1⟩ := hB
      rw [ht] at hP1
      obtain ⟨hP, hD⟩ := hJ _ hP1 hD1
      clear hJ
      generalize H1 = H at hP hS ⊢
      have hP : va_P D vwCl [(qs, .inr (3, [.ref qi, .ref qo, .ref qd, .ref qk, .ref qv, .ref qf, .ref qa, .ref gh, .ref hk, .int cnt, .int ivl, .int drw])), (qi, .inr (2, [.ref bi, .int (nI ni)])), (bi, .inl (cI, 300, .inl fi)), (qk, .inr (2, [.ref bk, .int (nI 32)])), (bk, .inl (cI, 32, .inl fk)), (qv, .inr (2, [.ref bv, .int (nI 32)])), (bv, .inl (cI, 32, .inl fv)), (qf, .inr (2, [.ref bf, .int uf])), (bf, .inl (cI, 32, .inl ff)), (hk, .inr (1, [.ref hh, .ref hB, .ref hI])), (hh, .inr (0, [.ref hm, .ref aw, .ref ad])), (hm, .inr (2, [.ref bm, .int (nI (0 + 64 + 32 + 1 + ni))])), (bm, .inl (cI, 448, .inl (sm_ap (upd (sm_ap (sm_ap fma0 0 (fun j => sm_kb fk 32 j ^^^ 54) 64) (0 + 64) fv 32) (0 + 64 + 32) 0) (0 + 64 + 32 + 1) fi ni))), (aw, .inl (cI, 64, .inl fwa0)), (ad, .inl (cI, 8, .inl fda0)), (hB, .inr (2, [.ref bB, .int (nI 64)])), (bB, .inl (cI, 64, .inl (sm_kb fk 32))), (hI, .inr (2, [.ref bI, .int uI])), (bI, .inl (cI, 32, .inl fI))] H := hP.sub [0, 17, 18, 1, 2, 3, 4, 5, 6, 13, 14, 15, 16, 7, 8, 9, 10, 11, 12] rfl
      have hD : va_D A [(qs, .inr (3, [.ref qi, .ref qo, .ref qd, .ref qk, .ref qv, .ref qf, .ref qa, .ref gh, .ref hk, .int cnt, .int ivl, .int drw])), (qi, .inr (2, [.ref bi, .int (nI ni)])), (bi, .inl (cI, 300, .inl fi)), (qk, .inr (2, [.ref bk, .int (nI 32)])), (bk, .inl (cI, 32, .inl fk)), (qv, .inr (2, [.ref bv, .int (nI 32)])), (bv, .inl (cI, 32, .inl fv)), (qf, .inr (2, [.ref bf, .int uf])), (bf, .inl (cI, 32, .inl ff)), (hk, .inr (1, [.ref hh, .ref hB, .ref hI])), (hh, .inr (0, [.ref hm, .ref aw, .ref ad])), (hm, .inr (2, [.ref bm, .int (nI (0 + 64 + 32 + 1 + ni))])), (bm, .inl (cI, 448, .inl (sm_ap (upd (sm_ap (sm_ap fma0 0 (fun j => sm_kb fk 32 j ^^^ 54) 64) (0 + 64) fv 32) (0 + 64 + 32) 0) (0 + 64 + 32 + 1) fi ni))), (aw, .inl (cI, 64, .inl fwa0)), (ad, .inl (cI, 8, .inl fda0)), (hB, .inr (2, [.ref bB, .int (nI 64)])), (bB, .inl (cI, 64, .inl (sm_kb fk 32))), (hI, .inr (2, [.ref bI, .int uI])), (bI, .inl (cI, 32, .inl fI))] := hD.sub [0, 17, 18, 1, 2, 3, 4, 5, 6, 13, 14, 15, 16, 7, 8, 9, 10, 11, 12] rfl rfl
      refine lv_aload_n hx hb dX3_stir_64 rfl (lv_at hl 2 rfl) ?_
      refine va_get (D := D) (ci := 3) (v := .ref hk) (C := RX3) (T := TX3) (N := 12) hx hb hts hw_X3 hown hK hP 0 rfl rfl 8 (by decide) hf_46 (fun _ h9 => h9) rfl dX3_stir_65 ?_
      refine lv_aload_n hx hb dX3_stir_68 rfl (lv_at hl 2 rfl) ?_
      refine va_get (D := D) (ci := 3) (v := .ref qk) (C := RX3) (T := TX3) (N := 12) hx hb hts hw_X3 hown hK hP 0 rfl rfl 3 (by decide) hf_24 (fun _ h9 => h9) rfl dX3_stir_69 ?_
      refine sm_callVv (wc := [(hk, .inr (1, [.ref hh, .ref hB, .ref hI])), (hh, .inr (0, [.ref hm, .ref aw, .ref ad])), (hm, .inr (2, [.ref bm, .int (nI (0 + 64 + 32 + 1 + ni))])), (bm, .inl (cI, 448, .inl (sm_ap (upd (sm_ap (sm_ap fma0 0 (fun j => sm_kb fk 32 j ^^^ 54) 64) (0 + 64) fv 32) (0 + 64 + 32) 0) (0 + 64 + 32 + 1) fi ni))), (aw, .inl (cI, 64, .inl fwa0)), (ad, .inl (cI, 8, .inl fda0)), (hB, .inr (2, [.ref bB, .int (nI 64)])), (bB, .inl (cI, 64, .inl (sm_kb fk 32))), (hI, .inr (2, [.ref bI, .int uI])), (bI, .inl (cI, 32, .inl fI)), (qk, .inr (2, [.ref bk, .int (nI 32)])), (bk, .inl (cI, 32, .inl fk))]) (wr := [(qs, .inr (3, [.ref qi, .ref qo, .ref qd, .ref qk, .ref qv, .ref qf, .ref qa, .ref gh, .ref hk, .int cnt, .int ivl, .int drw])), (qi, .inr (2, [.ref bi, .int (nI ni)])), (bi, .inl (cI, 300, .inl fi)), (qv, .inr (2, [.ref bv, .int (nI 32)])), (bv, .inl (cI, 32, .inl fv)), (qf, .inr (2, [.ref bf, .int uf])), (bf, .inl (cI, 32, .inl ff))]) (As := [.ref qk]) (rest := []) ⟨hx, hb, hml, hown, hts⟩ (sc_X1_end l D cI tk tf _ hk hh hm bm aw ad hB bB hI bI qk bk 32 (0 + 64 + 32 + 1 + ni) (sm_ap (upd (sm_ap (sm_ap fma0 0 (fun j => sm_kb fk 32 j ^^^ 54) 64) (0 + 64) fv 32) (0 + 64 + 32) 0) (0 + 64 + 32 + 1) fi ni) fwa0 fda0 (sm_kb fk 32) fI fk uI (nI 32) (by unfold sm_nb; omega) (by decide) (by decide)) (cwV 1 hts gX3_stir_X1_end rfl rfl rfl (by decide +kernel) ⟨Nat.le_of_ble_eq_true rfl, Nat.le_of_ble_eq_true rfl⟩) hP hD hS hA hK hT [9, 10, 11, 12, 13, 14, 15, 16, 17, 18, 3, 4] [0, 1, 2, 5, 6, 7, 8] rfl rfl rfl rfl (by decide) 0 1 rfl rfl rfl rfl hl.1 rfl (Nat.le_of_ble_eq_true rfl) dX3_stir_72 ⟨Nat.zero_le _, Nat.zero_le _⟩ (fun zt H1 locs ht hvm hB hJ hS => ?_)
      obtain ⟨fmb0, umb0, fwb0, fdb0, fIb0, hP1, -, hD1⟩ := hB
      rw [ht] at hP1
      obtain ⟨hP, hD⟩ := hJ _ hP1 hD1
      clear hJ
      generalize H1 = H at hP hS ⊢
      have hP : va_P D vwCl [(qs, .inr (3, [.ref qi, .ref qo, .ref qd, .ref qk, .ref qv, .ref qf, .ref qa, .ref gh, .ref hk, .int cnt, .int ivl, .int drw])), (qi, .inr (2, [.ref bi, .int (nI ni)])), (bi, .inl (cI, 300, .inl fi)), (qk, .inr (2, [.ref bk, .int (nI 32)])), (bk, .inl (cI, 32, .inl (sm_ap fk 0 (sm_out (sm_kb fk 32) (sm_sha (sm_ap (upd (sm_ap (sm_ap fma0 0 (fun j => sm_kb fk 32 j ^^^ 54) 64) (0 + 64) fv 32) (0 + 64 + 32) 0) (0 + 64 + 32 + 1) fi ni) (0 + 64 + 32 + 1 + ni))) 32))), (qv, .inr (2, [.ref bv, .int (nI 32)])), (bv, .inl (cI, 32, .inl fv)), (qf, .inr (2, [.ref bf, .int uf])), (bf, .inl (cI, 32, .inl ff)), (hk, .inr (1, [.ref hh, .ref hB, .ref hI])), (hh, .inr (0, [.ref hm, .ref aw, .ref ad])), (hm, .inr (2, [.ref bm, .int umb0])), (bm, .inl (cI, 448, .inl fmb0)), (aw, .inl (cI, 64, .inl fwb0)), (ad, .inl (cI, 8, .inl fdb0)), (hB, .inr (2, [.ref bB, .int (nI 64)])), (bB, .inl (cI, 64, .inl (sm_kb fk 32))), (hI, .inr (2, [.ref bI, .int (nI 32)])), (bI, .inl (cI, 32, .inl fIb0))] H := hP.sub [0, 1, 2, 17, 18, 3, 4, 5, 6, 7, 8, 9, 10, 11, 12, 13, 14, 15, 16] rfl
      have hD : va_D A [(qs, .inr (3, [.ref qi, .ref qo, .ref qd, .ref qk, .ref qv, .ref qf, .ref qa, .ref gh, .ref hk, .int cnt, .int ivl, .int drw])), (qi, .inr (2, [.ref bi, .int (nI ni)])), (bi, .inl (cI, 300, .inl fi)), (qk, .inr (2, [.ref bk, .int (nI 32)])), (bk, .inl (cI, 32, .inl (sm_ap fk 0 (sm_out (sm_kb fk 32) (sm_sha (sm_ap (upd (sm_ap (sm_ap fma0 0 (fun j => sm_kb fk 32 j ^^^ 54) 64) (0 + 64) fv 32) (0 + 64 + 32) 0) (0 + 64 + 32 + 1) fi ni) (0 + 64 + 32 + 1 + ni))) 32))), (qv, .inr (2, [.ref bv, .int (nI 32)])), (bv, .inl (cI, 32, .inl fv)), (qf, .inr (2, [.ref bf, .int uf])), (bf, .inl (cI, 32, .inl ff)), (hk, .inr (1, [.ref hh, .ref hB, .ref hI])), (hh, .inr (0, [.ref hm, .ref aw, .ref ad])), (hm, .inr (2, [.ref bm, .int umb0])), (bm, .inl (cI, 448, .inl fmb0)), (aw, .inl (cI, 64, .inl fwb0)), (ad, .inl (cI, 8, .inl fdb0)), (hB, .inr (2, [.ref bB, .int (nI 64)])), (bB, .inl (cI, 64, .inl (sm_kb fk 32))), (hI, .inr (2, [.ref bI, .int (nI 32)])), (bI, .inl (cI, 32, .inl fIb0))] := hD.sub [0, 1, 2, 17, 18, 3, 4, 5, 6, 7, 8, 9, 10, 11, 12, 13, 14, 15, 16] rfl rfl
      rw [sm_tnE] at hP hD
      have hP := sm_arr hP 4 rfl (sm_tn fk fv 0 fi ni) (fun j hj => sm_ap_z hj)
      have hD := sm_arrD (y := .inl (cI, 32, .inl (sm_tn fk fv 0 fi ni))) hD 4 rfl
      have hP : va_P D vwCl [(qs, .inr (3, [.ref qi, .ref qo, .ref qd, .ref qk, .ref qv, .ref qf, .ref qa, .ref gh, .ref hk, .int cnt, .int ivl, .int drw])), (qi, .inr (2, [.ref bi, .int (nI ni)])), (bi, .inl (cI, 300, .inl fi)), (qk, .inr (2, [.ref bk, .int (nI 32)])), (bk, .inl (cI, 32, .inl (sm_tn fk fv 0 fi ni))), (qv, .inr (2, [.ref bv, .int (nI 32)])), (bv, .inl (cI, 32, .inl fv)), (qf, .inr (2, [.ref bf, .int uf])), (bf, .inl (cI, 32, .inl ff)), (hk, .inr (1, [.ref hh, .ref hB, .ref hI])), (hh, .inr (0, [.ref hm, .ref aw, .ref ad])), (hm, .inr (2, [.ref bm, .int umb0])), (bm, .inl (cI, 448, .inl fmb0)), (aw, .inl (cI, 64, .inl fwb0)), (ad, .inl (cI, 8, .inl fdb0)), (hB, .inr (2, [.ref bB, .int (nI 64)])), (bB, .inl (cI, 64, .inl (sm_kb fk 32))), (hI, .inr (2, [.ref bI, .int (nI 32)])), (bI, .inl (cI, 32, .inl fIb0))] H := hP
      have hD : va_D A [(qs, .inr (3, [.ref qi, .ref qo, .ref qd, .ref qk, .ref qv, .ref qf, .ref qa, .ref gh, .ref hk, .int cnt, .int ivl, .int drw])), (qi, .inr (2, [.ref bi, .int (nI ni)])), (bi, .inl (cI, 300, .inl fi)), (qk, .inr (2, [.ref bk, .int (nI 32)])), (bk, .inl (cI, 32, .inl (sm_tn fk fv 0 fi ni))), (qv, .inr (2, [.ref bv, .int (nI 32)])), (bv, .inl (cI, 32, .inl fv)), (qf, .inr (2, [.ref bf, .int uf])), (bf, .inl (cI, 32, .inl ff)), (hk, .inr (1, [.ref hh, .ref hB, .ref hI])), (hh, .inr (0, [.ref hm, .ref aw, .ref ad])), (hm, .inr (2, [.ref bm, .int umb0])), (bm, .inl (cI, 448, .inl fmb0)), (aw, .inl (cI, 64, .inl fwb0)), (ad, .inl (cI, 8, .inl fdb0)), (hB, .inr (2, [.ref bB, .int (nI 64)])), (bB, .inl (cI, 64, .inl (sm_kb fk 32))), (hI, .inr (2, [.ref bI, .int (nI 32)])), (bI, .inl (cI, 32, .inl fIb0))] := hD
      refine lv_aload_n hx hb dX3_stir_75 rfl (lv_at hl 2 rfl) ?_
      refine sm_callVv (wc := [(qs, .inr (3, [.ref qi, .ref qo, .ref qd, .ref qk, .ref qv, .ref qf, .ref qa, .ref gh, .ref hk, .int cnt, .int ivl, .int drw])), (qk, .inr (2, [.ref bk, .int (nI 32)])), (bk, .inl (cI, 32, .inl (sm_tn fk fv 0 fi ni))), (qv, .inr (2, [.ref bv, .int (nI 32)])), (bv, .inl (cI, 32, .inl fv)), (qf, .inr (2, [.ref bf, .int uf])), (bf, .inl (cI, 32, .inl ff)), (hk, .inr (1, [.ref hh, .ref hB, .ref hI])), (hh, .inr (0, [.ref hm, .ref aw, .ref ad])), (hm, .inr (2, [.ref bm, .int umb0])), (bm, .inl (cI, 448, .inl fmb0)), (aw, .inl (cI, 64, .inl fwb0)), (ad, .inl (cI, 8, .inl fdb0)), (hB, .inr (2, [.ref bB, .int (nI 64)])), (bB, .inl (cI, 64, .inl (sm_kb fk 32))), (hI, .inr (2, [.ref bI, .int (nI 32)])), (bI, .inl (cI, 32, .inl fIb0))]) (wr := [(qi, .inr (2, [.ref bi, .int (nI ni)])), (bi, .inl (cI, 300, .inl fi))]) (As := []) (rest := []) ⟨hx, hb, hml, hown, hts⟩ (sc_X3_renewValue l D cI tk tf _ qs qi bi qo bo qd bd qk bk qv bv qf bf qa ba gh gm gb gw gd hk hh hm bm aw ad hB bB hI bI cnt ivl drw (sm_tn fk fv 0 fi ni) fv ff uf fmb0 umb0 fwb0 fdb0 (sm_kb fk 32) (nI 64) fIb0 (nI 32) ) (cwV 0 hts gX3_stir_X3_renewValue rfl rfl rfl (by decide +kernel) ⟨Nat.le_of_ble_eq_true rfl, Nat.le_of_ble_eq_true rfl⟩) hP hD hS hA hK hT [0, 3, 4, 5, 6, 7, 8, 9, 10, 11, 12, 13, 14, 15, 16, 17, 18] [1, 2] rfl rfl rfl rfl (by decide) 0 3 rfl rfl rfl rfl hl.1 rfl (Nat.le_of_ble_eq_true rfl) dX3_stir_76 ⟨Nat.zero_le _, Nat.zero_le _⟩ (fun zt H1 locs ht hvm hB hJ hS => ?_)
      obtain ⟨fmc0, umc0, fwc0, fdc0, fBc0, uBc0, fIc0, uIc0, hP1, -, hD1⟩ := hB
      rw [ht] at hP1
      obtain ⟨hP, hD⟩ := hJ _ hP1 hD1
      clear hJ
      generalize H1 = H at hP hS ⊢
      have hP : va_P D vwCl [(qs, .inr (3, [.ref qi, .ref qo, .ref qd, .ref qk, .ref qv, .ref qf, .ref qa, .ref gh, .ref hk, .int cnt, .int ivl, .int drw])), (qi, .inr (2, [.ref bi, .int (nI ni)])), (bi, .inl (cI, 300, .inl fi)), (qk, .inr (2, [.ref bk, .int (nI 32)])), (bk, .inl (cI, 32, .inl (sm_tn fk fv 0 fi ni))), (qv, .inr (2, [.ref bv, .int (nI 32)])), (bv, .inl (cI, 32, .inl (sm_nv (sm_tn fk fv 0 fi ni) fv))), (qf, .inr (2, [.ref bf, .int (nI 32)])), (bf, .inl (cI, 32, .inl fv)), (hk, .inr (1, [.ref hh, .ref hB, .ref hI])), (hh, .inr (0, [.ref hm, .ref aw, .ref ad])), (hm, .inr (2, [.ref bm, .int umc0])), (bm, .inl (cI, 448, .inl fmc0)), (aw, .inl (cI, 64, .inl fwc0)), (ad, .inl (cI, 8, .inl fdc0)), (hB, .inr (2, [.ref bB, .int uBc0])), (bB, .inl (cI, 64, .inl fBc0)), (hI, .inr (2, [.ref bI, .int uIc0])), (bI, .inl (cI, 32, .inl fIc0))] H := hP.sub [2, 0, 1, 3, 4, 5, 6, 7, 8, 9, 10, 11, 12, 13, 14, 15, 16, 17, 18] rfl
      have hD : va_D A [(qs, .inr (3, [.ref qi, .ref qo, .ref qd, .ref qk, .ref qv, .ref qf, .ref qa, .ref gh, .ref hk, .int cnt, .int ivl, .int drw])), (qi, .inr (2, [.ref bi, .int (nI ni)])), (bi, .inl (cI, 300, .inl fi)), (qk, .inr (2, [.ref bk, .int (nI 32)])), (bk, .inl (cI, 32, .inl (sm_tn fk fv 0 fi ni))), (qv, .inr (2, [.ref bv, .int (nI 32)])), (bv, .inl (cI, 32, .inl (sm_nv (sm_tn fk fv 0 fi ni) fv))), (qf, .inr (2, [.ref bf, .int (nI 32)])), (bf, .inl (cI, 32, .inl fv)), (hk, .inr (1, [.ref hh, .ref hB, .ref hI])), (hh, .inr (0, [.ref hm, .ref aw, .ref ad])), (hm, .inr (2, [.ref bm, .int umc0])), (bm, .inl (cI, 448, .inl fmc0)), (aw, .inl (cI, 64, .inl fwc0)), (ad, .inl (cI, 8, .inl fdc0)), (hB, .inr (2, [.ref bB, .int uBc0])), (bB, .inl (cI, 64, .inl fBc0)), (hI, .inr (2, [.ref bI, .int uIc0])), (bI, .inl (cI, 32, .inl fIc0))] := hD.sub [2, 0, 1, 3, 4, 5, 6, 7, 8, 9, 10, 11, 12, 13, 14, 15, 16, 17, 18] rfl rfl
      refine lv_iinc (v := 1) (lv' := [(2, .int 1), (1, .int 2), (0, .ref qs)]) hx hb dX3_stir_79 hl (k := 0) rfl (by decide) (by decide) rfl (fun ls hl => ?_)
      refine lv_goto (tgt := 18) hx hb dX3_stir_82 (by decide) ?_
      refine lv_iload_n hx hb dX3_stir_18 rfl (lv_at hl 0 rfl) ?_
      refine lv_iload_n hx hb dX3_stir_19 rfl (lv_at hl 1 rfl) ?_
      refine lv_icmp_ge (tgt := 85) hx hb dX3_stir_20 (by decide) (fun c_20 => ?_) (fun c_20 => ?_)
      ·
        exact absurd c_20 (by decide)
      ·
        refine lv_aload_n hx hb dX3_stir_23 rfl (lv_at hl 2 rfl) ?_
        refine va_get (D := D) (ci := 3) (v := .ref hk) (C := RX3) (T := TX3) (N := 12) hx hb hts hw_X3 hown hK hP 0 rfl rfl 8 (by decide) hf_46 (fun _ h9 => h9) rfl dX3_stir_24 ?_
        refine lv_aload_n hx hb dX3_stir_27 rfl (lv_at hl 2 rfl) ?_
        refine va_get (D := D) (ci := 3) (v := .ref qk) (C := RX3) (T := TX3) (N := 12) hx hb hts hw_X3 hown hK hP 0 rfl rfl 3 (by decide) hf_24 (fun _ h9 => h9) rfl dX3_stir_28 ?_
        refine sm_callVv (wc := [(hk, .inr (1, [.ref hh, .ref hB, .ref hI])), (hh, .inr (0, [.ref hm, .ref aw, .ref ad])), (hm, .inr (2, [.ref bm, .int umc0])), (bm, .inl (cI, 448, .inl fmc0)), (aw, .inl (cI, 64, .inl fwc0)), (ad, .inl (cI, 8, .inl fdc0)), (hB, .inr (2, [.ref bB, .int uBc0])), (bB, .inl (cI, 64, .inl fBc0)), (qk, .inr (2, [.ref bk, .int (nI 32)])), (bk, .inl (cI, 32, .inl (sm_tn fk fv 0 fi ni)))]) (wr := [(qs, .inr (3, [.ref qi, .ref qo, .ref qd, .ref qk, .ref qv, .ref qf, .ref qa, .ref gh, .ref hk, .int cnt, .int ivl, .int drw])), (qi, .inr (2, [.ref bi, .int (nI ni)])), (bi, .inl (cI, 300, .inl fi)), (qv, .inr (2, [.ref bv, .int (nI 32)])), (bv, .inl (cI, 32, .inl (sm_nv (sm_tn fk fv 0 fi ni) fv))), (qf, .inr (2, [.ref bf, .int (nI 32)])), (bf, .inl (cI, 32, .inl fv)), (hI, .inr (2, [.ref bI, .int uIc0])), (bI, .inl (cI, 32, .inl fIc0))]) (As := [.ref qk]) (rest := []) ⟨hx, hb, hml, hown, hts⟩ (sc_X1_begin l D cI tk tf _ hk hh hm bm aw ad hB bB hI bI qk bk 32 32 fmc0 fwc0 fdc0 fBc0 (sm_tn fk fv 0 fi ni) umc0 uBc0 (by decide) (by decide) (by decide)) (cwV 1 hts gX3_stir_X1_begin rfl rfl rfl (by decide +kernel) ⟨Nat.le_of_ble_eq_true rfl, Nat.le_of_ble_eq_true rfl⟩) hP hD hS hA hK hT [9, 10, 11, 12, 13, 14, 15, 16, 3, 4] [0, 1, 2, 5, 6, 7, 8, 17, 18] rfl rfl rfl rfl (by decide) 0 1 rfl rfl rfl rfl hl.1 rfl (Nat.le_of_ble_eq_true rfl) dX3_stir_31 ⟨Nat.zero_le _, Nat.zero_le _⟩ (fun zt H1 locs ht hvm hB hJ hS => ?_)
        obtain ⟨fma1, fwa1, fda1, hP1, -, hD1⟩ := hB
        rw [ht] at hP1
        obtain ⟨hP, hD⟩ := hJ _ hP1 hD1
        clear hJ
        generalize H1 = H at hP hS ⊢
        have hP : va_P D vwCl [(qs, .inr (3, [.ref qi, .ref qo, .ref qd, .ref qk, .ref qv, .ref qf, .ref qa, .ref gh, .ref hk, .int cnt, .int ivl, .int drw])), (qi, .inr (2, [.ref bi, .int (nI ni)])), (bi, .inl (cI, 300, .inl fi)), (qk, .inr (2, [.ref bk, .int (nI 32)])), (bk, .inl (cI, 32, .inl (sm_tn fk fv 0 fi ni))), (qv, .inr (2, [.ref bv, .int (nI 32)])), (bv, .inl (cI, 32, .inl (sm_nv (sm_tn fk fv 0 fi ni) fv))), (qf, .inr (2, [.ref bf, .int (nI 32)])), (bf, .inl (cI, 32, .inl fv)), (hk, .inr (1, [.ref hh, .ref hB, .ref hI])), (hh, .inr (0, [.ref hm, .ref aw, .ref ad])), (hm, .inr (2, [.ref bm, .int (nI (0 + 64))])), (bm, .inl (cI, 448, .inl (sm_ap fma1 0 (fun j => sm_kb (sm_tn fk fv 0 fi ni) 32 j ^^^ 54) 64))), (aw, .inl (cI, 64, .inl fwa1)), (ad, .inl (cI, 8, .inl fda1)), (hB, .inr (2, [.ref bB, .int (nI 64)])), (bB, .inl (cI, 64, .inl (sm_kb (sm_tn fk fv 0 fi ni) 32))), (hI, .inr (2, [.ref bI, .int uIc0])), (bI, .inl (cI, 32, .inl fIc0))] H := hP.sub [0, 1, 2, 17, 18, 3, 4, 5, 6, 9, 10, 11, 12, 13, 14, 15, 16, 7, 8] rfl
        have hD : va_D A [(qs, .inr (3, [.ref qi, .ref qo, .ref qd, .ref qk, .ref qv, .ref qf, .ref qa, .ref gh, .ref hk, .int cnt, .int ivl, .int drw])), (qi, .inr (2, [.ref bi, .int (nI ni)])), (bi, .inl (cI, 300, .inl fi)), (qk, .inr (2, [.ref bk, .int (nI 32)])), (bk, .inl (cI, 32, .inl (sm_tn fk fv 0 fi ni))), (qv, .inr (2, [.ref bv, .int (nI 32)])), (bv, .inl (cI, 32, .inl (sm_nv (sm_tn fk fv 0 fi ni) fv))), (qf, .inr (2, [.ref bf, .int (nI 32)])), (bf, .inl (cI, 32, .inl fv)), (hk, .inr (1, [.ref hh, .ref hB, .ref hI])), (hh, .inr (0, [.ref hm, .ref aw, .ref ad])), (hm, .inr (2, [.ref bm, .int (nI (0 + 64))])), (bm, .inl (cI, 448, .inl (sm_ap fma1 0 (fun j => sm_kb (sm_tn fk fv 0 fi ni) 32 j ^^^ 54) 64))), (aw, .inl (cI, 64, .inl fwa1)), (ad, .inl (cI, 8, .inl fda1)), (hB, .inr (2, [.ref bB, .int (nI 64)])), (bB, .inl (cI, 64, .inl (sm_kb (sm_tn fk fv 0 fi ni) 32))), (hI, .inr (2, [.ref bI, .int uIc0])), (bI, .inl (cI, 32, .inl fIc0))] := hD.sub [0, 1, 2, 17, 18, 3, 4, 5, 6, 9, 10, 11, 12, 13, 14, 15, 16, 7, 8] rfl rfl
        refine lv_aload_n hx hb dX3_stir_34 rfl (lv_at hl 2 rfl) ?_
        refine va_get (D := D) (ci := 3) (v := .ref hk) (C := RX3) (T := TX3) (N := 12) hx hb hts hw_X3 hown hK hP 0 rfl rfl 8 (by decide) hf_46 (fun _ h9 => h9) rfl dX3_stir_35 ?_
        refine lv_aload_n hx hb dX3_stir_38 rfl (lv_at hl 2 rfl) ?_
        refine va_get (D := D) (ci := 3) (v := .ref qv) (C := RX3) (T := TX3) (N := 12) hx hb hts hw_X3 hown hK hP 0 rfl rfl 4 (by decide) hf_27 (fun _ h9 => h9) rfl dX3_stir_39 ?_
        refine sm_callVv (wc := [(hk, .inr (1, [.ref hh, .ref hB, .ref hI])), (hh, .inr (0, [.ref hm, .ref aw, .ref ad])), (hm, .inr (2, [.ref bm, .int (nI (0 + 64))])), (bm, .inl (cI, 448, .inl (sm_ap fma1 0 (fun j => sm_kb (sm_tn fk fv 0 fi ni) 32 j ^^^ 54) 64))), (qv, .inr (2, [.ref bv, .int (nI 32)])), (bv, .inl (cI, 32, .inl (sm_nv (sm_tn fk fv 0 fi ni) fv)))]) (wr := [(qs, .inr (3, [.ref qi, .ref qo, .ref qd, .ref qk, .ref qv, .ref qf, .ref qa, .ref gh, .ref hk, .int cnt, .int ivl, .int drw])), (qi, .inr (2, [.ref bi, .int (nI ni)])), (bi, .inl (cI, 300, .inl fi)), (qk, .inr (2, [.ref bk, .int (nI 32)])), (bk, .inl (cI, 32, .inl (sm_tn fk fv 0 fi ni))), (qf, .inr (2, [.ref bf, .int (nI 32)])), (bf, .inl (cI, 32, .inl fv)), (aw, .inl (cI, 64, .inl fwa1)), (ad, .inl (cI, 8, .inl fda1)), (hB, .inr (2, [.ref bB, .int (nI 64)])), (bB, .inl (cI, 64, .inl (sm_kb (sm_tn fk fv 0 fi ni) 32))), (hI, .inr (2, [.ref bI, .int uIc0])), (bI, .inl (cI, 32, .inl fIc0))]) (As := [.ref qv]) (rest := []) ⟨hx, hb, hml, hown, hts⟩ (sc_X1_add l D cI (some (tk, tf)) _ hk hh hm bm aw ad hB bB hI bI (0 + 64) qv bv 32 32 (sm_ap fma1 0 (fun j => sm_kb (sm_tn fk fv 0 fi ni) 32 j ^^^ 54) 64) (sm_nv (sm_tn fk fv 0 fi ni) fv) (by decide) (by decide) (by decide)) (cwV 1 hts gX3_stir_X1_add rfl rfl rfl (by decide +kernel) ⟨Nat.le_of_ble_eq_true rfl, Nat.le_of_ble_eq_true rfl⟩) hP hD hS hA hK hT [9, 10, 11, 12, 5, 6] [0, 1, 2, 3, 4, 7, 8, 13, 14, 15, 16, 17, 18] rfl rfl rfl rfl (by decide) 0 1 rfl rfl rfl rfl hl.1 rfl (Nat.le_of_ble_eq_true rfl) dX3_stir_42 ⟨Nat.zero_le _, Nat.zero_le _⟩ (fun zt H1 locs ht hvm hB hJ hS => ?_)
        obtain ⟨hP1, -, hD1⟩ := hB
        rw [ht] at hP1
        obtain ⟨hP, hD⟩ := hJ _ hP1 hD1
        clear hJ
        generalize H1 = H at hP hS ⊢
        have hP : va_P D vwCl [(qs, .inr (3, [.ref qi, .ref qo, .ref qd, .ref qk, .ref qv, .ref qf, .ref qa, .ref gh, .ref hk, .int cnt, .int ivl, .int drw])), (qi, .inr (2, [.ref bi, .int (nI ni)])), (bi, .inl (cI, 300, .inl fi)), (qk, .inr (2, [.ref bk, .int (nI 32)])), (bk, .inl (cI, 32, .inl (sm_tn fk fv 0 fi ni))), (qv, .inr (2, [.ref bv, .int (nI 32)])), (bv, .inl (cI, 32, .inl (sm_nv (sm_tn fk fv 0 fi ni) fv))), (qf, .inr (2, [.ref bf, .int (nI 32)])), (bf, .inl (cI, 32, .inl fv)), (hk, .inr (1, [.ref hh, .ref hB, .ref hI])), (hh, .inr (0, [.ref hm, .ref aw, .ref ad])), (hm, .inr (2, [.ref bm, .int (nI (0 + 64 + 32))])), (bm, .inl (cI, 448, .inl (sm_ap (sm_ap fma1 0 (fun j => sm_kb (sm_tn fk fv 0 fi ni) 32 j ^^^ 54) 64) (0 + 64) (sm_nv (sm_tn fk fv 0 fi ni) fv) 32))), (aw, .inl (cI, 64, .inl fwa1)), (ad, .inl (cI, 8, .inl fda1)), (hB, .inr (2, [.ref bB, .int (nI 64)])), (bB, .inl (cI, 64, .inl (sm_kb (sm_tn fk fv 0 fi ni) 32))), (hI, .inr (2, [.ref bI, .int uIc0])), (bI, .inl (cI, 32, .inl fIc0))] H := hP.sub [0, 1, 2, 3, 4, 17, 18, 5, 6, 13, 14, 15, 16, 7, 8, 9, 10, 11, 12] rfl
        have hD : va_D A [(qs, .inr (3, [.ref qi, .ref qo, .ref qd, .ref qk, .ref qv, .ref qf, .ref qa, .ref gh, .ref hk, .int cnt, .int ivl, .int drw])), (qi, .inr (2, [.ref bi, .int (nI ni)])), (bi, .inl (cI, 300, .inl fi)), (qk, .inr (2, [.ref bk, .int (nI 32)])), (bk, .inl (cI, 32, .inl (sm_tn fk fv 0 fi ni))), (qv, .inr (2, [.ref bv, .int (nI 32)])), (bv, .inl (cI, 32, .inl (sm_nv (sm_tn fk fv 0 fi ni) fv))), (qf, .inr (2, [.ref bf, .int (nI 32)])), (bf, .inl (cI, 32, .inl fv)), (hk, .inr (1, [.ref hh, .ref hB, .ref hI])), (hh, .inr (0, [.ref hm, .ref aw, .ref ad])), (hm, .inr (2, [.ref bm, .int (nI (0 + 64 + 32))])), (bm, .inl (cI, 448, .inl (sm_ap (sm_ap fma1 0 (fun j => sm_kb (sm_tn fk fv 0 fi ni) 32 j ^^^ 54) 64) (0 + 64) (sm_nv (sm_tn fk fv 0 fi ni) fv) 32))), (aw, .inl (cI, 64, .inl fwa1)), (ad, .inl (cI, 8, .inl fda1)), (hB, .inr (2, [.ref bB, .int (nI 64)])), (bB, .inl (cI, 64, .inl (sm_kb (sm_tn fk fv 0 fi ni) 32))), (hI, .inr (2, [.ref bI, .int uIc0])), (bI, .inl (cI, 32, .inl fIc0))] := hD.sub [0, 1, 2, 3, 4, 17, 18, 5, 6, 13, 14, 15, 16, 7, 8, 9, 10, 11, 12] rfl rfl
        refine lv_aload_n hx hb dX3_stir_45 rfl (lv_at hl 2 rfl) ?_
        refine va_get (D := D) (ci := 3) (v := .ref hk) (C := RX3) (T := TX3) (N := 12) hx hb hts hw_X3 hown hK hP 0 rfl rfl 8 (by decide) hf_46 (fun _ h9 => h9) rfl dX3_stir_46 ?_
        refine lv_iload_n hx hb dX3_stir_49 rfl (lv_at hl 0 rfl) ?_
        refine sm_callVv (wc := [(hk, .inr (1, [.ref hh, .ref hB, .ref hI])), (hh, .inr (0, [.ref hm, .ref aw, .ref ad])), (hm, .inr (2, [.ref bm, .int (nI (0 + 64 + 32))])), (bm, .inl (cI, 448, .inl (sm_ap (sm_ap fma1 0 (fun j => sm_kb (sm_tn fk fv 0 fi ni) 32 j ^^^ 54) 64) (0 + 64) (sm_nv (sm_tn fk fv 0 fi ni) fv) 32)))]) (wr := [(qs, .inr (3, [.ref qi, .ref qo, .ref qd, .ref qk, .ref qv, .ref qf, .ref qa, .ref gh, .ref hk, .int cnt, .int ivl, .int drw])), (qi, .inr (2, [.ref bi, .int (nI ni)])), (bi, .inl (cI, 300, .inl fi)), (qk, .inr (2, [.ref bk, .int (nI 32)])), (bk, .inl (cI, 32, .inl (sm_tn fk fv 0 fi ni))), (qv, .inr (2, [.ref bv, .int (nI 32)])), (bv, .inl (cI, 32, .inl (sm_nv (sm_tn fk fv 0 fi ni) fv))), (qf, .inr (2, [.ref bf, .int (nI 32)])), (bf, .inl (cI, 32, .inl fv)), (aw, .inl (cI, 64, .inl fwa1)), (ad, .inl (cI, 8, .inl fda1)), (hB, .inr (2, [.ref bB, .int (nI 64)])), (bB, .inl (cI, 64, .inl (sm_kb (sm_tn fk fv 0 fi ni) 32))), (hI, .inr (2, [.ref bI, .int uIc0])), (bI, .inl (cI, 32, .inl fIc0))]) (As := [.int 1]) (rest := []) ⟨hx, hb, hml, hown, hts⟩ (sc_X1_addByte l D cI (some (tk, tf)) _ hk hh hm bm aw ad hB bB hI bI (0 + 64 + 32) (sm_ap (sm_ap fma1 0 (fun j => sm_kb (sm_tn fk fv 0 fi ni) 32 j ^^^ 54) 64) (0 + 64) (sm_nv (sm_tn fk fv 0 fi ni) fv) 32) 1 (by decide)) (cwV 1 hts gX3_stir_X1_addByte rfl rfl rfl (by decide +kernel) ⟨Nat.le_of_ble_eq_true rfl, Nat.le_of_ble_eq_true rfl⟩) hP hD hS hA hK hT [9, 10, 11, 12] [0, 1, 2, 3, 4, 5, 6, 7, 8, 13, 14, 15, 16, 17, 18] rfl rfl rfl rfl (by decide) 0 1 rfl rfl rfl rfl hl.1 rfl (Nat.le_of_ble_eq_true rfl) dX3_stir_50 ⟨Nat.zero_le _, Nat.zero_le _⟩ (fun zt H1 locs ht hvm hB hJ hS => ?_)
        obtain ⟨hP1, -, hD1⟩ := hB
        rw [ht] at hP1
        obtain ⟨hP, hD⟩ := hJ _ hP1 hD1
        clear hJ
        generalize H1 = H at hP hS ⊢
        have hP : va_P D vwCl [(qs, .inr (3, [.ref qi, .ref qo, .ref qd, .ref qk, .ref qv, .ref qf, .ref qa, .ref gh, .ref hk, .int cnt, .int ivl, .int drw])), (qi, .inr (2, [.ref bi, .int (nI ni)])), (bi, .inl (cI, 300, .inl fi)), (qk, .inr (2, [.ref bk, .int (nI 32)])), (bk, .inl (cI, 32, .inl (sm_tn fk fv 0 fi ni))), (qv, .inr (2, [.ref bv, .int (nI 32)])), (bv, .inl (cI, 32, .inl (sm_nv (sm_tn fk fv 0 fi ni) fv))), (qf, .inr (2, [.ref bf, .int (nI 32)])), (bf, .inl (cI, 32, .inl fv)), (hk, .inr (1, [.ref hh, .ref hB, .ref hI])), (hh, .inr (0, [.ref hm, .ref aw, .ref ad])), (hm, .inr (2, [.ref bm, .int (nI (0 + 64 + 32 + 1))])), (bm, .inl (cI, 448, .inl (upd (sm_ap (sm_ap fma1 0 (fun j => sm_kb (sm_tn fk fv 0 fi ni) 32 j ^^^ 54) 64) (0 + 64) (sm_nv (sm_tn fk fv 0 fi ni) fv) 32) (0 + 64 + 32) 1))), (aw, .inl (cI, 64, .inl fwa1)), (ad, .inl (cI, 8, .inl fda1)), (hB, .inr (2, [.ref bB, .int (nI 64)])), (bB, .inl (cI, 64, .inl (sm_kb (sm_tn fk fv 0 fi ni) 32))), (hI, .inr (2, [.ref bI, .int uIc0])), (bI, .inl (cI, 32, .inl fIc0))] H := hP.sub [0, 1, 2, 3, 4, 5, 6, 7, 8, 15, 16, 17, 18, 9, 10, 11, 12, 13, 14] rfl
        have hD : va_D A [(qs, .inr (3, [.ref qi, .ref qo, .ref qd, .ref qk, .ref qv, .ref qf, .ref qa, .ref gh, .ref hk, .int cnt, .int ivl, .int drw])), (qi, .inr (2, [.ref bi, .int (nI ni)])), (bi, .inl (cI, 300, .inl fi)), (qk, .inr (2, [.ref bk, .int (nI 32)])), (bk, .inl (cI, 32, .inl (sm_tn fk fv 0 fi ni))), (qv, .inr (2, [.ref bv, .int (nI 32)])), (bv, .inl (cI, 32, .inl (sm_nv (sm_tn fk fv 0 fi ni) fv))), (qf, .inr (2, [.ref bf, .int (nI 32)])), (bf, .inl (cI, 32, .inl fv)), (hk, .inr (1, [.ref hh, .ref hB, .ref hI])), (hh, .inr (0, [.ref hm, .ref aw, .ref ad])), (hm, .inr (2, [.ref bm, .int (nI (0 + 64 + 32 + 1))])), (bm, .inl (cI, 448, .inl (upd (sm_ap (sm_ap fma1 0 (fun j => sm_kb (sm_tn fk fv 0 fi ni) 32 j ^^^ 54) 64) (0 + 64) (sm_nv (sm_tn fk fv 0 fi ni) fv) 32) (0 + 64 + 32) 1))), (aw, .inl (cI, 64, .inl fwa1)), (ad, .inl (cI, 8, .inl fda1)), (hB, .inr (2, [.ref bB, .int (nI 64)])), (bB, .inl (cI, 64, .inl (sm_kb (sm_tn fk fv 0 fi ni) 32))), (hI, .inr (2, [.ref bI, .int uIc0])), (bI, .inl (cI, 32, .inl fIc0))] := hD.sub [0, 1, 2, 3, 4, 5, 6, 7, 8, 15, 16, 17, 18, 9, 10, 11, 12, 13, 14] rfl rfl
        refine lv_aload_n hx hb dX3_stir_53 rfl (lv_at hl 2 rfl) ?_
        refine va_get (D := D) (ci := 3) (v := .ref hk) (C := RX3) (T := TX3) (N := 12) hx hb hts hw_X3 hown hK hP 0 rfl rfl 8 (by decide) hf_46 (fun _ h9 => h9) rfl dX3_stir_54 ?_
        refine lv_aload_n hx hb dX3_stir_57 rfl (lv_at hl 2 rfl) ?_
        refine va_get (D := D) (ci := 3) (v := .ref qi) (C := RX3) (T := TX3) (N := 12) hx hb hts hw_X3 hown hK hP 0 rfl rfl 0 (by decide) hf_14 (fun _ h9 => h9) rfl dX3_stir_58 ?_
        refine sm_callVv (wc := [(hk, .inr (1, [.ref hh, .ref hB, .ref hI])), (hh, .inr (0, [.ref hm, .ref aw, .ref ad])), (hm, .inr (2, [.ref bm, .int (nI (0 + 64 + 32 + 1))])), (bm, .inl (cI, 448, .inl (upd (sm_ap (sm_ap fma1 0 (fun j => sm_kb (sm_tn fk fv 0 fi ni) 32 j ^^^ 54) 64) (0 + 64) (sm_nv (sm_tn fk fv 0 fi ni) fv) 32) (0 + 64 + 32) 1))), (qi, .inr (2, [.ref bi, .int (nI ni)])), (bi, .inl (cI, 300, .inl fi))]) (wr := [(qs, .inr (3, [.ref qi, .ref qo, .ref qd, .ref qk, .ref qv, .ref qf, .ref qa, .ref gh, .ref hk, .int cnt, .int ivl, .int drw])), (qk, .inr (2, [.ref bk, .int (nI 32)])), (bk, .inl (cI, 32, .inl (sm_tn fk fv 0 fi ni))), (qv, .inr (2, [.ref bv, .int (nI 32)])), (bv, .inl (cI, 32, .inl (sm_nv (sm_tn fk fv 0 fi ni) fv))), (qf, .inr (2, [.ref bf, .int (nI 32)])), (bf, .inl (cI, 32, .inl fv)), (aw, .inl (cI, 64, .inl fwa1)), (ad, .inl (cI, 8, .inl fda1)), (hB, .inr (2, [.ref bB, .int (nI 64)])), (bB, .inl (cI, 64, .inl (sm_kb (sm_tn fk fv 0 fi ni) 32))), (hI, .inr (2, [.ref bI, .int uIc0])), (bI, .inl (cI, 32, .inl fIc0))]) (As := [.ref qi]) (rest := []) ⟨hx, hb, hml, hown, hts⟩ (sc_X1_add l D cI (some (tk, tf)) _ hk hh hm bm aw ad hB bB hI bI (0 + 64 + 32 + 1) qi bi 300 ni (upd (sm_ap (sm_ap fma1 0 (fun j => sm_kb (sm_tn fk fv 0 fi ni) 32 j ^^^ 54) 64) (0 + 64) (sm_nv (sm_tn fk fv 0 fi ni) fv) 32) (0 + 64 + 32) 1) fi (by omega) hni (by decide)) (cwV 1 hts gX3_stir_X1_add rfl rfl rfl (by decide +kernel) ⟨Nat.le_of_ble_eq_true rfl, Nat.le_of_ble_eq_true rfl⟩) hP hD hS hA hK hT [9, 10, 11, 12, 1, 2] [0, 3, 4, 5, 6, 7, 8, 13, 14, 15, 16, 17, 18] rfl rfl rfl rfl (by decide) 0 1 rfl rfl rfl rfl hl.1 rfl (Nat.le_of_ble_eq_true rfl) dX3_stir_61 ⟨Nat.zero_le _, Nat.zero_le _⟩ (fun zt H1 locs ht hvm hB hJ hS => ?_)
        obtain ⟨hP1, -, hD1⟩ := hB
        rw [ht] at hP1
        obtain ⟨hP, hD⟩ := hJ _ hP1 hD1
        clear hJ
        generalize H1 = H at hP hS ⊢
        have hP : va_P D vwCl [(qs, .inr (3, [.ref qi, .ref qo, .ref qd, .ref qk, .ref qv, .ref qf, .ref qa, .ref gh, .ref hk, .int cnt, .int ivl, .int drw])), (qi, .inr (2, [.ref bi, .int (nI ni)])), (bi, .inl (cI, 300, .inl fi)), (qk, .inr (2, [.ref bk, .int (nI 32)])), (bk, .inl (cI, 32, .inl (sm_tn fk fv 0 fi ni))), (qv, .inr (2, [.ref bv, .int (nI 32)])), (bv, .inl (cI, 32, .inl (sm_nv (sm_tn fk fv 0 fi ni) fv))), (qf, .inr (2, [.ref bf, .int (nI 32)])), (bf, .inl (cI, 32, .inl fv)), (hk, .inr (1, [.ref hh, .ref hB, .ref hI])), (hh, .inr (0, [.ref hm, .ref aw, .ref ad])), (hm, .inr (2, [.ref bm, .int (nI (0 + 64 + 32 + 1 + ni))])), (bm, .inl (cI, 448, .inl (sm_ap (upd (sm_ap (sm_ap fma1 0 (fun j => sm_kb (sm_tn fk fv 0 fi ni) 32 j ^^^ 54) 64) (0 + 64) (sm_nv (sm_tn fk fv 0 fi ni) fv) 32) (0 + 64 + 32) 1) (0 + 64 + 32 + 1) fi ni))), (aw, .inl (cI, 64, .inl fwa1)), (ad, .inl (cI, 8, .inl fda1)), (hB, .inr (2, [.ref bB, .int (nI 64)])), (bB, .inl (cI, 64, .inl (sm_kb (sm_tn fk fv 0 fi ni) 32))), (hI, .inr (2, [.ref bI, .int uIc0])), (bI, .inl (cI, 32, .inl fIc0))] H := hP.sub [0, 17, 18, 1, 2, 3, 4, 5, 6, 13, 14, 15, 16, 7, 8, 9, 10, 11, 12] rfl
        have hD : va_D A [(qs, .inr (3, [.ref qi, .ref qo, .ref qd, .ref qk, .ref qv, .ref qf, .ref qa, .ref gh, .ref hk, .int cnt, .int ivl, .int drw])), (qi, .inr (2, [.ref bi, .int (nI ni)])), (bi, .inl (cI, 300, .inl fi)), (qk, .inr (2, [.ref bk, .int (nI 32)])), (bk, .inl (cI, 32, .inl (sm_tn fk fv 0 fi ni))), (qv, .inr (2, [.ref bv, .int (nI 32)])), (bv, .inl (cI, 32, .inl (sm_nv (sm_tn fk fv 0 fi ni) fv))), (qf, .inr (2, [.ref bf, .int (nI 32)])), (bf, .inl (cI, 32, .inl fv)), (hk, .inr (1, [.ref hh, .ref hB, .ref hI])), (hh, .inr (0, [.ref hm, .ref aw, .ref ad])), (hm, .inr (2, [.ref bm, .int (nI (0 + 64 + 32 + 1 + ni))])), (bm, .inl (cI, 448, .inl (sm_ap (upd (sm_ap (sm_ap fma1 0 (fun j => sm_kb (sm_tn fk fv 0 fi ni) 32 j ^^^ 54) 64) (0 + 64) (sm_nv (sm_tn fk fv 0 fi ni) fv) 32) (0 + 64 + 32) 1) (0 + 64 + 32 + 1) fi ni))), (aw, .inl (cI, 64, .inl fwa1)), (ad, .inl (cI, 8, .inl fda1)), (hB, .inr (2, [.ref bB, .int (nI 64)])), (bB, .inl (cI, 64, .inl (sm_kb (sm_tn fk fv 0 fi ni) 32))), (hI, .inr (2, [.ref bI, .int uIc0])), (bI, .inl (cI, 32, .inl fIc0))] := hD.sub [0, 17, 18, 1, 2, 3, 4, 5, 6, 13, 14, 15, 16, 7, 8, 9, 10, 11, 12] rfl rfl
        refine lv_aload_n hx hb dX3_stir_64 rfl (lv_at hl 2 rfl) ?_
        refine va_get (D := D) (ci := 3) (v := .ref hk) (C := RX3) (T := TX3) (N := 12) hx hb hts hw_X3 hown hK hP 0 rfl rfl 8 (by decide) hf_46 (fun _ h9 => h9) rfl dX3_stir_65 ?_
        refine lv_aload_n hx hb dX3_stir_68 rfl (lv_at hl 2 rfl) ?_
        refine va_get (D := D) (ci := 3) (v := .ref qk) (C := RX3) (T := TX3) (N := 12) hx hb hts hw_X3 hown hK hP 0 rfl rfl 3 (by decide) hf_24 (fun _ h9 => h9) rfl dX3_stir_69 ?_
        refine sm_callVv (wc := [(hk, .inr (1, [.ref hh, .ref hB, .ref hI])), (hh, .inr (0, [.ref hm, .ref aw, .ref ad])), (hm, .inr (2, [.ref bm, .int (nI (0 + 64 + 32 + 1 + ni))])), (bm, .inl (cI, 448, .inl (sm_ap (upd (sm_ap (sm_ap fma1 0 (fun j => sm_kb (sm_tn fk fv 0 fi ni) 32 j ^^^ 54) 64) (0 + 64) (sm_nv (sm_tn fk fv 0 fi ni) fv) 32) (0 + 64 + 32) 1) (0 + 64 + 32 + 1) fi ni))), (aw, .inl (cI, 64, .inl fwa1)), (ad, .inl (cI, 8, .inl fda1)), (hB, .inr (2, [.ref bB, .int (nI 64)])), (bB, .inl (cI, 64, .inl (sm_kb (sm_tn fk fv 0 fi ni) 32))), (hI, .inr (2, [.ref bI, .int uIc0])), (bI, .inl (cI, 32, .inl fIc0)), (qk, .inr (2, [.ref bk, .int (nI 32)])), (bk, .inl (cI, 32, .inl (sm_tn fk fv 0 fi ni)))]) (wr := [(qs, .inr (3, [.ref qi, .ref qo, .ref qd, .ref qk, .ref qv, .ref qf, .ref qa, .ref gh, .ref hk, .int cnt, .int ivl, .int drw])), (qi, .inr (2, [.ref bi, .int (nI ni)])), (bi, .inl (cI, 300, .inl fi)), (qv, .inr (2, [.ref bv, .int (nI 32)])), (bv, .inl (cI, 32, .inl (sm_nv (sm_tn fk fv 0 fi ni) fv))), (qf, .inr (2, [.ref bf, .int (nI 32)])), (bf, .inl (cI, 32, .inl fv))]) (As := [.ref qk]) (rest := []) ⟨hx, hb, hml, hown, hts⟩ (sc_X1_end l D cI tk tf _ hk hh hm bm aw ad hB bB hI bI qk bk 32 (0 + 64 + 32 + 1 + ni) (sm_ap (upd (sm_ap (sm_ap fma1 0 (fun j => sm_kb (sm_tn fk fv 0 fi ni) 32 j ^^^ 54) 64) (0 + 64) (sm_nv (sm_tn fk fv 0 fi ni) fv) 32) (0 + 64 + 32) 1) (0 + 64 + 32 + 1) fi ni) fwa1 fda1 (sm_kb (sm_tn fk fv 0 fi ni) 32) fIc0 (sm_tn fk fv 0 fi ni) uIc0 (nI 32) (by unfold sm_nb; omega) (by decide) (by decide)) (cwV 1 hts gX3_stir_X1_end rfl rfl rfl (by decide +kernel) ⟨Nat.le_of_ble_eq_true rfl, Nat.le_of_ble_eq_true rfl⟩) hP hD hS hA hK hT [9, 10, 11, 12, 13, 14, 15, 16, 17, 18, 3, 4] [0, 1, 2, 5, 6, 7, 8] rfl rfl rfl rfl (by decide) 0 1 rfl rfl rfl rfl hl.1 rfl (Nat.le_of_ble_eq_true rfl) dX3_stir_72 ⟨Nat.zero_le _, Nat.zero_le _⟩ (fun zt H1 locs ht hvm hB hJ hS => ?_)
        obtain ⟨fmb1, umb1, fwb1, fdb1, fIb1, hP1, -, hD1⟩ := hB
        rw [ht] at hP1
        obtain ⟨hP, hD⟩ := hJ _ hP1 hD1
        clear hJ
        generalize H1 = H at hP hS ⊢
        have hP : va_P D vwCl [(qs, .inr (3, [.ref qi, .ref qo, .ref qd, .ref qk, .ref qv, .ref qf, .ref qa, .ref gh, .ref hk, .int cnt, .int ivl, .int drw])), (qi, .inr (2, [.ref bi, .int (nI ni)])), (bi, .inl (cI, 300, .inl fi)), (qk, .inr (2, [.ref bk, .int (nI 32)])), (bk, .inl (cI, 32, .inl (sm_ap (sm_tn fk fv 0 fi ni) 0 (sm_out (sm_kb (sm_tn fk fv 0 fi ni) 32) (sm_sha (sm_ap (upd (sm_ap (sm_ap fma1 0 (fun j => sm_kb (sm_tn fk fv 0 fi ni) 32 j ^^^ 54) 64) (0 + 64) (sm_nv (sm_tn fk fv 0 fi ni) fv) 32) (0 + 64 + 32) 1) (0 + 64 + 32 + 1) fi ni) (0 + 64 + 32 + 1 + ni))) 32))), (qv, .inr (2, [.ref bv, .int (nI 32)])), (bv, .inl (cI, 32, .inl (sm_nv (sm_tn fk fv 0 fi ni) fv))), (qf, .inr (2, [.ref bf, .int (nI 32)])), (bf, .inl (cI, 32, .inl fv)), (hk, .inr (1, [.ref hh, .ref hB, .ref hI])), (hh, .inr (0, [.ref hm, .ref aw, .ref ad])), (hm, .inr (2, [.ref bm, .int umb1])), (bm, .inl (cI, 448, .inl fmb1)), (aw, .inl (cI, 64, .inl fwb1)), (ad, .inl (cI, 8, .inl fdb1)), (hB, .inr (2, [.ref bB, .int (nI 64)])), (bB, .inl (cI, 64, .inl (sm_kb (sm_tn fk fv 0 fi ni) 32))), (hI, .inr (2, [.ref bI, .int (nI 32)])), (bI, .inl (cI, 32, .inl fIb1))] H := hP.sub [0, 1, 2, 17, 18, 3, 4, 5, 6, 7, 8, 9, 10, 11, 12, 13, 14, 15, 16] rfl
        have hD : va_D A [(qs, .inr (3, [.ref qi, .ref qo, .ref qd, .ref qk, .ref qv, .ref qf, .ref qa, .ref gh, .ref hk, .int cnt, .int ivl, .int drw])), (qi, .inr (2, [.ref bi, .int (nI ni)])), (bi, .inl (cI, 300, .inl fi)), (qk, .inr (2, [.ref bk, .int (nI 32)])), (bk, .inl (cI, 32, .inl (sm_ap (sm_tn fk fv 0 fi ni) 0 (sm_out (sm_kb (sm_tn fk fv 0 fi ni) 32) (sm_sha (sm_ap (upd (sm_ap (sm_ap fma1 0 (fun j => sm_kb (sm_tn fk fv 0 fi ni) 32 j ^^^ 54) 64) (0 + 64) (sm_nv (sm_tn fk fv 0 fi ni) fv) 32) (0 + 64 + 32) 1) (0 + 64 + 32 + 1) fi ni) (0 + 64 + 32 + 1 + ni))) 32))), (qv, .inr (2, [.ref bv, .int (nI 32)])), (bv, .inl (cI, 32, .inl (sm_nv (sm_tn fk fv 0 fi ni) fv))), (qf, .inr (2, [.ref bf, .int (nI 32)])), (bf, .inl (cI, 32, .inl fv)), (hk, .inr (1, [.ref hh, .ref hB, .ref hI])), (hh, .inr (0, [.ref hm, .ref aw, .ref ad])), (hm, .inr (2, [.ref bm, .int umb1])), (bm, .inl (cI, 448, .inl fmb1)), (aw, .inl (cI, 64, .inl fwb1)), (ad, .inl (cI, 8, .inl fdb1)), (hB, .inr (2, [.ref bB, .int (nI 64)])), (bB, .inl (cI, 64, .inl (sm_kb (sm_tn fk fv 0 fi ni) 32))), (hI, .inr (2, [.ref bI, .int (nI 32)])), (bI, .inl (cI, 32, .inl fIb1))] := hD.sub [0, 1, 2, 17, 18, 3, 4, 5, 6, 7, 8, 9, 10, 11, 12, 13, 14, 15, 16] rfl rfl
        rw [sm_tnE] at hP hD
        have hP := sm_arr hP 4 rfl (sm_tn (sm_tn fk fv 0 fi ni) (sm_nv (sm_tn fk fv 0 fi ni) fv) 1 fi ni) (fun j hj => sm_ap_z hj)
        have hD := sm_arrD (y := .inl (cI, 32, .inl (sm_tn (sm_tn fk fv 0 fi ni) (sm_nv (sm_tn fk fv 0 fi ni) fv) 1 fi ni))) hD 4 rfl
        have hP : va_P D vwCl [(qs, .inr (3, [.ref qi, .ref qo, .ref qd, .ref qk, .ref qv, .ref qf, .ref qa, .ref gh, .ref hk, .int cnt, .int ivl, .int drw])), (qi, .inr (2, [.ref bi, .int (nI ni)])), (bi, .inl (cI, 300, .inl fi)), (qk, .inr (2, [.ref bk, .int (nI 32)])), (bk, .inl (cI, 32, .inl (sm_tn (sm_tn fk fv 0 fi ni) (sm_nv (sm_tn fk fv 0 fi ni) fv) 1 fi ni))), (qv, .inr (2, [.ref bv, .int (nI 32)])), (bv, .inl (cI, 32, .inl (sm_nv (sm_tn fk fv 0 fi ni) fv))), (qf, .inr (2, [.ref bf, .int (nI 32)])), (bf, .inl (cI, 32, .inl fv)), (hk, .inr (1, [.ref hh, .ref hB, .ref hI])), (hh, .inr (0, [.ref hm, .ref aw, .ref ad])), (hm, .inr (2, [.ref bm, .int umb1])), (bm, .inl (cI, 448, .inl fmb1)), (aw, .inl (cI, 64, .inl fwb1)), (ad, .inl (cI, 8, .inl fdb1)), (hB, .inr (2, [.ref bB, .int (nI 64)])), (bB, .inl (cI, 64, .inl (sm_kb (sm_tn fk fv 0 fi ni) 32))), (hI, .inr (2, [.ref bI, .int (nI 32)])), (bI, .inl (cI, 32, .inl fIb1))] H := hP
        have hD : va_D A [(qs, .inr (3, [.ref qi, .ref qo, .ref qd, .ref qk, .ref qv, .ref qf, .ref qa, .ref gh, .ref hk, .int cnt, .int ivl, .int drw])), (qi, .inr (2, [.ref bi, .int (nI ni)])), (bi, .inl (cI, 300, .inl fi)), (qk, .inr (2, [.ref bk, .int (nI 32)])), (bk, .inl (cI, 32, .inl (sm_tn (sm_tn fk fv 0 fi ni) (sm_nv (sm_tn fk fv 0 fi ni) fv) 1 fi ni))), (qv, .inr (2, [.ref bv, .int (nI 32)])), (bv, .inl (cI, 32, .inl (sm_nv (sm_tn fk fv 0 fi ni) fv))), (qf, .inr (2, [.ref bf, .int (nI 32)])), (bf, .inl (cI, 32, .inl fv)), (hk, .inr (1, [.ref hh, .ref hB, .ref hI])), (hh, .inr (0, [.ref hm, .ref aw, .ref ad])), (hm, .inr (2, [.ref bm, .int umb1])), (bm, .inl (cI, 448, .inl fmb1)), (aw, .inl (cI, 64, .inl fwb1)), (ad, .inl (cI, 8, .inl fdb1)), (hB, .inr (2, [.ref bB, .int (nI 64)])), (bB, .inl (cI, 64, .inl (sm_kb (sm_tn fk fv 0 fi ni) 32))), (hI, .inr (2, [.ref bI, .int (nI 32)])), (bI, .inl (cI, 32, .inl fIb1))] := hD
        refine lv_aload_n hx hb dX3_stir_75 rfl (lv_at hl 2 rfl) ?_
        refine sm_callVv (wc := [(qs, .inr (3, [.ref qi, .ref qo, .ref qd, .ref qk, .ref qv, .ref qf, .ref qa, .ref gh, .ref hk, .int cnt, .int ivl, .int drw])), (qk, .inr (2, [.ref bk, .int (nI 32)])), (bk, .inl (cI, 32, .inl (sm_tn (sm_tn fk fv 0 fi ni) (sm_nv (sm_tn fk fv 0 fi ni) fv) 1 fi ni))), (qv, .inr (2, [.ref bv, .int (nI 32)])), (bv, .inl (cI, 32, .inl (sm_nv (sm_tn fk fv 0 fi ni) fv))), (qf, .inr (2, [.ref bf, .int (nI 32)])), (bf, .inl (cI, 32, .inl fv)), (hk, .inr (1, [.ref hh, .ref hB, .ref hI])), (hh, .inr (0, [.ref hm, .ref aw, .ref ad])), (hm, .inr (2, [.ref bm, .int umb1])), (bm, .inl (cI, 448, .inl fmb1)), (aw, .inl (cI, 64, .inl fwb1)), (ad, .inl (cI, 8, .inl fdb1)), (hB, .inr (2, [.ref bB, .int (nI 64)])), (bB, .inl (cI, 64, .inl (sm_kb (sm_tn fk fv 0 fi ni) 32))), (hI, .inr (2, [.ref bI, .int (nI 32)])), (bI, .inl (cI, 32, .inl fIb1))]) (wr := [(qi, .inr (2, [.ref bi, .int (nI ni)])), (bi, .inl (cI, 300, .inl fi))]) (As := []) (rest := []) ⟨hx, hb, hml, hown, hts⟩ (sc_X3_renewValue l D cI tk tf _ qs qi bi qo bo qd bd qk bk qv bv qf bf qa ba gh gm gb gw gd hk hh hm bm aw ad hB bB hI bI cnt ivl drw (sm_tn (sm_tn fk fv 0 fi ni) (sm_nv (sm_tn fk fv 0 fi ni) fv) 1 fi ni) (sm_nv (sm_tn fk fv 0 fi ni) fv) fv (nI 32) fmb1 umb1 fwb1 fdb1 (sm_kb (sm_tn fk fv 0 fi ni) 32) (nI 64) fIb1 (nI 32) ) (cwV 0 hts gX3_stir_X3_renewValue rfl rfl rfl (by decide +kernel) ⟨Nat.le_of_ble_eq_true rfl, Nat.le_of_ble_eq_true rfl⟩) hP hD hS hA hK hT [0, 3, 4, 5, 6, 7, 8, 9, 10, 11, 12, 13, 14, 15, 16, 17, 18] [1, 2] rfl rfl rfl rfl (by decide) 0 3 rfl rfl rfl rfl hl.1 rfl (Nat.le_of_ble_eq_true rfl) dX3_stir_76 ⟨Nat.zero_le _, Nat.zero_le _⟩ (fun zt H1 locs ht hvm hB hJ hS => ?_)
        obtain ⟨fmc1, umc1, fwc1, fdc1, fBc1, uBc1, fIc1, uIc1, hP1, -, hD1⟩ := hB
        rw [ht] at hP1
        obtain ⟨hP, hD⟩ := hJ _ hP1 hD1
        clear hJ
        generalize H1 = H at hP hS ⊢
        have hP : va_P D vwCl [(qs, .inr (3, [.ref qi, .ref qo, .ref qd, .ref qk, .ref qv, .ref qf, .ref qa, .ref gh, .ref hk, .int cnt, .int ivl, .int drw])), (qi, .inr (2, [.ref bi, .int (nI ni)])), (bi, .inl (cI, 300, .inl fi)), (qk, .inr (2, [.ref bk, .int (nI 32)])), (bk, .inl (cI, 32, .inl (sm_tn (sm_tn fk fv 0 fi ni) (sm_nv (sm_tn fk fv 0 fi ni) fv) 1 fi ni))), (qv, .inr (2, [.ref bv, .int (nI 32)])), (bv, .inl (cI, 32, .inl (sm_nv (sm_tn (sm_tn fk fv 0 fi ni) (sm_nv (sm_tn fk fv 0 fi ni) fv) 1 fi ni) (sm_nv (sm_tn fk fv 0 fi ni) fv)))), (qf, .inr (2, [.ref bf, .int (nI 32)])), (bf, .inl (cI, 32, .inl (sm_nv (sm_tn fk fv 0 fi ni) fv))), (hk, .inr (1, [.ref hh, .ref hB, .ref hI])), (hh, .inr (0, [.ref hm, .ref aw, .ref ad])), (hm, .inr (2, [.ref bm, .int umc1])), (bm, .inl (cI, 448, .inl fmc1)), (aw, .inl (cI, 64, .inl fwc1)), (ad, .inl (cI, 8, .inl fdc1)), (hB, .inr (2, [.ref bB, .int uBc1])), (bB, .inl (cI, 64, .inl fBc1)), (hI, .inr (2, [.ref bI, .int uIc1])), (bI, .inl (cI, 32, .inl fIc1))] H := hP.sub [2, 0, 1, 3, 4, 5, 6, 7, 8, 9, 10, 11, 12, 13, 14, 15, 16, 17, 18] rfl
        have hD : va_D A [(qs, .inr (3, [.ref qi, .ref qo, .ref qd, .ref qk, .ref qv, .ref qf, .ref qa, .ref gh, .ref hk, .int cnt, .int ivl, .int drw])), (qi, .inr (2, [.ref bi, .int (nI ni)])), (bi, .inl (cI, 300, .inl fi)), (qk, .inr (2, [.ref bk, .int (nI 32)])), (bk, .inl (cI, 32, .inl (sm_tn (sm_tn fk fv 0 fi ni) (sm_nv (sm_tn fk fv 0 fi ni) fv) 1 fi ni))), (qv, .inr (2, [.ref bv, .int (nI 32)])), (bv, .inl (cI, 32, .inl (sm_nv (sm_tn (sm_tn fk fv 0 fi ni) (sm_nv (sm_tn fk fv 0 fi ni) fv) 1 fi ni) (sm_nv (sm_tn fk fv 0 fi ni) fv)))), (qf, .inr (2, [.ref bf, .int (nI 32)])), (bf, .inl (cI, 32, .inl (sm_nv (sm_tn fk fv 0 fi ni) fv))), (hk, .inr (1, [.ref hh, .ref hB, .ref hI])), (hh, .inr (0, [.ref hm, .ref aw, .ref ad])), (hm, .inr (2, [.ref bm, .int umc1])), (bm, .inl (cI, 448, .inl fmc1)), (aw, .inl (cI, 64, .inl fwc1)), (ad, .inl (cI, 8, .inl fdc1)), (hB, .inr (2, [.ref bB, .int uBc1])), (bB, .inl (cI, 64, .inl fBc1)), (hI, .inr (2, [.ref bI, .int uIc1])), (bI, .inl (cI, 32, .inl fIc1))] := hD.sub [2, 0, 1, 3, 4, 5, 6, 7, 8, 9, 10, 11, 12, 13, 14, 15, 16, 17, 18] rfl rfl
        refine lv_iinc (v := 2) (lv' := [(2, .int 2), (1, .int 2), (0, .ref qs)]) hx hb dX3_stir_79 hl (k := 0) rfl (by decide) (by decide) rfl (fun ls hl => ?_)
        refine lv_goto (tgt := 18) hx hb dX3_stir_82 (by decide) ?_
        refine lv_iload_n hx hb dX3_stir_18 rfl (lv_at hl 0 rfl) ?_
        refine lv_iload_n hx hb dX3_stir_19 rfl (lv_at hl 1 rfl) ?_
        refine lv_icmp_ge (tgt := 85) hx hb dX3_stir_20 (by decide) (fun c_20 => ?_) (fun c_20 => ?_)
        ·
          rw [hQ]
          have es : sm_stir (fk, fv) fi ni = (sm_tn (sm_tn fk fv 0 fi ni) (sm_nv (sm_tn fk fv 0 fi ni) fv) 1 fi ni, sm_nv (sm_tn (sm_tn fk fv 0 fi ni) (sm_nv (sm_tn fk fv 0 fi ni) fv) 1 fi ni) (sm_nv (sm_tn fk fv 0 fi ni) fv)) := if_neg hz
          have hP9 : va_P D vwCl [(qs, .inr (3, [.ref qi, .ref qo, .ref qd, .ref qk, .ref qv, .ref qf, .ref qa, .ref gh, .ref hk, .int cnt, .int ivl, .int drw])), (qi, .inr (2, [.ref bi, .int (nI ni)])), (bi, .inl (cI, 300, .inl fi)), (qk, .inr (2, [.ref bk, .int (nI 32)])), (bk, .inl (cI, 32, .inl ((sm_stir (fk, fv) fi ni).1))), (qv, .inr (2, [.ref bv, .int (nI 32)])), (bv, .inl (cI, 32, .inl ((sm_stir (fk, fv) fi ni).2))), (qf, .inr (2, [.ref bf, .int (nI 32)])), (bf, .inl (cI, 32, .inl (sm_nv (sm_tn fk fv 0 fi ni) fv))), (hk, .inr (1, [.ref hh, .ref hB, .ref hI])), (hh, .inr (0, [.ref hm, .ref aw, .ref ad])), (hm, .inr (2, [.ref bm, .int umc1])), (bm, .inl (cI, 448, .inl fmc1)), (aw, .inl (cI, 64, .inl fwc1)), (ad, .inl (cI, 8, .inl fdc1)), (hB, .inr (2, [.ref bB, .int uBc1])), (bB, .inl (cI, 64, .inl fBc1)), (hI, .inr (2, [.ref bI, .int uIc1])), (bI, .inl (cI, 32, .inl fIc1))] H := by rw [es]; exact hP
          have hD9 : va_D A [(qs, .inr (3, [.ref qi, .ref qo, .ref qd, .ref qk, .ref qv, .ref qf, .ref qa, .ref gh, .ref hk, .int cnt, .int ivl, .int drw])), (qi, .inr (2, [.ref bi, .int (nI ni)])), (bi, .inl (cI, 300, .inl fi)), (qk, .inr (2, [.ref bk, .int (nI 32)])), (bk, .inl (cI, 32, .inl ((sm_stir (fk, fv) fi ni).1))), (qv, .inr (2, [.ref bv, .int (nI 32)])), (bv, .inl (cI, 32, .inl ((sm_stir (fk, fv) fi ni).2))), (qf, .inr (2, [.ref bf, .int (nI 32)])), (bf, .inl (cI, 32, .inl (sm_nv (sm_tn fk fv 0 fi ni) fv))), (hk, .inr (1, [.ref hh, .ref hB, .ref hI])), (hh, .inr (0, [.ref hm, .ref aw, .ref ad])), (hm, .inr (2, [.ref bm, .int umc1])), (bm, .inl (cI, 448, .inl fmc1)), (aw, .inl (cI, 64, .inl fwc1)), (ad, .inl (cI, 8, .inl fdc1)), (hB, .inr (2, [.ref bB, .int uBc1])), (bB, .inl (cI, 64, .inl fBc1)), (hI, .inr (2, [.ref bI, .int uIc1])), (bI, .inl (cI, 32, .inl fIc1))] := by rw [es]; exact hD
          exact W.vret hx hb hr (fun t ht hW => ⟨⟨(), rfl, trivial, ⟨_, _, _, _, _, _, _, _, _, by rw [es], by rw [ht]; exact hP9, va_K.moved hW.alike hK, hD9⟩⟩, hS.F ht⟩) hS.2.2 dX3_stir_85
        ·
          exact absurd (show (2 : Int32) ≤ 2 by decide) c_20
  ·
    have hz : ni = 0 := (nI_eq (b := 0) (by omega) (by decide)).mp c_7
    refine lv_iconst (v := 1) hx hb dX3_stir_10 (by decide) ?_
    refine lv_goto (tgt := 15) hx hb dX3_stir_11 (by decide) ?_
    refine lv_istore_n (lv' := [(1, .int 1), (0, .ref qs)]) hx hb dX3_stir_15 rfl hl (by decide) rfl (fun ls hl => ?_)
    refine lv_iconst (v := 0) hx hb dX3_stir_16 (by decide) ?_
    refine lv_istore_n (lv' := [(2, .int 0), (1, .int 1), (0, .ref qs)]) hx hb dX3_stir_17 rfl hl (by decide) rfl (fun ls hl => ?_)
    refine lv_iload_n hx hb dX3_stir_18 rfl (lv_at hl 0 rfl) ?_
    refine lv_iload_n hx hb dX3_stir_19 rfl (lv_at hl 1 rfl) ?_
    refine lv_icmp_ge (tgt := 85) hx hb dX3_stir_20 (by decide) (fun c_20 => ?_) (fun c_20 => ?_)
    ·
      exact absurd c_20 (by decide)
    ·
      refine lv_aload_n hx hb dX3_stir_23 rfl (lv_at hl 2 rfl) ?_
      refine va_get (D := D) (ci := 3) (v := .ref hk) (C := RX3) (T := TX3) (N := 12) hx hb hts hw_X3 hown hK hP 0 rfl rfl 8 (by decide) hf_46 (fun _ h9 => h9) rfl dX3_stir_24 ?_
      refine lv_aload_n hx hb dX3_stir_27 rfl (lv_at hl 2 rfl) ?_
      refine va_get (D := D) (ci := 3) (v := .ref qk) (C := RX3) (T := TX3) (N := 12) hx hb hts hw_X3 hown hK hP 0 rfl rfl 3 (by decide) hf_24 (fun _ h9 => h9) rfl dX3_stir_28 ?_
      refine sm_callVv (wc := [(hk, .inr (1, [.ref hh, .ref hB, .ref hI])), (hh, .inr (0, [.ref hm, .ref aw, .ref ad])), (hm, .inr (2, [.ref bm, .int um])), (bm, .inl (cI, 448, .inl fm)), (aw, .inl (cI, 64, .inl fw)), (ad, .inl (cI, 8, .inl fd)), (hB, .inr (2, [.ref bB, .int uB])), (bB, .inl (cI, 64, .inl fB)), (qk, .inr (2, [.ref bk, .int (nI 32)])), (bk, .inl (cI, 32, .inl fk))]) (wr := [(qs, .inr (3, [.ref qi, .ref qo, .ref qd, .ref qk, .ref qv, .ref qf, .ref qa, .ref gh, .ref hk, .int cnt, .int ivl, .int drw])), (qi, .inr (2, [.ref bi, .int (nI ni)])), (bi, .inl (cI, 300, .inl fi)), (qv, .inr (2, [.ref bv, .int (nI 32)])), (bv, .inl (cI, 32, .inl fv)), (qf, .inr (2, [.ref bf, .int uf])), (bf, .inl (cI, 32, .inl ff)), (hI, .inr (2, [.ref bI, .int uI])), (bI, .inl (cI, 32, .inl fI))]) (As := [.ref qk]) (rest := []) ⟨hx, hb, hml, hown, hts⟩ (sc_X1_begin l D cI tk tf _ hk hh hm bm aw ad hB bB hI bI qk bk 32 32 fm fw fd fB fk um uB (by decide) (by decide) (by decide)) (cwV 1 hts gX3_stir_X1_begin rfl rfl rfl (by decide +kernel) ⟨Nat.le_of_ble_eq_true rfl, Nat.le_of_ble_eq_true rfl⟩) hP hD hS hA hK hT [9, 10, 11, 12, 13, 14, 15, 16, 3, 4] [0, 1, 2, 5, 6, 7, 8, 17, 18] rfl rfl rfl rfl (by decide) 0 1 rfl rfl rfl rfl hl.1 rfl (Nat.le_of_ble_eq_true rfl) dX3_stir_31 ⟨Nat.zero_le _, Nat.zero_le _⟩ (fun zt H1 locs ht hvm hB hJ hS => ?_)
      obtain ⟨fma0, fwa0, fda0, hP1, -, hD1⟩ := hB
      rw [ht] at hP1
      obtain ⟨hP, hD⟩ := hJ _ hP1 hD1
      clear hJ
      generalize H1 = H at hP hS ⊢
      have hP : va_P D vwCl [(qs, .inr (3, [.ref qi, .ref qo, .ref qd, .ref qk, .ref qv, .ref qf, .ref qa, .ref gh, .ref hk, .int cnt, .int ivl, .int drw])), (qi, .inr (2, [.ref bi, .int (nI ni)])), (bi, .inl (cI, 300, .inl fi)), (qk, .inr (2, [.ref bk, .int (nI 32)])), (bk, .inl (cI, 32, .inl fk)), (qv, .inr (2, [.ref bv, .int (nI 32)])), (bv, .inl (cI, 32, .inl fv)), (qf, .inr (2, [.ref bf, .int uf])), (bf, .inl (cI, 32, .inl ff)), (hk, .inr (1, [.ref hh, .ref hB, .ref hI])), (hh, .inr (0, [.ref hm, .ref aw, .ref ad])), (hm, .inr (2, [.ref bm, .int (nI (0 + 64))])), (bm, .inl (cI, 448, .inl (sm_ap fma0 0 (fun j => sm_kb fk 32 j ^^^ 54) 64))), (aw, .inl (cI, 64, .inl fwa0)), (ad, .inl (cI, 8, .inl fda0)), (hB, .inr (2, [.ref bB, .int (nI 64)])), (bB, .inl (cI, 64, .inl (sm_kb fk 32))), (hI, .inr (2, [.ref bI, .int uI])), (bI, .inl (cI, 32, .inl fI))] H := hP.sub [0, 1, 2, 17, 18, 3, 4, 5, 6, 9, 10, 11, 12, 13, 14, 15, 16, 7, 8] rfl
      have hD : va_D A [(qs, .inr (3, [.ref qi, .ref qo, .ref qd, .ref qk, .ref qv, .ref qf, .ref qa, .ref gh, .ref hk, .int cnt, .int ivl, .int drw])), (qi, .inr (2, [.ref bi, .int (nI ni)])), (bi, .inl (cI, 300, .inl fi)), (qk, .inr (2, [.ref bk, .int (nI 32)])), (bk, .inl (cI, 32, .inl fk)), (qv, .inr (2, [.ref bv, .int (nI 32)])), (bv, .inl (cI, 32, .inl fv)), (qf, .inr (2, [.ref bf, .int uf])), (bf, .inl (cI, 32, .inl ff)), (hk, .inr (1, [.ref hh, .ref hB, .ref hI])), (hh, .inr (0, [.ref hm, .ref aw, .ref ad])), (hm, .inr (2, [.ref bm, .int (nI (0 + 64))])), (bm, .inl (cI, 448, .inl (sm_ap fma0 0 (fun j => sm_kb fk 32 j ^^^ 54) 64))), (aw, .inl (cI, 64, .inl fwa0)), (ad, .inl (cI, 8, .inl fda0)), (hB, .inr (2, [.ref bB, .int (nI 64)])), (bB, .inl (cI, 64, .inl (sm_kb fk 32))), (hI, .inr (2, [.ref bI, .int uI])), (bI, .inl (cI, 32, .inl fI))] := hD.sub [0, 1, 2, 17, 18, 3, 4, 5, 6, 9, 10, 11, 12, 13, 14, 15, 16, 7, 8] rfl rfl
      refine lv_aload_n hx hb dX3_stir_34 rfl (lv_at hl 2 rfl) ?_
      refine va_get (D := D) (ci := 3) (v := .ref hk) (C := RX3) (T := TX3) (N := 12) hx hb hts hw_X3 hown hK hP 0 rfl rfl 8 (by decide) hf_46 (fun _ h9 => h9) rfl dX3_stir_35 ?_
      refine lv_aload_n hx hb dX3_stir_38 rfl (lv_at hl 2 rfl) ?_
      refine va_get (D := D) (ci := 3) (v := .ref qv) (C := RX3) (T := TX3) (N := 12) hx hb hts hw_X3 hown hK hP 0 rfl rfl 4 (by decide) hf_27 (fun _ h9 => h9) rfl dX3_stir_39 ?_
      refine sm_callVv (wc := [(hk, .inr (1, [.ref hh, .ref hB, .ref hI])), (hh, .inr (0, [.ref hm, .ref aw, .ref ad])), (hm, .inr (2, [.ref bm, .int (nI (0 + 64))])), (bm, .inl (cI, 448, .inl (sm_ap fma0 0 (fun j => sm_kb fk 32 j ^^^ 54) 64))), (qv, .inr (2, [.ref bv, .int (nI 32)])), (bv, .inl (cI, 32, .inl fv))]) (wr := [(qs, .inr (3, [.ref qi, .ref qo, .ref qd, .ref qk, .ref qv, .ref qf, .ref qa, .ref gh, .ref hk, .int cnt, .int ivl, .int drw])), (qi, .inr (2, [.ref bi, .int (nI ni)])), (bi, .inl (cI, 300, .inl fi)), (qk, .inr (2, [.ref bk, .int (nI 32)])), (bk, .inl (cI, 32, .inl fk)), (qf, .inr (2, [.ref bf, .int uf])), (bf, .inl (cI, 32, .inl ff)), (aw, .inl (cI, 64, .inl fwa0)), (ad, .inl (cI, 8, .inl fda0)), (hB, .inr (2, [.ref bB, .int (nI 64)])), (bB, .inl (cI, 64, .inl (sm_kb fk 32))), (hI, .inr (2, [.ref bI, .int uI])), (bI, .inl (cI, 32, .inl fI))]) (As := [.ref qv]) (rest := []) ⟨hx, hb, hml, hown, hts⟩ (sc_X1_add l D cI (some (tk, tf)) _ hk hh hm bm aw ad hB bB hI bI (0 + 64) qv bv 32 32 (sm_ap fma0 0 (fun j => sm_kb fk 32 j ^^^ 54) 64) fv (by decide) (by decide) (by decide)) (cwV 1 hts gX3_stir_X1_add rfl rfl rfl (by decide +kernel) ⟨Nat.le_of_ble_eq_true rfl, Nat.le_of_ble_eq_true rfl⟩) hP hD hS hA hK hT [9, 10, 11, 12, 5, 6] [0, 1, 2, 3, 4, 7, 8, 13, 14, 15, 16, 17, 18] rfl rfl rfl rfl (by decide) 0 1 rfl rfl rfl rfl hl.1 rfl (Nat.le_of_ble_eq_true rfl) dX3_stir_42 ⟨Nat.zero_le _, Nat.zero_le _⟩ (fun zt H1 locs ht hvm hB hJ hS => ?_)
      obtain ⟨hP1, -, hD1⟩ := hB
      rw [ht] at hP1
      obtain ⟨hP, hD⟩ := hJ _ hP1 hD1
      clear hJ
      generalize H1 = H at hP hS ⊢
      have hP : va_P D vwCl [(qs, .inr (3, [.ref qi, .ref qo, .ref qd, .ref qk, .ref qv, .ref qf, .ref qa, .ref gh, .ref hk, .int cnt, .int ivl, .int drw])), (qi, .inr (2, [.ref bi, .int (nI ni)])), (bi, .inl (cI, 300, .inl fi)), (qk, .inr (2, [.ref bk, .int (nI 32)])), (bk, .inl (cI, 32, .inl fk)), (qv, .inr (2, [.ref bv, .int (nI 32)])), (bv, .inl (cI, 32, .inl fv)), (qf, .inr (2, [.ref bf, .int uf])), (bf, .inl (cI, 32, .inl ff)), (hk, .inr (1, [.ref hh, .ref hB, .ref hI])), (hh, .inr (0, [.ref hm, .ref aw, .ref ad])), (hm, .inr (2, [.ref bm, .int (nI (0 + 64 + 32))])), (bm, .inl (cI, 448, .inl (sm_ap (sm_ap fma0 0 (fun j => sm_kb fk 32 j ^^^ 54) 64) (0 + 64) fv 32))), (aw, .inl (cI, 64, .inl fwa0)), (ad, .inl (cI, 8, .inl fda0)), (hB, .inr (2, [.ref bB, .int (nI 64)])), (bB, .inl (cI, 64, .inl (sm_kb fk 32))), (hI, .inr (2, [.ref bI, .int uI])), (bI, .inl (cI, 32, .inl fI))] H := hP.sub [0, 1, 2, 3, 4, 17, 18, 5, 6, 13, 14, 15, 16, 7, 8, 9, 10, 11, 12] rfl
      have hD : va_D A [(qs, .inr (3, [.ref qi, .ref qo, .ref qd, .ref qk, .ref qv, .ref qf, .ref qa, .ref gh, .ref hk, .int cnt, .int ivl, .int drw])), (qi, .inr (2, [.ref bi, .int (nI ni)])), (bi, .inl (cI, 300, .inl fi)), (qk, .inr (2, [.ref bk, .int (nI 32)])), (bk, .inl (cI, 32, .inl fk)), (qv, .inr (2, [.ref bv, .int (nI 32)])), (bv, .inl (cI, 32, .inl fv)), (qf, .inr (2, [.ref bf, .int uf])), (bf, .inl (cI, 32, .inl ff)), (hk, .inr (1, [.ref hh, .ref hB, .ref hI])), (hh, .inr (0, [.ref hm, .ref aw, .ref ad])), (hm, .inr (2, [.ref bm, .int (nI (0 + 64 + 32))])), (bm, .inl (cI, 448, .inl (sm_ap (sm_ap fma0 0 (fun j => sm_kb fk 32 j ^^^ 54) 64) (0 + 64) fv 32))), (aw, .inl (cI, 64, .inl fwa0)), (ad, .inl (cI, 8, .inl fda0)), (hB, .inr (2, [.ref bB, .int (nI 64)])), (bB, .inl (cI, 64, .inl (sm_kb fk 32))), (hI, .inr (2, [.ref bI, .int uI])), (bI, .inl (cI, 32, .inl fI))] := hD.sub [0, 1, 2, 3, 4, 17, 18, 5, 6, 13, 14, 15, 16, 7, 8, 9, 10, 11, 12] rfl rfl
      refine lv_aload_n hx hb dX3_stir_45 rfl (lv_at hl 2 rfl) ?_
      refine va_get (D := D) (ci := 3) (v := .ref hk) (C := RX3) (T := TX3) (N := 12) hx hb hts hw_X3 hown hK hP 0 rfl rfl 8 (by decide) hf_46 (fun _ h9 => h9) rfl dX3_stir_46 ?_
      refine lv_iload_n hx hb dX3_stir_49 rfl (lv_at hl 0 rfl) ?_
      refine sm_callVv (wc := [(hk, .inr (1, [.ref hh, .ref hB, .ref hI])), (hh, .inr (0, [.ref hm, .ref aw, .ref ad])), (hm, .inr (2, [.ref bm, .int (nI (0 + 64 + 32))])), (bm, .inl (cI, 448, .inl (sm_ap (sm_ap fma0 0 (fun j => sm_kb fk 32 j ^^^ 54) 64) (0 + 64) fv 32)))]) (wr := [(qs, .inr (3, [.ref qi, .ref qo, .ref qd, .ref qk, .ref qv, .ref qf, .ref qa, .ref gh, .ref hk, .int cnt, .int ivl, .int drw])), (qi, .inr (2, [.ref bi, .int (nI ni)])), (bi, .inl (cI, 300, .inl fi)), (qk, .inr (2, [.ref bk, .int (nI 32)])), (bk, .inl (cI, 32, .inl fk)), (qv, .inr (2, [.ref bv, .int (nI 32)])), (bv, .inl (cI, 32, .inl fv)), (qf, .inr (2, [.ref bf, .int uf])), (bf, .inl (cI, 32, .inl ff)), (aw, .inl (cI, 64, .inl fwa0)), (ad, .inl (cI, 8, .inl fda0)), (hB, .inr (2, [.ref bB, .int (nI 64)])), (bB, .inl (cI, 64, .inl (sm_kb fk 32))), (hI, .inr (2, [.ref bI, .int uI])), (bI, .inl (cI, 32, .inl fI))]) (As := [.int 0]) (rest := []) ⟨hx, hb, hml, hown, hts⟩ (sc_X1_addByte l D cI (some (tk, tf)) _ hk hh hm bm aw ad hB bB hI bI (0 + 64 + 32) (sm_ap (sm_ap fma0 0 (fun j => sm_kb fk 32 j ^^^ 54) 64) (0 + 64) fv 32) 0 (by decide)) (cwV 1 hts gX3_stir_X1_addByte rfl rfl rfl (by decide +kernel) ⟨Nat.le_of_ble_eq_true rfl, Nat.le_of_ble_eq_true rfl⟩) hP hD hS hA hK hT [9, 10, 11, 12] [0, 1, 2, 3, 4, 5, 6, 7, 8, 13, 14, 15, 16, 17, 18] rfl rfl rfl rfl (by decide) 0 1 rfl rfl rfl rfl hl.1 rfl (Nat.le_of_ble_eq_true rfl) dX3_stir_50 ⟨Nat.zero_le _, Nat.zero_le _⟩ (fun zt H1 locs ht hvm hB hJ hS => ?_)
      obtain ⟨hP1, -, hD1⟩ := hB
      rw [ht] at hP1
      obtain ⟨hP, hD⟩ := hJ _ hP1 hD1
      clear hJ
      generalize H1 = H at hP hS ⊢
      have hP : va_P D vwCl [(qs, .inr (3, [.ref qi, .ref qo, .ref qd, .ref qk, .ref qv, .ref qf, .ref qa, .ref gh, .ref hk, .int cnt, .int ivl, .int drw])), (qi, .inr (2, [.ref bi, .int (nI ni)])), (bi, .inl (cI, 300, .inl fi)), (qk, .inr (2, [.ref bk, .int (nI 32)])), (bk, .inl (cI, 32, .inl fk)), (qv, .inr (2, [.ref bv, .int (nI 32)])), (bv, .inl (cI, 32, .inl fv)), (qf, .inr (2, [.ref bf, .int uf])), (bf, .inl (cI, 32, .inl ff)), (hk, .inr (1, [.ref hh, .ref hB, .ref hI])), (hh, .inr (0, [.ref hm, .ref aw, .ref ad])), (hm, .inr (2, [.ref bm, .int (nI (0 + 64 + 32 + 1))])), (bm, .inl (cI, 448, .inl (upd (sm_ap (sm_ap fma0 0 (fun j => sm_kb fk 32 j ^^^ 54) 64) (0 + 64) fv 32) (0 + 64 + 32) 0))), (aw, .inl (cI, 64, .inl fwa0)), (ad, .inl (cI, 8, .inl fda0)), (hB, .inr (2, [.ref bB, .int (nI 64)])), (bB, .inl (cI, 64, .inl (sm_kb fk 32))), (hI, .inr (2, [.ref bI, .int uI])), (bI, .inl (cI, 32, .inl fI))] H := hP.sub [0, 1, 2, 3, 4, 5, 6, 7, 8, 15, 16, 17, 18, 9, 10, 11, 12, 13, 14] rfl
      have hD : va_D A [(qs, .inr (3, [.ref qi, .ref qo, .ref qd, .ref qk, .ref qv, .ref qf, .ref qa, .ref gh, .ref hk, .int cnt, .int ivl, .int drw])), (qi, .inr (2, [.ref bi, .int (nI ni)])), (bi, .inl (cI, 300, .inl fi)), (qk, .inr (2, [.ref bk, .int (nI 32)])), (bk, .inl (cI, 32, .inl fk)), (qv, .inr (2, [.ref bv, .int (nI 32)])), (bv, .inl (cI, 32, .inl fv)), (qf, .inr (2, [.ref bf, .int uf])), (bf, .inl (cI, 32, .inl ff)), (hk, .inr (1, [.ref hh, .ref hB, .ref hI])), (hh, .inr (0, [.ref hm, .ref aw, .ref ad])), (hm, .inr (2, [.ref bm, .int (nI (0 + 64 + 32 + 1))])), (bm, .inl (cI, 448, .inl (upd (sm_ap (sm_ap fma0 0 (fun j => sm_kb fk 32 j ^^^ 54) 64) (0 + 64) fv 32) (0 + 64 + 32) 0))), (aw, .inl (cI, 64, .inl fwa0)), (ad, .inl (cI, 8, .inl fda0)), (hB, .inr (2, [.ref bB, .int (nI 64)])), (bB, .inl (cI, 64, .inl (sm_kb fk 32))), (hI, .inr (2, [.ref bI, .int uI])), (bI, .inl (cI, 32, .inl fI))] := hD.sub [0, 1, 2, 3, 4, 5, 6, 7, 8, 15, 16, 17, 18, 9, 10, 11, 12, 13, 14] rfl rfl
      refine lv_aload_n hx hb dX3_stir_53 rfl (lv_at hl 2 rfl) ?_
      refine va_get (D := D) (ci := 3) (v := .ref hk) (C := RX3) (T := TX3) (N := 12) hx hb hts hw_X3 hown hK hP 0 rfl rfl 8 (by decide) hf_46 (fun _ h9 => h9) rfl dX3_stir_54 ?_
      refine lv_aload_n hx hb dX3_stir_57 rfl (lv_at hl 2 rfl) ?_
      refine va_get (D := D) (ci := 3) (v := .ref qi) (C := RX3) (T := TX3) (N := 12) hx hb hts hw_X3 hown hK hP 0 rfl rfl 0 (by decide) hf_14 (fun _ h9 => h9) rfl dX3_stir_58 ?_
      refine sm_callVv (wc := [(hk, .inr (1, [.ref hh, .ref hB, .ref hI])), (hh, .inr (0, [.ref hm, .ref aw, .ref ad])), (hm, .inr (2, [.ref bm, .int (nI (0 + 64 + 32 + 1))])), (bm, .inl (cI, 448, .inl (upd (sm_ap (sm_ap fma0 0 (fun j => sm_kb fk 32 j ^^^ 54) 64) (0 + 64) fv 32) (0 + 64 + 32) 0))), (qi, .inr (2, [.ref bi, .int (nI ni)])), (bi, .inl (cI, 300, .inl fi))]) (wr := [(qs, .inr (3, [.ref qi, .ref qo, .ref qd, .ref qk, .ref qv, .ref qf, .ref qa, .ref gh, .ref hk, .int cnt, .int ivl, .int drw])), (qk, .inr (2, [.ref bk, .int (nI 32)])), (bk, .inl (cI, 32, .inl fk)), (qv, .inr (2, [.ref bv, .int (nI 32)])), (bv, .inl (cI, 32, .inl fv)), (qf, .inr (2, [.ref bf, .int uf])), (bf, .inl (cI, 32, .inl ff)), (aw, .inl (cI, 64, .inl fwa0)), (ad, .inl (cI, 8, .inl fda0)), (hB, .inr (2, [.ref bB, .int (nI 64)])), (bB, .inl (cI, 64, .inl (sm_kb fk 32))), (hI, .inr (2, [.ref bI, .int uI])), (bI, .inl (cI, 32, .inl fI))]) (As := [.ref qi]) (rest := []) ⟨hx, hb, hml, hown, hts⟩ (sc_X1_add l D cI (some (tk, tf)) _ hk hh hm bm aw ad hB bB hI bI (0 + 64 + 32 + 1) qi bi 300 ni (upd (sm_ap (sm_ap fma0 0 (fun j => sm_kb fk 32 j ^^^ 54) 64) (0 + 64) fv 32) (0 + 64 + 32) 0) fi (by omega) hni (by decide)) (cwV 1 hts gX3_stir_X1_add rfl rfl rfl (by decide +kernel) ⟨Nat.le_of_ble_eq_true rfl, Nat.le_of_ble_eq_true rfl⟩) hP hD hS hA hK hT [9, 10, 11, 12, 1, 2] [0, 3, 4, 5, 6, 7, 8, 13, 14, 15, 16, 17, 18] rfl rfl rfl rfl (by decide) 0 1 rfl rfl rfl rfl hl.1 rfl (Nat.le_of_ble_eq_true rfl) dX3_stir_61 ⟨Nat.zero_le _, Nat.zero_le _⟩ (fun zt H1 locs ht hvm hB hJ hS => ?_)
      obtain ⟨hP1, -, hD1⟩ := hB
      rw [ht] at hP1
      obtain ⟨hP, hD⟩ := hJ _ hP1 hD1
      clear hJ
      generalize H1 = H at hP hS ⊢
      have hP : va_P D vwCl [(qs, .inr (3, [.ref qi, .ref qo, .ref qd, .ref qk, .ref qv, .ref qf, .ref qa, .ref gh, .ref hk, .int cnt, .int ivl, .int drw])), (qi, .inr (2, [.ref bi, .int (nI ni)])), (bi, .inl (cI, 300, .inl fi)), (qk, .inr (2, [.ref bk, .int (nI 32)])), (bk, .inl (cI, 32, .inl fk)), (qv, .inr (2, [.ref bv, .int (nI 32)])), (bv, .inl (cI, 32, .inl fv)), (qf, .inr (2, [.ref bf, .int uf])), (bf, .inl (cI, 32, .inl ff)), (hk, .inr (1, [.ref hh, .ref hB, .ref hI])), (hh, .inr (0, [.ref hm, .ref aw, .ref ad])), (hm, .inr (2, [.ref bm, .int (nI (0 + 64 + 32 + 1 + ni))])), (bm, .inl (cI, 448, .inl (sm_ap (upd (sm_ap (sm_ap fma0 0 (fun j => sm_kb fk 32 j ^^^ 54) 64) (0 + 64) fv 32) (0 + 64 + 32) 0) (0 + 64 + 32 + 1) fi ni))), (aw, .inl (cI, 64, .inl fwa0)), (ad, .inl (cI, 8, .inl fda0)), (hB, .inr (2, [.ref bB, .int (nI 64)])), (bB, .inl (cI, 64, .inl (sm_kb fk 32))), (hI, .inr (2, [.ref bI, .int uI])), (bI, .inl (cI, 32, .inl fI))] H := hP.sub [0, 17, 18, 1, 2, 3, 4, 5, 6, 13, 14, 15, 16, 7, 8, 9, 10, 11, 12] rfl
      have hD : va_D A [(qs, .inr (3, [.ref qi, .ref qo, .ref qd, .ref qk, .ref qv, .ref qf, .ref qa, .ref gh, .ref hk, .int cnt, .int ivl, .int drw])), (qi, .inr (2, [.ref bi, .int (nI ni)])), (bi, .inl (cI, 300, .inl fi)), (qk, .inr (2, [.ref bk, .int (nI 32)])), (bk, .inl (cI, 32, .inl fk)), (qv, .inr (2, [.ref bv, .int (nI 32)])), (bv, .inl (cI, 32, .inl fv)), (qf, .inr (2, [.ref bf, .int uf])), (bf, .inl (cI, 32, .inl ff)), (hk, .inr (1, [.ref hh, .ref hB, .ref hI])), (hh, .inr (0, [.ref hm, .ref aw, .ref ad])), (hm, .inr (2, [.ref bm, .int (nI (0 + 64 + 32 + 1 + ni))])), (bm, .inl (cI, 448, .inl (sm_ap (upd (sm_ap (sm_ap fma0 0 (fun j => sm_kb fk 32 j ^^^ 54) 64) (0 + 64) fv 32) (0 + 64 + 32) 0) (0 + 64 + 32 + 1) fi ni))), (aw, .inl (cI, 64, .inl fwa0)), (ad, .inl (cI, 8, .inl fda0)), (hB, .inr (2, [.ref bB, .int (nI 64)])), (bB, .inl (cI, 64, .inl (sm_kb fk 32))), (hI, .inr (2, [.ref bI, .int uI])), (bI, .inl (cI, 32, .inl fI))] := hD.sub [0, 17, 18, 1, 2, 3, 4, 5, 6, 13, 14, 15, 16, 7, 8, 9, 10, 11, 12] rfl rfl
      refine lv_aload_n hx hb dX3_stir_64 rfl (lv_at hl 2 rfl) ?_
      refine va_get (D := D) (ci := 3) (v := .ref hk) (C := RX3) (T := TX3) (N := 12) hx hb hts hw_X3 hown hK hP 0 rfl rfl 8 (by decide) hf_46 (fun _ h9 => h9) rfl dX3_stir_65 ?_
      refine lv_aload_n hx hb dX3_stir_68 rfl (lv_at hl 2 rfl) ?_
      refine va_get (D := D) (ci := 3) (v := .ref qk) (C := RX3) (T := TX3) (N := 12) hx hb hts hw_X3 hown hK hP 0 rfl rfl 3 (by decide) hf_24 (fun _ h9 => h9) rfl dX3_stir_69 ?_
      refine sm_callVv (wc := [(hk, .inr (1, [.ref hh, .ref hB, .ref hI])), (hh, .inr (0, [.ref hm, .ref aw, .ref ad])), (hm, .inr (2, [.ref bm, .int (nI (0 + 64 + 32 + 1 + ni))])), (bm, .inl (cI, 448, .inl (sm_ap (upd (sm_ap (sm_ap fma0 0 (fun j => sm_kb fk 32 j ^^^ 54) 64) (0 + 64) fv 32) (0 + 64 + 32) 0) (0 + 64 + 32 + 1) fi ni))), (aw, .inl (cI, 64, .inl fwa0)), (ad, .inl (cI, 8, .inl fda0)), (hB, .inr (2, [.ref bB, .int (nI 64)])), (bB, .inl (cI, 64, .inl (sm_kb fk 32))), (hI, .inr (2, [.ref bI, .int uI])), (bI, .inl (cI, 32, .inl fI)), (qk, .inr (2, [.ref bk, .int (nI 32)])), (bk, .inl (cI, 32, .inl fk))]) (wr := [(qs, .inr (3, [.ref qi, .ref qo, .ref qd, .ref qk, .ref qv, .ref qf, .ref qa, .ref gh, .ref hk, .int cnt, .int ivl, .int drw])), (qi, .inr (2, [.ref bi, .int (nI ni)])), (bi, .inl (cI, 300, .inl fi)), (qv, .inr (2, [.ref bv, .int (nI 32)])), (bv, .inl (cI, 32, .inl fv)), (qf, .inr (2, [.ref bf, .int uf])), (bf, .inl (cI, 32, .inl ff))]) (As := [.ref qk]) (rest := []) ⟨hx, hb, hml, hown, hts⟩ (sc_X1_end l D cI tk tf _ hk hh hm bm aw ad hB bB hI bI qk bk 32 (0 + 64 + 32 + 1 + ni) (sm_ap (upd (sm_ap (sm_ap fma0 0 (fun j => sm_kb fk 32 j ^^^ 54) 64) (0 + 64) fv 32) (0 + 64 + 32) 0) (0 + 64 + 32 + 1) fi ni) fwa0 fda0 (sm_kb fk 32) fI fk uI (nI 32) (by unfold sm_nb; omega) (by decide) (by decide)) (cwV 1 hts gX3_stir_X1_end rfl rfl rfl (by decide +kernel) ⟨Nat.le_of_ble_eq_true rfl, Nat.le_of_ble_eq_true rfl⟩) hP hD hS hA hK hT [9, 10, 11, 12, 13, 14, 15, 16, 17, 18, 3, 4] [0, 1, 2, 5, 6, 7, 8] rfl rfl rfl rfl (by decide) 0 1 rfl rfl rfl rfl hl.1 rfl (Nat.le_of_ble_eq_true rfl) dX3_stir_72 ⟨Nat.zero_le _, Nat.zero_le _⟩ (fun zt H1 locs ht hvm hB hJ hS => ?_)
      obtain ⟨fmb0, umb0, fwb0, fdb0, fIb0, hP1, -, hD1⟩ := hB
      rw [ht] at hP1
      obtain ⟨hP, hD⟩ := hJ _ hP1 hD1
      clear hJ
      generalize H1 = H at hP hS ⊢
      have hP : va_P D vwCl [(qs, .inr (3, [.ref qi, .ref qo, .ref qd, .ref qk, .ref qv, .ref qf, .ref qa, .ref gh, .ref hk, .int cnt, .int ivl, .int drw])), (qi, .inr (2, [.ref bi, .int (nI ni)])), (bi, .inl (cI, 300, .inl fi)), (qk, .inr (2, [.ref bk, .int (nI 32)])), (bk, .inl (cI, 32, .inl (sm_ap fk 0 (sm_out (sm_kb fk 32) (sm_sha (sm_ap (upd (sm_ap (sm_ap fma0 0 (fun j => sm_kb fk 32 j ^^^ 54) 64) (0 + 64) fv 32) (0 + 64 + 32) 0) (0 + 64 + 32 + 1) fi ni) (0 + 64 + 32 + 1 + ni))) 32))), (qv, .inr (2, [.ref bv, .int (nI 32)])), (bv, .inl (cI, 32, .inl fv)), (qf, .inr (2, [.ref bf, .int uf])), (bf, .inl (cI, 32, .inl ff)), (hk, .inr (1, [.ref hh, .ref hB, .ref hI])), (hh, .inr (0, [.ref hm, .ref aw, .ref ad])), (hm, .inr (2, [.ref bm, .int umb0])), (bm, .inl (cI, 448, .inl fmb0)), (aw, .inl (cI, 64, .inl fwb0)), (ad, .inl (cI, 8, .inl fdb0)), (hB, .inr (2, [.ref bB, .int (nI 64)])), (bB, .inl (cI, 64, .inl (sm_kb fk 32))), (hI, .inr (2, [.ref bI, .int (nI 32)])), (bI, .inl (cI, 32, .inl fIb0))] H := hP.sub [0, 1, 2, 17, 18, 3, 4, 5, 6, 7, 8, 9, 10, 11, 12, 13, 14, 15, 16] rfl
      have hD : va_D A [(qs, .inr (3, [.ref qi, .ref qo, .ref qd, .ref qk, .ref qv, .ref qf, .ref qa, .ref gh, .ref hk, .int cnt, .int ivl, .int drw])), (qi, .inr (2, [.ref bi, .int (nI ni)])), (bi, .inl (cI, 300, .inl fi)), (qk, .inr (2, [.ref bk, .int (nI 32)])), (bk, .inl (cI, 32, .inl (sm_ap fk 0 (sm_out (sm_kb fk 32) (sm_sha (sm_ap (upd (sm_ap (sm_ap fma0 0 (fun j => sm_kb fk 32 j ^^^ 54) 64) (0 + 64) fv 32) (0 + 64 + 32) 0) (0 + 64 + 32 + 1) fi ni) (0 + 64 + 32 + 1 + ni))) 32))), (qv, .inr (2, [.ref bv, .int (nI 32)])), (bv, .inl (cI, 32, .inl fv)), (qf, .inr (2, [.ref bf, .int uf])), (bf, .inl (cI, 32, .inl ff)), (hk, .inr (1, [.ref hh, .ref hB, .ref hI])), (hh, .inr (0, [.ref hm, .ref aw, .ref ad])), (hm, .inr (2, [.ref bm, .int umb0])), (bm, .inl (cI, 448, .inl fmb0)), (aw, .inl (cI, 64, .inl fwb0)), (ad, .inl (cI, 8, .inl fdb0)), (hB, .inr (2, [.ref bB, .int (nI 64)])), (bB, .inl (cI, 64, .inl (sm_kb fk 32))), (hI, .inr (2, [.ref bI, .int (nI 32)])), (bI, .inl (cI, 32, .inl fIb0))] := hD.sub [0, 1, 2, 17, 18, 3, 4, 5, 6, 7, 8, 9, 10, 11, 12, 13, 14, 15, 16] rfl rfl
      rw [sm_tnE] at hP hD
      have hP := sm_arr hP 4 rfl (sm_tn fk fv 0 fi ni) (fun j hj => sm_ap_z hj)
      have hD := sm_arrD (y := .inl (cI, 32, .inl (sm_tn fk fv 0 fi ni))) hD 4 rfl
      have hP : va_P D vwCl [(qs, .inr (3, [.ref qi, .ref qo, .ref qd, .ref qk, .ref qv, .ref qf, .ref qa, .ref gh, .ref hk, .int cnt, .int ivl, .int drw])), (qi, .inr (2, [.ref bi, .int (nI ni)])), (bi, .inl (cI, 300, .inl fi)), (qk, .inr (2, [.ref bk, .int (nI 32)])), (bk, .inl (cI, 32, .inl (sm_tn fk fv 0 fi ni))), (qv, .inr (2, [.ref bv, .int (nI 32)])), (bv, .inl (cI, 32, .inl fv)), (qf, .inr (2, [.ref bf, .int uf])), (bf, .inl (cI, 32, .inl ff)), (hk, .inr (1, [.ref hh, .ref hB, .ref hI])), (hh, .inr (0, [.ref hm, .ref aw, .ref ad])), (hm, .inr (2, [.ref bm, .int umb0])), (bm, .inl (cI, 448, .inl fmb0)), (aw, .inl (cI, 64, .inl fwb0)), (ad, .inl (cI, 8, .inl fdb0)), (hB, .inr (2, [.ref bB, .int (nI 64)])), (bB, .inl (cI, 64, .inl (sm_kb fk 32))), (hI, .inr (2, [.ref bI, .int (nI 32)])), (bI, .inl (cI, 32, .inl fIb0))] H := hP
      have hD : va_D A [(qs, .inr (3, [.ref qi, .ref qo, .ref qd, .ref qk, .ref qv, .ref qf, .ref qa, .ref gh, .ref hk, .int cnt, .int ivl, .int drw])), (qi, .inr (2, [.ref bi, .int (nI ni)])), (bi, .inl (cI, 300, .inl fi)), (qk, .inr (2, [.ref bk, .int (nI 32)])), (bk, .inl (cI, 32, .inl (sm_tn fk fv 0 fi ni))), (qv, .inr (2, [.ref bv, .int (nI 32)])), (bv, .inl (cI, 32, .inl fv)), (qf, .inr (2, [.ref bf, .int uf])), (bf, .inl (cI, 32, .inl ff)), (hk, .inr (1, [.ref hh, .ref hB, .ref hI])), (hh, .inr (0, [.ref hm, .ref aw, .ref ad])), (hm, .inr (2, [.ref bm, .int umb0])), (bm, .inl (cI, 448, .inl fmb0)), (aw, .inl (cI, 64, .inl fwb0)), (ad, .inl (cI, 8, .inl fdb0)), (hB, .inr (2, [.ref bB, .int (nI 64)])), (bB, .inl (cI, 64, .inl (sm_kb fk 32))), (hI, .inr (2, [.ref bI, .int (nI 32)])), (bI, .inl (cI, 32, .inl fIb0))] := hD
      refine lv_aload_n hx hb dX3_stir_75 rfl (lv_at hl 2 rfl) ?_
      refine sm_callVv (wc := [(qs, .inr (3, [.ref qi, .ref qo, .ref qd, .ref qk, .ref qv, .ref qf, .ref qa, .ref gh, .ref hk, .int cnt, .int ivl, .int drw])), (qk, .inr (2, [.ref bk, .int (nI 32)])), (bk, .inl (cI, 32, .inl (sm_tn fk fv 0 fi ni))), (qv, .inr (2, [.ref bv, .int (nI 32)])), (bv, .inl (cI, 32, .inl fv)), (qf, .inr (2, [.ref bf, .int uf])), (bf, .inl (cI, 32, .inl ff)), (hk, .inr (1, [.ref hh, .ref hB, .ref hI])), (hh, .inr (0, [.ref hm, .ref aw, .ref ad])), (hm, .inr (2, [.ref bm, .int umb0])), (bm, .inl (cI, 448, .inl fmb0)), (aw, .inl (cI, 64, .inl fwb0)), (ad, .inl (cI, 8, .inl fdb0)), (hB, .inr (2, [.ref bB, .int (nI 64)])), (bB, .inl (cI, 64, .inl (sm_kb fk 32))), (hI, .inr (2, [.ref bI, .int (nI 32)])), (bI, .inl (cI, 32, .inl fIb0))]) (wr := [(qi, .inr (2, [.ref bi, .int (nI ni)])), (bi, .inl (cI, 300, .inl fi))]) (As := []) (rest := []) ⟨hx, hb, hml, hown, hts⟩ (sc_X3_renewValue l D cI tk tf _ qs qi bi qo bo qd bd qk bk qv bv qf bf qa ba gh gm gb gw gd hk hh hm bm aw ad hB bB hI bI cnt ivl drw (sm_tn fk fv 0 fi ni) fv ff uf fmb0 umb0 fwb0 fdb0 (sm_kb fk 32) (nI 64) fIb0 (nI 32) ) (cwV 0 hts gX3_stir_X3_renewValue rfl rfl rfl (by decide +kernel) ⟨Nat.le_of_ble_eq_true rfl, Nat.le_of_ble_eq_true rfl⟩) hP hD hS hA hK hT [0, 3, 4, 5, 6, 7, 8, 9, 10, 11, 12, 13, 14, 15, 16, 17, 18] [1, 2] rfl rfl rfl rfl (by decide) 0 3 rfl rfl rfl rfl hl.1 rfl (Nat.le_of_ble_eq_true rfl) dX3_stir_76 ⟨Nat.zero_le _, Nat.zero_le _⟩ (fun zt H1 locs ht hvm hB hJ hS => ?_)
      obtain ⟨fmc0, umc0, fwc0, fdc0, fBc0, uBc0, fIc0, uIc0, hP1, -, hD1⟩ := hB
      rw [ht] at hP1
      obtain ⟨hP, hD⟩ := hJ _ hP1 hD1
      clear hJ
      generalize H1 = H at hP hS ⊢
      have hP : va_P D vwCl [(qs, .inr (3, [.ref qi, .ref qo, .ref qd, .ref qk, .ref qv, .ref qf, .ref qa, .ref gh, .ref hk, .int cnt, .int ivl, .int drw])), (qi, .inr (2, [.ref bi, .int (nI ni)])), (bi, .inl (cI, 300, .inl fi)), (qk, .inr (2, [.ref bk, .int (nI 32)])), (bk, .inl (cI, 32, .inl (sm_tn fk fv 0 fi ni))), (qv, .inr (2, [.ref bv, .int (nI 32)])), (bv, .inl (cI, 32, .inl (sm_nv (sm_tn fk fv 0 fi ni) fv))), (qf, .inr (2, [.ref bf, .int (nI 32)])), (bf, .inl (cI, 32, .inl fv)), (hk, .inr (1, [.ref hh, .ref hB, .ref hI])), (hh, .inr (0, [.ref hm, .ref aw, .ref ad])), (hm, .inr (2, [.ref bm, .int umc0])), (bm, .inl (cI, 448, .inl fmc0)), (aw, .inl (cI, 64, .inl fwc0)), (ad, .inl (cI, 8, .inl fdc0)), (hB, .inr (2, [.ref bB, .int uBc0])), (bB, .inl (cI, 64, .inl fBc0)), (hI, .inr (2, [.ref bI, .int uIc0])), (bI, .inl (cI, 32, .inl fIc0))] H := hP.sub [2, 0, 1, 3, 4, 5, 6, 7, 8, 9, 10, 11, 12, 13, 14, 15, 16, 17, 18] rfl
      have hD : va_D A [(qs, .inr (3, [.ref qi, .ref qo, .ref qd, .ref qk, .ref qv, .ref qf, .ref qa, .ref gh, .ref hk, .int cnt, .int ivl, .int drw])), (qi, .inr (2, [.ref bi, .int (nI ni)])), (bi, .inl (cI, 300, .inl fi)), (qk, .inr (2, [.ref bk, .int (nI 32)])), (bk, .inl (cI, 32, .inl (sm_tn fk fv 0 fi ni))), (qv, .inr (2, [.ref bv, .int (nI 32)])), (bv, .inl (cI, 32, .inl (sm_nv (sm_tn fk fv 0 fi ni) fv))), (qf, .inr (2, [.ref bf, .int (nI 32)])), (bf, .inl (cI, 32, .inl fv)), (hk, .inr (1, [.ref hh, .ref hB, .ref hI])), (hh, .inr (0, [.ref hm, .ref aw, .ref ad])), (hm, .inr (2, [.ref bm, .int umc0])), (bm, .inl (cI, 448, .inl fmc0)), (aw, .inl (cI, 64, .inl fwc0)), (ad, .inl (cI, 8, .inl fdc0)), (hB, .inr (2, [.ref bB, .int uBc0])), (bB, .inl (cI, 64, .inl fBc0)), (hI, .inr (2, [.ref bI, .int uIc0])), (bI, .inl (cI, 32, .inl fIc0))] := hD.sub [2, 0, 1, 3, 4, 5, 6, 7, 8, 9, 10, 11, 12, 13, 14, 15, 16, 17, 18] rfl rfl
      refine lv_iinc (v := 1) (lv' := [(2, .int 1), (1, .int 1), (0, .ref qs)]) hx hb dX3_stir_79 hl (k := 0) rfl (by decide) (by decide) rfl (fun ls hl => ?_)
      refine lv_goto (tgt := 18) hx hb dX3_stir_82 (by decide) ?_
      refine lv_iload_n hx hb dX3_stir_18 rfl (lv_at hl 0 rfl) ?_
      refine lv_iload_n hx hb dX3_stir_19 rfl (lv_at hl 1 rfl) ?_
      refine lv_icmp_ge (tgt := 85) hx hb dX3_stir_20 (by decide) (fun c_20 => ?_) (fun c_20 => ?_)
      ·
        rw [hQ]
        have es : sm_stir (fk, fv) fi ni = (sm_tn fk fv 0 fi ni, sm_nv (sm_tn fk fv 0 fi ni) fv) := if_pos hz
        have hP9 : va_P D vwCl [(qs, .inr (3, [.ref qi, .ref qo, .ref qd, .ref qk, .ref qv, .ref qf, .ref qa, .ref gh, .ref hk, .int cnt, .int ivl, .int drw])), (qi, .inr (2, [.ref bi, .int (nI ni)])), (bi, .inl (cI, 300, .inl fi)), (qk, .inr (2, [.ref bk, .int (nI 32)])), (bk, .inl (cI, 32, .inl ((sm_stir (fk, fv) fi ni).1))), (qv, .inr (2, [.ref bv, .int (nI 32)])), (bv, .inl (cI, 32, .inl ((sm_stir (fk, fv) fi ni).2))), (qf, .inr (2, [.ref bf, .int (nI 32)])), (bf, .inl (cI, 32, .inl fv)), (hk, .inr (1, [.ref hh, .ref hB, .ref hI])), (hh, .inr (0, [.ref hm, .ref aw, .ref ad])), (hm, .inr (2, [.ref bm, .int umc0])), (bm, .inl (cI, 448, .inl fmc0)), (aw, .inl (cI, 64, .inl fwc0)), (ad, .inl (cI, 8, .inl fdc0)), (hB, .inr (2, [.ref bB, .int uBc0])), (bB, .inl (cI, 64, .inl fBc0)), (hI, .inr (2, [.ref bI, .int uIc0])), (bI, .inl (cI, 32, .inl fIc0))] H := by rw [es]; exact hP
        have hD9 : va_D A [(qs, .inr (3, [.ref qi, .ref qo, .ref qd, .ref qk, .ref qv, .ref qf, .ref qa, .ref gh, .ref hk, .int cnt, .int ivl, .int drw])), (qi, .inr (2, [.ref bi, .int (nI ni)])), (bi, .inl (cI, 300, .inl fi)), (qk, .inr (2, [.ref bk, .int (nI 32)])), (bk, .inl (cI, 32, .inl ((sm_stir (fk, fv) fi ni).1))), (qv, .inr (2, [.ref bv, .int (nI 32)])), (bv, .inl (cI, 32, .inl ((sm_stir (fk, fv) fi ni).2))), (qf, .inr (2, [.ref bf, .int (nI 32)])), (bf, .inl (cI, 32, .inl fv)), (hk, .inr (1, [.ref hh, .ref hB, .ref hI])), (hh, .inr (0, [.ref hm, .ref aw, .ref ad])), (hm, .inr (2, [.ref bm, .int umc0])), (bm, .inl (cI, 448, .inl fmc0)), (aw, .inl (cI, 64, .inl fwc0)), (ad, .inl (cI, 8, .inl fdc0)), (hB, .inr (2, [.ref bB, .int uBc0])), (bB, .inl (cI, 64, .inl fBc0)), (hI, .inr (2, [.ref bI, .int uIc0])), (bI, .inl (cI, 32, .inl fIc0))] := by rw [es]; exact hD
        exact W.vret hx hb hr (fun t ht hW => ⟨⟨(), rfl, trivial, ⟨_, _, _, _, _, _, _, _, _, by rw [es], by rw [ht]; exact hP9, va_K.moved hW.alike hK, hD9⟩⟩, hS.F ht⟩) hS.2.2 dX3_stir_85
      ·
        exact absurd (show (1 : Int32) ≤ 1 by decide) c_20
end
