section
-- ===== PART A: goes FIRST, ahead of the names: the tables' words, and 'selects' of the private methods out of them =====
/-- a private method of a class that the tables say can be made, by its rows of tables_1 -/
def lw_okq (q : MethodName × Nat) : Prop := (q.1.cls ≠ "java/lang/invoke/MethodHandle" ∧ q.1.cls ≠ "java/lang/invoke/VarHandle") ∧ Cond.instantiable q.1.cls q.2 ∈ tables_1 ∧ Cond.privateMethod q.1 ∈ tables_1 ∧ Cond.instanceMethod q.1 ∈ tables_1
theorem lw_p0 : lw_okq (⟨"TempoMaps$Marks", "placeOf", "(I)I"⟩, 6) := ⟨⟨by decide +kernel, by decide +kernel⟩, List.mem_of_getElem? (i := 16) (by decide +kernel), List.mem_of_getElem? (i := 98) (by decide +kernel), List.mem_of_getElem? (i := 99) (by decide +kernel)⟩
theorem lw_p1 : lw_okq (⟨"TempoMaps$Marks", "openRow", "(I)V"⟩, 6) := ⟨⟨by decide +kernel, by decide +kernel⟩, List.mem_of_getElem? (i := 16) (by decide +kernel), List.mem_of_getElem? (i := 110) (by decide +kernel), List.mem_of_getElem? (i := 111) (by decide +kernel)⟩
theorem lw_p2 : lw_okq (⟨"TempoMaps$Marks", "copyRow", "(II)V"⟩, 6) := ⟨⟨by decide +kernel, by decide +kernel⟩, List.mem_of_getElem? (i := 16) (by decide +kernel), List.mem_of_getElem? (i := 114) (by decide +kernel), List.mem_of_getElem? (i := 115) (by decide +kernel)⟩
theorem lw_p3 : lw_okq (⟨"TempoMaps$Marks", "renewUnitsBefore", "(I)V"⟩, 6) := ⟨⟨by decide +kernel, by decide +kernel⟩, List.mem_of_getElem? (i := 16) (by decide +kernel), List.mem_of_getElem? (i := 118) (by decide +kernel), List.mem_of_getElem? (i := 119) (by decide +kernel)⟩
theorem lw_p4 : lw_okq (⟨"TempoMaps$Marks", "unitsAheadBy", "(II)J"⟩, 6) := ⟨⟨by decide +kernel, by decide +kernel⟩, List.mem_of_getElem? (i := 16) (by decide +kernel), List.mem_of_getElem? (i := 122) (by decide +kernel), List.mem_of_getElem? (i := 123) (by decide +kernel)⟩
theorem lw_p5 : lw_okq (⟨"TempoMaps$Holds", "placeOf", "(I)I"⟩, 3) := ⟨⟨by decide +kernel, by decide +kernel⟩, List.mem_of_getElem? (i := 44) (by decide +kernel), List.mem_of_getElem? (i := 177) (by decide +kernel), List.mem_of_getElem? (i := 178) (by decide +kernel)⟩
theorem lw_p6 : lw_okq (⟨"TempoMaps", "beginOf", "(I)J"⟩, 3) := ⟨⟨by decide +kernel, by decide +kernel⟩, List.mem_of_getElem? (i := 8) (by decide +kernel), List.mem_of_getElem? (i := 206) (by decide +kernel), List.mem_of_getElem? (i := 207) (by decide +kernel)⟩
theorem lw_p7 : lw_okq (⟨"TempoMaps", "lastBegun", "(J)I"⟩, 3) := ⟨⟨by decide +kernel, by decide +kernel⟩, List.mem_of_getElem? (i := 8) (by decide +kernel), List.mem_of_getElem? (i := 222) (by decide +kernel), List.mem_of_getElem? (i := 223) (by decide +kernel)⟩
theorem lw_p8 : lw_okq (⟨"TempoMaps", "firstBeginningFrom", "(J)I"⟩, 3) := ⟨⟨by decide +kernel, by decide +kernel⟩, List.mem_of_getElem? (i := 8) (by decide +kernel), List.mem_of_getElem? (i := 226) (by decide +kernel), List.mem_of_getElem? (i := 227) (by decide +kernel)⟩
theorem lw_p9 : lw_okq (⟨"TempoMaps", "framesAt", "(II)J"⟩, 3) := ⟨⟨by decide +kernel, by decide +kernel⟩, List.mem_of_getElem? (i := 8) (by decide +kernel), List.mem_of_getElem? (i := 240) (by decide +kernel), List.mem_of_getElem? (i := 241) (by decide +kernel)⟩
theorem lw_p10 : lw_okq (⟨"TempoMapsModel", "put", "(IIII)I"⟩, 11) := ⟨⟨by decide +kernel, by decide +kernel⟩, List.mem_of_getElem? (i := 290) (by decide +kernel), List.mem_of_getElem? (i := 339) (by decide +kernel), List.mem_of_getElem? (i := 340) (by decide +kernel)⟩
theorem lw_p11 : lw_okq (⟨"TempoMapsModel", "markAt", "(I)I"⟩, 11) := ⟨⟨by decide +kernel, by decide +kernel⟩, List.mem_of_getElem? (i := 290) (by decide +kernel), List.mem_of_getElem? (i := 343) (by decide +kernel), List.mem_of_getElem? (i := 344) (by decide +kernel)⟩
theorem lw_p12 : lw_okq (⟨"TempoMapsModel", "isWithin", "(II)Z"⟩, 11) := ⟨⟨by decide +kernel, by decide +kernel⟩, List.mem_of_getElem? (i := 290) (by decide +kernel), List.mem_of_getElem? (i := 347) (by decide +kernel), List.mem_of_getElem? (i := 348) (by decide +kernel)⟩
theorem lw_p13 : lw_okq (⟨"TempoMapsModel", "holdsOther", "(II)Z"⟩, 11) := ⟨⟨by decide +kernel, by decide +kernel⟩, List.mem_of_getElem? (i := 290) (by decide +kernel), List.mem_of_getElem? (i := 351) (by decide +kernel), List.mem_of_getElem? (i := 352) (by decide +kernel)⟩
theorem lw_p14 : lw_okq (⟨"TempoMapsModel", "paceAt", "(I)I"⟩, 11) := ⟨⟨by decide +kernel, by decide +kernel⟩, List.mem_of_getElem? (i := 290) (by decide +kernel), List.mem_of_getElem? (i := 370) (by decide +kernel), List.mem_of_getElem? (i := 371) (by decide +kernel)⟩
theorem lw_p15 : lw_okq (⟨"TempoMapsModel", "markOf", "(I)I"⟩, 11) := ⟨⟨by decide +kernel, by decide +kernel⟩, List.mem_of_getElem? (i := 290) (by decide +kernel), List.mem_of_getElem? (i := 374) (by decide +kernel), List.mem_of_getElem? (i := 375) (by decide +kernel)⟩
def lw_privs_1 : List (MethodName × Nat) := [(⟨"TempoMaps$Marks", "placeOf", "(I)I"⟩, 6), (⟨"TempoMaps$Marks", "openRow", "(I)V"⟩, 6), (⟨"TempoMaps$Marks", "copyRow", "(II)V"⟩, 6), (⟨"TempoMaps$Marks", "renewUnitsBefore", "(I)V"⟩, 6), (⟨"TempoMaps$Marks", "unitsAheadBy", "(II)J"⟩, 6), (⟨"TempoMaps$Holds", "placeOf", "(I)I"⟩, 3), (⟨"TempoMaps", "beginOf", "(I)J"⟩, 3), (⟨"TempoMaps", "lastBegun", "(J)I"⟩, 3), (⟨"TempoMaps", "firstBeginningFrom", "(J)I"⟩, 3), (⟨"TempoMaps", "framesAt", "(II)J"⟩, 3), (⟨"TempoMapsModel", "put", "(IIII)I"⟩, 11), (⟨"TempoMapsModel", "markAt", "(I)I"⟩, 11), (⟨"TempoMapsModel", "isWithin", "(II)Z"⟩, 11), (⟨"TempoMapsModel", "holdsOther", "(II)Z"⟩, 11), (⟨"TempoMapsModel", "paceAt", "(I)I"⟩, 11), (⟨"TempoMapsModel", "markOf", "(I)I"⟩, 11)]
theorem lw_r1 : ∀ q ∈ lw_privs_1, lw_okq q := List.forall_mem_cons.mpr ⟨lw_p0, List.forall_mem_cons.mpr ⟨lw_p1, List.forall_mem_cons.mpr ⟨lw_p2, List.forall_mem_cons.mpr ⟨lw_p3, List.forall_mem_cons.mpr ⟨lw_p4, List.forall_mem_cons.mpr ⟨lw_p5, List.forall_mem_cons.mpr ⟨lw_p6, List.forall_mem_cons.mpr ⟨lw_p7, List.forall_mem_cons.mpr ⟨lw_p8, List.forall_mem_cons.mpr ⟨lw_p9, List.forall_mem_cons.mpr ⟨lw_p10, List.forall_mem_cons.mpr ⟨lw_p11, List.forall_mem_cons.mpr ⟨lw_p12, List.forall_mem_cons.mpr ⟨lw_p13, List.forall_mem_cons.mpr ⟨lw_p14, List.forall_mem_cons.mpr ⟨lw_p15, fun _ h => absurd h List.not_mem_nil⟩⟩⟩⟩⟩⟩⟩⟩⟩⟩⟩⟩⟩⟩⟩⟩
theorem lw_p16 : lw_okq (⟨"TempoMapsModel", "holdAt", "(I)I"⟩, 11) := ⟨⟨by decide +kernel, by decide +kernel⟩, List.mem_of_getElem? (i := 290) (by decide +kernel), List.mem_of_getElem? (i := 387) (by decide +kernel), List.mem_of_getElem? (i := 388) (by decide +kernel)⟩
theorem lw_p17 : lw_okq (⟨"TempoMapsModel", "alikeTo", "(II)I"⟩, 11) := ⟨⟨by decide +kernel, by decide +kernel⟩, List.mem_of_getElem? (i := 290) (by decide +kernel), List.mem_of_getElem? (i := 406) (by decide +kernel), List.mem_of_getElem? (i := 407) (by decide +kernel)⟩
theorem lw_p18 : lw_okq (⟨"TempoMapsModel", "lastBegun", "(J)I"⟩, 11) := ⟨⟨by decide +kernel, by decide +kernel⟩, List.mem_of_getElem? (i := 290) (by decide +kernel), List.mem_of_getElem? (i := 414) (by decide +kernel), List.mem_of_getElem? (i := 415) (by decide +kernel)⟩
theorem lw_p19 : lw_okq (⟨"TempoMapsModel", "heldAt", "(I)I"⟩, 11) := ⟨⟨by decide +kernel, by decide +kernel⟩, List.mem_of_getElem? (i := 290) (by decide +kernel), List.mem_of_getElem? (i := 418) (by decide +kernel), List.mem_of_getElem? (i := 419) (by decide +kernel)⟩
theorem lw_p20 : lw_okq (⟨"TempoMapsModel", "above", "()J"⟩, 11) := ⟨⟨by decide +kernel, by decide +kernel⟩, List.mem_of_getElem? (i := 290) (by decide +kernel), List.mem_of_getElem? (i := 451) (by decide +kernel), List.mem_of_getElem? (i := 452) (by decide +kernel)⟩
theorem lw_p21 : lw_okq (⟨"TempoMapsModel", "below", "()J"⟩, 11) := ⟨⟨by decide +kernel, by decide +kernel⟩, List.mem_of_getElem? (i := 290) (by decide +kernel), List.mem_of_getElem? (i := 457) (by decide +kernel), List.mem_of_getElem? (i := 458) (by decide +kernel)⟩
def lw_privs_2 : List (MethodName × Nat) := [(⟨"TempoMapsModel", "holdAt", "(I)I"⟩, 11), (⟨"TempoMapsModel", "alikeTo", "(II)I"⟩, 11), (⟨"TempoMapsModel", "lastBegun", "(J)I"⟩, 11), (⟨"TempoMapsModel", "heldAt", "(I)I"⟩, 11), (⟨"TempoMapsModel", "above", "()J"⟩, 11), (⟨"TempoMapsModel", "below", "()J"⟩, 11)]
theorem lw_r2 : ∀ q ∈ lw_privs_2, lw_okq q := List.forall_mem_cons.mpr ⟨lw_p16, List.forall_mem_cons.mpr ⟨lw_p17, List.forall_mem_cons.mpr ⟨lw_p18, List.forall_mem_cons.mpr ⟨lw_p19, List.forall_mem_cons.mpr ⟨lw_p20, List.forall_mem_cons.mpr ⟨lw_p21, fun _ h => absurd h List.not_mem_nil⟩⟩⟩⟩⟩⟩
def lw_privs : List (MethodName × Nat) := lw_privs_1 ++ (lw_privs_2)
def lw_tbl : List Cond := k2_sels lw_privs ++ tables_1
theorem lw_privs_ok : ∀ q ∈ lw_privs, lw_okq q := by
  show ∀ q ∈ lw_privs_1 ++ (lw_privs_2), lw_okq q
  exact List.forall_mem_append.mpr ⟨lw_r1, lw_r2⟩
/-! ===== BEGIN words of one list among another's, by their places ===== -/
theorem goodIn_r {big : List Cond} (ws : List Cond) (ps : List Nat) (hp : ws = ps.filterMap (fun i => big[i]?)) (h : ws.all goodWord = true) : GoodIn big ws := by
  intro w hw
  have h1 := List.all_eq_true.mp h w hw
  rw [hp] at hw
  obtain ⟨i, -, hi⟩ := List.mem_filterMap.mp hw
  have hm : w ∈ big := by first | exact List.mem_of_getElem? hi | exact List.getElem?_mem hi
  exact ⟨hm, good_of_word h1⟩
theorem goodIn_app {big a b : List Cond} (ha : GoodIn big a) (hb : GoodIn big b) : GoodIn big (a ++ b) := fun w h => (List.mem_append.mp h).elim (ha w) (hb w)
theorem goodIn_ca {big a b : List Cond} {c : Cond} (ha : GoodIn big (c :: a)) (hb : GoodIn big b) : GoodIn big (c :: (a ++ b)) := fun w h => (List.mem_cons.mp h).elim (fun e => ha w (List.mem_cons.mpr (Or.inl e))) (fun h => (List.mem_append.mp h).elim (fun h => ha w (List.mem_cons.mpr (Or.inr h))) (hb w))
theorem goodIn_sub {big ws : List Cond} (hm : ∀ w ∈ ws, w ∈ big) (h : ws.all goodWord = true) : GoodIn big ws := fun w hw => ⟨hm w hw, good_of_word (List.all_eq_true.mp h w hw)⟩
/-! ===== END ===== -/

/-! ===== BEGIN printed: names, fields, word lists, decode rows ===== -/
def RX0 : String := "TempoMaps$Holds"
def TX0 : u_T := fun k => match k with
  | 0 => ("TempoMaps$Holds", "ticks", "[I", true)
  | 1 => ("TempoMaps$Holds", "units", "[I", true)
  | _ => ("TempoMaps$Holds", "size", "I", false)
def tyX0 : Nat → FieldType := fun k => match k with
  | 0 => .array .int
  | 1 => .array .int
  | _ => .int
abbrev wsX00 : List Cond := u_ws RX0 TX0 3
theorem nmX0 : ∀ a, a < 3 → ∀ b, b < 3 → a ≠ b → (TX0 a).2.1 ≠ (TX0 b).2.1 := by decide +kernel
theorem tyX0_ok : ∀ k, k < 3 → parseFieldDescriptor (TX0 k).2.2.1 = some (tyX0 k) := by decide +kernel
abbrev cX0_init : ByteArray := prog_2_method_1_code
def yX0_init : MethodName := ⟨RX0, "<init>", "()V"⟩
abbrev cX0_placeOf : ByteArray := prog_2_method_2_code
def yX0_placeOf : MethodName := ⟨RX0, "placeOf", "(I)I"⟩
abbrev cX0_put : ByteArray := prog_2_method_3_code
def yX0_put : MethodName := ⟨RX0, "put", "(II)I"⟩
abbrev cX0_remove : ByteArray := prog_2_method_4_code
def yX0_remove : MethodName := ⟨RX0, "remove", "(I)I"⟩
abbrev cX0_unitsUpTo : ByteArray := prog_2_method_5_code
def yX0_unitsUpTo : MethodName := ⟨RX0, "unitsUpTo", "(I)J"⟩
def RX1 : String := "TempoMaps$Marks"
def TX1 : u_T := fun k => match k with
  | 0 => ("TempoMaps$Marks", "ticks", "[I", true)
  | 1 => ("TempoMaps$Marks", "spans", "[I", true)
  | 2 => ("TempoMaps$Marks", "firstPaces", "[I", true)
  | 3 => ("TempoMaps$Marks", "lastPaces", "[I", true)
  | 4 => ("TempoMaps$Marks", "unitsBefore", "[J", true)
  | _ => ("TempoMaps$Marks", "size", "I", false)
def tyX1 : Nat → FieldType := fun k => match k with
  | 0 => .array .int
  | 1 => .array .int
  | 2 => .array .int
  | 3 => .array .int
  | 4 => .array .long
  | _ => .int
abbrev wsX10 : List Cond := u_ws RX1 TX1 6
theorem nmX1 : ∀ a, a < 6 → ∀ b, b < 6 → a ≠ b → (TX1 a).2.1 ≠ (TX1 b).2.1 := by decide +kernel
theorem tyX1_ok : ∀ k, k < 6 → parseFieldDescriptor (TX1 k).2.2.1 = some (tyX1 k) := by decide +kernel
abbrev cX1_init : ByteArray := prog_3_method_1_code
def yX1_init : MethodName := ⟨RX1, "<init>", "()V"⟩
abbrev cX1_placeOf : ByteArray := prog_3_method_2_code
def yX1_placeOf : MethodName := ⟨RX1, "placeOf", "(I)I"⟩
abbrev cX1_isInsideSlope : ByteArray := prog_3_method_3_code
def yX1_isInsideSlope : MethodName := ⟨RX1, "isInsideSlope", "(I)Z"⟩
abbrev cX1_isAnyBetween : ByteArray := prog_3_method_4_code
def yX1_isAnyBetween : MethodName := ⟨RX1, "isAnyBetween", "(II)Z"⟩
abbrev cX1_tell : ByteArray := prog_3_method_5_code
def yX1_tell : MethodName := ⟨RX1, "tell", "(II)I"⟩
abbrev cX1_putStep : ByteArray := prog_3_method_6_code
def yX1_putStep : MethodName := ⟨RX1, "putStep", "(II)I"⟩
abbrev cX1_put : ByteArray := prog_3_method_7_code
def yX1_put : MethodName := ⟨RX1, "put", "(IIII)I"⟩
abbrev cX1_remove : ByteArray := prog_3_method_8_code
def yX1_remove : MethodName := ⟨RX1, "remove", "(I)I"⟩
abbrev cX1_openRow : ByteArray := prog_3_method_9_code
def yX1_openRow : MethodName := ⟨RX1, "openRow", "(I)V"⟩
abbrev cX1_copyRow : ByteArray := prog_3_method_10_code
def yX1_copyRow : MethodName := ⟨RX1, "copyRow", "(II)V"⟩
abbrev cX1_renewUnitsBefore : ByteArray := prog_3_method_11_code
def yX1_renewUnitsBefore : MethodName := ⟨RX1, "renewUnitsBefore", "(I)V"⟩
abbrev cX1_unitsOfTick : ByteArray := prog_3_method_12_code
def yX1_unitsOfTick : MethodName := ⟨RX1, "unitsOfTick", "(I)I"⟩
abbrev cX1_unitsAhead : ByteArray := prog_3_method_13_code
def yX1_unitsAhead : MethodName := ⟨RX1, "unitsAhead", "(I)J"⟩
abbrev cX1_unitsAheadBy : ByteArray := prog_3_method_14_code
def yX1_unitsAheadBy : MethodName := ⟨RX1, "unitsAheadBy", "(II)J"⟩
def RX2 : String := "TempoMaps$Taps"
def TX2 : u_T := fun k => match k with
  | 0 => ("TempoMaps$Taps", "times", "[J", true)
  | _ => ("TempoMaps$Taps", "size", "I", false)
def tyX2 : Nat → FieldType := fun k => match k with
  | 0 => .array .long
  | _ => .int
abbrev wsX20 : List Cond := u_ws RX2 TX2 2
theorem nmX2 : ∀ a, a < 2 → ∀ b, b < 2 → a ≠ b → (TX2 a).2.1 ≠ (TX2 b).2.1 := by decide +kernel
theorem tyX2_ok : ∀ k, k < 2 → parseFieldDescriptor (TX2 k).2.2.1 = some (tyX2 k) := by decide +kernel
abbrev cX2_init : ByteArray := prog_4_method_1_code
def yX2_init : MethodName := ⟨RX2, "<init>", "()V"⟩
abbrev cX2_add : ByteArray := prog_4_method_2_code
def yX2_add : MethodName := ⟨RX2, "add", "(J)I"⟩
abbrev cX2_removeAll : ByteArray := prog_4_method_3_code
def yX2_removeAll : MethodName := ⟨RX2, "removeAll", "()I"⟩
abbrev cX2_above : ByteArray := prog_4_method_4_code
def yX2_above : MethodName := ⟨RX2, "above", "()J"⟩
abbrev cX2_below : ByteArray := prog_4_method_5_code
def yX2_below : MethodName := ⟨RX2, "below", "()J"⟩
def RX3 : String := "TempoMaps"
def TX3 : u_T := fun k => match k with
  | 0 => ("TempoMaps", "marks", "LTempoMaps$Marks;", true)
  | 1 => ("TempoMaps", "holds", "LTempoMaps$Holds;", true)
  | _ => ("TempoMaps", "taps", "LTempoMaps$Taps;", true)
def tyX3 : Nat → FieldType := fun k => match k with
  | 0 => .object "TempoMaps$Marks"
  | 1 => .object "TempoMaps$Holds"
  | _ => .object "TempoMaps$Taps"
abbrev wsX30 : List Cond := u_ws RX3 TX3 3
theorem nmX3 : ∀ a, a < 3 → ∀ b, b < 3 → a ≠ b → (TX3 a).2.1 ≠ (TX3 b).2.1 := by decide +kernel
theorem tyX3_ok : ∀ k, k < 3 → parseFieldDescriptor (TX3 k).2.2.1 = some (tyX3 k) := by decide +kernel
abbrev cX3_init : ByteArray := prog_1_method_1_code
def yX3_init : MethodName := ⟨RX3, "<init>", "()V"⟩
abbrev cX3_step : ByteArray := prog_1_method_2_code
def yX3_step : MethodName := ⟨RX3, "step", "(II)I"⟩
abbrev cX3_slope : ByteArray := prog_1_method_3_code
def yX3_slope : MethodName := ⟨RX3, "slope", "(IIII)I"⟩
abbrev cX3_modulate : ByteArray := prog_1_method_4_code
def yX3_modulate : MethodName := ⟨RX3, "modulate", "(III)I"⟩
abbrev cX3_drop : ByteArray := prog_1_method_5_code
def yX3_drop : MethodName := ⟨RX3, "drop", "(I)I"⟩
abbrev cX3_hold : ByteArray := prog_1_method_6_code
def yX3_hold : MethodName := ⟨RX3, "hold", "(II)I"⟩
abbrev cX3_mark : ByteArray := prog_1_method_7_code
def yX3_mark : MethodName := ⟨RX3, "mark", "(II)I"⟩
abbrev cX3_count : ByteArray := prog_1_method_8_code
def yX3_count : MethodName := ⟨RX3, "count", "(I)I"⟩
abbrev cX3_lasts : ByteArray := prog_1_method_9_code
def yX3_lasts : MethodName := ⟨RX3, "lasts", "(I)I"⟩
abbrev cX3_time : ByteArray := prog_1_method_10_code
def yX3_time : MethodName := ⟨RX3, "time", "(I)J"⟩
abbrev cX3_tick : ByteArray := prog_1_method_11_code
def yX3_tick : MethodName := ⟨RX3, "tick", "(J)I"⟩
abbrev cX3_held : ByteArray := prog_1_method_12_code
def yX3_held : MethodName := ⟨RX3, "held", "(J)I"⟩
abbrev cX3_frame : ByteArray := prog_1_method_13_code
def yX3_frame : MethodName := ⟨RX3, "frame", "(II)J"⟩
abbrev cX3_tickOf : ByteArray := prog_1_method_14_code
def yX3_tickOf : MethodName := ⟨RX3, "tickOf", "(JI)I"⟩
abbrev cX3_tap : ByteArray := prog_1_method_15_code
def yX3_tap : MethodName := ⟨RX3, "tap", "(J)I"⟩
abbrev cX3_noTaps : ByteArray := prog_1_method_16_code
def yX3_noTaps : MethodName := ⟨RX3, "noTaps", "()I"⟩
abbrev cX3_fit : ByteArray := prog_1_method_17_code
def yX3_fit : MethodName := ⟨RX3, "fit", "(I)J"⟩
abbrev cX3_pace : ByteArray := prog_1_method_18_code
def yX3_pace : MethodName := ⟨RX3, "pace", "(I)J"⟩
abbrev cX3_isWithin : ByteArray := prog_1_method_19_code
def yX3_isWithin : MethodName := ⟨RX3, "isWithin", "(III)Z"⟩
abbrev cX3_beginOf : ByteArray := prog_1_method_20_code
def yX3_beginOf : MethodName := ⟨RX3, "beginOf", "(I)J"⟩
abbrev cX3_framesAt : ByteArray := prog_1_method_21_code
def yX3_framesAt : MethodName := ⟨RX3, "framesAt", "(II)J"⟩
abbrev cX3_lastBegun : ByteArray := prog_1_method_22_code
def yX3_lastBegun : MethodName := ⟨RX3, "lastBegun", "(J)I"⟩
abbrev cX3_firstBeginningFrom : ByteArray := prog_1_method_23_code
def yX3_firstBeginningFrom : MethodName := ⟨RX3, "firstBeginningFrom", "(J)I"⟩
abbrev cX3_commonDivisor : ByteArray := prog_1_method_24_code
def yX3_commonDivisor : MethodName := ⟨RX3, "commonDivisor", "(JJ)J"⟩
abbrev cX3_sumOfQuotients : ByteArray := prog_1_method_25_code
def yX3_sumOfQuotients : MethodName := ⟨RX3, "sumOfQuotients", "(III)J"⟩
def RX4 : String := "TempoMapsModel"
def TX4 : u_T := fun k => match k with
  | 0 => ("TempoMapsModel", "markTick", "[I", true)
  | 1 => ("TempoMapsModel", "markLong", "[I", true)
  | 2 => ("TempoMapsModel", "markFrom", "[I", true)
  | 3 => ("TempoMapsModel", "markTo", "[I", true)
  | 4 => ("TempoMapsModel", "marks", "I", false)
  | 5 => ("TempoMapsModel", "holdTick", "[I", true)
  | 6 => ("TempoMapsModel", "holdUnits", "[I", true)
  | 7 => ("TempoMapsModel", "holds", "I", false)
  | 8 => ("TempoMapsModel", "taps", "[J", true)
  | 9 => ("TempoMapsModel", "tapMany", "I", false)
  | _ => ("TempoMapsModel", "begunAt", "J", false)
def tyX4 : Nat → FieldType := fun k => match k with
  | 0 => .array .int
  | 1 => .array .int
  | 2 => .array .int
  | 3 => .array .int
  | 4 => .int
  | 5 => .array .int
  | 6 => .array .int
  | 7 => .int
  | 8 => .array .long
  | 9 => .int
  | _ => .long
abbrev wsX40 : List Cond := u_ws RX4 TX4 11
theorem nmX4 : ∀ a, a < 11 → ∀ b, b < 11 → a ≠ b → (TX4 a).2.1 ≠ (TX4 b).2.1 := by decide +kernel
theorem tyX4_ok : ∀ k, k < 11 → parseFieldDescriptor (TX4 k).2.2.1 = some (tyX4 k) := by decide +kernel
abbrev cX4_init : ByteArray := prog_6_method_1_code
def yX4_init : MethodName := ⟨RX4, "<init>", "()V"⟩
abbrev cX4_in : ByteArray := prog_6_method_3_code
def yX4_in : MethodName := ⟨RX4, "in", "(JJJ)Z"⟩
abbrev cX4_markAt : ByteArray := prog_6_method_4_code
def yX4_markAt : MethodName := ⟨RX4, "markAt", "(I)I"⟩
abbrev cX4_isWithin : ByteArray := prog_6_method_5_code
def yX4_isWithin : MethodName := ⟨RX4, "isWithin", "(II)Z"⟩
abbrev cX4_holdsOther : ByteArray := prog_6_method_6_code
def yX4_holdsOther : MethodName := ⟨RX4, "holdsOther", "(II)Z"⟩
abbrev cX4_put : ByteArray := prog_6_method_7_code
def yX4_put : MethodName := ⟨RX4, "put", "(IIII)I"⟩
abbrev cX4_step : ByteArray := prog_6_method_8_code
def yX4_step : MethodName := ⟨RX4, "step", "(II)I"⟩
abbrev cX4_slope : ByteArray := prog_6_method_9_code
def yX4_slope : MethodName := ⟨RX4, "slope", "(IIII)I"⟩
abbrev cX4_modulate : ByteArray := prog_6_method_10_code
def yX4_modulate : MethodName := ⟨RX4, "modulate", "(III)I"⟩
abbrev cX4_drop : ByteArray := prog_6_method_11_code
def yX4_drop : MethodName := ⟨RX4, "drop", "(I)I"⟩
abbrev cX4_holdAt : ByteArray := prog_6_method_12_code
def yX4_holdAt : MethodName := ⟨RX4, "holdAt", "(I)I"⟩
abbrev cX4_hold : ByteArray := prog_6_method_13_code
def yX4_hold : MethodName := ⟨RX4, "hold", "(II)I"⟩
abbrev cX4_mark : ByteArray := prog_6_method_14_code
def yX4_mark : MethodName := ⟨RX4, "mark", "(II)I"⟩
abbrev cX4_count : ByteArray := prog_6_method_15_code
def yX4_count : MethodName := ⟨RX4, "count", "(I)I"⟩
abbrev cX4_markOf : ByteArray := prog_6_method_16_code
def yX4_markOf : MethodName := ⟨RX4, "markOf", "(I)I"⟩
abbrev cX4_paceAt : ByteArray := prog_6_method_17_code
def yX4_paceAt : MethodName := ⟨RX4, "paceAt", "(I)I"⟩
abbrev cX4_lasts : ByteArray := prog_6_method_18_code
def yX4_lasts : MethodName := ⟨RX4, "lasts", "(I)I"⟩
abbrev cX4_alikeTo : ByteArray := prog_6_method_19_code
def yX4_alikeTo : MethodName := ⟨RX4, "alikeTo", "(II)I"⟩
abbrev cX4_heldAt : ByteArray := prog_6_method_20_code
def yX4_heldAt : MethodName := ⟨RX4, "heldAt", "(I)I"⟩
abbrev cX4_time : ByteArray := prog_6_method_21_code
def yX4_time : MethodName := ⟨RX4, "time", "(I)J"⟩
abbrev cX4_lastBegun : ByteArray := prog_6_method_22_code
def yX4_lastBegun : MethodName := ⟨RX4, "lastBegun", "(J)I"⟩
abbrev cX4_tick : ByteArray := prog_6_method_23_code
def yX4_tick : MethodName := ⟨RX4, "tick", "(J)I"⟩
abbrev cX4_held : ByteArray := prog_6_method_24_code
def yX4_held : MethodName := ⟨RX4, "held", "(J)I"⟩
abbrev cX4_frame : ByteArray := prog_6_method_25_code
def yX4_frame : MethodName := ⟨RX4, "frame", "(II)J"⟩
abbrev cX4_tickOf : ByteArray := prog_6_method_26_code
def yX4_tickOf : MethodName := ⟨RX4, "tickOf", "(JI)I"⟩
abbrev cX4_tap : ByteArray := prog_6_method_27_code
def yX4_tap : MethodName := ⟨RX4, "tap", "(J)I"⟩
abbrev cX4_noTaps : ByteArray := prog_6_method_28_code
def yX4_noTaps : MethodName := ⟨RX4, "noTaps", "()I"⟩
abbrev cX4_above : ByteArray := prog_6_method_29_code
def yX4_above : MethodName := ⟨RX4, "above", "()J"⟩
abbrev cX4_below : ByteArray := prog_6_method_30_code
def yX4_below : MethodName := ⟨RX4, "below", "()J"⟩
abbrev cX4_common : ByteArray := prog_6_method_31_code
def yX4_common : MethodName := ⟨RX4, "common", "(JJ)J"⟩
abbrev cX4_fit : ByteArray := prog_6_method_32_code
def yX4_fit : MethodName := ⟨RX4, "fit", "(I)J"⟩
abbrev cX4_pace : ByteArray := prog_6_method_33_code
def yX4_pace : MethodName := ⟨RX4, "pace", "(I)J"⟩
def RJ9 : String := "java/lang/Math"
def TJ9 : u_T := fun k => match k with
  | _ => ("", "", "", false)
def tyJ9 : Nat → FieldType := fun k => match k with
  | _ => .int
abbrev wsJ90 : List Cond := u_ws RJ9 TJ9 0
theorem nmJ9 : ∀ a, a < 0 → ∀ b, b < 0 → a ≠ b → (TJ9 a).2.1 ≠ (TJ9 b).2.1 := by decide +kernel
theorem tyJ9_ok : ∀ k, k < 0 → parseFieldDescriptor (TJ9 k).2.2.1 = some (tyJ9 k) := by decide +kernel
abbrev cJ9_floorDiv_7cf53 : ByteArray := prog_7_method_47_code
def yJ9_floorDiv_7cf53 : MethodName := ⟨RJ9, "floorDiv", "(II)I"⟩
abbrev cJ9_floorDiv_f86c9 : ByteArray := prog_7_method_49_code
def yJ9_floorDiv_f86c9 : MethodName := ⟨RJ9, "floorDiv", "(JJ)J"⟩
abbrev cJ9_floorMod_f86c9 : ByteArray := prog_7_method_52_code
def yJ9_floorMod_f86c9 : MethodName := ⟨RJ9, "floorMod", "(JJ)J"⟩
abbrev cJ9_max_f86c9 : ByteArray := prog_7_method_66_code
def yJ9_max_f86c9 : MethodName := ⟨RJ9, "max", "(JJ)J"⟩
abbrev cJ9_min_7cf53 : ByteArray := prog_7_method_69_code
def yJ9_min_7cf53 : MethodName := ⟨RJ9, "min", "(II)I"⟩
def RL : String := "TempoMapsLaw"
abbrev cL_law : ByteArray := code
def yL_law : MethodName := ⟨RL, "law", "([I)Z"⟩
def wsX0_init : List Cond := .code yX0_init cX0_init 1 none :: ([.methodLink RX0 3 objectInit, .instanceMethod objectInit, .code objectInit ⟨#[0xb1]⟩ 1 none, .arrayClass .int, .fieldLink RX0 9 "TempoMaps$Holds" "ticks" "[I", .fieldLink RX0 15 "TempoMaps$Holds" "units" "[I"] ++ wsX00)
def wsX0_placeOf : List Cond := .code yX0_placeOf cX0_placeOf 3 (some .int) :: ([.fieldLink RX0 18 "TempoMaps$Holds" "size" "I", .fieldLink RX0 9 "TempoMaps$Holds" "ticks" "[I"] ++ wsX00)
def wsX0_put : List Cond := .code yX0_put cX0_put 4 (some .int) :: ([.fieldLink RX0 18 "TempoMaps$Holds" "size" "I", .fieldLink RX0 9 "TempoMaps$Holds" "ticks" "[I", .fieldLink RX0 15 "TempoMaps$Holds" "units" "[I", .methodLink RX0 22 yX0_placeOf, .instanceMethod yX0_placeOf, .selects RX0 yX0_placeOf yX0_placeOf, .initialized RX0, .code yX0_placeOf cX0_placeOf 3 (some .int)] ++ wsX00)
def wsX0_remove : List Cond := .code yX0_remove cX0_remove 3 (some .int) :: ([.fieldLink RX0 18 "TempoMaps$Holds" "size" "I", .fieldLink RX0 9 "TempoMaps$Holds" "ticks" "[I", .fieldLink RX0 15 "TempoMaps$Holds" "units" "[I", .methodLink RX0 22 yX0_placeOf, .instanceMethod yX0_placeOf, .selects RX0 yX0_placeOf yX0_placeOf, .initialized RX0, .code yX0_placeOf cX0_placeOf 3 (some .int)] ++ wsX00)
def wsX0_unitsUpTo : List Cond := .code yX0_unitsUpTo cX0_unitsUpTo 5 (some .long) :: ([.fieldLink RX0 18 "TempoMaps$Holds" "size" "I", .fieldLink RX0 9 "TempoMaps$Holds" "ticks" "[I", .fieldLink RX0 15 "TempoMaps$Holds" "units" "[I"] ++ wsX00)
def wsX1_init : List Cond := .code yX1_init cX1_init 1 none :: ([.methodLink RX1 3 objectInit, .instanceMethod objectInit, .code objectInit ⟨#[0xb1]⟩ 1 none, .arrayClass .int, .fieldLink RX1 9 "TempoMaps$Marks" "ticks" "[I", .fieldLink RX1 15 "TempoMaps$Marks" "spans" "[I", .fieldLink RX1 18 "TempoMaps$Marks" "firstPaces" "[I", .fieldLink RX1 21 "TempoMaps$Marks" "lastPaces" "[I", .arrayClass .long, .fieldLink RX1 24 "TempoMaps$Marks" "unitsBefore" "[J"] ++ wsX10)
def wsX1_placeOf : List Cond := .code yX1_placeOf cX1_placeOf 3 (some .int) :: ([.fieldLink RX1 28 "TempoMaps$Marks" "size" "I", .fieldLink RX1 9 "TempoMaps$Marks" "ticks" "[I"] ++ wsX10)
def wsX1_isInsideSlope : List Cond := .code yX1_isInsideSlope cX1_isInsideSlope 3 (some .boolean) :: ([.fieldLink RX1 9 "TempoMaps$Marks" "ticks" "[I", .fieldLink RX1 15 "TempoMaps$Marks" "spans" "[I", .methodLink RX1 32 yX1_placeOf, .instanceMethod yX1_placeOf, .selects RX1 yX1_placeOf yX1_placeOf, .initialized RX1, .code yX1_placeOf cX1_placeOf 3 (some .int), .fieldLink RX1 28 "TempoMaps$Marks" "size" "I"] ++ wsX10)
def wsX1_isAnyBetween : List Cond := .code yX1_isAnyBetween cX1_isAnyBetween 4 (some .boolean) :: ([.fieldLink RX1 9 "TempoMaps$Marks" "ticks" "[I", .methodLink RX1 32 yX1_placeOf, .instanceMethod yX1_placeOf, .selects RX1 yX1_placeOf yX1_placeOf, .initialized RX1, .code yX1_placeOf cX1_placeOf 3 (some .int), .fieldLink RX1 28 "TempoMaps$Marks" "size" "I"] ++ wsX10)
def wsX1_tell : List Cond := .code yX1_tell cX1_tell 3 (some .int) :: ([.fieldLink RX1 28 "TempoMaps$Marks" "size" "I", .fieldLink RX1 9 "TempoMaps$Marks" "ticks" "[I", .fieldLink RX1 15 "TempoMaps$Marks" "spans" "[I", .fieldLink RX1 18 "TempoMaps$Marks" "firstPaces" "[I", .fieldLink RX1 21 "TempoMaps$Marks" "lastPaces" "[I"] ++ wsX10)
def wsX1_copyRow : List Cond := .code yX1_copyRow cX1_copyRow 3 none :: ([.fieldLink RX1 9 "TempoMaps$Marks" "ticks" "[I", .fieldLink RX1 15 "TempoMaps$Marks" "spans" "[I", .fieldLink RX1 18 "TempoMaps$Marks" "firstPaces" "[I", .fieldLink RX1 21 "TempoMaps$Marks" "lastPaces" "[I"] ++ wsX10)
def wsX1_openRow : List Cond := .code yX1_openRow cX1_openRow 3 none :: ([.fieldLink RX1 28 "TempoMaps$Marks" "size" "I", .methodLink RX1 47 yX1_copyRow, .instanceMethod yX1_copyRow, .selects RX1 yX1_copyRow yX1_copyRow, .initialized RX1, .code yX1_copyRow cX1_copyRow 3 none, .fieldLink RX1 9 "TempoMaps$Marks" "ticks" "[I", .fieldLink RX1 15 "TempoMaps$Marks" "spans" "[I", .fieldLink RX1 18 "TempoMaps$Marks" "firstPaces" "[I", .fieldLink RX1 21 "TempoMaps$Marks" "lastPaces" "[I"] ++ wsX10)
def wsJ9_floorDiv_f86c9 : List Cond := .code yJ9_floorDiv_f86c9 cJ9_floorDiv_f86c9 6 (some .long) :: ([])
def wsJ9_floorMod_f86c9 : List Cond := .code yJ9_floorMod_f86c9 cJ9_floorMod_f86c9 6 (some .long) :: ([])
def wsX3_sumOfQuotients : List Cond := .code yX3_sumOfQuotients cX3_sumOfQuotients 18 (some .long) :: ([.constantLong RX3 115 (2), .methodLink RX3 129 yJ9_floorDiv_f86c9, .static yJ9_floorDiv_f86c9, .initialized RJ9, .code yJ9_floorDiv_f86c9 cJ9_floorDiv_f86c9 6 (some .long), .methodLink RX3 132 yJ9_floorMod_f86c9, .static yJ9_floorMod_f86c9, .code yJ9_floorMod_f86c9 cJ9_floorMod_f86c9 6 (some .long)])
def wsX1_unitsAheadBy : List Cond := .code yX1_unitsAheadBy cX1_unitsAheadBy 6 (some .long) :: ([.constantLong RX1 61 (1000), .fieldLink RX1 9 "TempoMaps$Marks" "ticks" "[I", .fieldLink RX1 15 "TempoMaps$Marks" "spans" "[I", .methodLink RX1 63 Lib.Math.min.name, .static Lib.Math.min.name, .initialized "java/lang/Math", .code Lib.Math.min.name Lib.Math.min.code 2 (some .int), .fieldLink RX1 21 "TempoMaps$Marks" "lastPaces" "[I", .fieldLink RX1 18 "TempoMaps$Marks" "firstPaces" "[I", .fieldLink RX1 24 "TempoMaps$Marks" "unitsBefore" "[J", .static yX3_sumOfQuotients, .initialized RX3, .code yX3_sumOfQuotients cX3_sumOfQuotients 18 (some .long), .constantLong RX3 115 (2), .methodLink RX3 129 yJ9_floorDiv_f86c9, .static yJ9_floorDiv_f86c9, .initialized RJ9, .code yJ9_floorDiv_f86c9 cJ9_floorDiv_f86c9 6 (some .long), .methodLink RX3 132 yJ9_floorMod_f86c9, .static yJ9_floorMod_f86c9, .code yJ9_floorMod_f86c9 cJ9_floorMod_f86c9 6 (some .long)] ++ wsX10)
def wsX1_renewUnitsBefore_r1 : List Cond := [Cond.fieldLink RX1 28 "TempoMaps$Marks" "size" "I", Cond.fieldLink RX1 24 "TempoMaps$Marks" "unitsBefore" "[J", Cond.fieldLink RX1 9 "TempoMaps$Marks" "ticks" "[I", Cond.methodLink RX1 51 yX1_unitsAheadBy, Cond.instanceMethod yX1_unitsAheadBy, Cond.selects RX1 yX1_unitsAheadBy yX1_unitsAheadBy, Cond.initialized RX1, Cond.code yX1_unitsAheadBy cX1_unitsAheadBy 6 (some .long), Cond.constantLong RX1 61 (1000), Cond.fieldLink RX1 15 "TempoMaps$Marks" "spans" "[I", Cond.methodLink RX1 63 Lib.Math.min.name, Cond.static Lib.Math.min.name, Cond.initialized "java/lang/Math", Cond.code Lib.Math.min.name Lib.Math.min.code 2 (some .int), Cond.fieldLink RX1 21 "TempoMaps$Marks" "lastPaces" "[I", Cond.fieldLink RX1 18 "TempoMaps$Marks" "firstPaces" "[I", Cond.static yX3_sumOfQuotients, Cond.initialized RX3, Cond.code yX3_sumOfQuotients cX3_sumOfQuotients 18 (some .long), Cond.constantLong RX3 115 (2), Cond.methodLink RX3 129 yJ9_floorDiv_f86c9, Cond.static yJ9_floorDiv_f86c9, Cond.initialized RJ9, Cond.code yJ9_floorDiv_f86c9 cJ9_floorDiv_f86c9 6 (some .long)]
def wsX1_renewUnitsBefore_r2 : List Cond := [Cond.methodLink RX3 132 yJ9_floorMod_f86c9, Cond.static yJ9_floorMod_f86c9, Cond.code yJ9_floorMod_f86c9 cJ9_floorMod_f86c9 6 (some .long)]
def wsX1_renewUnitsBefore : List Cond := .code yX1_renewUnitsBefore cX1_renewUnitsBefore 3 none :: ((wsX1_renewUnitsBefore_r1 ++ wsX1_renewUnitsBefore_r2) ++ wsX10)
def wsX1_put_r1 : List Cond := [Cond.fieldLink RX1 9 "TempoMaps$Marks" "ticks" "[I", Cond.fieldLink RX1 28 "TempoMaps$Marks" "size" "I", Cond.fieldLink RX1 15 "TempoMaps$Marks" "spans" "[I", Cond.fieldLink RX1 18 "TempoMaps$Marks" "firstPaces" "[I", Cond.fieldLink RX1 21 "TempoMaps$Marks" "lastPaces" "[I", Cond.methodLink RX1 32 yX1_placeOf, Cond.instanceMethod yX1_placeOf, Cond.selects RX1 yX1_placeOf yX1_placeOf, Cond.initialized RX1, Cond.code yX1_placeOf cX1_placeOf 3 (some .int), Cond.methodLink RX1 40 yX1_openRow, Cond.instanceMethod yX1_openRow, Cond.selects RX1 yX1_openRow yX1_openRow, Cond.code yX1_openRow cX1_openRow 3 none, Cond.methodLink RX1 47 yX1_copyRow, Cond.instanceMethod yX1_copyRow, Cond.selects RX1 yX1_copyRow yX1_copyRow, Cond.code yX1_copyRow cX1_copyRow 3 none, Cond.methodLink RX1 44 yX1_renewUnitsBefore, Cond.instanceMethod yX1_renewUnitsBefore, Cond.selects RX1 yX1_renewUnitsBefore yX1_renewUnitsBefore, Cond.code yX1_renewUnitsBefore cX1_renewUnitsBefore 3 none, Cond.fieldLink RX1 24 "TempoMaps$Marks" "unitsBefore" "[J", Cond.methodLink RX1 51 yX1_unitsAheadBy]
def wsX1_put_r2 : List Cond := [Cond.instanceMethod yX1_unitsAheadBy, Cond.selects RX1 yX1_unitsAheadBy yX1_unitsAheadBy, Cond.code yX1_unitsAheadBy cX1_unitsAheadBy 6 (some .long), Cond.constantLong RX1 61 (1000), Cond.methodLink RX1 63 Lib.Math.min.name, Cond.static Lib.Math.min.name, Cond.initialized "java/lang/Math", Cond.code Lib.Math.min.name Lib.Math.min.code 2 (some .int), Cond.static yX3_sumOfQuotients, Cond.initialized RX3, Cond.code yX3_sumOfQuotients cX3_sumOfQuotients 18 (some .long), Cond.constantLong RX3 115 (2), Cond.methodLink RX3 129 yJ9_floorDiv_f86c9, Cond.static yJ9_floorDiv_f86c9, Cond.initialized RJ9, Cond.code yJ9_floorDiv_f86c9 cJ9_floorDiv_f86c9 6 (some .long), Cond.methodLink RX3 132 yJ9_floorMod_f86c9, Cond.static yJ9_floorMod_f86c9, Cond.code yJ9_floorMod_f86c9 cJ9_floorMod_f86c9 6 (some .long)]
def wsX1_put : List Cond := .code yX1_put cX1_put 6 (some .int) :: ((wsX1_put_r1 ++ wsX1_put_r2) ++ wsX10)
def wsX1_putStep_r1 : List Cond := [Cond.methodLink RX1 36 yX1_put, Cond.instanceMethod yX1_put, Cond.selects RX1 yX1_put yX1_put, Cond.initialized RX1, Cond.code yX1_put cX1_put 6 (some .int), Cond.fieldLink RX1 9 "TempoMaps$Marks" "ticks" "[I", Cond.fieldLink RX1 28 "TempoMaps$Marks" "size" "I", Cond.fieldLink RX1 15 "TempoMaps$Marks" "spans" "[I", Cond.fieldLink RX1 18 "TempoMaps$Marks" "firstPaces" "[I", Cond.fieldLink RX1 21 "TempoMaps$Marks" "lastPaces" "[I", Cond.methodLink RX1 32 yX1_placeOf, Cond.instanceMethod yX1_placeOf, Cond.selects RX1 yX1_placeOf yX1_placeOf, Cond.code yX1_placeOf cX1_placeOf 3 (some .int), Cond.methodLink RX1 40 yX1_openRow, Cond.instanceMethod yX1_openRow, Cond.selects RX1 yX1_openRow yX1_openRow, Cond.code yX1_openRow cX1_openRow 3 none, Cond.methodLink RX1 47 yX1_copyRow, Cond.instanceMethod yX1_copyRow, Cond.selects RX1 yX1_copyRow yX1_copyRow, Cond.code yX1_copyRow cX1_copyRow 3 none, Cond.methodLink RX1 44 yX1_renewUnitsBefore, Cond.instanceMethod yX1_renewUnitsBefore]
def wsX1_putStep_r2 : List Cond := [Cond.selects RX1 yX1_renewUnitsBefore yX1_renewUnitsBefore, Cond.code yX1_renewUnitsBefore cX1_renewUnitsBefore 3 none, Cond.fieldLink RX1 24 "TempoMaps$Marks" "unitsBefore" "[J", Cond.methodLink RX1 51 yX1_unitsAheadBy, Cond.instanceMethod yX1_unitsAheadBy, Cond.selects RX1 yX1_unitsAheadBy yX1_unitsAheadBy, Cond.code yX1_unitsAheadBy cX1_unitsAheadBy 6 (some .long), Cond.constantLong RX1 61 (1000), Cond.methodLink RX1 63 Lib.Math.min.name, Cond.static Lib.Math.min.name, Cond.initialized "java/lang/Math", Cond.code Lib.Math.min.name Lib.Math.min.code 2 (some .int), Cond.static yX3_sumOfQuotients, Cond.initialized RX3, Cond.code yX3_sumOfQuotients cX3_sumOfQuotients 18 (some .long), Cond.constantLong RX3 115 (2), Cond.methodLink RX3 129 yJ9_floorDiv_f86c9, Cond.static yJ9_floorDiv_f86c9, Cond.initialized RJ9, Cond.code yJ9_floorDiv_f86c9 cJ9_floorDiv_f86c9 6 (some .long), Cond.methodLink RX3 132 yJ9_floorMod_f86c9, Cond.static yJ9_floorMod_f86c9, Cond.code yJ9_floorMod_f86c9 cJ9_floorMod_f86c9 6 (some .long)]
def wsX1_putStep : List Cond := .code yX1_putStep cX1_putStep 3 (some .int) :: ((wsX1_putStep_r1 ++ wsX1_putStep_r2) ++ wsX10)
def wsX1_remove_r1 : List Cond := [Cond.fieldLink RX1 9 "TempoMaps$Marks" "ticks" "[I", Cond.fieldLink RX1 28 "TempoMaps$Marks" "size" "I", Cond.methodLink RX1 32 yX1_placeOf, Cond.instanceMethod yX1_placeOf, Cond.selects RX1 yX1_placeOf yX1_placeOf, Cond.initialized RX1, Cond.code yX1_placeOf cX1_placeOf 3 (some .int), Cond.methodLink RX1 47 yX1_copyRow, Cond.instanceMethod yX1_copyRow, Cond.selects RX1 yX1_copyRow yX1_copyRow, Cond.code yX1_copyRow cX1_copyRow 3 none, Cond.fieldLink RX1 15 "TempoMaps$Marks" "spans" "[I", Cond.fieldLink RX1 18 "TempoMaps$Marks" "firstPaces" "[I", Cond.fieldLink RX1 21 "TempoMaps$Marks" "lastPaces" "[I", Cond.methodLink RX1 44 yX1_renewUnitsBefore, Cond.instanceMethod yX1_renewUnitsBefore, Cond.selects RX1 yX1_renewUnitsBefore yX1_renewUnitsBefore, Cond.code yX1_renewUnitsBefore cX1_renewUnitsBefore 3 none, Cond.fieldLink RX1 24 "TempoMaps$Marks" "unitsBefore" "[J", Cond.methodLink RX1 51 yX1_unitsAheadBy, Cond.instanceMethod yX1_unitsAheadBy, Cond.selects RX1 yX1_unitsAheadBy yX1_unitsAheadBy, Cond.code yX1_unitsAheadBy cX1_unitsAheadBy 6 (some .long), Cond.constantLong RX1 61 (1000)]
def wsX1_remove_r2 : List Cond := [Cond.methodLink RX1 63 Lib.Math.min.name, Cond.static Lib.Math.min.name, Cond.initialized "java/lang/Math", Cond.code Lib.Math.min.name Lib.Math.min.code 2 (some .int), Cond.static yX3_sumOfQuotients, Cond.initialized RX3, Cond.code yX3_sumOfQuotients cX3_sumOfQuotients 18 (some .long), Cond.constantLong RX3 115 (2), Cond.methodLink RX3 129 yJ9_floorDiv_f86c9, Cond.static yJ9_floorDiv_f86c9, Cond.initialized RJ9, Cond.code yJ9_floorDiv_f86c9 cJ9_floorDiv_f86c9 6 (some .long), Cond.methodLink RX3 132 yJ9_floorMod_f86c9, Cond.static yJ9_floorMod_f86c9, Cond.code yJ9_floorMod_f86c9 cJ9_floorMod_f86c9 6 (some .long)]
def wsX1_remove : List Cond := .code yX1_remove cX1_remove 4 (some .int) :: ((wsX1_remove_r1 ++ wsX1_remove_r2) ++ wsX10)
def wsJ9_floorDiv_7cf53 : List Cond := .code yJ9_floorDiv_7cf53 cJ9_floorDiv_7cf53 3 (some .int) :: ([])
def wsX1_unitsOfTick : List Cond := .code yX1_unitsOfTick cX1_unitsOfTick 6 (some .int) :: ([.fieldLink RX1 9 "TempoMaps$Marks" "ticks" "[I", .fieldLink RX1 15 "TempoMaps$Marks" "spans" "[I", .fieldLink RX1 21 "TempoMaps$Marks" "lastPaces" "[I", .fieldLink RX1 18 "TempoMaps$Marks" "firstPaces" "[I", .methodLink RX1 32 yX1_placeOf, .instanceMethod yX1_placeOf, .selects RX1 yX1_placeOf yX1_placeOf, .initialized RX1, .code yX1_placeOf cX1_placeOf 3 (some .int), .fieldLink RX1 28 "TempoMaps$Marks" "size" "I", .methodLink RX1 55 yJ9_floorDiv_7cf53, .static yJ9_floorDiv_7cf53, .initialized RJ9, .code yJ9_floorDiv_7cf53 cJ9_floorDiv_7cf53 3 (some .int)] ++ wsX10)
def wsX1_unitsAhead_r1 : List Cond := [Cond.methodLink RX1 32 yX1_placeOf, Cond.instanceMethod yX1_placeOf, Cond.selects RX1 yX1_placeOf yX1_placeOf, Cond.initialized RX1, Cond.code yX1_placeOf cX1_placeOf 3 (some .int), Cond.fieldLink RX1 28 "TempoMaps$Marks" "size" "I", Cond.fieldLink RX1 9 "TempoMaps$Marks" "ticks" "[I", Cond.methodLink RX1 51 yX1_unitsAheadBy, Cond.instanceMethod yX1_unitsAheadBy, Cond.selects RX1 yX1_unitsAheadBy yX1_unitsAheadBy, Cond.code yX1_unitsAheadBy cX1_unitsAheadBy 6 (some .long), Cond.constantLong RX1 61 (1000), Cond.fieldLink RX1 15 "TempoMaps$Marks" "spans" "[I", Cond.methodLink RX1 63 Lib.Math.min.name, Cond.static Lib.Math.min.name, Cond.initialized "java/lang/Math", Cond.code Lib.Math.min.name Lib.Math.min.code 2 (some .int), Cond.fieldLink RX1 21 "TempoMaps$Marks" "lastPaces" "[I", Cond.fieldLink RX1 18 "TempoMaps$Marks" "firstPaces" "[I", Cond.fieldLink RX1 24 "TempoMaps$Marks" "unitsBefore" "[J", Cond.static yX3_sumOfQuotients, Cond.initialized RX3, Cond.code yX3_sumOfQuotients cX3_sumOfQuotients 18 (some .long), Cond.constantLong RX3 115 (2)]
def wsX1_unitsAhead_r2 : List Cond := [Cond.methodLink RX3 129 yJ9_floorDiv_f86c9, Cond.static yJ9_floorDiv_f86c9, Cond.initialized RJ9, Cond.code yJ9_floorDiv_f86c9 cJ9_floorDiv_f86c9 6 (some .long), Cond.methodLink RX3 132 yJ9_floorMod_f86c9, Cond.static yJ9_floorMod_f86c9, Cond.code yJ9_floorMod_f86c9 cJ9_floorMod_f86c9 6 (some .long)]
def wsX1_unitsAhead : List Cond := .code yX1_unitsAhead cX1_unitsAhead 2 (some .long) :: ((wsX1_unitsAhead_r1 ++ wsX1_unitsAhead_r2) ++ wsX10)
def wsX2_init : List Cond := .code yX2_init cX2_init 1 none :: ([.methodLink RX2 3 objectInit, .instanceMethod objectInit, .code objectInit ⟨#[0xb1]⟩ 1 none, .arrayClass .long, .fieldLink RX2 9 "TempoMaps$Taps" "times" "[J"] ++ wsX20)
def wsX2_add : List Cond := .code yX2_add cX2_add 3 (some .int) :: ([.fieldLink RX2 15 "TempoMaps$Taps" "size" "I", .fieldLink RX2 9 "TempoMaps$Taps" "times" "[J"] ++ wsX20)
def wsX2_removeAll : List Cond := .code yX2_removeAll cX2_removeAll 2 (some .int) :: ([.fieldLink RX2 15 "TempoMaps$Taps" "size" "I"] ++ wsX20)
def wsX2_above : List Cond := .code yX2_above cX2_above 8 (some .long) :: ([.fieldLink RX2 15 "TempoMaps$Taps" "size" "I", .fieldLink RX2 9 "TempoMaps$Taps" "times" "[J"] ++ wsX20)
def wsX2_below : List Cond := .code yX2_below cX2_below 6 (some .long) :: ([.fieldLink RX2 15 "TempoMaps$Taps" "size" "I"] ++ wsX20)
def wsX3_init_r1 : List Cond := [Cond.methodLink RX3 1 objectInit, Cond.instanceMethod objectInit, Cond.code objectInit ⟨#[0xb1]⟩ 1 none, Cond.classLink RX3 7 RX1, Cond.instantiable RX1 6, Cond.initialized RX1, Cond.fieldLink RX3 10 "TempoMaps" "marks" "LTempoMaps$Marks;", Cond.classLink RX3 16 RX0, Cond.instantiable RX0 3, Cond.initialized RX0, Cond.fieldLink RX3 19 "TempoMaps" "holds" "LTempoMaps$Holds;", Cond.classLink RX3 23 RX2, Cond.instantiable RX2 2, Cond.initialized RX2, Cond.fieldLink RX3 26 "TempoMaps" "taps" "LTempoMaps$Taps;", Cond.instanceMethod yX1_init, Cond.code yX1_init cX1_init 1 none, Cond.methodLink RX1 3 objectInit, Cond.arrayClass .int, Cond.fieldLink RX1 9 "TempoMaps$Marks" "ticks" "[I", Cond.fieldLink RX1 15 "TempoMaps$Marks" "spans" "[I", Cond.fieldLink RX1 18 "TempoMaps$Marks" "firstPaces" "[I", Cond.fieldLink RX1 21 "TempoMaps$Marks" "lastPaces" "[I", Cond.arrayClass .long]
def wsX3_init_r2 : List Cond := [Cond.fieldLink RX1 24 "TempoMaps$Marks" "unitsBefore" "[J", Cond.instanceMethod yX0_init, Cond.code yX0_init cX0_init 1 none, Cond.methodLink RX0 3 objectInit, Cond.fieldLink RX0 9 "TempoMaps$Holds" "ticks" "[I", Cond.fieldLink RX0 15 "TempoMaps$Holds" "units" "[I", Cond.instanceMethod yX2_init, Cond.code yX2_init cX2_init 1 none, Cond.methodLink RX2 3 objectInit, Cond.fieldLink RX2 9 "TempoMaps$Taps" "times" "[J"]
def wsX3_init : List Cond := .code yX3_init cX3_init 1 none :: ((wsX3_init_r1 ++ wsX3_init_r2) ++ wsX10 ++ wsX30 ++ wsX00 ++ wsX20)
def wsX3_isWithin : List Cond := .code yX3_isWithin cX3_isWithin 3 (some .boolean) :: ([])
def wsX3_step_r1 : List Cond := [Cond.constant RX3 30 (999999), Cond.constant RX3 35 (1000000), Cond.fieldLink RX3 10 "TempoMaps" "marks" "LTempoMaps$Marks;", Cond.methodLink RX3 31 yX3_isWithin, Cond.static yX3_isWithin, Cond.initialized RX3, Cond.code yX3_isWithin cX3_isWithin 3 (some .boolean), Cond.methodLink RX3 36 yX1_isInsideSlope, Cond.instanceMethod yX1_isInsideSlope, Cond.selects RX1 yX1_isInsideSlope yX1_isInsideSlope, Cond.initialized RX1, Cond.code yX1_isInsideSlope cX1_isInsideSlope 3 (some .boolean), Cond.fieldLink RX1 9 "TempoMaps$Marks" "ticks" "[I", Cond.fieldLink RX1 15 "TempoMaps$Marks" "spans" "[I", Cond.methodLink RX1 32 yX1_placeOf, Cond.instanceMethod yX1_placeOf, Cond.selects RX1 yX1_placeOf yX1_placeOf, Cond.code yX1_placeOf cX1_placeOf 3 (some .int), Cond.fieldLink RX1 28 "TempoMaps$Marks" "size" "I", Cond.methodLink RX3 40 yX1_putStep, Cond.instanceMethod yX1_putStep, Cond.selects RX1 yX1_putStep yX1_putStep, Cond.code yX1_putStep cX1_putStep 3 (some .int), Cond.methodLink RX1 36 yX1_put]
def wsX3_step_r2 : List Cond := [Cond.instanceMethod yX1_put, Cond.selects RX1 yX1_put yX1_put, Cond.code yX1_put cX1_put 6 (some .int), Cond.fieldLink RX1 18 "TempoMaps$Marks" "firstPaces" "[I", Cond.fieldLink RX1 21 "TempoMaps$Marks" "lastPaces" "[I", Cond.methodLink RX1 40 yX1_openRow, Cond.instanceMethod yX1_openRow, Cond.selects RX1 yX1_openRow yX1_openRow, Cond.code yX1_openRow cX1_openRow 3 none, Cond.methodLink RX1 47 yX1_copyRow, Cond.instanceMethod yX1_copyRow, Cond.selects RX1 yX1_copyRow yX1_copyRow, Cond.code yX1_copyRow cX1_copyRow 3 none, Cond.methodLink RX1 44 yX1_renewUnitsBefore, Cond.instanceMethod yX1_renewUnitsBefore, Cond.selects RX1 yX1_renewUnitsBefore yX1_renewUnitsBefore, Cond.code yX1_renewUnitsBefore cX1_renewUnitsBefore 3 none, Cond.fieldLink RX1 24 "TempoMaps$Marks" "unitsBefore" "[J", Cond.methodLink RX1 51 yX1_unitsAheadBy, Cond.instanceMethod yX1_unitsAheadBy, Cond.selects RX1 yX1_unitsAheadBy yX1_unitsAheadBy, Cond.code yX1_unitsAheadBy cX1_unitsAheadBy 6 (some .long), Cond.constantLong RX1 61 (1000), Cond.methodLink RX1 63 Lib.Math.min.name]
def wsX3_step_r3 : List Cond := [Cond.static Lib.Math.min.name, Cond.initialized "java/lang/Math", Cond.code Lib.Math.min.name Lib.Math.min.code 2 (some .int), Cond.static yX3_sumOfQuotients, Cond.code yX3_sumOfQuotients cX3_sumOfQuotients 18 (some .long), Cond.constantLong RX3 115 (2), Cond.methodLink RX3 129 yJ9_floorDiv_f86c9, Cond.static yJ9_floorDiv_f86c9, Cond.initialized RJ9, Cond.code yJ9_floorDiv_f86c9 cJ9_floorDiv_f86c9 6 (some .long), Cond.methodLink RX3 132 yJ9_floorMod_f86c9, Cond.static yJ9_floorMod_f86c9, Cond.code yJ9_floorMod_f86c9 cJ9_floorMod_f86c9 6 (some .long)]
def wsX3_step : List Cond := .code yX3_step cX3_step 3 (some .int) :: ((wsX3_step_r1 ++ (wsX3_step_r2 ++ wsX3_step_r3)) ++ wsX30 ++ wsX10)
def wsX3_slope_r1 : List Cond := [Cond.constant RX3 30 (999999), Cond.constant RX3 35 (1000000), Cond.fieldLink RX3 10 "TempoMaps" "marks" "LTempoMaps$Marks;", Cond.methodLink RX3 31 yX3_isWithin, Cond.static yX3_isWithin, Cond.initialized RX3, Cond.code yX3_isWithin cX3_isWithin 3 (some .boolean), Cond.methodLink RX3 36 yX1_isInsideSlope, Cond.instanceMethod yX1_isInsideSlope, Cond.selects RX1 yX1_isInsideSlope yX1_isInsideSlope, Cond.initialized RX1, Cond.code yX1_isInsideSlope cX1_isInsideSlope 3 (some .boolean), Cond.fieldLink RX1 9 "TempoMaps$Marks" "ticks" "[I", Cond.fieldLink RX1 15 "TempoMaps$Marks" "spans" "[I", Cond.methodLink RX1 32 yX1_placeOf, Cond.instanceMethod yX1_placeOf, Cond.selects RX1 yX1_placeOf yX1_placeOf, Cond.code yX1_placeOf cX1_placeOf 3 (some .int), Cond.fieldLink RX1 28 "TempoMaps$Marks" "size" "I", Cond.methodLink RX3 44 yX1_isAnyBetween, Cond.instanceMethod yX1_isAnyBetween, Cond.selects RX1 yX1_isAnyBetween yX1_isAnyBetween, Cond.code yX1_isAnyBetween cX1_isAnyBetween 4 (some .boolean), Cond.methodLink RX3 48 yX1_put]
def wsX3_slope_r2 : List Cond := [Cond.instanceMethod yX1_put, Cond.selects RX1 yX1_put yX1_put, Cond.code yX1_put cX1_put 6 (some .int), Cond.fieldLink RX1 18 "TempoMaps$Marks" "firstPaces" "[I", Cond.fieldLink RX1 21 "TempoMaps$Marks" "lastPaces" "[I", Cond.methodLink RX1 40 yX1_openRow, Cond.instanceMethod yX1_openRow, Cond.selects RX1 yX1_openRow yX1_openRow, Cond.code yX1_openRow cX1_openRow 3 none, Cond.methodLink RX1 47 yX1_copyRow, Cond.instanceMethod yX1_copyRow, Cond.selects RX1 yX1_copyRow yX1_copyRow, Cond.code yX1_copyRow cX1_copyRow 3 none, Cond.methodLink RX1 44 yX1_renewUnitsBefore, Cond.instanceMethod yX1_renewUnitsBefore, Cond.selects RX1 yX1_renewUnitsBefore yX1_renewUnitsBefore, Cond.code yX1_renewUnitsBefore cX1_renewUnitsBefore 3 none, Cond.fieldLink RX1 24 "TempoMaps$Marks" "unitsBefore" "[J", Cond.methodLink RX1 51 yX1_unitsAheadBy, Cond.instanceMethod yX1_unitsAheadBy, Cond.selects RX1 yX1_unitsAheadBy yX1_unitsAheadBy, Cond.code yX1_unitsAheadBy cX1_unitsAheadBy 6 (some .long), Cond.constantLong RX1 61 (1000), Cond.methodLink RX1 63 Lib.Math.min.name]
def wsX3_slope_r3 : List Cond := [Cond.static Lib.Math.min.name, Cond.initialized "java/lang/Math", Cond.code Lib.Math.min.name Lib.Math.min.code 2 (some .int), Cond.static yX3_sumOfQuotients, Cond.code yX3_sumOfQuotients cX3_sumOfQuotients 18 (some .long), Cond.constantLong RX3 115 (2), Cond.methodLink RX3 129 yJ9_floorDiv_f86c9, Cond.static yJ9_floorDiv_f86c9, Cond.initialized RJ9, Cond.code yJ9_floorDiv_f86c9 cJ9_floorDiv_f86c9 6 (some .long), Cond.methodLink RX3 132 yJ9_floorMod_f86c9, Cond.static yJ9_floorMod_f86c9, Cond.code yJ9_floorMod_f86c9 cJ9_floorMod_f86c9 6 (some .long)]
def wsX3_slope : List Cond := .code yX3_slope cX3_slope 5 (some .int) :: ((wsX3_slope_r1 ++ (wsX3_slope_r2 ++ wsX3_slope_r3)) ++ wsX30 ++ wsX10)
def wsX3_modulate_r1 : List Cond := [Cond.constant RX3 30 (999999), Cond.fieldLink RX3 10 "TempoMaps" "marks" "LTempoMaps$Marks;", Cond.constant RX3 35 (1000000), Cond.methodLink RX3 31 yX3_isWithin, Cond.static yX3_isWithin, Cond.initialized RX3, Cond.code yX3_isWithin cX3_isWithin 3 (some .boolean), Cond.methodLink RX3 52 yX1_unitsOfTick, Cond.instanceMethod yX1_unitsOfTick, Cond.selects RX1 yX1_unitsOfTick yX1_unitsOfTick, Cond.initialized RX1, Cond.code yX1_unitsOfTick cX1_unitsOfTick 6 (some .int), Cond.fieldLink RX1 9 "TempoMaps$Marks" "ticks" "[I", Cond.fieldLink RX1 15 "TempoMaps$Marks" "spans" "[I", Cond.fieldLink RX1 21 "TempoMaps$Marks" "lastPaces" "[I", Cond.fieldLink RX1 18 "TempoMaps$Marks" "firstPaces" "[I", Cond.methodLink RX1 32 yX1_placeOf, Cond.instanceMethod yX1_placeOf, Cond.selects RX1 yX1_placeOf yX1_placeOf, Cond.code yX1_placeOf cX1_placeOf 3 (some .int), Cond.fieldLink RX1 28 "TempoMaps$Marks" "size" "I", Cond.methodLink RX1 55 yJ9_floorDiv_7cf53, Cond.static yJ9_floorDiv_7cf53, Cond.initialized RJ9]
def wsX3_modulate_r2 : List Cond := [Cond.code yJ9_floorDiv_7cf53 cJ9_floorDiv_7cf53 3 (some .int), Cond.methodLink RX3 36 yX1_isInsideSlope, Cond.instanceMethod yX1_isInsideSlope, Cond.selects RX1 yX1_isInsideSlope yX1_isInsideSlope, Cond.code yX1_isInsideSlope cX1_isInsideSlope 3 (some .boolean), Cond.methodLink RX3 40 yX1_putStep, Cond.instanceMethod yX1_putStep, Cond.selects RX1 yX1_putStep yX1_putStep, Cond.code yX1_putStep cX1_putStep 3 (some .int), Cond.methodLink RX1 36 yX1_put, Cond.instanceMethod yX1_put, Cond.selects RX1 yX1_put yX1_put, Cond.code yX1_put cX1_put 6 (some .int), Cond.methodLink RX1 40 yX1_openRow, Cond.instanceMethod yX1_openRow, Cond.selects RX1 yX1_openRow yX1_openRow, Cond.code yX1_openRow cX1_openRow 3 none, Cond.methodLink RX1 47 yX1_copyRow, Cond.instanceMethod yX1_copyRow, Cond.selects RX1 yX1_copyRow yX1_copyRow, Cond.code yX1_copyRow cX1_copyRow 3 none, Cond.methodLink RX1 44 yX1_renewUnitsBefore, Cond.instanceMethod yX1_renewUnitsBefore, Cond.selects RX1 yX1_renewUnitsBefore yX1_renewUnitsBefore]
def wsX3_modulate_r3 : List Cond := [Cond.code yX1_renewUnitsBefore cX1_renewUnitsBefore 3 none, Cond.fieldLink RX1 24 "TempoMaps$Marks" "unitsBefore" "[J", Cond.methodLink RX1 51 yX1_unitsAheadBy, Cond.instanceMethod yX1_unitsAheadBy, Cond.selects RX1 yX1_unitsAheadBy yX1_unitsAheadBy, Cond.code yX1_unitsAheadBy cX1_unitsAheadBy 6 (some .long), Cond.constantLong RX1 61 (1000), Cond.methodLink RX1 63 Lib.Math.min.name, Cond.static Lib.Math.min.name, Cond.initialized "java/lang/Math", Cond.code Lib.Math.min.name Lib.Math.min.code 2 (some .int), Cond.static yX3_sumOfQuotients, Cond.code yX3_sumOfQuotients cX3_sumOfQuotients 18 (some .long), Cond.constantLong RX3 115 (2), Cond.methodLink RX3 129 yJ9_floorDiv_f86c9, Cond.static yJ9_floorDiv_f86c9, Cond.code yJ9_floorDiv_f86c9 cJ9_floorDiv_f86c9 6 (some .long), Cond.methodLink RX3 132 yJ9_floorMod_f86c9, Cond.static yJ9_floorMod_f86c9, Cond.code yJ9_floorMod_f86c9 cJ9_floorMod_f86c9 6 (some .long)]
def wsX3_modulate : List Cond := .code yX3_modulate cX3_modulate 5 (some .int) :: ((wsX3_modulate_r1 ++ (wsX3_modulate_r2 ++ wsX3_modulate_r3)) ++ wsX30 ++ wsX10)
def wsX3_drop_r1 : List Cond := [Cond.fieldLink RX3 10 "TempoMaps" "marks" "LTempoMaps$Marks;", Cond.methodLink RX3 56 yX1_remove, Cond.instanceMethod yX1_remove, Cond.selects RX1 yX1_remove yX1_remove, Cond.initialized RX1, Cond.code yX1_remove cX1_remove 4 (some .int), Cond.fieldLink RX1 9 "TempoMaps$Marks" "ticks" "[I", Cond.fieldLink RX1 28 "TempoMaps$Marks" "size" "I", Cond.methodLink RX1 32 yX1_placeOf, Cond.instanceMethod yX1_placeOf, Cond.selects RX1 yX1_placeOf yX1_placeOf, Cond.code yX1_placeOf cX1_placeOf 3 (some .int), Cond.methodLink RX1 47 yX1_copyRow, Cond.instanceMethod yX1_copyRow, Cond.selects RX1 yX1_copyRow yX1_copyRow, Cond.code yX1_copyRow cX1_copyRow 3 none, Cond.fieldLink RX1 15 "TempoMaps$Marks" "spans" "[I", Cond.fieldLink RX1 18 "TempoMaps$Marks" "firstPaces" "[I", Cond.fieldLink RX1 21 "TempoMaps$Marks" "lastPaces" "[I", Cond.methodLink RX1 44 yX1_renewUnitsBefore, Cond.instanceMethod yX1_renewUnitsBefore, Cond.selects RX1 yX1_renewUnitsBefore yX1_renewUnitsBefore, Cond.code yX1_renewUnitsBefore cX1_renewUnitsBefore 3 none, Cond.fieldLink RX1 24 "TempoMaps$Marks" "unitsBefore" "[J"]
def wsX3_drop_r2 : List Cond := [Cond.methodLink RX1 51 yX1_unitsAheadBy, Cond.instanceMethod yX1_unitsAheadBy, Cond.selects RX1 yX1_unitsAheadBy yX1_unitsAheadBy, Cond.code yX1_unitsAheadBy cX1_unitsAheadBy 6 (some .long), Cond.constantLong RX1 61 (1000), Cond.methodLink RX1 63 Lib.Math.min.name, Cond.static Lib.Math.min.name, Cond.initialized "java/lang/Math", Cond.code Lib.Math.min.name Lib.Math.min.code 2 (some .int), Cond.static yX3_sumOfQuotients, Cond.initialized RX3, Cond.code yX3_sumOfQuotients cX3_sumOfQuotients 18 (some .long), Cond.constantLong RX3 115 (2), Cond.methodLink RX3 129 yJ9_floorDiv_f86c9, Cond.static yJ9_floorDiv_f86c9, Cond.initialized RJ9, Cond.code yJ9_floorDiv_f86c9 cJ9_floorDiv_f86c9 6 (some .long), Cond.methodLink RX3 132 yJ9_floorMod_f86c9, Cond.static yJ9_floorMod_f86c9, Cond.code yJ9_floorMod_f86c9 cJ9_floorMod_f86c9 6 (some .long)]
def wsX3_drop : List Cond := .code yX3_drop cX3_drop 2 (some .int) :: ((wsX3_drop_r1 ++ wsX3_drop_r2) ++ wsX30 ++ wsX10)
def wsX3_hold : List Cond := .code yX3_hold cX3_hold 3 (some .int) :: ([.constant RX3 35 (1000000), .constant RX3 59 (1000000000), .fieldLink RX3 19 "TempoMaps" "holds" "LTempoMaps$Holds;", .methodLink RX3 31 yX3_isWithin, .static yX3_isWithin, .initialized RX3, .code yX3_isWithin cX3_isWithin 3 (some .boolean), .methodLink RX3 60 yX0_remove, .instanceMethod yX0_remove, .selects RX0 yX0_remove yX0_remove, .initialized RX0, .code yX0_remove cX0_remove 3 (some .int), .fieldLink RX0 18 "TempoMaps$Holds" "size" "I", .fieldLink RX0 9 "TempoMaps$Holds" "ticks" "[I", .fieldLink RX0 15 "TempoMaps$Holds" "units" "[I", .methodLink RX0 22 yX0_placeOf, .instanceMethod yX0_placeOf, .selects RX0 yX0_placeOf yX0_placeOf, .code yX0_placeOf cX0_placeOf 3 (some .int), .methodLink RX3 61 yX0_put, .instanceMethod yX0_put, .selects RX0 yX0_put yX0_put, .code yX0_put cX0_put 4 (some .int)] ++ wsX30 ++ wsX00)
def wsX3_mark : List Cond := .code yX3_mark cX3_mark 3 (some .int) :: ([.fieldLink RX3 10 "TempoMaps" "marks" "LTempoMaps$Marks;", .methodLink RX3 31 yX3_isWithin, .static yX3_isWithin, .initialized RX3, .code yX3_isWithin cX3_isWithin 3 (some .boolean), .methodLink RX3 63 yX1_tell, .instanceMethod yX1_tell, .selects RX1 yX1_tell yX1_tell, .initialized RX1, .code yX1_tell cX1_tell 3 (some .int), .fieldLink RX1 28 "TempoMaps$Marks" "size" "I", .fieldLink RX1 9 "TempoMaps$Marks" "ticks" "[I", .fieldLink RX1 15 "TempoMaps$Marks" "spans" "[I", .fieldLink RX1 18 "TempoMaps$Marks" "firstPaces" "[I", .fieldLink RX1 21 "TempoMaps$Marks" "lastPaces" "[I"] ++ wsX30 ++ wsX10)
def wsX3_count : List Cond := .code yX3_count cX3_count 2 (some .int) :: ([.fieldLink RX3 10 "TempoMaps" "marks" "LTempoMaps$Marks;", .fieldLink RX3 19 "TempoMaps" "holds" "LTempoMaps$Holds;", .fieldLink RX3 26 "TempoMaps" "taps" "LTempoMaps$Taps;"] ++ wsX30 ++ wsX10 ++ wsX00 ++ wsX20)
def wsX3_lasts : List Cond := .code yX3_lasts cX3_lasts 2 (some .int) :: ([.constant RX3 30 (999999), .fieldLink RX3 10 "TempoMaps" "marks" "LTempoMaps$Marks;", .methodLink RX3 31 yX3_isWithin, .static yX3_isWithin, .initialized RX3, .code yX3_isWithin cX3_isWithin 3 (some .boolean), .methodLink RX3 52 yX1_unitsOfTick, .instanceMethod yX1_unitsOfTick, .selects RX1 yX1_unitsOfTick yX1_unitsOfTick, .initialized RX1, .code yX1_unitsOfTick cX1_unitsOfTick 6 (some .int), .fieldLink RX1 9 "TempoMaps$Marks" "ticks" "[I", .fieldLink RX1 15 "TempoMaps$Marks" "spans" "[I", .fieldLink RX1 21 "TempoMaps$Marks" "lastPaces" "[I", .fieldLink RX1 18 "TempoMaps$Marks" "firstPaces" "[I", .methodLink RX1 32 yX1_placeOf, .instanceMethod yX1_placeOf, .selects RX1 yX1_placeOf yX1_placeOf, .code yX1_placeOf cX1_placeOf 3 (some .int), .fieldLink RX1 28 "TempoMaps$Marks" "size" "I", .methodLink RX1 55 yJ9_floorDiv_7cf53, .static yJ9_floorDiv_7cf53, .initialized RJ9, .code yJ9_floorDiv_7cf53 cJ9_floorDiv_7cf53 3 (some .int)] ++ wsX30 ++ wsX10)
def wsX3_beginOf_r1 : List Cond := [Cond.fieldLink RX3 10 "TempoMaps" "marks" "LTempoMaps$Marks;", Cond.fieldLink RX3 19 "TempoMaps" "holds" "LTempoMaps$Holds;", Cond.methodLink RX3 117 yX1_unitsAhead, Cond.instanceMethod yX1_unitsAhead, Cond.selects RX1 yX1_unitsAhead yX1_unitsAhead, Cond.initialized RX1, Cond.code yX1_unitsAhead cX1_unitsAhead 2 (some .long), Cond.methodLink RX1 32 yX1_placeOf, Cond.instanceMethod yX1_placeOf, Cond.selects RX1 yX1_placeOf yX1_placeOf, Cond.code yX1_placeOf cX1_placeOf 3 (some .int), Cond.fieldLink RX1 28 "TempoMaps$Marks" "size" "I", Cond.fieldLink RX1 9 "TempoMaps$Marks" "ticks" "[I", Cond.methodLink RX1 51 yX1_unitsAheadBy, Cond.instanceMethod yX1_unitsAheadBy, Cond.selects RX1 yX1_unitsAheadBy yX1_unitsAheadBy, Cond.code yX1_unitsAheadBy cX1_unitsAheadBy 6 (some .long), Cond.constantLong RX1 61 (1000), Cond.fieldLink RX1 15 "TempoMaps$Marks" "spans" "[I", Cond.methodLink RX1 63 Lib.Math.min.name, Cond.static Lib.Math.min.name, Cond.initialized "java/lang/Math", Cond.code Lib.Math.min.name Lib.Math.min.code 2 (some .int), Cond.fieldLink RX1 21 "TempoMaps$Marks" "lastPaces" "[I"]
def wsX3_beginOf_r2 : List Cond := [Cond.fieldLink RX1 18 "TempoMaps$Marks" "firstPaces" "[I", Cond.fieldLink RX1 24 "TempoMaps$Marks" "unitsBefore" "[J", Cond.static yX3_sumOfQuotients, Cond.initialized RX3, Cond.code yX3_sumOfQuotients cX3_sumOfQuotients 18 (some .long), Cond.constantLong RX3 115 (2), Cond.methodLink RX3 129 yJ9_floorDiv_f86c9, Cond.static yJ9_floorDiv_f86c9, Cond.initialized RJ9, Cond.code yJ9_floorDiv_f86c9 cJ9_floorDiv_f86c9 6 (some .long), Cond.methodLink RX3 132 yJ9_floorMod_f86c9, Cond.static yJ9_floorMod_f86c9, Cond.code yJ9_floorMod_f86c9 cJ9_floorMod_f86c9 6 (some .long), Cond.methodLink RX3 120 yX0_unitsUpTo, Cond.instanceMethod yX0_unitsUpTo, Cond.selects RX0 yX0_unitsUpTo yX0_unitsUpTo, Cond.initialized RX0, Cond.code yX0_unitsUpTo cX0_unitsUpTo 5 (some .long), Cond.fieldLink RX0 18 "TempoMaps$Holds" "size" "I", Cond.fieldLink RX0 9 "TempoMaps$Holds" "ticks" "[I", Cond.fieldLink RX0 15 "TempoMaps$Holds" "units" "[I"]
def wsX3_beginOf : List Cond := .code yX3_beginOf cX3_beginOf 2 (some .long) :: ((wsX3_beginOf_r1 ++ wsX3_beginOf_r2) ++ wsX30 ++ wsX10 ++ wsX00)
def wsX3_time_r1 : List Cond := [Cond.constant RX3 35 (1000000), Cond.constantLong RX3 72 (-2), Cond.methodLink RX3 31 yX3_isWithin, Cond.static yX3_isWithin, Cond.initialized RX3, Cond.code yX3_isWithin cX3_isWithin 3 (some .boolean), Cond.methodLink RX3 74 yX3_beginOf, Cond.instanceMethod yX3_beginOf, Cond.selects RX3 yX3_beginOf yX3_beginOf, Cond.code yX3_beginOf cX3_beginOf 2 (some .long), Cond.fieldLink RX3 10 "TempoMaps" "marks" "LTempoMaps$Marks;", Cond.fieldLink RX3 19 "TempoMaps" "holds" "LTempoMaps$Holds;", Cond.methodLink RX3 117 yX1_unitsAhead, Cond.instanceMethod yX1_unitsAhead, Cond.selects RX1 yX1_unitsAhead yX1_unitsAhead, Cond.initialized RX1, Cond.code yX1_unitsAhead cX1_unitsAhead 2 (some .long), Cond.methodLink RX1 32 yX1_placeOf, Cond.instanceMethod yX1_placeOf, Cond.selects RX1 yX1_placeOf yX1_placeOf, Cond.code yX1_placeOf cX1_placeOf 3 (some .int), Cond.fieldLink RX1 28 "TempoMaps$Marks" "size" "I", Cond.fieldLink RX1 9 "TempoMaps$Marks" "ticks" "[I", Cond.methodLink RX1 51 yX1_unitsAheadBy]
def wsX3_time_r2 : List Cond := [Cond.instanceMethod yX1_unitsAheadBy, Cond.selects RX1 yX1_unitsAheadBy yX1_unitsAheadBy, Cond.code yX1_unitsAheadBy cX1_unitsAheadBy 6 (some .long), Cond.constantLong RX1 61 (1000), Cond.fieldLink RX1 15 "TempoMaps$Marks" "spans" "[I", Cond.methodLink RX1 63 Lib.Math.min.name, Cond.static Lib.Math.min.name, Cond.initialized "java/lang/Math", Cond.code Lib.Math.min.name Lib.Math.min.code 2 (some .int), Cond.fieldLink RX1 21 "TempoMaps$Marks" "lastPaces" "[I", Cond.fieldLink RX1 18 "TempoMaps$Marks" "firstPaces" "[I", Cond.fieldLink RX1 24 "TempoMaps$Marks" "unitsBefore" "[J", Cond.static yX3_sumOfQuotients, Cond.code yX3_sumOfQuotients cX3_sumOfQuotients 18 (some .long), Cond.constantLong RX3 115 (2), Cond.methodLink RX3 129 yJ9_floorDiv_f86c9, Cond.static yJ9_floorDiv_f86c9, Cond.initialized RJ9, Cond.code yJ9_floorDiv_f86c9 cJ9_floorDiv_f86c9 6 (some .long), Cond.methodLink RX3 132 yJ9_floorMod_f86c9, Cond.static yJ9_floorMod_f86c9, Cond.code yJ9_floorMod_f86c9 cJ9_floorMod_f86c9 6 (some .long), Cond.methodLink RX3 120 yX0_unitsUpTo, Cond.instanceMethod yX0_unitsUpTo]
def wsX3_time_r3 : List Cond := [Cond.selects RX0 yX0_unitsUpTo yX0_unitsUpTo, Cond.initialized RX0, Cond.code yX0_unitsUpTo cX0_unitsUpTo 5 (some .long), Cond.fieldLink RX0 18 "TempoMaps$Holds" "size" "I", Cond.fieldLink RX0 9 "TempoMaps$Holds" "ticks" "[I", Cond.fieldLink RX0 15 "TempoMaps$Holds" "units" "[I"]
def wsX3_time : List Cond := .code yX3_time cX3_time 2 (some .long) :: ((wsX3_time_r1 ++ (wsX3_time_r2 ++ wsX3_time_r3)) ++ wsX30 ++ wsX10 ++ wsX00)
def wsX3_firstBeginningFrom_r1 : List Cond := [Cond.constant RX3 123 (1000001), Cond.methodLink RX3 74 yX3_beginOf, Cond.instanceMethod yX3_beginOf, Cond.selects RX3 yX3_beginOf yX3_beginOf, Cond.initialized RX3, Cond.code yX3_beginOf cX3_beginOf 2 (some .long), Cond.fieldLink RX3 10 "TempoMaps" "marks" "LTempoMaps$Marks;", Cond.fieldLink RX3 19 "TempoMaps" "holds" "LTempoMaps$Holds;", Cond.methodLink RX3 117 yX1_unitsAhead, Cond.instanceMethod yX1_unitsAhead, Cond.selects RX1 yX1_unitsAhead yX1_unitsAhead, Cond.initialized RX1, Cond.code yX1_unitsAhead cX1_unitsAhead 2 (some .long), Cond.methodLink RX1 32 yX1_placeOf, Cond.instanceMethod yX1_placeOf, Cond.selects RX1 yX1_placeOf yX1_placeOf, Cond.code yX1_placeOf cX1_placeOf 3 (some .int), Cond.fieldLink RX1 28 "TempoMaps$Marks" "size" "I", Cond.fieldLink RX1 9 "TempoMaps$Marks" "ticks" "[I", Cond.methodLink RX1 51 yX1_unitsAheadBy, Cond.instanceMethod yX1_unitsAheadBy, Cond.selects RX1 yX1_unitsAheadBy yX1_unitsAheadBy, Cond.code yX1_unitsAheadBy cX1_unitsAheadBy 6 (some .long), Cond.constantLong RX1 61 (1000)]
def wsX3_firstBeginningFrom_r2 : List Cond := [Cond.fieldLink RX1 15 "TempoMaps$Marks" "spans" "[I", Cond.methodLink RX1 63 Lib.Math.min.name, Cond.static Lib.Math.min.name, Cond.initialized "java/lang/Math", Cond.code Lib.Math.min.name Lib.Math.min.code 2 (some .int), Cond.fieldLink RX1 21 "TempoMaps$Marks" "lastPaces" "[I", Cond.fieldLink RX1 18 "TempoMaps$Marks" "firstPaces" "[I", Cond.fieldLink RX1 24 "TempoMaps$Marks" "unitsBefore" "[J", Cond.static yX3_sumOfQuotients, Cond.code yX3_sumOfQuotients cX3_sumOfQuotients 18 (some .long), Cond.constantLong RX3 115 (2), Cond.methodLink RX3 129 yJ9_floorDiv_f86c9, Cond.static yJ9_floorDiv_f86c9, Cond.initialized RJ9, Cond.code yJ9_floorDiv_f86c9 cJ9_floorDiv_f86c9 6 (some .long), Cond.methodLink RX3 132 yJ9_floorMod_f86c9, Cond.static yJ9_floorMod_f86c9, Cond.code yJ9_floorMod_f86c9 cJ9_floorMod_f86c9 6 (some .long), Cond.methodLink RX3 120 yX0_unitsUpTo, Cond.instanceMethod yX0_unitsUpTo, Cond.selects RX0 yX0_unitsUpTo yX0_unitsUpTo, Cond.initialized RX0, Cond.code yX0_unitsUpTo cX0_unitsUpTo 5 (some .long), Cond.fieldLink RX0 18 "TempoMaps$Holds" "size" "I"]
def wsX3_firstBeginningFrom_r3 : List Cond := [Cond.fieldLink RX0 9 "TempoMaps$Holds" "ticks" "[I", Cond.fieldLink RX0 15 "TempoMaps$Holds" "units" "[I"]
def wsX3_firstBeginningFrom : List Cond := .code yX3_firstBeginningFrom cX3_firstBeginningFrom 7 (some .int) :: ((wsX3_firstBeginningFrom_r1 ++ (wsX3_firstBeginningFrom_r2 ++ wsX3_firstBeginningFrom_r3)) ++ wsX30 ++ wsX10 ++ wsX00)
def wsX3_lastBegun_r1 : List Cond := [Cond.constant RX3 35 (1000000), Cond.methodLink RX3 74 yX3_beginOf, Cond.instanceMethod yX3_beginOf, Cond.selects RX3 yX3_beginOf yX3_beginOf, Cond.initialized RX3, Cond.code yX3_beginOf cX3_beginOf 2 (some .long), Cond.fieldLink RX3 10 "TempoMaps" "marks" "LTempoMaps$Marks;", Cond.fieldLink RX3 19 "TempoMaps" "holds" "LTempoMaps$Holds;", Cond.methodLink RX3 117 yX1_unitsAhead, Cond.instanceMethod yX1_unitsAhead, Cond.selects RX1 yX1_unitsAhead yX1_unitsAhead, Cond.initialized RX1, Cond.code yX1_unitsAhead cX1_unitsAhead 2 (some .long), Cond.methodLink RX1 32 yX1_placeOf, Cond.instanceMethod yX1_placeOf, Cond.selects RX1 yX1_placeOf yX1_placeOf, Cond.code yX1_placeOf cX1_placeOf 3 (some .int), Cond.fieldLink RX1 28 "TempoMaps$Marks" "size" "I", Cond.fieldLink RX1 9 "TempoMaps$Marks" "ticks" "[I", Cond.methodLink RX1 51 yX1_unitsAheadBy, Cond.instanceMethod yX1_unitsAheadBy, Cond.selects RX1 yX1_unitsAheadBy yX1_unitsAheadBy, Cond.code yX1_unitsAheadBy cX1_unitsAheadBy 6 (some .long), Cond.constantLong RX1 61 (1000)]
def wsX3_lastBegun_r2 : List Cond := [Cond.fieldLink RX1 15 "TempoMaps$Marks" "spans" "[I", Cond.methodLink RX1 63 Lib.Math.min.name, Cond.static Lib.Math.min.name, Cond.initialized "java/lang/Math", Cond.code Lib.Math.min.name Lib.Math.min.code 2 (some .int), Cond.fieldLink RX1 21 "TempoMaps$Marks" "lastPaces" "[I", Cond.fieldLink RX1 18 "TempoMaps$Marks" "firstPaces" "[I", Cond.fieldLink RX1 24 "TempoMaps$Marks" "unitsBefore" "[J", Cond.static yX3_sumOfQuotients, Cond.code yX3_sumOfQuotients cX3_sumOfQuotients 18 (some .long), Cond.constantLong RX3 115 (2), Cond.methodLink RX3 129 yJ9_floorDiv_f86c9, Cond.static yJ9_floorDiv_f86c9, Cond.initialized RJ9, Cond.code yJ9_floorDiv_f86c9 cJ9_floorDiv_f86c9 6 (some .long), Cond.methodLink RX3 132 yJ9_floorMod_f86c9, Cond.static yJ9_floorMod_f86c9, Cond.code yJ9_floorMod_f86c9 cJ9_floorMod_f86c9 6 (some .long), Cond.methodLink RX3 120 yX0_unitsUpTo, Cond.instanceMethod yX0_unitsUpTo, Cond.selects RX0 yX0_unitsUpTo yX0_unitsUpTo, Cond.initialized RX0, Cond.code yX0_unitsUpTo cX0_unitsUpTo 5 (some .long), Cond.fieldLink RX0 18 "TempoMaps$Holds" "size" "I"]
def wsX3_lastBegun_r3 : List Cond := [Cond.fieldLink RX0 9 "TempoMaps$Holds" "ticks" "[I", Cond.fieldLink RX0 15 "TempoMaps$Holds" "units" "[I", Cond.methodLink RX3 89 yX3_firstBeginningFrom, Cond.instanceMethod yX3_firstBeginningFrom, Cond.selects RX3 yX3_firstBeginningFrom yX3_firstBeginningFrom, Cond.code yX3_firstBeginningFrom cX3_firstBeginningFrom 7 (some .int), Cond.constant RX3 123 (1000001)]
def wsX3_lastBegun : List Cond := .code yX3_lastBegun cX3_lastBegun 4 (some .int) :: ((wsX3_lastBegun_r1 ++ (wsX3_lastBegun_r2 ++ wsX3_lastBegun_r3)) ++ wsX30 ++ wsX10 ++ wsX00)
def wsX3_tick_r1 : List Cond := [Cond.methodLink RX3 78 yX3_lastBegun, Cond.instanceMethod yX3_lastBegun, Cond.selects RX3 yX3_lastBegun yX3_lastBegun, Cond.initialized RX3, Cond.code yX3_lastBegun cX3_lastBegun 4 (some .int), Cond.constant RX3 35 (1000000), Cond.methodLink RX3 74 yX3_beginOf, Cond.instanceMethod yX3_beginOf, Cond.selects RX3 yX3_beginOf yX3_beginOf, Cond.code yX3_beginOf cX3_beginOf 2 (some .long), Cond.fieldLink RX3 10 "TempoMaps" "marks" "LTempoMaps$Marks;", Cond.fieldLink RX3 19 "TempoMaps" "holds" "LTempoMaps$Holds;", Cond.methodLink RX3 117 yX1_unitsAhead, Cond.instanceMethod yX1_unitsAhead, Cond.selects RX1 yX1_unitsAhead yX1_unitsAhead, Cond.initialized RX1, Cond.code yX1_unitsAhead cX1_unitsAhead 2 (some .long), Cond.methodLink RX1 32 yX1_placeOf, Cond.instanceMethod yX1_placeOf, Cond.selects RX1 yX1_placeOf yX1_placeOf, Cond.code yX1_placeOf cX1_placeOf 3 (some .int), Cond.fieldLink RX1 28 "TempoMaps$Marks" "size" "I", Cond.fieldLink RX1 9 "TempoMaps$Marks" "ticks" "[I", Cond.methodLink RX1 51 yX1_unitsAheadBy]
def wsX3_tick_r2 : List Cond := [Cond.instanceMethod yX1_unitsAheadBy, Cond.selects RX1 yX1_unitsAheadBy yX1_unitsAheadBy, Cond.code yX1_unitsAheadBy cX1_unitsAheadBy 6 (some .long), Cond.constantLong RX1 61 (1000), Cond.fieldLink RX1 15 "TempoMaps$Marks" "spans" "[I", Cond.methodLink RX1 63 Lib.Math.min.name, Cond.static Lib.Math.min.name, Cond.initialized "java/lang/Math", Cond.code Lib.Math.min.name Lib.Math.min.code 2 (some .int), Cond.fieldLink RX1 21 "TempoMaps$Marks" "lastPaces" "[I", Cond.fieldLink RX1 18 "TempoMaps$Marks" "firstPaces" "[I", Cond.fieldLink RX1 24 "TempoMaps$Marks" "unitsBefore" "[J", Cond.static yX3_sumOfQuotients, Cond.code yX3_sumOfQuotients cX3_sumOfQuotients 18 (some .long), Cond.constantLong RX3 115 (2), Cond.methodLink RX3 129 yJ9_floorDiv_f86c9, Cond.static yJ9_floorDiv_f86c9, Cond.initialized RJ9, Cond.code yJ9_floorDiv_f86c9 cJ9_floorDiv_f86c9 6 (some .long), Cond.methodLink RX3 132 yJ9_floorMod_f86c9, Cond.static yJ9_floorMod_f86c9, Cond.code yJ9_floorMod_f86c9 cJ9_floorMod_f86c9 6 (some .long), Cond.methodLink RX3 120 yX0_unitsUpTo, Cond.instanceMethod yX0_unitsUpTo]
def wsX3_tick_r3 : List Cond := [Cond.selects RX0 yX0_unitsUpTo yX0_unitsUpTo, Cond.initialized RX0, Cond.code yX0_unitsUpTo cX0_unitsUpTo 5 (some .long), Cond.fieldLink RX0 18 "TempoMaps$Holds" "size" "I", Cond.fieldLink RX0 9 "TempoMaps$Holds" "ticks" "[I", Cond.fieldLink RX0 15 "TempoMaps$Holds" "units" "[I", Cond.methodLink RX3 89 yX3_firstBeginningFrom, Cond.instanceMethod yX3_firstBeginningFrom, Cond.selects RX3 yX3_firstBeginningFrom yX3_firstBeginningFrom, Cond.code yX3_firstBeginningFrom cX3_firstBeginningFrom 7 (some .int), Cond.constant RX3 123 (1000001)]
def wsX3_tick : List Cond := .code yX3_tick cX3_tick 3 (some .int) :: ((wsX3_tick_r1 ++ (wsX3_tick_r2 ++ wsX3_tick_r3)) ++ wsX30 ++ wsX10 ++ wsX00)
def wsX3_held_r1 : List Cond := [Cond.constant RX3 35 (1000000), Cond.fieldLink RX3 10 "TempoMaps" "marks" "LTempoMaps$Marks;", Cond.methodLink RX3 78 yX3_lastBegun, Cond.instanceMethod yX3_lastBegun, Cond.selects RX3 yX3_lastBegun yX3_lastBegun, Cond.initialized RX3, Cond.code yX3_lastBegun cX3_lastBegun 4 (some .int), Cond.methodLink RX3 74 yX3_beginOf, Cond.instanceMethod yX3_beginOf, Cond.selects RX3 yX3_beginOf yX3_beginOf, Cond.code yX3_beginOf cX3_beginOf 2 (some .long), Cond.fieldLink RX3 19 "TempoMaps" "holds" "LTempoMaps$Holds;", Cond.methodLink RX3 117 yX1_unitsAhead, Cond.instanceMethod yX1_unitsAhead, Cond.selects RX1 yX1_unitsAhead yX1_unitsAhead, Cond.initialized RX1, Cond.code yX1_unitsAhead cX1_unitsAhead 2 (some .long), Cond.methodLink RX1 32 yX1_placeOf, Cond.instanceMethod yX1_placeOf, Cond.selects RX1 yX1_placeOf yX1_placeOf, Cond.code yX1_placeOf cX1_placeOf 3 (some .int), Cond.fieldLink RX1 28 "TempoMaps$Marks" "size" "I", Cond.fieldLink RX1 9 "TempoMaps$Marks" "ticks" "[I", Cond.methodLink RX1 51 yX1_unitsAheadBy]
def wsX3_held_r2 : List Cond := [Cond.instanceMethod yX1_unitsAheadBy, Cond.selects RX1 yX1_unitsAheadBy yX1_unitsAheadBy, Cond.code yX1_unitsAheadBy cX1_unitsAheadBy 6 (some .long), Cond.constantLong RX1 61 (1000), Cond.fieldLink RX1 15 "TempoMaps$Marks" "spans" "[I", Cond.methodLink RX1 63 Lib.Math.min.name, Cond.static Lib.Math.min.name, Cond.initialized "java/lang/Math", Cond.code Lib.Math.min.name Lib.Math.min.code 2 (some .int), Cond.fieldLink RX1 21 "TempoMaps$Marks" "lastPaces" "[I", Cond.fieldLink RX1 18 "TempoMaps$Marks" "firstPaces" "[I", Cond.fieldLink RX1 24 "TempoMaps$Marks" "unitsBefore" "[J", Cond.static yX3_sumOfQuotients, Cond.code yX3_sumOfQuotients cX3_sumOfQuotients 18 (some .long), Cond.constantLong RX3 115 (2), Cond.methodLink RX3 129 yJ9_floorDiv_f86c9, Cond.static yJ9_floorDiv_f86c9, Cond.initialized RJ9, Cond.code yJ9_floorDiv_f86c9 cJ9_floorDiv_f86c9 6 (some .long), Cond.methodLink RX3 132 yJ9_floorMod_f86c9, Cond.static yJ9_floorMod_f86c9, Cond.code yJ9_floorMod_f86c9 cJ9_floorMod_f86c9 6 (some .long), Cond.methodLink RX3 120 yX0_unitsUpTo, Cond.instanceMethod yX0_unitsUpTo]
def wsX3_held_r3 : List Cond := [Cond.selects RX0 yX0_unitsUpTo yX0_unitsUpTo, Cond.initialized RX0, Cond.code yX0_unitsUpTo cX0_unitsUpTo 5 (some .long), Cond.fieldLink RX0 18 "TempoMaps$Holds" "size" "I", Cond.fieldLink RX0 9 "TempoMaps$Holds" "ticks" "[I", Cond.fieldLink RX0 15 "TempoMaps$Holds" "units" "[I", Cond.methodLink RX3 89 yX3_firstBeginningFrom, Cond.instanceMethod yX3_firstBeginningFrom, Cond.selects RX3 yX3_firstBeginningFrom yX3_firstBeginningFrom, Cond.code yX3_firstBeginningFrom cX3_firstBeginningFrom 7 (some .int), Cond.constant RX3 123 (1000001), Cond.methodLink RX3 52 yX1_unitsOfTick, Cond.instanceMethod yX1_unitsOfTick, Cond.selects RX1 yX1_unitsOfTick yX1_unitsOfTick, Cond.code yX1_unitsOfTick cX1_unitsOfTick 6 (some .int), Cond.methodLink RX1 55 yJ9_floorDiv_7cf53, Cond.static yJ9_floorDiv_7cf53, Cond.code yJ9_floorDiv_7cf53 cJ9_floorDiv_7cf53 3 (some .int)]
def wsX3_held : List Cond := .code yX3_held cX3_held 4 (some .int) :: ((wsX3_held_r1 ++ (wsX3_held_r2 ++ wsX3_held_r3)) ++ wsX30 ++ wsX10 ++ wsX00)
def wsX3_framesAt_r1 : List Cond := [Cond.constantLong RX3 87 (1000000), Cond.methodLink RX3 74 yX3_beginOf, Cond.instanceMethod yX3_beginOf, Cond.selects RX3 yX3_beginOf yX3_beginOf, Cond.initialized RX3, Cond.code yX3_beginOf cX3_beginOf 2 (some .long), Cond.fieldLink RX3 10 "TempoMaps" "marks" "LTempoMaps$Marks;", Cond.fieldLink RX3 19 "TempoMaps" "holds" "LTempoMaps$Holds;", Cond.methodLink RX3 117 yX1_unitsAhead, Cond.instanceMethod yX1_unitsAhead, Cond.selects RX1 yX1_unitsAhead yX1_unitsAhead, Cond.initialized RX1, Cond.code yX1_unitsAhead cX1_unitsAhead 2 (some .long), Cond.methodLink RX1 32 yX1_placeOf, Cond.instanceMethod yX1_placeOf, Cond.selects RX1 yX1_placeOf yX1_placeOf, Cond.code yX1_placeOf cX1_placeOf 3 (some .int), Cond.fieldLink RX1 28 "TempoMaps$Marks" "size" "I", Cond.fieldLink RX1 9 "TempoMaps$Marks" "ticks" "[I", Cond.methodLink RX1 51 yX1_unitsAheadBy, Cond.instanceMethod yX1_unitsAheadBy, Cond.selects RX1 yX1_unitsAheadBy yX1_unitsAheadBy, Cond.code yX1_unitsAheadBy cX1_unitsAheadBy 6 (some .long), Cond.constantLong RX1 61 (1000)]
def wsX3_framesAt_r2 : List Cond := [Cond.fieldLink RX1 15 "TempoMaps$Marks" "spans" "[I", Cond.methodLink RX1 63 Lib.Math.min.name, Cond.static Lib.Math.min.name, Cond.initialized "java/lang/Math", Cond.code Lib.Math.min.name Lib.Math.min.code 2 (some .int), Cond.fieldLink RX1 21 "TempoMaps$Marks" "lastPaces" "[I", Cond.fieldLink RX1 18 "TempoMaps$Marks" "firstPaces" "[I", Cond.fieldLink RX1 24 "TempoMaps$Marks" "unitsBefore" "[J", Cond.static yX3_sumOfQuotients, Cond.code yX3_sumOfQuotients cX3_sumOfQuotients 18 (some .long), Cond.constantLong RX3 115 (2), Cond.methodLink RX3 129 yJ9_floorDiv_f86c9, Cond.static yJ9_floorDiv_f86c9, Cond.initialized RJ9, Cond.code yJ9_floorDiv_f86c9 cJ9_floorDiv_f86c9 6 (some .long), Cond.methodLink RX3 132 yJ9_floorMod_f86c9, Cond.static yJ9_floorMod_f86c9, Cond.code yJ9_floorMod_f86c9 cJ9_floorMod_f86c9 6 (some .long), Cond.methodLink RX3 120 yX0_unitsUpTo, Cond.instanceMethod yX0_unitsUpTo, Cond.selects RX0 yX0_unitsUpTo yX0_unitsUpTo, Cond.initialized RX0, Cond.code yX0_unitsUpTo cX0_unitsUpTo 5 (some .long), Cond.fieldLink RX0 18 "TempoMaps$Holds" "size" "I"]
def wsX3_framesAt_r3 : List Cond := [Cond.fieldLink RX0 9 "TempoMaps$Holds" "ticks" "[I", Cond.fieldLink RX0 15 "TempoMaps$Holds" "units" "[I"]
def wsX3_framesAt : List Cond := .code yX3_framesAt cX3_framesAt 3 (some .long) :: ((wsX3_framesAt_r1 ++ (wsX3_framesAt_r2 ++ wsX3_framesAt_r3)) ++ wsX30 ++ wsX10 ++ wsX00)
def wsX3_frame_r1 : List Cond := [Cond.constant RX3 35 (1000000), Cond.constant RX3 82 (192000), Cond.constantLong RX3 72 (-2), Cond.methodLink RX3 31 yX3_isWithin, Cond.static yX3_isWithin, Cond.initialized RX3, Cond.code yX3_isWithin cX3_isWithin 3 (some .boolean), Cond.methodLink RX3 83 yX3_framesAt, Cond.instanceMethod yX3_framesAt, Cond.selects RX3 yX3_framesAt yX3_framesAt, Cond.code yX3_framesAt cX3_framesAt 3 (some .long), Cond.constantLong RX3 87 (1000000), Cond.methodLink RX3 74 yX3_beginOf, Cond.instanceMethod yX3_beginOf, Cond.selects RX3 yX3_beginOf yX3_beginOf, Cond.code yX3_beginOf cX3_beginOf 2 (some .long), Cond.fieldLink RX3 10 "TempoMaps" "marks" "LTempoMaps$Marks;", Cond.fieldLink RX3 19 "TempoMaps" "holds" "LTempoMaps$Holds;", Cond.methodLink RX3 117 yX1_unitsAhead, Cond.instanceMethod yX1_unitsAhead, Cond.selects RX1 yX1_unitsAhead yX1_unitsAhead, Cond.initialized RX1, Cond.code yX1_unitsAhead cX1_unitsAhead 2 (some .long), Cond.methodLink RX1 32 yX1_placeOf]
def wsX3_frame_r2 : List Cond := [Cond.instanceMethod yX1_placeOf, Cond.selects RX1 yX1_placeOf yX1_placeOf, Cond.code yX1_placeOf cX1_placeOf 3 (some .int), Cond.fieldLink RX1 28 "TempoMaps$Marks" "size" "I", Cond.fieldLink RX1 9 "TempoMaps$Marks" "ticks" "[I", Cond.methodLink RX1 51 yX1_unitsAheadBy, Cond.instanceMethod yX1_unitsAheadBy, Cond.selects RX1 yX1_unitsAheadBy yX1_unitsAheadBy, Cond.code yX1_unitsAheadBy cX1_unitsAheadBy 6 (some .long), Cond.constantLong RX1 61 (1000), Cond.fieldLink RX1 15 "TempoMaps$Marks" "spans" "[I", Cond.methodLink RX1 63 Lib.Math.min.name, Cond.static Lib.Math.min.name, Cond.initialized "java/lang/Math", Cond.code Lib.Math.min.name Lib.Math.min.code 2 (some .int), Cond.fieldLink RX1 21 "TempoMaps$Marks" "lastPaces" "[I", Cond.fieldLink RX1 18 "TempoMaps$Marks" "firstPaces" "[I", Cond.fieldLink RX1 24 "TempoMaps$Marks" "unitsBefore" "[J", Cond.static yX3_sumOfQuotients, Cond.code yX3_sumOfQuotients cX3_sumOfQuotients 18 (some .long), Cond.constantLong RX3 115 (2), Cond.methodLink RX3 129 yJ9_floorDiv_f86c9, Cond.static yJ9_floorDiv_f86c9, Cond.initialized RJ9]
def wsX3_frame_r3 : List Cond := [Cond.code yJ9_floorDiv_f86c9 cJ9_floorDiv_f86c9 6 (some .long), Cond.methodLink RX3 132 yJ9_floorMod_f86c9, Cond.static yJ9_floorMod_f86c9, Cond.code yJ9_floorMod_f86c9 cJ9_floorMod_f86c9 6 (some .long), Cond.methodLink RX3 120 yX0_unitsUpTo, Cond.instanceMethod yX0_unitsUpTo, Cond.selects RX0 yX0_unitsUpTo yX0_unitsUpTo, Cond.initialized RX0, Cond.code yX0_unitsUpTo cX0_unitsUpTo 5 (some .long), Cond.fieldLink RX0 18 "TempoMaps$Holds" "size" "I", Cond.fieldLink RX0 9 "TempoMaps$Holds" "ticks" "[I", Cond.fieldLink RX0 15 "TempoMaps$Holds" "units" "[I"]
def wsX3_frame : List Cond := .code yX3_frame cX3_frame 3 (some .long) :: ((wsX3_frame_r1 ++ (wsX3_frame_r2 ++ wsX3_frame_r3)) ++ wsX30 ++ wsX10 ++ wsX00)
def wsX3_tickOf_r1 : List Cond := [Cond.constant RX3 82 (192000), Cond.constant RX3 35 (1000000), Cond.constantLong RX3 87 (1000000), Cond.methodLink RX3 31 yX3_isWithin, Cond.static yX3_isWithin, Cond.initialized RX3, Cond.code yX3_isWithin cX3_isWithin 3 (some .boolean), Cond.methodLink RX3 83 yX3_framesAt, Cond.instanceMethod yX3_framesAt, Cond.selects RX3 yX3_framesAt yX3_framesAt, Cond.code yX3_framesAt cX3_framesAt 3 (some .long), Cond.methodLink RX3 74 yX3_beginOf, Cond.instanceMethod yX3_beginOf, Cond.selects RX3 yX3_beginOf yX3_beginOf, Cond.code yX3_beginOf cX3_beginOf 2 (some .long), Cond.fieldLink RX3 10 "TempoMaps" "marks" "LTempoMaps$Marks;", Cond.fieldLink RX3 19 "TempoMaps" "holds" "LTempoMaps$Holds;", Cond.methodLink RX3 117 yX1_unitsAhead, Cond.instanceMethod yX1_unitsAhead, Cond.selects RX1 yX1_unitsAhead yX1_unitsAhead, Cond.initialized RX1, Cond.code yX1_unitsAhead cX1_unitsAhead 2 (some .long), Cond.methodLink RX1 32 yX1_placeOf, Cond.instanceMethod yX1_placeOf]
def wsX3_tickOf_r2 : List Cond := [Cond.selects RX1 yX1_placeOf yX1_placeOf, Cond.code yX1_placeOf cX1_placeOf 3 (some .int), Cond.fieldLink RX1 28 "TempoMaps$Marks" "size" "I", Cond.fieldLink RX1 9 "TempoMaps$Marks" "ticks" "[I", Cond.methodLink RX1 51 yX1_unitsAheadBy, Cond.instanceMethod yX1_unitsAheadBy, Cond.selects RX1 yX1_unitsAheadBy yX1_unitsAheadBy, Cond.code yX1_unitsAheadBy cX1_unitsAheadBy 6 (some .long), Cond.constantLong RX1 61 (1000), Cond.fieldLink RX1 15 "TempoMaps$Marks" "spans" "[I", Cond.methodLink RX1 63 Lib.Math.min.name, Cond.static Lib.Math.min.name, Cond.initialized "java/lang/Math", Cond.code Lib.Math.min.name Lib.Math.min.code 2 (some .int), Cond.fieldLink RX1 21 "TempoMaps$Marks" "lastPaces" "[I", Cond.fieldLink RX1 18 "TempoMaps$Marks" "firstPaces" "[I", Cond.fieldLink RX1 24 "TempoMaps$Marks" "unitsBefore" "[J", Cond.static yX3_sumOfQuotients, Cond.code yX3_sumOfQuotients cX3_sumOfQuotients 18 (some .long), Cond.constantLong RX3 115 (2), Cond.methodLink RX3 129 yJ9_floorDiv_f86c9, Cond.static yJ9_floorDiv_f86c9, Cond.initialized RJ9, Cond.code yJ9_floorDiv_f86c9 cJ9_floorDiv_f86c9 6 (some .long)]
def wsX3_tickOf_r3 : List Cond := [Cond.methodLink RX3 132 yJ9_floorMod_f86c9, Cond.static yJ9_floorMod_f86c9, Cond.code yJ9_floorMod_f86c9 cJ9_floorMod_f86c9 6 (some .long), Cond.methodLink RX3 120 yX0_unitsUpTo, Cond.instanceMethod yX0_unitsUpTo, Cond.selects RX0 yX0_unitsUpTo yX0_unitsUpTo, Cond.initialized RX0, Cond.code yX0_unitsUpTo cX0_unitsUpTo 5 (some .long), Cond.fieldLink RX0 18 "TempoMaps$Holds" "size" "I", Cond.fieldLink RX0 9 "TempoMaps$Holds" "ticks" "[I", Cond.fieldLink RX0 15 "TempoMaps$Holds" "units" "[I", Cond.methodLink RX3 89 yX3_firstBeginningFrom, Cond.instanceMethod yX3_firstBeginningFrom, Cond.selects RX3 yX3_firstBeginningFrom yX3_firstBeginningFrom, Cond.code yX3_firstBeginningFrom cX3_firstBeginningFrom 7 (some .int), Cond.constant RX3 123 (1000001)]
def wsX3_tickOf : List Cond := .code yX3_tickOf cX3_tickOf 6 (some .int) :: ((wsX3_tickOf_r1 ++ (wsX3_tickOf_r2 ++ wsX3_tickOf_r3)) ++ wsX30 ++ wsX10 ++ wsX00)
def wsX3_tap : List Cond := .code yX3_tap cX3_tap 3 (some .int) :: ([.constantLong RX3 92 (1000000000000), .fieldLink RX3 26 "TempoMaps" "taps" "LTempoMaps$Taps;", .methodLink RX3 94 yX2_add, .instanceMethod yX2_add, .selects RX2 yX2_add yX2_add, .initialized RX2, .code yX2_add cX2_add 3 (some .int), .fieldLink RX2 15 "TempoMaps$Taps" "size" "I", .fieldLink RX2 9 "TempoMaps$Taps" "times" "[J"] ++ wsX30 ++ wsX20)
def wsX3_noTaps : List Cond := .code yX3_noTaps cX3_noTaps 1 (some .int) :: ([.fieldLink RX3 26 "TempoMaps" "taps" "LTempoMaps$Taps;", .methodLink RX3 97 yX2_removeAll, .instanceMethod yX2_removeAll, .selects RX2 yX2_removeAll yX2_removeAll, .initialized RX2, .code yX2_removeAll cX2_removeAll 2 (some .int), .fieldLink RX2 15 "TempoMaps$Taps" "size" "I"] ++ wsX30 ++ wsX20)
def wsX3_commonDivisor : List Cond := .code yX3_commonDivisor cX3_commonDivisor 11 (some .long) :: ([.methodLink RX3 124 Lib.MathLoose.max_long.x, .static Lib.MathLoose.max_long.x, .initialized "java/lang/Math", .code Lib.MathLoose.max_long.x Lib.MathLoose.max_long.code 4 (some .long)])
def wsX3_fit : List Cond := .code yX3_fit cX3_fit 8 (some .long) :: ([.constantLong RX3 72 (-2), .fieldLink RX3 26 "TempoMaps" "taps" "LTempoMaps$Taps;", .constantLong RX3 101 (-3), .methodLink RX3 103 yX2_above, .instanceMethod yX2_above, .selects RX2 yX2_above yX2_above, .initialized RX2, .code yX2_above cX2_above 8 (some .long), .fieldLink RX2 15 "TempoMaps$Taps" "size" "I", .fieldLink RX2 9 "TempoMaps$Taps" "times" "[J", .methodLink RX3 107 yX2_below, .instanceMethod yX2_below, .selects RX2 yX2_below yX2_below, .code yX2_below cX2_below 6 (some .long), .methodLink RX3 110 yX3_commonDivisor, .static yX3_commonDivisor, .initialized RX3, .code yX3_commonDivisor cX3_commonDivisor 11 (some .long), .methodLink RX3 124 Lib.MathLoose.max_long.x, .static Lib.MathLoose.max_long.x, .initialized "java/lang/Math", .code Lib.MathLoose.max_long.x Lib.MathLoose.max_long.code 4 (some .long)] ++ wsX30 ++ wsX20)
def wsX3_pace : List Cond := .code yX3_pace cX3_pace 8 (some .long) :: ([.constant RX3 114 (100000), .constantLong RX3 72 (-2), .fieldLink RX3 26 "TempoMaps" "taps" "LTempoMaps$Taps;", .constantLong RX3 101 (-3), .constantLong RX3 115 (2), .methodLink RX3 31 yX3_isWithin, .static yX3_isWithin, .initialized RX3, .code yX3_isWithin cX3_isWithin 3 (some .boolean), .methodLink RX3 103 yX2_above, .instanceMethod yX2_above, .selects RX2 yX2_above yX2_above, .initialized RX2, .code yX2_above cX2_above 8 (some .long), .fieldLink RX2 15 "TempoMaps$Taps" "size" "I", .fieldLink RX2 9 "TempoMaps$Taps" "times" "[J", .methodLink RX3 107 yX2_below, .instanceMethod yX2_below, .selects RX2 yX2_below yX2_below, .code yX2_below cX2_below 6 (some .long)] ++ wsX30 ++ wsX20)
def wsX4_init : List Cond := .code yX4_init cX4_init 1 none :: ([.methodLink RX4 1 objectInit, .instanceMethod objectInit, .code objectInit ⟨#[0xb1]⟩ 1 none, .arrayClass .int, .fieldLink RX4 7 "TempoMapsModel" "markTick" "[I", .fieldLink RX4 13 "TempoMapsModel" "markLong" "[I", .fieldLink RX4 16 "TempoMapsModel" "markFrom" "[I", .fieldLink RX4 19 "TempoMapsModel" "markTo" "[I", .fieldLink RX4 22 "TempoMapsModel" "holdTick" "[I", .fieldLink RX4 25 "TempoMapsModel" "holdUnits" "[I", .arrayClass .long, .fieldLink RX4 28 "TempoMapsModel" "taps" "[J", .fieldLink RX4 32 "TempoMapsModel" "marks" "I"] ++ wsX40)
def wsX4_in : List Cond := .code yX4_in cX4_in 6 (some .boolean) :: ([])
def wsX4_markAt : List Cond := .code yX4_markAt cX4_markAt 4 (some .int) :: ([.fieldLink RX4 32 "TempoMapsModel" "marks" "I", .fieldLink RX4 7 "TempoMapsModel" "markTick" "[I"] ++ wsX40)
def wsX4_isWithin : List Cond := .code yX4_isWithin cX4_isWithin 5 (some .boolean) :: ([.fieldLink RX4 32 "TempoMapsModel" "marks" "I", .fieldLink RX4 7 "TempoMapsModel" "markTick" "[I", .fieldLink RX4 13 "TempoMapsModel" "markLong" "[I"] ++ wsX40)
def wsX4_holdsOther : List Cond := .code yX4_holdsOther cX4_holdsOther 5 (some .boolean) :: ([.fieldLink RX4 32 "TempoMapsModel" "marks" "I", .fieldLink RX4 7 "TempoMapsModel" "markTick" "[I"] ++ wsX40)
def wsX4_put : List Cond := .code yX4_put cX4_put 6 (some .int) :: ([.fieldLink RX4 32 "TempoMapsModel" "marks" "I", .fieldLink RX4 7 "TempoMapsModel" "markTick" "[I", .fieldLink RX4 13 "TempoMapsModel" "markLong" "[I", .fieldLink RX4 16 "TempoMapsModel" "markFrom" "[I", .fieldLink RX4 19 "TempoMapsModel" "markTo" "[I", .methodLink RX4 36 yX4_markAt, .instanceMethod yX4_markAt, .selects RX4 yX4_markAt yX4_markAt, .initialized RX4, .code yX4_markAt cX4_markAt 4 (some .int), .methodLink RX4 40 yX4_isWithin, .instanceMethod yX4_isWithin, .selects RX4 yX4_isWithin yX4_isWithin, .code yX4_isWithin cX4_isWithin 5 (some .boolean), .methodLink RX4 44 yX4_holdsOther, .instanceMethod yX4_holdsOther, .selects RX4 yX4_holdsOther yX4_holdsOther, .code yX4_holdsOther cX4_holdsOther 5 (some .boolean)] ++ wsX40)
def wsX4_step_r1 : List Cond := [Cond.constantLong RX4 47 (999999), Cond.constantLong RX4 53 (1000000), Cond.methodLink RX4 49 yX4_in, Cond.static yX4_in, Cond.initialized RX4, Cond.code yX4_in cX4_in 6 (some .boolean), Cond.methodLink RX4 55 yX4_put, Cond.instanceMethod yX4_put, Cond.selects RX4 yX4_put yX4_put, Cond.code yX4_put cX4_put 6 (some .int), Cond.fieldLink RX4 32 "TempoMapsModel" "marks" "I", Cond.fieldLink RX4 7 "TempoMapsModel" "markTick" "[I", Cond.fieldLink RX4 13 "TempoMapsModel" "markLong" "[I", Cond.fieldLink RX4 16 "TempoMapsModel" "markFrom" "[I", Cond.fieldLink RX4 19 "TempoMapsModel" "markTo" "[I", Cond.methodLink RX4 36 yX4_markAt, Cond.instanceMethod yX4_markAt, Cond.selects RX4 yX4_markAt yX4_markAt, Cond.code yX4_markAt cX4_markAt 4 (some .int), Cond.methodLink RX4 40 yX4_isWithin, Cond.instanceMethod yX4_isWithin, Cond.selects RX4 yX4_isWithin yX4_isWithin, Cond.code yX4_isWithin cX4_isWithin 5 (some .boolean), Cond.methodLink RX4 44 yX4_holdsOther]
def wsX4_step_r2 : List Cond := [Cond.instanceMethod yX4_holdsOther, Cond.selects RX4 yX4_holdsOther yX4_holdsOther, Cond.code yX4_holdsOther cX4_holdsOther 5 (some .boolean)]
def wsX4_step : List Cond := .code yX4_step cX4_step 3 (some .int) :: ((wsX4_step_r1 ++ wsX4_step_r2) ++ wsX40)
def wsX4_slope_r1 : List Cond := [Cond.constantLong RX4 47 (999999), Cond.constantLong RX4 59 (2000), Cond.constantLong RX4 53 (1000000), Cond.constant RX4 61 (1000000), Cond.methodLink RX4 49 yX4_in, Cond.static yX4_in, Cond.initialized RX4, Cond.code yX4_in cX4_in 6 (some .boolean), Cond.methodLink RX4 55 yX4_put, Cond.instanceMethod yX4_put, Cond.selects RX4 yX4_put yX4_put, Cond.code yX4_put cX4_put 6 (some .int), Cond.fieldLink RX4 32 "TempoMapsModel" "marks" "I", Cond.fieldLink RX4 7 "TempoMapsModel" "markTick" "[I", Cond.fieldLink RX4 13 "TempoMapsModel" "markLong" "[I", Cond.fieldLink RX4 16 "TempoMapsModel" "markFrom" "[I", Cond.fieldLink RX4 19 "TempoMapsModel" "markTo" "[I", Cond.methodLink RX4 36 yX4_markAt, Cond.instanceMethod yX4_markAt, Cond.selects RX4 yX4_markAt yX4_markAt, Cond.code yX4_markAt cX4_markAt 4 (some .int), Cond.methodLink RX4 40 yX4_isWithin, Cond.instanceMethod yX4_isWithin, Cond.selects RX4 yX4_isWithin yX4_isWithin]
def wsX4_slope_r2 : List Cond := [Cond.code yX4_isWithin cX4_isWithin 5 (some .boolean), Cond.methodLink RX4 44 yX4_holdsOther, Cond.instanceMethod yX4_holdsOther, Cond.selects RX4 yX4_holdsOther yX4_holdsOther, Cond.code yX4_holdsOther cX4_holdsOther 5 (some .boolean)]
def wsX4_slope : List Cond := .code yX4_slope cX4_slope 5 (some .int) :: ((wsX4_slope_r1 ++ wsX4_slope_r2) ++ wsX40)
def wsX4_markOf : List Cond := .code yX4_markOf cX4_markOf 4 (some .int) :: ([.fieldLink RX4 32 "TempoMapsModel" "marks" "I", .fieldLink RX4 7 "TempoMapsModel" "markTick" "[I"] ++ wsX40)
def wsX4_paceAt : List Cond := .code yX4_paceAt cX4_paceAt 10 (some .int) :: ([.fieldLink RX4 7 "TempoMapsModel" "markTick" "[I", .fieldLink RX4 13 "TempoMapsModel" "markLong" "[I", .fieldLink RX4 19 "TempoMapsModel" "markTo" "[I", .fieldLink RX4 16 "TempoMapsModel" "markFrom" "[I", .methodLink RX4 80 yX4_markOf, .instanceMethod yX4_markOf, .selects RX4 yX4_markOf yX4_markOf, .initialized RX4, .code yX4_markOf cX4_markOf 4 (some .int), .fieldLink RX4 32 "TempoMapsModel" "marks" "I"] ++ wsX40)
def wsX4_lasts : List Cond := .code yX4_lasts cX4_lasts 2 (some .int) :: ([.constantLong RX4 47 (999999), .methodLink RX4 49 yX4_in, .static yX4_in, .initialized RX4, .code yX4_in cX4_in 6 (some .boolean), .methodLink RX4 83 yX4_paceAt, .instanceMethod yX4_paceAt, .selects RX4 yX4_paceAt yX4_paceAt, .code yX4_paceAt cX4_paceAt 10 (some .int), .fieldLink RX4 7 "TempoMapsModel" "markTick" "[I", .fieldLink RX4 13 "TempoMapsModel" "markLong" "[I", .fieldLink RX4 19 "TempoMapsModel" "markTo" "[I", .fieldLink RX4 16 "TempoMapsModel" "markFrom" "[I", .methodLink RX4 80 yX4_markOf, .instanceMethod yX4_markOf, .selects RX4 yX4_markOf yX4_markOf, .code yX4_markOf cX4_markOf 4 (some .int), .fieldLink RX4 32 "TempoMapsModel" "marks" "I"] ++ wsX40)
def wsX4_modulate_r1 : List Cond := [Cond.constantLong RX4 47 (999999), Cond.constantLong RX4 62 (1000), Cond.constantLong RX4 53 (1000000), Cond.methodLink RX4 49 yX4_in, Cond.static yX4_in, Cond.initialized RX4, Cond.code yX4_in cX4_in 6 (some .boolean), Cond.methodLink RX4 64 yX4_lasts, Cond.instanceMethod yX4_lasts, Cond.selects RX4 yX4_lasts yX4_lasts, Cond.code yX4_lasts cX4_lasts 2 (some .int), Cond.methodLink RX4 83 yX4_paceAt, Cond.instanceMethod yX4_paceAt, Cond.selects RX4 yX4_paceAt yX4_paceAt, Cond.code yX4_paceAt cX4_paceAt 10 (some .int), Cond.fieldLink RX4 7 "TempoMapsModel" "markTick" "[I", Cond.fieldLink RX4 13 "TempoMapsModel" "markLong" "[I", Cond.fieldLink RX4 19 "TempoMapsModel" "markTo" "[I", Cond.fieldLink RX4 16 "TempoMapsModel" "markFrom" "[I", Cond.methodLink RX4 80 yX4_markOf, Cond.instanceMethod yX4_markOf, Cond.selects RX4 yX4_markOf yX4_markOf, Cond.code yX4_markOf cX4_markOf 4 (some .int), Cond.fieldLink RX4 32 "TempoMapsModel" "marks" "I"]
def wsX4_modulate_r2 : List Cond := [Cond.methodLink RX4 55 yX4_put, Cond.instanceMethod yX4_put, Cond.selects RX4 yX4_put yX4_put, Cond.code yX4_put cX4_put 6 (some .int), Cond.methodLink RX4 36 yX4_markAt, Cond.instanceMethod yX4_markAt, Cond.selects RX4 yX4_markAt yX4_markAt, Cond.code yX4_markAt cX4_markAt 4 (some .int), Cond.methodLink RX4 40 yX4_isWithin, Cond.instanceMethod yX4_isWithin, Cond.selects RX4 yX4_isWithin yX4_isWithin, Cond.code yX4_isWithin cX4_isWithin 5 (some .boolean), Cond.methodLink RX4 44 yX4_holdsOther, Cond.instanceMethod yX4_holdsOther, Cond.selects RX4 yX4_holdsOther yX4_holdsOther, Cond.code yX4_holdsOther cX4_holdsOther 5 (some .boolean)]
def wsX4_modulate : List Cond := .code yX4_modulate cX4_modulate 7 (some .int) :: ((wsX4_modulate_r1 ++ wsX4_modulate_r2) ++ wsX40)
def wsX4_drop : List Cond := .code yX4_drop cX4_drop 3 (some .int) :: ([.fieldLink RX4 32 "TempoMapsModel" "marks" "I", .fieldLink RX4 7 "TempoMapsModel" "markTick" "[I", .fieldLink RX4 13 "TempoMapsModel" "markLong" "[I", .fieldLink RX4 16 "TempoMapsModel" "markFrom" "[I", .fieldLink RX4 19 "TempoMapsModel" "markTo" "[I", .methodLink RX4 36 yX4_markAt, .instanceMethod yX4_markAt, .selects RX4 yX4_markAt yX4_markAt, .initialized RX4, .code yX4_markAt cX4_markAt 4 (some .int)] ++ wsX40)
def wsX4_holdAt : List Cond := .code yX4_holdAt cX4_holdAt 4 (some .int) :: ([.fieldLink RX4 67 "TempoMapsModel" "holds" "I", .fieldLink RX4 22 "TempoMapsModel" "holdTick" "[I"] ++ wsX40)
def wsX4_hold : List Cond := .code yX4_hold cX4_hold 4 (some .int) :: ([.constantLong RX4 53 (1000000), .constantLong RX4 70 (1000000000), .fieldLink RX4 67 "TempoMapsModel" "holds" "I", .fieldLink RX4 22 "TempoMapsModel" "holdTick" "[I", .fieldLink RX4 25 "TempoMapsModel" "holdUnits" "[I", .methodLink RX4 49 yX4_in, .static yX4_in, .initialized RX4, .code yX4_in cX4_in 6 (some .boolean), .methodLink RX4 72 yX4_holdAt, .instanceMethod yX4_holdAt, .selects RX4 yX4_holdAt yX4_holdAt, .code yX4_holdAt cX4_holdAt 4 (some .int)] ++ wsX40)
def wsX4_mark : List Cond := .code yX4_mark cX4_mark 7 (some .int) :: ([.constantLong RX4 75 (4), .fieldLink RX4 32 "TempoMapsModel" "marks" "I", .fieldLink RX4 7 "TempoMapsModel" "markTick" "[I", .fieldLink RX4 13 "TempoMapsModel" "markLong" "[I", .fieldLink RX4 16 "TempoMapsModel" "markFrom" "[I", .fieldLink RX4 19 "TempoMapsModel" "markTo" "[I", .methodLink RX4 49 yX4_in, .static yX4_in, .initialized RX4, .code yX4_in cX4_in 6 (some .boolean)] ++ wsX40)
def wsX4_count : List Cond := .code yX4_count cX4_count 2 (some .int) :: ([.fieldLink RX4 32 "TempoMapsModel" "marks" "I", .fieldLink RX4 67 "TempoMapsModel" "holds" "I", .fieldLink RX4 77 "TempoMapsModel" "tapMany" "I"] ++ wsX40)
def wsX4_alikeTo : List Cond := .code yX4_alikeTo cX4_alikeTo 6 (some .int) :: ([.fieldLink RX4 7 "TempoMapsModel" "markTick" "[I", .fieldLink RX4 13 "TempoMapsModel" "markLong" "[I", .fieldLink RX4 32 "TempoMapsModel" "marks" "I", .methodLink RX4 80 yX4_markOf, .instanceMethod yX4_markOf, .selects RX4 yX4_markOf yX4_markOf, .initialized RX4, .code yX4_markOf cX4_markOf 4 (some .int)] ++ wsX40)
def wsX4_heldAt : List Cond := .code yX4_heldAt cX4_heldAt 3 (some .int) :: ([.fieldLink RX4 25 "TempoMapsModel" "holdUnits" "[I", .methodLink RX4 72 yX4_holdAt, .instanceMethod yX4_holdAt, .selects RX4 yX4_holdAt yX4_holdAt, .initialized RX4, .code yX4_holdAt cX4_holdAt 4 (some .int), .fieldLink RX4 67 "TempoMapsModel" "holds" "I", .fieldLink RX4 22 "TempoMapsModel" "holdTick" "[I"] ++ wsX40)
def wsX4_time_r1 : List Cond := [Cond.constantLong RX4 53 (1000000), Cond.constantLong RX4 86 (-2), Cond.fieldLink RX4 67 "TempoMapsModel" "holds" "I", Cond.fieldLink RX4 22 "TempoMapsModel" "holdTick" "[I", Cond.fieldLink RX4 25 "TempoMapsModel" "holdUnits" "[I", Cond.methodLink RX4 49 yX4_in, Cond.static yX4_in, Cond.initialized RX4, Cond.code yX4_in cX4_in 6 (some .boolean), Cond.methodLink RX4 88 yX4_alikeTo, Cond.instanceMethod yX4_alikeTo, Cond.selects RX4 yX4_alikeTo yX4_alikeTo, Cond.code yX4_alikeTo cX4_alikeTo 6 (some .int), Cond.fieldLink RX4 7 "TempoMapsModel" "markTick" "[I", Cond.fieldLink RX4 13 "TempoMapsModel" "markLong" "[I", Cond.fieldLink RX4 32 "TempoMapsModel" "marks" "I", Cond.methodLink RX4 80 yX4_markOf, Cond.instanceMethod yX4_markOf, Cond.selects RX4 yX4_markOf yX4_markOf, Cond.code yX4_markOf cX4_markOf 4 (some .int), Cond.methodLink RX4 83 yX4_paceAt, Cond.instanceMethod yX4_paceAt, Cond.selects RX4 yX4_paceAt yX4_paceAt, Cond.code yX4_paceAt cX4_paceAt 10 (some .int)]
def wsX4_time_r2 : List Cond := [Cond.fieldLink RX4 19 "TempoMapsModel" "markTo" "[I", Cond.fieldLink RX4 16 "TempoMapsModel" "markFrom" "[I"]
def wsX4_time : List Cond := .code yX4_time cX4_time 6 (some .long) :: ((wsX4_time_r1 ++ wsX4_time_r2) ++ wsX40)
def wsX4_lastBegun_r1 : List Cond := [Cond.fieldLink RX4 95 "TempoMapsModel" "begunAt" "J", Cond.constant RX4 61 (1000000), Cond.fieldLink RX4 67 "TempoMapsModel" "holds" "I", Cond.fieldLink RX4 22 "TempoMapsModel" "holdTick" "[I", Cond.methodLink RX4 92 yX4_heldAt, Cond.instanceMethod yX4_heldAt, Cond.selects RX4 yX4_heldAt yX4_heldAt, Cond.initialized RX4, Cond.code yX4_heldAt cX4_heldAt 3 (some .int), Cond.fieldLink RX4 25 "TempoMapsModel" "holdUnits" "[I", Cond.methodLink RX4 72 yX4_holdAt, Cond.instanceMethod yX4_holdAt, Cond.selects RX4 yX4_holdAt yX4_holdAt, Cond.code yX4_holdAt cX4_holdAt 4 (some .int), Cond.methodLink RX4 88 yX4_alikeTo, Cond.instanceMethod yX4_alikeTo, Cond.selects RX4 yX4_alikeTo yX4_alikeTo, Cond.code yX4_alikeTo cX4_alikeTo 6 (some .int), Cond.fieldLink RX4 7 "TempoMapsModel" "markTick" "[I", Cond.fieldLink RX4 13 "TempoMapsModel" "markLong" "[I", Cond.fieldLink RX4 32 "TempoMapsModel" "marks" "I", Cond.methodLink RX4 80 yX4_markOf, Cond.instanceMethod yX4_markOf, Cond.selects RX4 yX4_markOf yX4_markOf]
def wsX4_lastBegun_r2 : List Cond := [Cond.code yX4_markOf cX4_markOf 4 (some .int), Cond.methodLink RX4 83 yX4_paceAt, Cond.instanceMethod yX4_paceAt, Cond.selects RX4 yX4_paceAt yX4_paceAt, Cond.code yX4_paceAt cX4_paceAt 10 (some .int), Cond.fieldLink RX4 19 "TempoMapsModel" "markTo" "[I", Cond.fieldLink RX4 16 "TempoMapsModel" "markFrom" "[I"]
def wsX4_lastBegun : List Cond := .code yX4_lastBegun cX4_lastBegun 11 (some .int) :: ((wsX4_lastBegun_r1 ++ wsX4_lastBegun_r2) ++ wsX40)
def wsX4_tick_r1 : List Cond := [Cond.methodLink RX4 99 yX4_lastBegun, Cond.instanceMethod yX4_lastBegun, Cond.selects RX4 yX4_lastBegun yX4_lastBegun, Cond.initialized RX4, Cond.code yX4_lastBegun cX4_lastBegun 11 (some .int), Cond.fieldLink RX4 95 "TempoMapsModel" "begunAt" "J", Cond.constant RX4 61 (1000000), Cond.fieldLink RX4 67 "TempoMapsModel" "holds" "I", Cond.fieldLink RX4 22 "TempoMapsModel" "holdTick" "[I", Cond.methodLink RX4 92 yX4_heldAt, Cond.instanceMethod yX4_heldAt, Cond.selects RX4 yX4_heldAt yX4_heldAt, Cond.code yX4_heldAt cX4_heldAt 3 (some .int), Cond.fieldLink RX4 25 "TempoMapsModel" "holdUnits" "[I", Cond.methodLink RX4 72 yX4_holdAt, Cond.instanceMethod yX4_holdAt, Cond.selects RX4 yX4_holdAt yX4_holdAt, Cond.code yX4_holdAt cX4_holdAt 4 (some .int), Cond.methodLink RX4 88 yX4_alikeTo, Cond.instanceMethod yX4_alikeTo, Cond.selects RX4 yX4_alikeTo yX4_alikeTo, Cond.code yX4_alikeTo cX4_alikeTo 6 (some .int), Cond.fieldLink RX4 7 "TempoMapsModel" "markTick" "[I", Cond.fieldLink RX4 13 "TempoMapsModel" "markLong" "[I"]
def wsX4_tick_r2 : List Cond := [Cond.fieldLink RX4 32 "TempoMapsModel" "marks" "I", Cond.methodLink RX4 80 yX4_markOf, Cond.instanceMethod yX4_markOf, Cond.selects RX4 yX4_markOf yX4_markOf, Cond.code yX4_markOf cX4_markOf 4 (some .int), Cond.methodLink RX4 83 yX4_paceAt, Cond.instanceMethod yX4_paceAt, Cond.selects RX4 yX4_paceAt yX4_paceAt, Cond.code yX4_paceAt cX4_paceAt 10 (some .int), Cond.fieldLink RX4 19 "TempoMapsModel" "markTo" "[I", Cond.fieldLink RX4 16 "TempoMapsModel" "markFrom" "[I"]
def wsX4_tick : List Cond := .code yX4_tick cX4_tick 3 (some .int) :: ((wsX4_tick_r1 ++ wsX4_tick_r2) ++ wsX40)
def wsX4_held_r1 : List Cond := [Cond.constant RX4 61 (1000000), Cond.fieldLink RX4 95 "TempoMapsModel" "begunAt" "J", Cond.methodLink RX4 99 yX4_lastBegun, Cond.instanceMethod yX4_lastBegun, Cond.selects RX4 yX4_lastBegun yX4_lastBegun, Cond.initialized RX4, Cond.code yX4_lastBegun cX4_lastBegun 11 (some .int), Cond.fieldLink RX4 67 "TempoMapsModel" "holds" "I", Cond.fieldLink RX4 22 "TempoMapsModel" "holdTick" "[I", Cond.methodLink RX4 92 yX4_heldAt, Cond.instanceMethod yX4_heldAt, Cond.selects RX4 yX4_heldAt yX4_heldAt, Cond.code yX4_heldAt cX4_heldAt 3 (some .int), Cond.fieldLink RX4 25 "TempoMapsModel" "holdUnits" "[I", Cond.methodLink RX4 72 yX4_holdAt, Cond.instanceMethod yX4_holdAt, Cond.selects RX4 yX4_holdAt yX4_holdAt, Cond.code yX4_holdAt cX4_holdAt 4 (some .int), Cond.methodLink RX4 88 yX4_alikeTo, Cond.instanceMethod yX4_alikeTo, Cond.selects RX4 yX4_alikeTo yX4_alikeTo, Cond.code yX4_alikeTo cX4_alikeTo 6 (some .int), Cond.fieldLink RX4 7 "TempoMapsModel" "markTick" "[I", Cond.fieldLink RX4 13 "TempoMapsModel" "markLong" "[I"]
def wsX4_held_r2 : List Cond := [Cond.fieldLink RX4 32 "TempoMapsModel" "marks" "I", Cond.methodLink RX4 80 yX4_markOf, Cond.instanceMethod yX4_markOf, Cond.selects RX4 yX4_markOf yX4_markOf, Cond.code yX4_markOf cX4_markOf 4 (some .int), Cond.methodLink RX4 83 yX4_paceAt, Cond.instanceMethod yX4_paceAt, Cond.selects RX4 yX4_paceAt yX4_paceAt, Cond.code yX4_paceAt cX4_paceAt 10 (some .int), Cond.fieldLink RX4 19 "TempoMapsModel" "markTo" "[I", Cond.fieldLink RX4 16 "TempoMapsModel" "markFrom" "[I"]
def wsX4_held : List Cond := .code yX4_held cX4_held 4 (some .int) :: ((wsX4_held_r1 ++ wsX4_held_r2) ++ wsX40)
def wsX4_frame_r1 : List Cond := [Cond.constantLong RX4 53 (1000000), Cond.constantLong RX4 103 (192000), Cond.constantLong RX4 86 (-2), Cond.methodLink RX4 49 yX4_in, Cond.static yX4_in, Cond.initialized RX4, Cond.code yX4_in cX4_in 6 (some .boolean), Cond.methodLink RX4 105 yX4_time, Cond.instanceMethod yX4_time, Cond.selects RX4 yX4_time yX4_time, Cond.code yX4_time cX4_time 6 (some .long), Cond.fieldLink RX4 67 "TempoMapsModel" "holds" "I", Cond.fieldLink RX4 22 "TempoMapsModel" "holdTick" "[I", Cond.fieldLink RX4 25 "TempoMapsModel" "holdUnits" "[I", Cond.methodLink RX4 88 yX4_alikeTo, Cond.instanceMethod yX4_alikeTo, Cond.selects RX4 yX4_alikeTo yX4_alikeTo, Cond.code yX4_alikeTo cX4_alikeTo 6 (some .int), Cond.fieldLink RX4 7 "TempoMapsModel" "markTick" "[I", Cond.fieldLink RX4 13 "TempoMapsModel" "markLong" "[I", Cond.fieldLink RX4 32 "TempoMapsModel" "marks" "I", Cond.methodLink RX4 80 yX4_markOf, Cond.instanceMethod yX4_markOf, Cond.selects RX4 yX4_markOf yX4_markOf]
def wsX4_frame_r2 : List Cond := [Cond.code yX4_markOf cX4_markOf 4 (some .int), Cond.methodLink RX4 83 yX4_paceAt, Cond.instanceMethod yX4_paceAt, Cond.selects RX4 yX4_paceAt yX4_paceAt, Cond.code yX4_paceAt cX4_paceAt 10 (some .int), Cond.fieldLink RX4 19 "TempoMapsModel" "markTo" "[I", Cond.fieldLink RX4 16 "TempoMapsModel" "markFrom" "[I"]
def wsX4_frame : List Cond := .code yX4_frame cX4_frame 3 (some .long) :: ((wsX4_frame_r1 ++ wsX4_frame_r2) ++ wsX40)
def wsX4_tickOf_r1 : List Cond := [Cond.constantLong RX4 103 (192000), Cond.constantLong RX4 109 (300000000000), Cond.constantLong RX4 53 (1000000), Cond.constant RX4 61 (1000000), Cond.methodLink RX4 49 yX4_in, Cond.static yX4_in, Cond.initialized RX4, Cond.code yX4_in cX4_in 6 (some .boolean), Cond.methodLink RX4 99 yX4_lastBegun, Cond.instanceMethod yX4_lastBegun, Cond.selects RX4 yX4_lastBegun yX4_lastBegun, Cond.code yX4_lastBegun cX4_lastBegun 11 (some .int), Cond.fieldLink RX4 95 "TempoMapsModel" "begunAt" "J", Cond.fieldLink RX4 67 "TempoMapsModel" "holds" "I", Cond.fieldLink RX4 22 "TempoMapsModel" "holdTick" "[I", Cond.methodLink RX4 92 yX4_heldAt, Cond.instanceMethod yX4_heldAt, Cond.selects RX4 yX4_heldAt yX4_heldAt, Cond.code yX4_heldAt cX4_heldAt 3 (some .int), Cond.fieldLink RX4 25 "TempoMapsModel" "holdUnits" "[I", Cond.methodLink RX4 72 yX4_holdAt, Cond.instanceMethod yX4_holdAt, Cond.selects RX4 yX4_holdAt yX4_holdAt, Cond.code yX4_holdAt cX4_holdAt 4 (some .int)]
def wsX4_tickOf_r2 : List Cond := [Cond.methodLink RX4 88 yX4_alikeTo, Cond.instanceMethod yX4_alikeTo, Cond.selects RX4 yX4_alikeTo yX4_alikeTo, Cond.code yX4_alikeTo cX4_alikeTo 6 (some .int), Cond.fieldLink RX4 7 "TempoMapsModel" "markTick" "[I", Cond.fieldLink RX4 13 "TempoMapsModel" "markLong" "[I", Cond.fieldLink RX4 32 "TempoMapsModel" "marks" "I", Cond.methodLink RX4 80 yX4_markOf, Cond.instanceMethod yX4_markOf, Cond.selects RX4 yX4_markOf yX4_markOf, Cond.code yX4_markOf cX4_markOf 4 (some .int), Cond.methodLink RX4 83 yX4_paceAt, Cond.instanceMethod yX4_paceAt, Cond.selects RX4 yX4_paceAt yX4_paceAt, Cond.code yX4_paceAt cX4_paceAt 10 (some .int), Cond.fieldLink RX4 19 "TempoMapsModel" "markTo" "[I", Cond.fieldLink RX4 16 "TempoMapsModel" "markFrom" "[I"]
def wsX4_tickOf : List Cond := .code yX4_tickOf cX4_tickOf 7 (some .int) :: ((wsX4_tickOf_r1 ++ wsX4_tickOf_r2) ++ wsX40)
def wsX4_tap : List Cond := .code yX4_tap cX4_tap 3 (some .int) :: ([.constantLong RX4 111 (1000000000000), .fieldLink RX4 77 "TempoMapsModel" "tapMany" "I", .fieldLink RX4 28 "TempoMapsModel" "taps" "[J", .methodLink RX4 49 yX4_in, .static yX4_in, .initialized RX4, .code yX4_in cX4_in 6 (some .boolean)] ++ wsX40)
def wsX4_noTaps : List Cond := .code yX4_noTaps cX4_noTaps 2 (some .int) :: ([.fieldLink RX4 77 "TempoMapsModel" "tapMany" "I"] ++ wsX40)
def wsX4_above : List Cond := .code yX4_above cX4_above 4 (some .long) :: ([.fieldLink RX4 77 "TempoMapsModel" "tapMany" "I", .constantLong RX4 113 (2), .fieldLink RX4 28 "TempoMapsModel" "taps" "[J", .constantLong RX4 115 (6)] ++ wsX40)
def wsX4_below : List Cond := .code yX4_below cX4_below 1 (some .long) :: ([.fieldLink RX4 77 "TempoMapsModel" "tapMany" "I"] ++ wsX40)
def wsX4_common : List Cond := .code yX4_common cX4_common 10 (some .long) :: ([])
def wsX4_fit : List Cond := .code yX4_fit cX4_fit 4 (some .long) :: ([.constantLong RX4 86 (-2), .fieldLink RX4 77 "TempoMapsModel" "tapMany" "I", .constantLong RX4 117 (-3), .methodLink RX4 49 yX4_in, .static yX4_in, .initialized RX4, .code yX4_in cX4_in 6 (some .boolean), .methodLink RX4 119 yX4_above, .instanceMethod yX4_above, .selects RX4 yX4_above yX4_above, .code yX4_above cX4_above 4 (some .long), .constantLong RX4 113 (2), .fieldLink RX4 28 "TempoMapsModel" "taps" "[J", .constantLong RX4 115 (6), .methodLink RX4 123 yX4_below, .instanceMethod yX4_below, .selects RX4 yX4_below yX4_below, .code yX4_below cX4_below 1 (some .long), .methodLink RX4 126 yX4_common, .static yX4_common, .code yX4_common cX4_common 10 (some .long)] ++ wsX40)
def wsX4_pace : List Cond := .code yX4_pace cX4_pace 6 (some .long) :: ([.constantLong RX4 130 (100000), .constantLong RX4 86 (-2), .fieldLink RX4 77 "TempoMapsModel" "tapMany" "I", .constantLong RX4 117 (-3), .constantLong RX4 113 (2), .methodLink RX4 49 yX4_in, .static yX4_in, .initialized RX4, .code yX4_in cX4_in 6 (some .boolean), .methodLink RX4 123 yX4_below, .instanceMethod yX4_below, .selects RX4 yX4_below yX4_below, .code yX4_below cX4_below 1 (some .long), .methodLink RX4 119 yX4_above, .instanceMethod yX4_above, .selects RX4 yX4_above yX4_above, .code yX4_above cX4_above 4 (some .long), .fieldLink RX4 28 "TempoMapsModel" "taps" "[J", .constantLong RX4 115 (6)] ++ wsX40)
def wsJ9_max_f86c9 : List Cond := .code yJ9_max_f86c9 cJ9_max_f86c9 4 (some .long) :: ([])
def wsJ9_min_7cf53 : List Cond := .code yJ9_min_7cf53 cJ9_min_7cf53 2 (some .int) :: ([])
def wsL_law_r1 : List Cond := [Cond.classLink RL 7 RX3, Cond.instantiable RX3 3, Cond.initialized RX3, Cond.classLink RL 10 RX4, Cond.instantiable RX4 11, Cond.initialized RX4, Cond.constantLong RL 54 (4294967295), Cond.methodLink RL 9 yX3_init, Cond.instanceMethod yX3_init, Cond.code yX3_init cX3_init 1 none, Cond.methodLink RX3 1 objectInit, Cond.instanceMethod objectInit, Cond.code objectInit ⟨#[0xb1]⟩ 1 none, Cond.classLink RX3 7 RX1, Cond.instantiable RX1 6, Cond.initialized RX1, Cond.fieldLink RX3 10 "TempoMaps" "marks" "LTempoMaps$Marks;", Cond.classLink RX3 16 RX0, Cond.instantiable RX0 3, Cond.initialized RX0, Cond.fieldLink RX3 19 "TempoMaps" "holds" "LTempoMaps$Holds;", Cond.classLink RX3 23 RX2, Cond.instantiable RX2 2, Cond.initialized RX2]
def wsL_law_r2 : List Cond := [Cond.fieldLink RX3 26 "TempoMaps" "taps" "LTempoMaps$Taps;", Cond.instanceMethod yX1_init, Cond.code yX1_init cX1_init 1 none, Cond.methodLink RX1 3 objectInit, Cond.arrayClass .int, Cond.fieldLink RX1 9 "TempoMaps$Marks" "ticks" "[I", Cond.fieldLink RX1 15 "TempoMaps$Marks" "spans" "[I", Cond.fieldLink RX1 18 "TempoMaps$Marks" "firstPaces" "[I", Cond.fieldLink RX1 21 "TempoMaps$Marks" "lastPaces" "[I", Cond.arrayClass .long, Cond.fieldLink RX1 24 "TempoMaps$Marks" "unitsBefore" "[J", Cond.instanceMethod yX0_init, Cond.code yX0_init cX0_init 1 none, Cond.methodLink RX0 3 objectInit, Cond.fieldLink RX0 9 "TempoMaps$Holds" "ticks" "[I", Cond.fieldLink RX0 15 "TempoMaps$Holds" "units" "[I", Cond.instanceMethod yX2_init, Cond.code yX2_init cX2_init 1 none, Cond.methodLink RX2 3 objectInit, Cond.fieldLink RX2 9 "TempoMaps$Taps" "times" "[J", Cond.methodLink RL 12 yX4_init, Cond.instanceMethod yX4_init, Cond.code yX4_init cX4_init 1 none, Cond.methodLink RX4 1 objectInit]
def wsL_law_r3 : List Cond := [Cond.fieldLink RX4 7 "TempoMapsModel" "markTick" "[I", Cond.fieldLink RX4 13 "TempoMapsModel" "markLong" "[I", Cond.fieldLink RX4 16 "TempoMapsModel" "markFrom" "[I", Cond.fieldLink RX4 19 "TempoMapsModel" "markTo" "[I", Cond.fieldLink RX4 22 "TempoMapsModel" "holdTick" "[I", Cond.fieldLink RX4 25 "TempoMapsModel" "holdUnits" "[I", Cond.fieldLink RX4 28 "TempoMapsModel" "taps" "[J", Cond.fieldLink RX4 32 "TempoMapsModel" "marks" "I", Cond.methodLink RL 13 yX3_step, Cond.instanceMethod yX3_step, Cond.selects RX3 yX3_step yX3_step, Cond.code yX3_step cX3_step 3 (some .int), Cond.constant RX3 30 (999999), Cond.constant RX3 35 (1000000), Cond.methodLink RX3 31 yX3_isWithin, Cond.static yX3_isWithin, Cond.code yX3_isWithin cX3_isWithin 3 (some .boolean), Cond.methodLink RX3 36 yX1_isInsideSlope, Cond.instanceMethod yX1_isInsideSlope, Cond.selects RX1 yX1_isInsideSlope yX1_isInsideSlope, Cond.code yX1_isInsideSlope cX1_isInsideSlope 3 (some .boolean), Cond.methodLink RX1 32 yX1_placeOf, Cond.instanceMethod yX1_placeOf, Cond.selects RX1 yX1_placeOf yX1_placeOf]
def wsL_law_r4 : List Cond := [Cond.code yX1_placeOf cX1_placeOf 3 (some .int), Cond.fieldLink RX1 28 "TempoMaps$Marks" "size" "I", Cond.methodLink RX3 40 yX1_putStep, Cond.instanceMethod yX1_putStep, Cond.selects RX1 yX1_putStep yX1_putStep, Cond.code yX1_putStep cX1_putStep 3 (some .int), Cond.methodLink RX1 36 yX1_put, Cond.instanceMethod yX1_put, Cond.selects RX1 yX1_put yX1_put, Cond.code yX1_put cX1_put 6 (some .int), Cond.methodLink RX1 40 yX1_openRow, Cond.instanceMethod yX1_openRow, Cond.selects RX1 yX1_openRow yX1_openRow, Cond.code yX1_openRow cX1_openRow 3 none, Cond.methodLink RX1 47 yX1_copyRow, Cond.instanceMethod yX1_copyRow, Cond.selects RX1 yX1_copyRow yX1_copyRow, Cond.code yX1_copyRow cX1_copyRow 3 none, Cond.methodLink RX1 44 yX1_renewUnitsBefore, Cond.instanceMethod yX1_renewUnitsBefore, Cond.selects RX1 yX1_renewUnitsBefore yX1_renewUnitsBefore, Cond.code yX1_renewUnitsBefore cX1_renewUnitsBefore 3 none, Cond.methodLink RX1 51 yX1_unitsAheadBy, Cond.instanceMethod yX1_unitsAheadBy]
def wsL_law_r5 : List Cond := [Cond.selects RX1 yX1_unitsAheadBy yX1_unitsAheadBy, Cond.code yX1_unitsAheadBy cX1_unitsAheadBy 6 (some .long), Cond.constantLong RX1 61 (1000), Cond.methodLink RX1 63 Lib.Math.min.name, Cond.static Lib.Math.min.name, Cond.initialized "java/lang/Math", Cond.code Lib.Math.min.name Lib.Math.min.code 2 (some .int), Cond.static yX3_sumOfQuotients, Cond.code yX3_sumOfQuotients cX3_sumOfQuotients 18 (some .long), Cond.constantLong RX3 115 (2), Cond.methodLink RX3 129 yJ9_floorDiv_f86c9, Cond.static yJ9_floorDiv_f86c9, Cond.initialized RJ9, Cond.code yJ9_floorDiv_f86c9 cJ9_floorDiv_f86c9 6 (some .long), Cond.methodLink RX3 132 yJ9_floorMod_f86c9, Cond.static yJ9_floorMod_f86c9, Cond.code yJ9_floorMod_f86c9 cJ9_floorMod_f86c9 6 (some .long), Cond.methodLink RL 17 yX4_step, Cond.instanceMethod yX4_step, Cond.selects RX4 yX4_step yX4_step, Cond.code yX4_step cX4_step 3 (some .int), Cond.constantLong RX4 47 (999999), Cond.constantLong RX4 53 (1000000), Cond.methodLink RX4 49 yX4_in]
def wsL_law_r6 : List Cond := [Cond.static yX4_in, Cond.code yX4_in cX4_in 6 (some .boolean), Cond.methodLink RX4 55 yX4_put, Cond.instanceMethod yX4_put, Cond.selects RX4 yX4_put yX4_put, Cond.code yX4_put cX4_put 6 (some .int), Cond.methodLink RX4 36 yX4_markAt, Cond.instanceMethod yX4_markAt, Cond.selects RX4 yX4_markAt yX4_markAt, Cond.code yX4_markAt cX4_markAt 4 (some .int), Cond.methodLink RX4 40 yX4_isWithin, Cond.instanceMethod yX4_isWithin, Cond.selects RX4 yX4_isWithin yX4_isWithin, Cond.code yX4_isWithin cX4_isWithin 5 (some .boolean), Cond.methodLink RX4 44 yX4_holdsOther, Cond.instanceMethod yX4_holdsOther, Cond.selects RX4 yX4_holdsOther yX4_holdsOther, Cond.code yX4_holdsOther cX4_holdsOther 5 (some .boolean), Cond.methodLink RL 18 yX3_slope, Cond.instanceMethod yX3_slope, Cond.selects RX3 yX3_slope yX3_slope, Cond.code yX3_slope cX3_slope 5 (some .int), Cond.methodLink RX3 44 yX1_isAnyBetween, Cond.instanceMethod yX1_isAnyBetween]
def wsL_law_r7 : List Cond := [Cond.selects RX1 yX1_isAnyBetween yX1_isAnyBetween, Cond.code yX1_isAnyBetween cX1_isAnyBetween 4 (some .boolean), Cond.methodLink RX3 48 yX1_put, Cond.methodLink RL 22 yX4_slope, Cond.instanceMethod yX4_slope, Cond.selects RX4 yX4_slope yX4_slope, Cond.code yX4_slope cX4_slope 5 (some .int), Cond.constantLong RX4 59 (2000), Cond.constant RX4 61 (1000000), Cond.methodLink RL 23 yX3_modulate, Cond.instanceMethod yX3_modulate, Cond.selects RX3 yX3_modulate yX3_modulate, Cond.code yX3_modulate cX3_modulate 5 (some .int), Cond.methodLink RX3 52 yX1_unitsOfTick, Cond.instanceMethod yX1_unitsOfTick, Cond.selects RX1 yX1_unitsOfTick yX1_unitsOfTick, Cond.code yX1_unitsOfTick cX1_unitsOfTick 6 (some .int), Cond.methodLink RX1 55 yJ9_floorDiv_7cf53, Cond.static yJ9_floorDiv_7cf53, Cond.code yJ9_floorDiv_7cf53 cJ9_floorDiv_7cf53 3 (some .int), Cond.methodLink RL 27 yX4_modulate, Cond.instanceMethod yX4_modulate, Cond.selects RX4 yX4_modulate yX4_modulate, Cond.code yX4_modulate cX4_modulate 7 (some .int)]
def wsL_law_r8 : List Cond := [Cond.constantLong RX4 62 (1000), Cond.methodLink RX4 64 yX4_lasts, Cond.instanceMethod yX4_lasts, Cond.selects RX4 yX4_lasts yX4_lasts, Cond.code yX4_lasts cX4_lasts 2 (some .int), Cond.methodLink RX4 83 yX4_paceAt, Cond.instanceMethod yX4_paceAt, Cond.selects RX4 yX4_paceAt yX4_paceAt, Cond.code yX4_paceAt cX4_paceAt 10 (some .int), Cond.methodLink RX4 80 yX4_markOf, Cond.instanceMethod yX4_markOf, Cond.selects RX4 yX4_markOf yX4_markOf, Cond.code yX4_markOf cX4_markOf 4 (some .int), Cond.methodLink RL 28 yX3_drop, Cond.instanceMethod yX3_drop, Cond.selects RX3 yX3_drop yX3_drop, Cond.code yX3_drop cX3_drop 2 (some .int), Cond.methodLink RX3 56 yX1_remove, Cond.instanceMethod yX1_remove, Cond.selects RX1 yX1_remove yX1_remove, Cond.code yX1_remove cX1_remove 4 (some .int), Cond.methodLink RL 32 yX4_drop, Cond.instanceMethod yX4_drop, Cond.selects RX4 yX4_drop yX4_drop]
def wsL_law_r9 : List Cond := [Cond.code yX4_drop cX4_drop 3 (some .int), Cond.methodLink RL 33 yX3_hold, Cond.instanceMethod yX3_hold, Cond.selects RX3 yX3_hold yX3_hold, Cond.code yX3_hold cX3_hold 3 (some .int), Cond.constant RX3 59 (1000000000), Cond.methodLink RX3 60 yX0_remove, Cond.instanceMethod yX0_remove, Cond.selects RX0 yX0_remove yX0_remove, Cond.code yX0_remove cX0_remove 3 (some .int), Cond.fieldLink RX0 18 "TempoMaps$Holds" "size" "I", Cond.methodLink RX0 22 yX0_placeOf, Cond.instanceMethod yX0_placeOf, Cond.selects RX0 yX0_placeOf yX0_placeOf, Cond.code yX0_placeOf cX0_placeOf 3 (some .int), Cond.methodLink RX3 61 yX0_put, Cond.instanceMethod yX0_put, Cond.selects RX0 yX0_put yX0_put, Cond.code yX0_put cX0_put 4 (some .int), Cond.methodLink RL 36 yX4_hold, Cond.instanceMethod yX4_hold, Cond.selects RX4 yX4_hold yX4_hold, Cond.code yX4_hold cX4_hold 4 (some .int), Cond.constantLong RX4 70 (1000000000)]
def wsL_law_r10 : List Cond := [Cond.fieldLink RX4 67 "TempoMapsModel" "holds" "I", Cond.methodLink RX4 72 yX4_holdAt, Cond.instanceMethod yX4_holdAt, Cond.selects RX4 yX4_holdAt yX4_holdAt, Cond.code yX4_holdAt cX4_holdAt 4 (some .int), Cond.methodLink RL 37 yX3_mark, Cond.instanceMethod yX3_mark, Cond.selects RX3 yX3_mark yX3_mark, Cond.code yX3_mark cX3_mark 3 (some .int), Cond.methodLink RX3 63 yX1_tell, Cond.instanceMethod yX1_tell, Cond.selects RX1 yX1_tell yX1_tell, Cond.code yX1_tell cX1_tell 3 (some .int), Cond.methodLink RL 40 yX4_mark, Cond.instanceMethod yX4_mark, Cond.selects RX4 yX4_mark yX4_mark, Cond.code yX4_mark cX4_mark 7 (some .int), Cond.constantLong RX4 75 (4), Cond.methodLink RL 41 yX3_count, Cond.instanceMethod yX3_count, Cond.selects RX3 yX3_count yX3_count, Cond.code yX3_count cX3_count 2 (some .int), Cond.methodLink RL 44 yX4_count, Cond.instanceMethod yX4_count]
def wsL_law_r11 : List Cond := [Cond.selects RX4 yX4_count yX4_count, Cond.code yX4_count cX4_count 2 (some .int), Cond.fieldLink RX4 77 "TempoMapsModel" "tapMany" "I", Cond.methodLink RL 45 yX3_lasts, Cond.instanceMethod yX3_lasts, Cond.selects RX3 yX3_lasts yX3_lasts, Cond.code yX3_lasts cX3_lasts 2 (some .int), Cond.methodLink RL 48 yX4_lasts, Cond.methodLink RL 49 yX3_time, Cond.instanceMethod yX3_time, Cond.selects RX3 yX3_time yX3_time, Cond.code yX3_time cX3_time 2 (some .long), Cond.constantLong RX3 72 (-2), Cond.methodLink RX3 74 yX3_beginOf, Cond.instanceMethod yX3_beginOf, Cond.selects RX3 yX3_beginOf yX3_beginOf, Cond.code yX3_beginOf cX3_beginOf 2 (some .long), Cond.methodLink RX3 117 yX1_unitsAhead, Cond.instanceMethod yX1_unitsAhead, Cond.selects RX1 yX1_unitsAhead yX1_unitsAhead, Cond.code yX1_unitsAhead cX1_unitsAhead 2 (some .long), Cond.methodLink RX3 120 yX0_unitsUpTo, Cond.instanceMethod yX0_unitsUpTo, Cond.selects RX0 yX0_unitsUpTo yX0_unitsUpTo]
def wsL_law_r12 : List Cond := [Cond.code yX0_unitsUpTo cX0_unitsUpTo 5 (some .long), Cond.methodLink RL 53 yX4_time, Cond.instanceMethod yX4_time, Cond.selects RX4 yX4_time yX4_time, Cond.code yX4_time cX4_time 6 (some .long), Cond.constantLong RX4 86 (-2), Cond.methodLink RX4 88 yX4_alikeTo, Cond.instanceMethod yX4_alikeTo, Cond.selects RX4 yX4_alikeTo yX4_alikeTo, Cond.code yX4_alikeTo cX4_alikeTo 6 (some .int), Cond.methodLink RL 56 yX3_tick, Cond.instanceMethod yX3_tick, Cond.selects RX3 yX3_tick yX3_tick, Cond.code yX3_tick cX3_tick 3 (some .int), Cond.methodLink RX3 78 yX3_lastBegun, Cond.instanceMethod yX3_lastBegun, Cond.selects RX3 yX3_lastBegun yX3_lastBegun, Cond.code yX3_lastBegun cX3_lastBegun 4 (some .int), Cond.methodLink RX3 89 yX3_firstBeginningFrom, Cond.instanceMethod yX3_firstBeginningFrom, Cond.selects RX3 yX3_firstBeginningFrom yX3_firstBeginningFrom, Cond.code yX3_firstBeginningFrom cX3_firstBeginningFrom 7 (some .int), Cond.constant RX3 123 (1000001), Cond.methodLink RL 60 yX4_tick]
def wsL_law_r13 : List Cond := [Cond.instanceMethod yX4_tick, Cond.selects RX4 yX4_tick yX4_tick, Cond.code yX4_tick cX4_tick 3 (some .int), Cond.methodLink RX4 99 yX4_lastBegun, Cond.instanceMethod yX4_lastBegun, Cond.selects RX4 yX4_lastBegun yX4_lastBegun, Cond.code yX4_lastBegun cX4_lastBegun 11 (some .int), Cond.fieldLink RX4 95 "TempoMapsModel" "begunAt" "J", Cond.methodLink RX4 92 yX4_heldAt, Cond.instanceMethod yX4_heldAt, Cond.selects RX4 yX4_heldAt yX4_heldAt, Cond.code yX4_heldAt cX4_heldAt 3 (some .int), Cond.methodLink RL 61 yX3_held, Cond.instanceMethod yX3_held, Cond.selects RX3 yX3_held yX3_held, Cond.code yX3_held cX3_held 4 (some .int), Cond.methodLink RL 64 yX4_held, Cond.instanceMethod yX4_held, Cond.selects RX4 yX4_held yX4_held, Cond.code yX4_held cX4_held 4 (some .int), Cond.methodLink RL 65 yX3_frame, Cond.instanceMethod yX3_frame, Cond.selects RX3 yX3_frame yX3_frame, Cond.code yX3_frame cX3_frame 3 (some .long)]
def wsL_law_r14 : List Cond := [Cond.constant RX3 82 (192000), Cond.methodLink RX3 83 yX3_framesAt, Cond.instanceMethod yX3_framesAt, Cond.selects RX3 yX3_framesAt yX3_framesAt, Cond.code yX3_framesAt cX3_framesAt 3 (some .long), Cond.constantLong RX3 87 (1000000), Cond.methodLink RL 69 yX4_frame, Cond.instanceMethod yX4_frame, Cond.selects RX4 yX4_frame yX4_frame, Cond.code yX4_frame cX4_frame 3 (some .long), Cond.constantLong RX4 103 (192000), Cond.methodLink RX4 105 yX4_time, Cond.methodLink RL 70 yX3_tickOf, Cond.instanceMethod yX3_tickOf, Cond.selects RX3 yX3_tickOf yX3_tickOf, Cond.code yX3_tickOf cX3_tickOf 6 (some .int), Cond.methodLink RL 74 yX4_tickOf, Cond.instanceMethod yX4_tickOf, Cond.selects RX4 yX4_tickOf yX4_tickOf, Cond.code yX4_tickOf cX4_tickOf 7 (some .int), Cond.constantLong RX4 109 (300000000000), Cond.methodLink RL 75 yX3_tap, Cond.instanceMethod yX3_tap, Cond.selects RX3 yX3_tap yX3_tap]
def wsL_law_r15 : List Cond := [Cond.code yX3_tap cX3_tap 3 (some .int), Cond.constantLong RX3 92 (1000000000000), Cond.methodLink RX3 94 yX2_add, Cond.instanceMethod yX2_add, Cond.selects RX2 yX2_add yX2_add, Cond.code yX2_add cX2_add 3 (some .int), Cond.fieldLink RX2 15 "TempoMaps$Taps" "size" "I", Cond.methodLink RL 78 yX4_tap, Cond.instanceMethod yX4_tap, Cond.selects RX4 yX4_tap yX4_tap, Cond.code yX4_tap cX4_tap 3 (some .int), Cond.constantLong RX4 111 (1000000000000), Cond.methodLink RL 79 yX3_noTaps, Cond.instanceMethod yX3_noTaps, Cond.selects RX3 yX3_noTaps yX3_noTaps, Cond.code yX3_noTaps cX3_noTaps 1 (some .int), Cond.methodLink RX3 97 yX2_removeAll, Cond.instanceMethod yX2_removeAll, Cond.selects RX2 yX2_removeAll yX2_removeAll, Cond.code yX2_removeAll cX2_removeAll 2 (some .int), Cond.methodLink RL 83 yX4_noTaps, Cond.instanceMethod yX4_noTaps, Cond.selects RX4 yX4_noTaps yX4_noTaps, Cond.code yX4_noTaps cX4_noTaps 2 (some .int)]
def wsL_law_r16 : List Cond := [Cond.methodLink RL 84 yX3_fit, Cond.instanceMethod yX3_fit, Cond.selects RX3 yX3_fit yX3_fit, Cond.code yX3_fit cX3_fit 8 (some .long), Cond.constantLong RX3 101 (-3), Cond.methodLink RX3 103 yX2_above, Cond.instanceMethod yX2_above, Cond.selects RX2 yX2_above yX2_above, Cond.code yX2_above cX2_above 8 (some .long), Cond.methodLink RX3 107 yX2_below, Cond.instanceMethod yX2_below, Cond.selects RX2 yX2_below yX2_below, Cond.code yX2_below cX2_below 6 (some .long), Cond.methodLink RX3 110 yX3_commonDivisor, Cond.static yX3_commonDivisor, Cond.code yX3_commonDivisor cX3_commonDivisor 11 (some .long), Cond.methodLink RX3 124 Lib.MathLoose.max_long.x, Cond.static Lib.MathLoose.max_long.x, Cond.code Lib.MathLoose.max_long.x Lib.MathLoose.max_long.code 4 (some .long), Cond.methodLink RL 87 yX4_fit, Cond.instanceMethod yX4_fit, Cond.selects RX4 yX4_fit yX4_fit, Cond.code yX4_fit cX4_fit 4 (some .long), Cond.constantLong RX4 117 (-3)]
def wsL_law_r17 : List Cond := [Cond.methodLink RX4 119 yX4_above, Cond.instanceMethod yX4_above, Cond.selects RX4 yX4_above yX4_above, Cond.code yX4_above cX4_above 4 (some .long), Cond.constantLong RX4 113 (2), Cond.constantLong RX4 115 (6), Cond.methodLink RX4 123 yX4_below, Cond.instanceMethod yX4_below, Cond.selects RX4 yX4_below yX4_below, Cond.code yX4_below cX4_below 1 (some .long), Cond.methodLink RX4 126 yX4_common, Cond.static yX4_common, Cond.code yX4_common cX4_common 10 (some .long), Cond.methodLink RL 88 yX3_pace, Cond.instanceMethod yX3_pace, Cond.selects RX3 yX3_pace yX3_pace, Cond.code yX3_pace cX3_pace 8 (some .long), Cond.constant RX3 114 (100000), Cond.methodLink RL 91 yX4_pace, Cond.instanceMethod yX4_pace, Cond.selects RX4 yX4_pace yX4_pace, Cond.code yX4_pace cX4_pace 6 (some .long), Cond.constantLong RX4 130 (100000)]
def wsL_law : List Cond := (wsL_law_r1 ++ (wsL_law_r2 ++ (wsL_law_r3 ++ (wsL_law_r4 ++ (wsL_law_r5 ++ (wsL_law_r6 ++ (wsL_law_r7 ++ (wsL_law_r8 ++ (wsL_law_r9 ++ (wsL_law_r10 ++ (wsL_law_r11 ++ (wsL_law_r12 ++ (wsL_law_r13 ++ (wsL_law_r14 ++ (wsL_law_r15 ++ (wsL_law_r16 ++ wsL_law_r17)))))))))))))))) ++ wsX30 ++ wsX40 ++ wsX10 ++ wsX00 ++ wsX20 ++ ([] : List Cond)
set_option maxRecDepth 20000 in
set_option maxRecDepth 20000 in
theorem in_wsL_law_r1 : GoodIn lw_tbl wsL_law_r1 := goodIn_r _ [29, 30, 23, 311, 312, 27, 490, 31, 32, 33, 34, 35, 36, 37, 38, 24, 96, 65, 66, 25, 97, 82, 83, 26] (by decide +kernel) (by decide +kernel)
set_option maxRecDepth 20000 in
theorem in_wsL_law_r2 : GoodIn lw_tbl wsL_law_r2 := goodIn_r _ [98, 40, 41, 42, 63, 43, 44, 45, 46, 64, 47, 68, 69, 70, 71, 72, 85, 86, 87, 88, 313, 314, 315, 316] (by decide +kernel) (by decide +kernel)
set_option maxRecDepth 20000 in
theorem in_wsL_law_r3 : GoodIn lw_tbl wsL_law_r3 := goodIn_r _ [317, 318, 319, 320, 322, 323, 325, 321, 106, 107, 108, 109, 110, 114, 111, 112, 113, 115, 116, 117, 118, 119, 121, 0] (by decide +kernel) (by decide +kernel)
set_option maxRecDepth 20000 in
theorem in_wsL_law_r4 : GoodIn lw_tbl wsL_law_r4 := goodIn_r _ [122, 48, 123, 124, 125, 126, 127, 128, 129, 130, 131, 133, 1, 134, 135, 137, 2, 138, 139, 141, 3, 142, 143, 145] (by decide +kernel) (by decide +kernel)
set_option maxRecDepth 20000 in
theorem in_wsL_law_r5 : GoodIn lw_tbl wsL_law_r5 := goodIn_r _ [4, 146, 147, 148, 149, 28, 150, 152, 153, 154, 155, 156, 28, 157, 158, 159, 160, 351, 352, 353, 354, 355, 359, 356] (by decide +kernel) (by decide +kernel)
set_option maxRecDepth 20000 in
theorem in_wsL_law_r6 : GoodIn lw_tbl wsL_law_r6 := goodIn_r _ [357, 358, 360, 362, 10, 363, 364, 366, 11, 367, 368, 370, 12, 371, 372, 374, 13, 375, 161, 162, 163, 164, 165, 166] (by decide +kernel) (by decide +kernel)
set_option maxRecDepth 20000 in
theorem in_wsL_law_r7 : GoodIn lw_tbl wsL_law_r7 := goodIn_r _ [167, 168, 169, 376, 377, 378, 379, 380, 381, 170, 171, 172, 173, 174, 175, 176, 177, 178, 179, 180, 382, 383, 384, 385] (by decide +kernel) (by decide +kernel)
set_option maxRecDepth 20000 in
theorem in_wsL_law_r8 : GoodIn lw_tbl wsL_law_r8 := goodIn_r _ [386, 387, 388, 389, 390, 391, 393, 14, 394, 395, 397, 15, 398, 181, 182, 183, 184, 185, 186, 187, 188, 399, 400, 401] (by decide +kernel) (by decide +kernel)
set_option maxRecDepth 20000 in
theorem in_wsL_law_r9 : GoodIn lw_tbl wsL_law_r9 := goodIn_r _ [402, 189, 190, 191, 192, 193, 194, 195, 196, 197, 73, 198, 200, 5, 201, 202, 203, 204, 205, 403, 404, 405, 406, 407] (by decide +kernel) (by decide +kernel)
set_option maxRecDepth 20000 in
theorem in_wsL_law_r10 : GoodIn lw_tbl wsL_law_r10 := goodIn_r _ [324, 408, 410, 16, 411, 206, 207, 208, 209, 210, 211, 212, 213, 412, 413, 414, 415, 416, 214, 215, 216, 217, 417, 418] (by decide +kernel) (by decide +kernel)
set_option maxRecDepth 20000 in
theorem in_wsL_law_r11 : GoodIn lw_tbl wsL_law_r11 := goodIn_r _ [419, 420, 326, 218, 219, 220, 221, 421, 222, 223, 224, 225, 226, 227, 229, 6, 230, 231, 232, 233, 234, 235, 236, 237] (by decide +kernel) (by decide +kernel)
set_option maxRecDepth 20000 in
theorem in_wsL_law_r12 : GoodIn lw_tbl wsL_law_r12 := goodIn_r _ [238, 422, 423, 424, 425, 426, 427, 429, 17, 430, 239, 240, 241, 242, 243, 245, 7, 246, 247, 249, 8, 250, 251, 431] (by decide +kernel) (by decide +kernel)
set_option maxRecDepth 20000 in
theorem in_wsL_law_r13 : GoodIn lw_tbl wsL_law_r13 := goodIn_r _ [432, 433, 434, 435, 437, 18, 438, 327, 439, 441, 19, 442, 252, 253, 254, 255, 443, 444, 445, 446, 256, 257, 258, 259] (by decide +kernel) (by decide +kernel)
set_option maxRecDepth 20000 in
theorem in_wsL_law_r14 : GoodIn lw_tbl wsL_law_r14 := goodIn_r _ [260, 261, 263, 9, 264, 265, 447, 448, 449, 450, 451, 452, 266, 267, 268, 269, 453, 454, 455, 456, 457, 270, 271, 272] (by decide +kernel) (by decide +kernel)
set_option maxRecDepth 20000 in
theorem in_wsL_law_r15 : GoodIn lw_tbl wsL_law_r15 := goodIn_r _ [273, 274, 275, 276, 277, 278, 89, 458, 459, 460, 461, 462, 279, 280, 281, 282, 283, 284, 285, 286, 463, 464, 465, 466] (by decide +kernel) (by decide +kernel)
set_option maxRecDepth 20000 in
theorem in_wsL_law_r16 : GoodIn lw_tbl wsL_law_r16 := goodIn_r _ [287, 288, 289, 290, 291, 292, 293, 294, 295, 296, 297, 298, 299, 300, 301, 302, 303, 304, 305, 467, 468, 469, 470, 471] (by decide +kernel) (by decide +kernel)
set_option maxRecDepth 20000 in
theorem in_wsL_law_r17 : GoodIn lw_tbl wsL_law_r17 := goodIn_r _ [472, 474, 20, 475, 476, 477, 478, 480, 21, 481, 482, 483, 484, 306, 307, 308, 309, 310, 485, 486, 487, 488, 489] (by decide +kernel) (by decide +kernel)
theorem inX3_k : ∀ w ∈ wsX30, w ∈ lw_tbl := by decide +kernel
theorem inX4_k : ∀ w ∈ wsX40, w ∈ lw_tbl := by decide +kernel
theorem inX1_k : ∀ w ∈ wsX10, w ∈ lw_tbl := by decide +kernel
theorem inX0_k : ∀ w ∈ wsX00, w ∈ lw_tbl := by decide +kernel
theorem inX2_k : ∀ w ∈ wsX20, w ∈ lw_tbl := by decide +kernel
theorem wsL_law_in : ∀ w ∈ wsL_law, w ∈ lw_tbl := fun w => (fun h => (List.mem_append.mp h).elim (fun h => (List.mem_append.mp h).elim (fun h => (List.mem_append.mp h).elim (fun h => (List.mem_append.mp h).elim (fun h => (List.mem_append.mp h).elim (fun h => (List.mem_append.mp h).elim (fun h => (List.mem_append.mp h).elim (fun h => (in_wsL_law_r1 w h).1) (fun h => (List.mem_append.mp h).elim (fun h => (in_wsL_law_r2 w h).1) (fun h => (List.mem_append.mp h).elim (fun h => (in_wsL_law_r3 w h).1) (fun h => (List.mem_append.mp h).elim (fun h => (in_wsL_law_r4 w h).1) (fun h => (List.mem_append.mp h).elim (fun h => (in_wsL_law_r5 w h).1) (fun h => (List.mem_append.mp h).elim (fun h => (in_wsL_law_r6 w h).1) (fun h => (List.mem_append.mp h).elim (fun h => (in_wsL_law_r7 w h).1) (fun h => (List.mem_append.mp h).elim (fun h => (in_wsL_law_r8 w h).1) (fun h => (List.mem_append.mp h).elim (fun h => (in_wsL_law_r9 w h).1) (fun h => (List.mem_append.mp h).elim (fun h => (in_wsL_law_r10 w h).1) (fun h => (List.mem_append.mp h).elim (fun h => (in_wsL_law_r11 w h).1) (fun h => (List.mem_append.mp h).elim (fun h => (in_wsL_law_r12 w h).1) (fun h => (List.mem_append.mp h).elim (fun h => (in_wsL_law_r13 w h).1) (fun h => (List.mem_append.mp h).elim (fun h => (in_wsL_law_r14 w h).1) (fun h => (List.mem_append.mp h).elim (fun h => (in_wsL_law_r15 w h).1) (fun h => (List.mem_append.mp h).elim (fun h => (in_wsL_law_r16 w h).1) (fun h => (in_wsL_law_r17 w h).1))))))))))))))))) (inX3_k w)) (inX4_k w)) (inX1_k w)) (inX0_k w)) (inX2_k w)) (fun h => absurd h List.not_mem_nil))
theorem inlX0 : ∀ w ∈ wsX00, w ∈ wsL_law := fun _ h => List.mem_append_left _ (List.mem_append_left _ (List.mem_append_right _ h))
theorem inX0 : ∀ w ∈ wsX00, w ∈ lw_tbl := fun w h => wsL_law_in w (inlX0 w h)
theorem inlX1 : ∀ w ∈ wsX10, w ∈ wsL_law := fun _ h => List.mem_append_left _ (List.mem_append_left _ (List.mem_append_left _ (List.mem_append_right _ h)))
theorem inX1 : ∀ w ∈ wsX10, w ∈ lw_tbl := fun w h => wsL_law_in w (inlX1 w h)
theorem inlX2 : ∀ w ∈ wsX20, w ∈ wsL_law := fun _ h => List.mem_append_left _ (List.mem_append_right _ h)
theorem inX2 : ∀ w ∈ wsX20, w ∈ lw_tbl := fun w h => wsL_law_in w (inlX2 w h)
theorem inlX3 : ∀ w ∈ wsX30, w ∈ wsL_law := fun _ h => List.mem_append_left _ (List.mem_append_left _ (List.mem_append_left _ (List.mem_append_left _ (List.mem_append_left _ (List.mem_append_right _ h)))))
theorem inX3 : ∀ w ∈ wsX30, w ∈ lw_tbl := fun w h => wsL_law_in w (inlX3 w h)
theorem inlX4 : ∀ w ∈ wsX40, w ∈ wsL_law := fun _ h => List.mem_append_left _ (List.mem_append_left _ (List.mem_append_left _ (List.mem_append_left _ (List.mem_append_right _ h))))
theorem inX4 : ∀ w ∈ wsX40, w ∈ lw_tbl := fun w h => wsL_law_in w (inlX4 w h)
theorem inJ9 : ∀ w ∈ wsJ90, w ∈ lw_tbl := by decide +kernel
end
section
abbrev vwCl : List vw_C := [(RX0, TX0, 3), (RX1, TX1, 6), (RX2, TX2, 2), (RX3, TX3, 3), (RX4, TX4, 11)]
theorem dX0_init_0 : decode cX0_init 0 = .ok (.aload_n 0, 1) := by decide +kernel
theorem dX0_init_1 : decode cX0_init 1 = .ok (.invokespecial 3, 3) := by decide +kernel
theorem dX0_init_4 : decode cX0_init 4 = .ok (.aload_n 0, 1) := by decide +kernel
theorem dX0_init_5 : decode cX0_init 5 = .ok (.bipush 20, 2) := by decide +kernel
theorem dX0_init_7 : decode cX0_init 7 = .ok (.newarray .int, 2) := by decide +kernel
theorem dX0_init_9 : decode cX0_init 9 = .ok (.putfield 9, 3) := by decide +kernel
theorem dX0_init_12 : decode cX0_init 12 = .ok (.aload_n 0, 1) := by decide +kernel
theorem dX0_init_13 : decode cX0_init 13 = .ok (.bipush 20, 2) := by decide +kernel
theorem dX0_init_15 : decode cX0_init 15 = .ok (.newarray .int, 2) := by decide +kernel
theorem dX0_init_17 : decode cX0_init 17 = .ok (.putfield 15, 3) := by decide +kernel
theorem dX0_init_20 : decode cX0_init 20 = .ok (.return_, 1) := by decide +kernel
theorem dX0_placeOf_0 : decode cX0_placeOf 0 = .ok (.aload_n 0, 1) := by decide +kernel
theorem dX0_placeOf_1 : decode cX0_placeOf 1 = .ok (.getfield 18, 3) := by decide +kernel
theorem dX0_placeOf_4 : decode cX0_placeOf 4 = .ok (.iconst 1, 1) := by decide +kernel
theorem dX0_placeOf_5 : decode cX0_placeOf 5 = .ok (.isub, 1) := by decide +kernel
theorem dX0_placeOf_6 : decode cX0_placeOf 6 = .ok (.istore_n 2, 1) := by decide +kernel
theorem dX0_placeOf_7 : decode cX0_placeOf 7 = .ok (.iload_n 2, 1) := by decide +kernel
theorem dX0_placeOf_8 : decode cX0_placeOf 8 = .ok (.ifCond .lt 19, 3) := by decide +kernel
theorem dX0_placeOf_11 : decode cX0_placeOf 11 = .ok (.aload_n 0, 1) := by decide +kernel
theorem dX0_placeOf_12 : decode cX0_placeOf 12 = .ok (.getfield 9, 3) := by decide +kernel
theorem dX0_placeOf_15 : decode cX0_placeOf 15 = .ok (.iload_n 2, 1) := by decide +kernel
theorem dX0_placeOf_16 : decode cX0_placeOf 16 = .ok (.iaload, 1) := by decide +kernel
theorem dX0_placeOf_17 : decode cX0_placeOf 17 = .ok (.iload_n 1, 1) := by decide +kernel
theorem dX0_placeOf_18 : decode cX0_placeOf 18 = .ok (.if_icmp .eq 9, 3) := by decide +kernel
theorem dX0_placeOf_21 : decode cX0_placeOf 21 = .ok (.iinc 2 (-1), 3) := by decide +kernel
theorem dX0_placeOf_24 : decode cX0_placeOf 24 = .ok (.goto (-17), 3) := by decide +kernel
theorem dX0_placeOf_27 : decode cX0_placeOf 27 = .ok (.iload_n 2, 1) := by decide +kernel
theorem dX0_placeOf_28 : decode cX0_placeOf 28 = .ok (.ireturn, 1) := by decide +kernel
set_option maxRecDepth 20000 in
theorem ggX0_put_X0_placeOf : GoodIn wsX0_put wsX0_placeOf := goodIn_r _ [8, 1, 2, 9, 10, 11] (by decide +kernel) (by decide +kernel)
set_option maxRecDepth 20000 in
theorem gX0_put_X0_placeOf : GoodIn wsX0_put (wsV RX0 22 RX0 yX0_placeOf wsX0_placeOf) := goodIn_app (goodIn_of _ (by decide +kernel)) ggX0_put_X0_placeOf
theorem dX0_put_0 : decode cX0_put 0 = .ok (.aload_n 0, 1) := by decide +kernel
theorem dX0_put_1 : decode cX0_put 1 = .ok (.iload_n 1, 1) := by decide +kernel
theorem dX0_put_2 : decode cX0_put 2 = .ok (.invokevirtual 22, 3) := by decide +kernel
theorem dX0_put_5 : decode cX0_put 5 = .ok (.istore_n 3, 1) := by decide +kernel
theorem dX0_put_6 : decode cX0_put 6 = .ok (.iload_n 3, 1) := by decide +kernel
theorem dX0_put_7 : decode cX0_put 7 = .ok (.ifCond .ge 30, 3) := by decide +kernel
theorem dX0_put_10 : decode cX0_put 10 = .ok (.aload_n 0, 1) := by decide +kernel
theorem dX0_put_11 : decode cX0_put 11 = .ok (.getfield 18, 3) := by decide +kernel
theorem dX0_put_14 : decode cX0_put 14 = .ok (.bipush 20, 2) := by decide +kernel
theorem dX0_put_16 : decode cX0_put 16 = .ok (.if_icmp .lt 6, 3) := by decide +kernel
theorem dX0_put_19 : decode cX0_put 19 = .ok (.bipush (-4), 2) := by decide +kernel
theorem dX0_put_21 : decode cX0_put 21 = .ok (.ireturn, 1) := by decide +kernel
theorem dX0_put_22 : decode cX0_put 22 = .ok (.aload_n 0, 1) := by decide +kernel
theorem dX0_put_23 : decode cX0_put 23 = .ok (.getfield 18, 3) := by decide +kernel
theorem dX0_put_26 : decode cX0_put 26 = .ok (.istore_n 3, 1) := by decide +kernel
theorem dX0_put_27 : decode cX0_put 27 = .ok (.aload_n 0, 1) := by decide +kernel
theorem dX0_put_28 : decode cX0_put 28 = .ok (.dup, 1) := by decide +kernel
theorem dX0_put_29 : decode cX0_put 29 = .ok (.getfield 18, 3) := by decide +kernel
theorem dX0_put_32 : decode cX0_put 32 = .ok (.iconst 1, 1) := by decide +kernel
theorem dX0_put_33 : decode cX0_put 33 = .ok (.iadd, 1) := by decide +kernel
theorem dX0_put_34 : decode cX0_put 34 = .ok (.putfield 18, 3) := by decide +kernel
theorem dX0_put_37 : decode cX0_put 37 = .ok (.aload_n 0, 1) := by decide +kernel
theorem dX0_put_38 : decode cX0_put 38 = .ok (.getfield 9, 3) := by decide +kernel
theorem dX0_put_41 : decode cX0_put 41 = .ok (.iload_n 3, 1) := by decide +kernel
theorem dX0_put_42 : decode cX0_put 42 = .ok (.iload_n 1, 1) := by decide +kernel
theorem dX0_put_43 : decode cX0_put 43 = .ok (.iastore, 1) := by decide +kernel
theorem dX0_put_44 : decode cX0_put 44 = .ok (.aload_n 0, 1) := by decide +kernel
theorem dX0_put_45 : decode cX0_put 45 = .ok (.getfield 15, 3) := by decide +kernel
theorem dX0_put_48 : decode cX0_put 48 = .ok (.iload_n 3, 1) := by decide +kernel
theorem dX0_put_49 : decode cX0_put 49 = .ok (.iload_n 2, 1) := by decide +kernel
theorem dX0_put_50 : decode cX0_put 50 = .ok (.iastore, 1) := by decide +kernel
theorem dX0_put_51 : decode cX0_put 51 = .ok (.aload_n 0, 1) := by decide +kernel
theorem dX0_put_52 : decode cX0_put 52 = .ok (.getfield 18, 3) := by decide +kernel
theorem dX0_put_55 : decode cX0_put 55 = .ok (.ireturn, 1) := by decide +kernel
set_option maxRecDepth 20000 in
theorem ggX0_remove_X0_placeOf : GoodIn wsX0_remove wsX0_placeOf := goodIn_r _ [8, 1, 2, 9, 10, 11] (by decide +kernel) (by decide +kernel)
set_option maxRecDepth 20000 in
theorem gX0_remove_X0_placeOf : GoodIn wsX0_remove (wsV RX0 22 RX0 yX0_placeOf wsX0_placeOf) := goodIn_app (goodIn_of _ (by decide +kernel)) ggX0_remove_X0_placeOf
theorem dX0_remove_0 : decode cX0_remove 0 = .ok (.aload_n 0, 1) := by decide +kernel
theorem dX0_remove_1 : decode cX0_remove 1 = .ok (.iload_n 1, 1) := by decide +kernel
theorem dX0_remove_2 : decode cX0_remove 2 = .ok (.invokevirtual 22, 3) := by decide +kernel
theorem dX0_remove_5 : decode cX0_remove 5 = .ok (.istore_n 2, 1) := by decide +kernel
theorem dX0_remove_6 : decode cX0_remove 6 = .ok (.iload_n 2, 1) := by decide +kernel
theorem dX0_remove_7 : decode cX0_remove 7 = .ok (.ifCond .lt 43, 3) := by decide +kernel
theorem dX0_remove_10 : decode cX0_remove 10 = .ok (.aload_n 0, 1) := by decide +kernel
theorem dX0_remove_11 : decode cX0_remove 11 = .ok (.dup, 1) := by decide +kernel
theorem dX0_remove_12 : decode cX0_remove 12 = .ok (.getfield 18, 3) := by decide +kernel
theorem dX0_remove_15 : decode cX0_remove 15 = .ok (.iconst 1, 1) := by decide +kernel
theorem dX0_remove_16 : decode cX0_remove 16 = .ok (.isub, 1) := by decide +kernel
theorem dX0_remove_17 : decode cX0_remove 17 = .ok (.putfield 18, 3) := by decide +kernel
theorem dX0_remove_20 : decode cX0_remove 20 = .ok (.aload_n 0, 1) := by decide +kernel
theorem dX0_remove_21 : decode cX0_remove 21 = .ok (.getfield 9, 3) := by decide +kernel
theorem dX0_remove_24 : decode cX0_remove 24 = .ok (.iload_n 2, 1) := by decide +kernel
theorem dX0_remove_25 : decode cX0_remove 25 = .ok (.aload_n 0, 1) := by decide +kernel
theorem dX0_remove_26 : decode cX0_remove 26 = .ok (.getfield 9, 3) := by decide +kernel
theorem dX0_remove_29 : decode cX0_remove 29 = .ok (.aload_n 0, 1) := by decide +kernel
theorem dX0_remove_30 : decode cX0_remove 30 = .ok (.getfield 18, 3) := by decide +kernel
theorem dX0_remove_33 : decode cX0_remove 33 = .ok (.iaload, 1) := by decide +kernel
theorem dX0_remove_34 : decode cX0_remove 34 = .ok (.iastore, 1) := by decide +kernel
theorem dX0_remove_35 : decode cX0_remove 35 = .ok (.aload_n 0, 1) := by decide +kernel
theorem dX0_remove_36 : decode cX0_remove 36 = .ok (.getfield 15, 3) := by decide +kernel
theorem dX0_remove_39 : decode cX0_remove 39 = .ok (.iload_n 2, 1) := by decide +kernel
theorem dX0_remove_40 : decode cX0_remove 40 = .ok (.aload_n 0, 1) := by decide +kernel
theorem dX0_remove_41 : decode cX0_remove 41 = .ok (.getfield 15, 3) := by decide +kernel
theorem dX0_remove_44 : decode cX0_remove 44 = .ok (.aload_n 0, 1) := by decide +kernel
theorem dX0_remove_45 : decode cX0_remove 45 = .ok (.getfield 18, 3) := by decide +kernel
theorem dX0_remove_48 : decode cX0_remove 48 = .ok (.iaload, 1) := by decide +kernel
theorem dX0_remove_49 : decode cX0_remove 49 = .ok (.iastore, 1) := by decide +kernel
theorem dX0_remove_50 : decode cX0_remove 50 = .ok (.aload_n 0, 1) := by decide +kernel
theorem dX0_remove_51 : decode cX0_remove 51 = .ok (.getfield 18, 3) := by decide +kernel
theorem dX0_remove_54 : decode cX0_remove 54 = .ok (.ireturn, 1) := by decide +kernel
theorem dX0_unitsUpTo_0 : decode cX0_unitsUpTo 0 = .ok (.lconst 0, 1) := by decide +kernel
theorem dX0_unitsUpTo_1 : decode cX0_unitsUpTo 1 = .ok (.lstore_n 2, 1) := by decide +kernel
theorem dX0_unitsUpTo_2 : decode cX0_unitsUpTo 2 = .ok (.iconst 0, 1) := by decide +kernel
theorem dX0_unitsUpTo_3 : decode cX0_unitsUpTo 3 = .ok (.istore 4, 2) := by decide +kernel
theorem dX0_unitsUpTo_5 : decode cX0_unitsUpTo 5 = .ok (.iload 4, 2) := by decide +kernel
theorem dX0_unitsUpTo_7 : decode cX0_unitsUpTo 7 = .ok (.aload_n 0, 1) := by decide +kernel
theorem dX0_unitsUpTo_8 : decode cX0_unitsUpTo 8 = .ok (.getfield 18, 3) := by decide +kernel
theorem dX0_unitsUpTo_11 : decode cX0_unitsUpTo 11 = .ok (.if_icmp .ge 31, 3) := by decide +kernel
theorem dX0_unitsUpTo_14 : decode cX0_unitsUpTo 14 = .ok (.aload_n 0, 1) := by decide +kernel
theorem dX0_unitsUpTo_15 : decode cX0_unitsUpTo 15 = .ok (.getfield 9, 3) := by decide +kernel
theorem dX0_unitsUpTo_18 : decode cX0_unitsUpTo 18 = .ok (.iload 4, 2) := by decide +kernel
theorem dX0_unitsUpTo_20 : decode cX0_unitsUpTo 20 = .ok (.iaload, 1) := by decide +kernel
theorem dX0_unitsUpTo_21 : decode cX0_unitsUpTo 21 = .ok (.iload_n 1, 1) := by decide +kernel
theorem dX0_unitsUpTo_22 : decode cX0_unitsUpTo 22 = .ok (.if_icmp .gt 14, 3) := by decide +kernel
theorem dX0_unitsUpTo_25 : decode cX0_unitsUpTo 25 = .ok (.lload_n 2, 1) := by decide +kernel
theorem dX0_unitsUpTo_26 : decode cX0_unitsUpTo 26 = .ok (.aload_n 0, 1) := by decide +kernel
theorem dX0_unitsUpTo_27 : decode cX0_unitsUpTo 27 = .ok (.getfield 15, 3) := by decide +kernel
theorem dX0_unitsUpTo_30 : decode cX0_unitsUpTo 30 = .ok (.iload 4, 2) := by decide +kernel
theorem dX0_unitsUpTo_32 : decode cX0_unitsUpTo 32 = .ok (.iaload, 1) := by decide +kernel
theorem dX0_unitsUpTo_33 : decode cX0_unitsUpTo 33 = .ok (.i2l, 1) := by decide +kernel
theorem dX0_unitsUpTo_34 : decode cX0_unitsUpTo 34 = .ok (.ladd, 1) := by decide +kernel
theorem dX0_unitsUpTo_35 : decode cX0_unitsUpTo 35 = .ok (.lstore_n 2, 1) := by decide +kernel
theorem dX0_unitsUpTo_36 : decode cX0_unitsUpTo 36 = .ok (.iinc 4 1, 3) := by decide +kernel
theorem dX0_unitsUpTo_39 : decode cX0_unitsUpTo 39 = .ok (.goto (-34), 3) := by decide +kernel
theorem dX0_unitsUpTo_42 : decode cX0_unitsUpTo 42 = .ok (.lload_n 2, 1) := by decide +kernel
theorem dX0_unitsUpTo_43 : decode cX0_unitsUpTo 43 = .ok (.lreturn, 1) := by decide +kernel
theorem dX1_init_0 : decode cX1_init 0 = .ok (.aload_n 0, 1) := by decide +kernel
theorem dX1_init_1 : decode cX1_init 1 = .ok (.invokespecial 3, 3) := by decide +kernel
theorem dX1_init_4 : decode cX1_init 4 = .ok (.aload_n 0, 1) := by decide +kernel
theorem dX1_init_5 : decode cX1_init 5 = .ok (.bipush 40, 2) := by decide +kernel
theorem dX1_init_7 : decode cX1_init 7 = .ok (.newarray .int, 2) := by decide +kernel
theorem dX1_init_9 : decode cX1_init 9 = .ok (.putfield 9, 3) := by decide +kernel
theorem dX1_init_12 : decode cX1_init 12 = .ok (.aload_n 0, 1) := by decide +kernel
theorem dX1_init_13 : decode cX1_init 13 = .ok (.bipush 40, 2) := by decide +kernel
theorem dX1_init_15 : decode cX1_init 15 = .ok (.newarray .int, 2) := by decide +kernel
theorem dX1_init_17 : decode cX1_init 17 = .ok (.putfield 15, 3) := by decide +kernel
theorem dX1_init_20 : decode cX1_init 20 = .ok (.aload_n 0, 1) := by decide +kernel
theorem dX1_init_21 : decode cX1_init 21 = .ok (.bipush 40, 2) := by decide +kernel
theorem dX1_init_23 : decode cX1_init 23 = .ok (.newarray .int, 2) := by decide +kernel
theorem dX1_init_25 : decode cX1_init 25 = .ok (.putfield 18, 3) := by decide +kernel
theorem dX1_init_28 : decode cX1_init 28 = .ok (.aload_n 0, 1) := by decide +kernel
theorem dX1_init_29 : decode cX1_init 29 = .ok (.bipush 40, 2) := by decide +kernel
theorem dX1_init_31 : decode cX1_init 31 = .ok (.newarray .int, 2) := by decide +kernel
theorem dX1_init_33 : decode cX1_init 33 = .ok (.putfield 21, 3) := by decide +kernel
theorem dX1_init_36 : decode cX1_init 36 = .ok (.aload_n 0, 1) := by decide +kernel
theorem dX1_init_37 : decode cX1_init 37 = .ok (.bipush 40, 2) := by decide +kernel
theorem dX1_init_39 : decode cX1_init 39 = .ok (.newarray .long, 2) := by decide +kernel
theorem dX1_init_41 : decode cX1_init 41 = .ok (.putfield 24, 3) := by decide +kernel
theorem dX1_init_44 : decode cX1_init 44 = .ok (.return_, 1) := by decide +kernel
theorem dX1_placeOf_0 : decode cX1_placeOf 0 = .ok (.aload_n 0, 1) := by decide +kernel
theorem dX1_placeOf_1 : decode cX1_placeOf 1 = .ok (.getfield 28, 3) := by decide +kernel
theorem dX1_placeOf_4 : decode cX1_placeOf 4 = .ok (.iconst 1, 1) := by decide +kernel
theorem dX1_placeOf_5 : decode cX1_placeOf 5 = .ok (.isub, 1) := by decide +kernel
theorem dX1_placeOf_6 : decode cX1_placeOf 6 = .ok (.istore_n 2, 1) := by decide +kernel
theorem dX1_placeOf_7 : decode cX1_placeOf 7 = .ok (.iload_n 2, 1) := by decide +kernel
theorem dX1_placeOf_8 : decode cX1_placeOf 8 = .ok (.ifCond .lt 19, 3) := by decide +kernel
theorem dX1_placeOf_11 : decode cX1_placeOf 11 = .ok (.aload_n 0, 1) := by decide +kernel
theorem dX1_placeOf_12 : decode cX1_placeOf 12 = .ok (.getfield 9, 3) := by decide +kernel
theorem dX1_placeOf_15 : decode cX1_placeOf 15 = .ok (.iload_n 2, 1) := by decide +kernel
theorem dX1_placeOf_16 : decode cX1_placeOf 16 = .ok (.iaload, 1) := by decide +kernel
theorem dX1_placeOf_17 : decode cX1_placeOf 17 = .ok (.iload_n 1, 1) := by decide +kernel
theorem dX1_placeOf_18 : decode cX1_placeOf 18 = .ok (.if_icmp .le 9, 3) := by decide +kernel
theorem dX1_placeOf_21 : decode cX1_placeOf 21 = .ok (.iinc 2 (-1), 3) := by decide +kernel
theorem dX1_placeOf_24 : decode cX1_placeOf 24 = .ok (.goto (-17), 3) := by decide +kernel
theorem dX1_placeOf_27 : decode cX1_placeOf 27 = .ok (.iload_n 2, 1) := by decide +kernel
theorem dX1_placeOf_28 : decode cX1_placeOf 28 = .ok (.ireturn, 1) := by decide +kernel
set_option maxRecDepth 20000 in
theorem ggX1_isInsideSlope_X1_placeOf : GoodIn wsX1_isInsideSlope wsX1_placeOf := goodIn_r _ [7, 8, 1, 9, 10, 11, 12, 13, 14] (by decide +kernel) (by decide +kernel)
set_option maxRecDepth 20000 in
theorem gX1_isInsideSlope_X1_placeOf : GoodIn wsX1_isInsideSlope (wsV RX1 32 RX1 yX1_placeOf wsX1_placeOf) := goodIn_app (goodIn_of _ (by decide +kernel)) ggX1_isInsideSlope_X1_placeOf
theorem dX1_isInsideSlope_0 : decode cX1_isInsideSlope 0 = .ok (.aload_n 0, 1) := by decide +kernel
theorem dX1_isInsideSlope_1 : decode cX1_isInsideSlope 1 = .ok (.iload_n 1, 1) := by decide +kernel
theorem dX1_isInsideSlope_2 : decode cX1_isInsideSlope 2 = .ok (.invokevirtual 32, 3) := by decide +kernel
theorem dX1_isInsideSlope_5 : decode cX1_isInsideSlope 5 = .ok (.istore_n 2, 1) := by decide +kernel
theorem dX1_isInsideSlope_6 : decode cX1_isInsideSlope 6 = .ok (.iload_n 2, 1) := by decide +kernel
theorem dX1_isInsideSlope_7 : decode cX1_isInsideSlope 7 = .ok (.ifCond .lt 34, 3) := by decide +kernel
theorem dX1_isInsideSlope_10 : decode cX1_isInsideSlope 10 = .ok (.aload_n 0, 1) := by decide +kernel
theorem dX1_isInsideSlope_11 : decode cX1_isInsideSlope 11 = .ok (.getfield 9, 3) := by decide +kernel
theorem dX1_isInsideSlope_14 : decode cX1_isInsideSlope 14 = .ok (.iload_n 2, 1) := by decide +kernel
theorem dX1_isInsideSlope_15 : decode cX1_isInsideSlope 15 = .ok (.iaload, 1) := by decide +kernel
theorem dX1_isInsideSlope_16 : decode cX1_isInsideSlope 16 = .ok (.iload_n 1, 1) := by decide +kernel
theorem dX1_isInsideSlope_17 : decode cX1_isInsideSlope 17 = .ok (.if_icmp .ge 24, 3) := by decide +kernel
theorem dX1_isInsideSlope_20 : decode cX1_isInsideSlope 20 = .ok (.iload_n 1, 1) := by decide +kernel
theorem dX1_isInsideSlope_21 : decode cX1_isInsideSlope 21 = .ok (.aload_n 0, 1) := by decide +kernel
theorem dX1_isInsideSlope_22 : decode cX1_isInsideSlope 22 = .ok (.getfield 9, 3) := by decide +kernel
theorem dX1_isInsideSlope_25 : decode cX1_isInsideSlope 25 = .ok (.iload_n 2, 1) := by decide +kernel
theorem dX1_isInsideSlope_26 : decode cX1_isInsideSlope 26 = .ok (.iaload, 1) := by decide +kernel
theorem dX1_isInsideSlope_27 : decode cX1_isInsideSlope 27 = .ok (.isub, 1) := by decide +kernel
theorem dX1_isInsideSlope_28 : decode cX1_isInsideSlope 28 = .ok (.aload_n 0, 1) := by decide +kernel
theorem dX1_isInsideSlope_29 : decode cX1_isInsideSlope 29 = .ok (.getfield 15, 3) := by decide +kernel
theorem dX1_isInsideSlope_32 : decode cX1_isInsideSlope 32 = .ok (.iload_n 2, 1) := by decide +kernel
theorem dX1_isInsideSlope_33 : decode cX1_isInsideSlope 33 = .ok (.iaload, 1) := by decide +kernel
theorem dX1_isInsideSlope_34 : decode cX1_isInsideSlope 34 = .ok (.if_icmp .ge 7, 3) := by decide +kernel
theorem dX1_isInsideSlope_37 : decode cX1_isInsideSlope 37 = .ok (.iconst 1, 1) := by decide +kernel
theorem dX1_isInsideSlope_38 : decode cX1_isInsideSlope 38 = .ok (.goto 4, 3) := by decide +kernel
theorem dX1_isInsideSlope_41 : decode cX1_isInsideSlope 41 = .ok (.iconst 0, 1) := by decide +kernel
theorem dX1_isInsideSlope_42 : decode cX1_isInsideSlope 42 = .ok (.ireturn, 1) := by decide +kernel
set_option maxRecDepth 20000 in
theorem ggX1_isAnyBetween_X1_placeOf : GoodIn wsX1_isAnyBetween wsX1_placeOf := goodIn_r _ [6, 7, 1, 8, 9, 10, 11, 12, 13] (by decide +kernel) (by decide +kernel)
set_option maxRecDepth 20000 in
theorem gX1_isAnyBetween_X1_placeOf : GoodIn wsX1_isAnyBetween (wsV RX1 32 RX1 yX1_placeOf wsX1_placeOf) := goodIn_app (goodIn_of _ (by decide +kernel)) ggX1_isAnyBetween_X1_placeOf
theorem dX1_isAnyBetween_0 : decode cX1_isAnyBetween 0 = .ok (.aload_n 0, 1) := by decide +kernel
theorem dX1_isAnyBetween_1 : decode cX1_isAnyBetween 1 = .ok (.iload_n 2, 1) := by decide +kernel
theorem dX1_isAnyBetween_2 : decode cX1_isAnyBetween 2 = .ok (.iconst 1, 1) := by decide +kernel
theorem dX1_isAnyBetween_3 : decode cX1_isAnyBetween 3 = .ok (.isub, 1) := by decide +kernel
theorem dX1_isAnyBetween_4 : decode cX1_isAnyBetween 4 = .ok (.invokevirtual 32, 3) := by decide +kernel
theorem dX1_isAnyBetween_7 : decode cX1_isAnyBetween 7 = .ok (.istore_n 3, 1) := by decide +kernel
theorem dX1_isAnyBetween_8 : decode cX1_isAnyBetween 8 = .ok (.iload_n 3, 1) := by decide +kernel
theorem dX1_isAnyBetween_9 : decode cX1_isAnyBetween 9 = .ok (.ifCond .lt 17, 3) := by decide +kernel
theorem dX1_isAnyBetween_12 : decode cX1_isAnyBetween 12 = .ok (.aload_n 0, 1) := by decide +kernel
theorem dX1_isAnyBetween_13 : decode cX1_isAnyBetween 13 = .ok (.getfield 9, 3) := by decide +kernel
theorem dX1_isAnyBetween_16 : decode cX1_isAnyBetween 16 = .ok (.iload_n 3, 1) := by decide +kernel
theorem dX1_isAnyBetween_17 : decode cX1_isAnyBetween 17 = .ok (.iaload, 1) := by decide +kernel
theorem dX1_isAnyBetween_18 : decode cX1_isAnyBetween 18 = .ok (.iload_n 1, 1) := by decide +kernel
theorem dX1_isAnyBetween_19 : decode cX1_isAnyBetween 19 = .ok (.if_icmp .le 7, 3) := by decide +kernel
theorem dX1_isAnyBetween_22 : decode cX1_isAnyBetween 22 = .ok (.iconst 1, 1) := by decide +kernel
theorem dX1_isAnyBetween_23 : decode cX1_isAnyBetween 23 = .ok (.goto 4, 3) := by decide +kernel
theorem dX1_isAnyBetween_26 : decode cX1_isAnyBetween 26 = .ok (.iconst 0, 1) := by decide +kernel
theorem dX1_isAnyBetween_27 : decode cX1_isAnyBetween 27 = .ok (.ireturn, 1) := by decide +kernel
theorem dX1_tell_0 : decode cX1_tell 0 = .ok (.iload_n 1, 1) := by decide +kernel
theorem dX1_tell_1 : decode cX1_tell 1 = .ok (.ifCond .lt 11, 3) := by decide +kernel
theorem dX1_tell_4 : decode cX1_tell 4 = .ok (.iload_n 1, 1) := by decide +kernel
theorem dX1_tell_5 : decode cX1_tell 5 = .ok (.aload_n 0, 1) := by decide +kernel
theorem dX1_tell_6 : decode cX1_tell 6 = .ok (.getfield 28, 3) := by decide +kernel
theorem dX1_tell_9 : decode cX1_tell 9 = .ok (.if_icmp .lt 5, 3) := by decide +kernel
theorem dX1_tell_12 : decode cX1_tell 12 = .ok (.iconst (-1), 1) := by decide +kernel
theorem dX1_tell_13 : decode cX1_tell 13 = .ok (.ireturn, 1) := by decide +kernel
theorem dX1_tell_14 : decode cX1_tell 14 = .ok (.iload_n 2, 1) := by decide +kernel
theorem dX1_tell_15 : decode cX1_tell 15 = .ok (.tableswitch 65 0 3 #[29, 36, 51, 58], 29) := by decide +kernel
theorem dX1_tell_44 : decode cX1_tell 44 = .ok (.aload_n 0, 1) := by decide +kernel
theorem dX1_tell_45 : decode cX1_tell 45 = .ok (.getfield 9, 3) := by decide +kernel
theorem dX1_tell_48 : decode cX1_tell 48 = .ok (.iload_n 1, 1) := by decide +kernel
theorem dX1_tell_49 : decode cX1_tell 49 = .ok (.iaload, 1) := by decide +kernel
theorem dX1_tell_50 : decode cX1_tell 50 = .ok (.ireturn, 1) := by decide +kernel
theorem dX1_tell_51 : decode cX1_tell 51 = .ok (.aload_n 0, 1) := by decide +kernel
theorem dX1_tell_52 : decode cX1_tell 52 = .ok (.getfield 15, 3) := by decide +kernel
theorem dX1_tell_55 : decode cX1_tell 55 = .ok (.iload_n 1, 1) := by decide +kernel
theorem dX1_tell_56 : decode cX1_tell 56 = .ok (.iaload, 1) := by decide +kernel
theorem dX1_tell_57 : decode cX1_tell 57 = .ok (.ifCond .le 7, 3) := by decide +kernel
theorem dX1_tell_60 : decode cX1_tell 60 = .ok (.iconst 1, 1) := by decide +kernel
theorem dX1_tell_61 : decode cX1_tell 61 = .ok (.goto 4, 3) := by decide +kernel
theorem dX1_tell_64 : decode cX1_tell 64 = .ok (.iconst 0, 1) := by decide +kernel
theorem dX1_tell_65 : decode cX1_tell 65 = .ok (.ireturn, 1) := by decide +kernel
theorem dX1_tell_66 : decode cX1_tell 66 = .ok (.aload_n 0, 1) := by decide +kernel
theorem dX1_tell_67 : decode cX1_tell 67 = .ok (.getfield 18, 3) := by decide +kernel
theorem dX1_tell_70 : decode cX1_tell 70 = .ok (.iload_n 1, 1) := by decide +kernel
theorem dX1_tell_71 : decode cX1_tell 71 = .ok (.iaload, 1) := by decide +kernel
theorem dX1_tell_72 : decode cX1_tell 72 = .ok (.ireturn, 1) := by decide +kernel
theorem dX1_tell_73 : decode cX1_tell 73 = .ok (.aload_n 0, 1) := by decide +kernel
theorem dX1_tell_74 : decode cX1_tell 74 = .ok (.getfield 21, 3) := by decide +kernel
theorem dX1_tell_77 : decode cX1_tell 77 = .ok (.iload_n 1, 1) := by decide +kernel
theorem dX1_tell_78 : decode cX1_tell 78 = .ok (.iaload, 1) := by decide +kernel
theorem dX1_tell_79 : decode cX1_tell 79 = .ok (.ireturn, 1) := by decide +kernel
theorem dX1_tell_80 : decode cX1_tell 80 = .ok (.aload_n 0, 1) := by decide +kernel
theorem dX1_tell_81 : decode cX1_tell 81 = .ok (.getfield 15, 3) := by decide +kernel
theorem dX1_tell_84 : decode cX1_tell 84 = .ok (.iload_n 1, 1) := by decide +kernel
theorem dX1_tell_85 : decode cX1_tell 85 = .ok (.iaload, 1) := by decide +kernel
theorem dX1_tell_86 : decode cX1_tell 86 = .ok (.ireturn, 1) := by decide +kernel
set_option maxRecDepth 20000 in
theorem ggX1_putStep_X1_put : GoodIn wsX1_putStep wsX1_put := goodIn_r _ [5, 6, 7, 8, 9, 10, 11, 12, 13, 4, 14, 15, 16, 17, 18, 19, 20, 21, 22, 23, 24, 25, 26, 27, 28, 29, 30, 31, 32, 33, 34, 35, 36, 37, 38, 39, 40, 41, 42, 43, 44, 45, 46, 47, 48, 49, 50, 51, 52, 53] (by decide +kernel) (by decide +kernel)
set_option maxRecDepth 20000 in
theorem gX1_putStep_X1_put : GoodIn wsX1_putStep (wsV RX1 36 RX1 yX1_put wsX1_put) := goodIn_app (goodIn_of _ (by decide +kernel)) ggX1_putStep_X1_put
theorem dX1_putStep_0 : decode cX1_putStep 0 = .ok (.aload_n 0, 1) := by decide +kernel
theorem dX1_putStep_1 : decode cX1_putStep 1 = .ok (.iload_n 1, 1) := by decide +kernel
theorem dX1_putStep_2 : decode cX1_putStep 2 = .ok (.iconst 0, 1) := by decide +kernel
theorem dX1_putStep_3 : decode cX1_putStep 3 = .ok (.iload_n 2, 1) := by decide +kernel
theorem dX1_putStep_4 : decode cX1_putStep 4 = .ok (.iload_n 2, 1) := by decide +kernel
theorem dX1_putStep_5 : decode cX1_putStep 5 = .ok (.invokevirtual 36, 3) := by decide +kernel
theorem dX1_putStep_8 : decode cX1_putStep 8 = .ok (.ireturn, 1) := by decide +kernel
set_option maxRecDepth 20000 in
theorem ggX1_put_X1_placeOf : GoodIn wsX1_put wsX1_placeOf := goodIn_r _ [10, 2, 1, 44, 45, 46, 47, 48, 49] (by decide +kernel) (by decide +kernel)
set_option maxRecDepth 20000 in
theorem gX1_put_X1_placeOf : GoodIn wsX1_put (wsV RX1 32 RX1 yX1_placeOf wsX1_placeOf) := goodIn_app (goodIn_of _ (by decide +kernel)) ggX1_put_X1_placeOf
set_option maxRecDepth 20000 in
theorem ggX1_put_X1_openRow : GoodIn wsX1_put wsX1_openRow := goodIn_r _ [14, 2, 15, 16, 17, 9, 18, 1, 3, 4, 5, 44, 45, 46, 47, 48, 49] (by decide +kernel) (by decide +kernel)
set_option maxRecDepth 20000 in
theorem gX1_put_X1_openRow : GoodIn wsX1_put (wsV RX1 40 RX1 yX1_openRow wsX1_openRow) := goodIn_app (goodIn_of _ (by decide +kernel)) ggX1_put_X1_openRow
set_option maxRecDepth 20000 in
theorem ggX1_put_X1_renewUnitsBefore : GoodIn wsX1_put wsX1_renewUnitsBefore := goodIn_r _ [22, 2, 23, 1, 24, 25, 26, 9, 27, 28, 3, 29, 30, 31, 32, 5, 4, 33, 34, 35, 36, 37, 38, 39, 40, 41, 42, 43, 44, 45, 46, 47, 48, 49] (by decide +kernel) (by decide +kernel)
set_option maxRecDepth 20000 in
theorem gX1_put_X1_renewUnitsBefore : GoodIn wsX1_put (wsV RX1 44 RX1 yX1_renewUnitsBefore wsX1_renewUnitsBefore) := goodIn_app (goodIn_of _ (by decide +kernel)) ggX1_put_X1_renewUnitsBefore
theorem dX1_put_0 : decode cX1_put 0 = .ok (.aload_n 0, 1) := by decide +kernel
theorem dX1_put_1 : decode cX1_put 1 = .ok (.iload_n 1, 1) := by decide +kernel
theorem dX1_put_2 : decode cX1_put 2 = .ok (.invokevirtual 32, 3) := by decide +kernel
theorem dX1_put_5 : decode cX1_put 5 = .ok (.istore 5, 2) := by decide +kernel
theorem dX1_put_7 : decode cX1_put 7 = .ok (.iload 5, 2) := by decide +kernel
theorem dX1_put_9 : decode cX1_put 9 = .ok (.ifCond .lt 14, 3) := by decide +kernel
theorem dX1_put_12 : decode cX1_put 12 = .ok (.aload_n 0, 1) := by decide +kernel
theorem dX1_put_13 : decode cX1_put 13 = .ok (.getfield 9, 3) := by decide +kernel
theorem dX1_put_16 : decode cX1_put 16 = .ok (.iload 5, 2) := by decide +kernel
theorem dX1_put_18 : decode cX1_put 18 = .ok (.iaload, 1) := by decide +kernel
theorem dX1_put_19 : decode cX1_put 19 = .ok (.iload_n 1, 1) := by decide +kernel
theorem dX1_put_20 : decode cX1_put 20 = .ok (.if_icmp .eq 24, 3) := by decide +kernel
theorem dX1_put_23 : decode cX1_put 23 = .ok (.aload_n 0, 1) := by decide +kernel
theorem dX1_put_24 : decode cX1_put 24 = .ok (.getfield 28, 3) := by decide +kernel
theorem dX1_put_27 : decode cX1_put 27 = .ok (.bipush 40, 2) := by decide +kernel
theorem dX1_put_29 : decode cX1_put 29 = .ok (.if_icmp .lt 6, 3) := by decide +kernel
theorem dX1_put_32 : decode cX1_put 32 = .ok (.bipush (-4), 2) := by decide +kernel
theorem dX1_put_34 : decode cX1_put 34 = .ok (.ireturn, 1) := by decide +kernel
theorem dX1_put_35 : decode cX1_put 35 = .ok (.iinc 5 1, 3) := by decide +kernel
theorem dX1_put_38 : decode cX1_put 38 = .ok (.aload_n 0, 1) := by decide +kernel
theorem dX1_put_39 : decode cX1_put 39 = .ok (.iload 5, 2) := by decide +kernel
theorem dX1_put_41 : decode cX1_put 41 = .ok (.invokevirtual 40, 3) := by decide +kernel
theorem dX1_put_44 : decode cX1_put 44 = .ok (.aload_n 0, 1) := by decide +kernel
theorem dX1_put_45 : decode cX1_put 45 = .ok (.getfield 9, 3) := by decide +kernel
theorem dX1_put_48 : decode cX1_put 48 = .ok (.iload 5, 2) := by decide +kernel
theorem dX1_put_50 : decode cX1_put 50 = .ok (.iload_n 1, 1) := by decide +kernel
theorem dX1_put_51 : decode cX1_put 51 = .ok (.iastore, 1) := by decide +kernel
theorem dX1_put_52 : decode cX1_put 52 = .ok (.aload_n 0, 1) := by decide +kernel
theorem dX1_put_53 : decode cX1_put 53 = .ok (.getfield 15, 3) := by decide +kernel
theorem dX1_put_56 : decode cX1_put 56 = .ok (.iload 5, 2) := by decide +kernel
theorem dX1_put_58 : decode cX1_put 58 = .ok (.iload_n 2, 1) := by decide +kernel
theorem dX1_put_59 : decode cX1_put 59 = .ok (.iastore, 1) := by decide +kernel
theorem dX1_put_60 : decode cX1_put 60 = .ok (.aload_n 0, 1) := by decide +kernel
theorem dX1_put_61 : decode cX1_put 61 = .ok (.getfield 18, 3) := by decide +kernel
theorem dX1_put_64 : decode cX1_put 64 = .ok (.iload 5, 2) := by decide +kernel
theorem dX1_put_66 : decode cX1_put 66 = .ok (.iload_n 3, 1) := by decide +kernel
theorem dX1_put_67 : decode cX1_put 67 = .ok (.iastore, 1) := by decide +kernel
theorem dX1_put_68 : decode cX1_put 68 = .ok (.aload_n 0, 1) := by decide +kernel
theorem dX1_put_69 : decode cX1_put 69 = .ok (.getfield 21, 3) := by decide +kernel
theorem dX1_put_72 : decode cX1_put 72 = .ok (.iload 5, 2) := by decide +kernel
theorem dX1_put_74 : decode cX1_put 74 = .ok (.iload 4, 2) := by decide +kernel
theorem dX1_put_76 : decode cX1_put 76 = .ok (.iastore, 1) := by decide +kernel
theorem dX1_put_77 : decode cX1_put 77 = .ok (.aload_n 0, 1) := by decide +kernel
theorem dX1_put_78 : decode cX1_put 78 = .ok (.iload 5, 2) := by decide +kernel
theorem dX1_put_80 : decode cX1_put 80 = .ok (.invokevirtual 44, 3) := by decide +kernel
theorem dX1_put_83 : decode cX1_put 83 = .ok (.aload_n 0, 1) := by decide +kernel
theorem dX1_put_84 : decode cX1_put 84 = .ok (.getfield 28, 3) := by decide +kernel
theorem dX1_put_87 : decode cX1_put 87 = .ok (.ireturn, 1) := by decide +kernel
set_option maxRecDepth 20000 in
theorem ggX1_remove_X1_placeOf : GoodIn wsX1_remove wsX1_placeOf := goodIn_r _ [7, 2, 1, 40, 41, 42, 43, 44, 45] (by decide +kernel) (by decide +kernel)
set_option maxRecDepth 20000 in
theorem gX1_remove_X1_placeOf : GoodIn wsX1_remove (wsV RX1 32 RX1 yX1_placeOf wsX1_placeOf) := goodIn_app (goodIn_of _ (by decide +kernel)) ggX1_remove_X1_placeOf
set_option maxRecDepth 20000 in
theorem ggX1_remove_X1_copyRow : GoodIn wsX1_remove wsX1_copyRow := goodIn_r _ [11, 1, 12, 13, 14, 40, 41, 42, 43, 44, 45] (by decide +kernel) (by decide +kernel)
set_option maxRecDepth 20000 in
theorem gX1_remove_X1_copyRow : GoodIn wsX1_remove (wsV RX1 47 RX1 yX1_copyRow wsX1_copyRow) := goodIn_app (goodIn_of _ (by decide +kernel)) ggX1_remove_X1_copyRow
set_option maxRecDepth 20000 in
theorem ggX1_remove_X1_renewUnitsBefore : GoodIn wsX1_remove wsX1_renewUnitsBefore := goodIn_r _ [18, 2, 19, 1, 20, 21, 22, 6, 23, 24, 12, 25, 26, 27, 28, 14, 13, 29, 30, 31, 32, 33, 34, 35, 36, 37, 38, 39, 40, 41, 42, 43, 44, 45] (by decide +kernel) (by decide +kernel)
set_option maxRecDepth 20000 in
theorem gX1_remove_X1_renewUnitsBefore : GoodIn wsX1_remove (wsV RX1 44 RX1 yX1_renewUnitsBefore wsX1_renewUnitsBefore) := goodIn_app (goodIn_of _ (by decide +kernel)) ggX1_remove_X1_renewUnitsBefore
theorem dX1_remove_0 : decode cX1_remove 0 = .ok (.aload_n 0, 1) := by decide +kernel
theorem dX1_remove_1 : decode cX1_remove 1 = .ok (.iload_n 1, 1) := by decide +kernel
theorem dX1_remove_2 : decode cX1_remove 2 = .ok (.invokevirtual 32, 3) := by decide +kernel
theorem dX1_remove_5 : decode cX1_remove 5 = .ok (.istore_n 2, 1) := by decide +kernel
theorem dX1_remove_6 : decode cX1_remove 6 = .ok (.iload_n 2, 1) := by decide +kernel
theorem dX1_remove_7 : decode cX1_remove 7 = .ok (.ifCond .lt 13, 3) := by decide +kernel
theorem dX1_remove_10 : decode cX1_remove 10 = .ok (.aload_n 0, 1) := by decide +kernel
theorem dX1_remove_11 : decode cX1_remove 11 = .ok (.getfield 9, 3) := by decide +kernel
theorem dX1_remove_14 : decode cX1_remove 14 = .ok (.iload_n 2, 1) := by decide +kernel
theorem dX1_remove_15 : decode cX1_remove 15 = .ok (.iaload, 1) := by decide +kernel
theorem dX1_remove_16 : decode cX1_remove 16 = .ok (.iload_n 1, 1) := by decide +kernel
theorem dX1_remove_17 : decode cX1_remove 17 = .ok (.if_icmp .eq 6, 3) := by decide +kernel
theorem dX1_remove_20 : decode cX1_remove 20 = .ok (.bipush (-3), 2) := by decide +kernel
theorem dX1_remove_22 : decode cX1_remove 22 = .ok (.ireturn, 1) := by decide +kernel
theorem dX1_remove_23 : decode cX1_remove 23 = .ok (.iload_n 2, 1) := by decide +kernel
theorem dX1_remove_24 : decode cX1_remove 24 = .ok (.istore_n 3, 1) := by decide +kernel
theorem dX1_remove_25 : decode cX1_remove 25 = .ok (.iload_n 3, 1) := by decide +kernel
theorem dX1_remove_26 : decode cX1_remove 26 = .ok (.aload_n 0, 1) := by decide +kernel
theorem dX1_remove_27 : decode cX1_remove 27 = .ok (.getfield 28, 3) := by decide +kernel
theorem dX1_remove_30 : decode cX1_remove 30 = .ok (.iconst 1, 1) := by decide +kernel
theorem dX1_remove_31 : decode cX1_remove 31 = .ok (.isub, 1) := by decide +kernel
theorem dX1_remove_32 : decode cX1_remove 32 = .ok (.if_icmp .ge 17, 3) := by decide +kernel
theorem dX1_remove_35 : decode cX1_remove 35 = .ok (.aload_n 0, 1) := by decide +kernel
theorem dX1_remove_36 : decode cX1_remove 36 = .ok (.iload_n 3, 1) := by decide +kernel
theorem dX1_remove_37 : decode cX1_remove 37 = .ok (.iconst 1, 1) := by decide +kernel
theorem dX1_remove_38 : decode cX1_remove 38 = .ok (.iadd, 1) := by decide +kernel
theorem dX1_remove_39 : decode cX1_remove 39 = .ok (.iload_n 3, 1) := by decide +kernel
theorem dX1_remove_40 : decode cX1_remove 40 = .ok (.invokevirtual 47, 3) := by decide +kernel
theorem dX1_remove_43 : decode cX1_remove 43 = .ok (.iinc 3 1, 3) := by decide +kernel
theorem dX1_remove_46 : decode cX1_remove 46 = .ok (.goto (-21), 3) := by decide +kernel
theorem dX1_remove_49 : decode cX1_remove 49 = .ok (.aload_n 0, 1) := by decide +kernel
theorem dX1_remove_50 : decode cX1_remove 50 = .ok (.dup, 1) := by decide +kernel
theorem dX1_remove_51 : decode cX1_remove 51 = .ok (.getfield 28, 3) := by decide +kernel
theorem dX1_remove_54 : decode cX1_remove 54 = .ok (.iconst 1, 1) := by decide +kernel
theorem dX1_remove_55 : decode cX1_remove 55 = .ok (.isub, 1) := by decide +kernel
theorem dX1_remove_56 : decode cX1_remove 56 = .ok (.putfield 28, 3) := by decide +kernel
theorem dX1_remove_59 : decode cX1_remove 59 = .ok (.aload_n 0, 1) := by decide +kernel
theorem dX1_remove_60 : decode cX1_remove 60 = .ok (.iload_n 2, 1) := by decide +kernel
theorem dX1_remove_61 : decode cX1_remove 61 = .ok (.invokevirtual 44, 3) := by decide +kernel
theorem dX1_remove_64 : decode cX1_remove 64 = .ok (.aload_n 0, 1) := by decide +kernel
theorem dX1_remove_65 : decode cX1_remove 65 = .ok (.getfield 28, 3) := by decide +kernel
theorem dX1_remove_68 : decode cX1_remove 68 = .ok (.ireturn, 1) := by decide +kernel
set_option maxRecDepth 20000 in
theorem ggX1_openRow_X1_copyRow : GoodIn wsX1_openRow wsX1_copyRow := goodIn_r _ [6, 7, 8, 9, 10, 11, 12, 13, 14, 15, 16] (by decide +kernel) (by decide +kernel)
set_option maxRecDepth 20000 in
theorem gX1_openRow_X1_copyRow : GoodIn wsX1_openRow (wsV RX1 47 RX1 yX1_copyRow wsX1_copyRow) := goodIn_app (goodIn_of _ (by decide +kernel)) ggX1_openRow_X1_copyRow
theorem dX1_openRow_0 : decode cX1_openRow 0 = .ok (.aload_n 0, 1) := by decide +kernel
theorem dX1_openRow_1 : decode cX1_openRow 1 = .ok (.getfield 28, 3) := by decide +kernel
theorem dX1_openRow_4 : decode cX1_openRow 4 = .ok (.istore_n 2, 1) := by decide +kernel
theorem dX1_openRow_5 : decode cX1_openRow 5 = .ok (.iload_n 2, 1) := by decide +kernel
theorem dX1_openRow_6 : decode cX1_openRow 6 = .ok (.iload_n 1, 1) := by decide +kernel
theorem dX1_openRow_7 : decode cX1_openRow 7 = .ok (.if_icmp .le 17, 3) := by decide +kernel
theorem dX1_openRow_10 : decode cX1_openRow 10 = .ok (.aload_n 0, 1) := by decide +kernel
theorem dX1_openRow_11 : decode cX1_openRow 11 = .ok (.iload_n 2, 1) := by decide +kernel
theorem dX1_openRow_12 : decode cX1_openRow 12 = .ok (.iconst 1, 1) := by decide +kernel
theorem dX1_openRow_13 : decode cX1_openRow 13 = .ok (.isub, 1) := by decide +kernel
theorem dX1_openRow_14 : decode cX1_openRow 14 = .ok (.iload_n 2, 1) := by decide +kernel
theorem dX1_openRow_15 : decode cX1_openRow 15 = .ok (.invokevirtual 47, 3) := by decide +kernel
theorem dX1_openRow_18 : decode cX1_openRow 18 = .ok (.iinc 2 (-1), 3) := by decide +kernel
theorem dX1_openRow_21 : decode cX1_openRow 21 = .ok (.goto (-16), 3) := by decide +kernel
theorem dX1_openRow_24 : decode cX1_openRow 24 = .ok (.aload_n 0, 1) := by decide +kernel
theorem dX1_openRow_25 : decode cX1_openRow 25 = .ok (.dup, 1) := by decide +kernel
theorem dX1_openRow_26 : decode cX1_openRow 26 = .ok (.getfield 28, 3) := by decide +kernel
theorem dX1_openRow_29 : decode cX1_openRow 29 = .ok (.iconst 1, 1) := by decide +kernel
theorem dX1_openRow_30 : decode cX1_openRow 30 = .ok (.iadd, 1) := by decide +kernel
theorem dX1_openRow_31 : decode cX1_openRow 31 = .ok (.putfield 28, 3) := by decide +kernel
theorem dX1_openRow_34 : decode cX1_openRow 34 = .ok (.return_, 1) := by decide +kernel
theorem dX1_copyRow_0 : decode cX1_copyRow 0 = .ok (.aload_n 0, 1) := by decide +kernel
theorem dX1_copyRow_1 : decode cX1_copyRow 1 = .ok (.getfield 9, 3) := by decide +kernel
theorem dX1_copyRow_4 : decode cX1_copyRow 4 = .ok (.iload_n 2, 1) := by decide +kernel
theorem dX1_copyRow_5 : decode cX1_copyRow 5 = .ok (.aload_n 0, 1) := by decide +kernel
theorem dX1_copyRow_6 : decode cX1_copyRow 6 = .ok (.getfield 9, 3) := by decide +kernel
theorem dX1_copyRow_9 : decode cX1_copyRow 9 = .ok (.iload_n 1, 1) := by decide +kernel
theorem dX1_copyRow_10 : decode cX1_copyRow 10 = .ok (.iaload, 1) := by decide +kernel
theorem dX1_copyRow_11 : decode cX1_copyRow 11 = .ok (.iastore, 1) := by decide +kernel
theorem dX1_copyRow_12 : decode cX1_copyRow 12 = .ok (.aload_n 0, 1) := by decide +kernel
theorem dX1_copyRow_13 : decode cX1_copyRow 13 = .ok (.getfield 15, 3) := by decide +kernel
theorem dX1_copyRow_16 : decode cX1_copyRow 16 = .ok (.iload_n 2, 1) := by decide +kernel
theorem dX1_copyRow_17 : decode cX1_copyRow 17 = .ok (.aload_n 0, 1) := by decide +kernel
theorem dX1_copyRow_18 : decode cX1_copyRow 18 = .ok (.getfield 15, 3) := by decide +kernel
theorem dX1_copyRow_21 : decode cX1_copyRow 21 = .ok (.iload_n 1, 1) := by decide +kernel
theorem dX1_copyRow_22 : decode cX1_copyRow 22 = .ok (.iaload, 1) := by decide +kernel
theorem dX1_copyRow_23 : decode cX1_copyRow 23 = .ok (.iastore, 1) := by decide +kernel
theorem dX1_copyRow_24 : decode cX1_copyRow 24 = .ok (.aload_n 0, 1) := by decide +kernel
theorem dX1_copyRow_25 : decode cX1_copyRow 25 = .ok (.getfield 18, 3) := by decide +kernel
theorem dX1_copyRow_28 : decode cX1_copyRow 28 = .ok (.iload_n 2, 1) := by decide +kernel
theorem dX1_copyRow_29 : decode cX1_copyRow 29 = .ok (.aload_n 0, 1) := by decide +kernel
theorem dX1_copyRow_30 : decode cX1_copyRow 30 = .ok (.getfield 18, 3) := by decide +kernel
theorem dX1_copyRow_33 : decode cX1_copyRow 33 = .ok (.iload_n 1, 1) := by decide +kernel
theorem dX1_copyRow_34 : decode cX1_copyRow 34 = .ok (.iaload, 1) := by decide +kernel
theorem dX1_copyRow_35 : decode cX1_copyRow 35 = .ok (.iastore, 1) := by decide +kernel
theorem dX1_copyRow_36 : decode cX1_copyRow 36 = .ok (.aload_n 0, 1) := by decide +kernel
theorem dX1_copyRow_37 : decode cX1_copyRow 37 = .ok (.getfield 21, 3) := by decide +kernel
theorem dX1_copyRow_40 : decode cX1_copyRow 40 = .ok (.iload_n 2, 1) := by decide +kernel
theorem dX1_copyRow_41 : decode cX1_copyRow 41 = .ok (.aload_n 0, 1) := by decide +kernel
theorem dX1_copyRow_42 : decode cX1_copyRow 42 = .ok (.getfield 21, 3) := by decide +kernel
theorem dX1_copyRow_45 : decode cX1_copyRow 45 = .ok (.iload_n 1, 1) := by decide +kernel
theorem dX1_copyRow_46 : decode cX1_copyRow 46 = .ok (.iaload, 1) := by decide +kernel
theorem dX1_copyRow_47 : decode cX1_copyRow 47 = .ok (.iastore, 1) := by decide +kernel
theorem dX1_copyRow_48 : decode cX1_copyRow 48 = .ok (.return_, 1) := by decide +kernel
set_option maxRecDepth 20000 in
theorem ggX1_renewUnitsBefore_X1_unitsAheadBy : GoodIn wsX1_renewUnitsBefore wsX1_unitsAheadBy := goodIn_r _ [8, 9, 3, 10, 11, 12, 13, 14, 15, 16, 2, 17, 18, 19, 20, 21, 22, 23, 24, 25, 26, 27, 28, 29, 30, 31, 32, 33] (by decide +kernel) (by decide +kernel)
set_option maxRecDepth 20000 in
theorem gX1_renewUnitsBefore_X1_unitsAheadBy : GoodIn wsX1_renewUnitsBefore (wsV RX1 51 RX1 yX1_unitsAheadBy wsX1_unitsAheadBy) := goodIn_app (goodIn_of _ (by decide +kernel)) ggX1_renewUnitsBefore_X1_unitsAheadBy
theorem dX1_renewUnitsBefore_0 : decode cX1_renewUnitsBefore 0 = .ok (.iload_n 1, 1) := by decide +kernel
theorem dX1_renewUnitsBefore_1 : decode cX1_renewUnitsBefore 1 = .ok (.istore_n 2, 1) := by decide +kernel
theorem dX1_renewUnitsBefore_2 : decode cX1_renewUnitsBefore 2 = .ok (.iload_n 2, 1) := by decide +kernel
theorem dX1_renewUnitsBefore_3 : decode cX1_renewUnitsBefore 3 = .ok (.aload_n 0, 1) := by decide +kernel
theorem dX1_renewUnitsBefore_4 : decode cX1_renewUnitsBefore 4 = .ok (.getfield 28, 3) := by decide +kernel
theorem dX1_renewUnitsBefore_7 : decode cX1_renewUnitsBefore 7 = .ok (.if_icmp .ge 28, 3) := by decide +kernel
theorem dX1_renewUnitsBefore_10 : decode cX1_renewUnitsBefore 10 = .ok (.aload_n 0, 1) := by decide +kernel
theorem dX1_renewUnitsBefore_11 : decode cX1_renewUnitsBefore 11 = .ok (.getfield 24, 3) := by decide +kernel
theorem dX1_renewUnitsBefore_14 : decode cX1_renewUnitsBefore 14 = .ok (.iload_n 2, 1) := by decide +kernel
theorem dX1_renewUnitsBefore_15 : decode cX1_renewUnitsBefore 15 = .ok (.aload_n 0, 1) := by decide +kernel
theorem dX1_renewUnitsBefore_16 : decode cX1_renewUnitsBefore 16 = .ok (.iload_n 2, 1) := by decide +kernel
theorem dX1_renewUnitsBefore_17 : decode cX1_renewUnitsBefore 17 = .ok (.iconst 1, 1) := by decide +kernel
theorem dX1_renewUnitsBefore_18 : decode cX1_renewUnitsBefore 18 = .ok (.isub, 1) := by decide +kernel
theorem dX1_renewUnitsBefore_19 : decode cX1_renewUnitsBefore 19 = .ok (.aload_n 0, 1) := by decide +kernel
theorem dX1_renewUnitsBefore_20 : decode cX1_renewUnitsBefore 20 = .ok (.getfield 9, 3) := by decide +kernel
theorem dX1_renewUnitsBefore_23 : decode cX1_renewUnitsBefore 23 = .ok (.iload_n 2, 1) := by decide +kernel
theorem dX1_renewUnitsBefore_24 : decode cX1_renewUnitsBefore 24 = .ok (.iaload, 1) := by decide +kernel
theorem dX1_renewUnitsBefore_25 : decode cX1_renewUnitsBefore 25 = .ok (.invokevirtual 51, 3) := by decide +kernel
theorem dX1_renewUnitsBefore_28 : decode cX1_renewUnitsBefore 28 = .ok (.lastore, 1) := by decide +kernel
theorem dX1_renewUnitsBefore_29 : decode cX1_renewUnitsBefore 29 = .ok (.iinc 2 1, 3) := by decide +kernel
theorem dX1_renewUnitsBefore_32 : decode cX1_renewUnitsBefore 32 = .ok (.goto (-30), 3) := by decide +kernel
theorem dX1_renewUnitsBefore_35 : decode cX1_renewUnitsBefore 35 = .ok (.return_, 1) := by decide +kernel
set_option maxRecDepth 20000 in
theorem ggX1_unitsOfTick_X1_placeOf : GoodIn wsX1_unitsOfTick wsX1_placeOf := goodIn_r _ [9, 10, 1, 15, 16, 17, 18, 19, 20] (by decide +kernel) (by decide +kernel)
set_option maxRecDepth 20000 in
theorem gX1_unitsOfTick_X1_placeOf : GoodIn wsX1_unitsOfTick (wsV RX1 32 RX1 yX1_placeOf wsX1_placeOf) := goodIn_app (goodIn_of _ (by decide +kernel)) ggX1_unitsOfTick_X1_placeOf
set_option maxRecDepth 20000 in
theorem ggX1_unitsOfTick_J9_floorDiv_7cf53 : GoodIn wsX1_unitsOfTick wsJ9_floorDiv_7cf53 := goodIn_r _ [14] (by decide +kernel) (by decide +kernel)
set_option maxRecDepth 20000 in
theorem gX1_unitsOfTick_J9_floorDiv_7cf53 : GoodIn wsX1_unitsOfTick (va_wsS RX1 55 yJ9_floorDiv_7cf53 wsJ9_floorDiv_7cf53) := goodIn_app (goodIn_of _ (by decide +kernel)) ggX1_unitsOfTick_J9_floorDiv_7cf53
theorem dX1_unitsOfTick_0 : decode cX1_unitsOfTick 0 = .ok (.aload_n 0, 1) := by decide +kernel
theorem dX1_unitsOfTick_1 : decode cX1_unitsOfTick 1 = .ok (.iload_n 1, 1) := by decide +kernel
theorem dX1_unitsOfTick_2 : decode cX1_unitsOfTick 2 = .ok (.invokevirtual 32, 3) := by decide +kernel
theorem dX1_unitsOfTick_5 : decode cX1_unitsOfTick 5 = .ok (.istore_n 2, 1) := by decide +kernel
theorem dX1_unitsOfTick_6 : decode cX1_unitsOfTick 6 = .ok (.iload_n 2, 1) := by decide +kernel
theorem dX1_unitsOfTick_7 : decode cX1_unitsOfTick 7 = .ok (.ifCond .ge 7, 3) := by decide +kernel
theorem dX1_unitsOfTick_10 : decode cX1_unitsOfTick 10 = .ok (.sipush 1000, 3) := by decide +kernel
theorem dX1_unitsOfTick_13 : decode cX1_unitsOfTick 13 = .ok (.ireturn, 1) := by decide +kernel
theorem dX1_unitsOfTick_14 : decode cX1_unitsOfTick 14 = .ok (.iload_n 1, 1) := by decide +kernel
theorem dX1_unitsOfTick_15 : decode cX1_unitsOfTick 15 = .ok (.aload_n 0, 1) := by decide +kernel
theorem dX1_unitsOfTick_16 : decode cX1_unitsOfTick 16 = .ok (.getfield 9, 3) := by decide +kernel
theorem dX1_unitsOfTick_19 : decode cX1_unitsOfTick 19 = .ok (.iload_n 2, 1) := by decide +kernel
theorem dX1_unitsOfTick_20 : decode cX1_unitsOfTick 20 = .ok (.iaload, 1) := by decide +kernel
theorem dX1_unitsOfTick_21 : decode cX1_unitsOfTick 21 = .ok (.isub, 1) := by decide +kernel
theorem dX1_unitsOfTick_22 : decode cX1_unitsOfTick 22 = .ok (.istore_n 3, 1) := by decide +kernel
theorem dX1_unitsOfTick_23 : decode cX1_unitsOfTick 23 = .ok (.aload_n 0, 1) := by decide +kernel
theorem dX1_unitsOfTick_24 : decode cX1_unitsOfTick 24 = .ok (.getfield 15, 3) := by decide +kernel
theorem dX1_unitsOfTick_27 : decode cX1_unitsOfTick 27 = .ok (.iload_n 2, 1) := by decide +kernel
theorem dX1_unitsOfTick_28 : decode cX1_unitsOfTick 28 = .ok (.iaload, 1) := by decide +kernel
theorem dX1_unitsOfTick_29 : decode cX1_unitsOfTick 29 = .ok (.istore 4, 2) := by decide +kernel
theorem dX1_unitsOfTick_31 : decode cX1_unitsOfTick 31 = .ok (.iload 4, 2) := by decide +kernel
theorem dX1_unitsOfTick_33 : decode cX1_unitsOfTick 33 = .ok (.iconst 1, 1) := by decide +kernel
theorem dX1_unitsOfTick_34 : decode cX1_unitsOfTick 34 = .ok (.if_icmp .lt 9, 3) := by decide +kernel
theorem dX1_unitsOfTick_37 : decode cX1_unitsOfTick 37 = .ok (.iload_n 3, 1) := by decide +kernel
theorem dX1_unitsOfTick_38 : decode cX1_unitsOfTick 38 = .ok (.iload 4, 2) := by decide +kernel
theorem dX1_unitsOfTick_40 : decode cX1_unitsOfTick 40 = .ok (.if_icmp .lt 10, 3) := by decide +kernel
theorem dX1_unitsOfTick_43 : decode cX1_unitsOfTick 43 = .ok (.aload_n 0, 1) := by decide +kernel
theorem dX1_unitsOfTick_44 : decode cX1_unitsOfTick 44 = .ok (.getfield 21, 3) := by decide +kernel
theorem dX1_unitsOfTick_47 : decode cX1_unitsOfTick 47 = .ok (.iload_n 2, 1) := by decide +kernel
theorem dX1_unitsOfTick_48 : decode cX1_unitsOfTick 48 = .ok (.iaload, 1) := by decide +kernel
theorem dX1_unitsOfTick_49 : decode cX1_unitsOfTick 49 = .ok (.ireturn, 1) := by decide +kernel
theorem dX1_unitsOfTick_50 : decode cX1_unitsOfTick 50 = .ok (.aload_n 0, 1) := by decide +kernel
theorem dX1_unitsOfTick_51 : decode cX1_unitsOfTick 51 = .ok (.getfield 21, 3) := by decide +kernel
theorem dX1_unitsOfTick_54 : decode cX1_unitsOfTick 54 = .ok (.iload_n 2, 1) := by decide +kernel
theorem dX1_unitsOfTick_55 : decode cX1_unitsOfTick 55 = .ok (.iaload, 1) := by decide +kernel
theorem dX1_unitsOfTick_56 : decode cX1_unitsOfTick 56 = .ok (.aload_n 0, 1) := by decide +kernel
theorem dX1_unitsOfTick_57 : decode cX1_unitsOfTick 57 = .ok (.getfield 18, 3) := by decide +kernel
theorem dX1_unitsOfTick_60 : decode cX1_unitsOfTick 60 = .ok (.iload_n 2, 1) := by decide +kernel
theorem dX1_unitsOfTick_61 : decode cX1_unitsOfTick 61 = .ok (.iaload, 1) := by decide +kernel
theorem dX1_unitsOfTick_62 : decode cX1_unitsOfTick 62 = .ok (.isub, 1) := by decide +kernel
theorem dX1_unitsOfTick_63 : decode cX1_unitsOfTick 63 = .ok (.istore 5, 2) := by decide +kernel
theorem dX1_unitsOfTick_65 : decode cX1_unitsOfTick 65 = .ok (.aload_n 0, 1) := by decide +kernel
theorem dX1_unitsOfTick_66 : decode cX1_unitsOfTick 66 = .ok (.getfield 18, 3) := by decide +kernel
theorem dX1_unitsOfTick_69 : decode cX1_unitsOfTick 69 = .ok (.iload_n 2, 1) := by decide +kernel
theorem dX1_unitsOfTick_70 : decode cX1_unitsOfTick 70 = .ok (.iaload, 1) := by decide +kernel
theorem dX1_unitsOfTick_71 : decode cX1_unitsOfTick 71 = .ok (.iload 5, 2) := by decide +kernel
theorem dX1_unitsOfTick_73 : decode cX1_unitsOfTick 73 = .ok (.iload_n 3, 1) := by decide +kernel
theorem dX1_unitsOfTick_74 : decode cX1_unitsOfTick 74 = .ok (.imul, 1) := by decide +kernel
theorem dX1_unitsOfTick_75 : decode cX1_unitsOfTick 75 = .ok (.iload 4, 2) := by decide +kernel
theorem dX1_unitsOfTick_77 : decode cX1_unitsOfTick 77 = .ok (.invokestatic 55, 3) := by decide +kernel
theorem dX1_unitsOfTick_80 : decode cX1_unitsOfTick 80 = .ok (.iadd, 1) := by decide +kernel
theorem dX1_unitsOfTick_81 : decode cX1_unitsOfTick 81 = .ok (.ireturn, 1) := by decide +kernel
set_option maxRecDepth 20000 in
theorem ggX1_unitsAhead_X1_placeOf : GoodIn wsX1_unitsAhead wsX1_placeOf := goodIn_r _ [5, 6, 7, 32, 33, 34, 35, 36, 37] (by decide +kernel) (by decide +kernel)
set_option maxRecDepth 20000 in
theorem gX1_unitsAhead_X1_placeOf : GoodIn wsX1_unitsAhead (wsV RX1 32 RX1 yX1_placeOf wsX1_placeOf) := goodIn_app (goodIn_of _ (by decide +kernel)) ggX1_unitsAhead_X1_placeOf
set_option maxRecDepth 20000 in
theorem ggX1_unitsAhead_X1_unitsAheadBy : GoodIn wsX1_unitsAhead wsX1_unitsAheadBy := goodIn_r _ [11, 12, 7, 13, 14, 15, 16, 17, 18, 19, 20, 21, 22, 23, 24, 25, 26, 27, 28, 29, 30, 31, 32, 33, 34, 35, 36, 37] (by decide +kernel) (by decide +kernel)
set_option maxRecDepth 20000 in
theorem gX1_unitsAhead_X1_unitsAheadBy : GoodIn wsX1_unitsAhead (wsV RX1 51 RX1 yX1_unitsAheadBy wsX1_unitsAheadBy) := goodIn_app (goodIn_of _ (by decide +kernel)) ggX1_unitsAhead_X1_unitsAheadBy
theorem dX1_unitsAhead_0 : decode cX1_unitsAhead 0 = .ok (.aload_n 0, 1) := by decide +kernel
theorem dX1_unitsAhead_1 : decode cX1_unitsAhead 1 = .ok (.aload_n 0, 1) := by decide +kernel
theorem dX1_unitsAhead_2 : decode cX1_unitsAhead 2 = .ok (.iload_n 1, 1) := by decide +kernel
theorem dX1_unitsAhead_3 : decode cX1_unitsAhead 3 = .ok (.invokevirtual 32, 3) := by decide +kernel
theorem dX1_unitsAhead_6 : decode cX1_unitsAhead 6 = .ok (.iload_n 1, 1) := by decide +kernel
theorem dX1_unitsAhead_7 : decode cX1_unitsAhead 7 = .ok (.invokevirtual 51, 3) := by decide +kernel
theorem dX1_unitsAhead_10 : decode cX1_unitsAhead 10 = .ok (.lreturn, 1) := by decide +kernel
set_option maxRecDepth 20000 in
theorem ggX1_unitsAheadBy_X3_sumOfQuotients : GoodIn wsX1_unitsAheadBy wsX3_sumOfQuotients := goodIn_r _ [13, 14, 15, 16, 17, 18, 19, 20, 21] (by decide +kernel) (by decide +kernel)
set_option maxRecDepth 20000 in
theorem gX1_unitsAheadBy_X3_sumOfQuotients_n66 : GoodIn wsX1_unitsAheadBy (wsX3_sumOfQuotients) := ggX1_unitsAheadBy_X3_sumOfQuotients
theorem dX1_unitsAheadBy_0 : decode cX1_unitsAheadBy 0 = .ok (.iload_n 1, 1) := by decide +kernel
theorem dX1_unitsAheadBy_1 : decode cX1_unitsAheadBy 1 = .ok (.ifCond .ge 10, 3) := by decide +kernel
theorem dX1_unitsAheadBy_4 : decode cX1_unitsAheadBy 4 = .ok (.ldc2_w 61, 3) := by decide +kernel
theorem dX1_unitsAheadBy_7 : decode cX1_unitsAheadBy 7 = .ok (.iload_n 2, 1) := by decide +kernel
theorem dX1_unitsAheadBy_8 : decode cX1_unitsAheadBy 8 = .ok (.i2l, 1) := by decide +kernel
theorem dX1_unitsAheadBy_9 : decode cX1_unitsAheadBy 9 = .ok (.lmul, 1) := by decide +kernel
theorem dX1_unitsAheadBy_10 : decode cX1_unitsAheadBy 10 = .ok (.lreturn, 1) := by decide +kernel
theorem dX1_unitsAheadBy_11 : decode cX1_unitsAheadBy 11 = .ok (.iload_n 2, 1) := by decide +kernel
theorem dX1_unitsAheadBy_12 : decode cX1_unitsAheadBy 12 = .ok (.aload_n 0, 1) := by decide +kernel
theorem dX1_unitsAheadBy_13 : decode cX1_unitsAheadBy 13 = .ok (.getfield 9, 3) := by decide +kernel
theorem dX1_unitsAheadBy_16 : decode cX1_unitsAheadBy 16 = .ok (.iload_n 1, 1) := by decide +kernel
theorem dX1_unitsAheadBy_17 : decode cX1_unitsAheadBy 17 = .ok (.iaload, 1) := by decide +kernel
theorem dX1_unitsAheadBy_18 : decode cX1_unitsAheadBy 18 = .ok (.isub, 1) := by decide +kernel
theorem dX1_unitsAheadBy_19 : decode cX1_unitsAheadBy 19 = .ok (.istore_n 3, 1) := by decide +kernel
theorem dX1_unitsAheadBy_20 : decode cX1_unitsAheadBy 20 = .ok (.iload_n 3, 1) := by decide +kernel
theorem dX1_unitsAheadBy_21 : decode cX1_unitsAheadBy 21 = .ok (.aload_n 0, 1) := by decide +kernel
theorem dX1_unitsAheadBy_22 : decode cX1_unitsAheadBy 22 = .ok (.getfield 15, 3) := by decide +kernel
theorem dX1_unitsAheadBy_25 : decode cX1_unitsAheadBy 25 = .ok (.iload_n 1, 1) := by decide +kernel
theorem dX1_unitsAheadBy_26 : decode cX1_unitsAheadBy 26 = .ok (.iaload, 1) := by decide +kernel
theorem dX1_unitsAheadBy_27 : decode cX1_unitsAheadBy 27 = .ok (.invokestatic 63, 3) := by decide +kernel
theorem dX1_unitsAheadBy_30 : decode cX1_unitsAheadBy 30 = .ok (.istore 4, 2) := by decide +kernel
theorem dX1_unitsAheadBy_32 : decode cX1_unitsAheadBy 32 = .ok (.aload_n 0, 1) := by decide +kernel
theorem dX1_unitsAheadBy_33 : decode cX1_unitsAheadBy 33 = .ok (.getfield 21, 3) := by decide +kernel
theorem dX1_unitsAheadBy_36 : decode cX1_unitsAheadBy 36 = .ok (.iload_n 1, 1) := by decide +kernel
theorem dX1_unitsAheadBy_37 : decode cX1_unitsAheadBy 37 = .ok (.iaload, 1) := by decide +kernel
theorem dX1_unitsAheadBy_38 : decode cX1_unitsAheadBy 38 = .ok (.aload_n 0, 1) := by decide +kernel
theorem dX1_unitsAheadBy_39 : decode cX1_unitsAheadBy 39 = .ok (.getfield 18, 3) := by decide +kernel
theorem dX1_unitsAheadBy_42 : decode cX1_unitsAheadBy 42 = .ok (.iload_n 1, 1) := by decide +kernel
theorem dX1_unitsAheadBy_43 : decode cX1_unitsAheadBy 43 = .ok (.iaload, 1) := by decide +kernel
theorem dX1_unitsAheadBy_44 : decode cX1_unitsAheadBy 44 = .ok (.isub, 1) := by decide +kernel
theorem dX1_unitsAheadBy_45 : decode cX1_unitsAheadBy 45 = .ok (.istore 5, 2) := by decide +kernel
theorem dX1_unitsAheadBy_47 : decode cX1_unitsAheadBy 47 = .ok (.aload_n 0, 1) := by decide +kernel
theorem dX1_unitsAheadBy_48 : decode cX1_unitsAheadBy 48 = .ok (.getfield 24, 3) := by decide +kernel
theorem dX1_unitsAheadBy_51 : decode cX1_unitsAheadBy 51 = .ok (.iload_n 1, 1) := by decide +kernel
theorem dX1_unitsAheadBy_52 : decode cX1_unitsAheadBy 52 = .ok (.laload, 1) := by decide +kernel
theorem dX1_unitsAheadBy_53 : decode cX1_unitsAheadBy 53 = .ok (.aload_n 0, 1) := by decide +kernel
theorem dX1_unitsAheadBy_54 : decode cX1_unitsAheadBy 54 = .ok (.getfield 18, 3) := by decide +kernel
theorem dX1_unitsAheadBy_57 : decode cX1_unitsAheadBy 57 = .ok (.iload_n 1, 1) := by decide +kernel
theorem dX1_unitsAheadBy_58 : decode cX1_unitsAheadBy 58 = .ok (.iaload, 1) := by decide +kernel
theorem dX1_unitsAheadBy_59 : decode cX1_unitsAheadBy 59 = .ok (.i2l, 1) := by decide +kernel
theorem dX1_unitsAheadBy_60 : decode cX1_unitsAheadBy 60 = .ok (.iload 4, 2) := by decide +kernel
theorem dX1_unitsAheadBy_62 : decode cX1_unitsAheadBy 62 = .ok (.i2l, 1) := by decide +kernel
theorem dX1_unitsAheadBy_63 : decode cX1_unitsAheadBy 63 = .ok (.lmul, 1) := by decide +kernel
theorem dX1_unitsAheadBy_64 : decode cX1_unitsAheadBy 64 = .ok (.ladd, 1) := by decide +kernel
theorem dX1_unitsAheadBy_65 : decode cX1_unitsAheadBy 65 = .ok (.iload 4, 2) := by decide +kernel
theorem dX1_unitsAheadBy_67 : decode cX1_unitsAheadBy 67 = .ok (.iload 5, 2) := by decide +kernel
theorem dX1_unitsAheadBy_69 : decode cX1_unitsAheadBy 69 = .ok (.aload_n 0, 1) := by decide +kernel
theorem dX1_unitsAheadBy_70 : decode cX1_unitsAheadBy 70 = .ok (.getfield 15, 3) := by decide +kernel
theorem dX1_unitsAheadBy_73 : decode cX1_unitsAheadBy 73 = .ok (.iload_n 1, 1) := by decide +kernel
theorem dX1_unitsAheadBy_74 : decode cX1_unitsAheadBy 74 = .ok (.iaload, 1) := by decide +kernel
theorem dX1_unitsAheadBy_75 : decode cX1_unitsAheadBy 75 = .ok (.invokestatic 66, 3) := by decide +kernel
theorem dX1_unitsAheadBy_78 : decode cX1_unitsAheadBy 78 = .ok (.ladd, 1) := by decide +kernel
theorem dX1_unitsAheadBy_79 : decode cX1_unitsAheadBy 79 = .ok (.aload_n 0, 1) := by decide +kernel
theorem dX1_unitsAheadBy_80 : decode cX1_unitsAheadBy 80 = .ok (.getfield 21, 3) := by decide +kernel
theorem dX1_unitsAheadBy_83 : decode cX1_unitsAheadBy 83 = .ok (.iload_n 1, 1) := by decide +kernel
theorem dX1_unitsAheadBy_84 : decode cX1_unitsAheadBy 84 = .ok (.iaload, 1) := by decide +kernel
theorem dX1_unitsAheadBy_85 : decode cX1_unitsAheadBy 85 = .ok (.i2l, 1) := by decide +kernel
theorem dX1_unitsAheadBy_86 : decode cX1_unitsAheadBy 86 = .ok (.iload_n 3, 1) := by decide +kernel
theorem dX1_unitsAheadBy_87 : decode cX1_unitsAheadBy 87 = .ok (.iload 4, 2) := by decide +kernel
theorem dX1_unitsAheadBy_89 : decode cX1_unitsAheadBy 89 = .ok (.isub, 1) := by decide +kernel
theorem dX1_unitsAheadBy_90 : decode cX1_unitsAheadBy 90 = .ok (.i2l, 1) := by decide +kernel
theorem dX1_unitsAheadBy_91 : decode cX1_unitsAheadBy 91 = .ok (.lmul, 1) := by decide +kernel
theorem dX1_unitsAheadBy_92 : decode cX1_unitsAheadBy 92 = .ok (.ladd, 1) := by decide +kernel
theorem dX1_unitsAheadBy_93 : decode cX1_unitsAheadBy 93 = .ok (.lreturn, 1) := by decide +kernel
theorem dX2_init_0 : decode cX2_init 0 = .ok (.aload_n 0, 1) := by decide +kernel
theorem dX2_init_1 : decode cX2_init 1 = .ok (.invokespecial 3, 3) := by decide +kernel
theorem dX2_init_4 : decode cX2_init 4 = .ok (.aload_n 0, 1) := by decide +kernel
theorem dX2_init_5 : decode cX2_init 5 = .ok (.bipush 40, 2) := by decide +kernel
theorem dX2_init_7 : decode cX2_init 7 = .ok (.newarray .long, 2) := by decide +kernel
theorem dX2_init_9 : decode cX2_init 9 = .ok (.putfield 9, 3) := by decide +kernel
theorem dX2_init_12 : decode cX2_init 12 = .ok (.return_, 1) := by decide +kernel
theorem dX2_add_0 : decode cX2_add 0 = .ok (.aload_n 0, 1) := by decide +kernel
theorem dX2_add_1 : decode cX2_add 1 = .ok (.getfield 15, 3) := by decide +kernel
theorem dX2_add_4 : decode cX2_add 4 = .ok (.ifCond .le 22, 3) := by decide +kernel
theorem dX2_add_7 : decode cX2_add 7 = .ok (.lload_n 1, 1) := by decide +kernel
theorem dX2_add_8 : decode cX2_add 8 = .ok (.aload_n 0, 1) := by decide +kernel
theorem dX2_add_9 : decode cX2_add 9 = .ok (.getfield 9, 3) := by decide +kernel
theorem dX2_add_12 : decode cX2_add 12 = .ok (.aload_n 0, 1) := by decide +kernel
theorem dX2_add_13 : decode cX2_add 13 = .ok (.getfield 15, 3) := by decide +kernel
theorem dX2_add_16 : decode cX2_add 16 = .ok (.iconst 1, 1) := by decide +kernel
theorem dX2_add_17 : decode cX2_add 17 = .ok (.isub, 1) := by decide +kernel
theorem dX2_add_18 : decode cX2_add 18 = .ok (.laload, 1) := by decide +kernel
theorem dX2_add_19 : decode cX2_add 19 = .ok (.lcmp, 1) := by decide +kernel
theorem dX2_add_20 : decode cX2_add 20 = .ok (.ifCond .gt 6, 3) := by decide +kernel
theorem dX2_add_23 : decode cX2_add 23 = .ok (.bipush (-3), 2) := by decide +kernel
theorem dX2_add_25 : decode cX2_add 25 = .ok (.ireturn, 1) := by decide +kernel
theorem dX2_add_26 : decode cX2_add 26 = .ok (.aload_n 0, 1) := by decide +kernel
theorem dX2_add_27 : decode cX2_add 27 = .ok (.getfield 15, 3) := by decide +kernel
theorem dX2_add_30 : decode cX2_add 30 = .ok (.bipush 40, 2) := by decide +kernel
theorem dX2_add_32 : decode cX2_add 32 = .ok (.if_icmp .lt 6, 3) := by decide +kernel
theorem dX2_add_35 : decode cX2_add 35 = .ok (.bipush (-4), 2) := by decide +kernel
theorem dX2_add_37 : decode cX2_add 37 = .ok (.ireturn, 1) := by decide +kernel
theorem dX2_add_38 : decode cX2_add 38 = .ok (.aload_n 0, 1) := by decide +kernel
theorem dX2_add_39 : decode cX2_add 39 = .ok (.getfield 9, 3) := by decide +kernel
theorem dX2_add_42 : decode cX2_add 42 = .ok (.aload_n 0, 1) := by decide +kernel
theorem dX2_add_43 : decode cX2_add 43 = .ok (.getfield 15, 3) := by decide +kernel
theorem dX2_add_46 : decode cX2_add 46 = .ok (.lload_n 1, 1) := by decide +kernel
theorem dX2_add_47 : decode cX2_add 47 = .ok (.lastore, 1) := by decide +kernel
theorem dX2_add_48 : decode cX2_add 48 = .ok (.aload_n 0, 1) := by decide +kernel
theorem dX2_add_49 : decode cX2_add 49 = .ok (.dup, 1) := by decide +kernel
theorem dX2_add_50 : decode cX2_add 50 = .ok (.getfield 15, 3) := by decide +kernel
theorem dX2_add_53 : decode cX2_add 53 = .ok (.iconst 1, 1) := by decide +kernel
theorem dX2_add_54 : decode cX2_add 54 = .ok (.iadd, 1) := by decide +kernel
theorem dX2_add_55 : decode cX2_add 55 = .ok (.putfield 15, 3) := by decide +kernel
theorem dX2_add_58 : decode cX2_add 58 = .ok (.aload_n 0, 1) := by decide +kernel
theorem dX2_add_59 : decode cX2_add 59 = .ok (.getfield 15, 3) := by decide +kernel
theorem dX2_add_62 : decode cX2_add 62 = .ok (.ireturn, 1) := by decide +kernel
theorem dX2_removeAll_0 : decode cX2_removeAll 0 = .ok (.aload_n 0, 1) := by decide +kernel
theorem dX2_removeAll_1 : decode cX2_removeAll 1 = .ok (.getfield 15, 3) := by decide +kernel
theorem dX2_removeAll_4 : decode cX2_removeAll 4 = .ok (.istore_n 1, 1) := by decide +kernel
theorem dX2_removeAll_5 : decode cX2_removeAll 5 = .ok (.aload_n 0, 1) := by decide +kernel
theorem dX2_removeAll_6 : decode cX2_removeAll 6 = .ok (.iconst 0, 1) := by decide +kernel
theorem dX2_removeAll_7 : decode cX2_removeAll 7 = .ok (.putfield 15, 3) := by decide +kernel
theorem dX2_removeAll_10 : decode cX2_removeAll 10 = .ok (.iload_n 1, 1) := by decide +kernel
theorem dX2_removeAll_11 : decode cX2_removeAll 11 = .ok (.ireturn, 1) := by decide +kernel
theorem dX2_above_0 : decode cX2_above 0 = .ok (.lconst 0, 1) := by decide +kernel
theorem dX2_above_1 : decode cX2_above 1 = .ok (.lstore_n 1, 1) := by decide +kernel
theorem dX2_above_2 : decode cX2_above 2 = .ok (.lconst 0, 1) := by decide +kernel
theorem dX2_above_3 : decode cX2_above 3 = .ok (.lstore_n 3, 1) := by decide +kernel
theorem dX2_above_4 : decode cX2_above 4 = .ok (.lconst 0, 1) := by decide +kernel
theorem dX2_above_5 : decode cX2_above 5 = .ok (.lstore 5, 2) := by decide +kernel
theorem dX2_above_7 : decode cX2_above 7 = .ok (.iconst 0, 1) := by decide +kernel
theorem dX2_above_8 : decode cX2_above 8 = .ok (.istore 7, 2) := by decide +kernel
theorem dX2_above_10 : decode cX2_above 10 = .ok (.iload 7, 2) := by decide +kernel
theorem dX2_above_12 : decode cX2_above 12 = .ok (.aload_n 0, 1) := by decide +kernel
theorem dX2_above_13 : decode cX2_above 13 = .ok (.getfield 15, 3) := by decide +kernel
theorem dX2_above_16 : decode cX2_above 16 = .ok (.if_icmp .ge 41, 3) := by decide +kernel
theorem dX2_above_19 : decode cX2_above 19 = .ok (.lload_n 1, 1) := by decide +kernel
theorem dX2_above_20 : decode cX2_above 20 = .ok (.iload 7, 2) := by decide +kernel
theorem dX2_above_22 : decode cX2_above 22 = .ok (.i2l, 1) := by decide +kernel
theorem dX2_above_23 : decode cX2_above 23 = .ok (.ladd, 1) := by decide +kernel
theorem dX2_above_24 : decode cX2_above 24 = .ok (.lstore_n 1, 1) := by decide +kernel
theorem dX2_above_25 : decode cX2_above 25 = .ok (.lload_n 3, 1) := by decide +kernel
theorem dX2_above_26 : decode cX2_above 26 = .ok (.aload_n 0, 1) := by decide +kernel
theorem dX2_above_27 : decode cX2_above 27 = .ok (.getfield 9, 3) := by decide +kernel
theorem dX2_above_30 : decode cX2_above 30 = .ok (.iload 7, 2) := by decide +kernel
theorem dX2_above_32 : decode cX2_above 32 = .ok (.laload, 1) := by decide +kernel
theorem dX2_above_33 : decode cX2_above 33 = .ok (.ladd, 1) := by decide +kernel
theorem dX2_above_34 : decode cX2_above 34 = .ok (.lstore_n 3, 1) := by decide +kernel
theorem dX2_above_35 : decode cX2_above 35 = .ok (.lload 5, 2) := by decide +kernel
theorem dX2_above_37 : decode cX2_above 37 = .ok (.aload_n 0, 1) := by decide +kernel
theorem dX2_above_38 : decode cX2_above 38 = .ok (.getfield 9, 3) := by decide +kernel
theorem dX2_above_41 : decode cX2_above 41 = .ok (.iload 7, 2) := by decide +kernel
theorem dX2_above_43 : decode cX2_above 43 = .ok (.laload, 1) := by decide +kernel
theorem dX2_above_44 : decode cX2_above 44 = .ok (.iload 7, 2) := by decide +kernel
theorem dX2_above_46 : decode cX2_above 46 = .ok (.i2l, 1) := by decide +kernel
theorem dX2_above_47 : decode cX2_above 47 = .ok (.lmul, 1) := by decide +kernel
theorem dX2_above_48 : decode cX2_above 48 = .ok (.ladd, 1) := by decide +kernel
theorem dX2_above_49 : decode cX2_above 49 = .ok (.lstore 5, 2) := by decide +kernel
theorem dX2_above_51 : decode cX2_above 51 = .ok (.iinc 7 1, 3) := by decide +kernel
theorem dX2_above_54 : decode cX2_above 54 = .ok (.goto (-44), 3) := by decide +kernel
theorem dX2_above_57 : decode cX2_above 57 = .ok (.aload_n 0, 1) := by decide +kernel
theorem dX2_above_58 : decode cX2_above 58 = .ok (.getfield 15, 3) := by decide +kernel
theorem dX2_above_61 : decode cX2_above 61 = .ok (.i2l, 1) := by decide +kernel
theorem dX2_above_62 : decode cX2_above 62 = .ok (.lload 5, 2) := by decide +kernel
theorem dX2_above_64 : decode cX2_above 64 = .ok (.lmul, 1) := by decide +kernel
theorem dX2_above_65 : decode cX2_above 65 = .ok (.lload_n 1, 1) := by decide +kernel
theorem dX2_above_66 : decode cX2_above 66 = .ok (.lload_n 3, 1) := by decide +kernel
theorem dX2_above_67 : decode cX2_above 67 = .ok (.lmul, 1) := by decide +kernel
theorem dX2_above_68 : decode cX2_above 68 = .ok (.lsub, 1) := by decide +kernel
theorem dX2_above_69 : decode cX2_above 69 = .ok (.lreturn, 1) := by decide +kernel
theorem dX2_below_0 : decode cX2_below 0 = .ok (.lconst 0, 1) := by decide +kernel
theorem dX2_below_1 : decode cX2_below 1 = .ok (.lstore_n 1, 1) := by decide +kernel
theorem dX2_below_2 : decode cX2_below 2 = .ok (.lconst 0, 1) := by decide +kernel
theorem dX2_below_3 : decode cX2_below 3 = .ok (.lstore_n 3, 1) := by decide +kernel
theorem dX2_below_4 : decode cX2_below 4 = .ok (.iconst 0, 1) := by decide +kernel
theorem dX2_below_5 : decode cX2_below 5 = .ok (.istore 5, 2) := by decide +kernel
theorem dX2_below_7 : decode cX2_below 7 = .ok (.iload 5, 2) := by decide +kernel
theorem dX2_below_9 : decode cX2_below 9 = .ok (.aload_n 0, 1) := by decide +kernel
theorem dX2_below_10 : decode cX2_below 10 = .ok (.getfield 15, 3) := by decide +kernel
theorem dX2_below_13 : decode cX2_below 13 = .ok (.if_icmp .ge 25, 3) := by decide +kernel
theorem dX2_below_16 : decode cX2_below 16 = .ok (.lload_n 1, 1) := by decide +kernel
theorem dX2_below_17 : decode cX2_below 17 = .ok (.iload 5, 2) := by decide +kernel
theorem dX2_below_19 : decode cX2_below 19 = .ok (.i2l, 1) := by decide +kernel
theorem dX2_below_20 : decode cX2_below 20 = .ok (.ladd, 1) := by decide +kernel
theorem dX2_below_21 : decode cX2_below 21 = .ok (.lstore_n 1, 1) := by decide +kernel
theorem dX2_below_22 : decode cX2_below 22 = .ok (.lload_n 3, 1) := by decide +kernel
theorem dX2_below_23 : decode cX2_below 23 = .ok (.iload 5, 2) := by decide +kernel
theorem dX2_below_25 : decode cX2_below 25 = .ok (.i2l, 1) := by decide +kernel
theorem dX2_below_26 : decode cX2_below 26 = .ok (.iload 5, 2) := by decide +kernel
theorem dX2_below_28 : decode cX2_below 28 = .ok (.i2l, 1) := by decide +kernel
theorem dX2_below_29 : decode cX2_below 29 = .ok (.lmul, 1) := by decide +kernel
theorem dX2_below_30 : decode cX2_below 30 = .ok (.ladd, 1) := by decide +kernel
theorem dX2_below_31 : decode cX2_below 31 = .ok (.lstore_n 3, 1) := by decide +kernel
theorem dX2_below_32 : decode cX2_below 32 = .ok (.iinc 5 1, 3) := by decide +kernel
theorem dX2_below_35 : decode cX2_below 35 = .ok (.goto (-28), 3) := by decide +kernel
theorem dX2_below_38 : decode cX2_below 38 = .ok (.aload_n 0, 1) := by decide +kernel
theorem dX2_below_39 : decode cX2_below 39 = .ok (.getfield 15, 3) := by decide +kernel
theorem dX2_below_42 : decode cX2_below 42 = .ok (.i2l, 1) := by decide +kernel
theorem dX2_below_43 : decode cX2_below 43 = .ok (.lload_n 3, 1) := by decide +kernel
theorem dX2_below_44 : decode cX2_below 44 = .ok (.lmul, 1) := by decide +kernel
theorem dX2_below_45 : decode cX2_below 45 = .ok (.lload_n 1, 1) := by decide +kernel
theorem dX2_below_46 : decode cX2_below 46 = .ok (.lload_n 1, 1) := by decide +kernel
theorem dX2_below_47 : decode cX2_below 47 = .ok (.lmul, 1) := by decide +kernel
theorem dX2_below_48 : decode cX2_below 48 = .ok (.lsub, 1) := by decide +kernel
theorem dX2_below_49 : decode cX2_below 49 = .ok (.lreturn, 1) := by decide +kernel
theorem dJ9_floorDiv_7cf53_0 : decode cJ9_floorDiv_7cf53 0 = .ok (.iload_n 0, 1) := by decide +kernel
theorem dJ9_floorDiv_7cf53_1 : decode cJ9_floorDiv_7cf53 1 = .ok (.iload_n 1, 1) := by decide +kernel
theorem dJ9_floorDiv_7cf53_2 : decode cJ9_floorDiv_7cf53 2 = .ok (.idiv, 1) := by decide +kernel
theorem dJ9_floorDiv_7cf53_3 : decode cJ9_floorDiv_7cf53 3 = .ok (.istore_n 2, 1) := by decide +kernel
theorem dJ9_floorDiv_7cf53_4 : decode cJ9_floorDiv_7cf53 4 = .ok (.iload_n 0, 1) := by decide +kernel
theorem dJ9_floorDiv_7cf53_5 : decode cJ9_floorDiv_7cf53 5 = .ok (.iload_n 1, 1) := by decide +kernel
theorem dJ9_floorDiv_7cf53_6 : decode cJ9_floorDiv_7cf53 6 = .ok (.ixor, 1) := by decide +kernel
theorem dJ9_floorDiv_7cf53_7 : decode cJ9_floorDiv_7cf53 7 = .ok (.ifCond .ge 14, 3) := by decide +kernel
theorem dJ9_floorDiv_7cf53_10 : decode cJ9_floorDiv_7cf53 10 = .ok (.iload_n 2, 1) := by decide +kernel
theorem dJ9_floorDiv_7cf53_11 : decode cJ9_floorDiv_7cf53 11 = .ok (.iload_n 1, 1) := by decide +kernel
theorem dJ9_floorDiv_7cf53_12 : decode cJ9_floorDiv_7cf53 12 = .ok (.imul, 1) := by decide +kernel
theorem dJ9_floorDiv_7cf53_13 : decode cJ9_floorDiv_7cf53 13 = .ok (.iload_n 0, 1) := by decide +kernel
theorem dJ9_floorDiv_7cf53_14 : decode cJ9_floorDiv_7cf53 14 = .ok (.if_icmp .eq 7, 3) := by decide +kernel
theorem dJ9_floorDiv_7cf53_17 : decode cJ9_floorDiv_7cf53 17 = .ok (.iload_n 2, 1) := by decide +kernel
theorem dJ9_floorDiv_7cf53_18 : decode cJ9_floorDiv_7cf53 18 = .ok (.iconst 1, 1) := by decide +kernel
theorem dJ9_floorDiv_7cf53_19 : decode cJ9_floorDiv_7cf53 19 = .ok (.isub, 1) := by decide +kernel
theorem dJ9_floorDiv_7cf53_20 : decode cJ9_floorDiv_7cf53 20 = .ok (.ireturn, 1) := by decide +kernel
theorem dJ9_floorDiv_7cf53_21 : decode cJ9_floorDiv_7cf53 21 = .ok (.iload_n 2, 1) := by decide +kernel
theorem dJ9_floorDiv_7cf53_22 : decode cJ9_floorDiv_7cf53 22 = .ok (.ireturn, 1) := by decide +kernel
theorem dJ9_floorDiv_f86c9_0 : decode cJ9_floorDiv_f86c9 0 = .ok (.lload_n 0, 1) := by decide +kernel
theorem dJ9_floorDiv_f86c9_1 : decode cJ9_floorDiv_f86c9 1 = .ok (.lload_n 2, 1) := by decide +kernel
theorem dJ9_floorDiv_f86c9_2 : decode cJ9_floorDiv_f86c9 2 = .ok (.ldiv, 1) := by decide +kernel
theorem dJ9_floorDiv_f86c9_3 : decode cJ9_floorDiv_f86c9 3 = .ok (.lstore 4, 2) := by decide +kernel
theorem dJ9_floorDiv_f86c9_5 : decode cJ9_floorDiv_f86c9 5 = .ok (.lload_n 0, 1) := by decide +kernel
theorem dJ9_floorDiv_f86c9_6 : decode cJ9_floorDiv_f86c9 6 = .ok (.lload_n 2, 1) := by decide +kernel
theorem dJ9_floorDiv_f86c9_7 : decode cJ9_floorDiv_f86c9 7 = .ok (.lxor, 1) := by decide +kernel
theorem dJ9_floorDiv_f86c9_8 : decode cJ9_floorDiv_f86c9 8 = .ok (.lconst 0, 1) := by decide +kernel
theorem dJ9_floorDiv_f86c9_9 : decode cJ9_floorDiv_f86c9 9 = .ok (.lcmp, 1) := by decide +kernel
theorem dJ9_floorDiv_f86c9_10 : decode cJ9_floorDiv_f86c9 10 = .ok (.ifCond .ge 17, 3) := by decide +kernel
theorem dJ9_floorDiv_f86c9_13 : decode cJ9_floorDiv_f86c9 13 = .ok (.lload 4, 2) := by decide +kernel
theorem dJ9_floorDiv_f86c9_15 : decode cJ9_floorDiv_f86c9 15 = .ok (.lload_n 2, 1) := by decide +kernel
theorem dJ9_floorDiv_f86c9_16 : decode cJ9_floorDiv_f86c9 16 = .ok (.lmul, 1) := by decide +kernel
theorem dJ9_floorDiv_f86c9_17 : decode cJ9_floorDiv_f86c9 17 = .ok (.lload_n 0, 1) := by decide +kernel
theorem dJ9_floorDiv_f86c9_18 : decode cJ9_floorDiv_f86c9 18 = .ok (.lcmp, 1) := by decide +kernel
theorem dJ9_floorDiv_f86c9_19 : decode cJ9_floorDiv_f86c9 19 = .ok (.ifCond .eq 8, 3) := by decide +kernel
theorem dJ9_floorDiv_f86c9_22 : decode cJ9_floorDiv_f86c9 22 = .ok (.lload 4, 2) := by decide +kernel
theorem dJ9_floorDiv_f86c9_24 : decode cJ9_floorDiv_f86c9 24 = .ok (.lconst 1, 1) := by decide +kernel
theorem dJ9_floorDiv_f86c9_25 : decode cJ9_floorDiv_f86c9 25 = .ok (.lsub, 1) := by decide +kernel
theorem dJ9_floorDiv_f86c9_26 : decode cJ9_floorDiv_f86c9 26 = .ok (.lreturn, 1) := by decide +kernel
theorem dJ9_floorDiv_f86c9_27 : decode cJ9_floorDiv_f86c9 27 = .ok (.lload 4, 2) := by decide +kernel
theorem dJ9_floorDiv_f86c9_29 : decode cJ9_floorDiv_f86c9 29 = .ok (.lreturn, 1) := by decide +kernel
theorem dJ9_floorMod_f86c9_0 : decode cJ9_floorMod_f86c9 0 = .ok (.lload_n 0, 1) := by decide +kernel
theorem dJ9_floorMod_f86c9_1 : decode cJ9_floorMod_f86c9 1 = .ok (.lload_n 2, 1) := by decide +kernel
theorem dJ9_floorMod_f86c9_2 : decode cJ9_floorMod_f86c9 2 = .ok (.lrem, 1) := by decide +kernel
theorem dJ9_floorMod_f86c9_3 : decode cJ9_floorMod_f86c9 3 = .ok (.lstore 4, 2) := by decide +kernel
theorem dJ9_floorMod_f86c9_5 : decode cJ9_floorMod_f86c9 5 = .ok (.lload_n 0, 1) := by decide +kernel
theorem dJ9_floorMod_f86c9_6 : decode cJ9_floorMod_f86c9 6 = .ok (.lload_n 2, 1) := by decide +kernel
theorem dJ9_floorMod_f86c9_7 : decode cJ9_floorMod_f86c9 7 = .ok (.lxor, 1) := by decide +kernel
theorem dJ9_floorMod_f86c9_8 : decode cJ9_floorMod_f86c9 8 = .ok (.lconst 0, 1) := by decide +kernel
theorem dJ9_floorMod_f86c9_9 : decode cJ9_floorMod_f86c9 9 = .ok (.lcmp, 1) := by decide +kernel
theorem dJ9_floorMod_f86c9_10 : decode cJ9_floorMod_f86c9 10 = .ok (.ifCond .ge 15, 3) := by decide +kernel
theorem dJ9_floorMod_f86c9_13 : decode cJ9_floorMod_f86c9 13 = .ok (.lload 4, 2) := by decide +kernel
theorem dJ9_floorMod_f86c9_15 : decode cJ9_floorMod_f86c9 15 = .ok (.lconst 0, 1) := by decide +kernel
theorem dJ9_floorMod_f86c9_16 : decode cJ9_floorMod_f86c9 16 = .ok (.lcmp, 1) := by decide +kernel
theorem dJ9_floorMod_f86c9_17 : decode cJ9_floorMod_f86c9 17 = .ok (.ifCond .eq 8, 3) := by decide +kernel
theorem dJ9_floorMod_f86c9_20 : decode cJ9_floorMod_f86c9 20 = .ok (.lload 4, 2) := by decide +kernel
theorem dJ9_floorMod_f86c9_22 : decode cJ9_floorMod_f86c9 22 = .ok (.lload_n 2, 1) := by decide +kernel
theorem dJ9_floorMod_f86c9_23 : decode cJ9_floorMod_f86c9 23 = .ok (.ladd, 1) := by decide +kernel
theorem dJ9_floorMod_f86c9_24 : decode cJ9_floorMod_f86c9 24 = .ok (.lreturn, 1) := by decide +kernel
theorem dJ9_floorMod_f86c9_25 : decode cJ9_floorMod_f86c9 25 = .ok (.lload 4, 2) := by decide +kernel
theorem dJ9_floorMod_f86c9_27 : decode cJ9_floorMod_f86c9 27 = .ok (.lreturn, 1) := by decide +kernel
theorem dJ9_max_f86c9_0 : decode cJ9_max_f86c9 0 = .ok (.lload_n 0, 1) := by decide +kernel
theorem dJ9_max_f86c9_1 : decode cJ9_max_f86c9 1 = .ok (.lload_n 2, 1) := by decide +kernel
theorem dJ9_max_f86c9_2 : decode cJ9_max_f86c9 2 = .ok (.lcmp, 1) := by decide +kernel
theorem dJ9_max_f86c9_3 : decode cJ9_max_f86c9 3 = .ok (.ifCond .lt 7, 3) := by decide +kernel
theorem dJ9_max_f86c9_6 : decode cJ9_max_f86c9 6 = .ok (.lload_n 0, 1) := by decide +kernel
theorem dJ9_max_f86c9_7 : decode cJ9_max_f86c9 7 = .ok (.goto 4, 3) := by decide +kernel
theorem dJ9_max_f86c9_10 : decode cJ9_max_f86c9 10 = .ok (.lload_n 2, 1) := by decide +kernel
theorem dJ9_max_f86c9_11 : decode cJ9_max_f86c9 11 = .ok (.lreturn, 1) := by decide +kernel
theorem dJ9_min_7cf53_0 : decode cJ9_min_7cf53 0 = .ok (.iload_n 0, 1) := by decide +kernel
theorem dJ9_min_7cf53_1 : decode cJ9_min_7cf53 1 = .ok (.iload_n 1, 1) := by decide +kernel
theorem dJ9_min_7cf53_2 : decode cJ9_min_7cf53 2 = .ok (.if_icmp .gt 7, 3) := by decide +kernel
theorem dJ9_min_7cf53_5 : decode cJ9_min_7cf53 5 = .ok (.iload_n 0, 1) := by decide +kernel
theorem dJ9_min_7cf53_6 : decode cJ9_min_7cf53 6 = .ok (.goto 4, 3) := by decide +kernel
theorem dJ9_min_7cf53_9 : decode cJ9_min_7cf53 9 = .ok (.iload_n 1, 1) := by decide +kernel
theorem dJ9_min_7cf53_10 : decode cJ9_min_7cf53 10 = .ok (.ireturn, 1) := by decide +kernel
end
section
set_option maxRecDepth 20000 in
theorem ggX3_init_X1_init : GoodIn wsX3_init wsX1_init := goodIn_r _ [17, 18, 2, 3, 19, 20, 21, 22, 23, 24, 25, 35, 36, 37, 38, 39, 40] (by decide +kernel) (by decide +kernel)
set_option maxRecDepth 20000 in
theorem gX3_init_X1_init_n9 : GoodIn wsX3_init (wsX1_init) := ggX3_init_X1_init
set_option maxRecDepth 20000 in
theorem ggX3_init_X0_init : GoodIn wsX3_init wsX0_init := goodIn_r _ [27, 28, 2, 3, 19, 29, 30, 44, 45, 46] (by decide +kernel) (by decide +kernel)
set_option maxRecDepth 20000 in
theorem gX3_init_X0_init_n18 : GoodIn wsX3_init (wsX0_init) := ggX3_init_X0_init
set_option maxRecDepth 20000 in
theorem ggX3_init_X2_init : GoodIn wsX3_init wsX2_init := goodIn_r _ [32, 33, 2, 3, 24, 34, 47, 48] (by decide +kernel) (by decide +kernel)
set_option maxRecDepth 20000 in
theorem gX3_init_X2_init_n25 : GoodIn wsX3_init (wsX2_init) := ggX3_init_X2_init
theorem dX3_init_0 : decode cX3_init 0 = .ok (.aload_n 0, 1) := by decide +kernel
theorem dX3_init_1 : decode cX3_init 1 = .ok (.invokespecial 1, 3) := by decide +kernel
theorem dX3_init_4 : decode cX3_init 4 = .ok (.aload_n 0, 1) := by decide +kernel
theorem dX3_init_5 : decode cX3_init 5 = .ok (.new 7, 3) := by decide +kernel
theorem dX3_init_8 : decode cX3_init 8 = .ok (.dup, 1) := by decide +kernel
theorem dX3_init_9 : decode cX3_init 9 = .ok (.invokespecial 9, 3) := by decide +kernel
theorem dX3_init_12 : decode cX3_init 12 = .ok (.putfield 10, 3) := by decide +kernel
theorem dX3_init_15 : decode cX3_init 15 = .ok (.aload_n 0, 1) := by decide +kernel
theorem dX3_init_16 : decode cX3_init 16 = .ok (.new 16, 3) := by decide +kernel
theorem dX3_init_19 : decode cX3_init 19 = .ok (.dup, 1) := by decide +kernel
theorem dX3_init_20 : decode cX3_init 20 = .ok (.invokespecial 18, 3) := by decide +kernel
theorem dX3_init_23 : decode cX3_init 23 = .ok (.putfield 19, 3) := by decide +kernel
theorem dX3_init_26 : decode cX3_init 26 = .ok (.aload_n 0, 1) := by decide +kernel
theorem dX3_init_27 : decode cX3_init 27 = .ok (.new 23, 3) := by decide +kernel
theorem dX3_init_30 : decode cX3_init 30 = .ok (.dup, 1) := by decide +kernel
theorem dX3_init_31 : decode cX3_init 31 = .ok (.invokespecial 25, 3) := by decide +kernel
theorem dX3_init_34 : decode cX3_init 34 = .ok (.putfield 26, 3) := by decide +kernel
theorem dX3_init_37 : decode cX3_init 37 = .ok (.return_, 1) := by decide +kernel
set_option maxRecDepth 20000 in
theorem ggX3_step_X3_isWithin : GoodIn wsX3_step wsX3_isWithin := goodIn_r _ [7] (by decide +kernel) (by decide +kernel)
set_option maxRecDepth 20000 in
theorem gX3_step_X3_isWithin : GoodIn wsX3_step (va_wsS RX3 31 yX3_isWithin wsX3_isWithin) := goodIn_app (goodIn_of _ (by decide +kernel)) ggX3_step_X3_isWithin
set_option maxRecDepth 20000 in
theorem ggX3_step_X1_isInsideSlope : GoodIn wsX3_step wsX1_isInsideSlope := goodIn_r _ [12, 13, 14, 15, 16, 17, 11, 18, 19, 65, 66, 67, 68, 69, 70] (by decide +kernel) (by decide +kernel)
set_option maxRecDepth 20000 in
theorem gX3_step_X1_isInsideSlope : GoodIn wsX3_step (wsV RX3 36 RX1 yX1_isInsideSlope wsX1_isInsideSlope) := goodIn_app (goodIn_of _ (by decide +kernel)) ggX3_step_X1_isInsideSlope
set_option maxRecDepth 20000 in
theorem ggX3_step_X1_putStep : GoodIn wsX3_step wsX1_putStep := goodIn_r _ [23, 24, 25, 26, 11, 27, 13, 19, 14, 28, 29, 15, 16, 17, 18, 30, 31, 32, 33, 34, 35, 36, 37, 38, 39, 40, 41, 42, 43, 44, 45, 46, 47, 48, 49, 50, 51, 52, 6, 53, 54, 55, 56, 57, 58, 59, 60, 61, 65, 66, 67, 68, 69, 70] (by decide +kernel) (by decide +kernel)
set_option maxRecDepth 20000 in
theorem gX3_step_X1_putStep : GoodIn wsX3_step (wsV RX3 40 RX1 yX1_putStep wsX1_putStep) := goodIn_app (goodIn_of _ (by decide +kernel)) ggX3_step_X1_putStep
theorem dX3_step_0 : decode cX3_step 0 = .ok (.iload_n 1, 1) := by decide +kernel
theorem dX3_step_1 : decode cX3_step 1 = .ok (.iconst 0, 1) := by decide +kernel
theorem dX3_step_2 : decode cX3_step 2 = .ok (.ldc 30, 2) := by decide +kernel
theorem dX3_step_4 : decode cX3_step 4 = .ok (.invokestatic 31, 3) := by decide +kernel
theorem dX3_step_7 : decode cX3_step 7 = .ok (.ifCond .eq 13, 3) := by decide +kernel
theorem dX3_step_10 : decode cX3_step 10 = .ok (.iload_n 2, 1) := by decide +kernel
theorem dX3_step_11 : decode cX3_step 11 = .ok (.iconst 1, 1) := by decide +kernel
theorem dX3_step_12 : decode cX3_step 12 = .ok (.ldc 35, 2) := by decide +kernel
theorem dX3_step_14 : decode cX3_step 14 = .ok (.invokestatic 31, 3) := by decide +kernel
theorem dX3_step_17 : decode cX3_step 17 = .ok (.ifCond .ne 6, 3) := by decide +kernel
theorem dX3_step_20 : decode cX3_step 20 = .ok (.bipush (-2), 2) := by decide +kernel
theorem dX3_step_22 : decode cX3_step 22 = .ok (.ireturn, 1) := by decide +kernel
theorem dX3_step_23 : decode cX3_step 23 = .ok (.aload_n 0, 1) := by decide +kernel
theorem dX3_step_24 : decode cX3_step 24 = .ok (.getfield 10, 3) := by decide +kernel
theorem dX3_step_27 : decode cX3_step 27 = .ok (.iload_n 1, 1) := by decide +kernel
theorem dX3_step_28 : decode cX3_step 28 = .ok (.invokevirtual 36, 3) := by decide +kernel
theorem dX3_step_31 : decode cX3_step 31 = .ok (.ifCond .eq 6, 3) := by decide +kernel
theorem dX3_step_34 : decode cX3_step 34 = .ok (.bipush (-3), 2) := by decide +kernel
theorem dX3_step_36 : decode cX3_step 36 = .ok (.ireturn, 1) := by decide +kernel
theorem dX3_step_37 : decode cX3_step 37 = .ok (.aload_n 0, 1) := by decide +kernel
theorem dX3_step_38 : decode cX3_step 38 = .ok (.getfield 10, 3) := by decide +kernel
theorem dX3_step_41 : decode cX3_step 41 = .ok (.iload_n 1, 1) := by decide +kernel
theorem dX3_step_42 : decode cX3_step 42 = .ok (.iload_n 2, 1) := by decide +kernel
theorem dX3_step_43 : decode cX3_step 43 = .ok (.invokevirtual 40, 3) := by decide +kernel
theorem dX3_step_46 : decode cX3_step 46 = .ok (.ireturn, 1) := by decide +kernel
set_option maxRecDepth 20000 in
theorem ggX3_slope_X3_isWithin : GoodIn wsX3_slope wsX3_isWithin := goodIn_r _ [7] (by decide +kernel) (by decide +kernel)
set_option maxRecDepth 20000 in
theorem gX3_slope_X3_isWithin : GoodIn wsX3_slope (va_wsS RX3 31 yX3_isWithin wsX3_isWithin) := goodIn_app (goodIn_of _ (by decide +kernel)) ggX3_slope_X3_isWithin
set_option maxRecDepth 20000 in
theorem ggX3_slope_X1_isInsideSlope : GoodIn wsX3_slope wsX1_isInsideSlope := goodIn_r _ [12, 13, 14, 15, 16, 17, 11, 18, 19, 65, 66, 67, 68, 69, 70] (by decide +kernel) (by decide +kernel)
set_option maxRecDepth 20000 in
theorem gX3_slope_X1_isInsideSlope : GoodIn wsX3_slope (wsV RX3 36 RX1 yX1_isInsideSlope wsX1_isInsideSlope) := goodIn_app (goodIn_of _ (by decide +kernel)) ggX3_slope_X1_isInsideSlope
set_option maxRecDepth 20000 in
theorem ggX3_slope_X1_isAnyBetween : GoodIn wsX3_slope wsX1_isAnyBetween := goodIn_r _ [23, 13, 15, 16, 17, 11, 18, 19, 65, 66, 67, 68, 69, 70] (by decide +kernel) (by decide +kernel)
set_option maxRecDepth 20000 in
theorem gX3_slope_X1_isAnyBetween : GoodIn wsX3_slope (wsV RX3 44 RX1 yX1_isAnyBetween wsX1_isAnyBetween) := goodIn_app (goodIn_of _ (by decide +kernel)) ggX3_slope_X1_isAnyBetween
set_option maxRecDepth 20000 in
theorem ggX3_slope_X1_put : GoodIn wsX3_slope wsX1_put := goodIn_r _ [27, 13, 19, 14, 28, 29, 15, 16, 17, 11, 18, 30, 31, 32, 33, 34, 35, 36, 37, 38, 39, 40, 41, 42, 43, 44, 45, 46, 47, 48, 49, 50, 51, 52, 6, 53, 54, 55, 56, 57, 58, 59, 60, 61, 65, 66, 67, 68, 69, 70] (by decide +kernel) (by decide +kernel)
set_option maxRecDepth 20000 in
theorem gX3_slope_X1_put : GoodIn wsX3_slope (wsV RX3 48 RX1 yX1_put wsX1_put) := goodIn_app (goodIn_of _ (by decide +kernel)) ggX3_slope_X1_put
theorem dX3_slope_0 : decode cX3_slope 0 = .ok (.iload_n 1, 1) := by decide +kernel
theorem dX3_slope_1 : decode cX3_slope 1 = .ok (.iconst 0, 1) := by decide +kernel
theorem dX3_slope_2 : decode cX3_slope 2 = .ok (.ldc 30, 2) := by decide +kernel
theorem dX3_slope_4 : decode cX3_slope 4 = .ok (.invokestatic 31, 3) := by decide +kernel
theorem dX3_slope_7 : decode cX3_slope 7 = .ok (.ifCond .eq 43, 3) := by decide +kernel
theorem dX3_slope_10 : decode cX3_slope 10 = .ok (.iload_n 2, 1) := by decide +kernel
theorem dX3_slope_11 : decode cX3_slope 11 = .ok (.iconst 1, 1) := by decide +kernel
theorem dX3_slope_12 : decode cX3_slope 12 = .ok (.sipush 2000, 3) := by decide +kernel
theorem dX3_slope_15 : decode cX3_slope 15 = .ok (.invokestatic 31, 3) := by decide +kernel
theorem dX3_slope_18 : decode cX3_slope 18 = .ok (.ifCond .eq 32, 3) := by decide +kernel
theorem dX3_slope_21 : decode cX3_slope 21 = .ok (.iload_n 3, 1) := by decide +kernel
theorem dX3_slope_22 : decode cX3_slope 22 = .ok (.iconst 1, 1) := by decide +kernel
theorem dX3_slope_23 : decode cX3_slope 23 = .ok (.ldc 35, 2) := by decide +kernel
theorem dX3_slope_25 : decode cX3_slope 25 = .ok (.invokestatic 31, 3) := by decide +kernel
theorem dX3_slope_28 : decode cX3_slope 28 = .ok (.ifCond .eq 22, 3) := by decide +kernel
theorem dX3_slope_31 : decode cX3_slope 31 = .ok (.iload 4, 2) := by decide +kernel
theorem dX3_slope_33 : decode cX3_slope 33 = .ok (.iconst 1, 1) := by decide +kernel
theorem dX3_slope_34 : decode cX3_slope 34 = .ok (.ldc 35, 2) := by decide +kernel
theorem dX3_slope_36 : decode cX3_slope 36 = .ok (.invokestatic 31, 3) := by decide +kernel
theorem dX3_slope_39 : decode cX3_slope 39 = .ok (.ifCond .eq 11, 3) := by decide +kernel
theorem dX3_slope_42 : decode cX3_slope 42 = .ok (.iload_n 1, 1) := by decide +kernel
theorem dX3_slope_43 : decode cX3_slope 43 = .ok (.iload_n 2, 1) := by decide +kernel
theorem dX3_slope_44 : decode cX3_slope 44 = .ok (.iadd, 1) := by decide +kernel
theorem dX3_slope_45 : decode cX3_slope 45 = .ok (.ldc 35, 2) := by decide +kernel
theorem dX3_slope_47 : decode cX3_slope 47 = .ok (.if_icmp .le 6, 3) := by decide +kernel
theorem dX3_slope_50 : decode cX3_slope 50 = .ok (.bipush (-2), 2) := by decide +kernel
theorem dX3_slope_52 : decode cX3_slope 52 = .ok (.ireturn, 1) := by decide +kernel
theorem dX3_slope_53 : decode cX3_slope 53 = .ok (.aload_n 0, 1) := by decide +kernel
theorem dX3_slope_54 : decode cX3_slope 54 = .ok (.getfield 10, 3) := by decide +kernel
theorem dX3_slope_57 : decode cX3_slope 57 = .ok (.iload_n 1, 1) := by decide +kernel
theorem dX3_slope_58 : decode cX3_slope 58 = .ok (.invokevirtual 36, 3) := by decide +kernel
theorem dX3_slope_61 : decode cX3_slope 61 = .ok (.ifCond .ne 17, 3) := by decide +kernel
theorem dX3_slope_64 : decode cX3_slope 64 = .ok (.aload_n 0, 1) := by decide +kernel
theorem dX3_slope_65 : decode cX3_slope 65 = .ok (.getfield 10, 3) := by decide +kernel
theorem dX3_slope_68 : decode cX3_slope 68 = .ok (.iload_n 1, 1) := by decide +kernel
theorem dX3_slope_69 : decode cX3_slope 69 = .ok (.iload_n 1, 1) := by decide +kernel
theorem dX3_slope_70 : decode cX3_slope 70 = .ok (.iload_n 2, 1) := by decide +kernel
theorem dX3_slope_71 : decode cX3_slope 71 = .ok (.iadd, 1) := by decide +kernel
theorem dX3_slope_72 : decode cX3_slope 72 = .ok (.invokevirtual 44, 3) := by decide +kernel
theorem dX3_slope_75 : decode cX3_slope 75 = .ok (.ifCond .eq 6, 3) := by decide +kernel
theorem dX3_slope_78 : decode cX3_slope 78 = .ok (.bipush (-3), 2) := by decide +kernel
theorem dX3_slope_80 : decode cX3_slope 80 = .ok (.ireturn, 1) := by decide +kernel
theorem dX3_slope_81 : decode cX3_slope 81 = .ok (.aload_n 0, 1) := by decide +kernel
theorem dX3_slope_82 : decode cX3_slope 82 = .ok (.getfield 10, 3) := by decide +kernel
theorem dX3_slope_85 : decode cX3_slope 85 = .ok (.iload_n 1, 1) := by decide +kernel
theorem dX3_slope_86 : decode cX3_slope 86 = .ok (.iload_n 2, 1) := by decide +kernel
theorem dX3_slope_87 : decode cX3_slope 87 = .ok (.iload_n 3, 1) := by decide +kernel
theorem dX3_slope_88 : decode cX3_slope 88 = .ok (.iload 4, 2) := by decide +kernel
theorem dX3_slope_90 : decode cX3_slope 90 = .ok (.invokevirtual 48, 3) := by decide +kernel
theorem dX3_slope_93 : decode cX3_slope 93 = .ok (.ireturn, 1) := by decide +kernel
set_option maxRecDepth 20000 in
theorem ggX3_modulate_X3_isWithin : GoodIn wsX3_modulate wsX3_isWithin := goodIn_r _ [7] (by decide +kernel) (by decide +kernel)
set_option maxRecDepth 20000 in
theorem gX3_modulate_X3_isWithin : GoodIn wsX3_modulate (va_wsS RX3 31 yX3_isWithin wsX3_isWithin) := goodIn_app (goodIn_of _ (by decide +kernel)) ggX3_modulate_X3_isWithin
set_option maxRecDepth 20000 in
theorem ggX3_modulate_X1_unitsOfTick : GoodIn wsX3_modulate wsX1_unitsOfTick := goodIn_r _ [12, 13, 14, 15, 16, 17, 18, 19, 11, 20, 21, 22, 23, 24, 25, 72, 73, 74, 75, 76, 77] (by decide +kernel) (by decide +kernel)
set_option maxRecDepth 20000 in
theorem gX3_modulate_X1_unitsOfTick : GoodIn wsX3_modulate (wsV RX3 52 RX1 yX1_unitsOfTick wsX1_unitsOfTick) := goodIn_app (goodIn_of _ (by decide +kernel)) ggX3_modulate_X1_unitsOfTick
set_option maxRecDepth 20000 in
theorem ggX3_modulate_X1_isInsideSlope : GoodIn wsX3_modulate wsX1_isInsideSlope := goodIn_r _ [29, 13, 14, 17, 18, 19, 11, 20, 21, 72, 73, 74, 75, 76, 77] (by decide +kernel) (by decide +kernel)
set_option maxRecDepth 20000 in
theorem gX3_modulate_X1_isInsideSlope : GoodIn wsX3_modulate (wsV RX3 36 RX1 yX1_isInsideSlope wsX1_isInsideSlope) := goodIn_app (goodIn_of _ (by decide +kernel)) ggX3_modulate_X1_isInsideSlope
set_option maxRecDepth 20000 in
theorem ggX3_modulate_X1_putStep : GoodIn wsX3_modulate wsX1_putStep := goodIn_r _ [33, 34, 35, 36, 11, 37, 13, 21, 14, 16, 15, 17, 18, 19, 20, 38, 39, 40, 41, 42, 43, 44, 45, 46, 47, 48, 49, 50, 51, 52, 53, 54, 55, 56, 57, 58, 59, 60, 6, 61, 62, 63, 64, 24, 65, 66, 67, 68, 72, 73, 74, 75, 76, 77] (by decide +kernel) (by decide +kernel)
set_option maxRecDepth 20000 in
theorem gX3_modulate_X1_putStep : GoodIn wsX3_modulate (wsV RX3 40 RX1 yX1_putStep wsX1_putStep) := goodIn_app (goodIn_of _ (by decide +kernel)) ggX3_modulate_X1_putStep
theorem dX3_modulate_0 : decode cX3_modulate 0 = .ok (.iload_n 1, 1) := by decide +kernel
theorem dX3_modulate_1 : decode cX3_modulate 1 = .ok (.iconst 1, 1) := by decide +kernel
theorem dX3_modulate_2 : decode cX3_modulate 2 = .ok (.ldc 30, 2) := by decide +kernel
theorem dX3_modulate_4 : decode cX3_modulate 4 = .ok (.invokestatic 31, 3) := by decide +kernel
theorem dX3_modulate_7 : decode cX3_modulate 7 = .ok (.ifCond .eq 25, 3) := by decide +kernel
theorem dX3_modulate_10 : decode cX3_modulate 10 = .ok (.iload_n 2, 1) := by decide +kernel
theorem dX3_modulate_11 : decode cX3_modulate 11 = .ok (.iconst 1, 1) := by decide +kernel
theorem dX3_modulate_12 : decode cX3_modulate 12 = .ok (.sipush 1000, 3) := by decide +kernel
theorem dX3_modulate_15 : decode cX3_modulate 15 = .ok (.invokestatic 31, 3) := by decide +kernel
theorem dX3_modulate_18 : decode cX3_modulate 18 = .ok (.ifCond .eq 14, 3) := by decide +kernel
theorem dX3_modulate_21 : decode cX3_modulate 21 = .ok (.iload_n 3, 1) := by decide +kernel
theorem dX3_modulate_22 : decode cX3_modulate 22 = .ok (.iconst 1, 1) := by decide +kernel
theorem dX3_modulate_23 : decode cX3_modulate 23 = .ok (.sipush 1000, 3) := by decide +kernel
theorem dX3_modulate_26 : decode cX3_modulate 26 = .ok (.invokestatic 31, 3) := by decide +kernel
theorem dX3_modulate_29 : decode cX3_modulate 29 = .ok (.ifCond .ne 6, 3) := by decide +kernel
theorem dX3_modulate_32 : decode cX3_modulate 32 = .ok (.bipush (-2), 2) := by decide +kernel
theorem dX3_modulate_34 : decode cX3_modulate 34 = .ok (.ireturn, 1) := by decide +kernel
theorem dX3_modulate_35 : decode cX3_modulate 35 = .ok (.aload_n 0, 1) := by decide +kernel
theorem dX3_modulate_36 : decode cX3_modulate 36 = .ok (.getfield 10, 3) := by decide +kernel
theorem dX3_modulate_39 : decode cX3_modulate 39 = .ok (.iload_n 1, 1) := by decide +kernel
theorem dX3_modulate_40 : decode cX3_modulate 40 = .ok (.iconst 1, 1) := by decide +kernel
theorem dX3_modulate_41 : decode cX3_modulate 41 = .ok (.isub, 1) := by decide +kernel
theorem dX3_modulate_42 : decode cX3_modulate 42 = .ok (.invokevirtual 52, 3) := by decide +kernel
theorem dX3_modulate_45 : decode cX3_modulate 45 = .ok (.iload_n 2, 1) := by decide +kernel
theorem dX3_modulate_46 : decode cX3_modulate 46 = .ok (.imul, 1) := by decide +kernel
theorem dX3_modulate_47 : decode cX3_modulate 47 = .ok (.iload_n 3, 1) := by decide +kernel
theorem dX3_modulate_48 : decode cX3_modulate 48 = .ok (.idiv, 1) := by decide +kernel
theorem dX3_modulate_49 : decode cX3_modulate 49 = .ok (.istore 4, 2) := by decide +kernel
theorem dX3_modulate_51 : decode cX3_modulate 51 = .ok (.aload_n 0, 1) := by decide +kernel
theorem dX3_modulate_52 : decode cX3_modulate 52 = .ok (.getfield 10, 3) := by decide +kernel
theorem dX3_modulate_55 : decode cX3_modulate 55 = .ok (.iload_n 1, 1) := by decide +kernel
theorem dX3_modulate_56 : decode cX3_modulate 56 = .ok (.invokevirtual 36, 3) := by decide +kernel
theorem dX3_modulate_59 : decode cX3_modulate 59 = .ok (.ifCond .ne 14, 3) := by decide +kernel
theorem dX3_modulate_62 : decode cX3_modulate 62 = .ok (.iload 4, 2) := by decide +kernel
theorem dX3_modulate_64 : decode cX3_modulate 64 = .ok (.iconst 1, 1) := by decide +kernel
theorem dX3_modulate_65 : decode cX3_modulate 65 = .ok (.ldc 35, 2) := by decide +kernel
theorem dX3_modulate_67 : decode cX3_modulate 67 = .ok (.invokestatic 31, 3) := by decide +kernel
theorem dX3_modulate_70 : decode cX3_modulate 70 = .ok (.ifCond .ne 6, 3) := by decide +kernel
theorem dX3_modulate_73 : decode cX3_modulate 73 = .ok (.bipush (-3), 2) := by decide +kernel
theorem dX3_modulate_75 : decode cX3_modulate 75 = .ok (.ireturn, 1) := by decide +kernel
theorem dX3_modulate_76 : decode cX3_modulate 76 = .ok (.aload_n 0, 1) := by decide +kernel
theorem dX3_modulate_77 : decode cX3_modulate 77 = .ok (.getfield 10, 3) := by decide +kernel
theorem dX3_modulate_80 : decode cX3_modulate 80 = .ok (.iload_n 1, 1) := by decide +kernel
theorem dX3_modulate_81 : decode cX3_modulate 81 = .ok (.iload 4, 2) := by decide +kernel
theorem dX3_modulate_83 : decode cX3_modulate 83 = .ok (.invokevirtual 40, 3) := by decide +kernel
theorem dX3_modulate_86 : decode cX3_modulate 86 = .ok (.bipush (-4), 2) := by decide +kernel
theorem dX3_modulate_88 : decode cX3_modulate 88 = .ok (.if_icmp .ne 8, 3) := by decide +kernel
theorem dX3_modulate_91 : decode cX3_modulate 91 = .ok (.bipush (-4), 2) := by decide +kernel
theorem dX3_modulate_93 : decode cX3_modulate 93 = .ok (.goto 5, 3) := by decide +kernel
theorem dX3_modulate_96 : decode cX3_modulate 96 = .ok (.iload 4, 2) := by decide +kernel
theorem dX3_modulate_98 : decode cX3_modulate 98 = .ok (.ireturn, 1) := by decide +kernel
set_option maxRecDepth 20000 in
theorem ggX3_drop_X1_remove : GoodIn wsX3_drop wsX1_remove := goodIn_r _ [6, 7, 8, 9, 10, 11, 5, 12, 13, 14, 15, 16, 17, 18, 19, 20, 21, 22, 23, 24, 25, 26, 27, 28, 29, 30, 31, 32, 33, 34, 35, 36, 37, 38, 39, 40, 41, 42, 43, 44, 48, 49, 50, 51, 52, 53] (by decide +kernel) (by decide +kernel)
set_option maxRecDepth 20000 in
theorem gX3_drop_X1_remove : GoodIn wsX3_drop (wsV RX3 56 RX1 yX1_remove wsX1_remove) := goodIn_app (goodIn_of _ (by decide +kernel)) ggX3_drop_X1_remove
theorem dX3_drop_0 : decode cX3_drop 0 = .ok (.aload_n 0, 1) := by decide +kernel
theorem dX3_drop_1 : decode cX3_drop 1 = .ok (.getfield 10, 3) := by decide +kernel
theorem dX3_drop_4 : decode cX3_drop 4 = .ok (.iload_n 1, 1) := by decide +kernel
theorem dX3_drop_5 : decode cX3_drop 5 = .ok (.invokevirtual 56, 3) := by decide +kernel
theorem dX3_drop_8 : decode cX3_drop 8 = .ok (.ireturn, 1) := by decide +kernel
set_option maxRecDepth 20000 in
theorem ggX3_hold_X3_isWithin : GoodIn wsX3_hold wsX3_isWithin := goodIn_r _ [7] (by decide +kernel) (by decide +kernel)
set_option maxRecDepth 20000 in
theorem gX3_hold_X3_isWithin : GoodIn wsX3_hold (va_wsS RX3 31 yX3_isWithin wsX3_isWithin) := goodIn_app (goodIn_of _ (by decide +kernel)) ggX3_hold_X3_isWithin
set_option maxRecDepth 20000 in
theorem ggX3_hold_X0_remove : GoodIn wsX3_hold wsX0_remove := goodIn_r _ [12, 13, 14, 15, 16, 17, 18, 11, 19, 27, 28, 29] (by decide +kernel) (by decide +kernel)
set_option maxRecDepth 20000 in
theorem gX3_hold_X0_remove : GoodIn wsX3_hold (wsV RX3 60 RX0 yX0_remove wsX0_remove) := goodIn_app (goodIn_of _ (by decide +kernel)) ggX3_hold_X0_remove
set_option maxRecDepth 20000 in
theorem ggX3_hold_X0_put : GoodIn wsX3_hold wsX0_put := goodIn_r _ [23, 13, 14, 15, 16, 17, 18, 11, 19, 27, 28, 29] (by decide +kernel) (by decide +kernel)
set_option maxRecDepth 20000 in
theorem gX3_hold_X0_put : GoodIn wsX3_hold (wsV RX3 61 RX0 yX0_put wsX0_put) := goodIn_app (goodIn_of _ (by decide +kernel)) ggX3_hold_X0_put
theorem dX3_hold_0 : decode cX3_hold 0 = .ok (.iload_n 1, 1) := by decide +kernel
theorem dX3_hold_1 : decode cX3_hold 1 = .ok (.iconst 0, 1) := by decide +kernel
theorem dX3_hold_2 : decode cX3_hold 2 = .ok (.ldc 35, 2) := by decide +kernel
theorem dX3_hold_4 : decode cX3_hold 4 = .ok (.invokestatic 31, 3) := by decide +kernel
theorem dX3_hold_7 : decode cX3_hold 7 = .ok (.ifCond .eq 13, 3) := by decide +kernel
theorem dX3_hold_10 : decode cX3_hold 10 = .ok (.iload_n 2, 1) := by decide +kernel
theorem dX3_hold_11 : decode cX3_hold 11 = .ok (.iconst 0, 1) := by decide +kernel
theorem dX3_hold_12 : decode cX3_hold 12 = .ok (.ldc 59, 2) := by decide +kernel
theorem dX3_hold_14 : decode cX3_hold 14 = .ok (.invokestatic 31, 3) := by decide +kernel
theorem dX3_hold_17 : decode cX3_hold 17 = .ok (.ifCond .ne 6, 3) := by decide +kernel
theorem dX3_hold_20 : decode cX3_hold 20 = .ok (.bipush (-2), 2) := by decide +kernel
theorem dX3_hold_22 : decode cX3_hold 22 = .ok (.ireturn, 1) := by decide +kernel
theorem dX3_hold_23 : decode cX3_hold 23 = .ok (.iload_n 2, 1) := by decide +kernel
theorem dX3_hold_24 : decode cX3_hold 24 = .ok (.ifCond .ne 14, 3) := by decide +kernel
theorem dX3_hold_27 : decode cX3_hold 27 = .ok (.aload_n 0, 1) := by decide +kernel
theorem dX3_hold_28 : decode cX3_hold 28 = .ok (.getfield 19, 3) := by decide +kernel
theorem dX3_hold_31 : decode cX3_hold 31 = .ok (.iload_n 1, 1) := by decide +kernel
theorem dX3_hold_32 : decode cX3_hold 32 = .ok (.invokevirtual 60, 3) := by decide +kernel
theorem dX3_hold_35 : decode cX3_hold 35 = .ok (.goto 12, 3) := by decide +kernel
theorem dX3_hold_38 : decode cX3_hold 38 = .ok (.aload_n 0, 1) := by decide +kernel
theorem dX3_hold_39 : decode cX3_hold 39 = .ok (.getfield 19, 3) := by decide +kernel
theorem dX3_hold_42 : decode cX3_hold 42 = .ok (.iload_n 1, 1) := by decide +kernel
theorem dX3_hold_43 : decode cX3_hold 43 = .ok (.iload_n 2, 1) := by decide +kernel
theorem dX3_hold_44 : decode cX3_hold 44 = .ok (.invokevirtual 61, 3) := by decide +kernel
theorem dX3_hold_47 : decode cX3_hold 47 = .ok (.ireturn, 1) := by decide +kernel
set_option maxRecDepth 20000 in
theorem ggX3_mark_X3_isWithin : GoodIn wsX3_mark wsX3_isWithin := goodIn_r _ [5] (by decide +kernel) (by decide +kernel)
set_option maxRecDepth 20000 in
theorem gX3_mark_X3_isWithin : GoodIn wsX3_mark (va_wsS RX3 31 yX3_isWithin wsX3_isWithin) := goodIn_app (goodIn_of _ (by decide +kernel)) ggX3_mark_X3_isWithin
set_option maxRecDepth 20000 in
theorem ggX3_mark_X1_tell : GoodIn wsX3_mark wsX1_tell := goodIn_r _ [10, 11, 12, 13, 14, 15, 19, 20, 21, 22, 23, 24] (by decide +kernel) (by decide +kernel)
set_option maxRecDepth 20000 in
theorem gX3_mark_X1_tell : GoodIn wsX3_mark (wsV RX3 63 RX1 yX1_tell wsX1_tell) := goodIn_app (goodIn_of _ (by decide +kernel)) ggX3_mark_X1_tell
theorem dX3_mark_0 : decode cX3_mark 0 = .ok (.iload_n 2, 1) := by decide +kernel
theorem dX3_mark_1 : decode cX3_mark 1 = .ok (.iconst 0, 1) := by decide +kernel
theorem dX3_mark_2 : decode cX3_mark 2 = .ok (.iconst 4, 1) := by decide +kernel
theorem dX3_mark_3 : decode cX3_mark 3 = .ok (.invokestatic 31, 3) := by decide +kernel
theorem dX3_mark_6 : decode cX3_mark 6 = .ok (.ifCond .ne 6, 3) := by decide +kernel
theorem dX3_mark_9 : decode cX3_mark 9 = .ok (.bipush (-2), 2) := by decide +kernel
theorem dX3_mark_11 : decode cX3_mark 11 = .ok (.ireturn, 1) := by decide +kernel
theorem dX3_mark_12 : decode cX3_mark 12 = .ok (.aload_n 0, 1) := by decide +kernel
theorem dX3_mark_13 : decode cX3_mark 13 = .ok (.getfield 10, 3) := by decide +kernel
theorem dX3_mark_16 : decode cX3_mark 16 = .ok (.iload_n 1, 1) := by decide +kernel
theorem dX3_mark_17 : decode cX3_mark 17 = .ok (.iload_n 2, 1) := by decide +kernel
theorem dX3_mark_18 : decode cX3_mark 18 = .ok (.invokevirtual 63, 3) := by decide +kernel
theorem dX3_mark_21 : decode cX3_mark 21 = .ok (.ireturn, 1) := by decide +kernel
theorem dX3_count_0 : decode cX3_count 0 = .ok (.iload_n 1, 1) := by decide +kernel
theorem dX3_count_1 : decode cX3_count 1 = .ok (.tableswitch 51 0 2 #[27, 35, 43], 27) := by decide +kernel
theorem dX3_count_28 : decode cX3_count 28 = .ok (.aload_n 0, 1) := by decide +kernel
theorem dX3_count_29 : decode cX3_count 29 = .ok (.getfield 10, 3) := by decide +kernel
theorem dX3_count_32 : decode cX3_count 32 = .ok (.getfield 66, 3) := by decide +kernel
theorem dX3_count_35 : decode cX3_count 35 = .ok (.ireturn, 1) := by decide +kernel
theorem dX3_count_36 : decode cX3_count 36 = .ok (.aload_n 0, 1) := by decide +kernel
theorem dX3_count_37 : decode cX3_count 37 = .ok (.getfield 19, 3) := by decide +kernel
theorem dX3_count_40 : decode cX3_count 40 = .ok (.getfield 70, 3) := by decide +kernel
theorem dX3_count_43 : decode cX3_count 43 = .ok (.ireturn, 1) := by decide +kernel
theorem dX3_count_44 : decode cX3_count 44 = .ok (.aload_n 0, 1) := by decide +kernel
theorem dX3_count_45 : decode cX3_count 45 = .ok (.getfield 26, 3) := by decide +kernel
theorem dX3_count_48 : decode cX3_count 48 = .ok (.getfield 71, 3) := by decide +kernel
theorem dX3_count_51 : decode cX3_count 51 = .ok (.ireturn, 1) := by decide +kernel
theorem dX3_count_52 : decode cX3_count 52 = .ok (.bipush (-2), 2) := by decide +kernel
theorem dX3_count_54 : decode cX3_count 54 = .ok (.ireturn, 1) := by decide +kernel
set_option maxRecDepth 20000 in
theorem ggX3_lasts_X3_isWithin : GoodIn wsX3_lasts wsX3_isWithin := goodIn_r _ [6] (by decide +kernel) (by decide +kernel)
set_option maxRecDepth 20000 in
theorem gX3_lasts_X3_isWithin : GoodIn wsX3_lasts (va_wsS RX3 31 yX3_isWithin wsX3_isWithin) := goodIn_app (goodIn_of _ (by decide +kernel)) ggX3_lasts_X3_isWithin
set_option maxRecDepth 20000 in
theorem ggX3_lasts_X1_unitsOfTick : GoodIn wsX3_lasts wsX1_unitsOfTick := goodIn_r _ [11, 12, 13, 14, 15, 16, 17, 18, 10, 19, 20, 21, 22, 23, 24, 28, 29, 30, 31, 32, 33] (by decide +kernel) (by decide +kernel)
set_option maxRecDepth 20000 in
theorem gX3_lasts_X1_unitsOfTick : GoodIn wsX3_lasts (wsV RX3 52 RX1 yX1_unitsOfTick wsX1_unitsOfTick) := goodIn_app (goodIn_of _ (by decide +kernel)) ggX3_lasts_X1_unitsOfTick
theorem dX3_lasts_0 : decode cX3_lasts 0 = .ok (.iload_n 1, 1) := by decide +kernel
theorem dX3_lasts_1 : decode cX3_lasts 1 = .ok (.iconst 0, 1) := by decide +kernel
theorem dX3_lasts_2 : decode cX3_lasts 2 = .ok (.ldc 30, 2) := by decide +kernel
theorem dX3_lasts_4 : decode cX3_lasts 4 = .ok (.invokestatic 31, 3) := by decide +kernel
theorem dX3_lasts_7 : decode cX3_lasts 7 = .ok (.ifCond .ne 6, 3) := by decide +kernel
theorem dX3_lasts_10 : decode cX3_lasts 10 = .ok (.bipush (-2), 2) := by decide +kernel
theorem dX3_lasts_12 : decode cX3_lasts 12 = .ok (.ireturn, 1) := by decide +kernel
theorem dX3_lasts_13 : decode cX3_lasts 13 = .ok (.aload_n 0, 1) := by decide +kernel
theorem dX3_lasts_14 : decode cX3_lasts 14 = .ok (.getfield 10, 3) := by decide +kernel
theorem dX3_lasts_17 : decode cX3_lasts 17 = .ok (.iload_n 1, 1) := by decide +kernel
theorem dX3_lasts_18 : decode cX3_lasts 18 = .ok (.invokevirtual 52, 3) := by decide +kernel
theorem dX3_lasts_21 : decode cX3_lasts 21 = .ok (.ireturn, 1) := by decide +kernel
set_option maxRecDepth 20000 in
theorem ggX3_time_X3_isWithin : GoodIn wsX3_time wsX3_isWithin := goodIn_r _ [6] (by decide +kernel) (by decide +kernel)
set_option maxRecDepth 20000 in
theorem gX3_time_X3_isWithin : GoodIn wsX3_time (va_wsS RX3 31 yX3_isWithin wsX3_isWithin) := goodIn_app (goodIn_of _ (by decide +kernel)) ggX3_time_X3_isWithin
set_option maxRecDepth 20000 in
theorem ggX3_time_X3_beginOf : GoodIn wsX3_time wsX3_beginOf := goodIn_r _ [10, 11, 12, 13, 14, 15, 16, 17, 18, 19, 20, 21, 22, 23, 24, 25, 26, 27, 28, 29, 30, 31, 32, 33, 34, 35, 36, 37, 5, 38, 39, 40, 41, 42, 43, 44, 45, 46, 47, 48, 49, 50, 51, 52, 53, 54, 55, 56, 57, 58, 59, 60, 61, 62, 63, 64, 65, 66] (by decide +kernel) (by decide +kernel)
set_option maxRecDepth 20000 in
theorem gX3_time_X3_beginOf : GoodIn wsX3_time (wsV RX3 74 RX3 yX3_beginOf wsX3_beginOf) := goodIn_app (goodIn_of _ (by decide +kernel)) ggX3_time_X3_beginOf
theorem dX3_time_0 : decode cX3_time 0 = .ok (.iload_n 1, 1) := by decide +kernel
theorem dX3_time_1 : decode cX3_time 1 = .ok (.iconst 0, 1) := by decide +kernel
theorem dX3_time_2 : decode cX3_time 2 = .ok (.ldc 35, 2) := by decide +kernel
theorem dX3_time_4 : decode cX3_time 4 = .ok (.invokestatic 31, 3) := by decide +kernel
theorem dX3_time_7 : decode cX3_time 7 = .ok (.ifCond .ne 7, 3) := by decide +kernel
theorem dX3_time_10 : decode cX3_time 10 = .ok (.ldc2_w 72, 3) := by decide +kernel
theorem dX3_time_13 : decode cX3_time 13 = .ok (.lreturn, 1) := by decide +kernel
theorem dX3_time_14 : decode cX3_time 14 = .ok (.aload_n 0, 1) := by decide +kernel
theorem dX3_time_15 : decode cX3_time 15 = .ok (.iload_n 1, 1) := by decide +kernel
theorem dX3_time_16 : decode cX3_time 16 = .ok (.invokevirtual 74, 3) := by decide +kernel
theorem dX3_time_19 : decode cX3_time 19 = .ok (.lreturn, 1) := by decide +kernel
set_option maxRecDepth 20000 in
theorem ggX3_tick_X3_lastBegun : GoodIn wsX3_tick wsX3_lastBegun := goodIn_r _ [5, 6, 7, 8, 9, 4, 10, 11, 12, 13, 14, 15, 16, 17, 18, 19, 20, 21, 22, 23, 24, 25, 26, 27, 28, 29, 30, 31, 32, 33, 34, 35, 36, 37, 38, 39, 40, 41, 42, 43, 44, 45, 46, 47, 48, 49, 50, 51, 52, 53, 54, 55, 56, 57, 58, 59, 60, 61, 62, 63, 64, 65, 66, 67, 68, 69, 70, 71] (by decide +kernel) (by decide +kernel)
set_option maxRecDepth 20000 in
theorem gX3_tick_X3_lastBegun : GoodIn wsX3_tick (wsV RX3 78 RX3 yX3_lastBegun wsX3_lastBegun) := goodIn_app (goodIn_of _ (by decide +kernel)) ggX3_tick_X3_lastBegun
theorem dX3_tick_0 : decode cX3_tick 0 = .ok (.lload_n 1, 1) := by decide +kernel
theorem dX3_tick_1 : decode cX3_tick 1 = .ok (.lconst 0, 1) := by decide +kernel
theorem dX3_tick_2 : decode cX3_tick 2 = .ok (.lcmp, 1) := by decide +kernel
theorem dX3_tick_3 : decode cX3_tick 3 = .ok (.ifCond .ge 6, 3) := by decide +kernel
theorem dX3_tick_6 : decode cX3_tick 6 = .ok (.bipush (-2), 2) := by decide +kernel
theorem dX3_tick_8 : decode cX3_tick 8 = .ok (.ireturn, 1) := by decide +kernel
theorem dX3_tick_9 : decode cX3_tick 9 = .ok (.aload_n 0, 1) := by decide +kernel
theorem dX3_tick_10 : decode cX3_tick 10 = .ok (.lload_n 1, 1) := by decide +kernel
theorem dX3_tick_11 : decode cX3_tick 11 = .ok (.invokevirtual 78, 3) := by decide +kernel
theorem dX3_tick_14 : decode cX3_tick 14 = .ok (.ireturn, 1) := by decide +kernel
set_option maxRecDepth 20000 in
theorem ggX3_held_X3_lastBegun : GoodIn wsX3_held wsX3_lastBegun := goodIn_r _ [7, 1, 8, 9, 10, 6, 11, 2, 12, 13, 14, 15, 16, 17, 18, 19, 20, 21, 22, 23, 24, 25, 26, 27, 28, 29, 30, 31, 32, 33, 34, 35, 36, 37, 38, 39, 40, 41, 42, 43, 44, 45, 46, 47, 48, 49, 50, 51, 52, 53, 54, 55, 56, 57, 58, 59, 67, 68, 69, 70, 71, 72, 73, 74, 75, 76, 77, 78] (by decide +kernel) (by decide +kernel)
set_option maxRecDepth 20000 in
theorem gX3_held_X3_lastBegun : GoodIn wsX3_held (wsV RX3 78 RX3 yX3_lastBegun wsX3_lastBegun) := goodIn_app (goodIn_of _ (by decide +kernel)) ggX3_held_X3_lastBegun
set_option maxRecDepth 20000 in
theorem ggX3_held_X3_beginOf : GoodIn wsX3_held wsX3_beginOf := goodIn_r _ [11, 2, 12, 13, 14, 15, 16, 17, 18, 19, 20, 21, 22, 23, 24, 25, 26, 27, 28, 29, 30, 31, 32, 33, 34, 35, 36, 37, 6, 38, 39, 40, 41, 42, 43, 44, 45, 46, 47, 48, 49, 50, 51, 52, 53, 54, 67, 68, 69, 70, 71, 72, 73, 74, 75, 76, 77, 78] (by decide +kernel) (by decide +kernel)
set_option maxRecDepth 20000 in
theorem gX3_held_X3_beginOf : GoodIn wsX3_held (wsV RX3 74 RX3 yX3_beginOf wsX3_beginOf) := goodIn_app (goodIn_of _ (by decide +kernel)) ggX3_held_X3_beginOf
set_option maxRecDepth 20000 in
theorem ggX3_held_X1_unitsOfTick : GoodIn wsX3_held wsX1_unitsOfTick := goodIn_r _ [63, 23, 29, 34, 35, 18, 19, 20, 16, 21, 22, 64, 65, 42, 66, 70, 71, 72, 73, 74, 75] (by decide +kernel) (by decide +kernel)
set_option maxRecDepth 20000 in
theorem gX3_held_X1_unitsOfTick : GoodIn wsX3_held (wsV RX3 52 RX1 yX1_unitsOfTick wsX1_unitsOfTick) := goodIn_app (goodIn_of _ (by decide +kernel)) ggX3_held_X1_unitsOfTick
theorem dX3_held_0 : decode cX3_held 0 = .ok (.lload_n 1, 1) := by decide +kernel
theorem dX3_held_1 : decode cX3_held 1 = .ok (.lconst 0, 1) := by decide +kernel
theorem dX3_held_2 : decode cX3_held 2 = .ok (.lcmp, 1) := by decide +kernel
theorem dX3_held_3 : decode cX3_held 3 = .ok (.ifCond .ge 6, 3) := by decide +kernel
theorem dX3_held_6 : decode cX3_held 6 = .ok (.bipush (-2), 2) := by decide +kernel
theorem dX3_held_8 : decode cX3_held 8 = .ok (.ireturn, 1) := by decide +kernel
theorem dX3_held_9 : decode cX3_held 9 = .ok (.aload_n 0, 1) := by decide +kernel
theorem dX3_held_10 : decode cX3_held 10 = .ok (.lload_n 1, 1) := by decide +kernel
theorem dX3_held_11 : decode cX3_held 11 = .ok (.invokevirtual 78, 3) := by decide +kernel
theorem dX3_held_14 : decode cX3_held 14 = .ok (.istore_n 3, 1) := by decide +kernel
theorem dX3_held_15 : decode cX3_held 15 = .ok (.iload_n 3, 1) := by decide +kernel
theorem dX3_held_16 : decode cX3_held 16 = .ok (.iconst (-1), 1) := by decide +kernel
theorem dX3_held_17 : decode cX3_held 17 = .ok (.if_icmp .eq 9, 3) := by decide +kernel
theorem dX3_held_20 : decode cX3_held 20 = .ok (.iload_n 3, 1) := by decide +kernel
theorem dX3_held_21 : decode cX3_held 21 = .ok (.ldc 35, 2) := by decide +kernel
theorem dX3_held_23 : decode cX3_held 23 = .ok (.if_icmp .ne 5, 3) := by decide +kernel
theorem dX3_held_26 : decode cX3_held 26 = .ok (.iconst 1, 1) := by decide +kernel
theorem dX3_held_27 : decode cX3_held 27 = .ok (.ireturn, 1) := by decide +kernel
theorem dX3_held_28 : decode cX3_held 28 = .ok (.lload_n 1, 1) := by decide +kernel
theorem dX3_held_29 : decode cX3_held 29 = .ok (.aload_n 0, 1) := by decide +kernel
theorem dX3_held_30 : decode cX3_held 30 = .ok (.iload_n 3, 1) := by decide +kernel
theorem dX3_held_31 : decode cX3_held 31 = .ok (.invokevirtual 74, 3) := by decide +kernel
theorem dX3_held_34 : decode cX3_held 34 = .ok (.lsub, 1) := by decide +kernel
theorem dX3_held_35 : decode cX3_held 35 = .ok (.aload_n 0, 1) := by decide +kernel
theorem dX3_held_36 : decode cX3_held 36 = .ok (.getfield 10, 3) := by decide +kernel
theorem dX3_held_39 : decode cX3_held 39 = .ok (.iload_n 3, 1) := by decide +kernel
theorem dX3_held_40 : decode cX3_held 40 = .ok (.invokevirtual 52, 3) := by decide +kernel
theorem dX3_held_43 : decode cX3_held 43 = .ok (.i2l, 1) := by decide +kernel
theorem dX3_held_44 : decode cX3_held 44 = .ok (.lcmp, 1) := by decide +kernel
theorem dX3_held_45 : decode cX3_held 45 = .ok (.ifCond .lt 7, 3) := by decide +kernel
theorem dX3_held_48 : decode cX3_held 48 = .ok (.iconst 1, 1) := by decide +kernel
theorem dX3_held_49 : decode cX3_held 49 = .ok (.goto 4, 3) := by decide +kernel
theorem dX3_held_52 : decode cX3_held 52 = .ok (.iconst 0, 1) := by decide +kernel
theorem dX3_held_53 : decode cX3_held 53 = .ok (.ireturn, 1) := by decide +kernel
set_option maxRecDepth 20000 in
theorem ggX3_frame_X3_isWithin : GoodIn wsX3_frame wsX3_isWithin := goodIn_r _ [7] (by decide +kernel) (by decide +kernel)
set_option maxRecDepth 20000 in
theorem gX3_frame_X3_isWithin : GoodIn wsX3_frame (va_wsS RX3 31 yX3_isWithin wsX3_isWithin) := goodIn_app (goodIn_of _ (by decide +kernel)) ggX3_frame_X3_isWithin
set_option maxRecDepth 20000 in
theorem ggX3_frame_X3_framesAt : GoodIn wsX3_frame wsX3_framesAt := goodIn_r _ [11, 12, 13, 14, 15, 6, 16, 17, 18, 19, 20, 21, 22, 23, 24, 25, 26, 27, 28, 29, 30, 31, 32, 33, 34, 35, 36, 37, 38, 39, 40, 41, 42, 43, 44, 45, 46, 47, 48, 49, 50, 51, 52, 53, 54, 55, 56, 57, 58, 59, 60, 61, 62, 63, 64, 65, 66, 67, 68, 69, 70, 71, 72] (by decide +kernel) (by decide +kernel)
set_option maxRecDepth 20000 in
theorem gX3_frame_X3_framesAt : GoodIn wsX3_frame (wsV RX3 83 RX3 yX3_framesAt wsX3_framesAt) := goodIn_app (goodIn_of _ (by decide +kernel)) ggX3_frame_X3_framesAt
theorem dX3_frame_0 : decode cX3_frame 0 = .ok (.iload_n 1, 1) := by decide +kernel
theorem dX3_frame_1 : decode cX3_frame 1 = .ok (.iconst 0, 1) := by decide +kernel
theorem dX3_frame_2 : decode cX3_frame 2 = .ok (.ldc 35, 2) := by decide +kernel
theorem dX3_frame_4 : decode cX3_frame 4 = .ok (.invokestatic 31, 3) := by decide +kernel
theorem dX3_frame_7 : decode cX3_frame 7 = .ok (.ifCond .eq 13, 3) := by decide +kernel
theorem dX3_frame_10 : decode cX3_frame 10 = .ok (.iload_n 2, 1) := by decide +kernel
theorem dX3_frame_11 : decode cX3_frame 11 = .ok (.iconst 1, 1) := by decide +kernel
theorem dX3_frame_12 : decode cX3_frame 12 = .ok (.ldc 82, 2) := by decide +kernel
theorem dX3_frame_14 : decode cX3_frame 14 = .ok (.invokestatic 31, 3) := by decide +kernel
theorem dX3_frame_17 : decode cX3_frame 17 = .ok (.ifCond .ne 7, 3) := by decide +kernel
theorem dX3_frame_20 : decode cX3_frame 20 = .ok (.ldc2_w 72, 3) := by decide +kernel
theorem dX3_frame_23 : decode cX3_frame 23 = .ok (.lreturn, 1) := by decide +kernel
theorem dX3_frame_24 : decode cX3_frame 24 = .ok (.aload_n 0, 1) := by decide +kernel
theorem dX3_frame_25 : decode cX3_frame 25 = .ok (.iload_n 1, 1) := by decide +kernel
theorem dX3_frame_26 : decode cX3_frame 26 = .ok (.iload_n 2, 1) := by decide +kernel
theorem dX3_frame_27 : decode cX3_frame 27 = .ok (.invokevirtual 83, 3) := by decide +kernel
theorem dX3_frame_30 : decode cX3_frame 30 = .ok (.lreturn, 1) := by decide +kernel
set_option maxRecDepth 20000 in
theorem ggX3_tickOf_X3_isWithin : GoodIn wsX3_tickOf wsX3_isWithin := goodIn_r _ [7] (by decide +kernel) (by decide +kernel)
set_option maxRecDepth 20000 in
theorem gX3_tickOf_X3_isWithin : GoodIn wsX3_tickOf (va_wsS RX3 31 yX3_isWithin wsX3_isWithin) := goodIn_app (goodIn_of _ (by decide +kernel)) ggX3_tickOf_X3_isWithin
set_option maxRecDepth 20000 in
theorem ggX3_tickOf_X3_framesAt : GoodIn wsX3_tickOf wsX3_framesAt := goodIn_r _ [11, 3, 12, 13, 14, 6, 15, 16, 17, 18, 19, 20, 21, 22, 23, 24, 25, 26, 27, 28, 29, 30, 31, 32, 33, 34, 35, 36, 37, 38, 39, 40, 41, 42, 43, 44, 45, 46, 47, 48, 49, 50, 51, 52, 53, 54, 55, 56, 57, 58, 59, 65, 66, 67, 68, 69, 70, 71, 72, 73, 74, 75, 76] (by decide +kernel) (by decide +kernel)
set_option maxRecDepth 20000 in
theorem gX3_tickOf_X3_framesAt : GoodIn wsX3_tickOf (wsV RX3 83 RX3 yX3_framesAt wsX3_framesAt) := goodIn_app (goodIn_of _ (by decide +kernel)) ggX3_tickOf_X3_framesAt
set_option maxRecDepth 20000 in
theorem ggX3_tickOf_X3_firstBeginningFrom : GoodIn wsX3_tickOf wsX3_firstBeginningFrom := goodIn_r _ [63, 64, 12, 13, 14, 6, 15, 16, 17, 18, 19, 20, 21, 22, 23, 24, 25, 26, 27, 28, 29, 30, 31, 32, 33, 34, 35, 36, 37, 38, 39, 40, 41, 42, 43, 44, 45, 46, 47, 48, 49, 50, 51, 52, 53, 54, 55, 56, 57, 58, 59, 65, 66, 67, 68, 69, 70, 71, 72, 73, 74, 75, 76] (by decide +kernel) (by decide +kernel)
set_option maxRecDepth 20000 in
theorem gX3_tickOf_X3_firstBeginningFrom : GoodIn wsX3_tickOf (wsV RX3 89 RX3 yX3_firstBeginningFrom wsX3_firstBeginningFrom) := goodIn_app (goodIn_of _ (by decide +kernel)) ggX3_tickOf_X3_firstBeginningFrom
theorem dX3_tickOf_0 : decode cX3_tickOf 0 = .ok (.lload_n 1, 1) := by decide +kernel
theorem dX3_tickOf_1 : decode cX3_tickOf 1 = .ok (.lconst 0, 1) := by decide +kernel
theorem dX3_tickOf_2 : decode cX3_tickOf 2 = .ok (.lcmp, 1) := by decide +kernel
theorem dX3_tickOf_3 : decode cX3_tickOf 3 = .ok (.ifCond .lt 13, 3) := by decide +kernel
theorem dX3_tickOf_6 : decode cX3_tickOf 6 = .ok (.iload_n 3, 1) := by decide +kernel
theorem dX3_tickOf_7 : decode cX3_tickOf 7 = .ok (.iconst 1, 1) := by decide +kernel
theorem dX3_tickOf_8 : decode cX3_tickOf 8 = .ok (.ldc 82, 2) := by decide +kernel
theorem dX3_tickOf_10 : decode cX3_tickOf 10 = .ok (.invokestatic 31, 3) := by decide +kernel
theorem dX3_tickOf_13 : decode cX3_tickOf 13 = .ok (.ifCond .ne 6, 3) := by decide +kernel
theorem dX3_tickOf_16 : decode cX3_tickOf 16 = .ok (.bipush (-2), 2) := by decide +kernel
theorem dX3_tickOf_18 : decode cX3_tickOf 18 = .ok (.ireturn, 1) := by decide +kernel
theorem dX3_tickOf_19 : decode cX3_tickOf 19 = .ok (.lload_n 1, 1) := by decide +kernel
theorem dX3_tickOf_20 : decode cX3_tickOf 20 = .ok (.aload_n 0, 1) := by decide +kernel
theorem dX3_tickOf_21 : decode cX3_tickOf 21 = .ok (.ldc 35, 2) := by decide +kernel
theorem dX3_tickOf_23 : decode cX3_tickOf 23 = .ok (.iload_n 3, 1) := by decide +kernel
theorem dX3_tickOf_24 : decode cX3_tickOf 24 = .ok (.invokevirtual 83, 3) := by decide +kernel
theorem dX3_tickOf_27 : decode cX3_tickOf 27 = .ok (.lcmp, 1) := by decide +kernel
theorem dX3_tickOf_28 : decode cX3_tickOf 28 = .ok (.ifCond .le 5, 3) := by decide +kernel
theorem dX3_tickOf_31 : decode cX3_tickOf 31 = .ok (.iconst (-1), 1) := by decide +kernel
theorem dX3_tickOf_32 : decode cX3_tickOf 32 = .ok (.ireturn, 1) := by decide +kernel
theorem dX3_tickOf_33 : decode cX3_tickOf 33 = .ok (.lload_n 1, 1) := by decide +kernel
theorem dX3_tickOf_34 : decode cX3_tickOf 34 = .ok (.ldc2_w 87, 3) := by decide +kernel
theorem dX3_tickOf_37 : decode cX3_tickOf 37 = .ok (.lmul, 1) := by decide +kernel
theorem dX3_tickOf_38 : decode cX3_tickOf 38 = .ok (.iload_n 3, 1) := by decide +kernel
theorem dX3_tickOf_39 : decode cX3_tickOf 39 = .ok (.i2l, 1) := by decide +kernel
theorem dX3_tickOf_40 : decode cX3_tickOf 40 = .ok (.ladd, 1) := by decide +kernel
theorem dX3_tickOf_41 : decode cX3_tickOf 41 = .ok (.lconst 1, 1) := by decide +kernel
theorem dX3_tickOf_42 : decode cX3_tickOf 42 = .ok (.lsub, 1) := by decide +kernel
theorem dX3_tickOf_43 : decode cX3_tickOf 43 = .ok (.iload_n 3, 1) := by decide +kernel
theorem dX3_tickOf_44 : decode cX3_tickOf 44 = .ok (.i2l, 1) := by decide +kernel
theorem dX3_tickOf_45 : decode cX3_tickOf 45 = .ok (.ldiv, 1) := by decide +kernel
theorem dX3_tickOf_46 : decode cX3_tickOf 46 = .ok (.lstore 4, 2) := by decide +kernel
theorem dX3_tickOf_48 : decode cX3_tickOf 48 = .ok (.aload_n 0, 1) := by decide +kernel
theorem dX3_tickOf_49 : decode cX3_tickOf 49 = .ok (.lload 4, 2) := by decide +kernel
theorem dX3_tickOf_51 : decode cX3_tickOf 51 = .ok (.invokevirtual 89, 3) := by decide +kernel
theorem dX3_tickOf_54 : decode cX3_tickOf 54 = .ok (.ireturn, 1) := by decide +kernel
set_option maxRecDepth 20000 in
theorem ggX3_tap_X2_add : GoodIn wsX3_tap wsX2_add := goodIn_r _ [7, 8, 9, 13, 14] (by decide +kernel) (by decide +kernel)
set_option maxRecDepth 20000 in
theorem gX3_tap_X2_add : GoodIn wsX3_tap (wsV RX3 94 RX2 yX2_add wsX2_add) := goodIn_app (goodIn_of _ (by decide +kernel)) ggX3_tap_X2_add
theorem dX3_tap_0 : decode cX3_tap 0 = .ok (.lload_n 1, 1) := by decide +kernel
theorem dX3_tap_1 : decode cX3_tap 1 = .ok (.lconst 0, 1) := by decide +kernel
theorem dX3_tap_2 : decode cX3_tap 2 = .ok (.lcmp, 1) := by decide +kernel
theorem dX3_tap_3 : decode cX3_tap 3 = .ok (.ifCond .lt 11, 3) := by decide +kernel
theorem dX3_tap_6 : decode cX3_tap 6 = .ok (.lload_n 1, 1) := by decide +kernel
theorem dX3_tap_7 : decode cX3_tap 7 = .ok (.ldc2_w 92, 3) := by decide +kernel
theorem dX3_tap_10 : decode cX3_tap 10 = .ok (.lcmp, 1) := by decide +kernel
theorem dX3_tap_11 : decode cX3_tap 11 = .ok (.ifCond .le 6, 3) := by decide +kernel
theorem dX3_tap_14 : decode cX3_tap 14 = .ok (.bipush (-2), 2) := by decide +kernel
theorem dX3_tap_16 : decode cX3_tap 16 = .ok (.ireturn, 1) := by decide +kernel
theorem dX3_tap_17 : decode cX3_tap 17 = .ok (.aload_n 0, 1) := by decide +kernel
theorem dX3_tap_18 : decode cX3_tap 18 = .ok (.getfield 26, 3) := by decide +kernel
theorem dX3_tap_21 : decode cX3_tap 21 = .ok (.lload_n 1, 1) := by decide +kernel
theorem dX3_tap_22 : decode cX3_tap 22 = .ok (.invokevirtual 94, 3) := by decide +kernel
theorem dX3_tap_25 : decode cX3_tap 25 = .ok (.ireturn, 1) := by decide +kernel
set_option maxRecDepth 20000 in
theorem ggX3_noTaps_X2_removeAll : GoodIn wsX3_noTaps wsX2_removeAll := goodIn_r _ [6, 7, 11, 12] (by decide +kernel) (by decide +kernel)
set_option maxRecDepth 20000 in
theorem gX3_noTaps_X2_removeAll : GoodIn wsX3_noTaps (wsV RX3 97 RX2 yX2_removeAll wsX2_removeAll) := goodIn_app (goodIn_of _ (by decide +kernel)) ggX3_noTaps_X2_removeAll
theorem dX3_noTaps_0 : decode cX3_noTaps 0 = .ok (.aload_n 0, 1) := by decide +kernel
theorem dX3_noTaps_1 : decode cX3_noTaps 1 = .ok (.getfield 26, 3) := by decide +kernel
theorem dX3_noTaps_4 : decode cX3_noTaps 4 = .ok (.invokevirtual 97, 3) := by decide +kernel
theorem dX3_noTaps_7 : decode cX3_noTaps 7 = .ok (.ireturn, 1) := by decide +kernel
set_option maxRecDepth 20000 in
theorem ggX3_fit_X2_above : GoodIn wsX3_fit wsX2_above := goodIn_r _ [8, 9, 10, 26, 27] (by decide +kernel) (by decide +kernel)
set_option maxRecDepth 20000 in
theorem gX3_fit_X2_above : GoodIn wsX3_fit (wsV RX3 103 RX2 yX2_above wsX2_above) := goodIn_app (goodIn_of _ (by decide +kernel)) ggX3_fit_X2_above
set_option maxRecDepth 20000 in
theorem ggX3_fit_X2_below : GoodIn wsX3_fit wsX2_below := goodIn_r _ [14, 9, 26, 27] (by decide +kernel) (by decide +kernel)
set_option maxRecDepth 20000 in
theorem gX3_fit_X2_below : GoodIn wsX3_fit (wsV RX3 107 RX2 yX2_below wsX2_below) := goodIn_app (goodIn_of _ (by decide +kernel)) ggX3_fit_X2_below
set_option maxRecDepth 20000 in
theorem ggX3_fit_X3_commonDivisor : GoodIn wsX3_fit wsX3_commonDivisor := goodIn_r _ [18, 19, 20, 21, 22] (by decide +kernel) (by decide +kernel)
set_option maxRecDepth 20000 in
theorem gX3_fit_X3_commonDivisor : GoodIn wsX3_fit (va_wsS RX3 110 yX3_commonDivisor wsX3_commonDivisor) := goodIn_app (goodIn_of _ (by decide +kernel)) ggX3_fit_X3_commonDivisor
theorem dX3_fit_0 : decode cX3_fit 0 = .ok (.iload_n 1, 1) := by decide +kernel
theorem dX3_fit_1 : decode cX3_fit 1 = .ok (.ifCond .eq 12, 3) := by decide +kernel
theorem dX3_fit_4 : decode cX3_fit 4 = .ok (.iload_n 1, 1) := by decide +kernel
theorem dX3_fit_5 : decode cX3_fit 5 = .ok (.iconst 1, 1) := by decide +kernel
theorem dX3_fit_6 : decode cX3_fit 6 = .ok (.if_icmp .eq 7, 3) := by decide +kernel
theorem dX3_fit_9 : decode cX3_fit 9 = .ok (.ldc2_w 72, 3) := by decide +kernel
theorem dX3_fit_12 : decode cX3_fit 12 = .ok (.lreturn, 1) := by decide +kernel
theorem dX3_fit_13 : decode cX3_fit 13 = .ok (.aload_n 0, 1) := by decide +kernel
theorem dX3_fit_14 : decode cX3_fit 14 = .ok (.getfield 26, 3) := by decide +kernel
theorem dX3_fit_17 : decode cX3_fit 17 = .ok (.getfield 71, 3) := by decide +kernel
theorem dX3_fit_20 : decode cX3_fit 20 = .ok (.iconst 2, 1) := by decide +kernel
theorem dX3_fit_21 : decode cX3_fit 21 = .ok (.if_icmp .ge 7, 3) := by decide +kernel
theorem dX3_fit_24 : decode cX3_fit 24 = .ok (.ldc2_w 101, 3) := by decide +kernel
theorem dX3_fit_27 : decode cX3_fit 27 = .ok (.lreturn, 1) := by decide +kernel
theorem dX3_fit_28 : decode cX3_fit 28 = .ok (.aload_n 0, 1) := by decide +kernel
theorem dX3_fit_29 : decode cX3_fit 29 = .ok (.getfield 26, 3) := by decide +kernel
theorem dX3_fit_32 : decode cX3_fit 32 = .ok (.invokevirtual 103, 3) := by decide +kernel
theorem dX3_fit_35 : decode cX3_fit 35 = .ok (.lstore_n 2, 1) := by decide +kernel
theorem dX3_fit_36 : decode cX3_fit 36 = .ok (.aload_n 0, 1) := by decide +kernel
theorem dX3_fit_37 : decode cX3_fit 37 = .ok (.getfield 26, 3) := by decide +kernel
theorem dX3_fit_40 : decode cX3_fit 40 = .ok (.invokevirtual 107, 3) := by decide +kernel
theorem dX3_fit_43 : decode cX3_fit 43 = .ok (.lstore 4, 2) := by decide +kernel
theorem dX3_fit_45 : decode cX3_fit 45 = .ok (.lload_n 2, 1) := by decide +kernel
theorem dX3_fit_46 : decode cX3_fit 46 = .ok (.lload 4, 2) := by decide +kernel
theorem dX3_fit_48 : decode cX3_fit 48 = .ok (.invokestatic 110, 3) := by decide +kernel
theorem dX3_fit_51 : decode cX3_fit 51 = .ok (.lstore 6, 2) := by decide +kernel
theorem dX3_fit_53 : decode cX3_fit 53 = .ok (.iload_n 1, 1) := by decide +kernel
theorem dX3_fit_54 : decode cX3_fit 54 = .ok (.ifCond .ne 7, 3) := by decide +kernel
theorem dX3_fit_57 : decode cX3_fit 57 = .ok (.lload_n 2, 1) := by decide +kernel
theorem dX3_fit_58 : decode cX3_fit 58 = .ok (.goto 5, 3) := by decide +kernel
theorem dX3_fit_61 : decode cX3_fit 61 = .ok (.lload 4, 2) := by decide +kernel
theorem dX3_fit_63 : decode cX3_fit 63 = .ok (.lload 6, 2) := by decide +kernel
theorem dX3_fit_65 : decode cX3_fit 65 = .ok (.ldiv, 1) := by decide +kernel
theorem dX3_fit_66 : decode cX3_fit 66 = .ok (.lreturn, 1) := by decide +kernel
set_option maxRecDepth 20000 in
theorem ggX3_pace_X3_isWithin : GoodIn wsX3_pace wsX3_isWithin := goodIn_r _ [9] (by decide +kernel) (by decide +kernel)
set_option maxRecDepth 20000 in
theorem gX3_pace_X3_isWithin : GoodIn wsX3_pace (va_wsS RX3 31 yX3_isWithin wsX3_isWithin) := goodIn_app (goodIn_of _ (by decide +kernel)) ggX3_pace_X3_isWithin
set_option maxRecDepth 20000 in
theorem ggX3_pace_X2_above : GoodIn wsX3_pace wsX2_above := goodIn_r _ [14, 15, 16, 24, 25] (by decide +kernel) (by decide +kernel)
set_option maxRecDepth 20000 in
theorem gX3_pace_X2_above : GoodIn wsX3_pace (wsV RX3 103 RX2 yX2_above wsX2_above) := goodIn_app (goodIn_of _ (by decide +kernel)) ggX3_pace_X2_above
set_option maxRecDepth 20000 in
theorem ggX3_pace_X2_below : GoodIn wsX3_pace wsX2_below := goodIn_r _ [20, 15, 24, 25] (by decide +kernel) (by decide +kernel)
set_option maxRecDepth 20000 in
theorem gX3_pace_X2_below : GoodIn wsX3_pace (wsV RX3 107 RX2 yX2_below wsX2_below) := goodIn_app (goodIn_of _ (by decide +kernel)) ggX3_pace_X2_below
theorem dX3_pace_0 : decode cX3_pace 0 = .ok (.iload_n 1, 1) := by decide +kernel
theorem dX3_pace_1 : decode cX3_pace 1 = .ok (.iconst 1, 1) := by decide +kernel
theorem dX3_pace_2 : decode cX3_pace 2 = .ok (.ldc 114, 2) := by decide +kernel
theorem dX3_pace_4 : decode cX3_pace 4 = .ok (.invokestatic 31, 3) := by decide +kernel
theorem dX3_pace_7 : decode cX3_pace 7 = .ok (.ifCond .ne 7, 3) := by decide +kernel
theorem dX3_pace_10 : decode cX3_pace 10 = .ok (.ldc2_w 72, 3) := by decide +kernel
theorem dX3_pace_13 : decode cX3_pace 13 = .ok (.lreturn, 1) := by decide +kernel
theorem dX3_pace_14 : decode cX3_pace 14 = .ok (.aload_n 0, 1) := by decide +kernel
theorem dX3_pace_15 : decode cX3_pace 15 = .ok (.getfield 26, 3) := by decide +kernel
theorem dX3_pace_18 : decode cX3_pace 18 = .ok (.invokevirtual 103, 3) := by decide +kernel
theorem dX3_pace_21 : decode cX3_pace 21 = .ok (.lstore_n 2, 1) := by decide +kernel
theorem dX3_pace_22 : decode cX3_pace 22 = .ok (.aload_n 0, 1) := by decide +kernel
theorem dX3_pace_23 : decode cX3_pace 23 = .ok (.getfield 26, 3) := by decide +kernel
theorem dX3_pace_26 : decode cX3_pace 26 = .ok (.invokevirtual 107, 3) := by decide +kernel
theorem dX3_pace_29 : decode cX3_pace 29 = .ok (.iload_n 1, 1) := by decide +kernel
theorem dX3_pace_30 : decode cX3_pace 30 = .ok (.i2l, 1) := by decide +kernel
theorem dX3_pace_31 : decode cX3_pace 31 = .ok (.lmul, 1) := by decide +kernel
theorem dX3_pace_32 : decode cX3_pace 32 = .ok (.lstore 4, 2) := by decide +kernel
theorem dX3_pace_34 : decode cX3_pace 34 = .ok (.lload 4, 2) := by decide +kernel
theorem dX3_pace_36 : decode cX3_pace 36 = .ok (.lconst 1, 1) := by decide +kernel
theorem dX3_pace_37 : decode cX3_pace 37 = .ok (.lcmp, 1) := by decide +kernel
theorem dX3_pace_38 : decode cX3_pace 38 = .ok (.ifCond .ge 7, 3) := by decide +kernel
theorem dX3_pace_41 : decode cX3_pace 41 = .ok (.ldc2_w 101, 3) := by decide +kernel
theorem dX3_pace_44 : decode cX3_pace 44 = .ok (.lreturn, 1) := by decide +kernel
theorem dX3_pace_45 : decode cX3_pace 45 = .ok (.lload_n 2, 1) := by decide +kernel
theorem dX3_pace_46 : decode cX3_pace 46 = .ok (.lload 4, 2) := by decide +kernel
theorem dX3_pace_48 : decode cX3_pace 48 = .ok (.ldiv, 1) := by decide +kernel
theorem dX3_pace_49 : decode cX3_pace 49 = .ok (.lstore 6, 2) := by decide +kernel
theorem dX3_pace_51 : decode cX3_pace 51 = .ok (.ldc2_w 115, 3) := by decide +kernel
theorem dX3_pace_54 : decode cX3_pace 54 = .ok (.lload_n 2, 1) := by decide +kernel
theorem dX3_pace_55 : decode cX3_pace 55 = .ok (.lload 4, 2) := by decide +kernel
theorem dX3_pace_57 : decode cX3_pace 57 = .ok (.lrem, 1) := by decide +kernel
theorem dX3_pace_58 : decode cX3_pace 58 = .ok (.lmul, 1) := by decide +kernel
theorem dX3_pace_59 : decode cX3_pace 59 = .ok (.lload 4, 2) := by decide +kernel
theorem dX3_pace_61 : decode cX3_pace 61 = .ok (.lcmp, 1) := by decide +kernel
theorem dX3_pace_62 : decode cX3_pace 62 = .ok (.ifCond .le 10, 3) := by decide +kernel
theorem dX3_pace_65 : decode cX3_pace 65 = .ok (.lload 6, 2) := by decide +kernel
theorem dX3_pace_67 : decode cX3_pace 67 = .ok (.lconst 1, 1) := by decide +kernel
theorem dX3_pace_68 : decode cX3_pace 68 = .ok (.ladd, 1) := by decide +kernel
theorem dX3_pace_69 : decode cX3_pace 69 = .ok (.goto 5, 3) := by decide +kernel
theorem dX3_pace_72 : decode cX3_pace 72 = .ok (.lload 6, 2) := by decide +kernel
theorem dX3_pace_74 : decode cX3_pace 74 = .ok (.lreturn, 1) := by decide +kernel
theorem dX3_isWithin_0 : decode cX3_isWithin 0 = .ok (.iload_n 0, 1) := by decide +kernel
theorem dX3_isWithin_1 : decode cX3_isWithin 1 = .ok (.iload_n 1, 1) := by decide +kernel
theorem dX3_isWithin_2 : decode cX3_isWithin 2 = .ok (.if_icmp .lt 12, 3) := by decide +kernel
theorem dX3_isWithin_5 : decode cX3_isWithin 5 = .ok (.iload_n 0, 1) := by decide +kernel
theorem dX3_isWithin_6 : decode cX3_isWithin 6 = .ok (.iload_n 2, 1) := by decide +kernel
theorem dX3_isWithin_7 : decode cX3_isWithin 7 = .ok (.if_icmp .gt 7, 3) := by decide +kernel
theorem dX3_isWithin_10 : decode cX3_isWithin 10 = .ok (.iconst 1, 1) := by decide +kernel
theorem dX3_isWithin_11 : decode cX3_isWithin 11 = .ok (.goto 4, 3) := by decide +kernel
theorem dX3_isWithin_14 : decode cX3_isWithin 14 = .ok (.iconst 0, 1) := by decide +kernel
theorem dX3_isWithin_15 : decode cX3_isWithin 15 = .ok (.ireturn, 1) := by decide +kernel
set_option maxRecDepth 20000 in
theorem ggX3_beginOf_X1_unitsAhead : GoodIn wsX3_beginOf wsX1_unitsAhead := goodIn_r _ [7, 8, 9, 10, 6, 11, 12, 13, 14, 15, 16, 17, 18, 19, 20, 21, 22, 23, 24, 25, 26, 27, 28, 29, 30, 31, 32, 33, 34, 35, 36, 37, 49, 50, 51, 52, 53, 54] (by decide +kernel) (by decide +kernel)
set_option maxRecDepth 20000 in
theorem gX3_beginOf_X1_unitsAhead : GoodIn wsX3_beginOf (wsV RX3 117 RX1 yX1_unitsAhead wsX1_unitsAhead) := goodIn_app (goodIn_of _ (by decide +kernel)) ggX3_beginOf_X1_unitsAhead
set_option maxRecDepth 20000 in
theorem ggX3_beginOf_X0_unitsUpTo : GoodIn wsX3_beginOf wsX0_unitsUpTo := goodIn_r _ [42, 43, 44, 45, 55, 56, 57] (by decide +kernel) (by decide +kernel)
set_option maxRecDepth 20000 in
theorem gX3_beginOf_X0_unitsUpTo : GoodIn wsX3_beginOf (wsV RX3 120 RX0 yX0_unitsUpTo wsX0_unitsUpTo) := goodIn_app (goodIn_of _ (by decide +kernel)) ggX3_beginOf_X0_unitsUpTo
theorem dX3_beginOf_0 : decode cX3_beginOf 0 = .ok (.aload_n 0, 1) := by decide +kernel
theorem dX3_beginOf_1 : decode cX3_beginOf 1 = .ok (.getfield 10, 3) := by decide +kernel
theorem dX3_beginOf_4 : decode cX3_beginOf 4 = .ok (.iload_n 1, 1) := by decide +kernel
theorem dX3_beginOf_5 : decode cX3_beginOf 5 = .ok (.invokevirtual 117, 3) := by decide +kernel
theorem dX3_beginOf_8 : decode cX3_beginOf 8 = .ok (.aload_n 0, 1) := by decide +kernel
theorem dX3_beginOf_9 : decode cX3_beginOf 9 = .ok (.getfield 19, 3) := by decide +kernel
theorem dX3_beginOf_12 : decode cX3_beginOf 12 = .ok (.iload_n 1, 1) := by decide +kernel
theorem dX3_beginOf_13 : decode cX3_beginOf 13 = .ok (.invokevirtual 120, 3) := by decide +kernel
theorem dX3_beginOf_16 : decode cX3_beginOf 16 = .ok (.ladd, 1) := by decide +kernel
theorem dX3_beginOf_17 : decode cX3_beginOf 17 = .ok (.lreturn, 1) := by decide +kernel
set_option maxRecDepth 20000 in
theorem ggX3_framesAt_X3_beginOf : GoodIn wsX3_framesAt wsX3_beginOf := goodIn_r _ [6, 7, 8, 9, 10, 11, 12, 13, 14, 15, 16, 17, 18, 19, 20, 21, 22, 23, 24, 25, 26, 27, 28, 29, 30, 31, 32, 33, 5, 34, 35, 36, 37, 38, 39, 40, 41, 42, 43, 44, 45, 46, 47, 48, 49, 50, 51, 52, 53, 54, 55, 56, 57, 58, 59, 60, 61, 62] (by decide +kernel) (by decide +kernel)
set_option maxRecDepth 20000 in
theorem gX3_framesAt_X3_beginOf : GoodIn wsX3_framesAt (wsV RX3 74 RX3 yX3_beginOf wsX3_beginOf) := goodIn_app (goodIn_of _ (by decide +kernel)) ggX3_framesAt_X3_beginOf
theorem dX3_framesAt_0 : decode cX3_framesAt 0 = .ok (.aload_n 0, 1) := by decide +kernel
theorem dX3_framesAt_1 : decode cX3_framesAt 1 = .ok (.iload_n 1, 1) := by decide +kernel
theorem dX3_framesAt_2 : decode cX3_framesAt 2 = .ok (.invokevirtual 74, 3) := by decide +kernel
theorem dX3_framesAt_5 : decode cX3_framesAt 5 = .ok (.iload_n 2, 1) := by decide +kernel
theorem dX3_framesAt_6 : decode cX3_framesAt 6 = .ok (.i2l, 1) := by decide +kernel
theorem dX3_framesAt_7 : decode cX3_framesAt 7 = .ok (.lmul, 1) := by decide +kernel
theorem dX3_framesAt_8 : decode cX3_framesAt 8 = .ok (.ldc2_w 87, 3) := by decide +kernel
theorem dX3_framesAt_11 : decode cX3_framesAt 11 = .ok (.ldiv, 1) := by decide +kernel
theorem dX3_framesAt_12 : decode cX3_framesAt 12 = .ok (.lreturn, 1) := by decide +kernel
set_option maxRecDepth 20000 in
theorem ggX3_lastBegun_X3_beginOf : GoodIn wsX3_lastBegun wsX3_beginOf := goodIn_r _ [6, 7, 8, 9, 10, 11, 12, 13, 14, 15, 16, 17, 18, 19, 20, 21, 22, 23, 24, 25, 26, 27, 28, 29, 30, 31, 32, 33, 5, 34, 35, 36, 37, 38, 39, 40, 41, 42, 43, 44, 45, 46, 47, 48, 49, 50, 56, 57, 58, 59, 60, 61, 62, 63, 64, 65, 66, 67] (by decide +kernel) (by decide +kernel)
set_option maxRecDepth 20000 in
theorem gX3_lastBegun_X3_beginOf : GoodIn wsX3_lastBegun (wsV RX3 74 RX3 yX3_beginOf wsX3_beginOf) := goodIn_app (goodIn_of _ (by decide +kernel)) ggX3_lastBegun_X3_beginOf
set_option maxRecDepth 20000 in
theorem ggX3_lastBegun_X3_firstBeginningFrom : GoodIn wsX3_lastBegun wsX3_firstBeginningFrom := goodIn_r _ [54, 55, 2, 3, 4, 5, 6, 7, 8, 9, 10, 11, 12, 13, 14, 15, 16, 17, 18, 19, 20, 21, 22, 23, 24, 25, 26, 27, 28, 29, 30, 31, 32, 33, 34, 35, 36, 37, 38, 39, 40, 41, 42, 43, 44, 45, 46, 47, 48, 49, 50, 56, 57, 58, 59, 60, 61, 62, 63, 64, 65, 66, 67] (by decide +kernel) (by decide +kernel)
set_option maxRecDepth 20000 in
theorem gX3_lastBegun_X3_firstBeginningFrom : GoodIn wsX3_lastBegun (wsV RX3 89 RX3 yX3_firstBeginningFrom wsX3_firstBeginningFrom) := goodIn_app (goodIn_of _ (by decide +kernel)) ggX3_lastBegun_X3_firstBeginningFrom
theorem dX3_lastBegun_0 : decode cX3_lastBegun 0 = .ok (.lload_n 1, 1) := by decide +kernel
theorem dX3_lastBegun_1 : decode cX3_lastBegun 1 = .ok (.aload_n 0, 1) := by decide +kernel
theorem dX3_lastBegun_2 : decode cX3_lastBegun 2 = .ok (.ldc 35, 2) := by decide +kernel
theorem dX3_lastBegun_4 : decode cX3_lastBegun 4 = .ok (.invokevirtual 74, 3) := by decide +kernel
theorem dX3_lastBegun_7 : decode cX3_lastBegun 7 = .ok (.lcmp, 1) := by decide +kernel
theorem dX3_lastBegun_8 : decode cX3_lastBegun 8 = .ok (.ifCond .lt 6, 3) := by decide +kernel
theorem dX3_lastBegun_11 : decode cX3_lastBegun 11 = .ok (.ldc 35, 2) := by decide +kernel
theorem dX3_lastBegun_13 : decode cX3_lastBegun 13 = .ok (.ireturn, 1) := by decide +kernel
theorem dX3_lastBegun_14 : decode cX3_lastBegun 14 = .ok (.aload_n 0, 1) := by decide +kernel
theorem dX3_lastBegun_15 : decode cX3_lastBegun 15 = .ok (.lload_n 1, 1) := by decide +kernel
theorem dX3_lastBegun_16 : decode cX3_lastBegun 16 = .ok (.lconst 1, 1) := by decide +kernel
theorem dX3_lastBegun_17 : decode cX3_lastBegun 17 = .ok (.ladd, 1) := by decide +kernel
theorem dX3_lastBegun_18 : decode cX3_lastBegun 18 = .ok (.invokevirtual 89, 3) := by decide +kernel
theorem dX3_lastBegun_21 : decode cX3_lastBegun 21 = .ok (.istore_n 3, 1) := by decide +kernel
theorem dX3_lastBegun_22 : decode cX3_lastBegun 22 = .ok (.iload_n 3, 1) := by decide +kernel
theorem dX3_lastBegun_23 : decode cX3_lastBegun 23 = .ok (.ifCond .ne 7, 3) := by decide +kernel
theorem dX3_lastBegun_26 : decode cX3_lastBegun 26 = .ok (.iconst (-1), 1) := by decide +kernel
theorem dX3_lastBegun_27 : decode cX3_lastBegun 27 = .ok (.goto 6, 3) := by decide +kernel
theorem dX3_lastBegun_30 : decode cX3_lastBegun 30 = .ok (.iload_n 3, 1) := by decide +kernel
theorem dX3_lastBegun_31 : decode cX3_lastBegun 31 = .ok (.iconst 1, 1) := by decide +kernel
theorem dX3_lastBegun_32 : decode cX3_lastBegun 32 = .ok (.isub, 1) := by decide +kernel
theorem dX3_lastBegun_33 : decode cX3_lastBegun 33 = .ok (.ireturn, 1) := by decide +kernel
set_option maxRecDepth 20000 in
theorem ggX3_firstBeginningFrom_X3_beginOf : GoodIn wsX3_firstBeginningFrom wsX3_beginOf := goodIn_r _ [6, 7, 8, 9, 10, 11, 12, 13, 14, 15, 16, 17, 18, 19, 20, 21, 22, 23, 24, 25, 26, 27, 28, 29, 30, 31, 32, 33, 5, 34, 35, 36, 37, 38, 39, 40, 41, 42, 43, 44, 45, 46, 47, 48, 49, 50, 51, 52, 53, 54, 55, 56, 57, 58, 59, 60, 61, 62] (by decide +kernel) (by decide +kernel)
set_option maxRecDepth 20000 in
theorem gX3_firstBeginningFrom_X3_beginOf : GoodIn wsX3_firstBeginningFrom (wsV RX3 74 RX3 yX3_beginOf wsX3_beginOf) := goodIn_app (goodIn_of _ (by decide +kernel)) ggX3_firstBeginningFrom_X3_beginOf
theorem dX3_firstBeginningFrom_0 : decode cX3_firstBeginningFrom 0 = .ok (.iconst 0, 1) := by decide +kernel
theorem dX3_firstBeginningFrom_1 : decode cX3_firstBeginningFrom 1 = .ok (.istore_n 3, 1) := by decide +kernel
theorem dX3_firstBeginningFrom_2 : decode cX3_firstBeginningFrom 2 = .ok (.ldc 123, 2) := by decide +kernel
theorem dX3_firstBeginningFrom_4 : decode cX3_firstBeginningFrom 4 = .ok (.istore 4, 2) := by decide +kernel
theorem dX3_firstBeginningFrom_6 : decode cX3_firstBeginningFrom 6 = .ok (.iconst 0, 1) := by decide +kernel
theorem dX3_firstBeginningFrom_7 : decode cX3_firstBeginningFrom 7 = .ok (.istore 5, 2) := by decide +kernel
theorem dX3_firstBeginningFrom_9 : decode cX3_firstBeginningFrom 9 = .ok (.iload 5, 2) := by decide +kernel
theorem dX3_firstBeginningFrom_11 : decode cX3_firstBeginningFrom 11 = .ok (.sipush 200, 3) := by decide +kernel
theorem dX3_firstBeginningFrom_14 : decode cX3_firstBeginningFrom 14 = .ok (.if_icmp .ge 46, 3) := by decide +kernel
theorem dX3_firstBeginningFrom_17 : decode cX3_firstBeginningFrom 17 = .ok (.iload_n 3, 1) := by decide +kernel
theorem dX3_firstBeginningFrom_18 : decode cX3_firstBeginningFrom 18 = .ok (.iload 4, 2) := by decide +kernel
theorem dX3_firstBeginningFrom_20 : decode cX3_firstBeginningFrom 20 = .ok (.if_icmp .ge 40, 3) := by decide +kernel
theorem dX3_firstBeginningFrom_23 : decode cX3_firstBeginningFrom 23 = .ok (.iload_n 3, 1) := by decide +kernel
theorem dX3_firstBeginningFrom_24 : decode cX3_firstBeginningFrom 24 = .ok (.iload 4, 2) := by decide +kernel
theorem dX3_firstBeginningFrom_26 : decode cX3_firstBeginningFrom 26 = .ok (.iadd, 1) := by decide +kernel
theorem dX3_firstBeginningFrom_27 : decode cX3_firstBeginningFrom 27 = .ok (.iconst 2, 1) := by decide +kernel
theorem dX3_firstBeginningFrom_28 : decode cX3_firstBeginningFrom 28 = .ok (.idiv, 1) := by decide +kernel
theorem dX3_firstBeginningFrom_29 : decode cX3_firstBeginningFrom 29 = .ok (.istore 6, 2) := by decide +kernel
theorem dX3_firstBeginningFrom_31 : decode cX3_firstBeginningFrom 31 = .ok (.aload_n 0, 1) := by decide +kernel
theorem dX3_firstBeginningFrom_32 : decode cX3_firstBeginningFrom 32 = .ok (.iload 6, 2) := by decide +kernel
theorem dX3_firstBeginningFrom_34 : decode cX3_firstBeginningFrom 34 = .ok (.invokevirtual 74, 3) := by decide +kernel
theorem dX3_firstBeginningFrom_37 : decode cX3_firstBeginningFrom 37 = .ok (.lload_n 1, 1) := by decide +kernel
theorem dX3_firstBeginningFrom_38 : decode cX3_firstBeginningFrom 38 = .ok (.lcmp, 1) := by decide +kernel
theorem dX3_firstBeginningFrom_39 : decode cX3_firstBeginningFrom 39 = .ok (.ifCond .lt 10, 3) := by decide +kernel
theorem dX3_firstBeginningFrom_42 : decode cX3_firstBeginningFrom 42 = .ok (.iload 6, 2) := by decide +kernel
theorem dX3_firstBeginningFrom_44 : decode cX3_firstBeginningFrom 44 = .ok (.istore 4, 2) := by decide +kernel
theorem dX3_firstBeginningFrom_46 : decode cX3_firstBeginningFrom 46 = .ok (.goto 8, 3) := by decide +kernel
theorem dX3_firstBeginningFrom_49 : decode cX3_firstBeginningFrom 49 = .ok (.iload 6, 2) := by decide +kernel
theorem dX3_firstBeginningFrom_51 : decode cX3_firstBeginningFrom 51 = .ok (.iconst 1, 1) := by decide +kernel
theorem dX3_firstBeginningFrom_52 : decode cX3_firstBeginningFrom 52 = .ok (.iadd, 1) := by decide +kernel
theorem dX3_firstBeginningFrom_53 : decode cX3_firstBeginningFrom 53 = .ok (.istore_n 3, 1) := by decide +kernel
theorem dX3_firstBeginningFrom_54 : decode cX3_firstBeginningFrom 54 = .ok (.iinc 5 1, 3) := by decide +kernel
theorem dX3_firstBeginningFrom_57 : decode cX3_firstBeginningFrom 57 = .ok (.goto (-48), 3) := by decide +kernel
theorem dX3_firstBeginningFrom_60 : decode cX3_firstBeginningFrom 60 = .ok (.iload_n 3, 1) := by decide +kernel
theorem dX3_firstBeginningFrom_61 : decode cX3_firstBeginningFrom 61 = .ok (.ireturn, 1) := by decide +kernel
theorem dX3_commonDivisor_0 : decode cX3_commonDivisor 0 = .ok (.lload_n 0, 1) := by decide +kernel
theorem dX3_commonDivisor_1 : decode cX3_commonDivisor 1 = .ok (.lstore 4, 2) := by decide +kernel
theorem dX3_commonDivisor_3 : decode cX3_commonDivisor 3 = .ok (.lload_n 2, 1) := by decide +kernel
theorem dX3_commonDivisor_4 : decode cX3_commonDivisor 4 = .ok (.lstore 6, 2) := by decide +kernel
theorem dX3_commonDivisor_6 : decode cX3_commonDivisor 6 = .ok (.iconst 0, 1) := by decide +kernel
theorem dX3_commonDivisor_7 : decode cX3_commonDivisor 7 = .ok (.istore 8, 2) := by decide +kernel
theorem dX3_commonDivisor_9 : decode cX3_commonDivisor 9 = .ok (.iload 8, 2) := by decide +kernel
theorem dX3_commonDivisor_11 : decode cX3_commonDivisor 11 = .ok (.sipush 200, 3) := by decide +kernel
theorem dX3_commonDivisor_14 : decode cX3_commonDivisor 14 = .ok (.if_icmp .ge 31, 3) := by decide +kernel
theorem dX3_commonDivisor_17 : decode cX3_commonDivisor 17 = .ok (.lload 6, 2) := by decide +kernel
theorem dX3_commonDivisor_19 : decode cX3_commonDivisor 19 = .ok (.lconst 0, 1) := by decide +kernel
theorem dX3_commonDivisor_20 : decode cX3_commonDivisor 20 = .ok (.lcmp, 1) := by decide +kernel
theorem dX3_commonDivisor_21 : decode cX3_commonDivisor 21 = .ok (.ifCond .le 24, 3) := by decide +kernel
theorem dX3_commonDivisor_24 : decode cX3_commonDivisor 24 = .ok (.lload 4, 2) := by decide +kernel
theorem dX3_commonDivisor_26 : decode cX3_commonDivisor 26 = .ok (.lload 6, 2) := by decide +kernel
theorem dX3_commonDivisor_28 : decode cX3_commonDivisor 28 = .ok (.lrem, 1) := by decide +kernel
theorem dX3_commonDivisor_29 : decode cX3_commonDivisor 29 = .ok (.lstore 9, 2) := by decide +kernel
theorem dX3_commonDivisor_31 : decode cX3_commonDivisor 31 = .ok (.lload 6, 2) := by decide +kernel
theorem dX3_commonDivisor_33 : decode cX3_commonDivisor 33 = .ok (.lstore 4, 2) := by decide +kernel
theorem dX3_commonDivisor_35 : decode cX3_commonDivisor 35 = .ok (.lload 9, 2) := by decide +kernel
theorem dX3_commonDivisor_37 : decode cX3_commonDivisor 37 = .ok (.lstore 6, 2) := by decide +kernel
theorem dX3_commonDivisor_39 : decode cX3_commonDivisor 39 = .ok (.iinc 8 1, 3) := by decide +kernel
theorem dX3_commonDivisor_42 : decode cX3_commonDivisor 42 = .ok (.goto (-33), 3) := by decide +kernel
theorem dX3_commonDivisor_45 : decode cX3_commonDivisor 45 = .ok (.lload 4, 2) := by decide +kernel
theorem dX3_commonDivisor_47 : decode cX3_commonDivisor 47 = .ok (.lconst 1, 1) := by decide +kernel
theorem dX3_commonDivisor_48 : decode cX3_commonDivisor 48 = .ok (.invokestatic 124, 3) := by decide +kernel
theorem dX3_commonDivisor_51 : decode cX3_commonDivisor 51 = .ok (.lreturn, 1) := by decide +kernel
set_option maxRecDepth 20000 in
theorem ggX3_sumOfQuotients_J9_floorDiv_f86c9 : GoodIn wsX3_sumOfQuotients wsJ9_floorDiv_f86c9 := goodIn_r _ [5] (by decide +kernel) (by decide +kernel)
set_option maxRecDepth 20000 in
theorem gX3_sumOfQuotients_J9_floorDiv_f86c9 : GoodIn wsX3_sumOfQuotients (va_wsS RX3 129 yJ9_floorDiv_f86c9 wsJ9_floorDiv_f86c9) := goodIn_app (goodIn_of _ (by decide +kernel)) ggX3_sumOfQuotients_J9_floorDiv_f86c9
set_option maxRecDepth 20000 in
theorem ggX3_sumOfQuotients_J9_floorMod_f86c9 : GoodIn wsX3_sumOfQuotients wsJ9_floorMod_f86c9 := goodIn_r _ [8] (by decide +kernel) (by decide +kernel)
set_option maxRecDepth 20000 in
theorem gX3_sumOfQuotients_J9_floorMod_f86c9 : GoodIn wsX3_sumOfQuotients (va_wsS RX3 132 yJ9_floorMod_f86c9 wsJ9_floorMod_f86c9) := goodIn_app (goodIn_of _ (by decide +kernel)) ggX3_sumOfQuotients_J9_floorMod_f86c9
theorem dX3_sumOfQuotients_0 : decode cX3_sumOfQuotients 0 = .ok (.iload_n 0, 1) := by decide +kernel
theorem dX3_sumOfQuotients_1 : decode cX3_sumOfQuotients 1 = .ok (.i2l, 1) := by decide +kernel
theorem dX3_sumOfQuotients_2 : decode cX3_sumOfQuotients 2 = .ok (.lstore_n 3, 1) := by decide +kernel
theorem dX3_sumOfQuotients_3 : decode cX3_sumOfQuotients 3 = .ok (.iload_n 1, 1) := by decide +kernel
theorem dX3_sumOfQuotients_4 : decode cX3_sumOfQuotients 4 = .ok (.i2l, 1) := by decide +kernel
theorem dX3_sumOfQuotients_5 : decode cX3_sumOfQuotients 5 = .ok (.lstore 5, 2) := by decide +kernel
theorem dX3_sumOfQuotients_7 : decode cX3_sumOfQuotients 7 = .ok (.iload_n 2, 1) := by decide +kernel
theorem dX3_sumOfQuotients_8 : decode cX3_sumOfQuotients 8 = .ok (.i2l, 1) := by decide +kernel
theorem dX3_sumOfQuotients_9 : decode cX3_sumOfQuotients 9 = .ok (.lstore 7, 2) := by decide +kernel
theorem dX3_sumOfQuotients_11 : decode cX3_sumOfQuotients 11 = .ok (.lconst 0, 1) := by decide +kernel
theorem dX3_sumOfQuotients_12 : decode cX3_sumOfQuotients 12 = .ok (.lstore 9, 2) := by decide +kernel
theorem dX3_sumOfQuotients_14 : decode cX3_sumOfQuotients 14 = .ok (.lconst 0, 1) := by decide +kernel
theorem dX3_sumOfQuotients_15 : decode cX3_sumOfQuotients 15 = .ok (.lstore 11, 2) := by decide +kernel
theorem dX3_sumOfQuotients_17 : decode cX3_sumOfQuotients 17 = .ok (.iconst 0, 1) := by decide +kernel
theorem dX3_sumOfQuotients_18 : decode cX3_sumOfQuotients 18 = .ok (.istore 13, 2) := by decide +kernel
theorem dX3_sumOfQuotients_20 : decode cX3_sumOfQuotients 20 = .ok (.iload 13, 2) := by decide +kernel
theorem dX3_sumOfQuotients_22 : decode cX3_sumOfQuotients 22 = .ok (.sipush 200, 3) := by decide +kernel
theorem dX3_sumOfQuotients_25 : decode cX3_sumOfQuotients 25 = .ok (.if_icmp .ge 110, 3) := by decide +kernel
theorem dX3_sumOfQuotients_28 : decode cX3_sumOfQuotients 28 = .ok (.lload 7, 2) := by decide +kernel
theorem dX3_sumOfQuotients_30 : decode cX3_sumOfQuotients 30 = .ok (.lconst 0, 1) := by decide +kernel
theorem dX3_sumOfQuotients_31 : decode cX3_sumOfQuotients 31 = .ok (.lcmp, 1) := by decide +kernel
theorem dX3_sumOfQuotients_32 : decode cX3_sumOfQuotients 32 = .ok (.ifCond .le 103, 3) := by decide +kernel
theorem dX3_sumOfQuotients_35 : decode cX3_sumOfQuotients 35 = .ok (.lload_n 3, 1) := by decide +kernel
theorem dX3_sumOfQuotients_36 : decode cX3_sumOfQuotients 36 = .ok (.lconst 0, 1) := by decide +kernel
theorem dX3_sumOfQuotients_37 : decode cX3_sumOfQuotients 37 = .ok (.lcmp, 1) := by decide +kernel
theorem dX3_sumOfQuotients_38 : decode cX3_sumOfQuotients 38 = .ok (.ifCond .le 97, 3) := by decide +kernel
theorem dX3_sumOfQuotients_41 : decode cX3_sumOfQuotients 41 = .ok (.lload 11, 2) := by decide +kernel
theorem dX3_sumOfQuotients_43 : decode cX3_sumOfQuotients 43 = .ok (.lload_n 3, 1) := by decide +kernel
theorem dX3_sumOfQuotients_44 : decode cX3_sumOfQuotients 44 = .ok (.lload_n 3, 1) := by decide +kernel
theorem dX3_sumOfQuotients_45 : decode cX3_sumOfQuotients 45 = .ok (.lconst 1, 1) := by decide +kernel
theorem dX3_sumOfQuotients_46 : decode cX3_sumOfQuotients 46 = .ok (.lsub, 1) := by decide +kernel
theorem dX3_sumOfQuotients_47 : decode cX3_sumOfQuotients 47 = .ok (.lmul, 1) := by decide +kernel
theorem dX3_sumOfQuotients_48 : decode cX3_sumOfQuotients 48 = .ok (.ldc2_w 115, 3) := by decide +kernel
theorem dX3_sumOfQuotients_51 : decode cX3_sumOfQuotients 51 = .ok (.ldiv, 1) := by decide +kernel
theorem dX3_sumOfQuotients_52 : decode cX3_sumOfQuotients 52 = .ok (.lload 5, 2) := by decide +kernel
theorem dX3_sumOfQuotients_54 : decode cX3_sumOfQuotients 54 = .ok (.lload 7, 2) := by decide +kernel
theorem dX3_sumOfQuotients_56 : decode cX3_sumOfQuotients 56 = .ok (.invokestatic 129, 3) := by decide +kernel
theorem dX3_sumOfQuotients_59 : decode cX3_sumOfQuotients 59 = .ok (.lmul, 1) := by decide +kernel
theorem dX3_sumOfQuotients_60 : decode cX3_sumOfQuotients 60 = .ok (.ladd, 1) := by decide +kernel
theorem dX3_sumOfQuotients_61 : decode cX3_sumOfQuotients 61 = .ok (.lstore 11, 2) := by decide +kernel
theorem dX3_sumOfQuotients_63 : decode cX3_sumOfQuotients 63 = .ok (.lload 11, 2) := by decide +kernel
theorem dX3_sumOfQuotients_65 : decode cX3_sumOfQuotients 65 = .ok (.lload_n 3, 1) := by decide +kernel
theorem dX3_sumOfQuotients_66 : decode cX3_sumOfQuotients 66 = .ok (.lload 9, 2) := by decide +kernel
theorem dX3_sumOfQuotients_68 : decode cX3_sumOfQuotients 68 = .ok (.lload 7, 2) := by decide +kernel
theorem dX3_sumOfQuotients_70 : decode cX3_sumOfQuotients 70 = .ok (.invokestatic 129, 3) := by decide +kernel
theorem dX3_sumOfQuotients_73 : decode cX3_sumOfQuotients 73 = .ok (.lmul, 1) := by decide +kernel
theorem dX3_sumOfQuotients_74 : decode cX3_sumOfQuotients 74 = .ok (.ladd, 1) := by decide +kernel
theorem dX3_sumOfQuotients_75 : decode cX3_sumOfQuotients 75 = .ok (.lstore 11, 2) := by decide +kernel
theorem dX3_sumOfQuotients_77 : decode cX3_sumOfQuotients 77 = .ok (.lload 5, 2) := by decide +kernel
theorem dX3_sumOfQuotients_79 : decode cX3_sumOfQuotients 79 = .ok (.lload 7, 2) := by decide +kernel
theorem dX3_sumOfQuotients_81 : decode cX3_sumOfQuotients 81 = .ok (.invokestatic 132, 3) := by decide +kernel
theorem dX3_sumOfQuotients_84 : decode cX3_sumOfQuotients 84 = .ok (.lstore 5, 2) := by decide +kernel
theorem dX3_sumOfQuotients_86 : decode cX3_sumOfQuotients 86 = .ok (.lload 9, 2) := by decide +kernel
theorem dX3_sumOfQuotients_88 : decode cX3_sumOfQuotients 88 = .ok (.lload 7, 2) := by decide +kernel
theorem dX3_sumOfQuotients_90 : decode cX3_sumOfQuotients 90 = .ok (.invokestatic 132, 3) := by decide +kernel
theorem dX3_sumOfQuotients_93 : decode cX3_sumOfQuotients 93 = .ok (.lstore 9, 2) := by decide +kernel
theorem dX3_sumOfQuotients_95 : decode cX3_sumOfQuotients 95 = .ok (.lload 5, 2) := by decide +kernel
theorem dX3_sumOfQuotients_97 : decode cX3_sumOfQuotients 97 = .ok (.lload_n 3, 1) := by decide +kernel
theorem dX3_sumOfQuotients_98 : decode cX3_sumOfQuotients 98 = .ok (.lmul, 1) := by decide +kernel
theorem dX3_sumOfQuotients_99 : decode cX3_sumOfQuotients 99 = .ok (.lload 9, 2) := by decide +kernel
theorem dX3_sumOfQuotients_101 : decode cX3_sumOfQuotients 101 = .ok (.ladd, 1) := by decide +kernel
theorem dX3_sumOfQuotients_102 : decode cX3_sumOfQuotients 102 = .ok (.lstore 14, 2) := by decide +kernel
theorem dX3_sumOfQuotients_104 : decode cX3_sumOfQuotients 104 = .ok (.lload 14, 2) := by decide +kernel
theorem dX3_sumOfQuotients_106 : decode cX3_sumOfQuotients 106 = .ok (.lload 7, 2) := by decide +kernel
theorem dX3_sumOfQuotients_108 : decode cX3_sumOfQuotients 108 = .ok (.ldiv, 1) := by decide +kernel
theorem dX3_sumOfQuotients_109 : decode cX3_sumOfQuotients 109 = .ok (.lstore_n 3, 1) := by decide +kernel
theorem dX3_sumOfQuotients_110 : decode cX3_sumOfQuotients 110 = .ok (.lload 14, 2) := by decide +kernel
theorem dX3_sumOfQuotients_112 : decode cX3_sumOfQuotients 112 = .ok (.lload 7, 2) := by decide +kernel
theorem dX3_sumOfQuotients_114 : decode cX3_sumOfQuotients 114 = .ok (.lrem, 1) := by decide +kernel
theorem dX3_sumOfQuotients_115 : decode cX3_sumOfQuotients 115 = .ok (.lstore 9, 2) := by decide +kernel
theorem dX3_sumOfQuotients_117 : decode cX3_sumOfQuotients 117 = .ok (.lload 7, 2) := by decide +kernel
theorem dX3_sumOfQuotients_119 : decode cX3_sumOfQuotients 119 = .ok (.lstore 16, 2) := by decide +kernel
theorem dX3_sumOfQuotients_121 : decode cX3_sumOfQuotients 121 = .ok (.lload 5, 2) := by decide +kernel
theorem dX3_sumOfQuotients_123 : decode cX3_sumOfQuotients 123 = .ok (.lstore 7, 2) := by decide +kernel
theorem dX3_sumOfQuotients_125 : decode cX3_sumOfQuotients 125 = .ok (.lload 16, 2) := by decide +kernel
theorem dX3_sumOfQuotients_127 : decode cX3_sumOfQuotients 127 = .ok (.lstore 5, 2) := by decide +kernel
theorem dX3_sumOfQuotients_129 : decode cX3_sumOfQuotients 129 = .ok (.iinc 13 1, 3) := by decide +kernel
theorem dX3_sumOfQuotients_132 : decode cX3_sumOfQuotients 132 = .ok (.goto (-112), 3) := by decide +kernel
theorem dX3_sumOfQuotients_135 : decode cX3_sumOfQuotients 135 = .ok (.lload 11, 2) := by decide +kernel
theorem dX3_sumOfQuotients_137 : decode cX3_sumOfQuotients 137 = .ok (.lreturn, 1) := by decide +kernel
end
section
theorem dX4_init_0 : decode cX4_init 0 = .ok (.aload_n 0, 1) := by decide +kernel
theorem dX4_init_1 : decode cX4_init 1 = .ok (.invokespecial 1, 3) := by decide +kernel
theorem dX4_init_4 : decode cX4_init 4 = .ok (.aload_n 0, 1) := by decide +kernel
theorem dX4_init_5 : decode cX4_init 5 = .ok (.bipush 40, 2) := by decide +kernel
theorem dX4_init_7 : decode cX4_init 7 = .ok (.newarray .int, 2) := by decide +kernel
theorem dX4_init_9 : decode cX4_init 9 = .ok (.putfield 7, 3) := by decide +kernel
theorem dX4_init_12 : decode cX4_init 12 = .ok (.aload_n 0, 1) := by decide +kernel
theorem dX4_init_13 : decode cX4_init 13 = .ok (.bipush 40, 2) := by decide +kernel
theorem dX4_init_15 : decode cX4_init 15 = .ok (.newarray .int, 2) := by decide +kernel
theorem dX4_init_17 : decode cX4_init 17 = .ok (.putfield 13, 3) := by decide +kernel
theorem dX4_init_20 : decode cX4_init 20 = .ok (.aload_n 0, 1) := by decide +kernel
theorem dX4_init_21 : decode cX4_init 21 = .ok (.bipush 40, 2) := by decide +kernel
theorem dX4_init_23 : decode cX4_init 23 = .ok (.newarray .int, 2) := by decide +kernel
theorem dX4_init_25 : decode cX4_init 25 = .ok (.putfield 16, 3) := by decide +kernel
theorem dX4_init_28 : decode cX4_init 28 = .ok (.aload_n 0, 1) := by decide +kernel
theorem dX4_init_29 : decode cX4_init 29 = .ok (.bipush 40, 2) := by decide +kernel
theorem dX4_init_31 : decode cX4_init 31 = .ok (.newarray .int, 2) := by decide +kernel
theorem dX4_init_33 : decode cX4_init 33 = .ok (.putfield 19, 3) := by decide +kernel
theorem dX4_init_36 : decode cX4_init 36 = .ok (.aload_n 0, 1) := by decide +kernel
theorem dX4_init_37 : decode cX4_init 37 = .ok (.bipush 20, 2) := by decide +kernel
theorem dX4_init_39 : decode cX4_init 39 = .ok (.newarray .int, 2) := by decide +kernel
theorem dX4_init_41 : decode cX4_init 41 = .ok (.putfield 22, 3) := by decide +kernel
theorem dX4_init_44 : decode cX4_init 44 = .ok (.aload_n 0, 1) := by decide +kernel
theorem dX4_init_45 : decode cX4_init 45 = .ok (.bipush 20, 2) := by decide +kernel
theorem dX4_init_47 : decode cX4_init 47 = .ok (.newarray .int, 2) := by decide +kernel
theorem dX4_init_49 : decode cX4_init 49 = .ok (.putfield 25, 3) := by decide +kernel
theorem dX4_init_52 : decode cX4_init 52 = .ok (.aload_n 0, 1) := by decide +kernel
theorem dX4_init_53 : decode cX4_init 53 = .ok (.bipush 40, 2) := by decide +kernel
theorem dX4_init_55 : decode cX4_init 55 = .ok (.newarray .long, 2) := by decide +kernel
theorem dX4_init_57 : decode cX4_init 57 = .ok (.putfield 28, 3) := by decide +kernel
theorem dX4_init_60 : decode cX4_init 60 = .ok (.aload_n 0, 1) := by decide +kernel
theorem dX4_init_61 : decode cX4_init 61 = .ok (.iconst 0, 1) := by decide +kernel
theorem dX4_init_62 : decode cX4_init 62 = .ok (.putfield 32, 3) := by decide +kernel
theorem dX4_init_65 : decode cX4_init 65 = .ok (.return_, 1) := by decide +kernel
theorem dX4_in_0 : decode cX4_in 0 = .ok (.lload_n 0, 1) := by decide +kernel
theorem dX4_in_1 : decode cX4_in 1 = .ok (.lload_n 2, 1) := by decide +kernel
theorem dX4_in_2 : decode cX4_in 2 = .ok (.lcmp, 1) := by decide +kernel
theorem dX4_in_3 : decode cX4_in 3 = .ok (.ifCond .lt 14, 3) := by decide +kernel
theorem dX4_in_6 : decode cX4_in 6 = .ok (.lload_n 0, 1) := by decide +kernel
theorem dX4_in_7 : decode cX4_in 7 = .ok (.lload 4, 2) := by decide +kernel
theorem dX4_in_9 : decode cX4_in 9 = .ok (.lcmp, 1) := by decide +kernel
theorem dX4_in_10 : decode cX4_in 10 = .ok (.ifCond .gt 7, 3) := by decide +kernel
theorem dX4_in_13 : decode cX4_in 13 = .ok (.iconst 1, 1) := by decide +kernel
theorem dX4_in_14 : decode cX4_in 14 = .ok (.goto 4, 3) := by decide +kernel
theorem dX4_in_17 : decode cX4_in 17 = .ok (.iconst 0, 1) := by decide +kernel
theorem dX4_in_18 : decode cX4_in 18 = .ok (.ireturn, 1) := by decide +kernel
theorem dX4_markAt_0 : decode cX4_markAt 0 = .ok (.iconst (-1), 1) := by decide +kernel
theorem dX4_markAt_1 : decode cX4_markAt 1 = .ok (.istore_n 2, 1) := by decide +kernel
theorem dX4_markAt_2 : decode cX4_markAt 2 = .ok (.iconst 0, 1) := by decide +kernel
theorem dX4_markAt_3 : decode cX4_markAt 3 = .ok (.istore_n 3, 1) := by decide +kernel
theorem dX4_markAt_4 : decode cX4_markAt 4 = .ok (.iload_n 3, 1) := by decide +kernel
theorem dX4_markAt_5 : decode cX4_markAt 5 = .ok (.aload_n 0, 1) := by decide +kernel
theorem dX4_markAt_6 : decode cX4_markAt 6 = .ok (.getfield 32, 3) := by decide +kernel
theorem dX4_markAt_9 : decode cX4_markAt 9 = .ok (.if_icmp .ge 25, 3) := by decide +kernel
theorem dX4_markAt_12 : decode cX4_markAt 12 = .ok (.aload_n 0, 1) := by decide +kernel
theorem dX4_markAt_13 : decode cX4_markAt 13 = .ok (.getfield 7, 3) := by decide +kernel
theorem dX4_markAt_16 : decode cX4_markAt 16 = .ok (.iload_n 3, 1) := by decide +kernel
theorem dX4_markAt_17 : decode cX4_markAt 17 = .ok (.iaload, 1) := by decide +kernel
theorem dX4_markAt_18 : decode cX4_markAt 18 = .ok (.iload_n 1, 1) := by decide +kernel
theorem dX4_markAt_19 : decode cX4_markAt 19 = .ok (.if_icmp .ne 7, 3) := by decide +kernel
theorem dX4_markAt_22 : decode cX4_markAt 22 = .ok (.iload_n 3, 1) := by decide +kernel
theorem dX4_markAt_23 : decode cX4_markAt 23 = .ok (.goto 4, 3) := by decide +kernel
theorem dX4_markAt_26 : decode cX4_markAt 26 = .ok (.iload_n 2, 1) := by decide +kernel
theorem dX4_markAt_27 : decode cX4_markAt 27 = .ok (.istore_n 2, 1) := by decide +kernel
theorem dX4_markAt_28 : decode cX4_markAt 28 = .ok (.iinc 3 1, 3) := by decide +kernel
theorem dX4_markAt_31 : decode cX4_markAt 31 = .ok (.goto (-27), 3) := by decide +kernel
theorem dX4_markAt_34 : decode cX4_markAt 34 = .ok (.iload_n 2, 1) := by decide +kernel
theorem dX4_markAt_35 : decode cX4_markAt 35 = .ok (.ireturn, 1) := by decide +kernel
theorem dX4_isWithin_0 : decode cX4_isWithin 0 = .ok (.iconst 0, 1) := by decide +kernel
theorem dX4_isWithin_1 : decode cX4_isWithin 1 = .ok (.istore_n 3, 1) := by decide +kernel
theorem dX4_isWithin_2 : decode cX4_isWithin 2 = .ok (.iconst 0, 1) := by decide +kernel
theorem dX4_isWithin_3 : decode cX4_isWithin 3 = .ok (.istore 4, 2) := by decide +kernel
theorem dX4_isWithin_5 : decode cX4_isWithin 5 = .ok (.iload 4, 2) := by decide +kernel
theorem dX4_isWithin_7 : decode cX4_isWithin 7 = .ok (.aload_n 0, 1) := by decide +kernel
theorem dX4_isWithin_8 : decode cX4_isWithin 8 = .ok (.getfield 32, 3) := by decide +kernel
theorem dX4_isWithin_11 : decode cX4_isWithin 11 = .ok (.if_icmp .ge 55, 3) := by decide +kernel
theorem dX4_isWithin_14 : decode cX4_isWithin 14 = .ok (.iload_n 3, 1) := by decide +kernel
theorem dX4_isWithin_15 : decode cX4_isWithin 15 = .ok (.ifCond .ne 39, 3) := by decide +kernel
theorem dX4_isWithin_18 : decode cX4_isWithin 18 = .ok (.iload 4, 2) := by decide +kernel
theorem dX4_isWithin_20 : decode cX4_isWithin 20 = .ok (.iload_n 2, 1) := by decide +kernel
theorem dX4_isWithin_21 : decode cX4_isWithin 21 = .ok (.if_icmp .eq 37, 3) := by decide +kernel
theorem dX4_isWithin_24 : decode cX4_isWithin 24 = .ok (.iload_n 1, 1) := by decide +kernel
theorem dX4_isWithin_25 : decode cX4_isWithin 25 = .ok (.aload_n 0, 1) := by decide +kernel
theorem dX4_isWithin_26 : decode cX4_isWithin 26 = .ok (.getfield 7, 3) := by decide +kernel
theorem dX4_isWithin_29 : decode cX4_isWithin 29 = .ok (.iload 4, 2) := by decide +kernel
theorem dX4_isWithin_31 : decode cX4_isWithin 31 = .ok (.iaload, 1) := by decide +kernel
theorem dX4_isWithin_32 : decode cX4_isWithin 32 = .ok (.if_icmp .le 26, 3) := by decide +kernel
theorem dX4_isWithin_35 : decode cX4_isWithin 35 = .ok (.iload_n 1, 1) := by decide +kernel
theorem dX4_isWithin_36 : decode cX4_isWithin 36 = .ok (.aload_n 0, 1) := by decide +kernel
theorem dX4_isWithin_37 : decode cX4_isWithin 37 = .ok (.getfield 7, 3) := by decide +kernel
theorem dX4_isWithin_40 : decode cX4_isWithin 40 = .ok (.iload 4, 2) := by decide +kernel
theorem dX4_isWithin_42 : decode cX4_isWithin 42 = .ok (.iaload, 1) := by decide +kernel
theorem dX4_isWithin_43 : decode cX4_isWithin 43 = .ok (.aload_n 0, 1) := by decide +kernel
theorem dX4_isWithin_44 : decode cX4_isWithin 44 = .ok (.getfield 13, 3) := by decide +kernel
theorem dX4_isWithin_47 : decode cX4_isWithin 47 = .ok (.iload 4, 2) := by decide +kernel
theorem dX4_isWithin_49 : decode cX4_isWithin 49 = .ok (.iaload, 1) := by decide +kernel
theorem dX4_isWithin_50 : decode cX4_isWithin 50 = .ok (.iadd, 1) := by decide +kernel
theorem dX4_isWithin_51 : decode cX4_isWithin 51 = .ok (.if_icmp .ge 7, 3) := by decide +kernel
theorem dX4_isWithin_54 : decode cX4_isWithin 54 = .ok (.iconst 1, 1) := by decide +kernel
theorem dX4_isWithin_55 : decode cX4_isWithin 55 = .ok (.goto 4, 3) := by decide +kernel
theorem dX4_isWithin_58 : decode cX4_isWithin 58 = .ok (.iconst 0, 1) := by decide +kernel
theorem dX4_isWithin_59 : decode cX4_isWithin 59 = .ok (.istore_n 3, 1) := by decide +kernel
theorem dX4_isWithin_60 : decode cX4_isWithin 60 = .ok (.iinc 4 1, 3) := by decide +kernel
theorem dX4_isWithin_63 : decode cX4_isWithin 63 = .ok (.goto (-58), 3) := by decide +kernel
theorem dX4_isWithin_66 : decode cX4_isWithin 66 = .ok (.iload_n 3, 1) := by decide +kernel
theorem dX4_isWithin_67 : decode cX4_isWithin 67 = .ok (.ireturn, 1) := by decide +kernel
theorem dX4_holdsOther_0 : decode cX4_holdsOther 0 = .ok (.iconst 0, 1) := by decide +kernel
theorem dX4_holdsOther_1 : decode cX4_holdsOther 1 = .ok (.istore_n 3, 1) := by decide +kernel
theorem dX4_holdsOther_2 : decode cX4_holdsOther 2 = .ok (.iconst 0, 1) := by decide +kernel
theorem dX4_holdsOther_3 : decode cX4_holdsOther 3 = .ok (.istore 4, 2) := by decide +kernel
theorem dX4_holdsOther_5 : decode cX4_holdsOther 5 = .ok (.iload 4, 2) := by decide +kernel
theorem dX4_holdsOther_7 : decode cX4_holdsOther 7 = .ok (.aload_n 0, 1) := by decide +kernel
theorem dX4_holdsOther_8 : decode cX4_holdsOther 8 = .ok (.getfield 32, 3) := by decide +kernel
theorem dX4_holdsOther_11 : decode cX4_holdsOther 11 = .ok (.if_icmp .ge 43, 3) := by decide +kernel
theorem dX4_holdsOther_14 : decode cX4_holdsOther 14 = .ok (.iload_n 3, 1) := by decide +kernel
theorem dX4_holdsOther_15 : decode cX4_holdsOther 15 = .ok (.ifCond .ne 27, 3) := by decide +kernel
theorem dX4_holdsOther_18 : decode cX4_holdsOther 18 = .ok (.aload_n 0, 1) := by decide +kernel
theorem dX4_holdsOther_19 : decode cX4_holdsOther 19 = .ok (.getfield 7, 3) := by decide +kernel
theorem dX4_holdsOther_22 : decode cX4_holdsOther 22 = .ok (.iload 4, 2) := by decide +kernel
theorem dX4_holdsOther_24 : decode cX4_holdsOther 24 = .ok (.iaload, 1) := by decide +kernel
theorem dX4_holdsOther_25 : decode cX4_holdsOther 25 = .ok (.iload_n 1, 1) := by decide +kernel
theorem dX4_holdsOther_26 : decode cX4_holdsOther 26 = .ok (.if_icmp .le 20, 3) := by decide +kernel
theorem dX4_holdsOther_29 : decode cX4_holdsOther 29 = .ok (.aload_n 0, 1) := by decide +kernel
theorem dX4_holdsOther_30 : decode cX4_holdsOther 30 = .ok (.getfield 7, 3) := by decide +kernel
theorem dX4_holdsOther_33 : decode cX4_holdsOther 33 = .ok (.iload 4, 2) := by decide +kernel
theorem dX4_holdsOther_35 : decode cX4_holdsOther 35 = .ok (.iaload, 1) := by decide +kernel
theorem dX4_holdsOther_36 : decode cX4_holdsOther 36 = .ok (.iload_n 1, 1) := by decide +kernel
theorem dX4_holdsOther_37 : decode cX4_holdsOther 37 = .ok (.iload_n 2, 1) := by decide +kernel
theorem dX4_holdsOther_38 : decode cX4_holdsOther 38 = .ok (.iadd, 1) := by decide +kernel
theorem dX4_holdsOther_39 : decode cX4_holdsOther 39 = .ok (.if_icmp .ge 7, 3) := by decide +kernel
theorem dX4_holdsOther_42 : decode cX4_holdsOther 42 = .ok (.iconst 1, 1) := by decide +kernel
theorem dX4_holdsOther_43 : decode cX4_holdsOther 43 = .ok (.goto 4, 3) := by decide +kernel
theorem dX4_holdsOther_46 : decode cX4_holdsOther 46 = .ok (.iconst 0, 1) := by decide +kernel
theorem dX4_holdsOther_47 : decode cX4_holdsOther 47 = .ok (.istore_n 3, 1) := by decide +kernel
theorem dX4_holdsOther_48 : decode cX4_holdsOther 48 = .ok (.iinc 4 1, 3) := by decide +kernel
theorem dX4_holdsOther_51 : decode cX4_holdsOther 51 = .ok (.goto (-46), 3) := by decide +kernel
theorem dX4_holdsOther_54 : decode cX4_holdsOther 54 = .ok (.iload_n 3, 1) := by decide +kernel
theorem dX4_holdsOther_55 : decode cX4_holdsOther 55 = .ok (.ireturn, 1) := by decide +kernel
set_option maxRecDepth 20000 in
theorem ggX4_put_X4_markAt : GoodIn wsX4_put wsX4_markAt := goodIn_r _ [10, 1, 2, 19, 20, 21, 22, 23, 24, 25, 26, 27, 28, 29] (by decide +kernel) (by decide +kernel)
set_option maxRecDepth 20000 in
theorem gX4_put_X4_markAt : GoodIn wsX4_put (wsV RX4 36 RX4 yX4_markAt wsX4_markAt) := goodIn_app (goodIn_of _ (by decide +kernel)) ggX4_put_X4_markAt
set_option maxRecDepth 20000 in
theorem ggX4_put_X4_isWithin : GoodIn wsX4_put wsX4_isWithin := goodIn_r _ [14, 1, 2, 3, 19, 20, 21, 22, 23, 24, 25, 26, 27, 28, 29] (by decide +kernel) (by decide +kernel)
set_option maxRecDepth 20000 in
theorem gX4_put_X4_isWithin : GoodIn wsX4_put (wsV RX4 40 RX4 yX4_isWithin wsX4_isWithin) := goodIn_app (goodIn_of _ (by decide +kernel)) ggX4_put_X4_isWithin
set_option maxRecDepth 20000 in
theorem ggX4_put_X4_holdsOther : GoodIn wsX4_put wsX4_holdsOther := goodIn_r _ [18, 1, 2, 19, 20, 21, 22, 23, 24, 25, 26, 27, 28, 29] (by decide +kernel) (by decide +kernel)
set_option maxRecDepth 20000 in
theorem gX4_put_X4_holdsOther : GoodIn wsX4_put (wsV RX4 44 RX4 yX4_holdsOther wsX4_holdsOther) := goodIn_app (goodIn_of _ (by decide +kernel)) ggX4_put_X4_holdsOther
theorem dX4_put_0 : decode cX4_put 0 = .ok (.aload_n 0, 1) := by decide +kernel
theorem dX4_put_1 : decode cX4_put 1 = .ok (.iload_n 1, 1) := by decide +kernel
theorem dX4_put_2 : decode cX4_put 2 = .ok (.invokevirtual 36, 3) := by decide +kernel
theorem dX4_put_5 : decode cX4_put 5 = .ok (.istore 5, 2) := by decide +kernel
theorem dX4_put_7 : decode cX4_put 7 = .ok (.aload_n 0, 1) := by decide +kernel
theorem dX4_put_8 : decode cX4_put 8 = .ok (.iload_n 1, 1) := by decide +kernel
theorem dX4_put_9 : decode cX4_put 9 = .ok (.iload 5, 2) := by decide +kernel
theorem dX4_put_11 : decode cX4_put 11 = .ok (.invokevirtual 40, 3) := by decide +kernel
theorem dX4_put_14 : decode cX4_put 14 = .ok (.ifCond .ne 12, 3) := by decide +kernel
theorem dX4_put_17 : decode cX4_put 17 = .ok (.aload_n 0, 1) := by decide +kernel
theorem dX4_put_18 : decode cX4_put 18 = .ok (.iload_n 1, 1) := by decide +kernel
theorem dX4_put_19 : decode cX4_put 19 = .ok (.iload_n 2, 1) := by decide +kernel
theorem dX4_put_20 : decode cX4_put 20 = .ok (.invokevirtual 44, 3) := by decide +kernel
theorem dX4_put_23 : decode cX4_put 23 = .ok (.ifCond .eq 6, 3) := by decide +kernel
theorem dX4_put_26 : decode cX4_put 26 = .ok (.bipush (-3), 2) := by decide +kernel
theorem dX4_put_28 : decode cX4_put 28 = .ok (.ireturn, 1) := by decide +kernel
theorem dX4_put_29 : decode cX4_put 29 = .ok (.iload 5, 2) := by decide +kernel
theorem dX4_put_31 : decode cX4_put 31 = .ok (.iconst (-1), 1) := by decide +kernel
theorem dX4_put_32 : decode cX4_put 32 = .ok (.if_icmp .ne 15, 3) := by decide +kernel
theorem dX4_put_35 : decode cX4_put 35 = .ok (.aload_n 0, 1) := by decide +kernel
theorem dX4_put_36 : decode cX4_put 36 = .ok (.getfield 32, 3) := by decide +kernel
theorem dX4_put_39 : decode cX4_put 39 = .ok (.bipush 40, 2) := by decide +kernel
theorem dX4_put_41 : decode cX4_put 41 = .ok (.if_icmp .ne 6, 3) := by decide +kernel
theorem dX4_put_44 : decode cX4_put 44 = .ok (.bipush (-4), 2) := by decide +kernel
theorem dX4_put_46 : decode cX4_put 46 = .ok (.ireturn, 1) := by decide +kernel
theorem dX4_put_47 : decode cX4_put 47 = .ok (.iload 5, 2) := by decide +kernel
theorem dX4_put_49 : decode cX4_put 49 = .ok (.iconst (-1), 1) := by decide +kernel
theorem dX4_put_50 : decode cX4_put 50 = .ok (.if_icmp .ne 19, 3) := by decide +kernel
theorem dX4_put_53 : decode cX4_put 53 = .ok (.aload_n 0, 1) := by decide +kernel
theorem dX4_put_54 : decode cX4_put 54 = .ok (.getfield 32, 3) := by decide +kernel
theorem dX4_put_57 : decode cX4_put 57 = .ok (.istore 5, 2) := by decide +kernel
theorem dX4_put_59 : decode cX4_put 59 = .ok (.aload_n 0, 1) := by decide +kernel
theorem dX4_put_60 : decode cX4_put 60 = .ok (.dup, 1) := by decide +kernel
theorem dX4_put_61 : decode cX4_put 61 = .ok (.getfield 32, 3) := by decide +kernel
theorem dX4_put_64 : decode cX4_put 64 = .ok (.iconst 1, 1) := by decide +kernel
theorem dX4_put_65 : decode cX4_put 65 = .ok (.iadd, 1) := by decide +kernel
theorem dX4_put_66 : decode cX4_put 66 = .ok (.putfield 32, 3) := by decide +kernel
theorem dX4_put_69 : decode cX4_put 69 = .ok (.aload_n 0, 1) := by decide +kernel
theorem dX4_put_70 : decode cX4_put 70 = .ok (.getfield 7, 3) := by decide +kernel
theorem dX4_put_73 : decode cX4_put 73 = .ok (.iload 5, 2) := by decide +kernel
theorem dX4_put_75 : decode cX4_put 75 = .ok (.iload_n 1, 1) := by decide +kernel
theorem dX4_put_76 : decode cX4_put 76 = .ok (.iastore, 1) := by decide +kernel
theorem dX4_put_77 : decode cX4_put 77 = .ok (.aload_n 0, 1) := by decide +kernel
theorem dX4_put_78 : decode cX4_put 78 = .ok (.getfield 13, 3) := by decide +kernel
theorem dX4_put_81 : decode cX4_put 81 = .ok (.iload 5, 2) := by decide +kernel
theorem dX4_put_83 : decode cX4_put 83 = .ok (.iload_n 2, 1) := by decide +kernel
theorem dX4_put_84 : decode cX4_put 84 = .ok (.iastore, 1) := by decide +kernel
theorem dX4_put_85 : decode cX4_put 85 = .ok (.aload_n 0, 1) := by decide +kernel
theorem dX4_put_86 : decode cX4_put 86 = .ok (.getfield 16, 3) := by decide +kernel
theorem dX4_put_89 : decode cX4_put 89 = .ok (.iload 5, 2) := by decide +kernel
theorem dX4_put_91 : decode cX4_put 91 = .ok (.iload_n 3, 1) := by decide +kernel
theorem dX4_put_92 : decode cX4_put 92 = .ok (.iastore, 1) := by decide +kernel
theorem dX4_put_93 : decode cX4_put 93 = .ok (.aload_n 0, 1) := by decide +kernel
theorem dX4_put_94 : decode cX4_put 94 = .ok (.getfield 19, 3) := by decide +kernel
theorem dX4_put_97 : decode cX4_put 97 = .ok (.iload 5, 2) := by decide +kernel
theorem dX4_put_99 : decode cX4_put 99 = .ok (.iload 4, 2) := by decide +kernel
theorem dX4_put_101 : decode cX4_put 101 = .ok (.iastore, 1) := by decide +kernel
theorem dX4_put_102 : decode cX4_put 102 = .ok (.aload_n 0, 1) := by decide +kernel
theorem dX4_put_103 : decode cX4_put 103 = .ok (.getfield 32, 3) := by decide +kernel
theorem dX4_put_106 : decode cX4_put 106 = .ok (.ireturn, 1) := by decide +kernel
set_option maxRecDepth 20000 in
theorem ggX4_step_X4_in : GoodIn wsX4_step wsX4_in := goodIn_r _ [6] (by decide +kernel) (by decide +kernel)
set_option maxRecDepth 20000 in
theorem gX4_step_X4_in : GoodIn wsX4_step (va_wsS RX4 49 yX4_in wsX4_in) := goodIn_app (goodIn_of _ (by decide +kernel)) ggX4_step_X4_in
set_option maxRecDepth 20000 in
theorem ggX4_step_X4_put : GoodIn wsX4_step wsX4_put := goodIn_r _ [10, 11, 12, 13, 14, 15, 16, 17, 18, 5, 19, 20, 21, 22, 23, 24, 25, 26, 27, 28, 29, 30, 31, 32, 33, 34, 35, 36, 37, 38] (by decide +kernel) (by decide +kernel)
set_option maxRecDepth 20000 in
theorem gX4_step_X4_put : GoodIn wsX4_step (wsV RX4 55 RX4 yX4_put wsX4_put) := goodIn_app (goodIn_of _ (by decide +kernel)) ggX4_step_X4_put
theorem dX4_step_0 : decode cX4_step 0 = .ok (.iload_n 1, 1) := by decide +kernel
theorem dX4_step_1 : decode cX4_step 1 = .ok (.i2l, 1) := by decide +kernel
theorem dX4_step_2 : decode cX4_step 2 = .ok (.lconst 0, 1) := by decide +kernel
theorem dX4_step_3 : decode cX4_step 3 = .ok (.ldc2_w 47, 3) := by decide +kernel
theorem dX4_step_6 : decode cX4_step 6 = .ok (.invokestatic 49, 3) := by decide +kernel
theorem dX4_step_9 : decode cX4_step 9 = .ok (.ifCond .eq 15, 3) := by decide +kernel
theorem dX4_step_12 : decode cX4_step 12 = .ok (.iload_n 2, 1) := by decide +kernel
theorem dX4_step_13 : decode cX4_step 13 = .ok (.i2l, 1) := by decide +kernel
theorem dX4_step_14 : decode cX4_step 14 = .ok (.lconst 1, 1) := by decide +kernel
theorem dX4_step_15 : decode cX4_step 15 = .ok (.ldc2_w 53, 3) := by decide +kernel
theorem dX4_step_18 : decode cX4_step 18 = .ok (.invokestatic 49, 3) := by decide +kernel
theorem dX4_step_21 : decode cX4_step 21 = .ok (.ifCond .ne 6, 3) := by decide +kernel
theorem dX4_step_24 : decode cX4_step 24 = .ok (.bipush (-2), 2) := by decide +kernel
theorem dX4_step_26 : decode cX4_step 26 = .ok (.ireturn, 1) := by decide +kernel
theorem dX4_step_27 : decode cX4_step 27 = .ok (.aload_n 0, 1) := by decide +kernel
theorem dX4_step_28 : decode cX4_step 28 = .ok (.iload_n 1, 1) := by decide +kernel
theorem dX4_step_29 : decode cX4_step 29 = .ok (.iconst 0, 1) := by decide +kernel
theorem dX4_step_30 : decode cX4_step 30 = .ok (.iload_n 2, 1) := by decide +kernel
theorem dX4_step_31 : decode cX4_step 31 = .ok (.iload_n 2, 1) := by decide +kernel
theorem dX4_step_32 : decode cX4_step 32 = .ok (.invokevirtual 55, 3) := by decide +kernel
theorem dX4_step_35 : decode cX4_step 35 = .ok (.ireturn, 1) := by decide +kernel
set_option maxRecDepth 20000 in
theorem ggX4_slope_X4_in : GoodIn wsX4_slope wsX4_in := goodIn_r _ [8] (by decide +kernel) (by decide +kernel)
set_option maxRecDepth 20000 in
theorem gX4_slope_X4_in : GoodIn wsX4_slope (va_wsS RX4 49 yX4_in wsX4_in) := goodIn_app (goodIn_of _ (by decide +kernel)) ggX4_slope_X4_in
set_option maxRecDepth 20000 in
theorem ggX4_slope_X4_put : GoodIn wsX4_slope wsX4_put := goodIn_r _ [12, 13, 14, 15, 16, 17, 18, 19, 20, 7, 21, 22, 23, 24, 25, 26, 27, 28, 29, 30, 31, 32, 33, 34, 35, 36, 37, 38, 39, 40] (by decide +kernel) (by decide +kernel)
set_option maxRecDepth 20000 in
theorem gX4_slope_X4_put : GoodIn wsX4_slope (wsV RX4 55 RX4 yX4_put wsX4_put) := goodIn_app (goodIn_of _ (by decide +kernel)) ggX4_slope_X4_put
theorem dX4_slope_0 : decode cX4_slope 0 = .ok (.iload_n 1, 1) := by decide +kernel
theorem dX4_slope_1 : decode cX4_slope 1 = .ok (.i2l, 1) := by decide +kernel
theorem dX4_slope_2 : decode cX4_slope 2 = .ok (.lconst 0, 1) := by decide +kernel
theorem dX4_slope_3 : decode cX4_slope 3 = .ok (.ldc2_w 47, 3) := by decide +kernel
theorem dX4_slope_6 : decode cX4_slope 6 = .ok (.invokestatic 49, 3) := by decide +kernel
theorem dX4_slope_9 : decode cX4_slope 9 = .ok (.ifCond .eq 48, 3) := by decide +kernel
theorem dX4_slope_12 : decode cX4_slope 12 = .ok (.iload_n 2, 1) := by decide +kernel
theorem dX4_slope_13 : decode cX4_slope 13 = .ok (.i2l, 1) := by decide +kernel
theorem dX4_slope_14 : decode cX4_slope 14 = .ok (.lconst 1, 1) := by decide +kernel
theorem dX4_slope_15 : decode cX4_slope 15 = .ok (.ldc2_w 59, 3) := by decide +kernel
theorem dX4_slope_18 : decode cX4_slope 18 = .ok (.invokestatic 49, 3) := by decide +kernel
theorem dX4_slope_21 : decode cX4_slope 21 = .ok (.ifCond .eq 36, 3) := by decide +kernel
theorem dX4_slope_24 : decode cX4_slope 24 = .ok (.iload_n 3, 1) := by decide +kernel
theorem dX4_slope_25 : decode cX4_slope 25 = .ok (.i2l, 1) := by decide +kernel
theorem dX4_slope_26 : decode cX4_slope 26 = .ok (.lconst 1, 1) := by decide +kernel
theorem dX4_slope_27 : decode cX4_slope 27 = .ok (.ldc2_w 53, 3) := by decide +kernel
theorem dX4_slope_30 : decode cX4_slope 30 = .ok (.invokestatic 49, 3) := by decide +kernel
theorem dX4_slope_33 : decode cX4_slope 33 = .ok (.ifCond .eq 24, 3) := by decide +kernel
theorem dX4_slope_36 : decode cX4_slope 36 = .ok (.iload 4, 2) := by decide +kernel
theorem dX4_slope_38 : decode cX4_slope 38 = .ok (.i2l, 1) := by decide +kernel
theorem dX4_slope_39 : decode cX4_slope 39 = .ok (.lconst 1, 1) := by decide +kernel
theorem dX4_slope_40 : decode cX4_slope 40 = .ok (.ldc2_w 53, 3) := by decide +kernel
theorem dX4_slope_43 : decode cX4_slope 43 = .ok (.invokestatic 49, 3) := by decide +kernel
theorem dX4_slope_46 : decode cX4_slope 46 = .ok (.ifCond .eq 11, 3) := by decide +kernel
theorem dX4_slope_49 : decode cX4_slope 49 = .ok (.iload_n 1, 1) := by decide +kernel
theorem dX4_slope_50 : decode cX4_slope 50 = .ok (.iload_n 2, 1) := by decide +kernel
theorem dX4_slope_51 : decode cX4_slope 51 = .ok (.iadd, 1) := by decide +kernel
theorem dX4_slope_52 : decode cX4_slope 52 = .ok (.ldc 61, 2) := by decide +kernel
theorem dX4_slope_54 : decode cX4_slope 54 = .ok (.if_icmp .le 6, 3) := by decide +kernel
theorem dX4_slope_57 : decode cX4_slope 57 = .ok (.bipush (-2), 2) := by decide +kernel
theorem dX4_slope_59 : decode cX4_slope 59 = .ok (.ireturn, 1) := by decide +kernel
theorem dX4_slope_60 : decode cX4_slope 60 = .ok (.aload_n 0, 1) := by decide +kernel
theorem dX4_slope_61 : decode cX4_slope 61 = .ok (.iload_n 1, 1) := by decide +kernel
theorem dX4_slope_62 : decode cX4_slope 62 = .ok (.iload_n 2, 1) := by decide +kernel
theorem dX4_slope_63 : decode cX4_slope 63 = .ok (.iload_n 3, 1) := by decide +kernel
theorem dX4_slope_64 : decode cX4_slope 64 = .ok (.iload 4, 2) := by decide +kernel
theorem dX4_slope_66 : decode cX4_slope 66 = .ok (.invokevirtual 55, 3) := by decide +kernel
theorem dX4_slope_69 : decode cX4_slope 69 = .ok (.ireturn, 1) := by decide +kernel
set_option maxRecDepth 20000 in
theorem ggX4_modulate_X4_in : GoodIn wsX4_modulate wsX4_in := goodIn_r _ [7] (by decide +kernel) (by decide +kernel)
set_option maxRecDepth 20000 in
theorem gX4_modulate_X4_in : GoodIn wsX4_modulate (va_wsS RX4 49 yX4_in wsX4_in) := goodIn_app (goodIn_of _ (by decide +kernel)) ggX4_modulate_X4_in
set_option maxRecDepth 20000 in
theorem ggX4_modulate_X4_lasts : GoodIn wsX4_modulate wsX4_lasts := goodIn_r _ [11, 1, 4, 5, 6, 7, 12, 13, 14, 15, 16, 17, 18, 19, 20, 21, 22, 23, 24, 41, 42, 43, 44, 45, 46, 47, 48, 49, 50, 51] (by decide +kernel) (by decide +kernel)
set_option maxRecDepth 20000 in
theorem gX4_modulate_X4_lasts : GoodIn wsX4_modulate (wsV RX4 64 RX4 yX4_lasts wsX4_lasts) := goodIn_app (goodIn_of _ (by decide +kernel)) ggX4_modulate_X4_lasts
set_option maxRecDepth 20000 in
theorem ggX4_modulate_X4_put : GoodIn wsX4_modulate wsX4_put := goodIn_r _ [28, 24, 16, 17, 19, 18, 29, 30, 31, 6, 32, 33, 34, 35, 36, 37, 38, 39, 40, 41, 42, 43, 44, 45, 46, 47, 48, 49, 50, 51] (by decide +kernel) (by decide +kernel)
set_option maxRecDepth 20000 in
theorem gX4_modulate_X4_put : GoodIn wsX4_modulate (wsV RX4 55 RX4 yX4_put wsX4_put) := goodIn_app (goodIn_of _ (by decide +kernel)) ggX4_modulate_X4_put
theorem dX4_modulate_0 : decode cX4_modulate 0 = .ok (.iload_n 1, 1) := by decide +kernel
theorem dX4_modulate_1 : decode cX4_modulate 1 = .ok (.i2l, 1) := by decide +kernel
theorem dX4_modulate_2 : decode cX4_modulate 2 = .ok (.lconst 1, 1) := by decide +kernel
theorem dX4_modulate_3 : decode cX4_modulate 3 = .ok (.ldc2_w 47, 3) := by decide +kernel
theorem dX4_modulate_6 : decode cX4_modulate 6 = .ok (.invokestatic 49, 3) := by decide +kernel
theorem dX4_modulate_9 : decode cX4_modulate 9 = .ok (.ifCond .eq 27, 3) := by decide +kernel
theorem dX4_modulate_12 : decode cX4_modulate 12 = .ok (.iload_n 2, 1) := by decide +kernel
theorem dX4_modulate_13 : decode cX4_modulate 13 = .ok (.i2l, 1) := by decide +kernel
theorem dX4_modulate_14 : decode cX4_modulate 14 = .ok (.lconst 1, 1) := by decide +kernel
theorem dX4_modulate_15 : decode cX4_modulate 15 = .ok (.ldc2_w 62, 3) := by decide +kernel
theorem dX4_modulate_18 : decode cX4_modulate 18 = .ok (.invokestatic 49, 3) := by decide +kernel
theorem dX4_modulate_21 : decode cX4_modulate 21 = .ok (.ifCond .eq 15, 3) := by decide +kernel
theorem dX4_modulate_24 : decode cX4_modulate 24 = .ok (.iload_n 3, 1) := by decide +kernel
theorem dX4_modulate_25 : decode cX4_modulate 25 = .ok (.i2l, 1) := by decide +kernel
theorem dX4_modulate_26 : decode cX4_modulate 26 = .ok (.lconst 1, 1) := by decide +kernel
theorem dX4_modulate_27 : decode cX4_modulate 27 = .ok (.ldc2_w 62, 3) := by decide +kernel
theorem dX4_modulate_30 : decode cX4_modulate 30 = .ok (.invokestatic 49, 3) := by decide +kernel
theorem dX4_modulate_33 : decode cX4_modulate 33 = .ok (.ifCond .ne 6, 3) := by decide +kernel
theorem dX4_modulate_36 : decode cX4_modulate 36 = .ok (.bipush (-2), 2) := by decide +kernel
theorem dX4_modulate_38 : decode cX4_modulate 38 = .ok (.ireturn, 1) := by decide +kernel
theorem dX4_modulate_39 : decode cX4_modulate 39 = .ok (.aload_n 0, 1) := by decide +kernel
theorem dX4_modulate_40 : decode cX4_modulate 40 = .ok (.iload_n 1, 1) := by decide +kernel
theorem dX4_modulate_41 : decode cX4_modulate 41 = .ok (.iconst 1, 1) := by decide +kernel
theorem dX4_modulate_42 : decode cX4_modulate 42 = .ok (.isub, 1) := by decide +kernel
theorem dX4_modulate_43 : decode cX4_modulate 43 = .ok (.invokevirtual 64, 3) := by decide +kernel
theorem dX4_modulate_46 : decode cX4_modulate 46 = .ok (.i2l, 1) := by decide +kernel
theorem dX4_modulate_47 : decode cX4_modulate 47 = .ok (.iload_n 2, 1) := by decide +kernel
theorem dX4_modulate_48 : decode cX4_modulate 48 = .ok (.i2l, 1) := by decide +kernel
theorem dX4_modulate_49 : decode cX4_modulate 49 = .ok (.lmul, 1) := by decide +kernel
theorem dX4_modulate_50 : decode cX4_modulate 50 = .ok (.iload_n 3, 1) := by decide +kernel
theorem dX4_modulate_51 : decode cX4_modulate 51 = .ok (.i2l, 1) := by decide +kernel
theorem dX4_modulate_52 : decode cX4_modulate 52 = .ok (.ldiv, 1) := by decide +kernel
theorem dX4_modulate_53 : decode cX4_modulate 53 = .ok (.lstore 4, 2) := by decide +kernel
theorem dX4_modulate_55 : decode cX4_modulate 55 = .ok (.lload 4, 2) := by decide +kernel
theorem dX4_modulate_57 : decode cX4_modulate 57 = .ok (.lconst 1, 1) := by decide +kernel
theorem dX4_modulate_58 : decode cX4_modulate 58 = .ok (.ldc2_w 53, 3) := by decide +kernel
theorem dX4_modulate_61 : decode cX4_modulate 61 = .ok (.invokestatic 49, 3) := by decide +kernel
theorem dX4_modulate_64 : decode cX4_modulate 64 = .ok (.ifCond .ne 6, 3) := by decide +kernel
theorem dX4_modulate_67 : decode cX4_modulate 67 = .ok (.bipush (-3), 2) := by decide +kernel
theorem dX4_modulate_69 : decode cX4_modulate 69 = .ok (.ireturn, 1) := by decide +kernel
theorem dX4_modulate_70 : decode cX4_modulate 70 = .ok (.aload_n 0, 1) := by decide +kernel
theorem dX4_modulate_71 : decode cX4_modulate 71 = .ok (.iload_n 1, 1) := by decide +kernel
theorem dX4_modulate_72 : decode cX4_modulate 72 = .ok (.iconst 0, 1) := by decide +kernel
theorem dX4_modulate_73 : decode cX4_modulate 73 = .ok (.lload 4, 2) := by decide +kernel
theorem dX4_modulate_75 : decode cX4_modulate 75 = .ok (.l2i, 1) := by decide +kernel
theorem dX4_modulate_76 : decode cX4_modulate 76 = .ok (.lload 4, 2) := by decide +kernel
theorem dX4_modulate_78 : decode cX4_modulate 78 = .ok (.l2i, 1) := by decide +kernel
theorem dX4_modulate_79 : decode cX4_modulate 79 = .ok (.invokevirtual 55, 3) := by decide +kernel
theorem dX4_modulate_82 : decode cX4_modulate 82 = .ok (.istore 6, 2) := by decide +kernel
theorem dX4_modulate_84 : decode cX4_modulate 84 = .ok (.iload 6, 2) := by decide +kernel
theorem dX4_modulate_86 : decode cX4_modulate 86 = .ok (.ifCond .ge 8, 3) := by decide +kernel
theorem dX4_modulate_89 : decode cX4_modulate 89 = .ok (.iload 6, 2) := by decide +kernel
theorem dX4_modulate_91 : decode cX4_modulate 91 = .ok (.goto 6, 3) := by decide +kernel
theorem dX4_modulate_94 : decode cX4_modulate 94 = .ok (.lload 4, 2) := by decide +kernel
theorem dX4_modulate_96 : decode cX4_modulate 96 = .ok (.l2i, 1) := by decide +kernel
theorem dX4_modulate_97 : decode cX4_modulate 97 = .ok (.ireturn, 1) := by decide +kernel
set_option maxRecDepth 20000 in
theorem ggX4_drop_X4_markAt : GoodIn wsX4_drop wsX4_markAt := goodIn_r _ [10, 1, 2, 11, 12, 13, 14, 15, 16, 17, 18, 19, 20, 21] (by decide +kernel) (by decide +kernel)
set_option maxRecDepth 20000 in
theorem gX4_drop_X4_markAt : GoodIn wsX4_drop (wsV RX4 36 RX4 yX4_markAt wsX4_markAt) := goodIn_app (goodIn_of _ (by decide +kernel)) ggX4_drop_X4_markAt
theorem dX4_drop_0 : decode cX4_drop 0 = .ok (.aload_n 0, 1) := by decide +kernel
theorem dX4_drop_1 : decode cX4_drop 1 = .ok (.iload_n 1, 1) := by decide +kernel
theorem dX4_drop_2 : decode cX4_drop 2 = .ok (.invokevirtual 36, 3) := by decide +kernel
theorem dX4_drop_5 : decode cX4_drop 5 = .ok (.istore_n 2, 1) := by decide +kernel
theorem dX4_drop_6 : decode cX4_drop 6 = .ok (.iload_n 2, 1) := by decide +kernel
theorem dX4_drop_7 : decode cX4_drop 7 = .ok (.iconst (-1), 1) := by decide +kernel
theorem dX4_drop_8 : decode cX4_drop 8 = .ok (.if_icmp .ne 6, 3) := by decide +kernel
theorem dX4_drop_11 : decode cX4_drop 11 = .ok (.bipush (-3), 2) := by decide +kernel
theorem dX4_drop_13 : decode cX4_drop 13 = .ok (.ireturn, 1) := by decide +kernel
theorem dX4_drop_14 : decode cX4_drop 14 = .ok (.aload_n 0, 1) := by decide +kernel
theorem dX4_drop_15 : decode cX4_drop 15 = .ok (.dup, 1) := by decide +kernel
theorem dX4_drop_16 : decode cX4_drop 16 = .ok (.getfield 32, 3) := by decide +kernel
theorem dX4_drop_19 : decode cX4_drop 19 = .ok (.iconst 1, 1) := by decide +kernel
theorem dX4_drop_20 : decode cX4_drop 20 = .ok (.isub, 1) := by decide +kernel
theorem dX4_drop_21 : decode cX4_drop 21 = .ok (.putfield 32, 3) := by decide +kernel
theorem dX4_drop_24 : decode cX4_drop 24 = .ok (.aload_n 0, 1) := by decide +kernel
theorem dX4_drop_25 : decode cX4_drop 25 = .ok (.getfield 7, 3) := by decide +kernel
theorem dX4_drop_28 : decode cX4_drop 28 = .ok (.iload_n 2, 1) := by decide +kernel
theorem dX4_drop_29 : decode cX4_drop 29 = .ok (.aload_n 0, 1) := by decide +kernel
theorem dX4_drop_30 : decode cX4_drop 30 = .ok (.getfield 7, 3) := by decide +kernel
theorem dX4_drop_33 : decode cX4_drop 33 = .ok (.aload_n 0, 1) := by decide +kernel
theorem dX4_drop_34 : decode cX4_drop 34 = .ok (.getfield 32, 3) := by decide +kernel
theorem dX4_drop_37 : decode cX4_drop 37 = .ok (.iaload, 1) := by decide +kernel
theorem dX4_drop_38 : decode cX4_drop 38 = .ok (.iastore, 1) := by decide +kernel
theorem dX4_drop_39 : decode cX4_drop 39 = .ok (.aload_n 0, 1) := by decide +kernel
theorem dX4_drop_40 : decode cX4_drop 40 = .ok (.getfield 13, 3) := by decide +kernel
theorem dX4_drop_43 : decode cX4_drop 43 = .ok (.iload_n 2, 1) := by decide +kernel
theorem dX4_drop_44 : decode cX4_drop 44 = .ok (.aload_n 0, 1) := by decide +kernel
theorem dX4_drop_45 : decode cX4_drop 45 = .ok (.getfield 13, 3) := by decide +kernel
theorem dX4_drop_48 : decode cX4_drop 48 = .ok (.aload_n 0, 1) := by decide +kernel
theorem dX4_drop_49 : decode cX4_drop 49 = .ok (.getfield 32, 3) := by decide +kernel
theorem dX4_drop_52 : decode cX4_drop 52 = .ok (.iaload, 1) := by decide +kernel
theorem dX4_drop_53 : decode cX4_drop 53 = .ok (.iastore, 1) := by decide +kernel
theorem dX4_drop_54 : decode cX4_drop 54 = .ok (.aload_n 0, 1) := by decide +kernel
theorem dX4_drop_55 : decode cX4_drop 55 = .ok (.getfield 16, 3) := by decide +kernel
theorem dX4_drop_58 : decode cX4_drop 58 = .ok (.iload_n 2, 1) := by decide +kernel
theorem dX4_drop_59 : decode cX4_drop 59 = .ok (.aload_n 0, 1) := by decide +kernel
theorem dX4_drop_60 : decode cX4_drop 60 = .ok (.getfield 16, 3) := by decide +kernel
theorem dX4_drop_63 : decode cX4_drop 63 = .ok (.aload_n 0, 1) := by decide +kernel
theorem dX4_drop_64 : decode cX4_drop 64 = .ok (.getfield 32, 3) := by decide +kernel
theorem dX4_drop_67 : decode cX4_drop 67 = .ok (.iaload, 1) := by decide +kernel
theorem dX4_drop_68 : decode cX4_drop 68 = .ok (.iastore, 1) := by decide +kernel
theorem dX4_drop_69 : decode cX4_drop 69 = .ok (.aload_n 0, 1) := by decide +kernel
theorem dX4_drop_70 : decode cX4_drop 70 = .ok (.getfield 19, 3) := by decide +kernel
theorem dX4_drop_73 : decode cX4_drop 73 = .ok (.iload_n 2, 1) := by decide +kernel
theorem dX4_drop_74 : decode cX4_drop 74 = .ok (.aload_n 0, 1) := by decide +kernel
theorem dX4_drop_75 : decode cX4_drop 75 = .ok (.getfield 19, 3) := by decide +kernel
theorem dX4_drop_78 : decode cX4_drop 78 = .ok (.aload_n 0, 1) := by decide +kernel
theorem dX4_drop_79 : decode cX4_drop 79 = .ok (.getfield 32, 3) := by decide +kernel
theorem dX4_drop_82 : decode cX4_drop 82 = .ok (.iaload, 1) := by decide +kernel
theorem dX4_drop_83 : decode cX4_drop 83 = .ok (.iastore, 1) := by decide +kernel
theorem dX4_drop_84 : decode cX4_drop 84 = .ok (.aload_n 0, 1) := by decide +kernel
theorem dX4_drop_85 : decode cX4_drop 85 = .ok (.getfield 32, 3) := by decide +kernel
theorem dX4_drop_88 : decode cX4_drop 88 = .ok (.ireturn, 1) := by decide +kernel
theorem dX4_holdAt_0 : decode cX4_holdAt 0 = .ok (.iconst (-1), 1) := by decide +kernel
theorem dX4_holdAt_1 : decode cX4_holdAt 1 = .ok (.istore_n 2, 1) := by decide +kernel
theorem dX4_holdAt_2 : decode cX4_holdAt 2 = .ok (.iconst 0, 1) := by decide +kernel
theorem dX4_holdAt_3 : decode cX4_holdAt 3 = .ok (.istore_n 3, 1) := by decide +kernel
theorem dX4_holdAt_4 : decode cX4_holdAt 4 = .ok (.iload_n 3, 1) := by decide +kernel
theorem dX4_holdAt_5 : decode cX4_holdAt 5 = .ok (.aload_n 0, 1) := by decide +kernel
theorem dX4_holdAt_6 : decode cX4_holdAt 6 = .ok (.getfield 67, 3) := by decide +kernel
theorem dX4_holdAt_9 : decode cX4_holdAt 9 = .ok (.if_icmp .ge 25, 3) := by decide +kernel
theorem dX4_holdAt_12 : decode cX4_holdAt 12 = .ok (.aload_n 0, 1) := by decide +kernel
theorem dX4_holdAt_13 : decode cX4_holdAt 13 = .ok (.getfield 22, 3) := by decide +kernel
theorem dX4_holdAt_16 : decode cX4_holdAt 16 = .ok (.iload_n 3, 1) := by decide +kernel
theorem dX4_holdAt_17 : decode cX4_holdAt 17 = .ok (.iaload, 1) := by decide +kernel
theorem dX4_holdAt_18 : decode cX4_holdAt 18 = .ok (.iload_n 1, 1) := by decide +kernel
theorem dX4_holdAt_19 : decode cX4_holdAt 19 = .ok (.if_icmp .ne 7, 3) := by decide +kernel
theorem dX4_holdAt_22 : decode cX4_holdAt 22 = .ok (.iload_n 3, 1) := by decide +kernel
theorem dX4_holdAt_23 : decode cX4_holdAt 23 = .ok (.goto 4, 3) := by decide +kernel
theorem dX4_holdAt_26 : decode cX4_holdAt 26 = .ok (.iload_n 2, 1) := by decide +kernel
theorem dX4_holdAt_27 : decode cX4_holdAt 27 = .ok (.istore_n 2, 1) := by decide +kernel
theorem dX4_holdAt_28 : decode cX4_holdAt 28 = .ok (.iinc 3 1, 3) := by decide +kernel
theorem dX4_holdAt_31 : decode cX4_holdAt 31 = .ok (.goto (-27), 3) := by decide +kernel
theorem dX4_holdAt_34 : decode cX4_holdAt 34 = .ok (.iload_n 2, 1) := by decide +kernel
theorem dX4_holdAt_35 : decode cX4_holdAt 35 = .ok (.ireturn, 1) := by decide +kernel
set_option maxRecDepth 20000 in
theorem ggX4_hold_X4_in : GoodIn wsX4_hold wsX4_in := goodIn_r _ [9] (by decide +kernel) (by decide +kernel)
set_option maxRecDepth 20000 in
theorem gX4_hold_X4_in : GoodIn wsX4_hold (va_wsS RX4 49 yX4_in wsX4_in) := goodIn_app (goodIn_of _ (by decide +kernel)) ggX4_hold_X4_in
set_option maxRecDepth 20000 in
theorem ggX4_hold_X4_holdAt : GoodIn wsX4_hold wsX4_holdAt := goodIn_r _ [13, 3, 4, 14, 15, 16, 17, 18, 19, 20, 21, 22, 23, 24] (by decide +kernel) (by decide +kernel)
set_option maxRecDepth 20000 in
theorem gX4_hold_X4_holdAt : GoodIn wsX4_hold (wsV RX4 72 RX4 yX4_holdAt wsX4_holdAt) := goodIn_app (goodIn_of _ (by decide +kernel)) ggX4_hold_X4_holdAt
theorem dX4_hold_0 : decode cX4_hold 0 = .ok (.iload_n 1, 1) := by decide +kernel
theorem dX4_hold_1 : decode cX4_hold 1 = .ok (.i2l, 1) := by decide +kernel
theorem dX4_hold_2 : decode cX4_hold 2 = .ok (.lconst 0, 1) := by decide +kernel
theorem dX4_hold_3 : decode cX4_hold 3 = .ok (.ldc2_w 53, 3) := by decide +kernel
theorem dX4_hold_6 : decode cX4_hold 6 = .ok (.invokestatic 49, 3) := by decide +kernel
theorem dX4_hold_9 : decode cX4_hold 9 = .ok (.ifCond .eq 15, 3) := by decide +kernel
theorem dX4_hold_12 : decode cX4_hold 12 = .ok (.iload_n 2, 1) := by decide +kernel
theorem dX4_hold_13 : decode cX4_hold 13 = .ok (.i2l, 1) := by decide +kernel
theorem dX4_hold_14 : decode cX4_hold 14 = .ok (.lconst 0, 1) := by decide +kernel
theorem dX4_hold_15 : decode cX4_hold 15 = .ok (.ldc2_w 70, 3) := by decide +kernel
theorem dX4_hold_18 : decode cX4_hold 18 = .ok (.invokestatic 49, 3) := by decide +kernel
theorem dX4_hold_21 : decode cX4_hold 21 = .ok (.ifCond .ne 6, 3) := by decide +kernel
theorem dX4_hold_24 : decode cX4_hold 24 = .ok (.bipush (-2), 2) := by decide +kernel
theorem dX4_hold_26 : decode cX4_hold 26 = .ok (.ireturn, 1) := by decide +kernel
theorem dX4_hold_27 : decode cX4_hold 27 = .ok (.aload_n 0, 1) := by decide +kernel
theorem dX4_hold_28 : decode cX4_hold 28 = .ok (.iload_n 1, 1) := by decide +kernel
theorem dX4_hold_29 : decode cX4_hold 29 = .ok (.invokevirtual 72, 3) := by decide +kernel
theorem dX4_hold_32 : decode cX4_hold 32 = .ok (.istore_n 3, 1) := by decide +kernel
theorem dX4_hold_33 : decode cX4_hold 33 = .ok (.iload_n 2, 1) := by decide +kernel
theorem dX4_hold_34 : decode cX4_hold 34 = .ok (.ifCond .ne 53, 3) := by decide +kernel
theorem dX4_hold_37 : decode cX4_hold 37 = .ok (.iload_n 3, 1) := by decide +kernel
theorem dX4_hold_38 : decode cX4_hold 38 = .ok (.iconst (-1), 1) := by decide +kernel
theorem dX4_hold_39 : decode cX4_hold 39 = .ok (.if_icmp .eq 43, 3) := by decide +kernel
theorem dX4_hold_42 : decode cX4_hold 42 = .ok (.aload_n 0, 1) := by decide +kernel
theorem dX4_hold_43 : decode cX4_hold 43 = .ok (.dup, 1) := by decide +kernel
theorem dX4_hold_44 : decode cX4_hold 44 = .ok (.getfield 67, 3) := by decide +kernel
theorem dX4_hold_47 : decode cX4_hold 47 = .ok (.iconst 1, 1) := by decide +kernel
theorem dX4_hold_48 : decode cX4_hold 48 = .ok (.isub, 1) := by decide +kernel
theorem dX4_hold_49 : decode cX4_hold 49 = .ok (.putfield 67, 3) := by decide +kernel
theorem dX4_hold_52 : decode cX4_hold 52 = .ok (.aload_n 0, 1) := by decide +kernel
theorem dX4_hold_53 : decode cX4_hold 53 = .ok (.getfield 22, 3) := by decide +kernel
theorem dX4_hold_56 : decode cX4_hold 56 = .ok (.iload_n 3, 1) := by decide +kernel
theorem dX4_hold_57 : decode cX4_hold 57 = .ok (.aload_n 0, 1) := by decide +kernel
theorem dX4_hold_58 : decode cX4_hold 58 = .ok (.getfield 22, 3) := by decide +kernel
theorem dX4_hold_61 : decode cX4_hold 61 = .ok (.aload_n 0, 1) := by decide +kernel
theorem dX4_hold_62 : decode cX4_hold 62 = .ok (.getfield 67, 3) := by decide +kernel
theorem dX4_hold_65 : decode cX4_hold 65 = .ok (.iaload, 1) := by decide +kernel
theorem dX4_hold_66 : decode cX4_hold 66 = .ok (.iastore, 1) := by decide +kernel
theorem dX4_hold_67 : decode cX4_hold 67 = .ok (.aload_n 0, 1) := by decide +kernel
theorem dX4_hold_68 : decode cX4_hold 68 = .ok (.getfield 25, 3) := by decide +kernel
theorem dX4_hold_71 : decode cX4_hold 71 = .ok (.iload_n 3, 1) := by decide +kernel
theorem dX4_hold_72 : decode cX4_hold 72 = .ok (.aload_n 0, 1) := by decide +kernel
theorem dX4_hold_73 : decode cX4_hold 73 = .ok (.getfield 25, 3) := by decide +kernel
theorem dX4_hold_76 : decode cX4_hold 76 = .ok (.aload_n 0, 1) := by decide +kernel
theorem dX4_hold_77 : decode cX4_hold 77 = .ok (.getfield 67, 3) := by decide +kernel
theorem dX4_hold_80 : decode cX4_hold 80 = .ok (.iaload, 1) := by decide +kernel
theorem dX4_hold_81 : decode cX4_hold 81 = .ok (.iastore, 1) := by decide +kernel
theorem dX4_hold_82 : decode cX4_hold 82 = .ok (.aload_n 0, 1) := by decide +kernel
theorem dX4_hold_83 : decode cX4_hold 83 = .ok (.getfield 67, 3) := by decide +kernel
theorem dX4_hold_86 : decode cX4_hold 86 = .ok (.ireturn, 1) := by decide +kernel
theorem dX4_hold_87 : decode cX4_hold 87 = .ok (.iload_n 3, 1) := by decide +kernel
theorem dX4_hold_88 : decode cX4_hold 88 = .ok (.iconst (-1), 1) := by decide +kernel
theorem dX4_hold_89 : decode cX4_hold 89 = .ok (.if_icmp .ne 15, 3) := by decide +kernel
theorem dX4_hold_92 : decode cX4_hold 92 = .ok (.aload_n 0, 1) := by decide +kernel
theorem dX4_hold_93 : decode cX4_hold 93 = .ok (.getfield 67, 3) := by decide +kernel
theorem dX4_hold_96 : decode cX4_hold 96 = .ok (.bipush 20, 2) := by decide +kernel
theorem dX4_hold_98 : decode cX4_hold 98 = .ok (.if_icmp .ne 6, 3) := by decide +kernel
theorem dX4_hold_101 : decode cX4_hold 101 = .ok (.bipush (-4), 2) := by decide +kernel
theorem dX4_hold_103 : decode cX4_hold 103 = .ok (.ireturn, 1) := by decide +kernel
theorem dX4_hold_104 : decode cX4_hold 104 = .ok (.iload_n 3, 1) := by decide +kernel
theorem dX4_hold_105 : decode cX4_hold 105 = .ok (.iconst (-1), 1) := by decide +kernel
theorem dX4_hold_106 : decode cX4_hold 106 = .ok (.if_icmp .ne 18, 3) := by decide +kernel
theorem dX4_hold_109 : decode cX4_hold 109 = .ok (.aload_n 0, 1) := by decide +kernel
theorem dX4_hold_110 : decode cX4_hold 110 = .ok (.getfield 67, 3) := by decide +kernel
theorem dX4_hold_113 : decode cX4_hold 113 = .ok (.istore_n 3, 1) := by decide +kernel
theorem dX4_hold_114 : decode cX4_hold 114 = .ok (.aload_n 0, 1) := by decide +kernel
theorem dX4_hold_115 : decode cX4_hold 115 = .ok (.dup, 1) := by decide +kernel
theorem dX4_hold_116 : decode cX4_hold 116 = .ok (.getfield 67, 3) := by decide +kernel
theorem dX4_hold_119 : decode cX4_hold 119 = .ok (.iconst 1, 1) := by decide +kernel
theorem dX4_hold_120 : decode cX4_hold 120 = .ok (.iadd, 1) := by decide +kernel
theorem dX4_hold_121 : decode cX4_hold 121 = .ok (.putfield 67, 3) := by decide +kernel
theorem dX4_hold_124 : decode cX4_hold 124 = .ok (.aload_n 0, 1) := by decide +kernel
theorem dX4_hold_125 : decode cX4_hold 125 = .ok (.getfield 22, 3) := by decide +kernel
theorem dX4_hold_128 : decode cX4_hold 128 = .ok (.iload_n 3, 1) := by decide +kernel
theorem dX4_hold_129 : decode cX4_hold 129 = .ok (.iload_n 1, 1) := by decide +kernel
theorem dX4_hold_130 : decode cX4_hold 130 = .ok (.iastore, 1) := by decide +kernel
theorem dX4_hold_131 : decode cX4_hold 131 = .ok (.aload_n 0, 1) := by decide +kernel
theorem dX4_hold_132 : decode cX4_hold 132 = .ok (.getfield 25, 3) := by decide +kernel
theorem dX4_hold_135 : decode cX4_hold 135 = .ok (.iload_n 3, 1) := by decide +kernel
theorem dX4_hold_136 : decode cX4_hold 136 = .ok (.iload_n 2, 1) := by decide +kernel
theorem dX4_hold_137 : decode cX4_hold 137 = .ok (.iastore, 1) := by decide +kernel
theorem dX4_hold_138 : decode cX4_hold 138 = .ok (.aload_n 0, 1) := by decide +kernel
theorem dX4_hold_139 : decode cX4_hold 139 = .ok (.getfield 67, 3) := by decide +kernel
theorem dX4_hold_142 : decode cX4_hold 142 = .ok (.ireturn, 1) := by decide +kernel
set_option maxRecDepth 20000 in
theorem ggX4_mark_X4_in : GoodIn wsX4_mark wsX4_in := goodIn_r _ [10] (by decide +kernel) (by decide +kernel)
set_option maxRecDepth 20000 in
theorem gX4_mark_X4_in : GoodIn wsX4_mark (va_wsS RX4 49 yX4_in wsX4_in) := goodIn_app (goodIn_of _ (by decide +kernel)) ggX4_mark_X4_in
theorem dX4_mark_0 : decode cX4_mark 0 = .ok (.iload_n 2, 1) := by decide +kernel
theorem dX4_mark_1 : decode cX4_mark 1 = .ok (.i2l, 1) := by decide +kernel
theorem dX4_mark_2 : decode cX4_mark 2 = .ok (.lconst 0, 1) := by decide +kernel
theorem dX4_mark_3 : decode cX4_mark 3 = .ok (.ldc2_w 75, 3) := by decide +kernel
theorem dX4_mark_6 : decode cX4_mark 6 = .ok (.invokestatic 49, 3) := by decide +kernel
theorem dX4_mark_9 : decode cX4_mark 9 = .ok (.ifCond .ne 6, 3) := by decide +kernel
theorem dX4_mark_12 : decode cX4_mark 12 = .ok (.bipush (-2), 2) := by decide +kernel
theorem dX4_mark_14 : decode cX4_mark 14 = .ok (.ireturn, 1) := by decide +kernel
theorem dX4_mark_15 : decode cX4_mark 15 = .ok (.iload_n 1, 1) := by decide +kernel
theorem dX4_mark_16 : decode cX4_mark 16 = .ok (.i2l, 1) := by decide +kernel
theorem dX4_mark_17 : decode cX4_mark 17 = .ok (.lconst 0, 1) := by decide +kernel
theorem dX4_mark_18 : decode cX4_mark 18 = .ok (.aload_n 0, 1) := by decide +kernel
theorem dX4_mark_19 : decode cX4_mark 19 = .ok (.getfield 32, 3) := by decide +kernel
theorem dX4_mark_22 : decode cX4_mark 22 = .ok (.iconst 1, 1) := by decide +kernel
theorem dX4_mark_23 : decode cX4_mark 23 = .ok (.isub, 1) := by decide +kernel
theorem dX4_mark_24 : decode cX4_mark 24 = .ok (.i2l, 1) := by decide +kernel
theorem dX4_mark_25 : decode cX4_mark 25 = .ok (.invokestatic 49, 3) := by decide +kernel
theorem dX4_mark_28 : decode cX4_mark 28 = .ok (.ifCond .ne 5, 3) := by decide +kernel
theorem dX4_mark_31 : decode cX4_mark 31 = .ok (.iconst (-1), 1) := by decide +kernel
theorem dX4_mark_32 : decode cX4_mark 32 = .ok (.ireturn, 1) := by decide +kernel
theorem dX4_mark_33 : decode cX4_mark 33 = .ok (.iconst (-1), 1) := by decide +kernel
theorem dX4_mark_34 : decode cX4_mark 34 = .ok (.istore_n 3, 1) := by decide +kernel
theorem dX4_mark_35 : decode cX4_mark 35 = .ok (.iconst 0, 1) := by decide +kernel
theorem dX4_mark_36 : decode cX4_mark 36 = .ok (.istore 4, 2) := by decide +kernel
theorem dX4_mark_38 : decode cX4_mark 38 = .ok (.iload 4, 2) := by decide +kernel
theorem dX4_mark_40 : decode cX4_mark 40 = .ok (.aload_n 0, 1) := by decide +kernel
theorem dX4_mark_41 : decode cX4_mark 41 = .ok (.getfield 32, 3) := by decide +kernel
theorem dX4_mark_44 : decode cX4_mark 44 = .ok (.if_icmp .ge 70, 3) := by decide +kernel
theorem dX4_mark_47 : decode cX4_mark 47 = .ok (.iconst 0, 1) := by decide +kernel
theorem dX4_mark_48 : decode cX4_mark 48 = .ok (.istore 5, 2) := by decide +kernel
theorem dX4_mark_50 : decode cX4_mark 50 = .ok (.iconst 0, 1) := by decide +kernel
theorem dX4_mark_51 : decode cX4_mark 51 = .ok (.istore 6, 2) := by decide +kernel
theorem dX4_mark_53 : decode cX4_mark 53 = .ok (.iload 6, 2) := by decide +kernel
theorem dX4_mark_55 : decode cX4_mark 55 = .ok (.aload_n 0, 1) := by decide +kernel
theorem dX4_mark_56 : decode cX4_mark 56 = .ok (.getfield 32, 3) := by decide +kernel
theorem dX4_mark_59 : decode cX4_mark 59 = .ok (.if_icmp .ge 36, 3) := by decide +kernel
theorem dX4_mark_62 : decode cX4_mark 62 = .ok (.iload 5, 2) := by decide +kernel
theorem dX4_mark_64 : decode cX4_mark 64 = .ok (.aload_n 0, 1) := by decide +kernel
theorem dX4_mark_65 : decode cX4_mark 65 = .ok (.getfield 7, 3) := by decide +kernel
theorem dX4_mark_68 : decode cX4_mark 68 = .ok (.iload 6, 2) := by decide +kernel
theorem dX4_mark_70 : decode cX4_mark 70 = .ok (.iaload, 1) := by decide +kernel
theorem dX4_mark_71 : decode cX4_mark 71 = .ok (.aload_n 0, 1) := by decide +kernel
theorem dX4_mark_72 : decode cX4_mark 72 = .ok (.getfield 7, 3) := by decide +kernel
theorem dX4_mark_75 : decode cX4_mark 75 = .ok (.iload 4, 2) := by decide +kernel
theorem dX4_mark_77 : decode cX4_mark 77 = .ok (.iaload, 1) := by decide +kernel
theorem dX4_mark_78 : decode cX4_mark 78 = .ok (.if_icmp .ge 7, 3) := by decide +kernel
theorem dX4_mark_81 : decode cX4_mark 81 = .ok (.iconst 1, 1) := by decide +kernel
theorem dX4_mark_82 : decode cX4_mark 82 = .ok (.goto 4, 3) := by decide +kernel
theorem dX4_mark_85 : decode cX4_mark 85 = .ok (.iconst 0, 1) := by decide +kernel
theorem dX4_mark_86 : decode cX4_mark 86 = .ok (.iadd, 1) := by decide +kernel
theorem dX4_mark_87 : decode cX4_mark 87 = .ok (.istore 5, 2) := by decide +kernel
theorem dX4_mark_89 : decode cX4_mark 89 = .ok (.iinc 6 1, 3) := by decide +kernel
theorem dX4_mark_92 : decode cX4_mark 92 = .ok (.goto (-39), 3) := by decide +kernel
theorem dX4_mark_95 : decode cX4_mark 95 = .ok (.iload 5, 2) := by decide +kernel
theorem dX4_mark_97 : decode cX4_mark 97 = .ok (.iload_n 1, 1) := by decide +kernel
theorem dX4_mark_98 : decode cX4_mark 98 = .ok (.if_icmp .ne 8, 3) := by decide +kernel
theorem dX4_mark_101 : decode cX4_mark 101 = .ok (.iload 4, 2) := by decide +kernel
theorem dX4_mark_103 : decode cX4_mark 103 = .ok (.goto 4, 3) := by decide +kernel
theorem dX4_mark_106 : decode cX4_mark 106 = .ok (.iload_n 3, 1) := by decide +kernel
theorem dX4_mark_107 : decode cX4_mark 107 = .ok (.istore_n 3, 1) := by decide +kernel
theorem dX4_mark_108 : decode cX4_mark 108 = .ok (.iinc 4 1, 3) := by decide +kernel
theorem dX4_mark_111 : decode cX4_mark 111 = .ok (.goto (-73), 3) := by decide +kernel
theorem dX4_mark_114 : decode cX4_mark 114 = .ok (.iload_n 2, 1) := by decide +kernel
theorem dX4_mark_115 : decode cX4_mark 115 = .ok (.ifCond .ne 12, 3) := by decide +kernel
theorem dX4_mark_118 : decode cX4_mark 118 = .ok (.aload_n 0, 1) := by decide +kernel
theorem dX4_mark_119 : decode cX4_mark 119 = .ok (.getfield 7, 3) := by decide +kernel
theorem dX4_mark_122 : decode cX4_mark 122 = .ok (.iload_n 3, 1) := by decide +kernel
theorem dX4_mark_123 : decode cX4_mark 123 = .ok (.iaload, 1) := by decide +kernel
theorem dX4_mark_124 : decode cX4_mark 124 = .ok (.goto 59, 3) := by decide +kernel
theorem dX4_mark_127 : decode cX4_mark 127 = .ok (.iload_n 2, 1) := by decide +kernel
theorem dX4_mark_128 : decode cX4_mark 128 = .ok (.iconst 1, 1) := by decide +kernel
theorem dX4_mark_129 : decode cX4_mark 129 = .ok (.if_icmp .ne 20, 3) := by decide +kernel
theorem dX4_mark_132 : decode cX4_mark 132 = .ok (.aload_n 0, 1) := by decide +kernel
theorem dX4_mark_133 : decode cX4_mark 133 = .ok (.getfield 13, 3) := by decide +kernel
theorem dX4_mark_136 : decode cX4_mark 136 = .ok (.iload_n 3, 1) := by decide +kernel
theorem dX4_mark_137 : decode cX4_mark 137 = .ok (.iaload, 1) := by decide +kernel
theorem dX4_mark_138 : decode cX4_mark 138 = .ok (.ifCond .le 7, 3) := by decide +kernel
theorem dX4_mark_141 : decode cX4_mark 141 = .ok (.iconst 1, 1) := by decide +kernel
theorem dX4_mark_142 : decode cX4_mark 142 = .ok (.goto 41, 3) := by decide +kernel
theorem dX4_mark_145 : decode cX4_mark 145 = .ok (.iconst 0, 1) := by decide +kernel
theorem dX4_mark_146 : decode cX4_mark 146 = .ok (.goto 37, 3) := by decide +kernel
theorem dX4_mark_149 : decode cX4_mark 149 = .ok (.iload_n 2, 1) := by decide +kernel
theorem dX4_mark_150 : decode cX4_mark 150 = .ok (.iconst 2, 1) := by decide +kernel
theorem dX4_mark_151 : decode cX4_mark 151 = .ok (.if_icmp .ne 12, 3) := by decide +kernel
theorem dX4_mark_154 : decode cX4_mark 154 = .ok (.aload_n 0, 1) := by decide +kernel
theorem dX4_mark_155 : decode cX4_mark 155 = .ok (.getfield 16, 3) := by decide +kernel
theorem dX4_mark_158 : decode cX4_mark 158 = .ok (.iload_n 3, 1) := by decide +kernel
theorem dX4_mark_159 : decode cX4_mark 159 = .ok (.iaload, 1) := by decide +kernel
theorem dX4_mark_160 : decode cX4_mark 160 = .ok (.goto 23, 3) := by decide +kernel
theorem dX4_mark_163 : decode cX4_mark 163 = .ok (.iload_n 2, 1) := by decide +kernel
theorem dX4_mark_164 : decode cX4_mark 164 = .ok (.iconst 3, 1) := by decide +kernel
theorem dX4_mark_165 : decode cX4_mark 165 = .ok (.if_icmp .ne 12, 3) := by decide +kernel
theorem dX4_mark_168 : decode cX4_mark 168 = .ok (.aload_n 0, 1) := by decide +kernel
theorem dX4_mark_169 : decode cX4_mark 169 = .ok (.getfield 19, 3) := by decide +kernel
theorem dX4_mark_172 : decode cX4_mark 172 = .ok (.iload_n 3, 1) := by decide +kernel
theorem dX4_mark_173 : decode cX4_mark 173 = .ok (.iaload, 1) := by decide +kernel
theorem dX4_mark_174 : decode cX4_mark 174 = .ok (.goto 9, 3) := by decide +kernel
theorem dX4_mark_177 : decode cX4_mark 177 = .ok (.aload_n 0, 1) := by decide +kernel
theorem dX4_mark_178 : decode cX4_mark 178 = .ok (.getfield 13, 3) := by decide +kernel
theorem dX4_mark_181 : decode cX4_mark 181 = .ok (.iload_n 3, 1) := by decide +kernel
theorem dX4_mark_182 : decode cX4_mark 182 = .ok (.iaload, 1) := by decide +kernel
theorem dX4_mark_183 : decode cX4_mark 183 = .ok (.ireturn, 1) := by decide +kernel
theorem dX4_count_0 : decode cX4_count 0 = .ok (.iload_n 1, 1) := by decide +kernel
theorem dX4_count_1 : decode cX4_count 1 = .ok (.ifCond .ne 10, 3) := by decide +kernel
theorem dX4_count_4 : decode cX4_count 4 = .ok (.aload_n 0, 1) := by decide +kernel
theorem dX4_count_5 : decode cX4_count 5 = .ok (.getfield 32, 3) := by decide +kernel
theorem dX4_count_8 : decode cX4_count 8 = .ok (.goto 29, 3) := by decide +kernel
theorem dX4_count_11 : decode cX4_count 11 = .ok (.iload_n 1, 1) := by decide +kernel
theorem dX4_count_12 : decode cX4_count 12 = .ok (.iconst 1, 1) := by decide +kernel
theorem dX4_count_13 : decode cX4_count 13 = .ok (.if_icmp .ne 10, 3) := by decide +kernel
theorem dX4_count_16 : decode cX4_count 16 = .ok (.aload_n 0, 1) := by decide +kernel
theorem dX4_count_17 : decode cX4_count 17 = .ok (.getfield 67, 3) := by decide +kernel
theorem dX4_count_20 : decode cX4_count 20 = .ok (.goto 17, 3) := by decide +kernel
theorem dX4_count_23 : decode cX4_count 23 = .ok (.iload_n 1, 1) := by decide +kernel
theorem dX4_count_24 : decode cX4_count 24 = .ok (.iconst 2, 1) := by decide +kernel
theorem dX4_count_25 : decode cX4_count 25 = .ok (.if_icmp .ne 10, 3) := by decide +kernel
theorem dX4_count_28 : decode cX4_count 28 = .ok (.aload_n 0, 1) := by decide +kernel
theorem dX4_count_29 : decode cX4_count 29 = .ok (.getfield 77, 3) := by decide +kernel
theorem dX4_count_32 : decode cX4_count 32 = .ok (.goto 5, 3) := by decide +kernel
theorem dX4_count_35 : decode cX4_count 35 = .ok (.bipush (-2), 2) := by decide +kernel
theorem dX4_count_37 : decode cX4_count 37 = .ok (.ireturn, 1) := by decide +kernel
theorem dX4_markOf_0 : decode cX4_markOf 0 = .ok (.iconst (-1), 1) := by decide +kernel
theorem dX4_markOf_1 : decode cX4_markOf 1 = .ok (.istore_n 2, 1) := by decide +kernel
theorem dX4_markOf_2 : decode cX4_markOf 2 = .ok (.iconst 0, 1) := by decide +kernel
theorem dX4_markOf_3 : decode cX4_markOf 3 = .ok (.istore_n 3, 1) := by decide +kernel
theorem dX4_markOf_4 : decode cX4_markOf 4 = .ok (.iload_n 3, 1) := by decide +kernel
theorem dX4_markOf_5 : decode cX4_markOf 5 = .ok (.aload_n 0, 1) := by decide +kernel
theorem dX4_markOf_6 : decode cX4_markOf 6 = .ok (.getfield 32, 3) := by decide +kernel
theorem dX4_markOf_9 : decode cX4_markOf 9 = .ok (.if_icmp .ge 45, 3) := by decide +kernel
theorem dX4_markOf_12 : decode cX4_markOf 12 = .ok (.aload_n 0, 1) := by decide +kernel
theorem dX4_markOf_13 : decode cX4_markOf 13 = .ok (.getfield 7, 3) := by decide +kernel
theorem dX4_markOf_16 : decode cX4_markOf 16 = .ok (.iload_n 3, 1) := by decide +kernel
theorem dX4_markOf_17 : decode cX4_markOf 17 = .ok (.iaload, 1) := by decide +kernel
theorem dX4_markOf_18 : decode cX4_markOf 18 = .ok (.iload_n 1, 1) := by decide +kernel
theorem dX4_markOf_19 : decode cX4_markOf 19 = .ok (.if_icmp .gt 27, 3) := by decide +kernel
theorem dX4_markOf_22 : decode cX4_markOf 22 = .ok (.iload_n 2, 1) := by decide +kernel
theorem dX4_markOf_23 : decode cX4_markOf 23 = .ok (.iconst (-1), 1) := by decide +kernel
theorem dX4_markOf_24 : decode cX4_markOf 24 = .ok (.if_icmp .eq 18, 3) := by decide +kernel
theorem dX4_markOf_27 : decode cX4_markOf 27 = .ok (.aload_n 0, 1) := by decide +kernel
theorem dX4_markOf_28 : decode cX4_markOf 28 = .ok (.getfield 7, 3) := by decide +kernel
theorem dX4_markOf_31 : decode cX4_markOf 31 = .ok (.iload_n 3, 1) := by decide +kernel
theorem dX4_markOf_32 : decode cX4_markOf 32 = .ok (.iaload, 1) := by decide +kernel
theorem dX4_markOf_33 : decode cX4_markOf 33 = .ok (.aload_n 0, 1) := by decide +kernel
theorem dX4_markOf_34 : decode cX4_markOf 34 = .ok (.getfield 7, 3) := by decide +kernel
theorem dX4_markOf_37 : decode cX4_markOf 37 = .ok (.iload_n 2, 1) := by decide +kernel
theorem dX4_markOf_38 : decode cX4_markOf 38 = .ok (.iaload, 1) := by decide +kernel
theorem dX4_markOf_39 : decode cX4_markOf 39 = .ok (.if_icmp .le 7, 3) := by decide +kernel
theorem dX4_markOf_42 : decode cX4_markOf 42 = .ok (.iload_n 3, 1) := by decide +kernel
theorem dX4_markOf_43 : decode cX4_markOf 43 = .ok (.goto 4, 3) := by decide +kernel
theorem dX4_markOf_46 : decode cX4_markOf 46 = .ok (.iload_n 2, 1) := by decide +kernel
theorem dX4_markOf_47 : decode cX4_markOf 47 = .ok (.istore_n 2, 1) := by decide +kernel
theorem dX4_markOf_48 : decode cX4_markOf 48 = .ok (.iinc 3 1, 3) := by decide +kernel
theorem dX4_markOf_51 : decode cX4_markOf 51 = .ok (.goto (-47), 3) := by decide +kernel
theorem dX4_markOf_54 : decode cX4_markOf 54 = .ok (.iload_n 2, 1) := by decide +kernel
theorem dX4_markOf_55 : decode cX4_markOf 55 = .ok (.ireturn, 1) := by decide +kernel
set_option maxRecDepth 20000 in
theorem ggX4_paceAt_X4_markOf : GoodIn wsX4_paceAt wsX4_markOf := goodIn_r _ [9, 10, 1, 11, 12, 13, 14, 15, 16, 17, 18, 19, 20, 21] (by decide +kernel) (by decide +kernel)
set_option maxRecDepth 20000 in
theorem gX4_paceAt_X4_markOf : GoodIn wsX4_paceAt (wsV RX4 80 RX4 yX4_markOf wsX4_markOf) := goodIn_app (goodIn_of _ (by decide +kernel)) ggX4_paceAt_X4_markOf
theorem dX4_paceAt_0 : decode cX4_paceAt 0 = .ok (.aload_n 0, 1) := by decide +kernel
theorem dX4_paceAt_1 : decode cX4_paceAt 1 = .ok (.iload_n 1, 1) := by decide +kernel
theorem dX4_paceAt_2 : decode cX4_paceAt 2 = .ok (.invokevirtual 80, 3) := by decide +kernel
theorem dX4_paceAt_5 : decode cX4_paceAt 5 = .ok (.istore_n 2, 1) := by decide +kernel
theorem dX4_paceAt_6 : decode cX4_paceAt 6 = .ok (.iload_n 2, 1) := by decide +kernel
theorem dX4_paceAt_7 : decode cX4_paceAt 7 = .ok (.iconst (-1), 1) := by decide +kernel
theorem dX4_paceAt_8 : decode cX4_paceAt 8 = .ok (.if_icmp .ne 7, 3) := by decide +kernel
theorem dX4_paceAt_11 : decode cX4_paceAt 11 = .ok (.sipush 1000, 3) := by decide +kernel
theorem dX4_paceAt_14 : decode cX4_paceAt 14 = .ok (.ireturn, 1) := by decide +kernel
theorem dX4_paceAt_15 : decode cX4_paceAt 15 = .ok (.iload_n 1, 1) := by decide +kernel
theorem dX4_paceAt_16 : decode cX4_paceAt 16 = .ok (.aload_n 0, 1) := by decide +kernel
theorem dX4_paceAt_17 : decode cX4_paceAt 17 = .ok (.getfield 7, 3) := by decide +kernel
theorem dX4_paceAt_20 : decode cX4_paceAt 20 = .ok (.iload_n 2, 1) := by decide +kernel
theorem dX4_paceAt_21 : decode cX4_paceAt 21 = .ok (.iaload, 1) := by decide +kernel
theorem dX4_paceAt_22 : decode cX4_paceAt 22 = .ok (.isub, 1) := by decide +kernel
theorem dX4_paceAt_23 : decode cX4_paceAt 23 = .ok (.istore_n 3, 1) := by decide +kernel
theorem dX4_paceAt_24 : decode cX4_paceAt 24 = .ok (.iload_n 3, 1) := by decide +kernel
theorem dX4_paceAt_25 : decode cX4_paceAt 25 = .ok (.aload_n 0, 1) := by decide +kernel
theorem dX4_paceAt_26 : decode cX4_paceAt 26 = .ok (.getfield 13, 3) := by decide +kernel
theorem dX4_paceAt_29 : decode cX4_paceAt 29 = .ok (.iload_n 2, 1) := by decide +kernel
theorem dX4_paceAt_30 : decode cX4_paceAt 30 = .ok (.iaload, 1) := by decide +kernel
theorem dX4_paceAt_31 : decode cX4_paceAt 31 = .ok (.if_icmp .lt 10, 3) := by decide +kernel
theorem dX4_paceAt_34 : decode cX4_paceAt 34 = .ok (.aload_n 0, 1) := by decide +kernel
theorem dX4_paceAt_35 : decode cX4_paceAt 35 = .ok (.getfield 19, 3) := by decide +kernel
theorem dX4_paceAt_38 : decode cX4_paceAt 38 = .ok (.iload_n 2, 1) := by decide +kernel
theorem dX4_paceAt_39 : decode cX4_paceAt 39 = .ok (.iaload, 1) := by decide +kernel
theorem dX4_paceAt_40 : decode cX4_paceAt 40 = .ok (.ireturn, 1) := by decide +kernel
theorem dX4_paceAt_41 : decode cX4_paceAt 41 = .ok (.aload_n 0, 1) := by decide +kernel
theorem dX4_paceAt_42 : decode cX4_paceAt 42 = .ok (.getfield 19, 3) := by decide +kernel
theorem dX4_paceAt_45 : decode cX4_paceAt 45 = .ok (.iload_n 2, 1) := by decide +kernel
theorem dX4_paceAt_46 : decode cX4_paceAt 46 = .ok (.iaload, 1) := by decide +kernel
theorem dX4_paceAt_47 : decode cX4_paceAt 47 = .ok (.aload_n 0, 1) := by decide +kernel
theorem dX4_paceAt_48 : decode cX4_paceAt 48 = .ok (.getfield 16, 3) := by decide +kernel
theorem dX4_paceAt_51 : decode cX4_paceAt 51 = .ok (.iload_n 2, 1) := by decide +kernel
theorem dX4_paceAt_52 : decode cX4_paceAt 52 = .ok (.iaload, 1) := by decide +kernel
theorem dX4_paceAt_53 : decode cX4_paceAt 53 = .ok (.isub, 1) := by decide +kernel
theorem dX4_paceAt_54 : decode cX4_paceAt 54 = .ok (.i2l, 1) := by decide +kernel
theorem dX4_paceAt_55 : decode cX4_paceAt 55 = .ok (.iload_n 3, 1) := by decide +kernel
theorem dX4_paceAt_56 : decode cX4_paceAt 56 = .ok (.i2l, 1) := by decide +kernel
theorem dX4_paceAt_57 : decode cX4_paceAt 57 = .ok (.lmul, 1) := by decide +kernel
theorem dX4_paceAt_58 : decode cX4_paceAt 58 = .ok (.lstore 4, 2) := by decide +kernel
theorem dX4_paceAt_60 : decode cX4_paceAt 60 = .ok (.aload_n 0, 1) := by decide +kernel
theorem dX4_paceAt_61 : decode cX4_paceAt 61 = .ok (.getfield 13, 3) := by decide +kernel
theorem dX4_paceAt_64 : decode cX4_paceAt 64 = .ok (.iload_n 2, 1) := by decide +kernel
theorem dX4_paceAt_65 : decode cX4_paceAt 65 = .ok (.iaload, 1) := by decide +kernel
theorem dX4_paceAt_66 : decode cX4_paceAt 66 = .ok (.i2l, 1) := by decide +kernel
theorem dX4_paceAt_67 : decode cX4_paceAt 67 = .ok (.lstore 6, 2) := by decide +kernel
theorem dX4_paceAt_69 : decode cX4_paceAt 69 = .ok (.lload 4, 2) := by decide +kernel
theorem dX4_paceAt_71 : decode cX4_paceAt 71 = .ok (.lconst 0, 1) := by decide +kernel
theorem dX4_paceAt_72 : decode cX4_paceAt 72 = .ok (.lcmp, 1) := by decide +kernel
theorem dX4_paceAt_73 : decode cX4_paceAt 73 = .ok (.ifCond .lt 11, 3) := by decide +kernel
theorem dX4_paceAt_76 : decode cX4_paceAt 76 = .ok (.lload 4, 2) := by decide +kernel
theorem dX4_paceAt_78 : decode cX4_paceAt 78 = .ok (.lload 6, 2) := by decide +kernel
theorem dX4_paceAt_80 : decode cX4_paceAt 80 = .ok (.ldiv, 1) := by decide +kernel
theorem dX4_paceAt_81 : decode cX4_paceAt 81 = .ok (.goto 15, 3) := by decide +kernel
theorem dX4_paceAt_84 : decode cX4_paceAt 84 = .ok (.lload 4, 2) := by decide +kernel
theorem dX4_paceAt_86 : decode cX4_paceAt 86 = .ok (.lneg, 1) := by decide +kernel
theorem dX4_paceAt_87 : decode cX4_paceAt 87 = .ok (.lload 6, 2) := by decide +kernel
theorem dX4_paceAt_89 : decode cX4_paceAt 89 = .ok (.ladd, 1) := by decide +kernel
theorem dX4_paceAt_90 : decode cX4_paceAt 90 = .ok (.lconst 1, 1) := by decide +kernel
theorem dX4_paceAt_91 : decode cX4_paceAt 91 = .ok (.lsub, 1) := by decide +kernel
theorem dX4_paceAt_92 : decode cX4_paceAt 92 = .ok (.lload 6, 2) := by decide +kernel
theorem dX4_paceAt_94 : decode cX4_paceAt 94 = .ok (.ldiv, 1) := by decide +kernel
theorem dX4_paceAt_95 : decode cX4_paceAt 95 = .ok (.lneg, 1) := by decide +kernel
theorem dX4_paceAt_96 : decode cX4_paceAt 96 = .ok (.lstore 8, 2) := by decide +kernel
theorem dX4_paceAt_98 : decode cX4_paceAt 98 = .ok (.aload_n 0, 1) := by decide +kernel
theorem dX4_paceAt_99 : decode cX4_paceAt 99 = .ok (.getfield 16, 3) := by decide +kernel
theorem dX4_paceAt_102 : decode cX4_paceAt 102 = .ok (.iload_n 2, 1) := by decide +kernel
theorem dX4_paceAt_103 : decode cX4_paceAt 103 = .ok (.iaload, 1) := by decide +kernel
theorem dX4_paceAt_104 : decode cX4_paceAt 104 = .ok (.lload 8, 2) := by decide +kernel
theorem dX4_paceAt_106 : decode cX4_paceAt 106 = .ok (.l2i, 1) := by decide +kernel
theorem dX4_paceAt_107 : decode cX4_paceAt 107 = .ok (.iadd, 1) := by decide +kernel
theorem dX4_paceAt_108 : decode cX4_paceAt 108 = .ok (.ireturn, 1) := by decide +kernel
set_option maxRecDepth 20000 in
theorem ggX4_lasts_X4_in : GoodIn wsX4_lasts wsX4_in := goodIn_r _ [5] (by decide +kernel) (by decide +kernel)
set_option maxRecDepth 20000 in
theorem gX4_lasts_X4_in : GoodIn wsX4_lasts (va_wsS RX4 49 yX4_in wsX4_in) := goodIn_app (goodIn_of _ (by decide +kernel)) ggX4_lasts_X4_in
set_option maxRecDepth 20000 in
theorem ggX4_lasts_X4_paceAt : GoodIn wsX4_lasts wsX4_paceAt := goodIn_r _ [9, 10, 11, 12, 13, 14, 15, 16, 4, 17, 18, 19, 20, 21, 22, 23, 24, 25, 26, 27, 28, 29] (by decide +kernel) (by decide +kernel)
set_option maxRecDepth 20000 in
theorem gX4_lasts_X4_paceAt : GoodIn wsX4_lasts (wsV RX4 83 RX4 yX4_paceAt wsX4_paceAt) := goodIn_app (goodIn_of _ (by decide +kernel)) ggX4_lasts_X4_paceAt
theorem dX4_lasts_0 : decode cX4_lasts 0 = .ok (.iload_n 1, 1) := by decide +kernel
theorem dX4_lasts_1 : decode cX4_lasts 1 = .ok (.i2l, 1) := by decide +kernel
theorem dX4_lasts_2 : decode cX4_lasts 2 = .ok (.lconst 0, 1) := by decide +kernel
theorem dX4_lasts_3 : decode cX4_lasts 3 = .ok (.ldc2_w 47, 3) := by decide +kernel
theorem dX4_lasts_6 : decode cX4_lasts 6 = .ok (.invokestatic 49, 3) := by decide +kernel
theorem dX4_lasts_9 : decode cX4_lasts 9 = .ok (.ifCond .eq 11, 3) := by decide +kernel
theorem dX4_lasts_12 : decode cX4_lasts 12 = .ok (.aload_n 0, 1) := by decide +kernel
theorem dX4_lasts_13 : decode cX4_lasts 13 = .ok (.iload_n 1, 1) := by decide +kernel
theorem dX4_lasts_14 : decode cX4_lasts 14 = .ok (.invokevirtual 83, 3) := by decide +kernel
theorem dX4_lasts_17 : decode cX4_lasts 17 = .ok (.goto 5, 3) := by decide +kernel
theorem dX4_lasts_20 : decode cX4_lasts 20 = .ok (.bipush (-2), 2) := by decide +kernel
theorem dX4_lasts_22 : decode cX4_lasts 22 = .ok (.ireturn, 1) := by decide +kernel
set_option maxRecDepth 20000 in
theorem ggX4_alikeTo_X4_markOf : GoodIn wsX4_alikeTo wsX4_markOf := goodIn_r _ [8, 3, 1, 9, 10, 11, 12, 13, 14, 15, 16, 17, 18, 19] (by decide +kernel) (by decide +kernel)
set_option maxRecDepth 20000 in
theorem gX4_alikeTo_X4_markOf : GoodIn wsX4_alikeTo (wsV RX4 80 RX4 yX4_markOf wsX4_markOf) := goodIn_app (goodIn_of _ (by decide +kernel)) ggX4_alikeTo_X4_markOf
theorem dX4_alikeTo_0 : decode cX4_alikeTo 0 = .ok (.aload_n 0, 1) := by decide +kernel
theorem dX4_alikeTo_1 : decode cX4_alikeTo 1 = .ok (.iload_n 1, 1) := by decide +kernel
theorem dX4_alikeTo_2 : decode cX4_alikeTo 2 = .ok (.invokevirtual 80, 3) := by decide +kernel
theorem dX4_alikeTo_5 : decode cX4_alikeTo 5 = .ok (.istore_n 3, 1) := by decide +kernel
theorem dX4_alikeTo_6 : decode cX4_alikeTo 6 = .ok (.iload_n 3, 1) := by decide +kernel
theorem dX4_alikeTo_7 : decode cX4_alikeTo 7 = .ok (.iconst (-1), 1) := by decide +kernel
theorem dX4_alikeTo_8 : decode cX4_alikeTo 8 = .ok (.if_icmp .eq 26, 3) := by decide +kernel
theorem dX4_alikeTo_11 : decode cX4_alikeTo 11 = .ok (.iload_n 1, 1) := by decide +kernel
theorem dX4_alikeTo_12 : decode cX4_alikeTo 12 = .ok (.aload_n 0, 1) := by decide +kernel
theorem dX4_alikeTo_13 : decode cX4_alikeTo 13 = .ok (.getfield 7, 3) := by decide +kernel
theorem dX4_alikeTo_16 : decode cX4_alikeTo 16 = .ok (.iload_n 3, 1) := by decide +kernel
theorem dX4_alikeTo_17 : decode cX4_alikeTo 17 = .ok (.iaload, 1) := by decide +kernel
theorem dX4_alikeTo_18 : decode cX4_alikeTo 18 = .ok (.aload_n 0, 1) := by decide +kernel
theorem dX4_alikeTo_19 : decode cX4_alikeTo 19 = .ok (.getfield 13, 3) := by decide +kernel
theorem dX4_alikeTo_22 : decode cX4_alikeTo 22 = .ok (.iload_n 3, 1) := by decide +kernel
theorem dX4_alikeTo_23 : decode cX4_alikeTo 23 = .ok (.iaload, 1) := by decide +kernel
theorem dX4_alikeTo_24 : decode cX4_alikeTo 24 = .ok (.iadd, 1) := by decide +kernel
theorem dX4_alikeTo_25 : decode cX4_alikeTo 25 = .ok (.if_icmp .ge 9, 3) := by decide +kernel
theorem dX4_alikeTo_28 : decode cX4_alikeTo 28 = .ok (.iload_n 1, 1) := by decide +kernel
theorem dX4_alikeTo_29 : decode cX4_alikeTo 29 = .ok (.iconst 1, 1) := by decide +kernel
theorem dX4_alikeTo_30 : decode cX4_alikeTo 30 = .ok (.iadd, 1) := by decide +kernel
theorem dX4_alikeTo_31 : decode cX4_alikeTo 31 = .ok (.goto 4, 3) := by decide +kernel
theorem dX4_alikeTo_34 : decode cX4_alikeTo 34 = .ok (.iload_n 2, 1) := by decide +kernel
theorem dX4_alikeTo_35 : decode cX4_alikeTo 35 = .ok (.istore 4, 2) := by decide +kernel
theorem dX4_alikeTo_37 : decode cX4_alikeTo 37 = .ok (.iconst 0, 1) := by decide +kernel
theorem dX4_alikeTo_38 : decode cX4_alikeTo 38 = .ok (.istore 5, 2) := by decide +kernel
theorem dX4_alikeTo_40 : decode cX4_alikeTo 40 = .ok (.iload 5, 2) := by decide +kernel
theorem dX4_alikeTo_42 : decode cX4_alikeTo 42 = .ok (.aload_n 0, 1) := by decide +kernel
theorem dX4_alikeTo_43 : decode cX4_alikeTo 43 = .ok (.getfield 32, 3) := by decide +kernel
theorem dX4_alikeTo_46 : decode cX4_alikeTo 46 = .ok (.if_icmp .ge 46, 3) := by decide +kernel
theorem dX4_alikeTo_49 : decode cX4_alikeTo 49 = .ok (.aload_n 0, 1) := by decide +kernel
theorem dX4_alikeTo_50 : decode cX4_alikeTo 50 = .ok (.getfield 7, 3) := by decide +kernel
theorem dX4_alikeTo_53 : decode cX4_alikeTo 53 = .ok (.iload 5, 2) := by decide +kernel
theorem dX4_alikeTo_55 : decode cX4_alikeTo 55 = .ok (.iaload, 1) := by decide +kernel
theorem dX4_alikeTo_56 : decode cX4_alikeTo 56 = .ok (.iload_n 1, 1) := by decide +kernel
theorem dX4_alikeTo_57 : decode cX4_alikeTo 57 = .ok (.if_icmp .le 25, 3) := by decide +kernel
theorem dX4_alikeTo_60 : decode cX4_alikeTo 60 = .ok (.aload_n 0, 1) := by decide +kernel
theorem dX4_alikeTo_61 : decode cX4_alikeTo 61 = .ok (.getfield 7, 3) := by decide +kernel
theorem dX4_alikeTo_64 : decode cX4_alikeTo 64 = .ok (.iload 5, 2) := by decide +kernel
theorem dX4_alikeTo_66 : decode cX4_alikeTo 66 = .ok (.iaload, 1) := by decide +kernel
theorem dX4_alikeTo_67 : decode cX4_alikeTo 67 = .ok (.iload 4, 2) := by decide +kernel
theorem dX4_alikeTo_69 : decode cX4_alikeTo 69 = .ok (.if_icmp .ge 13, 3) := by decide +kernel
theorem dX4_alikeTo_72 : decode cX4_alikeTo 72 = .ok (.aload_n 0, 1) := by decide +kernel
theorem dX4_alikeTo_73 : decode cX4_alikeTo 73 = .ok (.getfield 7, 3) := by decide +kernel
theorem dX4_alikeTo_76 : decode cX4_alikeTo 76 = .ok (.iload 5, 2) := by decide +kernel
theorem dX4_alikeTo_78 : decode cX4_alikeTo 78 = .ok (.iaload, 1) := by decide +kernel
theorem dX4_alikeTo_79 : decode cX4_alikeTo 79 = .ok (.goto 5, 3) := by decide +kernel
theorem dX4_alikeTo_82 : decode cX4_alikeTo 82 = .ok (.iload 4, 2) := by decide +kernel
theorem dX4_alikeTo_84 : decode cX4_alikeTo 84 = .ok (.istore 4, 2) := by decide +kernel
theorem dX4_alikeTo_86 : decode cX4_alikeTo 86 = .ok (.iinc 5 1, 3) := by decide +kernel
theorem dX4_alikeTo_89 : decode cX4_alikeTo 89 = .ok (.goto (-49), 3) := by decide +kernel
theorem dX4_alikeTo_92 : decode cX4_alikeTo 92 = .ok (.iload 4, 2) := by decide +kernel
theorem dX4_alikeTo_94 : decode cX4_alikeTo 94 = .ok (.iload_n 2, 1) := by decide +kernel
theorem dX4_alikeTo_95 : decode cX4_alikeTo 95 = .ok (.if_icmp .ge 8, 3) := by decide +kernel
theorem dX4_alikeTo_98 : decode cX4_alikeTo 98 = .ok (.iload 4, 2) := by decide +kernel
theorem dX4_alikeTo_100 : decode cX4_alikeTo 100 = .ok (.goto 4, 3) := by decide +kernel
theorem dX4_alikeTo_103 : decode cX4_alikeTo 103 = .ok (.iload_n 2, 1) := by decide +kernel
theorem dX4_alikeTo_104 : decode cX4_alikeTo 104 = .ok (.ireturn, 1) := by decide +kernel
set_option maxRecDepth 20000 in
theorem ggX4_heldAt_X4_holdAt : GoodIn wsX4_heldAt wsX4_holdAt := goodIn_r _ [6, 7, 8, 9, 10, 11, 12, 13, 14, 15, 16, 17, 18, 19] (by decide +kernel) (by decide +kernel)
set_option maxRecDepth 20000 in
theorem gX4_heldAt_X4_holdAt : GoodIn wsX4_heldAt (wsV RX4 72 RX4 yX4_holdAt wsX4_holdAt) := goodIn_app (goodIn_of _ (by decide +kernel)) ggX4_heldAt_X4_holdAt
theorem dX4_heldAt_0 : decode cX4_heldAt 0 = .ok (.aload_n 0, 1) := by decide +kernel
theorem dX4_heldAt_1 : decode cX4_heldAt 1 = .ok (.iload_n 1, 1) := by decide +kernel
theorem dX4_heldAt_2 : decode cX4_heldAt 2 = .ok (.invokevirtual 72, 3) := by decide +kernel
theorem dX4_heldAt_5 : decode cX4_heldAt 5 = .ok (.istore_n 2, 1) := by decide +kernel
theorem dX4_heldAt_6 : decode cX4_heldAt 6 = .ok (.iload_n 2, 1) := by decide +kernel
theorem dX4_heldAt_7 : decode cX4_heldAt 7 = .ok (.iconst (-1), 1) := by decide +kernel
theorem dX4_heldAt_8 : decode cX4_heldAt 8 = .ok (.if_icmp .ne 7, 3) := by decide +kernel
theorem dX4_heldAt_11 : decode cX4_heldAt 11 = .ok (.iconst 0, 1) := by decide +kernel
theorem dX4_heldAt_12 : decode cX4_heldAt 12 = .ok (.goto 9, 3) := by decide +kernel
theorem dX4_heldAt_15 : decode cX4_heldAt 15 = .ok (.aload_n 0, 1) := by decide +kernel
theorem dX4_heldAt_16 : decode cX4_heldAt 16 = .ok (.getfield 25, 3) := by decide +kernel
theorem dX4_heldAt_19 : decode cX4_heldAt 19 = .ok (.iload_n 2, 1) := by decide +kernel
theorem dX4_heldAt_20 : decode cX4_heldAt 20 = .ok (.iaload, 1) := by decide +kernel
theorem dX4_heldAt_21 : decode cX4_heldAt 21 = .ok (.ireturn, 1) := by decide +kernel
set_option maxRecDepth 20000 in
theorem ggX4_time_X4_in : GoodIn wsX4_time wsX4_in := goodIn_r _ [9] (by decide +kernel) (by decide +kernel)
set_option maxRecDepth 20000 in
theorem gX4_time_X4_in : GoodIn wsX4_time (va_wsS RX4 49 yX4_in wsX4_in) := goodIn_app (goodIn_of _ (by decide +kernel)) ggX4_time_X4_in
set_option maxRecDepth 20000 in
theorem ggX4_time_X4_alikeTo : GoodIn wsX4_time wsX4_alikeTo := goodIn_r _ [13, 14, 15, 16, 17, 18, 19, 8, 20, 27, 28, 29, 30, 31, 32, 33, 34, 35, 36, 37] (by decide +kernel) (by decide +kernel)
set_option maxRecDepth 20000 in
theorem gX4_time_X4_alikeTo : GoodIn wsX4_time (wsV RX4 88 RX4 yX4_alikeTo wsX4_alikeTo) := goodIn_app (goodIn_of _ (by decide +kernel)) ggX4_time_X4_alikeTo
set_option maxRecDepth 20000 in
theorem ggX4_time_X4_paceAt : GoodIn wsX4_time wsX4_paceAt := goodIn_r _ [24, 14, 15, 25, 26, 17, 18, 19, 8, 20, 16, 27, 28, 29, 30, 31, 32, 33, 34, 35, 36, 37] (by decide +kernel) (by decide +kernel)
set_option maxRecDepth 20000 in
theorem gX4_time_X4_paceAt : GoodIn wsX4_time (wsV RX4 83 RX4 yX4_paceAt wsX4_paceAt) := goodIn_app (goodIn_of _ (by decide +kernel)) ggX4_time_X4_paceAt
theorem dX4_time_0 : decode cX4_time 0 = .ok (.iload_n 1, 1) := by decide +kernel
theorem dX4_time_1 : decode cX4_time 1 = .ok (.i2l, 1) := by decide +kernel
theorem dX4_time_2 : decode cX4_time 2 = .ok (.lconst 0, 1) := by decide +kernel
theorem dX4_time_3 : decode cX4_time 3 = .ok (.ldc2_w 53, 3) := by decide +kernel
theorem dX4_time_6 : decode cX4_time 6 = .ok (.invokestatic 49, 3) := by decide +kernel
theorem dX4_time_9 : decode cX4_time 9 = .ok (.ifCond .ne 7, 3) := by decide +kernel
theorem dX4_time_12 : decode cX4_time 12 = .ok (.ldc2_w 86, 3) := by decide +kernel
theorem dX4_time_15 : decode cX4_time 15 = .ok (.lreturn, 1) := by decide +kernel
theorem dX4_time_16 : decode cX4_time 16 = .ok (.lconst 0, 1) := by decide +kernel
theorem dX4_time_17 : decode cX4_time 17 = .ok (.lstore_n 2, 1) := by decide +kernel
theorem dX4_time_18 : decode cX4_time 18 = .ok (.iconst 0, 1) := by decide +kernel
theorem dX4_time_19 : decode cX4_time 19 = .ok (.istore 4, 2) := by decide +kernel
theorem dX4_time_21 : decode cX4_time 21 = .ok (.iload 4, 2) := by decide +kernel
theorem dX4_time_23 : decode cX4_time 23 = .ok (.iload_n 1, 1) := by decide +kernel
theorem dX4_time_24 : decode cX4_time 24 = .ok (.if_icmp .ge 36, 3) := by decide +kernel
theorem dX4_time_27 : decode cX4_time 27 = .ok (.aload_n 0, 1) := by decide +kernel
theorem dX4_time_28 : decode cX4_time 28 = .ok (.iload 4, 2) := by decide +kernel
theorem dX4_time_30 : decode cX4_time 30 = .ok (.iload_n 1, 1) := by decide +kernel
theorem dX4_time_31 : decode cX4_time 31 = .ok (.invokevirtual 88, 3) := by decide +kernel
theorem dX4_time_34 : decode cX4_time 34 = .ok (.istore 5, 2) := by decide +kernel
theorem dX4_time_36 : decode cX4_time 36 = .ok (.lload_n 2, 1) := by decide +kernel
theorem dX4_time_37 : decode cX4_time 37 = .ok (.iload 5, 2) := by decide +kernel
theorem dX4_time_39 : decode cX4_time 39 = .ok (.iload 4, 2) := by decide +kernel
theorem dX4_time_41 : decode cX4_time 41 = .ok (.isub, 1) := by decide +kernel
theorem dX4_time_42 : decode cX4_time 42 = .ok (.i2l, 1) := by decide +kernel
theorem dX4_time_43 : decode cX4_time 43 = .ok (.aload_n 0, 1) := by decide +kernel
theorem dX4_time_44 : decode cX4_time 44 = .ok (.iload 4, 2) := by decide +kernel
theorem dX4_time_46 : decode cX4_time 46 = .ok (.invokevirtual 83, 3) := by decide +kernel
theorem dX4_time_49 : decode cX4_time 49 = .ok (.i2l, 1) := by decide +kernel
theorem dX4_time_50 : decode cX4_time 50 = .ok (.lmul, 1) := by decide +kernel
theorem dX4_time_51 : decode cX4_time 51 = .ok (.ladd, 1) := by decide +kernel
theorem dX4_time_52 : decode cX4_time 52 = .ok (.lstore_n 2, 1) := by decide +kernel
theorem dX4_time_53 : decode cX4_time 53 = .ok (.iload 5, 2) := by decide +kernel
theorem dX4_time_55 : decode cX4_time 55 = .ok (.istore 4, 2) := by decide +kernel
theorem dX4_time_57 : decode cX4_time 57 = .ok (.goto (-36), 3) := by decide +kernel
theorem dX4_time_60 : decode cX4_time 60 = .ok (.iconst 0, 1) := by decide +kernel
theorem dX4_time_61 : decode cX4_time 61 = .ok (.istore 5, 2) := by decide +kernel
theorem dX4_time_63 : decode cX4_time 63 = .ok (.iload 5, 2) := by decide +kernel
theorem dX4_time_65 : decode cX4_time 65 = .ok (.aload_n 0, 1) := by decide +kernel
theorem dX4_time_66 : decode cX4_time 66 = .ok (.getfield 67, 3) := by decide +kernel
theorem dX4_time_69 : decode cX4_time 69 = .ok (.if_icmp .ge 35, 3) := by decide +kernel
theorem dX4_time_72 : decode cX4_time 72 = .ok (.lload_n 2, 1) := by decide +kernel
theorem dX4_time_73 : decode cX4_time 73 = .ok (.aload_n 0, 1) := by decide +kernel
theorem dX4_time_74 : decode cX4_time 74 = .ok (.getfield 22, 3) := by decide +kernel
theorem dX4_time_77 : decode cX4_time 77 = .ok (.iload 5, 2) := by decide +kernel
theorem dX4_time_79 : decode cX4_time 79 = .ok (.iaload, 1) := by decide +kernel
theorem dX4_time_80 : decode cX4_time 80 = .ok (.iload_n 1, 1) := by decide +kernel
theorem dX4_time_81 : decode cX4_time 81 = .ok (.if_icmp .gt 14, 3) := by decide +kernel
theorem dX4_time_84 : decode cX4_time 84 = .ok (.aload_n 0, 1) := by decide +kernel
theorem dX4_time_85 : decode cX4_time 85 = .ok (.getfield 25, 3) := by decide +kernel
theorem dX4_time_88 : decode cX4_time 88 = .ok (.iload 5, 2) := by decide +kernel
theorem dX4_time_90 : decode cX4_time 90 = .ok (.iaload, 1) := by decide +kernel
theorem dX4_time_91 : decode cX4_time 91 = .ok (.i2l, 1) := by decide +kernel
theorem dX4_time_92 : decode cX4_time 92 = .ok (.goto 4, 3) := by decide +kernel
theorem dX4_time_95 : decode cX4_time 95 = .ok (.lconst 0, 1) := by decide +kernel
theorem dX4_time_96 : decode cX4_time 96 = .ok (.ladd, 1) := by decide +kernel
theorem dX4_time_97 : decode cX4_time 97 = .ok (.lstore_n 2, 1) := by decide +kernel
theorem dX4_time_98 : decode cX4_time 98 = .ok (.iinc 5 1, 3) := by decide +kernel
theorem dX4_time_101 : decode cX4_time 101 = .ok (.goto (-38), 3) := by decide +kernel
theorem dX4_time_104 : decode cX4_time 104 = .ok (.lload_n 2, 1) := by decide +kernel
theorem dX4_time_105 : decode cX4_time 105 = .ok (.lreturn, 1) := by decide +kernel
set_option maxRecDepth 20000 in
theorem ggX4_lastBegun_X4_heldAt : GoodIn wsX4_lastBegun wsX4_heldAt := goodIn_r _ [9, 10, 11, 12, 13, 8, 14, 3, 4, 32, 33, 34, 35, 36, 37, 38, 39, 40, 41, 42] (by decide +kernel) (by decide +kernel)
set_option maxRecDepth 20000 in
theorem gX4_lastBegun_X4_heldAt : GoodIn wsX4_lastBegun (wsV RX4 92 RX4 yX4_heldAt wsX4_heldAt) := goodIn_app (goodIn_of _ (by decide +kernel)) ggX4_lastBegun_X4_heldAt
set_option maxRecDepth 20000 in
theorem ggX4_lastBegun_X4_alikeTo : GoodIn wsX4_lastBegun wsX4_alikeTo := goodIn_r _ [18, 19, 20, 21, 22, 23, 24, 8, 25, 32, 33, 34, 35, 36, 37, 38, 39, 40, 41, 42] (by decide +kernel) (by decide +kernel)
set_option maxRecDepth 20000 in
theorem gX4_lastBegun_X4_alikeTo : GoodIn wsX4_lastBegun (wsV RX4 88 RX4 yX4_alikeTo wsX4_alikeTo) := goodIn_app (goodIn_of _ (by decide +kernel)) ggX4_lastBegun_X4_alikeTo
set_option maxRecDepth 20000 in
theorem ggX4_lastBegun_X4_paceAt : GoodIn wsX4_lastBegun wsX4_paceAt := goodIn_r _ [29, 19, 20, 30, 31, 22, 23, 24, 8, 25, 21, 32, 33, 34, 35, 36, 37, 38, 39, 40, 41, 42] (by decide +kernel) (by decide +kernel)
set_option maxRecDepth 20000 in
theorem gX4_lastBegun_X4_paceAt : GoodIn wsX4_lastBegun (wsV RX4 83 RX4 yX4_paceAt wsX4_paceAt) := goodIn_app (goodIn_of _ (by decide +kernel)) ggX4_lastBegun_X4_paceAt
theorem dX4_lastBegun_0 : decode cX4_lastBegun 0 = .ok (.aload_n 0, 1) := by decide +kernel
theorem dX4_lastBegun_1 : decode cX4_lastBegun 1 = .ok (.aload_n 0, 1) := by decide +kernel
theorem dX4_lastBegun_2 : decode cX4_lastBegun 2 = .ok (.iconst 0, 1) := by decide +kernel
theorem dX4_lastBegun_3 : decode cX4_lastBegun 3 = .ok (.invokevirtual 92, 3) := by decide +kernel
theorem dX4_lastBegun_6 : decode cX4_lastBegun 6 = .ok (.i2l, 1) := by decide +kernel
theorem dX4_lastBegun_7 : decode cX4_lastBegun 7 = .ok (.putfield 95, 3) := by decide +kernel
theorem dX4_lastBegun_10 : decode cX4_lastBegun 10 = .ok (.lload_n 1, 1) := by decide +kernel
theorem dX4_lastBegun_11 : decode cX4_lastBegun 11 = .ok (.aload_n 0, 1) := by decide +kernel
theorem dX4_lastBegun_12 : decode cX4_lastBegun 12 = .ok (.getfield 95, 3) := by decide +kernel
theorem dX4_lastBegun_15 : decode cX4_lastBegun 15 = .ok (.lcmp, 1) := by decide +kernel
theorem dX4_lastBegun_16 : decode cX4_lastBegun 16 = .ok (.ifCond .ge 5, 3) := by decide +kernel
theorem dX4_lastBegun_19 : decode cX4_lastBegun 19 = .ok (.iconst (-1), 1) := by decide +kernel
theorem dX4_lastBegun_20 : decode cX4_lastBegun 20 = .ok (.ireturn, 1) := by decide +kernel
theorem dX4_lastBegun_21 : decode cX4_lastBegun 21 = .ok (.iconst 0, 1) := by decide +kernel
theorem dX4_lastBegun_22 : decode cX4_lastBegun 22 = .ok (.istore_n 3, 1) := by decide +kernel
theorem dX4_lastBegun_23 : decode cX4_lastBegun 23 = .ok (.iload_n 3, 1) := by decide +kernel
theorem dX4_lastBegun_24 : decode cX4_lastBegun 24 = .ok (.ldc 61, 2) := by decide +kernel
theorem dX4_lastBegun_26 : decode cX4_lastBegun 26 = .ok (.if_icmp .ge 192, 3) := by decide +kernel
theorem dX4_lastBegun_29 : decode cX4_lastBegun 29 = .ok (.aload_n 0, 1) := by decide +kernel
theorem dX4_lastBegun_30 : decode cX4_lastBegun 30 = .ok (.iload_n 3, 1) := by decide +kernel
theorem dX4_lastBegun_31 : decode cX4_lastBegun 31 = .ok (.ldc 61, 2) := by decide +kernel
theorem dX4_lastBegun_33 : decode cX4_lastBegun 33 = .ok (.invokevirtual 88, 3) := by decide +kernel
theorem dX4_lastBegun_36 : decode cX4_lastBegun 36 = .ok (.istore 4, 2) := by decide +kernel
theorem dX4_lastBegun_38 : decode cX4_lastBegun 38 = .ok (.iconst 0, 1) := by decide +kernel
theorem dX4_lastBegun_39 : decode cX4_lastBegun 39 = .ok (.istore 5, 2) := by decide +kernel
theorem dX4_lastBegun_41 : decode cX4_lastBegun 41 = .ok (.iload 5, 2) := by decide +kernel
theorem dX4_lastBegun_43 : decode cX4_lastBegun 43 = .ok (.aload_n 0, 1) := by decide +kernel
theorem dX4_lastBegun_44 : decode cX4_lastBegun 44 = .ok (.getfield 67, 3) := by decide +kernel
theorem dX4_lastBegun_47 : decode cX4_lastBegun 47 = .ok (.if_icmp .ge 46, 3) := by decide +kernel
theorem dX4_lastBegun_50 : decode cX4_lastBegun 50 = .ok (.aload_n 0, 1) := by decide +kernel
theorem dX4_lastBegun_51 : decode cX4_lastBegun 51 = .ok (.getfield 22, 3) := by decide +kernel
theorem dX4_lastBegun_54 : decode cX4_lastBegun 54 = .ok (.iload 5, 2) := by decide +kernel
theorem dX4_lastBegun_56 : decode cX4_lastBegun 56 = .ok (.iaload, 1) := by decide +kernel
theorem dX4_lastBegun_57 : decode cX4_lastBegun 57 = .ok (.iload_n 3, 1) := by decide +kernel
theorem dX4_lastBegun_58 : decode cX4_lastBegun 58 = .ok (.if_icmp .le 25, 3) := by decide +kernel
theorem dX4_lastBegun_61 : decode cX4_lastBegun 61 = .ok (.aload_n 0, 1) := by decide +kernel
theorem dX4_lastBegun_62 : decode cX4_lastBegun 62 = .ok (.getfield 22, 3) := by decide +kernel
theorem dX4_lastBegun_65 : decode cX4_lastBegun 65 = .ok (.iload 5, 2) := by decide +kernel
theorem dX4_lastBegun_67 : decode cX4_lastBegun 67 = .ok (.iaload, 1) := by decide +kernel
theorem dX4_lastBegun_68 : decode cX4_lastBegun 68 = .ok (.iload 4, 2) := by decide +kernel
theorem dX4_lastBegun_70 : decode cX4_lastBegun 70 = .ok (.if_icmp .ge 13, 3) := by decide +kernel
theorem dX4_lastBegun_73 : decode cX4_lastBegun 73 = .ok (.aload_n 0, 1) := by decide +kernel
theorem dX4_lastBegun_74 : decode cX4_lastBegun 74 = .ok (.getfield 22, 3) := by decide +kernel
theorem dX4_lastBegun_77 : decode cX4_lastBegun 77 = .ok (.iload 5, 2) := by decide +kernel
theorem dX4_lastBegun_79 : decode cX4_lastBegun 79 = .ok (.iaload, 1) := by decide +kernel
theorem dX4_lastBegun_80 : decode cX4_lastBegun 80 = .ok (.goto 5, 3) := by decide +kernel
theorem dX4_lastBegun_83 : decode cX4_lastBegun 83 = .ok (.iload 4, 2) := by decide +kernel
theorem dX4_lastBegun_85 : decode cX4_lastBegun 85 = .ok (.istore 4, 2) := by decide +kernel
theorem dX4_lastBegun_87 : decode cX4_lastBegun 87 = .ok (.iinc 5 1, 3) := by decide +kernel
theorem dX4_lastBegun_90 : decode cX4_lastBegun 90 = .ok (.goto (-49), 3) := by decide +kernel
theorem dX4_lastBegun_93 : decode cX4_lastBegun 93 = .ok (.aload_n 0, 1) := by decide +kernel
theorem dX4_lastBegun_94 : decode cX4_lastBegun 94 = .ok (.iload_n 3, 1) := by decide +kernel
theorem dX4_lastBegun_95 : decode cX4_lastBegun 95 = .ok (.invokevirtual 83, 3) := by decide +kernel
theorem dX4_lastBegun_98 : decode cX4_lastBegun 98 = .ok (.i2l, 1) := by decide +kernel
theorem dX4_lastBegun_99 : decode cX4_lastBegun 99 = .ok (.lstore 5, 2) := by decide +kernel
theorem dX4_lastBegun_101 : decode cX4_lastBegun 101 = .ok (.iload 4, 2) := by decide +kernel
theorem dX4_lastBegun_103 : decode cX4_lastBegun 103 = .ok (.iload_n 3, 1) := by decide +kernel
theorem dX4_lastBegun_104 : decode cX4_lastBegun 104 = .ok (.isub, 1) := by decide +kernel
theorem dX4_lastBegun_105 : decode cX4_lastBegun 105 = .ok (.i2l, 1) := by decide +kernel
theorem dX4_lastBegun_106 : decode cX4_lastBegun 106 = .ok (.lload 5, 2) := by decide +kernel
theorem dX4_lastBegun_108 : decode cX4_lastBegun 108 = .ok (.lmul, 1) := by decide +kernel
theorem dX4_lastBegun_109 : decode cX4_lastBegun 109 = .ok (.lstore 7, 2) := by decide +kernel
theorem dX4_lastBegun_111 : decode cX4_lastBegun 111 = .ok (.lload_n 1, 1) := by decide +kernel
theorem dX4_lastBegun_112 : decode cX4_lastBegun 112 = .ok (.aload_n 0, 1) := by decide +kernel
theorem dX4_lastBegun_113 : decode cX4_lastBegun 113 = .ok (.getfield 95, 3) := by decide +kernel
theorem dX4_lastBegun_116 : decode cX4_lastBegun 116 = .ok (.lsub, 1) := by decide +kernel
theorem dX4_lastBegun_117 : decode cX4_lastBegun 117 = .ok (.lload 7, 2) := by decide +kernel
theorem dX4_lastBegun_119 : decode cX4_lastBegun 119 = .ok (.lcmp, 1) := by decide +kernel
theorem dX4_lastBegun_120 : decode cX4_lastBegun 120 = .ok (.ifCond .ge 34, 3) := by decide +kernel
theorem dX4_lastBegun_123 : decode cX4_lastBegun 123 = .ok (.lload_n 1, 1) := by decide +kernel
theorem dX4_lastBegun_124 : decode cX4_lastBegun 124 = .ok (.aload_n 0, 1) := by decide +kernel
theorem dX4_lastBegun_125 : decode cX4_lastBegun 125 = .ok (.getfield 95, 3) := by decide +kernel
theorem dX4_lastBegun_128 : decode cX4_lastBegun 128 = .ok (.lsub, 1) := by decide +kernel
theorem dX4_lastBegun_129 : decode cX4_lastBegun 129 = .ok (.lload 5, 2) := by decide +kernel
theorem dX4_lastBegun_131 : decode cX4_lastBegun 131 = .ok (.ldiv, 1) := by decide +kernel
theorem dX4_lastBegun_132 : decode cX4_lastBegun 132 = .ok (.lstore 9, 2) := by decide +kernel
theorem dX4_lastBegun_134 : decode cX4_lastBegun 134 = .ok (.aload_n 0, 1) := by decide +kernel
theorem dX4_lastBegun_135 : decode cX4_lastBegun 135 = .ok (.dup, 1) := by decide +kernel
theorem dX4_lastBegun_136 : decode cX4_lastBegun 136 = .ok (.getfield 95, 3) := by decide +kernel
theorem dX4_lastBegun_139 : decode cX4_lastBegun 139 = .ok (.lload 9, 2) := by decide +kernel
theorem dX4_lastBegun_141 : decode cX4_lastBegun 141 = .ok (.lload 5, 2) := by decide +kernel
theorem dX4_lastBegun_143 : decode cX4_lastBegun 143 = .ok (.lmul, 1) := by decide +kernel
theorem dX4_lastBegun_144 : decode cX4_lastBegun 144 = .ok (.ladd, 1) := by decide +kernel
theorem dX4_lastBegun_145 : decode cX4_lastBegun 145 = .ok (.putfield 95, 3) := by decide +kernel
theorem dX4_lastBegun_148 : decode cX4_lastBegun 148 = .ok (.iload_n 3, 1) := by decide +kernel
theorem dX4_lastBegun_149 : decode cX4_lastBegun 149 = .ok (.lload 9, 2) := by decide +kernel
theorem dX4_lastBegun_151 : decode cX4_lastBegun 151 = .ok (.l2i, 1) := by decide +kernel
theorem dX4_lastBegun_152 : decode cX4_lastBegun 152 = .ok (.iadd, 1) := by decide +kernel
theorem dX4_lastBegun_153 : decode cX4_lastBegun 153 = .ok (.ireturn, 1) := by decide +kernel
theorem dX4_lastBegun_154 : decode cX4_lastBegun 154 = .ok (.lload_n 1, 1) := by decide +kernel
theorem dX4_lastBegun_155 : decode cX4_lastBegun 155 = .ok (.aload_n 0, 1) := by decide +kernel
theorem dX4_lastBegun_156 : decode cX4_lastBegun 156 = .ok (.getfield 95, 3) := by decide +kernel
theorem dX4_lastBegun_159 : decode cX4_lastBegun 159 = .ok (.lsub, 1) := by decide +kernel
theorem dX4_lastBegun_160 : decode cX4_lastBegun 160 = .ok (.lload 7, 2) := by decide +kernel
theorem dX4_lastBegun_162 : decode cX4_lastBegun 162 = .ok (.aload_n 0, 1) := by decide +kernel
theorem dX4_lastBegun_163 : decode cX4_lastBegun 163 = .ok (.iload 4, 2) := by decide +kernel
theorem dX4_lastBegun_165 : decode cX4_lastBegun 165 = .ok (.invokevirtual 92, 3) := by decide +kernel
theorem dX4_lastBegun_168 : decode cX4_lastBegun 168 = .ok (.i2l, 1) := by decide +kernel
theorem dX4_lastBegun_169 : decode cX4_lastBegun 169 = .ok (.ladd, 1) := by decide +kernel
theorem dX4_lastBegun_170 : decode cX4_lastBegun 170 = .ok (.lcmp, 1) := by decide +kernel
theorem dX4_lastBegun_171 : decode cX4_lastBegun 171 = .ok (.ifCond .ge 22, 3) := by decide +kernel
theorem dX4_lastBegun_174 : decode cX4_lastBegun 174 = .ok (.aload_n 0, 1) := by decide +kernel
theorem dX4_lastBegun_175 : decode cX4_lastBegun 175 = .ok (.dup, 1) := by decide +kernel
theorem dX4_lastBegun_176 : decode cX4_lastBegun 176 = .ok (.getfield 95, 3) := by decide +kernel
theorem dX4_lastBegun_179 : decode cX4_lastBegun 179 = .ok (.lload 7, 2) := by decide +kernel
theorem dX4_lastBegun_181 : decode cX4_lastBegun 181 = .ok (.lload 5, 2) := by decide +kernel
theorem dX4_lastBegun_183 : decode cX4_lastBegun 183 = .ok (.lsub, 1) := by decide +kernel
theorem dX4_lastBegun_184 : decode cX4_lastBegun 184 = .ok (.ladd, 1) := by decide +kernel
theorem dX4_lastBegun_185 : decode cX4_lastBegun 185 = .ok (.putfield 95, 3) := by decide +kernel
theorem dX4_lastBegun_188 : decode cX4_lastBegun 188 = .ok (.iload 4, 2) := by decide +kernel
theorem dX4_lastBegun_190 : decode cX4_lastBegun 190 = .ok (.iconst 1, 1) := by decide +kernel
theorem dX4_lastBegun_191 : decode cX4_lastBegun 191 = .ok (.isub, 1) := by decide +kernel
theorem dX4_lastBegun_192 : decode cX4_lastBegun 192 = .ok (.ireturn, 1) := by decide +kernel
theorem dX4_lastBegun_193 : decode cX4_lastBegun 193 = .ok (.aload_n 0, 1) := by decide +kernel
theorem dX4_lastBegun_194 : decode cX4_lastBegun 194 = .ok (.dup, 1) := by decide +kernel
theorem dX4_lastBegun_195 : decode cX4_lastBegun 195 = .ok (.getfield 95, 3) := by decide +kernel
theorem dX4_lastBegun_198 : decode cX4_lastBegun 198 = .ok (.lload 7, 2) := by decide +kernel
theorem dX4_lastBegun_200 : decode cX4_lastBegun 200 = .ok (.aload_n 0, 1) := by decide +kernel
theorem dX4_lastBegun_201 : decode cX4_lastBegun 201 = .ok (.iload 4, 2) := by decide +kernel
theorem dX4_lastBegun_203 : decode cX4_lastBegun 203 = .ok (.invokevirtual 92, 3) := by decide +kernel
theorem dX4_lastBegun_206 : decode cX4_lastBegun 206 = .ok (.i2l, 1) := by decide +kernel
theorem dX4_lastBegun_207 : decode cX4_lastBegun 207 = .ok (.ladd, 1) := by decide +kernel
theorem dX4_lastBegun_208 : decode cX4_lastBegun 208 = .ok (.ladd, 1) := by decide +kernel
theorem dX4_lastBegun_209 : decode cX4_lastBegun 209 = .ok (.putfield 95, 3) := by decide +kernel
theorem dX4_lastBegun_212 : decode cX4_lastBegun 212 = .ok (.iload 4, 2) := by decide +kernel
theorem dX4_lastBegun_214 : decode cX4_lastBegun 214 = .ok (.istore_n 3, 1) := by decide +kernel
theorem dX4_lastBegun_215 : decode cX4_lastBegun 215 = .ok (.goto (-192), 3) := by decide +kernel
theorem dX4_lastBegun_218 : decode cX4_lastBegun 218 = .ok (.ldc 61, 2) := by decide +kernel
theorem dX4_lastBegun_220 : decode cX4_lastBegun 220 = .ok (.ireturn, 1) := by decide +kernel
set_option maxRecDepth 20000 in
theorem ggX4_tick_X4_lastBegun : GoodIn wsX4_tick wsX4_lastBegun := goodIn_r _ [5, 6, 7, 8, 9, 10, 11, 12, 4, 13, 14, 15, 16, 17, 18, 19, 20, 21, 22, 23, 24, 25, 26, 27, 28, 29, 30, 31, 32, 33, 34, 35, 36, 37, 38, 39, 40, 41, 42, 43, 44, 45, 46] (by decide +kernel) (by decide +kernel)
set_option maxRecDepth 20000 in
theorem gX4_tick_X4_lastBegun : GoodIn wsX4_tick (wsV RX4 99 RX4 yX4_lastBegun wsX4_lastBegun) := goodIn_app (goodIn_of _ (by decide +kernel)) ggX4_tick_X4_lastBegun
theorem dX4_tick_0 : decode cX4_tick 0 = .ok (.lload_n 1, 1) := by decide +kernel
theorem dX4_tick_1 : decode cX4_tick 1 = .ok (.lconst 0, 1) := by decide +kernel
theorem dX4_tick_2 : decode cX4_tick 2 = .ok (.lcmp, 1) := by decide +kernel
theorem dX4_tick_3 : decode cX4_tick 3 = .ok (.ifCond .ge 8, 3) := by decide +kernel
theorem dX4_tick_6 : decode cX4_tick 6 = .ok (.bipush (-2), 2) := by decide +kernel
theorem dX4_tick_8 : decode cX4_tick 8 = .ok (.goto 8, 3) := by decide +kernel
theorem dX4_tick_11 : decode cX4_tick 11 = .ok (.aload_n 0, 1) := by decide +kernel
theorem dX4_tick_12 : decode cX4_tick 12 = .ok (.lload_n 1, 1) := by decide +kernel
theorem dX4_tick_13 : decode cX4_tick 13 = .ok (.invokevirtual 99, 3) := by decide +kernel
theorem dX4_tick_16 : decode cX4_tick 16 = .ok (.ireturn, 1) := by decide +kernel
set_option maxRecDepth 20000 in
theorem ggX4_held_X4_lastBegun : GoodIn wsX4_held wsX4_lastBegun := goodIn_r _ [7, 2, 1, 8, 9, 10, 11, 12, 6, 13, 14, 15, 16, 17, 18, 19, 20, 21, 22, 23, 24, 25, 26, 27, 28, 29, 30, 31, 32, 33, 34, 35, 36, 37, 38, 39, 40, 41, 42, 43, 44, 45, 46] (by decide +kernel) (by decide +kernel)
set_option maxRecDepth 20000 in
theorem gX4_held_X4_lastBegun : GoodIn wsX4_held (wsV RX4 99 RX4 yX4_lastBegun wsX4_lastBegun) := goodIn_app (goodIn_of _ (by decide +kernel)) ggX4_held_X4_lastBegun
set_option maxRecDepth 20000 in
theorem ggX4_held_X4_paceAt : GoodIn wsX4_held wsX4_paceAt := goodIn_r _ [33, 23, 24, 34, 35, 26, 27, 28, 6, 29, 25, 36, 37, 38, 39, 40, 41, 42, 43, 44, 45, 46] (by decide +kernel) (by decide +kernel)
set_option maxRecDepth 20000 in
theorem gX4_held_X4_paceAt : GoodIn wsX4_held (wsV RX4 83 RX4 yX4_paceAt wsX4_paceAt) := goodIn_app (goodIn_of _ (by decide +kernel)) ggX4_held_X4_paceAt
theorem dX4_held_0 : decode cX4_held 0 = .ok (.lload_n 1, 1) := by decide +kernel
theorem dX4_held_1 : decode cX4_held 1 = .ok (.lconst 0, 1) := by decide +kernel
theorem dX4_held_2 : decode cX4_held 2 = .ok (.lcmp, 1) := by decide +kernel
theorem dX4_held_3 : decode cX4_held 3 = .ok (.ifCond .ge 6, 3) := by decide +kernel
theorem dX4_held_6 : decode cX4_held 6 = .ok (.bipush (-2), 2) := by decide +kernel
theorem dX4_held_8 : decode cX4_held 8 = .ok (.ireturn, 1) := by decide +kernel
theorem dX4_held_9 : decode cX4_held 9 = .ok (.aload_n 0, 1) := by decide +kernel
theorem dX4_held_10 : decode cX4_held 10 = .ok (.lload_n 1, 1) := by decide +kernel
theorem dX4_held_11 : decode cX4_held 11 = .ok (.invokevirtual 99, 3) := by decide +kernel
theorem dX4_held_14 : decode cX4_held 14 = .ok (.istore_n 3, 1) := by decide +kernel
theorem dX4_held_15 : decode cX4_held 15 = .ok (.iload_n 3, 1) := by decide +kernel
theorem dX4_held_16 : decode cX4_held 16 = .ok (.iconst (-1), 1) := by decide +kernel
theorem dX4_held_17 : decode cX4_held 17 = .ok (.if_icmp .eq 25, 3) := by decide +kernel
theorem dX4_held_20 : decode cX4_held 20 = .ok (.iload_n 3, 1) := by decide +kernel
theorem dX4_held_21 : decode cX4_held 21 = .ok (.ldc 61, 2) := by decide +kernel
theorem dX4_held_23 : decode cX4_held 23 = .ok (.if_icmp .eq 19, 3) := by decide +kernel
theorem dX4_held_26 : decode cX4_held 26 = .ok (.lload_n 1, 1) := by decide +kernel
theorem dX4_held_27 : decode cX4_held 27 = .ok (.aload_n 0, 1) := by decide +kernel
theorem dX4_held_28 : decode cX4_held 28 = .ok (.getfield 95, 3) := by decide +kernel
theorem dX4_held_31 : decode cX4_held 31 = .ok (.aload_n 0, 1) := by decide +kernel
theorem dX4_held_32 : decode cX4_held 32 = .ok (.iload_n 3, 1) := by decide +kernel
theorem dX4_held_33 : decode cX4_held 33 = .ok (.invokevirtual 83, 3) := by decide +kernel
theorem dX4_held_36 : decode cX4_held 36 = .ok (.i2l, 1) := by decide +kernel
theorem dX4_held_37 : decode cX4_held 37 = .ok (.ladd, 1) := by decide +kernel
theorem dX4_held_38 : decode cX4_held 38 = .ok (.lcmp, 1) := by decide +kernel
theorem dX4_held_39 : decode cX4_held 39 = .ok (.ifCond .lt 7, 3) := by decide +kernel
theorem dX4_held_42 : decode cX4_held 42 = .ok (.iconst 1, 1) := by decide +kernel
theorem dX4_held_43 : decode cX4_held 43 = .ok (.goto 4, 3) := by decide +kernel
theorem dX4_held_46 : decode cX4_held 46 = .ok (.iconst 0, 1) := by decide +kernel
theorem dX4_held_47 : decode cX4_held 47 = .ok (.ireturn, 1) := by decide +kernel
set_option maxRecDepth 20000 in
theorem ggX4_frame_X4_in : GoodIn wsX4_frame wsX4_in := goodIn_r _ [7] (by decide +kernel) (by decide +kernel)
set_option maxRecDepth 20000 in
theorem gX4_frame_X4_in : GoodIn wsX4_frame (va_wsS RX4 49 yX4_in wsX4_in) := goodIn_app (goodIn_of _ (by decide +kernel)) ggX4_frame_X4_in
set_option maxRecDepth 20000 in
theorem ggX4_frame_X4_time : GoodIn wsX4_frame wsX4_time := goodIn_r _ [11, 1, 3, 12, 13, 14, 4, 5, 6, 7, 15, 16, 17, 18, 19, 20, 21, 22, 23, 24, 25, 26, 27, 28, 29, 30, 31, 32, 33, 34, 35, 36, 37, 38, 39, 40, 41, 42] (by decide +kernel) (by decide +kernel)
set_option maxRecDepth 20000 in
theorem gX4_frame_X4_time : GoodIn wsX4_frame (wsV RX4 105 RX4 yX4_time wsX4_time) := goodIn_app (goodIn_of _ (by decide +kernel)) ggX4_frame_X4_time
theorem dX4_frame_0 : decode cX4_frame 0 = .ok (.iload_n 1, 1) := by decide +kernel
theorem dX4_frame_1 : decode cX4_frame 1 = .ok (.i2l, 1) := by decide +kernel
theorem dX4_frame_2 : decode cX4_frame 2 = .ok (.lconst 0, 1) := by decide +kernel
theorem dX4_frame_3 : decode cX4_frame 3 = .ok (.ldc2_w 53, 3) := by decide +kernel
theorem dX4_frame_6 : decode cX4_frame 6 = .ok (.invokestatic 49, 3) := by decide +kernel
theorem dX4_frame_9 : decode cX4_frame 9 = .ok (.ifCond .eq 15, 3) := by decide +kernel
theorem dX4_frame_12 : decode cX4_frame 12 = .ok (.iload_n 2, 1) := by decide +kernel
theorem dX4_frame_13 : decode cX4_frame 13 = .ok (.i2l, 1) := by decide +kernel
theorem dX4_frame_14 : decode cX4_frame 14 = .ok (.lconst 1, 1) := by decide +kernel
theorem dX4_frame_15 : decode cX4_frame 15 = .ok (.ldc2_w 103, 3) := by decide +kernel
theorem dX4_frame_18 : decode cX4_frame 18 = .ok (.invokestatic 49, 3) := by decide +kernel
theorem dX4_frame_21 : decode cX4_frame 21 = .ok (.ifCond .ne 7, 3) := by decide +kernel
theorem dX4_frame_24 : decode cX4_frame 24 = .ok (.ldc2_w 86, 3) := by decide +kernel
theorem dX4_frame_27 : decode cX4_frame 27 = .ok (.lreturn, 1) := by decide +kernel
theorem dX4_frame_28 : decode cX4_frame 28 = .ok (.aload_n 0, 1) := by decide +kernel
theorem dX4_frame_29 : decode cX4_frame 29 = .ok (.iload_n 1, 1) := by decide +kernel
theorem dX4_frame_30 : decode cX4_frame 30 = .ok (.invokevirtual 105, 3) := by decide +kernel
theorem dX4_frame_33 : decode cX4_frame 33 = .ok (.iload_n 2, 1) := by decide +kernel
theorem dX4_frame_34 : decode cX4_frame 34 = .ok (.i2l, 1) := by decide +kernel
theorem dX4_frame_35 : decode cX4_frame 35 = .ok (.lmul, 1) := by decide +kernel
theorem dX4_frame_36 : decode cX4_frame 36 = .ok (.ldc2_w 53, 3) := by decide +kernel
theorem dX4_frame_39 : decode cX4_frame 39 = .ok (.ldiv, 1) := by decide +kernel
theorem dX4_frame_40 : decode cX4_frame 40 = .ok (.lreturn, 1) := by decide +kernel
set_option maxRecDepth 20000 in
theorem ggX4_tickOf_X4_in : GoodIn wsX4_tickOf wsX4_in := goodIn_r _ [8] (by decide +kernel) (by decide +kernel)
set_option maxRecDepth 20000 in
theorem gX4_tickOf_X4_in : GoodIn wsX4_tickOf (va_wsS RX4 49 yX4_in wsX4_in) := goodIn_app (goodIn_of _ (by decide +kernel)) ggX4_tickOf_X4_in
set_option maxRecDepth 20000 in
theorem ggX4_tickOf_X4_lastBegun : GoodIn wsX4_tickOf wsX4_lastBegun := goodIn_r _ [12, 13, 4, 14, 15, 16, 17, 18, 7, 19, 20, 21, 22, 23, 24, 25, 26, 27, 28, 29, 30, 31, 32, 33, 34, 35, 36, 37, 38, 39, 40, 41, 42, 43, 44, 45, 46, 47, 48, 49, 50, 51, 52] (by decide +kernel) (by decide +kernel)
set_option maxRecDepth 20000 in
theorem gX4_tickOf_X4_lastBegun : GoodIn wsX4_tickOf (wsV RX4 99 RX4 yX4_lastBegun wsX4_lastBegun) := goodIn_app (goodIn_of _ (by decide +kernel)) ggX4_tickOf_X4_lastBegun
theorem dX4_tickOf_0 : decode cX4_tickOf 0 = .ok (.lload_n 1, 1) := by decide +kernel
theorem dX4_tickOf_1 : decode cX4_tickOf 1 = .ok (.lconst 0, 1) := by decide +kernel
theorem dX4_tickOf_2 : decode cX4_tickOf 2 = .ok (.lcmp, 1) := by decide +kernel
theorem dX4_tickOf_3 : decode cX4_tickOf 3 = .ok (.ifCond .lt 15, 3) := by decide +kernel
theorem dX4_tickOf_6 : decode cX4_tickOf 6 = .ok (.iload_n 3, 1) := by decide +kernel
theorem dX4_tickOf_7 : decode cX4_tickOf 7 = .ok (.i2l, 1) := by decide +kernel
theorem dX4_tickOf_8 : decode cX4_tickOf 8 = .ok (.lconst 1, 1) := by decide +kernel
theorem dX4_tickOf_9 : decode cX4_tickOf 9 = .ok (.ldc2_w 103, 3) := by decide +kernel
theorem dX4_tickOf_12 : decode cX4_tickOf 12 = .ok (.invokestatic 49, 3) := by decide +kernel
theorem dX4_tickOf_15 : decode cX4_tickOf 15 = .ok (.ifCond .ne 6, 3) := by decide +kernel
theorem dX4_tickOf_18 : decode cX4_tickOf 18 = .ok (.bipush (-2), 2) := by decide +kernel
theorem dX4_tickOf_20 : decode cX4_tickOf 20 = .ok (.ireturn, 1) := by decide +kernel
theorem dX4_tickOf_21 : decode cX4_tickOf 21 = .ok (.lload_n 1, 1) := by decide +kernel
theorem dX4_tickOf_22 : decode cX4_tickOf 22 = .ok (.lconst 0, 1) := by decide +kernel
theorem dX4_tickOf_23 : decode cX4_tickOf 23 = .ok (.lcmp, 1) := by decide +kernel
theorem dX4_tickOf_24 : decode cX4_tickOf 24 = .ok (.ifCond .ne 5, 3) := by decide +kernel
theorem dX4_tickOf_27 : decode cX4_tickOf 27 = .ok (.iconst 0, 1) := by decide +kernel
theorem dX4_tickOf_28 : decode cX4_tickOf 28 = .ok (.ireturn, 1) := by decide +kernel
theorem dX4_tickOf_29 : decode cX4_tickOf 29 = .ok (.lload_n 1, 1) := by decide +kernel
theorem dX4_tickOf_30 : decode cX4_tickOf 30 = .ok (.ldc2_w 109, 3) := by decide +kernel
theorem dX4_tickOf_33 : decode cX4_tickOf 33 = .ok (.lcmp, 1) := by decide +kernel
theorem dX4_tickOf_34 : decode cX4_tickOf 34 = .ok (.ifCond .le 5, 3) := by decide +kernel
theorem dX4_tickOf_37 : decode cX4_tickOf 37 = .ok (.iconst (-1), 1) := by decide +kernel
theorem dX4_tickOf_38 : decode cX4_tickOf 38 = .ok (.ireturn, 1) := by decide +kernel
theorem dX4_tickOf_39 : decode cX4_tickOf 39 = .ok (.lload_n 1, 1) := by decide +kernel
theorem dX4_tickOf_40 : decode cX4_tickOf 40 = .ok (.ldc2_w 53, 3) := by decide +kernel
theorem dX4_tickOf_43 : decode cX4_tickOf 43 = .ok (.lmul, 1) := by decide +kernel
theorem dX4_tickOf_44 : decode cX4_tickOf 44 = .ok (.iload_n 3, 1) := by decide +kernel
theorem dX4_tickOf_45 : decode cX4_tickOf 45 = .ok (.i2l, 1) := by decide +kernel
theorem dX4_tickOf_46 : decode cX4_tickOf 46 = .ok (.ladd, 1) := by decide +kernel
theorem dX4_tickOf_47 : decode cX4_tickOf 47 = .ok (.lconst 1, 1) := by decide +kernel
theorem dX4_tickOf_48 : decode cX4_tickOf 48 = .ok (.lsub, 1) := by decide +kernel
theorem dX4_tickOf_49 : decode cX4_tickOf 49 = .ok (.iload_n 3, 1) := by decide +kernel
theorem dX4_tickOf_50 : decode cX4_tickOf 50 = .ok (.i2l, 1) := by decide +kernel
theorem dX4_tickOf_51 : decode cX4_tickOf 51 = .ok (.ldiv, 1) := by decide +kernel
theorem dX4_tickOf_52 : decode cX4_tickOf 52 = .ok (.lstore 4, 2) := by decide +kernel
theorem dX4_tickOf_54 : decode cX4_tickOf 54 = .ok (.aload_n 0, 1) := by decide +kernel
theorem dX4_tickOf_55 : decode cX4_tickOf 55 = .ok (.lload 4, 2) := by decide +kernel
theorem dX4_tickOf_57 : decode cX4_tickOf 57 = .ok (.lconst 1, 1) := by decide +kernel
theorem dX4_tickOf_58 : decode cX4_tickOf 58 = .ok (.lsub, 1) := by decide +kernel
theorem dX4_tickOf_59 : decode cX4_tickOf 59 = .ok (.invokevirtual 99, 3) := by decide +kernel
theorem dX4_tickOf_62 : decode cX4_tickOf 62 = .ok (.istore 6, 2) := by decide +kernel
theorem dX4_tickOf_64 : decode cX4_tickOf 64 = .ok (.iload 6, 2) := by decide +kernel
theorem dX4_tickOf_66 : decode cX4_tickOf 66 = .ok (.ldc 61, 2) := by decide +kernel
theorem dX4_tickOf_68 : decode cX4_tickOf 68 = .ok (.if_icmp .ne 7, 3) := by decide +kernel
theorem dX4_tickOf_71 : decode cX4_tickOf 71 = .ok (.iconst (-1), 1) := by decide +kernel
theorem dX4_tickOf_72 : decode cX4_tickOf 72 = .ok (.goto 7, 3) := by decide +kernel
theorem dX4_tickOf_75 : decode cX4_tickOf 75 = .ok (.iload 6, 2) := by decide +kernel
theorem dX4_tickOf_77 : decode cX4_tickOf 77 = .ok (.iconst 1, 1) := by decide +kernel
theorem dX4_tickOf_78 : decode cX4_tickOf 78 = .ok (.iadd, 1) := by decide +kernel
theorem dX4_tickOf_79 : decode cX4_tickOf 79 = .ok (.ireturn, 1) := by decide +kernel
set_option maxRecDepth 20000 in
theorem ggX4_tap_X4_in : GoodIn wsX4_tap wsX4_in := goodIn_r _ [7] (by decide +kernel) (by decide +kernel)
set_option maxRecDepth 20000 in
theorem gX4_tap_X4_in : GoodIn wsX4_tap (va_wsS RX4 49 yX4_in wsX4_in) := goodIn_app (goodIn_of _ (by decide +kernel)) ggX4_tap_X4_in
theorem dX4_tap_0 : decode cX4_tap 0 = .ok (.lload_n 1, 1) := by decide +kernel
theorem dX4_tap_1 : decode cX4_tap 1 = .ok (.lconst 0, 1) := by decide +kernel
theorem dX4_tap_2 : decode cX4_tap 2 = .ok (.ldc2_w 111, 3) := by decide +kernel
theorem dX4_tap_5 : decode cX4_tap 5 = .ok (.invokestatic 49, 3) := by decide +kernel
theorem dX4_tap_8 : decode cX4_tap 8 = .ok (.ifCond .ne 6, 3) := by decide +kernel
theorem dX4_tap_11 : decode cX4_tap 11 = .ok (.bipush (-2), 2) := by decide +kernel
theorem dX4_tap_13 : decode cX4_tap 13 = .ok (.ireturn, 1) := by decide +kernel
theorem dX4_tap_14 : decode cX4_tap 14 = .ok (.aload_n 0, 1) := by decide +kernel
theorem dX4_tap_15 : decode cX4_tap 15 = .ok (.getfield 77, 3) := by decide +kernel
theorem dX4_tap_18 : decode cX4_tap 18 = .ok (.ifCond .le 22, 3) := by decide +kernel
theorem dX4_tap_21 : decode cX4_tap 21 = .ok (.lload_n 1, 1) := by decide +kernel
theorem dX4_tap_22 : decode cX4_tap 22 = .ok (.aload_n 0, 1) := by decide +kernel
theorem dX4_tap_23 : decode cX4_tap 23 = .ok (.getfield 28, 3) := by decide +kernel
theorem dX4_tap_26 : decode cX4_tap 26 = .ok (.aload_n 0, 1) := by decide +kernel
theorem dX4_tap_27 : decode cX4_tap 27 = .ok (.getfield 77, 3) := by decide +kernel
theorem dX4_tap_30 : decode cX4_tap 30 = .ok (.iconst 1, 1) := by decide +kernel
theorem dX4_tap_31 : decode cX4_tap 31 = .ok (.isub, 1) := by decide +kernel
theorem dX4_tap_32 : decode cX4_tap 32 = .ok (.laload, 1) := by decide +kernel
theorem dX4_tap_33 : decode cX4_tap 33 = .ok (.lcmp, 1) := by decide +kernel
theorem dX4_tap_34 : decode cX4_tap 34 = .ok (.ifCond .gt 6, 3) := by decide +kernel
theorem dX4_tap_37 : decode cX4_tap 37 = .ok (.bipush (-3), 2) := by decide +kernel
theorem dX4_tap_39 : decode cX4_tap 39 = .ok (.ireturn, 1) := by decide +kernel
theorem dX4_tap_40 : decode cX4_tap 40 = .ok (.aload_n 0, 1) := by decide +kernel
theorem dX4_tap_41 : decode cX4_tap 41 = .ok (.getfield 77, 3) := by decide +kernel
theorem dX4_tap_44 : decode cX4_tap 44 = .ok (.bipush 40, 2) := by decide +kernel
theorem dX4_tap_46 : decode cX4_tap 46 = .ok (.if_icmp .ne 6, 3) := by decide +kernel
theorem dX4_tap_49 : decode cX4_tap 49 = .ok (.bipush (-4), 2) := by decide +kernel
theorem dX4_tap_51 : decode cX4_tap 51 = .ok (.ireturn, 1) := by decide +kernel
theorem dX4_tap_52 : decode cX4_tap 52 = .ok (.aload_n 0, 1) := by decide +kernel
theorem dX4_tap_53 : decode cX4_tap 53 = .ok (.getfield 28, 3) := by decide +kernel
theorem dX4_tap_56 : decode cX4_tap 56 = .ok (.aload_n 0, 1) := by decide +kernel
theorem dX4_tap_57 : decode cX4_tap 57 = .ok (.getfield 77, 3) := by decide +kernel
theorem dX4_tap_60 : decode cX4_tap 60 = .ok (.lload_n 1, 1) := by decide +kernel
theorem dX4_tap_61 : decode cX4_tap 61 = .ok (.lastore, 1) := by decide +kernel
theorem dX4_tap_62 : decode cX4_tap 62 = .ok (.aload_n 0, 1) := by decide +kernel
theorem dX4_tap_63 : decode cX4_tap 63 = .ok (.dup, 1) := by decide +kernel
theorem dX4_tap_64 : decode cX4_tap 64 = .ok (.getfield 77, 3) := by decide +kernel
theorem dX4_tap_67 : decode cX4_tap 67 = .ok (.iconst 1, 1) := by decide +kernel
theorem dX4_tap_68 : decode cX4_tap 68 = .ok (.iadd, 1) := by decide +kernel
theorem dX4_tap_69 : decode cX4_tap 69 = .ok (.putfield 77, 3) := by decide +kernel
theorem dX4_tap_72 : decode cX4_tap 72 = .ok (.aload_n 0, 1) := by decide +kernel
theorem dX4_tap_73 : decode cX4_tap 73 = .ok (.getfield 77, 3) := by decide +kernel
theorem dX4_tap_76 : decode cX4_tap 76 = .ok (.ireturn, 1) := by decide +kernel
theorem dX4_noTaps_0 : decode cX4_noTaps 0 = .ok (.aload_n 0, 1) := by decide +kernel
theorem dX4_noTaps_1 : decode cX4_noTaps 1 = .ok (.getfield 77, 3) := by decide +kernel
theorem dX4_noTaps_4 : decode cX4_noTaps 4 = .ok (.istore_n 1, 1) := by decide +kernel
theorem dX4_noTaps_5 : decode cX4_noTaps 5 = .ok (.aload_n 0, 1) := by decide +kernel
theorem dX4_noTaps_6 : decode cX4_noTaps 6 = .ok (.iconst 0, 1) := by decide +kernel
theorem dX4_noTaps_7 : decode cX4_noTaps 7 = .ok (.putfield 77, 3) := by decide +kernel
theorem dX4_noTaps_10 : decode cX4_noTaps 10 = .ok (.iload_n 1, 1) := by decide +kernel
theorem dX4_noTaps_11 : decode cX4_noTaps 11 = .ok (.ireturn, 1) := by decide +kernel
theorem dX4_above_0 : decode cX4_above 0 = .ok (.lconst 0, 1) := by decide +kernel
theorem dX4_above_1 : decode cX4_above 1 = .ok (.lstore_n 1, 1) := by decide +kernel
theorem dX4_above_2 : decode cX4_above 2 = .ok (.iconst 0, 1) := by decide +kernel
theorem dX4_above_3 : decode cX4_above 3 = .ok (.istore_n 3, 1) := by decide +kernel
theorem dX4_above_4 : decode cX4_above 4 = .ok (.iload_n 3, 1) := by decide +kernel
theorem dX4_above_5 : decode cX4_above 5 = .ok (.aload_n 0, 1) := by decide +kernel
theorem dX4_above_6 : decode cX4_above 6 = .ok (.getfield 77, 3) := by decide +kernel
theorem dX4_above_9 : decode cX4_above 9 = .ok (.if_icmp .ge 33, 3) := by decide +kernel
theorem dX4_above_12 : decode cX4_above 12 = .ok (.lload_n 1, 1) := by decide +kernel
theorem dX4_above_13 : decode cX4_above 13 = .ok (.ldc2_w 113, 3) := by decide +kernel
theorem dX4_above_16 : decode cX4_above 16 = .ok (.iload_n 3, 1) := by decide +kernel
theorem dX4_above_17 : decode cX4_above 17 = .ok (.i2l, 1) := by decide +kernel
theorem dX4_above_18 : decode cX4_above 18 = .ok (.lmul, 1) := by decide +kernel
theorem dX4_above_19 : decode cX4_above 19 = .ok (.aload_n 0, 1) := by decide +kernel
theorem dX4_above_20 : decode cX4_above 20 = .ok (.getfield 77, 3) := by decide +kernel
theorem dX4_above_23 : decode cX4_above 23 = .ok (.i2l, 1) := by decide +kernel
theorem dX4_above_24 : decode cX4_above 24 = .ok (.lsub, 1) := by decide +kernel
theorem dX4_above_25 : decode cX4_above 25 = .ok (.lconst 1, 1) := by decide +kernel
theorem dX4_above_26 : decode cX4_above 26 = .ok (.ladd, 1) := by decide +kernel
theorem dX4_above_27 : decode cX4_above 27 = .ok (.aload_n 0, 1) := by decide +kernel
theorem dX4_above_28 : decode cX4_above 28 = .ok (.getfield 28, 3) := by decide +kernel
theorem dX4_above_31 : decode cX4_above 31 = .ok (.iload_n 3, 1) := by decide +kernel
theorem dX4_above_32 : decode cX4_above 32 = .ok (.laload, 1) := by decide +kernel
theorem dX4_above_33 : decode cX4_above 33 = .ok (.lmul, 1) := by decide +kernel
theorem dX4_above_34 : decode cX4_above 34 = .ok (.ladd, 1) := by decide +kernel
theorem dX4_above_35 : decode cX4_above 35 = .ok (.lstore_n 1, 1) := by decide +kernel
theorem dX4_above_36 : decode cX4_above 36 = .ok (.iinc 3 1, 3) := by decide +kernel
theorem dX4_above_39 : decode cX4_above 39 = .ok (.goto (-35), 3) := by decide +kernel
theorem dX4_above_42 : decode cX4_above 42 = .ok (.ldc2_w 115, 3) := by decide +kernel
theorem dX4_above_45 : decode cX4_above 45 = .ok (.lload_n 1, 1) := by decide +kernel
theorem dX4_above_46 : decode cX4_above 46 = .ok (.lmul, 1) := by decide +kernel
theorem dX4_above_47 : decode cX4_above 47 = .ok (.lreturn, 1) := by decide +kernel
theorem dX4_below_0 : decode cX4_below 0 = .ok (.aload_n 0, 1) := by decide +kernel
theorem dX4_below_1 : decode cX4_below 1 = .ok (.getfield 77, 3) := by decide +kernel
theorem dX4_below_4 : decode cX4_below 4 = .ok (.i2l, 1) := by decide +kernel
theorem dX4_below_5 : decode cX4_below 5 = .ok (.aload_n 0, 1) := by decide +kernel
theorem dX4_below_6 : decode cX4_below 6 = .ok (.getfield 77, 3) := by decide +kernel
theorem dX4_below_9 : decode cX4_below 9 = .ok (.i2l, 1) := by decide +kernel
theorem dX4_below_10 : decode cX4_below 10 = .ok (.aload_n 0, 1) := by decide +kernel
theorem dX4_below_11 : decode cX4_below 11 = .ok (.getfield 77, 3) := by decide +kernel
theorem dX4_below_14 : decode cX4_below 14 = .ok (.i2l, 1) := by decide +kernel
theorem dX4_below_15 : decode cX4_below 15 = .ok (.lmul, 1) := by decide +kernel
theorem dX4_below_16 : decode cX4_below 16 = .ok (.lconst 1, 1) := by decide +kernel
theorem dX4_below_17 : decode cX4_below 17 = .ok (.lsub, 1) := by decide +kernel
theorem dX4_below_18 : decode cX4_below 18 = .ok (.lmul, 1) := by decide +kernel
theorem dX4_below_19 : decode cX4_below 19 = .ok (.lreturn, 1) := by decide +kernel
theorem dX4_common_0 : decode cX4_common 0 = .ok (.lload_n 0, 1) := by decide +kernel
theorem dX4_common_1 : decode cX4_common 1 = .ok (.lconst 0, 1) := by decide +kernel
theorem dX4_common_2 : decode cX4_common 2 = .ok (.lcmp, 1) := by decide +kernel
theorem dX4_common_3 : decode cX4_common 3 = .ok (.ifCond .ge 8, 3) := by decide +kernel
theorem dX4_common_6 : decode cX4_common 6 = .ok (.lload_n 0, 1) := by decide +kernel
theorem dX4_common_7 : decode cX4_common 7 = .ok (.lneg, 1) := by decide +kernel
theorem dX4_common_8 : decode cX4_common 8 = .ok (.goto 4, 3) := by decide +kernel
theorem dX4_common_11 : decode cX4_common 11 = .ok (.lload_n 0, 1) := by decide +kernel
theorem dX4_common_12 : decode cX4_common 12 = .ok (.lstore 4, 2) := by decide +kernel
theorem dX4_common_14 : decode cX4_common 14 = .ok (.lload_n 2, 1) := by decide +kernel
theorem dX4_common_15 : decode cX4_common 15 = .ok (.lstore 6, 2) := by decide +kernel
theorem dX4_common_17 : decode cX4_common 17 = .ok (.lload 6, 2) := by decide +kernel
theorem dX4_common_19 : decode cX4_common 19 = .ok (.lconst 0, 1) := by decide +kernel
theorem dX4_common_20 : decode cX4_common 20 = .ok (.lcmp, 1) := by decide +kernel
theorem dX4_common_21 : decode cX4_common 21 = .ok (.ifCond .le 21, 3) := by decide +kernel
theorem dX4_common_24 : decode cX4_common 24 = .ok (.lload 4, 2) := by decide +kernel
theorem dX4_common_26 : decode cX4_common 26 = .ok (.lload 6, 2) := by decide +kernel
theorem dX4_common_28 : decode cX4_common 28 = .ok (.lrem, 1) := by decide +kernel
theorem dX4_common_29 : decode cX4_common 29 = .ok (.lstore 8, 2) := by decide +kernel
theorem dX4_common_31 : decode cX4_common 31 = .ok (.lload 6, 2) := by decide +kernel
theorem dX4_common_33 : decode cX4_common 33 = .ok (.lstore 4, 2) := by decide +kernel
theorem dX4_common_35 : decode cX4_common 35 = .ok (.lload 8, 2) := by decide +kernel
theorem dX4_common_37 : decode cX4_common 37 = .ok (.lstore 6, 2) := by decide +kernel
theorem dX4_common_39 : decode cX4_common 39 = .ok (.goto (-22), 3) := by decide +kernel
theorem dX4_common_42 : decode cX4_common 42 = .ok (.lload 4, 2) := by decide +kernel
theorem dX4_common_44 : decode cX4_common 44 = .ok (.lreturn, 1) := by decide +kernel
set_option maxRecDepth 20000 in
theorem ggX4_fit_X4_in : GoodIn wsX4_fit wsX4_in := goodIn_r _ [7] (by decide +kernel) (by decide +kernel)
set_option maxRecDepth 20000 in
theorem gX4_fit_X4_in : GoodIn wsX4_fit (va_wsS RX4 49 yX4_in wsX4_in) := goodIn_app (goodIn_of _ (by decide +kernel)) ggX4_fit_X4_in
set_option maxRecDepth 20000 in
theorem ggX4_fit_X4_above : GoodIn wsX4_fit wsX4_above := goodIn_r _ [11, 2, 12, 13, 14, 22, 23, 24, 25, 26, 27, 28, 29, 30, 31, 32] (by decide +kernel) (by decide +kernel)
set_option maxRecDepth 20000 in
theorem gX4_fit_X4_above : GoodIn wsX4_fit (wsV RX4 119 RX4 yX4_above wsX4_above) := goodIn_app (goodIn_of _ (by decide +kernel)) ggX4_fit_X4_above
set_option maxRecDepth 20000 in
theorem ggX4_fit_X4_below : GoodIn wsX4_fit wsX4_below := goodIn_r _ [18, 2, 22, 23, 24, 25, 26, 27, 28, 29, 30, 31, 32] (by decide +kernel) (by decide +kernel)
set_option maxRecDepth 20000 in
theorem gX4_fit_X4_below : GoodIn wsX4_fit (wsV RX4 123 RX4 yX4_below wsX4_below) := goodIn_app (goodIn_of _ (by decide +kernel)) ggX4_fit_X4_below
set_option maxRecDepth 20000 in
theorem ggX4_fit_X4_common : GoodIn wsX4_fit wsX4_common := goodIn_r _ [21] (by decide +kernel) (by decide +kernel)
set_option maxRecDepth 20000 in
theorem gX4_fit_X4_common : GoodIn wsX4_fit (va_wsS RX4 126 yX4_common wsX4_common) := goodIn_app (goodIn_of _ (by decide +kernel)) ggX4_fit_X4_common
theorem dX4_fit_0 : decode cX4_fit 0 = .ok (.iload_n 1, 1) := by decide +kernel
theorem dX4_fit_1 : decode cX4_fit 1 = .ok (.i2l, 1) := by decide +kernel
theorem dX4_fit_2 : decode cX4_fit 2 = .ok (.lconst 0, 1) := by decide +kernel
theorem dX4_fit_3 : decode cX4_fit 3 = .ok (.lconst 1, 1) := by decide +kernel
theorem dX4_fit_4 : decode cX4_fit 4 = .ok (.invokestatic 49, 3) := by decide +kernel
theorem dX4_fit_7 : decode cX4_fit 7 = .ok (.ifCond .ne 7, 3) := by decide +kernel
theorem dX4_fit_10 : decode cX4_fit 10 = .ok (.ldc2_w 86, 3) := by decide +kernel
theorem dX4_fit_13 : decode cX4_fit 13 = .ok (.lreturn, 1) := by decide +kernel
theorem dX4_fit_14 : decode cX4_fit 14 = .ok (.aload_n 0, 1) := by decide +kernel
theorem dX4_fit_15 : decode cX4_fit 15 = .ok (.getfield 77, 3) := by decide +kernel
theorem dX4_fit_18 : decode cX4_fit 18 = .ok (.iconst 2, 1) := by decide +kernel
theorem dX4_fit_19 : decode cX4_fit 19 = .ok (.if_icmp .ge 7, 3) := by decide +kernel
theorem dX4_fit_22 : decode cX4_fit 22 = .ok (.ldc2_w 117, 3) := by decide +kernel
theorem dX4_fit_25 : decode cX4_fit 25 = .ok (.lreturn, 1) := by decide +kernel
theorem dX4_fit_26 : decode cX4_fit 26 = .ok (.aload_n 0, 1) := by decide +kernel
theorem dX4_fit_27 : decode cX4_fit 27 = .ok (.invokevirtual 119, 3) := by decide +kernel
theorem dX4_fit_30 : decode cX4_fit 30 = .ok (.aload_n 0, 1) := by decide +kernel
theorem dX4_fit_31 : decode cX4_fit 31 = .ok (.invokevirtual 123, 3) := by decide +kernel
theorem dX4_fit_34 : decode cX4_fit 34 = .ok (.invokestatic 126, 3) := by decide +kernel
theorem dX4_fit_37 : decode cX4_fit 37 = .ok (.lstore_n 2, 1) := by decide +kernel
theorem dX4_fit_38 : decode cX4_fit 38 = .ok (.iload_n 1, 1) := by decide +kernel
theorem dX4_fit_39 : decode cX4_fit 39 = .ok (.ifCond .ne 12, 3) := by decide +kernel
theorem dX4_fit_42 : decode cX4_fit 42 = .ok (.aload_n 0, 1) := by decide +kernel
theorem dX4_fit_43 : decode cX4_fit 43 = .ok (.invokevirtual 119, 3) := by decide +kernel
theorem dX4_fit_46 : decode cX4_fit 46 = .ok (.lload_n 2, 1) := by decide +kernel
theorem dX4_fit_47 : decode cX4_fit 47 = .ok (.ldiv, 1) := by decide +kernel
theorem dX4_fit_48 : decode cX4_fit 48 = .ok (.goto 9, 3) := by decide +kernel
theorem dX4_fit_51 : decode cX4_fit 51 = .ok (.aload_n 0, 1) := by decide +kernel
theorem dX4_fit_52 : decode cX4_fit 52 = .ok (.invokevirtual 123, 3) := by decide +kernel
theorem dX4_fit_55 : decode cX4_fit 55 = .ok (.lload_n 2, 1) := by decide +kernel
theorem dX4_fit_56 : decode cX4_fit 56 = .ok (.ldiv, 1) := by decide +kernel
theorem dX4_fit_57 : decode cX4_fit 57 = .ok (.lreturn, 1) := by decide +kernel
set_option maxRecDepth 20000 in
theorem ggX4_pace_X4_in : GoodIn wsX4_pace wsX4_in := goodIn_r _ [9] (by decide +kernel) (by decide +kernel)
set_option maxRecDepth 20000 in
theorem gX4_pace_X4_in : GoodIn wsX4_pace (va_wsS RX4 49 yX4_in wsX4_in) := goodIn_app (goodIn_of _ (by decide +kernel)) ggX4_pace_X4_in
set_option maxRecDepth 20000 in
theorem ggX4_pace_X4_below : GoodIn wsX4_pace wsX4_below := goodIn_r _ [13, 3, 20, 21, 22, 23, 24, 25, 26, 27, 28, 29, 30] (by decide +kernel) (by decide +kernel)
set_option maxRecDepth 20000 in
theorem gX4_pace_X4_below : GoodIn wsX4_pace (wsV RX4 123 RX4 yX4_below wsX4_below) := goodIn_app (goodIn_of _ (by decide +kernel)) ggX4_pace_X4_below
set_option maxRecDepth 20000 in
theorem ggX4_pace_X4_above : GoodIn wsX4_pace wsX4_above := goodIn_r _ [17, 3, 5, 18, 19, 20, 21, 22, 23, 24, 25, 26, 27, 28, 29, 30] (by decide +kernel) (by decide +kernel)
set_option maxRecDepth 20000 in
theorem gX4_pace_X4_above : GoodIn wsX4_pace (wsV RX4 119 RX4 yX4_above wsX4_above) := goodIn_app (goodIn_of _ (by decide +kernel)) ggX4_pace_X4_above
theorem dX4_pace_0 : decode cX4_pace 0 = .ok (.iload_n 1, 1) := by decide +kernel
theorem dX4_pace_1 : decode cX4_pace 1 = .ok (.i2l, 1) := by decide +kernel
theorem dX4_pace_2 : decode cX4_pace 2 = .ok (.lconst 1, 1) := by decide +kernel
theorem dX4_pace_3 : decode cX4_pace 3 = .ok (.ldc2_w 130, 3) := by decide +kernel
theorem dX4_pace_6 : decode cX4_pace 6 = .ok (.invokestatic 49, 3) := by decide +kernel
theorem dX4_pace_9 : decode cX4_pace 9 = .ok (.ifCond .ne 7, 3) := by decide +kernel
theorem dX4_pace_12 : decode cX4_pace 12 = .ok (.ldc2_w 86, 3) := by decide +kernel
theorem dX4_pace_15 : decode cX4_pace 15 = .ok (.lreturn, 1) := by decide +kernel
theorem dX4_pace_16 : decode cX4_pace 16 = .ok (.aload_n 0, 1) := by decide +kernel
theorem dX4_pace_17 : decode cX4_pace 17 = .ok (.getfield 77, 3) := by decide +kernel
theorem dX4_pace_20 : decode cX4_pace 20 = .ok (.iconst 2, 1) := by decide +kernel
theorem dX4_pace_21 : decode cX4_pace 21 = .ok (.if_icmp .ge 7, 3) := by decide +kernel
theorem dX4_pace_24 : decode cX4_pace 24 = .ok (.ldc2_w 117, 3) := by decide +kernel
theorem dX4_pace_27 : decode cX4_pace 27 = .ok (.lreturn, 1) := by decide +kernel
theorem dX4_pace_28 : decode cX4_pace 28 = .ok (.aload_n 0, 1) := by decide +kernel
theorem dX4_pace_29 : decode cX4_pace 29 = .ok (.invokevirtual 123, 3) := by decide +kernel
theorem dX4_pace_32 : decode cX4_pace 32 = .ok (.iload_n 1, 1) := by decide +kernel
theorem dX4_pace_33 : decode cX4_pace 33 = .ok (.i2l, 1) := by decide +kernel
theorem dX4_pace_34 : decode cX4_pace 34 = .ok (.lmul, 1) := by decide +kernel
theorem dX4_pace_35 : decode cX4_pace 35 = .ok (.lstore_n 2, 1) := by decide +kernel
theorem dX4_pace_36 : decode cX4_pace 36 = .ok (.ldc2_w 113, 3) := by decide +kernel
theorem dX4_pace_39 : decode cX4_pace 39 = .ok (.aload_n 0, 1) := by decide +kernel
theorem dX4_pace_40 : decode cX4_pace 40 = .ok (.invokevirtual 119, 3) := by decide +kernel
theorem dX4_pace_43 : decode cX4_pace 43 = .ok (.lmul, 1) := by decide +kernel
theorem dX4_pace_44 : decode cX4_pace 44 = .ok (.lload_n 2, 1) := by decide +kernel
theorem dX4_pace_45 : decode cX4_pace 45 = .ok (.lsub, 1) := by decide +kernel
theorem dX4_pace_46 : decode cX4_pace 46 = .ok (.lstore 4, 2) := by decide +kernel
theorem dX4_pace_48 : decode cX4_pace 48 = .ok (.lload 4, 2) := by decide +kernel
theorem dX4_pace_50 : decode cX4_pace 50 = .ok (.lconst 0, 1) := by decide +kernel
theorem dX4_pace_51 : decode cX4_pace 51 = .ok (.lcmp, 1) := by decide +kernel
theorem dX4_pace_52 : decode cX4_pace 52 = .ok (.ifCond .gt 7, 3) := by decide +kernel
theorem dX4_pace_55 : decode cX4_pace 55 = .ok (.lconst 0, 1) := by decide +kernel
theorem dX4_pace_56 : decode cX4_pace 56 = .ok (.goto 19, 3) := by decide +kernel
theorem dX4_pace_59 : decode cX4_pace 59 = .ok (.lload 4, 2) := by decide +kernel
theorem dX4_pace_61 : decode cX4_pace 61 = .ok (.ldc2_w 113, 3) := by decide +kernel
theorem dX4_pace_64 : decode cX4_pace 64 = .ok (.lload_n 2, 1) := by decide +kernel
theorem dX4_pace_65 : decode cX4_pace 65 = .ok (.lmul, 1) := by decide +kernel
theorem dX4_pace_66 : decode cX4_pace 66 = .ok (.ladd, 1) := by decide +kernel
theorem dX4_pace_67 : decode cX4_pace 67 = .ok (.lconst 1, 1) := by decide +kernel
theorem dX4_pace_68 : decode cX4_pace 68 = .ok (.lsub, 1) := by decide +kernel
theorem dX4_pace_69 : decode cX4_pace 69 = .ok (.ldc2_w 113, 3) := by decide +kernel
theorem dX4_pace_72 : decode cX4_pace 72 = .ok (.lload_n 2, 1) := by decide +kernel
theorem dX4_pace_73 : decode cX4_pace 73 = .ok (.lmul, 1) := by decide +kernel
theorem dX4_pace_74 : decode cX4_pace 74 = .ok (.ldiv, 1) := by decide +kernel
theorem dX4_pace_75 : decode cX4_pace 75 = .ok (.lreturn, 1) := by decide +kernel
end
section
set_option maxRecDepth 20000 in
theorem ggL_law_X3_init : GoodIn wsL_law wsX3_init := goodIn_r _ [9, 10, 11, 12, 13, 14, 15, 16, 17, 18, 19, 20, 21, 22, 23, 24, 25, 26, 27, 28, 29, 30, 31, 32, 33, 34, 35, 36, 37, 38, 39, 40, 41, 42, 43, 421, 422, 423, 424, 425, 426, 407, 408, 409, 427, 428, 429, 430, 431] (by decide +kernel) (by decide +kernel)
set_option maxRecDepth 20000 in
theorem gL_law_X3_init : GoodIn wsL_law (wsX3_init) := ggL_law_X3_init
set_option maxRecDepth 20000 in
theorem ggL_law_X4_init : GoodIn wsL_law wsX4_init := goodIn_r _ [46, 47, 11, 12, 28, 48, 49, 50, 51, 52, 53, 33, 54, 55, 410, 411, 412, 413, 414, 415, 416, 417, 418, 419, 420] (by decide +kernel) (by decide +kernel)
set_option maxRecDepth 20000 in
theorem gL_law_X4_init : GoodIn wsL_law (wsX4_init) := ggL_law_X4_init
set_option maxRecDepth 20000 in
theorem ggL_law_X3_step : GoodIn wsL_law wsX3_step := goodIn_r _ [59, 60, 61, 16, 62, 63, 2, 64, 65, 66, 67, 15, 68, 29, 30, 69, 70, 71, 72, 73, 74, 75, 76, 77, 78, 79, 80, 81, 31, 32, 82, 83, 84, 85, 86, 87, 88, 89, 90, 91, 92, 93, 34, 94, 95, 96, 97, 98, 99, 100, 101, 102, 103, 104, 105, 106, 107, 108, 109, 110, 111, 112, 407, 408, 409, 421, 422, 423, 424, 425, 426] (by decide +kernel) (by decide +kernel)
set_option maxRecDepth 20000 in
theorem gL_law_X3_step : GoodIn wsL_law (wsV RL 13 RX3 yX3_step wsX3_step) := goodIn_app (goodIn_of _ (by decide +kernel)) ggL_law_X3_step
set_option maxRecDepth 20000 in
theorem ggL_law_X4_step : GoodIn wsL_law wsX4_step := goodIn_r _ [116, 117, 118, 119, 120, 5, 121, 122, 123, 124, 125, 55, 48, 49, 50, 51, 126, 127, 128, 129, 130, 131, 132, 133, 134, 135, 136, 137, 410, 411, 412, 413, 414, 415, 416, 417, 418, 419, 420] (by decide +kernel) (by decide +kernel)
set_option maxRecDepth 20000 in
theorem gL_law_X4_step : GoodIn wsL_law (wsV RL 17 RX4 yX4_step wsX4_step) := goodIn_app (goodIn_of _ (by decide +kernel)) ggL_law_X4_step
set_option maxRecDepth 20000 in
theorem ggL_law_X3_slope : GoodIn wsL_law wsX3_slope := goodIn_r _ [141, 60, 61, 16, 62, 63, 2, 64, 65, 66, 67, 15, 68, 29, 30, 69, 70, 71, 72, 73, 142, 143, 144, 145, 146, 79, 80, 81, 31, 32, 82, 83, 84, 85, 86, 87, 88, 89, 90, 91, 92, 93, 34, 94, 95, 96, 97, 98, 99, 100, 101, 102, 103, 104, 105, 106, 107, 108, 109, 110, 111, 112, 407, 408, 409, 421, 422, 423, 424, 425, 426] (by decide +kernel) (by decide +kernel)
set_option maxRecDepth 20000 in
theorem gL_law_X3_slope : GoodIn wsL_law (wsV RL 18 RX3 yX3_slope wsX3_slope) := goodIn_app (goodIn_of _ (by decide +kernel)) ggL_law_X3_slope
set_option maxRecDepth 20000 in
theorem ggL_law_X4_slope : GoodIn wsL_law wsX4_slope := goodIn_r _ [150, 117, 151, 118, 152, 119, 120, 5, 121, 122, 123, 124, 125, 55, 48, 49, 50, 51, 126, 127, 128, 129, 130, 131, 132, 133, 134, 135, 136, 137, 410, 411, 412, 413, 414, 415, 416, 417, 418, 419, 420] (by decide +kernel) (by decide +kernel)
set_option maxRecDepth 20000 in
theorem gL_law_X4_slope : GoodIn wsL_law (wsV RL 22 RX4 yX4_slope wsX4_slope) := goodIn_app (goodIn_of _ (by decide +kernel)) ggL_law_X4_slope
set_option maxRecDepth 20000 in
theorem ggL_law_X3_modulate : GoodIn wsL_law wsX3_modulate := goodIn_r _ [156, 60, 16, 61, 62, 63, 2, 64, 157, 158, 159, 15, 160, 29, 30, 32, 31, 69, 70, 71, 72, 73, 161, 162, 108, 163, 65, 66, 67, 68, 74, 75, 76, 77, 78, 79, 80, 81, 82, 83, 84, 85, 86, 87, 88, 89, 90, 91, 92, 93, 34, 94, 95, 96, 97, 98, 99, 100, 101, 102, 103, 104, 105, 106, 107, 109, 110, 111, 112, 407, 408, 409, 421, 422, 423, 424, 425, 426] (by decide +kernel) (by decide +kernel)
set_option maxRecDepth 20000 in
theorem gL_law_X3_modulate : GoodIn wsL_law (wsV RL 23 RX3 yX3_modulate wsX3_modulate) := goodIn_app (goodIn_of _ (by decide +kernel)) ggL_law_X3_modulate
set_option maxRecDepth 20000 in
theorem ggL_law_X4_modulate : GoodIn wsL_law wsX4_modulate := goodIn_r _ [167, 117, 168, 118, 119, 120, 5, 121, 169, 170, 171, 172, 173, 174, 175, 176, 48, 49, 51, 50, 177, 178, 179, 180, 55, 122, 123, 124, 125, 126, 127, 128, 129, 130, 131, 132, 133, 134, 135, 136, 137, 410, 411, 412, 413, 414, 415, 416, 417, 418, 419, 420] (by decide +kernel) (by decide +kernel)
set_option maxRecDepth 20000 in
theorem gL_law_X4_modulate : GoodIn wsL_law (wsV RL 27 RX4 yX4_modulate wsX4_modulate) := goodIn_app (goodIn_of _ (by decide +kernel)) ggL_law_X4_modulate
set_option maxRecDepth 20000 in
theorem ggL_law_X3_drop : GoodIn wsL_law wsX3_drop := goodIn_r _ [184, 16, 185, 186, 187, 15, 188, 29, 73, 69, 70, 71, 72, 86, 87, 88, 89, 30, 31, 32, 90, 91, 92, 93, 34, 94, 95, 96, 97, 98, 99, 100, 101, 102, 103, 2, 104, 105, 106, 107, 108, 109, 110, 111, 112, 407, 408, 409, 421, 422, 423, 424, 425, 426] (by decide +kernel) (by decide +kernel)
set_option maxRecDepth 20000 in
theorem gL_law_X3_drop : GoodIn wsL_law (wsV RL 28 RX3 yX3_drop wsX3_drop) := goodIn_app (goodIn_of _ (by decide +kernel)) ggL_law_X3_drop
set_option maxRecDepth 20000 in
theorem ggL_law_X4_drop : GoodIn wsL_law wsX4_drop := goodIn_r _ [192, 55, 48, 49, 50, 51, 126, 127, 128, 5, 129, 410, 411, 412, 413, 414, 415, 416, 417, 418, 419, 420] (by decide +kernel) (by decide +kernel)
set_option maxRecDepth 20000 in
theorem gL_law_X4_drop : GoodIn wsL_law (wsV RL 32 RX4 yX4_drop wsX4_drop) := goodIn_app (goodIn_of _ (by decide +kernel)) ggL_law_X4_drop
set_option maxRecDepth 20000 in
theorem ggL_law_X3_hold : GoodIn wsL_law wsX3_hold := goodIn_r _ [196, 61, 197, 20, 62, 63, 2, 64, 198, 199, 200, 19, 201, 202, 38, 39, 203, 204, 205, 206, 207, 208, 209, 210, 407, 408, 409, 427, 428, 429] (by decide +kernel) (by decide +kernel)
set_option maxRecDepth 20000 in
theorem gL_law_X3_hold : GoodIn wsL_law (wsV RL 33 RX3 yX3_hold wsX3_hold) := goodIn_app (goodIn_of _ (by decide +kernel)) ggL_law_X3_hold
set_option maxRecDepth 20000 in
theorem ggL_law_X4_hold : GoodIn wsL_law wsX4_hold := goodIn_r _ [214, 118, 215, 216, 52, 53, 119, 120, 5, 121, 217, 218, 219, 220, 410, 411, 412, 413, 414, 415, 416, 417, 418, 419, 420] (by decide +kernel) (by decide +kernel)
set_option maxRecDepth 20000 in
theorem gL_law_X4_hold : GoodIn wsL_law (wsV RL 36 RX4 yX4_hold wsX4_hold) := goodIn_app (goodIn_of _ (by decide +kernel)) ggL_law_X4_hold
set_option maxRecDepth 20000 in
theorem ggL_law_X3_mark : GoodIn wsL_law wsX3_mark := goodIn_r _ [224, 16, 62, 63, 2, 64, 225, 226, 227, 15, 228, 73, 29, 30, 31, 32, 407, 408, 409, 421, 422, 423, 424, 425, 426] (by decide +kernel) (by decide +kernel)
set_option maxRecDepth 20000 in
theorem gL_law_X3_mark : GoodIn wsL_law (wsV RL 37 RX3 yX3_mark wsX3_mark) := goodIn_app (goodIn_of _ (by decide +kernel)) ggL_law_X3_mark
set_option maxRecDepth 20000 in
theorem ggL_law_X4_mark : GoodIn wsL_law wsX4_mark := goodIn_r _ [232, 233, 55, 48, 49, 50, 51, 119, 120, 5, 121, 410, 411, 412, 413, 414, 415, 416, 417, 418, 419, 420] (by decide +kernel) (by decide +kernel)
set_option maxRecDepth 20000 in
theorem gL_law_X4_mark : GoodIn wsL_law (wsV RL 40 RX4 yX4_mark wsX4_mark) := goodIn_app (goodIn_of _ (by decide +kernel)) ggL_law_X4_mark
set_option maxRecDepth 20000 in
theorem ggL_law_X3_count : GoodIn wsL_law wsX3_count := goodIn_r _ [237, 16, 20, 24, 407, 408, 409, 421, 422, 423, 424, 425, 426, 427, 428, 429, 430, 431] (by decide +kernel) (by decide +kernel)
set_option maxRecDepth 20000 in
theorem gL_law_X3_count : GoodIn wsL_law (wsV RL 41 RX3 yX3_count wsX3_count) := goodIn_app (goodIn_of _ (by decide +kernel)) ggL_law_X3_count
set_option maxRecDepth 20000 in
theorem ggL_law_X4_count : GoodIn wsL_law wsX4_count := goodIn_r _ [241, 55, 216, 242, 410, 411, 412, 413, 414, 415, 416, 417, 418, 419, 420] (by decide +kernel) (by decide +kernel)
set_option maxRecDepth 20000 in
theorem gL_law_X4_count : GoodIn wsL_law (wsV RL 44 RX4 yX4_count wsX4_count) := goodIn_app (goodIn_of _ (by decide +kernel)) ggL_law_X4_count
set_option maxRecDepth 20000 in
theorem ggL_law_X3_lasts : GoodIn wsL_law wsX3_lasts := goodIn_r _ [246, 60, 16, 62, 63, 2, 64, 157, 158, 159, 15, 160, 29, 30, 32, 31, 69, 70, 71, 72, 73, 161, 162, 108, 163, 407, 408, 409, 421, 422, 423, 424, 425, 426] (by decide +kernel) (by decide +kernel)
set_option maxRecDepth 20000 in
theorem gL_law_X3_lasts : GoodIn wsL_law (wsV RL 45 RX3 yX3_lasts wsX3_lasts) := goodIn_app (goodIn_of _ (by decide +kernel)) ggL_law_X3_lasts
set_option maxRecDepth 20000 in
theorem ggL_law_X4_lasts : GoodIn wsL_law wsX4_lasts := goodIn_r _ [172, 117, 119, 120, 5, 121, 173, 174, 175, 176, 48, 49, 51, 50, 177, 178, 179, 180, 55, 410, 411, 412, 413, 414, 415, 416, 417, 418, 419, 420] (by decide +kernel) (by decide +kernel)
set_option maxRecDepth 20000 in
theorem gL_law_X4_lasts : GoodIn wsL_law (wsV RL 48 RX4 yX4_lasts wsX4_lasts) := goodIn_app (goodIn_of _ (by decide +kernel)) ggL_law_X4_lasts
set_option maxRecDepth 20000 in
theorem ggL_law_X3_time : GoodIn wsL_law wsX3_time := goodIn_r _ [251, 61, 252, 62, 63, 2, 64, 253, 254, 255, 256, 16, 20, 257, 258, 259, 15, 260, 69, 70, 71, 72, 73, 29, 94, 95, 96, 97, 98, 30, 99, 100, 101, 102, 32, 31, 34, 103, 104, 105, 106, 107, 108, 109, 110, 111, 112, 261, 262, 263, 19, 264, 202, 38, 39, 407, 408, 409, 421, 422, 423, 424, 425, 426, 427, 428, 429] (by decide +kernel) (by decide +kernel)
set_option maxRecDepth 20000 in
theorem gL_law_X3_time : GoodIn wsL_law (wsV RL 49 RX3 yX3_time wsX3_time) := goodIn_app (goodIn_of _ (by decide +kernel)) ggL_law_X3_time
set_option maxRecDepth 20000 in
theorem ggL_law_X4_time : GoodIn wsL_law wsX4_time := goodIn_r _ [268, 118, 269, 216, 52, 53, 119, 120, 5, 121, 270, 271, 272, 273, 48, 49, 55, 177, 178, 179, 180, 173, 174, 175, 176, 51, 50, 410, 411, 412, 413, 414, 415, 416, 417, 418, 419, 420] (by decide +kernel) (by decide +kernel)
set_option maxRecDepth 20000 in
theorem gL_law_X4_time : GoodIn wsL_law (wsV RL 53 RX4 yX4_time wsX4_time) := goodIn_app (goodIn_of _ (by decide +kernel)) ggL_law_X4_time
set_option maxRecDepth 20000 in
theorem ggL_law_X3_tick : GoodIn wsL_law wsX3_tick := goodIn_r _ [277, 278, 279, 280, 2, 281, 61, 253, 254, 255, 256, 16, 20, 257, 258, 259, 15, 260, 69, 70, 71, 72, 73, 29, 94, 95, 96, 97, 98, 30, 99, 100, 101, 102, 32, 31, 34, 103, 104, 105, 106, 107, 108, 109, 110, 111, 112, 261, 262, 263, 19, 264, 202, 38, 39, 282, 283, 284, 285, 286, 407, 408, 409, 421, 422, 423, 424, 425, 426, 427, 428, 429] (by decide +kernel) (by decide +kernel)
set_option maxRecDepth 20000 in
theorem gL_law_X3_tick : GoodIn wsL_law (wsV RL 56 RX3 yX3_tick wsX3_tick) := goodIn_app (goodIn_of _ (by decide +kernel)) ggL_law_X3_tick
set_option maxRecDepth 20000 in
theorem ggL_law_X4_tick : GoodIn wsL_law wsX4_tick := goodIn_r _ [290, 291, 292, 293, 5, 294, 295, 152, 216, 52, 296, 297, 298, 299, 53, 217, 218, 219, 220, 270, 271, 272, 273, 48, 49, 55, 177, 178, 179, 180, 173, 174, 175, 176, 51, 50, 410, 411, 412, 413, 414, 415, 416, 417, 418, 419, 420] (by decide +kernel) (by decide +kernel)
set_option maxRecDepth 20000 in
theorem gL_law_X4_tick : GoodIn wsL_law (wsV RL 60 RX4 yX4_tick wsX4_tick) := goodIn_app (goodIn_of _ (by decide +kernel)) ggL_law_X4_tick
set_option maxRecDepth 20000 in
theorem ggL_law_X3_held : GoodIn wsL_law wsX3_held := goodIn_r _ [303, 61, 16, 278, 279, 280, 2, 281, 253, 254, 255, 256, 20, 257, 258, 259, 15, 260, 69, 70, 71, 72, 73, 29, 94, 95, 96, 97, 98, 30, 99, 100, 101, 102, 32, 31, 34, 103, 104, 105, 106, 107, 108, 109, 110, 111, 112, 261, 262, 263, 19, 264, 202, 38, 39, 282, 283, 284, 285, 286, 157, 158, 159, 160, 161, 162, 163, 407, 408, 409, 421, 422, 423, 424, 425, 426, 427, 428, 429] (by decide +kernel) (by decide +kernel)
set_option maxRecDepth 20000 in
theorem gL_law_X3_held : GoodIn wsL_law (wsV RL 61 RX3 yX3_held wsX3_held) := goodIn_app (goodIn_of _ (by decide +kernel)) ggL_law_X3_held
set_option maxRecDepth 20000 in
theorem ggL_law_X4_held : GoodIn wsL_law wsX4_held := goodIn_r _ [307, 152, 295, 291, 292, 293, 5, 294, 216, 52, 296, 297, 298, 299, 53, 217, 218, 219, 220, 270, 271, 272, 273, 48, 49, 55, 177, 178, 179, 180, 173, 174, 175, 176, 51, 50, 410, 411, 412, 413, 414, 415, 416, 417, 418, 419, 420] (by decide +kernel) (by decide +kernel)
set_option maxRecDepth 20000 in
theorem gL_law_X4_held : GoodIn wsL_law (wsV RL 64 RX4 yX4_held wsX4_held) := goodIn_app (goodIn_of _ (by decide +kernel)) ggL_law_X4_held
set_option maxRecDepth 20000 in
theorem ggL_law_X3_frame : GoodIn wsL_law wsX3_frame := goodIn_r _ [311, 61, 312, 252, 62, 63, 2, 64, 313, 314, 315, 316, 317, 253, 254, 255, 256, 16, 20, 257, 258, 259, 15, 260, 69, 70, 71, 72, 73, 29, 94, 95, 96, 97, 98, 30, 99, 100, 101, 102, 32, 31, 34, 103, 104, 105, 106, 107, 108, 109, 110, 111, 112, 261, 262, 263, 19, 264, 202, 38, 39, 407, 408, 409, 421, 422, 423, 424, 425, 426, 427, 428, 429] (by decide +kernel) (by decide +kernel)
set_option maxRecDepth 20000 in
theorem gL_law_X3_frame : GoodIn wsL_law (wsV RL 65 RX3 yX3_frame wsX3_frame) := goodIn_app (goodIn_of _ (by decide +kernel)) ggL_law_X3_frame
set_option maxRecDepth 20000 in
theorem ggL_law_X4_frame : GoodIn wsL_law wsX4_frame := goodIn_r _ [321, 118, 322, 269, 119, 120, 5, 121, 323, 266, 267, 268, 216, 52, 53, 270, 271, 272, 273, 48, 49, 55, 177, 178, 179, 180, 173, 174, 175, 176, 51, 50, 410, 411, 412, 413, 414, 415, 416, 417, 418, 419, 420] (by decide +kernel) (by decide +kernel)
set_option maxRecDepth 20000 in
theorem gL_law_X4_frame : GoodIn wsL_law (wsV RL 69 RX4 yX4_frame wsX4_frame) := goodIn_app (goodIn_of _ (by decide +kernel)) ggL_law_X4_frame
set_option maxRecDepth 20000 in
theorem ggL_law_X3_tickOf : GoodIn wsL_law wsX3_tickOf := goodIn_r _ [327, 312, 61, 317, 62, 63, 2, 64, 313, 314, 315, 316, 253, 254, 255, 256, 16, 20, 257, 258, 259, 15, 260, 69, 70, 71, 72, 73, 29, 94, 95, 96, 97, 98, 30, 99, 100, 101, 102, 32, 31, 34, 103, 104, 105, 106, 107, 108, 109, 110, 111, 112, 261, 262, 263, 19, 264, 202, 38, 39, 282, 283, 284, 285, 286, 407, 408, 409, 421, 422, 423, 424, 425, 426, 427, 428, 429] (by decide +kernel) (by decide +kernel)
set_option maxRecDepth 20000 in
theorem gL_law_X3_tickOf : GoodIn wsL_law (wsV RL 70 RX3 yX3_tickOf wsX3_tickOf) := goodIn_app (goodIn_of _ (by decide +kernel)) ggL_law_X3_tickOf
set_option maxRecDepth 20000 in
theorem ggL_law_X4_tickOf : GoodIn wsL_law wsX4_tickOf := goodIn_r _ [331, 322, 332, 118, 152, 119, 120, 5, 121, 291, 292, 293, 294, 295, 216, 52, 296, 297, 298, 299, 53, 217, 218, 219, 220, 270, 271, 272, 273, 48, 49, 55, 177, 178, 179, 180, 173, 174, 175, 176, 51, 50, 410, 411, 412, 413, 414, 415, 416, 417, 418, 419, 420] (by decide +kernel) (by decide +kernel)
set_option maxRecDepth 20000 in
theorem gL_law_X4_tickOf : GoodIn wsL_law (wsV RL 74 RX4 yX4_tickOf wsX4_tickOf) := goodIn_app (goodIn_of _ (by decide +kernel)) ggL_law_X4_tickOf
set_option maxRecDepth 20000 in
theorem ggL_law_X3_tap : GoodIn wsL_law wsX3_tap := goodIn_r _ [336, 337, 24, 338, 339, 340, 23, 341, 342, 43, 407, 408, 409, 430, 431] (by decide +kernel) (by decide +kernel)
set_option maxRecDepth 20000 in
theorem gL_law_X3_tap : GoodIn wsL_law (wsV RL 75 RX3 yX3_tap wsX3_tap) := goodIn_app (goodIn_of _ (by decide +kernel)) ggL_law_X3_tap
set_option maxRecDepth 20000 in
theorem ggL_law_X4_tap : GoodIn wsL_law wsX4_tap := goodIn_r _ [346, 347, 242, 54, 119, 120, 5, 121, 410, 411, 412, 413, 414, 415, 416, 417, 418, 419, 420] (by decide +kernel) (by decide +kernel)
set_option maxRecDepth 20000 in
theorem gL_law_X4_tap : GoodIn wsL_law (wsV RL 78 RX4 yX4_tap wsX4_tap) := goodIn_app (goodIn_of _ (by decide +kernel)) ggL_law_X4_tap
set_option maxRecDepth 20000 in
theorem ggL_law_X3_noTaps : GoodIn wsL_law wsX3_noTaps := goodIn_r _ [351, 24, 352, 353, 354, 23, 355, 342, 407, 408, 409, 430, 431] (by decide +kernel) (by decide +kernel)
set_option maxRecDepth 20000 in
theorem gL_law_X3_noTaps : GoodIn wsL_law (wsV RL 79 RX3 yX3_noTaps wsX3_noTaps) := goodIn_app (goodIn_of _ (by decide +kernel)) ggL_law_X3_noTaps
set_option maxRecDepth 20000 in
theorem ggL_law_X4_noTaps : GoodIn wsL_law wsX4_noTaps := goodIn_r _ [359, 242, 410, 411, 412, 413, 414, 415, 416, 417, 418, 419, 420] (by decide +kernel) (by decide +kernel)
set_option maxRecDepth 20000 in
theorem gL_law_X4_noTaps : GoodIn wsL_law (wsV RL 83 RX4 yX4_noTaps wsX4_noTaps) := goodIn_app (goodIn_of _ (by decide +kernel)) ggL_law_X4_noTaps
set_option maxRecDepth 20000 in
theorem ggL_law_X3_fit : GoodIn wsL_law wsX3_fit := goodIn_r _ [363, 252, 24, 364, 365, 366, 367, 23, 368, 342, 43, 369, 370, 371, 372, 373, 374, 2, 375, 376, 377, 101, 378, 407, 408, 409, 430, 431] (by decide +kernel) (by decide +kernel)
set_option maxRecDepth 20000 in
theorem gL_law_X3_fit : GoodIn wsL_law (wsV RL 84 RX3 yX3_fit wsX3_fit) := goodIn_app (goodIn_of _ (by decide +kernel)) ggL_law_X3_fit
set_option maxRecDepth 20000 in
theorem ggL_law_X4_fit : GoodIn wsL_law wsX4_fit := goodIn_r _ [382, 269, 242, 383, 119, 120, 5, 121, 384, 385, 386, 387, 388, 54, 389, 390, 391, 392, 393, 394, 395, 396, 410, 411, 412, 413, 414, 415, 416, 417, 418, 419, 420] (by decide +kernel) (by decide +kernel)
set_option maxRecDepth 20000 in
theorem gL_law_X4_fit : GoodIn wsL_law (wsV RL 87 RX4 yX4_fit wsX4_fit) := goodIn_app (goodIn_of _ (by decide +kernel)) ggL_law_X4_fit
set_option maxRecDepth 20000 in
theorem ggL_law_X3_pace : GoodIn wsL_law wsX3_pace := goodIn_r _ [400, 401, 252, 24, 364, 105, 62, 63, 2, 64, 365, 366, 367, 23, 368, 342, 43, 369, 370, 371, 372, 407, 408, 409, 430, 431] (by decide +kernel) (by decide +kernel)
set_option maxRecDepth 20000 in
theorem gL_law_X3_pace : GoodIn wsL_law (wsV RL 88 RX3 yX3_pace wsX3_pace) := goodIn_app (goodIn_of _ (by decide +kernel)) ggL_law_X3_pace
set_option maxRecDepth 20000 in
theorem ggL_law_X4_pace : GoodIn wsL_law wsX4_pace := goodIn_r _ [405, 406, 269, 242, 383, 388, 119, 120, 5, 121, 390, 391, 392, 393, 384, 385, 386, 387, 54, 389, 410, 411, 412, 413, 414, 415, 416, 417, 418, 419, 420] (by decide +kernel) (by decide +kernel)
set_option maxRecDepth 20000 in
theorem gL_law_X4_pace : GoodIn wsL_law (wsV RL 91 RX4 yX4_pace wsX4_pace) := goodIn_app (goodIn_of _ (by decide +kernel)) ggL_law_X4_pace
end
section
theorem dL_law_0 : decode cL_law 0 = .ok (.new 7, 3) := by decide +kernel
theorem dL_law_3 : decode cL_law 3 = .ok (.dup, 1) := by decide +kernel
theorem dL_law_4 : decode cL_law 4 = .ok (.invokespecial 9, 3) := by decide +kernel
theorem dL_law_7 : decode cL_law 7 = .ok (.astore_n 1, 1) := by decide +kernel
theorem dL_law_8 : decode cL_law 8 = .ok (.new 10, 3) := by decide +kernel
theorem dL_law_11 : decode cL_law 11 = .ok (.dup, 1) := by decide +kernel
theorem dL_law_12 : decode cL_law 12 = .ok (.invokespecial 12, 3) := by decide +kernel
theorem dL_law_15 : decode cL_law 15 = .ok (.astore_n 2, 1) := by decide +kernel
theorem dL_law_16 : decode cL_law 16 = .ok (.iconst 0, 1) := by decide +kernel
theorem dL_law_17 : decode cL_law 17 = .ok (.istore_n 3, 1) := by decide +kernel
theorem dL_law_18 : decode cL_law 18 = .ok (.iload_n 3, 1) := by decide +kernel
theorem dL_law_19 : decode cL_law 19 = .ok (.aload_n 0, 1) := by decide +kernel
theorem dL_law_20 : decode cL_law 20 = .ok (.arraylength, 1) := by decide +kernel
theorem dL_law_21 : decode cL_law 21 = .ok (.iconst 5, 1) := by decide +kernel
theorem dL_law_22 : decode cL_law 22 = .ok (.isub, 1) := by decide +kernel
theorem dL_law_23 : decode cL_law 23 = .ok (.if_icmp .gt 704, 3) := by decide +kernel
theorem dL_law_26 : decode cL_law 26 = .ok (.aload_n 0, 1) := by decide +kernel
theorem dL_law_27 : decode cL_law 27 = .ok (.iload_n 3, 1) := by decide +kernel
theorem dL_law_28 : decode cL_law 28 = .ok (.iaload, 1) := by decide +kernel
theorem dL_law_29 : decode cL_law 29 = .ok (.bipush 31, 2) := by decide +kernel
theorem dL_law_31 : decode cL_law 31 = .ok (.iand, 1) := by decide +kernel
theorem dL_law_32 : decode cL_law 32 = .ok (.tableswitch 689 0 16 #[84, 117, 170, 213, 236, 269, 302, 325, 348, 372, 425, 478, 512, 575, 628, 641, 665], 84) := by decide +kernel
theorem dL_law_116 : decode cL_law 116 = .ok (.aload_n 1, 1) := by decide +kernel
theorem dL_law_117 : decode cL_law 117 = .ok (.aload_n 0, 1) := by decide +kernel
theorem dL_law_118 : decode cL_law 118 = .ok (.iload_n 3, 1) := by decide +kernel
theorem dL_law_119 : decode cL_law 119 = .ok (.iconst 1, 1) := by decide +kernel
theorem dL_law_120 : decode cL_law 120 = .ok (.iadd, 1) := by decide +kernel
theorem dL_law_121 : decode cL_law 121 = .ok (.iaload, 1) := by decide +kernel
theorem dL_law_122 : decode cL_law 122 = .ok (.aload_n 0, 1) := by decide +kernel
theorem dL_law_123 : decode cL_law 123 = .ok (.iload_n 3, 1) := by decide +kernel
theorem dL_law_124 : decode cL_law 124 = .ok (.iconst 2, 1) := by decide +kernel
theorem dL_law_125 : decode cL_law 125 = .ok (.iadd, 1) := by decide +kernel
theorem dL_law_126 : decode cL_law 126 = .ok (.iaload, 1) := by decide +kernel
theorem dL_law_127 : decode cL_law 127 = .ok (.invokevirtual 13, 3) := by decide +kernel
theorem dL_law_130 : decode cL_law 130 = .ok (.aload_n 2, 1) := by decide +kernel
theorem dL_law_131 : decode cL_law 131 = .ok (.aload_n 0, 1) := by decide +kernel
theorem dL_law_132 : decode cL_law 132 = .ok (.iload_n 3, 1) := by decide +kernel
theorem dL_law_133 : decode cL_law 133 = .ok (.iconst 1, 1) := by decide +kernel
theorem dL_law_134 : decode cL_law 134 = .ok (.iadd, 1) := by decide +kernel
theorem dL_law_135 : decode cL_law 135 = .ok (.iaload, 1) := by decide +kernel
theorem dL_law_136 : decode cL_law 136 = .ok (.aload_n 0, 1) := by decide +kernel
theorem dL_law_137 : decode cL_law 137 = .ok (.iload_n 3, 1) := by decide +kernel
theorem dL_law_138 : decode cL_law 138 = .ok (.iconst 2, 1) := by decide +kernel
theorem dL_law_139 : decode cL_law 139 = .ok (.iadd, 1) := by decide +kernel
theorem dL_law_140 : decode cL_law 140 = .ok (.iaload, 1) := by decide +kernel
theorem dL_law_141 : decode cL_law 141 = .ok (.invokevirtual 17, 3) := by decide +kernel
theorem dL_law_144 : decode cL_law 144 = .ok (.if_icmp .eq 577, 3) := by decide +kernel
theorem dL_law_147 : decode cL_law 147 = .ok (.iconst 0, 1) := by decide +kernel
theorem dL_law_148 : decode cL_law 148 = .ok (.ireturn, 1) := by decide +kernel
theorem dL_law_149 : decode cL_law 149 = .ok (.aload_n 1, 1) := by decide +kernel
theorem dL_law_150 : decode cL_law 150 = .ok (.aload_n 0, 1) := by decide +kernel
theorem dL_law_151 : decode cL_law 151 = .ok (.iload_n 3, 1) := by decide +kernel
theorem dL_law_152 : decode cL_law 152 = .ok (.iconst 1, 1) := by decide +kernel
theorem dL_law_153 : decode cL_law 153 = .ok (.iadd, 1) := by decide +kernel
theorem dL_law_154 : decode cL_law 154 = .ok (.iaload, 1) := by decide +kernel
theorem dL_law_155 : decode cL_law 155 = .ok (.aload_n 0, 1) := by decide +kernel
theorem dL_law_156 : decode cL_law 156 = .ok (.iload_n 3, 1) := by decide +kernel
theorem dL_law_157 : decode cL_law 157 = .ok (.iconst 2, 1) := by decide +kernel
theorem dL_law_158 : decode cL_law 158 = .ok (.iadd, 1) := by decide +kernel
theorem dL_law_159 : decode cL_law 159 = .ok (.iaload, 1) := by decide +kernel
theorem dL_law_160 : decode cL_law 160 = .ok (.aload_n 0, 1) := by decide +kernel
theorem dL_law_161 : decode cL_law 161 = .ok (.iload_n 3, 1) := by decide +kernel
theorem dL_law_162 : decode cL_law 162 = .ok (.iconst 3, 1) := by decide +kernel
theorem dL_law_163 : decode cL_law 163 = .ok (.iadd, 1) := by decide +kernel
theorem dL_law_164 : decode cL_law 164 = .ok (.iaload, 1) := by decide +kernel
theorem dL_law_165 : decode cL_law 165 = .ok (.aload_n 0, 1) := by decide +kernel
theorem dL_law_166 : decode cL_law 166 = .ok (.iload_n 3, 1) := by decide +kernel
theorem dL_law_167 : decode cL_law 167 = .ok (.iconst 4, 1) := by decide +kernel
theorem dL_law_168 : decode cL_law 168 = .ok (.iadd, 1) := by decide +kernel
theorem dL_law_169 : decode cL_law 169 = .ok (.iaload, 1) := by decide +kernel
theorem dL_law_170 : decode cL_law 170 = .ok (.invokevirtual 18, 3) := by decide +kernel
theorem dL_law_173 : decode cL_law 173 = .ok (.aload_n 2, 1) := by decide +kernel
theorem dL_law_174 : decode cL_law 174 = .ok (.aload_n 0, 1) := by decide +kernel
theorem dL_law_175 : decode cL_law 175 = .ok (.iload_n 3, 1) := by decide +kernel
theorem dL_law_176 : decode cL_law 176 = .ok (.iconst 1, 1) := by decide +kernel
theorem dL_law_177 : decode cL_law 177 = .ok (.iadd, 1) := by decide +kernel
theorem dL_law_178 : decode cL_law 178 = .ok (.iaload, 1) := by decide +kernel
theorem dL_law_179 : decode cL_law 179 = .ok (.aload_n 0, 1) := by decide +kernel
theorem dL_law_180 : decode cL_law 180 = .ok (.iload_n 3, 1) := by decide +kernel
theorem dL_law_181 : decode cL_law 181 = .ok (.iconst 2, 1) := by decide +kernel
theorem dL_law_182 : decode cL_law 182 = .ok (.iadd, 1) := by decide +kernel
theorem dL_law_183 : decode cL_law 183 = .ok (.iaload, 1) := by decide +kernel
theorem dL_law_184 : decode cL_law 184 = .ok (.aload_n 0, 1) := by decide +kernel
theorem dL_law_185 : decode cL_law 185 = .ok (.iload_n 3, 1) := by decide +kernel
theorem dL_law_186 : decode cL_law 186 = .ok (.iconst 3, 1) := by decide +kernel
theorem dL_law_187 : decode cL_law 187 = .ok (.iadd, 1) := by decide +kernel
theorem dL_law_188 : decode cL_law 188 = .ok (.iaload, 1) := by decide +kernel
theorem dL_law_189 : decode cL_law 189 = .ok (.aload_n 0, 1) := by decide +kernel
theorem dL_law_190 : decode cL_law 190 = .ok (.iload_n 3, 1) := by decide +kernel
theorem dL_law_191 : decode cL_law 191 = .ok (.iconst 4, 1) := by decide +kernel
theorem dL_law_192 : decode cL_law 192 = .ok (.iadd, 1) := by decide +kernel
theorem dL_law_193 : decode cL_law 193 = .ok (.iaload, 1) := by decide +kernel
theorem dL_law_194 : decode cL_law 194 = .ok (.invokevirtual 22, 3) := by decide +kernel
theorem dL_law_197 : decode cL_law 197 = .ok (.if_icmp .eq 524, 3) := by decide +kernel
theorem dL_law_200 : decode cL_law 200 = .ok (.iconst 0, 1) := by decide +kernel
theorem dL_law_201 : decode cL_law 201 = .ok (.ireturn, 1) := by decide +kernel
theorem dL_law_202 : decode cL_law 202 = .ok (.aload_n 1, 1) := by decide +kernel
theorem dL_law_203 : decode cL_law 203 = .ok (.aload_n 0, 1) := by decide +kernel
theorem dL_law_204 : decode cL_law 204 = .ok (.iload_n 3, 1) := by decide +kernel
theorem dL_law_205 : decode cL_law 205 = .ok (.iconst 1, 1) := by decide +kernel
theorem dL_law_206 : decode cL_law 206 = .ok (.iadd, 1) := by decide +kernel
theorem dL_law_207 : decode cL_law 207 = .ok (.iaload, 1) := by decide +kernel
theorem dL_law_208 : decode cL_law 208 = .ok (.aload_n 0, 1) := by decide +kernel
theorem dL_law_209 : decode cL_law 209 = .ok (.iload_n 3, 1) := by decide +kernel
theorem dL_law_210 : decode cL_law 210 = .ok (.iconst 2, 1) := by decide +kernel
theorem dL_law_211 : decode cL_law 211 = .ok (.iadd, 1) := by decide +kernel
theorem dL_law_212 : decode cL_law 212 = .ok (.iaload, 1) := by decide +kernel
theorem dL_law_213 : decode cL_law 213 = .ok (.aload_n 0, 1) := by decide +kernel
theorem dL_law_214 : decode cL_law 214 = .ok (.iload_n 3, 1) := by decide +kernel
theorem dL_law_215 : decode cL_law 215 = .ok (.iconst 3, 1) := by decide +kernel
theorem dL_law_216 : decode cL_law 216 = .ok (.iadd, 1) := by decide +kernel
theorem dL_law_217 : decode cL_law 217 = .ok (.iaload, 1) := by decide +kernel
theorem dL_law_218 : decode cL_law 218 = .ok (.invokevirtual 23, 3) := by decide +kernel
theorem dL_law_221 : decode cL_law 221 = .ok (.aload_n 2, 1) := by decide +kernel
theorem dL_law_222 : decode cL_law 222 = .ok (.aload_n 0, 1) := by decide +kernel
theorem dL_law_223 : decode cL_law 223 = .ok (.iload_n 3, 1) := by decide +kernel
theorem dL_law_224 : decode cL_law 224 = .ok (.iconst 1, 1) := by decide +kernel
theorem dL_law_225 : decode cL_law 225 = .ok (.iadd, 1) := by decide +kernel
theorem dL_law_226 : decode cL_law 226 = .ok (.iaload, 1) := by decide +kernel
theorem dL_law_227 : decode cL_law 227 = .ok (.aload_n 0, 1) := by decide +kernel
theorem dL_law_228 : decode cL_law 228 = .ok (.iload_n 3, 1) := by decide +kernel
theorem dL_law_229 : decode cL_law 229 = .ok (.iconst 2, 1) := by decide +kernel
theorem dL_law_230 : decode cL_law 230 = .ok (.iadd, 1) := by decide +kernel
theorem dL_law_231 : decode cL_law 231 = .ok (.iaload, 1) := by decide +kernel
theorem dL_law_232 : decode cL_law 232 = .ok (.aload_n 0, 1) := by decide +kernel
theorem dL_law_233 : decode cL_law 233 = .ok (.iload_n 3, 1) := by decide +kernel
theorem dL_law_234 : decode cL_law 234 = .ok (.iconst 3, 1) := by decide +kernel
theorem dL_law_235 : decode cL_law 235 = .ok (.iadd, 1) := by decide +kernel
theorem dL_law_236 : decode cL_law 236 = .ok (.iaload, 1) := by decide +kernel
theorem dL_law_237 : decode cL_law 237 = .ok (.invokevirtual 27, 3) := by decide +kernel
end
section
theorem dL_law_240 : decode cL_law 240 = .ok (.if_icmp .eq 481, 3) := by decide +kernel
theorem dL_law_243 : decode cL_law 243 = .ok (.iconst 0, 1) := by decide +kernel
theorem dL_law_244 : decode cL_law 244 = .ok (.ireturn, 1) := by decide +kernel
theorem dL_law_245 : decode cL_law 245 = .ok (.aload_n 1, 1) := by decide +kernel
theorem dL_law_246 : decode cL_law 246 = .ok (.aload_n 0, 1) := by decide +kernel
theorem dL_law_247 : decode cL_law 247 = .ok (.iload_n 3, 1) := by decide +kernel
theorem dL_law_248 : decode cL_law 248 = .ok (.iconst 1, 1) := by decide +kernel
theorem dL_law_249 : decode cL_law 249 = .ok (.iadd, 1) := by decide +kernel
theorem dL_law_250 : decode cL_law 250 = .ok (.iaload, 1) := by decide +kernel
theorem dL_law_251 : decode cL_law 251 = .ok (.invokevirtual 28, 3) := by decide +kernel
theorem dL_law_254 : decode cL_law 254 = .ok (.aload_n 2, 1) := by decide +kernel
theorem dL_law_255 : decode cL_law 255 = .ok (.aload_n 0, 1) := by decide +kernel
theorem dL_law_256 : decode cL_law 256 = .ok (.iload_n 3, 1) := by decide +kernel
theorem dL_law_257 : decode cL_law 257 = .ok (.iconst 1, 1) := by decide +kernel
theorem dL_law_258 : decode cL_law 258 = .ok (.iadd, 1) := by decide +kernel
theorem dL_law_259 : decode cL_law 259 = .ok (.iaload, 1) := by decide +kernel
theorem dL_law_260 : decode cL_law 260 = .ok (.invokevirtual 32, 3) := by decide +kernel
theorem dL_law_263 : decode cL_law 263 = .ok (.if_icmp .eq 458, 3) := by decide +kernel
theorem dL_law_266 : decode cL_law 266 = .ok (.iconst 0, 1) := by decide +kernel
theorem dL_law_267 : decode cL_law 267 = .ok (.ireturn, 1) := by decide +kernel
theorem dL_law_268 : decode cL_law 268 = .ok (.aload_n 1, 1) := by decide +kernel
theorem dL_law_269 : decode cL_law 269 = .ok (.aload_n 0, 1) := by decide +kernel
theorem dL_law_270 : decode cL_law 270 = .ok (.iload_n 3, 1) := by decide +kernel
theorem dL_law_271 : decode cL_law 271 = .ok (.iconst 1, 1) := by decide +kernel
theorem dL_law_272 : decode cL_law 272 = .ok (.iadd, 1) := by decide +kernel
theorem dL_law_273 : decode cL_law 273 = .ok (.iaload, 1) := by decide +kernel
theorem dL_law_274 : decode cL_law 274 = .ok (.aload_n 0, 1) := by decide +kernel
theorem dL_law_275 : decode cL_law 275 = .ok (.iload_n 3, 1) := by decide +kernel
theorem dL_law_276 : decode cL_law 276 = .ok (.iconst 2, 1) := by decide +kernel
theorem dL_law_277 : decode cL_law 277 = .ok (.iadd, 1) := by decide +kernel
theorem dL_law_278 : decode cL_law 278 = .ok (.iaload, 1) := by decide +kernel
theorem dL_law_279 : decode cL_law 279 = .ok (.invokevirtual 33, 3) := by decide +kernel
theorem dL_law_282 : decode cL_law 282 = .ok (.aload_n 2, 1) := by decide +kernel
theorem dL_law_283 : decode cL_law 283 = .ok (.aload_n 0, 1) := by decide +kernel
theorem dL_law_284 : decode cL_law 284 = .ok (.iload_n 3, 1) := by decide +kernel
theorem dL_law_285 : decode cL_law 285 = .ok (.iconst 1, 1) := by decide +kernel
theorem dL_law_286 : decode cL_law 286 = .ok (.iadd, 1) := by decide +kernel
theorem dL_law_287 : decode cL_law 287 = .ok (.iaload, 1) := by decide +kernel
theorem dL_law_288 : decode cL_law 288 = .ok (.aload_n 0, 1) := by decide +kernel
theorem dL_law_289 : decode cL_law 289 = .ok (.iload_n 3, 1) := by decide +kernel
theorem dL_law_290 : decode cL_law 290 = .ok (.iconst 2, 1) := by decide +kernel
theorem dL_law_291 : decode cL_law 291 = .ok (.iadd, 1) := by decide +kernel
theorem dL_law_292 : decode cL_law 292 = .ok (.iaload, 1) := by decide +kernel
theorem dL_law_293 : decode cL_law 293 = .ok (.invokevirtual 36, 3) := by decide +kernel
theorem dL_law_296 : decode cL_law 296 = .ok (.if_icmp .eq 425, 3) := by decide +kernel
theorem dL_law_299 : decode cL_law 299 = .ok (.iconst 0, 1) := by decide +kernel
theorem dL_law_300 : decode cL_law 300 = .ok (.ireturn, 1) := by decide +kernel
theorem dL_law_301 : decode cL_law 301 = .ok (.aload_n 1, 1) := by decide +kernel
theorem dL_law_302 : decode cL_law 302 = .ok (.aload_n 0, 1) := by decide +kernel
theorem dL_law_303 : decode cL_law 303 = .ok (.iload_n 3, 1) := by decide +kernel
theorem dL_law_304 : decode cL_law 304 = .ok (.iconst 1, 1) := by decide +kernel
theorem dL_law_305 : decode cL_law 305 = .ok (.iadd, 1) := by decide +kernel
theorem dL_law_306 : decode cL_law 306 = .ok (.iaload, 1) := by decide +kernel
theorem dL_law_307 : decode cL_law 307 = .ok (.aload_n 0, 1) := by decide +kernel
theorem dL_law_308 : decode cL_law 308 = .ok (.iload_n 3, 1) := by decide +kernel
theorem dL_law_309 : decode cL_law 309 = .ok (.iconst 2, 1) := by decide +kernel
theorem dL_law_310 : decode cL_law 310 = .ok (.iadd, 1) := by decide +kernel
theorem dL_law_311 : decode cL_law 311 = .ok (.iaload, 1) := by decide +kernel
theorem dL_law_312 : decode cL_law 312 = .ok (.invokevirtual 37, 3) := by decide +kernel
theorem dL_law_315 : decode cL_law 315 = .ok (.aload_n 2, 1) := by decide +kernel
theorem dL_law_316 : decode cL_law 316 = .ok (.aload_n 0, 1) := by decide +kernel
theorem dL_law_317 : decode cL_law 317 = .ok (.iload_n 3, 1) := by decide +kernel
theorem dL_law_318 : decode cL_law 318 = .ok (.iconst 1, 1) := by decide +kernel
theorem dL_law_319 : decode cL_law 319 = .ok (.iadd, 1) := by decide +kernel
theorem dL_law_320 : decode cL_law 320 = .ok (.iaload, 1) := by decide +kernel
theorem dL_law_321 : decode cL_law 321 = .ok (.aload_n 0, 1) := by decide +kernel
theorem dL_law_322 : decode cL_law 322 = .ok (.iload_n 3, 1) := by decide +kernel
theorem dL_law_323 : decode cL_law 323 = .ok (.iconst 2, 1) := by decide +kernel
theorem dL_law_324 : decode cL_law 324 = .ok (.iadd, 1) := by decide +kernel
theorem dL_law_325 : decode cL_law 325 = .ok (.iaload, 1) := by decide +kernel
theorem dL_law_326 : decode cL_law 326 = .ok (.invokevirtual 40, 3) := by decide +kernel
theorem dL_law_329 : decode cL_law 329 = .ok (.if_icmp .eq 392, 3) := by decide +kernel
theorem dL_law_332 : decode cL_law 332 = .ok (.iconst 0, 1) := by decide +kernel
theorem dL_law_333 : decode cL_law 333 = .ok (.ireturn, 1) := by decide +kernel
theorem dL_law_334 : decode cL_law 334 = .ok (.aload_n 1, 1) := by decide +kernel
theorem dL_law_335 : decode cL_law 335 = .ok (.aload_n 0, 1) := by decide +kernel
theorem dL_law_336 : decode cL_law 336 = .ok (.iload_n 3, 1) := by decide +kernel
theorem dL_law_337 : decode cL_law 337 = .ok (.iconst 1, 1) := by decide +kernel
theorem dL_law_338 : decode cL_law 338 = .ok (.iadd, 1) := by decide +kernel
theorem dL_law_339 : decode cL_law 339 = .ok (.iaload, 1) := by decide +kernel
theorem dL_law_340 : decode cL_law 340 = .ok (.invokevirtual 41, 3) := by decide +kernel
theorem dL_law_343 : decode cL_law 343 = .ok (.aload_n 2, 1) := by decide +kernel
theorem dL_law_344 : decode cL_law 344 = .ok (.aload_n 0, 1) := by decide +kernel
theorem dL_law_345 : decode cL_law 345 = .ok (.iload_n 3, 1) := by decide +kernel
theorem dL_law_346 : decode cL_law 346 = .ok (.iconst 1, 1) := by decide +kernel
theorem dL_law_347 : decode cL_law 347 = .ok (.iadd, 1) := by decide +kernel
theorem dL_law_348 : decode cL_law 348 = .ok (.iaload, 1) := by decide +kernel
theorem dL_law_349 : decode cL_law 349 = .ok (.invokevirtual 44, 3) := by decide +kernel
theorem dL_law_352 : decode cL_law 352 = .ok (.if_icmp .eq 369, 3) := by decide +kernel
theorem dL_law_355 : decode cL_law 355 = .ok (.iconst 0, 1) := by decide +kernel
theorem dL_law_356 : decode cL_law 356 = .ok (.ireturn, 1) := by decide +kernel
theorem dL_law_357 : decode cL_law 357 = .ok (.aload_n 1, 1) := by decide +kernel
theorem dL_law_358 : decode cL_law 358 = .ok (.aload_n 0, 1) := by decide +kernel
theorem dL_law_359 : decode cL_law 359 = .ok (.iload_n 3, 1) := by decide +kernel
theorem dL_law_360 : decode cL_law 360 = .ok (.iconst 1, 1) := by decide +kernel
theorem dL_law_361 : decode cL_law 361 = .ok (.iadd, 1) := by decide +kernel
theorem dL_law_362 : decode cL_law 362 = .ok (.iaload, 1) := by decide +kernel
theorem dL_law_363 : decode cL_law 363 = .ok (.invokevirtual 45, 3) := by decide +kernel
theorem dL_law_366 : decode cL_law 366 = .ok (.aload_n 2, 1) := by decide +kernel
theorem dL_law_367 : decode cL_law 367 = .ok (.aload_n 0, 1) := by decide +kernel
theorem dL_law_368 : decode cL_law 368 = .ok (.iload_n 3, 1) := by decide +kernel
theorem dL_law_369 : decode cL_law 369 = .ok (.iconst 1, 1) := by decide +kernel
theorem dL_law_370 : decode cL_law 370 = .ok (.iadd, 1) := by decide +kernel
theorem dL_law_371 : decode cL_law 371 = .ok (.iaload, 1) := by decide +kernel
theorem dL_law_372 : decode cL_law 372 = .ok (.invokevirtual 48, 3) := by decide +kernel
theorem dL_law_375 : decode cL_law 375 = .ok (.if_icmp .eq 346, 3) := by decide +kernel
theorem dL_law_378 : decode cL_law 378 = .ok (.iconst 0, 1) := by decide +kernel
theorem dL_law_379 : decode cL_law 379 = .ok (.ireturn, 1) := by decide +kernel
theorem dL_law_380 : decode cL_law 380 = .ok (.aload_n 1, 1) := by decide +kernel
theorem dL_law_381 : decode cL_law 381 = .ok (.aload_n 0, 1) := by decide +kernel
theorem dL_law_382 : decode cL_law 382 = .ok (.iload_n 3, 1) := by decide +kernel
theorem dL_law_383 : decode cL_law 383 = .ok (.iconst 1, 1) := by decide +kernel
theorem dL_law_384 : decode cL_law 384 = .ok (.iadd, 1) := by decide +kernel
theorem dL_law_385 : decode cL_law 385 = .ok (.iaload, 1) := by decide +kernel
theorem dL_law_386 : decode cL_law 386 = .ok (.invokevirtual 49, 3) := by decide +kernel
theorem dL_law_389 : decode cL_law 389 = .ok (.aload_n 2, 1) := by decide +kernel
theorem dL_law_390 : decode cL_law 390 = .ok (.aload_n 0, 1) := by decide +kernel
theorem dL_law_391 : decode cL_law 391 = .ok (.iload_n 3, 1) := by decide +kernel
theorem dL_law_392 : decode cL_law 392 = .ok (.iconst 1, 1) := by decide +kernel
theorem dL_law_393 : decode cL_law 393 = .ok (.iadd, 1) := by decide +kernel
theorem dL_law_394 : decode cL_law 394 = .ok (.iaload, 1) := by decide +kernel
theorem dL_law_395 : decode cL_law 395 = .ok (.invokevirtual 53, 3) := by decide +kernel
theorem dL_law_398 : decode cL_law 398 = .ok (.lcmp, 1) := by decide +kernel
theorem dL_law_399 : decode cL_law 399 = .ok (.ifCond .eq 322, 3) := by decide +kernel
theorem dL_law_402 : decode cL_law 402 = .ok (.iconst 0, 1) := by decide +kernel
theorem dL_law_403 : decode cL_law 403 = .ok (.ireturn, 1) := by decide +kernel
theorem dL_law_404 : decode cL_law 404 = .ok (.aload_n 1, 1) := by decide +kernel
theorem dL_law_405 : decode cL_law 405 = .ok (.aload_n 0, 1) := by decide +kernel
theorem dL_law_406 : decode cL_law 406 = .ok (.iload_n 3, 1) := by decide +kernel
theorem dL_law_407 : decode cL_law 407 = .ok (.iconst 1, 1) := by decide +kernel
end
section
theorem dL_law_408 : decode cL_law 408 = .ok (.iadd, 1) := by decide +kernel
theorem dL_law_409 : decode cL_law 409 = .ok (.iaload, 1) := by decide +kernel
theorem dL_law_410 : decode cL_law 410 = .ok (.i2l, 1) := by decide +kernel
theorem dL_law_411 : decode cL_law 411 = .ok (.bipush 32, 2) := by decide +kernel
theorem dL_law_413 : decode cL_law 413 = .ok (.lshl, 1) := by decide +kernel
theorem dL_law_414 : decode cL_law 414 = .ok (.aload_n 0, 1) := by decide +kernel
theorem dL_law_415 : decode cL_law 415 = .ok (.iload_n 3, 1) := by decide +kernel
theorem dL_law_416 : decode cL_law 416 = .ok (.iconst 2, 1) := by decide +kernel
theorem dL_law_417 : decode cL_law 417 = .ok (.iadd, 1) := by decide +kernel
theorem dL_law_418 : decode cL_law 418 = .ok (.iaload, 1) := by decide +kernel
theorem dL_law_419 : decode cL_law 419 = .ok (.i2l, 1) := by decide +kernel
theorem dL_law_420 : decode cL_law 420 = .ok (.ldc2_w 54, 3) := by decide +kernel
theorem dL_law_423 : decode cL_law 423 = .ok (.land, 1) := by decide +kernel
theorem dL_law_424 : decode cL_law 424 = .ok (.lor, 1) := by decide +kernel
theorem dL_law_425 : decode cL_law 425 = .ok (.invokevirtual 56, 3) := by decide +kernel
theorem dL_law_428 : decode cL_law 428 = .ok (.aload_n 2, 1) := by decide +kernel
theorem dL_law_429 : decode cL_law 429 = .ok (.aload_n 0, 1) := by decide +kernel
theorem dL_law_430 : decode cL_law 430 = .ok (.iload_n 3, 1) := by decide +kernel
theorem dL_law_431 : decode cL_law 431 = .ok (.iconst 1, 1) := by decide +kernel
theorem dL_law_432 : decode cL_law 432 = .ok (.iadd, 1) := by decide +kernel
theorem dL_law_433 : decode cL_law 433 = .ok (.iaload, 1) := by decide +kernel
theorem dL_law_434 : decode cL_law 434 = .ok (.i2l, 1) := by decide +kernel
theorem dL_law_435 : decode cL_law 435 = .ok (.bipush 32, 2) := by decide +kernel
theorem dL_law_437 : decode cL_law 437 = .ok (.lshl, 1) := by decide +kernel
theorem dL_law_438 : decode cL_law 438 = .ok (.aload_n 0, 1) := by decide +kernel
theorem dL_law_439 : decode cL_law 439 = .ok (.iload_n 3, 1) := by decide +kernel
theorem dL_law_440 : decode cL_law 440 = .ok (.iconst 2, 1) := by decide +kernel
theorem dL_law_441 : decode cL_law 441 = .ok (.iadd, 1) := by decide +kernel
theorem dL_law_442 : decode cL_law 442 = .ok (.iaload, 1) := by decide +kernel
theorem dL_law_443 : decode cL_law 443 = .ok (.i2l, 1) := by decide +kernel
theorem dL_law_444 : decode cL_law 444 = .ok (.ldc2_w 54, 3) := by decide +kernel
theorem dL_law_447 : decode cL_law 447 = .ok (.land, 1) := by decide +kernel
theorem dL_law_448 : decode cL_law 448 = .ok (.lor, 1) := by decide +kernel
theorem dL_law_449 : decode cL_law 449 = .ok (.invokevirtual 60, 3) := by decide +kernel
theorem dL_law_452 : decode cL_law 452 = .ok (.if_icmp .eq 269, 3) := by decide +kernel
theorem dL_law_455 : decode cL_law 455 = .ok (.iconst 0, 1) := by decide +kernel
theorem dL_law_456 : decode cL_law 456 = .ok (.ireturn, 1) := by decide +kernel
theorem dL_law_457 : decode cL_law 457 = .ok (.aload_n 1, 1) := by decide +kernel
theorem dL_law_458 : decode cL_law 458 = .ok (.aload_n 0, 1) := by decide +kernel
theorem dL_law_459 : decode cL_law 459 = .ok (.iload_n 3, 1) := by decide +kernel
theorem dL_law_460 : decode cL_law 460 = .ok (.iconst 1, 1) := by decide +kernel
theorem dL_law_461 : decode cL_law 461 = .ok (.iadd, 1) := by decide +kernel
theorem dL_law_462 : decode cL_law 462 = .ok (.iaload, 1) := by decide +kernel
theorem dL_law_463 : decode cL_law 463 = .ok (.i2l, 1) := by decide +kernel
theorem dL_law_464 : decode cL_law 464 = .ok (.bipush 32, 2) := by decide +kernel
theorem dL_law_466 : decode cL_law 466 = .ok (.lshl, 1) := by decide +kernel
theorem dL_law_467 : decode cL_law 467 = .ok (.aload_n 0, 1) := by decide +kernel
theorem dL_law_468 : decode cL_law 468 = .ok (.iload_n 3, 1) := by decide +kernel
theorem dL_law_469 : decode cL_law 469 = .ok (.iconst 2, 1) := by decide +kernel
theorem dL_law_470 : decode cL_law 470 = .ok (.iadd, 1) := by decide +kernel
theorem dL_law_471 : decode cL_law 471 = .ok (.iaload, 1) := by decide +kernel
theorem dL_law_472 : decode cL_law 472 = .ok (.i2l, 1) := by decide +kernel
theorem dL_law_473 : decode cL_law 473 = .ok (.ldc2_w 54, 3) := by decide +kernel
theorem dL_law_476 : decode cL_law 476 = .ok (.land, 1) := by decide +kernel
theorem dL_law_477 : decode cL_law 477 = .ok (.lor, 1) := by decide +kernel
theorem dL_law_478 : decode cL_law 478 = .ok (.invokevirtual 61, 3) := by decide +kernel
theorem dL_law_481 : decode cL_law 481 = .ok (.aload_n 2, 1) := by decide +kernel
theorem dL_law_482 : decode cL_law 482 = .ok (.aload_n 0, 1) := by decide +kernel
theorem dL_law_483 : decode cL_law 483 = .ok (.iload_n 3, 1) := by decide +kernel
theorem dL_law_484 : decode cL_law 484 = .ok (.iconst 1, 1) := by decide +kernel
theorem dL_law_485 : decode cL_law 485 = .ok (.iadd, 1) := by decide +kernel
theorem dL_law_486 : decode cL_law 486 = .ok (.iaload, 1) := by decide +kernel
theorem dL_law_487 : decode cL_law 487 = .ok (.i2l, 1) := by decide +kernel
theorem dL_law_488 : decode cL_law 488 = .ok (.bipush 32, 2) := by decide +kernel
theorem dL_law_490 : decode cL_law 490 = .ok (.lshl, 1) := by decide +kernel
theorem dL_law_491 : decode cL_law 491 = .ok (.aload_n 0, 1) := by decide +kernel
theorem dL_law_492 : decode cL_law 492 = .ok (.iload_n 3, 1) := by decide +kernel
theorem dL_law_493 : decode cL_law 493 = .ok (.iconst 2, 1) := by decide +kernel
theorem dL_law_494 : decode cL_law 494 = .ok (.iadd, 1) := by decide +kernel
theorem dL_law_495 : decode cL_law 495 = .ok (.iaload, 1) := by decide +kernel
theorem dL_law_496 : decode cL_law 496 = .ok (.i2l, 1) := by decide +kernel
theorem dL_law_497 : decode cL_law 497 = .ok (.ldc2_w 54, 3) := by decide +kernel
theorem dL_law_500 : decode cL_law 500 = .ok (.land, 1) := by decide +kernel
theorem dL_law_501 : decode cL_law 501 = .ok (.lor, 1) := by decide +kernel
theorem dL_law_502 : decode cL_law 502 = .ok (.invokevirtual 64, 3) := by decide +kernel
theorem dL_law_505 : decode cL_law 505 = .ok (.if_icmp .eq 216, 3) := by decide +kernel
theorem dL_law_508 : decode cL_law 508 = .ok (.iconst 0, 1) := by decide +kernel
theorem dL_law_509 : decode cL_law 509 = .ok (.ireturn, 1) := by decide +kernel
theorem dL_law_510 : decode cL_law 510 = .ok (.aload_n 1, 1) := by decide +kernel
theorem dL_law_511 : decode cL_law 511 = .ok (.aload_n 0, 1) := by decide +kernel
theorem dL_law_512 : decode cL_law 512 = .ok (.iload_n 3, 1) := by decide +kernel
theorem dL_law_513 : decode cL_law 513 = .ok (.iconst 1, 1) := by decide +kernel
theorem dL_law_514 : decode cL_law 514 = .ok (.iadd, 1) := by decide +kernel
theorem dL_law_515 : decode cL_law 515 = .ok (.iaload, 1) := by decide +kernel
theorem dL_law_516 : decode cL_law 516 = .ok (.aload_n 0, 1) := by decide +kernel
theorem dL_law_517 : decode cL_law 517 = .ok (.iload_n 3, 1) := by decide +kernel
theorem dL_law_518 : decode cL_law 518 = .ok (.iconst 2, 1) := by decide +kernel
theorem dL_law_519 : decode cL_law 519 = .ok (.iadd, 1) := by decide +kernel
theorem dL_law_520 : decode cL_law 520 = .ok (.iaload, 1) := by decide +kernel
theorem dL_law_521 : decode cL_law 521 = .ok (.invokevirtual 65, 3) := by decide +kernel
theorem dL_law_524 : decode cL_law 524 = .ok (.aload_n 2, 1) := by decide +kernel
theorem dL_law_525 : decode cL_law 525 = .ok (.aload_n 0, 1) := by decide +kernel
theorem dL_law_526 : decode cL_law 526 = .ok (.iload_n 3, 1) := by decide +kernel
theorem dL_law_527 : decode cL_law 527 = .ok (.iconst 1, 1) := by decide +kernel
theorem dL_law_528 : decode cL_law 528 = .ok (.iadd, 1) := by decide +kernel
theorem dL_law_529 : decode cL_law 529 = .ok (.iaload, 1) := by decide +kernel
theorem dL_law_530 : decode cL_law 530 = .ok (.aload_n 0, 1) := by decide +kernel
theorem dL_law_531 : decode cL_law 531 = .ok (.iload_n 3, 1) := by decide +kernel
theorem dL_law_532 : decode cL_law 532 = .ok (.iconst 2, 1) := by decide +kernel
theorem dL_law_533 : decode cL_law 533 = .ok (.iadd, 1) := by decide +kernel
theorem dL_law_534 : decode cL_law 534 = .ok (.iaload, 1) := by decide +kernel
theorem dL_law_535 : decode cL_law 535 = .ok (.invokevirtual 69, 3) := by decide +kernel
theorem dL_law_538 : decode cL_law 538 = .ok (.lcmp, 1) := by decide +kernel
theorem dL_law_539 : decode cL_law 539 = .ok (.ifCond .eq 182, 3) := by decide +kernel
theorem dL_law_542 : decode cL_law 542 = .ok (.iconst 0, 1) := by decide +kernel
theorem dL_law_543 : decode cL_law 543 = .ok (.ireturn, 1) := by decide +kernel
theorem dL_law_544 : decode cL_law 544 = .ok (.aload_n 1, 1) := by decide +kernel
theorem dL_law_545 : decode cL_law 545 = .ok (.aload_n 0, 1) := by decide +kernel
theorem dL_law_546 : decode cL_law 546 = .ok (.iload_n 3, 1) := by decide +kernel
theorem dL_law_547 : decode cL_law 547 = .ok (.iconst 1, 1) := by decide +kernel
theorem dL_law_548 : decode cL_law 548 = .ok (.iadd, 1) := by decide +kernel
theorem dL_law_549 : decode cL_law 549 = .ok (.iaload, 1) := by decide +kernel
theorem dL_law_550 : decode cL_law 550 = .ok (.i2l, 1) := by decide +kernel
theorem dL_law_551 : decode cL_law 551 = .ok (.bipush 32, 2) := by decide +kernel
theorem dL_law_553 : decode cL_law 553 = .ok (.lshl, 1) := by decide +kernel
theorem dL_law_554 : decode cL_law 554 = .ok (.aload_n 0, 1) := by decide +kernel
theorem dL_law_555 : decode cL_law 555 = .ok (.iload_n 3, 1) := by decide +kernel
theorem dL_law_556 : decode cL_law 556 = .ok (.iconst 2, 1) := by decide +kernel
theorem dL_law_557 : decode cL_law 557 = .ok (.iadd, 1) := by decide +kernel
theorem dL_law_558 : decode cL_law 558 = .ok (.iaload, 1) := by decide +kernel
theorem dL_law_559 : decode cL_law 559 = .ok (.i2l, 1) := by decide +kernel
theorem dL_law_560 : decode cL_law 560 = .ok (.ldc2_w 54, 3) := by decide +kernel
theorem dL_law_563 : decode cL_law 563 = .ok (.land, 1) := by decide +kernel
theorem dL_law_564 : decode cL_law 564 = .ok (.lor, 1) := by decide +kernel
theorem dL_law_565 : decode cL_law 565 = .ok (.aload_n 0, 1) := by decide +kernel
theorem dL_law_566 : decode cL_law 566 = .ok (.iload_n 3, 1) := by decide +kernel
theorem dL_law_567 : decode cL_law 567 = .ok (.iconst 3, 1) := by decide +kernel
theorem dL_law_568 : decode cL_law 568 = .ok (.iadd, 1) := by decide +kernel
theorem dL_law_569 : decode cL_law 569 = .ok (.iaload, 1) := by decide +kernel
theorem dL_law_570 : decode cL_law 570 = .ok (.invokevirtual 70, 3) := by decide +kernel
end
section
theorem dL_law_573 : decode cL_law 573 = .ok (.aload_n 2, 1) := by decide +kernel
theorem dL_law_574 : decode cL_law 574 = .ok (.aload_n 0, 1) := by decide +kernel
theorem dL_law_575 : decode cL_law 575 = .ok (.iload_n 3, 1) := by decide +kernel
theorem dL_law_576 : decode cL_law 576 = .ok (.iconst 1, 1) := by decide +kernel
theorem dL_law_577 : decode cL_law 577 = .ok (.iadd, 1) := by decide +kernel
theorem dL_law_578 : decode cL_law 578 = .ok (.iaload, 1) := by decide +kernel
theorem dL_law_579 : decode cL_law 579 = .ok (.i2l, 1) := by decide +kernel
theorem dL_law_580 : decode cL_law 580 = .ok (.bipush 32, 2) := by decide +kernel
theorem dL_law_582 : decode cL_law 582 = .ok (.lshl, 1) := by decide +kernel
theorem dL_law_583 : decode cL_law 583 = .ok (.aload_n 0, 1) := by decide +kernel
theorem dL_law_584 : decode cL_law 584 = .ok (.iload_n 3, 1) := by decide +kernel
theorem dL_law_585 : decode cL_law 585 = .ok (.iconst 2, 1) := by decide +kernel
theorem dL_law_586 : decode cL_law 586 = .ok (.iadd, 1) := by decide +kernel
theorem dL_law_587 : decode cL_law 587 = .ok (.iaload, 1) := by decide +kernel
theorem dL_law_588 : decode cL_law 588 = .ok (.i2l, 1) := by decide +kernel
theorem dL_law_589 : decode cL_law 589 = .ok (.ldc2_w 54, 3) := by decide +kernel
theorem dL_law_592 : decode cL_law 592 = .ok (.land, 1) := by decide +kernel
theorem dL_law_593 : decode cL_law 593 = .ok (.lor, 1) := by decide +kernel
theorem dL_law_594 : decode cL_law 594 = .ok (.aload_n 0, 1) := by decide +kernel
theorem dL_law_595 : decode cL_law 595 = .ok (.iload_n 3, 1) := by decide +kernel
theorem dL_law_596 : decode cL_law 596 = .ok (.iconst 3, 1) := by decide +kernel
theorem dL_law_597 : decode cL_law 597 = .ok (.iadd, 1) := by decide +kernel
theorem dL_law_598 : decode cL_law 598 = .ok (.iaload, 1) := by decide +kernel
theorem dL_law_599 : decode cL_law 599 = .ok (.invokevirtual 74, 3) := by decide +kernel
theorem dL_law_602 : decode cL_law 602 = .ok (.if_icmp .eq 119, 3) := by decide +kernel
theorem dL_law_605 : decode cL_law 605 = .ok (.iconst 0, 1) := by decide +kernel
theorem dL_law_606 : decode cL_law 606 = .ok (.ireturn, 1) := by decide +kernel
theorem dL_law_607 : decode cL_law 607 = .ok (.aload_n 1, 1) := by decide +kernel
theorem dL_law_608 : decode cL_law 608 = .ok (.aload_n 0, 1) := by decide +kernel
theorem dL_law_609 : decode cL_law 609 = .ok (.iload_n 3, 1) := by decide +kernel
theorem dL_law_610 : decode cL_law 610 = .ok (.iconst 1, 1) := by decide +kernel
theorem dL_law_611 : decode cL_law 611 = .ok (.iadd, 1) := by decide +kernel
theorem dL_law_612 : decode cL_law 612 = .ok (.iaload, 1) := by decide +kernel
theorem dL_law_613 : decode cL_law 613 = .ok (.i2l, 1) := by decide +kernel
theorem dL_law_614 : decode cL_law 614 = .ok (.bipush 32, 2) := by decide +kernel
theorem dL_law_616 : decode cL_law 616 = .ok (.lshl, 1) := by decide +kernel
theorem dL_law_617 : decode cL_law 617 = .ok (.aload_n 0, 1) := by decide +kernel
theorem dL_law_618 : decode cL_law 618 = .ok (.iload_n 3, 1) := by decide +kernel
theorem dL_law_619 : decode cL_law 619 = .ok (.iconst 2, 1) := by decide +kernel
theorem dL_law_620 : decode cL_law 620 = .ok (.iadd, 1) := by decide +kernel
theorem dL_law_621 : decode cL_law 621 = .ok (.iaload, 1) := by decide +kernel
theorem dL_law_622 : decode cL_law 622 = .ok (.i2l, 1) := by decide +kernel
theorem dL_law_623 : decode cL_law 623 = .ok (.ldc2_w 54, 3) := by decide +kernel
theorem dL_law_626 : decode cL_law 626 = .ok (.land, 1) := by decide +kernel
theorem dL_law_627 : decode cL_law 627 = .ok (.lor, 1) := by decide +kernel
theorem dL_law_628 : decode cL_law 628 = .ok (.invokevirtual 75, 3) := by decide +kernel
theorem dL_law_631 : decode cL_law 631 = .ok (.aload_n 2, 1) := by decide +kernel
theorem dL_law_632 : decode cL_law 632 = .ok (.aload_n 0, 1) := by decide +kernel
theorem dL_law_633 : decode cL_law 633 = .ok (.iload_n 3, 1) := by decide +kernel
theorem dL_law_634 : decode cL_law 634 = .ok (.iconst 1, 1) := by decide +kernel
theorem dL_law_635 : decode cL_law 635 = .ok (.iadd, 1) := by decide +kernel
theorem dL_law_636 : decode cL_law 636 = .ok (.iaload, 1) := by decide +kernel
theorem dL_law_637 : decode cL_law 637 = .ok (.i2l, 1) := by decide +kernel
theorem dL_law_638 : decode cL_law 638 = .ok (.bipush 32, 2) := by decide +kernel
theorem dL_law_640 : decode cL_law 640 = .ok (.lshl, 1) := by decide +kernel
theorem dL_law_641 : decode cL_law 641 = .ok (.aload_n 0, 1) := by decide +kernel
theorem dL_law_642 : decode cL_law 642 = .ok (.iload_n 3, 1) := by decide +kernel
theorem dL_law_643 : decode cL_law 643 = .ok (.iconst 2, 1) := by decide +kernel
theorem dL_law_644 : decode cL_law 644 = .ok (.iadd, 1) := by decide +kernel
theorem dL_law_645 : decode cL_law 645 = .ok (.iaload, 1) := by decide +kernel
theorem dL_law_646 : decode cL_law 646 = .ok (.i2l, 1) := by decide +kernel
theorem dL_law_647 : decode cL_law 647 = .ok (.ldc2_w 54, 3) := by decide +kernel
theorem dL_law_650 : decode cL_law 650 = .ok (.land, 1) := by decide +kernel
theorem dL_law_651 : decode cL_law 651 = .ok (.lor, 1) := by decide +kernel
theorem dL_law_652 : decode cL_law 652 = .ok (.invokevirtual 78, 3) := by decide +kernel
theorem dL_law_655 : decode cL_law 655 = .ok (.if_icmp .eq 66, 3) := by decide +kernel
theorem dL_law_658 : decode cL_law 658 = .ok (.iconst 0, 1) := by decide +kernel
theorem dL_law_659 : decode cL_law 659 = .ok (.ireturn, 1) := by decide +kernel
theorem dL_law_660 : decode cL_law 660 = .ok (.aload_n 1, 1) := by decide +kernel
theorem dL_law_661 : decode cL_law 661 = .ok (.invokevirtual 79, 3) := by decide +kernel
theorem dL_law_664 : decode cL_law 664 = .ok (.aload_n 2, 1) := by decide +kernel
theorem dL_law_665 : decode cL_law 665 = .ok (.invokevirtual 83, 3) := by decide +kernel
theorem dL_law_668 : decode cL_law 668 = .ok (.if_icmp .eq 53, 3) := by decide +kernel
theorem dL_law_671 : decode cL_law 671 = .ok (.iconst 0, 1) := by decide +kernel
theorem dL_law_672 : decode cL_law 672 = .ok (.ireturn, 1) := by decide +kernel
theorem dL_law_673 : decode cL_law 673 = .ok (.aload_n 1, 1) := by decide +kernel
theorem dL_law_674 : decode cL_law 674 = .ok (.aload_n 0, 1) := by decide +kernel
theorem dL_law_675 : decode cL_law 675 = .ok (.iload_n 3, 1) := by decide +kernel
theorem dL_law_676 : decode cL_law 676 = .ok (.iconst 1, 1) := by decide +kernel
theorem dL_law_677 : decode cL_law 677 = .ok (.iadd, 1) := by decide +kernel
theorem dL_law_678 : decode cL_law 678 = .ok (.iaload, 1) := by decide +kernel
theorem dL_law_679 : decode cL_law 679 = .ok (.invokevirtual 84, 3) := by decide +kernel
theorem dL_law_682 : decode cL_law 682 = .ok (.aload_n 2, 1) := by decide +kernel
theorem dL_law_683 : decode cL_law 683 = .ok (.aload_n 0, 1) := by decide +kernel
theorem dL_law_684 : decode cL_law 684 = .ok (.iload_n 3, 1) := by decide +kernel
theorem dL_law_685 : decode cL_law 685 = .ok (.iconst 1, 1) := by decide +kernel
theorem dL_law_686 : decode cL_law 686 = .ok (.iadd, 1) := by decide +kernel
theorem dL_law_687 : decode cL_law 687 = .ok (.iaload, 1) := by decide +kernel
theorem dL_law_688 : decode cL_law 688 = .ok (.invokevirtual 87, 3) := by decide +kernel
theorem dL_law_691 : decode cL_law 691 = .ok (.lcmp, 1) := by decide +kernel
theorem dL_law_692 : decode cL_law 692 = .ok (.ifCond .eq 29, 3) := by decide +kernel
theorem dL_law_695 : decode cL_law 695 = .ok (.iconst 0, 1) := by decide +kernel
theorem dL_law_696 : decode cL_law 696 = .ok (.ireturn, 1) := by decide +kernel
theorem dL_law_697 : decode cL_law 697 = .ok (.aload_n 1, 1) := by decide +kernel
theorem dL_law_698 : decode cL_law 698 = .ok (.aload_n 0, 1) := by decide +kernel
theorem dL_law_699 : decode cL_law 699 = .ok (.iload_n 3, 1) := by decide +kernel
theorem dL_law_700 : decode cL_law 700 = .ok (.iconst 1, 1) := by decide +kernel
theorem dL_law_701 : decode cL_law 701 = .ok (.iadd, 1) := by decide +kernel
theorem dL_law_702 : decode cL_law 702 = .ok (.iaload, 1) := by decide +kernel
theorem dL_law_703 : decode cL_law 703 = .ok (.invokevirtual 88, 3) := by decide +kernel
theorem dL_law_706 : decode cL_law 706 = .ok (.aload_n 2, 1) := by decide +kernel
theorem dL_law_707 : decode cL_law 707 = .ok (.aload_n 0, 1) := by decide +kernel
theorem dL_law_708 : decode cL_law 708 = .ok (.iload_n 3, 1) := by decide +kernel
theorem dL_law_709 : decode cL_law 709 = .ok (.iconst 1, 1) := by decide +kernel
theorem dL_law_710 : decode cL_law 710 = .ok (.iadd, 1) := by decide +kernel
theorem dL_law_711 : decode cL_law 711 = .ok (.iaload, 1) := by decide +kernel
theorem dL_law_712 : decode cL_law 712 = .ok (.invokevirtual 91, 3) := by decide +kernel
theorem dL_law_715 : decode cL_law 715 = .ok (.lcmp, 1) := by decide +kernel
theorem dL_law_716 : decode cL_law 716 = .ok (.ifCond .eq 5, 3) := by decide +kernel
theorem dL_law_719 : decode cL_law 719 = .ok (.iconst 0, 1) := by decide +kernel
theorem dL_law_720 : decode cL_law 720 = .ok (.ireturn, 1) := by decide +kernel
theorem dL_law_721 : decode cL_law 721 = .ok (.iinc 3 5, 3) := by decide +kernel
theorem dL_law_724 : decode cL_law 724 = .ok (.goto (-706), 3) := by decide +kernel
theorem dL_law_727 : decode cL_law 727 = .ok (.iconst 1, 1) := by decide +kernel
theorem dL_law_728 : decode cL_law 728 = .ok (.ireturn, 1) := by decide +kernel
end
section
/-! numbers: an Int32, an Int64 by the Int that it stands for -/
theorem ti_rng (x : Int32) : -2147483648 ≤ x.toInt ∧ x.toInt ≤ 2147483647 := by
  have h1 := x.le_toInt; have h2 := x.toInt_lt; omega
theorem tl_rng (x : Int64) : -9223372036854775808 ≤ x.toInt ∧ x.toInt ≤ 9223372036854775807 := by
  have h1 := x.le_toInt; have h2 := x.toInt_lt; omega
theorem ti_bm {a : Int} (h1 : -2147483648 ≤ a) (h2 : a ≤ 2147483647) : a.bmod (2 ^ 32) = a := Int.bmod_eq_of_le (by omega) (by omega)
theorem tl_bm {a : Int} (h1 : -9223372036854775808 ≤ a) (h2 : a ≤ 9223372036854775807) : a.bmod (2 ^ 64) = a := Int.bmod_eq_of_le (by omega) (by omega)
theorem ti_add {x y : Int32} {a b : Int} (hx : x.toInt = a) (hy : y.toInt = b) (h1 : -2147483648 ≤ a + b) (h2 : a + b ≤ 2147483647) : (x + y).toInt = a + b := by
  rw [Int32.toInt_add, hx, hy, ti_bm h1 h2]
theorem ti_sub {x y : Int32} {a b : Int} (hx : x.toInt = a) (hy : y.toInt = b) (h1 : -2147483648 ≤ a - b) (h2 : a - b ≤ 2147483647) : (x - y).toInt = a - b := by
  rw [Int32.toInt_sub, hx, hy, ti_bm h1 h2]
theorem ti_mul {x y : Int32} {a b : Int} (hx : x.toInt = a) (hy : y.toInt = b) (h1 : -2147483648 ≤ a * b) (h2 : a * b ≤ 2147483647) : (x * y).toInt = a * b := by
  rw [Int32.toInt_mul, hx, hy, ti_bm h1 h2]
theorem ti_div {x y : Int32} {a b : Int} (hx : x.toInt = a) (hy : y.toInt = b) (h1 : 0 ≤ a) (h2 : 0 < b) : (x / y).toInt = a / b := by
  have hr := ti_rng x
  have h3 : a / b ≤ a := Int.ediv_le_self _ h1
  have h4 : 0 ≤ a / b := Int.ediv_nonneg h1 (by omega)
  rw [Int32.toInt_div, hx, hy, Int.tdiv_eq_ediv_of_nonneg h1, ti_bm (by omega) (by omega)]
theorem tl_add {x y : Int64} {a b : Int} (hx : x.toInt = a) (hy : y.toInt = b) (h1 : -9223372036854775808 ≤ a + b) (h2 : a + b ≤ 9223372036854775807) : (x + y).toInt = a + b := by
  rw [Int64.toInt_add, hx, hy, tl_bm h1 h2]
theorem tl_sub {x y : Int64} {a b : Int} (hx : x.toInt = a) (hy : y.toInt = b) (h1 : -9223372036854775808 ≤ a - b) (h2 : a - b ≤ 9223372036854775807) : (x - y).toInt = a - b := by
  rw [Int64.toInt_sub, hx, hy, tl_bm h1 h2]
theorem tl_mul {x y : Int64} {a b : Int} (hx : x.toInt = a) (hy : y.toInt = b) (h1 : -9223372036854775808 ≤ a * b) (h2 : a * b ≤ 9223372036854775807) : (x * y).toInt = a * b := by
  rw [Int64.toInt_mul, hx, hy, tl_bm h1 h2]
theorem tl_neg {x : Int64} {a : Int} (hx : x.toInt = a) (h1 : -9223372036854775807 ≤ a) : (-x).toInt = -a := by
  have hr := tl_rng x
  rw [Int64.toInt_neg, hx, tl_bm (by omega) (by omega)]
theorem tl_div {x y : Int64} {a b : Int} (hx : x.toInt = a) (hy : y.toInt = b) (h1 : 0 ≤ a) (h2 : 0 < b) : (x / y).toInt = a / b := by
  have hr := tl_rng x
  have h3 : a / b ≤ a := Int.ediv_le_self _ h1
  have h4 : 0 ≤ a / b := Int.ediv_nonneg h1 (by omega)
  rw [Int64.toInt_div, hx, hy, Int.tdiv_eq_ediv_of_nonneg h1, tl_bm (by omega) (by omega)]
theorem tl_rem {x y : Int64} {a b : Int} (hx : x.toInt = a) (hy : y.toInt = b) (h1 : 0 ≤ a) (h2 : 0 < b) : (x - x / y * y).toInt = a % b := by
  have hr := tl_rng x
  have h3 : a / b ≤ a := Int.ediv_le_self _ h1
  have h4 : 0 ≤ a / b := Int.ediv_nonneg h1 (by omega)
  have h5 : a % b + b * (a / b) = a := Int.emod_add_mul_ediv a b
  have h6 : 0 ≤ a % b := Int.emod_nonneg _ (by omega)
  have h8 : 0 ≤ b * (a / b) := Int.mul_nonneg (by omega) h4
  have h9 : a / b * b = b * (a / b) := Int.mul_comm _ _
  have hd := tl_div hx hy h1 h2
  have hm := tl_mul hd hy (by omega) (by omega)
  rw [tl_sub hx hm (by omega) (by omega)]
  omega
theorem tc_i2l {x : Int32} {a : Int} (hx : x.toInt = a) : x.toInt64.toInt = a := by rw [Int32.toInt_toInt64, hx]
theorem tc_l2i {x : Int64} {a : Int} (hx : x.toInt = a) (h1 : -2147483648 ≤ a) (h2 : a ≤ 2147483647) : x.toInt32.toInt = a := by rw [Int64.toInt_toInt32, hx, ti_bm h1 h2]
theorem i_le {x y : Int32} {a b : Int} (hx : x.toInt = a) (hy : y.toInt = b) (h : x ≤ y) : a ≤ b := by rw [Int32.le_iff_toInt_le, hx, hy] at h; exact h
theorem i_nle {x y : Int32} {a b : Int} (hx : x.toInt = a) (hy : y.toInt = b) (h : ¬ x ≤ y) : b < a := by rw [Int32.le_iff_toInt_le, hx, hy] at h; omega
theorem i_lt {x y : Int32} {a b : Int} (hx : x.toInt = a) (hy : y.toInt = b) (h : x < y) : a < b := by rw [Int32.lt_iff_toInt_lt, hx, hy] at h; exact h
theorem i_nlt {x y : Int32} {a b : Int} (hx : x.toInt = a) (hy : y.toInt = b) (h : ¬ x < y) : b ≤ a := by rw [Int32.lt_iff_toInt_lt, hx, hy] at h; omega
theorem i_eq {x y : Int32} {a b : Int} (hx : x.toInt = a) (hy : y.toInt = b) (h : x = y) : a = b := by rw [← hx, ← hy, h]
theorem i_ne {x y : Int32} {a b : Int} (hx : x.toInt = a) (hy : y.toInt = b) (h : ¬ x = y) : a ≠ b := fun e => h (Int32.toInt_inj.mp (by rw [hx, hy, e]))
theorem l_le {x y : Int64} {a b : Int} (hx : x.toInt = a) (hy : y.toInt = b) (h : x ≤ y) : a ≤ b := by rw [Int64.le_iff_toInt_le, hx, hy] at h; exact h
theorem l_nle {x y : Int64} {a b : Int} (hx : x.toInt = a) (hy : y.toInt = b) (h : ¬ x ≤ y) : b < a := by rw [Int64.le_iff_toInt_le, hx, hy] at h; omega
theorem l_lt {x y : Int64} {a b : Int} (hx : x.toInt = a) (hy : y.toInt = b) (h : x < y) : a < b := by rw [Int64.lt_iff_toInt_lt, hx, hy] at h; exact h
theorem l_nlt {x y : Int64} {a b : Int} (hx : x.toInt = a) (hy : y.toInt = b) (h : ¬ x < y) : b ≤ a := by rw [Int64.lt_iff_toInt_lt, hx, hy] at h; omega
theorem l_eq {x y : Int64} {a b : Int} (hx : x.toInt = a) (hy : y.toInt = b) (h : x = y) : a = b := by rw [← hx, ← hy, h]
theorem l_ne {x y : Int64} {a b : Int} (hx : x.toInt = a) (hy : y.toInt = b) (h : ¬ x = y) : a ≠ b := fun e => h (Int64.toInt_inj.mp (by rw [hx, hy, e]))
theorem i_ext {x y : Int32} (h : x.toInt = y.toInt) : x = y := Int32.toInt_inj.mp h
theorem l_ext {x y : Int64} (h : x.toInt = y.toInt) : x = y := Int64.toInt_inj.mp h
theorem i_ne0 {y : Int32} {b : Int} (hy : y.toInt = b) (h : b ≠ 0) : ¬ y = 0 := fun e => h (by rw [← hy, e]; rfl)
theorem l_ne0 {y : Int64} {b : Int} (hy : y.toInt = b) (h : b ≠ 0) : ¬ y = 0 := fun e => h (by rw [← hy, e]; rfl)
theorem vi_in {i : Int32} {a : Int} {n : Nat} (hi : i.toInt = a) (h1 : 0 ≤ a) (h2 : a < (n : Int)) : vp_in i n := vp_in_iff.mpr ⟨by omega, by omega⟩
theorem cl_nat {i : Int32} {a : Int} {k : Nat} (hi : i.toInt = a) (h : a = (k : Int)) : i.toNatClampNeg = k := by
  show i.toInt.toNat = k
  rw [hi, h]; rfl
/-! the frame of all contracts: a world of cells, the tables, the links between nest mates -/
abbrev ty2 (cI cL : ClassId) : List (ClassId × FieldType) := [(cI, .int), (cL, .long)]
def nestw (U : State) : Prop :=
  (va_Nw (.methodLinkNest RX3 9 yX1_init RX3) U ∧ va_Nw (.methodLinkNest RX3 18 yX0_init RX3) U ∧ va_Nw (.methodLinkNest RX3 25 yX2_init RX3) U ∧ va_Nw (.methodLinkNest RX1 66 yX3_sumOfQuotients RX3) U) ∧
  (va_Nw (.fieldLinkNest RX3 66 RX1 "size" "I" RX3) U ∧ va_Nw (.fieldLinkNest RX3 70 RX0 "size" "I" RX3) U ∧ va_Nw (.fieldLinkNest RX3 71 RX2 "size" "I" RX3) U)
theorem nestw_warm {s U : State} (hW : s.WarmedH U.vm) (h : nestw s) : nestw U := by
  obtain ⟨⟨h1, h2, h3, h4⟩, h5, h6, h7⟩ := h
  exact ⟨⟨h1.warmM hW, h2.warmM hW, h3.warmM hW, h4.warmM hW⟩, h5.warmF hW, h6.warmF hW, h7.warmF hW⟩
theorem nestw_same {u U : State} (hvm : u.vm = U.vm) (h : nestw u) : nestw U := by
  obtain ⟨⟨h1, h2, h3, h4⟩, h5, h6, h7⟩ := h
  exact ⟨⟨h1.same rfl hvm, h2.same rfl hvm, h3.same rfl hvm, h4.same rfl hvm⟩, h5.same rfl hvm, h6.same rfl hvm, h7.same rfl hvm⟩
def pre0 (G : va_G) (cI cL : ClassId) (ws : va_W) (sz : Nat) (U : State) : Prop := U.heap.size = sz ∧ va_P G vwCl ws U.heap ∧ va_K G vwCl (ty2 cI cL) U ∧ va_D (fun _ => True) ws ∧ nestw U
theorem pre_blind {av : List Value} {G : va_G} {cI cL : ClassId} {ws : va_W} {sz : Nat} : FrameBlind (va_Pc av (pre0 G cI cL ws sz)) := by
  intro a U g mk q
  obtain ⟨q0, q1, q2, q3, q4, q5⟩ := q
  exact ⟨q0, q1, q2, va_K.moved (u := U) (U := U.calling g mk a) (Vm.Alike.refl U.vm) q3, q4, nestw_same (u := U) rfl q5⟩
theorem pre_pass {av : List Value} {G : va_G} {cI cL : ClassId} {wc : va_W} {A : Nat → Prop} {s : State} {H : Heap} (hK : va_K G vwCl (ty2 cI cL) s) (hN : nestw s) (hP : va_P G vwCl wc H) (hD : va_D A wc) : ∀ U : State, U.heap = H → s.WarmedH U.vm → va_Pc av (pre0 G cI cL wc H.size) av.toArray U := by
  intro U hU hW
  exact ⟨rfl, by rw [hU], by rw [hU]; exact hP, va_K.moved hW.alike hK, hD.weaken (fun _ _ _ _ => trivial), nestw_warm hW hN⟩
/-- behind a call that leaves its cells as they were -/
theorem ro_keep {D : va_G} {cl : List vw_C} {A0 : Nat → Prop} {ws wc : va_W} {H H1 : Heap} (hP : va_P D cl ws H) (hD : va_D A0 ws) (isC : List Nat) (hC : isC.map (fun i => ws[i]?) = wc.map some)
    (hk : ∀ q : Nat, q < H.size → ¬ va_A wc H.size q → H1[q]? = H[q]?) (hP1 : va_P D cl wc H1) : va_P D cl ws H1 := by
  intro k q hq
  by_cases h : ∃ (j : Nat) (e : va_E), wc[j]? = some (q.1, e)
  · obtain ⟨j, e, hj⟩ := h
    have h1 : (isC.map (fun i => ws[i]?))[j]? = some (some (q.1, e)) := by rw [hC, List.getElem?_map, hj]; rfl
    rw [List.getElem?_map] at h1
    cases hi : isC[j]? with
    | none => rw [hi] at h1; cases h1
    | some i =>
      rw [hi] at h1
      have h2 : ws[i]? = some (q.1, e) := Option.some.inj h1
      have h3 : k = i := hD.1 k i q (q.1, e) hq h2 rfl
      subst h3
      have h4 : q = (q.1, e) := Option.some.inj (hq.symm.trans h2)
      rw [h4]
      exact hP1 j _ hj
  · refine (hP k q hq).kept (hk q.1 (hP k q hq).lt ?_)
    rintro (⟨k2, e, h2⟩ | h2)
    · exact h ⟨k2, e, h2⟩
    · have := (hP k q hq).lt
      omega
section RO
variable {p : Program} {l : Launch} {e : Env} {R : Room} {s : State} {m : MethodId} {args : Array Value} {below : List Frame} {meth : Method} {c : Code} {H : Heap} {locs : List Loc} {cells slots : Nat} {Q : State → Prop}
variable {pc : Nat} {ls : Array Slot} {rest st0 : List Value} {a : Array Value} {A0 : Nat → Prop} {H0 : Heap} {G : va_G} {ws wc : va_W}
theorem ro_calli {post : Int32 → Unit → Prop} (hr : va_Run p l e R s m args below meth c H locs cells slots 0 0 (F0 m pc ls st0) rest (va_Qi post (fun _ t => va_P G vwCl wc t.heap ∧ va_D (va_A wc H.size) wc) (va_A wc H.size) a) (va_A wc H.size)) (hP : va_P G vwCl ws H) (hD : va_D A0 ws) (hS : va_S A0 H0 H locs) (hA : ∀ q, H0.size ≤ q → A0 q) (isC : List Nat) (hC : isC.map (fun i => ws[i]?) = wc.map some)
    (kk : ∀ (r : Int32) (H1 : Heap) (locs1 : List Loc), post r () → va_P G vwCl ws H1 → va_S A0 H0 H1 locs1 → W p l e R s m args below meth c H1 locs1 cells slots Q (F0 m (pc + 3) ls (.int r :: rest))) : W p l e R s m args below meth c H locs cells slots Q (F0 m pc ls st0) := by
  have hF := va_free (wc := wc) hD hS hA isC hC
  refine va_calli hr hS (fun q _ h => hF q h) hF (fun r u t H1 locs1 ht hvm hw hB hz hk hS1 => ?_)
  refine kk r H1 locs1 hw (ro_keep hP hD isC hC hk ?_) hS1
  rw [← ht]; exact hB.1
theorem ro_calll {post : Int64 → Unit → Prop} (hr : va_Run p l e R s m args below meth c H locs cells slots 0 0 (F0 m pc ls st0) rest (va_Ql post (fun _ t => va_P G vwCl wc t.heap ∧ va_D (va_A wc H.size) wc) (va_A wc H.size) a) (va_A wc H.size)) (hP : va_P G vwCl ws H) (hD : va_D A0 ws) (hS : va_S A0 H0 H locs) (hA : ∀ q, H0.size ≤ q → A0 q) (isC : List Nat) (hC : isC.map (fun i => ws[i]?) = wc.map some)
    (kk : ∀ (r : Int64) (H1 : Heap) (locs1 : List Loc), post r () → va_P G vwCl ws H1 → va_S A0 H0 H1 locs1 → W p l e R s m args below meth c H1 locs1 cells slots Q (F0 m (pc + 3) ls (.long r :: rest))) : W p l e R s m args below meth c H locs cells slots Q (F0 m pc ls st0) := by
  have hF := va_free (wc := wc) hD hS hA isC hC
  refine va_calll hr hS (fun q _ h => hF q h) hF (fun r u t H1 locs1 ht hvm hw hB hz hk hS1 => ?_)
  refine kk r H1 locs1 hw (ro_keep hP hD isC hC hk ?_) hS1
  rw [← ht]; exact hB.1
/-- a call that changes its cells: the rest's places and the new cells, in the order that ps says -/
theorem rw_calli {S : Type} {post : Int32 → S → Prop} {wf : S → va_W} {wr : va_W} (hr : va_Run p l e R s m args below meth c H locs cells slots 0 0 (F0 m pc ls st0) rest (va_Qi post (fun u t => va_P G vwCl (wf u) t.heap ∧ va_D (va_A wc H.size) (wf u)) (va_A wc H.size) a) (va_A wc H.size)) (hP : va_P G vwCl ws H) (hD : va_D A0 ws) (hS : va_S A0 H0 H locs) (hA : ∀ q, H0.size ≤ q → A0 q) (isC isR : List Nat) (hC : isC.map (fun i => ws[i]?) = wc.map some) (hR : isR.map (fun i => ws[i]?) = wr.map some) (hn : va_nd isR = true) (hdis : ∀ i ∈ isR, i ∉ isC)
    (kk : ∀ (r : Int32) (u : S) (H1 : Heap) (locs1 : List Loc), post r u → va_P G vwCl (wr ++ wf u) H1 → va_D A0 (wr ++ wf u) → va_S A0 H0 H1 locs1 → W p l e R s m args below meth c H1 locs1 cells slots Q (F0 m (pc + 3) ls (.int r :: rest))) : W p l e R s m args below meth c H locs cells slots Q (F0 m pc ls st0) := by
  have hF := va_free (wc := wc) hD hS hA isC hC
  refine va_calli hr hS (fun q _ h => hF q h) hF (fun r u t H1 locs1 ht hvm hw hB hz hk hS1 => ?_)
  obtain ⟨hP1, hD1⟩ := hB
  rw [ht] at hP1
  obtain ⟨h1, h2⟩ := va_join (wr := wr) (w1 := wf u) hP hD isC isR hC hR hn hdis hk hF hP1 hD1
  exact kk r u H1 locs1 hw h1 h2 hS1
theorem rw_callv {S : Type} {post : S → Prop} {wf : S → va_W} {wr : va_W} (hr : va_Run p l e R s m args below meth c H locs cells slots 0 0 (F0 m pc ls st0) rest (va_Qv post (fun u t => va_P G vwCl (wf u) t.heap ∧ va_D (va_A wc H.size) (wf u)) (va_A wc H.size) a) (va_A wc H.size)) (hP : va_P G vwCl ws H) (hD : va_D A0 ws) (hS : va_S A0 H0 H locs) (hA : ∀ q, H0.size ≤ q → A0 q) (isC isR : List Nat) (hC : isC.map (fun i => ws[i]?) = wc.map some) (hR : isR.map (fun i => ws[i]?) = wr.map some) (hn : va_nd isR = true) (hdis : ∀ i ∈ isR, i ∉ isC)
    (kk : ∀ (u : S) (H1 : Heap) (locs1 : List Loc), post u → va_P G vwCl (wr ++ wf u) H1 → va_D A0 (wr ++ wf u) → va_S A0 H0 H1 locs1 → W p l e R s m args below meth c H1 locs1 cells slots Q (F0 m (pc + 3) ls rest)) : W p l e R s m args below meth c H locs cells slots Q (F0 m pc ls st0) := by
  have hF := va_free (wc := wc) hD hS hA isC hC
  refine va_callv hr hS (fun q _ h => hF q h) hF (fun u t H1 locs1 ht hvm hw hB hz hk hS1 => ?_)
  obtain ⟨hP1, hD1⟩ := hB
  rw [ht] at hP1
  obtain ⟨h1, h2⟩ := va_join (wr := wr) (w1 := wf u) hP hD isC isR hC hR hn hdis hk hF hP1 hD1
  exact kk u H1 locs1 hw h1 h2 hS1
theorem w_h {g : JFrame} {A : Nat → Prop} (hP : va_P G vwCl ws s.heap) (k : ∀ (H : Heap) (locs : List Loc), va_P G vwCl ws H → va_S A s.heap H locs → W p l e R s m args below meth c H locs cells slots Q g) : W p l e R s m args below meth c s.heap [] cells slots Q g := k s.heap [] hP va_S.rf
theorem na_i {cc : ByteArray} {cI cL : ClassId} {A : Nat → Prop} (hexec : p.tables.exec = Jvm.exec) (hb : c.code = cc) (harr : (Cond.arrayClass .int).before args s = true) (hK : va_K G vwCl (ty2 cI cL) s) (hP : va_P G vwCl ws H) (hD : va_D A ws) (hS : va_S A H0 H locs) (hA : ∀ q, H0.size ≤ q → A q)
    {n : Int32} {N' : Nat} (hn : ¬ n < 0) (hN : n.toNatClampNeg = N') (hbytes : N' * componentBytes .int ≤ 536870912) (hcells : cells + 1 ≤ R.cells) (hslots : slots + N' ≤ R.slots) (hdg : decode cc pc = .ok (.newarray .int, 2))
    (kk : ∀ (q : Nat) (H1 : Heap), va_P G vwCl (ws ++ [(q, .inl (cI, N', .inl (fun _ => 0)))]) H1 → va_D A (ws ++ [(q, .inl (cI, N', .inl (fun _ => 0)))]) → va_S A H0 H1 locs → W p l e R s m args below meth c H1 locs (cells + 1) (slots + N') Q (F0 m (pc + 2) ls (.ref q :: rest))) : W p l e R s m args below meth c H locs cells slots Q (F0 m pc ls (.int n :: rest)) := by
  refine va_newa (atype := .int) (ty := .int) hexec hb harr rfl hK hP hD hS hA (a0 := (N', .inl (fun _ => 0))) (fun cA => rfl) hn hN hbytes hcells hslots hdg (fun q cA H1 hK1 hP1 hD1 hS1 => ?_)
  have h1 : s.vm.findClass ("[" ++ FieldType.int.toString) = some cA := (hK1.2 2 (cA, .int) rfl).2
  have h2 : s.vm.findClass ("[" ++ FieldType.int.toString) = some cI := (hK.2 0 (cI, .int) rfl).2
  have e : cA = cI := Option.some.inj (h1.symm.trans h2)
  subst e
  exact kk q H1 hP1 hD1 hS1
theorem na_l {cc : ByteArray} {cI cL : ClassId} {A : Nat → Prop} (hexec : p.tables.exec = Jvm.exec) (hb : c.code = cc) (harr : (Cond.arrayClass .long).before args s = true) (hK : va_K G vwCl (ty2 cI cL) s) (hP : va_P G vwCl ws H) (hD : va_D A ws) (hS : va_S A H0 H locs) (hA : ∀ q, H0.size ≤ q → A q)
    {n : Int32} {N' : Nat} (hn : ¬ n < 0) (hN : n.toNatClampNeg = N') (hbytes : N' * componentBytes .long ≤ 536870912) (hcells : cells + 1 ≤ R.cells) (hslots : slots + N' ≤ R.slots) (hdg : decode cc pc = .ok (.newarray .long, 2))
    (kk : ∀ (q : Nat) (H1 : Heap), va_P G vwCl (ws ++ [(q, .inl (cL, N', .inr (.inl (fun _ => 0))))]) H1 → va_D A (ws ++ [(q, .inl (cL, N', .inr (.inl (fun _ => 0))))]) → va_S A H0 H1 locs → W p l e R s m args below meth c H1 locs (cells + 1) (slots + N') Q (F0 m (pc + 2) ls (.ref q :: rest))) : W p l e R s m args below meth c H locs cells slots Q (F0 m pc ls (.int n :: rest)) := by
  refine va_newa (atype := .long) (ty := .long) hexec hb harr rfl hK hP hD hS hA (a0 := (N', .inr (.inl (fun _ => 0)))) (fun cA => rfl) hn hN hbytes hcells hslots hdg (fun q cA H1 hK1 hP1 hD1 hS1 => ?_)
  have h1 : s.vm.findClass ("[" ++ FieldType.long.toString) = some cA := (hK1.2 2 (cA, .long) rfl).2
  have h2 : s.vm.findClass ("[" ++ FieldType.long.toString) = some cL := (hK.2 1 (cL, .long) rfl).2
  have e : cA = cL := Option.some.inj (h1.symm.trans h2)
  subst e
  exact kk q H1 hP1 hD1 hS1
end RO
theorem ti_min {x y : Int32} {a b : Int} (hx : x.toInt = a) (hy : y.toInt = b) : (if y < x then y else x).toInt = min a b := by
  by_cases h : y < x
  · rw [if_pos h, hy]; have := i_lt hy hx h; omega
  · rw [if_neg h, hx]; have := i_nlt hy hx h; omega
theorem tl_max {x y : Int64} {a b : Int} (hx : x.toInt = a) (hy : y.toInt = b) : (if y < x then x else y).toInt = max a b := by
  by_cases h : y < x
  · rw [if_pos h, hx]; have := l_lt hy hx h; omega
  · rw [if_neg h, hy]; have := l_nlt hy hx h; omega
theorem W_loop1 {A1 : Type} {p : Program} {l : Launch} {e : Env} {R : Room} {s : State} {m : MethodId} {args : Array Value} {below : List Frame} {meth : Method} {c : Code} {cells slots : Nat} {Q : State → Prop} {hd : Nat} {st : List Value} (I : A1 → Array Slot → Heap → List Loc → Prop) (mu : A1 → Nat)
    (step : ∀ (a1 : A1) (ls : Array Slot) (H : Heap) (locs : List Loc), I a1 ls H locs → (∀ (b1 : A1) (ls' : Array Slot) (H' : Heap) (locs' : List Loc), I b1 ls' H' locs' → mu b1 < mu a1 → W p l e R s m args below meth c H' locs' cells slots Q (F0 m hd ls' st)) → W p l e R s m args below meth c H locs cells slots Q (F0 m hd ls st)) :
    ∀ (a1 : A1) (ls : Array Slot) (H : Heap) (locs : List Loc), I a1 ls H locs → W p l e R s m args below meth c H locs cells slots Q (F0 m hd ls st) := by
  have key : ∀ (n : Nat) (a1 : A1) (ls : Array Slot) (H : Heap) (locs : List Loc), I a1 ls H locs → mu a1 < n → W p l e R s m args below meth c H locs cells slots Q (F0 m hd ls st) := by
    intro n
    induction n with
    | zero => intro a1 ls H locs _ h; exact absurd h (Nat.not_lt_zero _)
    | succ n ih =>
      intro a1 ls H locs hI h
      exact step a1 ls H locs hI (fun b1 ls' H' locs' hI' h' => ih b1 ls' H' locs' hI' (by omega))
  intro a1 ls H locs hI
  exact key _ a1 ls H locs hI (Nat.lt_succ_self _)
theorem W_loop2 {A1 A2 : Type} {p : Program} {l : Launch} {e : Env} {R : Room} {s : State} {m : MethodId} {args : Array Value} {below : List Frame} {meth : Method} {c : Code} {cells slots : Nat} {Q : State → Prop} {hd : Nat} {st : List Value} (I : A1 → A2 → Array Slot → Heap → List Loc → Prop) (mu : A1 → A2 → Nat)
    (step : ∀ (a1 : A1) (a2 : A2) (ls : Array Slot) (H : Heap) (locs : List Loc), I a1 a2 ls H locs → (∀ (b1 : A1) (b2 : A2) (ls' : Array Slot) (H' : Heap) (locs' : List Loc), I b1 b2 ls' H' locs' → mu b1 b2 < mu a1 a2 → W p l e R s m args below meth c H' locs' cells slots Q (F0 m hd ls' st)) → W p l e R s m args below meth c H locs cells slots Q (F0 m hd ls st)) :
    ∀ (a1 : A1) (a2 : A2) (ls : Array Slot) (H : Heap) (locs : List Loc), I a1 a2 ls H locs → W p l e R s m args below meth c H locs cells slots Q (F0 m hd ls st) := by
  have key : ∀ (n : Nat) (a1 : A1) (a2 : A2) (ls : Array Slot) (H : Heap) (locs : List Loc), I a1 a2 ls H locs → mu a1 a2 < n → W p l e R s m args below meth c H locs cells slots Q (F0 m hd ls st) := by
    intro n
    induction n with
    | zero => intro a1 a2 ls H locs _ h; exact absurd h (Nat.not_lt_zero _)
    | succ n ih =>
      intro a1 a2 ls H locs hI h
      exact step a1 a2 ls H locs hI (fun b1 b2 ls' H' locs' hI' h' => ih b1 b2 ls' H' locs' hI' (by omega))
  intro a1 a2 ls H locs hI
  exact key _ a1 a2 ls H locs hI (Nat.lt_succ_self _)
theorem W_loop3 {A1 A2 A3 : Type} {p : Program} {l : Launch} {e : Env} {R : Room} {s : State} {m : MethodId} {args : Array Value} {below : List Frame} {meth : Method} {c : Code} {cells slots : Nat} {Q : State → Prop} {hd : Nat} {st : List Value} (I : A1 → A2 → A3 → Array Slot → Heap → List Loc → Prop) (mu : A1 → A2 → A3 → Nat)
    (step : ∀ (a1 : A1) (a2 : A2) (a3 : A3) (ls : Array Slot) (H : Heap) (locs : List Loc), I a1 a2 a3 ls H locs → (∀ (b1 : A1) (b2 : A2) (b3 : A3) (ls' : Array Slot) (H' : Heap) (locs' : List Loc), I b1 b2 b3 ls' H' locs' → mu b1 b2 b3 < mu a1 a2 a3 → W p l e R s m args below meth c H' locs' cells slots Q (F0 m hd ls' st)) → W p l e R s m args below meth c H locs cells slots Q (F0 m hd ls st)) :
    ∀ (a1 : A1) (a2 : A2) (a3 : A3) (ls : Array Slot) (H : Heap) (locs : List Loc), I a1 a2 a3 ls H locs → W p l e R s m args below meth c H locs cells slots Q (F0 m hd ls st) := by
  have key : ∀ (n : Nat) (a1 : A1) (a2 : A2) (a3 : A3) (ls : Array Slot) (H : Heap) (locs : List Loc), I a1 a2 a3 ls H locs → mu a1 a2 a3 < n → W p l e R s m args below meth c H locs cells slots Q (F0 m hd ls st) := by
    intro n
    induction n with
    | zero => intro a1 a2 a3 ls H locs _ h; exact absurd h (Nat.not_lt_zero _)
    | succ n ih =>
      intro a1 a2 a3 ls H locs hI h
      exact step a1 a2 a3 ls H locs hI (fun b1 b2 b3 ls' H' locs' hI' h' => ih b1 b2 b3 ls' H' locs' hI' (by omega))
  intro a1 a2 a3 ls H locs hI
  exact key _ a1 a2 a3 ls H locs hI (Nat.lt_succ_self _)
theorem W_loop4 {A1 A2 A3 A4 : Type} {p : Program} {l : Launch} {e : Env} {R : Room} {s : State} {m : MethodId} {args : Array Value} {below : List Frame} {meth : Method} {c : Code} {cells slots : Nat} {Q : State → Prop} {hd : Nat} {st : List Value} (I : A1 → A2 → A3 → A4 → Array Slot → Heap → List Loc → Prop) (mu : A1 → A2 → A3 → A4 → Nat)
    (step : ∀ (a1 : A1) (a2 : A2) (a3 : A3) (a4 : A4) (ls : Array Slot) (H : Heap) (locs : List Loc), I a1 a2 a3 a4 ls H locs → (∀ (b1 : A1) (b2 : A2) (b3 : A3) (b4 : A4) (ls' : Array Slot) (H' : Heap) (locs' : List Loc), I b1 b2 b3 b4 ls' H' locs' → mu b1 b2 b3 b4 < mu a1 a2 a3 a4 → W p l e R s m args below meth c H' locs' cells slots Q (F0 m hd ls' st)) → W p l e R s m args below meth c H locs cells slots Q (F0 m hd ls st)) :
    ∀ (a1 : A1) (a2 : A2) (a3 : A3) (a4 : A4) (ls : Array Slot) (H : Heap) (locs : List Loc), I a1 a2 a3 a4 ls H locs → W p l e R s m args below meth c H locs cells slots Q (F0 m hd ls st) := by
  have key : ∀ (n : Nat) (a1 : A1) (a2 : A2) (a3 : A3) (a4 : A4) (ls : Array Slot) (H : Heap) (locs : List Loc), I a1 a2 a3 a4 ls H locs → mu a1 a2 a3 a4 < n → W p l e R s m args below meth c H locs cells slots Q (F0 m hd ls st) := by
    intro n
    induction n with
    | zero => intro a1 a2 a3 a4 ls H locs _ h; exact absurd h (Nat.not_lt_zero _)
    | succ n ih =>
      intro a1 a2 a3 a4 ls H locs hI h
      exact step a1 a2 a3 a4 ls H locs hI (fun b1 b2 b3 b4 ls' H' locs' hI' h' => ih b1 b2 b3 b4 ls' H' locs' hI' (by omega))
  intro a1 a2 a3 a4 ls H locs hI
  exact key _ a1 a2 a3 a4 ls H locs hI (Nat.lt_succ_self _)
theorem W_loop5 {A1 A2 A3 A4 A5 : Type} {p : Program} {l : Launch} {e : Env} {R : Room} {s : State} {m : MethodId} {args : Array Value} {below : List Frame} {meth : Method} {c : Code} {cells slots : Nat} {Q : State → Prop} {hd : Nat} {st : List Value} (I : A1 → A2 → A3 → A4 → A5 → Array Slot → Heap → List Loc → Prop) (mu : A1 → A2 → A3 → A4 → A5 → Nat)
    (step : ∀ (a1 : A1) (a2 : A2) (a3 : A3) (a4 : A4) (a5 : A5) (ls : Array Slot) (H : Heap) (locs : List Loc), I a1 a2 a3 a4 a5 ls H locs → (∀ (b1 : A1) (b2 : A2) (b3 : A3) (b4 : A4) (b5 : A5) (ls' : Array Slot) (H' : Heap) (locs' : List Loc), I b1 b2 b3 b4 b5 ls' H' locs' → mu b1 b2 b3 b4 b5 < mu a1 a2 a3 a4 a5 → W p l e R s m args below meth c H' locs' cells slots Q (F0 m hd ls' st)) → W p l e R s m args below meth c H locs cells slots Q (F0 m hd ls st)) :
    ∀ (a1 : A1) (a2 : A2) (a3 : A3) (a4 : A4) (a5 : A5) (ls : Array Slot) (H : Heap) (locs : List Loc), I a1 a2 a3 a4 a5 ls H locs → W p l e R s m args below meth c H locs cells slots Q (F0 m hd ls st) := by
  have key : ∀ (n : Nat) (a1 : A1) (a2 : A2) (a3 : A3) (a4 : A4) (a5 : A5) (ls : Array Slot) (H : Heap) (locs : List Loc), I a1 a2 a3 a4 a5 ls H locs → mu a1 a2 a3 a4 a5 < n → W p l e R s m args below meth c H locs cells slots Q (F0 m hd ls st) := by
    intro n
    induction n with
    | zero => intro a1 a2 a3 a4 a5 ls H locs _ h; exact absurd h (Nat.not_lt_zero _)
    | succ n ih =>
      intro a1 a2 a3 a4 a5 ls H locs hI h
      exact step a1 a2 a3 a4 a5 ls H locs hI (fun b1 b2 b3 b4 b5 ls' H' locs' hI' h' => ih b1 b2 b3 b4 b5 ls' H' locs' hI' (by omega))
  intro a1 a2 a3 a4 a5 ls H locs hI
  exact key _ a1 a2 a3 a4 a5 ls H locs hI (Nat.lt_succ_self _)
theorem W_loop6 {A1 A2 A3 A4 A5 A6 : Type} {p : Program} {l : Launch} {e : Env} {R : Room} {s : State} {m : MethodId} {args : Array Value} {below : List Frame} {meth : Method} {c : Code} {cells slots : Nat} {Q : State → Prop} {hd : Nat} {st : List Value} (I : A1 → A2 → A3 → A4 → A5 → A6 → Array Slot → Heap → List Loc → Prop) (mu : A1 → A2 → A3 → A4 → A5 → A6 → Nat)
    (step : ∀ (a1 : A1) (a2 : A2) (a3 : A3) (a4 : A4) (a5 : A5) (a6 : A6) (ls : Array Slot) (H : Heap) (locs : List Loc), I a1 a2 a3 a4 a5 a6 ls H locs → (∀ (b1 : A1) (b2 : A2) (b3 : A3) (b4 : A4) (b5 : A5) (b6 : A6) (ls' : Array Slot) (H' : Heap) (locs' : List Loc), I b1 b2 b3 b4 b5 b6 ls' H' locs' → mu b1 b2 b3 b4 b5 b6 < mu a1 a2 a3 a4 a5 a6 → W p l e R s m args below meth c H' locs' cells slots Q (F0 m hd ls' st)) → W p l e R s m args below meth c H locs cells slots Q (F0 m hd ls st)) :
    ∀ (a1 : A1) (a2 : A2) (a3 : A3) (a4 : A4) (a5 : A5) (a6 : A6) (ls : Array Slot) (H : Heap) (locs : List Loc), I a1 a2 a3 a4 a5 a6 ls H locs → W p l e R s m args below meth c H locs cells slots Q (F0 m hd ls st) := by
  have key : ∀ (n : Nat) (a1 : A1) (a2 : A2) (a3 : A3) (a4 : A4) (a5 : A5) (a6 : A6) (ls : Array Slot) (H : Heap) (locs : List Loc), I a1 a2 a3 a4 a5 a6 ls H locs → mu a1 a2 a3 a4 a5 a6 < n → W p l e R s m args below meth c H locs cells slots Q (F0 m hd ls st) := by
    intro n
    induction n with
    | zero => intro a1 a2 a3 a4 a5 a6 ls H locs _ h; exact absurd h (Nat.not_lt_zero _)
    | succ n ih =>
      intro a1 a2 a3 a4 a5 a6 ls H locs hI h
      exact step a1 a2 a3 a4 a5 a6 ls H locs hI (fun b1 b2 b3 b4 b5 b6 ls' H' locs' hI' h' => ih b1 b2 b3 b4 b5 b6 ls' H' locs' hI' (by omega))
  intro a1 a2 a3 a4 a5 a6 ls H locs hI
  exact key _ a1 a2 a3 a4 a5 a6 ls H locs hI (Nat.lt_succ_self _)
theorem W_loop7 {A1 A2 A3 A4 A5 A6 A7 : Type} {p : Program} {l : Launch} {e : Env} {R : Room} {s : State} {m : MethodId} {args : Array Value} {below : List Frame} {meth : Method} {c : Code} {cells slots : Nat} {Q : State → Prop} {hd : Nat} {st : List Value} (I : A1 → A2 → A3 → A4 → A5 → A6 → A7 → Array Slot → Heap → List Loc → Prop) (mu : A1 → A2 → A3 → A4 → A5 → A6 → A7 → Nat)
    (step : ∀ (a1 : A1) (a2 : A2) (a3 : A3) (a4 : A4) (a5 : A5) (a6 : A6) (a7 : A7) (ls : Array Slot) (H : Heap) (locs : List Loc), I a1 a2 a3 a4 a5 a6 a7 ls H locs → (∀ (b1 : A1) (b2 : A2) (b3 : A3) (b4 : A4) (b5 : A5) (b6 : A6) (b7 : A7) (ls' : Array Slot) (H' : Heap) (locs' : List Loc), I b1 b2 b3 b4 b5 b6 b7 ls' H' locs' → mu b1 b2 b3 b4 b5 b6 b7 < mu a1 a2 a3 a4 a5 a6 a7 → W p l e R s m args below meth c H' locs' cells slots Q (F0 m hd ls' st)) → W p l e R s m args below meth c H locs cells slots Q (F0 m hd ls st)) :
    ∀ (a1 : A1) (a2 : A2) (a3 : A3) (a4 : A4) (a5 : A5) (a6 : A6) (a7 : A7) (ls : Array Slot) (H : Heap) (locs : List Loc), I a1 a2 a3 a4 a5 a6 a7 ls H locs → W p l e R s m args below meth c H locs cells slots Q (F0 m hd ls st) := by
  have key : ∀ (n : Nat) (a1 : A1) (a2 : A2) (a3 : A3) (a4 : A4) (a5 : A5) (a6 : A6) (a7 : A7) (ls : Array Slot) (H : Heap) (locs : List Loc), I a1 a2 a3 a4 a5 a6 a7 ls H locs → mu a1 a2 a3 a4 a5 a6 a7 < n → W p l e R s m args below meth c H locs cells slots Q (F0 m hd ls st) := by
    intro n
    induction n with
    | zero => intro a1 a2 a3 a4 a5 a6 a7 ls H locs _ h; exact absurd h (Nat.not_lt_zero _)
    | succ n ih =>
      intro a1 a2 a3 a4 a5 a6 a7 ls H locs hI h
      exact step a1 a2 a3 a4 a5 a6 a7 ls H locs hI (fun b1 b2 b3 b4 b5 b6 b7 ls' H' locs' hI' h' => ih b1 b2 b3 b4 b5 b6 b7 ls' H' locs' hI' (by omega))
  intro a1 a2 a3 a4 a5 a6 a7 ls H locs hI
  exact key _ a1 a2 a3 a4 a5 a6 a7 ls H locs hI (Nat.lt_succ_self _)
theorem W_loop8 {A1 A2 A3 A4 A5 A6 A7 A8 : Type} {p : Program} {l : Launch} {e : Env} {R : Room} {s : State} {m : MethodId} {args : Array Value} {below : List Frame} {meth : Method} {c : Code} {cells slots : Nat} {Q : State → Prop} {hd : Nat} {st : List Value} (I : A1 → A2 → A3 → A4 → A5 → A6 → A7 → A8 → Array Slot → Heap → List Loc → Prop) (mu : A1 → A2 → A3 → A4 → A5 → A6 → A7 → A8 → Nat)
    (step : ∀ (a1 : A1) (a2 : A2) (a3 : A3) (a4 : A4) (a5 : A5) (a6 : A6) (a7 : A7) (a8 : A8) (ls : Array Slot) (H : Heap) (locs : List Loc), I a1 a2 a3 a4 a5 a6 a7 a8 ls H locs → (∀ (b1 : A1) (b2 : A2) (b3 : A3) (b4 : A4) (b5 : A5) (b6 : A6) (b7 : A7) (b8 : A8) (ls' : Array Slot) (H' : Heap) (locs' : List Loc), I b1 b2 b3 b4 b5 b6 b7 b8 ls' H' locs' → mu b1 b2 b3 b4 b5 b6 b7 b8 < mu a1 a2 a3 a4 a5 a6 a7 a8 → W p l e R s m args below meth c H' locs' cells slots Q (F0 m hd ls' st)) → W p l e R s m args below meth c H locs cells slots Q (F0 m hd ls st)) :
    ∀ (a1 : A1) (a2 : A2) (a3 : A3) (a4 : A4) (a5 : A5) (a6 : A6) (a7 : A7) (a8 : A8) (ls : Array Slot) (H : Heap) (locs : List Loc), I a1 a2 a3 a4 a5 a6 a7 a8 ls H locs → W p l e R s m args below meth c H locs cells slots Q (F0 m hd ls st) := by
  have key : ∀ (n : Nat) (a1 : A1) (a2 : A2) (a3 : A3) (a4 : A4) (a5 : A5) (a6 : A6) (a7 : A7) (a8 : A8) (ls : Array Slot) (H : Heap) (locs : List Loc), I a1 a2 a3 a4 a5 a6 a7 a8 ls H locs → mu a1 a2 a3 a4 a5 a6 a7 a8 < n → W p l e R s m args below meth c H locs cells slots Q (F0 m hd ls st) := by
    intro n
    induction n with
    | zero => intro a1 a2 a3 a4 a5 a6 a7 a8 ls H locs _ h; exact absurd h (Nat.not_lt_zero _)
    | succ n ih =>
      intro a1 a2 a3 a4 a5 a6 a7 a8 ls H locs hI h
      exact step a1 a2 a3 a4 a5 a6 a7 a8 ls H locs hI (fun b1 b2 b3 b4 b5 b6 b7 b8 ls' H' locs' hI' h' => ih b1 b2 b3 b4 b5 b6 b7 b8 ls' H' locs' hI' (by omega))
  intro a1 a2 a3 a4 a5 a6 a7 a8 ls H locs hI
  exact key _ a1 a2 a3 a4 a5 a6 a7 a8 ls H locs hI (Nat.lt_succ_self _)
theorem W_loop9 {A1 A2 A3 A4 A5 A6 A7 A8 A9 : Type} {p : Program} {l : Launch} {e : Env} {R : Room} {s : State} {m : MethodId} {args : Array Value} {below : List Frame} {meth : Method} {c : Code} {cells slots : Nat} {Q : State → Prop} {hd : Nat} {st : List Value} (I : A1 → A2 → A3 → A4 → A5 → A6 → A7 → A8 → A9 → Array Slot → Heap → List Loc → Prop) (mu : A1 → A2 → A3 → A4 → A5 → A6 → A7 → A8 → A9 → Nat)
    (step : ∀ (a1 : A1) (a2 : A2) (a3 : A3) (a4 : A4) (a5 : A5) (a6 : A6) (a7 : A7) (a8 : A8) (a9 : A9) (ls : Array Slot) (H : Heap) (locs : List Loc), I a1 a2 a3 a4 a5 a6 a7 a8 a9 ls H locs → (∀ (b1 : A1) (b2 : A2) (b3 : A3) (b4 : A4) (b5 : A5) (b6 : A6) (b7 : A7) (b8 : A8) (b9 : A9) (ls' : Array Slot) (H' : Heap) (locs' : List Loc), I b1 b2 b3 b4 b5 b6 b7 b8 b9 ls' H' locs' → mu b1 b2 b3 b4 b5 b6 b7 b8 b9 < mu a1 a2 a3 a4 a5 a6 a7 a8 a9 → W p l e R s m args below meth c H' locs' cells slots Q (F0 m hd ls' st)) → W p l e R s m args below meth c H locs cells slots Q (F0 m hd ls st)) :
    ∀ (a1 : A1) (a2 : A2) (a3 : A3) (a4 : A4) (a5 : A5) (a6 : A6) (a7 : A7) (a8 : A8) (a9 : A9) (ls : Array Slot) (H : Heap) (locs : List Loc), I a1 a2 a3 a4 a5 a6 a7 a8 a9 ls H locs → W p l e R s m args below meth c H locs cells slots Q (F0 m hd ls st) := by
  have key : ∀ (n : Nat) (a1 : A1) (a2 : A2) (a3 : A3) (a4 : A4) (a5 : A5) (a6 : A6) (a7 : A7) (a8 : A8) (a9 : A9) (ls : Array Slot) (H : Heap) (locs : List Loc), I a1 a2 a3 a4 a5 a6 a7 a8 a9 ls H locs → mu a1 a2 a3 a4 a5 a6 a7 a8 a9 < n → W p l e R s m args below meth c H locs cells slots Q (F0 m hd ls st) := by
    intro n
    induction n with
    | zero => intro a1 a2 a3 a4 a5 a6 a7 a8 a9 ls H locs _ h; exact absurd h (Nat.not_lt_zero _)
    | succ n ih =>
      intro a1 a2 a3 a4 a5 a6 a7 a8 a9 ls H locs hI h
      exact step a1 a2 a3 a4 a5 a6 a7 a8 a9 ls H locs hI (fun b1 b2 b3 b4 b5 b6 b7 b8 b9 ls' H' locs' hI' h' => ih b1 b2 b3 b4 b5 b6 b7 b8 b9 ls' H' locs' hI' (by omega))
  intro a1 a2 a3 a4 a5 a6 a7 a8 a9 ls H locs hI
  exact key _ a1 a2 a3 a4 a5 a6 a7 a8 a9 ls H locs hI (Nat.lt_succ_self _)
end
section
/-! what the two programs speak of, as functions of Ints -/
def hsum (t u : Nat → Int32) (x : Int) : Nat → Int
  | 0 => 0
  | n + 1 => hsum t u x n + (if (t n).toInt ≤ x then (u n).toInt else 0)
def bi (t : Nat → Int32) (x : Int) : Nat → Int
  | 0 => -1
  | n + 1 => if (t n).toInt ≤ x ∧ (bi t x n = -1 ∨ (t (bi t x n).toNat).toInt < (t n).toInt) then (n : Int) else bi t x n
def seg (f l s k : Int) : Int := if s ≤ k then l else f + (l - f) * k / s
def paceF (t s f l : Nat → Int32) (n : Nat) (x : Int) : Int :=
  if bi t x n = -1 then 1000 else seg (f (bi t x n).toNat).toInt (l (bi t x n).toNat).toInt (s (bi t x n).toNat).toInt (x - (t (bi t x n).toNat).toInt)
def psum (P : Int → Int) : Nat → Int
  | 0 => 0
  | n + 1 => psum P n + P n
def okH (n : Nat) (t u : Nat → Int32) : Prop := n ≤ 20 ∧ (∀ k : Nat, k < n → 0 ≤ (t k).toInt ∧ (t k).toInt ≤ 1000000 ∧ 1 ≤ (u k).toInt ∧ (u k).toInt ≤ 1000000000) ∧ (∀ i j : Nat, i < n → j < n → (t i).toInt = (t j).toInt → i = j)
def okM (n : Nat) (t s f l : Nat → Int32) : Prop := n ≤ 40 ∧ (∀ k : Nat, k < n → 0 ≤ (t k).toInt ∧ (t k).toInt ≤ 999999 ∧ 0 ≤ (s k).toInt ∧ (s k).toInt ≤ 2000 ∧ (t k).toInt + (s k).toInt ≤ 1000000 ∧ 1 ≤ (f k).toInt ∧ (f k).toInt ≤ 1000000 ∧ 1 ≤ (l k).toInt ∧ (l k).toInt ≤ 1000000) ∧ (∀ i j : Nat, i < n → j < n → (t i).toInt = (t j).toInt → i = j) ∧ (∀ i j : Nat, i < n → j < n → (t i).toInt < (t j).toInt → (t i).toInt + (s i).toInt ≤ (t j).toInt)
def srt (n : Nat) (t : Nat → Int32) : Prop := ∀ i j : Nat, i < j → j < n → (t i).toInt < (t j).toInt
theorem hsum_rng {t u : Nat → Int32} {x : Int} : ∀ (n : Nat), (∀ k : Nat, k < n → 0 ≤ (u k).toInt ∧ (u k).toInt ≤ 1000000000) → 0 ≤ hsum t u x n ∧ hsum t u x n ≤ 1000000000 * n := by
  intro n
  induction n with
  | zero => intro _; simp [hsum]
  | succ n ih =>
    intro h
    have h1 := ih (fun k hk => h k (by omega))
    have h2 := h n (by omega)
    simp only [hsum]
    split <;> omega
/-! quotients rounded downward -/
theorem dv_uniq {a b q : Int} (hb : 0 < b) (h1 : q * b ≤ a) (h2 : a < (q + 1) * b) : a / b = q := by
  have h3 : q ≤ a / b := Int.le_ediv_of_mul_le hb h1
  have h4 : a / b < q + 1 := Int.ediv_lt_of_lt_mul hb h2
  omega
theorem dv_bnd {a b : Int} (hb : 0 < b) : a / b * b ≤ a ∧ a < (a / b + 1) * b := by
  have h5 : a % b + b * (a / b) = a := Int.emod_add_mul_ediv a b
  have h6 : 0 ≤ a % b := Int.emod_nonneg _ (by omega)
  have h7 : a % b < b := Int.emod_lt_of_pos _ hb
  have h9 : a / b * b = b * (a / b) := Int.mul_comm _ _
  have h10 : (a / b + 1) * b = a / b * b + b := by rw [Int.add_mul, Int.one_mul]
  omega
/-- the quotient towards 0 of a number below 0 -/
theorem td_neg {a b : Int} (ha : a < 0) (hb : 0 < b) : a ≤ a.tdiv b * b ∧ a.tdiv b * b < a + b ∧ a.tdiv b * b ≤ 0 ∧ a ≤ a.tdiv b ∧ a.tdiv b ≤ 0 := by
  have h1 : a.tdiv b = -((-a) / b) := by
    have h : (- -a).tdiv b = -((-a).tdiv b) := Int.neg_tdiv _ _
    rw [Int.neg_neg] at h
    rw [h, Int.tdiv_eq_ediv_of_nonneg (by omega)]
  have h2 := dv_bnd (a := -a) hb
  have h3 : 0 ≤ (-a) / b := Int.ediv_nonneg (by omega) (by omega)
  have h4 : (-a) / b ≤ -a := Int.ediv_le_self _ (by omega)
  have h5 : ((-a) / b + 1) * b = (-a) / b * b + b := by rw [Int.add_mul, Int.one_mul]
  have h6 : 0 ≤ (-a) / b * b := Int.mul_nonneg h3 (by omega)
  rw [h1]
  have h7 : -((-a) / b) * b = -((-a) / b * b) := Int.neg_mul _ _
  omega
theorem fd_hit {a b : Int} (hb : 0 < b) (h : a.tdiv b * b = a) : a.tdiv b = a / b := (dv_uniq hb (by omega) (by rw [Int.add_mul, Int.one_mul]; omega)).symm
theorem fd_off {a b : Int} (ha : a < 0) (hb : 0 < b) (h : a.tdiv b * b ≠ a) : a.tdiv b - 1 = a / b := by
  have h1 := td_neg ha hb
  refine (dv_uniq hb ?_ ?_).symm
  · rw [Int.sub_mul, Int.one_mul]; omega
  · rw [Int.sub_add_cancel]; omega
theorem ti_tdiv {x y : Int32} {a b : Int} (hx : x.toInt = a) (hy : y.toInt = b) (h2 : 0 < b) : (x / y).toInt = a.tdiv b := by
  rw [Int32.toInt_div_of_ne_right _ _ (fun e => by rw [e] at hy; have : ((-1 : Int32)).toInt = -1 := by decide
                                                   omega), hx, hy]
theorem tl_tdiv {x y : Int64} {a b : Int} (hx : x.toInt = a) (hy : y.toInt = b) (h2 : 0 < b) : (x / y).toInt = a.tdiv b := by
  rw [Int64.toInt_div_of_ne_right _ _ (fun e => by rw [e] at hy; have : ((-1 : Int64)).toInt = -1 := by decide
                                                   omega), hx, hy]
theorem bv_msb {w : Nat} {x : BitVec w} : x.msb = true ↔ x.toInt < 0 := by rw [BitVec.msb_eq_toInt]; exact decide_eq_true_iff
theorem ix_sgn {x y : Int32} (hy : 0 < y.toInt) : (x ^^^ y).toInt < 0 ↔ x.toInt < 0 := by
  rw [← Int32.toInt_toBitVec, ← Int32.toInt_toBitVec, Int32.toBitVec_xor]
  rw [← Int32.toInt_toBitVec] at hy
  have h1 : y.toBitVec.msb = false := by
    rw [← Bool.not_eq_true, bv_msb]; omega
  rw [← bv_msb, ← bv_msb, BitVec.msb_xor, h1, Bool.xor_false]
theorem lx_sgn {x y : Int64} (hy : 0 < y.toInt) : (x ^^^ y).toInt < 0 ↔ x.toInt < 0 := by
  rw [← Int64.toInt_toBitVec, ← Int64.toInt_toBitVec, Int64.toBitVec_xor]
  rw [← Int64.toInt_toBitVec] at hy
  have h1 : y.toBitVec.msb = false := by
    rw [← Bool.not_eq_true, bv_msb]; omega
  rw [← bv_msb, ← bv_msb, BitVec.msb_xor, h1, Bool.xor_false]
/-- the last place of a list of numbers that holds x; -1: none -/
def hfind (t : Nat → Int32) (x : Int) : Nat → Int
  | 0 => -1
  | n + 1 => if (t n).toInt = x then (n : Int) else hfind t x n
theorem hfind_rng {t : Nat → Int32} {x : Int} : ∀ n : Nat, -1 ≤ hfind t x n ∧ hfind t x n < n ∧ (0 ≤ hfind t x n → (t (hfind t x n).toNat).toInt = x) := by
  intro n
  induction n with
  | zero => simp [hfind]
  | succ n ih =>
    simp only [hfind]
    split
    · rename_i h
      refine ⟨by omega, by omega, fun _ => ?_⟩
      rw [Int.toNat_natCast]; exact h
    · obtain ⟨h1, h2, h3⟩ := ih
      exact ⟨h1, by omega, h3⟩
theorem hfind_none {t : Nat → Int32} {x : Int} : ∀ n : Nat, hfind t x n = -1 → ∀ k : Nat, k < n → (t k).toInt ≠ x := by
  intro n
  induction n with
  | zero => intro _ k hk; omega
  | succ n ih =>
    intro h k hk
    simp only [hfind] at h
    split at h
    · omega
    · rename_i h1
      rcases Nat.lt_succ_iff_lt_or_eq.mp hk with h2 | h2
      · exact ih h k h2
      · rw [h2]; exact h1
def hPut (n : Nat) (t u : Nat → Int32) (x w : Int32) (r : Int) (n' : Nat) (t' u' : Nat → Int32) : Prop :=
  (0 ≤ hfind t x.toInt n ∧ r = n ∧ n' = n ∧ t' = upd t (hfind t x.toInt n).toNat x ∧ u' = upd u (hfind t x.toInt n).toNat w) ∨
  (hfind t x.toInt n = -1 ∧ n = 20 ∧ r = -4 ∧ n' = n ∧ t' = t ∧ u' = u) ∨
  (hfind t x.toInt n = -1 ∧ n < 20 ∧ r = n + 1 ∧ n' = n + 1 ∧ t' = upd t n x ∧ u' = upd u n w)
def hRem (n : Nat) (t u : Nat → Int32) (x : Int32) (r : Int) (n' : Nat) (t' u' : Nat → Int32) : Prop :=
  (0 ≤ hfind t x.toInt n ∧ r = n' ∧ n = n' + 1 ∧ t' = upd t (hfind t x.toInt n).toNat (t n') ∧ u' = upd u (hfind t x.toInt n).toNat (u n')) ∨
  (hfind t x.toInt n = -1 ∧ r = n ∧ n' = n ∧ t' = t ∧ u' = u)
def tAdd (n : Nat) (f : Nat → Int64) (w : Int64) (r : Int) (n' : Nat) (f' : Nat → Int64) : Prop :=
  (0 < n ∧ w.toInt ≤ (f (n - 1)).toInt ∧ r = -3 ∧ n' = n ∧ f' = f) ∨
  ((0 < n → (f (n - 1)).toInt < w.toInt) ∧ n = 40 ∧ r = -4 ∧ n' = n ∧ f' = f) ∨
  ((0 < n → (f (n - 1)).toInt < w.toInt) ∧ n < 40 ∧ r = n + 1 ∧ n' = n + 1 ∧ f' = vp_updL f n w)
theorem hfind_no {t : Nat → Int32} {x : Int} {n : Nat} (h : (t n).toInt ≠ x) : hfind t x (n + 1) = hfind t x n := by simp only [hfind]; rw [if_neg h]
theorem hfind_yes {t : Nat → Int32} {x : Int} {n : Nat} (h : (t n).toInt = x) : hfind t x (n + 1) = n := by simp only [hfind]; rw [if_pos h]
theorem fd_lo {a b q : Int} (ha : a < 0) (hb : 0 < b) (hq : q = a.tdiv b) (hne : q * b ≠ a) (hlo : -2147483648 ≤ a) : -2147483647 ≤ q := by
  have h := td_neg ha hb
  rw [← hq] at h
  rcases Int.lt_or_le q (-2147483647) with h1 | h1
  · have e : q = a := by omega
    have e2 : b = 1 := by
      rcases Int.lt_or_le b 2 with h2 | h2
      · omega
      · have := Int.mul_le_mul_of_nonpos_left (a := q) (b := b) (c := 2) (by omega) h2
        omega
    rw [e2] at hne; omega
  · exact h1
theorem tl_tmod {x y : Int64} {a b : Int} (hx : x.toInt = a) (hy : y.toInt = b) (h2 : 0 < b) : (x - x / y * y).toInt = a.tmod b := by
  have hr := tl_rng x
  have hd := tl_tdiv hx hy h2
  have h5 : a.tmod b + b * (a.tdiv b) = a := Int.tmod_add_mul_tdiv a b
  have h9 : a.tdiv b * b = b * (a.tdiv b) := Int.mul_comm _ _
  rcases Int.lt_or_le a 0 with h1 | h1
  · have h := td_neg h1 h2
    have hm := tl_mul hd hy (by omega) (by omega)
    rw [tl_sub hx hm (by omega) (by omega)]
    omega
  · have h10 : a.tdiv b = a / b := Int.tdiv_eq_ediv_of_nonneg h1
    have h4 : 0 ≤ a / b := Int.ediv_nonneg h1 (by omega)
    have h6 : 0 ≤ a / b * b := Int.mul_nonneg h4 (by omega)
    have h7 := (dv_bnd (a := a) h2).1
    rw [← h10] at h6 h7
    have hm := tl_mul hd hy (by omega) (by omega)
    rw [tl_sub hx hm (by omega) (by omega)]
    omega
theorem fm_neg {a b : Int} (ha : a < 0) (hb : 0 < b) : -b < a.tmod b ∧ a.tmod b ≤ 0 ∧ (a.tmod b = 0 → a % b = 0) ∧ (a.tmod b ≠ 0 → a % b = a.tmod b + b) := by
  have h5 : a.tmod b + b * (a.tdiv b) = a := Int.tmod_add_mul_tdiv a b
  have h9 : a.tdiv b * b = b * (a.tdiv b) := Int.mul_comm _ _
  have h := td_neg ha hb
  have h6 : a % b + b * (a / b) = a := Int.emod_add_mul_ediv a b
  refine ⟨by omega, by omega, fun e => ?_, fun e => ?_⟩
  · have := fd_hit hb (a := a) (by omega)
    rw [← this] at h6; omega
  · have := fd_off ha hb (by omega)
    rw [← this, Int.mul_sub, Int.mul_one] at h6; omega
theorem mt_ofF {l : Launch} {y : MethodName} {ws ws' : List Cond} {rm : Room} {Pc : Array Value → State → Prop} {Qc : Array Value → State → Outcome → State → Prop} {mc ms : Nat} {free : Addr → Prop} {cc : ByteArray} {maxL : Nat} {ret : Option FieldType}
    (hy : plainFor y = true) (hw : ws = Cond.code y cc maxL ret :: ws')
    (body : ∀ p e s m args below meth c s₁, BodyLoose p l y (headSpec ws rm) cc maxL ret e s m args below meth c s₁ → c.maxLocals = maxL → Pc args s →
      W p l e (headSpec ws rm).room s m args below meth c s.heap [] 0 0 (MQ below Qc args s mc ms free) (entryFrame m args maxL)) : Met l y ws rm Pc Qc mc ms free := by
  refine MetFree.of_bodySF (code := cc) (maxLocals := maxL) (ret := ret) hy ?_ ?_
  · intro args s m h hn
    obtain ⟨meth, c, h1, h2, h3, h4, h5, h6, -, -⟩ := Cond.code_spec hn (atoms_spec (ws := ws) h _ (by rw [hw]; exact List.mem_cons_self))
    exact ⟨meth, c, h1, h2, h3, h4, h5, h6⟩
  · intro p e s m args below meth c s₁ B hml hP _
    have hh0 : s₁.heap = s.heap := by rw [B.state]; rfl
    obtain ⟨t, a1, o, b1, b2, b3⟩ := body p e s m args below meth c s₁ B hml hP s₁ hh0 (Stand.of_body B)
    exact ⟨t, o, a1, b1, b2, ⟨b3.1, b3.2⟩⟩
end
section
def sI : Nat → Int
  | 0 => 0
  | n + 1 => sI n + n
def sQ : Nat → Int
  | 0 => 0
  | n + 1 => sQ n + (n : Int) * n
def sT (f : Nat → Int64) : Nat → Int
  | 0 => 0
  | n + 1 => sT f n + (f n).toInt
def sP (f : Nat → Int64) : Nat → Int
  | 0 => 0
  | n + 1 => sP f n + (f n).toInt * n
def okT (n : Nat) (f : Nat → Int64) : Prop := n ≤ 40 ∧ (∀ k : Nat, k < n → 0 ≤ (f k).toInt ∧ (f k).toInt ≤ 1000000000000) ∧ (∀ i j : Nat, i < j → j < n → (f i).toInt < (f j).toInt)
theorem mul_bnd {a b A B : Int} (h1 : 0 ≤ a ∧ a ≤ A) (h2 : 0 ≤ b ∧ b ≤ B) : 0 ≤ a * b ∧ a * b ≤ A * B :=
  ⟨Int.mul_nonneg h1.1 h2.1, Int.mul_le_mul h1.2 h2.2 h2.1 (by omega)⟩
theorem sI_b : ∀ n : Nat, n ≤ 40 → 0 ≤ sI n ∧ sI n ≤ 40 * n := by
  intro n
  induction n with
  | zero => intro _; simp [sI]
  | succ n ih => intro h; have := ih (by omega); simp only [sI]; omega
theorem sQ_b : ∀ n : Nat, n ≤ 40 → 0 ≤ sQ n ∧ sQ n ≤ 1600 * n := by
  intro n
  induction n with
  | zero => intro _; simp [sQ]
  | succ n ih =>
    intro h
    have := ih (by omega)
    have h2 := mul_bnd (a := (n : Int)) (b := n) (A := 40) (B := 40) (by omega) (by omega)
    simp only [sQ]; omega
theorem sT_b {f : Nat → Int64} : ∀ n : Nat, (∀ k : Nat, k < n → 0 ≤ (f k).toInt ∧ (f k).toInt ≤ 1000000000000) → 0 ≤ sT f n ∧ sT f n ≤ 1000000000000 * n := by
  intro n
  induction n with
  | zero => intro _; simp [sT]
  | succ n ih => intro h; have := ih (fun k hk => h k (by omega)); have := h n (by omega); simp only [sT]; omega
theorem sP_b {f : Nat → Int64} : ∀ n : Nat, n ≤ 40 → (∀ k : Nat, k < n → 0 ≤ (f k).toInt ∧ (f k).toInt ≤ 1000000000000) → 0 ≤ sP f n ∧ sP f n ≤ 40000000000000 * n := by
  intro n
  induction n with
  | zero => intro _ _; simp [sP]
  | succ n ih =>
    intro hn h
    have := ih (by omega) (fun k hk => h k (by omega))
    have h2 := mul_bnd (b := (n : Int)) (B := 40) (h n (by omega)) (by omega)
    simp only [sP]; omega
end
section
/-! sums of quotients rounded downward -/
def fs (a b m : Int) : Nat → Int
  | 0 => 0
  | n + 1 => fs a b m n + (a * n + b) / m
theorem sI_two : ∀ n : Nat, sI n * 2 = (n : Int) * (n - 1) := by
  intro n
  induction n with
  | zero => simp [sI]
  | succ n ih =>
    simp only [sI]
    have e : ((n + 1 : Nat) : Int) * (((n + 1 : Nat) : Int) - 1) = (n : Int) * (n - 1) + 2 * n := by
      rw [show ((n + 1 : Nat) : Int) - 1 = n by omega, show ((n + 1 : Nat) : Int) = (n : Int) + 1 by omega, Int.add_mul, Int.mul_sub]
      omega
    omega
theorem fs_red {a b m : Int} (hm : 0 < m) : ∀ n : Nat, fs a b m n = a / m * sI n + n * (b / m) + fs (a % m) (b % m) m n := by
  intro n
  induction n with
  | zero => simp [fs, sI]
  | succ n ih =>
    simp only [fs, sI]
    have h1 : a % m + m * (a / m) = a := Int.emod_add_mul_ediv a m
    have h2 : b % m + m * (b / m) = b := Int.emod_add_mul_ediv b m
    have e : a * n + b = (a % m * n + b % m) + (a / m * n + b / m) * m := by
      have h3 : a * n = a % m * n + (m * (a / m)) * n := by rw [← Int.add_mul, h1]
      have h4 : (a / m * n + b / m) * m = (m * (a / m)) * n + m * (b / m) := by
        rw [Int.add_mul, Int.mul_comm (b / m) m, Int.mul_assoc, Int.mul_comm (n : Int) m, ← Int.mul_assoc, Int.mul_comm (a / m) m]
      omega
    rw [e, Int.add_mul_ediv_right _ _ (by omega), ih]
    have h5 : a / m * (sI n + n) = a / m * sI n + a / m * n := Int.mul_add _ _ _
    have h6 : ((n + 1 : Nat) : Int) * (b / m) = n * (b / m) + b / m := by
      rw [show ((n + 1 : Nat) : Int) = (n : Int) + 1 by omega, Int.add_mul, Int.one_mul]
    omega
theorem fs_one {a m r : Int} (ha : 0 < a) : ∀ y : Nat, fs m (r + a) a y = fs m r a y + y := by
  intro y
  induction y with
  | zero => simp [fs]
  | succ y ih =>
    simp only [fs]
    have e : m * y + (r + a) = (m * y + r) + 1 * a := by omega
    rw [e, Int.add_mul_ediv_right _ _ (by omega), ih]
    omega
theorem fs_sh {a m r : Int} : ∀ y : Nat, fs m r a (y + 1) = r / a + fs m (r + m) a y := by
  intro y
  induction y with
  | zero => simp [fs]
  | succ y ih =>
    rw [show fs m r a (y + 1 + 1) = fs m r a (y + 1) + (m * ((y + 1 : Nat) : Int) + r) / a from rfl, ih]
    simp only [fs]
    have e : m * ((y + 1 : Nat) : Int) + r = m * y + (r + m) := by
      rw [show ((y + 1 : Nat) : Int) = (y : Int) + 1 by omega, Int.mul_add]; omega
    rw [e]; omega
theorem fs_flip {a m b : Int} (ha : 0 < a) (ham : a < m) (hb : 0 ≤ b) (hbm : b < m) : ∀ n : Nat, fs a b m n = fs m ((a * n + b) % m) a ((a * n + b) / m).toNat := by
  intro n
  induction n with
  | zero =>
    have e : (a * ((0 : Nat) : Int) + b) / m = 0 := by
      rw [show a * ((0 : Nat) : Int) + b = b by simp]
      exact Int.ediv_eq_zero_of_lt hb hbm
    rw [e]; rfl
  | succ n ih =>
    simp only [fs]
    obtain ⟨T, hT⟩ : ∃ T : Int, T = a * n + b := ⟨_, rfl⟩
    have e1 : a * ((n + 1 : Nat) : Int) + b = T + a := by
      rw [hT, show ((n + 1 : Nat) : Int) = (n : Int) + 1 by omega, Int.mul_add]; omega
    rw [e1, ih, ← hT]
    have hT0 : 0 ≤ T := by
      rw [hT]
      have := Int.mul_nonneg (a := a) (b := (n : Int)) (by omega) (by omega)
      omega
    have h1 : T % m + m * (T / m) = T := Int.emod_add_mul_ediv T m
    have h2 : 0 ≤ T % m := Int.emod_nonneg _ (by omega)
    have h3 : T % m < m := Int.emod_lt_of_pos _ (by omega)
    have h4 : 0 ≤ T / m := Int.ediv_nonneg hT0 (by omega)
    have hc : m * (T / m) = T / m * m := Int.mul_comm _ _
    by_cases h : T % m + a < m
    · have q1 : (T + a) / m = T / m := dv_uniq (by omega) (by omega) (by rw [Int.add_mul, Int.one_mul]; omega)
      have q2 : (T + a) % m = T % m + a := by
        have h5 : (T + a) % m + m * ((T + a) / m) = T + a := Int.emod_add_mul_ediv _ m
        rw [q1] at h5; omega
      rw [q1, q2, fs_one ha]
      omega
    · have hs : (T / m + 1) * m = T / m * m + m := by rw [Int.add_mul, Int.one_mul]
      have hs2 : (T / m + 1 + 1) * m = T / m * m + m + m := by rw [Int.add_mul, hs, Int.one_mul]
      have q1 : (T + a) / m = T / m + 1 := dv_uniq (by omega) (by omega) (by omega)
      have q2 : (T + a) % m = T % m + a - m := by
        have h5 : (T + a) % m + m * ((T + a) / m) = T + a := Int.emod_add_mul_ediv _ m
        rw [q1, Int.mul_add] at h5; omega
      rw [q1, q2, show (T / m + 1).toNat = (T / m).toNat + 1 by omega, fs_sh, show T % m + a - m + m = T % m + a by omega, fs_one ha,
        Int.ediv_eq_zero_of_lt (show 0 ≤ T % m + a - m by omega) (by omega)]
      omega
theorem fs_0 {b m : Int} (hb : 0 ≤ b) (hbm : b < m) : ∀ n : Nat, fs 0 b m n = 0 := by
  intro n
  induction n with
  | zero => rfl
  | succ n ih => simp only [fs]; rw [ih, Int.zero_mul, Int.zero_add, Int.zero_add, Int.ediv_eq_zero_of_lt hb hbm]
/-- a round of Euclid's way -/
theorem eu_step {a b m : Int} (hm : 0 < m) (n : Nat) : fs a b m n = a / m * sI n + n * (b / m) + fs m ((a % m * n + b % m) % m) (a % m) ((a % m * n + b % m) / m).toNat := by
  have h1 : 0 ≤ a % m := Int.emod_nonneg _ (by omega)
  have h2 : a % m < m := Int.emod_lt_of_pos _ hm
  have h3 : 0 ≤ b % m := Int.emod_nonneg _ (by omega)
  have h4 : b % m < m := Int.emod_lt_of_pos _ hm
  rw [fs_red hm]
  by_cases h : a % m = 0
  · rw [h, fs_0 h3 h4, Int.zero_mul, Int.zero_add, Int.ediv_eq_zero_of_lt h3 h4]; rfl
  · rw [fs_flip (by omega) h2 h3 h4]
theorem mul_abs {a b A B : Int} (h1 : -A ≤ a ∧ a ≤ A) (h2 : 0 ≤ b ∧ b ≤ B) : -(A * B) ≤ a * b ∧ a * b ≤ A * B := by
  have hA : 0 ≤ A := by omega
  have h3 : a * b ≤ A * b := Int.mul_le_mul_of_nonneg_right h1.2 h2.1
  have h4 : A * b ≤ A * B := Int.mul_le_mul_of_nonneg_left h2.2 hA
  have h5 : -A * b ≤ a * b := Int.mul_le_mul_of_nonneg_right h1.1 h2.1
  rw [Int.neg_mul] at h5
  omega
theorem div_abs {a b A : Int} (hb : 0 < b) (h : -A ≤ a ∧ a ≤ A) : -A ≤ a / b ∧ a / b ≤ A := by
  have hA : 0 ≤ A := by omega
  have h1 := dv_bnd (a := a) hb
  constructor
  · refine Int.le_ediv_of_mul_le hb ?_
    have : -A * b ≤ -A * 1 := Int.mul_le_mul_of_nonpos_left (by omega) (by omega)
    omega
  · have h2 : a / b < A + 1 := Int.ediv_lt_of_lt_mul hb (by
      have : (A + 1) * 1 ≤ (A + 1) * b := Int.mul_le_mul_of_nonneg_left (by omega) (by omega)
      omega)
    omega
/-- the product halves -/
theorem halve {a b : Int} (hb : 0 < b) (h : b ≤ a) : 2 * (a % b * b) ≤ b * a := by
  have h1 : a % b + b * (a / b) = a := Int.emod_add_mul_ediv a b
  have h2 : a % b < b := Int.emod_lt_of_pos _ hb
  have h3 : 1 ≤ a / b := Int.le_ediv_of_mul_le hb (by omega)
  have h4 : b * 1 ≤ b * (a / b) := Int.mul_le_mul_of_nonneg_left h3 (by omega)
  have h5 : 2 * (a % b) ≤ a := by omega
  have h6 : 2 * (a % b) * b ≤ a * b := Int.mul_le_mul_of_nonneg_right h5 (by omega)
  rw [Int.mul_assoc, Int.mul_comm a b] at h6
  exact h6
theorem pow_step {x y : Int} {k : Nat} {N : Int} (h : x * 2 ^ k ≤ N) (hy : 2 * y ≤ x) : y * 2 ^ (k + 1) ≤ N := by
  have h1 : (0 : Int) ≤ 2 ^ k := Int.le_of_lt (Int.pow_pos (by omega))
  have h2 : 2 * y * 2 ^ k ≤ x * 2 ^ k := Int.mul_le_mul_of_nonneg_right hy h1
  have h3 : y * 2 ^ (k + 1) = 2 * y * 2 ^ k := by
    rw [Int.pow_succ, Int.mul_comm (2 ^ k) 2, ← Int.mul_assoc, Int.mul_comm y 2]
  omega
theorem pow_end {x : Int} {k : Nat} (h : x * 2 ^ k ≤ 2 ^ 180) (hk : 181 ≤ k) : x ≤ 0 := by
  rcases Int.lt_or_le 0 x with h1 | h1
  · have h2 : (2 : Int) ^ 181 ≤ 2 ^ k := by
      have := Nat.pow_le_pow_right (n := 2) (by omega) hk
      exact_mod_cast this
    have h3 : 1 * (2 : Int) ^ k ≤ x * 2 ^ k := Int.mul_le_mul_of_nonneg_right (by omega) (Int.le_of_lt (Int.pow_pos (by omega)))
    have h4 : (2 : Int) ^ 181 = 2 * 2 ^ 180 := by decide
    have h5 : (0 : Int) < 2 ^ 180 := by decide
    omega
  · exact h1
theorem eu_inv {al up : Int} {k : Nat} (h : k = 0 ∨ (al < up ∧ al * up * 2 ^ (k - 1) ≤ 2 ^ 180)) (hal : 0 < al) (hb : al ≤ 1000000000000000000) : up % al < al ∧ up % al * al * 2 ^ (k + 1 - 1) ≤ 2 ^ 180 := by
  have h2 : up % al < al := Int.emod_lt_of_pos _ hal
  have h3 : 0 ≤ up % al := Int.emod_nonneg _ (by omega)
  refine ⟨h2, ?_⟩
  rcases h with h | ⟨h, h1⟩
  · have h4 := mul_bnd (show 0 ≤ up % al ∧ up % al ≤ 1000000000000000000 by omega) (show 0 ≤ al ∧ al ≤ 1000000000000000000 by omega)
    rw [h, show 0 + 1 - 1 = 0 from rfl, Int.pow_zero, Int.mul_one]
    have h5 : (1000000000000000000 : Int) * 1000000000000000000 ≤ 2 ^ 180 := by decide
    omega
  · by_cases hk : k = 0
    · rw [hk] at h1 ⊢
      have h4 := mul_bnd (show 0 ≤ up % al ∧ up % al ≤ 1000000000000000000 by omega) (show 0 ≤ al ∧ al ≤ 1000000000000000000 by omega)
      rw [show 0 + 1 - 1 = 0 from rfl, Int.pow_zero, Int.mul_one]
      have h5 : (1000000000000000000 : Int) * 1000000000000000000 ≤ 2 ^ 180 := by decide
      omega
    · rw [show k + 1 - 1 = (k - 1) + 1 by omega]
      exact pow_step h1 (halve hal (by omega))
theorem eu_end {al up : Int} {k : Nat} (h : k = 0 ∨ (al < up ∧ al * up * 2 ^ (k - 1) ≤ 2 ^ 180)) (hk : 182 ≤ k) (h0 : 0 ≤ al) : al = 0 := by
  rcases h with h | ⟨h, h1⟩
  · omega
  · have h2 := pow_end h1 (by omega)
    rcases Int.lt_or_le 0 al with h3 | h3
    · have : 0 < al * up := Int.mul_pos h3 (by omega)
      omega
    · omega
theorem top_le {a b m : Int} {n : Int} (hm : 0 < m) (hn : 0 ≤ n) : 0 ≤ (a % m * n + b % m) / m ∧ (a % m * n + b % m) / m ≤ n ∧ 0 ≤ a % m * n + b % m ∧ (a % m = 0 → (a % m * n + b % m) / m = 0) := by
  have h1 : 0 ≤ a % m := Int.emod_nonneg _ (by omega)
  have h2 : a % m < m := Int.emod_lt_of_pos _ hm
  have h3 : 0 ≤ b % m := Int.emod_nonneg _ (by omega)
  have h4 : b % m < m := Int.emod_lt_of_pos _ hm
  have h5 : 0 ≤ a % m * n := Int.mul_nonneg h1 hn
  refine ⟨Int.ediv_nonneg (by omega) (by omega), ?_, by omega, fun h => ?_⟩
  · have h6 : a % m * n ≤ m * n := Int.mul_le_mul_of_nonneg_right (by omega) hn
    have h7 : (a % m * n + b % m) / m < n + 1 := Int.ediv_lt_of_lt_mul hm (by
      rw [Int.add_mul, Int.one_mul, Int.mul_comm n m]; omega)
    omega
  · rw [h, Int.zero_mul, Int.zero_add]; exact Int.ediv_eq_zero_of_lt h3 h4
theorem gcd_st {a b : Int} (ha : 0 ≤ a) (hb : 0 < b) : Nat.gcd b.toNat (a % b).toNat = Nat.gcd a.toNat b.toNat := by
  obtain ⟨x, rfl⟩ := Int.eq_ofNat_of_zero_le ha
  obtain ⟨y, rfl⟩ := Int.eq_ofNat_of_zero_le (Int.le_of_lt hb)
  rw [show ((x : Int) % (y : Int)).toNat = x % y by rw [← Int.natCast_emod]; rfl]
  show Nat.gcd y (x % y) = Nat.gcd x y
  rw [Nat.gcd_comm x y, Nat.gcd_rec y x, Nat.gcd_comm]
end
section
/-! the mark that rules a tick, the pace, sums of paces -/
theorem bi_spec {t : Nat → Int32} {x : Int} : ∀ n : Nat, (bi t x n = -1 ∧ ∀ k : Nat, k < n → x < (t k).toInt) ∨ (∃ j : Nat, j < n ∧ bi t x n = j ∧ (t j).toInt ≤ x ∧ ∀ k : Nat, k < n → (t k).toInt ≤ x → (t k).toInt ≤ (t j).toInt) := by
  intro n
  induction n with
  | zero => exact Or.inl ⟨rfl, fun k h => by omega⟩
  | succ n ih =>
    simp only [bi]
    rcases ih with ⟨h1, h2⟩ | ⟨j, hj, h1, h2, h3⟩
    · rw [h1]
      by_cases h : (t n).toInt ≤ x
      · rw [if_pos ⟨h, Or.inl rfl⟩]
        refine Or.inr ⟨n, by omega, rfl, h, fun k hk hx => ?_⟩
        rcases Nat.lt_succ_iff_lt_or_eq.mp hk with h4 | h4
        · have := h2 k h4; omega
        · rw [h4]; omega
      · rw [if_neg (fun q => h q.1)]
        refine Or.inl ⟨rfl, fun k hk => ?_⟩
        rcases Nat.lt_succ_iff_lt_or_eq.mp hk with h4 | h4
        · exact h2 k h4
        · rw [h4]; omega
    · rw [h1, Int.toNat_natCast]
      by_cases h : (t n).toInt ≤ x ∧ (t j).toInt < (t n).toInt
      · rw [if_pos ⟨h.1, Or.inr h.2⟩]
        refine Or.inr ⟨n, by omega, rfl, h.1, fun k hk hx => ?_⟩
        rcases Nat.lt_succ_iff_lt_or_eq.mp hk with h4 | h4
        · have := h3 k h4 hx; omega
        · rw [h4]; omega
      · rw [if_neg (by rintro ⟨q1, q2 | q2⟩ <;> omega)]
        refine Or.inr ⟨j, by omega, rfl, h2, fun k hk hx => ?_⟩
        rcases Nat.lt_succ_iff_lt_or_eq.mp hk with h4 | h4
        · exact h3 k h4 hx
        · rw [h4] at hx ⊢; omega
theorem bi_none {t : Nat → Int32} {x : Int} {n : Nat} (h : ∀ k : Nat, k < n → x < (t k).toInt) : bi t x n = -1 := by
  rcases bi_spec (t := t) (x := x) n with ⟨h1, -⟩ | ⟨j, hj, -, h2, -⟩
  · exact h1
  · have := h j hj; omega
theorem bi_uniq {t : Nat → Int32} {x : Int} {n j : Nat} (inj : ∀ i j : Nat, i < n → j < n → (t i).toInt = (t j).toInt → i = j) (hj : j < n) (h1 : (t j).toInt ≤ x) (h2 : ∀ k : Nat, k < n → (t k).toInt ≤ x → (t k).toInt ≤ (t j).toInt) : bi t x n = j := by
  rcases bi_spec (t := t) (x := x) n with ⟨-, h3⟩ | ⟨i, hi, h4, h5, h6⟩
  · have := h3 j hj; omega
  · rw [h4]
    have e := inj i j hi hj (by have := h6 j hj h1; have := h2 i hi h5; omega)
    rw [e]
theorem srt_inj {t : Nat → Int32} {n : Nat} (h : srt n t) : ∀ i j : Nat, i < n → j < n → (t i).toInt = (t j).toInt → i = j := by
  intro i j hi hj e
  rcases Nat.lt_trichotomy i j with q | q | q
  · have := h i j q hj; omega
  · exact q
  · have := h j i q hi; omega
theorem srt_le {t : Nat → Int32} {n : Nat} (h : srt n t) {i j : Nat} (hij : i ≤ j) (hj : j < n) : (t i).toInt ≤ (t j).toInt := by
  rcases Nat.lt_or_eq_of_le hij with q | q
  · have := h i j q hj; omega
  · rw [q]; omega
theorem bi_srt {t : Nat → Int32} {x r : Int} {n : Nat} (hs : srt n t) (h0 : 0 ≤ r) (hn : r < n) (h1 : (t r.toNat).toInt ≤ x) (h2 : ∀ k : Nat, k < n → r < k → x < (t k).toInt) : r = bi t x n := by
  rw [bi_uniq (j := r.toNat) (srt_inj hs) (by omega) h1 (fun k hk hx => ?_)]
  · omega
  · refine srt_le hs ?_ (by omega)
    rcases Nat.lt_or_ge r.toNat k with q | q
    · have := h2 k hk (by omega); omega
    · exact q
theorem bi_neg {t : Nat → Int32} {x r : Int} {n : Nat} (h : r = bi t x n) (h0 : r < 0) : r = -1 ∧ ∀ k : Nat, k < n → x < (t k).toInt := by
  rcases bi_spec (t := t) (x := x) n with ⟨h1, h2⟩ | ⟨j, hj, h1, -⟩
  · exact ⟨h.trans h1, h2⟩
  · omega
theorem bi_get {t : Nat → Int32} {x r : Int} {n : Nat} (h : r = bi t x n) (h0 : 0 ≤ r) : r.toNat < n ∧ r < n ∧ (t r.toNat).toInt ≤ x ∧ ∀ k : Nat, k < n → (t k).toInt ≤ x → (t k).toInt ≤ (t r.toNat).toInt := by
  rcases bi_spec (t := t) (x := x) n with ⟨h1, h2⟩ | ⟨j, hj, h1, h2, h3⟩
  · omega
  · have e : r.toNat = j := by omega
    rw [e]
    exact ⟨hj, by omega, h2, h3⟩
def insS (n : Nat) (t s : Nat → Int32) (x : Int) : Prop := ∃ k : Nat, k < n ∧ (t k).toInt < x ∧ x < (t k).toInt + (s k).toInt
def btw (n : Nat) (t : Nat → Int32) (a b : Int) : Prop := ∃ k : Nat, k < n ∧ a < (t k).toInt ∧ (t k).toInt < b
theorem ins_none {n : Nat} {t s : Nat → Int32} {x : Int} (h : ∀ k : Nat, k < n → x < (t k).toInt) : ¬ insS n t s x := fun ⟨k, hk, h1, _⟩ => by have := h k hk; omega
theorem ins_no {n : Nat} {t s f l : Nat → Int32} {x : Int} (hO : okM n t s f l) {j : Nat} (hj : j < n) (h2 : ∀ k : Nat, k < n → (t k).toInt ≤ x → (t k).toInt ≤ (t j).toInt) (h3 : x = (t j).toInt ∨ (t j).toInt + (s j).toInt ≤ x) (h1 : (t j).toInt ≤ x) : ¬ insS n t s x := by
  rintro ⟨k, hk, h4, h5⟩
  have h6 := h2 k hk (by omega)
  by_cases e : k = j
  · subst e; omega
  · have h7 : (t k).toInt < (t j).toInt := by
      rcases Int.lt_or_le (t k).toInt (t j).toInt with q | q
      · exact q
      · exact absurd (hO.2.2.1 k j hk hj (by omega)) e
    have h8 := hO.2.2.2 k j hk hj h7
    omega
def tellV (t s f l : Nat → Int32) (i : Nat) (w : Int) : Int := if w = 0 then (t i).toInt else if w = 1 then (if 0 < (s i).toInt then 1 else 0) else if w = 2 then (f i).toInt else if w = 3 then (l i).toInt else (s i).toInt
def shR (a : Nat → Int32) (p n : Nat) : Nat → Int32 := fun k => if p < k ∧ k ≤ n then a (k - 1) else a k
def shL (a : Nat → Int32) (p n : Nat) : Nat → Int32 := fun k => if p ≤ k ∧ k + 1 < n then a (k + 1) else a k
theorem shR_n (a : Nat → Int32) (n : Nat) : shR a n n = a := by
  funext k
  simp only [shR]
  rw [if_neg (by omega)]
theorem shR_st (a : Nat → Int32) {i n : Nat} (h0 : 0 < i) (hn : i ≤ n) : upd (shR a i n) i ((shR a i n) (i - 1)) = shR a (i - 1) n := by
  funext k
  by_cases h : k = i
  · subst h
    rw [pk_us]
    simp only [shR]
    rw [if_neg (by omega), if_pos (by omega)]
  · rw [pk_un h]
    simp only [shR]
    by_cases h2 : i < k ∧ k ≤ n
    · rw [if_pos h2, if_pos (by omega)]
    · rw [if_neg h2, if_neg (by omega)]
/-- while rows move down: those from p on, below i, have moved -/
def shP (a : Nat → Int32) (p i : Nat) : Nat → Int32 := fun k => if p ≤ k ∧ k < i then a (k + 1) else a k
theorem shP_0 (a : Nat → Int32) (p : Nat) : shP a p p = a := by
  funext k
  simp only [shP]
  rw [if_neg (by omega)]
theorem shP_n (a : Nat → Int32) {p n i : Nat} (h : i + 1 = n) : shP a p i = shL a p n := by
  funext k
  simp only [shP, shL]
  by_cases h2 : p ≤ k ∧ k < i
  · rw [if_pos h2, if_pos (by omega)]
  · rw [if_neg h2, if_neg (by omega)]
theorem shP_st (a : Nat → Int32) {p i : Nat} (h : p ≤ i) : upd (shP a p i) i ((shP a p i) (i + 1)) = shP a p (i + 1) := by
  funext k
  by_cases h1 : k = i
  · subst h1
    rw [pk_us]
    simp only [shP]
    rw [if_neg (by omega), if_pos (by omega)]
  · rw [pk_un h1]
    simp only [shP]
    by_cases h2 : p ≤ k ∧ k < i
    · rw [if_pos h2, if_pos (by omega)]
    · rw [if_neg h2, if_neg (by omega)]
theorem pace_none {t s f l : Nat → Int32} {n : Nat} {x : Int} (h : ∀ k : Nat, k < n → x < (t k).toInt) : paceF t s f l n x = 1000 := by
  unfold paceF
  rw [if_pos (bi_none h)]
theorem pace_at {t s f l : Nat → Int32} {n j : Nat} {x : Int} (inj : ∀ i j : Nat, i < n → j < n → (t i).toInt = (t j).toInt → i = j) (hj : j < n) (h1 : (t j).toInt ≤ x) (h2 : ∀ k : Nat, k < n → (t k).toInt ≤ x → (t k).toInt ≤ (t j).toInt) : paceF t s f l n x = seg (f j).toInt (l j).toInt (s j).toInt (x - (t j).toInt) := by
  unfold paceF
  rw [bi_uniq inj hj h1 h2, if_neg (by omega), Int.toNat_natCast]
theorem seg_rng {f l s k : Int} (hf : 1 ≤ f ∧ f ≤ 1000000) (hl : 1 ≤ l ∧ l ≤ 1000000) (hk : 0 ≤ k) : 1 ≤ seg f l s k ∧ seg f l s k ≤ 1000000 := by
  unfold seg
  by_cases h : s ≤ k
  · rw [if_pos h]; exact hl
  · rw [if_neg h]
    have hs : 0 < s := by omega
    rcases Int.le_total f l with q | q
    · have h1 : 0 ≤ (l - f) * k / s := Int.ediv_nonneg (Int.mul_nonneg (by omega) hk) (by omega)
      have h2 : (l - f) * k / s < (l - f) + 1 := Int.ediv_lt_of_lt_mul hs (by
        have h3 : (l - f) * k ≤ (l - f) * s := Int.mul_le_mul_of_nonneg_left (by omega) (by omega)
        rw [Int.add_mul]; omega)
      omega
    · have h1 : (l - f) ≤ (l - f) * k / s := Int.le_ediv_of_mul_le hs (Int.mul_le_mul_of_nonpos_left (by omega) (by omega))
      have h2 : (l - f) * k / s < 1 := Int.ediv_lt_of_lt_mul hs (by
        have h3 : (l - f) * k ≤ 0 := Int.mul_nonpos_of_nonpos_of_nonneg (by omega) hk
        omega)
      omega
theorem pace_rng {t s f l : Nat → Int32} {n : Nat} (hO : okM n t s f l) (x : Int) : 1 ≤ paceF t s f l n x ∧ paceF t s f l n x ≤ 1000000 := by
  rcases bi_spec (t := t) (x := x) n with ⟨-, h⟩ | ⟨j, hj, -, h1, h2⟩
  · rw [pace_none h]; omega
  · rw [pace_at hO.2.2.1 hj h1 h2]
    have := hO.2.1 j hj
    exact seg_rng (by omega) (by omega) (by omega)
theorem psum_congr {P Q : Int → Int} : ∀ n : Nat, (∀ y : Nat, y < n → P y = Q y) → psum P n = psum Q n := by
  intro n
  induction n with
  | zero => intro _; rfl
  | succ n ih => intro h; simp only [psum]; rw [ih (fun y hy => h y (by omega)), h n (by omega)]
theorem psum_add {P : Int → Int} (a : Nat) : ∀ m : Nat, psum P (a + m) = psum P a + psum (fun y => P (a + y)) m := by
  intro m
  induction m with
  | zero => simp [psum]
  | succ m ih =>
    rw [show a + (m + 1) = (a + m) + 1 by omega]
    simp only [psum]
    rw [ih, show (((a + m : Nat)) : Int) = (a : Int) + m by omega]
    omega
theorem psum_const {P : Int → Int} {c : Int} : ∀ n : Nat, (∀ y : Nat, y < n → P y = c) → psum P n = c * n := by
  intro n
  induction n with
  | zero => intro _; simp [psum]
  | succ n ih =>
    intro h
    simp only [psum]
    rw [ih (fun y hy => h y (by omega)), h n (by omega), show ((n + 1 : Nat) : Int) = (n : Int) + 1 by omega, Int.mul_add]
    omega
theorem psum_rng {P : Int → Int} : ∀ n : Nat, (∀ y : Nat, y < n → 1 ≤ P y ∧ P y ≤ 1000000) → (n : Int) ≤ psum P n ∧ psum P n ≤ 1000000 * n := by
  intro n
  induction n with
  | zero => intro _; simp [psum]
  | succ n ih => intro h; have h1 := ih (fun y hy => h y (by omega)); have h2 := h n (by omega); simp only [psum]; omega
theorem seg_lo {f l s : Int} : ∀ m : Nat, (m : Int) ≤ s → psum (seg f l s) m = f * m + fs (l - f) 0 s m := by
  intro m
  induction m with
  | zero => intro _; simp [psum, fs]
  | succ m ih =>
    intro h
    simp only [psum, fs]
    rw [ih (by omega)]
    have e : seg f l s m = f + ((l - f) * m + 0) / s := by
      unfold seg
      rw [if_neg (by omega), Int.add_zero]
    rw [e, show ((m + 1 : Nat) : Int) = (m : Int) + 1 by omega, Int.mul_add]
    omega
theorem seg_hi {f l s : Int} (S : Nat) (h : s ≤ S) : ∀ d : Nat, psum (seg f l s) (S + d) = psum (seg f l s) S + l * d := by
  intro d
  induction d with
  | zero => simp
  | succ d ih =>
    rw [show S + (d + 1) = (S + d) + 1 by omega]
    simp only [psum]
    have e : seg f l s ((S + d : Nat) : Int) = l := by
      unfold seg
      rw [if_pos (by omega)]
    rw [ih, e, show ((d + 1 : Nat) : Int) = (d : Int) + 1 by omega, Int.mul_add]
    omega
theorem seg_sum {f l s : Int} (hs : 0 ≤ s) (m : Nat) : psum (seg f l s) m = f * (min (m : Int) s) + fs (l - f) 0 s (min (m : Int) s).toNat + l * (m - min (m : Int) s) := by
  rcases Int.le_total (m : Int) s with h | h
  · rw [Int.min_eq_left h, seg_lo m h, Int.toNat_natCast, Int.sub_self, Int.mul_zero]; omega
  · rw [Int.min_eq_right h]
    have h1 := seg_hi (f := f) (l := l) (s := s) s.toNat (by omega) (m - s.toNat)
    rw [show s.toNat + (m - s.toNat) = m by omega, seg_lo s.toNat (by omega)] at h1
    rw [h1, show ((s.toNat : Nat) : Int) = s by omega, show ((m - s.toNat : Nat) : Int) = (m : Int) - s by omega]
/-- the units ahead of x by the mark at j -/
theorem uab {t s f l : Nat → Int32} {n j : Nat} {x : Int} (hO : okM n t s f l) (hj : j < n) (h1 : (t j).toInt ≤ x) (h2 : ∀ k : Nat, k < n → (t j).toInt < (t k).toInt → x ≤ (t k).toInt) : psum (paceF t s f l n) x.toNat = psum (paceF t s f l n) (t j).toInt.toNat + psum (seg (f j).toInt (l j).toInt (s j).toInt) (x - (t j).toInt).toNat := by
  have h0 := hO.2.1 j hj
  rw [show x.toNat = (t j).toInt.toNat + (x - (t j).toInt).toNat by omega, psum_add]
  congr 1
  refine psum_congr _ (fun y hy => ?_)
  rw [pace_at (j := j) hO.2.2.1 hj (by omega) (fun k hk hx => ?_)]
  · congr 1; omega
  · rcases Int.lt_or_le (t j).toInt (t k).toInt with q | q
    · have := h2 k hk q; omega
    · exact q
theorem uab0 {t s f l : Nat → Int32} {n : Nat} {x : Int} (h0 : 0 ≤ x) (h2 : ∀ k : Nat, k < n → x ≤ (t k).toInt) : psum (paceF t s f l n) x.toNat = 1000 * x := by
  rw [psum_const (c := 1000) x.toNat (fun y hy => pace_none (fun k hk => by have := h2 k hk; omega))]
  omega
def okU (n : Nat) (t s f l : Nat → Int32) (u : Nat → Int64) : Prop := ∀ k : Nat, k < n → (u k).toInt = psum (paceF t s f l n) (t k).toInt.toNat
end
section
set_option maxHeartbeats 4000000 in
set_option maxRecDepth 100000 in
theorem ct_J9_floorDiv_7cf53 (l : Launch) (G : va_G) (cI cL : ClassId) (sz : Nat) (p0 : Int32) (p1 : Int32) (hp1 : 0 < p1.toInt) : Met l yJ9_floorDiv_7cf53 wsJ9_floorDiv_7cf53 ({ frames := 0, cells := 0, slots := 0, locals := 0 }) (va_Pc [.int p0, .int p1] (pre0 G cI cL ([] : va_W) sz)) (va_Qi (fun (r : Int32) (u : Unit) => r.toInt = p0.toInt / p1.toInt) (fun (u : Unit) t => va_P G vwCl ([] : va_W) t.heap ∧ va_D (va_A ([] : va_W) sz) ([] : va_W)) (va_A ([] : va_W) sz)) 0 0 (va_A ([] : va_W) sz) := by
  refine mt_ofF (cc := cJ9_floorDiv_7cf53) (maxL := 3) (ret := (some .int)) (by decide +kernel) rfl ?_
  intro p e s m args below meth c s₁ B hml hv
  obtain ⟨rfl, hsz, hP, hK, hD0, hN⟩ := hv
  have hx := B.exec
  have hb := B.bytes
  have hr := B.returns
  have hts := atoms_spec (ws := wsJ9_floorDiv_7cf53) B.pre
  have hown : s.vm.findClass RJ9 = some m.cls := findClass_of_methodNamed B.named
  have hlocks := B.notSynchronized
  subst hsz
  have hD := hD0.self (sz := s.heap.size)
  generalize hAe : va_A ([] : va_W) s.heap.size = A at hD ⊢
  have hA : ∀ q : Nat, s.heap.size ≤ q → A q := fun q h => by rw [← hAe]; exact Or.inr h
  have hP : va_P G vwCl ([] : va_W) s.heap := hP
  have hl := lv_entry ([.int p0, .int p1]) (n := 3) (Nat.le_of_ble_eq_true rfl)
  rw [lg_entry_eq]
  generalize (lg_sl ([.int p0, .int p1]) ++ List.replicate (3 - (lg_sl ([.int p0, .int p1])).length) Slot.unset).toArray = ls at hl ⊢
  have hl : lv_has ls 3 [(0, .int p0), (1, .int p1)] := hl
  have zi1 : ((1 : Int32)).toInt = 1 := by decide
  refine w_h (A := A) hP (fun H locs hP hS => ?_)
  refine lv_iload_n hx hb dJ9_floorDiv_7cf53_0 rfl (lv_at hl 0 rfl) ?_
  refine lv_iload_n hx hb dJ9_floorDiv_7cf53_1 rfl (lv_at hl 1 rfl) ?_
  refine lv_idiv hx hb dJ9_floorDiv_7cf53_2 (i_ne0 rfl (by omega)) ?_
  refine lv_topi (fun x2 ex2 => ?_)
  have tx2 : x2.toInt = p0.toInt.tdiv p1.toInt := by rw [ex2]; exact ti_tdiv rfl rfl hp1
  refine lv_istore_n (lv' := [(2, .int x2), (0, .int p0), (1, .int p1)]) hx hb dJ9_floorDiv_7cf53_3 rfl hl (by decide) rfl (fun ls hl => ?_)
  refine lv_iload_n hx hb dJ9_floorDiv_7cf53_4 rfl (lv_at hl 1 rfl) ?_
  refine lv_iload_n hx hb dJ9_floorDiv_7cf53_5 rfl (lv_at hl 2 rfl) ?_
  refine lv_ixor hx hb dJ9_floorDiv_7cf53_6 ?_
  refine lv_topi (fun x6 ex6 => ?_)
  have sg := ix_sgn (x := p0) hp1
  rw [← ex6] at sg
  refine lv_if_ge (tgt := 21) hx hb dJ9_floorDiv_7cf53_7 (by decide) (fun c7 => ?_) (fun c7 => ?_)
  · have k7 : (0 : Int) ≤ x6.toInt := i_le (show ((0 : Int32)).toInt = 0 by decide) rfl c7
    have fr : x2.toInt = p0.toInt / p1.toInt := by rw [tx2]; exact Int.tdiv_eq_ediv_of_nonneg (by omega)
    refine lv_iload_n hx hb dJ9_floorDiv_7cf53_21 rfl (lv_at hl 0 rfl) ?_
    exact W.iret (v := x2) hx hb hr (fun t ht hW => ⟨⟨x2, (), rfl, (by (try dsimp only); exact (by omega)), by rw [ht]; exact hP, hD⟩, hS.F ht⟩) hS.2.2 dJ9_floorDiv_7cf53_22
  · have k7 : (x6.toInt : Int) < 0 := i_nle (show ((0 : Int32)).toInt = 0 by decide) rfl c7
    have na : p0.toInt < 0 := by omega
    have f1 : p0.toInt ≤ x2.toInt * p1.toInt ∧ x2.toInt * p1.toInt ≤ 0 ∧ p0.toInt ≤ x2.toInt ∧ x2.toInt ≤ 0 := by rw [tx2]; have := td_neg na hp1; omega
    have rg := ti_rng p0
    refine lv_iload_n hx hb dJ9_floorDiv_7cf53_10 rfl (lv_at hl 0 rfl) ?_
    refine lv_iload_n hx hb dJ9_floorDiv_7cf53_11 rfl (lv_at hl 2 rfl) ?_
    refine lv_imul hx hb dJ9_floorDiv_7cf53_12 ?_
    refine lv_topi (fun x12 ex12 => ?_)
    have tx12 : x12.toInt = x2.toInt * p1.toInt := by rw [ex12]; exact ti_mul rfl rfl (by omega) (by omega)
    refine lv_iload_n hx hb dJ9_floorDiv_7cf53_13 rfl (lv_at hl 1 rfl) ?_
    refine lv_icmp_eq (tgt := 21) hx hb dJ9_floorDiv_7cf53_14 (by decide) (fun c14 => ?_) (fun c14 => ?_)
    · have k14 : (x12.toInt : Int) = p0.toInt := i_eq rfl rfl c14
      have fr : x2.toInt = p0.toInt / p1.toInt := by rw [tx2]; exact fd_hit hp1 (by rw [← tx2]; omega)
      refine lv_iload_n hx hb dJ9_floorDiv_7cf53_21 rfl (lv_at hl 0 rfl) ?_
      exact W.iret (v := x2) hx hb hr (fun t ht hW => ⟨⟨x2, (), rfl, (by (try dsimp only); exact (by omega)), by rw [ht]; exact hP, hD⟩, hS.F ht⟩) hS.2.2 dJ9_floorDiv_7cf53_22
    · have k14 : (x12.toInt : Int) ≠ p0.toInt := i_ne rfl rfl c14
      have fr : x2.toInt - 1 = p0.toInt / p1.toInt := by rw [tx2]; exact fd_off na hp1 (by rw [← tx2]; omega)
      have rn : -2147483647 ≤ x2.toInt := fd_lo na hp1 tx2 (by omega) (by omega)
      refine lv_iload_n hx hb dJ9_floorDiv_7cf53_17 rfl (lv_at hl 0 rfl) ?_
      refine lv_iconst (v := 1) hx hb dJ9_floorDiv_7cf53_18 (by decide) ?_
      refine lv_isub hx hb dJ9_floorDiv_7cf53_19 ?_
      refine lv_topi (fun x19 ex19 => ?_)
      have tx19 : x19.toInt = x2.toInt - 1 := by rw [ex19]; exact ti_sub rfl (show ((1 : Int32)).toInt = 1 by decide) (by omega) (by omega)
      exact W.iret (v := x19) hx hb hr (fun t ht hW => ⟨⟨x19, (), rfl, (by (try dsimp only); exact (by omega)), by rw [ht]; exact hP, hD⟩, hS.F ht⟩) hS.2.2 dJ9_floorDiv_7cf53_20
set_option maxHeartbeats 4000000 in
set_option maxRecDepth 100000 in
theorem ct_J9_floorDiv_f86c9 (l : Launch) (G : va_G) (cI cL : ClassId) (sz : Nat) (p0 : Int64) (p1 : Int64) (hp1 : 0 < p1.toInt) (hp0 : -9223372036854775807 ≤ p0.toInt) : Met l yJ9_floorDiv_f86c9 wsJ9_floorDiv_f86c9 ({ frames := 0, cells := 0, slots := 0, locals := 0 }) (va_Pc [.long p0, .long p1] (pre0 G cI cL ([] : va_W) sz)) (va_Ql (fun (r : Int64) (u : Unit) => r.toInt = p0.toInt / p1.toInt) (fun (u : Unit) t => va_P G vwCl ([] : va_W) t.heap ∧ va_D (va_A ([] : va_W) sz) ([] : va_W)) (va_A ([] : va_W) sz)) 0 0 (va_A ([] : va_W) sz) := by
  refine mt_ofF (cc := cJ9_floorDiv_f86c9) (maxL := 6) (ret := (some .long)) (by decide +kernel) rfl ?_
  intro p e s m args below meth c s₁ B hml hv
  obtain ⟨rfl, hsz, hP, hK, hD0, hN⟩ := hv
  have hx := B.exec
  have hb := B.bytes
  have hr := B.returns
  have hts := atoms_spec (ws := wsJ9_floorDiv_f86c9) B.pre
  have hown : s.vm.findClass RJ9 = some m.cls := findClass_of_methodNamed B.named
  have hlocks := B.notSynchronized
  subst hsz
  have hD := hD0.self (sz := s.heap.size)
  generalize hAe : va_A ([] : va_W) s.heap.size = A at hD ⊢
  have hA : ∀ q : Nat, s.heap.size ≤ q → A q := fun q h => by rw [← hAe]; exact Or.inr h
  have hP : va_P G vwCl ([] : va_W) s.heap := hP
  have hl := lv_entry ([.long p0, .long p1]) (n := 6) (Nat.le_of_ble_eq_true rfl)
  rw [lg_entry_eq]
  generalize (lg_sl ([.long p0, .long p1]) ++ List.replicate (6 - (lg_sl ([.long p0, .long p1])).length) Slot.unset).toArray = ls at hl ⊢
  have hl : lv_has ls 6 [(0, .long p0), (2, .long p1)] := hl
  have zl0 : ((0 : Int64)).toInt = 0 := by decide
  have zl1 : ((1 : Int64)).toInt = 1 := by decide
  refine w_h (A := A) hP (fun H locs hP hS => ?_)
  refine lv_lload_n hx hb dJ9_floorDiv_f86c9_0 rfl (lv_at hl 0 rfl) ?_
  refine lv_lload_n hx hb dJ9_floorDiv_f86c9_1 rfl (lv_at hl 1 rfl) ?_
  refine lv_ldiv hx hb dJ9_floorDiv_f86c9_2 (l_ne0 rfl (by omega)) ?_
  refine lv_topl (fun x2 ex2 => ?_)
  have tx2 : x2.toInt = p0.toInt.tdiv p1.toInt := by rw [ex2]; exact tl_tdiv rfl rfl hp1
  refine lv_lstore (lv' := [(4, .long x2), (0, .long p0), (2, .long p1)]) hx hb dJ9_floorDiv_f86c9_3  hl (by decide) rfl (fun ls hl => ?_)
  refine lv_lload_n hx hb dJ9_floorDiv_f86c9_5 rfl (lv_at hl 1 rfl) ?_
  refine lv_lload_n hx hb dJ9_floorDiv_f86c9_6 rfl (lv_at hl 2 rfl) ?_
  refine lv_lxor hx hb dJ9_floorDiv_f86c9_7 ?_
  refine lv_topl (fun x7 ex7 => ?_)
  have sg := lx_sgn (x := p0) hp1
  rw [← ex7] at sg
  refine lv_lconst (v := 0) hx hb dJ9_floorDiv_f86c9_8 (by decide) ?_
  refine W.lcmp hx hb dJ9_floorDiv_f86c9_9 ?_
  refine lv_if_ge (tgt := 27) hx hb dJ9_floorDiv_f86c9_10 (by decide) (fun c10 => ?_) (fun c10 => ?_)
  · have k10 : (0 : Int) ≤ x7.toInt := l_le (show ((0 : Int64)).toInt = 0 by decide) rfl ((lg_cmp_ge _ _).mp c10)
    have fr : x2.toInt = p0.toInt / p1.toInt := by rw [tx2]; exact Int.tdiv_eq_ediv_of_nonneg (by omega)
    refine lv_lload hx hb dJ9_floorDiv_f86c9_27 (lv_at hl 0 rfl) ?_
    exact W.lret (v := x2) hx hb hr (fun t ht hW => ⟨⟨x2, (), rfl, (by (try dsimp only); exact (by omega)), by rw [ht]; exact hP, hD⟩, hS.F ht⟩) hS.2.2 dJ9_floorDiv_f86c9_29
  · have k10 : (x7.toInt : Int) < 0 := l_nle (show ((0 : Int64)).toInt = 0 by decide) rfl (fun h9 => c10 ((lg_cmp_ge _ _).mpr h9))
    have na : p0.toInt < 0 := by omega
    have f1 : p0.toInt ≤ x2.toInt * p1.toInt ∧ x2.toInt * p1.toInt ≤ 0 ∧ p0.toInt ≤ x2.toInt ∧ x2.toInt ≤ 0 := by rw [tx2]; have := td_neg na hp1; omega
    have rg := tl_rng p0
    refine lv_lload hx hb dJ9_floorDiv_f86c9_13 (lv_at hl 0 rfl) ?_
    refine lv_lload_n hx hb dJ9_floorDiv_f86c9_15 rfl (lv_at hl 2 rfl) ?_
    refine lv_lmul hx hb dJ9_floorDiv_f86c9_16 ?_
    refine lv_topl (fun x16 ex16 => ?_)
    have tx16 : x16.toInt = x2.toInt * p1.toInt := by rw [ex16]; exact tl_mul rfl rfl (by omega) (by omega)
    refine lv_lload_n hx hb dJ9_floorDiv_f86c9_17 rfl (lv_at hl 1 rfl) ?_
    refine W.lcmp hx hb dJ9_floorDiv_f86c9_18 ?_
    refine lv_if_eq (tgt := 27) hx hb dJ9_floorDiv_f86c9_19 (by decide) (fun c19 => ?_) (fun c19 => ?_)
    · have k19 : (x16.toInt : Int) = p0.toInt := l_eq rfl rfl ((lg_cmp_eq _ _).mp c19)
      have fr : x2.toInt = p0.toInt / p1.toInt := by rw [tx2]; exact fd_hit hp1 (by rw [← tx2]; omega)
      refine lv_lload hx hb dJ9_floorDiv_f86c9_27 (lv_at hl 0 rfl) ?_
      exact W.lret (v := x2) hx hb hr (fun t ht hW => ⟨⟨x2, (), rfl, (by (try dsimp only); exact (by omega)), by rw [ht]; exact hP, hD⟩, hS.F ht⟩) hS.2.2 dJ9_floorDiv_f86c9_29
    · have k19 : (x16.toInt : Int) ≠ p0.toInt := l_ne rfl rfl (fun h9 => c19 ((lg_cmp_eq _ _).mpr h9))
      have fr : x2.toInt - 1 = p0.toInt / p1.toInt := by rw [tx2]; exact fd_off na hp1 (by rw [← tx2]; omega)
      refine lv_lload hx hb dJ9_floorDiv_f86c9_22 (lv_at hl 0 rfl) ?_
      refine lv_lconst (v := 1) hx hb dJ9_floorDiv_f86c9_24 (by decide) ?_
      refine lv_lsub hx hb dJ9_floorDiv_f86c9_25 ?_
      refine lv_topl (fun x25 ex25 => ?_)
      have tx25 : x25.toInt = x2.toInt - 1 := by rw [ex25]; exact tl_sub rfl (show ((1 : Int64)).toInt = 1 by decide) (by omega) (by omega)
      exact W.lret (v := x25) hx hb hr (fun t ht hW => ⟨⟨x25, (), rfl, (by (try dsimp only); exact (by omega)), by rw [ht]; exact hP, hD⟩, hS.F ht⟩) hS.2.2 dJ9_floorDiv_f86c9_26
set_option maxHeartbeats 4000000 in
set_option maxRecDepth 100000 in
theorem ct_J9_floorMod_f86c9 (l : Launch) (G : va_G) (cI cL : ClassId) (sz : Nat) (p0 : Int64) (p1 : Int64) (hp1 : 0 < p1.toInt) (hp2 : p1.toInt ≤ 1000000000) : Met l yJ9_floorMod_f86c9 wsJ9_floorMod_f86c9 ({ frames := 0, cells := 0, slots := 0, locals := 0 }) (va_Pc [.long p0, .long p1] (pre0 G cI cL ([] : va_W) sz)) (va_Ql (fun (r : Int64) (u : Unit) => r.toInt = p0.toInt % p1.toInt) (fun (u : Unit) t => va_P G vwCl ([] : va_W) t.heap ∧ va_D (va_A ([] : va_W) sz) ([] : va_W)) (va_A ([] : va_W) sz)) 0 0 (va_A ([] : va_W) sz) := by
  refine mt_ofF (cc := cJ9_floorMod_f86c9) (maxL := 6) (ret := (some .long)) (by decide +kernel) rfl ?_
  intro p e s m args below meth c s₁ B hml hv
  obtain ⟨rfl, hsz, hP, hK, hD0, hN⟩ := hv
  have hx := B.exec
  have hb := B.bytes
  have hr := B.returns
  have hts := atoms_spec (ws := wsJ9_floorMod_f86c9) B.pre
  have hown : s.vm.findClass RJ9 = some m.cls := findClass_of_methodNamed B.named
  have hlocks := B.notSynchronized
  subst hsz
  have hD := hD0.self (sz := s.heap.size)
  generalize hAe : va_A ([] : va_W) s.heap.size = A at hD ⊢
  have hA : ∀ q : Nat, s.heap.size ≤ q → A q := fun q h => by rw [← hAe]; exact Or.inr h
  have hP : va_P G vwCl ([] : va_W) s.heap := hP
  have hl := lv_entry ([.long p0, .long p1]) (n := 6) (Nat.le_of_ble_eq_true rfl)
  rw [lg_entry_eq]
  generalize (lg_sl ([.long p0, .long p1]) ++ List.replicate (6 - (lg_sl ([.long p0, .long p1])).length) Slot.unset).toArray = ls at hl ⊢
  have hl : lv_has ls 6 [(0, .long p0), (2, .long p1)] := hl
  have zl0 : ((0 : Int64)).toInt = 0 := by decide
  refine w_h (A := A) hP (fun H locs hP hS => ?_)
  refine lv_lload_n hx hb dJ9_floorMod_f86c9_0 rfl (lv_at hl 0 rfl) ?_
  refine lv_lload_n hx hb dJ9_floorMod_f86c9_1 rfl (lv_at hl 1 rfl) ?_
  refine lv_lrem hx hb dJ9_floorMod_f86c9_2 (l_ne0 rfl (by omega)) ?_
  refine lv_topl (fun x2 ex2 => ?_)
  have tx2 : x2.toInt = p0.toInt.tmod p1.toInt := by rw [ex2]; exact tl_tmod rfl rfl hp1
  refine lv_lstore (lv' := [(4, .long x2), (0, .long p0), (2, .long p1)]) hx hb dJ9_floorMod_f86c9_3  hl (by decide) rfl (fun ls hl => ?_)
  refine lv_lload_n hx hb dJ9_floorMod_f86c9_5 rfl (lv_at hl 1 rfl) ?_
  refine lv_lload_n hx hb dJ9_floorMod_f86c9_6 rfl (lv_at hl 2 rfl) ?_
  refine lv_lxor hx hb dJ9_floorMod_f86c9_7 ?_
  refine lv_topl (fun x7 ex7 => ?_)
  have sg := lx_sgn (x := p0) hp1
  rw [← ex7] at sg
  refine lv_lconst (v := 0) hx hb dJ9_floorMod_f86c9_8 (by decide) ?_
  refine W.lcmp hx hb dJ9_floorMod_f86c9_9 ?_
  refine lv_if_ge (tgt := 25) hx hb dJ9_floorMod_f86c9_10 (by decide) (fun c10 => ?_) (fun c10 => ?_)
  · have k10 : (0 : Int) ≤ x7.toInt := l_le (show ((0 : Int64)).toInt = 0 by decide) rfl ((lg_cmp_ge _ _).mp c10)
    have fr : x2.toInt = p0.toInt % p1.toInt := by rw [tx2]; exact Int.tmod_eq_emod_of_nonneg (by omega)
    refine lv_lload hx hb dJ9_floorMod_f86c9_25 (lv_at hl 0 rfl) ?_
    exact W.lret (v := x2) hx hb hr (fun t ht hW => ⟨⟨x2, (), rfl, (by (try dsimp only); exact (by omega)), by rw [ht]; exact hP, hD⟩, hS.F ht⟩) hS.2.2 dJ9_floorMod_f86c9_27
  · have k10 : (x7.toInt : Int) < 0 := l_nle (show ((0 : Int64)).toInt = 0 by decide) rfl (fun h9 => c10 ((lg_cmp_ge _ _).mpr h9))
    have na : p0.toInt < 0 := by omega
    have f1 := fm_neg na hp1
    rw [← tx2] at f1
    refine lv_lload hx hb dJ9_floorMod_f86c9_13 (lv_at hl 0 rfl) ?_
    refine lv_lconst (v := 0) hx hb dJ9_floorMod_f86c9_15 (by decide) ?_
    refine W.lcmp hx hb dJ9_floorMod_f86c9_16 ?_
    refine lv_if_eq (tgt := 25) hx hb dJ9_floorMod_f86c9_17 (by decide) (fun c17 => ?_) (fun c17 => ?_)
    · have k17 : (x2.toInt : Int) = 0 := l_eq rfl (show ((0 : Int64)).toInt = 0 by decide) ((lg_cmp_eq _ _).mp c17)
      refine lv_lload hx hb dJ9_floorMod_f86c9_25 (lv_at hl 0 rfl) ?_
      exact W.lret (v := x2) hx hb hr (fun t ht hW => ⟨⟨x2, (), rfl, (by (try dsimp only); exact (by omega)), by rw [ht]; exact hP, hD⟩, hS.F ht⟩) hS.2.2 dJ9_floorMod_f86c9_27
    · have k17 : (x2.toInt : Int) ≠ 0 := l_ne rfl (show ((0 : Int64)).toInt = 0 by decide) (fun h9 => c17 ((lg_cmp_eq _ _).mpr h9))
      refine lv_lload hx hb dJ9_floorMod_f86c9_20 (lv_at hl 0 rfl) ?_
      refine lv_lload_n hx hb dJ9_floorMod_f86c9_22 rfl (lv_at hl 2 rfl) ?_
      refine lv_ladd hx hb dJ9_floorMod_f86c9_23 ?_
      refine lv_topl (fun x23 ex23 => ?_)
      have tx23 : x23.toInt = x2.toInt + p1.toInt := by rw [ex23]; exact tl_add rfl rfl (by omega) (by omega)
      exact W.lret (v := x23) hx hb hr (fun t ht hW => ⟨⟨x23, (), rfl, (by (try dsimp only); exact (by omega)), by rw [ht]; exact hP, hD⟩, hS.F ht⟩) hS.2.2 dJ9_floorMod_f86c9_24
set_option maxHeartbeats 4000000 in
set_option maxRecDepth 100000 in
theorem ct_X3_isWithin (l : Launch) (G : va_G) (cI cL : ClassId) (sz : Nat) (p0 : Int32) (p1 : Int32) (p2 : Int32) : Met l yX3_isWithin wsX3_isWithin ({ frames := 0, cells := 0, slots := 0, locals := 0 }) (va_Pc [.int p0, .int p1, .int p2] (pre0 G cI cL ([] : va_W) sz)) (va_Qi (fun (r : Int32) (u : Unit) => (r.toInt = 1 ∧ p1.toInt ≤ p0.toInt ∧ p0.toInt ≤ p2.toInt) ∨ (r.toInt = 0 ∧ (p0.toInt < p1.toInt ∨ p2.toInt < p0.toInt))) (fun (u : Unit) t => va_P G vwCl ([] : va_W) t.heap ∧ va_D (va_A ([] : va_W) sz) ([] : va_W)) (va_A ([] : va_W) sz)) 0 0 (va_A ([] : va_W) sz) := by
  refine Met.ofW (cc := cX3_isWithin) (maxL := 3) (ret := (some .boolean)) (by decide) rfl ?_
  intro p e s m args below meth c s₁ B hml hv
  obtain ⟨rfl, hsz, hP, hK, hD0, hN⟩ := hv
  have hx := B.exec
  have hb := B.bytes
  have hr := B.returns
  have hts := atoms_spec (ws := wsX3_isWithin) B.pre
  have hown : s.vm.findClass RX3 = some m.cls := findClass_of_methodNamed B.named
  have hlocks := B.notSynchronized
  subst hsz
  have hD := hD0.self (sz := s.heap.size)
  generalize hAe : va_A ([] : va_W) s.heap.size = A at hD ⊢
  have hA : ∀ q : Nat, s.heap.size ≤ q → A q := fun q h => by rw [← hAe]; exact Or.inr h
  have hP : va_P G vwCl ([] : va_W) s.heap := hP
  have hl := lv_entry ([.int p0, .int p1, .int p2]) (n := 3) (Nat.le_of_ble_eq_true rfl)
  rw [lg_entry_eq]
  generalize (lg_sl ([.int p0, .int p1, .int p2]) ++ List.replicate (3 - (lg_sl ([.int p0, .int p1, .int p2])).length) Slot.unset).toArray = ls at hl ⊢
  have hl : lv_has ls 3 [(0, .int p0), (1, .int p1), (2, .int p2)] := hl
  have zi0 : ((0 : Int32)).toInt = 0 := by decide
  have zi1 : ((1 : Int32)).toInt = 1 := by decide
  refine w_h (A := A) hP (fun H locs hP hS => ?_)
  refine lv_iload_n hx hb dX3_isWithin_0 rfl (lv_at hl 0 rfl) ?_
  refine lv_iload_n hx hb dX3_isWithin_1 rfl (lv_at hl 1 rfl) ?_
  refine lv_icmp_lt (tgt := 14) hx hb dX3_isWithin_2 (by decide) (fun c2 => ?_) (fun c2 => ?_)
  · have k2 : (p0.toInt : Int) < p1.toInt := i_lt rfl rfl c2
    refine lv_iconst (v := 0) hx hb dX3_isWithin_14 (by decide) ?_
    exact W.zret (v := 0) hx hb hr (by decide) (fun t ht hW => ⟨⟨0, (), rfl, (by (try dsimp only); exact (by have e0 : ((0 : Int32)).toInt = 0 := (by decide); have e1 : ((1 : Int32)).toInt = 1 := (by decide); omega)), by rw [ht]; exact hP, hD⟩, hS.F ht⟩) hS.2.2 dX3_isWithin_15
  · have k2 : (p1.toInt : Int) ≤ p0.toInt := i_nlt rfl rfl c2
    refine lv_iload_n hx hb dX3_isWithin_5 rfl (lv_at hl 0 rfl) ?_
    refine lv_iload_n hx hb dX3_isWithin_6 rfl (lv_at hl 2 rfl) ?_
    refine lv_icmp_gt (tgt := 14) hx hb dX3_isWithin_7 (by decide) (fun c7 => ?_) (fun c7 => ?_)
    · have k7 : (p2.toInt : Int) < p0.toInt := i_lt rfl rfl c7
      refine lv_iconst (v := 0) hx hb dX3_isWithin_14 (by decide) ?_
      exact W.zret (v := 0) hx hb hr (by decide) (fun t ht hW => ⟨⟨0, (), rfl, (by (try dsimp only); exact (by have e0 : ((0 : Int32)).toInt = 0 := (by decide); have e1 : ((1 : Int32)).toInt = 1 := (by decide); omega)), by rw [ht]; exact hP, hD⟩, hS.F ht⟩) hS.2.2 dX3_isWithin_15
    · have k7 : (p0.toInt : Int) ≤ p2.toInt := i_nlt rfl rfl c7
      refine lv_iconst (v := 1) hx hb dX3_isWithin_10 (by decide) ?_
      refine lv_goto (tgt := 15) hx hb dX3_isWithin_11 (by decide) ?_
      exact W.zret (v := 1) hx hb hr (by decide) (fun t ht hW => ⟨⟨1, (), rfl, (by (try dsimp only); exact (by have e0 : ((0 : Int32)).toInt = 0 := (by decide); have e1 : ((1 : Int32)).toInt = 1 := (by decide); omega)), by rw [ht]; exact hP, hD⟩, hS.F ht⟩) hS.2.2 dX3_isWithin_15
set_option maxHeartbeats 4000000 in
set_option maxRecDepth 100000 in
theorem ct_X4_in (l : Launch) (G : va_G) (cI cL : ClassId) (sz : Nat) (p0 : Int64) (p1 : Int64) (p2 : Int64) : Met l yX4_in wsX4_in ({ frames := 0, cells := 0, slots := 0, locals := 0 }) (va_Pc [.long p0, .long p1, .long p2] (pre0 G cI cL ([] : va_W) sz)) (va_Qi (fun (r : Int32) (u : Unit) => (r.toInt = 1 ∧ p1.toInt ≤ p0.toInt ∧ p0.toInt ≤ p2.toInt) ∨ (r.toInt = 0 ∧ (p0.toInt < p1.toInt ∨ p2.toInt < p0.toInt))) (fun (u : Unit) t => va_P G vwCl ([] : va_W) t.heap ∧ va_D (va_A ([] : va_W) sz) ([] : va_W)) (va_A ([] : va_W) sz)) 0 0 (va_A ([] : va_W) sz) := by
  refine Met.ofW (cc := cX4_in) (maxL := 6) (ret := (some .boolean)) (by decide) rfl ?_
  intro p e s m args below meth c s₁ B hml hv
  obtain ⟨rfl, hsz, hP, hK, hD0, hN⟩ := hv
  have hx := B.exec
  have hb := B.bytes
  have hr := B.returns
  have hts := atoms_spec (ws := wsX4_in) B.pre
  have hown : s.vm.findClass RX4 = some m.cls := findClass_of_methodNamed B.named
  have hlocks := B.notSynchronized
  subst hsz
  have hD := hD0.self (sz := s.heap.size)
  generalize hAe : va_A ([] : va_W) s.heap.size = A at hD ⊢
  have hA : ∀ q : Nat, s.heap.size ≤ q → A q := fun q h => by rw [← hAe]; exact Or.inr h
  have hP : va_P G vwCl ([] : va_W) s.heap := hP
  have hl := lv_entry ([.long p0, .long p1, .long p2]) (n := 6) (Nat.le_of_ble_eq_true rfl)
  rw [lg_entry_eq]
  generalize (lg_sl ([.long p0, .long p1, .long p2]) ++ List.replicate (6 - (lg_sl ([.long p0, .long p1, .long p2])).length) Slot.unset).toArray = ls at hl ⊢
  have hl : lv_has ls 6 [(0, .long p0), (2, .long p1), (4, .long p2)] := hl
  have zi0 : ((0 : Int32)).toInt = 0 := by decide
  have zi1 : ((1 : Int32)).toInt = 1 := by decide
  refine w_h (A := A) hP (fun H locs hP hS => ?_)
  refine lv_lload_n hx hb dX4_in_0 rfl (lv_at hl 0 rfl) ?_
  refine lv_lload_n hx hb dX4_in_1 rfl (lv_at hl 1 rfl) ?_
  refine W.lcmp hx hb dX4_in_2 ?_
  refine lv_if_lt (tgt := 17) hx hb dX4_in_3 (by decide) (fun c3 => ?_) (fun c3 => ?_)
  · have k3 : (p0.toInt : Int) < p1.toInt := l_lt rfl rfl ((lg_cmp_lt _ _).mp c3)
    refine lv_iconst (v := 0) hx hb dX4_in_17 (by decide) ?_
    exact W.zret (v := 0) hx hb hr (by decide) (fun t ht hW => ⟨⟨0, (), rfl, (by (try dsimp only); exact (by have e0 : ((0 : Int32)).toInt = 0 := (by decide); have e1 : ((1 : Int32)).toInt = 1 := (by decide); omega)), by rw [ht]; exact hP, hD⟩, hS.F ht⟩) hS.2.2 dX4_in_18
  · have k3 : (p1.toInt : Int) ≤ p0.toInt := l_nlt rfl rfl (fun h9 => c3 ((lg_cmp_lt _ _).mpr h9))
    refine lv_lload_n hx hb dX4_in_6 rfl (lv_at hl 0 rfl) ?_
    refine lv_lload hx hb dX4_in_7 (lv_at hl 2 rfl) ?_
    refine W.lcmp hx hb dX4_in_9 ?_
    refine lv_if_gt (tgt := 17) hx hb dX4_in_10 (by decide) (fun c10 => ?_) (fun c10 => ?_)
    · have k10 : (p2.toInt : Int) < p0.toInt := l_lt rfl rfl ((lg_cmp_gt _ _).mp c10)
      refine lv_iconst (v := 0) hx hb dX4_in_17 (by decide) ?_
      exact W.zret (v := 0) hx hb hr (by decide) (fun t ht hW => ⟨⟨0, (), rfl, (by (try dsimp only); exact (by have e0 : ((0 : Int32)).toInt = 0 := (by decide); have e1 : ((1 : Int32)).toInt = 1 := (by decide); omega)), by rw [ht]; exact hP, hD⟩, hS.F ht⟩) hS.2.2 dX4_in_18
    · have k10 : (p0.toInt : Int) ≤ p2.toInt := l_nlt rfl rfl (fun h9 => c10 ((lg_cmp_gt _ _).mpr h9))
      refine lv_iconst (v := 1) hx hb dX4_in_13 (by decide) ?_
      refine lv_goto (tgt := 18) hx hb dX4_in_14 (by decide) ?_
      exact W.zret (v := 1) hx hb hr (by decide) (fun t ht hW => ⟨⟨1, (), rfl, (by (try dsimp only); exact (by have e0 : ((0 : Int32)).toInt = 0 := (by decide); have e1 : ((1 : Int32)).toInt = 1 := (by decide); omega)), by rw [ht]; exact hP, hD⟩, hS.F ht⟩) hS.2.2 dX4_in_18
end
section
set_option maxHeartbeats 4000000 in
set_option maxRecDepth 100000 in
theorem ct_X0_placeOf (l : Launch) (G : va_G) (cI cL : ClassId) (sz : Nat) (qh : Nat) (qh1 : Nat) (qh2 : Nat) (zh : Int32) (gt : Nat → Int32) (gu : Nat → Int32) (p0 : Int32) (nh : Nat) (hnh : zh.toInt = nh) (hOh : okH nh gt gu) : Met l yX0_placeOf wsX0_placeOf ({ frames := 0, cells := 0, slots := 0, locals := 0 }) (va_Pc [.ref qh, .int p0] (pre0 G cI cL [(qh, .inr (0, [.ref qh1, .ref qh2, .int zh])), (qh1, .inl (cI, 20, .inl gt)), (qh2, .inl (cI, 20, .inl gu))] sz)) (va_Qi (fun (r : Int32) (u : Unit) => r.toInt = hfind gt p0.toInt nh) (fun (u : Unit) t => va_P G vwCl [(qh, .inr (0, [.ref qh1, .ref qh2, .int zh])), (qh1, .inl (cI, 20, .inl gt)), (qh2, .inl (cI, 20, .inl gu))] t.heap ∧ va_D (va_A [(qh, .inr (0, [.ref qh1, .ref qh2, .int zh])), (qh1, .inl (cI, 20, .inl gt)), (qh2, .inl (cI, 20, .inl gu))] sz) [(qh, .inr (0, [.ref qh1, .ref qh2, .int zh])), (qh1, .inl (cI, 20, .inl gt)), (qh2, .inl (cI, 20, .inl gu))]) (va_A [(qh, .inr (0, [.ref qh1, .ref qh2, .int zh])), (qh1, .inl (cI, 20, .inl gt)), (qh2, .inl (cI, 20, .inl gu))] sz)) 0 0 (va_A [(qh, .inr (0, [.ref qh1, .ref qh2, .int zh])), (qh1, .inl (cI, 20, .inl gt)), (qh2, .inl (cI, 20, .inl gu))] sz) := by
  refine Met.ofW (cc := cX0_placeOf) (maxL := 3) (ret := (some .int)) (by decide) rfl ?_
  intro p e s m args below meth c s₁ B hml hv
  obtain ⟨rfl, hsz, hP, hK, hD0, hN⟩ := hv
  have hx := B.exec
  have hb := B.bytes
  have hr := B.returns
  have hts := atoms_spec (ws := wsX0_placeOf) B.pre
  have hown : s.vm.findClass RX0 = some m.cls := findClass_of_methodNamed B.named
  have hlocks := B.notSynchronized
  subst hsz
  have hD := hD0.self (sz := s.heap.size)
  generalize hAe : va_A [(qh, .inr (0, [.ref qh1, .ref qh2, .int zh])), (qh1, .inl (cI, 20, .inl gt)), (qh2, .inl (cI, 20, .inl gu))] s.heap.size = A at hD ⊢
  have hA : ∀ q : Nat, s.heap.size ≤ q → A q := fun q h => by rw [← hAe]; exact Or.inr h
  have hP : va_P G vwCl [(qh, .inr (0, [.ref qh1, .ref qh2, .int zh])), (qh1, .inl (cI, 20, .inl gt)), (qh2, .inl (cI, 20, .inl gu))] s.heap := hP
  have hl := lv_entry ([.ref qh, .int p0]) (n := 3) (Nat.le_of_ble_eq_true rfl)
  rw [lg_entry_eq]
  generalize (lg_sl ([.ref qh, .int p0]) ++ List.replicate (3 - (lg_sl ([.ref qh, .int p0])).length) Slot.unset).toArray = ls at hl ⊢
  have hl : lv_has ls 3 [(0, .ref qh), (1, .int p0)] := hl
  have hf18 := hts (.fieldLink RX0 18 "TempoMaps$Holds" "size" "I") (by decide +kernel)
  have hf9 := hts (.fieldLink RX0 9 "TempoMaps$Holds" "ticks" "[I") (by decide +kernel)
  have hiX0 : ∀ w ∈ wsX00, w ∈ wsX0_placeOf := by decide +kernel
  have zim1 : ((-1 : Int32)).toInt = -1 := by decide
  have zi1 : ((1 : Int32)).toInt = 1 := by decide
  refine w_h (A := A) hP (fun H locs hP hS => ?_)
  have hn20 := hOh.1
  have hrg := hOh.2.1
  refine lv_aload_n hx hb dX0_placeOf_0 rfl (lv_at hl 0 rfl) ?_
  refine va_get (D := G) (ci := 0) (v := .int zh) (C := RX0) (T := TX0) (N := 3) hx hb hts hiX0 hown hK hP 0 rfl rfl 2 (by decide) hf18 (fun _ h9 => h9) rfl dX0_placeOf_1 ?_
  refine lv_iconst (v := 1) hx hb dX0_placeOf_4 (by decide) ?_
  refine lv_isub hx hb dX0_placeOf_5 ?_
  refine lv_topi (fun x5 ex5 => ?_)
  have tx5 : x5.toInt = zh.toInt - 1 := by rw [ex5]; exact ti_sub rfl (show ((1 : Int32)).toInt = 1 by decide) (by omega) (by omega)
  refine lv_istore_n (lv' := [(2, .int x5), (0, .ref qh), (1, .int p0)]) hx hb dX0_placeOf_6 rfl hl (by decide) rfl (fun ls hl => ?_)
  refine W_loop1 (fun (x2 : Int32) ls H locs => va_P G vwCl [(qh, .inr (0, [.ref qh1, .ref qh2, .int zh])), (qh1, .inl (cI, 20, .inl gt)), (qh2, .inl (cI, 20, .inl gu))] H ∧ va_D A [(qh, .inr (0, [.ref qh1, .ref qh2, .int zh])), (qh1, .inl (cI, 20, .inl gt)), (qh2, .inl (cI, 20, .inl gu))] ∧ va_S A s.heap H locs ∧ lv_has ls 3 [(0, .ref qh), (1, .int p0), (2, .int x2)] ∧ (-1 ≤ x2.toInt ∧ x2.toInt < nh) ∧ (hfind gt p0.toInt nh = hfind gt p0.toInt (x2.toInt + 1).toNat)) (fun (x2 : Int32) => (x2.toInt + 1).toNat) (fun x2 ls H locs hI ih => ?_) x5 ls _ _ ⟨hP, hD, hS, lv_sub hl [1, 2, 0] rfl, (show -1 ≤ x5.toInt ∧ x5.toInt < nh from by omega), (show hfind gt p0.toInt nh = hfind gt p0.toInt (x5.toInt + 1).toNat from by rw [show (x5.toInt + 1).toNat = nh by omega])⟩
  obtain ⟨hP, hD, hS, hl, i1, i2⟩ := hI
  refine lv_iload_n hx hb dX0_placeOf_7 rfl (lv_at hl 2 rfl) ?_
  refine lv_if_lt (tgt := 27) hx hb dX0_placeOf_8 (by decide) (fun c8 => ?_) (fun c8 => ?_)
  · have k8 : (x2.toInt : Int) < 0 := i_lt rfl (show ((0 : Int32)).toInt = 0 by decide) c8
    have fr : x2.toInt = hfind gt p0.toInt nh := by rw [i2, show (x2.toInt + 1).toNat = 0 by omega]; simp only [hfind]; omega
    refine lv_iload_n hx hb dX0_placeOf_27 rfl (lv_at hl 2 rfl) ?_
    exact W.iret (v := x2) hx hb hr (fun t ht hW => ⟨⟨x2, (), rfl, (by (try dsimp only); exact (by omega)), by rw [ht]; exact hP, hD⟩, hS.F ht⟩) hS.2.2 dX0_placeOf_28
  · have k8 : (0 : Int) ≤ x2.toInt := i_nlt rfl (show ((0 : Int32)).toInt = 0 by decide) c8
    refine lv_aload_n hx hb dX0_placeOf_11 rfl (lv_at hl 0 rfl) ?_
    refine va_get (D := G) (ci := 0) (v := .ref qh1) (C := RX0) (T := TX0) (N := 3) hx hb hts hiX0 hown hK hP 0 rfl rfl 0 (by decide) hf9 (fun _ h9 => h9) rfl dX0_placeOf_12 ?_
    refine lv_iload_n hx hb dX0_placeOf_15 rfl (lv_at hl 2 rfl) ?_
    refine va_iald hx hb hK hP 1 0 rfl rfl (vi_in rfl (by omega) (by omega)) dX0_placeOf_16 ?_
    refine lv_topi (fun x16 ex16 => ?_)
    have ex16 : x16 = gt x2.toInt.toNat := by rw [ex16]; exact congrArg _ (cl_nat rfl (by omega))
    have tx16 : x16.toInt = (gt x2.toInt.toNat).toInt := by rw [ex16]
    refine lv_iload_n hx hb dX0_placeOf_17 rfl (lv_at hl 1 rfl) ?_
    refine lv_icmp_eq (tgt := 27) hx hb dX0_placeOf_18 (by decide) (fun c18 => ?_) (fun c18 => ?_)
    · have k18 : (x16.toInt : Int) = p0.toInt := i_eq rfl rfl c18
      have fr : x2.toInt = hfind gt p0.toInt nh := by rw [i2, show (x2.toInt + 1).toNat = x2.toInt.toNat + 1 by omega, hfind_yes (by omega)]; omega
      refine lv_iload_n hx hb dX0_placeOf_27 rfl (lv_at hl 2 rfl) ?_
      exact W.iret (v := x2) hx hb hr (fun t ht hW => ⟨⟨x2, (), rfl, (by (try dsimp only); exact (by omega)), by rw [ht]; exact hP, hD⟩, hS.F ht⟩) hS.2.2 dX0_placeOf_28
    · have k18 : (x16.toInt : Int) ≠ p0.toInt := i_ne rfl rfl c18
      obtain ⟨x21, ex21⟩ : ∃ y : Int32, y = x2 + (-1) := ⟨_, rfl⟩
      have tx21 : x21.toInt = x2.toInt + (-1) := by rw [ex21]; exact ti_add rfl (by decide) (by omega) (by omega)
      refine lv_iinc (v := x21) (lv' := [(2, .int x21), (0, .ref qh), (1, .int p0)]) hx hb dX0_placeOf_21 hl (k := 2) rfl (by rw [ex21]; rfl) (by decide) rfl (fun ls hl => ?_)
      refine lv_goto (tgt := 7) hx hb dX0_placeOf_24 (by decide) ?_
      exact ih x21 ls _ _ ⟨hP, hD, hS, lv_sub hl [1, 2, 0] rfl, (show -1 ≤ x21.toInt ∧ x21.toInt < nh from by omega), (show hfind gt p0.toInt nh = hfind gt p0.toInt (x21.toInt + 1).toNat from by rw [i2, show (x2.toInt + 1).toNat = (x21.toInt + 1).toNat + 1 by omega, hfind_no (by rw [show (x21.toInt + 1).toNat = x2.toInt.toNat by omega]; omega)])⟩ (show (x21.toInt + 1).toNat < (x2.toInt + 1).toNat from by omega)
set_option maxHeartbeats 4000000 in
set_option maxRecDepth 100000 in
theorem ct_X0_put (l : Launch) (G : va_G) (cI cL : ClassId) (sz : Nat) (qh : Nat) (qh1 : Nat) (qh2 : Nat) (zh : Int32) (gt : Nat → Int32) (gu : Nat → Int32) (p0 : Int32) (p1 : Int32) (nh : Nat) (hnh : zh.toInt = nh) (hOh : okH nh gt gu) : Met l yX0_put wsX0_put ({ frames := 1, cells := 0, slots := 0, locals := 22 }) (va_Pc [.ref qh, .int p0, .int p1] (pre0 G cI cL [(qh, .inr (0, [.ref qh1, .ref qh2, .int zh])), (qh1, .inl (cI, 20, .inl gt)), (qh2, .inl (cI, 20, .inl gu))] sz)) (va_Qi (fun (r : Int32) (u : Int32 × (Nat → Int32) × (Nat → Int32)) => ∃ n' : Nat, u.1.toInt = n' ∧ hPut nh gt gu p0 p1 r.toInt n' u.2.1 u.2.2) (fun (u : Int32 × (Nat → Int32) × (Nat → Int32)) t => va_P G vwCl [(qh, .inr (0, [.ref qh1, .ref qh2, .int u.1])), (qh1, .inl (cI, 20, .inl (u.2.1))), (qh2, .inl (cI, 20, .inl (u.2.2)))] t.heap ∧ va_D (va_A [(qh, .inr (0, [.ref qh1, .ref qh2, .int zh])), (qh1, .inl (cI, 20, .inl gt)), (qh2, .inl (cI, 20, .inl gu))] sz) [(qh, .inr (0, [.ref qh1, .ref qh2, .int u.1])), (qh1, .inl (cI, 20, .inl (u.2.1))), (qh2, .inl (cI, 20, .inl (u.2.2)))]) (va_A [(qh, .inr (0, [.ref qh1, .ref qh2, .int zh])), (qh1, .inl (cI, 20, .inl gt)), (qh2, .inl (cI, 20, .inl gu))] sz)) 0 0 (va_A [(qh, .inr (0, [.ref qh1, .ref qh2, .int zh])), (qh1, .inl (cI, 20, .inl gt)), (qh2, .inl (cI, 20, .inl gu))] sz) := by
  refine Met.ofW (cc := cX0_put) (maxL := 4) (ret := (some .int)) (by decide) rfl ?_
  intro p e s m args below meth c s₁ B hml hv
  obtain ⟨rfl, hsz, hP, hK, hD0, hN⟩ := hv
  have hx := B.exec
  have hb := B.bytes
  have hr := B.returns
  have hts := atoms_spec (ws := wsX0_put) B.pre
  have hown : s.vm.findClass RX0 = some m.cls := findClass_of_methodNamed B.named
  have hlocks := B.notSynchronized
  subst hsz
  have hD := hD0.self (sz := s.heap.size)
  generalize hAe : va_A [(qh, .inr (0, [.ref qh1, .ref qh2, .int zh])), (qh1, .inl (cI, 20, .inl gt)), (qh2, .inl (cI, 20, .inl gu))] s.heap.size = A at hD ⊢
  have hA : ∀ q : Nat, s.heap.size ≤ q → A q := fun q h => by rw [← hAe]; exact Or.inr h
  have hP : va_P G vwCl [(qh, .inr (0, [.ref qh1, .ref qh2, .int zh])), (qh1, .inl (cI, 20, .inl gt)), (qh2, .inl (cI, 20, .inl gu))] s.heap := hP
  have hl := lv_entry ([.ref qh, .int p0, .int p1]) (n := 4) (Nat.le_of_ble_eq_true rfl)
  rw [lg_entry_eq]
  generalize (lg_sl ([.ref qh, .int p0, .int p1]) ++ List.replicate (4 - (lg_sl ([.ref qh, .int p0, .int p1])).length) Slot.unset).toArray = ls at hl ⊢
  have hl : lv_has ls 4 [(0, .ref qh), (1, .int p0), (2, .int p1)] := hl
  have hf18 := hts (.fieldLink RX0 18 "TempoMaps$Holds" "size" "I") (by decide +kernel)
  have hf9 := hts (.fieldLink RX0 9 "TempoMaps$Holds" "ticks" "[I") (by decide +kernel)
  have hf15 := hts (.fieldLink RX0 15 "TempoMaps$Holds" "units" "[I") (by decide +kernel)
  have hiX0 : ∀ w ∈ wsX00, w ∈ wsX0_put := by decide +kernel
  have zim4 : ((-4 : Int32)).toInt = -4 := by decide
  have zi1 : ((1 : Int32)).toInt = 1 := by decide
  have zi20 : ((20 : Int32)).toInt = 20 := by decide
  refine w_h (A := A) hP (fun H locs hP hS => ?_)
  have hn20 := hOh.1
  have hrg := hOh.2.1
  refine lv_aload_n hx hb dX0_put_0 rfl (lv_at hl 0 rfl) ?_
  refine lv_iload_n hx hb dX0_put_1 rfl (lv_at hl 1 rfl) ?_
  have hPc := hP.sub (ws' := [(qh, .inr (0, [.ref qh1, .ref qh2, .int zh])), (qh1, .inl (cI, 20, .inl gt)), (qh2, .inl (cI, 20, .inl gu))]) [0, 1, 2] rfl
  have hDc := hD.sub (ws' := [(qh, .inr (0, [.ref qh1, .ref qh2, .int zh])), (qh1, .inl (cI, 20, .inl gt)), (qh2, .inl (cI, 20, .inl gu))]) [0, 1, 2] (by decide) rfl
  have hcc := (ct_X0_placeOf l G cI cL H.size qh qh1 qh2 zh gt gu p0 nh hnh hOh)
  refine ro_calli (va_runV (As := [.int p0]) (rest := []) ⟨hx, hb, hml, hown, hts⟩ hcc (cwV 1 hts gX0_put_X0_placeOf rfl rfl rfl (by decide +kernel) ⟨Nat.le_of_ble_eq_true rfl, Nat.le_of_ble_eq_true rfl⟩) ⟨pre_blind, va_recv hK hPc (ci := 0) (q0 := 0) rfl rfl, pre_pass hK hN hPc hDc⟩ rfl rfl hl.1 rfl (lv_room (Nat.le_of_ble_eq_true rfl)) dX0_put_2 ⟨Nat.le_of_ble_eq_true rfl, Nat.le_of_ble_eq_true rfl⟩) hP hD hS hA [0, 1, 2] rfl (fun r2 H locs hw2 hP hS => ?_)
  try dsimp only at hw2
  have hf := hfind_rng (t := gt) (x := p0.toInt) nh
  try rw [← hw2] at hf
  refine lv_istore_n (lv' := [(3, .int r2), (0, .ref qh), (1, .int p0), (2, .int p1)]) hx hb dX0_put_5 rfl hl (by decide) rfl (fun ls hl => ?_)
  refine lv_iload_n hx hb dX0_put_6 rfl (lv_at hl 0 rfl) ?_
  refine lv_if_ge (tgt := 37) hx hb dX0_put_7 (by decide) (fun c7 => ?_) (fun c7 => ?_)
  · have k7 : (0 : Int) ≤ r2.toInt := i_le (show ((0 : Int32)).toInt = 0 by decide) rfl c7
    refine lv_aload_n hx hb dX0_put_37 rfl (lv_at hl 1 rfl) ?_
    refine va_get (D := G) (ci := 0) (v := .ref qh1) (C := RX0) (T := TX0) (N := 3) hx hb hts hiX0 hown hK hP 0 rfl rfl 0 (by decide) hf9 (fun _ h9 => h9) rfl dX0_put_38 ?_
    refine lv_iload_n hx hb dX0_put_41 rfl (lv_at hl 0 rfl) ?_
    refine lv_iload_n hx hb dX0_put_42 rfl (lv_at hl 2 rfl) ?_
    refine va_iast hx hb hK hP hD hS 1 0 rfl rfl (vi_in rfl (by omega) (by omega)) dX0_put_43 (fun H locs hP hD hS => ?_)
    rw [cl_nat rfl (show r2.toInt = ((r2.toInt.toNat : Nat) : Int) by omega)] at hP hD
    have hP : va_P G vwCl [(qh, .inr (0, [.ref qh1, .ref qh2, .int zh])), (qh1, .inl (cI, 20, .inl (upd gt r2.toInt.toNat p0))), (qh2, .inl (cI, 20, .inl gu))] H := hP
    have hD : va_D A [(qh, .inr (0, [.ref qh1, .ref qh2, .int zh])), (qh1, .inl (cI, 20, .inl (upd gt r2.toInt.toNat p0))), (qh2, .inl (cI, 20, .inl gu))] := hD
    refine lv_aload_n hx hb dX0_put_44 rfl (lv_at hl 1 rfl) ?_
    refine va_get (D := G) (ci := 0) (v := .ref qh2) (C := RX0) (T := TX0) (N := 3) hx hb hts hiX0 hown hK hP 0 rfl rfl 1 (by decide) hf15 (fun _ h9 => h9) rfl dX0_put_45 ?_
    refine lv_iload_n hx hb dX0_put_48 rfl (lv_at hl 0 rfl) ?_
    refine lv_iload_n hx hb dX0_put_49 rfl (lv_at hl 3 rfl) ?_
    refine va_iast hx hb hK hP hD hS 2 0 rfl rfl (vi_in rfl (by omega) (by omega)) dX0_put_50 (fun H locs hP hD hS => ?_)
    rw [cl_nat rfl (show r2.toInt = ((r2.toInt.toNat : Nat) : Int) by omega)] at hP hD
    have hP : va_P G vwCl [(qh, .inr (0, [.ref qh1, .ref qh2, .int zh])), (qh1, .inl (cI, 20, .inl (upd gt r2.toInt.toNat p0))), (qh2, .inl (cI, 20, .inl (upd gu r2.toInt.toNat p1)))] H := hP
    have hD : va_D A [(qh, .inr (0, [.ref qh1, .ref qh2, .int zh])), (qh1, .inl (cI, 20, .inl (upd gt r2.toInt.toNat p0))), (qh2, .inl (cI, 20, .inl (upd gu r2.toInt.toNat p1)))] := hD
    refine lv_aload_n hx hb dX0_put_51 rfl (lv_at hl 1 rfl) ?_
    refine va_get (D := G) (ci := 0) (v := .int zh) (C := RX0) (T := TX0) (N := 3) hx hb hts hiX0 hown hK hP 0 rfl rfl 2 (by decide) hf18 (fun _ h9 => h9) rfl dX0_put_52 ?_
    exact W.iret (v := zh) hx hb hr (fun t ht hW => ⟨⟨zh, (zh, upd gt r2.toInt.toNat p0, upd gu r2.toInt.toNat p1), rfl, (by (try dsimp only); exact (by first | exact ⟨nh, hnh, Or.inl ⟨by omega, hnh, rfl, by rw [← hw2], by rw [← hw2]⟩⟩ | exact ⟨nh + 1, by omega, Or.inr (Or.inr ⟨by omega, by omega, by omega, rfl, by rw [show zh.toInt.toNat = nh by omega], by rw [show zh.toInt.toNat = nh by omega]⟩)⟩)), by rw [ht]; exact hP, hD⟩, hS.F ht⟩) hS.2.2 dX0_put_55
  · have k7 : (r2.toInt : Int) < 0 := i_nle (show ((0 : Int32)).toInt = 0 by decide) rfl c7
    refine lv_aload_n hx hb dX0_put_10 rfl (lv_at hl 1 rfl) ?_
    refine va_get (D := G) (ci := 0) (v := .int zh) (C := RX0) (T := TX0) (N := 3) hx hb hts hiX0 hown hK hP 0 rfl rfl 2 (by decide) hf18 (fun _ h9 => h9) rfl dX0_put_11 ?_
    refine lv_bipush (v := 20) hx hb dX0_put_14 (by decide) ?_
    refine lv_icmp_lt (tgt := 22) hx hb dX0_put_16 (by decide) (fun c16 => ?_) (fun c16 => ?_)
    · have k16 : (zh.toInt : Int) < 20 := i_lt rfl (show ((20 : Int32)).toInt = 20 by decide) c16
      refine lv_aload_n hx hb dX0_put_22 rfl (lv_at hl 1 rfl) ?_
      refine va_get (D := G) (ci := 0) (v := .int zh) (C := RX0) (T := TX0) (N := 3) hx hb hts hiX0 hown hK hP 0 rfl rfl 2 (by decide) hf18 (fun _ h9 => h9) rfl dX0_put_23 ?_
      refine lv_istore_n (lv' := [(3, .int zh), (0, .ref qh), (1, .int p0), (2, .int p1)]) hx hb dX0_put_26 rfl hl (by decide) rfl (fun ls hl => ?_)
      refine lv_aload_n hx hb dX0_put_27 rfl (lv_at hl 1 rfl) ?_
      refine lv_dup hx hb dX0_put_28 rfl ?_
      refine va_get (D := G) (ci := 0) (v := .int zh) (C := RX0) (T := TX0) (N := 3) hx hb hts hiX0 hown hK hP 0 rfl rfl 2 (by decide) hf18 (fun _ h9 => h9) rfl dX0_put_29 ?_
      refine lv_iconst (v := 1) hx hb dX0_put_32 (by decide) ?_
      refine lv_iadd hx hb dX0_put_33 ?_
      refine lv_topi (fun x33 ex33 => ?_)
      have tx33 : x33.toInt = zh.toInt + 1 := by rw [ex33]; exact ti_add rfl (show ((1 : Int32)).toInt = 1 by decide) (by omega) (by omega)
      refine va_put (D := G) (ci := 0) (v := .int x33) (ty := .int) (C := RX0) (T := TX0) (N := 3) hx hb hts hiX0 tyX0 tyX0_ok nmX0 hown hK hP hD hS 0 rfl rfl 2 (by decide) hf18 (fun _ h9 => h9) rfl (by decide +kernel) rfl rfl (Nat.le_of_ble_eq_true rfl) dX0_put_34 (fun H locs hP hD hS => ?_)
      have hP : va_P G vwCl [(qh, .inr (0, [.ref qh1, .ref qh2, .int x33])), (qh1, .inl (cI, 20, .inl gt)), (qh2, .inl (cI, 20, .inl gu))] H := hP
      have hD : va_D A [(qh, .inr (0, [.ref qh1, .ref qh2, .int x33])), (qh1, .inl (cI, 20, .inl gt)), (qh2, .inl (cI, 20, .inl gu))] := hD
      refine lv_aload_n hx hb dX0_put_37 rfl (lv_at hl 1 rfl) ?_
      refine va_get (D := G) (ci := 0) (v := .ref qh1) (C := RX0) (T := TX0) (N := 3) hx hb hts hiX0 hown hK hP 0 rfl rfl 0 (by decide) hf9 (fun _ h9 => h9) rfl dX0_put_38 ?_
      refine lv_iload_n hx hb dX0_put_41 rfl (lv_at hl 0 rfl) ?_
      refine lv_iload_n hx hb dX0_put_42 rfl (lv_at hl 2 rfl) ?_
      refine va_iast hx hb hK hP hD hS 1 0 rfl rfl (vi_in rfl (by omega) (by omega)) dX0_put_43 (fun H locs hP hD hS => ?_)
      rw [cl_nat rfl (show zh.toInt = ((zh.toInt.toNat : Nat) : Int) by omega)] at hP hD
      have hP : va_P G vwCl [(qh, .inr (0, [.ref qh1, .ref qh2, .int x33])), (qh1, .inl (cI, 20, .inl (upd gt zh.toInt.toNat p0))), (qh2, .inl (cI, 20, .inl gu))] H := hP
      have hD : va_D A [(qh, .inr (0, [.ref qh1, .ref qh2, .int x33])), (qh1, .inl (cI, 20, .inl (upd gt zh.toInt.toNat p0))), (qh2, .inl (cI, 20, .inl gu))] := hD
      refine lv_aload_n hx hb dX0_put_44 rfl (lv_at hl 1 rfl) ?_
      refine va_get (D := G) (ci := 0) (v := .ref qh2) (C := RX0) (T := TX0) (N := 3) hx hb hts hiX0 hown hK hP 0 rfl rfl 1 (by decide) hf15 (fun _ h9 => h9) rfl dX0_put_45 ?_
      refine lv_iload_n hx hb dX0_put_48 rfl (lv_at hl 0 rfl) ?_
      refine lv_iload_n hx hb dX0_put_49 rfl (lv_at hl 3 rfl) ?_
      refine va_iast hx hb hK hP hD hS 2 0 rfl rfl (vi_in rfl (by omega) (by omega)) dX0_put_50 (fun H locs hP hD hS => ?_)
      rw [cl_nat rfl (show zh.toInt = ((zh.toInt.toNat : Nat) : Int) by omega)] at hP hD
      have hP : va_P G vwCl [(qh, .inr (0, [.ref qh1, .ref qh2, .int x33])), (qh1, .inl (cI, 20, .inl (upd gt zh.toInt.toNat p0))), (qh2, .inl (cI, 20, .inl (upd gu zh.toInt.toNat p1)))] H := hP
      have hD : va_D A [(qh, .inr (0, [.ref qh1, .ref qh2, .int x33])), (qh1, .inl (cI, 20, .inl (upd gt zh.toInt.toNat p0))), (qh2, .inl (cI, 20, .inl (upd gu zh.toInt.toNat p1)))] := hD
      refine lv_aload_n hx hb dX0_put_51 rfl (lv_at hl 1 rfl) ?_
      refine va_get (D := G) (ci := 0) (v := .int x33) (C := RX0) (T := TX0) (N := 3) hx hb hts hiX0 hown hK hP 0 rfl rfl 2 (by decide) hf18 (fun _ h9 => h9) rfl dX0_put_52 ?_
      exact W.iret (v := x33) hx hb hr (fun t ht hW => ⟨⟨x33, (x33, upd gt zh.toInt.toNat p0, upd gu zh.toInt.toNat p1), rfl, (by (try dsimp only); exact (by first | exact ⟨nh, hnh, Or.inl ⟨by omega, hnh, rfl, by rw [← hw2], by rw [← hw2]⟩⟩ | exact ⟨nh + 1, by omega, Or.inr (Or.inr ⟨by omega, by omega, by omega, rfl, by rw [show zh.toInt.toNat = nh by omega], by rw [show zh.toInt.toNat = nh by omega]⟩)⟩)), by rw [ht]; exact hP, hD⟩, hS.F ht⟩) hS.2.2 dX0_put_55
    · have k16 : (20 : Int) ≤ zh.toInt := i_nlt rfl (show ((20 : Int32)).toInt = 20 by decide) c16
      refine lv_bipush (v := (-4)) hx hb dX0_put_19 (by decide) ?_
      exact W.iret (v := (-4)) hx hb hr (fun t ht hW => ⟨⟨(-4), (zh, gt, gu), rfl, (by (try dsimp only); exact ⟨nh, hnh, Or.inr (Or.inl ⟨by omega, by omega, by decide, rfl, rfl, rfl⟩)⟩), by rw [ht]; exact hP, hD⟩, hS.F ht⟩) hS.2.2 dX0_put_21
set_option maxHeartbeats 4000000 in
set_option maxRecDepth 100000 in
theorem ct_X0_remove (l : Launch) (G : va_G) (cI cL : ClassId) (sz : Nat) (qh : Nat) (qh1 : Nat) (qh2 : Nat) (zh : Int32) (gt : Nat → Int32) (gu : Nat → Int32) (p0 : Int32) (nh : Nat) (hnh : zh.toInt = nh) (hOh : okH nh gt gu) : Met l yX0_remove wsX0_remove ({ frames := 1, cells := 0, slots := 0, locals := 22 }) (va_Pc [.ref qh, .int p0] (pre0 G cI cL [(qh, .inr (0, [.ref qh1, .ref qh2, .int zh])), (qh1, .inl (cI, 20, .inl gt)), (qh2, .inl (cI, 20, .inl gu))] sz)) (va_Qi (fun (r : Int32) (u : Int32 × (Nat → Int32) × (Nat → Int32)) => ∃ n' : Nat, u.1.toInt = n' ∧ hRem nh gt gu p0 r.toInt n' u.2.1 u.2.2) (fun (u : Int32 × (Nat → Int32) × (Nat → Int32)) t => va_P G vwCl [(qh, .inr (0, [.ref qh1, .ref qh2, .int u.1])), (qh1, .inl (cI, 20, .inl (u.2.1))), (qh2, .inl (cI, 20, .inl (u.2.2)))] t.heap ∧ va_D (va_A [(qh, .inr (0, [.ref qh1, .ref qh2, .int zh])), (qh1, .inl (cI, 20, .inl gt)), (qh2, .inl (cI, 20, .inl gu))] sz) [(qh, .inr (0, [.ref qh1, .ref qh2, .int u.1])), (qh1, .inl (cI, 20, .inl (u.2.1))), (qh2, .inl (cI, 20, .inl (u.2.2)))]) (va_A [(qh, .inr (0, [.ref qh1, .ref qh2, .int zh])), (qh1, .inl (cI, 20, .inl gt)), (qh2, .inl (cI, 20, .inl gu))] sz)) 0 0 (va_A [(qh, .inr (0, [.ref qh1, .ref qh2, .int zh])), (qh1, .inl (cI, 20, .inl gt)), (qh2, .inl (cI, 20, .inl gu))] sz) := by
  refine Met.ofW (cc := cX0_remove) (maxL := 3) (ret := (some .int)) (by decide) rfl ?_
  intro p e s m args below meth c s₁ B hml hv
  obtain ⟨rfl, hsz, hP, hK, hD0, hN⟩ := hv
  have hx := B.exec
  have hb := B.bytes
  have hr := B.returns
  have hts := atoms_spec (ws := wsX0_remove) B.pre
  have hown : s.vm.findClass RX0 = some m.cls := findClass_of_methodNamed B.named
  have hlocks := B.notSynchronized
  subst hsz
  have hD := hD0.self (sz := s.heap.size)
  generalize hAe : va_A [(qh, .inr (0, [.ref qh1, .ref qh2, .int zh])), (qh1, .inl (cI, 20, .inl gt)), (qh2, .inl (cI, 20, .inl gu))] s.heap.size = A at hD ⊢
  have hA : ∀ q : Nat, s.heap.size ≤ q → A q := fun q h => by rw [← hAe]; exact Or.inr h
  have hP : va_P G vwCl [(qh, .inr (0, [.ref qh1, .ref qh2, .int zh])), (qh1, .inl (cI, 20, .inl gt)), (qh2, .inl (cI, 20, .inl gu))] s.heap := hP
  have hl := lv_entry ([.ref qh, .int p0]) (n := 3) (Nat.le_of_ble_eq_true rfl)
  rw [lg_entry_eq]
  generalize (lg_sl ([.ref qh, .int p0]) ++ List.replicate (3 - (lg_sl ([.ref qh, .int p0])).length) Slot.unset).toArray = ls at hl ⊢
  have hl : lv_has ls 3 [(0, .ref qh), (1, .int p0)] := hl
  have hf18 := hts (.fieldLink RX0 18 "TempoMaps$Holds" "size" "I") (by decide +kernel)
  have hf9 := hts (.fieldLink RX0 9 "TempoMaps$Holds" "ticks" "[I") (by decide +kernel)
  have hf15 := hts (.fieldLink RX0 15 "TempoMaps$Holds" "units" "[I") (by decide +kernel)
  have hiX0 : ∀ w ∈ wsX00, w ∈ wsX0_remove := by decide +kernel
  have zi1 : ((1 : Int32)).toInt = 1 := by decide
  refine w_h (A := A) hP (fun H locs hP hS => ?_)
  have hn20 := hOh.1
  have hrg := hOh.2.1
  refine lv_aload_n hx hb dX0_remove_0 rfl (lv_at hl 0 rfl) ?_
  refine lv_iload_n hx hb dX0_remove_1 rfl (lv_at hl 1 rfl) ?_
  have hPc := hP.sub (ws' := [(qh, .inr (0, [.ref qh1, .ref qh2, .int zh])), (qh1, .inl (cI, 20, .inl gt)), (qh2, .inl (cI, 20, .inl gu))]) [0, 1, 2] rfl
  have hDc := hD.sub (ws' := [(qh, .inr (0, [.ref qh1, .ref qh2, .int zh])), (qh1, .inl (cI, 20, .inl gt)), (qh2, .inl (cI, 20, .inl gu))]) [0, 1, 2] (by decide) rfl
  have hcc := (ct_X0_placeOf l G cI cL H.size qh qh1 qh2 zh gt gu p0 nh hnh hOh)
  refine ro_calli (va_runV (As := [.int p0]) (rest := []) ⟨hx, hb, hml, hown, hts⟩ hcc (cwV 1 hts gX0_remove_X0_placeOf rfl rfl rfl (by decide +kernel) ⟨Nat.le_of_ble_eq_true rfl, Nat.le_of_ble_eq_true rfl⟩) ⟨pre_blind, va_recv hK hPc (ci := 0) (q0 := 0) rfl rfl, pre_pass hK hN hPc hDc⟩ rfl rfl hl.1 rfl (lv_room (Nat.le_of_ble_eq_true rfl)) dX0_remove_2 ⟨Nat.le_of_ble_eq_true rfl, Nat.le_of_ble_eq_true rfl⟩) hP hD hS hA [0, 1, 2] rfl (fun r2 H locs hw2 hP hS => ?_)
  try dsimp only at hw2
  have hf := hfind_rng (t := gt) (x := p0.toInt) nh
  try rw [← hw2] at hf
  refine lv_istore_n (lv' := [(2, .int r2), (0, .ref qh), (1, .int p0)]) hx hb dX0_remove_5 rfl hl (by decide) rfl (fun ls hl => ?_)
  refine lv_iload_n hx hb dX0_remove_6 rfl (lv_at hl 0 rfl) ?_
  refine lv_if_lt (tgt := 50) hx hb dX0_remove_7 (by decide) (fun c7 => ?_) (fun c7 => ?_)
  · have k7 : (r2.toInt : Int) < 0 := i_lt rfl (show ((0 : Int32)).toInt = 0 by decide) c7
    refine lv_aload_n hx hb dX0_remove_50 rfl (lv_at hl 1 rfl) ?_
    refine va_get (D := G) (ci := 0) (v := .int zh) (C := RX0) (T := TX0) (N := 3) hx hb hts hiX0 hown hK hP 0 rfl rfl 2 (by decide) hf18 (fun _ h9 => h9) rfl dX0_remove_51 ?_
    exact W.iret (v := zh) hx hb hr (fun t ht hW => ⟨⟨zh, (zh, gt, gu), rfl, (by (try dsimp only); exact (by first | exact ⟨nh, hnh, Or.inr ⟨by omega, hnh, rfl, rfl, rfl⟩⟩ | exact ⟨nh - 1, by omega, Or.inl ⟨by omega, by omega, by omega, by rw [← hw2, ex33], by rw [← hw2, ex48]⟩⟩)), by rw [ht]; exact hP, hD⟩, hS.F ht⟩) hS.2.2 dX0_remove_54
  · have k7 : (0 : Int) ≤ r2.toInt := i_nlt rfl (show ((0 : Int32)).toInt = 0 by decide) c7
    refine lv_aload_n hx hb dX0_remove_10 rfl (lv_at hl 1 rfl) ?_
    refine lv_dup hx hb dX0_remove_11 rfl ?_
    refine va_get (D := G) (ci := 0) (v := .int zh) (C := RX0) (T := TX0) (N := 3) hx hb hts hiX0 hown hK hP 0 rfl rfl 2 (by decide) hf18 (fun _ h9 => h9) rfl dX0_remove_12 ?_
    refine lv_iconst (v := 1) hx hb dX0_remove_15 (by decide) ?_
    refine lv_isub hx hb dX0_remove_16 ?_
    refine lv_topi (fun x16 ex16 => ?_)
    have tx16 : x16.toInt = zh.toInt - 1 := by rw [ex16]; exact ti_sub rfl (show ((1 : Int32)).toInt = 1 by decide) (by omega) (by omega)
    refine va_put (D := G) (ci := 0) (v := .int x16) (ty := .int) (C := RX0) (T := TX0) (N := 3) hx hb hts hiX0 tyX0 tyX0_ok nmX0 hown hK hP hD hS 0 rfl rfl 2 (by decide) hf18 (fun _ h9 => h9) rfl (by decide +kernel) rfl rfl (Nat.le_of_ble_eq_true rfl) dX0_remove_17 (fun H locs hP hD hS => ?_)
    have hP : va_P G vwCl [(qh, .inr (0, [.ref qh1, .ref qh2, .int x16])), (qh1, .inl (cI, 20, .inl gt)), (qh2, .inl (cI, 20, .inl gu))] H := hP
    have hD : va_D A [(qh, .inr (0, [.ref qh1, .ref qh2, .int x16])), (qh1, .inl (cI, 20, .inl gt)), (qh2, .inl (cI, 20, .inl gu))] := hD
    refine lv_aload_n hx hb dX0_remove_20 rfl (lv_at hl 1 rfl) ?_
    refine va_get (D := G) (ci := 0) (v := .ref qh1) (C := RX0) (T := TX0) (N := 3) hx hb hts hiX0 hown hK hP 0 rfl rfl 0 (by decide) hf9 (fun _ h9 => h9) rfl dX0_remove_21 ?_
    refine lv_iload_n hx hb dX0_remove_24 rfl (lv_at hl 0 rfl) ?_
    refine lv_aload_n hx hb dX0_remove_25 rfl (lv_at hl 1 rfl) ?_
    refine va_get (D := G) (ci := 0) (v := .ref qh1) (C := RX0) (T := TX0) (N := 3) hx hb hts hiX0 hown hK hP 0 rfl rfl 0 (by decide) hf9 (fun _ h9 => h9) rfl dX0_remove_26 ?_
    refine lv_aload_n hx hb dX0_remove_29 rfl (lv_at hl 1 rfl) ?_
    refine va_get (D := G) (ci := 0) (v := .int x16) (C := RX0) (T := TX0) (N := 3) hx hb hts hiX0 hown hK hP 0 rfl rfl 2 (by decide) hf18 (fun _ h9 => h9) rfl dX0_remove_30 ?_
    refine va_iald hx hb hK hP 1 0 rfl rfl (vi_in rfl (by omega) (by omega)) dX0_remove_33 ?_
    refine lv_topi (fun x33 ex33 => ?_)
    have ex33 : x33 = gt (nh - 1) := by rw [ex33]; exact congrArg _ (cl_nat rfl (by omega))
    have tx33 : x33.toInt = (gt (nh - 1)).toInt := by rw [ex33]
    refine va_iast hx hb hK hP hD hS 1 0 rfl rfl (vi_in rfl (by omega) (by omega)) dX0_remove_34 (fun H locs hP hD hS => ?_)
    rw [cl_nat rfl (show r2.toInt = ((r2.toInt.toNat : Nat) : Int) by omega)] at hP hD
    have hP : va_P G vwCl [(qh, .inr (0, [.ref qh1, .ref qh2, .int x16])), (qh1, .inl (cI, 20, .inl (upd gt r2.toInt.toNat x33))), (qh2, .inl (cI, 20, .inl gu))] H := hP
    have hD : va_D A [(qh, .inr (0, [.ref qh1, .ref qh2, .int x16])), (qh1, .inl (cI, 20, .inl (upd gt r2.toInt.toNat x33))), (qh2, .inl (cI, 20, .inl gu))] := hD
    refine lv_aload_n hx hb dX0_remove_35 rfl (lv_at hl 1 rfl) ?_
    refine va_get (D := G) (ci := 0) (v := .ref qh2) (C := RX0) (T := TX0) (N := 3) hx hb hts hiX0 hown hK hP 0 rfl rfl 1 (by decide) hf15 (fun _ h9 => h9) rfl dX0_remove_36 ?_
    refine lv_iload_n hx hb dX0_remove_39 rfl (lv_at hl 0 rfl) ?_
    refine lv_aload_n hx hb dX0_remove_40 rfl (lv_at hl 1 rfl) ?_
    refine va_get (D := G) (ci := 0) (v := .ref qh2) (C := RX0) (T := TX0) (N := 3) hx hb hts hiX0 hown hK hP 0 rfl rfl 1 (by decide) hf15 (fun _ h9 => h9) rfl dX0_remove_41 ?_
    refine lv_aload_n hx hb dX0_remove_44 rfl (lv_at hl 1 rfl) ?_
    refine va_get (D := G) (ci := 0) (v := .int x16) (C := RX0) (T := TX0) (N := 3) hx hb hts hiX0 hown hK hP 0 rfl rfl 2 (by decide) hf18 (fun _ h9 => h9) rfl dX0_remove_45 ?_
    refine va_iald hx hb hK hP 2 0 rfl rfl (vi_in rfl (by omega) (by omega)) dX0_remove_48 ?_
    refine lv_topi (fun x48 ex48 => ?_)
    have ex48 : x48 = gu (nh - 1) := by rw [ex48]; exact congrArg _ (cl_nat rfl (by omega))
    have tx48 : x48.toInt = (gu (nh - 1)).toInt := by rw [ex48]
    refine va_iast hx hb hK hP hD hS 2 0 rfl rfl (vi_in rfl (by omega) (by omega)) dX0_remove_49 (fun H locs hP hD hS => ?_)
    rw [cl_nat rfl (show r2.toInt = ((r2.toInt.toNat : Nat) : Int) by omega)] at hP hD
    have hP : va_P G vwCl [(qh, .inr (0, [.ref qh1, .ref qh2, .int x16])), (qh1, .inl (cI, 20, .inl (upd gt r2.toInt.toNat x33))), (qh2, .inl (cI, 20, .inl (upd gu r2.toInt.toNat x48)))] H := hP
    have hD : va_D A [(qh, .inr (0, [.ref qh1, .ref qh2, .int x16])), (qh1, .inl (cI, 20, .inl (upd gt r2.toInt.toNat x33))), (qh2, .inl (cI, 20, .inl (upd gu r2.toInt.toNat x48)))] := hD
    refine lv_aload_n hx hb dX0_remove_50 rfl (lv_at hl 1 rfl) ?_
    refine va_get (D := G) (ci := 0) (v := .int x16) (C := RX0) (T := TX0) (N := 3) hx hb hts hiX0 hown hK hP 0 rfl rfl 2 (by decide) hf18 (fun _ h9 => h9) rfl dX0_remove_51 ?_
    exact W.iret (v := x16) hx hb hr (fun t ht hW => ⟨⟨x16, (x16, upd gt r2.toInt.toNat x33, upd gu r2.toInt.toNat x48), rfl, (by (try dsimp only); exact (by first | exact ⟨nh, hnh, Or.inr ⟨by omega, hnh, rfl, rfl, rfl⟩⟩ | exact ⟨nh - 1, by omega, Or.inl ⟨by omega, by omega, by omega, by rw [← hw2, ex33], by rw [← hw2, ex48]⟩⟩)), by rw [ht]; exact hP, hD⟩, hS.F ht⟩) hS.2.2 dX0_remove_54
set_option maxHeartbeats 4000000 in
set_option maxRecDepth 100000 in
theorem ct_X0_unitsUpTo (l : Launch) (G : va_G) (cI cL : ClassId) (sz : Nat) (qh : Nat) (qh1 : Nat) (qh2 : Nat) (zh : Int32) (gt : Nat → Int32) (gu : Nat → Int32) (p0 : Int32) (nh : Nat) (hnh : zh.toInt = nh) (hOh : okH nh gt gu) : Met l yX0_unitsUpTo wsX0_unitsUpTo ({ frames := 0, cells := 0, slots := 0, locals := 0 }) (va_Pc [.ref qh, .int p0] (pre0 G cI cL [(qh, .inr (0, [.ref qh1, .ref qh2, .int zh])), (qh1, .inl (cI, 20, .inl gt)), (qh2, .inl (cI, 20, .inl gu))] sz)) (va_Ql (fun (r : Int64) (u : Unit) => r.toInt = hsum gt gu p0.toInt nh) (fun (u : Unit) t => va_P G vwCl [(qh, .inr (0, [.ref qh1, .ref qh2, .int zh])), (qh1, .inl (cI, 20, .inl gt)), (qh2, .inl (cI, 20, .inl gu))] t.heap ∧ va_D (va_A [(qh, .inr (0, [.ref qh1, .ref qh2, .int zh])), (qh1, .inl (cI, 20, .inl gt)), (qh2, .inl (cI, 20, .inl gu))] sz) [(qh, .inr (0, [.ref qh1, .ref qh2, .int zh])), (qh1, .inl (cI, 20, .inl gt)), (qh2, .inl (cI, 20, .inl gu))]) (va_A [(qh, .inr (0, [.ref qh1, .ref qh2, .int zh])), (qh1, .inl (cI, 20, .inl gt)), (qh2, .inl (cI, 20, .inl gu))] sz)) 0 0 (va_A [(qh, .inr (0, [.ref qh1, .ref qh2, .int zh])), (qh1, .inl (cI, 20, .inl gt)), (qh2, .inl (cI, 20, .inl gu))] sz) := by
  refine Met.ofW (cc := cX0_unitsUpTo) (maxL := 5) (ret := (some .long)) (by decide) rfl ?_
  intro p e s m args below meth c s₁ B hml hv
  obtain ⟨rfl, hsz, hP, hK, hD0, hN⟩ := hv
  have hx := B.exec
  have hb := B.bytes
  have hr := B.returns
  have hts := atoms_spec (ws := wsX0_unitsUpTo) B.pre
  have hown : s.vm.findClass RX0 = some m.cls := findClass_of_methodNamed B.named
  have hlocks := B.notSynchronized
  subst hsz
  have hD := hD0.self (sz := s.heap.size)
  generalize hAe : va_A [(qh, .inr (0, [.ref qh1, .ref qh2, .int zh])), (qh1, .inl (cI, 20, .inl gt)), (qh2, .inl (cI, 20, .inl gu))] s.heap.size = A at hD ⊢
  have hA : ∀ q : Nat, s.heap.size ≤ q → A q := fun q h => by rw [← hAe]; exact Or.inr h
  have hP : va_P G vwCl [(qh, .inr (0, [.ref qh1, .ref qh2, .int zh])), (qh1, .inl (cI, 20, .inl gt)), (qh2, .inl (cI, 20, .inl gu))] s.heap := hP
  have hl := lv_entry ([.ref qh, .int p0]) (n := 5) (Nat.le_of_ble_eq_true rfl)
  rw [lg_entry_eq]
  generalize (lg_sl ([.ref qh, .int p0]) ++ List.replicate (5 - (lg_sl ([.ref qh, .int p0])).length) Slot.unset).toArray = ls at hl ⊢
  have hl : lv_has ls 5 [(0, .ref qh), (1, .int p0)] := hl
  have hf18 := hts (.fieldLink RX0 18 "TempoMaps$Holds" "size" "I") (by decide +kernel)
  have hf9 := hts (.fieldLink RX0 9 "TempoMaps$Holds" "ticks" "[I") (by decide +kernel)
  have hf15 := hts (.fieldLink RX0 15 "TempoMaps$Holds" "units" "[I") (by decide +kernel)
  have hiX0 : ∀ w ∈ wsX00, w ∈ wsX0_unitsUpTo := by decide +kernel
  have zi0 : ((0 : Int32)).toInt = 0 := by decide
  have zi1 : ((1 : Int32)).toInt = 1 := by decide
  have zl0 : ((0 : Int64)).toInt = 0 := by decide
  refine w_h (A := A) hP (fun H locs hP hS => ?_)
  have hn20 := hOh.1
  have hrg := hOh.2.1
  refine lv_lconst (v := 0) hx hb dX0_unitsUpTo_0 (by decide) ?_
  refine lv_lstore_n (lv' := [(2, .long 0), (0, .ref qh), (1, .int p0)]) hx hb dX0_unitsUpTo_1 rfl hl (by decide) rfl (fun ls hl => ?_)
  refine lv_iconst (v := 0) hx hb dX0_unitsUpTo_2 (by decide) ?_
  refine lv_istore (lv' := [(4, .int 0), (2, .long 0), (0, .ref qh), (1, .int p0)]) hx hb dX0_unitsUpTo_3  hl (by decide) rfl (fun ls hl => ?_)
  refine W_loop2 (fun (x2 : Int64) (x4 : Int32) ls H locs => va_P G vwCl [(qh, .inr (0, [.ref qh1, .ref qh2, .int zh])), (qh1, .inl (cI, 20, .inl gt)), (qh2, .inl (cI, 20, .inl gu))] H ∧ va_D A [(qh, .inr (0, [.ref qh1, .ref qh2, .int zh])), (qh1, .inl (cI, 20, .inl gt)), (qh2, .inl (cI, 20, .inl gu))] ∧ va_S A s.heap H locs ∧ lv_has ls 5 [(0, .ref qh), (1, .int p0), (2, .long x2), (4, .int x4)] ∧ (0 ≤ x4.toInt ∧ x4.toInt ≤ nh) ∧ (x2.toInt = hsum gt gu p0.toInt x4.toInt.toNat)) (fun (x2 : Int64) (x4 : Int32) => (nh - x4.toInt).toNat) (fun x2 x4 ls H locs hI ih => ?_) (0 : Int64) (0 : Int32) ls _ _ ⟨hP, hD, hS, lv_sub hl [2, 3, 1, 0] rfl, (show 0 ≤ (0 : Int32).toInt ∧ (0 : Int32).toInt ≤ nh from by omega), (show (0 : Int64).toInt = hsum gt gu p0.toInt (0 : Int32).toInt.toNat from rfl)⟩
  obtain ⟨hP, hD, hS, hl, i1, i2⟩ := hI
  have hb9 := hsum_rng (t := gt) (u := gu) (x := p0.toInt) x4.toInt.toNat (fun k hk => by have := hrg k (by omega); omega)
  have hst : (x4.toInt + 1).toNat = x4.toInt.toNat + 1 := by omega
  refine lv_iload hx hb dX0_unitsUpTo_5 (lv_at hl 3 rfl) ?_
  refine lv_aload_n hx hb dX0_unitsUpTo_7 rfl (lv_at hl 0 rfl) ?_
  refine va_get (D := G) (ci := 0) (v := .int zh) (C := RX0) (T := TX0) (N := 3) hx hb hts hiX0 hown hK hP 0 rfl rfl 2 (by decide) hf18 (fun _ h9 => h9) rfl dX0_unitsUpTo_8 ?_
  refine lv_icmp_ge (tgt := 42) hx hb dX0_unitsUpTo_11 (by decide) (fun c11 => ?_) (fun c11 => ?_)
  · have k11 : (zh.toInt : Int) ≤ x4.toInt := i_le rfl rfl c11
    refine lv_lload_n hx hb dX0_unitsUpTo_42 rfl (lv_at hl 2 rfl) ?_
    exact W.lret (v := x2) hx hb hr (fun t ht hW => ⟨⟨x2, (), rfl, (by (try dsimp only); exact (by rw [i2, show x4.toInt.toNat = nh by omega])), by rw [ht]; exact hP, hD⟩, hS.F ht⟩) hS.2.2 dX0_unitsUpTo_43
  · have k11 : (x4.toInt : Int) < zh.toInt := i_nle rfl rfl c11
    refine lv_aload_n hx hb dX0_unitsUpTo_14 rfl (lv_at hl 0 rfl) ?_
    refine va_get (D := G) (ci := 0) (v := .ref qh1) (C := RX0) (T := TX0) (N := 3) hx hb hts hiX0 hown hK hP 0 rfl rfl 0 (by decide) hf9 (fun _ h9 => h9) rfl dX0_unitsUpTo_15 ?_
    refine lv_iload hx hb dX0_unitsUpTo_18 (lv_at hl 3 rfl) ?_
    refine va_iald hx hb hK hP 1 0 rfl rfl (vi_in rfl (by omega) (by omega)) dX0_unitsUpTo_20 ?_
    refine lv_topi (fun x20 ex20 => ?_)
    have ex20 : x20 = gt x4.toInt.toNat := by rw [ex20]; exact congrArg _ (cl_nat rfl (by omega))
    have tx20 : x20.toInt = (gt x4.toInt.toNat).toInt := by rw [ex20]
    have hrg_x20 := hrg x4.toInt.toNat (by omega)
    refine lv_iload_n hx hb dX0_unitsUpTo_21 rfl (lv_at hl 1 rfl) ?_
    refine lv_icmp_gt (tgt := 36) hx hb dX0_unitsUpTo_22 (by decide) (fun c22 => ?_) (fun c22 => ?_)
    · have k22 : (p0.toInt : Int) < x20.toInt := i_lt rfl rfl c22
      obtain ⟨x36, ex36⟩ : ∃ y : Int32, y = x4 + 1 := ⟨_, rfl⟩
      have tx36 : x36.toInt = x4.toInt + 1 := by rw [ex36]; exact ti_add rfl (by decide) (by omega) (by omega)
      refine lv_iinc (v := x36) (lv' := [(4, .int x36), (0, .ref qh), (1, .int p0), (2, .long x2)]) hx hb dX0_unitsUpTo_36 hl (k := 3) rfl (by rw [ex36]; rfl) (by decide) rfl (fun ls hl => ?_)
      refine lv_goto (tgt := 5) hx hb dX0_unitsUpTo_39 (by decide) ?_
      exact ih x2 x36 ls _ _ ⟨hP, hD, hS, lv_sub hl [1, 2, 3, 0] rfl, (show 0 ≤ x36.toInt ∧ x36.toInt ≤ nh from by omega), (show x2.toInt = hsum gt gu p0.toInt x36.toInt.toNat from by rw [show x36.toInt.toNat = x4.toInt.toNat + 1 by omega]; simp only [hsum]; (first | rw [if_pos (by omega)] | rw [if_neg (by omega)]); omega)⟩ (show (nh - x36.toInt).toNat < (nh - x4.toInt).toNat from by omega)
    · have k22 : (x20.toInt : Int) ≤ p0.toInt := i_nlt rfl rfl c22
      refine lv_lload_n hx hb dX0_unitsUpTo_25 rfl (lv_at hl 2 rfl) ?_
      refine lv_aload_n hx hb dX0_unitsUpTo_26 rfl (lv_at hl 0 rfl) ?_
      refine va_get (D := G) (ci := 0) (v := .ref qh2) (C := RX0) (T := TX0) (N := 3) hx hb hts hiX0 hown hK hP 0 rfl rfl 1 (by decide) hf15 (fun _ h9 => h9) rfl dX0_unitsUpTo_27 ?_
      refine lv_iload hx hb dX0_unitsUpTo_30 (lv_at hl 3 rfl) ?_
      refine va_iald hx hb hK hP 2 0 rfl rfl (vi_in rfl (by omega) (by omega)) dX0_unitsUpTo_32 ?_
      refine lv_topi (fun x32 ex32 => ?_)
      have ex32 : x32 = gu x4.toInt.toNat := by rw [ex32]; exact congrArg _ (cl_nat rfl (by omega))
      have tx32 : x32.toInt = (gu x4.toInt.toNat).toInt := by rw [ex32]
      have hrg_x32 := hrg x4.toInt.toNat (by omega)
      refine lv_i2l hx hb dX0_unitsUpTo_33 rfl ?_
      refine lv_topl (fun x33 ex33 => ?_)
      have tx33 : x33.toInt = x32.toInt := by rw [ex33]; exact tc_i2l rfl
      refine lv_ladd hx hb dX0_unitsUpTo_34 ?_
      refine lv_topl (fun x34 ex34 => ?_)
      have tx34 : x34.toInt = x2.toInt + x32.toInt := by rw [ex34]; exact tl_add rfl tx33 (by omega) (by omega)
      refine lv_lstore_n (lv' := [(2, .long x34), (0, .ref qh), (1, .int p0), (4, .int x4)]) hx hb dX0_unitsUpTo_35 rfl hl (by decide) rfl (fun ls hl => ?_)
      obtain ⟨x36_2, ex36_2⟩ : ∃ y : Int32, y = x4 + 1 := ⟨_, rfl⟩
      have tx36_2 : x36_2.toInt = x4.toInt + 1 := by rw [ex36_2]; exact ti_add rfl (by decide) (by omega) (by omega)
      refine lv_iinc (v := x36_2) (lv' := [(4, .int x36_2), (2, .long x34), (0, .ref qh), (1, .int p0)]) hx hb dX0_unitsUpTo_36 hl (k := 3) rfl (by rw [ex36_2]; rfl) (by decide) rfl (fun ls hl => ?_)
      refine lv_goto (tgt := 5) hx hb dX0_unitsUpTo_39 (by decide) ?_
      exact ih x34 x36_2 ls _ _ ⟨hP, hD, hS, lv_sub hl [2, 3, 1, 0] rfl, (show 0 ≤ x36_2.toInt ∧ x36_2.toInt ≤ nh from by omega), (show x34.toInt = hsum gt gu p0.toInt x36_2.toInt.toNat from by rw [show x36_2.toInt.toNat = x4.toInt.toNat + 1 by omega]; simp only [hsum]; (first | rw [if_pos (by omega)] | rw [if_neg (by omega)]); omega)⟩ (show (nh - x36_2.toInt).toNat < (nh - x4.toInt).toNat from by omega)
end
section
set_option maxHeartbeats 4000000 in
set_option maxRecDepth 100000 in
theorem ct_X2_add (l : Launch) (G : va_G) (cI cL : ClassId) (sz : Nat) (qt : Nat) (qt1 : Nat) (zt : Int32) (kp : Nat → Int64) (p0 : Int64) (nt : Nat) (hnt : zt.toInt = nt) (hOt : okT nt kp) : Met l yX2_add wsX2_add ({ frames := 0, cells := 0, slots := 0, locals := 0 }) (va_Pc [.ref qt, .long p0] (pre0 G cI cL [(qt, .inr (2, [.ref qt1, .int zt])), (qt1, .inl (cL, 40, .inr (.inl kp)))] sz)) (va_Qi (fun (r : Int32) (u : Int32 × (Nat → Int64)) => ∃ n' : Nat, u.1.toInt = n' ∧ tAdd nt kp p0 r.toInt n' u.2) (fun (u : Int32 × (Nat → Int64)) t => va_P G vwCl [(qt, .inr (2, [.ref qt1, .int u.1])), (qt1, .inl (cL, 40, .inr (.inl (u.2))))] t.heap ∧ va_D (va_A [(qt, .inr (2, [.ref qt1, .int zt])), (qt1, .inl (cL, 40, .inr (.inl kp)))] sz) [(qt, .inr (2, [.ref qt1, .int u.1])), (qt1, .inl (cL, 40, .inr (.inl (u.2))))]) (va_A [(qt, .inr (2, [.ref qt1, .int zt])), (qt1, .inl (cL, 40, .inr (.inl kp)))] sz)) 0 0 (va_A [(qt, .inr (2, [.ref qt1, .int zt])), (qt1, .inl (cL, 40, .inr (.inl kp)))] sz) := by
  refine Met.ofW (cc := cX2_add) (maxL := 3) (ret := (some .int)) (by decide) rfl ?_
  intro p e s m args below meth c s₁ B hml hv
  obtain ⟨rfl, hsz, hP, hK, hD0, hN⟩ := hv
  have hx := B.exec
  have hb := B.bytes
  have hr := B.returns
  have hts := atoms_spec (ws := wsX2_add) B.pre
  have hown : s.vm.findClass RX2 = some m.cls := findClass_of_methodNamed B.named
  have hlocks := B.notSynchronized
  subst hsz
  have hD := hD0.self (sz := s.heap.size)
  generalize hAe : va_A [(qt, .inr (2, [.ref qt1, .int zt])), (qt1, .inl (cL, 40, .inr (.inl kp)))] s.heap.size = A at hD ⊢
  have hA : ∀ q : Nat, s.heap.size ≤ q → A q := fun q h => by rw [← hAe]; exact Or.inr h
  have hP : va_P G vwCl [(qt, .inr (2, [.ref qt1, .int zt])), (qt1, .inl (cL, 40, .inr (.inl kp)))] s.heap := hP
  have hl := lv_entry ([.ref qt, .long p0]) (n := 3) (Nat.le_of_ble_eq_true rfl)
  rw [lg_entry_eq]
  generalize (lg_sl ([.ref qt, .long p0]) ++ List.replicate (3 - (lg_sl ([.ref qt, .long p0])).length) Slot.unset).toArray = ls at hl ⊢
  have hl : lv_has ls 3 [(0, .ref qt), (1, .long p0)] := hl
  have hf15 := hts (.fieldLink RX2 15 "TempoMaps$Taps" "size" "I") (by decide +kernel)
  have hf9 := hts (.fieldLink RX2 9 "TempoMaps$Taps" "times" "[J") (by decide +kernel)
  have hiX2 : ∀ w ∈ wsX20, w ∈ wsX2_add := by decide +kernel
  have zim4 : ((-4 : Int32)).toInt = -4 := by decide
  have zim3 : ((-3 : Int32)).toInt = -3 := by decide
  have zi1 : ((1 : Int32)).toInt = 1 := by decide
  have zi40 : ((40 : Int32)).toInt = 40 := by decide
  refine w_h (A := A) hP (fun H locs hP hS => ?_)
  have hn40 := hOt.1
  have hrg := hOt.2.1
  refine lv_aload_n hx hb dX2_add_0 rfl (lv_at hl 0 rfl) ?_
  refine va_get (D := G) (ci := 2) (v := .int zt) (C := RX2) (T := TX2) (N := 2) hx hb hts hiX2 hown hK hP 0 rfl rfl 1 (by decide) hf15 (fun _ h9 => h9) rfl dX2_add_1 ?_
  refine lv_if_le (tgt := 26) hx hb dX2_add_4 (by decide) (fun c4 => ?_) (fun c4 => ?_)
  · have k4 : (zt.toInt : Int) ≤ 0 := i_le rfl (show ((0 : Int32)).toInt = 0 by decide) c4
    refine lv_aload_n hx hb dX2_add_26 rfl (lv_at hl 0 rfl) ?_
    refine va_get (D := G) (ci := 2) (v := .int zt) (C := RX2) (T := TX2) (N := 2) hx hb hts hiX2 hown hK hP 0 rfl rfl 1 (by decide) hf15 (fun _ h9 => h9) rfl dX2_add_27 ?_
    refine lv_bipush (v := 40) hx hb dX2_add_30 (by decide) ?_
    refine lv_icmp_lt (tgt := 38) hx hb dX2_add_32 (by decide) (fun c32 => ?_) (fun c32 => ?_)
    · have k32 : (zt.toInt : Int) < 40 := i_lt rfl (show ((40 : Int32)).toInt = 40 by decide) c32
      refine lv_aload_n hx hb dX2_add_38 rfl (lv_at hl 0 rfl) ?_
      refine va_get (D := G) (ci := 2) (v := .ref qt1) (C := RX2) (T := TX2) (N := 2) hx hb hts hiX2 hown hK hP 0 rfl rfl 0 (by decide) hf9 (fun _ h9 => h9) rfl dX2_add_39 ?_
      refine lv_aload_n hx hb dX2_add_42 rfl (lv_at hl 0 rfl) ?_
      refine va_get (D := G) (ci := 2) (v := .int zt) (C := RX2) (T := TX2) (N := 2) hx hb hts hiX2 hown hK hP 0 rfl rfl 1 (by decide) hf15 (fun _ h9 => h9) rfl dX2_add_43 ?_
      refine lv_lload_n hx hb dX2_add_46 rfl (lv_at hl 1 rfl) ?_
      refine va_last hx hb hK hP hD hS 1 1 rfl rfl (vi_in rfl (by omega) (by omega)) dX2_add_47 (fun H locs hP hD hS => ?_)
      rw [cl_nat rfl (show zt.toInt = ((zt.toInt.toNat : Nat) : Int) by omega)] at hP hD
      have hP : va_P G vwCl [(qt, .inr (2, [.ref qt1, .int zt])), (qt1, .inl (cL, 40, .inr (.inl (vp_updL kp zt.toInt.toNat p0))))] H := hP
      have hD : va_D A [(qt, .inr (2, [.ref qt1, .int zt])), (qt1, .inl (cL, 40, .inr (.inl (vp_updL kp zt.toInt.toNat p0))))] := hD
      refine lv_aload_n hx hb dX2_add_48 rfl (lv_at hl 0 rfl) ?_
      refine lv_dup hx hb dX2_add_49 rfl ?_
      refine va_get (D := G) (ci := 2) (v := .int zt) (C := RX2) (T := TX2) (N := 2) hx hb hts hiX2 hown hK hP 0 rfl rfl 1 (by decide) hf15 (fun _ h9 => h9) rfl dX2_add_50 ?_
      refine lv_iconst (v := 1) hx hb dX2_add_53 (by decide) ?_
      refine lv_iadd hx hb dX2_add_54 ?_
      refine lv_topi (fun x54 ex54 => ?_)
      have tx54 : x54.toInt = zt.toInt + 1 := by rw [ex54]; exact ti_add rfl (show ((1 : Int32)).toInt = 1 by decide) (by omega) (by omega)
      refine va_put (D := G) (ci := 2) (v := .int x54) (ty := .int) (C := RX2) (T := TX2) (N := 2) hx hb hts hiX2 tyX2 tyX2_ok nmX2 hown hK hP hD hS 0 rfl rfl 1 (by decide) hf15 (fun _ h9 => h9) rfl (by decide +kernel) rfl rfl (Nat.le_of_ble_eq_true rfl) dX2_add_55 (fun H locs hP hD hS => ?_)
      have hP : va_P G vwCl [(qt, .inr (2, [.ref qt1, .int x54])), (qt1, .inl (cL, 40, .inr (.inl (vp_updL kp zt.toInt.toNat p0))))] H := hP
      have hD : va_D A [(qt, .inr (2, [.ref qt1, .int x54])), (qt1, .inl (cL, 40, .inr (.inl (vp_updL kp zt.toInt.toNat p0))))] := hD
      refine lv_aload_n hx hb dX2_add_58 rfl (lv_at hl 0 rfl) ?_
      refine va_get (D := G) (ci := 2) (v := .int x54) (C := RX2) (T := TX2) (N := 2) hx hb hts hiX2 hown hK hP 0 rfl rfl 1 (by decide) hf15 (fun _ h9 => h9) rfl dX2_add_59 ?_
      exact W.iret (v := x54) hx hb hr (fun t ht hW => ⟨⟨x54, (x54, vp_updL kp zt.toInt.toNat p0), rfl, (by (try dsimp only); exact ⟨nt + 1, by omega, Or.inr (Or.inr ⟨fun _ => by omega, by omega, by omega, rfl, by rw [show zt.toInt.toNat = nt by omega]⟩)⟩), by rw [ht]; exact hP, hD⟩, hS.F ht⟩) hS.2.2 dX2_add_62
    · have k32 : (40 : Int) ≤ zt.toInt := i_nlt rfl (show ((40 : Int32)).toInt = 40 by decide) c32
      refine lv_bipush (v := (-4)) hx hb dX2_add_35 (by decide) ?_
      exact W.iret (v := (-4)) hx hb hr (fun t ht hW => ⟨⟨(-4), (zt, kp), rfl, (by (try dsimp only); exact ⟨nt, hnt, Or.inr (Or.inl ⟨fun _ => by omega, by omega, by omega, rfl, rfl⟩)⟩), by rw [ht]; exact hP, hD⟩, hS.F ht⟩) hS.2.2 dX2_add_37
  · have k4 : (0 : Int) < zt.toInt := i_nle rfl (show ((0 : Int32)).toInt = 0 by decide) c4
    refine lv_lload_n hx hb dX2_add_7 rfl (lv_at hl 1 rfl) ?_
    refine lv_aload_n hx hb dX2_add_8 rfl (lv_at hl 0 rfl) ?_
    refine va_get (D := G) (ci := 2) (v := .ref qt1) (C := RX2) (T := TX2) (N := 2) hx hb hts hiX2 hown hK hP 0 rfl rfl 0 (by decide) hf9 (fun _ h9 => h9) rfl dX2_add_9 ?_
    refine lv_aload_n hx hb dX2_add_12 rfl (lv_at hl 0 rfl) ?_
    refine va_get (D := G) (ci := 2) (v := .int zt) (C := RX2) (T := TX2) (N := 2) hx hb hts hiX2 hown hK hP 0 rfl rfl 1 (by decide) hf15 (fun _ h9 => h9) rfl dX2_add_13 ?_
    refine lv_iconst (v := 1) hx hb dX2_add_16 (by decide) ?_
    refine lv_isub hx hb dX2_add_17 ?_
    refine lv_topi (fun x17 ex17 => ?_)
    have tx17 : x17.toInt = zt.toInt - 1 := by rw [ex17]; exact ti_sub rfl (show ((1 : Int32)).toInt = 1 by decide) (by omega) (by omega)
    refine va_lald hx hb hK hP 1 1 rfl rfl (vi_in rfl (by omega) (by omega)) dX2_add_18 ?_
    refine lv_topl (fun x18 ex18 => ?_)
    have ex18 : x18 = kp (nt - 1) := by rw [ex18]; exact congrArg _ (cl_nat rfl (by omega))
    have tx18 : x18.toInt = (kp (nt - 1)).toInt := by rw [ex18]
    refine W.lcmp hx hb dX2_add_19 ?_
    refine lv_if_gt (tgt := 26) hx hb dX2_add_20 (by decide) (fun c20 => ?_) (fun c20 => ?_)
    · have k20 : (x18.toInt : Int) < p0.toInt := l_lt rfl rfl ((lg_cmp_gt _ _).mp c20)
      refine lv_aload_n hx hb dX2_add_26 rfl (lv_at hl 0 rfl) ?_
      refine va_get (D := G) (ci := 2) (v := .int zt) (C := RX2) (T := TX2) (N := 2) hx hb hts hiX2 hown hK hP 0 rfl rfl 1 (by decide) hf15 (fun _ h9 => h9) rfl dX2_add_27 ?_
      refine lv_bipush (v := 40) hx hb dX2_add_30 (by decide) ?_
      refine lv_icmp_lt (tgt := 38) hx hb dX2_add_32 (by decide) (fun c32 => ?_) (fun c32 => ?_)
      · have k32 : (zt.toInt : Int) < 40 := i_lt rfl (show ((40 : Int32)).toInt = 40 by decide) c32
        refine lv_aload_n hx hb dX2_add_38 rfl (lv_at hl 0 rfl) ?_
        refine va_get (D := G) (ci := 2) (v := .ref qt1) (C := RX2) (T := TX2) (N := 2) hx hb hts hiX2 hown hK hP 0 rfl rfl 0 (by decide) hf9 (fun _ h9 => h9) rfl dX2_add_39 ?_
        refine lv_aload_n hx hb dX2_add_42 rfl (lv_at hl 0 rfl) ?_
        refine va_get (D := G) (ci := 2) (v := .int zt) (C := RX2) (T := TX2) (N := 2) hx hb hts hiX2 hown hK hP 0 rfl rfl 1 (by decide) hf15 (fun _ h9 => h9) rfl dX2_add_43 ?_
        refine lv_lload_n hx hb dX2_add_46 rfl (lv_at hl 1 rfl) ?_
        refine va_last hx hb hK hP hD hS 1 1 rfl rfl (vi_in rfl (by omega) (by omega)) dX2_add_47 (fun H locs hP hD hS => ?_)
        rw [cl_nat rfl (show zt.toInt = ((zt.toInt.toNat : Nat) : Int) by omega)] at hP hD
        have hP : va_P G vwCl [(qt, .inr (2, [.ref qt1, .int zt])), (qt1, .inl (cL, 40, .inr (.inl (vp_updL kp zt.toInt.toNat p0))))] H := hP
        have hD : va_D A [(qt, .inr (2, [.ref qt1, .int zt])), (qt1, .inl (cL, 40, .inr (.inl (vp_updL kp zt.toInt.toNat p0))))] := hD
        refine lv_aload_n hx hb dX2_add_48 rfl (lv_at hl 0 rfl) ?_
        refine lv_dup hx hb dX2_add_49 rfl ?_
        refine va_get (D := G) (ci := 2) (v := .int zt) (C := RX2) (T := TX2) (N := 2) hx hb hts hiX2 hown hK hP 0 rfl rfl 1 (by decide) hf15 (fun _ h9 => h9) rfl dX2_add_50 ?_
        refine lv_iconst (v := 1) hx hb dX2_add_53 (by decide) ?_
        refine lv_iadd hx hb dX2_add_54 ?_
        refine lv_topi (fun x54_2 ex54_2 => ?_)
        have tx54_2 : x54_2.toInt = zt.toInt + 1 := by rw [ex54_2]; exact ti_add rfl (show ((1 : Int32)).toInt = 1 by decide) (by omega) (by omega)
        refine va_put (D := G) (ci := 2) (v := .int x54_2) (ty := .int) (C := RX2) (T := TX2) (N := 2) hx hb hts hiX2 tyX2 tyX2_ok nmX2 hown hK hP hD hS 0 rfl rfl 1 (by decide) hf15 (fun _ h9 => h9) rfl (by decide +kernel) rfl rfl (Nat.le_of_ble_eq_true rfl) dX2_add_55 (fun H locs hP hD hS => ?_)
        have hP : va_P G vwCl [(qt, .inr (2, [.ref qt1, .int x54_2])), (qt1, .inl (cL, 40, .inr (.inl (vp_updL kp zt.toInt.toNat p0))))] H := hP
        have hD : va_D A [(qt, .inr (2, [.ref qt1, .int x54_2])), (qt1, .inl (cL, 40, .inr (.inl (vp_updL kp zt.toInt.toNat p0))))] := hD
        refine lv_aload_n hx hb dX2_add_58 rfl (lv_at hl 0 rfl) ?_
        refine va_get (D := G) (ci := 2) (v := .int x54_2) (C := RX2) (T := TX2) (N := 2) hx hb hts hiX2 hown hK hP 0 rfl rfl 1 (by decide) hf15 (fun _ h9 => h9) rfl dX2_add_59 ?_
        exact W.iret (v := x54_2) hx hb hr (fun t ht hW => ⟨⟨x54_2, (x54_2, vp_updL kp zt.toInt.toNat p0), rfl, (by (try dsimp only); exact ⟨nt + 1, by omega, Or.inr (Or.inr ⟨fun _ => by omega, by omega, by omega, rfl, by rw [show zt.toInt.toNat = nt by omega]⟩)⟩), by rw [ht]; exact hP, hD⟩, hS.F ht⟩) hS.2.2 dX2_add_62
      · have k32 : (40 : Int) ≤ zt.toInt := i_nlt rfl (show ((40 : Int32)).toInt = 40 by decide) c32
        refine lv_bipush (v := (-4)) hx hb dX2_add_35 (by decide) ?_
        exact W.iret (v := (-4)) hx hb hr (fun t ht hW => ⟨⟨(-4), (zt, kp), rfl, (by (try dsimp only); exact ⟨nt, hnt, Or.inr (Or.inl ⟨fun _ => by omega, by omega, by omega, rfl, rfl⟩)⟩), by rw [ht]; exact hP, hD⟩, hS.F ht⟩) hS.2.2 dX2_add_37
    · have k20 : (p0.toInt : Int) ≤ x18.toInt := l_nlt rfl rfl (fun h9 => c20 ((lg_cmp_gt _ _).mpr h9))
      refine lv_bipush (v := (-3)) hx hb dX2_add_23 (by decide) ?_
      exact W.iret (v := (-3)) hx hb hr (fun t ht hW => ⟨⟨(-3), (zt, kp), rfl, (by (try dsimp only); exact ⟨nt, hnt, Or.inl ⟨by omega, by omega, by omega, rfl, rfl⟩⟩), by rw [ht]; exact hP, hD⟩, hS.F ht⟩) hS.2.2 dX2_add_25
set_option maxHeartbeats 4000000 in
set_option maxRecDepth 100000 in
theorem ct_X2_removeAll (l : Launch) (G : va_G) (cI cL : ClassId) (sz : Nat) (qt : Nat) (qt1 : Nat) (zt : Int32) (kp : Nat → Int64) : Met l yX2_removeAll wsX2_removeAll ({ frames := 0, cells := 0, slots := 0, locals := 0 }) (va_Pc [.ref qt] (pre0 G cI cL [(qt, .inr (2, [.ref qt1, .int zt])), (qt1, .inl (cL, 40, .inr (.inl kp)))] sz)) (va_Qi (fun (r : Int32) (u : Int32) => r = zt ∧ u.toInt = 0) (fun (u : Int32) t => va_P G vwCl [(qt, .inr (2, [.ref qt1, .int u])), (qt1, .inl (cL, 40, .inr (.inl kp)))] t.heap ∧ va_D (va_A [(qt, .inr (2, [.ref qt1, .int zt])), (qt1, .inl (cL, 40, .inr (.inl kp)))] sz) [(qt, .inr (2, [.ref qt1, .int u])), (qt1, .inl (cL, 40, .inr (.inl kp)))]) (va_A [(qt, .inr (2, [.ref qt1, .int zt])), (qt1, .inl (cL, 40, .inr (.inl kp)))] sz)) 0 0 (va_A [(qt, .inr (2, [.ref qt1, .int zt])), (qt1, .inl (cL, 40, .inr (.inl kp)))] sz) := by
  refine Met.ofW (cc := cX2_removeAll) (maxL := 2) (ret := (some .int)) (by decide) rfl ?_
  intro p e s m args below meth c s₁ B hml hv
  obtain ⟨rfl, hsz, hP, hK, hD0, hN⟩ := hv
  have hx := B.exec
  have hb := B.bytes
  have hr := B.returns
  have hts := atoms_spec (ws := wsX2_removeAll) B.pre
  have hown : s.vm.findClass RX2 = some m.cls := findClass_of_methodNamed B.named
  have hlocks := B.notSynchronized
  subst hsz
  have hD := hD0.self (sz := s.heap.size)
  generalize hAe : va_A [(qt, .inr (2, [.ref qt1, .int zt])), (qt1, .inl (cL, 40, .inr (.inl kp)))] s.heap.size = A at hD ⊢
  have hA : ∀ q : Nat, s.heap.size ≤ q → A q := fun q h => by rw [← hAe]; exact Or.inr h
  have hP : va_P G vwCl [(qt, .inr (2, [.ref qt1, .int zt])), (qt1, .inl (cL, 40, .inr (.inl kp)))] s.heap := hP
  have hl := lv_entry ([.ref qt]) (n := 2) (Nat.le_of_ble_eq_true rfl)
  rw [lg_entry_eq]
  generalize (lg_sl ([.ref qt]) ++ List.replicate (2 - (lg_sl ([.ref qt])).length) Slot.unset).toArray = ls at hl ⊢
  have hl : lv_has ls 2 [(0, .ref qt)] := hl
  have hf15 := hts (.fieldLink RX2 15 "TempoMaps$Taps" "size" "I") (by decide +kernel)
  have hiX2 : ∀ w ∈ wsX20, w ∈ wsX2_removeAll := by decide +kernel
  have zi0 : ((0 : Int32)).toInt = 0 := by decide
  refine w_h (A := A) hP (fun H locs hP hS => ?_)
  refine lv_aload_n hx hb dX2_removeAll_0 rfl (lv_at hl 0 rfl) ?_
  refine va_get (D := G) (ci := 2) (v := .int zt) (C := RX2) (T := TX2) (N := 2) hx hb hts hiX2 hown hK hP 0 rfl rfl 1 (by decide) hf15 (fun _ h9 => h9) rfl dX2_removeAll_1 ?_
  refine lv_istore_n (lv' := [(1, .int zt), (0, .ref qt)]) hx hb dX2_removeAll_4 rfl hl (by decide) rfl (fun ls hl => ?_)
  refine lv_aload_n hx hb dX2_removeAll_5 rfl (lv_at hl 1 rfl) ?_
  refine lv_iconst (v := 0) hx hb dX2_removeAll_6 (by decide) ?_
  refine va_put (D := G) (ci := 2) (v := .int 0) (ty := .int) (C := RX2) (T := TX2) (N := 2) hx hb hts hiX2 tyX2 tyX2_ok nmX2 hown hK hP hD hS 0 rfl rfl 1 (by decide) hf15 (fun _ h9 => h9) rfl (by decide +kernel) rfl rfl (Nat.le_of_ble_eq_true rfl) dX2_removeAll_7 (fun H locs hP hD hS => ?_)
  have hP : va_P G vwCl [(qt, .inr (2, [.ref qt1, .int 0])), (qt1, .inl (cL, 40, .inr (.inl kp)))] H := hP
  have hD : va_D A [(qt, .inr (2, [.ref qt1, .int 0])), (qt1, .inl (cL, 40, .inr (.inl kp)))] := hD
  refine lv_iload_n hx hb dX2_removeAll_10 rfl (lv_at hl 0 rfl) ?_
  exact W.iret (v := zt) hx hb hr (fun t ht hW => ⟨⟨zt, 0, rfl, (by (try dsimp only); exact ⟨rfl, by decide⟩), by rw [ht]; exact hP, hD⟩, hS.F ht⟩) hS.2.2 dX2_removeAll_11
set_option maxHeartbeats 4000000 in
set_option maxRecDepth 100000 in
theorem ct_X2_above (l : Launch) (G : va_G) (cI cL : ClassId) (sz : Nat) (qt : Nat) (qt1 : Nat) (zt : Int32) (kp : Nat → Int64) (nt : Nat) (hnt : zt.toInt = nt) (hOt : okT nt kp) : Met l yX2_above wsX2_above ({ frames := 0, cells := 0, slots := 0, locals := 0 }) (va_Pc [.ref qt] (pre0 G cI cL [(qt, .inr (2, [.ref qt1, .int zt])), (qt1, .inl (cL, 40, .inr (.inl kp)))] sz)) (va_Ql (fun (r : Int64) (u : Unit) => r.toInt = nt * sP kp nt - sI nt * sT kp nt) (fun (u : Unit) t => va_P G vwCl [(qt, .inr (2, [.ref qt1, .int zt])), (qt1, .inl (cL, 40, .inr (.inl kp)))] t.heap ∧ va_D (va_A [(qt, .inr (2, [.ref qt1, .int zt])), (qt1, .inl (cL, 40, .inr (.inl kp)))] sz) [(qt, .inr (2, [.ref qt1, .int zt])), (qt1, .inl (cL, 40, .inr (.inl kp)))]) (va_A [(qt, .inr (2, [.ref qt1, .int zt])), (qt1, .inl (cL, 40, .inr (.inl kp)))] sz)) 0 0 (va_A [(qt, .inr (2, [.ref qt1, .int zt])), (qt1, .inl (cL, 40, .inr (.inl kp)))] sz) := by
  refine Met.ofW (cc := cX2_above) (maxL := 8) (ret := (some .long)) (by decide) rfl ?_
  intro p e s m args below meth c s₁ B hml hv
  obtain ⟨rfl, hsz, hP, hK, hD0, hN⟩ := hv
  have hx := B.exec
  have hb := B.bytes
  have hr := B.returns
  have hts := atoms_spec (ws := wsX2_above) B.pre
  have hown : s.vm.findClass RX2 = some m.cls := findClass_of_methodNamed B.named
  have hlocks := B.notSynchronized
  subst hsz
  have hD := hD0.self (sz := s.heap.size)
  generalize hAe : va_A [(qt, .inr (2, [.ref qt1, .int zt])), (qt1, .inl (cL, 40, .inr (.inl kp)))] s.heap.size = A at hD ⊢
  have hA : ∀ q : Nat, s.heap.size ≤ q → A q := fun q h => by rw [← hAe]; exact Or.inr h
  have hP : va_P G vwCl [(qt, .inr (2, [.ref qt1, .int zt])), (qt1, .inl (cL, 40, .inr (.inl kp)))] s.heap := hP
  have hl := lv_entry ([.ref qt]) (n := 8) (Nat.le_of_ble_eq_true rfl)
  rw [lg_entry_eq]
  generalize (lg_sl ([.ref qt]) ++ List.replicate (8 - (lg_sl ([.ref qt])).length) Slot.unset).toArray = ls at hl ⊢
  have hl : lv_has ls 8 [(0, .ref qt)] := hl
  have hf15 := hts (.fieldLink RX2 15 "TempoMaps$Taps" "size" "I") (by decide +kernel)
  have hf9 := hts (.fieldLink RX2 9 "TempoMaps$Taps" "times" "[J") (by decide +kernel)
  have hiX2 : ∀ w ∈ wsX20, w ∈ wsX2_above := by decide +kernel
  have zi0 : ((0 : Int32)).toInt = 0 := by decide
  have zi1 : ((1 : Int32)).toInt = 1 := by decide
  have zl0 : ((0 : Int64)).toInt = 0 := by decide
  refine w_h (A := A) hP (fun H locs hP hS => ?_)
  have hn40 := hOt.1
  have hrg := hOt.2.1
  refine lv_lconst (v := 0) hx hb dX2_above_0 (by decide) ?_
  refine lv_lstore_n (lv' := [(1, .long 0), (0, .ref qt)]) hx hb dX2_above_1 rfl hl (by decide) rfl (fun ls hl => ?_)
  refine lv_lconst (v := 0) hx hb dX2_above_2 (by decide) ?_
  refine lv_lstore_n (lv' := [(3, .long 0), (1, .long 0), (0, .ref qt)]) hx hb dX2_above_3 rfl hl (by decide) rfl (fun ls hl => ?_)
  refine lv_lconst (v := 0) hx hb dX2_above_4 (by decide) ?_
  refine lv_lstore (lv' := [(5, .long 0), (3, .long 0), (1, .long 0), (0, .ref qt)]) hx hb dX2_above_5  hl (by decide) rfl (fun ls hl => ?_)
  refine lv_iconst (v := 0) hx hb dX2_above_7 (by decide) ?_
  refine lv_istore (lv' := [(7, .int 0), (5, .long 0), (3, .long 0), (1, .long 0), (0, .ref qt)]) hx hb dX2_above_8  hl (by decide) rfl (fun ls hl => ?_)
  refine W_loop4 (fun (x1 : Int64) (x3 : Int64) (x5 : Int64) (x7 : Int32) ls H locs => va_P G vwCl [(qt, .inr (2, [.ref qt1, .int zt])), (qt1, .inl (cL, 40, .inr (.inl kp)))] H ∧ va_D A [(qt, .inr (2, [.ref qt1, .int zt])), (qt1, .inl (cL, 40, .inr (.inl kp)))] ∧ va_S A s.heap H locs ∧ lv_has ls 8 [(0, .ref qt), (1, .long x1), (3, .long x3), (5, .long x5), (7, .int x7)] ∧ (0 ≤ x7.toInt ∧ x7.toInt ≤ nt) ∧ (x1.toInt = sI x7.toInt.toNat) ∧ (x3.toInt = sT kp x7.toInt.toNat) ∧ (x5.toInt = sP kp x7.toInt.toNat)) (fun (x1 : Int64) (x3 : Int64) (x5 : Int64) (x7 : Int32) => (nt - x7.toInt).toNat) (fun x1 x3 x5 x7 ls H locs hI ih => ?_) (0 : Int64) (0 : Int64) (0 : Int64) (0 : Int32) ls _ _ ⟨hP, hD, hS, lv_sub hl [4, 3, 2, 1, 0] rfl, (show 0 ≤ (0 : Int32).toInt ∧ (0 : Int32).toInt ≤ nt from by omega), (show (0 : Int64).toInt = sI (0 : Int32).toInt.toNat from rfl), (show (0 : Int64).toInt = sT kp (0 : Int32).toInt.toNat from rfl), (show (0 : Int64).toInt = sP kp (0 : Int32).toInt.toNat from rfl)⟩
  obtain ⟨hP, hD, hS, hl, i1, i2, i3, i4⟩ := hI
  have b1 := sI_b x7.toInt.toNat (by omega)
  have b2 := sT_b (f := kp) x7.toInt.toNat (fun k hk => hrg k (by omega))
  have b3 := sP_b (f := kp) x7.toInt.toNat (by omega) (fun k hk => hrg k (by omega))
  refine lv_iload hx hb dX2_above_10 (lv_at hl 4 rfl) ?_
  refine lv_aload_n hx hb dX2_above_12 rfl (lv_at hl 0 rfl) ?_
  refine va_get (D := G) (ci := 2) (v := .int zt) (C := RX2) (T := TX2) (N := 2) hx hb hts hiX2 hown hK hP 0 rfl rfl 1 (by decide) hf15 (fun _ h9 => h9) rfl dX2_above_13 ?_
  refine lv_icmp_ge (tgt := 57) hx hb dX2_above_16 (by decide) (fun c16 => ?_) (fun c16 => ?_)
  · have k16 : (zt.toInt : Int) ≤ x7.toInt := i_le rfl rfl c16
    refine lv_aload_n hx hb dX2_above_57 rfl (lv_at hl 0 rfl) ?_
    refine va_get (D := G) (ci := 2) (v := .int zt) (C := RX2) (T := TX2) (N := 2) hx hb hts hiX2 hown hK hP 0 rfl rfl 1 (by decide) hf15 (fun _ h9 => h9) rfl dX2_above_58 ?_
    refine lv_i2l hx hb dX2_above_61 rfl ?_
    refine lv_topl (fun x61 ex61 => ?_)
    have tx61 : x61.toInt = zt.toInt := by rw [ex61]; exact tc_i2l rfl
    refine lv_lload hx hb dX2_above_62 (lv_at hl 3 rfl) ?_
    have b64 := mul_bnd (show 0 ≤ zt.toInt ∧ zt.toInt ≤ 40 by omega) (show 0 ≤ x5.toInt ∧ x5.toInt ≤ 1600000000000000 by omega)
    refine lv_lmul hx hb dX2_above_64 ?_
    refine lv_topl (fun x64 ex64 => ?_)
    have tx64 : x64.toInt = zt.toInt * x5.toInt := by rw [ex64]; exact tl_mul tx61 rfl (by omega) (by omega)
    refine lv_lload_n hx hb dX2_above_65 rfl (lv_at hl 1 rfl) ?_
    refine lv_lload_n hx hb dX2_above_66 rfl (lv_at hl 2 rfl) ?_
    have b67 := mul_bnd (show 0 ≤ x1.toInt ∧ x1.toInt ≤ 1600 by omega) (show 0 ≤ x3.toInt ∧ x3.toInt ≤ 40000000000000 by omega)
    refine lv_lmul hx hb dX2_above_67 ?_
    refine lv_topl (fun x67 ex67 => ?_)
    have tx67 : x67.toInt = x1.toInt * x3.toInt := by rw [ex67]; exact tl_mul rfl rfl (by omega) (by omega)
    refine lv_lsub hx hb dX2_above_68 ?_
    refine lv_topl (fun x68 ex68 => ?_)
    have tx68 : x68.toInt = x64.toInt - x67.toInt := by rw [ex68]; exact tl_sub rfl rfl (by omega) (by omega)
    exact W.lret (v := x68) hx hb hr (fun t ht hW => ⟨⟨x68, (), rfl, (by (try dsimp only); exact (by rw [show x7.toInt.toNat = nt by omega] at i2 i3 i4; rw [← i2, ← i3, ← i4, ← hnt]; omega)), by rw [ht]; exact hP, hD⟩, hS.F ht⟩) hS.2.2 dX2_above_69
  · have k16 : (x7.toInt : Int) < zt.toInt := i_nle rfl rfl c16
    refine lv_lload_n hx hb dX2_above_19 rfl (lv_at hl 1 rfl) ?_
    refine lv_iload hx hb dX2_above_20 (lv_at hl 4 rfl) ?_
    refine lv_i2l hx hb dX2_above_22 rfl ?_
    refine lv_topl (fun x22 ex22 => ?_)
    have tx22 : x22.toInt = x7.toInt := by rw [ex22]; exact tc_i2l rfl
    refine lv_ladd hx hb dX2_above_23 ?_
    refine lv_topl (fun x23 ex23 => ?_)
    have tx23 : x23.toInt = x1.toInt + x7.toInt := by rw [ex23]; exact tl_add rfl tx22 (by omega) (by omega)
    refine lv_lstore_n (lv' := [(1, .long x23), (0, .ref qt), (3, .long x3), (5, .long x5), (7, .int x7)]) hx hb dX2_above_24 rfl hl (by decide) rfl (fun ls hl => ?_)
    refine lv_lload_n hx hb dX2_above_25 rfl (lv_at hl 2 rfl) ?_
    refine lv_aload_n hx hb dX2_above_26 rfl (lv_at hl 1 rfl) ?_
    refine va_get (D := G) (ci := 2) (v := .ref qt1) (C := RX2) (T := TX2) (N := 2) hx hb hts hiX2 hown hK hP 0 rfl rfl 0 (by decide) hf9 (fun _ h9 => h9) rfl dX2_above_27 ?_
    refine lv_iload hx hb dX2_above_30 (lv_at hl 4 rfl) ?_
    refine va_lald hx hb hK hP 1 1 rfl rfl (vi_in rfl (by omega) (by omega)) dX2_above_32 ?_
    refine lv_topl (fun x32 ex32 => ?_)
    have ex32 : x32 = kp x7.toInt.toNat := by rw [ex32]; exact congrArg _ (cl_nat rfl (by omega))
    have tx32 : x32.toInt = (kp x7.toInt.toNat).toInt := by rw [ex32]
    have hrg_x32 := hrg x7.toInt.toNat (by omega)
    refine lv_ladd hx hb dX2_above_33 ?_
    refine lv_topl (fun x33 ex33 => ?_)
    have tx33 : x33.toInt = x3.toInt + x32.toInt := by rw [ex33]; exact tl_add rfl rfl (by omega) (by omega)
    refine lv_lstore_n (lv' := [(3, .long x33), (1, .long x23), (0, .ref qt), (5, .long x5), (7, .int x7)]) hx hb dX2_above_34 rfl hl (by decide) rfl (fun ls hl => ?_)
    refine lv_lload hx hb dX2_above_35 (lv_at hl 3 rfl) ?_
    refine lv_aload_n hx hb dX2_above_37 rfl (lv_at hl 2 rfl) ?_
    refine va_get (D := G) (ci := 2) (v := .ref qt1) (C := RX2) (T := TX2) (N := 2) hx hb hts hiX2 hown hK hP 0 rfl rfl 0 (by decide) hf9 (fun _ h9 => h9) rfl dX2_above_38 ?_
    refine lv_iload hx hb dX2_above_41 (lv_at hl 4 rfl) ?_
    refine va_lald hx hb hK hP 1 1 rfl rfl (vi_in rfl (by omega) (by omega)) dX2_above_43 ?_
    refine lv_topl (fun x43 ex43 => ?_)
    have ex43 : x43 = kp x7.toInt.toNat := by rw [ex43]; exact congrArg _ (cl_nat rfl (by omega))
    have tx43 : x43.toInt = (kp x7.toInt.toNat).toInt := by rw [ex43]
    have hrg_x43 := hrg x7.toInt.toNat (by omega)
    refine lv_iload hx hb dX2_above_44 (lv_at hl 4 rfl) ?_
    refine lv_i2l hx hb dX2_above_46 rfl ?_
    refine lv_topl (fun x46 ex46 => ?_)
    have tx46 : x46.toInt = x7.toInt := by rw [ex46]; exact tc_i2l rfl
    have b47 := mul_bnd (show 0 ≤ x43.toInt ∧ x43.toInt ≤ 1000000000000 by omega) (show 0 ≤ x7.toInt ∧ x7.toInt ≤ 40 by omega)
    refine lv_lmul hx hb dX2_above_47 ?_
    refine lv_topl (fun x47 ex47 => ?_)
    have tx47 : x47.toInt = x43.toInt * x7.toInt := by rw [ex47]; exact tl_mul rfl tx46 (by omega) (by omega)
    refine lv_ladd hx hb dX2_above_48 ?_
    refine lv_topl (fun x48 ex48 => ?_)
    have tx48 : x48.toInt = x5.toInt + x47.toInt := by rw [ex48]; exact tl_add rfl rfl (by omega) (by omega)
    refine lv_lstore (lv' := [(5, .long x48), (3, .long x33), (1, .long x23), (0, .ref qt), (7, .int x7)]) hx hb dX2_above_49  hl (by decide) rfl (fun ls hl => ?_)
    obtain ⟨x51, ex51⟩ : ∃ y : Int32, y = x7 + 1 := ⟨_, rfl⟩
    have tx51 : x51.toInt = x7.toInt + 1 := by rw [ex51]; exact ti_add rfl (by decide) (by omega) (by omega)
    refine lv_iinc (v := x51) (lv' := [(7, .int x51), (5, .long x48), (3, .long x33), (1, .long x23), (0, .ref qt)]) hx hb dX2_above_51 hl (k := 4) rfl (by rw [ex51]; rfl) (by decide) rfl (fun ls hl => ?_)
    refine lv_goto (tgt := 10) hx hb dX2_above_54 (by decide) ?_
    exact ih x23 x33 x48 x51 ls _ _ ⟨hP, hD, hS, lv_sub hl [4, 3, 2, 1, 0] rfl, (show 0 ≤ x51.toInt ∧ x51.toInt ≤ nt from by omega), (show x23.toInt = sI x51.toInt.toNat from by rw [show x51.toInt.toNat = x7.toInt.toNat + 1 by omega]; simp only [sI, sT, sP, sQ]; omega), (show x33.toInt = sT kp x51.toInt.toNat from by rw [show x51.toInt.toNat = x7.toInt.toNat + 1 by omega]; simp only [sI, sT, sP, sQ]; omega), (show x48.toInt = sP kp x51.toInt.toNat from by rw [show x51.toInt.toNat = x7.toInt.toNat + 1 by omega]; simp only [sP]; rw [show ((x7.toInt.toNat : Nat) : Int) = x7.toInt by omega, ← tx43]; omega)⟩ (show (nt - x51.toInt).toNat < (nt - x7.toInt).toNat from by omega)
set_option maxHeartbeats 4000000 in
set_option maxRecDepth 100000 in
theorem ct_X2_below (l : Launch) (G : va_G) (cI cL : ClassId) (sz : Nat) (qt : Nat) (qt1 : Nat) (zt : Int32) (kp : Nat → Int64) (nt : Nat) (hnt : zt.toInt = nt) (hOt : okT nt kp) : Met l yX2_below wsX2_below ({ frames := 0, cells := 0, slots := 0, locals := 0 }) (va_Pc [.ref qt] (pre0 G cI cL [(qt, .inr (2, [.ref qt1, .int zt])), (qt1, .inl (cL, 40, .inr (.inl kp)))] sz)) (va_Ql (fun (r : Int64) (u : Unit) => r.toInt = nt * sQ nt - sI nt * sI nt) (fun (u : Unit) t => va_P G vwCl [(qt, .inr (2, [.ref qt1, .int zt])), (qt1, .inl (cL, 40, .inr (.inl kp)))] t.heap ∧ va_D (va_A [(qt, .inr (2, [.ref qt1, .int zt])), (qt1, .inl (cL, 40, .inr (.inl kp)))] sz) [(qt, .inr (2, [.ref qt1, .int zt])), (qt1, .inl (cL, 40, .inr (.inl kp)))]) (va_A [(qt, .inr (2, [.ref qt1, .int zt])), (qt1, .inl (cL, 40, .inr (.inl kp)))] sz)) 0 0 (va_A [(qt, .inr (2, [.ref qt1, .int zt])), (qt1, .inl (cL, 40, .inr (.inl kp)))] sz) := by
  refine Met.ofW (cc := cX2_below) (maxL := 6) (ret := (some .long)) (by decide) rfl ?_
  intro p e s m args below meth c s₁ B hml hv
  obtain ⟨rfl, hsz, hP, hK, hD0, hN⟩ := hv
  have hx := B.exec
  have hb := B.bytes
  have hr := B.returns
  have hts := atoms_spec (ws := wsX2_below) B.pre
  have hown : s.vm.findClass RX2 = some m.cls := findClass_of_methodNamed B.named
  have hlocks := B.notSynchronized
  subst hsz
  have hD := hD0.self (sz := s.heap.size)
  generalize hAe : va_A [(qt, .inr (2, [.ref qt1, .int zt])), (qt1, .inl (cL, 40, .inr (.inl kp)))] s.heap.size = A at hD ⊢
  have hA : ∀ q : Nat, s.heap.size ≤ q → A q := fun q h => by rw [← hAe]; exact Or.inr h
  have hP : va_P G vwCl [(qt, .inr (2, [.ref qt1, .int zt])), (qt1, .inl (cL, 40, .inr (.inl kp)))] s.heap := hP
  have hl := lv_entry ([.ref qt]) (n := 6) (Nat.le_of_ble_eq_true rfl)
  rw [lg_entry_eq]
  generalize (lg_sl ([.ref qt]) ++ List.replicate (6 - (lg_sl ([.ref qt])).length) Slot.unset).toArray = ls at hl ⊢
  have hl : lv_has ls 6 [(0, .ref qt)] := hl
  have hf15 := hts (.fieldLink RX2 15 "TempoMaps$Taps" "size" "I") (by decide +kernel)
  have hiX2 : ∀ w ∈ wsX20, w ∈ wsX2_below := by decide +kernel
  have zi0 : ((0 : Int32)).toInt = 0 := by decide
  have zi1 : ((1 : Int32)).toInt = 1 := by decide
  have zl0 : ((0 : Int64)).toInt = 0 := by decide
  refine w_h (A := A) hP (fun H locs hP hS => ?_)
  have hn40 := hOt.1
  have hrg := hOt.2.1
  refine lv_lconst (v := 0) hx hb dX2_below_0 (by decide) ?_
  refine lv_lstore_n (lv' := [(1, .long 0), (0, .ref qt)]) hx hb dX2_below_1 rfl hl (by decide) rfl (fun ls hl => ?_)
  refine lv_lconst (v := 0) hx hb dX2_below_2 (by decide) ?_
  refine lv_lstore_n (lv' := [(3, .long 0), (1, .long 0), (0, .ref qt)]) hx hb dX2_below_3 rfl hl (by decide) rfl (fun ls hl => ?_)
  refine lv_iconst (v := 0) hx hb dX2_below_4 (by decide) ?_
  refine lv_istore (lv' := [(5, .int 0), (3, .long 0), (1, .long 0), (0, .ref qt)]) hx hb dX2_below_5  hl (by decide) rfl (fun ls hl => ?_)
  refine W_loop3 (fun (x1 : Int64) (x3 : Int64) (x5 : Int32) ls H locs => va_P G vwCl [(qt, .inr (2, [.ref qt1, .int zt])), (qt1, .inl (cL, 40, .inr (.inl kp)))] H ∧ va_D A [(qt, .inr (2, [.ref qt1, .int zt])), (qt1, .inl (cL, 40, .inr (.inl kp)))] ∧ va_S A s.heap H locs ∧ lv_has ls 6 [(0, .ref qt), (1, .long x1), (3, .long x3), (5, .int x5)] ∧ (0 ≤ x5.toInt ∧ x5.toInt ≤ nt) ∧ (x1.toInt = sI x5.toInt.toNat) ∧ (x3.toInt = sQ x5.toInt.toNat)) (fun (x1 : Int64) (x3 : Int64) (x5 : Int32) => (nt - x5.toInt).toNat) (fun x1 x3 x5 ls H locs hI ih => ?_) (0 : Int64) (0 : Int64) (0 : Int32) ls _ _ ⟨hP, hD, hS, lv_sub hl [3, 2, 1, 0] rfl, (show 0 ≤ (0 : Int32).toInt ∧ (0 : Int32).toInt ≤ nt from by omega), (show (0 : Int64).toInt = sI (0 : Int32).toInt.toNat from rfl), (show (0 : Int64).toInt = sQ (0 : Int32).toInt.toNat from rfl)⟩
  obtain ⟨hP, hD, hS, hl, i1, i2, i4⟩ := hI
  have b1 := sI_b x5.toInt.toNat (by omega)
  have b3 := sQ_b x5.toInt.toNat (by omega)
  refine lv_iload hx hb dX2_below_7 (lv_at hl 3 rfl) ?_
  refine lv_aload_n hx hb dX2_below_9 rfl (lv_at hl 0 rfl) ?_
  refine va_get (D := G) (ci := 2) (v := .int zt) (C := RX2) (T := TX2) (N := 2) hx hb hts hiX2 hown hK hP 0 rfl rfl 1 (by decide) hf15 (fun _ h9 => h9) rfl dX2_below_10 ?_
  refine lv_icmp_ge (tgt := 38) hx hb dX2_below_13 (by decide) (fun c13 => ?_) (fun c13 => ?_)
  · have k13 : (zt.toInt : Int) ≤ x5.toInt := i_le rfl rfl c13
    refine lv_aload_n hx hb dX2_below_38 rfl (lv_at hl 0 rfl) ?_
    refine va_get (D := G) (ci := 2) (v := .int zt) (C := RX2) (T := TX2) (N := 2) hx hb hts hiX2 hown hK hP 0 rfl rfl 1 (by decide) hf15 (fun _ h9 => h9) rfl dX2_below_39 ?_
    refine lv_i2l hx hb dX2_below_42 rfl ?_
    refine lv_topl (fun x42 ex42 => ?_)
    have tx42 : x42.toInt = zt.toInt := by rw [ex42]; exact tc_i2l rfl
    refine lv_lload_n hx hb dX2_below_43 rfl (lv_at hl 2 rfl) ?_
    have b44 := mul_bnd (show 0 ≤ zt.toInt ∧ zt.toInt ≤ 40 by omega) (show 0 ≤ x3.toInt ∧ x3.toInt ≤ 64000 by omega)
    refine lv_lmul hx hb dX2_below_44 ?_
    refine lv_topl (fun x44 ex44 => ?_)
    have tx44 : x44.toInt = zt.toInt * x3.toInt := by rw [ex44]; exact tl_mul tx42 rfl (by omega) (by omega)
    refine lv_lload_n hx hb dX2_below_45 rfl (lv_at hl 1 rfl) ?_
    refine lv_lload_n hx hb dX2_below_46 rfl (lv_at hl 1 rfl) ?_
    have b47 := mul_bnd (show 0 ≤ x1.toInt ∧ x1.toInt ≤ 1600 by omega) (show 0 ≤ x1.toInt ∧ x1.toInt ≤ 1600 by omega)
    refine lv_lmul hx hb dX2_below_47 ?_
    refine lv_topl (fun x47 ex47 => ?_)
    have tx47 : x47.toInt = x1.toInt * x1.toInt := by rw [ex47]; exact tl_mul rfl rfl (by omega) (by omega)
    refine lv_lsub hx hb dX2_below_48 ?_
    refine lv_topl (fun x48 ex48 => ?_)
    have tx48 : x48.toInt = x44.toInt - x47.toInt := by rw [ex48]; exact tl_sub rfl rfl (by omega) (by omega)
    exact W.lret (v := x48) hx hb hr (fun t ht hW => ⟨⟨x48, (), rfl, (by (try dsimp only); exact (by rw [show x5.toInt.toNat = nt by omega] at i2 i4; rw [← i2, ← i4, ← hnt]; omega)), by rw [ht]; exact hP, hD⟩, hS.F ht⟩) hS.2.2 dX2_below_49
  · have k13 : (x5.toInt : Int) < zt.toInt := i_nle rfl rfl c13
    refine lv_lload_n hx hb dX2_below_16 rfl (lv_at hl 1 rfl) ?_
    refine lv_iload hx hb dX2_below_17 (lv_at hl 3 rfl) ?_
    refine lv_i2l hx hb dX2_below_19 rfl ?_
    refine lv_topl (fun x19 ex19 => ?_)
    have tx19 : x19.toInt = x5.toInt := by rw [ex19]; exact tc_i2l rfl
    refine lv_ladd hx hb dX2_below_20 ?_
    refine lv_topl (fun x20 ex20 => ?_)
    have tx20 : x20.toInt = x1.toInt + x5.toInt := by rw [ex20]; exact tl_add rfl tx19 (by omega) (by omega)
    refine lv_lstore_n (lv' := [(1, .long x20), (0, .ref qt), (3, .long x3), (5, .int x5)]) hx hb dX2_below_21 rfl hl (by decide) rfl (fun ls hl => ?_)
    refine lv_lload_n hx hb dX2_below_22 rfl (lv_at hl 2 rfl) ?_
    refine lv_iload hx hb dX2_below_23 (lv_at hl 3 rfl) ?_
    refine lv_i2l hx hb dX2_below_25 rfl ?_
    refine lv_topl (fun x25 ex25 => ?_)
    have tx25 : x25.toInt = x5.toInt := by rw [ex25]; exact tc_i2l rfl
    refine lv_iload hx hb dX2_below_26 (lv_at hl 3 rfl) ?_
    refine lv_i2l hx hb dX2_below_28 rfl ?_
    refine lv_topl (fun x28 ex28 => ?_)
    have tx28 : x28.toInt = x5.toInt := by rw [ex28]; exact tc_i2l rfl
    have b29 := mul_bnd (show 0 ≤ x5.toInt ∧ x5.toInt ≤ 40 by omega) (show 0 ≤ x5.toInt ∧ x5.toInt ≤ 40 by omega)
    refine lv_lmul hx hb dX2_below_29 ?_
    refine lv_topl (fun x29 ex29 => ?_)
    have tx29 : x29.toInt = x5.toInt * x5.toInt := by rw [ex29]; exact tl_mul tx25 tx28 (by omega) (by omega)
    refine lv_ladd hx hb dX2_below_30 ?_
    refine lv_topl (fun x30 ex30 => ?_)
    have tx30 : x30.toInt = x3.toInt + x29.toInt := by rw [ex30]; exact tl_add rfl rfl (by omega) (by omega)
    refine lv_lstore_n (lv' := [(3, .long x30), (1, .long x20), (0, .ref qt), (5, .int x5)]) hx hb dX2_below_31 rfl hl (by decide) rfl (fun ls hl => ?_)
    obtain ⟨x32, ex32⟩ : ∃ y : Int32, y = x5 + 1 := ⟨_, rfl⟩
    have tx32 : x32.toInt = x5.toInt + 1 := by rw [ex32]; exact ti_add rfl (by decide) (by omega) (by omega)
    refine lv_iinc (v := x32) (lv' := [(5, .int x32), (3, .long x30), (1, .long x20), (0, .ref qt)]) hx hb dX2_below_32 hl (k := 3) rfl (by rw [ex32]; rfl) (by decide) rfl (fun ls hl => ?_)
    refine lv_goto (tgt := 7) hx hb dX2_below_35 (by decide) ?_
    exact ih x20 x30 x32 ls _ _ ⟨hP, hD, hS, lv_sub hl [3, 2, 1, 0] rfl, (show 0 ≤ x32.toInt ∧ x32.toInt ≤ nt from by omega), (show x20.toInt = sI x32.toInt.toNat from by rw [show x32.toInt.toNat = x5.toInt.toNat + 1 by omega]; simp only [sI, sT, sP, sQ]; omega), (show x30.toInt = sQ x32.toInt.toNat from by rw [show x32.toInt.toNat = x5.toInt.toNat + 1 by omega]; simp only [sQ]; rw [show ((x5.toInt.toNat : Nat) : Int) = x5.toInt by omega]; omega)⟩ (show (nt - x32.toInt).toNat < (nt - x5.toInt).toNat from by omega)
end
section
set_option maxHeartbeats 4000000 in
set_option maxRecDepth 100000 in
theorem ct_X3_sumOfQuotients (l : Launch) (G : va_G) (cI cL : ClassId) (sz : Nat) (p0 : Int32) (p1 : Int32) (p2 : Int32) (hp0 : 0 ≤ p0.toInt ∧ p0.toInt ≤ p2.toInt) (hp2 : p2.toInt ≤ 2000) (hp1 : -1000000 ≤ p1.toInt ∧ p1.toInt ≤ 1000000) : Met l yX3_sumOfQuotients wsX3_sumOfQuotients ({ frames := 1, cells := 0, slots := 0, locals := 25 }) (va_Pc [.int p0, .int p1, .int p2] (pre0 G cI cL ([] : va_W) sz)) (va_Ql (fun (r : Int64) (u : Unit) => r.toInt = fs p1.toInt 0 p2.toInt p0.toInt.toNat) (fun (u : Unit) t => va_P G vwCl ([] : va_W) t.heap ∧ va_D (va_A ([] : va_W) sz) ([] : va_W)) (va_A ([] : va_W) sz)) 0 0 (va_A ([] : va_W) sz) := by
  refine Met.ofW (cc := cX3_sumOfQuotients) (maxL := 18) (ret := (some .long)) (by decide) rfl ?_
  intro p e s m args below meth c s₁ B hml hv
  obtain ⟨rfl, hsz, hP, hK, hD0, hN⟩ := hv
  have hx := B.exec
  have hb := B.bytes
  have hr := B.returns
  have hts := atoms_spec (ws := wsX3_sumOfQuotients) B.pre
  have hown : s.vm.findClass RX3 = some m.cls := findClass_of_methodNamed B.named
  have hlocks := B.notSynchronized
  subst hsz
  have hD := hD0.self (sz := s.heap.size)
  generalize hAe : va_A ([] : va_W) s.heap.size = A at hD ⊢
  have hA : ∀ q : Nat, s.heap.size ≤ q → A q := fun q h => by rw [← hAe]; exact Or.inr h
  have hP : va_P G vwCl ([] : va_W) s.heap := hP
  have hl := lv_entry ([.int p0, .int p1, .int p2]) (n := 18) (Nat.le_of_ble_eq_true rfl)
  rw [lg_entry_eq]
  generalize (lg_sl ([.int p0, .int p1, .int p2]) ++ List.replicate (18 - (lg_sl ([.int p0, .int p1, .int p2])).length) Slot.unset).toArray = ls at hl ⊢
  have hl : lv_has ls 18 [(0, .int p0), (1, .int p1), (2, .int p2)] := hl
  have zi0 : ((0 : Int32)).toInt = 0 := by decide
  have zi1 : ((1 : Int32)).toInt = 1 := by decide
  have zi200 : ((200 : Int32)).toInt = 200 := by decide
  have zl0 : ((0 : Int64)).toInt = 0 := by decide
  have zl1 : ((1 : Int64)).toInt = 1 := by decide
  have zl2 : ((2 : Int64)).toInt = 2 := by decide
  refine w_h (A := A) hP (fun H locs hP hS => ?_)
  refine lv_iload_n hx hb dX3_sumOfQuotients_0 rfl (lv_at hl 0 rfl) ?_
  refine lv_i2l hx hb dX3_sumOfQuotients_1 rfl ?_
  refine lv_topl (fun x1 ex1 => ?_)
  have tx1 : x1.toInt = p0.toInt := by rw [ex1]; exact tc_i2l rfl
  refine lv_lstore_n (lv' := [(3, .long x1), (0, .int p0), (1, .int p1), (2, .int p2)]) hx hb dX3_sumOfQuotients_2 rfl hl (by decide) rfl (fun ls hl => ?_)
  refine lv_iload_n hx hb dX3_sumOfQuotients_3 rfl (lv_at hl 2 rfl) ?_
  refine lv_i2l hx hb dX3_sumOfQuotients_4 rfl ?_
  refine lv_topl (fun x4 ex4 => ?_)
  have tx4 : x4.toInt = p1.toInt := by rw [ex4]; exact tc_i2l rfl
  refine lv_lstore (lv' := [(5, .long x4), (3, .long x1), (0, .int p0), (1, .int p1), (2, .int p2)]) hx hb dX3_sumOfQuotients_5  hl (by decide) rfl (fun ls hl => ?_)
  refine lv_iload_n hx hb dX3_sumOfQuotients_7 rfl (lv_at hl 4 rfl) ?_
  refine lv_i2l hx hb dX3_sumOfQuotients_8 rfl ?_
  refine lv_topl (fun x8 ex8 => ?_)
  have tx8 : x8.toInt = p2.toInt := by rw [ex8]; exact tc_i2l rfl
  refine lv_lstore (lv' := [(7, .long x8), (5, .long x4), (3, .long x1), (0, .int p0), (1, .int p1), (2, .int p2)]) hx hb dX3_sumOfQuotients_9  hl (by decide) rfl (fun ls hl => ?_)
  refine lv_lconst (v := 0) hx hb dX3_sumOfQuotients_11 (by decide) ?_
  refine lv_lstore (lv' := [(9, .long 0), (7, .long x8), (5, .long x4), (3, .long x1), (0, .int p0), (1, .int p1), (2, .int p2)]) hx hb dX3_sumOfQuotients_12  hl (by decide) rfl (fun ls hl => ?_)
  refine lv_lconst (v := 0) hx hb dX3_sumOfQuotients_14 (by decide) ?_
  refine lv_lstore (lv' := [(11, .long 0), (9, .long 0), (7, .long x8), (5, .long x4), (3, .long x1), (0, .int p0), (1, .int p1), (2, .int p2)]) hx hb dX3_sumOfQuotients_15  hl (by decide) rfl (fun ls hl => ?_)
  refine lv_iconst (v := 0) hx hb dX3_sumOfQuotients_17 (by decide) ?_
  refine lv_istore (lv' := [(13, .int 0), (11, .long 0), (9, .long 0), (7, .long x8), (5, .long x4), (3, .long x1), (0, .int p0), (1, .int p1), (2, .int p2)]) hx hb dX3_sumOfQuotients_18  hl (by decide) rfl (fun ls hl => ?_)
  refine W_loop6 (fun (x3 : Int64) (x5 : Int64) (x7 : Int64) (x9 : Int64) (x11 : Int64) (x13 : Int32) ls H locs => va_P G vwCl ([] : va_W) H ∧ va_D A ([] : va_W) ∧ va_S A s.heap H locs ∧ lv_has ls 18 [(0, .int p0), (1, .int p1), (2, .int p2), (3, .long x3), (5, .long x5), (7, .long x7), (9, .long x9), (11, .long x11), (13, .int x13)] ∧ (0 ≤ x13.toInt ∧ x13.toInt ≤ 200) ∧ (0 ≤ x3.toInt ∧ x3.toInt ≤ 2000) ∧ (-1000000 ≤ x5.toInt ∧ x5.toInt ≤ 1000000) ∧ (0 ≤ x7.toInt ∧ x7.toInt ≤ 2000) ∧ (0 ≤ x9.toInt ∧ x9.toInt ≤ 2000) ∧ (x7.toInt = 0 → x3.toInt = 0) ∧ (-(5000000000000 * x13.toInt) ≤ x11.toInt ∧ x11.toInt ≤ 5000000000000 * x13.toInt) ∧ (x13.toInt.toNat = 0 ∨ (x7.toInt < x5.toInt ∧ x7.toInt * x5.toInt * 2 ^ (x13.toInt.toNat - 1) ≤ 2 ^ 180)) ∧ (x11.toInt + fs x5.toInt x9.toInt x7.toInt x3.toInt.toNat = fs p1.toInt 0 p2.toInt p0.toInt.toNat)) (fun (x3 : Int64) (x5 : Int64) (x7 : Int64) (x9 : Int64) (x11 : Int64) (x13 : Int32) => (200 - x13.toInt).toNat) (fun x3 x5 x7 x9 x11 x13 ls H locs hI ih => ?_) x1 x4 x8 (0 : Int64) (0 : Int64) (0 : Int32) ls _ _ ⟨hP, hD, hS, lv_sub hl [6, 7, 8, 5, 4, 3, 2, 1, 0] rfl, (show 0 ≤ (0 : Int32).toInt ∧ (0 : Int32).toInt ≤ 200 from by omega), (show 0 ≤ x1.toInt ∧ x1.toInt ≤ 2000 from by omega), (show -1000000 ≤ x4.toInt ∧ x4.toInt ≤ 1000000 from by omega), (show 0 ≤ x8.toInt ∧ x8.toInt ≤ 2000 from by omega), (show 0 ≤ (0 : Int64).toInt ∧ (0 : Int64).toInt ≤ 2000 from by omega), (show x8.toInt = 0 → x1.toInt = 0 from by omega), (show -(5000000000000 * (0 : Int32).toInt) ≤ (0 : Int64).toInt ∧ (0 : Int64).toInt ≤ 5000000000000 * (0 : Int32).toInt from by omega), (show (0 : Int32).toInt.toNat = 0 ∨ (x8.toInt < x4.toInt ∧ x8.toInt * x4.toInt * 2 ^ ((0 : Int32).toInt.toNat - 1) ≤ 2 ^ 180) from Or.inl (by omega)), (show (0 : Int64).toInt + fs x4.toInt (0 : Int64).toInt x8.toInt x1.toInt.toNat = fs p1.toInt 0 p2.toInt p0.toInt.toNat from by rw [zl0, Int.zero_add, tx8, tx4, tx1])⟩
  obtain ⟨hP, hD, hS, hl, i1, i2, i3, i4, i5, i6, i7, i8, i9⟩ := hI
  refine lv_iload hx hb dX3_sumOfQuotients_20 (lv_at hl 8 rfl) ?_
  refine lv_sipush (v := 200) hx hb dX3_sumOfQuotients_22 (by decide) ?_
  refine lv_icmp_ge (tgt := 135) hx hb dX3_sumOfQuotients_25 (by decide) (fun c25 => ?_) (fun c25 => ?_)
  · have k25 : (200 : Int) ≤ x13.toInt := i_le (show ((200 : Int32)).toInt = 200 by decide) rfl c25
    have fr : fs x5.toInt x9.toInt x7.toInt x3.toInt.toNat = 0 := by rw [i6 (eu_end i8 (by omega) i4.1)]; rfl
    refine lv_lload hx hb dX3_sumOfQuotients_135 (lv_at hl 7 rfl) ?_
    exact W.lret (v := x11) hx hb hr (fun t ht hW => ⟨⟨x11, (), rfl, (by (try dsimp only); exact (by rw [← i9, fr]; omega)), by rw [ht]; exact hP, hD⟩, hS.F ht⟩) hS.2.2 dX3_sumOfQuotients_137
  · have k25 : (x13.toInt : Int) < 200 := i_nle (show ((200 : Int32)).toInt = 200 by decide) rfl c25
    refine lv_lload hx hb dX3_sumOfQuotients_28 (lv_at hl 5 rfl) ?_
    refine lv_lconst (v := 0) hx hb dX3_sumOfQuotients_30 (by decide) ?_
    refine W.lcmp hx hb dX3_sumOfQuotients_31 ?_
    refine lv_if_le (tgt := 135) hx hb dX3_sumOfQuotients_32 (by decide) (fun c32 => ?_) (fun c32 => ?_)
    · have k32 : (x7.toInt : Int) ≤ 0 := l_le rfl (show ((0 : Int64)).toInt = 0 by decide) ((lg_cmp_le _ _).mp c32)
      have fr : fs x5.toInt x9.toInt x7.toInt x3.toInt.toNat = 0 := by rw [i6 (by omega)]; rfl
      refine lv_lload hx hb dX3_sumOfQuotients_135 (lv_at hl 7 rfl) ?_
      exact W.lret (v := x11) hx hb hr (fun t ht hW => ⟨⟨x11, (), rfl, (by (try dsimp only); exact (by rw [← i9, fr]; omega)), by rw [ht]; exact hP, hD⟩, hS.F ht⟩) hS.2.2 dX3_sumOfQuotients_137
    · have k32 : (0 : Int) < x7.toInt := l_nle rfl (show ((0 : Int64)).toInt = 0 by decide) (fun h9 => c32 ((lg_cmp_le _ _).mpr h9))
      refine lv_lload_n hx hb dX3_sumOfQuotients_35 rfl (lv_at hl 3 rfl) ?_
      refine lv_lconst (v := 0) hx hb dX3_sumOfQuotients_36 (by decide) ?_
      refine W.lcmp hx hb dX3_sumOfQuotients_37 ?_
      refine lv_if_le (tgt := 135) hx hb dX3_sumOfQuotients_38 (by decide) (fun c38 => ?_) (fun c38 => ?_)
      · have k38 : (x3.toInt : Int) ≤ 0 := l_le rfl (show ((0 : Int64)).toInt = 0 by decide) ((lg_cmp_le _ _).mp c38)
        have fr : fs x5.toInt x9.toInt x7.toInt x3.toInt.toNat = 0 := by rw [show x3.toInt.toNat = 0 by omega]; rfl
        refine lv_lload hx hb dX3_sumOfQuotients_135 (lv_at hl 7 rfl) ?_
        exact W.lret (v := x11) hx hb hr (fun t ht hW => ⟨⟨x11, (), rfl, (by (try dsimp only); exact (by rw [← i9, fr]; omega)), by rw [ht]; exact hP, hD⟩, hS.F ht⟩) hS.2.2 dX3_sumOfQuotients_137
      · have k38 : (0 : Int) < x3.toInt := l_nle rfl (show ((0 : Int64)).toInt = 0 by decide) (fun h9 => c38 ((lg_cmp_le _ _).mpr h9))
        refine lv_lload hx hb dX3_sumOfQuotients_41 (lv_at hl 7 rfl) ?_
        refine lv_lload_n hx hb dX3_sumOfQuotients_43 rfl (lv_at hl 3 rfl) ?_
        refine lv_lload_n hx hb dX3_sumOfQuotients_44 rfl (lv_at hl 3 rfl) ?_
        refine lv_lconst (v := 1) hx hb dX3_sumOfQuotients_45 (by decide) ?_
        refine lv_lsub hx hb dX3_sumOfQuotients_46 ?_
        refine lv_topl (fun x46 ex46 => ?_)
        have tx46 : x46.toInt = x3.toInt - 1 := by rw [ex46]; exact tl_sub rfl (show ((1 : Int64)).toInt = 1 by decide) (by omega) (by omega)
        have b47 := mul_bnd (show 0 ≤ x3.toInt ∧ x3.toInt ≤ 2000 by omega) (show 0 ≤ x46.toInt ∧ x46.toInt ≤ 2000 by omega)
        refine lv_lmul hx hb dX3_sumOfQuotients_47 ?_
        refine lv_topl (fun x47 ex47 => ?_)
        have tx47 : x47.toInt = x3.toInt * x46.toInt := by rw [ex47]; exact tl_mul rfl rfl (by omega) (by omega)
        refine lv_ldc2 (v := 2) hx hb hown (hts (.constantLong RX3 115 2) (by decide +kernel)) dX3_sumOfQuotients_48 ?_
        refine lv_ldiv hx hb dX3_sumOfQuotients_51 (l_ne0 (show ((2 : Int64)).toInt = 2 by decide) (by omega)) ?_
        refine lv_topl (fun x51 ex51 => ?_)
        have tx51 : x51.toInt = x47.toInt / 2 := by rw [ex51]; exact tl_div rfl (show ((2 : Int64)).toInt = 2 by decide) (by omega) (by omega)
        refine lv_lload hx hb dX3_sumOfQuotients_52 (lv_at hl 4 rfl) ?_
        refine lv_lload hx hb dX3_sumOfQuotients_54 (lv_at hl 5 rfl) ?_
        have hPc := hP.sub (ws' := ([] : va_W)) [] rfl
        have hDc := hD.sub (ws' := ([] : va_W)) [] (by decide) rfl
        have hcc := (ct_J9_floorDiv_f86c9 l G cI cL H.size x5 x7 (by omega) (by omega))
        refine ro_calll (va_runS (As := [.long x5, .long x7]) (rest := [.long x51, .long x11]) ⟨hx, hb, hml, hown, hts⟩ hcc (va_cwS 2 hts gX3_sumOfQuotients_J9_floorDiv_f86c9 rfl rfl rfl (by decide +kernel) ⟨Nat.le_of_ble_eq_true rfl, Nat.le_of_ble_eq_true rfl⟩) ⟨pre_blind, pre_pass hK hN hPc hDc⟩ rfl rfl hl.1 rfl (lv_room (Nat.le_of_ble_eq_true rfl)) dX3_sumOfQuotients_56 ⟨Nat.le_of_ble_eq_true rfl, Nat.le_of_ble_eq_true rfl⟩) hP hD hS hA [] rfl (fun r56 H locs hw56 hP hS => ?_)
        try dsimp only at hw56
        have b58 := div_abs (a := x5.toInt) (b := x7.toInt) (A := 1000000) (by omega) (by omega)
        have b59a := mul_abs (show -1000000 ≤ r56.toInt ∧ r56.toInt ≤ 1000000 by omega) (show 0 ≤ x51.toInt ∧ x51.toInt ≤ 4000000 by omega)
        have b59c : r56.toInt * x51.toInt = x51.toInt * r56.toInt := Int.mul_comm _ _
        refine lv_lmul hx hb dX3_sumOfQuotients_59 ?_
        refine lv_topl (fun x59 ex59 => ?_)
        have tx59 : x59.toInt = x51.toInt * r56.toInt := by rw [ex59]; exact tl_mul rfl rfl (by omega) (by omega)
        refine lv_ladd hx hb dX3_sumOfQuotients_60 ?_
        refine lv_topl (fun x60 ex60 => ?_)
        have tx60 : x60.toInt = x11.toInt + x59.toInt := by rw [ex60]; exact tl_add rfl rfl (by omega) (by omega)
        refine lv_lstore (lv' := [(11, .long x60), (0, .int p0), (1, .int p1), (2, .int p2), (3, .long x3), (5, .long x5), (7, .long x7), (9, .long x9), (13, .int x13)]) hx hb dX3_sumOfQuotients_61  hl (by decide) rfl (fun ls hl => ?_)
        refine lv_lload hx hb dX3_sumOfQuotients_63 (lv_at hl 0 rfl) ?_
        refine lv_lload_n hx hb dX3_sumOfQuotients_65 rfl (lv_at hl 4 rfl) ?_
        refine lv_lload hx hb dX3_sumOfQuotients_66 (lv_at hl 7 rfl) ?_
        refine lv_lload hx hb dX3_sumOfQuotients_68 (lv_at hl 6 rfl) ?_
        have hPc := hP.sub (ws' := ([] : va_W)) [] rfl
        have hDc := hD.sub (ws' := ([] : va_W)) [] (by decide) rfl
        have hcc := (ct_J9_floorDiv_f86c9 l G cI cL H.size x9 x7 (by omega) (by omega))
        refine ro_calll (va_runS (As := [.long x9, .long x7]) (rest := [.long x3, .long x60]) ⟨hx, hb, hml, hown, hts⟩ hcc (va_cwS 2 hts gX3_sumOfQuotients_J9_floorDiv_f86c9 rfl rfl rfl (by decide +kernel) ⟨Nat.le_of_ble_eq_true rfl, Nat.le_of_ble_eq_true rfl⟩) ⟨pre_blind, pre_pass hK hN hPc hDc⟩ rfl rfl hl.1 rfl (lv_room (Nat.le_of_ble_eq_true rfl)) dX3_sumOfQuotients_70 ⟨Nat.le_of_ble_eq_true rfl, Nat.le_of_ble_eq_true rfl⟩) hP hD hS hA [] rfl (fun r70 H locs hw70 hP hS => ?_)
        try dsimp only at hw70
        have b72 := div_abs (a := x9.toInt) (b := x7.toInt) (A := 2000) (by omega) (by omega)
        have b72p : 0 ≤ x9.toInt / x7.toInt := Int.ediv_nonneg (by omega) (by omega)
        have b73 := mul_bnd (show 0 ≤ x3.toInt ∧ x3.toInt ≤ 2000 by omega) (show 0 ≤ r70.toInt ∧ r70.toInt ≤ 2000 by omega)
        refine lv_lmul hx hb dX3_sumOfQuotients_73 ?_
        refine lv_topl (fun x73 ex73 => ?_)
        have tx73 : x73.toInt = x3.toInt * r70.toInt := by rw [ex73]; exact tl_mul rfl rfl (by omega) (by omega)
        refine lv_ladd hx hb dX3_sumOfQuotients_74 ?_
        refine lv_topl (fun x74 ex74 => ?_)
        have tx74 : x74.toInt = x60.toInt + x73.toInt := by rw [ex74]; exact tl_add rfl rfl (by omega) (by omega)
        refine lv_lstore (lv' := [(11, .long x74), (0, .int p0), (1, .int p1), (2, .int p2), (3, .long x3), (5, .long x5), (7, .long x7), (9, .long x9), (13, .int x13)]) hx hb dX3_sumOfQuotients_75  hl (by decide) rfl (fun ls hl => ?_)
        refine lv_lload hx hb dX3_sumOfQuotients_77 (lv_at hl 5 rfl) ?_
        refine lv_lload hx hb dX3_sumOfQuotients_79 (lv_at hl 6 rfl) ?_
        have hPc := hP.sub (ws' := ([] : va_W)) [] rfl
        have hDc := hD.sub (ws' := ([] : va_W)) [] (by decide) rfl
        have hcc := (ct_J9_floorMod_f86c9 l G cI cL H.size x5 x7 (by omega) (by omega))
        refine ro_calll (va_runS (As := [.long x5, .long x7]) (rest := []) ⟨hx, hb, hml, hown, hts⟩ hcc (va_cwS 2 hts gX3_sumOfQuotients_J9_floorMod_f86c9 rfl rfl rfl (by decide +kernel) ⟨Nat.le_of_ble_eq_true rfl, Nat.le_of_ble_eq_true rfl⟩) ⟨pre_blind, pre_pass hK hN hPc hDc⟩ rfl rfl hl.1 rfl (lv_room (Nat.le_of_ble_eq_true rfl)) dX3_sumOfQuotients_81 ⟨Nat.le_of_ble_eq_true rfl, Nat.le_of_ble_eq_true rfl⟩) hP hD hS hA [] rfl (fun r81 H locs hw81 hP hS => ?_)
        try dsimp only at hw81
        refine lv_lstore (lv' := [(5, .long r81), (11, .long x74), (0, .int p0), (1, .int p1), (2, .int p2), (3, .long x3), (7, .long x7), (9, .long x9), (13, .int x13)]) hx hb dX3_sumOfQuotients_84  hl (by decide) rfl (fun ls hl => ?_)
        refine lv_lload hx hb dX3_sumOfQuotients_86 (lv_at hl 7 rfl) ?_
        refine lv_lload hx hb dX3_sumOfQuotients_88 (lv_at hl 6 rfl) ?_
        have hPc := hP.sub (ws' := ([] : va_W)) [] rfl
        have hDc := hD.sub (ws' := ([] : va_W)) [] (by decide) rfl
        have hcc := (ct_J9_floorMod_f86c9 l G cI cL H.size x9 x7 (by omega) (by omega))
        refine ro_calll (va_runS (As := [.long x9, .long x7]) (rest := []) ⟨hx, hb, hml, hown, hts⟩ hcc (va_cwS 2 hts gX3_sumOfQuotients_J9_floorMod_f86c9 rfl rfl rfl (by decide +kernel) ⟨Nat.le_of_ble_eq_true rfl, Nat.le_of_ble_eq_true rfl⟩) ⟨pre_blind, pre_pass hK hN hPc hDc⟩ rfl rfl hl.1 rfl (lv_room (Nat.le_of_ble_eq_true rfl)) dX3_sumOfQuotients_90 ⟨Nat.le_of_ble_eq_true rfl, Nat.le_of_ble_eq_true rfl⟩) hP hD hS hA [] rfl (fun r90 H locs hw90 hP hS => ?_)
        try dsimp only at hw90
        refine lv_lstore (lv' := [(9, .long r90), (5, .long r81), (11, .long x74), (0, .int p0), (1, .int p1), (2, .int p2), (3, .long x3), (7, .long x7), (13, .int x13)]) hx hb dX3_sumOfQuotients_93  hl (by decide) rfl (fun ls hl => ?_)
        refine lv_lload hx hb dX3_sumOfQuotients_95 (lv_at hl 1 rfl) ?_
        refine lv_lload_n hx hb dX3_sumOfQuotients_97 rfl (lv_at hl 6 rfl) ?_
        have b97 : 0 ≤ x5.toInt % x7.toInt ∧ x5.toInt % x7.toInt < x7.toInt := ⟨Int.emod_nonneg _ (by omega), Int.emod_lt_of_pos _ (by omega)⟩
        have b96 : 0 ≤ x9.toInt % x7.toInt ∧ x9.toInt % x7.toInt < x7.toInt := ⟨Int.emod_nonneg _ (by omega), Int.emod_lt_of_pos _ (by omega)⟩
        have b98 := mul_bnd (show 0 ≤ r81.toInt ∧ r81.toInt ≤ 2000 by omega) (show 0 ≤ x3.toInt ∧ x3.toInt ≤ 2000 by omega)
        refine lv_lmul hx hb dX3_sumOfQuotients_98 ?_
        refine lv_topl (fun x98 ex98 => ?_)
        have tx98 : x98.toInt = r81.toInt * x3.toInt := by rw [ex98]; exact tl_mul rfl rfl (by omega) (by omega)
        refine lv_lload hx hb dX3_sumOfQuotients_99 (lv_at hl 0 rfl) ?_
        refine lv_ladd hx hb dX3_sumOfQuotients_101 ?_
        refine lv_topl (fun x101 ex101 => ?_)
        have tx101 : x101.toInt = x98.toInt + r90.toInt := by rw [ex101]; exact tl_add rfl rfl (by omega) (by omega)
        refine lv_lstore (lv' := [(14, .long x101), (9, .long r90), (5, .long r81), (11, .long x74), (0, .int p0), (1, .int p1), (2, .int p2), (3, .long x3), (7, .long x7), (13, .int x13)]) hx hb dX3_sumOfQuotients_102  hl (by decide) rfl (fun ls hl => ?_)
        refine lv_lload hx hb dX3_sumOfQuotients_104 (lv_at hl 0 rfl) ?_
        refine lv_lload hx hb dX3_sumOfQuotients_106 (lv_at hl 8 rfl) ?_
        refine lv_ldiv hx hb dX3_sumOfQuotients_108 (l_ne0 rfl (by omega)) ?_
        refine lv_topl (fun x108 ex108 => ?_)
        have tx108 : x108.toInt = x101.toInt / x7.toInt := by rw [ex108]; exact tl_div rfl rfl (by omega) (by omega)
        refine lv_lstore_n (lv' := [(3, .long x108), (14, .long x101), (9, .long r90), (5, .long r81), (11, .long x74), (0, .int p0), (1, .int p1), (2, .int p2), (7, .long x7), (13, .int x13)]) hx hb dX3_sumOfQuotients_109 rfl hl (by decide) rfl (fun ls hl => ?_)
        refine lv_lload hx hb dX3_sumOfQuotients_110 (lv_at hl 1 rfl) ?_
        refine lv_lload hx hb dX3_sumOfQuotients_112 (lv_at hl 8 rfl) ?_
        refine lv_lrem hx hb dX3_sumOfQuotients_114 (l_ne0 rfl (by omega)) ?_
        refine lv_topl (fun x114 ex114 => ?_)
        have tx114 : x114.toInt = x101.toInt % x7.toInt := by rw [ex114]; exact tl_rem rfl rfl (by omega) (by omega)
        refine lv_lstore (lv' := [(9, .long x114), (3, .long x108), (14, .long x101), (5, .long r81), (11, .long x74), (0, .int p0), (1, .int p1), (2, .int p2), (7, .long x7), (13, .int x13)]) hx hb dX3_sumOfQuotients_115  hl (by decide) rfl (fun ls hl => ?_)
        refine lv_lload hx hb dX3_sumOfQuotients_117 (lv_at hl 8 rfl) ?_
        refine lv_lstore (lv' := [(16, .long x7), (9, .long x114), (3, .long x108), (14, .long x101), (5, .long r81), (11, .long x74), (0, .int p0), (1, .int p1), (2, .int p2), (7, .long x7), (13, .int x13)]) hx hb dX3_sumOfQuotients_119  hl (by decide) rfl (fun ls hl => ?_)
        refine lv_lload hx hb dX3_sumOfQuotients_121 (lv_at hl 4 rfl) ?_
        refine lv_lstore (lv' := [(7, .long r81), (16, .long x7), (9, .long x114), (3, .long x108), (14, .long x101), (5, .long r81), (11, .long x74), (0, .int p0), (1, .int p1), (2, .int p2), (13, .int x13)]) hx hb dX3_sumOfQuotients_123  hl (by decide) rfl (fun ls hl => ?_)
        refine lv_lload hx hb dX3_sumOfQuotients_125 (lv_at hl 1 rfl) ?_
        refine lv_lstore (lv' := [(5, .long x7), (7, .long r81), (16, .long x7), (9, .long x114), (3, .long x108), (14, .long x101), (11, .long x74), (0, .int p0), (1, .int p1), (2, .int p2), (13, .int x13)]) hx hb dX3_sumOfQuotients_127  hl (by decide) rfl (fun ls hl => ?_)
        obtain ⟨x129, ex129⟩ : ∃ y : Int32, y = x13 + 1 := ⟨_, rfl⟩
        have tx129 : x129.toInt = x13.toInt + 1 := by rw [ex129]; exact ti_add rfl (by decide) (by omega) (by omega)
        refine lv_iinc (v := x129) (lv' := [(13, .int x129), (5, .long x7), (7, .long r81), (16, .long x7), (9, .long x114), (3, .long x108), (14, .long x101), (11, .long x74), (0, .int p0), (1, .int p1), (2, .int p2)]) hx hb dX3_sumOfQuotients_129 hl (k := 10) rfl (by rw [ex129]; rfl) (by decide) rfl (fun ls hl => ?_)
        refine lv_goto (tgt := 20) hx hb dX3_sumOfQuotients_132 (by decide) ?_
        have tl := top_le (a := x5.toInt) (b := x9.toInt) (m := x7.toInt) (n := x3.toInt) (by omega) (by omega)
        have ev := eu_inv (up := x5.toInt) i8 (by omega) (by omega)
        have es := eu_step (a := x5.toInt) (b := x9.toInt) (m := x7.toInt) (by omega) x3.toInt.toNat
        rw [show ((x3.toInt.toNat : Nat) : Int) = x3.toInt by omega] at es
        have e51 : x51.toInt = sI x3.toInt.toNat := by have := sI_two x3.toInt.toNat; rw [show ((x3.toInt.toNat : Nat) : Int) = x3.toInt by omega] at this; rw [tx51, tx47, tx46, ← this]; omega
        have e101 : x101.toInt = x5.toInt % x7.toInt * x3.toInt + x9.toInt % x7.toInt := by rw [tx101, tx98, hw81, hw90]
        have e108 : x108.toInt = (x5.toInt % x7.toInt * x3.toInt + x9.toInt % x7.toInt) / x7.toInt := by rw [tx108, e101]
        have e114 : x114.toInt = (x5.toInt % x7.toInt * x3.toInt + x9.toInt % x7.toInt) % x7.toInt := by rw [tx114, e101]
        have b114 : 0 ≤ x114.toInt ∧ x114.toInt < x7.toInt := by rw [tx114]; exact ⟨Int.emod_nonneg _ (by omega), Int.emod_lt_of_pos _ (by omega)⟩
        exact ih x108 x7 r81 x114 x74 x129 ls _ _ ⟨hP, hD, hS, lv_sub hl [8, 9, 10, 5, 1, 2, 4, 7, 0] rfl, (show 0 ≤ x129.toInt ∧ x129.toInt ≤ 200 from by omega), (show 0 ≤ x108.toInt ∧ x108.toInt ≤ 2000 from by omega), (show -1000000 ≤ x7.toInt ∧ x7.toInt ≤ 1000000 from by omega), (show 0 ≤ r81.toInt ∧ r81.toInt ≤ 2000 from by omega), (show 0 ≤ x114.toInt ∧ x114.toInt ≤ 2000 from by omega), (show r81.toInt = 0 → x108.toInt = 0 from fun h => by rw [e108]; exact tl.2.2.2 (by omega)), (show -(5000000000000 * x129.toInt) ≤ x74.toInt ∧ x74.toInt ≤ 5000000000000 * x129.toInt from by omega), (show x129.toInt.toNat = 0 ∨ (r81.toInt < x7.toInt ∧ r81.toInt * x7.toInt * 2 ^ (x129.toInt.toNat - 1) ≤ 2 ^ 180) from Or.inr (by rw [hw81, show x129.toInt.toNat = x13.toInt.toNat + 1 by omega]; exact ev)), (show x74.toInt + fs x7.toInt x114.toInt r81.toInt x108.toInt.toNat = fs p1.toInt 0 p2.toInt p0.toInt.toNat from by rw [← i9, es, tx74, tx60, tx73, tx59, e51, hw56, hw70, hw81, e114, e108, Int.mul_comm (x5.toInt / x7.toInt)]; omega)⟩ (show (200 - x129.toInt).toNat < (200 - x13.toInt).toNat from by omega)
end
section
set_option maxHeartbeats 4000000 in
set_option maxRecDepth 100000 in
theorem ct_X3_commonDivisor (l : Launch) (G : va_G) (cI cL : ClassId) (sz : Nat) (p0 : Int64) (p1 : Int64) (hp0 : 0 ≤ p0.toInt ∧ p0.toInt ≤ 1000000000000000000) (hp1 : 1 ≤ p1.toInt ∧ p1.toInt ≤ 1000000000000000000) : Met l yX3_commonDivisor wsX3_commonDivisor ({ frames := 1, cells := 0, slots := 0, locals := 23 }) (va_Pc [.long p0, .long p1] (pre0 G cI cL ([] : va_W) sz)) (va_Ql (fun (r : Int64) (u : Unit) => r.toInt = (Nat.gcd p0.toInt.toNat p1.toInt.toNat : Nat)) (fun (u : Unit) t => va_P G vwCl ([] : va_W) t.heap ∧ va_D (va_A ([] : va_W) sz) ([] : va_W)) (va_A ([] : va_W) sz)) 0 0 (va_A ([] : va_W) sz) := by
  refine Met.ofW (cc := cX3_commonDivisor) (maxL := 11) (ret := (some .long)) (by decide) rfl ?_
  intro p e s m args below meth c s₁ B hml hv
  obtain ⟨rfl, hsz, hP, hK, hD0, hN⟩ := hv
  have hx := B.exec
  have hb := B.bytes
  have hr := B.returns
  have hts := atoms_spec (ws := wsX3_commonDivisor) B.pre
  have hown : s.vm.findClass RX3 = some m.cls := findClass_of_methodNamed B.named
  have hlocks := B.notSynchronized
  subst hsz
  have hD := hD0.self (sz := s.heap.size)
  generalize hAe : va_A ([] : va_W) s.heap.size = A at hD ⊢
  have hA : ∀ q : Nat, s.heap.size ≤ q → A q := fun q h => by rw [← hAe]; exact Or.inr h
  have hP : va_P G vwCl ([] : va_W) s.heap := hP
  have hl := lv_entry ([.long p0, .long p1]) (n := 11) (Nat.le_of_ble_eq_true rfl)
  rw [lg_entry_eq]
  generalize (lg_sl ([.long p0, .long p1]) ++ List.replicate (11 - (lg_sl ([.long p0, .long p1])).length) Slot.unset).toArray = ls at hl ⊢
  have hl : lv_has ls 11 [(0, .long p0), (2, .long p1)] := hl
  have zi0 : ((0 : Int32)).toInt = 0 := by decide
  have zi1 : ((1 : Int32)).toInt = 1 := by decide
  have zi200 : ((200 : Int32)).toInt = 200 := by decide
  have zl0 : ((0 : Int64)).toInt = 0 := by decide
  have zl1 : ((1 : Int64)).toInt = 1 := by decide
  refine w_h (A := A) hP (fun H locs hP hS => ?_)
  refine lv_lload_n hx hb dX3_commonDivisor_0 rfl (lv_at hl 0 rfl) ?_
  refine lv_lstore (lv' := [(4, .long p0), (0, .long p0), (2, .long p1)]) hx hb dX3_commonDivisor_1  hl (by decide) rfl (fun ls hl => ?_)
  refine lv_lload_n hx hb dX3_commonDivisor_3 rfl (lv_at hl 2 rfl) ?_
  refine lv_lstore (lv' := [(6, .long p1), (4, .long p0), (0, .long p0), (2, .long p1)]) hx hb dX3_commonDivisor_4  hl (by decide) rfl (fun ls hl => ?_)
  refine lv_iconst (v := 0) hx hb dX3_commonDivisor_6 (by decide) ?_
  refine lv_istore (lv' := [(8, .int 0), (6, .long p1), (4, .long p0), (0, .long p0), (2, .long p1)]) hx hb dX3_commonDivisor_7  hl (by decide) rfl (fun ls hl => ?_)
  refine W_loop3 (fun (x4 : Int64) (x6 : Int64) (x8 : Int32) ls H locs => va_P G vwCl ([] : va_W) H ∧ va_D A ([] : va_W) ∧ va_S A s.heap H locs ∧ lv_has ls 11 [(0, .long p0), (2, .long p1), (4, .long x4), (6, .long x6), (8, .int x8)] ∧ (0 ≤ x8.toInt ∧ x8.toInt ≤ 200) ∧ (0 ≤ x4.toInt ∧ x4.toInt ≤ 1000000000000000000) ∧ (0 ≤ x6.toInt ∧ x6.toInt ≤ 1000000000000000000) ∧ (x8.toInt.toNat = 0 ∨ (x6.toInt < x4.toInt ∧ x6.toInt * x4.toInt * 2 ^ (x8.toInt.toNat - 1) ≤ 2 ^ 180)) ∧ (Nat.gcd x4.toInt.toNat x6.toInt.toNat = Nat.gcd p0.toInt.toNat p1.toInt.toNat)) (fun (x4 : Int64) (x6 : Int64) (x8 : Int32) => (200 - x8.toInt).toNat) (fun x4 x6 x8 ls H locs hI ih => ?_) p0 p1 (0 : Int32) ls _ _ ⟨hP, hD, hS, lv_sub hl [3, 4, 2, 1, 0] rfl, (show 0 ≤ (0 : Int32).toInt ∧ (0 : Int32).toInt ≤ 200 from by omega), (show 0 ≤ p0.toInt ∧ p0.toInt ≤ 1000000000000000000 from by omega), (show 0 ≤ p1.toInt ∧ p1.toInt ≤ 1000000000000000000 from by omega), (show (0 : Int32).toInt.toNat = 0 ∨ (p1.toInt < p0.toInt ∧ p1.toInt * p0.toInt * 2 ^ ((0 : Int32).toInt.toNat - 1) ≤ 2 ^ 180) from Or.inl (by omega)), (show Nat.gcd p0.toInt.toNat p1.toInt.toNat = Nat.gcd p0.toInt.toNat p1.toInt.toNat from rfl)⟩
  obtain ⟨hP, hD, hS, hl, i1, i2, i3, i8, i9⟩ := hI
  refine lv_iload hx hb dX3_commonDivisor_9 (lv_at hl 4 rfl) ?_
  refine lv_sipush (v := 200) hx hb dX3_commonDivisor_11 (by decide) ?_
  refine lv_icmp_ge (tgt := 45) hx hb dX3_commonDivisor_14 (by decide) (fun c14 => ?_) (fun c14 => ?_)
  · have k14 : (200 : Int) ≤ x8.toInt := i_le (show ((200 : Int32)).toInt = 200 by decide) rfl c14
    have z6 := eu_end i8 (by omega) i3.1
    have fr : x4.toInt = (Nat.gcd p0.toInt.toNat p1.toInt.toNat : Nat) := by rw [← i9, show x6.toInt.toNat = 0 by omega, Nat.gcd_zero_right]; omega
    have gp : 0 < Nat.gcd p0.toInt.toNat p1.toInt.toNat := Nat.gcd_pos_of_pos_right _ (by omega)
    refine lv_lload hx hb dX3_commonDivisor_45 (lv_at hl 2 rfl) ?_
    refine lv_lconst (v := 1) hx hb dX3_commonDivisor_47 (by decide) ?_
    refine va_mmax_long hx hb (by rw [hml]; exact hl.1.symm) hown (hts (.methodLink RX3 124 Lib.MathLoose.max_long.x) (by decide +kernel)) (hts (.static Lib.MathLoose.max_long.x) (by decide +kernel)) (hts (.initialized "java/lang/Math") (by decide +kernel)) (hts (.code Lib.MathLoose.max_long.x Lib.MathLoose.max_long.code 4 (some .long)) (by decide +kernel)) (Nat.le_of_ble_eq_true rfl) (Nat.le_of_ble_eq_true rfl) (Nat.zero_le _) (Nat.zero_le _) dX3_commonDivisor_48 ?_
    refine lv_topl (fun x48 ex48 => ?_)
    have tx48 : x48.toInt = max x4.toInt 1 := by rw [ex48]; exact tl_max rfl (show ((1 : Int64)).toInt = 1 by decide)
    exact W.lret (v := x48) hx hb hr (fun t ht hW => ⟨⟨x48, (), rfl, (by (try dsimp only); exact (by omega)), by rw [ht]; exact hP, hD⟩, hS.F ht⟩) hS.2.2 dX3_commonDivisor_51
  · have k14 : (x8.toInt : Int) < 200 := i_nle (show ((200 : Int32)).toInt = 200 by decide) rfl c14
    refine lv_lload hx hb dX3_commonDivisor_17 (lv_at hl 3 rfl) ?_
    refine lv_lconst (v := 0) hx hb dX3_commonDivisor_19 (by decide) ?_
    refine W.lcmp hx hb dX3_commonDivisor_20 ?_
    refine lv_if_le (tgt := 45) hx hb dX3_commonDivisor_21 (by decide) (fun c21 => ?_) (fun c21 => ?_)
    · have k21 : (x6.toInt : Int) ≤ 0 := l_le rfl (show ((0 : Int64)).toInt = 0 by decide) ((lg_cmp_le _ _).mp c21)
      have fr : x4.toInt = (Nat.gcd p0.toInt.toNat p1.toInt.toNat : Nat) := by rw [← i9, show x6.toInt.toNat = 0 by omega, Nat.gcd_zero_right]; omega
      have gp : 0 < Nat.gcd p0.toInt.toNat p1.toInt.toNat := Nat.gcd_pos_of_pos_right _ (by omega)
      refine lv_lload hx hb dX3_commonDivisor_45 (lv_at hl 2 rfl) ?_
      refine lv_lconst (v := 1) hx hb dX3_commonDivisor_47 (by decide) ?_
      refine va_mmax_long hx hb (by rw [hml]; exact hl.1.symm) hown (hts (.methodLink RX3 124 Lib.MathLoose.max_long.x) (by decide +kernel)) (hts (.static Lib.MathLoose.max_long.x) (by decide +kernel)) (hts (.initialized "java/lang/Math") (by decide +kernel)) (hts (.code Lib.MathLoose.max_long.x Lib.MathLoose.max_long.code 4 (some .long)) (by decide +kernel)) (Nat.le_of_ble_eq_true rfl) (Nat.le_of_ble_eq_true rfl) (Nat.zero_le _) (Nat.zero_le _) dX3_commonDivisor_48 ?_
      refine lv_topl (fun x48_2 ex48_2 => ?_)
      have tx48_2 : x48_2.toInt = max x4.toInt 1 := by rw [ex48_2]; exact tl_max rfl (show ((1 : Int64)).toInt = 1 by decide)
      exact W.lret (v := x48_2) hx hb hr (fun t ht hW => ⟨⟨x48_2, (), rfl, (by (try dsimp only); exact (by omega)), by rw [ht]; exact hP, hD⟩, hS.F ht⟩) hS.2.2 dX3_commonDivisor_51
    · have k21 : (0 : Int) < x6.toInt := l_nle rfl (show ((0 : Int64)).toInt = 0 by decide) (fun h9 => c21 ((lg_cmp_le _ _).mpr h9))
      refine lv_lload hx hb dX3_commonDivisor_24 (lv_at hl 2 rfl) ?_
      refine lv_lload hx hb dX3_commonDivisor_26 (lv_at hl 3 rfl) ?_
      refine lv_lrem hx hb dX3_commonDivisor_28 (l_ne0 rfl (by omega)) ?_
      refine lv_topl (fun x28 ex28 => ?_)
      have tx28 : x28.toInt = x4.toInt % x6.toInt := by rw [ex28]; exact tl_rem rfl rfl (by omega) (by omega)
      refine lv_lstore (lv' := [(9, .long x28), (0, .long p0), (2, .long p1), (4, .long x4), (6, .long x6), (8, .int x8)]) hx hb dX3_commonDivisor_29  hl (by decide) rfl (fun ls hl => ?_)
      refine lv_lload hx hb dX3_commonDivisor_31 (lv_at hl 4 rfl) ?_
      refine lv_lstore (lv' := [(4, .long x6), (9, .long x28), (0, .long p0), (2, .long p1), (6, .long x6), (8, .int x8)]) hx hb dX3_commonDivisor_33  hl (by decide) rfl (fun ls hl => ?_)
      refine lv_lload hx hb dX3_commonDivisor_35 (lv_at hl 1 rfl) ?_
      refine lv_lstore (lv' := [(6, .long x28), (4, .long x6), (9, .long x28), (0, .long p0), (2, .long p1), (8, .int x8)]) hx hb dX3_commonDivisor_37  hl (by decide) rfl (fun ls hl => ?_)
      obtain ⟨x39, ex39⟩ : ∃ y : Int32, y = x8 + 1 := ⟨_, rfl⟩
      have tx39 : x39.toInt = x8.toInt + 1 := by rw [ex39]; exact ti_add rfl (by decide) (by omega) (by omega)
      refine lv_iinc (v := x39) (lv' := [(8, .int x39), (6, .long x28), (4, .long x6), (9, .long x28), (0, .long p0), (2, .long p1)]) hx hb dX3_commonDivisor_39 hl (k := 5) rfl (by rw [ex39]; rfl) (by decide) rfl (fun ls hl => ?_)
      refine lv_goto (tgt := 9) hx hb dX3_commonDivisor_42 (by decide) ?_
      have ev := eu_inv (up := x4.toInt) i8 (by omega) (by omega)
      have rm : 0 ≤ x28.toInt ∧ x28.toInt < x6.toInt := by rw [tx28]; exact ⟨Int.emod_nonneg _ (by omega), Int.emod_lt_of_pos _ (by omega)⟩
      exact ih x6 x28 x39 ls _ _ ⟨hP, hD, hS, lv_sub hl [4, 5, 2, 1, 0] rfl, (show 0 ≤ x39.toInt ∧ x39.toInt ≤ 200 from by omega), (show 0 ≤ x6.toInt ∧ x6.toInt ≤ 1000000000000000000 from by omega), (show 0 ≤ x28.toInt ∧ x28.toInt ≤ 1000000000000000000 from by omega), (show x39.toInt.toNat = 0 ∨ (x28.toInt < x6.toInt ∧ x28.toInt * x6.toInt * 2 ^ (x39.toInt.toNat - 1) ≤ 2 ^ 180) from Or.inr (by rw [tx28, show x39.toInt.toNat = x8.toInt.toNat + 1 by omega]; exact ev)), (show Nat.gcd x6.toInt.toNat x28.toInt.toNat = Nat.gcd p0.toInt.toNat p1.toInt.toNat from by rw [← i9, tx28, gcd_st (by omega) (by omega)])⟩ (show (200 - x39.toInt).toNat < (200 - x8.toInt).toNat from by omega)
set_option maxHeartbeats 4000000 in
set_option maxRecDepth 100000 in
theorem ct_X4_common (l : Launch) (G : va_G) (cI cL : ClassId) (sz : Nat) (p0 : Int64) (p1 : Int64) (hp0 : 0 ≤ p0.toInt ∧ p0.toInt ≤ 1000000000000000000) (hp1 : 1 ≤ p1.toInt ∧ p1.toInt ≤ 1000000000000000000) : Met l yX4_common wsX4_common ({ frames := 0, cells := 0, slots := 0, locals := 0 }) (va_Pc [.long p0, .long p1] (pre0 G cI cL ([] : va_W) sz)) (va_Ql (fun (r : Int64) (u : Unit) => r.toInt = (Nat.gcd p0.toInt.toNat p1.toInt.toNat : Nat)) (fun (u : Unit) t => va_P G vwCl ([] : va_W) t.heap ∧ va_D (va_A ([] : va_W) sz) ([] : va_W)) (va_A ([] : va_W) sz)) 0 0 (va_A ([] : va_W) sz) := by
  refine Met.ofW (cc := cX4_common) (maxL := 10) (ret := (some .long)) (by decide) rfl ?_
  intro p e s m args below meth c s₁ B hml hv
  obtain ⟨rfl, hsz, hP, hK, hD0, hN⟩ := hv
  have hx := B.exec
  have hb := B.bytes
  have hr := B.returns
  have hts := atoms_spec (ws := wsX4_common) B.pre
  have hown : s.vm.findClass RX4 = some m.cls := findClass_of_methodNamed B.named
  have hlocks := B.notSynchronized
  subst hsz
  have hD := hD0.self (sz := s.heap.size)
  generalize hAe : va_A ([] : va_W) s.heap.size = A at hD ⊢
  have hA : ∀ q : Nat, s.heap.size ≤ q → A q := fun q h => by rw [← hAe]; exact Or.inr h
  have hP : va_P G vwCl ([] : va_W) s.heap := hP
  have hl := lv_entry ([.long p0, .long p1]) (n := 10) (Nat.le_of_ble_eq_true rfl)
  rw [lg_entry_eq]
  generalize (lg_sl ([.long p0, .long p1]) ++ List.replicate (10 - (lg_sl ([.long p0, .long p1])).length) Slot.unset).toArray = ls at hl ⊢
  have hl : lv_has ls 10 [(0, .long p0), (2, .long p1)] := hl
  have zl0 : ((0 : Int64)).toInt = 0 := by decide
  refine w_h (A := A) hP (fun H locs hP hS => ?_)
  refine lv_lload_n hx hb dX4_common_0 rfl (lv_at hl 0 rfl) ?_
  refine lv_lconst (v := 0) hx hb dX4_common_1 (by decide) ?_
  refine W.lcmp hx hb dX4_common_2 ?_
  refine lv_if_ge (tgt := 11) hx hb dX4_common_3 (by decide) (fun c3 => ?_) (fun c3 => ?_)
  · have k3 : (0 : Int) ≤ p0.toInt := l_le (show ((0 : Int64)).toInt = 0 by decide) rfl ((lg_cmp_ge _ _).mp c3)
    refine lv_lload_n hx hb dX4_common_11 rfl (lv_at hl 0 rfl) ?_
    refine lv_lstore (lv' := [(4, .long p0), (0, .long p0), (2, .long p1)]) hx hb dX4_common_12  hl (by decide) rfl (fun ls hl => ?_)
    refine lv_lload_n hx hb dX4_common_14 rfl (lv_at hl 2 rfl) ?_
    refine lv_lstore (lv' := [(6, .long p1), (4, .long p0), (0, .long p0), (2, .long p1)]) hx hb dX4_common_15  hl (by decide) rfl (fun ls hl => ?_)
    refine W_loop2 (fun (x4 : Int64) (x6 : Int64) ls H locs => va_P G vwCl ([] : va_W) H ∧ va_D A ([] : va_W) ∧ va_S A s.heap H locs ∧ lv_has ls 10 [(0, .long p0), (2, .long p1), (4, .long x4), (6, .long x6)] ∧ (0 ≤ x4.toInt ∧ x4.toInt ≤ 1000000000000000000) ∧ (0 ≤ x6.toInt ∧ x6.toInt ≤ 1000000000000000000) ∧ (Nat.gcd x4.toInt.toNat x6.toInt.toNat = Nat.gcd p0.toInt.toNat p1.toInt.toNat)) (fun (x4 : Int64) (x6 : Int64) => x6.toInt.toNat) (fun x4 x6 ls H locs hI ih => ?_) p0 p1 ls _ _ ⟨hP, hD, hS, lv_sub hl [2, 3, 1, 0] rfl, (show 0 ≤ p0.toInt ∧ p0.toInt ≤ 1000000000000000000 from by omega), (show 0 ≤ p1.toInt ∧ p1.toInt ≤ 1000000000000000000 from by omega), (show Nat.gcd p0.toInt.toNat p1.toInt.toNat = Nat.gcd p0.toInt.toNat p1.toInt.toNat from rfl)⟩
    obtain ⟨hP, hD, hS, hl, i2, i3, i9⟩ := hI
    refine lv_lload hx hb dX4_common_17 (lv_at hl 3 rfl) ?_
    refine lv_lconst (v := 0) hx hb dX4_common_19 (by decide) ?_
    refine W.lcmp hx hb dX4_common_20 ?_
    refine lv_if_le (tgt := 42) hx hb dX4_common_21 (by decide) (fun c21 => ?_) (fun c21 => ?_)
    · have k21 : (x6.toInt : Int) ≤ 0 := l_le rfl (show ((0 : Int64)).toInt = 0 by decide) ((lg_cmp_le _ _).mp c21)
      have fr : x4.toInt = (Nat.gcd p0.toInt.toNat p1.toInt.toNat : Nat) := by rw [← i9, show x6.toInt.toNat = 0 by omega, Nat.gcd_zero_right]; omega
      refine lv_lload hx hb dX4_common_42 (lv_at hl 2 rfl) ?_
      exact W.lret (v := x4) hx hb hr (fun t ht hW => ⟨⟨x4, (), rfl, (by (try dsimp only); exact fr), by rw [ht]; exact hP, hD⟩, hS.F ht⟩) hS.2.2 dX4_common_44
    · have k21 : (0 : Int) < x6.toInt := l_nle rfl (show ((0 : Int64)).toInt = 0 by decide) (fun h9 => c21 ((lg_cmp_le _ _).mpr h9))
      refine lv_lload hx hb dX4_common_24 (lv_at hl 2 rfl) ?_
      refine lv_lload hx hb dX4_common_26 (lv_at hl 3 rfl) ?_
      refine lv_lrem hx hb dX4_common_28 (l_ne0 rfl (by omega)) ?_
      refine lv_topl (fun x28 ex28 => ?_)
      have tx28 : x28.toInt = x4.toInt % x6.toInt := by rw [ex28]; exact tl_rem rfl rfl (by omega) (by omega)
      refine lv_lstore (lv' := [(8, .long x28), (0, .long p0), (2, .long p1), (4, .long x4), (6, .long x6)]) hx hb dX4_common_29  hl (by decide) rfl (fun ls hl => ?_)
      refine lv_lload hx hb dX4_common_31 (lv_at hl 4 rfl) ?_
      refine lv_lstore (lv' := [(4, .long x6), (8, .long x28), (0, .long p0), (2, .long p1), (6, .long x6)]) hx hb dX4_common_33  hl (by decide) rfl (fun ls hl => ?_)
      refine lv_lload hx hb dX4_common_35 (lv_at hl 1 rfl) ?_
      refine lv_lstore (lv' := [(6, .long x28), (4, .long x6), (8, .long x28), (0, .long p0), (2, .long p1)]) hx hb dX4_common_37  hl (by decide) rfl (fun ls hl => ?_)
      refine lv_goto (tgt := 17) hx hb dX4_common_39 (by decide) ?_
      have rm : 0 ≤ x28.toInt ∧ x28.toInt < x6.toInt := by rw [tx28]; exact ⟨Int.emod_nonneg _ (by omega), Int.emod_lt_of_pos _ (by omega)⟩
      exact ih x6 x28 ls _ _ ⟨hP, hD, hS, lv_sub hl [3, 4, 1, 0] rfl, (show 0 ≤ x6.toInt ∧ x6.toInt ≤ 1000000000000000000 from by omega), (show 0 ≤ x28.toInt ∧ x28.toInt ≤ 1000000000000000000 from by omega), (show Nat.gcd x6.toInt.toNat x28.toInt.toNat = Nat.gcd p0.toInt.toNat p1.toInt.toNat from by rw [← i9, tx28, gcd_st (by omega) (by omega)])⟩ (show x28.toInt.toNat < x6.toInt.toNat from by omega)
  · have k3 : (p0.toInt : Int) < 0 := l_nle (show ((0 : Int64)).toInt = 0 by decide) rfl (fun h9 => c3 ((lg_cmp_ge _ _).mpr h9))
    exact absurd k3 (by omega)
end
section
set_option maxHeartbeats 4000000 in
set_option maxRecDepth 100000 in
theorem ct_X1_placeOf (l : Launch) (G : va_G) (cI cL : ClassId) (sz : Nat) (qm : Nat) (qm1 : Nat) (qm2 : Nat) (qm3 : Nat) (qm4 : Nat) (qm5 : Nat) (zm : Int32) (kt : Nat → Int32) (ks : Nat → Int32) (kf : Nat → Int32) (kl : Nat → Int32) (ku : Nat → Int64) (p0 : Int32) (nm : Nat) (hnm : zm.toInt = nm) (hOm : okM nm kt ks kf kl) (hSr : srt nm kt) : Met l yX1_placeOf wsX1_placeOf ({ frames := 0, cells := 0, slots := 0, locals := 0 }) (va_Pc [.ref qm, .int p0] (pre0 G cI cL [(qm, .inr (1, [.ref qm1, .ref qm2, .ref qm3, .ref qm4, .ref qm5, .int zm])), (qm1, .inl (cI, 40, .inl kt)), (qm2, .inl (cI, 40, .inl ks)), (qm3, .inl (cI, 40, .inl kf)), (qm4, .inl (cI, 40, .inl kl)), (qm5, .inl (cL, 40, .inr (.inl ku)))] sz)) (va_Qi (fun (r : Int32) (u : Unit) => r.toInt = bi kt p0.toInt nm) (fun (u : Unit) t => va_P G vwCl [(qm, .inr (1, [.ref qm1, .ref qm2, .ref qm3, .ref qm4, .ref qm5, .int zm])), (qm1, .inl (cI, 40, .inl kt)), (qm2, .inl (cI, 40, .inl ks)), (qm3, .inl (cI, 40, .inl kf)), (qm4, .inl (cI, 40, .inl kl)), (qm5, .inl (cL, 40, .inr (.inl ku)))] t.heap ∧ va_D (va_A [(qm, .inr (1, [.ref qm1, .ref qm2, .ref qm3, .ref qm4, .ref qm5, .int zm])), (qm1, .inl (cI, 40, .inl kt)), (qm2, .inl (cI, 40, .inl ks)), (qm3, .inl (cI, 40, .inl kf)), (qm4, .inl (cI, 40, .inl kl)), (qm5, .inl (cL, 40, .inr (.inl ku)))] sz) [(qm, .inr (1, [.ref qm1, .ref qm2, .ref qm3, .ref qm4, .ref qm5, .int zm])), (qm1, .inl (cI, 40, .inl kt)), (qm2, .inl (cI, 40, .inl ks)), (qm3, .inl (cI, 40, .inl kf)), (qm4, .inl (cI, 40, .inl kl)), (qm5, .inl (cL, 40, .inr (.inl ku)))]) (va_A [(qm, .inr (1, [.ref qm1, .ref qm2, .ref qm3, .ref qm4, .ref qm5, .int zm])), (qm1, .inl (cI, 40, .inl kt)), (qm2, .inl (cI, 40, .inl ks)), (qm3, .inl (cI, 40, .inl kf)), (qm4, .inl (cI, 40, .inl kl)), (qm5, .inl (cL, 40, .inr (.inl ku)))] sz)) 0 0 (va_A [(qm, .inr (1, [.ref qm1, .ref qm2, .ref qm3, .ref qm4, .ref qm5, .int zm])), (qm1, .inl (cI, 40, .inl kt)), (qm2, .inl (cI, 40, .inl ks)), (qm3, .inl (cI, 40, .inl kf)), (qm4, .inl (cI, 40, .inl kl)), (qm5, .inl (cL, 40, .inr (.inl ku)))] sz) := by
  refine Met.ofW (cc := cX1_placeOf) (maxL := 3) (ret := (some .int)) (by decide) rfl ?_
  intro p e s m args below meth c s₁ B hml hv
  obtain ⟨rfl, hsz, hP, hK, hD0, hN⟩ := hv
  have hx := B.exec
  have hb := B.bytes
  have hr := B.returns
  have hts := atoms_spec (ws := wsX1_placeOf) B.pre
  have hown : s.vm.findClass RX1 = some m.cls := findClass_of_methodNamed B.named
  have hlocks := B.notSynchronized
  subst hsz
  have hD := hD0.self (sz := s.heap.size)
  generalize hAe : va_A [(qm, .inr (1, [.ref qm1, .ref qm2, .ref qm3, .ref qm4, .ref qm5, .int zm])), (qm1, .inl (cI, 40, .inl kt)), (qm2, .inl (cI, 40, .inl ks)), (qm3, .inl (cI, 40, .inl kf)), (qm4, .inl (cI, 40, .inl kl)), (qm5, .inl (cL, 40, .inr (.inl ku)))] s.heap.size = A at hD ⊢
  have hA : ∀ q : Nat, s.heap.size ≤ q → A q := fun q h => by rw [← hAe]; exact Or.inr h
  have hP : va_P G vwCl [(qm, .inr (1, [.ref qm1, .ref qm2, .ref qm3, .ref qm4, .ref qm5, .int zm])), (qm1, .inl (cI, 40, .inl kt)), (qm2, .inl (cI, 40, .inl ks)), (qm3, .inl (cI, 40, .inl kf)), (qm4, .inl (cI, 40, .inl kl)), (qm5, .inl (cL, 40, .inr (.inl ku)))] s.heap := hP
  have hl := lv_entry ([.ref qm, .int p0]) (n := 3) (Nat.le_of_ble_eq_true rfl)
  rw [lg_entry_eq]
  generalize (lg_sl ([.ref qm, .int p0]) ++ List.replicate (3 - (lg_sl ([.ref qm, .int p0])).length) Slot.unset).toArray = ls at hl ⊢
  have hl : lv_has ls 3 [(0, .ref qm), (1, .int p0)] := hl
  have hf28 := hts (.fieldLink RX1 28 "TempoMaps$Marks" "size" "I") (by decide +kernel)
  have hf9 := hts (.fieldLink RX1 9 "TempoMaps$Marks" "ticks" "[I") (by decide +kernel)
  have hiX1 : ∀ w ∈ wsX10, w ∈ wsX1_placeOf := by decide +kernel
  have zim1 : ((-1 : Int32)).toInt = -1 := by decide
  have zi1 : ((1 : Int32)).toInt = 1 := by decide
  refine w_h (A := A) hP (fun H locs hP hS => ?_)
  have hn40 := hOm.1
  have hrg := hOm.2.1
  refine lv_aload_n hx hb dX1_placeOf_0 rfl (lv_at hl 0 rfl) ?_
  refine va_get (D := G) (ci := 1) (v := .int zm) (C := RX1) (T := TX1) (N := 6) hx hb hts hiX1 hown hK hP 0 rfl rfl 5 (by decide) hf28 (fun _ h9 => h9) rfl dX1_placeOf_1 ?_
  refine lv_iconst (v := 1) hx hb dX1_placeOf_4 (by decide) ?_
  refine lv_isub hx hb dX1_placeOf_5 ?_
  refine lv_topi (fun x5 ex5 => ?_)
  have tx5 : x5.toInt = zm.toInt - 1 := by rw [ex5]; exact ti_sub rfl (show ((1 : Int32)).toInt = 1 by decide) (by omega) (by omega)
  refine lv_istore_n (lv' := [(2, .int x5), (0, .ref qm), (1, .int p0)]) hx hb dX1_placeOf_6 rfl hl (by decide) rfl (fun ls hl => ?_)
  refine W_loop1 (fun (x2 : Int32) ls H locs => va_P G vwCl [(qm, .inr (1, [.ref qm1, .ref qm2, .ref qm3, .ref qm4, .ref qm5, .int zm])), (qm1, .inl (cI, 40, .inl kt)), (qm2, .inl (cI, 40, .inl ks)), (qm3, .inl (cI, 40, .inl kf)), (qm4, .inl (cI, 40, .inl kl)), (qm5, .inl (cL, 40, .inr (.inl ku)))] H ∧ va_D A [(qm, .inr (1, [.ref qm1, .ref qm2, .ref qm3, .ref qm4, .ref qm5, .int zm])), (qm1, .inl (cI, 40, .inl kt)), (qm2, .inl (cI, 40, .inl ks)), (qm3, .inl (cI, 40, .inl kf)), (qm4, .inl (cI, 40, .inl kl)), (qm5, .inl (cL, 40, .inr (.inl ku)))] ∧ va_S A s.heap H locs ∧ lv_has ls 3 [(0, .ref qm), (1, .int p0), (2, .int x2)] ∧ (-1 ≤ x2.toInt ∧ x2.toInt < nm) ∧ (∀ k : Nat, k < nm → x2.toInt < k → p0.toInt < (kt k).toInt)) (fun (x2 : Int32) => (x2.toInt + 1).toNat) (fun x2 ls H locs hI ih => ?_) x5 ls _ _ ⟨hP, hD, hS, lv_sub hl [1, 2, 0] rfl, (show -1 ≤ x5.toInt ∧ x5.toInt < nm from by omega), (show ∀ k : Nat, k < nm → x5.toInt < k → p0.toInt < (kt k).toInt from fun k h1 h2 => by omega)⟩
  obtain ⟨hP, hD, hS, hl, i1, i2⟩ := hI
  refine lv_iload_n hx hb dX1_placeOf_7 rfl (lv_at hl 2 rfl) ?_
  refine lv_if_lt (tgt := 27) hx hb dX1_placeOf_8 (by decide) (fun c8 => ?_) (fun c8 => ?_)
  · have k8 : (x2.toInt : Int) < 0 := i_lt rfl (show ((0 : Int32)).toInt = 0 by decide) c8
    have fr : x2.toInt = bi kt p0.toInt nm := by rw [bi_none (fun k h => i2 k h (by omega))]; omega
    refine lv_iload_n hx hb dX1_placeOf_27 rfl (lv_at hl 2 rfl) ?_
    exact W.iret (v := x2) hx hb hr (fun t ht hW => ⟨⟨x2, (), rfl, (by (try dsimp only); exact (by omega)), by rw [ht]; exact hP, hD⟩, hS.F ht⟩) hS.2.2 dX1_placeOf_28
  · have k8 : (0 : Int) ≤ x2.toInt := i_nlt rfl (show ((0 : Int32)).toInt = 0 by decide) c8
    refine lv_aload_n hx hb dX1_placeOf_11 rfl (lv_at hl 0 rfl) ?_
    refine va_get (D := G) (ci := 1) (v := .ref qm1) (C := RX1) (T := TX1) (N := 6) hx hb hts hiX1 hown hK hP 0 rfl rfl 0 (by decide) hf9 (fun _ h9 => h9) rfl dX1_placeOf_12 ?_
    refine lv_iload_n hx hb dX1_placeOf_15 rfl (lv_at hl 2 rfl) ?_
    refine va_iald hx hb hK hP 1 0 rfl rfl (vi_in rfl (by omega) (by omega)) dX1_placeOf_16 ?_
    refine lv_topi (fun x16 ex16 => ?_)
    have ex16 : x16 = kt x2.toInt.toNat := by rw [ex16]; exact congrArg _ (cl_nat rfl (by omega))
    have tx16 : x16.toInt = (kt x2.toInt.toNat).toInt := by rw [ex16]
    refine lv_iload_n hx hb dX1_placeOf_17 rfl (lv_at hl 1 rfl) ?_
    refine lv_icmp_le (tgt := 27) hx hb dX1_placeOf_18 (by decide) (fun c18 => ?_) (fun c18 => ?_)
    · have k18 : (x16.toInt : Int) ≤ p0.toInt := i_le rfl rfl c18
      have fr : x2.toInt = bi kt p0.toInt nm := bi_srt hSr (by omega) (by omega) (by omega) (fun k h1 h2 => i2 k h1 h2)
      refine lv_iload_n hx hb dX1_placeOf_27 rfl (lv_at hl 2 rfl) ?_
      exact W.iret (v := x2) hx hb hr (fun t ht hW => ⟨⟨x2, (), rfl, (by (try dsimp only); exact (by omega)), by rw [ht]; exact hP, hD⟩, hS.F ht⟩) hS.2.2 dX1_placeOf_28
    · have k18 : (p0.toInt : Int) < x16.toInt := i_nle rfl rfl c18
      obtain ⟨x21, ex21⟩ : ∃ y : Int32, y = x2 + (-1) := ⟨_, rfl⟩
      have tx21 : x21.toInt = x2.toInt + (-1) := by rw [ex21]; exact ti_add rfl (by decide) (by omega) (by omega)
      refine lv_iinc (v := x21) (lv' := [(2, .int x21), (0, .ref qm), (1, .int p0)]) hx hb dX1_placeOf_21 hl (k := 2) rfl (by rw [ex21]; rfl) (by decide) rfl (fun ls hl => ?_)
      refine lv_goto (tgt := 7) hx hb dX1_placeOf_24 (by decide) ?_
      exact ih x21 ls _ _ ⟨hP, hD, hS, lv_sub hl [1, 2, 0] rfl, (show -1 ≤ x21.toInt ∧ x21.toInt < nm from by omega), (show ∀ k : Nat, k < nm → x21.toInt < k → p0.toInt < (kt k).toInt from fun k h1 h2 => (Decidable.em (x2.toInt < (k : Int))).elim (fun h => i2 k h1 h) (fun h => by rw [show k = x2.toInt.toNat by omega]; omega))⟩ (show (x21.toInt + 1).toNat < (x2.toInt + 1).toNat from by omega)
set_option maxHeartbeats 4000000 in
set_option maxRecDepth 100000 in
theorem ct_X1_isInsideSlope (l : Launch) (G : va_G) (cI cL : ClassId) (sz : Nat) (qm : Nat) (qm1 : Nat) (qm2 : Nat) (qm3 : Nat) (qm4 : Nat) (qm5 : Nat) (zm : Int32) (kt : Nat → Int32) (ks : Nat → Int32) (kf : Nat → Int32) (kl : Nat → Int32) (ku : Nat → Int64) (p0 : Int32) (nm : Nat) (hnm : zm.toInt = nm) (hOm : okM nm kt ks kf kl) (hSr : srt nm kt) (hp0 : -1 ≤ p0.toInt ∧ p0.toInt ≤ 1000000) : Met l yX1_isInsideSlope wsX1_isInsideSlope ({ frames := 1, cells := 0, slots := 0, locals := 22 }) (va_Pc [.ref qm, .int p0] (pre0 G cI cL [(qm, .inr (1, [.ref qm1, .ref qm2, .ref qm3, .ref qm4, .ref qm5, .int zm])), (qm1, .inl (cI, 40, .inl kt)), (qm2, .inl (cI, 40, .inl ks)), (qm3, .inl (cI, 40, .inl kf)), (qm4, .inl (cI, 40, .inl kl)), (qm5, .inl (cL, 40, .inr (.inl ku)))] sz)) (va_Qi (fun (r : Int32) (u : Unit) => (r.toInt = 1 ∧ insS nm kt ks p0.toInt) ∨ (r.toInt = 0 ∧ ¬ insS nm kt ks p0.toInt)) (fun (u : Unit) t => va_P G vwCl [(qm, .inr (1, [.ref qm1, .ref qm2, .ref qm3, .ref qm4, .ref qm5, .int zm])), (qm1, .inl (cI, 40, .inl kt)), (qm2, .inl (cI, 40, .inl ks)), (qm3, .inl (cI, 40, .inl kf)), (qm4, .inl (cI, 40, .inl kl)), (qm5, .inl (cL, 40, .inr (.inl ku)))] t.heap ∧ va_D (va_A [(qm, .inr (1, [.ref qm1, .ref qm2, .ref qm3, .ref qm4, .ref qm5, .int zm])), (qm1, .inl (cI, 40, .inl kt)), (qm2, .inl (cI, 40, .inl ks)), (qm3, .inl (cI, 40, .inl kf)), (qm4, .inl (cI, 40, .inl kl)), (qm5, .inl (cL, 40, .inr (.inl ku)))] sz) [(qm, .inr (1, [.ref qm1, .ref qm2, .ref qm3, .ref qm4, .ref qm5, .int zm])), (qm1, .inl (cI, 40, .inl kt)), (qm2, .inl (cI, 40, .inl ks)), (qm3, .inl (cI, 40, .inl kf)), (qm4, .inl (cI, 40, .inl kl)), (qm5, .inl (cL, 40, .inr (.inl ku)))]) (va_A [(qm, .inr (1, [.ref qm1, .ref qm2, .ref qm3, .ref qm4, .ref qm5, .int zm])), (qm1, .inl (cI, 40, .inl kt)), (qm2, .inl (cI, 40, .inl ks)), (qm3, .inl (cI, 40, .inl kf)), (qm4, .inl (cI, 40, .inl kl)), (qm5, .inl (cL, 40, .inr (.inl ku)))] sz)) 0 0 (va_A [(qm, .inr (1, [.ref qm1, .ref qm2, .ref qm3, .ref qm4, .ref qm5, .int zm])), (qm1, .inl (cI, 40, .inl kt)), (qm2, .inl (cI, 40, .inl ks)), (qm3, .inl (cI, 40, .inl kf)), (qm4, .inl (cI, 40, .inl kl)), (qm5, .inl (cL, 40, .inr (.inl ku)))] sz) := by
  refine Met.ofW (cc := cX1_isInsideSlope) (maxL := 3) (ret := (some .boolean)) (by decide) rfl ?_
  intro p e s m args below meth c s₁ B hml hv
  obtain ⟨rfl, hsz, hP, hK, hD0, hN⟩ := hv
  have hx := B.exec
  have hb := B.bytes
  have hr := B.returns
  have hts := atoms_spec (ws := wsX1_isInsideSlope) B.pre
  have hown : s.vm.findClass RX1 = some m.cls := findClass_of_methodNamed B.named
  have hlocks := B.notSynchronized
  subst hsz
  have hD := hD0.self (sz := s.heap.size)
  generalize hAe : va_A [(qm, .inr (1, [.ref qm1, .ref qm2, .ref qm3, .ref qm4, .ref qm5, .int zm])), (qm1, .inl (cI, 40, .inl kt)), (qm2, .inl (cI, 40, .inl ks)), (qm3, .inl (cI, 40, .inl kf)), (qm4, .inl (cI, 40, .inl kl)), (qm5, .inl (cL, 40, .inr (.inl ku)))] s.heap.size = A at hD ⊢
  have hA : ∀ q : Nat, s.heap.size ≤ q → A q := fun q h => by rw [← hAe]; exact Or.inr h
  have hP : va_P G vwCl [(qm, .inr (1, [.ref qm1, .ref qm2, .ref qm3, .ref qm4, .ref qm5, .int zm])), (qm1, .inl (cI, 40, .inl kt)), (qm2, .inl (cI, 40, .inl ks)), (qm3, .inl (cI, 40, .inl kf)), (qm4, .inl (cI, 40, .inl kl)), (qm5, .inl (cL, 40, .inr (.inl ku)))] s.heap := hP
  have hl := lv_entry ([.ref qm, .int p0]) (n := 3) (Nat.le_of_ble_eq_true rfl)
  rw [lg_entry_eq]
  generalize (lg_sl ([.ref qm, .int p0]) ++ List.replicate (3 - (lg_sl ([.ref qm, .int p0])).length) Slot.unset).toArray = ls at hl ⊢
  have hl : lv_has ls 3 [(0, .ref qm), (1, .int p0)] := hl
  have hf9 := hts (.fieldLink RX1 9 "TempoMaps$Marks" "ticks" "[I") (by decide +kernel)
  have hf15 := hts (.fieldLink RX1 15 "TempoMaps$Marks" "spans" "[I") (by decide +kernel)
  have hiX1 : ∀ w ∈ wsX10, w ∈ wsX1_isInsideSlope := by decide +kernel
  have zi0 : ((0 : Int32)).toInt = 0 := by decide
  have zi1 : ((1 : Int32)).toInt = 1 := by decide
  refine w_h (A := A) hP (fun H locs hP hS => ?_)
  have hn40 := hOm.1
  have hrg := hOm.2.1
  refine lv_aload_n hx hb dX1_isInsideSlope_0 rfl (lv_at hl 0 rfl) ?_
  refine lv_iload_n hx hb dX1_isInsideSlope_1 rfl (lv_at hl 1 rfl) ?_
  have hPc := hP.sub (ws' := [(qm, .inr (1, [.ref qm1, .ref qm2, .ref qm3, .ref qm4, .ref qm5, .int zm])), (qm1, .inl (cI, 40, .inl kt)), (qm2, .inl (cI, 40, .inl ks)), (qm3, .inl (cI, 40, .inl kf)), (qm4, .inl (cI, 40, .inl kl)), (qm5, .inl (cL, 40, .inr (.inl ku)))]) [0, 1, 2, 3, 4, 5] rfl
  have hDc := hD.sub (ws' := [(qm, .inr (1, [.ref qm1, .ref qm2, .ref qm3, .ref qm4, .ref qm5, .int zm])), (qm1, .inl (cI, 40, .inl kt)), (qm2, .inl (cI, 40, .inl ks)), (qm3, .inl (cI, 40, .inl kf)), (qm4, .inl (cI, 40, .inl kl)), (qm5, .inl (cL, 40, .inr (.inl ku)))]) [0, 1, 2, 3, 4, 5] (by decide) rfl
  have hcc := (ct_X1_placeOf l G cI cL H.size qm qm1 qm2 qm3 qm4 qm5 zm kt ks kf kl ku p0 nm hnm hOm hSr)
  refine ro_calli (va_runV (As := [.int p0]) (rest := []) ⟨hx, hb, hml, hown, hts⟩ hcc (cwV 1 hts gX1_isInsideSlope_X1_placeOf rfl rfl rfl (by decide +kernel) ⟨Nat.le_of_ble_eq_true rfl, Nat.le_of_ble_eq_true rfl⟩) ⟨pre_blind, va_recv hK hPc (ci := 1) (q0 := 0) rfl rfl, pre_pass hK hN hPc hDc⟩ rfl rfl hl.1 rfl (lv_room (Nat.le_of_ble_eq_true rfl)) dX1_isInsideSlope_2 ⟨Nat.le_of_ble_eq_true rfl, Nat.le_of_ble_eq_true rfl⟩) hP hD hS hA [0, 1, 2, 3, 4, 5] rfl (fun r2 H locs hw2 hP hS => ?_)
  try dsimp only at hw2
  refine lv_istore_n (lv' := [(2, .int r2), (0, .ref qm), (1, .int p0)]) hx hb dX1_isInsideSlope_5 rfl hl (by decide) rfl (fun ls hl => ?_)
  refine lv_iload_n hx hb dX1_isInsideSlope_6 rfl (lv_at hl 0 rfl) ?_
  refine lv_if_lt (tgt := 41) hx hb dX1_isInsideSlope_7 (by decide) (fun c7 => ?_) (fun c7 => ?_)
  · have k7 : (r2.toInt : Int) < 0 := i_lt rfl (show ((0 : Int32)).toInt = 0 by decide) c7
    have bn := bi_neg hw2 k7
    refine lv_iconst (v := 0) hx hb dX1_isInsideSlope_41 (by decide) ?_
    exact W.zret (v := 0) hx hb hr (by decide) (fun t ht hW => ⟨⟨0, (), rfl, (by (try dsimp only); exact (by first | exact Or.inl ⟨by omega, r2.toInt.toNat, bg.1, by omega, by omega⟩ | exact Or.inr ⟨by omega, ins_none bn.2⟩ | exact Or.inr ⟨by omega, ins_no hOm bg.1 bg.2.2.2 (by omega) bg.2.2.1⟩)), by rw [ht]; exact hP, hD⟩, hS.F ht⟩) hS.2.2 dX1_isInsideSlope_42
  · have k7 : (0 : Int) ≤ r2.toInt := i_nlt rfl (show ((0 : Int32)).toInt = 0 by decide) c7
    have bg := bi_get hw2 k7
    refine lv_aload_n hx hb dX1_isInsideSlope_10 rfl (lv_at hl 1 rfl) ?_
    refine va_get (D := G) (ci := 1) (v := .ref qm1) (C := RX1) (T := TX1) (N := 6) hx hb hts hiX1 hown hK hP 0 rfl rfl 0 (by decide) hf9 (fun _ h9 => h9) rfl dX1_isInsideSlope_11 ?_
    refine lv_iload_n hx hb dX1_isInsideSlope_14 rfl (lv_at hl 0 rfl) ?_
    refine va_iald hx hb hK hP 1 0 rfl rfl (vi_in rfl (by omega) (by omega)) dX1_isInsideSlope_15 ?_
    refine lv_topi (fun x15 ex15 => ?_)
    have ex15 : x15 = kt r2.toInt.toNat := by rw [ex15]; exact congrArg _ (cl_nat rfl (by omega))
    have tx15 : x15.toInt = (kt r2.toInt.toNat).toInt := by rw [ex15]
    have hrg_x15 := hrg r2.toInt.toNat (by omega)
    refine lv_iload_n hx hb dX1_isInsideSlope_16 rfl (lv_at hl 2 rfl) ?_
    refine lv_icmp_ge (tgt := 41) hx hb dX1_isInsideSlope_17 (by decide) (fun c17 => ?_) (fun c17 => ?_)
    · have k17 : (p0.toInt : Int) ≤ x15.toInt := i_le rfl rfl c17
      refine lv_iconst (v := 0) hx hb dX1_isInsideSlope_41 (by decide) ?_
      exact W.zret (v := 0) hx hb hr (by decide) (fun t ht hW => ⟨⟨0, (), rfl, (by (try dsimp only); exact (by first | exact Or.inl ⟨by omega, r2.toInt.toNat, bg.1, by omega, by omega⟩ | exact Or.inr ⟨by omega, ins_none bn.2⟩ | exact Or.inr ⟨by omega, ins_no hOm bg.1 bg.2.2.2 (by omega) bg.2.2.1⟩)), by rw [ht]; exact hP, hD⟩, hS.F ht⟩) hS.2.2 dX1_isInsideSlope_42
    · have k17 : (x15.toInt : Int) < p0.toInt := i_nle rfl rfl c17
      refine lv_iload_n hx hb dX1_isInsideSlope_20 rfl (lv_at hl 2 rfl) ?_
      refine lv_aload_n hx hb dX1_isInsideSlope_21 rfl (lv_at hl 1 rfl) ?_
      refine va_get (D := G) (ci := 1) (v := .ref qm1) (C := RX1) (T := TX1) (N := 6) hx hb hts hiX1 hown hK hP 0 rfl rfl 0 (by decide) hf9 (fun _ h9 => h9) rfl dX1_isInsideSlope_22 ?_
      refine lv_iload_n hx hb dX1_isInsideSlope_25 rfl (lv_at hl 0 rfl) ?_
      refine va_iald hx hb hK hP 1 0 rfl rfl (vi_in rfl (by omega) (by omega)) dX1_isInsideSlope_26 ?_
      refine lv_topi (fun x26 ex26 => ?_)
      have ex26 : x26 = kt r2.toInt.toNat := by rw [ex26]; exact congrArg _ (cl_nat rfl (by omega))
      have tx26 : x26.toInt = (kt r2.toInt.toNat).toInt := by rw [ex26]
      have hrg_x26 := hrg r2.toInt.toNat (by omega)
      refine lv_isub hx hb dX1_isInsideSlope_27 ?_
      refine lv_topi (fun x27 ex27 => ?_)
      have tx27 : x27.toInt = p0.toInt - x26.toInt := by rw [ex27]; exact ti_sub rfl rfl (by omega) (by omega)
      refine lv_aload_n hx hb dX1_isInsideSlope_28 rfl (lv_at hl 1 rfl) ?_
      refine va_get (D := G) (ci := 1) (v := .ref qm2) (C := RX1) (T := TX1) (N := 6) hx hb hts hiX1 hown hK hP 0 rfl rfl 1 (by decide) hf15 (fun _ h9 => h9) rfl dX1_isInsideSlope_29 ?_
      refine lv_iload_n hx hb dX1_isInsideSlope_32 rfl (lv_at hl 0 rfl) ?_
      refine va_iald hx hb hK hP 2 0 rfl rfl (vi_in rfl (by omega) (by omega)) dX1_isInsideSlope_33 ?_
      refine lv_topi (fun x33 ex33 => ?_)
      have ex33 : x33 = ks r2.toInt.toNat := by rw [ex33]; exact congrArg _ (cl_nat rfl (by omega))
      have tx33 : x33.toInt = (ks r2.toInt.toNat).toInt := by rw [ex33]
      have hrg_x33 := hrg r2.toInt.toNat (by omega)
      refine lv_icmp_ge (tgt := 41) hx hb dX1_isInsideSlope_34 (by decide) (fun c34 => ?_) (fun c34 => ?_)
      · have k34 : (x33.toInt : Int) ≤ x27.toInt := i_le rfl rfl c34
        refine lv_iconst (v := 0) hx hb dX1_isInsideSlope_41 (by decide) ?_
        exact W.zret (v := 0) hx hb hr (by decide) (fun t ht hW => ⟨⟨0, (), rfl, (by (try dsimp only); exact (by first | exact Or.inl ⟨by omega, r2.toInt.toNat, bg.1, by omega, by omega⟩ | exact Or.inr ⟨by omega, ins_none bn.2⟩ | exact Or.inr ⟨by omega, ins_no hOm bg.1 bg.2.2.2 (by omega) bg.2.2.1⟩)), by rw [ht]; exact hP, hD⟩, hS.F ht⟩) hS.2.2 dX1_isInsideSlope_42
      · have k34 : (x27.toInt : Int) < x33.toInt := i_nle rfl rfl c34
        refine lv_iconst (v := 1) hx hb dX1_isInsideSlope_37 (by decide) ?_
        refine lv_goto (tgt := 42) hx hb dX1_isInsideSlope_38 (by decide) ?_
        exact W.zret (v := 1) hx hb hr (by decide) (fun t ht hW => ⟨⟨1, (), rfl, (by (try dsimp only); exact (by first | exact Or.inl ⟨by omega, r2.toInt.toNat, bg.1, by omega, by omega⟩ | exact Or.inr ⟨by omega, ins_none bn.2⟩ | exact Or.inr ⟨by omega, ins_no hOm bg.1 bg.2.2.2 (by omega) bg.2.2.1⟩)), by rw [ht]; exact hP, hD⟩, hS.F ht⟩) hS.2.2 dX1_isInsideSlope_42
set_option maxHeartbeats 4000000 in
set_option maxRecDepth 100000 in
theorem ct_X1_isAnyBetween (l : Launch) (G : va_G) (cI cL : ClassId) (sz : Nat) (qm : Nat) (qm1 : Nat) (qm2 : Nat) (qm3 : Nat) (qm4 : Nat) (qm5 : Nat) (zm : Int32) (kt : Nat → Int32) (ks : Nat → Int32) (kf : Nat → Int32) (kl : Nat → Int32) (ku : Nat → Int64) (p0 : Int32) (p1 : Int32) (nm : Nat) (hnm : zm.toInt = nm) (hOm : okM nm kt ks kf kl) (hSr : srt nm kt) (hp0 : -1 ≤ p0.toInt ∧ p0.toInt ≤ 1000000) (hp1 : 0 ≤ p1.toInt ∧ p1.toInt ≤ 1000000) : Met l yX1_isAnyBetween wsX1_isAnyBetween ({ frames := 1, cells := 0, slots := 0, locals := 22 }) (va_Pc [.ref qm, .int p0, .int p1] (pre0 G cI cL [(qm, .inr (1, [.ref qm1, .ref qm2, .ref qm3, .ref qm4, .ref qm5, .int zm])), (qm1, .inl (cI, 40, .inl kt)), (qm2, .inl (cI, 40, .inl ks)), (qm3, .inl (cI, 40, .inl kf)), (qm4, .inl (cI, 40, .inl kl)), (qm5, .inl (cL, 40, .inr (.inl ku)))] sz)) (va_Qi (fun (r : Int32) (u : Unit) => (r.toInt = 1 ∧ btw nm kt p0.toInt p1.toInt) ∨ (r.toInt = 0 ∧ ¬ btw nm kt p0.toInt p1.toInt)) (fun (u : Unit) t => va_P G vwCl [(qm, .inr (1, [.ref qm1, .ref qm2, .ref qm3, .ref qm4, .ref qm5, .int zm])), (qm1, .inl (cI, 40, .inl kt)), (qm2, .inl (cI, 40, .inl ks)), (qm3, .inl (cI, 40, .inl kf)), (qm4, .inl (cI, 40, .inl kl)), (qm5, .inl (cL, 40, .inr (.inl ku)))] t.heap ∧ va_D (va_A [(qm, .inr (1, [.ref qm1, .ref qm2, .ref qm3, .ref qm4, .ref qm5, .int zm])), (qm1, .inl (cI, 40, .inl kt)), (qm2, .inl (cI, 40, .inl ks)), (qm3, .inl (cI, 40, .inl kf)), (qm4, .inl (cI, 40, .inl kl)), (qm5, .inl (cL, 40, .inr (.inl ku)))] sz) [(qm, .inr (1, [.ref qm1, .ref qm2, .ref qm3, .ref qm4, .ref qm5, .int zm])), (qm1, .inl (cI, 40, .inl kt)), (qm2, .inl (cI, 40, .inl ks)), (qm3, .inl (cI, 40, .inl kf)), (qm4, .inl (cI, 40, .inl kl)), (qm5, .inl (cL, 40, .inr (.inl ku)))]) (va_A [(qm, .inr (1, [.ref qm1, .ref qm2, .ref qm3, .ref qm4, .ref qm5, .int zm])), (qm1, .inl (cI, 40, .inl kt)), (qm2, .inl (cI, 40, .inl ks)), (qm3, .inl (cI, 40, .inl kf)), (qm4, .inl (cI, 40, .inl kl)), (qm5, .inl (cL, 40, .inr (.inl ku)))] sz)) 0 0 (va_A [(qm, .inr (1, [.ref qm1, .ref qm2, .ref qm3, .ref qm4, .ref qm5, .int zm])), (qm1, .inl (cI, 40, .inl kt)), (qm2, .inl (cI, 40, .inl ks)), (qm3, .inl (cI, 40, .inl kf)), (qm4, .inl (cI, 40, .inl kl)), (qm5, .inl (cL, 40, .inr (.inl ku)))] sz) := by
  refine Met.ofW (cc := cX1_isAnyBetween) (maxL := 4) (ret := (some .boolean)) (by decide) rfl ?_
  intro p e s m args below meth c s₁ B hml hv
  obtain ⟨rfl, hsz, hP, hK, hD0, hN⟩ := hv
  have hx := B.exec
  have hb := B.bytes
  have hr := B.returns
  have hts := atoms_spec (ws := wsX1_isAnyBetween) B.pre
  have hown : s.vm.findClass RX1 = some m.cls := findClass_of_methodNamed B.named
  have hlocks := B.notSynchronized
  subst hsz
  have hD := hD0.self (sz := s.heap.size)
  generalize hAe : va_A [(qm, .inr (1, [.ref qm1, .ref qm2, .ref qm3, .ref qm4, .ref qm5, .int zm])), (qm1, .inl (cI, 40, .inl kt)), (qm2, .inl (cI, 40, .inl ks)), (qm3, .inl (cI, 40, .inl kf)), (qm4, .inl (cI, 40, .inl kl)), (qm5, .inl (cL, 40, .inr (.inl ku)))] s.heap.size = A at hD ⊢
  have hA : ∀ q : Nat, s.heap.size ≤ q → A q := fun q h => by rw [← hAe]; exact Or.inr h
  have hP : va_P G vwCl [(qm, .inr (1, [.ref qm1, .ref qm2, .ref qm3, .ref qm4, .ref qm5, .int zm])), (qm1, .inl (cI, 40, .inl kt)), (qm2, .inl (cI, 40, .inl ks)), (qm3, .inl (cI, 40, .inl kf)), (qm4, .inl (cI, 40, .inl kl)), (qm5, .inl (cL, 40, .inr (.inl ku)))] s.heap := hP
  have hl := lv_entry ([.ref qm, .int p0, .int p1]) (n := 4) (Nat.le_of_ble_eq_true rfl)
  rw [lg_entry_eq]
  generalize (lg_sl ([.ref qm, .int p0, .int p1]) ++ List.replicate (4 - (lg_sl ([.ref qm, .int p0, .int p1])).length) Slot.unset).toArray = ls at hl ⊢
  have hl : lv_has ls 4 [(0, .ref qm), (1, .int p0), (2, .int p1)] := hl
  have hf9 := hts (.fieldLink RX1 9 "TempoMaps$Marks" "ticks" "[I") (by decide +kernel)
  have hiX1 : ∀ w ∈ wsX10, w ∈ wsX1_isAnyBetween := by decide +kernel
  have zi0 : ((0 : Int32)).toInt = 0 := by decide
  have zi1 : ((1 : Int32)).toInt = 1 := by decide
  refine w_h (A := A) hP (fun H locs hP hS => ?_)
  have hn40 := hOm.1
  have hrg := hOm.2.1
  refine lv_aload_n hx hb dX1_isAnyBetween_0 rfl (lv_at hl 0 rfl) ?_
  refine lv_iload_n hx hb dX1_isAnyBetween_1 rfl (lv_at hl 2 rfl) ?_
  refine lv_iconst (v := 1) hx hb dX1_isAnyBetween_2 (by decide) ?_
  refine lv_isub hx hb dX1_isAnyBetween_3 ?_
  refine lv_topi (fun x3 ex3 => ?_)
  have tx3 : x3.toInt = p1.toInt - 1 := by rw [ex3]; exact ti_sub rfl (show ((1 : Int32)).toInt = 1 by decide) (by omega) (by omega)
  have hPc := hP.sub (ws' := [(qm, .inr (1, [.ref qm1, .ref qm2, .ref qm3, .ref qm4, .ref qm5, .int zm])), (qm1, .inl (cI, 40, .inl kt)), (qm2, .inl (cI, 40, .inl ks)), (qm3, .inl (cI, 40, .inl kf)), (qm4, .inl (cI, 40, .inl kl)), (qm5, .inl (cL, 40, .inr (.inl ku)))]) [0, 1, 2, 3, 4, 5] rfl
  have hDc := hD.sub (ws' := [(qm, .inr (1, [.ref qm1, .ref qm2, .ref qm3, .ref qm4, .ref qm5, .int zm])), (qm1, .inl (cI, 40, .inl kt)), (qm2, .inl (cI, 40, .inl ks)), (qm3, .inl (cI, 40, .inl kf)), (qm4, .inl (cI, 40, .inl kl)), (qm5, .inl (cL, 40, .inr (.inl ku)))]) [0, 1, 2, 3, 4, 5] (by decide) rfl
  have hcc := (ct_X1_placeOf l G cI cL H.size qm qm1 qm2 qm3 qm4 qm5 zm kt ks kf kl ku x3 nm hnm hOm hSr)
  refine ro_calli (va_runV (As := [.int x3]) (rest := []) ⟨hx, hb, hml, hown, hts⟩ hcc (cwV 1 hts gX1_isAnyBetween_X1_placeOf rfl rfl rfl (by decide +kernel) ⟨Nat.le_of_ble_eq_true rfl, Nat.le_of_ble_eq_true rfl⟩) ⟨pre_blind, va_recv hK hPc (ci := 1) (q0 := 0) rfl rfl, pre_pass hK hN hPc hDc⟩ rfl rfl hl.1 rfl (lv_room (Nat.le_of_ble_eq_true rfl)) dX1_isAnyBetween_4 ⟨Nat.le_of_ble_eq_true rfl, Nat.le_of_ble_eq_true rfl⟩) hP hD hS hA [0, 1, 2, 3, 4, 5] rfl (fun r4 H locs hw4 hP hS => ?_)
  try dsimp only at hw4
  refine lv_istore_n (lv' := [(3, .int r4), (0, .ref qm), (1, .int p0), (2, .int p1)]) hx hb dX1_isAnyBetween_7 rfl hl (by decide) rfl (fun ls hl => ?_)
  refine lv_iload_n hx hb dX1_isAnyBetween_8 rfl (lv_at hl 0 rfl) ?_
  refine lv_if_lt (tgt := 26) hx hb dX1_isAnyBetween_9 (by decide) (fun c9 => ?_) (fun c9 => ?_)
  · have k9 : (r4.toInt : Int) < 0 := i_lt rfl (show ((0 : Int32)).toInt = 0 by decide) c9
    have bn := bi_neg hw4 k9
    refine lv_iconst (v := 0) hx hb dX1_isAnyBetween_26 (by decide) ?_
    exact W.zret (v := 0) hx hb hr (by decide) (fun t ht hW => ⟨⟨0, (), rfl, (by (try dsimp only); exact (by first | exact Or.inl ⟨by omega, r4.toInt.toNat, bg.1, by omega, by omega⟩ | exact Or.inr ⟨by omega, fun ⟨k, q1, q2, q3⟩ => by have := bn.2 k q1; omega⟩ | exact Or.inr ⟨by omega, fun ⟨k, q1, q2, q3⟩ => by have := bg.2.2.2 k q1 (by omega); omega⟩)), by rw [ht]; exact hP, hD⟩, hS.F ht⟩) hS.2.2 dX1_isAnyBetween_27
  · have k9 : (0 : Int) ≤ r4.toInt := i_nlt rfl (show ((0 : Int32)).toInt = 0 by decide) c9
    have bg := bi_get hw4 k9
    refine lv_aload_n hx hb dX1_isAnyBetween_12 rfl (lv_at hl 1 rfl) ?_
    refine va_get (D := G) (ci := 1) (v := .ref qm1) (C := RX1) (T := TX1) (N := 6) hx hb hts hiX1 hown hK hP 0 rfl rfl 0 (by decide) hf9 (fun _ h9 => h9) rfl dX1_isAnyBetween_13 ?_
    refine lv_iload_n hx hb dX1_isAnyBetween_16 rfl (lv_at hl 0 rfl) ?_
    refine va_iald hx hb hK hP 1 0 rfl rfl (vi_in rfl (by omega) (by omega)) dX1_isAnyBetween_17 ?_
    refine lv_topi (fun x17 ex17 => ?_)
    have ex17 : x17 = kt r4.toInt.toNat := by rw [ex17]; exact congrArg _ (cl_nat rfl (by omega))
    have tx17 : x17.toInt = (kt r4.toInt.toNat).toInt := by rw [ex17]
    have hrg_x17 := hrg r4.toInt.toNat (by omega)
    refine lv_iload_n hx hb dX1_isAnyBetween_18 rfl (lv_at hl 2 rfl) ?_
    refine lv_icmp_le (tgt := 26) hx hb dX1_isAnyBetween_19 (by decide) (fun c19 => ?_) (fun c19 => ?_)
    · have k19 : (x17.toInt : Int) ≤ p0.toInt := i_le rfl rfl c19
      refine lv_iconst (v := 0) hx hb dX1_isAnyBetween_26 (by decide) ?_
      exact W.zret (v := 0) hx hb hr (by decide) (fun t ht hW => ⟨⟨0, (), rfl, (by (try dsimp only); exact (by first | exact Or.inl ⟨by omega, r4.toInt.toNat, bg.1, by omega, by omega⟩ | exact Or.inr ⟨by omega, fun ⟨k, q1, q2, q3⟩ => by have := bn.2 k q1; omega⟩ | exact Or.inr ⟨by omega, fun ⟨k, q1, q2, q3⟩ => by have := bg.2.2.2 k q1 (by omega); omega⟩)), by rw [ht]; exact hP, hD⟩, hS.F ht⟩) hS.2.2 dX1_isAnyBetween_27
    · have k19 : (p0.toInt : Int) < x17.toInt := i_nle rfl rfl c19
      refine lv_iconst (v := 1) hx hb dX1_isAnyBetween_22 (by decide) ?_
      refine lv_goto (tgt := 27) hx hb dX1_isAnyBetween_23 (by decide) ?_
      exact W.zret (v := 1) hx hb hr (by decide) (fun t ht hW => ⟨⟨1, (), rfl, (by (try dsimp only); exact (by first | exact Or.inl ⟨by omega, r4.toInt.toNat, bg.1, by omega, by omega⟩ | exact Or.inr ⟨by omega, fun ⟨k, q1, q2, q3⟩ => by have := bn.2 k q1; omega⟩ | exact Or.inr ⟨by omega, fun ⟨k, q1, q2, q3⟩ => by have := bg.2.2.2 k q1 (by omega); omega⟩)), by rw [ht]; exact hP, hD⟩, hS.F ht⟩) hS.2.2 dX1_isAnyBetween_27
set_option maxHeartbeats 4000000 in
set_option maxRecDepth 100000 in
theorem ct_X1_tell (l : Launch) (G : va_G) (cI cL : ClassId) (sz : Nat) (qm : Nat) (qm1 : Nat) (qm2 : Nat) (qm3 : Nat) (qm4 : Nat) (qm5 : Nat) (zm : Int32) (kt : Nat → Int32) (ks : Nat → Int32) (kf : Nat → Int32) (kl : Nat → Int32) (ku : Nat → Int64) (p0 : Int32) (p1 : Int32) (nm : Nat) (hnm : zm.toInt = nm) (hOm : okM nm kt ks kf kl) (hp1 : 0 ≤ p1.toInt ∧ p1.toInt ≤ 4) : Met l yX1_tell wsX1_tell ({ frames := 0, cells := 0, slots := 0, locals := 0 }) (va_Pc [.ref qm, .int p0, .int p1] (pre0 G cI cL [(qm, .inr (1, [.ref qm1, .ref qm2, .ref qm3, .ref qm4, .ref qm5, .int zm])), (qm1, .inl (cI, 40, .inl kt)), (qm2, .inl (cI, 40, .inl ks)), (qm3, .inl (cI, 40, .inl kf)), (qm4, .inl (cI, 40, .inl kl)), (qm5, .inl (cL, 40, .inr (.inl ku)))] sz)) (va_Qi (fun (r : Int32) (u : Unit) => ((p0.toInt < 0 ∨ nm ≤ p0.toInt) ∧ r.toInt = -1) ∨ (0 ≤ p0.toInt ∧ p0.toInt < nm ∧ r.toInt = tellV kt ks kf kl p0.toInt.toNat p1.toInt)) (fun (u : Unit) t => va_P G vwCl [(qm, .inr (1, [.ref qm1, .ref qm2, .ref qm3, .ref qm4, .ref qm5, .int zm])), (qm1, .inl (cI, 40, .inl kt)), (qm2, .inl (cI, 40, .inl ks)), (qm3, .inl (cI, 40, .inl kf)), (qm4, .inl (cI, 40, .inl kl)), (qm5, .inl (cL, 40, .inr (.inl ku)))] t.heap ∧ va_D (va_A [(qm, .inr (1, [.ref qm1, .ref qm2, .ref qm3, .ref qm4, .ref qm5, .int zm])), (qm1, .inl (cI, 40, .inl kt)), (qm2, .inl (cI, 40, .inl ks)), (qm3, .inl (cI, 40, .inl kf)), (qm4, .inl (cI, 40, .inl kl)), (qm5, .inl (cL, 40, .inr (.inl ku)))] sz) [(qm, .inr (1, [.ref qm1, .ref qm2, .ref qm3, .ref qm4, .ref qm5, .int zm])), (qm1, .inl (cI, 40, .inl kt)), (qm2, .inl (cI, 40, .inl ks)), (qm3, .inl (cI, 40, .inl kf)), (qm4, .inl (cI, 40, .inl kl)), (qm5, .inl (cL, 40, .inr (.inl ku)))]) (va_A [(qm, .inr (1, [.ref qm1, .ref qm2, .ref qm3, .ref qm4, .ref qm5, .int zm])), (qm1, .inl (cI, 40, .inl kt)), (qm2, .inl (cI, 40, .inl ks)), (qm3, .inl (cI, 40, .inl kf)), (qm4, .inl (cI, 40, .inl kl)), (qm5, .inl (cL, 40, .inr (.inl ku)))] sz)) 0 0 (va_A [(qm, .inr (1, [.ref qm1, .ref qm2, .ref qm3, .ref qm4, .ref qm5, .int zm])), (qm1, .inl (cI, 40, .inl kt)), (qm2, .inl (cI, 40, .inl ks)), (qm3, .inl (cI, 40, .inl kf)), (qm4, .inl (cI, 40, .inl kl)), (qm5, .inl (cL, 40, .inr (.inl ku)))] sz) := by
  refine Met.ofW (cc := cX1_tell) (maxL := 3) (ret := (some .int)) (by decide) rfl ?_
  intro p e s m args below meth c s₁ B hml hv
  obtain ⟨rfl, hsz, hP, hK, hD0, hN⟩ := hv
  have hx := B.exec
  have hb := B.bytes
  have hr := B.returns
  have hts := atoms_spec (ws := wsX1_tell) B.pre
  have hown : s.vm.findClass RX1 = some m.cls := findClass_of_methodNamed B.named
  have hlocks := B.notSynchronized
  subst hsz
  have hD := hD0.self (sz := s.heap.size)
  generalize hAe : va_A [(qm, .inr (1, [.ref qm1, .ref qm2, .ref qm3, .ref qm4, .ref qm5, .int zm])), (qm1, .inl (cI, 40, .inl kt)), (qm2, .inl (cI, 40, .inl ks)), (qm3, .inl (cI, 40, .inl kf)), (qm4, .inl (cI, 40, .inl kl)), (qm5, .inl (cL, 40, .inr (.inl ku)))] s.heap.size = A at hD ⊢
  have hA : ∀ q : Nat, s.heap.size ≤ q → A q := fun q h => by rw [← hAe]; exact Or.inr h
  have hP : va_P G vwCl [(qm, .inr (1, [.ref qm1, .ref qm2, .ref qm3, .ref qm4, .ref qm5, .int zm])), (qm1, .inl (cI, 40, .inl kt)), (qm2, .inl (cI, 40, .inl ks)), (qm3, .inl (cI, 40, .inl kf)), (qm4, .inl (cI, 40, .inl kl)), (qm5, .inl (cL, 40, .inr (.inl ku)))] s.heap := hP
  have hl := lv_entry ([.ref qm, .int p0, .int p1]) (n := 3) (Nat.le_of_ble_eq_true rfl)
  rw [lg_entry_eq]
  generalize (lg_sl ([.ref qm, .int p0, .int p1]) ++ List.replicate (3 - (lg_sl ([.ref qm, .int p0, .int p1])).length) Slot.unset).toArray = ls at hl ⊢
  have hl : lv_has ls 3 [(0, .ref qm), (1, .int p0), (2, .int p1)] := hl
  have hf28 := hts (.fieldLink RX1 28 "TempoMaps$Marks" "size" "I") (by decide +kernel)
  have hf9 := hts (.fieldLink RX1 9 "TempoMaps$Marks" "ticks" "[I") (by decide +kernel)
  have hf15 := hts (.fieldLink RX1 15 "TempoMaps$Marks" "spans" "[I") (by decide +kernel)
  have hf18 := hts (.fieldLink RX1 18 "TempoMaps$Marks" "firstPaces" "[I") (by decide +kernel)
  have hf21 := hts (.fieldLink RX1 21 "TempoMaps$Marks" "lastPaces" "[I") (by decide +kernel)
  have hiX1 : ∀ w ∈ wsX10, w ∈ wsX1_tell := by decide +kernel
  have zim1 : ((-1 : Int32)).toInt = -1 := by decide
  have zi0 : ((0 : Int32)).toInt = 0 := by decide
  have zi1 : ((1 : Int32)).toInt = 1 := by decide
  refine w_h (A := A) hP (fun H locs hP hS => ?_)
  have hn40 := hOm.1
  have hrg := hOm.2.1
  refine lv_iload_n hx hb dX1_tell_0 rfl (lv_at hl 1 rfl) ?_
  refine lv_if_lt (tgt := 12) hx hb dX1_tell_1 (by decide) (fun c1 => ?_) (fun c1 => ?_)
  · have k1 : (p0.toInt : Int) < 0 := i_lt rfl (show ((0 : Int32)).toInt = 0 by decide) c1
    refine lv_iconst (v := (-1)) hx hb dX1_tell_12 (by decide) ?_
    exact W.iret (v := (-1)) hx hb hr (fun t ht hW => ⟨⟨(-1), (), rfl, (by (try dsimp only); exact (Or.inl ⟨by omega, by omega⟩)), by rw [ht]; exact hP, hD⟩, hS.F ht⟩) hS.2.2 dX1_tell_13
  · have k1 : (0 : Int) ≤ p0.toInt := i_nlt rfl (show ((0 : Int32)).toInt = 0 by decide) c1
    refine lv_iload_n hx hb dX1_tell_4 rfl (lv_at hl 1 rfl) ?_
    refine lv_aload_n hx hb dX1_tell_5 rfl (lv_at hl 0 rfl) ?_
    refine va_get (D := G) (ci := 1) (v := .int zm) (C := RX1) (T := TX1) (N := 6) hx hb hts hiX1 hown hK hP 0 rfl rfl 5 (by decide) hf28 (fun _ h9 => h9) rfl dX1_tell_6 ?_
    refine lv_icmp_lt (tgt := 14) hx hb dX1_tell_9 (by decide) (fun c9 => ?_) (fun c9 => ?_)
    · have k9 : (p0.toInt : Int) < zm.toInt := i_lt rfl rfl c9
      refine lv_iload_n hx hb dX1_tell_14 rfl (lv_at hl 2 rfl) ?_
      by_cases c15 : p1.toInt < 0 ∨ 3 < p1.toInt
      · refine lv_tableOut (tgt := 80) hx hb dX1_tell_15 c15 (by decide) ?_
        refine lv_aload_n hx hb dX1_tell_80 rfl (lv_at hl 0 rfl) ?_
        refine va_get (D := G) (ci := 1) (v := .ref qm2) (C := RX1) (T := TX1) (N := 6) hx hb hts hiX1 hown hK hP 0 rfl rfl 1 (by decide) hf15 (fun _ h9 => h9) rfl dX1_tell_81 ?_
        refine lv_iload_n hx hb dX1_tell_84 rfl (lv_at hl 1 rfl) ?_
        refine va_iald hx hb hK hP 2 0 rfl rfl (vi_in rfl (by omega) (by omega)) dX1_tell_85 ?_
        refine lv_topi (fun x85 ex85 => ?_)
        have ex85 : x85 = ks p0.toInt.toNat := by rw [ex85]; exact congrArg _ (cl_nat rfl (by omega))
        have tx85 : x85.toInt = (ks p0.toInt.toNat).toInt := by rw [ex85]
        have hrg_x85 := hrg p0.toInt.toNat (by omega)
        exact W.iret (v := x85) hx hb hr (fun t ht hW => ⟨⟨x85, (), rfl, (by (try dsimp only); exact (Or.inr ⟨by omega, by omega, by unfold tellV; rw [if_neg (by omega), if_neg (by omega), if_neg (by omega), if_neg (by omega)]; omega⟩)), by rw [ht]; exact hP, hD⟩, hS.F ht⟩) hS.2.2 dX1_tell_86
      · have d15 : p1.toInt = 0 ∨ p1.toInt = 1 ∨ p1.toInt = 2 ∨ p1.toInt = 3 := by omega
        rcases d15 with d15 | d15 | d15 | d15
        · refine lv_tableIn (off := 29) (tgt := 44) hx hb dX1_tell_15 (by omega) (by omega) (by rw [d15]; rfl) (by decide) ?_
          refine lv_aload_n hx hb dX1_tell_44 rfl (lv_at hl 0 rfl) ?_
          refine va_get (D := G) (ci := 1) (v := .ref qm1) (C := RX1) (T := TX1) (N := 6) hx hb hts hiX1 hown hK hP 0 rfl rfl 0 (by decide) hf9 (fun _ h9 => h9) rfl dX1_tell_45 ?_
          refine lv_iload_n hx hb dX1_tell_48 rfl (lv_at hl 1 rfl) ?_
          refine va_iald hx hb hK hP 1 0 rfl rfl (vi_in rfl (by omega) (by omega)) dX1_tell_49 ?_
          refine lv_topi (fun x49 ex49 => ?_)
          have ex49 : x49 = kt p0.toInt.toNat := by rw [ex49]; exact congrArg _ (cl_nat rfl (by omega))
          have tx49 : x49.toInt = (kt p0.toInt.toNat).toInt := by rw [ex49]
          have hrg_x49 := hrg p0.toInt.toNat (by omega)
          exact W.iret (v := x49) hx hb hr (fun t ht hW => ⟨⟨x49, (), rfl, (by (try dsimp only); exact (Or.inr ⟨by omega, by omega, by unfold tellV; rw [d15, if_pos rfl]; omega⟩)), by rw [ht]; exact hP, hD⟩, hS.F ht⟩) hS.2.2 dX1_tell_50
        · refine lv_tableIn (off := 36) (tgt := 51) hx hb dX1_tell_15 (by omega) (by omega) (by rw [d15]; rfl) (by decide) ?_
          refine lv_aload_n hx hb dX1_tell_51 rfl (lv_at hl 0 rfl) ?_
          refine va_get (D := G) (ci := 1) (v := .ref qm2) (C := RX1) (T := TX1) (N := 6) hx hb hts hiX1 hown hK hP 0 rfl rfl 1 (by decide) hf15 (fun _ h9 => h9) rfl dX1_tell_52 ?_
          refine lv_iload_n hx hb dX1_tell_55 rfl (lv_at hl 1 rfl) ?_
          refine va_iald hx hb hK hP 2 0 rfl rfl (vi_in rfl (by omega) (by omega)) dX1_tell_56 ?_
          refine lv_topi (fun x56 ex56 => ?_)
          have ex56 : x56 = ks p0.toInt.toNat := by rw [ex56]; exact congrArg _ (cl_nat rfl (by omega))
          have tx56 : x56.toInt = (ks p0.toInt.toNat).toInt := by rw [ex56]
          have hrg_x56 := hrg p0.toInt.toNat (by omega)
          refine lv_if_le (tgt := 64) hx hb dX1_tell_57 (by decide) (fun c57 => ?_) (fun c57 => ?_)
          · have k57 : (x56.toInt : Int) ≤ 0 := i_le rfl (show ((0 : Int32)).toInt = 0 by decide) c57
            refine lv_iconst (v := 0) hx hb dX1_tell_64 (by decide) ?_
            exact W.iret (v := 0) hx hb hr (fun t ht hW => ⟨⟨0, (), rfl, (by (try dsimp only); exact (Or.inr ⟨by omega, by omega, by unfold tellV; rw [d15, if_neg (by omega), if_pos rfl]; (first | rw [if_pos (by omega)] | rw [if_neg (by omega)]); omega⟩)), by rw [ht]; exact hP, hD⟩, hS.F ht⟩) hS.2.2 dX1_tell_65
          · have k57 : (0 : Int) < x56.toInt := i_nle rfl (show ((0 : Int32)).toInt = 0 by decide) c57
            refine lv_iconst (v := 1) hx hb dX1_tell_60 (by decide) ?_
            refine lv_goto (tgt := 65) hx hb dX1_tell_61 (by decide) ?_
            exact W.iret (v := 1) hx hb hr (fun t ht hW => ⟨⟨1, (), rfl, (by (try dsimp only); exact (Or.inr ⟨by omega, by omega, by unfold tellV; rw [d15, if_neg (by omega), if_pos rfl]; (first | rw [if_pos (by omega)] | rw [if_neg (by omega)]); omega⟩)), by rw [ht]; exact hP, hD⟩, hS.F ht⟩) hS.2.2 dX1_tell_65
        · refine lv_tableIn (off := 51) (tgt := 66) hx hb dX1_tell_15 (by omega) (by omega) (by rw [d15]; rfl) (by decide) ?_
          refine lv_aload_n hx hb dX1_tell_66 rfl (lv_at hl 0 rfl) ?_
          refine va_get (D := G) (ci := 1) (v := .ref qm3) (C := RX1) (T := TX1) (N := 6) hx hb hts hiX1 hown hK hP 0 rfl rfl 2 (by decide) hf18 (fun _ h9 => h9) rfl dX1_tell_67 ?_
          refine lv_iload_n hx hb dX1_tell_70 rfl (lv_at hl 1 rfl) ?_
          refine va_iald hx hb hK hP 3 0 rfl rfl (vi_in rfl (by omega) (by omega)) dX1_tell_71 ?_
          refine lv_topi (fun x71 ex71 => ?_)
          have ex71 : x71 = kf p0.toInt.toNat := by rw [ex71]; exact congrArg _ (cl_nat rfl (by omega))
          have tx71 : x71.toInt = (kf p0.toInt.toNat).toInt := by rw [ex71]
          have hrg_x71 := hrg p0.toInt.toNat (by omega)
          exact W.iret (v := x71) hx hb hr (fun t ht hW => ⟨⟨x71, (), rfl, (by (try dsimp only); exact (Or.inr ⟨by omega, by omega, by unfold tellV; rw [d15, if_neg (by omega), if_neg (by omega), if_pos rfl]; omega⟩)), by rw [ht]; exact hP, hD⟩, hS.F ht⟩) hS.2.2 dX1_tell_72
        · refine lv_tableIn (off := 58) (tgt := 73) hx hb dX1_tell_15 (by omega) (by omega) (by rw [d15]; rfl) (by decide) ?_
          refine lv_aload_n hx hb dX1_tell_73 rfl (lv_at hl 0 rfl) ?_
          refine va_get (D := G) (ci := 1) (v := .ref qm4) (C := RX1) (T := TX1) (N := 6) hx hb hts hiX1 hown hK hP 0 rfl rfl 3 (by decide) hf21 (fun _ h9 => h9) rfl dX1_tell_74 ?_
          refine lv_iload_n hx hb dX1_tell_77 rfl (lv_at hl 1 rfl) ?_
          refine va_iald hx hb hK hP 4 0 rfl rfl (vi_in rfl (by omega) (by omega)) dX1_tell_78 ?_
          refine lv_topi (fun x78 ex78 => ?_)
          have ex78 : x78 = kl p0.toInt.toNat := by rw [ex78]; exact congrArg _ (cl_nat rfl (by omega))
          have tx78 : x78.toInt = (kl p0.toInt.toNat).toInt := by rw [ex78]
          have hrg_x78 := hrg p0.toInt.toNat (by omega)
          exact W.iret (v := x78) hx hb hr (fun t ht hW => ⟨⟨x78, (), rfl, (by (try dsimp only); exact (Or.inr ⟨by omega, by omega, by unfold tellV; rw [d15, if_neg (by omega), if_neg (by omega), if_neg (by omega), if_pos rfl]; omega⟩)), by rw [ht]; exact hP, hD⟩, hS.F ht⟩) hS.2.2 dX1_tell_79
    · have k9 : (zm.toInt : Int) ≤ p0.toInt := i_nlt rfl rfl c9
      refine lv_iconst (v := (-1)) hx hb dX1_tell_12 (by decide) ?_
      exact W.iret (v := (-1)) hx hb hr (fun t ht hW => ⟨⟨(-1), (), rfl, (by (try dsimp only); exact (Or.inl ⟨by omega, by omega⟩)), by rw [ht]; exact hP, hD⟩, hS.F ht⟩) hS.2.2 dX1_tell_13
set_option maxHeartbeats 4000000 in
set_option maxRecDepth 100000 in
theorem ct_X1_copyRow (l : Launch) (G : va_G) (cI cL : ClassId) (sz : Nat) (qm : Nat) (qm1 : Nat) (qm2 : Nat) (qm3 : Nat) (qm4 : Nat) (qm5 : Nat) (zm : Int32) (kt : Nat → Int32) (ks : Nat → Int32) (kf : Nat → Int32) (kl : Nat → Int32) (ku : Nat → Int64) (p0 : Int32) (p1 : Int32) (hp0 : 0 ≤ p0.toInt ∧ p0.toInt < 40) (hp1 : 0 ≤ p1.toInt ∧ p1.toInt < 40) : Met l yX1_copyRow wsX1_copyRow ({ frames := 0, cells := 0, slots := 0, locals := 0 }) (va_Pc [.ref qm, .int p0, .int p1] (pre0 G cI cL [(qm, .inr (1, [.ref qm1, .ref qm2, .ref qm3, .ref qm4, .ref qm5, .int zm])), (qm1, .inl (cI, 40, .inl kt)), (qm2, .inl (cI, 40, .inl ks)), (qm3, .inl (cI, 40, .inl kf)), (qm4, .inl (cI, 40, .inl kl)), (qm5, .inl (cL, 40, .inr (.inl ku)))] sz)) (va_Qv (fun (u : (Nat → Int32) × (Nat → Int32) × (Nat → Int32) × (Nat → Int32)) => u.1 = upd kt p1.toInt.toNat (kt p0.toInt.toNat) ∧ u.2.1 = upd ks p1.toInt.toNat (ks p0.toInt.toNat) ∧ u.2.2.1 = upd kf p1.toInt.toNat (kf p0.toInt.toNat) ∧ u.2.2.2 = upd kl p1.toInt.toNat (kl p0.toInt.toNat)) (fun (u : (Nat → Int32) × (Nat → Int32) × (Nat → Int32) × (Nat → Int32)) t => va_P G vwCl [(qm, .inr (1, [.ref qm1, .ref qm2, .ref qm3, .ref qm4, .ref qm5, .int zm])), (qm1, .inl (cI, 40, .inl (u.1))), (qm2, .inl (cI, 40, .inl (u.2.1))), (qm3, .inl (cI, 40, .inl (u.2.2.1))), (qm4, .inl (cI, 40, .inl (u.2.2.2))), (qm5, .inl (cL, 40, .inr (.inl ku)))] t.heap ∧ va_D (va_A [(qm, .inr (1, [.ref qm1, .ref qm2, .ref qm3, .ref qm4, .ref qm5, .int zm])), (qm1, .inl (cI, 40, .inl kt)), (qm2, .inl (cI, 40, .inl ks)), (qm3, .inl (cI, 40, .inl kf)), (qm4, .inl (cI, 40, .inl kl)), (qm5, .inl (cL, 40, .inr (.inl ku)))] sz) [(qm, .inr (1, [.ref qm1, .ref qm2, .ref qm3, .ref qm4, .ref qm5, .int zm])), (qm1, .inl (cI, 40, .inl (u.1))), (qm2, .inl (cI, 40, .inl (u.2.1))), (qm3, .inl (cI, 40, .inl (u.2.2.1))), (qm4, .inl (cI, 40, .inl (u.2.2.2))), (qm5, .inl (cL, 40, .inr (.inl ku)))]) (va_A [(qm, .inr (1, [.ref qm1, .ref qm2, .ref qm3, .ref qm4, .ref qm5, .int zm])), (qm1, .inl (cI, 40, .inl kt)), (qm2, .inl (cI, 40, .inl ks)), (qm3, .inl (cI, 40, .inl kf)), (qm4, .inl (cI, 40, .inl kl)), (qm5, .inl (cL, 40, .inr (.inl ku)))] sz)) 0 0 (va_A [(qm, .inr (1, [.ref qm1, .ref qm2, .ref qm3, .ref qm4, .ref qm5, .int zm])), (qm1, .inl (cI, 40, .inl kt)), (qm2, .inl (cI, 40, .inl ks)), (qm3, .inl (cI, 40, .inl kf)), (qm4, .inl (cI, 40, .inl kl)), (qm5, .inl (cL, 40, .inr (.inl ku)))] sz) := by
  refine Met.ofW (cc := cX1_copyRow) (maxL := 3) (ret := none) (by decide) rfl ?_
  intro p e s m args below meth c s₁ B hml hv
  obtain ⟨rfl, hsz, hP, hK, hD0, hN⟩ := hv
  have hx := B.exec
  have hb := B.bytes
  have hr := B.returns
  have hts := atoms_spec (ws := wsX1_copyRow) B.pre
  have hown : s.vm.findClass RX1 = some m.cls := findClass_of_methodNamed B.named
  have hlocks := B.notSynchronized
  subst hsz
  have hD := hD0.self (sz := s.heap.size)
  generalize hAe : va_A [(qm, .inr (1, [.ref qm1, .ref qm2, .ref qm3, .ref qm4, .ref qm5, .int zm])), (qm1, .inl (cI, 40, .inl kt)), (qm2, .inl (cI, 40, .inl ks)), (qm3, .inl (cI, 40, .inl kf)), (qm4, .inl (cI, 40, .inl kl)), (qm5, .inl (cL, 40, .inr (.inl ku)))] s.heap.size = A at hD ⊢
  have hA : ∀ q : Nat, s.heap.size ≤ q → A q := fun q h => by rw [← hAe]; exact Or.inr h
  have hP : va_P G vwCl [(qm, .inr (1, [.ref qm1, .ref qm2, .ref qm3, .ref qm4, .ref qm5, .int zm])), (qm1, .inl (cI, 40, .inl kt)), (qm2, .inl (cI, 40, .inl ks)), (qm3, .inl (cI, 40, .inl kf)), (qm4, .inl (cI, 40, .inl kl)), (qm5, .inl (cL, 40, .inr (.inl ku)))] s.heap := hP
  have hl := lv_entry ([.ref qm, .int p0, .int p1]) (n := 3) (Nat.le_of_ble_eq_true rfl)
  rw [lg_entry_eq]
  generalize (lg_sl ([.ref qm, .int p0, .int p1]) ++ List.replicate (3 - (lg_sl ([.ref qm, .int p0, .int p1])).length) Slot.unset).toArray = ls at hl ⊢
  have hl : lv_has ls 3 [(0, .ref qm), (1, .int p0), (2, .int p1)] := hl
  have hf9 := hts (.fieldLink RX1 9 "TempoMaps$Marks" "ticks" "[I") (by decide +kernel)
  have hf15 := hts (.fieldLink RX1 15 "TempoMaps$Marks" "spans" "[I") (by decide +kernel)
  have hf18 := hts (.fieldLink RX1 18 "TempoMaps$Marks" "firstPaces" "[I") (by decide +kernel)
  have hf21 := hts (.fieldLink RX1 21 "TempoMaps$Marks" "lastPaces" "[I") (by decide +kernel)
  have hiX1 : ∀ w ∈ wsX10, w ∈ wsX1_copyRow := by decide +kernel
  refine w_h (A := A) hP (fun H locs hP hS => ?_)
  refine lv_aload_n hx hb dX1_copyRow_0 rfl (lv_at hl 0 rfl) ?_
  refine va_get (D := G) (ci := 1) (v := .ref qm1) (C := RX1) (T := TX1) (N := 6) hx hb hts hiX1 hown hK hP 0 rfl rfl 0 (by decide) hf9 (fun _ h9 => h9) rfl dX1_copyRow_1 ?_
  refine lv_iload_n hx hb dX1_copyRow_4 rfl (lv_at hl 2 rfl) ?_
  refine lv_aload_n hx hb dX1_copyRow_5 rfl (lv_at hl 0 rfl) ?_
  refine va_get (D := G) (ci := 1) (v := .ref qm1) (C := RX1) (T := TX1) (N := 6) hx hb hts hiX1 hown hK hP 0 rfl rfl 0 (by decide) hf9 (fun _ h9 => h9) rfl dX1_copyRow_6 ?_
  refine lv_iload_n hx hb dX1_copyRow_9 rfl (lv_at hl 1 rfl) ?_
  refine va_iald hx hb hK hP 1 0 rfl rfl (vi_in rfl (by omega) (by omega)) dX1_copyRow_10 ?_
  refine lv_topi (fun x10 ex10 => ?_)
  have ex10 : x10 = kt p0.toInt.toNat := by rw [ex10]; exact congrArg _ (cl_nat rfl (by omega))
  have tx10 : x10.toInt = (kt p0.toInt.toNat).toInt := by rw [ex10]
  refine va_iast hx hb hK hP hD hS 1 0 rfl rfl (vi_in rfl (by omega) (by omega)) dX1_copyRow_11 (fun H locs hP hD hS => ?_)
  rw [cl_nat rfl (show p1.toInt = ((p1.toInt.toNat : Nat) : Int) by omega)] at hP hD
  have hP : va_P G vwCl [(qm, .inr (1, [.ref qm1, .ref qm2, .ref qm3, .ref qm4, .ref qm5, .int zm])), (qm1, .inl (cI, 40, .inl (upd kt p1.toInt.toNat x10))), (qm2, .inl (cI, 40, .inl ks)), (qm3, .inl (cI, 40, .inl kf)), (qm4, .inl (cI, 40, .inl kl)), (qm5, .inl (cL, 40, .inr (.inl ku)))] H := hP
  have hD : va_D A [(qm, .inr (1, [.ref qm1, .ref qm2, .ref qm3, .ref qm4, .ref qm5, .int zm])), (qm1, .inl (cI, 40, .inl (upd kt p1.toInt.toNat x10))), (qm2, .inl (cI, 40, .inl ks)), (qm3, .inl (cI, 40, .inl kf)), (qm4, .inl (cI, 40, .inl kl)), (qm5, .inl (cL, 40, .inr (.inl ku)))] := hD
  refine lv_aload_n hx hb dX1_copyRow_12 rfl (lv_at hl 0 rfl) ?_
  refine va_get (D := G) (ci := 1) (v := .ref qm2) (C := RX1) (T := TX1) (N := 6) hx hb hts hiX1 hown hK hP 0 rfl rfl 1 (by decide) hf15 (fun _ h9 => h9) rfl dX1_copyRow_13 ?_
  refine lv_iload_n hx hb dX1_copyRow_16 rfl (lv_at hl 2 rfl) ?_
  refine lv_aload_n hx hb dX1_copyRow_17 rfl (lv_at hl 0 rfl) ?_
  refine va_get (D := G) (ci := 1) (v := .ref qm2) (C := RX1) (T := TX1) (N := 6) hx hb hts hiX1 hown hK hP 0 rfl rfl 1 (by decide) hf15 (fun _ h9 => h9) rfl dX1_copyRow_18 ?_
  refine lv_iload_n hx hb dX1_copyRow_21 rfl (lv_at hl 1 rfl) ?_
  refine va_iald hx hb hK hP 2 0 rfl rfl (vi_in rfl (by omega) (by omega)) dX1_copyRow_22 ?_
  refine lv_topi (fun x22 ex22 => ?_)
  have ex22 : x22 = ks p0.toInt.toNat := by rw [ex22]; exact congrArg _ (cl_nat rfl (by omega))
  have tx22 : x22.toInt = (ks p0.toInt.toNat).toInt := by rw [ex22]
  refine va_iast hx hb hK hP hD hS 2 0 rfl rfl (vi_in rfl (by omega) (by omega)) dX1_copyRow_23 (fun H locs hP hD hS => ?_)
  rw [cl_nat rfl (show p1.toInt = ((p1.toInt.toNat : Nat) : Int) by omega)] at hP hD
  have hP : va_P G vwCl [(qm, .inr (1, [.ref qm1, .ref qm2, .ref qm3, .ref qm4, .ref qm5, .int zm])), (qm1, .inl (cI, 40, .inl (upd kt p1.toInt.toNat x10))), (qm2, .inl (cI, 40, .inl (upd ks p1.toInt.toNat x22))), (qm3, .inl (cI, 40, .inl kf)), (qm4, .inl (cI, 40, .inl kl)), (qm5, .inl (cL, 40, .inr (.inl ku)))] H := hP
  have hD : va_D A [(qm, .inr (1, [.ref qm1, .ref qm2, .ref qm3, .ref qm4, .ref qm5, .int zm])), (qm1, .inl (cI, 40, .inl (upd kt p1.toInt.toNat x10))), (qm2, .inl (cI, 40, .inl (upd ks p1.toInt.toNat x22))), (qm3, .inl (cI, 40, .inl kf)), (qm4, .inl (cI, 40, .inl kl)), (qm5, .inl (cL, 40, .inr (.inl ku)))] := hD
  refine lv_aload_n hx hb dX1_copyRow_24 rfl (lv_at hl 0 rfl) ?_
  refine va_get (D := G) (ci := 1) (v := .ref qm3) (C := RX1) (T := TX1) (N := 6) hx hb hts hiX1 hown hK hP 0 rfl rfl 2 (by decide) hf18 (fun _ h9 => h9) rfl dX1_copyRow_25 ?_
  refine lv_iload_n hx hb dX1_copyRow_28 rfl (lv_at hl 2 rfl) ?_
  refine lv_aload_n hx hb dX1_copyRow_29 rfl (lv_at hl 0 rfl) ?_
  refine va_get (D := G) (ci := 1) (v := .ref qm3) (C := RX1) (T := TX1) (N := 6) hx hb hts hiX1 hown hK hP 0 rfl rfl 2 (by decide) hf18 (fun _ h9 => h9) rfl dX1_copyRow_30 ?_
  refine lv_iload_n hx hb dX1_copyRow_33 rfl (lv_at hl 1 rfl) ?_
  refine va_iald hx hb hK hP 3 0 rfl rfl (vi_in rfl (by omega) (by omega)) dX1_copyRow_34 ?_
  refine lv_topi (fun x34 ex34 => ?_)
  have ex34 : x34 = kf p0.toInt.toNat := by rw [ex34]; exact congrArg _ (cl_nat rfl (by omega))
  have tx34 : x34.toInt = (kf p0.toInt.toNat).toInt := by rw [ex34]
  refine va_iast hx hb hK hP hD hS 3 0 rfl rfl (vi_in rfl (by omega) (by omega)) dX1_copyRow_35 (fun H locs hP hD hS => ?_)
  rw [cl_nat rfl (show p1.toInt = ((p1.toInt.toNat : Nat) : Int) by omega)] at hP hD
  have hP : va_P G vwCl [(qm, .inr (1, [.ref qm1, .ref qm2, .ref qm3, .ref qm4, .ref qm5, .int zm])), (qm1, .inl (cI, 40, .inl (upd kt p1.toInt.toNat x10))), (qm2, .inl (cI, 40, .inl (upd ks p1.toInt.toNat x22))), (qm3, .inl (cI, 40, .inl (upd kf p1.toInt.toNat x34))), (qm4, .inl (cI, 40, .inl kl)), (qm5, .inl (cL, 40, .inr (.inl ku)))] H := hP
  have hD : va_D A [(qm, .inr (1, [.ref qm1, .ref qm2, .ref qm3, .ref qm4, .ref qm5, .int zm])), (qm1, .inl (cI, 40, .inl (upd kt p1.toInt.toNat x10))), (qm2, .inl (cI, 40, .inl (upd ks p1.toInt.toNat x22))), (qm3, .inl (cI, 40, .inl (upd kf p1.toInt.toNat x34))), (qm4, .inl (cI, 40, .inl kl)), (qm5, .inl (cL, 40, .inr (.inl ku)))] := hD
  refine lv_aload_n hx hb dX1_copyRow_36 rfl (lv_at hl 0 rfl) ?_
  refine va_get (D := G) (ci := 1) (v := .ref qm4) (C := RX1) (T := TX1) (N := 6) hx hb hts hiX1 hown hK hP 0 rfl rfl 3 (by decide) hf21 (fun _ h9 => h9) rfl dX1_copyRow_37 ?_
  refine lv_iload_n hx hb dX1_copyRow_40 rfl (lv_at hl 2 rfl) ?_
  refine lv_aload_n hx hb dX1_copyRow_41 rfl (lv_at hl 0 rfl) ?_
  refine va_get (D := G) (ci := 1) (v := .ref qm4) (C := RX1) (T := TX1) (N := 6) hx hb hts hiX1 hown hK hP 0 rfl rfl 3 (by decide) hf21 (fun _ h9 => h9) rfl dX1_copyRow_42 ?_
  refine lv_iload_n hx hb dX1_copyRow_45 rfl (lv_at hl 1 rfl) ?_
  refine va_iald hx hb hK hP 4 0 rfl rfl (vi_in rfl (by omega) (by omega)) dX1_copyRow_46 ?_
  refine lv_topi (fun x46 ex46 => ?_)
  have ex46 : x46 = kl p0.toInt.toNat := by rw [ex46]; exact congrArg _ (cl_nat rfl (by omega))
  have tx46 : x46.toInt = (kl p0.toInt.toNat).toInt := by rw [ex46]
  refine va_iast hx hb hK hP hD hS 4 0 rfl rfl (vi_in rfl (by omega) (by omega)) dX1_copyRow_47 (fun H locs hP hD hS => ?_)
  rw [cl_nat rfl (show p1.toInt = ((p1.toInt.toNat : Nat) : Int) by omega)] at hP hD
  have hP : va_P G vwCl [(qm, .inr (1, [.ref qm1, .ref qm2, .ref qm3, .ref qm4, .ref qm5, .int zm])), (qm1, .inl (cI, 40, .inl (upd kt p1.toInt.toNat x10))), (qm2, .inl (cI, 40, .inl (upd ks p1.toInt.toNat x22))), (qm3, .inl (cI, 40, .inl (upd kf p1.toInt.toNat x34))), (qm4, .inl (cI, 40, .inl (upd kl p1.toInt.toNat x46))), (qm5, .inl (cL, 40, .inr (.inl ku)))] H := hP
  have hD : va_D A [(qm, .inr (1, [.ref qm1, .ref qm2, .ref qm3, .ref qm4, .ref qm5, .int zm])), (qm1, .inl (cI, 40, .inl (upd kt p1.toInt.toNat x10))), (qm2, .inl (cI, 40, .inl (upd ks p1.toInt.toNat x22))), (qm3, .inl (cI, 40, .inl (upd kf p1.toInt.toNat x34))), (qm4, .inl (cI, 40, .inl (upd kl p1.toInt.toNat x46))), (qm5, .inl (cL, 40, .inr (.inl ku)))] := hD
  exact W.vret hx hb hr (fun t ht hW => ⟨⟨(upd kt p1.toInt.toNat x10, upd ks p1.toInt.toNat x22, upd kf p1.toInt.toNat x34, upd kl p1.toInt.toNat x46), rfl, (by (try dsimp only); exact ⟨by rw [ex10], by rw [ex22], by rw [ex34], by rw [ex46]⟩), by rw [ht]; exact hP, hD⟩, hS.F ht⟩) hS.2.2 dX1_copyRow_48
set_option maxHeartbeats 4000000 in
set_option maxRecDepth 100000 in
theorem ct_X1_openRow (l : Launch) (G : va_G) (cI cL : ClassId) (sz : Nat) (qm : Nat) (qm1 : Nat) (qm2 : Nat) (qm3 : Nat) (qm4 : Nat) (qm5 : Nat) (zm : Int32) (kt : Nat → Int32) (ks : Nat → Int32) (kf : Nat → Int32) (kl : Nat → Int32) (ku : Nat → Int64) (p0 : Int32) (nm : Nat) (hnm : zm.toInt = nm) (hn9 : nm < 40) (hp0 : 0 ≤ p0.toInt ∧ p0.toInt ≤ nm) : Met l yX1_openRow wsX1_openRow ({ frames := 1, cells := 0, slots := 0, locals := 22 }) (va_Pc [.ref qm, .int p0] (pre0 G cI cL [(qm, .inr (1, [.ref qm1, .ref qm2, .ref qm3, .ref qm4, .ref qm5, .int zm])), (qm1, .inl (cI, 40, .inl kt)), (qm2, .inl (cI, 40, .inl ks)), (qm3, .inl (cI, 40, .inl kf)), (qm4, .inl (cI, 40, .inl kl)), (qm5, .inl (cL, 40, .inr (.inl ku)))] sz)) (va_Qv (fun (u : Int32 × (Nat → Int32) × (Nat → Int32) × (Nat → Int32) × (Nat → Int32)) => u.1.toInt = nm + 1 ∧ u.2.1 = shR kt p0.toInt.toNat nm ∧ u.2.2.1 = shR ks p0.toInt.toNat nm ∧ u.2.2.2.1 = shR kf p0.toInt.toNat nm ∧ u.2.2.2.2 = shR kl p0.toInt.toNat nm) (fun (u : Int32 × (Nat → Int32) × (Nat → Int32) × (Nat → Int32) × (Nat → Int32)) t => va_P G vwCl [(qm, .inr (1, [.ref qm1, .ref qm2, .ref qm3, .ref qm4, .ref qm5, .int u.1])), (qm1, .inl (cI, 40, .inl (u.2.1))), (qm2, .inl (cI, 40, .inl (u.2.2.1))), (qm3, .inl (cI, 40, .inl (u.2.2.2.1))), (qm4, .inl (cI, 40, .inl (u.2.2.2.2))), (qm5, .inl (cL, 40, .inr (.inl ku)))] t.heap ∧ va_D (va_A [(qm, .inr (1, [.ref qm1, .ref qm2, .ref qm3, .ref qm4, .ref qm5, .int zm])), (qm1, .inl (cI, 40, .inl kt)), (qm2, .inl (cI, 40, .inl ks)), (qm3, .inl (cI, 40, .inl kf)), (qm4, .inl (cI, 40, .inl kl)), (qm5, .inl (cL, 40, .inr (.inl ku)))] sz) [(qm, .inr (1, [.ref qm1, .ref qm2, .ref qm3, .ref qm4, .ref qm5, .int u.1])), (qm1, .inl (cI, 40, .inl (u.2.1))), (qm2, .inl (cI, 40, .inl (u.2.2.1))), (qm3, .inl (cI, 40, .inl (u.2.2.2.1))), (qm4, .inl (cI, 40, .inl (u.2.2.2.2))), (qm5, .inl (cL, 40, .inr (.inl ku)))]) (va_A [(qm, .inr (1, [.ref qm1, .ref qm2, .ref qm3, .ref qm4, .ref qm5, .int zm])), (qm1, .inl (cI, 40, .inl kt)), (qm2, .inl (cI, 40, .inl ks)), (qm3, .inl (cI, 40, .inl kf)), (qm4, .inl (cI, 40, .inl kl)), (qm5, .inl (cL, 40, .inr (.inl ku)))] sz)) 0 0 (va_A [(qm, .inr (1, [.ref qm1, .ref qm2, .ref qm3, .ref qm4, .ref qm5, .int zm])), (qm1, .inl (cI, 40, .inl kt)), (qm2, .inl (cI, 40, .inl ks)), (qm3, .inl (cI, 40, .inl kf)), (qm4, .inl (cI, 40, .inl kl)), (qm5, .inl (cL, 40, .inr (.inl ku)))] sz) := by
  refine Met.ofW (cc := cX1_openRow) (maxL := 3) (ret := none) (by decide) rfl ?_
  intro p e s m args below meth c s₁ B hml hv
  obtain ⟨rfl, hsz, hP, hK, hD0, hN⟩ := hv
  have hx := B.exec
  have hb := B.bytes
  have hr := B.returns
  have hts := atoms_spec (ws := wsX1_openRow) B.pre
  have hown : s.vm.findClass RX1 = some m.cls := findClass_of_methodNamed B.named
  have hlocks := B.notSynchronized
  subst hsz
  have hD := hD0.self (sz := s.heap.size)
  generalize hAe : va_A [(qm, .inr (1, [.ref qm1, .ref qm2, .ref qm3, .ref qm4, .ref qm5, .int zm])), (qm1, .inl (cI, 40, .inl kt)), (qm2, .inl (cI, 40, .inl ks)), (qm3, .inl (cI, 40, .inl kf)), (qm4, .inl (cI, 40, .inl kl)), (qm5, .inl (cL, 40, .inr (.inl ku)))] s.heap.size = A at hD ⊢
  have hA : ∀ q : Nat, s.heap.size ≤ q → A q := fun q h => by rw [← hAe]; exact Or.inr h
  have hP : va_P G vwCl [(qm, .inr (1, [.ref qm1, .ref qm2, .ref qm3, .ref qm4, .ref qm5, .int zm])), (qm1, .inl (cI, 40, .inl kt)), (qm2, .inl (cI, 40, .inl ks)), (qm3, .inl (cI, 40, .inl kf)), (qm4, .inl (cI, 40, .inl kl)), (qm5, .inl (cL, 40, .inr (.inl ku)))] s.heap := hP
  have hl := lv_entry ([.ref qm, .int p0]) (n := 3) (Nat.le_of_ble_eq_true rfl)
  rw [lg_entry_eq]
  generalize (lg_sl ([.ref qm, .int p0]) ++ List.replicate (3 - (lg_sl ([.ref qm, .int p0])).length) Slot.unset).toArray = ls at hl ⊢
  have hl : lv_has ls 3 [(0, .ref qm), (1, .int p0)] := hl
  have hf28 := hts (.fieldLink RX1 28 "TempoMaps$Marks" "size" "I") (by decide +kernel)
  have hiX1 : ∀ w ∈ wsX10, w ∈ wsX1_openRow := by decide +kernel
  have zim1 : ((-1 : Int32)).toInt = -1 := by decide
  have zi1 : ((1 : Int32)).toInt = 1 := by decide
  refine w_h (A := A) hP (fun H locs hP hS => ?_)
  refine lv_aload_n hx hb dX1_openRow_0 rfl (lv_at hl 0 rfl) ?_
  refine va_get (D := G) (ci := 1) (v := .int zm) (C := RX1) (T := TX1) (N := 6) hx hb hts hiX1 hown hK hP 0 rfl rfl 5 (by decide) hf28 (fun _ h9 => h9) rfl dX1_openRow_1 ?_
  refine lv_istore_n (lv' := [(2, .int zm), (0, .ref qm), (1, .int p0)]) hx hb dX1_openRow_4 rfl hl (by decide) rfl (fun ls hl => ?_)
  refine W_loop5 (fun (x2 : Int32) (yt : Nat → Int32) (ys : Nat → Int32) (yf : Nat → Int32) (yl : Nat → Int32) ls H locs => va_P G vwCl [(qm, .inr (1, [.ref qm1, .ref qm2, .ref qm3, .ref qm4, .ref qm5, .int zm])), (qm1, .inl (cI, 40, .inl yt)), (qm2, .inl (cI, 40, .inl ys)), (qm3, .inl (cI, 40, .inl yf)), (qm4, .inl (cI, 40, .inl yl)), (qm5, .inl (cL, 40, .inr (.inl ku)))] H ∧ va_D A [(qm, .inr (1, [.ref qm1, .ref qm2, .ref qm3, .ref qm4, .ref qm5, .int zm])), (qm1, .inl (cI, 40, .inl yt)), (qm2, .inl (cI, 40, .inl ys)), (qm3, .inl (cI, 40, .inl yf)), (qm4, .inl (cI, 40, .inl yl)), (qm5, .inl (cL, 40, .inr (.inl ku)))] ∧ va_S A s.heap H locs ∧ lv_has ls 3 [(0, .ref qm), (1, .int p0), (2, .int x2)] ∧ (p0.toInt ≤ x2.toInt ∧ x2.toInt ≤ nm) ∧ (yt = shR kt x2.toInt.toNat nm) ∧ (ys = shR ks x2.toInt.toNat nm) ∧ (yf = shR kf x2.toInt.toNat nm) ∧ (yl = shR kl x2.toInt.toNat nm)) (fun (x2 : Int32) (yt : Nat → Int32) (ys : Nat → Int32) (yf : Nat → Int32) (yl : Nat → Int32) => x2.toInt.toNat) (fun x2 yt ys yf yl ls H locs hI ih => ?_) zm kt ks kf kl ls _ _ ⟨hP, hD, hS, lv_sub hl [1, 2, 0] rfl, (show p0.toInt ≤ zm.toInt ∧ zm.toInt ≤ nm from by omega), (show kt = shR kt zm.toInt.toNat nm from by rw [show zm.toInt.toNat = nm by omega, shR_n]), (show ks = shR ks zm.toInt.toNat nm from by rw [show zm.toInt.toNat = nm by omega, shR_n]), (show kf = shR kf zm.toInt.toNat nm from by rw [show zm.toInt.toNat = nm by omega, shR_n]), (show kl = shR kl zm.toInt.toNat nm from by rw [show zm.toInt.toNat = nm by omega, shR_n])⟩
  obtain ⟨hP, hD, hS, hl, i1, jt, js, jf, jl⟩ := hI
  refine lv_iload_n hx hb dX1_openRow_5 rfl (lv_at hl 2 rfl) ?_
  refine lv_iload_n hx hb dX1_openRow_6 rfl (lv_at hl 1 rfl) ?_
  refine lv_icmp_le (tgt := 24) hx hb dX1_openRow_7 (by decide) (fun c7 => ?_) (fun c7 => ?_)
  · have k7 : (x2.toInt : Int) ≤ p0.toInt := i_le rfl rfl c7
    refine lv_aload_n hx hb dX1_openRow_24 rfl (lv_at hl 0 rfl) ?_
    refine lv_dup hx hb dX1_openRow_25 rfl ?_
    refine va_get (D := G) (ci := 1) (v := .int zm) (C := RX1) (T := TX1) (N := 6) hx hb hts hiX1 hown hK hP 0 rfl rfl 5 (by decide) hf28 (fun _ h9 => h9) rfl dX1_openRow_26 ?_
    refine lv_iconst (v := 1) hx hb dX1_openRow_29 (by decide) ?_
    refine lv_iadd hx hb dX1_openRow_30 ?_
    refine lv_topi (fun x30 ex30 => ?_)
    have tx30 : x30.toInt = zm.toInt + 1 := by rw [ex30]; exact ti_add rfl (show ((1 : Int32)).toInt = 1 by decide) (by omega) (by omega)
    refine va_put (D := G) (ci := 1) (v := .int x30) (ty := .int) (C := RX1) (T := TX1) (N := 6) hx hb hts hiX1 tyX1 tyX1_ok nmX1 hown hK hP hD hS 0 rfl rfl 5 (by decide) hf28 (fun _ h9 => h9) rfl (by decide +kernel) rfl rfl (Nat.le_of_ble_eq_true rfl) dX1_openRow_31 (fun H locs hP hD hS => ?_)
    have hP : va_P G vwCl [(qm, .inr (1, [.ref qm1, .ref qm2, .ref qm3, .ref qm4, .ref qm5, .int x30])), (qm1, .inl (cI, 40, .inl yt)), (qm2, .inl (cI, 40, .inl ys)), (qm3, .inl (cI, 40, .inl yf)), (qm4, .inl (cI, 40, .inl yl)), (qm5, .inl (cL, 40, .inr (.inl ku)))] H := hP
    have hD : va_D A [(qm, .inr (1, [.ref qm1, .ref qm2, .ref qm3, .ref qm4, .ref qm5, .int x30])), (qm1, .inl (cI, 40, .inl yt)), (qm2, .inl (cI, 40, .inl ys)), (qm3, .inl (cI, 40, .inl yf)), (qm4, .inl (cI, 40, .inl yl)), (qm5, .inl (cL, 40, .inr (.inl ku)))] := hD
    rw [show x2.toInt.toNat = p0.toInt.toNat by omega] at jt js jf jl
    exact W.vret hx hb hr (fun t ht hW => ⟨⟨(x30, yt, ys, yf, yl), rfl, (by (try dsimp only); exact ⟨by omega, jt, js, jf, jl⟩), by rw [ht]; exact hP, hD⟩, hS.F ht⟩) hS.2.2 dX1_openRow_34
  · have k7 : (p0.toInt : Int) < x2.toInt := i_nle rfl rfl c7
    refine lv_aload_n hx hb dX1_openRow_10 rfl (lv_at hl 0 rfl) ?_
    refine lv_iload_n hx hb dX1_openRow_11 rfl (lv_at hl 2 rfl) ?_
    refine lv_iconst (v := 1) hx hb dX1_openRow_12 (by decide) ?_
    refine lv_isub hx hb dX1_openRow_13 ?_
    refine lv_topi (fun x13 ex13 => ?_)
    have tx13 : x13.toInt = x2.toInt - 1 := by rw [ex13]; exact ti_sub rfl (show ((1 : Int32)).toInt = 1 by decide) (by omega) (by omega)
    refine lv_iload_n hx hb dX1_openRow_14 rfl (lv_at hl 2 rfl) ?_
    have hPc := hP.sub (ws' := [(qm, .inr (1, [.ref qm1, .ref qm2, .ref qm3, .ref qm4, .ref qm5, .int zm])), (qm1, .inl (cI, 40, .inl yt)), (qm2, .inl (cI, 40, .inl ys)), (qm3, .inl (cI, 40, .inl yf)), (qm4, .inl (cI, 40, .inl yl)), (qm5, .inl (cL, 40, .inr (.inl ku)))]) [0, 1, 2, 3, 4, 5] rfl
    have hDc := hD.sub (ws' := [(qm, .inr (1, [.ref qm1, .ref qm2, .ref qm3, .ref qm4, .ref qm5, .int zm])), (qm1, .inl (cI, 40, .inl yt)), (qm2, .inl (cI, 40, .inl ys)), (qm3, .inl (cI, 40, .inl yf)), (qm4, .inl (cI, 40, .inl yl)), (qm5, .inl (cL, 40, .inr (.inl ku)))]) [0, 1, 2, 3, 4, 5] (by decide) rfl
    have hcc := (ct_X1_copyRow l G cI cL H.size qm qm1 qm2 qm3 qm4 qm5 zm yt ys yf yl ku x13 x2 (by omega) (by omega))
    refine rw_callv (wr := ([] : va_W)) (va_runV (As := [.int x13, .int x2]) (rest := []) ⟨hx, hb, hml, hown, hts⟩ hcc (cwV 2 hts gX1_openRow_X1_copyRow rfl rfl rfl (by decide +kernel) ⟨Nat.le_of_ble_eq_true rfl, Nat.le_of_ble_eq_true rfl⟩) ⟨pre_blind, va_recv hK hPc (ci := 1) (q0 := 0) rfl rfl, pre_pass hK hN hPc hDc⟩ rfl rfl hl.1 rfl (lv_room (Nat.le_of_ble_eq_true rfl)) dX1_openRow_15 ⟨Nat.le_of_ble_eq_true rfl, Nat.le_of_ble_eq_true rfl⟩) hP hD hS hA [0, 1, 2, 3, 4, 5] [] rfl rfl (by decide) (by decide) (fun u15 H locs hw15 hP hD hS => ?_)
    obtain ⟨kt15, ks15, kf15, kl15⟩ := u15
    have hP : va_P G vwCl [(qm, .inr (1, [.ref qm1, .ref qm2, .ref qm3, .ref qm4, .ref qm5, .int zm])), (qm1, .inl (cI, 40, .inl kt15)), (qm2, .inl (cI, 40, .inl ks15)), (qm3, .inl (cI, 40, .inl kf15)), (qm4, .inl (cI, 40, .inl kl15)), (qm5, .inl (cL, 40, .inr (.inl ku)))] H := hP.sub [0, 1, 2, 3, 4, 5] rfl
    have hD : va_D A [(qm, .inr (1, [.ref qm1, .ref qm2, .ref qm3, .ref qm4, .ref qm5, .int zm])), (qm1, .inl (cI, 40, .inl kt15)), (qm2, .inl (cI, 40, .inl ks15)), (qm3, .inl (cI, 40, .inl kf15)), (qm4, .inl (cI, 40, .inl kl15)), (qm5, .inl (cL, 40, .inr (.inl ku)))] := hD.sub [0, 1, 2, 3, 4, 5] (by decide) rfl
    try dsimp only at hw15
    obtain ⟨x18, ex18⟩ : ∃ y : Int32, y = x2 + (-1) := ⟨_, rfl⟩
    have tx18 : x18.toInt = x2.toInt + (-1) := by rw [ex18]; exact ti_add rfl (by decide) (by omega) (by omega)
    refine lv_iinc (v := x18) (lv' := [(2, .int x18), (0, .ref qm), (1, .int p0)]) hx hb dX1_openRow_18 hl (k := 2) rfl (by rw [ex18]; rfl) (by decide) rfl (fun ls hl => ?_)
    refine lv_goto (tgt := 5) hx hb dX1_openRow_21 (by decide) ?_
    exact ih x18 kt15 ks15 kf15 kl15 ls _ _ ⟨hP, hD, hS, lv_sub hl [1, 2, 0] rfl, (show p0.toInt ≤ x18.toInt ∧ x18.toInt ≤ nm from by omega), (show kt15 = shR kt x18.toInt.toNat nm from by rw [hw15.1, jt, show x13.toInt.toNat = x2.toInt.toNat - 1 by omega, shR_st _ (by omega) (by omega), show x18.toInt.toNat = x2.toInt.toNat - 1 by omega]), (show ks15 = shR ks x18.toInt.toNat nm from by rw [hw15.2.1, js, show x13.toInt.toNat = x2.toInt.toNat - 1 by omega, shR_st _ (by omega) (by omega), show x18.toInt.toNat = x2.toInt.toNat - 1 by omega]), (show kf15 = shR kf x18.toInt.toNat nm from by rw [hw15.2.2.1, jf, show x13.toInt.toNat = x2.toInt.toNat - 1 by omega, shR_st _ (by omega) (by omega), show x18.toInt.toNat = x2.toInt.toNat - 1 by omega]), (show kl15 = shR kl x18.toInt.toNat nm from by rw [hw15.2.2.2, jl, show x13.toInt.toNat = x2.toInt.toNat - 1 by omega, shR_st _ (by omega) (by omega), show x18.toInt.toNat = x2.toInt.toNat - 1 by omega])⟩ (show x18.toInt.toNat < x2.toInt.toNat from by omega)
end
section
def rowEq (t s f l : Nat → Int32) (k : Nat) (t' s' f' l' : Nat → Int32) (k' : Nat) : Prop := (t' k').toInt = (t k).toInt ∧ (s' k').toInt = (s k).toInt ∧ (f' k').toInt = (f k).toInt ∧ (l' k').toInt = (l k).toInt
theorem pace_below {t s f l t' s' f' l' : Nat → Int32} {n n' : Nat} {X : Int} (inj : ∀ i j : Nat, i < n → j < n → (t i).toInt = (t j).toInt → i = j) (inj' : ∀ i j : Nat, i < n' → j < n' → (t' i).toInt = (t' j).toInt → i = j)
    (h1 : ∀ k : Nat, k < n → (t k).toInt < X → ∃ k' : Nat, k' < n' ∧ rowEq t s f l k t' s' f' l' k') (h2 : ∀ k' : Nat, k' < n' → (t' k').toInt < X → ∃ k : Nat, k < n ∧ rowEq t s f l k t' s' f' l' k') {y : Int} (hy : y < X) : paceF t s f l n y = paceF t' s' f' l' n' y := by
  rcases bi_spec (t := t) (x := y) n with ⟨-, h⟩ | ⟨j, hj, -, g1, g2⟩
  · rw [pace_none h, pace_none (fun k' hk' => ?_)]
    rcases Int.lt_or_le y (t' k').toInt with q | q
    · exact q
    · obtain ⟨k, hk, e, -⟩ := h2 k' hk' (by omega)
      have := h k hk; omega
  · obtain ⟨j', hj', e1, e2, e3, e4⟩ := h1 j hj (by omega)
    rw [pace_at inj hj g1 g2, pace_at inj' hj' (by omega) (fun k' hk' hx => ?_), e1, e2, e3, e4]
    obtain ⟨k, hk, e, -⟩ := h2 k' hk' (by omega)
    have := g2 k hk (by omega); omega
def insA (a : Nat → Int32) (j n : Nat) (v : Int32) : Nat → Int32 := upd (shR a j n) j v
theorem insA_lt {a : Nat → Int32} {j n k : Nat} {v : Int32} (h : k < j) : insA a j n v k = a k := by
  unfold insA
  rw [pk_un (by omega)]
  simp only [shR]
  rw [if_neg (by omega)]
theorem insA_eq {a : Nat → Int32} {j n : Nat} {v : Int32} : insA a j n v j = v := pk_us
theorem insA_gt {a : Nat → Int32} {j n k : Nat} {v : Int32} (h : j ≤ k) (h2 : k < n) : insA a j n v (k + 1) = a k := by
  unfold insA
  rw [pk_un (by omega)]
  simp only [shR]
  rw [if_pos (by omega)]; rfl
theorem ins_row {t s f l : Nat → Int32} {j n : Nat} {xv sv fv lv : Int32} (hj : j ≤ n) (k : Nat) (hk : k < n + 1) :
    (k < j ∧ k < n ∧ insA t j n xv k = t k ∧ insA s j n sv k = s k ∧ insA f j n fv k = f k ∧ insA l j n lv k = l k) ∨
    (k = j ∧ insA t j n xv k = xv ∧ insA s j n sv k = sv ∧ insA f j n fv k = fv ∧ insA l j n lv k = lv) ∨
    (∃ i : Nat, k = i + 1 ∧ i < n ∧ j ≤ i ∧ insA t j n xv k = t i ∧ insA s j n sv k = s i ∧ insA f j n fv k = f i ∧ insA l j n lv k = l i) := by
  rcases Nat.lt_trichotomy k j with q | q | q
  · exact Or.inl ⟨q, by omega, insA_lt q, insA_lt q, insA_lt q, insA_lt q⟩
  · subst q; exact Or.inr (Or.inl ⟨rfl, insA_eq, insA_eq, insA_eq, insA_eq⟩)
  · obtain ⟨i, rfl⟩ : ∃ i, k = i + 1 := ⟨k - 1, by omega⟩
    exact Or.inr (Or.inr ⟨i, rfl, by omega, by omega, insA_gt (by omega) (by omega), insA_gt (by omega) (by omega), insA_gt (by omega) (by omega), insA_gt (by omega) (by omega)⟩)
theorem put_ins {t s f l : Nat → Int32} {j n : Nat} {xv sv fv lv : Int32} (hO : okM n t s f l) (hs : srt n t) (hn : n < 40) (hj : j ≤ n) (hlo : ∀ k : Nat, k < n → k < j → (t k).toInt < xv.toInt) (hhi : ∀ k : Nat, k < n → j ≤ k → xv.toInt < (t k).toInt)
    (hx : 0 ≤ xv.toInt ∧ xv.toInt ≤ 999999) (hsv : 0 ≤ sv.toInt ∧ sv.toInt ≤ 2000) (hxs : xv.toInt + sv.toInt ≤ 1000000) (hfv : 1 ≤ fv.toInt ∧ fv.toInt ≤ 1000000) (hlv : 1 ≤ lv.toInt ∧ lv.toInt ≤ 1000000)
    (hni : ¬ insS n t s xv.toInt) (hnb : ¬ btw n t xv.toInt (xv.toInt + sv.toInt)) :
    okM (n + 1) (insA t j n xv) (insA s j n sv) (insA f j n fv) (insA l j n lv) ∧ srt (n + 1) (insA t j n xv) ∧ ∀ y : Int, y < xv.toInt → paceF t s f l n y = paceF (insA t j n xv) (insA s j n sv) (insA f j n fv) (insA l j n lv) (n + 1) y := by
  have hS : srt (n + 1) (insA t j n xv) := by
    intro a b hab hb
    rcases ins_row (t := t) (s := s) (f := f) (l := l) (xv := xv) (sv := sv) (fv := fv) (lv := lv) hj a (by omega) with ⟨a1, a2, a3, -⟩ | ⟨a1, a3, -⟩ | ⟨i, a1, a2, a4, a3, -⟩ <;>
    rcases ins_row (t := t) (s := s) (f := f) (l := l) (xv := xv) (sv := sv) (fv := fv) (lv := lv) hj b (by omega) with ⟨b1, b2, b3, -⟩ | ⟨b1, b3, -⟩ | ⟨i', b1, b2, b4, b3, -⟩ <;> rw [a3, b3]
    · exact hs a b hab b2
    · exact hlo a a2 a1
    · exact hs a i' (by omega) b2
    · omega
    · omega
    · exact hhi i' b2 b4
    · omega
    · omega
    · exact hs i i' (by omega) b2
  have inj := srt_inj hS
  refine ⟨⟨by omega, fun k hk => ?_, inj, fun a b ha hb hab => ?_⟩, hS, fun y hy => ?_⟩
  · rcases ins_row (t := t) (s := s) (f := f) (l := l) (xv := xv) (sv := sv) (fv := fv) (lv := lv) hj k hk with ⟨a1, a2, e1, e2, e3, e4⟩ | ⟨a1, e1, e2, e3, e4⟩ | ⟨i, a1, a2, a3, e1, e2, e3, e4⟩ <;> rw [e1, e2, e3, e4]
    · exact hO.2.1 k a2
    · omega
    · exact hO.2.1 i a2
  · rcases ins_row (t := t) (s := s) (f := f) (l := l) (xv := xv) (sv := sv) (fv := fv) (lv := lv) hj a ha with ⟨a1, a2, e1, e2, -⟩ | ⟨a1, e1, e2, -⟩ | ⟨i, a1, a2, a3, e1, e2, -⟩ <;>
    rcases ins_row (t := t) (s := s) (f := f) (l := l) (xv := xv) (sv := sv) (fv := fv) (lv := lv) hj b hb with ⟨b1, b2, g1, -⟩ | ⟨b1, g1, -⟩ | ⟨i', b1, b2, b3, g1, -⟩ <;> rw [e1, g1] at hab <;> rw [e1, e2, g1]
    · exact hO.2.2.2 a b a2 b2 hab
    · rcases Int.lt_or_le xv.toInt ((t a).toInt + (s a).toInt) with q | q
      · exact absurd ⟨a, a2, hab, q⟩ hni
      · exact q
    · exact hO.2.2.2 a i' a2 b2 hab
    · have := hlo b b2 b1; omega
    · omega
    · rcases Int.lt_or_le (t i').toInt (xv.toInt + sv.toInt) with q | q
      · exact absurd ⟨i', b2, hab, q⟩ hnb
      · exact q
    · have := hlo b b2 b1; have := hhi i a2 a3; omega
    · have := hhi i a2 a3; omega
    · exact hO.2.2.2 i i' a2 b2 hab
  · refine pace_below (X := xv.toInt) hO.2.2.1 inj (fun k hk h => ?_) (fun k' hk' h => ?_) hy
    · have hkj : k < j := by
        rcases Nat.lt_or_ge k j with q | q
        · exact q
        · have := hhi k hk q; omega
      exact ⟨k, by omega, by rw [insA_lt hkj], by rw [insA_lt hkj], by rw [insA_lt hkj], by rw [insA_lt hkj]⟩
    · rcases ins_row (t := t) (s := s) (f := f) (l := l) (xv := xv) (sv := sv) (fv := fv) (lv := lv) hj k' hk' with ⟨a1, a2, e1, e2, e3, e4⟩ | ⟨a1, e1, e2, e3, e4⟩ | ⟨i, a1, a2, a3, e1, e2, e3, e4⟩
      · exact ⟨k', a2, by rw [e1], by rw [e2], by rw [e3], by rw [e4]⟩
      · rw [e1] at h; omega
      · rw [e1] at h; have := hhi i a2 a3; omega
theorem upd_same {a : Nat → Int32} {j : Nat} {v : Int32} (h : a j = v) : upd a j v = a := by
  funext k
  by_cases e : k = j
  · subst e; rw [pk_us, h]
  · rw [pk_un e]
theorem put_hit {t s f l : Nat → Int32} {j n : Nat} {xv sv fv lv : Int32} (hO : okM n t s f l) (hs : srt n t) (hj : j < n) (hxj : (t j).toInt = xv.toInt)
    (hsv : 0 ≤ sv.toInt ∧ sv.toInt ≤ 2000) (hxs : xv.toInt + sv.toInt ≤ 1000000) (hfv : 1 ≤ fv.toInt ∧ fv.toInt ≤ 1000000) (hlv : 1 ≤ lv.toInt ∧ lv.toInt ≤ 1000000)
    (hnb : ¬ btw n t xv.toInt (xv.toInt + sv.toInt)) :
    okM n (upd t j xv) (upd s j sv) (upd f j fv) (upd l j lv) ∧ srt n (upd t j xv) ∧ ∀ y : Int, y < xv.toInt → paceF t s f l n y = paceF (upd t j xv) (upd s j sv) (upd f j fv) (upd l j lv) n y := by
  rw [upd_same (a := t) (i_ext hxj)]
  refine ⟨⟨hO.1, fun k hk => ?_, hO.2.2.1, fun a b ha hb hab => ?_⟩, hs, fun y hy => ?_⟩
  · have h0 := hO.2.1 k hk
    by_cases e : k = j
    · subst e; rw [pk_us, pk_us, pk_us]; omega
    · rw [pk_un e, pk_un e, pk_un e]; omega
  · by_cases e : a = j
    · subst e
      rw [pk_us]
      rcases Int.lt_or_le (t b).toInt (xv.toInt + sv.toInt) with q | q
      · exact absurd ⟨b, hb, by omega, q⟩ hnb
      · omega
    · rw [pk_un e]; exact hO.2.2.2 a b ha hb hab
  · refine pace_below (X := xv.toInt) hO.2.2.1 hO.2.2.1 (fun k hk h => ?_) (fun k hk h => ?_) hy
    · have e : k ≠ j := fun e => by rw [e] at h; omega
      exact ⟨k, hk, rfl, by rw [pk_un e], by rw [pk_un e], by rw [pk_un e]⟩
    · have e : k ≠ j := fun e => by rw [e] at h; omega
      exact ⟨k, hk, rfl, by rw [pk_un e], by rw [pk_un e], by rw [pk_un e]⟩
theorem shL_lt {a : Nat → Int32} {p n k : Nat} (h : k < p) : shL a p n k = a k := by
  simp only [shL]
  rw [if_neg (by omega)]
theorem shL_ge {a : Nat → Int32} {p n k : Nat} (h : p ≤ k) (h2 : k + 1 < n) : shL a p n k = a (k + 1) := by
  simp only [shL]
  rw [if_pos (by omega)]
theorem del_row {t s f l : Nat → Int32} {p n m : Nat} (hm : m + 1 = n) (k : Nat) (hk : k < m) : ∃ i : Nat, i < n ∧ i ≠ p ∧ (k < p → i = k) ∧ (p ≤ k → i = k + 1) ∧ shL t p n k = t i ∧ shL s p n k = s i ∧ shL f p n k = f i ∧ shL l p n k = l i := by
  rcases Nat.lt_or_ge k p with q | q
  · exact ⟨k, by omega, by omega, fun _ => rfl, fun _ => by omega, shL_lt q, shL_lt q, shL_lt q, shL_lt q⟩
  · exact ⟨k + 1, by omega, by omega, fun _ => by omega, fun _ => rfl, shL_ge q (by omega), shL_ge q (by omega), shL_ge q (by omega), shL_ge q (by omega)⟩
theorem del_ok {t s f l : Nat → Int32} {p n m : Nat} (hO : okM n t s f l) (hs : srt n t) (hp : p < n) (hm : m + 1 = n) :
    okM m (shL t p n) (shL s p n) (shL f p n) (shL l p n) ∧ srt m (shL t p n) ∧ ∀ y : Int, y < (t p).toInt → paceF t s f l n y = paceF (shL t p n) (shL s p n) (shL f p n) (shL l p n) m y := by
  have hS : srt m (shL t p n) := by
    intro a b hab hb
    obtain ⟨i, i1, i2, i3, i4, e1, -⟩ := del_row (t := t) (s := s) (f := f) (l := l) (p := p) hm a (by omega)
    obtain ⟨j, j1, j2, j3, j4, g1, -⟩ := del_row (t := t) (s := s) (f := f) (l := l) (p := p) hm b hb
    rw [e1, g1]
    refine hs i j ?_ j1
    rcases Nat.lt_or_ge a p with q | q <;> rcases Nat.lt_or_ge b p with q2 | q2
    · have := i3 q; have := j3 q2; omega
    · have := i3 q; have := j4 q2; omega
    · omega
    · have := i4 q; have := j4 q2; omega
  have inj := srt_inj hS
  refine ⟨⟨by have := hO.1; omega, fun k hk => ?_, inj, fun a b ha hb hab => ?_⟩, hS, fun y hy => ?_⟩
  · obtain ⟨i, i1, -, -, -, e1, e2, e3, e4⟩ := del_row (t := t) (s := s) (f := f) (l := l) (p := p) hm k hk
    rw [e1, e2, e3, e4]; exact hO.2.1 i i1
  · obtain ⟨i, i1, -, -, -, e1, e2, -⟩ := del_row (t := t) (s := s) (f := f) (l := l) (p := p) hm a ha
    obtain ⟨j, j1, -, -, -, g1, -⟩ := del_row (t := t) (s := s) (f := f) (l := l) (p := p) hm b hb
    rw [e1, g1] at hab
    rw [e1, e2, g1]
    exact hO.2.2.2 i j i1 j1 hab
  · refine pace_below (X := (t p).toInt) hO.2.2.1 inj (fun k hk h => ?_) (fun k hk h => ?_) hy
    · have hkp : k < p := by
        rcases Nat.lt_or_ge k p with q | q
        · exact q
        · have := srt_le hs q hk; omega
      exact ⟨k, by omega, by rw [shL_lt hkp], by rw [shL_lt hkp], by rw [shL_lt hkp], by rw [shL_lt hkp]⟩
    · obtain ⟨i, i1, -, -, -, e1, e2, e3, e4⟩ := del_row (t := t) (s := s) (f := f) (l := l) (p := p) hm k hk
      exact ⟨i, i1, by rw [e1], by rw [e2], by rw [e3], by rw [e4]⟩
/-- what stands below a tick at which alone something changes, stays -/
theorem okU_keep {t s f l t' s' f' l' : Nat → Int32} {n n' k k' : Nat} {u : Nat → Int64} {X : Int} (hU : okU n t s f l u) (hk : k < n) (h : ∀ y : Int, y < X → paceF t s f l n y = paceF t' s' f' l' n' y) (e : (t' k').toInt = (t k).toInt) (h0 : (t k).toInt ≤ X) (hp : 0 ≤ (t k).toInt) : (u k).toInt = psum (paceF t' s' f' l' n') (t' k').toInt.toNat := by
  rw [hU k hk, e]
  exact psum_congr _ (fun y hy => h y (by omega))
def cPut (n : Nat) (t s f l : Nat → Int32) (x sv fv lv : Int32) (r : Int) (n' : Nat) (t' s' f' l' : Nat → Int32) : Prop :=
  (∃ j : Nat, j < n ∧ (t j).toInt = x.toInt ∧ r = n ∧ n' = n ∧ t' = upd t j x ∧ s' = upd s j sv ∧ f' = upd f j fv ∧ l' = upd l j lv) ∨
  ((∀ k : Nat, k < n → (t k).toInt ≠ x.toInt) ∧ n = 40 ∧ r = -4 ∧ n' = n ∧ t' = t ∧ s' = s ∧ f' = f ∧ l' = l) ∨
  (∃ j : Nat, j ≤ n ∧ (∀ k : Nat, k < n → (t k).toInt ≠ x.toInt) ∧ n < 40 ∧ r = n + 1 ∧ n' = n + 1 ∧ t' = insA t j n x ∧ s' = insA s j n sv ∧ f' = insA f j n fv ∧ l' = insA l j n lv)
def cDel (n : Nat) (t s f l : Nat → Int32) (x : Int32) (r : Int) (n' : Nat) (t' s' f' l' : Nat → Int32) : Prop :=
  (∃ j : Nat, j < n ∧ (t j).toInt = x.toInt ∧ r = n' ∧ n' + 1 = n ∧ t' = shL t j n ∧ s' = shL s j n ∧ f' = shL f j n ∧ l' = shL l j n) ∨
  ((∀ k : Nat, k < n → (t k).toInt ≠ x.toInt) ∧ r = -3 ∧ n' = n ∧ t' = t ∧ s' = s ∧ f' = f ∧ l' = l)
/-- the place of a new mark: behind the last one at or ahead of it -/
theorem bi_place {t : Nat → Int32} {x r : Int} {n : Nat} (hs : srt n t) (h : r = bi t x n) (hne : r < 0 ∨ (t r.toNat).toInt ≠ x) : -1 ≤ r ∧ r < n ∧ (∀ k : Nat, k < n → k < (r + 1).toNat → (t k).toInt < x) ∧ (∀ k : Nat, k < n → (r + 1).toNat ≤ k → x < (t k).toInt) := by
  rcases Int.lt_or_le r 0 with q | q
  · have h1 := bi_neg h q
    exact ⟨by omega, by omega, fun k _ h => by omega, fun k hk _ => h1.2 k hk⟩
  · have h1 := bi_get h q
    refine ⟨by omega, by omega, fun k hk h2 => ?_, fun k hk h2 => ?_⟩
    · have := srt_le hs (show k ≤ r.toNat by omega) h1.1; omega
    · have := hs r.toNat k (by omega) hk
      rcases Int.lt_or_le x (t k).toInt with q2 | q2
      · exact q2
      · have := h1.2.2.2 k hk q2; omega
theorem fs_b {a m A : Int} (hA : -A ≤ a ∧ a ≤ A) : ∀ n : Nat, (n : Int) ≤ m → -(A * n) ≤ fs a 0 m n ∧ fs a 0 m n ≤ A * n := by
  intro n
  induction n with
  | zero => intro _; simp [fs]
  | succ n ih =>
    intro h
    have h1 := ih (by omega)
    have hm : 0 < m := by omega
    have h2 := mul_abs hA (show 0 ≤ (n : Int) ∧ (n : Int) ≤ m by omega)
    have h3 : -A ≤ (a * n + 0) / m := Int.le_ediv_of_mul_le hm (by rw [Int.neg_mul]; omega)
    have h4 : (a * n + 0) / m < A + 1 := Int.ediv_lt_of_lt_mul hm (by rw [Int.add_mul]; omega)
    simp only [fs]
    rw [show ((n + 1 : Nat) : Int) = (n : Int) + 1 by omega, Int.mul_add]
    omega
end
section
set_option maxHeartbeats 4000000 in
set_option maxRecDepth 100000 in
theorem ct_X1_unitsAheadBy (l : Launch) (G : va_G) (cI cL : ClassId) (sz : Nat) (qm : Nat) (qm1 : Nat) (qm2 : Nat) (qm3 : Nat) (qm4 : Nat) (qm5 : Nat) (zm : Int32) (kt : Nat → Int32) (ks : Nat → Int32) (kf : Nat → Int32) (kl : Nat → Int32) (ku : Nat → Int64) (p0 : Int32) (p1 : Int32) (nm : Nat) (hnm : zm.toInt = nm) (hOm : okM nm kt ks kf kl) (hSr : srt nm kt) (hq0 : -1 ≤ p0.toInt ∧ p0.toInt < nm) (hq1 : 0 ≤ p1.toInt ∧ p1.toInt ≤ 1000000) (hq2 : 0 ≤ p0.toInt → (kt p0.toInt.toNat).toInt ≤ p1.toInt ∧ (ku p0.toInt.toNat).toInt = psum (paceF kt ks kf kl nm) (kt p0.toInt.toNat).toInt.toNat) (hq3 : ∀ k : Nat, k < nm → p0.toInt < k → p1.toInt ≤ (kt k).toInt) : Met l yX1_unitsAheadBy wsX1_unitsAheadBy ({ frames := 2, cells := 0, slots := 0, locals := 62 }) (va_Pc [.ref qm, .int p0, .int p1] (pre0 G cI cL [(qm, .inr (1, [.ref qm1, .ref qm2, .ref qm3, .ref qm4, .ref qm5, .int zm])), (qm1, .inl (cI, 40, .inl kt)), (qm2, .inl (cI, 40, .inl ks)), (qm3, .inl (cI, 40, .inl kf)), (qm4, .inl (cI, 40, .inl kl)), (qm5, .inl (cL, 40, .inr (.inl ku)))] sz)) (va_Ql (fun (r : Int64) (u : Unit) => r.toInt = psum (paceF kt ks kf kl nm) p1.toInt.toNat) (fun (u : Unit) t => va_P G vwCl [(qm, .inr (1, [.ref qm1, .ref qm2, .ref qm3, .ref qm4, .ref qm5, .int zm])), (qm1, .inl (cI, 40, .inl kt)), (qm2, .inl (cI, 40, .inl ks)), (qm3, .inl (cI, 40, .inl kf)), (qm4, .inl (cI, 40, .inl kl)), (qm5, .inl (cL, 40, .inr (.inl ku)))] t.heap ∧ va_D (va_A [(qm, .inr (1, [.ref qm1, .ref qm2, .ref qm3, .ref qm4, .ref qm5, .int zm])), (qm1, .inl (cI, 40, .inl kt)), (qm2, .inl (cI, 40, .inl ks)), (qm3, .inl (cI, 40, .inl kf)), (qm4, .inl (cI, 40, .inl kl)), (qm5, .inl (cL, 40, .inr (.inl ku)))] sz) [(qm, .inr (1, [.ref qm1, .ref qm2, .ref qm3, .ref qm4, .ref qm5, .int zm])), (qm1, .inl (cI, 40, .inl kt)), (qm2, .inl (cI, 40, .inl ks)), (qm3, .inl (cI, 40, .inl kf)), (qm4, .inl (cI, 40, .inl kl)), (qm5, .inl (cL, 40, .inr (.inl ku)))]) (va_A [(qm, .inr (1, [.ref qm1, .ref qm2, .ref qm3, .ref qm4, .ref qm5, .int zm])), (qm1, .inl (cI, 40, .inl kt)), (qm2, .inl (cI, 40, .inl ks)), (qm3, .inl (cI, 40, .inl kf)), (qm4, .inl (cI, 40, .inl kl)), (qm5, .inl (cL, 40, .inr (.inl ku)))] sz)) 0 0 (va_A [(qm, .inr (1, [.ref qm1, .ref qm2, .ref qm3, .ref qm4, .ref qm5, .int zm])), (qm1, .inl (cI, 40, .inl kt)), (qm2, .inl (cI, 40, .inl ks)), (qm3, .inl (cI, 40, .inl kf)), (qm4, .inl (cI, 40, .inl kl)), (qm5, .inl (cL, 40, .inr (.inl ku)))] sz) := by
  refine Met.ofW (cc := cX1_unitsAheadBy) (maxL := 6) (ret := (some .long)) (by decide) rfl ?_
  intro p e s m args below meth c s₁ B hml hv
  obtain ⟨rfl, hsz, hP, hK, hD0, hN⟩ := hv
  have hx := B.exec
  have hb := B.bytes
  have hr := B.returns
  have hts := atoms_spec (ws := wsX1_unitsAheadBy) B.pre
  have hown : s.vm.findClass RX1 = some m.cls := findClass_of_methodNamed B.named
  have hlocks := B.notSynchronized
  subst hsz
  have hD := hD0.self (sz := s.heap.size)
  generalize hAe : va_A [(qm, .inr (1, [.ref qm1, .ref qm2, .ref qm3, .ref qm4, .ref qm5, .int zm])), (qm1, .inl (cI, 40, .inl kt)), (qm2, .inl (cI, 40, .inl ks)), (qm3, .inl (cI, 40, .inl kf)), (qm4, .inl (cI, 40, .inl kl)), (qm5, .inl (cL, 40, .inr (.inl ku)))] s.heap.size = A at hD ⊢
  have hA : ∀ q : Nat, s.heap.size ≤ q → A q := fun q h => by rw [← hAe]; exact Or.inr h
  have hP : va_P G vwCl [(qm, .inr (1, [.ref qm1, .ref qm2, .ref qm3, .ref qm4, .ref qm5, .int zm])), (qm1, .inl (cI, 40, .inl kt)), (qm2, .inl (cI, 40, .inl ks)), (qm3, .inl (cI, 40, .inl kf)), (qm4, .inl (cI, 40, .inl kl)), (qm5, .inl (cL, 40, .inr (.inl ku)))] s.heap := hP
  have hl := lv_entry ([.ref qm, .int p0, .int p1]) (n := 6) (Nat.le_of_ble_eq_true rfl)
  rw [lg_entry_eq]
  generalize (lg_sl ([.ref qm, .int p0, .int p1]) ++ List.replicate (6 - (lg_sl ([.ref qm, .int p0, .int p1])).length) Slot.unset).toArray = ls at hl ⊢
  have hl : lv_has ls 6 [(0, .ref qm), (1, .int p0), (2, .int p1)] := hl
  have hf9 := hts (.fieldLink RX1 9 "TempoMaps$Marks" "ticks" "[I") (by decide +kernel)
  have hf15 := hts (.fieldLink RX1 15 "TempoMaps$Marks" "spans" "[I") (by decide +kernel)
  have hf21 := hts (.fieldLink RX1 21 "TempoMaps$Marks" "lastPaces" "[I") (by decide +kernel)
  have hf18 := hts (.fieldLink RX1 18 "TempoMaps$Marks" "firstPaces" "[I") (by decide +kernel)
  have hf24 := hts (.fieldLink RX1 24 "TempoMaps$Marks" "unitsBefore" "[J") (by decide +kernel)
  have hiX1 : ∀ w ∈ wsX10, w ∈ wsX1_unitsAheadBy := by decide +kernel
  have zl1000 : ((1000 : Int64)).toInt = 1000 := by decide
  refine w_h (A := A) hP (fun H locs hP hS => ?_)
  have hn40 := hOm.1
  have hrg := hOm.2.1
  refine lv_iload_n hx hb dX1_unitsAheadBy_0 rfl (lv_at hl 1 rfl) ?_
  refine lv_if_ge (tgt := 11) hx hb dX1_unitsAheadBy_1 (by decide) (fun c1 => ?_) (fun c1 => ?_)
  · have k1 : (0 : Int) ≤ p0.toInt := i_le (show ((0 : Int32)).toInt = 0 by decide) rfl c1
    have q2 := hq2 k1
    have qr := hrg p0.toInt.toNat (by omega)
    have qu := psum_rng (P := (paceF kt ks kf kl nm)) (kt p0.toInt.toNat).toInt.toNat (fun y _ => pace_rng hOm y)
    refine lv_iload_n hx hb dX1_unitsAheadBy_11 rfl (lv_at hl 2 rfl) ?_
    refine lv_aload_n hx hb dX1_unitsAheadBy_12 rfl (lv_at hl 0 rfl) ?_
    refine va_get (D := G) (ci := 1) (v := .ref qm1) (C := RX1) (T := TX1) (N := 6) hx hb hts hiX1 hown hK hP 0 rfl rfl 0 (by decide) hf9 (fun _ h9 => h9) rfl dX1_unitsAheadBy_13 ?_
    refine lv_iload_n hx hb dX1_unitsAheadBy_16 rfl (lv_at hl 1 rfl) ?_
    refine va_iald hx hb hK hP 1 0 rfl rfl (vi_in rfl (by omega) (by omega)) dX1_unitsAheadBy_17 ?_
    refine lv_topi (fun x17 ex17 => ?_)
    have ex17 : x17 = kt p0.toInt.toNat := by rw [ex17]; exact congrArg _ (cl_nat rfl (by omega))
    have tx17 : x17.toInt = (kt p0.toInt.toNat).toInt := by rw [ex17]
    have hrg_x17 := hrg p0.toInt.toNat (by omega)
    refine lv_isub hx hb dX1_unitsAheadBy_18 ?_
    refine lv_topi (fun x18 ex18 => ?_)
    have tx18 : x18.toInt = p1.toInt - x17.toInt := by rw [ex18]; exact ti_sub rfl rfl (by omega) (by omega)
    refine lv_istore_n (lv' := [(3, .int x18), (0, .ref qm), (1, .int p0), (2, .int p1)]) hx hb dX1_unitsAheadBy_19 rfl hl (by decide) rfl (fun ls hl => ?_)
    refine lv_iload_n hx hb dX1_unitsAheadBy_20 rfl (lv_at hl 0 rfl) ?_
    refine lv_aload_n hx hb dX1_unitsAheadBy_21 rfl (lv_at hl 1 rfl) ?_
    refine va_get (D := G) (ci := 1) (v := .ref qm2) (C := RX1) (T := TX1) (N := 6) hx hb hts hiX1 hown hK hP 0 rfl rfl 1 (by decide) hf15 (fun _ h9 => h9) rfl dX1_unitsAheadBy_22 ?_
    refine lv_iload_n hx hb dX1_unitsAheadBy_25 rfl (lv_at hl 2 rfl) ?_
    refine va_iald hx hb hK hP 2 0 rfl rfl (vi_in rfl (by omega) (by omega)) dX1_unitsAheadBy_26 ?_
    refine lv_topi (fun x26 ex26 => ?_)
    have ex26 : x26 = ks p0.toInt.toNat := by rw [ex26]; exact congrArg _ (cl_nat rfl (by omega))
    have tx26 : x26.toInt = (ks p0.toInt.toNat).toInt := by rw [ex26]
    have hrg_x26 := hrg p0.toInt.toNat (by omega)
    refine va_mmin hx hb (by rw [hml]; exact hl.1.symm) hown (hts (.methodLink RX1 63 Lib.Math.min.name) (by decide +kernel)) (hts (.static Lib.Math.min.name) (by decide +kernel)) (hts (.initialized "java/lang/Math") (by decide +kernel)) (hts (.code Lib.Math.min.name Lib.Math.min.code 2 (some .int)) (by decide +kernel)) (Nat.le_of_ble_eq_true rfl) (Nat.le_of_ble_eq_true rfl) (Nat.zero_le _) (Nat.zero_le _) dX1_unitsAheadBy_27 ?_
    refine lv_topi (fun x27 ex27 => ?_)
    have tx27 : x27.toInt = min x18.toInt x26.toInt := by rw [ex27]; exact ti_min rfl rfl
    refine lv_istore (lv' := [(4, .int x27), (3, .int x18), (0, .ref qm), (1, .int p0), (2, .int p1)]) hx hb dX1_unitsAheadBy_30  hl (by decide) rfl (fun ls hl => ?_)
    refine lv_aload_n hx hb dX1_unitsAheadBy_32 rfl (lv_at hl 2 rfl) ?_
    refine va_get (D := G) (ci := 1) (v := .ref qm4) (C := RX1) (T := TX1) (N := 6) hx hb hts hiX1 hown hK hP 0 rfl rfl 3 (by decide) hf21 (fun _ h9 => h9) rfl dX1_unitsAheadBy_33 ?_
    refine lv_iload_n hx hb dX1_unitsAheadBy_36 rfl (lv_at hl 3 rfl) ?_
    refine va_iald hx hb hK hP 4 0 rfl rfl (vi_in rfl (by omega) (by omega)) dX1_unitsAheadBy_37 ?_
    refine lv_topi (fun x37 ex37 => ?_)
    have ex37 : x37 = kl p0.toInt.toNat := by rw [ex37]; exact congrArg _ (cl_nat rfl (by omega))
    have tx37 : x37.toInt = (kl p0.toInt.toNat).toInt := by rw [ex37]
    have hrg_x37 := hrg p0.toInt.toNat (by omega)
    refine lv_aload_n hx hb dX1_unitsAheadBy_38 rfl (lv_at hl 2 rfl) ?_
    refine va_get (D := G) (ci := 1) (v := .ref qm3) (C := RX1) (T := TX1) (N := 6) hx hb hts hiX1 hown hK hP 0 rfl rfl 2 (by decide) hf18 (fun _ h9 => h9) rfl dX1_unitsAheadBy_39 ?_
    refine lv_iload_n hx hb dX1_unitsAheadBy_42 rfl (lv_at hl 3 rfl) ?_
    refine va_iald hx hb hK hP 3 0 rfl rfl (vi_in rfl (by omega) (by omega)) dX1_unitsAheadBy_43 ?_
    refine lv_topi (fun x43 ex43 => ?_)
    have ex43 : x43 = kf p0.toInt.toNat := by rw [ex43]; exact congrArg _ (cl_nat rfl (by omega))
    have tx43 : x43.toInt = (kf p0.toInt.toNat).toInt := by rw [ex43]
    have hrg_x43 := hrg p0.toInt.toNat (by omega)
    refine lv_isub hx hb dX1_unitsAheadBy_44 ?_
    refine lv_topi (fun x44 ex44 => ?_)
    have tx44 : x44.toInt = x37.toInt - x43.toInt := by rw [ex44]; exact ti_sub rfl rfl (by omega) (by omega)
    refine lv_istore (lv' := [(5, .int x44), (4, .int x27), (3, .int x18), (0, .ref qm), (1, .int p0), (2, .int p1)]) hx hb dX1_unitsAheadBy_45  hl (by decide) rfl (fun ls hl => ?_)
    refine lv_aload_n hx hb dX1_unitsAheadBy_47 rfl (lv_at hl 3 rfl) ?_
    refine va_get (D := G) (ci := 1) (v := .ref qm5) (C := RX1) (T := TX1) (N := 6) hx hb hts hiX1 hown hK hP 0 rfl rfl 4 (by decide) hf24 (fun _ h9 => h9) rfl dX1_unitsAheadBy_48 ?_
    refine lv_iload_n hx hb dX1_unitsAheadBy_51 rfl (lv_at hl 4 rfl) ?_
    refine va_lald hx hb hK hP 5 1 rfl rfl (vi_in rfl (by omega) (by omega)) dX1_unitsAheadBy_52 ?_
    refine lv_topl (fun x52 ex52 => ?_)
    have ex52 : x52 = ku p0.toInt.toNat := by rw [ex52]; exact congrArg _ (cl_nat rfl (by omega))
    have tx52 : x52.toInt = (ku p0.toInt.toNat).toInt := by rw [ex52]
    refine lv_aload_n hx hb dX1_unitsAheadBy_53 rfl (lv_at hl 3 rfl) ?_
    refine va_get (D := G) (ci := 1) (v := .ref qm3) (C := RX1) (T := TX1) (N := 6) hx hb hts hiX1 hown hK hP 0 rfl rfl 2 (by decide) hf18 (fun _ h9 => h9) rfl dX1_unitsAheadBy_54 ?_
    refine lv_iload_n hx hb dX1_unitsAheadBy_57 rfl (lv_at hl 4 rfl) ?_
    refine va_iald hx hb hK hP 3 0 rfl rfl (vi_in rfl (by omega) (by omega)) dX1_unitsAheadBy_58 ?_
    refine lv_topi (fun x58 ex58 => ?_)
    have ex58 : x58 = kf p0.toInt.toNat := by rw [ex58]; exact congrArg _ (cl_nat rfl (by omega))
    have tx58 : x58.toInt = (kf p0.toInt.toNat).toInt := by rw [ex58]
    have hrg_x58 := hrg p0.toInt.toNat (by omega)
    refine lv_i2l hx hb dX1_unitsAheadBy_59 rfl ?_
    refine lv_topl (fun x59 ex59 => ?_)
    have tx59 : x59.toInt = x58.toInt := by rw [ex59]; exact tc_i2l rfl
    refine lv_iload hx hb dX1_unitsAheadBy_60 (lv_at hl 1 rfl) ?_
    refine lv_i2l hx hb dX1_unitsAheadBy_62 rfl ?_
    refine lv_topl (fun x62 ex62 => ?_)
    have tx62 : x62.toInt = x27.toInt := by rw [ex62]; exact tc_i2l rfl
    have b63 := mul_bnd (show 0 ≤ x58.toInt ∧ x58.toInt ≤ 1000000 by omega) (show 0 ≤ x27.toInt ∧ x27.toInt ≤ 2000 by omega)
    refine lv_lmul hx hb dX1_unitsAheadBy_63 ?_
    refine lv_topl (fun x63 ex63 => ?_)
    have tx63 : x63.toInt = x58.toInt * x27.toInt := by rw [ex63]; exact tl_mul tx59 tx62 (by omega) (by omega)
    refine lv_ladd hx hb dX1_unitsAheadBy_64 ?_
    refine lv_topl (fun x64 ex64 => ?_)
    have tx64 : x64.toInt = x52.toInt + x63.toInt := by rw [ex64]; exact tl_add rfl rfl (by omega) (by omega)
    refine lv_iload hx hb dX1_unitsAheadBy_65 (lv_at hl 1 rfl) ?_
    refine lv_iload hx hb dX1_unitsAheadBy_67 (lv_at hl 0 rfl) ?_
    refine lv_aload_n hx hb dX1_unitsAheadBy_69 rfl (lv_at hl 3 rfl) ?_
    refine va_get (D := G) (ci := 1) (v := .ref qm2) (C := RX1) (T := TX1) (N := 6) hx hb hts hiX1 hown hK hP 0 rfl rfl 1 (by decide) hf15 (fun _ h9 => h9) rfl dX1_unitsAheadBy_70 ?_
    refine lv_iload_n hx hb dX1_unitsAheadBy_73 rfl (lv_at hl 4 rfl) ?_
    refine va_iald hx hb hK hP 2 0 rfl rfl (vi_in rfl (by omega) (by omega)) dX1_unitsAheadBy_74 ?_
    refine lv_topi (fun x74 ex74 => ?_)
    have ex74 : x74 = ks p0.toInt.toNat := by rw [ex74]; exact congrArg _ (cl_nat rfl (by omega))
    have tx74 : x74.toInt = (ks p0.toInt.toNat).toInt := by rw [ex74]
    have hrg_x74 := hrg p0.toInt.toNat (by omega)
    have hPc := hP.sub (ws' := ([] : va_W)) [] rfl
    have hDc := hD.sub (ws' := ([] : va_W)) [] (by decide) rfl
    have hcc := (ct_X3_sumOfQuotients l G cI cL H.size x27 x44 x74 (by omega) (by omega) (by omega))
    refine ro_calll (va_runSN (As := [.int x27, .int x44, .int x74]) (rest := [.long x64]) ⟨hx, hb, hml, hown, hts⟩ hcc ⟨va_cnB 3 hts gX1_unitsAheadBy_X3_sumOfQuotients_n66 rfl rfl rfl (hN.1.2.2.2) (hts (.initialized RX3) (by decide +kernel)) (by decide +kernel) ⟨Nat.le_of_ble_eq_true rfl, Nat.le_of_ble_eq_true rfl⟩, hts (.static yX3_sumOfQuotients) (by decide +kernel), trivial⟩ ⟨pre_blind, pre_pass hK hN hPc hDc⟩ rfl rfl hl.1 rfl (lv_room (Nat.le_of_ble_eq_true rfl)) dX1_unitsAheadBy_75 ⟨Nat.le_of_ble_eq_true rfl, Nat.le_of_ble_eq_true rfl⟩) hP hD hS hA [] rfl (fun r75 H locs hw75 hP hS => ?_)
    try dsimp only at hw75
    have e44 : x44.toInt = (kl p0.toInt.toNat).toInt - (kf p0.toInt.toNat).toInt := by omega
    have b77 := fs_b (a := x44.toInt) (m := x74.toInt) (A := 1000000) (by omega) x27.toInt.toNat (by omega)
    rw [← hw75] at b77
    refine lv_ladd hx hb dX1_unitsAheadBy_78 ?_
    refine lv_topl (fun x78 ex78 => ?_)
    have tx78 : x78.toInt = x64.toInt + r75.toInt := by rw [ex78]; exact tl_add rfl rfl (by omega) (by omega)
    refine lv_aload_n hx hb dX1_unitsAheadBy_79 rfl (lv_at hl 3 rfl) ?_
    refine va_get (D := G) (ci := 1) (v := .ref qm4) (C := RX1) (T := TX1) (N := 6) hx hb hts hiX1 hown hK hP 0 rfl rfl 3 (by decide) hf21 (fun _ h9 => h9) rfl dX1_unitsAheadBy_80 ?_
    refine lv_iload_n hx hb dX1_unitsAheadBy_83 rfl (lv_at hl 4 rfl) ?_
    refine va_iald hx hb hK hP 4 0 rfl rfl (vi_in rfl (by omega) (by omega)) dX1_unitsAheadBy_84 ?_
    refine lv_topi (fun x84 ex84 => ?_)
    have ex84 : x84 = kl p0.toInt.toNat := by rw [ex84]; exact congrArg _ (cl_nat rfl (by omega))
    have tx84 : x84.toInt = (kl p0.toInt.toNat).toInt := by rw [ex84]
    have hrg_x84 := hrg p0.toInt.toNat (by omega)
    refine lv_i2l hx hb dX1_unitsAheadBy_85 rfl ?_
    refine lv_topl (fun x85 ex85 => ?_)
    have tx85 : x85.toInt = x84.toInt := by rw [ex85]; exact tc_i2l rfl
    refine lv_iload_n hx hb dX1_unitsAheadBy_86 rfl (lv_at hl 2 rfl) ?_
    refine lv_iload hx hb dX1_unitsAheadBy_87 (lv_at hl 1 rfl) ?_
    refine lv_isub hx hb dX1_unitsAheadBy_89 ?_
    refine lv_topi (fun x89 ex89 => ?_)
    have tx89 : x89.toInt = x18.toInt - x27.toInt := by rw [ex89]; exact ti_sub rfl rfl (by omega) (by omega)
    refine lv_i2l hx hb dX1_unitsAheadBy_90 rfl ?_
    refine lv_topl (fun x90 ex90 => ?_)
    have tx90 : x90.toInt = x89.toInt := by rw [ex90]; exact tc_i2l rfl
    have b91 := mul_bnd (show 0 ≤ x84.toInt ∧ x84.toInt ≤ 1000000 by omega) (show 0 ≤ x89.toInt ∧ x89.toInt ≤ 1000000 by omega)
    refine lv_lmul hx hb dX1_unitsAheadBy_91 ?_
    refine lv_topl (fun x91 ex91 => ?_)
    have tx91 : x91.toInt = x84.toInt * x89.toInt := by rw [ex91]; exact tl_mul tx85 tx90 (by omega) (by omega)
    refine lv_ladd hx hb dX1_unitsAheadBy_92 ?_
    refine lv_topl (fun x92 ex92 => ?_)
    have tx92 : x92.toInt = x78.toInt + x91.toInt := by rw [ex92]; exact tl_add rfl rfl (by omega) (by omega)
    have s1 := seg_sum (f := (kf p0.toInt.toNat).toInt) (l := (kl p0.toInt.toNat).toInt) (s := (ks p0.toInt.toNat).toInt) (by omega) (p1.toInt - (kt p0.toInt.toNat).toInt).toNat
    rw [show (((p1.toInt - (kt p0.toInt.toNat).toInt).toNat : Nat) : Int) = x18.toInt by omega, show min x18.toInt (ks p0.toInt.toNat).toInt = x27.toInt by omega] at s1
    have e75 : r75.toInt = fs ((kl p0.toInt.toNat).toInt - (kf p0.toInt.toNat).toInt) 0 (ks p0.toInt.toNat).toInt x27.toInt.toNat := by rw [hw75, e44, tx74]
    have e63 : x63.toInt = (kf p0.toInt.toNat).toInt * x27.toInt := by rw [tx63, tx58]
    have e91 : x91.toInt = (kl p0.toInt.toNat).toInt * (x18.toInt - x27.toInt) := by rw [tx91, tx84, tx89]
    have u1 := uab hOm (j := p0.toInt.toNat) (x := p1.toInt) (by omega) q2.1 (fun k hk h => hq3 k hk (by
      rcases Nat.lt_or_ge p0.toInt.toNat k with q | q
      · omega
      · have := srt_le hSr q (by omega); omega))
    exact W.lret (v := x92) hx hb hr (fun t ht hW => ⟨⟨x92, (), rfl, (by (try dsimp only); exact (by rw [u1, s1, ← q2.2]; omega)), by rw [ht]; exact hP, hD⟩, hS.F ht⟩) hS.2.2 dX1_unitsAheadBy_93
  · have k1 : (p0.toInt : Int) < 0 := i_nle (show ((0 : Int32)).toInt = 0 by decide) rfl c1
    refine lv_ldc2 (v := 1000) hx hb hown (hts (.constantLong RX1 61 1000) (by decide +kernel)) dX1_unitsAheadBy_4 ?_
    refine lv_iload_n hx hb dX1_unitsAheadBy_7 rfl (lv_at hl 2 rfl) ?_
    refine lv_i2l hx hb dX1_unitsAheadBy_8 rfl ?_
    refine lv_topl (fun x8 ex8 => ?_)
    have tx8 : x8.toInt = p1.toInt := by rw [ex8]; exact tc_i2l rfl
    refine lv_lmul hx hb dX1_unitsAheadBy_9 ?_
    refine lv_topl (fun x9 ex9 => ?_)
    have tx9 : x9.toInt = 1000 * p1.toInt := by rw [ex9]; exact tl_mul (show ((1000 : Int64)).toInt = 1000 by decide) tx8 (by omega) (by omega)
    exact W.lret (v := x9) hx hb hr (fun t ht hW => ⟨⟨x9, (), rfl, (by (try dsimp only); exact (by rw [uab0 hq1.1 (fun k hk => hq3 k hk (by omega))]; omega)), by rw [ht]; exact hP, hD⟩, hS.F ht⟩) hS.2.2 dX1_unitsAheadBy_10
set_option maxHeartbeats 4000000 in
set_option maxRecDepth 100000 in
theorem ct_X1_renewUnitsBefore (l : Launch) (G : va_G) (cI cL : ClassId) (sz : Nat) (qm : Nat) (qm1 : Nat) (qm2 : Nat) (qm3 : Nat) (qm4 : Nat) (qm5 : Nat) (zm : Int32) (kt : Nat → Int32) (ks : Nat → Int32) (kf : Nat → Int32) (kl : Nat → Int32) (ku : Nat → Int64) (p0 : Int32) (nm : Nat) (hnm : zm.toInt = nm) (hOm : okM nm kt ks kf kl) (hSr : srt nm kt) (hp0 : 0 ≤ p0.toInt ∧ p0.toInt ≤ nm) (hU0 : ∀ k : Nat, k < nm → (k : Int) < p0.toInt → (ku k).toInt = psum (paceF kt ks kf kl nm) (kt k).toInt.toNat) : Met l yX1_renewUnitsBefore wsX1_renewUnitsBefore ({ frames := 3, cells := 0, slots := 0, locals := 87 }) (va_Pc [.ref qm, .int p0] (pre0 G cI cL [(qm, .inr (1, [.ref qm1, .ref qm2, .ref qm3, .ref qm4, .ref qm5, .int zm])), (qm1, .inl (cI, 40, .inl kt)), (qm2, .inl (cI, 40, .inl ks)), (qm3, .inl (cI, 40, .inl kf)), (qm4, .inl (cI, 40, .inl kl)), (qm5, .inl (cL, 40, .inr (.inl ku)))] sz)) (va_Qv (fun (u : Nat → Int64) => okU nm kt ks kf kl u) (fun (u : Nat → Int64) t => va_P G vwCl [(qm, .inr (1, [.ref qm1, .ref qm2, .ref qm3, .ref qm4, .ref qm5, .int zm])), (qm1, .inl (cI, 40, .inl kt)), (qm2, .inl (cI, 40, .inl ks)), (qm3, .inl (cI, 40, .inl kf)), (qm4, .inl (cI, 40, .inl kl)), (qm5, .inl (cL, 40, .inr (.inl u)))] t.heap ∧ va_D (va_A [(qm, .inr (1, [.ref qm1, .ref qm2, .ref qm3, .ref qm4, .ref qm5, .int zm])), (qm1, .inl (cI, 40, .inl kt)), (qm2, .inl (cI, 40, .inl ks)), (qm3, .inl (cI, 40, .inl kf)), (qm4, .inl (cI, 40, .inl kl)), (qm5, .inl (cL, 40, .inr (.inl ku)))] sz) [(qm, .inr (1, [.ref qm1, .ref qm2, .ref qm3, .ref qm4, .ref qm5, .int zm])), (qm1, .inl (cI, 40, .inl kt)), (qm2, .inl (cI, 40, .inl ks)), (qm3, .inl (cI, 40, .inl kf)), (qm4, .inl (cI, 40, .inl kl)), (qm5, .inl (cL, 40, .inr (.inl u)))]) (va_A [(qm, .inr (1, [.ref qm1, .ref qm2, .ref qm3, .ref qm4, .ref qm5, .int zm])), (qm1, .inl (cI, 40, .inl kt)), (qm2, .inl (cI, 40, .inl ks)), (qm3, .inl (cI, 40, .inl kf)), (qm4, .inl (cI, 40, .inl kl)), (qm5, .inl (cL, 40, .inr (.inl ku)))] sz)) 0 0 (va_A [(qm, .inr (1, [.ref qm1, .ref qm2, .ref qm3, .ref qm4, .ref qm5, .int zm])), (qm1, .inl (cI, 40, .inl kt)), (qm2, .inl (cI, 40, .inl ks)), (qm3, .inl (cI, 40, .inl kf)), (qm4, .inl (cI, 40, .inl kl)), (qm5, .inl (cL, 40, .inr (.inl ku)))] sz) := by
  refine Met.ofW (cc := cX1_renewUnitsBefore) (maxL := 3) (ret := none) (by decide) rfl ?_
  intro p e s m args below meth c s₁ B hml hv
  obtain ⟨rfl, hsz, hP, hK, hD0, hN⟩ := hv
  have hx := B.exec
  have hb := B.bytes
  have hr := B.returns
  have hts := atoms_spec (ws := wsX1_renewUnitsBefore) B.pre
  have hown : s.vm.findClass RX1 = some m.cls := findClass_of_methodNamed B.named
  have hlocks := B.notSynchronized
  subst hsz
  have hD := hD0.self (sz := s.heap.size)
  generalize hAe : va_A [(qm, .inr (1, [.ref qm1, .ref qm2, .ref qm3, .ref qm4, .ref qm5, .int zm])), (qm1, .inl (cI, 40, .inl kt)), (qm2, .inl (cI, 40, .inl ks)), (qm3, .inl (cI, 40, .inl kf)), (qm4, .inl (cI, 40, .inl kl)), (qm5, .inl (cL, 40, .inr (.inl ku)))] s.heap.size = A at hD ⊢
  have hA : ∀ q : Nat, s.heap.size ≤ q → A q := fun q h => by rw [← hAe]; exact Or.inr h
  have hP : va_P G vwCl [(qm, .inr (1, [.ref qm1, .ref qm2, .ref qm3, .ref qm4, .ref qm5, .int zm])), (qm1, .inl (cI, 40, .inl kt)), (qm2, .inl (cI, 40, .inl ks)), (qm3, .inl (cI, 40, .inl kf)), (qm4, .inl (cI, 40, .inl kl)), (qm5, .inl (cL, 40, .inr (.inl ku)))] s.heap := hP
  have hl := lv_entry ([.ref qm, .int p0]) (n := 3) (Nat.le_of_ble_eq_true rfl)
  rw [lg_entry_eq]
  generalize (lg_sl ([.ref qm, .int p0]) ++ List.replicate (3 - (lg_sl ([.ref qm, .int p0])).length) Slot.unset).toArray = ls at hl ⊢
  have hl : lv_has ls 3 [(0, .ref qm), (1, .int p0)] := hl
  have hf28 := hts (.fieldLink RX1 28 "TempoMaps$Marks" "size" "I") (by decide +kernel)
  have hf24 := hts (.fieldLink RX1 24 "TempoMaps$Marks" "unitsBefore" "[J") (by decide +kernel)
  have hf9 := hts (.fieldLink RX1 9 "TempoMaps$Marks" "ticks" "[I") (by decide +kernel)
  have hiX1 : ∀ w ∈ wsX10, w ∈ wsX1_renewUnitsBefore := by decide +kernel
  have zi1 : ((1 : Int32)).toInt = 1 := by decide
  refine w_h (A := A) hP (fun H locs hP hS => ?_)
  have hn40 := hOm.1
  have hrg := hOm.2.1
  refine lv_iload_n hx hb dX1_renewUnitsBefore_0 rfl (lv_at hl 1 rfl) ?_
  refine lv_istore_n (lv' := [(2, .int p0), (0, .ref qm), (1, .int p0)]) hx hb dX1_renewUnitsBefore_1 rfl hl (by decide) rfl (fun ls hl => ?_)
  refine W_loop2 (fun (x2 : Int32) (yu : Nat → Int64) ls H locs => va_P G vwCl [(qm, .inr (1, [.ref qm1, .ref qm2, .ref qm3, .ref qm4, .ref qm5, .int zm])), (qm1, .inl (cI, 40, .inl kt)), (qm2, .inl (cI, 40, .inl ks)), (qm3, .inl (cI, 40, .inl kf)), (qm4, .inl (cI, 40, .inl kl)), (qm5, .inl (cL, 40, .inr (.inl yu)))] H ∧ va_D A [(qm, .inr (1, [.ref qm1, .ref qm2, .ref qm3, .ref qm4, .ref qm5, .int zm])), (qm1, .inl (cI, 40, .inl kt)), (qm2, .inl (cI, 40, .inl ks)), (qm3, .inl (cI, 40, .inl kf)), (qm4, .inl (cI, 40, .inl kl)), (qm5, .inl (cL, 40, .inr (.inl yu)))] ∧ va_S A s.heap H locs ∧ lv_has ls 3 [(0, .ref qm), (1, .int p0), (2, .int x2)] ∧ (p0.toInt ≤ x2.toInt ∧ x2.toInt ≤ nm) ∧ (∀ k : Nat, k < nm → (k : Int) < x2.toInt → (yu k).toInt = psum (paceF kt ks kf kl nm) (kt k).toInt.toNat)) (fun (x2 : Int32) (yu : Nat → Int64) => (nm - x2.toInt).toNat) (fun x2 yu ls H locs hI ih => ?_) p0 ku ls _ _ ⟨hP, hD, hS, lv_sub hl [1, 2, 0] rfl, (show p0.toInt ≤ p0.toInt ∧ p0.toInt ≤ nm from by omega), (show ∀ k : Nat, k < nm → (k : Int) < p0.toInt → (ku k).toInt = psum (paceF kt ks kf kl nm) (kt k).toInt.toNat from hU0)⟩
  obtain ⟨hP, hD, hS, hl, i1, i2⟩ := hI
  refine lv_iload_n hx hb dX1_renewUnitsBefore_2 rfl (lv_at hl 2 rfl) ?_
  refine lv_aload_n hx hb dX1_renewUnitsBefore_3 rfl (lv_at hl 0 rfl) ?_
  refine va_get (D := G) (ci := 1) (v := .int zm) (C := RX1) (T := TX1) (N := 6) hx hb hts hiX1 hown hK hP 0 rfl rfl 5 (by decide) hf28 (fun _ h9 => h9) rfl dX1_renewUnitsBefore_4 ?_
  refine lv_icmp_ge (tgt := 35) hx hb dX1_renewUnitsBefore_7 (by decide) (fun c7 => ?_) (fun c7 => ?_)
  · have k7 : (zm.toInt : Int) ≤ x2.toInt := i_le rfl rfl c7
    exact W.vret hx hb hr (fun t ht hW => ⟨⟨yu, rfl, (by (try dsimp only); exact (fun k hk => i2 k hk (by omega))), by rw [ht]; exact hP, hD⟩, hS.F ht⟩) hS.2.2 dX1_renewUnitsBefore_35
  · have k7 : (x2.toInt : Int) < zm.toInt := i_nle rfl rfl c7
    refine lv_aload_n hx hb dX1_renewUnitsBefore_10 rfl (lv_at hl 0 rfl) ?_
    refine va_get (D := G) (ci := 1) (v := .ref qm5) (C := RX1) (T := TX1) (N := 6) hx hb hts hiX1 hown hK hP 0 rfl rfl 4 (by decide) hf24 (fun _ h9 => h9) rfl dX1_renewUnitsBefore_11 ?_
    refine lv_iload_n hx hb dX1_renewUnitsBefore_14 rfl (lv_at hl 2 rfl) ?_
    refine lv_aload_n hx hb dX1_renewUnitsBefore_15 rfl (lv_at hl 0 rfl) ?_
    refine lv_iload_n hx hb dX1_renewUnitsBefore_16 rfl (lv_at hl 2 rfl) ?_
    refine lv_iconst (v := 1) hx hb dX1_renewUnitsBefore_17 (by decide) ?_
    refine lv_isub hx hb dX1_renewUnitsBefore_18 ?_
    refine lv_topi (fun x18 ex18 => ?_)
    have tx18 : x18.toInt = x2.toInt - 1 := by rw [ex18]; exact ti_sub rfl (show ((1 : Int32)).toInt = 1 by decide) (by omega) (by omega)
    refine lv_aload_n hx hb dX1_renewUnitsBefore_19 rfl (lv_at hl 0 rfl) ?_
    refine va_get (D := G) (ci := 1) (v := .ref qm1) (C := RX1) (T := TX1) (N := 6) hx hb hts hiX1 hown hK hP 0 rfl rfl 0 (by decide) hf9 (fun _ h9 => h9) rfl dX1_renewUnitsBefore_20 ?_
    refine lv_iload_n hx hb dX1_renewUnitsBefore_23 rfl (lv_at hl 2 rfl) ?_
    refine va_iald hx hb hK hP 1 0 rfl rfl (vi_in rfl (by omega) (by omega)) dX1_renewUnitsBefore_24 ?_
    refine lv_topi (fun x24 ex24 => ?_)
    have ex24 : x24 = kt x2.toInt.toNat := by rw [ex24]; exact congrArg _ (cl_nat rfl (by omega))
    have tx24 : x24.toInt = (kt x2.toInt.toNat).toInt := by rw [ex24]
    have hrg_x24 := hrg x2.toInt.toNat (by omega)
    have hPc := hP.sub (ws' := [(qm, .inr (1, [.ref qm1, .ref qm2, .ref qm3, .ref qm4, .ref qm5, .int zm])), (qm1, .inl (cI, 40, .inl kt)), (qm2, .inl (cI, 40, .inl ks)), (qm3, .inl (cI, 40, .inl kf)), (qm4, .inl (cI, 40, .inl kl)), (qm5, .inl (cL, 40, .inr (.inl yu)))]) [0, 1, 2, 3, 4, 5] rfl
    have hDc := hD.sub (ws' := [(qm, .inr (1, [.ref qm1, .ref qm2, .ref qm3, .ref qm4, .ref qm5, .int zm])), (qm1, .inl (cI, 40, .inl kt)), (qm2, .inl (cI, 40, .inl ks)), (qm3, .inl (cI, 40, .inl kf)), (qm4, .inl (cI, 40, .inl kl)), (qm5, .inl (cL, 40, .inr (.inl yu)))]) [0, 1, 2, 3, 4, 5] (by decide) rfl
    have hcc := (ct_X1_unitsAheadBy l G cI cL H.size qm qm1 qm2 qm3 qm4 qm5 zm kt ks kf kl yu x18 x24 nm hnm hOm hSr (by omega) (by omega) ((fun h => ⟨by have := srt_le hSr (i := x18.toInt.toNat) (j := x2.toInt.toNat) (by omega) (by omega); omega, i2 _ (by omega) (by omega)⟩)) ((fun k hk h => by have := srt_le hSr (i := x2.toInt.toNat) (j := k) (by omega) hk; omega)))
    refine ro_calll (va_runV (As := [.int x18, .int x24]) (rest := [.int x2, .ref qm5]) ⟨hx, hb, hml, hown, hts⟩ hcc (cwV 2 hts gX1_renewUnitsBefore_X1_unitsAheadBy rfl rfl rfl (by decide +kernel) ⟨Nat.le_of_ble_eq_true rfl, Nat.le_of_ble_eq_true rfl⟩) ⟨pre_blind, va_recv hK hPc (ci := 1) (q0 := 0) rfl rfl, pre_pass hK hN hPc hDc⟩ rfl rfl hl.1 rfl (lv_room (Nat.le_of_ble_eq_true rfl)) dX1_renewUnitsBefore_25 ⟨Nat.le_of_ble_eq_true rfl, Nat.le_of_ble_eq_true rfl⟩) hP hD hS hA [0, 1, 2, 3, 4, 5] rfl (fun r25 H locs hw25 hP hS => ?_)
    try dsimp only at hw25
    refine va_last hx hb hK hP hD hS 5 1 rfl rfl (vi_in rfl (by omega) (by omega)) dX1_renewUnitsBefore_28 (fun H locs hP hD hS => ?_)
    rw [cl_nat rfl (show x2.toInt = ((x2.toInt.toNat : Nat) : Int) by omega)] at hP hD
    have hP : va_P G vwCl [(qm, .inr (1, [.ref qm1, .ref qm2, .ref qm3, .ref qm4, .ref qm5, .int zm])), (qm1, .inl (cI, 40, .inl kt)), (qm2, .inl (cI, 40, .inl ks)), (qm3, .inl (cI, 40, .inl kf)), (qm4, .inl (cI, 40, .inl kl)), (qm5, .inl (cL, 40, .inr (.inl (vp_updL yu x2.toInt.toNat r25))))] H := hP
    have hD : va_D A [(qm, .inr (1, [.ref qm1, .ref qm2, .ref qm3, .ref qm4, .ref qm5, .int zm])), (qm1, .inl (cI, 40, .inl kt)), (qm2, .inl (cI, 40, .inl ks)), (qm3, .inl (cI, 40, .inl kf)), (qm4, .inl (cI, 40, .inl kl)), (qm5, .inl (cL, 40, .inr (.inl (vp_updL yu x2.toInt.toNat r25))))] := hD
    obtain ⟨x29, ex29⟩ : ∃ y : Int32, y = x2 + 1 := ⟨_, rfl⟩
    have tx29 : x29.toInt = x2.toInt + 1 := by rw [ex29]; exact ti_add rfl (by decide) (by omega) (by omega)
    refine lv_iinc (v := x29) (lv' := [(2, .int x29), (0, .ref qm), (1, .int p0)]) hx hb dX1_renewUnitsBefore_29 hl (k := 2) rfl (by rw [ex29]; rfl) (by decide) rfl (fun ls hl => ?_)
    refine lv_goto (tgt := 2) hx hb dX1_renewUnitsBefore_32 (by decide) ?_
    exact ih x29 (vp_updL yu x2.toInt.toNat r25) ls _ _ ⟨hP, hD, hS, lv_sub hl [1, 2, 0] rfl, (show p0.toInt ≤ x29.toInt ∧ x29.toInt ≤ nm from by omega), (show ∀ k : Nat, k < nm → (k : Int) < x29.toInt → ((vp_updL yu x2.toInt.toNat r25) k).toInt = psum (paceF kt ks kf kl nm) (kt k).toInt.toNat from fun k h1 h2 => (Decidable.em (k = x2.toInt.toNat)).elim (fun e => by rw [e, pk_uLs, hw25, tx24]) (fun e => by rw [pk_uLn e]; exact i2 k h1 (by omega)))⟩ (show (nm - x29.toInt).toNat < (nm - x2.toInt).toNat from by omega)
set_option maxHeartbeats 4000000 in
set_option maxRecDepth 100000 in
theorem ct_X1_unitsOfTick (l : Launch) (G : va_G) (cI cL : ClassId) (sz : Nat) (qm : Nat) (qm1 : Nat) (qm2 : Nat) (qm3 : Nat) (qm4 : Nat) (qm5 : Nat) (zm : Int32) (kt : Nat → Int32) (ks : Nat → Int32) (kf : Nat → Int32) (kl : Nat → Int32) (ku : Nat → Int64) (p0 : Int32) (nm : Nat) (hnm : zm.toInt = nm) (hOm : okM nm kt ks kf kl) (hSr : srt nm kt) (hp0 : -1 ≤ p0.toInt ∧ p0.toInt ≤ 1000000) : Met l yX1_unitsOfTick wsX1_unitsOfTick ({ frames := 1, cells := 0, slots := 0, locals := 22 }) (va_Pc [.ref qm, .int p0] (pre0 G cI cL [(qm, .inr (1, [.ref qm1, .ref qm2, .ref qm3, .ref qm4, .ref qm5, .int zm])), (qm1, .inl (cI, 40, .inl kt)), (qm2, .inl (cI, 40, .inl ks)), (qm3, .inl (cI, 40, .inl kf)), (qm4, .inl (cI, 40, .inl kl)), (qm5, .inl (cL, 40, .inr (.inl ku)))] sz)) (va_Qi (fun (r : Int32) (u : Unit) => r.toInt = paceF kt ks kf kl nm p0.toInt) (fun (u : Unit) t => va_P G vwCl [(qm, .inr (1, [.ref qm1, .ref qm2, .ref qm3, .ref qm4, .ref qm5, .int zm])), (qm1, .inl (cI, 40, .inl kt)), (qm2, .inl (cI, 40, .inl ks)), (qm3, .inl (cI, 40, .inl kf)), (qm4, .inl (cI, 40, .inl kl)), (qm5, .inl (cL, 40, .inr (.inl ku)))] t.heap ∧ va_D (va_A [(qm, .inr (1, [.ref qm1, .ref qm2, .ref qm3, .ref qm4, .ref qm5, .int zm])), (qm1, .inl (cI, 40, .inl kt)), (qm2, .inl (cI, 40, .inl ks)), (qm3, .inl (cI, 40, .inl kf)), (qm4, .inl (cI, 40, .inl kl)), (qm5, .inl (cL, 40, .inr (.inl ku)))] sz) [(qm, .inr (1, [.ref qm1, .ref qm2, .ref qm3, .ref qm4, .ref qm5, .int zm])), (qm1, .inl (cI, 40, .inl kt)), (qm2, .inl (cI, 40, .inl ks)), (qm3, .inl (cI, 40, .inl kf)), (qm4, .inl (cI, 40, .inl kl)), (qm5, .inl (cL, 40, .inr (.inl ku)))]) (va_A [(qm, .inr (1, [.ref qm1, .ref qm2, .ref qm3, .ref qm4, .ref qm5, .int zm])), (qm1, .inl (cI, 40, .inl kt)), (qm2, .inl (cI, 40, .inl ks)), (qm3, .inl (cI, 40, .inl kf)), (qm4, .inl (cI, 40, .inl kl)), (qm5, .inl (cL, 40, .inr (.inl ku)))] sz)) 0 0 (va_A [(qm, .inr (1, [.ref qm1, .ref qm2, .ref qm3, .ref qm4, .ref qm5, .int zm])), (qm1, .inl (cI, 40, .inl kt)), (qm2, .inl (cI, 40, .inl ks)), (qm3, .inl (cI, 40, .inl kf)), (qm4, .inl (cI, 40, .inl kl)), (qm5, .inl (cL, 40, .inr (.inl ku)))] sz) := by
  refine Met.ofW (cc := cX1_unitsOfTick) (maxL := 6) (ret := (some .int)) (by decide) rfl ?_
  intro p e s m args below meth c s₁ B hml hv
  obtain ⟨rfl, hsz, hP, hK, hD0, hN⟩ := hv
  have hx := B.exec
  have hb := B.bytes
  have hr := B.returns
  have hts := atoms_spec (ws := wsX1_unitsOfTick) B.pre
  have hown : s.vm.findClass RX1 = some m.cls := findClass_of_methodNamed B.named
  have hlocks := B.notSynchronized
  subst hsz
  have hD := hD0.self (sz := s.heap.size)
  generalize hAe : va_A [(qm, .inr (1, [.ref qm1, .ref qm2, .ref qm3, .ref qm4, .ref qm5, .int zm])), (qm1, .inl (cI, 40, .inl kt)), (qm2, .inl (cI, 40, .inl ks)), (qm3, .inl (cI, 40, .inl kf)), (qm4, .inl (cI, 40, .inl kl)), (qm5, .inl (cL, 40, .inr (.inl ku)))] s.heap.size = A at hD ⊢
  have hA : ∀ q : Nat, s.heap.size ≤ q → A q := fun q h => by rw [← hAe]; exact Or.inr h
  have hP : va_P G vwCl [(qm, .inr (1, [.ref qm1, .ref qm2, .ref qm3, .ref qm4, .ref qm5, .int zm])), (qm1, .inl (cI, 40, .inl kt)), (qm2, .inl (cI, 40, .inl ks)), (qm3, .inl (cI, 40, .inl kf)), (qm4, .inl (cI, 40, .inl kl)), (qm5, .inl (cL, 40, .inr (.inl ku)))] s.heap := hP
  have hl := lv_entry ([.ref qm, .int p0]) (n := 6) (Nat.le_of_ble_eq_true rfl)
  rw [lg_entry_eq]
  generalize (lg_sl ([.ref qm, .int p0]) ++ List.replicate (6 - (lg_sl ([.ref qm, .int p0])).length) Slot.unset).toArray = ls at hl ⊢
  have hl : lv_has ls 6 [(0, .ref qm), (1, .int p0)] := hl
  have hf9 := hts (.fieldLink RX1 9 "TempoMaps$Marks" "ticks" "[I") (by decide +kernel)
  have hf15 := hts (.fieldLink RX1 15 "TempoMaps$Marks" "spans" "[I") (by decide +kernel)
  have hf21 := hts (.fieldLink RX1 21 "TempoMaps$Marks" "lastPaces" "[I") (by decide +kernel)
  have hf18 := hts (.fieldLink RX1 18 "TempoMaps$Marks" "firstPaces" "[I") (by decide +kernel)
  have hiX1 : ∀ w ∈ wsX10, w ∈ wsX1_unitsOfTick := by decide +kernel
  have zi1 : ((1 : Int32)).toInt = 1 := by decide
  have zi1000 : ((1000 : Int32)).toInt = 1000 := by decide
  refine w_h (A := A) hP (fun H locs hP hS => ?_)
  have hn40 := hOm.1
  have hrg := hOm.2.1
  refine lv_aload_n hx hb dX1_unitsOfTick_0 rfl (lv_at hl 0 rfl) ?_
  refine lv_iload_n hx hb dX1_unitsOfTick_1 rfl (lv_at hl 1 rfl) ?_
  have hPc := hP.sub (ws' := [(qm, .inr (1, [.ref qm1, .ref qm2, .ref qm3, .ref qm4, .ref qm5, .int zm])), (qm1, .inl (cI, 40, .inl kt)), (qm2, .inl (cI, 40, .inl ks)), (qm3, .inl (cI, 40, .inl kf)), (qm4, .inl (cI, 40, .inl kl)), (qm5, .inl (cL, 40, .inr (.inl ku)))]) [0, 1, 2, 3, 4, 5] rfl
  have hDc := hD.sub (ws' := [(qm, .inr (1, [.ref qm1, .ref qm2, .ref qm3, .ref qm4, .ref qm5, .int zm])), (qm1, .inl (cI, 40, .inl kt)), (qm2, .inl (cI, 40, .inl ks)), (qm3, .inl (cI, 40, .inl kf)), (qm4, .inl (cI, 40, .inl kl)), (qm5, .inl (cL, 40, .inr (.inl ku)))]) [0, 1, 2, 3, 4, 5] (by decide) rfl
  have hcc := (ct_X1_placeOf l G cI cL H.size qm qm1 qm2 qm3 qm4 qm5 zm kt ks kf kl ku p0 nm hnm hOm hSr)
  refine ro_calli (va_runV (As := [.int p0]) (rest := []) ⟨hx, hb, hml, hown, hts⟩ hcc (cwV 1 hts gX1_unitsOfTick_X1_placeOf rfl rfl rfl (by decide +kernel) ⟨Nat.le_of_ble_eq_true rfl, Nat.le_of_ble_eq_true rfl⟩) ⟨pre_blind, va_recv hK hPc (ci := 1) (q0 := 0) rfl rfl, pre_pass hK hN hPc hDc⟩ rfl rfl hl.1 rfl (lv_room (Nat.le_of_ble_eq_true rfl)) dX1_unitsOfTick_2 ⟨Nat.le_of_ble_eq_true rfl, Nat.le_of_ble_eq_true rfl⟩) hP hD hS hA [0, 1, 2, 3, 4, 5] rfl (fun r2 H locs hw2 hP hS => ?_)
  try dsimp only at hw2
  refine lv_istore_n (lv' := [(2, .int r2), (0, .ref qm), (1, .int p0)]) hx hb dX1_unitsOfTick_5 rfl hl (by decide) rfl (fun ls hl => ?_)
  refine lv_iload_n hx hb dX1_unitsOfTick_6 rfl (lv_at hl 0 rfl) ?_
  refine lv_if_ge (tgt := 14) hx hb dX1_unitsOfTick_7 (by decide) (fun c7 => ?_) (fun c7 => ?_)
  · have k7 : (0 : Int) ≤ r2.toInt := i_le (show ((0 : Int32)).toInt = 0 by decide) rfl c7
    have bg := bi_get hw2 k7
    refine lv_iload_n hx hb dX1_unitsOfTick_14 rfl (lv_at hl 2 rfl) ?_
    refine lv_aload_n hx hb dX1_unitsOfTick_15 rfl (lv_at hl 1 rfl) ?_
    refine va_get (D := G) (ci := 1) (v := .ref qm1) (C := RX1) (T := TX1) (N := 6) hx hb hts hiX1 hown hK hP 0 rfl rfl 0 (by decide) hf9 (fun _ h9 => h9) rfl dX1_unitsOfTick_16 ?_
    refine lv_iload_n hx hb dX1_unitsOfTick_19 rfl (lv_at hl 0 rfl) ?_
    refine va_iald hx hb hK hP 1 0 rfl rfl (vi_in rfl (by omega) (by omega)) dX1_unitsOfTick_20 ?_
    refine lv_topi (fun x20 ex20 => ?_)
    have ex20 : x20 = kt r2.toInt.toNat := by rw [ex20]; exact congrArg _ (cl_nat rfl (by omega))
    have tx20 : x20.toInt = (kt r2.toInt.toNat).toInt := by rw [ex20]
    have hrg_x20 := hrg r2.toInt.toNat (by omega)
    refine lv_isub hx hb dX1_unitsOfTick_21 ?_
    refine lv_topi (fun x21 ex21 => ?_)
    have tx21 : x21.toInt = p0.toInt - x20.toInt := by rw [ex21]; exact ti_sub rfl rfl (by omega) (by omega)
    refine lv_istore_n (lv' := [(3, .int x21), (2, .int r2), (0, .ref qm), (1, .int p0)]) hx hb dX1_unitsOfTick_22 rfl hl (by decide) rfl (fun ls hl => ?_)
    refine lv_aload_n hx hb dX1_unitsOfTick_23 rfl (lv_at hl 2 rfl) ?_
    refine va_get (D := G) (ci := 1) (v := .ref qm2) (C := RX1) (T := TX1) (N := 6) hx hb hts hiX1 hown hK hP 0 rfl rfl 1 (by decide) hf15 (fun _ h9 => h9) rfl dX1_unitsOfTick_24 ?_
    refine lv_iload_n hx hb dX1_unitsOfTick_27 rfl (lv_at hl 1 rfl) ?_
    refine va_iald hx hb hK hP 2 0 rfl rfl (vi_in rfl (by omega) (by omega)) dX1_unitsOfTick_28 ?_
    refine lv_topi (fun x28 ex28 => ?_)
    have ex28 : x28 = ks r2.toInt.toNat := by rw [ex28]; exact congrArg _ (cl_nat rfl (by omega))
    have tx28 : x28.toInt = (ks r2.toInt.toNat).toInt := by rw [ex28]
    have hrg_x28 := hrg r2.toInt.toNat (by omega)
    refine lv_istore (lv' := [(4, .int x28), (3, .int x21), (2, .int r2), (0, .ref qm), (1, .int p0)]) hx hb dX1_unitsOfTick_29  hl (by decide) rfl (fun ls hl => ?_)
    refine lv_iload hx hb dX1_unitsOfTick_31 (lv_at hl 0 rfl) ?_
    refine lv_iconst (v := 1) hx hb dX1_unitsOfTick_33 (by decide) ?_
    refine lv_icmp_lt (tgt := 43) hx hb dX1_unitsOfTick_34 (by decide) (fun c34 => ?_) (fun c34 => ?_)
    · have k34 : (x28.toInt : Int) < 1 := i_lt rfl (show ((1 : Int32)).toInt = 1 by decide) c34
      refine lv_aload_n hx hb dX1_unitsOfTick_43 rfl (lv_at hl 3 rfl) ?_
      refine va_get (D := G) (ci := 1) (v := .ref qm4) (C := RX1) (T := TX1) (N := 6) hx hb hts hiX1 hown hK hP 0 rfl rfl 3 (by decide) hf21 (fun _ h9 => h9) rfl dX1_unitsOfTick_44 ?_
      refine lv_iload_n hx hb dX1_unitsOfTick_47 rfl (lv_at hl 2 rfl) ?_
      refine va_iald hx hb hK hP 4 0 rfl rfl (vi_in rfl (by omega) (by omega)) dX1_unitsOfTick_48 ?_
      refine lv_topi (fun x48 ex48 => ?_)
      have ex48 : x48 = kl r2.toInt.toNat := by rw [ex48]; exact congrArg _ (cl_nat rfl (by omega))
      have tx48 : x48.toInt = (kl r2.toInt.toNat).toInt := by rw [ex48]
      have hrg_x48 := hrg r2.toInt.toNat (by omega)
      exact W.iret (v := x48) hx hb hr (fun t ht hW => ⟨⟨x48, (), rfl, (by (try dsimp only); exact (by rw [pace_at hOm.2.2.1 bg.1 bg.2.2.1 bg.2.2.2]; unfold seg; rw [if_pos (by omega)]; omega)), by rw [ht]; exact hP, hD⟩, hS.F ht⟩) hS.2.2 dX1_unitsOfTick_49
    · have k34 : (1 : Int) ≤ x28.toInt := i_nlt rfl (show ((1 : Int32)).toInt = 1 by decide) c34
      refine lv_iload_n hx hb dX1_unitsOfTick_37 rfl (lv_at hl 1 rfl) ?_
      refine lv_iload hx hb dX1_unitsOfTick_38 (lv_at hl 0 rfl) ?_
      refine lv_icmp_lt (tgt := 50) hx hb dX1_unitsOfTick_40 (by decide) (fun c40 => ?_) (fun c40 => ?_)
      · have k40 : (x21.toInt : Int) < x28.toInt := i_lt rfl rfl c40
        refine lv_aload_n hx hb dX1_unitsOfTick_50 rfl (lv_at hl 3 rfl) ?_
        refine va_get (D := G) (ci := 1) (v := .ref qm4) (C := RX1) (T := TX1) (N := 6) hx hb hts hiX1 hown hK hP 0 rfl rfl 3 (by decide) hf21 (fun _ h9 => h9) rfl dX1_unitsOfTick_51 ?_
        refine lv_iload_n hx hb dX1_unitsOfTick_54 rfl (lv_at hl 2 rfl) ?_
        refine va_iald hx hb hK hP 4 0 rfl rfl (vi_in rfl (by omega) (by omega)) dX1_unitsOfTick_55 ?_
        refine lv_topi (fun x55 ex55 => ?_)
        have ex55 : x55 = kl r2.toInt.toNat := by rw [ex55]; exact congrArg _ (cl_nat rfl (by omega))
        have tx55 : x55.toInt = (kl r2.toInt.toNat).toInt := by rw [ex55]
        have hrg_x55 := hrg r2.toInt.toNat (by omega)
        refine lv_aload_n hx hb dX1_unitsOfTick_56 rfl (lv_at hl 3 rfl) ?_
        refine va_get (D := G) (ci := 1) (v := .ref qm3) (C := RX1) (T := TX1) (N := 6) hx hb hts hiX1 hown hK hP 0 rfl rfl 2 (by decide) hf18 (fun _ h9 => h9) rfl dX1_unitsOfTick_57 ?_
        refine lv_iload_n hx hb dX1_unitsOfTick_60 rfl (lv_at hl 2 rfl) ?_
        refine va_iald hx hb hK hP 3 0 rfl rfl (vi_in rfl (by omega) (by omega)) dX1_unitsOfTick_61 ?_
        refine lv_topi (fun x61 ex61 => ?_)
        have ex61 : x61 = kf r2.toInt.toNat := by rw [ex61]; exact congrArg _ (cl_nat rfl (by omega))
        have tx61 : x61.toInt = (kf r2.toInt.toNat).toInt := by rw [ex61]
        have hrg_x61 := hrg r2.toInt.toNat (by omega)
        refine lv_isub hx hb dX1_unitsOfTick_62 ?_
        refine lv_topi (fun x62 ex62 => ?_)
        have tx62 : x62.toInt = x55.toInt - x61.toInt := by rw [ex62]; exact ti_sub rfl rfl (by omega) (by omega)
        refine lv_istore (lv' := [(5, .int x62), (4, .int x28), (3, .int x21), (2, .int r2), (0, .ref qm), (1, .int p0)]) hx hb dX1_unitsOfTick_63  hl (by decide) rfl (fun ls hl => ?_)
        refine lv_aload_n hx hb dX1_unitsOfTick_65 rfl (lv_at hl 4 rfl) ?_
        refine va_get (D := G) (ci := 1) (v := .ref qm3) (C := RX1) (T := TX1) (N := 6) hx hb hts hiX1 hown hK hP 0 rfl rfl 2 (by decide) hf18 (fun _ h9 => h9) rfl dX1_unitsOfTick_66 ?_
        refine lv_iload_n hx hb dX1_unitsOfTick_69 rfl (lv_at hl 3 rfl) ?_
        refine va_iald hx hb hK hP 3 0 rfl rfl (vi_in rfl (by omega) (by omega)) dX1_unitsOfTick_70 ?_
        refine lv_topi (fun x70 ex70 => ?_)
        have ex70 : x70 = kf r2.toInt.toNat := by rw [ex70]; exact congrArg _ (cl_nat rfl (by omega))
        have tx70 : x70.toInt = (kf r2.toInt.toNat).toInt := by rw [ex70]
        have hrg_x70 := hrg r2.toInt.toNat (by omega)
        refine lv_iload hx hb dX1_unitsOfTick_71 (lv_at hl 0 rfl) ?_
        refine lv_iload_n hx hb dX1_unitsOfTick_73 rfl (lv_at hl 2 rfl) ?_
        have b74 := mul_abs (show -1000000 ≤ x62.toInt ∧ x62.toInt ≤ 1000000 by omega) (show 0 ≤ x21.toInt ∧ x21.toInt ≤ 2000 by omega)
        refine lv_imul hx hb dX1_unitsOfTick_74 ?_
        refine lv_topi (fun x74 ex74 => ?_)
        have tx74 : x74.toInt = x62.toInt * x21.toInt := by rw [ex74]; exact ti_mul rfl rfl (by omega) (by omega)
        refine lv_iload hx hb dX1_unitsOfTick_75 (lv_at hl 1 rfl) ?_
        have hPc := hP.sub (ws' := ([] : va_W)) [] rfl
        have hDc := hD.sub (ws' := ([] : va_W)) [] (by decide) rfl
        have hcc := (ct_J9_floorDiv_7cf53 l G cI cL H.size x74 x28 (by omega))
        refine ro_calli (va_runS (As := [.int x74, .int x28]) (rest := [.int x70]) ⟨hx, hb, hml, hown, hts⟩ hcc (va_cwS 2 hts gX1_unitsOfTick_J9_floorDiv_7cf53 rfl rfl rfl (by decide +kernel) ⟨Nat.le_of_ble_eq_true rfl, Nat.le_of_ble_eq_true rfl⟩) ⟨pre_blind, pre_pass hK hN hPc hDc⟩ rfl rfl hl.1 rfl (lv_room (Nat.le_of_ble_eq_true rfl)) dX1_unitsOfTick_77 ⟨Nat.le_of_ble_eq_true rfl, Nat.le_of_ble_eq_true rfl⟩) hP hD hS hA [] rfl (fun r77 H locs hw77 hP hS => ?_)
        try dsimp only at hw77
        have b80 := div_abs (a := x74.toInt) (b := x28.toInt) (A := 2000000000) (by omega) (by omega)
        rw [← hw77] at b80
        refine lv_iadd hx hb dX1_unitsOfTick_80 ?_
        refine lv_topi (fun x80 ex80 => ?_)
        have tx80 : x80.toInt = x70.toInt + r77.toInt := by rw [ex80]; exact ti_add rfl rfl (by omega) (by omega)
        have e74 : x74.toInt = ((kl r2.toInt.toNat).toInt - (kf r2.toInt.toNat).toInt) * (p0.toInt - (kt r2.toInt.toNat).toInt) := by rw [tx74, show x62.toInt = (kl r2.toInt.toNat).toInt - (kf r2.toInt.toNat).toInt by omega, show x21.toInt = p0.toInt - (kt r2.toInt.toNat).toInt by omega]
        exact W.iret (v := x80) hx hb hr (fun t ht hW => ⟨⟨x80, (), rfl, (by (try dsimp only); exact (by rw [pace_at hOm.2.2.1 bg.1 bg.2.2.1 bg.2.2.2]; unfold seg; rw [if_neg (by omega), ← e74, ← tx28, ← hw77]; omega)), by rw [ht]; exact hP, hD⟩, hS.F ht⟩) hS.2.2 dX1_unitsOfTick_81
      · have k40 : (x28.toInt : Int) ≤ x21.toInt := i_nlt rfl rfl c40
        refine lv_aload_n hx hb dX1_unitsOfTick_43 rfl (lv_at hl 3 rfl) ?_
        refine va_get (D := G) (ci := 1) (v := .ref qm4) (C := RX1) (T := TX1) (N := 6) hx hb hts hiX1 hown hK hP 0 rfl rfl 3 (by decide) hf21 (fun _ h9 => h9) rfl dX1_unitsOfTick_44 ?_
        refine lv_iload_n hx hb dX1_unitsOfTick_47 rfl (lv_at hl 2 rfl) ?_
        refine va_iald hx hb hK hP 4 0 rfl rfl (vi_in rfl (by omega) (by omega)) dX1_unitsOfTick_48 ?_
        refine lv_topi (fun x48_2 ex48_2 => ?_)
        have ex48_2 : x48_2 = kl r2.toInt.toNat := by rw [ex48_2]; exact congrArg _ (cl_nat rfl (by omega))
        have tx48_2 : x48_2.toInt = (kl r2.toInt.toNat).toInt := by rw [ex48_2]
        have hrg_x48_2 := hrg r2.toInt.toNat (by omega)
        exact W.iret (v := x48_2) hx hb hr (fun t ht hW => ⟨⟨x48_2, (), rfl, (by (try dsimp only); exact (by rw [pace_at hOm.2.2.1 bg.1 bg.2.2.1 bg.2.2.2]; unfold seg; rw [if_pos (by omega)]; omega)), by rw [ht]; exact hP, hD⟩, hS.F ht⟩) hS.2.2 dX1_unitsOfTick_49
  · have k7 : (r2.toInt : Int) < 0 := i_nle (show ((0 : Int32)).toInt = 0 by decide) rfl c7
    have bn := bi_neg hw2 k7
    refine lv_sipush (v := 1000) hx hb dX1_unitsOfTick_10 (by decide) ?_
    exact W.iret (v := 1000) hx hb hr (fun t ht hW => ⟨⟨1000, (), rfl, (by (try dsimp only); exact (by rw [pace_none bn.2]; omega)), by rw [ht]; exact hP, hD⟩, hS.F ht⟩) hS.2.2 dX1_unitsOfTick_13
set_option maxHeartbeats 4000000 in
set_option maxRecDepth 100000 in
theorem ct_X1_unitsAhead (l : Launch) (G : va_G) (cI cL : ClassId) (sz : Nat) (qm : Nat) (qm1 : Nat) (qm2 : Nat) (qm3 : Nat) (qm4 : Nat) (qm5 : Nat) (zm : Int32) (kt : Nat → Int32) (ks : Nat → Int32) (kf : Nat → Int32) (kl : Nat → Int32) (ku : Nat → Int64) (p0 : Int32) (nm : Nat) (hnm : zm.toInt = nm) (hOm : okM nm kt ks kf kl) (hSr : srt nm kt) (hU : okU nm kt ks kf kl ku) (hp0 : 0 ≤ p0.toInt ∧ p0.toInt ≤ 1000000) : Met l yX1_unitsAhead wsX1_unitsAhead ({ frames := 3, cells := 0, slots := 0, locals := 87 }) (va_Pc [.ref qm, .int p0] (pre0 G cI cL [(qm, .inr (1, [.ref qm1, .ref qm2, .ref qm3, .ref qm4, .ref qm5, .int zm])), (qm1, .inl (cI, 40, .inl kt)), (qm2, .inl (cI, 40, .inl ks)), (qm3, .inl (cI, 40, .inl kf)), (qm4, .inl (cI, 40, .inl kl)), (qm5, .inl (cL, 40, .inr (.inl ku)))] sz)) (va_Ql (fun (r : Int64) (u : Unit) => r.toInt = psum (paceF kt ks kf kl nm) p0.toInt.toNat) (fun (u : Unit) t => va_P G vwCl [(qm, .inr (1, [.ref qm1, .ref qm2, .ref qm3, .ref qm4, .ref qm5, .int zm])), (qm1, .inl (cI, 40, .inl kt)), (qm2, .inl (cI, 40, .inl ks)), (qm3, .inl (cI, 40, .inl kf)), (qm4, .inl (cI, 40, .inl kl)), (qm5, .inl (cL, 40, .inr (.inl ku)))] t.heap ∧ va_D (va_A [(qm, .inr (1, [.ref qm1, .ref qm2, .ref qm3, .ref qm4, .ref qm5, .int zm])), (qm1, .inl (cI, 40, .inl kt)), (qm2, .inl (cI, 40, .inl ks)), (qm3, .inl (cI, 40, .inl kf)), (qm4, .inl (cI, 40, .inl kl)), (qm5, .inl (cL, 40, .inr (.inl ku)))] sz) [(qm, .inr (1, [.ref qm1, .ref qm2, .ref qm3, .ref qm4, .ref qm5, .int zm])), (qm1, .inl (cI, 40, .inl kt)), (qm2, .inl (cI, 40, .inl ks)), (qm3, .inl (cI, 40, .inl kf)), (qm4, .inl (cI, 40, .inl kl)), (qm5, .inl (cL, 40, .inr (.inl ku)))]) (va_A [(qm, .inr (1, [.ref qm1, .ref qm2, .ref qm3, .ref qm4, .ref qm5, .int zm])), (qm1, .inl (cI, 40, .inl kt)), (qm2, .inl (cI, 40, .inl ks)), (qm3, .inl (cI, 40, .inl kf)), (qm4, .inl (cI, 40, .inl kl)), (qm5, .inl (cL, 40, .inr (.inl ku)))] sz)) 0 0 (va_A [(qm, .inr (1, [.ref qm1, .ref qm2, .ref qm3, .ref qm4, .ref qm5, .int zm])), (qm1, .inl (cI, 40, .inl kt)), (qm2, .inl (cI, 40, .inl ks)), (qm3, .inl (cI, 40, .inl kf)), (qm4, .inl (cI, 40, .inl kl)), (qm5, .inl (cL, 40, .inr (.inl ku)))] sz) := by
  refine Met.ofW (cc := cX1_unitsAhead) (maxL := 2) (ret := (some .long)) (by decide) rfl ?_
  intro p e s m args below meth c s₁ B hml hv
  obtain ⟨rfl, hsz, hP, hK, hD0, hN⟩ := hv
  have hx := B.exec
  have hb := B.bytes
  have hr := B.returns
  have hts := atoms_spec (ws := wsX1_unitsAhead) B.pre
  have hown : s.vm.findClass RX1 = some m.cls := findClass_of_methodNamed B.named
  have hlocks := B.notSynchronized
  subst hsz
  have hD := hD0.self (sz := s.heap.size)
  generalize hAe : va_A [(qm, .inr (1, [.ref qm1, .ref qm2, .ref qm3, .ref qm4, .ref qm5, .int zm])), (qm1, .inl (cI, 40, .inl kt)), (qm2, .inl (cI, 40, .inl ks)), (qm3, .inl (cI, 40, .inl kf)), (qm4, .inl (cI, 40, .inl kl)), (qm5, .inl (cL, 40, .inr (.inl ku)))] s.heap.size = A at hD ⊢
  have hA : ∀ q : Nat, s.heap.size ≤ q → A q := fun q h => by rw [← hAe]; exact Or.inr h
  have hP : va_P G vwCl [(qm, .inr (1, [.ref qm1, .ref qm2, .ref qm3, .ref qm4, .ref qm5, .int zm])), (qm1, .inl (cI, 40, .inl kt)), (qm2, .inl (cI, 40, .inl ks)), (qm3, .inl (cI, 40, .inl kf)), (qm4, .inl (cI, 40, .inl kl)), (qm5, .inl (cL, 40, .inr (.inl ku)))] s.heap := hP
  have hl := lv_entry ([.ref qm, .int p0]) (n := 2) (Nat.le_of_ble_eq_true rfl)
  rw [lg_entry_eq]
  generalize (lg_sl ([.ref qm, .int p0]) ++ List.replicate (2 - (lg_sl ([.ref qm, .int p0])).length) Slot.unset).toArray = ls at hl ⊢
  have hl : lv_has ls 2 [(0, .ref qm), (1, .int p0)] := hl
  refine w_h (A := A) hP (fun H locs hP hS => ?_)
  have hn40 := hOm.1
  have hrg := hOm.2.1
  refine lv_aload_n hx hb dX1_unitsAhead_0 rfl (lv_at hl 0 rfl) ?_
  refine lv_aload_n hx hb dX1_unitsAhead_1 rfl (lv_at hl 0 rfl) ?_
  refine lv_iload_n hx hb dX1_unitsAhead_2 rfl (lv_at hl 1 rfl) ?_
  have hPc := hP.sub (ws' := [(qm, .inr (1, [.ref qm1, .ref qm2, .ref qm3, .ref qm4, .ref qm5, .int zm])), (qm1, .inl (cI, 40, .inl kt)), (qm2, .inl (cI, 40, .inl ks)), (qm3, .inl (cI, 40, .inl kf)), (qm4, .inl (cI, 40, .inl kl)), (qm5, .inl (cL, 40, .inr (.inl ku)))]) [0, 1, 2, 3, 4, 5] rfl
  have hDc := hD.sub (ws' := [(qm, .inr (1, [.ref qm1, .ref qm2, .ref qm3, .ref qm4, .ref qm5, .int zm])), (qm1, .inl (cI, 40, .inl kt)), (qm2, .inl (cI, 40, .inl ks)), (qm3, .inl (cI, 40, .inl kf)), (qm4, .inl (cI, 40, .inl kl)), (qm5, .inl (cL, 40, .inr (.inl ku)))]) [0, 1, 2, 3, 4, 5] (by decide) rfl
  have hcc := (ct_X1_placeOf l G cI cL H.size qm qm1 qm2 qm3 qm4 qm5 zm kt ks kf kl ku p0 nm hnm hOm hSr)
  refine ro_calli (va_runV (As := [.int p0]) (rest := [.ref qm]) ⟨hx, hb, hml, hown, hts⟩ hcc (cwV 1 hts gX1_unitsAhead_X1_placeOf rfl rfl rfl (by decide +kernel) ⟨Nat.le_of_ble_eq_true rfl, Nat.le_of_ble_eq_true rfl⟩) ⟨pre_blind, va_recv hK hPc (ci := 1) (q0 := 0) rfl rfl, pre_pass hK hN hPc hDc⟩ rfl rfl hl.1 rfl (lv_room (Nat.le_of_ble_eq_true rfl)) dX1_unitsAhead_3 ⟨Nat.le_of_ble_eq_true rfl, Nat.le_of_ble_eq_true rfl⟩) hP hD hS hA [0, 1, 2, 3, 4, 5] rfl (fun r3 H locs hw3 hP hS => ?_)
  try dsimp only at hw3
  have bs : -1 ≤ r3.toInt ∧ r3.toInt < nm := by rcases Int.lt_or_le r3.toInt 0 with q | q; exact ⟨by have := bi_neg hw3 q; omega, by omega⟩; exact ⟨by omega, (bi_get hw3 q).2.1⟩
  refine lv_iload_n hx hb dX1_unitsAhead_6 rfl (lv_at hl 1 rfl) ?_
  have hPc := hP.sub (ws' := [(qm, .inr (1, [.ref qm1, .ref qm2, .ref qm3, .ref qm4, .ref qm5, .int zm])), (qm1, .inl (cI, 40, .inl kt)), (qm2, .inl (cI, 40, .inl ks)), (qm3, .inl (cI, 40, .inl kf)), (qm4, .inl (cI, 40, .inl kl)), (qm5, .inl (cL, 40, .inr (.inl ku)))]) [0, 1, 2, 3, 4, 5] rfl
  have hDc := hD.sub (ws' := [(qm, .inr (1, [.ref qm1, .ref qm2, .ref qm3, .ref qm4, .ref qm5, .int zm])), (qm1, .inl (cI, 40, .inl kt)), (qm2, .inl (cI, 40, .inl ks)), (qm3, .inl (cI, 40, .inl kf)), (qm4, .inl (cI, 40, .inl kl)), (qm5, .inl (cL, 40, .inr (.inl ku)))]) [0, 1, 2, 3, 4, 5] (by decide) rfl
  have hcc := (ct_X1_unitsAheadBy l G cI cL H.size qm qm1 qm2 qm3 qm4 qm5 zm kt ks kf kl ku r3 p0 nm hnm hOm hSr (by omega) (by omega) ((fun h => ⟨(bi_get hw3 h).2.2.1, hU _ (bi_get hw3 h).1⟩)) ((fun k hk h => by
      rcases Int.lt_or_le p0.toInt (kt k).toInt with q | q
      · omega
      · rcases Int.lt_or_le r3.toInt 0 with q2 | q2
        · have := (bi_neg hw3 q2).2 k hk; omega
        · have := (bi_get hw3 q2).2.2.2 k hk q; have := hSr r3.toInt.toNat k (by omega) hk; omega)))
  refine ro_calll (va_runV (As := [.int r3, .int p0]) (rest := []) ⟨hx, hb, hml, hown, hts⟩ hcc (cwV 2 hts gX1_unitsAhead_X1_unitsAheadBy rfl rfl rfl (by decide +kernel) ⟨Nat.le_of_ble_eq_true rfl, Nat.le_of_ble_eq_true rfl⟩) ⟨pre_blind, va_recv hK hPc (ci := 1) (q0 := 0) rfl rfl, pre_pass hK hN hPc hDc⟩ rfl rfl hl.1 rfl (lv_room (Nat.le_of_ble_eq_true rfl)) dX1_unitsAhead_7 ⟨Nat.le_of_ble_eq_true rfl, Nat.le_of_ble_eq_true rfl⟩) hP hD hS hA [0, 1, 2, 3, 4, 5] rfl (fun r7 H locs hw7 hP hS => ?_)
  try dsimp only at hw7
  exact W.lret (v := r7) hx hb hr (fun t ht hW => ⟨⟨r7, (), rfl, (by (try dsimp only); exact (by omega)), by rw [ht]; exact hP, hD⟩, hS.F ht⟩) hS.2.2 dX1_unitsAhead_10
end
section
set_option maxHeartbeats 4000000 in
set_option maxRecDepth 100000 in
theorem ct_X1_put (l : Launch) (G : va_G) (cI cL : ClassId) (sz : Nat) (qm : Nat) (qm1 : Nat) (qm2 : Nat) (qm3 : Nat) (qm4 : Nat) (qm5 : Nat) (zm : Int32) (kt : Nat → Int32) (ks : Nat → Int32) (kf : Nat → Int32) (kl : Nat → Int32) (ku : Nat → Int64) (p0 : Int32) (p1 : Int32) (p2 : Int32) (p3 : Int32) (nm : Nat) (hnm : zm.toInt = nm) (hOm : okM nm kt ks kf kl) (hSr : srt nm kt) (hU : okU nm kt ks kf kl ku) (hx0 : 0 ≤ p0.toInt ∧ p0.toInt ≤ 999999) (hx1 : 0 ≤ p1.toInt ∧ p1.toInt ≤ 2000) (hx2 : p0.toInt + p1.toInt ≤ 1000000) (hx3 : 1 ≤ p2.toInt ∧ p2.toInt ≤ 1000000) (hx4 : 1 ≤ p3.toInt ∧ p3.toInt ≤ 1000000) (hni : ¬ insS nm kt ks p0.toInt) (hnb : ¬ btw nm kt p0.toInt (p0.toInt + p1.toInt)) : Met l yX1_put wsX1_put ({ frames := 4, cells := 0, slots := 0, locals := 109 }) (va_Pc [.ref qm, .int p0, .int p1, .int p2, .int p3] (pre0 G cI cL [(qm, .inr (1, [.ref qm1, .ref qm2, .ref qm3, .ref qm4, .ref qm5, .int zm])), (qm1, .inl (cI, 40, .inl kt)), (qm2, .inl (cI, 40, .inl ks)), (qm3, .inl (cI, 40, .inl kf)), (qm4, .inl (cI, 40, .inl kl)), (qm5, .inl (cL, 40, .inr (.inl ku)))] sz)) (va_Qi (fun (r : Int32) (u : Int32 × (Nat → Int32) × (Nat → Int32) × (Nat → Int32) × (Nat → Int32) × (Nat → Int64)) => ∃ n' : Nat, u.1.toInt = n' ∧ cPut nm kt ks kf kl p0 p1 p2 p3 r.toInt n' u.2.1 u.2.2.1 u.2.2.2.1 u.2.2.2.2.1 ∧ okM n' u.2.1 u.2.2.1 u.2.2.2.1 u.2.2.2.2.1 ∧ srt n' u.2.1 ∧ okU n' u.2.1 u.2.2.1 u.2.2.2.1 u.2.2.2.2.1 u.2.2.2.2.2) (fun (u : Int32 × (Nat → Int32) × (Nat → Int32) × (Nat → Int32) × (Nat → Int32) × (Nat → Int64)) t => va_P G vwCl [(qm, .inr (1, [.ref qm1, .ref qm2, .ref qm3, .ref qm4, .ref qm5, .int u.1])), (qm1, .inl (cI, 40, .inl (u.2.1))), (qm2, .inl (cI, 40, .inl (u.2.2.1))), (qm3, .inl (cI, 40, .inl (u.2.2.2.1))), (qm4, .inl (cI, 40, .inl (u.2.2.2.2.1))), (qm5, .inl (cL, 40, .inr (.inl (u.2.2.2.2.2))))] t.heap ∧ va_D (va_A [(qm, .inr (1, [.ref qm1, .ref qm2, .ref qm3, .ref qm4, .ref qm5, .int zm])), (qm1, .inl (cI, 40, .inl kt)), (qm2, .inl (cI, 40, .inl ks)), (qm3, .inl (cI, 40, .inl kf)), (qm4, .inl (cI, 40, .inl kl)), (qm5, .inl (cL, 40, .inr (.inl ku)))] sz) [(qm, .inr (1, [.ref qm1, .ref qm2, .ref qm3, .ref qm4, .ref qm5, .int u.1])), (qm1, .inl (cI, 40, .inl (u.2.1))), (qm2, .inl (cI, 40, .inl (u.2.2.1))), (qm3, .inl (cI, 40, .inl (u.2.2.2.1))), (qm4, .inl (cI, 40, .inl (u.2.2.2.2.1))), (qm5, .inl (cL, 40, .inr (.inl (u.2.2.2.2.2))))]) (va_A [(qm, .inr (1, [.ref qm1, .ref qm2, .ref qm3, .ref qm4, .ref qm5, .int zm])), (qm1, .inl (cI, 40, .inl kt)), (qm2, .inl (cI, 40, .inl ks)), (qm3, .inl (cI, 40, .inl kf)), (qm4, .inl (cI, 40, .inl kl)), (qm5, .inl (cL, 40, .inr (.inl ku)))] sz)) 0 0 (va_A [(qm, .inr (1, [.ref qm1, .ref qm2, .ref qm3, .ref qm4, .ref qm5, .int zm])), (qm1, .inl (cI, 40, .inl kt)), (qm2, .inl (cI, 40, .inl ks)), (qm3, .inl (cI, 40, .inl kf)), (qm4, .inl (cI, 40, .inl kl)), (qm5, .inl (cL, 40, .inr (.inl ku)))] sz) := by
  refine Met.ofW (cc := cX1_put) (maxL := 6) (ret := (some .int)) (by decide) rfl ?_
  intro p e s m args below meth c s₁ B hml hv
  obtain ⟨rfl, hsz, hP, hK, hD0, hN⟩ := hv
  have hx := B.exec
  have hb := B.bytes
  have hr := B.returns
  have hts := atoms_spec (ws := wsX1_put) B.pre
  have hown : s.vm.findClass RX1 = some m.cls := findClass_of_methodNamed B.named
  have hlocks := B.notSynchronized
  subst hsz
  have hD := hD0.self (sz := s.heap.size)
  generalize hAe : va_A [(qm, .inr (1, [.ref qm1, .ref qm2, .ref qm3, .ref qm4, .ref qm5, .int zm])), (qm1, .inl (cI, 40, .inl kt)), (qm2, .inl (cI, 40, .inl ks)), (qm3, .inl (cI, 40, .inl kf)), (qm4, .inl (cI, 40, .inl kl)), (qm5, .inl (cL, 40, .inr (.inl ku)))] s.heap.size = A at hD ⊢
  have hA : ∀ q : Nat, s.heap.size ≤ q → A q := fun q h => by rw [← hAe]; exact Or.inr h
  have hP : va_P G vwCl [(qm, .inr (1, [.ref qm1, .ref qm2, .ref qm3, .ref qm4, .ref qm5, .int zm])), (qm1, .inl (cI, 40, .inl kt)), (qm2, .inl (cI, 40, .inl ks)), (qm3, .inl (cI, 40, .inl kf)), (qm4, .inl (cI, 40, .inl kl)), (qm5, .inl (cL, 40, .inr (.inl ku)))] s.heap := hP
  have hl := lv_entry ([.ref qm, .int p0, .int p1, .int p2, .int p3]) (n := 6) (Nat.le_of_ble_eq_true rfl)
  rw [lg_entry_eq]
  generalize (lg_sl ([.ref qm, .int p0, .int p1, .int p2, .int p3]) ++ List.replicate (6 - (lg_sl ([.ref qm, .int p0, .int p1, .int p2, .int p3])).length) Slot.unset).toArray = ls at hl ⊢
  have hl : lv_has ls 6 [(0, .ref qm), (1, .int p0), (2, .int p1), (3, .int p2), (4, .int p3)] := hl
  have hf9 := hts (.fieldLink RX1 9 "TempoMaps$Marks" "ticks" "[I") (by decide +kernel)
  have hf28 := hts (.fieldLink RX1 28 "TempoMaps$Marks" "size" "I") (by decide +kernel)
  have hf15 := hts (.fieldLink RX1 15 "TempoMaps$Marks" "spans" "[I") (by decide +kernel)
  have hf18 := hts (.fieldLink RX1 18 "TempoMaps$Marks" "firstPaces" "[I") (by decide +kernel)
  have hf21 := hts (.fieldLink RX1 21 "TempoMaps$Marks" "lastPaces" "[I") (by decide +kernel)
  have hiX1 : ∀ w ∈ wsX10, w ∈ wsX1_put := by decide +kernel
  have zim4 : ((-4 : Int32)).toInt = -4 := by decide
  have zi1 : ((1 : Int32)).toInt = 1 := by decide
  have zi40 : ((40 : Int32)).toInt = 40 := by decide
  refine w_h (A := A) hP (fun H locs hP hS => ?_)
  have hn40 := hOm.1
  have hrg := hOm.2.1
  refine lv_aload_n hx hb dX1_put_0 rfl (lv_at hl 0 rfl) ?_
  refine lv_iload_n hx hb dX1_put_1 rfl (lv_at hl 1 rfl) ?_
  have hPc := hP.sub (ws' := [(qm, .inr (1, [.ref qm1, .ref qm2, .ref qm3, .ref qm4, .ref qm5, .int zm])), (qm1, .inl (cI, 40, .inl kt)), (qm2, .inl (cI, 40, .inl ks)), (qm3, .inl (cI, 40, .inl kf)), (qm4, .inl (cI, 40, .inl kl)), (qm5, .inl (cL, 40, .inr (.inl ku)))]) [0, 1, 2, 3, 4, 5] rfl
  have hDc := hD.sub (ws' := [(qm, .inr (1, [.ref qm1, .ref qm2, .ref qm3, .ref qm4, .ref qm5, .int zm])), (qm1, .inl (cI, 40, .inl kt)), (qm2, .inl (cI, 40, .inl ks)), (qm3, .inl (cI, 40, .inl kf)), (qm4, .inl (cI, 40, .inl kl)), (qm5, .inl (cL, 40, .inr (.inl ku)))]) [0, 1, 2, 3, 4, 5] (by decide) rfl
  have hcc := (ct_X1_placeOf l G cI cL H.size qm qm1 qm2 qm3 qm4 qm5 zm kt ks kf kl ku p0 nm hnm hOm hSr)
  refine ro_calli (va_runV (As := [.int p0]) (rest := []) ⟨hx, hb, hml, hown, hts⟩ hcc (cwV 1 hts gX1_put_X1_placeOf rfl rfl rfl (by decide +kernel) ⟨Nat.le_of_ble_eq_true rfl, Nat.le_of_ble_eq_true rfl⟩) ⟨pre_blind, va_recv hK hPc (ci := 1) (q0 := 0) rfl rfl, pre_pass hK hN hPc hDc⟩ rfl rfl hl.1 rfl (lv_room (Nat.le_of_ble_eq_true rfl)) dX1_put_2 ⟨Nat.le_of_ble_eq_true rfl, Nat.le_of_ble_eq_true rfl⟩) hP hD hS hA [0, 1, 2, 3, 4, 5] rfl (fun r2 H locs hw2 hP hS => ?_)
  try dsimp only at hw2
  refine lv_istore (lv' := [(5, .int r2), (0, .ref qm), (1, .int p0), (2, .int p1), (3, .int p2), (4, .int p3)]) hx hb dX1_put_5  hl (by decide) rfl (fun ls hl => ?_)
  refine lv_iload hx hb dX1_put_7 (lv_at hl 0 rfl) ?_
  refine lv_if_lt (tgt := 23) hx hb dX1_put_9 (by decide) (fun c9 => ?_) (fun c9 => ?_)
  · have k9 : (r2.toInt : Int) < 0 := i_lt rfl (show ((0 : Int32)).toInt = 0 by decide) c9
    have bp := bi_place hSr hw2 (by omega)
    have bne : ∀ k : Nat, k < nm → (kt k).toInt ≠ p0.toInt := fun k hk e => by
      rcases Nat.lt_or_ge k (r2.toInt + 1).toNat with q | q
      · have := bp.2.2.1 k hk q; omega
      · have := bp.2.2.2 k hk q; omega
    refine lv_aload_n hx hb dX1_put_23 rfl (lv_at hl 1 rfl) ?_
    refine va_get (D := G) (ci := 1) (v := .int zm) (C := RX1) (T := TX1) (N := 6) hx hb hts hiX1 hown hK hP 0 rfl rfl 5 (by decide) hf28 (fun _ h9 => h9) rfl dX1_put_24 ?_
    refine lv_bipush (v := 40) hx hb dX1_put_27 (by decide) ?_
    refine lv_icmp_lt (tgt := 35) hx hb dX1_put_29 (by decide) (fun c29 => ?_) (fun c29 => ?_)
    · have k29 : (zm.toInt : Int) < 40 := i_lt rfl (show ((40 : Int32)).toInt = 40 by decide) c29
      obtain ⟨x35, ex35⟩ : ∃ y : Int32, y = r2 + 1 := ⟨_, rfl⟩
      have tx35 : x35.toInt = r2.toInt + 1 := by rw [ex35]; exact ti_add rfl (by decide) (by omega) (by omega)
      refine lv_iinc (v := x35) (lv' := [(5, .int x35), (0, .ref qm), (1, .int p0), (2, .int p1), (3, .int p2), (4, .int p3)]) hx hb dX1_put_35 hl (k := 0) rfl (by rw [ex35]; rfl) (by decide) rfl (fun ls hl => ?_)
      refine lv_aload_n hx hb dX1_put_38 rfl (lv_at hl 1 rfl) ?_
      refine lv_iload hx hb dX1_put_39 (lv_at hl 0 rfl) ?_
      have hPc := hP.sub (ws' := [(qm, .inr (1, [.ref qm1, .ref qm2, .ref qm3, .ref qm4, .ref qm5, .int zm])), (qm1, .inl (cI, 40, .inl kt)), (qm2, .inl (cI, 40, .inl ks)), (qm3, .inl (cI, 40, .inl kf)), (qm4, .inl (cI, 40, .inl kl)), (qm5, .inl (cL, 40, .inr (.inl ku)))]) [0, 1, 2, 3, 4, 5] rfl
      have hDc := hD.sub (ws' := [(qm, .inr (1, [.ref qm1, .ref qm2, .ref qm3, .ref qm4, .ref qm5, .int zm])), (qm1, .inl (cI, 40, .inl kt)), (qm2, .inl (cI, 40, .inl ks)), (qm3, .inl (cI, 40, .inl kf)), (qm4, .inl (cI, 40, .inl kl)), (qm5, .inl (cL, 40, .inr (.inl ku)))]) [0, 1, 2, 3, 4, 5] (by decide) rfl
      have hcc := (ct_X1_openRow l G cI cL H.size qm qm1 qm2 qm3 qm4 qm5 zm kt ks kf kl ku x35 nm hnm (by omega) (by omega))
      refine rw_callv (wr := ([] : va_W)) (va_runV (As := [.int x35]) (rest := []) ⟨hx, hb, hml, hown, hts⟩ hcc (cwV 1 hts gX1_put_X1_openRow rfl rfl rfl (by decide +kernel) ⟨Nat.le_of_ble_eq_true rfl, Nat.le_of_ble_eq_true rfl⟩) ⟨pre_blind, va_recv hK hPc (ci := 1) (q0 := 0) rfl rfl, pre_pass hK hN hPc hDc⟩ rfl rfl hl.1 rfl (lv_room (Nat.le_of_ble_eq_true rfl)) dX1_put_41 ⟨Nat.le_of_ble_eq_true rfl, Nat.le_of_ble_eq_true rfl⟩) hP hD hS hA [0, 1, 2, 3, 4, 5] [] rfl rfl (by decide) (by decide) (fun u41 H locs hw41 hP hD hS => ?_)
      obtain ⟨zm41, kt41, ks41, kf41, kl41⟩ := u41
      have hP : va_P G vwCl [(qm, .inr (1, [.ref qm1, .ref qm2, .ref qm3, .ref qm4, .ref qm5, .int zm41])), (qm1, .inl (cI, 40, .inl kt41)), (qm2, .inl (cI, 40, .inl ks41)), (qm3, .inl (cI, 40, .inl kf41)), (qm4, .inl (cI, 40, .inl kl41)), (qm5, .inl (cL, 40, .inr (.inl ku)))] H := hP.sub [0, 1, 2, 3, 4, 5] rfl
      have hD : va_D A [(qm, .inr (1, [.ref qm1, .ref qm2, .ref qm3, .ref qm4, .ref qm5, .int zm41])), (qm1, .inl (cI, 40, .inl kt41)), (qm2, .inl (cI, 40, .inl ks41)), (qm3, .inl (cI, 40, .inl kf41)), (qm4, .inl (cI, 40, .inl kl41)), (qm5, .inl (cL, 40, .inr (.inl ku)))] := hD.sub [0, 1, 2, 3, 4, 5] (by decide) rfl
      try dsimp only at hw41
      refine lv_aload_n hx hb dX1_put_44 rfl (lv_at hl 1 rfl) ?_
      refine va_get (D := G) (ci := 1) (v := .ref qm1) (C := RX1) (T := TX1) (N := 6) hx hb hts hiX1 hown hK hP 0 rfl rfl 0 (by decide) hf9 (fun _ h9 => h9) rfl dX1_put_45 ?_
      refine lv_iload hx hb dX1_put_48 (lv_at hl 0 rfl) ?_
      refine lv_iload_n hx hb dX1_put_50 rfl (lv_at hl 2 rfl) ?_
      refine va_iast hx hb hK hP hD hS 1 0 rfl rfl (vi_in rfl (by omega) (by omega)) dX1_put_51 (fun H locs hP hD hS => ?_)
      rw [cl_nat rfl (show x35.toInt = ((x35.toInt.toNat : Nat) : Int) by omega)] at hP hD
      have hP : va_P G vwCl [(qm, .inr (1, [.ref qm1, .ref qm2, .ref qm3, .ref qm4, .ref qm5, .int zm41])), (qm1, .inl (cI, 40, .inl (upd kt41 x35.toInt.toNat p0))), (qm2, .inl (cI, 40, .inl ks41)), (qm3, .inl (cI, 40, .inl kf41)), (qm4, .inl (cI, 40, .inl kl41)), (qm5, .inl (cL, 40, .inr (.inl ku)))] H := hP
      have hD : va_D A [(qm, .inr (1, [.ref qm1, .ref qm2, .ref qm3, .ref qm4, .ref qm5, .int zm41])), (qm1, .inl (cI, 40, .inl (upd kt41 x35.toInt.toNat p0))), (qm2, .inl (cI, 40, .inl ks41)), (qm3, .inl (cI, 40, .inl kf41)), (qm4, .inl (cI, 40, .inl kl41)), (qm5, .inl (cL, 40, .inr (.inl ku)))] := hD
      refine lv_aload_n hx hb dX1_put_52 rfl (lv_at hl 1 rfl) ?_
      refine va_get (D := G) (ci := 1) (v := .ref qm2) (C := RX1) (T := TX1) (N := 6) hx hb hts hiX1 hown hK hP 0 rfl rfl 1 (by decide) hf15 (fun _ h9 => h9) rfl dX1_put_53 ?_
      refine lv_iload hx hb dX1_put_56 (lv_at hl 0 rfl) ?_
      refine lv_iload_n hx hb dX1_put_58 rfl (lv_at hl 3 rfl) ?_
      refine va_iast hx hb hK hP hD hS 2 0 rfl rfl (vi_in rfl (by omega) (by omega)) dX1_put_59 (fun H locs hP hD hS => ?_)
      rw [cl_nat rfl (show x35.toInt = ((x35.toInt.toNat : Nat) : Int) by omega)] at hP hD
      have hP : va_P G vwCl [(qm, .inr (1, [.ref qm1, .ref qm2, .ref qm3, .ref qm4, .ref qm5, .int zm41])), (qm1, .inl (cI, 40, .inl (upd kt41 x35.toInt.toNat p0))), (qm2, .inl (cI, 40, .inl (upd ks41 x35.toInt.toNat p1))), (qm3, .inl (cI, 40, .inl kf41)), (qm4, .inl (cI, 40, .inl kl41)), (qm5, .inl (cL, 40, .inr (.inl ku)))] H := hP
      have hD : va_D A [(qm, .inr (1, [.ref qm1, .ref qm2, .ref qm3, .ref qm4, .ref qm5, .int zm41])), (qm1, .inl (cI, 40, .inl (upd kt41 x35.toInt.toNat p0))), (qm2, .inl (cI, 40, .inl (upd ks41 x35.toInt.toNat p1))), (qm3, .inl (cI, 40, .inl kf41)), (qm4, .inl (cI, 40, .inl kl41)), (qm5, .inl (cL, 40, .inr (.inl ku)))] := hD
      refine lv_aload_n hx hb dX1_put_60 rfl (lv_at hl 1 rfl) ?_
      refine va_get (D := G) (ci := 1) (v := .ref qm3) (C := RX1) (T := TX1) (N := 6) hx hb hts hiX1 hown hK hP 0 rfl rfl 2 (by decide) hf18 (fun _ h9 => h9) rfl dX1_put_61 ?_
      refine lv_iload hx hb dX1_put_64 (lv_at hl 0 rfl) ?_
      refine lv_iload_n hx hb dX1_put_66 rfl (lv_at hl 4 rfl) ?_
      refine va_iast hx hb hK hP hD hS 3 0 rfl rfl (vi_in rfl (by omega) (by omega)) dX1_put_67 (fun H locs hP hD hS => ?_)
      rw [cl_nat rfl (show x35.toInt = ((x35.toInt.toNat : Nat) : Int) by omega)] at hP hD
      have hP : va_P G vwCl [(qm, .inr (1, [.ref qm1, .ref qm2, .ref qm3, .ref qm4, .ref qm5, .int zm41])), (qm1, .inl (cI, 40, .inl (upd kt41 x35.toInt.toNat p0))), (qm2, .inl (cI, 40, .inl (upd ks41 x35.toInt.toNat p1))), (qm3, .inl (cI, 40, .inl (upd kf41 x35.toInt.toNat p2))), (qm4, .inl (cI, 40, .inl kl41)), (qm5, .inl (cL, 40, .inr (.inl ku)))] H := hP
      have hD : va_D A [(qm, .inr (1, [.ref qm1, .ref qm2, .ref qm3, .ref qm4, .ref qm5, .int zm41])), (qm1, .inl (cI, 40, .inl (upd kt41 x35.toInt.toNat p0))), (qm2, .inl (cI, 40, .inl (upd ks41 x35.toInt.toNat p1))), (qm3, .inl (cI, 40, .inl (upd kf41 x35.toInt.toNat p2))), (qm4, .inl (cI, 40, .inl kl41)), (qm5, .inl (cL, 40, .inr (.inl ku)))] := hD
      refine lv_aload_n hx hb dX1_put_68 rfl (lv_at hl 1 rfl) ?_
      refine va_get (D := G) (ci := 1) (v := .ref qm4) (C := RX1) (T := TX1) (N := 6) hx hb hts hiX1 hown hK hP 0 rfl rfl 3 (by decide) hf21 (fun _ h9 => h9) rfl dX1_put_69 ?_
      refine lv_iload hx hb dX1_put_72 (lv_at hl 0 rfl) ?_
      refine lv_iload hx hb dX1_put_74 (lv_at hl 5 rfl) ?_
      refine va_iast hx hb hK hP hD hS 4 0 rfl rfl (vi_in rfl (by omega) (by omega)) dX1_put_76 (fun H locs hP hD hS => ?_)
      rw [cl_nat rfl (show x35.toInt = ((x35.toInt.toNat : Nat) : Int) by omega)] at hP hD
      have hP : va_P G vwCl [(qm, .inr (1, [.ref qm1, .ref qm2, .ref qm3, .ref qm4, .ref qm5, .int zm41])), (qm1, .inl (cI, 40, .inl (upd kt41 x35.toInt.toNat p0))), (qm2, .inl (cI, 40, .inl (upd ks41 x35.toInt.toNat p1))), (qm3, .inl (cI, 40, .inl (upd kf41 x35.toInt.toNat p2))), (qm4, .inl (cI, 40, .inl (upd kl41 x35.toInt.toNat p3))), (qm5, .inl (cL, 40, .inr (.inl ku)))] H := hP
      have hD : va_D A [(qm, .inr (1, [.ref qm1, .ref qm2, .ref qm3, .ref qm4, .ref qm5, .int zm41])), (qm1, .inl (cI, 40, .inl (upd kt41 x35.toInt.toNat p0))), (qm2, .inl (cI, 40, .inl (upd ks41 x35.toInt.toNat p1))), (qm3, .inl (cI, 40, .inl (upd kf41 x35.toInt.toNat p2))), (qm4, .inl (cI, 40, .inl (upd kl41 x35.toInt.toNat p3))), (qm5, .inl (cL, 40, .inr (.inl ku)))] := hD
      have pi := put_ins (j := (r2.toInt + 1).toNat) (xv := p0) (sv := p1) (fv := p2) (lv := p3) hOm hSr (by omega) (by omega) bp.2.2.1 bp.2.2.2 hx0 hx1 hx2 hx3 hx4 hni hnb
      have ej : x35.toInt.toNat = (r2.toInt + 1).toNat := by omega
      have a1 : upd kt41 x35.toInt.toNat p0 = insA kt (r2.toInt + 1).toNat nm p0 := by rw [hw41.2.1, ej]; rfl
      have a2 : upd ks41 x35.toInt.toNat p1 = insA ks (r2.toInt + 1).toNat nm p1 := by rw [hw41.2.2.1, ej]; rfl
      have a3 : upd kf41 x35.toInt.toNat p2 = insA kf (r2.toInt + 1).toNat nm p2 := by rw [hw41.2.2.2.1, ej]; rfl
      have a4 : upd kl41 x35.toInt.toNat p3 = insA kl (r2.toInt + 1).toNat nm p3 := by rw [hw41.2.2.2.2, ej]; rfl
      refine lv_aload_n hx hb dX1_put_77 rfl (lv_at hl 1 rfl) ?_
      refine lv_iload hx hb dX1_put_78 (lv_at hl 0 rfl) ?_
      have hPc := hP.sub (ws' := [(qm, .inr (1, [.ref qm1, .ref qm2, .ref qm3, .ref qm4, .ref qm5, .int zm41])), (qm1, .inl (cI, 40, .inl (upd kt41 x35.toInt.toNat p0))), (qm2, .inl (cI, 40, .inl (upd ks41 x35.toInt.toNat p1))), (qm3, .inl (cI, 40, .inl (upd kf41 x35.toInt.toNat p2))), (qm4, .inl (cI, 40, .inl (upd kl41 x35.toInt.toNat p3))), (qm5, .inl (cL, 40, .inr (.inl ku)))]) [0, 1, 2, 3, 4, 5] rfl
      have hDc := hD.sub (ws' := [(qm, .inr (1, [.ref qm1, .ref qm2, .ref qm3, .ref qm4, .ref qm5, .int zm41])), (qm1, .inl (cI, 40, .inl (upd kt41 x35.toInt.toNat p0))), (qm2, .inl (cI, 40, .inl (upd ks41 x35.toInt.toNat p1))), (qm3, .inl (cI, 40, .inl (upd kf41 x35.toInt.toNat p2))), (qm4, .inl (cI, 40, .inl (upd kl41 x35.toInt.toNat p3))), (qm5, .inl (cL, 40, .inr (.inl ku)))]) [0, 1, 2, 3, 4, 5] (by decide) rfl
      have hcc := (ct_X1_renewUnitsBefore l G cI cL H.size qm qm1 qm2 qm3 qm4 qm5 zm41 (upd kt41 x35.toInt.toNat p0) (upd ks41 x35.toInt.toNat p1) (upd kf41 x35.toInt.toNat p2) (upd kl41 x35.toInt.toNat p3) ku x35 (nm + 1) (by omega) (by rw [a1, a2, a3, a4]; exact pi.1) (by rw [a1]; exact pi.2.1) (by omega) ((by rw [a1, a2, a3, a4]; exact fun k hk h => okU_keep hU (by omega) pi.2.2 (by rw [insA_lt (by omega)]) (by have := bp.2.2.1 k (by omega) (by omega); omega) (by have := hrg k (by omega); omega))))
      refine rw_callv (wr := ([] : va_W)) (va_runV (As := [.int x35]) (rest := []) ⟨hx, hb, hml, hown, hts⟩ hcc (cwV 1 hts gX1_put_X1_renewUnitsBefore rfl rfl rfl (by decide +kernel) ⟨Nat.le_of_ble_eq_true rfl, Nat.le_of_ble_eq_true rfl⟩) ⟨pre_blind, va_recv hK hPc (ci := 1) (q0 := 0) rfl rfl, pre_pass hK hN hPc hDc⟩ rfl rfl hl.1 rfl (lv_room (Nat.le_of_ble_eq_true rfl)) dX1_put_80 ⟨Nat.le_of_ble_eq_true rfl, Nat.le_of_ble_eq_true rfl⟩) hP hD hS hA [0, 1, 2, 3, 4, 5] [] rfl rfl (by decide) (by decide) (fun u80 H locs hw80 hP hD hS => ?_)
      obtain ⟨ku80, rfl⟩ : ∃ z, z = u80 := ⟨_, rfl⟩
      have hP : va_P G vwCl [(qm, .inr (1, [.ref qm1, .ref qm2, .ref qm3, .ref qm4, .ref qm5, .int zm41])), (qm1, .inl (cI, 40, .inl ((upd kt41 x35.toInt.toNat p0)))), (qm2, .inl (cI, 40, .inl ((upd ks41 x35.toInt.toNat p1)))), (qm3, .inl (cI, 40, .inl ((upd kf41 x35.toInt.toNat p2)))), (qm4, .inl (cI, 40, .inl ((upd kl41 x35.toInt.toNat p3)))), (qm5, .inl (cL, 40, .inr (.inl ku80)))] H := hP.sub [0, 1, 2, 3, 4, 5] rfl
      have hD : va_D A [(qm, .inr (1, [.ref qm1, .ref qm2, .ref qm3, .ref qm4, .ref qm5, .int zm41])), (qm1, .inl (cI, 40, .inl ((upd kt41 x35.toInt.toNat p0)))), (qm2, .inl (cI, 40, .inl ((upd ks41 x35.toInt.toNat p1)))), (qm3, .inl (cI, 40, .inl ((upd kf41 x35.toInt.toNat p2)))), (qm4, .inl (cI, 40, .inl ((upd kl41 x35.toInt.toNat p3)))), (qm5, .inl (cL, 40, .inr (.inl ku80)))] := hD.sub [0, 1, 2, 3, 4, 5] (by decide) rfl
      try dsimp only at hw80
      refine lv_aload_n hx hb dX1_put_83 rfl (lv_at hl 1 rfl) ?_
      refine va_get (D := G) (ci := 1) (v := .int zm41) (C := RX1) (T := TX1) (N := 6) hx hb hts hiX1 hown hK hP 0 rfl rfl 5 (by decide) hf28 (fun _ h9 => h9) rfl dX1_put_84 ?_
      exact W.iret (v := zm41) hx hb hr (fun t ht hW => ⟨⟨zm41, (zm41, (upd kt41 x35.toInt.toNat p0), (upd ks41 x35.toInt.toNat p1), (upd kf41 x35.toInt.toNat p2), (upd kl41 x35.toInt.toNat p3), ku80), rfl, (by (try dsimp only); exact (by have h8 := hw80; rw [a1, a2, a3, a4] at h8 ⊢; exact ⟨nm + 1, by omega, Or.inr (Or.inr ⟨(r2.toInt + 1).toNat, by omega, bne, by omega, by omega, rfl, rfl, rfl, rfl, rfl⟩), pi.1, pi.2.1, h8⟩)), by rw [ht]; exact hP, hD⟩, hS.F ht⟩) hS.2.2 dX1_put_87
    · have k29 : (40 : Int) ≤ zm.toInt := i_nlt rfl (show ((40 : Int32)).toInt = 40 by decide) c29
      refine lv_bipush (v := (-4)) hx hb dX1_put_32 (by decide) ?_
      exact W.iret (v := (-4)) hx hb hr (fun t ht hW => ⟨⟨(-4), (zm, kt, ks, kf, kl, ku), rfl, (by (try dsimp only); exact ⟨nm, hnm, Or.inr (Or.inl ⟨bne, by omega, by omega, rfl, rfl, rfl, rfl, rfl⟩), hOm, hSr, hU⟩), by rw [ht]; exact hP, hD⟩, hS.F ht⟩) hS.2.2 dX1_put_34
  · have k9 : (0 : Int) ≤ r2.toInt := i_nlt rfl (show ((0 : Int32)).toInt = 0 by decide) c9
    have bg := bi_get hw2 k9
    refine lv_aload_n hx hb dX1_put_12 rfl (lv_at hl 1 rfl) ?_
    refine va_get (D := G) (ci := 1) (v := .ref qm1) (C := RX1) (T := TX1) (N := 6) hx hb hts hiX1 hown hK hP 0 rfl rfl 0 (by decide) hf9 (fun _ h9 => h9) rfl dX1_put_13 ?_
    refine lv_iload hx hb dX1_put_16 (lv_at hl 0 rfl) ?_
    refine va_iald hx hb hK hP 1 0 rfl rfl (vi_in rfl (by omega) (by omega)) dX1_put_18 ?_
    refine lv_topi (fun x18 ex18 => ?_)
    have ex18 : x18 = kt r2.toInt.toNat := by rw [ex18]; exact congrArg _ (cl_nat rfl (by omega))
    have tx18 : x18.toInt = (kt r2.toInt.toNat).toInt := by rw [ex18]
    have hrg_x18 := hrg r2.toInt.toNat (by omega)
    refine lv_iload_n hx hb dX1_put_19 rfl (lv_at hl 2 rfl) ?_
    refine lv_icmp_eq (tgt := 44) hx hb dX1_put_20 (by decide) (fun c20 => ?_) (fun c20 => ?_)
    · have k20 : (x18.toInt : Int) = p0.toInt := i_eq rfl rfl c20
      refine lv_aload_n hx hb dX1_put_44 rfl (lv_at hl 1 rfl) ?_
      refine va_get (D := G) (ci := 1) (v := .ref qm1) (C := RX1) (T := TX1) (N := 6) hx hb hts hiX1 hown hK hP 0 rfl rfl 0 (by decide) hf9 (fun _ h9 => h9) rfl dX1_put_45 ?_
      refine lv_iload hx hb dX1_put_48 (lv_at hl 0 rfl) ?_
      refine lv_iload_n hx hb dX1_put_50 rfl (lv_at hl 2 rfl) ?_
      refine va_iast hx hb hK hP hD hS 1 0 rfl rfl (vi_in rfl (by omega) (by omega)) dX1_put_51 (fun H locs hP hD hS => ?_)
      rw [cl_nat rfl (show r2.toInt = ((r2.toInt.toNat : Nat) : Int) by omega)] at hP hD
      have hP : va_P G vwCl [(qm, .inr (1, [.ref qm1, .ref qm2, .ref qm3, .ref qm4, .ref qm5, .int zm])), (qm1, .inl (cI, 40, .inl (upd kt r2.toInt.toNat p0))), (qm2, .inl (cI, 40, .inl ks)), (qm3, .inl (cI, 40, .inl kf)), (qm4, .inl (cI, 40, .inl kl)), (qm5, .inl (cL, 40, .inr (.inl ku)))] H := hP
      have hD : va_D A [(qm, .inr (1, [.ref qm1, .ref qm2, .ref qm3, .ref qm4, .ref qm5, .int zm])), (qm1, .inl (cI, 40, .inl (upd kt r2.toInt.toNat p0))), (qm2, .inl (cI, 40, .inl ks)), (qm3, .inl (cI, 40, .inl kf)), (qm4, .inl (cI, 40, .inl kl)), (qm5, .inl (cL, 40, .inr (.inl ku)))] := hD
      refine lv_aload_n hx hb dX1_put_52 rfl (lv_at hl 1 rfl) ?_
      refine va_get (D := G) (ci := 1) (v := .ref qm2) (C := RX1) (T := TX1) (N := 6) hx hb hts hiX1 hown hK hP 0 rfl rfl 1 (by decide) hf15 (fun _ h9 => h9) rfl dX1_put_53 ?_
      refine lv_iload hx hb dX1_put_56 (lv_at hl 0 rfl) ?_
      refine lv_iload_n hx hb dX1_put_58 rfl (lv_at hl 3 rfl) ?_
      refine va_iast hx hb hK hP hD hS 2 0 rfl rfl (vi_in rfl (by omega) (by omega)) dX1_put_59 (fun H locs hP hD hS => ?_)
      rw [cl_nat rfl (show r2.toInt = ((r2.toInt.toNat : Nat) : Int) by omega)] at hP hD
      have hP : va_P G vwCl [(qm, .inr (1, [.ref qm1, .ref qm2, .ref qm3, .ref qm4, .ref qm5, .int zm])), (qm1, .inl (cI, 40, .inl (upd kt r2.toInt.toNat p0))), (qm2, .inl (cI, 40, .inl (upd ks r2.toInt.toNat p1))), (qm3, .inl (cI, 40, .inl kf)), (qm4, .inl (cI, 40, .inl kl)), (qm5, .inl (cL, 40, .inr (.inl ku)))] H := hP
      have hD : va_D A [(qm, .inr (1, [.ref qm1, .ref qm2, .ref qm3, .ref qm4, .ref qm5, .int zm])), (qm1, .inl (cI, 40, .inl (upd kt r2.toInt.toNat p0))), (qm2, .inl (cI, 40, .inl (upd ks r2.toInt.toNat p1))), (qm3, .inl (cI, 40, .inl kf)), (qm4, .inl (cI, 40, .inl kl)), (qm5, .inl (cL, 40, .inr (.inl ku)))] := hD
      refine lv_aload_n hx hb dX1_put_60 rfl (lv_at hl 1 rfl) ?_
      refine va_get (D := G) (ci := 1) (v := .ref qm3) (C := RX1) (T := TX1) (N := 6) hx hb hts hiX1 hown hK hP 0 rfl rfl 2 (by decide) hf18 (fun _ h9 => h9) rfl dX1_put_61 ?_
      refine lv_iload hx hb dX1_put_64 (lv_at hl 0 rfl) ?_
      refine lv_iload_n hx hb dX1_put_66 rfl (lv_at hl 4 rfl) ?_
      refine va_iast hx hb hK hP hD hS 3 0 rfl rfl (vi_in rfl (by omega) (by omega)) dX1_put_67 (fun H locs hP hD hS => ?_)
      rw [cl_nat rfl (show r2.toInt = ((r2.toInt.toNat : Nat) : Int) by omega)] at hP hD
      have hP : va_P G vwCl [(qm, .inr (1, [.ref qm1, .ref qm2, .ref qm3, .ref qm4, .ref qm5, .int zm])), (qm1, .inl (cI, 40, .inl (upd kt r2.toInt.toNat p0))), (qm2, .inl (cI, 40, .inl (upd ks r2.toInt.toNat p1))), (qm3, .inl (cI, 40, .inl (upd kf r2.toInt.toNat p2))), (qm4, .inl (cI, 40, .inl kl)), (qm5, .inl (cL, 40, .inr (.inl ku)))] H := hP
      have hD : va_D A [(qm, .inr (1, [.ref qm1, .ref qm2, .ref qm3, .ref qm4, .ref qm5, .int zm])), (qm1, .inl (cI, 40, .inl (upd kt r2.toInt.toNat p0))), (qm2, .inl (cI, 40, .inl (upd ks r2.toInt.toNat p1))), (qm3, .inl (cI, 40, .inl (upd kf r2.toInt.toNat p2))), (qm4, .inl (cI, 40, .inl kl)), (qm5, .inl (cL, 40, .inr (.inl ku)))] := hD
      refine lv_aload_n hx hb dX1_put_68 rfl (lv_at hl 1 rfl) ?_
      refine va_get (D := G) (ci := 1) (v := .ref qm4) (C := RX1) (T := TX1) (N := 6) hx hb hts hiX1 hown hK hP 0 rfl rfl 3 (by decide) hf21 (fun _ h9 => h9) rfl dX1_put_69 ?_
      refine lv_iload hx hb dX1_put_72 (lv_at hl 0 rfl) ?_
      refine lv_iload hx hb dX1_put_74 (lv_at hl 5 rfl) ?_
      refine va_iast hx hb hK hP hD hS 4 0 rfl rfl (vi_in rfl (by omega) (by omega)) dX1_put_76 (fun H locs hP hD hS => ?_)
      rw [cl_nat rfl (show r2.toInt = ((r2.toInt.toNat : Nat) : Int) by omega)] at hP hD
      have hP : va_P G vwCl [(qm, .inr (1, [.ref qm1, .ref qm2, .ref qm3, .ref qm4, .ref qm5, .int zm])), (qm1, .inl (cI, 40, .inl (upd kt r2.toInt.toNat p0))), (qm2, .inl (cI, 40, .inl (upd ks r2.toInt.toNat p1))), (qm3, .inl (cI, 40, .inl (upd kf r2.toInt.toNat p2))), (qm4, .inl (cI, 40, .inl (upd kl r2.toInt.toNat p3))), (qm5, .inl (cL, 40, .inr (.inl ku)))] H := hP
      have hD : va_D A [(qm, .inr (1, [.ref qm1, .ref qm2, .ref qm3, .ref qm4, .ref qm5, .int zm])), (qm1, .inl (cI, 40, .inl (upd kt r2.toInt.toNat p0))), (qm2, .inl (cI, 40, .inl (upd ks r2.toInt.toNat p1))), (qm3, .inl (cI, 40, .inl (upd kf r2.toInt.toNat p2))), (qm4, .inl (cI, 40, .inl (upd kl r2.toInt.toNat p3))), (qm5, .inl (cL, 40, .inr (.inl ku)))] := hD
      have pi := put_hit (j := r2.toInt.toNat) (xv := p0) (sv := p1) (fv := p2) (lv := p3) hOm hSr bg.1 (by omega) hx1 hx2 hx3 hx4 hnb
      refine lv_aload_n hx hb dX1_put_77 rfl (lv_at hl 1 rfl) ?_
      refine lv_iload hx hb dX1_put_78 (lv_at hl 0 rfl) ?_
      have hPc := hP.sub (ws' := [(qm, .inr (1, [.ref qm1, .ref qm2, .ref qm3, .ref qm4, .ref qm5, .int zm])), (qm1, .inl (cI, 40, .inl (upd kt r2.toInt.toNat p0))), (qm2, .inl (cI, 40, .inl (upd ks r2.toInt.toNat p1))), (qm3, .inl (cI, 40, .inl (upd kf r2.toInt.toNat p2))), (qm4, .inl (cI, 40, .inl (upd kl r2.toInt.toNat p3))), (qm5, .inl (cL, 40, .inr (.inl ku)))]) [0, 1, 2, 3, 4, 5] rfl
      have hDc := hD.sub (ws' := [(qm, .inr (1, [.ref qm1, .ref qm2, .ref qm3, .ref qm4, .ref qm5, .int zm])), (qm1, .inl (cI, 40, .inl (upd kt r2.toInt.toNat p0))), (qm2, .inl (cI, 40, .inl (upd ks r2.toInt.toNat p1))), (qm3, .inl (cI, 40, .inl (upd kf r2.toInt.toNat p2))), (qm4, .inl (cI, 40, .inl (upd kl r2.toInt.toNat p3))), (qm5, .inl (cL, 40, .inr (.inl ku)))]) [0, 1, 2, 3, 4, 5] (by decide) rfl
      have hcc := (ct_X1_renewUnitsBefore l G cI cL H.size qm qm1 qm2 qm3 qm4 qm5 zm (upd kt r2.toInt.toNat p0) (upd ks r2.toInt.toNat p1) (upd kf r2.toInt.toNat p2) (upd kl r2.toInt.toNat p3) ku r2 nm hnm pi.1 pi.2.1 (by omega) ((fun k hk h => okU_keep hU hk pi.2.2 (by rw [pk_un (by omega)]) (by have := srt_le hSr (show k ≤ r2.toInt.toNat by omega) bg.1; omega) (by have := hrg k hk; omega))))
      refine rw_callv (wr := ([] : va_W)) (va_runV (As := [.int r2]) (rest := []) ⟨hx, hb, hml, hown, hts⟩ hcc (cwV 1 hts gX1_put_X1_renewUnitsBefore rfl rfl rfl (by decide +kernel) ⟨Nat.le_of_ble_eq_true rfl, Nat.le_of_ble_eq_true rfl⟩) ⟨pre_blind, va_recv hK hPc (ci := 1) (q0 := 0) rfl rfl, pre_pass hK hN hPc hDc⟩ rfl rfl hl.1 rfl (lv_room (Nat.le_of_ble_eq_true rfl)) dX1_put_80 ⟨Nat.le_of_ble_eq_true rfl, Nat.le_of_ble_eq_true rfl⟩) hP hD hS hA [0, 1, 2, 3, 4, 5] [] rfl rfl (by decide) (by decide) (fun u80_2 H locs hw80_2 hP hD hS => ?_)
      obtain ⟨ku80_2, rfl⟩ : ∃ z, z = u80_2 := ⟨_, rfl⟩
      have hP : va_P G vwCl [(qm, .inr (1, [.ref qm1, .ref qm2, .ref qm3, .ref qm4, .ref qm5, .int zm])), (qm1, .inl (cI, 40, .inl ((upd kt r2.toInt.toNat p0)))), (qm2, .inl (cI, 40, .inl ((upd ks r2.toInt.toNat p1)))), (qm3, .inl (cI, 40, .inl ((upd kf r2.toInt.toNat p2)))), (qm4, .inl (cI, 40, .inl ((upd kl r2.toInt.toNat p3)))), (qm5, .inl (cL, 40, .inr (.inl ku80_2)))] H := hP.sub [0, 1, 2, 3, 4, 5] rfl
      have hD : va_D A [(qm, .inr (1, [.ref qm1, .ref qm2, .ref qm3, .ref qm4, .ref qm5, .int zm])), (qm1, .inl (cI, 40, .inl ((upd kt r2.toInt.toNat p0)))), (qm2, .inl (cI, 40, .inl ((upd ks r2.toInt.toNat p1)))), (qm3, .inl (cI, 40, .inl ((upd kf r2.toInt.toNat p2)))), (qm4, .inl (cI, 40, .inl ((upd kl r2.toInt.toNat p3)))), (qm5, .inl (cL, 40, .inr (.inl ku80_2)))] := hD.sub [0, 1, 2, 3, 4, 5] (by decide) rfl
      try dsimp only at hw80_2
      refine lv_aload_n hx hb dX1_put_83 rfl (lv_at hl 1 rfl) ?_
      refine va_get (D := G) (ci := 1) (v := .int zm) (C := RX1) (T := TX1) (N := 6) hx hb hts hiX1 hown hK hP 0 rfl rfl 5 (by decide) hf28 (fun _ h9 => h9) rfl dX1_put_84 ?_
      exact W.iret (v := zm) hx hb hr (fun t ht hW => ⟨⟨zm, (zm, (upd kt r2.toInt.toNat p0), (upd ks r2.toInt.toNat p1), (upd kf r2.toInt.toNat p2), (upd kl r2.toInt.toNat p3), ku80_2), rfl, (by (try dsimp only); exact ⟨nm, hnm, Or.inl ⟨r2.toInt.toNat, bg.1, by omega, by omega, rfl, rfl, rfl, rfl, rfl⟩, pi.1, pi.2.1, hw80_2⟩), by rw [ht]; exact hP, hD⟩, hS.F ht⟩) hS.2.2 dX1_put_87
    · have k20 : (x18.toInt : Int) ≠ p0.toInt := i_ne rfl rfl c20
      have bp := bi_place hSr hw2 (by omega)
      have bne : ∀ k : Nat, k < nm → (kt k).toInt ≠ p0.toInt := fun k hk e => by
        rcases Nat.lt_or_ge k (r2.toInt + 1).toNat with q | q
        · have := bp.2.2.1 k hk q; omega
        · have := bp.2.2.2 k hk q; omega
      refine lv_aload_n hx hb dX1_put_23 rfl (lv_at hl 1 rfl) ?_
      refine va_get (D := G) (ci := 1) (v := .int zm) (C := RX1) (T := TX1) (N := 6) hx hb hts hiX1 hown hK hP 0 rfl rfl 5 (by decide) hf28 (fun _ h9 => h9) rfl dX1_put_24 ?_
      refine lv_bipush (v := 40) hx hb dX1_put_27 (by decide) ?_
      refine lv_icmp_lt (tgt := 35) hx hb dX1_put_29 (by decide) (fun c29 => ?_) (fun c29 => ?_)
      · have k29 : (zm.toInt : Int) < 40 := i_lt rfl (show ((40 : Int32)).toInt = 40 by decide) c29
        obtain ⟨x35_2, ex35_2⟩ : ∃ y : Int32, y = r2 + 1 := ⟨_, rfl⟩
        have tx35_2 : x35_2.toInt = r2.toInt + 1 := by rw [ex35_2]; exact ti_add rfl (by decide) (by omega) (by omega)
        refine lv_iinc (v := x35_2) (lv' := [(5, .int x35_2), (0, .ref qm), (1, .int p0), (2, .int p1), (3, .int p2), (4, .int p3)]) hx hb dX1_put_35 hl (k := 0) rfl (by rw [ex35_2]; rfl) (by decide) rfl (fun ls hl => ?_)
        refine lv_aload_n hx hb dX1_put_38 rfl (lv_at hl 1 rfl) ?_
        refine lv_iload hx hb dX1_put_39 (lv_at hl 0 rfl) ?_
        have hPc := hP.sub (ws' := [(qm, .inr (1, [.ref qm1, .ref qm2, .ref qm3, .ref qm4, .ref qm5, .int zm])), (qm1, .inl (cI, 40, .inl kt)), (qm2, .inl (cI, 40, .inl ks)), (qm3, .inl (cI, 40, .inl kf)), (qm4, .inl (cI, 40, .inl kl)), (qm5, .inl (cL, 40, .inr (.inl ku)))]) [0, 1, 2, 3, 4, 5] rfl
        have hDc := hD.sub (ws' := [(qm, .inr (1, [.ref qm1, .ref qm2, .ref qm3, .ref qm4, .ref qm5, .int zm])), (qm1, .inl (cI, 40, .inl kt)), (qm2, .inl (cI, 40, .inl ks)), (qm3, .inl (cI, 40, .inl kf)), (qm4, .inl (cI, 40, .inl kl)), (qm5, .inl (cL, 40, .inr (.inl ku)))]) [0, 1, 2, 3, 4, 5] (by decide) rfl
        have hcc := (ct_X1_openRow l G cI cL H.size qm qm1 qm2 qm3 qm4 qm5 zm kt ks kf kl ku x35_2 nm hnm (by omega) (by omega))
        refine rw_callv (wr := ([] : va_W)) (va_runV (As := [.int x35_2]) (rest := []) ⟨hx, hb, hml, hown, hts⟩ hcc (cwV 1 hts gX1_put_X1_openRow rfl rfl rfl (by decide +kernel) ⟨Nat.le_of_ble_eq_true rfl, Nat.le_of_ble_eq_true rfl⟩) ⟨pre_blind, va_recv hK hPc (ci := 1) (q0 := 0) rfl rfl, pre_pass hK hN hPc hDc⟩ rfl rfl hl.1 rfl (lv_room (Nat.le_of_ble_eq_true rfl)) dX1_put_41 ⟨Nat.le_of_ble_eq_true rfl, Nat.le_of_ble_eq_true rfl⟩) hP hD hS hA [0, 1, 2, 3, 4, 5] [] rfl rfl (by decide) (by decide) (fun u41_2 H locs hw41_2 hP hD hS => ?_)
        obtain ⟨zm41_2, kt41_2, ks41_2, kf41_2, kl41_2⟩ := u41_2
        have hP : va_P G vwCl [(qm, .inr (1, [.ref qm1, .ref qm2, .ref qm3, .ref qm4, .ref qm5, .int zm41_2])), (qm1, .inl (cI, 40, .inl kt41_2)), (qm2, .inl (cI, 40, .inl ks41_2)), (qm3, .inl (cI, 40, .inl kf41_2)), (qm4, .inl (cI, 40, .inl kl41_2)), (qm5, .inl (cL, 40, .inr (.inl ku)))] H := hP.sub [0, 1, 2, 3, 4, 5] rfl
        have hD : va_D A [(qm, .inr (1, [.ref qm1, .ref qm2, .ref qm3, .ref qm4, .ref qm5, .int zm41_2])), (qm1, .inl (cI, 40, .inl kt41_2)), (qm2, .inl (cI, 40, .inl ks41_2)), (qm3, .inl (cI, 40, .inl kf41_2)), (qm4, .inl (cI, 40, .inl kl41_2)), (qm5, .inl (cL, 40, .inr (.inl ku)))] := hD.sub [0, 1, 2, 3, 4, 5] (by decide) rfl
        try dsimp only at hw41_2
        refine lv_aload_n hx hb dX1_put_44 rfl (lv_at hl 1 rfl) ?_
        refine va_get (D := G) (ci := 1) (v := .ref qm1) (C := RX1) (T := TX1) (N := 6) hx hb hts hiX1 hown hK hP 0 rfl rfl 0 (by decide) hf9 (fun _ h9 => h9) rfl dX1_put_45 ?_
        refine lv_iload hx hb dX1_put_48 (lv_at hl 0 rfl) ?_
        refine lv_iload_n hx hb dX1_put_50 rfl (lv_at hl 2 rfl) ?_
        refine va_iast hx hb hK hP hD hS 1 0 rfl rfl (vi_in rfl (by omega) (by omega)) dX1_put_51 (fun H locs hP hD hS => ?_)
        rw [cl_nat rfl (show x35_2.toInt = ((x35_2.toInt.toNat : Nat) : Int) by omega)] at hP hD
        have hP : va_P G vwCl [(qm, .inr (1, [.ref qm1, .ref qm2, .ref qm3, .ref qm4, .ref qm5, .int zm41_2])), (qm1, .inl (cI, 40, .inl (upd kt41_2 x35_2.toInt.toNat p0))), (qm2, .inl (cI, 40, .inl ks41_2)), (qm3, .inl (cI, 40, .inl kf41_2)), (qm4, .inl (cI, 40, .inl kl41_2)), (qm5, .inl (cL, 40, .inr (.inl ku)))] H := hP
        have hD : va_D A [(qm, .inr (1, [.ref qm1, .ref qm2, .ref qm3, .ref qm4, .ref qm5, .int zm41_2])), (qm1, .inl (cI, 40, .inl (upd kt41_2 x35_2.toInt.toNat p0))), (qm2, .inl (cI, 40, .inl ks41_2)), (qm3, .inl (cI, 40, .inl kf41_2)), (qm4, .inl (cI, 40, .inl kl41_2)), (qm5, .inl (cL, 40, .inr (.inl ku)))] := hD
        refine lv_aload_n hx hb dX1_put_52 rfl (lv_at hl 1 rfl) ?_
        refine va_get (D := G) (ci := 1) (v := .ref qm2) (C := RX1) (T := TX1) (N := 6) hx hb hts hiX1 hown hK hP 0 rfl rfl 1 (by decide) hf15 (fun _ h9 => h9) rfl dX1_put_53 ?_
        refine lv_iload hx hb dX1_put_56 (lv_at hl 0 rfl) ?_
        refine lv_iload_n hx hb dX1_put_58 rfl (lv_at hl 3 rfl) ?_
        refine va_iast hx hb hK hP hD hS 2 0 rfl rfl (vi_in rfl (by omega) (by omega)) dX1_put_59 (fun H locs hP hD hS => ?_)
        rw [cl_nat rfl (show x35_2.toInt = ((x35_2.toInt.toNat : Nat) : Int) by omega)] at hP hD
        have hP : va_P G vwCl [(qm, .inr (1, [.ref qm1, .ref qm2, .ref qm3, .ref qm4, .ref qm5, .int zm41_2])), (qm1, .inl (cI, 40, .inl (upd kt41_2 x35_2.toInt.toNat p0))), (qm2, .inl (cI, 40, .inl (upd ks41_2 x35_2.toInt.toNat p1))), (qm3, .inl (cI, 40, .inl kf41_2)), (qm4, .inl (cI, 40, .inl kl41_2)), (qm5, .inl (cL, 40, .inr (.inl ku)))] H := hP
        have hD : va_D A [(qm, .inr (1, [.ref qm1, .ref qm2, .ref qm3, .ref qm4, .ref qm5, .int zm41_2])), (qm1, .inl (cI, 40, .inl (upd kt41_2 x35_2.toInt.toNat p0))), (qm2, .inl (cI, 40, .inl (upd ks41_2 x35_2.toInt.toNat p1))), (qm3, .inl (cI, 40, .inl kf41_2)), (qm4, .inl (cI, 40, .inl kl41_2)), (qm5, .inl (cL, 40, .inr (.inl ku)))] := hD
        refine lv_aload_n hx hb dX1_put_60 rfl (lv_at hl 1 rfl) ?_
        refine va_get (D := G) (ci := 1) (v := .ref qm3) (C := RX1) (T := TX1) (N := 6) hx hb hts hiX1 hown hK hP 0 rfl rfl 2 (by decide) hf18 (fun _ h9 => h9) rfl dX1_put_61 ?_
        refine lv_iload hx hb dX1_put_64 (lv_at hl 0 rfl) ?_
        refine lv_iload_n hx hb dX1_put_66 rfl (lv_at hl 4 rfl) ?_
        refine va_iast hx hb hK hP hD hS 3 0 rfl rfl (vi_in rfl (by omega) (by omega)) dX1_put_67 (fun H locs hP hD hS => ?_)
        rw [cl_nat rfl (show x35_2.toInt = ((x35_2.toInt.toNat : Nat) : Int) by omega)] at hP hD
        have hP : va_P G vwCl [(qm, .inr (1, [.ref qm1, .ref qm2, .ref qm3, .ref qm4, .ref qm5, .int zm41_2])), (qm1, .inl (cI, 40, .inl (upd kt41_2 x35_2.toInt.toNat p0))), (qm2, .inl (cI, 40, .inl (upd ks41_2 x35_2.toInt.toNat p1))), (qm3, .inl (cI, 40, .inl (upd kf41_2 x35_2.toInt.toNat p2))), (qm4, .inl (cI, 40, .inl kl41_2)), (qm5, .inl (cL, 40, .inr (.inl ku)))] H := hP
        have hD : va_D A [(qm, .inr (1, [.ref qm1, .ref qm2, .ref qm3, .ref qm4, .ref qm5, .int zm41_2])), (qm1, .inl (cI, 40, .inl (upd kt41_2 x35_2.toInt.toNat p0))), (qm2, .inl (cI, 40, .inl (upd ks41_2 x35_2.toInt.toNat p1))), (qm3, .inl (cI, 40, .inl (upd kf41_2 x35_2.toInt.toNat p2))), (qm4, .inl (cI, 40, .inl kl41_2)), (qm5, .inl (cL, 40, .inr (.inl ku)))] := hD
        refine lv_aload_n hx hb dX1_put_68 rfl (lv_at hl 1 rfl) ?_
        refine va_get (D := G) (ci := 1) (v := .ref qm4) (C := RX1) (T := TX1) (N := 6) hx hb hts hiX1 hown hK hP 0 rfl rfl 3 (by decide) hf21 (fun _ h9 => h9) rfl dX1_put_69 ?_
        refine lv_iload hx hb dX1_put_72 (lv_at hl 0 rfl) ?_
        refine lv_iload hx hb dX1_put_74 (lv_at hl 5 rfl) ?_
        refine va_iast hx hb hK hP hD hS 4 0 rfl rfl (vi_in rfl (by omega) (by omega)) dX1_put_76 (fun H locs hP hD hS => ?_)
        rw [cl_nat rfl (show x35_2.toInt = ((x35_2.toInt.toNat : Nat) : Int) by omega)] at hP hD
        have hP : va_P G vwCl [(qm, .inr (1, [.ref qm1, .ref qm2, .ref qm3, .ref qm4, .ref qm5, .int zm41_2])), (qm1, .inl (cI, 40, .inl (upd kt41_2 x35_2.toInt.toNat p0))), (qm2, .inl (cI, 40, .inl (upd ks41_2 x35_2.toInt.toNat p1))), (qm3, .inl (cI, 40, .inl (upd kf41_2 x35_2.toInt.toNat p2))), (qm4, .inl (cI, 40, .inl (upd kl41_2 x35_2.toInt.toNat p3))), (qm5, .inl (cL, 40, .inr (.inl ku)))] H := hP
        have hD : va_D A [(qm, .inr (1, [.ref qm1, .ref qm2, .ref qm3, .ref qm4, .ref qm5, .int zm41_2])), (qm1, .inl (cI, 40, .inl (upd kt41_2 x35_2.toInt.toNat p0))), (qm2, .inl (cI, 40, .inl (upd ks41_2 x35_2.toInt.toNat p1))), (qm3, .inl (cI, 40, .inl (upd kf41_2 x35_2.toInt.toNat p2))), (qm4, .inl (cI, 40, .inl (upd kl41_2 x35_2.toInt.toNat p3))), (qm5, .inl (cL, 40, .inr (.inl ku)))] := hD
        have pi := put_ins (j := (r2.toInt + 1).toNat) (xv := p0) (sv := p1) (fv := p2) (lv := p3) hOm hSr (by omega) (by omega) bp.2.2.1 bp.2.2.2 hx0 hx1 hx2 hx3 hx4 hni hnb
        have ej : x35_2.toInt.toNat = (r2.toInt + 1).toNat := by omega
        have a1 : upd kt41_2 x35_2.toInt.toNat p0 = insA kt (r2.toInt + 1).toNat nm p0 := by rw [hw41_2.2.1, ej]; rfl
        have a2 : upd ks41_2 x35_2.toInt.toNat p1 = insA ks (r2.toInt + 1).toNat nm p1 := by rw [hw41_2.2.2.1, ej]; rfl
        have a3 : upd kf41_2 x35_2.toInt.toNat p2 = insA kf (r2.toInt + 1).toNat nm p2 := by rw [hw41_2.2.2.2.1, ej]; rfl
        have a4 : upd kl41_2 x35_2.toInt.toNat p3 = insA kl (r2.toInt + 1).toNat nm p3 := by rw [hw41_2.2.2.2.2, ej]; rfl
        refine lv_aload_n hx hb dX1_put_77 rfl (lv_at hl 1 rfl) ?_
        refine lv_iload hx hb dX1_put_78 (lv_at hl 0 rfl) ?_
        have hPc := hP.sub (ws' := [(qm, .inr (1, [.ref qm1, .ref qm2, .ref qm3, .ref qm4, .ref qm5, .int zm41_2])), (qm1, .inl (cI, 40, .inl (upd kt41_2 x35_2.toInt.toNat p0))), (qm2, .inl (cI, 40, .inl (upd ks41_2 x35_2.toInt.toNat p1))), (qm3, .inl (cI, 40, .inl (upd kf41_2 x35_2.toInt.toNat p2))), (qm4, .inl (cI, 40, .inl (upd kl41_2 x35_2.toInt.toNat p3))), (qm5, .inl (cL, 40, .inr (.inl ku)))]) [0, 1, 2, 3, 4, 5] rfl
        have hDc := hD.sub (ws' := [(qm, .inr (1, [.ref qm1, .ref qm2, .ref qm3, .ref qm4, .ref qm5, .int zm41_2])), (qm1, .inl (cI, 40, .inl (upd kt41_2 x35_2.toInt.toNat p0))), (qm2, .inl (cI, 40, .inl (upd ks41_2 x35_2.toInt.toNat p1))), (qm3, .inl (cI, 40, .inl (upd kf41_2 x35_2.toInt.toNat p2))), (qm4, .inl (cI, 40, .inl (upd kl41_2 x35_2.toInt.toNat p3))), (qm5, .inl (cL, 40, .inr (.inl ku)))]) [0, 1, 2, 3, 4, 5] (by decide) rfl
        have hcc := (ct_X1_renewUnitsBefore l G cI cL H.size qm qm1 qm2 qm3 qm4 qm5 zm41_2 (upd kt41_2 x35_2.toInt.toNat p0) (upd ks41_2 x35_2.toInt.toNat p1) (upd kf41_2 x35_2.toInt.toNat p2) (upd kl41_2 x35_2.toInt.toNat p3) ku x35_2 (nm + 1) (by omega) (by rw [a1, a2, a3, a4]; exact pi.1) (by rw [a1]; exact pi.2.1) (by omega) ((by rw [a1, a2, a3, a4]; exact fun k hk h => okU_keep hU (by omega) pi.2.2 (by rw [insA_lt (by omega)]) (by have := bp.2.2.1 k (by omega) (by omega); omega) (by have := hrg k (by omega); omega))))
        refine rw_callv (wr := ([] : va_W)) (va_runV (As := [.int x35_2]) (rest := []) ⟨hx, hb, hml, hown, hts⟩ hcc (cwV 1 hts gX1_put_X1_renewUnitsBefore rfl rfl rfl (by decide +kernel) ⟨Nat.le_of_ble_eq_true rfl, Nat.le_of_ble_eq_true rfl⟩) ⟨pre_blind, va_recv hK hPc (ci := 1) (q0 := 0) rfl rfl, pre_pass hK hN hPc hDc⟩ rfl rfl hl.1 rfl (lv_room (Nat.le_of_ble_eq_true rfl)) dX1_put_80 ⟨Nat.le_of_ble_eq_true rfl, Nat.le_of_ble_eq_true rfl⟩) hP hD hS hA [0, 1, 2, 3, 4, 5] [] rfl rfl (by decide) (by decide) (fun u80_3 H locs hw80_3 hP hD hS => ?_)
        obtain ⟨ku80_3, rfl⟩ : ∃ z, z = u80_3 := ⟨_, rfl⟩
        have hP : va_P G vwCl [(qm, .inr (1, [.ref qm1, .ref qm2, .ref qm3, .ref qm4, .ref qm5, .int zm41_2])), (qm1, .inl (cI, 40, .inl ((upd kt41_2 x35_2.toInt.toNat p0)))), (qm2, .inl (cI, 40, .inl ((upd ks41_2 x35_2.toInt.toNat p1)))), (qm3, .inl (cI, 40, .inl ((upd kf41_2 x35_2.toInt.toNat p2)))), (qm4, .inl (cI, 40, .inl ((upd kl41_2 x35_2.toInt.toNat p3)))), (qm5, .inl (cL, 40, .inr (.inl ku80_3)))] H := hP.sub [0, 1, 2, 3, 4, 5] rfl
        have hD : va_D A [(qm, .inr (1, [.ref qm1, .ref qm2, .ref qm3, .ref qm4, .ref qm5, .int zm41_2])), (qm1, .inl (cI, 40, .inl ((upd kt41_2 x35_2.toInt.toNat p0)))), (qm2, .inl (cI, 40, .inl ((upd ks41_2 x35_2.toInt.toNat p1)))), (qm3, .inl (cI, 40, .inl ((upd kf41_2 x35_2.toInt.toNat p2)))), (qm4, .inl (cI, 40, .inl ((upd kl41_2 x35_2.toInt.toNat p3)))), (qm5, .inl (cL, 40, .inr (.inl ku80_3)))] := hD.sub [0, 1, 2, 3, 4, 5] (by decide) rfl
        try dsimp only at hw80_3
        refine lv_aload_n hx hb dX1_put_83 rfl (lv_at hl 1 rfl) ?_
        refine va_get (D := G) (ci := 1) (v := .int zm41_2) (C := RX1) (T := TX1) (N := 6) hx hb hts hiX1 hown hK hP 0 rfl rfl 5 (by decide) hf28 (fun _ h9 => h9) rfl dX1_put_84 ?_
        exact W.iret (v := zm41_2) hx hb hr (fun t ht hW => ⟨⟨zm41_2, (zm41_2, (upd kt41_2 x35_2.toInt.toNat p0), (upd ks41_2 x35_2.toInt.toNat p1), (upd kf41_2 x35_2.toInt.toNat p2), (upd kl41_2 x35_2.toInt.toNat p3), ku80_3), rfl, (by (try dsimp only); exact (by have h8 := hw80_3; rw [a1, a2, a3, a4] at h8 ⊢; exact ⟨nm + 1, by omega, Or.inr (Or.inr ⟨(r2.toInt + 1).toNat, by omega, bne, by omega, by omega, rfl, rfl, rfl, rfl, rfl⟩), pi.1, pi.2.1, h8⟩)), by rw [ht]; exact hP, hD⟩, hS.F ht⟩) hS.2.2 dX1_put_87
      · have k29 : (40 : Int) ≤ zm.toInt := i_nlt rfl (show ((40 : Int32)).toInt = 40 by decide) c29
        refine lv_bipush (v := (-4)) hx hb dX1_put_32 (by decide) ?_
        exact W.iret (v := (-4)) hx hb hr (fun t ht hW => ⟨⟨(-4), (zm, kt, ks, kf, kl, ku), rfl, (by (try dsimp only); exact ⟨nm, hnm, Or.inr (Or.inl ⟨bne, by omega, by omega, rfl, rfl, rfl, rfl, rfl⟩), hOm, hSr, hU⟩), by rw [ht]; exact hP, hD⟩, hS.F ht⟩) hS.2.2 dX1_put_34
set_option maxHeartbeats 4000000 in
set_option maxRecDepth 100000 in
theorem ct_X1_putStep (l : Launch) (G : va_G) (cI cL : ClassId) (sz : Nat) (qm : Nat) (qm1 : Nat) (qm2 : Nat) (qm3 : Nat) (qm4 : Nat) (qm5 : Nat) (zm : Int32) (kt : Nat → Int32) (ks : Nat → Int32) (kf : Nat → Int32) (kl : Nat → Int32) (ku : Nat → Int64) (p0 : Int32) (p1 : Int32) (nm : Nat) (hnm : zm.toInt = nm) (hOm : okM nm kt ks kf kl) (hSr : srt nm kt) (hU : okU nm kt ks kf kl ku) (hx0 : 0 ≤ p0.toInt ∧ p0.toInt ≤ 999999) (hx3 : 1 ≤ p1.toInt ∧ p1.toInt ≤ 1000000) (hni : ¬ insS nm kt ks p0.toInt) : Met l yX1_putStep wsX1_putStep ({ frames := 5, cells := 0, slots := 0, locals := 134 }) (va_Pc [.ref qm, .int p0, .int p1] (pre0 G cI cL [(qm, .inr (1, [.ref qm1, .ref qm2, .ref qm3, .ref qm4, .ref qm5, .int zm])), (qm1, .inl (cI, 40, .inl kt)), (qm2, .inl (cI, 40, .inl ks)), (qm3, .inl (cI, 40, .inl kf)), (qm4, .inl (cI, 40, .inl kl)), (qm5, .inl (cL, 40, .inr (.inl ku)))] sz)) (va_Qi (fun (r : Int32) (u : Int32 × (Nat → Int32) × (Nat → Int32) × (Nat → Int32) × (Nat → Int32) × (Nat → Int64)) => ∃ n' : Nat, u.1.toInt = n' ∧ cPut nm kt ks kf kl p0 0 p1 p1 r.toInt n' u.2.1 u.2.2.1 u.2.2.2.1 u.2.2.2.2.1 ∧ okM n' u.2.1 u.2.2.1 u.2.2.2.1 u.2.2.2.2.1 ∧ srt n' u.2.1 ∧ okU n' u.2.1 u.2.2.1 u.2.2.2.1 u.2.2.2.2.1 u.2.2.2.2.2) (fun (u : Int32 × (Nat → Int32) × (Nat → Int32) × (Nat → Int32) × (Nat → Int32) × (Nat → Int64)) t => va_P G vwCl [(qm, .inr (1, [.ref qm1, .ref qm2, .ref qm3, .ref qm4, .ref qm5, .int u.1])), (qm1, .inl (cI, 40, .inl (u.2.1))), (qm2, .inl (cI, 40, .inl (u.2.2.1))), (qm3, .inl (cI, 40, .inl (u.2.2.2.1))), (qm4, .inl (cI, 40, .inl (u.2.2.2.2.1))), (qm5, .inl (cL, 40, .inr (.inl (u.2.2.2.2.2))))] t.heap ∧ va_D (va_A [(qm, .inr (1, [.ref qm1, .ref qm2, .ref qm3, .ref qm4, .ref qm5, .int zm])), (qm1, .inl (cI, 40, .inl kt)), (qm2, .inl (cI, 40, .inl ks)), (qm3, .inl (cI, 40, .inl kf)), (qm4, .inl (cI, 40, .inl kl)), (qm5, .inl (cL, 40, .inr (.inl ku)))] sz) [(qm, .inr (1, [.ref qm1, .ref qm2, .ref qm3, .ref qm4, .ref qm5, .int u.1])), (qm1, .inl (cI, 40, .inl (u.2.1))), (qm2, .inl (cI, 40, .inl (u.2.2.1))), (qm3, .inl (cI, 40, .inl (u.2.2.2.1))), (qm4, .inl (cI, 40, .inl (u.2.2.2.2.1))), (qm5, .inl (cL, 40, .inr (.inl (u.2.2.2.2.2))))]) (va_A [(qm, .inr (1, [.ref qm1, .ref qm2, .ref qm3, .ref qm4, .ref qm5, .int zm])), (qm1, .inl (cI, 40, .inl kt)), (qm2, .inl (cI, 40, .inl ks)), (qm3, .inl (cI, 40, .inl kf)), (qm4, .inl (cI, 40, .inl kl)), (qm5, .inl (cL, 40, .inr (.inl ku)))] sz)) 0 0 (va_A [(qm, .inr (1, [.ref qm1, .ref qm2, .ref qm3, .ref qm4, .ref qm5, .int zm])), (qm1, .inl (cI, 40, .inl kt)), (qm2, .inl (cI, 40, .inl ks)), (qm3, .inl (cI, 40, .inl kf)), (qm4, .inl (cI, 40, .inl kl)), (qm5, .inl (cL, 40, .inr (.inl ku)))] sz) := by
  refine Met.ofW (cc := cX1_putStep) (maxL := 3) (ret := (some .int)) (by decide) rfl ?_
  intro p e s m args below meth c s₁ B hml hv
  obtain ⟨rfl, hsz, hP, hK, hD0, hN⟩ := hv
  have hx := B.exec
  have hb := B.bytes
  have hr := B.returns
  have hts := atoms_spec (ws := wsX1_putStep) B.pre
  have hown : s.vm.findClass RX1 = some m.cls := findClass_of_methodNamed B.named
  have hlocks := B.notSynchronized
  subst hsz
  have hD := hD0.self (sz := s.heap.size)
  generalize hAe : va_A [(qm, .inr (1, [.ref qm1, .ref qm2, .ref qm3, .ref qm4, .ref qm5, .int zm])), (qm1, .inl (cI, 40, .inl kt)), (qm2, .inl (cI, 40, .inl ks)), (qm3, .inl (cI, 40, .inl kf)), (qm4, .inl (cI, 40, .inl kl)), (qm5, .inl (cL, 40, .inr (.inl ku)))] s.heap.size = A at hD ⊢
  have hA : ∀ q : Nat, s.heap.size ≤ q → A q := fun q h => by rw [← hAe]; exact Or.inr h
  have hP : va_P G vwCl [(qm, .inr (1, [.ref qm1, .ref qm2, .ref qm3, .ref qm4, .ref qm5, .int zm])), (qm1, .inl (cI, 40, .inl kt)), (qm2, .inl (cI, 40, .inl ks)), (qm3, .inl (cI, 40, .inl kf)), (qm4, .inl (cI, 40, .inl kl)), (qm5, .inl (cL, 40, .inr (.inl ku)))] s.heap := hP
  have hl := lv_entry ([.ref qm, .int p0, .int p1]) (n := 3) (Nat.le_of_ble_eq_true rfl)
  rw [lg_entry_eq]
  generalize (lg_sl ([.ref qm, .int p0, .int p1]) ++ List.replicate (3 - (lg_sl ([.ref qm, .int p0, .int p1])).length) Slot.unset).toArray = ls at hl ⊢
  have hl : lv_has ls 3 [(0, .ref qm), (1, .int p0), (2, .int p1)] := hl
  have zi0 : ((0 : Int32)).toInt = 0 := by decide
  refine w_h (A := A) hP (fun H locs hP hS => ?_)
  have hn40 := hOm.1
  have hrg := hOm.2.1
  refine lv_aload_n hx hb dX1_putStep_0 rfl (lv_at hl 0 rfl) ?_
  refine lv_iload_n hx hb dX1_putStep_1 rfl (lv_at hl 1 rfl) ?_
  refine lv_iconst (v := 0) hx hb dX1_putStep_2 (by decide) ?_
  refine lv_iload_n hx hb dX1_putStep_3 rfl (lv_at hl 2 rfl) ?_
  refine lv_iload_n hx hb dX1_putStep_4 rfl (lv_at hl 2 rfl) ?_
  have hPc := hP.sub (ws' := [(qm, .inr (1, [.ref qm1, .ref qm2, .ref qm3, .ref qm4, .ref qm5, .int zm])), (qm1, .inl (cI, 40, .inl kt)), (qm2, .inl (cI, 40, .inl ks)), (qm3, .inl (cI, 40, .inl kf)), (qm4, .inl (cI, 40, .inl kl)), (qm5, .inl (cL, 40, .inr (.inl ku)))]) [0, 1, 2, 3, 4, 5] rfl
  have hDc := hD.sub (ws' := [(qm, .inr (1, [.ref qm1, .ref qm2, .ref qm3, .ref qm4, .ref qm5, .int zm])), (qm1, .inl (cI, 40, .inl kt)), (qm2, .inl (cI, 40, .inl ks)), (qm3, .inl (cI, 40, .inl kf)), (qm4, .inl (cI, 40, .inl kl)), (qm5, .inl (cL, 40, .inr (.inl ku)))]) [0, 1, 2, 3, 4, 5] (by decide) rfl
  have hcc := (ct_X1_put l G cI cL H.size qm qm1 qm2 qm3 qm4 qm5 zm kt ks kf kl ku p0 0 p1 p1 nm hnm hOm hSr hU (by omega) (by omega) (by omega) (by omega) (by omega) hni (fun ⟨k, h1, h2, h3⟩ => by omega))
  refine rw_calli (wr := ([] : va_W)) (va_runV (As := [.int p0, .int 0, .int p1, .int p1]) (rest := []) ⟨hx, hb, hml, hown, hts⟩ hcc (cwV 4 hts gX1_putStep_X1_put rfl rfl rfl (by decide +kernel) ⟨Nat.le_of_ble_eq_true rfl, Nat.le_of_ble_eq_true rfl⟩) ⟨pre_blind, va_recv hK hPc (ci := 1) (q0 := 0) rfl rfl, pre_pass hK hN hPc hDc⟩ rfl rfl hl.1 rfl (lv_room (Nat.le_of_ble_eq_true rfl)) dX1_putStep_5 ⟨Nat.le_of_ble_eq_true rfl, Nat.le_of_ble_eq_true rfl⟩) hP hD hS hA [0, 1, 2, 3, 4, 5] [] rfl rfl (by decide) (by decide) (fun r5 u5 H locs hw5 hP hD hS => ?_)
  obtain ⟨zm5, kt5, ks5, kf5, kl5, ku5⟩ := u5
  have hP : va_P G vwCl [(qm, .inr (1, [.ref qm1, .ref qm2, .ref qm3, .ref qm4, .ref qm5, .int zm5])), (qm1, .inl (cI, 40, .inl kt5)), (qm2, .inl (cI, 40, .inl ks5)), (qm3, .inl (cI, 40, .inl kf5)), (qm4, .inl (cI, 40, .inl kl5)), (qm5, .inl (cL, 40, .inr (.inl ku5)))] H := hP.sub [0, 1, 2, 3, 4, 5] rfl
  have hD : va_D A [(qm, .inr (1, [.ref qm1, .ref qm2, .ref qm3, .ref qm4, .ref qm5, .int zm5])), (qm1, .inl (cI, 40, .inl kt5)), (qm2, .inl (cI, 40, .inl ks5)), (qm3, .inl (cI, 40, .inl kf5)), (qm4, .inl (cI, 40, .inl kl5)), (qm5, .inl (cL, 40, .inr (.inl ku5)))] := hD.sub [0, 1, 2, 3, 4, 5] (by decide) rfl
  try dsimp only at hw5
  exact W.iret (v := r5) hx hb hr (fun t ht hW => ⟨⟨r5, (zm5, kt5, ks5, kf5, kl5, ku5), rfl, (by (try dsimp only); exact hw5), by rw [ht]; exact hP, hD⟩, hS.F ht⟩) hS.2.2 dX1_putStep_8
set_option maxHeartbeats 4000000 in
set_option maxRecDepth 100000 in
theorem ct_X1_remove (l : Launch) (G : va_G) (cI cL : ClassId) (sz : Nat) (qm : Nat) (qm1 : Nat) (qm2 : Nat) (qm3 : Nat) (qm4 : Nat) (qm5 : Nat) (zm : Int32) (kt : Nat → Int32) (ks : Nat → Int32) (kf : Nat → Int32) (kl : Nat → Int32) (ku : Nat → Int64) (p0 : Int32) (nm : Nat) (hnm : zm.toInt = nm) (hOm : okM nm kt ks kf kl) (hSr : srt nm kt) (hU : okU nm kt ks kf kl ku) : Met l yX1_remove wsX1_remove ({ frames := 4, cells := 0, slots := 0, locals := 109 }) (va_Pc [.ref qm, .int p0] (pre0 G cI cL [(qm, .inr (1, [.ref qm1, .ref qm2, .ref qm3, .ref qm4, .ref qm5, .int zm])), (qm1, .inl (cI, 40, .inl kt)), (qm2, .inl (cI, 40, .inl ks)), (qm3, .inl (cI, 40, .inl kf)), (qm4, .inl (cI, 40, .inl kl)), (qm5, .inl (cL, 40, .inr (.inl ku)))] sz)) (va_Qi (fun (r : Int32) (u : Int32 × (Nat → Int32) × (Nat → Int32) × (Nat → Int32) × (Nat → Int32) × (Nat → Int64)) => ∃ n' : Nat, u.1.toInt = n' ∧ cDel nm kt ks kf kl p0 r.toInt n' u.2.1 u.2.2.1 u.2.2.2.1 u.2.2.2.2.1 ∧ okM n' u.2.1 u.2.2.1 u.2.2.2.1 u.2.2.2.2.1 ∧ srt n' u.2.1 ∧ okU n' u.2.1 u.2.2.1 u.2.2.2.1 u.2.2.2.2.1 u.2.2.2.2.2) (fun (u : Int32 × (Nat → Int32) × (Nat → Int32) × (Nat → Int32) × (Nat → Int32) × (Nat → Int64)) t => va_P G vwCl [(qm, .inr (1, [.ref qm1, .ref qm2, .ref qm3, .ref qm4, .ref qm5, .int u.1])), (qm1, .inl (cI, 40, .inl (u.2.1))), (qm2, .inl (cI, 40, .inl (u.2.2.1))), (qm3, .inl (cI, 40, .inl (u.2.2.2.1))), (qm4, .inl (cI, 40, .inl (u.2.2.2.2.1))), (qm5, .inl (cL, 40, .inr (.inl (u.2.2.2.2.2))))] t.heap ∧ va_D (va_A [(qm, .inr (1, [.ref qm1, .ref qm2, .ref qm3, .ref qm4, .ref qm5, .int zm])), (qm1, .inl (cI, 40, .inl kt)), (qm2, .inl (cI, 40, .inl ks)), (qm3, .inl (cI, 40, .inl kf)), (qm4, .inl (cI, 40, .inl kl)), (qm5, .inl (cL, 40, .inr (.inl ku)))] sz) [(qm, .inr (1, [.ref qm1, .ref qm2, .ref qm3, .ref qm4, .ref qm5, .int u.1])), (qm1, .inl (cI, 40, .inl (u.2.1))), (qm2, .inl (cI, 40, .inl (u.2.2.1))), (qm3, .inl (cI, 40, .inl (u.2.2.2.1))), (qm4, .inl (cI, 40, .inl (u.2.2.2.2.1))), (qm5, .inl (cL, 40, .inr (.inl (u.2.2.2.2.2))))]) (va_A [(qm, .inr (1, [.ref qm1, .ref qm2, .ref qm3, .ref qm4, .ref qm5, .int zm])), (qm1, .inl (cI, 40, .inl kt)), (qm2, .inl (cI, 40, .inl ks)), (qm3, .inl (cI, 40, .inl kf)), (qm4, .inl (cI, 40, .inl kl)), (qm5, .inl (cL, 40, .inr (.inl ku)))] sz)) 0 0 (va_A [(qm, .inr (1, [.ref qm1, .ref qm2, .ref qm3, .ref qm4, .ref qm5, .int zm])), (qm1, .inl (cI, 40, .inl kt)), (qm2, .inl (cI, 40, .inl ks)), (qm3, .inl (cI, 40, .inl kf)), (qm4, .inl (cI, 40, .inl kl)), (qm5, .inl (cL, 40, .inr (.inl ku)))] sz) := by
  refine Met.ofW (cc := cX1_remove) (maxL := 4) (ret := (some .int)) (by decide) rfl ?_
  intro p e s m args below meth c s₁ B hml hv
  obtain ⟨rfl, hsz, hP, hK, hD0, hN⟩ := hv
  have hx := B.exec
  have hb := B.bytes
  have hr := B.returns
  have hts := atoms_spec (ws := wsX1_remove) B.pre
  have hown : s.vm.findClass RX1 = some m.cls := findClass_of_methodNamed B.named
  have hlocks := B.notSynchronized
  subst hsz
  have hD := hD0.self (sz := s.heap.size)
  generalize hAe : va_A [(qm, .inr (1, [.ref qm1, .ref qm2, .ref qm3, .ref qm4, .ref qm5, .int zm])), (qm1, .inl (cI, 40, .inl kt)), (qm2, .inl (cI, 40, .inl ks)), (qm3, .inl (cI, 40, .inl kf)), (qm4, .inl (cI, 40, .inl kl)), (qm5, .inl (cL, 40, .inr (.inl ku)))] s.heap.size = A at hD ⊢
  have hA : ∀ q : Nat, s.heap.size ≤ q → A q := fun q h => by rw [← hAe]; exact Or.inr h
  have hP : va_P G vwCl [(qm, .inr (1, [.ref qm1, .ref qm2, .ref qm3, .ref qm4, .ref qm5, .int zm])), (qm1, .inl (cI, 40, .inl kt)), (qm2, .inl (cI, 40, .inl ks)), (qm3, .inl (cI, 40, .inl kf)), (qm4, .inl (cI, 40, .inl kl)), (qm5, .inl (cL, 40, .inr (.inl ku)))] s.heap := hP
  have hl := lv_entry ([.ref qm, .int p0]) (n := 4) (Nat.le_of_ble_eq_true rfl)
  rw [lg_entry_eq]
  generalize (lg_sl ([.ref qm, .int p0]) ++ List.replicate (4 - (lg_sl ([.ref qm, .int p0])).length) Slot.unset).toArray = ls at hl ⊢
  have hl : lv_has ls 4 [(0, .ref qm), (1, .int p0)] := hl
  have hf9 := hts (.fieldLink RX1 9 "TempoMaps$Marks" "ticks" "[I") (by decide +kernel)
  have hf28 := hts (.fieldLink RX1 28 "TempoMaps$Marks" "size" "I") (by decide +kernel)
  have hiX1 : ∀ w ∈ wsX10, w ∈ wsX1_remove := by decide +kernel
  have zim3 : ((-3 : Int32)).toInt = -3 := by decide
  have zi1 : ((1 : Int32)).toInt = 1 := by decide
  refine w_h (A := A) hP (fun H locs hP hS => ?_)
  have hn40 := hOm.1
  have hrg := hOm.2.1
  refine lv_aload_n hx hb dX1_remove_0 rfl (lv_at hl 0 rfl) ?_
  refine lv_iload_n hx hb dX1_remove_1 rfl (lv_at hl 1 rfl) ?_
  have hPc := hP.sub (ws' := [(qm, .inr (1, [.ref qm1, .ref qm2, .ref qm3, .ref qm4, .ref qm5, .int zm])), (qm1, .inl (cI, 40, .inl kt)), (qm2, .inl (cI, 40, .inl ks)), (qm3, .inl (cI, 40, .inl kf)), (qm4, .inl (cI, 40, .inl kl)), (qm5, .inl (cL, 40, .inr (.inl ku)))]) [0, 1, 2, 3, 4, 5] rfl
  have hDc := hD.sub (ws' := [(qm, .inr (1, [.ref qm1, .ref qm2, .ref qm3, .ref qm4, .ref qm5, .int zm])), (qm1, .inl (cI, 40, .inl kt)), (qm2, .inl (cI, 40, .inl ks)), (qm3, .inl (cI, 40, .inl kf)), (qm4, .inl (cI, 40, .inl kl)), (qm5, .inl (cL, 40, .inr (.inl ku)))]) [0, 1, 2, 3, 4, 5] (by decide) rfl
  have hcc := (ct_X1_placeOf l G cI cL H.size qm qm1 qm2 qm3 qm4 qm5 zm kt ks kf kl ku p0 nm hnm hOm hSr)
  refine ro_calli (va_runV (As := [.int p0]) (rest := []) ⟨hx, hb, hml, hown, hts⟩ hcc (cwV 1 hts gX1_remove_X1_placeOf rfl rfl rfl (by decide +kernel) ⟨Nat.le_of_ble_eq_true rfl, Nat.le_of_ble_eq_true rfl⟩) ⟨pre_blind, va_recv hK hPc (ci := 1) (q0 := 0) rfl rfl, pre_pass hK hN hPc hDc⟩ rfl rfl hl.1 rfl (lv_room (Nat.le_of_ble_eq_true rfl)) dX1_remove_2 ⟨Nat.le_of_ble_eq_true rfl, Nat.le_of_ble_eq_true rfl⟩) hP hD hS hA [0, 1, 2, 3, 4, 5] rfl (fun r2 H locs hw2 hP hS => ?_)
  try dsimp only at hw2
  refine lv_istore_n (lv' := [(2, .int r2), (0, .ref qm), (1, .int p0)]) hx hb dX1_remove_5 rfl hl (by decide) rfl (fun ls hl => ?_)
  refine lv_iload_n hx hb dX1_remove_6 rfl (lv_at hl 0 rfl) ?_
  refine lv_if_lt (tgt := 20) hx hb dX1_remove_7 (by decide) (fun c7 => ?_) (fun c7 => ?_)
  · have k7 : (r2.toInt : Int) < 0 := i_lt rfl (show ((0 : Int32)).toInt = 0 by decide) c7
    have bn := bi_neg hw2 k7
    have bne : ∀ k : Nat, k < nm → (kt k).toInt ≠ p0.toInt := fun k hk e => by have := bn.2 k hk; omega
    refine lv_bipush (v := (-3)) hx hb dX1_remove_20 (by decide) ?_
    exact W.iret (v := (-3)) hx hb hr (fun t ht hW => ⟨⟨(-3), (zm, kt, ks, kf, kl, ku), rfl, (by (try dsimp only); exact ⟨nm, hnm, Or.inr ⟨bne, by omega, rfl, rfl, rfl, rfl, rfl⟩, hOm, hSr, hU⟩), by rw [ht]; exact hP, hD⟩, hS.F ht⟩) hS.2.2 dX1_remove_22
  · have k7 : (0 : Int) ≤ r2.toInt := i_nlt rfl (show ((0 : Int32)).toInt = 0 by decide) c7
    have bg := bi_get hw2 k7
    refine lv_aload_n hx hb dX1_remove_10 rfl (lv_at hl 1 rfl) ?_
    refine va_get (D := G) (ci := 1) (v := .ref qm1) (C := RX1) (T := TX1) (N := 6) hx hb hts hiX1 hown hK hP 0 rfl rfl 0 (by decide) hf9 (fun _ h9 => h9) rfl dX1_remove_11 ?_
    refine lv_iload_n hx hb dX1_remove_14 rfl (lv_at hl 0 rfl) ?_
    refine va_iald hx hb hK hP 1 0 rfl rfl (vi_in rfl (by omega) (by omega)) dX1_remove_15 ?_
    refine lv_topi (fun x15 ex15 => ?_)
    have ex15 : x15 = kt r2.toInt.toNat := by rw [ex15]; exact congrArg _ (cl_nat rfl (by omega))
    have tx15 : x15.toInt = (kt r2.toInt.toNat).toInt := by rw [ex15]
    have hrg_x15 := hrg r2.toInt.toNat (by omega)
    refine lv_iload_n hx hb dX1_remove_16 rfl (lv_at hl 2 rfl) ?_
    refine lv_icmp_eq (tgt := 23) hx hb dX1_remove_17 (by decide) (fun c17 => ?_) (fun c17 => ?_)
    · have k17 : (x15.toInt : Int) = p0.toInt := i_eq rfl rfl c17
      refine lv_iload_n hx hb dX1_remove_23 rfl (lv_at hl 0 rfl) ?_
      refine lv_istore_n (lv' := [(3, .int r2), (2, .int r2), (0, .ref qm), (1, .int p0)]) hx hb dX1_remove_24 rfl hl (by decide) rfl (fun ls hl => ?_)
      refine W_loop5 (fun (x3 : Int32) (yt : Nat → Int32) (ys : Nat → Int32) (yf : Nat → Int32) (yl : Nat → Int32) ls H locs => va_P G vwCl [(qm, .inr (1, [.ref qm1, .ref qm2, .ref qm3, .ref qm4, .ref qm5, .int zm])), (qm1, .inl (cI, 40, .inl yt)), (qm2, .inl (cI, 40, .inl ys)), (qm3, .inl (cI, 40, .inl yf)), (qm4, .inl (cI, 40, .inl yl)), (qm5, .inl (cL, 40, .inr (.inl ku)))] H ∧ va_D A [(qm, .inr (1, [.ref qm1, .ref qm2, .ref qm3, .ref qm4, .ref qm5, .int zm])), (qm1, .inl (cI, 40, .inl yt)), (qm2, .inl (cI, 40, .inl ys)), (qm3, .inl (cI, 40, .inl yf)), (qm4, .inl (cI, 40, .inl yl)), (qm5, .inl (cL, 40, .inr (.inl ku)))] ∧ va_S A s.heap H locs ∧ lv_has ls 4 [(0, .ref qm), (1, .int p0), (2, .int r2), (3, .int x3)] ∧ (r2.toInt ≤ x3.toInt ∧ x3.toInt < nm) ∧ (yt = shP kt r2.toInt.toNat x3.toInt.toNat) ∧ (ys = shP ks r2.toInt.toNat x3.toInt.toNat) ∧ (yf = shP kf r2.toInt.toNat x3.toInt.toNat) ∧ (yl = shP kl r2.toInt.toNat x3.toInt.toNat)) (fun (x3 : Int32) (yt : Nat → Int32) (ys : Nat → Int32) (yf : Nat → Int32) (yl : Nat → Int32) => (nm - x3.toInt).toNat) (fun x3 yt ys yf yl ls H locs hI ih => ?_) r2 kt ks kf kl ls _ _ ⟨hP, hD, hS, lv_sub hl [2, 3, 1, 0] rfl, (show r2.toInt ≤ r2.toInt ∧ r2.toInt < nm from by omega), (show kt = shP kt r2.toInt.toNat r2.toInt.toNat from by rw [shP_0]), (show ks = shP ks r2.toInt.toNat r2.toInt.toNat from by rw [shP_0]), (show kf = shP kf r2.toInt.toNat r2.toInt.toNat from by rw [shP_0]), (show kl = shP kl r2.toInt.toNat r2.toInt.toNat from by rw [shP_0])⟩
      obtain ⟨hP, hD, hS, hl, i1, jt, js, jf, jl⟩ := hI
      refine lv_iload_n hx hb dX1_remove_25 rfl (lv_at hl 3 rfl) ?_
      refine lv_aload_n hx hb dX1_remove_26 rfl (lv_at hl 0 rfl) ?_
      refine va_get (D := G) (ci := 1) (v := .int zm) (C := RX1) (T := TX1) (N := 6) hx hb hts hiX1 hown hK hP 0 rfl rfl 5 (by decide) hf28 (fun _ h9 => h9) rfl dX1_remove_27 ?_
      refine lv_iconst (v := 1) hx hb dX1_remove_30 (by decide) ?_
      refine lv_isub hx hb dX1_remove_31 ?_
      refine lv_topi (fun x31 ex31 => ?_)
      have tx31 : x31.toInt = zm.toInt - 1 := by rw [ex31]; exact ti_sub rfl (show ((1 : Int32)).toInt = 1 by decide) (by omega) (by omega)
      refine lv_icmp_ge (tgt := 49) hx hb dX1_remove_32 (by decide) (fun c32 => ?_) (fun c32 => ?_)
      · have k32 : (x31.toInt : Int) ≤ x3.toInt := i_le rfl rfl c32
        have ei : x3.toInt.toNat + 1 = nm := by omega
        rw [shP_n _ ei] at jt js jf jl
        have dl := del_ok (m := nm - 1) hOm hSr bg.1 (by omega)
        refine lv_aload_n hx hb dX1_remove_49 rfl (lv_at hl 0 rfl) ?_
        refine lv_dup hx hb dX1_remove_50 rfl ?_
        refine va_get (D := G) (ci := 1) (v := .int zm) (C := RX1) (T := TX1) (N := 6) hx hb hts hiX1 hown hK hP 0 rfl rfl 5 (by decide) hf28 (fun _ h9 => h9) rfl dX1_remove_51 ?_
        refine lv_iconst (v := 1) hx hb dX1_remove_54 (by decide) ?_
        refine lv_isub hx hb dX1_remove_55 ?_
        refine lv_topi (fun x55 ex55 => ?_)
        have tx55 : x55.toInt = zm.toInt - 1 := by rw [ex55]; exact ti_sub rfl (show ((1 : Int32)).toInt = 1 by decide) (by omega) (by omega)
        refine va_put (D := G) (ci := 1) (v := .int x55) (ty := .int) (C := RX1) (T := TX1) (N := 6) hx hb hts hiX1 tyX1 tyX1_ok nmX1 hown hK hP hD hS 0 rfl rfl 5 (by decide) hf28 (fun _ h9 => h9) rfl (by decide +kernel) rfl rfl (Nat.le_of_ble_eq_true rfl) dX1_remove_56 (fun H locs hP hD hS => ?_)
        have hP : va_P G vwCl [(qm, .inr (1, [.ref qm1, .ref qm2, .ref qm3, .ref qm4, .ref qm5, .int x55])), (qm1, .inl (cI, 40, .inl yt)), (qm2, .inl (cI, 40, .inl ys)), (qm3, .inl (cI, 40, .inl yf)), (qm4, .inl (cI, 40, .inl yl)), (qm5, .inl (cL, 40, .inr (.inl ku)))] H := hP
        have hD : va_D A [(qm, .inr (1, [.ref qm1, .ref qm2, .ref qm3, .ref qm4, .ref qm5, .int x55])), (qm1, .inl (cI, 40, .inl yt)), (qm2, .inl (cI, 40, .inl ys)), (qm3, .inl (cI, 40, .inl yf)), (qm4, .inl (cI, 40, .inl yl)), (qm5, .inl (cL, 40, .inr (.inl ku)))] := hD
        refine lv_aload_n hx hb dX1_remove_59 rfl (lv_at hl 0 rfl) ?_
        refine lv_iload_n hx hb dX1_remove_60 rfl (lv_at hl 2 rfl) ?_
        have hPc := hP.sub (ws' := [(qm, .inr (1, [.ref qm1, .ref qm2, .ref qm3, .ref qm4, .ref qm5, .int x55])), (qm1, .inl (cI, 40, .inl yt)), (qm2, .inl (cI, 40, .inl ys)), (qm3, .inl (cI, 40, .inl yf)), (qm4, .inl (cI, 40, .inl yl)), (qm5, .inl (cL, 40, .inr (.inl ku)))]) [0, 1, 2, 3, 4, 5] rfl
        have hDc := hD.sub (ws' := [(qm, .inr (1, [.ref qm1, .ref qm2, .ref qm3, .ref qm4, .ref qm5, .int x55])), (qm1, .inl (cI, 40, .inl yt)), (qm2, .inl (cI, 40, .inl ys)), (qm3, .inl (cI, 40, .inl yf)), (qm4, .inl (cI, 40, .inl yl)), (qm5, .inl (cL, 40, .inr (.inl ku)))]) [0, 1, 2, 3, 4, 5] (by decide) rfl
        have hcc := (ct_X1_renewUnitsBefore l G cI cL H.size qm qm1 qm2 qm3 qm4 qm5 x55 yt ys yf yl ku r2 (nm - 1) (by omega) (by rw [jt, js, jf, jl]; exact dl.1) (by rw [jt]; exact dl.2.1) (by omega) ((by rw [jt, js, jf, jl]; exact fun k hk h => okU_keep hU (by omega) dl.2.2 (by rw [shL_lt (by omega)]) (by have := srt_le hSr (show k ≤ r2.toInt.toNat by omega) bg.1; omega) (by have := hrg k (by omega); omega))))
        refine rw_callv (wr := ([] : va_W)) (va_runV (As := [.int r2]) (rest := []) ⟨hx, hb, hml, hown, hts⟩ hcc (cwV 1 hts gX1_remove_X1_renewUnitsBefore rfl rfl rfl (by decide +kernel) ⟨Nat.le_of_ble_eq_true rfl, Nat.le_of_ble_eq_true rfl⟩) ⟨pre_blind, va_recv hK hPc (ci := 1) (q0 := 0) rfl rfl, pre_pass hK hN hPc hDc⟩ rfl rfl hl.1 rfl (lv_room (Nat.le_of_ble_eq_true rfl)) dX1_remove_61 ⟨Nat.le_of_ble_eq_true rfl, Nat.le_of_ble_eq_true rfl⟩) hP hD hS hA [0, 1, 2, 3, 4, 5] [] rfl rfl (by decide) (by decide) (fun u61 H locs hw61 hP hD hS => ?_)
        obtain ⟨ku61, rfl⟩ : ∃ z, z = u61 := ⟨_, rfl⟩
        have hP : va_P G vwCl [(qm, .inr (1, [.ref qm1, .ref qm2, .ref qm3, .ref qm4, .ref qm5, .int x55])), (qm1, .inl (cI, 40, .inl yt)), (qm2, .inl (cI, 40, .inl ys)), (qm3, .inl (cI, 40, .inl yf)), (qm4, .inl (cI, 40, .inl yl)), (qm5, .inl (cL, 40, .inr (.inl ku61)))] H := hP.sub [0, 1, 2, 3, 4, 5] rfl
        have hD : va_D A [(qm, .inr (1, [.ref qm1, .ref qm2, .ref qm3, .ref qm4, .ref qm5, .int x55])), (qm1, .inl (cI, 40, .inl yt)), (qm2, .inl (cI, 40, .inl ys)), (qm3, .inl (cI, 40, .inl yf)), (qm4, .inl (cI, 40, .inl yl)), (qm5, .inl (cL, 40, .inr (.inl ku61)))] := hD.sub [0, 1, 2, 3, 4, 5] (by decide) rfl
        try dsimp only at hw61
        refine lv_aload_n hx hb dX1_remove_64 rfl (lv_at hl 0 rfl) ?_
        refine va_get (D := G) (ci := 1) (v := .int x55) (C := RX1) (T := TX1) (N := 6) hx hb hts hiX1 hown hK hP 0 rfl rfl 5 (by decide) hf28 (fun _ h9 => h9) rfl dX1_remove_65 ?_
        exact W.iret (v := x55) hx hb hr (fun t ht hW => ⟨⟨x55, (x55, yt, ys, yf, yl, ku61), rfl, (by (try dsimp only); exact (by have h8 := hw61; rw [jt, js, jf, jl] at h8 ⊢; exact ⟨nm - 1, by omega, Or.inl ⟨r2.toInt.toNat, bg.1, by omega, by omega, by omega, rfl, rfl, rfl, rfl⟩, dl.1, dl.2.1, h8⟩)), by rw [ht]; exact hP, hD⟩, hS.F ht⟩) hS.2.2 dX1_remove_68
      · have k32 : (x3.toInt : Int) < x31.toInt := i_nle rfl rfl c32
        refine lv_aload_n hx hb dX1_remove_35 rfl (lv_at hl 0 rfl) ?_
        refine lv_iload_n hx hb dX1_remove_36 rfl (lv_at hl 3 rfl) ?_
        refine lv_iconst (v := 1) hx hb dX1_remove_37 (by decide) ?_
        refine lv_iadd hx hb dX1_remove_38 ?_
        refine lv_topi (fun x38 ex38 => ?_)
        have tx38 : x38.toInt = x3.toInt + 1 := by rw [ex38]; exact ti_add rfl (show ((1 : Int32)).toInt = 1 by decide) (by omega) (by omega)
        refine lv_iload_n hx hb dX1_remove_39 rfl (lv_at hl 3 rfl) ?_
        have hPc := hP.sub (ws' := [(qm, .inr (1, [.ref qm1, .ref qm2, .ref qm3, .ref qm4, .ref qm5, .int zm])), (qm1, .inl (cI, 40, .inl yt)), (qm2, .inl (cI, 40, .inl ys)), (qm3, .inl (cI, 40, .inl yf)), (qm4, .inl (cI, 40, .inl yl)), (qm5, .inl (cL, 40, .inr (.inl ku)))]) [0, 1, 2, 3, 4, 5] rfl
        have hDc := hD.sub (ws' := [(qm, .inr (1, [.ref qm1, .ref qm2, .ref qm3, .ref qm4, .ref qm5, .int zm])), (qm1, .inl (cI, 40, .inl yt)), (qm2, .inl (cI, 40, .inl ys)), (qm3, .inl (cI, 40, .inl yf)), (qm4, .inl (cI, 40, .inl yl)), (qm5, .inl (cL, 40, .inr (.inl ku)))]) [0, 1, 2, 3, 4, 5] (by decide) rfl
        have hcc := (ct_X1_copyRow l G cI cL H.size qm qm1 qm2 qm3 qm4 qm5 zm yt ys yf yl ku x38 x3 (by omega) (by omega))
        refine rw_callv (wr := ([] : va_W)) (va_runV (As := [.int x38, .int x3]) (rest := []) ⟨hx, hb, hml, hown, hts⟩ hcc (cwV 2 hts gX1_remove_X1_copyRow rfl rfl rfl (by decide +kernel) ⟨Nat.le_of_ble_eq_true rfl, Nat.le_of_ble_eq_true rfl⟩) ⟨pre_blind, va_recv hK hPc (ci := 1) (q0 := 0) rfl rfl, pre_pass hK hN hPc hDc⟩ rfl rfl hl.1 rfl (lv_room (Nat.le_of_ble_eq_true rfl)) dX1_remove_40 ⟨Nat.le_of_ble_eq_true rfl, Nat.le_of_ble_eq_true rfl⟩) hP hD hS hA [0, 1, 2, 3, 4, 5] [] rfl rfl (by decide) (by decide) (fun u40 H locs hw40 hP hD hS => ?_)
        obtain ⟨kt40, ks40, kf40, kl40⟩ := u40
        have hP : va_P G vwCl [(qm, .inr (1, [.ref qm1, .ref qm2, .ref qm3, .ref qm4, .ref qm5, .int zm])), (qm1, .inl (cI, 40, .inl kt40)), (qm2, .inl (cI, 40, .inl ks40)), (qm3, .inl (cI, 40, .inl kf40)), (qm4, .inl (cI, 40, .inl kl40)), (qm5, .inl (cL, 40, .inr (.inl ku)))] H := hP.sub [0, 1, 2, 3, 4, 5] rfl
        have hD : va_D A [(qm, .inr (1, [.ref qm1, .ref qm2, .ref qm3, .ref qm4, .ref qm5, .int zm])), (qm1, .inl (cI, 40, .inl kt40)), (qm2, .inl (cI, 40, .inl ks40)), (qm3, .inl (cI, 40, .inl kf40)), (qm4, .inl (cI, 40, .inl kl40)), (qm5, .inl (cL, 40, .inr (.inl ku)))] := hD.sub [0, 1, 2, 3, 4, 5] (by decide) rfl
        try dsimp only at hw40
        obtain ⟨x43, ex43⟩ : ∃ y : Int32, y = x3 + 1 := ⟨_, rfl⟩
        have tx43 : x43.toInt = x3.toInt + 1 := by rw [ex43]; exact ti_add rfl (by decide) (by omega) (by omega)
        refine lv_iinc (v := x43) (lv' := [(3, .int x43), (0, .ref qm), (1, .int p0), (2, .int r2)]) hx hb dX1_remove_43 hl (k := 3) rfl (by rw [ex43]; rfl) (by decide) rfl (fun ls hl => ?_)
        refine lv_goto (tgt := 25) hx hb dX1_remove_46 (by decide) ?_
        exact ih x43 kt40 ks40 kf40 kl40 ls _ _ ⟨hP, hD, hS, lv_sub hl [1, 2, 3, 0] rfl, (show r2.toInt ≤ x43.toInt ∧ x43.toInt < nm from by omega), (show kt40 = shP kt r2.toInt.toNat x43.toInt.toNat from by rw [hw40.1, jt, show x38.toInt.toNat = x3.toInt.toNat + 1 by omega, shP_st _ (by omega), show x43.toInt.toNat = x3.toInt.toNat + 1 by omega]), (show ks40 = shP ks r2.toInt.toNat x43.toInt.toNat from by rw [hw40.2.1, js, show x38.toInt.toNat = x3.toInt.toNat + 1 by omega, shP_st _ (by omega), show x43.toInt.toNat = x3.toInt.toNat + 1 by omega]), (show kf40 = shP kf r2.toInt.toNat x43.toInt.toNat from by rw [hw40.2.2.1, jf, show x38.toInt.toNat = x3.toInt.toNat + 1 by omega, shP_st _ (by omega), show x43.toInt.toNat = x3.toInt.toNat + 1 by omega]), (show kl40 = shP kl r2.toInt.toNat x43.toInt.toNat from by rw [hw40.2.2.2, jl, show x38.toInt.toNat = x3.toInt.toNat + 1 by omega, shP_st _ (by omega), show x43.toInt.toNat = x3.toInt.toNat + 1 by omega])⟩ (show (nm - x43.toInt).toNat < (nm - x3.toInt).toNat from by omega)
    · have k17 : (x15.toInt : Int) ≠ p0.toInt := i_ne rfl rfl c17
      have bne : ∀ k : Nat, k < nm → (kt k).toInt ≠ p0.toInt := fun k hk e => by
        have h1 := bg.2.2.2 k hk (by omega)
        have h2 := hOm.2.2.1 k r2.toInt.toNat hk bg.1 (by omega)
        rw [h2] at e; omega
      refine lv_bipush (v := (-3)) hx hb dX1_remove_20 (by decide) ?_
      exact W.iret (v := (-3)) hx hb hr (fun t ht hW => ⟨⟨(-3), (zm, kt, ks, kf, kl, ku), rfl, (by (try dsimp only); exact ⟨nm, hnm, Or.inr ⟨bne, by omega, rfl, rfl, rfl, rfl, rfl⟩, hOm, hSr, hU⟩), by rw [ht]; exact hP, hD⟩, hS.F ht⟩) hS.2.2 dX1_remove_22
end
