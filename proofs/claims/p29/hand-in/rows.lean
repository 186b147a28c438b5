section
-- ===== PART A: goes FIRST, ahead of the names: the tables' words, and 'selects' of the private methods out of them =====
/-- a private method of a class that the tables say can be made, by its rows of tables_1 -/
def lw_okq (q : MethodName × Nat) : Prop := (q.1.cls ≠ "java/lang/invoke/MethodHandle" ∧ q.1.cls ≠ "java/lang/invoke/VarHandle") ∧ Cond.instantiable q.1.cls q.2 ∈ tables_1 ∧ Cond.privateMethod q.1 ∈ tables_1 ∧ Cond.instanceMethod q.1 ∈ tables_1
theorem lw_p0 : lw_okq (⟨"ArmatureWinding", "layArmature", "(III)V"⟩, 11) := ⟨⟨by decide +kernel, by decide +kernel⟩, List.mem_of_getElem? (i := 3) (by decide +kernel), List.mem_of_getElem? (i := 11) (by decide +kernel), List.mem_of_getElem? (i := 12) (by decide +kernel)⟩
theorem lw_p1 : lw_okq (⟨"ArmatureWinding", "placeBrushes", "()V"⟩, 11) := ⟨⟨by decide +kernel, by decide +kernel⟩, List.mem_of_getElem? (i := 3) (by decide +kernel), List.mem_of_getElem? (i := 15) (by decide +kernel), List.mem_of_getElem? (i := 16) (by decide +kernel)⟩
theorem lw_p2 : lw_okq (⟨"ArmatureWinding", "layWinding", "(IIZI)V"⟩, 11) := ⟨⟨by decide +kernel, by decide +kernel⟩, List.mem_of_getElem? (i := 3) (by decide +kernel), List.mem_of_getElem? (i := 23) (by decide +kernel), List.mem_of_getElem? (i := 24) (by decide +kernel)⟩
theorem lw_p3 : lw_okq (⟨"ArmatureWinding", "isWavePossible", "(I)Z"⟩, 11) := ⟨⟨by decide +kernel, by decide +kernel⟩, List.mem_of_getElem? (i := 3) (by decide +kernel), List.mem_of_getElem? (i := 84) (by decide +kernel), List.mem_of_getElem? (i := 85) (by decide +kernel)⟩
theorem lw_p4 : lw_okq (⟨"ArmatureWinding", "wavePitch", "(I)I"⟩, 11) := ⟨⟨by decide +kernel, by decide +kernel⟩, List.mem_of_getElem? (i := 3) (by decide +kernel), List.mem_of_getElem? (i := 88) (by decide +kernel), List.mem_of_getElem? (i := 89) (by decide +kernel)⟩
theorem lw_p5 : lw_okq (⟨"ArmatureWinding", "openMark", "(I)I"⟩, 11) := ⟨⟨by decide +kernel, by decide +kernel⟩, List.mem_of_getElem? (i := 3) (by decide +kernel), List.mem_of_getElem? (i := 103) (by decide +kernel), List.mem_of_getElem? (i := 104) (by decide +kernel)⟩
theorem lw_p6 : lw_okq (⟨"ArmatureWinding", "isOpen", "(I)Z"⟩, 11) := ⟨⟨by decide +kernel, by decide +kernel⟩, List.mem_of_getElem? (i := 3) (by decide +kernel), List.mem_of_getElem? (i := 107) (by decide +kernel), List.mem_of_getElem? (i := 108) (by decide +kernel)⟩
theorem lw_p7 : lw_okq (⟨"ArmatureWinding", "circuitLength", "()I"⟩, 11) := ⟨⟨by decide +kernel, by decide +kernel⟩, List.mem_of_getElem? (i := 3) (by decide +kernel), List.mem_of_getElem? (i := 131) (by decide +kernel), List.mem_of_getElem? (i := 132) (by decide +kernel)⟩
theorem lw_p8 : lw_okq (⟨"ArmatureWinding", "isClosed", "(I)Z"⟩, 11) := ⟨⟨by decide +kernel, by decide +kernel⟩, List.mem_of_getElem? (i := 3) (by decide +kernel), List.mem_of_getElem? (i := 151) (by decide +kernel), List.mem_of_getElem? (i := 152) (by decide +kernel)⟩
theorem lw_p9 : lw_okq (⟨"ArmatureWinding", "sideVoltage", "(II)I"⟩, 11) := ⟨⟨by decide +kernel, by decide +kernel⟩, List.mem_of_getElem? (i := 3) (by decide +kernel), List.mem_of_getElem? (i := 198) (by decide +kernel), List.mem_of_getElem? (i := 199) (by decide +kernel)⟩
def lw_privs_1 : List (MethodName × Nat) := [(⟨"ArmatureWinding", "layArmature", "(III)V"⟩, 11), (⟨"ArmatureWinding", "placeBrushes", "()V"⟩, 11), (⟨"ArmatureWinding", "layWinding", "(IIZI)V"⟩, 11), (⟨"ArmatureWinding", "isWavePossible", "(I)Z"⟩, 11), (⟨"ArmatureWinding", "wavePitch", "(I)I"⟩, 11), (⟨"ArmatureWinding", "openMark", "(I)I"⟩, 11), (⟨"ArmatureWinding", "isOpen", "(I)Z"⟩, 11), (⟨"ArmatureWinding", "circuitLength", "()I"⟩, 11), (⟨"ArmatureWinding", "isClosed", "(I)Z"⟩, 11), (⟨"ArmatureWinding", "sideVoltage", "(II)I"⟩, 11)]
theorem lw_r1 : ∀ q ∈ lw_privs_1, lw_okq q := List.forall_mem_cons.mpr ⟨lw_p0, List.forall_mem_cons.mpr ⟨lw_p1, List.forall_mem_cons.mpr ⟨lw_p2, List.forall_mem_cons.mpr ⟨lw_p3, List.forall_mem_cons.mpr ⟨lw_p4, List.forall_mem_cons.mpr ⟨lw_p5, List.forall_mem_cons.mpr ⟨lw_p6, List.forall_mem_cons.mpr ⟨lw_p7, List.forall_mem_cons.mpr ⟨lw_p8, List.forall_mem_cons.mpr ⟨lw_p9, fun _ h => absurd h List.not_mem_nil⟩⟩⟩⟩⟩⟩⟩⟩⟩⟩
def lw_privs : List (MethodName × Nat) := lw_privs_1
def lw_tbl : List Cond := k2_sels lw_privs ++ tables_1
theorem lw_privs_ok : ∀ q ∈ lw_privs, lw_okq q := lw_r1
/-! ===== BEGIN words of one list among another's, by their places ===== -/
theorem goodIn_r {big : List Cond} (ws : List Cond) (ps : List Nat) (hp : ws = ps.filterMap (fun i => big[i]?)) (h : ws.all goodWord = true) : GoodIn big ws := by
  intro w hw
  have h1 := List.all_eq_true.mp h w hw
  rw [hp] at hw
  obtain ⟨i, -, hi⟩ := List.mem_filterMap.mp hw
  have hm : w ∈ big := by first | exact List.mem_of_getElem? hi | exact List.getElem?_mem hi
  exact ⟨hm, good_of_word h1⟩
theorem goodIn_app {big a b : List Cond} (ha : GoodIn big a) (hb : GoodIn big b) : GoodIn big (a ++ b) := fun w h => (List.mem_append.mp h).elim (ha w) (hb w)
theorem goodIn_ca {big a b : List Cond} {c : Cond} (ha : GoodIn big (c :: a)) (hb : GoodIn big b) : GoodIn big (c :: (a ++ b)) := fun w h => (List.mem_cons.mp h).elim (fun e => ha w (List.mem_cons.mpr (Or.inl e))) (fun h => (List.mem_append.mp h).elim (fun h => ha w (List.mem_cons.mpr (Or.inr h))) (hb w))
theorem goodIn_sub {big ws : List Cond} (hm : ∀ w ∈ ws, w ∈ big) (h : ws.all goodWord = true) : GoodIn big ws := fun w hw => ⟨hm w hw, good_of_word (List.all_eq_true.mp h w hw)⟩
/-! ===== END ===== -/

/-! ===== BEGIN printed: names, fields, word lists, decode rows ===== -/
def RX0 : String := "ArmatureWinding"
def TX0 : u_T := fun k => match k with
  | 0 => ("ArmatureWinding", "poles", "I", false)
  | 1 => ("ArmatureWinding", "slots", "I", false)
  | 2 => ("ArmatureWinding", "coilsPerSlot", "I", false)
  | 3 => ("ArmatureWinding", "coils", "I", false)
  | 4 => ("ArmatureWinding", "type", "I", false)
  | 5 => ("ArmatureWinding", "plex", "I", false)
  | 6 => ("ArmatureWinding", "progressive", "Z", false)
  | 7 => ("ArmatureWinding", "pitch", "I", false)
  | 8 => ("ArmatureWinding", "chording", "I", false)
  | 9 => ("ArmatureWinding", "open", "[Z", true)
  | _ => ("ArmatureWinding", "brushOnBar", "[I", true)
def tyX0 : Nat → FieldType := fun k => match k with
  | 0 => .int
  | 1 => .int
  | 2 => .int
  | 3 => .int
  | 4 => .int
  | 5 => .int
  | 6 => .boolean
  | 7 => .int
  | 8 => .int
  | 9 => .array .boolean
  | _ => .array .int
abbrev wsX00 : List Cond := u_ws RX0 TX0 11
theorem nmX0 : ∀ a, a < 11 → ∀ b, b < 11 → a ≠ b → (TX0 a).2.1 ≠ (TX0 b).2.1 := by decide +kernel
theorem tyX0_ok : ∀ k, k < 11 → parseFieldDescriptor (TX0 k).2.2.1 = some (tyX0 k) := by decide +kernel
abbrev cX0_init : ByteArray := prog_1_method_1_code
def yX0_init : MethodName := ⟨RX0, "<init>", "()V"⟩
abbrev cX0_setArmature : ByteArray := prog_1_method_2_code
def yX0_setArmature : MethodName := ⟨RX0, "setArmature", "(III)I"⟩
abbrev cX0_setWinding : ByteArray := prog_1_method_3_code
def yX0_setWinding : MethodName := ⟨RX0, "setWinding", "(IIZ)I"⟩
abbrev cX0_setChording : ByteArray := prog_1_method_4_code
def yX0_setChording : MethodName := ⟨RX0, "setChording", "(I)I"⟩
abbrev cX0_setOpen : ByteArray := prog_1_method_5_code
def yX0_setOpen : MethodName := ⟨RX0, "setOpen", "(IZ)I"⟩
abbrev cX0_layArmature : ByteArray := prog_1_method_6_code
def yX0_layArmature : MethodName := ⟨RX0, "layArmature", "(III)V"⟩
abbrev cX0_layWinding : ByteArray := prog_1_method_7_code
def yX0_layWinding : MethodName := ⟨RX0, "layWinding", "(IIZI)V"⟩
abbrev cX0_placeBrushes : ByteArray := prog_1_method_8_code
def yX0_placeBrushes : MethodName := ⟨RX0, "placeBrushes", "()V"⟩
abbrev cX0_wavePitch : ByteArray := prog_1_method_9_code
def yX0_wavePitch : MethodName := ⟨RX0, "wavePitch", "(I)I"⟩
abbrev cX0_isWavePossible : ByteArray := prog_1_method_10_code
def yX0_isWavePossible : MethodName := ⟨RX0, "isWavePossible", "(I)Z"⟩
abbrev cX0_coilCount : ByteArray := prog_1_method_11_code
def yX0_coilCount : MethodName := ⟨RX0, "coilCount", "()I"⟩
abbrev cX0_slotPitch : ByteArray := prog_1_method_12_code
def yX0_slotPitch : MethodName := ⟨RX0, "slotPitch", "()I"⟩
abbrev cX0_endBar : ByteArray := prog_1_method_13_code
def yX0_endBar : MethodName := ⟨RX0, "endBar", "(I)I"⟩
abbrev cX0_coilEndingAt : ByteArray := prog_1_method_14_code
def yX0_coilEndingAt : MethodName := ⟨RX0, "coilEndingAt", "(I)I"⟩
abbrev cX0_upperSlot : ByteArray := prog_1_method_15_code
def yX0_upperSlot : MethodName := ⟨RX0, "upperSlot", "(I)I"⟩
abbrev cX0_lowerSlot : ByteArray := prog_1_method_16_code
def yX0_lowerSlot : MethodName := ⟨RX0, "lowerSlot", "(I)I"⟩
abbrev cX0_openCoilsIn : ByteArray := prog_1_method_17_code
def yX0_openCoilsIn : MethodName := ⟨RX0, "openCoilsIn", "(I)I"⟩
abbrev cX0_isOpen : ByteArray := prog_1_method_18_code
def yX0_isOpen : MethodName := ⟨RX0, "isOpen", "(I)Z"⟩
abbrev cX0_openMark : ByteArray := prog_1_method_19_code
def yX0_openMark : MethodName := ⟨RX0, "openMark", "(I)I"⟩
abbrev cX0_circuitCount : ByteArray := prog_1_method_20_code
def yX0_circuitCount : MethodName := ⟨RX0, "circuitCount", "()I"⟩
abbrev cX0_circuitOf : ByteArray := prog_1_method_21_code
def yX0_circuitOf : MethodName := ⟨RX0, "circuitOf", "(I)I"⟩
abbrev cX0_coilAt : ByteArray := prog_1_method_22_code
def yX0_coilAt : MethodName := ⟨RX0, "coilAt", "(II)I"⟩
abbrev cX0_closedCircuits : ByteArray := prog_1_method_23_code
def yX0_closedCircuits : MethodName := ⟨RX0, "closedCircuits", "()I"⟩
abbrev cX0_circuitLength : ByteArray := prog_1_method_24_code
def yX0_circuitLength : MethodName := ⟨RX0, "circuitLength", "()I"⟩
abbrev cX0_isClosed : ByteArray := prog_1_method_25_code
def yX0_isClosed : MethodName := ⟨RX0, "isClosed", "(I)Z"⟩
abbrev cX0_brushBar : ByteArray := prog_1_method_26_code
def yX0_brushBar : MethodName := ⟨RX0, "brushBar", "(I)I"⟩
abbrev cX0_coilVoltage : ByteArray := prog_1_method_30_code
def yX0_coilVoltage : MethodName := ⟨RX0, "coilVoltage", "(II)I"⟩
abbrev cX0_sideVoltage : ByteArray := prog_1_method_36_code
def yX0_sideVoltage : MethodName := ⟨RX0, "sideVoltage", "(II)I"⟩
abbrev cX0_wrap : ByteArray := prog_1_method_44_code
def yX0_wrap : MethodName := ⟨RX0, "wrap", "(II)I"⟩
def RX1 : String := "ArmatureWindingModel"
def TX1 : u_T := fun k => match k with
  | _ => ("", "", "", false)
def tyX1 : Nat → FieldType := fun k => match k with
  | _ => .int
abbrev wsX10 : List Cond := u_ws RX1 TX1 0
theorem nmX1 : ∀ a, a < 0 → ∀ b, b < 0 → a ≠ b → (TX1 a).2.1 ≠ (TX1 b).2.1 := by decide +kernel
theorem tyX1_ok : ∀ k, k < 0 → parseFieldDescriptor (TX1 k).2.2.1 = some (tyX1 k) := by decide +kernel
def RL : String := "ArmatureWindingLaw"
abbrev cL_cell : ByteArray := method_2_code
def yL_cell : MethodName := ⟨RL, "cell", "([II)I"⟩
abbrev cL_isOpen : ByteArray := method_3_code
def yL_isOpen : MethodName := ⟨RL, "isOpen", "([II)Z"⟩
abbrev cL_mod : ByteArray := method_4_code
def yL_mod : MethodName := ⟨RL, "mod", "(II)I"⟩
abbrev cL_slotPitch : ByteArray := method_5_code
def yL_slotPitch : MethodName := ⟨RL, "slotPitch", "([I)I"⟩
abbrev cL_lower : ByteArray := method_6_code
def yL_lower : MethodName := ⟨RL, "lower", "([II)I"⟩
abbrev cL_side : ByteArray := method_7_code
def yL_side : MethodName := ⟨RL, "side", "([III)I"⟩
abbrev cL_voltage : ByteArray := method_8_code
def yL_voltage : MethodName := ⟨RL, "voltage", "([III)I"⟩
abbrev cL_armature : ByteArray := method_11_code
def yL_armature : MethodName := ⟨RL, "armature", "(LArmatureWinding;I[I[I)Z"⟩
abbrev cL_winding : ByteArray := method_12_code
def yL_winding : MethodName := ⟨RL, "winding", "(LArmatureWinding;I[I)Z"⟩
abbrev cL_changes : ByteArray := method_13_code
def yL_changes : MethodName := ⟨RL, "changes", "(LArmatureWinding;II[I[I)Z"⟩
abbrev cL_begin : ByteArray := method_14_code
def yL_begin : MethodName := ⟨RL, "begin", "([I)V"⟩
abbrev cL_gcd : ByteArray := method_15_code
def yL_gcd : MethodName := ⟨RL, "gcd", "(II)I"⟩
abbrev cL_circuits : ByteArray := method_16_code
def yL_circuits : MethodName := ⟨RL, "circuits", "(LArmatureWinding;[I[I)Z"⟩
abbrev cL_coils : ByteArray := method_17_code
def yL_coils : MethodName := ⟨RL, "coils", "(LArmatureWinding;[I[I)Z"⟩
abbrev cL_sums : ByteArray := method_18_code
def yL_sums : MethodName := ⟨RL, "sums", "(LArmatureWinding;I[I)Z"⟩
abbrev cL_law : ByteArray := code
def yL_law : MethodName := ⟨RL, "law", "([I)Z"⟩
def wsX0_brushBar : List Cond := .code yX0_brushBar cX0_brushBar 2 (some .int) :: ([.fieldLink RX0 46 "ArmatureWinding" "poles" "I", .fieldLink RX0 21 "ArmatureWinding" "coils" "I"] ++ wsX00)
def wsX0_placeBrushes : List Cond := .code yX0_placeBrushes cX0_placeBrushes 3 none :: ([.fieldLink RX0 13 "ArmatureWinding" "brushOnBar" "[I", .fieldLink RX0 46 "ArmatureWinding" "poles" "I", .methodLink RX0 68 yX0_brushBar, .instanceMethod yX0_brushBar, .selects RX0 yX0_brushBar yX0_brushBar, .initialized RX0, .code yX0_brushBar cX0_brushBar 2 (some .int), .fieldLink RX0 21 "ArmatureWinding" "coils" "I"] ++ wsX00)
def wsX0_layWinding : List Cond := .code yX0_layWinding cX0_layWinding 5 none :: ([.fieldLink RX0 58 "ArmatureWinding" "type" "I", .fieldLink RX0 61 "ArmatureWinding" "plex" "I", .fieldLink RX0 64 "ArmatureWinding" "progressive" "Z", .fieldLink RX0 37 "ArmatureWinding" "pitch" "I"] ++ wsX00)
def wsX0_layArmature : List Cond := .code yX0_layArmature cX0_layArmature 5 none :: ([.fieldLink RX0 46 "ArmatureWinding" "poles" "I", .fieldLink RX0 49 "ArmatureWinding" "slots" "I", .fieldLink RX0 52 "ArmatureWinding" "coilsPerSlot" "I", .fieldLink RX0 21 "ArmatureWinding" "coils" "I", .fieldLink RX0 40 "ArmatureWinding" "chording" "I", .fieldLink RX0 9 "ArmatureWinding" "open" "[Z", .methodLink RX0 55 yX0_placeBrushes, .instanceMethod yX0_placeBrushes, .selects RX0 yX0_placeBrushes yX0_placeBrushes, .initialized RX0, .code yX0_placeBrushes cX0_placeBrushes 3 none, .fieldLink RX0 13 "ArmatureWinding" "brushOnBar" "[I", .methodLink RX0 68 yX0_brushBar, .instanceMethod yX0_brushBar, .selects RX0 yX0_brushBar yX0_brushBar, .code yX0_brushBar cX0_brushBar 2 (some .int), .methodLink RX0 33 yX0_layWinding, .instanceMethod yX0_layWinding, .selects RX0 yX0_layWinding yX0_layWinding, .code yX0_layWinding cX0_layWinding 5 none, .fieldLink RX0 58 "ArmatureWinding" "type" "I", .fieldLink RX0 61 "ArmatureWinding" "plex" "I", .fieldLink RX0 64 "ArmatureWinding" "progressive" "Z", .fieldLink RX0 37 "ArmatureWinding" "pitch" "I"] ++ wsX00)
def wsX0_init_r1 : List Cond := [Cond.methodLink RX0 3 objectInit, Cond.instanceMethod objectInit, Cond.code objectInit ⟨#[0xb1]⟩ 1 none, Cond.arrayClass .boolean, Cond.fieldLink RX0 9 "ArmatureWinding" "open" "[Z", Cond.arrayClass .int, Cond.fieldLink RX0 13 "ArmatureWinding" "brushOnBar" "[I", Cond.methodLink RX0 17 yX0_layArmature, Cond.instanceMethod yX0_layArmature, Cond.selects RX0 yX0_layArmature yX0_layArmature, Cond.initialized RX0, Cond.code yX0_layArmature cX0_layArmature 5 none, Cond.fieldLink RX0 46 "ArmatureWinding" "poles" "I", Cond.fieldLink RX0 49 "ArmatureWinding" "slots" "I", Cond.fieldLink RX0 52 "ArmatureWinding" "coilsPerSlot" "I", Cond.fieldLink RX0 21 "ArmatureWinding" "coils" "I", Cond.fieldLink RX0 40 "ArmatureWinding" "chording" "I", Cond.methodLink RX0 55 yX0_placeBrushes, Cond.instanceMethod yX0_placeBrushes, Cond.selects RX0 yX0_placeBrushes yX0_placeBrushes, Cond.code yX0_placeBrushes cX0_placeBrushes 3 none, Cond.methodLink RX0 68 yX0_brushBar, Cond.instanceMethod yX0_brushBar, Cond.selects RX0 yX0_brushBar yX0_brushBar]
def wsX0_init_r2 : List Cond := [Cond.code yX0_brushBar cX0_brushBar 2 (some .int), Cond.methodLink RX0 33 yX0_layWinding, Cond.instanceMethod yX0_layWinding, Cond.selects RX0 yX0_layWinding yX0_layWinding, Cond.code yX0_layWinding cX0_layWinding 5 none, Cond.fieldLink RX0 58 "ArmatureWinding" "type" "I", Cond.fieldLink RX0 61 "ArmatureWinding" "plex" "I", Cond.fieldLink RX0 64 "ArmatureWinding" "progressive" "Z", Cond.fieldLink RX0 37 "ArmatureWinding" "pitch" "I"]
def wsX0_init : List Cond := .code yX0_init cX0_init 1 none :: ((wsX0_init_r1 ++ wsX0_init_r2) ++ wsX00)
def wsX0_setArmature_r1 : List Cond := [Cond.fieldLink RX0 21 "ArmatureWinding" "coils" "I", Cond.methodLink RX0 17 yX0_layArmature, Cond.instanceMethod yX0_layArmature, Cond.selects RX0 yX0_layArmature yX0_layArmature, Cond.initialized RX0, Cond.code yX0_layArmature cX0_layArmature 5 none, Cond.fieldLink RX0 46 "ArmatureWinding" "poles" "I", Cond.fieldLink RX0 49 "ArmatureWinding" "slots" "I", Cond.fieldLink RX0 52 "ArmatureWinding" "coilsPerSlot" "I", Cond.fieldLink RX0 40 "ArmatureWinding" "chording" "I", Cond.fieldLink RX0 9 "ArmatureWinding" "open" "[Z", Cond.methodLink RX0 55 yX0_placeBrushes, Cond.instanceMethod yX0_placeBrushes, Cond.selects RX0 yX0_placeBrushes yX0_placeBrushes, Cond.code yX0_placeBrushes cX0_placeBrushes 3 none, Cond.fieldLink RX0 13 "ArmatureWinding" "brushOnBar" "[I", Cond.methodLink RX0 68 yX0_brushBar, Cond.instanceMethod yX0_brushBar, Cond.selects RX0 yX0_brushBar yX0_brushBar, Cond.code yX0_brushBar cX0_brushBar 2 (some .int), Cond.methodLink RX0 33 yX0_layWinding, Cond.instanceMethod yX0_layWinding, Cond.selects RX0 yX0_layWinding yX0_layWinding, Cond.code yX0_layWinding cX0_layWinding 5 none]
def wsX0_setArmature_r2 : List Cond := [Cond.fieldLink RX0 58 "ArmatureWinding" "type" "I", Cond.fieldLink RX0 61 "ArmatureWinding" "plex" "I", Cond.fieldLink RX0 64 "ArmatureWinding" "progressive" "Z", Cond.fieldLink RX0 37 "ArmatureWinding" "pitch" "I"]
def wsX0_setArmature : List Cond := .code yX0_setArmature cX0_setArmature 4 (some .int) :: ((wsX0_setArmature_r1 ++ wsX0_setArmature_r2) ++ wsX00)
def wsX0_wavePitch : List Cond := .code yX0_wavePitch cX0_wavePitch 3 (some .int) :: ([.fieldLink RX0 46 "ArmatureWinding" "poles" "I", .fieldLink RX0 21 "ArmatureWinding" "coils" "I"] ++ wsX00)
def wsX0_isWavePossible : List Cond := .code yX0_isWavePossible cX0_isWavePossible 2 (some .boolean) :: ([.fieldLink RX0 46 "ArmatureWinding" "poles" "I", .fieldLink RX0 21 "ArmatureWinding" "coils" "I", .methodLink RX0 29 yX0_wavePitch, .instanceMethod yX0_wavePitch, .selects RX0 yX0_wavePitch yX0_wavePitch, .initialized RX0, .code yX0_wavePitch cX0_wavePitch 3 (some .int)] ++ wsX00)
def wsX0_setWinding : List Cond := .code yX0_setWinding cX0_setWinding 5 (some .int) :: ([.fieldLink RX0 37 "ArmatureWinding" "pitch" "I", .methodLink RX0 25 yX0_isWavePossible, .instanceMethod yX0_isWavePossible, .selects RX0 yX0_isWavePossible yX0_isWavePossible, .initialized RX0, .code yX0_isWavePossible cX0_isWavePossible 2 (some .boolean), .fieldLink RX0 46 "ArmatureWinding" "poles" "I", .fieldLink RX0 21 "ArmatureWinding" "coils" "I", .methodLink RX0 29 yX0_wavePitch, .instanceMethod yX0_wavePitch, .selects RX0 yX0_wavePitch yX0_wavePitch, .code yX0_wavePitch cX0_wavePitch 3 (some .int), .methodLink RX0 33 yX0_layWinding, .instanceMethod yX0_layWinding, .selects RX0 yX0_layWinding yX0_layWinding, .code yX0_layWinding cX0_layWinding 5 none, .fieldLink RX0 58 "ArmatureWinding" "type" "I", .fieldLink RX0 61 "ArmatureWinding" "plex" "I", .fieldLink RX0 64 "ArmatureWinding" "progressive" "Z"] ++ wsX00)
def wsX0_setChording : List Cond := .code yX0_setChording cX0_setChording 3 (some .int) :: ([.fieldLink RX0 40 "ArmatureWinding" "chording" "I"] ++ wsX00)
def wsX0_isOpen : List Cond := .code yX0_isOpen cX0_isOpen 2 (some .boolean) :: ([.fieldLink RX0 9 "ArmatureWinding" "open" "[Z"] ++ wsX00)
def wsX0_openMark : List Cond := .code yX0_openMark cX0_openMark 2 (some .int) :: ([.methodLink RX0 82 yX0_isOpen, .instanceMethod yX0_isOpen, .selects RX0 yX0_isOpen yX0_isOpen, .initialized RX0, .code yX0_isOpen cX0_isOpen 2 (some .boolean), .fieldLink RX0 9 "ArmatureWinding" "open" "[Z"] ++ wsX00)
def wsX0_setOpen : List Cond := .code yX0_setOpen cX0_setOpen 4 (some .int) :: ([.fieldLink RX0 21 "ArmatureWinding" "coils" "I", .fieldLink RX0 9 "ArmatureWinding" "open" "[Z", .methodLink RX0 43 yX0_openMark, .instanceMethod yX0_openMark, .selects RX0 yX0_openMark yX0_openMark, .initialized RX0, .code yX0_openMark cX0_openMark 2 (some .int), .methodLink RX0 82 yX0_isOpen, .instanceMethod yX0_isOpen, .selects RX0 yX0_isOpen yX0_isOpen, .code yX0_isOpen cX0_isOpen 2 (some .boolean)] ++ wsX00)
def wsX0_coilCount : List Cond := .code yX0_coilCount cX0_coilCount 1 (some .int) :: ([.fieldLink RX0 21 "ArmatureWinding" "coils" "I"] ++ wsX00)
def wsX0_slotPitch : List Cond := .code yX0_slotPitch cX0_slotPitch 3 (some .int) :: ([.fieldLink RX0 46 "ArmatureWinding" "poles" "I", .fieldLink RX0 49 "ArmatureWinding" "slots" "I", .fieldLink RX0 40 "ArmatureWinding" "chording" "I"] ++ wsX00)
def wsX0_wrap : List Cond := .code yX0_wrap cX0_wrap 3 (some .int) :: ([])
def wsX0_endBar : List Cond := .code yX0_endBar cX0_endBar 2 (some .int) :: ([.fieldLink RX0 21 "ArmatureWinding" "coils" "I", .fieldLink RX0 37 "ArmatureWinding" "pitch" "I", .methodLink RX0 71 yX0_wrap, .static yX0_wrap, .initialized RX0, .code yX0_wrap cX0_wrap 3 (some .int)] ++ wsX00)
def wsX0_coilEndingAt : List Cond := .code yX0_coilEndingAt cX0_coilEndingAt 2 (some .int) :: ([.fieldLink RX0 21 "ArmatureWinding" "coils" "I", .fieldLink RX0 37 "ArmatureWinding" "pitch" "I", .methodLink RX0 71 yX0_wrap, .static yX0_wrap, .initialized RX0, .code yX0_wrap cX0_wrap 3 (some .int)] ++ wsX00)
def wsX0_upperSlot : List Cond := .code yX0_upperSlot cX0_upperSlot 2 (some .int) :: ([.fieldLink RX0 21 "ArmatureWinding" "coils" "I", .fieldLink RX0 52 "ArmatureWinding" "coilsPerSlot" "I"] ++ wsX00)
def wsX0_lowerSlot : List Cond := .code yX0_lowerSlot cX0_lowerSlot 2 (some .int) :: ([.fieldLink RX0 21 "ArmatureWinding" "coils" "I", .fieldLink RX0 49 "ArmatureWinding" "slots" "I", .methodLink RX0 75 yX0_upperSlot, .instanceMethod yX0_upperSlot, .selects RX0 yX0_upperSlot yX0_upperSlot, .initialized RX0, .code yX0_upperSlot cX0_upperSlot 2 (some .int), .fieldLink RX0 52 "ArmatureWinding" "coilsPerSlot" "I", .methodLink RX0 78 yX0_slotPitch, .instanceMethod yX0_slotPitch, .selects RX0 yX0_slotPitch yX0_slotPitch, .code yX0_slotPitch cX0_slotPitch 3 (some .int), .fieldLink RX0 46 "ArmatureWinding" "poles" "I", .fieldLink RX0 40 "ArmatureWinding" "chording" "I", .methodLink RX0 71 yX0_wrap, .static yX0_wrap, .code yX0_wrap cX0_wrap 3 (some .int)] ++ wsX00)
def wsX0_openCoilsIn_r1 : List Cond := [Cond.fieldLink RX0 49 "ArmatureWinding" "slots" "I", Cond.fieldLink RX0 21 "ArmatureWinding" "coils" "I", Cond.methodLink RX0 82 yX0_isOpen, Cond.instanceMethod yX0_isOpen, Cond.selects RX0 yX0_isOpen yX0_isOpen, Cond.initialized RX0, Cond.code yX0_isOpen cX0_isOpen 2 (some .boolean), Cond.fieldLink RX0 9 "ArmatureWinding" "open" "[Z", Cond.methodLink RX0 75 yX0_upperSlot, Cond.instanceMethod yX0_upperSlot, Cond.selects RX0 yX0_upperSlot yX0_upperSlot, Cond.code yX0_upperSlot cX0_upperSlot 2 (some .int), Cond.fieldLink RX0 52 "ArmatureWinding" "coilsPerSlot" "I", Cond.methodLink RX0 85 yX0_lowerSlot, Cond.instanceMethod yX0_lowerSlot, Cond.selects RX0 yX0_lowerSlot yX0_lowerSlot, Cond.code yX0_lowerSlot cX0_lowerSlot 2 (some .int), Cond.methodLink RX0 78 yX0_slotPitch, Cond.instanceMethod yX0_slotPitch, Cond.selects RX0 yX0_slotPitch yX0_slotPitch, Cond.code yX0_slotPitch cX0_slotPitch 3 (some .int), Cond.fieldLink RX0 46 "ArmatureWinding" "poles" "I", Cond.fieldLink RX0 40 "ArmatureWinding" "chording" "I", Cond.methodLink RX0 71 yX0_wrap]
def wsX0_openCoilsIn_r2 : List Cond := [Cond.static yX0_wrap, Cond.code yX0_wrap cX0_wrap 3 (some .int)]
def wsX0_openCoilsIn : List Cond := .code yX0_openCoilsIn cX0_openCoilsIn 4 (some .int) :: ((wsX0_openCoilsIn_r1 ++ wsX0_openCoilsIn_r2) ++ wsX00)
def wsX0_circuitLength : List Cond := .code yX0_circuitLength cX0_circuitLength 2 (some .int) :: ([.fieldLink RX0 21 "ArmatureWinding" "coils" "I", .fieldLink RX0 37 "ArmatureWinding" "pitch" "I", .methodLink RX0 71 yX0_wrap, .static yX0_wrap, .initialized RX0, .code yX0_wrap cX0_wrap 3 (some .int)] ++ wsX00)
def wsX0_circuitCount : List Cond := .code yX0_circuitCount cX0_circuitCount 2 (some .int) :: ([.fieldLink RX0 21 "ArmatureWinding" "coils" "I", .methodLink RX0 88 yX0_circuitLength, .instanceMethod yX0_circuitLength, .selects RX0 yX0_circuitLength yX0_circuitLength, .initialized RX0, .code yX0_circuitLength cX0_circuitLength 2 (some .int), .fieldLink RX0 37 "ArmatureWinding" "pitch" "I", .methodLink RX0 71 yX0_wrap, .static yX0_wrap, .code yX0_wrap cX0_wrap 3 (some .int)] ++ wsX00)
def wsX0_circuitOf : List Cond := .code yX0_circuitOf cX0_circuitOf 2 (some .int) :: ([.fieldLink RX0 21 "ArmatureWinding" "coils" "I", .methodLink RX0 91 yX0_circuitCount, .instanceMethod yX0_circuitCount, .selects RX0 yX0_circuitCount yX0_circuitCount, .initialized RX0, .code yX0_circuitCount cX0_circuitCount 2 (some .int), .methodLink RX0 88 yX0_circuitLength, .instanceMethod yX0_circuitLength, .selects RX0 yX0_circuitLength yX0_circuitLength, .code yX0_circuitLength cX0_circuitLength 2 (some .int), .fieldLink RX0 37 "ArmatureWinding" "pitch" "I", .methodLink RX0 71 yX0_wrap, .static yX0_wrap, .code yX0_wrap cX0_wrap 3 (some .int)] ++ wsX00)
def wsX0_coilAt : List Cond := .code yX0_coilAt cX0_coilAt 3 (some .int) :: ([.fieldLink RX0 37 "ArmatureWinding" "pitch" "I", .fieldLink RX0 21 "ArmatureWinding" "coils" "I", .methodLink RX0 91 yX0_circuitCount, .instanceMethod yX0_circuitCount, .selects RX0 yX0_circuitCount yX0_circuitCount, .initialized RX0, .code yX0_circuitCount cX0_circuitCount 2 (some .int), .methodLink RX0 88 yX0_circuitLength, .instanceMethod yX0_circuitLength, .selects RX0 yX0_circuitLength yX0_circuitLength, .code yX0_circuitLength cX0_circuitLength 2 (some .int), .methodLink RX0 71 yX0_wrap, .static yX0_wrap, .code yX0_wrap cX0_wrap 3 (some .int)] ++ wsX00)
def wsX0_isClosed : List Cond := .code yX0_isClosed cX0_isClosed 4 (some .boolean) :: ([.fieldLink RX0 37 "ArmatureWinding" "pitch" "I", .fieldLink RX0 21 "ArmatureWinding" "coils" "I", .methodLink RX0 88 yX0_circuitLength, .instanceMethod yX0_circuitLength, .selects RX0 yX0_circuitLength yX0_circuitLength, .initialized RX0, .code yX0_circuitLength cX0_circuitLength 2 (some .int), .methodLink RX0 71 yX0_wrap, .static yX0_wrap, .code yX0_wrap cX0_wrap 3 (some .int), .methodLink RX0 82 yX0_isOpen, .instanceMethod yX0_isOpen, .selects RX0 yX0_isOpen yX0_isOpen, .code yX0_isOpen cX0_isOpen 2 (some .boolean), .fieldLink RX0 9 "ArmatureWinding" "open" "[Z"] ++ wsX00)
def wsX0_closedCircuits : List Cond := .code yX0_closedCircuits cX0_closedCircuits 4 (some .int) :: ([.methodLink RX0 91 yX0_circuitCount, .instanceMethod yX0_circuitCount, .selects RX0 yX0_circuitCount yX0_circuitCount, .initialized RX0, .code yX0_circuitCount cX0_circuitCount 2 (some .int), .fieldLink RX0 21 "ArmatureWinding" "coils" "I", .methodLink RX0 88 yX0_circuitLength, .instanceMethod yX0_circuitLength, .selects RX0 yX0_circuitLength yX0_circuitLength, .code yX0_circuitLength cX0_circuitLength 2 (some .int), .fieldLink RX0 37 "ArmatureWinding" "pitch" "I", .methodLink RX0 71 yX0_wrap, .static yX0_wrap, .code yX0_wrap cX0_wrap 3 (some .int), .methodLink RX0 94 yX0_isClosed, .instanceMethod yX0_isClosed, .selects RX0 yX0_isClosed yX0_isClosed, .code yX0_isClosed cX0_isClosed 4 (some .boolean), .methodLink RX0 82 yX0_isOpen, .instanceMethod yX0_isOpen, .selects RX0 yX0_isOpen yX0_isOpen, .code yX0_isOpen cX0_isOpen 2 (some .boolean), .fieldLink RX0 9 "ArmatureWinding" "open" "[Z"] ++ wsX00)
def wsX0_sideVoltage : List Cond := .code yX0_sideVoltage cX0_sideVoltage 4 (some .int) :: ([.fieldLink RX0 49 "ArmatureWinding" "slots" "I", .fieldLink RX0 46 "ArmatureWinding" "poles" "I", .methodLink RX0 71 yX0_wrap, .static yX0_wrap, .initialized RX0, .code yX0_wrap cX0_wrap 3 (some .int)] ++ wsX00)
def wsX0_coilVoltage_r1 : List Cond := [Cond.fieldLink RX0 21 "ArmatureWinding" "coils" "I", Cond.methodLink RX0 75 yX0_upperSlot, Cond.instanceMethod yX0_upperSlot, Cond.selects RX0 yX0_upperSlot yX0_upperSlot, Cond.initialized RX0, Cond.code yX0_upperSlot cX0_upperSlot 2 (some .int), Cond.fieldLink RX0 52 "ArmatureWinding" "coilsPerSlot" "I", Cond.methodLink RX0 103 yX0_sideVoltage, Cond.instanceMethod yX0_sideVoltage, Cond.selects RX0 yX0_sideVoltage yX0_sideVoltage, Cond.code yX0_sideVoltage cX0_sideVoltage 4 (some .int), Cond.fieldLink RX0 49 "ArmatureWinding" "slots" "I", Cond.fieldLink RX0 46 "ArmatureWinding" "poles" "I", Cond.methodLink RX0 71 yX0_wrap, Cond.static yX0_wrap, Cond.code yX0_wrap cX0_wrap 3 (some .int), Cond.methodLink RX0 85 yX0_lowerSlot, Cond.instanceMethod yX0_lowerSlot, Cond.selects RX0 yX0_lowerSlot yX0_lowerSlot, Cond.code yX0_lowerSlot cX0_lowerSlot 2 (some .int), Cond.methodLink RX0 78 yX0_slotPitch, Cond.instanceMethod yX0_slotPitch, Cond.selects RX0 yX0_slotPitch yX0_slotPitch, Cond.code yX0_slotPitch cX0_slotPitch 3 (some .int)]
def wsX0_coilVoltage_r2 : List Cond := [Cond.fieldLink RX0 40 "ArmatureWinding" "chording" "I"]
def wsX0_coilVoltage : List Cond := .code yX0_coilVoltage cX0_coilVoltage 3 (some .int) :: ((wsX0_coilVoltage_r1 ++ wsX0_coilVoltage_r2) ++ wsX00)
def wsL_cell : List Cond := .code yL_cell cL_cell 2 (some .int) :: ([.constant RL 7 (2147483647)])
def wsL_isOpen : List Cond := .code yL_isOpen cL_isOpen 2 (some .boolean) :: ([])
def wsL_mod : List Cond := .code yL_mod cL_mod 2 (some .int) :: ([])
def wsL_slotPitch : List Cond := .code yL_slotPitch cL_slotPitch 2 (some .int) :: ([])
def wsL_lower : List Cond := .code yL_lower cL_lower 2 (some .int) :: ([.methodLink RL 8 yL_slotPitch, .static yL_slotPitch, .initialized RL, .code yL_slotPitch cL_slotPitch 2 (some .int)])
def wsL_side : List Cond := .code yL_side cL_side 4 (some .int) :: ([])
def wsL_voltage : List Cond := .code yL_voltage cL_voltage 3 (some .int) :: ([.methodLink RL 14 yL_side, .static yL_side, .initialized RL, .code yL_side cL_side 4 (some .int), .methodLink RL 18 yL_lower, .static yL_lower, .code yL_lower cL_lower 2 (some .int), .methodLink RL 8 yL_slotPitch, .static yL_slotPitch, .code yL_slotPitch cL_slotPitch 2 (some .int)])
def wsL_armature_r1 : List Cond := [Cond.methodLink RL 36 yX0_setArmature, Cond.instanceMethod yX0_setArmature, Cond.selects RX0 yX0_setArmature yX0_setArmature, Cond.initialized RX0, Cond.code yX0_setArmature cX0_setArmature 4 (some .int), Cond.fieldLink RX0 21 "ArmatureWinding" "coils" "I", Cond.methodLink RX0 17 yX0_layArmature, Cond.instanceMethod yX0_layArmature, Cond.selects RX0 yX0_layArmature yX0_layArmature, Cond.code yX0_layArmature cX0_layArmature 5 none, Cond.fieldLink RX0 46 "ArmatureWinding" "poles" "I", Cond.fieldLink RX0 49 "ArmatureWinding" "slots" "I", Cond.fieldLink RX0 52 "ArmatureWinding" "coilsPerSlot" "I", Cond.fieldLink RX0 40 "ArmatureWinding" "chording" "I", Cond.fieldLink RX0 9 "ArmatureWinding" "open" "[Z", Cond.methodLink RX0 55 yX0_placeBrushes, Cond.instanceMethod yX0_placeBrushes, Cond.selects RX0 yX0_placeBrushes yX0_placeBrushes, Cond.code yX0_placeBrushes cX0_placeBrushes 3 none, Cond.fieldLink RX0 13 "ArmatureWinding" "brushOnBar" "[I", Cond.methodLink RX0 68 yX0_brushBar, Cond.instanceMethod yX0_brushBar, Cond.selects RX0 yX0_brushBar yX0_brushBar, Cond.code yX0_brushBar cX0_brushBar 2 (some .int)]
def wsL_armature_r2 : List Cond := [Cond.methodLink RX0 33 yX0_layWinding, Cond.instanceMethod yX0_layWinding, Cond.selects RX0 yX0_layWinding yX0_layWinding, Cond.code yX0_layWinding cX0_layWinding 5 none, Cond.fieldLink RX0 58 "ArmatureWinding" "type" "I", Cond.fieldLink RX0 61 "ArmatureWinding" "plex" "I", Cond.fieldLink RX0 64 "ArmatureWinding" "progressive" "Z", Cond.fieldLink RX0 37 "ArmatureWinding" "pitch" "I"]
def wsL_armature : List Cond := .code yL_armature cL_armature 5 (some .boolean) :: ((wsL_armature_r1 ++ wsL_armature_r2) ++ wsX00)
def wsL_winding : List Cond := .code yL_winding cL_winding 8 (some .boolean) :: ([.methodLink RL 42 yX0_setWinding, .instanceMethod yX0_setWinding, .selects RX0 yX0_setWinding yX0_setWinding, .initialized RX0, .code yX0_setWinding cX0_setWinding 5 (some .int), .fieldLink RX0 37 "ArmatureWinding" "pitch" "I", .methodLink RX0 25 yX0_isWavePossible, .instanceMethod yX0_isWavePossible, .selects RX0 yX0_isWavePossible yX0_isWavePossible, .code yX0_isWavePossible cX0_isWavePossible 2 (some .boolean), .fieldLink RX0 46 "ArmatureWinding" "poles" "I", .fieldLink RX0 21 "ArmatureWinding" "coils" "I", .methodLink RX0 29 yX0_wavePitch, .instanceMethod yX0_wavePitch, .selects RX0 yX0_wavePitch yX0_wavePitch, .code yX0_wavePitch cX0_wavePitch 3 (some .int), .methodLink RX0 33 yX0_layWinding, .instanceMethod yX0_layWinding, .selects RX0 yX0_layWinding yX0_layWinding, .code yX0_layWinding cX0_layWinding 5 none, .fieldLink RX0 58 "ArmatureWinding" "type" "I", .fieldLink RX0 61 "ArmatureWinding" "plex" "I", .fieldLink RX0 64 "ArmatureWinding" "progressive" "Z"] ++ wsX00)
def wsL_changes_r1 : List Cond := [Cond.methodLink RL 46 yL_armature, Cond.static yL_armature, Cond.initialized RL, Cond.code yL_armature cL_armature 5 (some .boolean), Cond.methodLink RL 36 yX0_setArmature, Cond.instanceMethod yX0_setArmature, Cond.selects RX0 yX0_setArmature yX0_setArmature, Cond.initialized RX0, Cond.code yX0_setArmature cX0_setArmature 4 (some .int), Cond.fieldLink RX0 21 "ArmatureWinding" "coils" "I", Cond.methodLink RX0 17 yX0_layArmature, Cond.instanceMethod yX0_layArmature, Cond.selects RX0 yX0_layArmature yX0_layArmature, Cond.code yX0_layArmature cX0_layArmature 5 none, Cond.fieldLink RX0 46 "ArmatureWinding" "poles" "I", Cond.fieldLink RX0 49 "ArmatureWinding" "slots" "I", Cond.fieldLink RX0 52 "ArmatureWinding" "coilsPerSlot" "I", Cond.fieldLink RX0 40 "ArmatureWinding" "chording" "I", Cond.fieldLink RX0 9 "ArmatureWinding" "open" "[Z", Cond.methodLink RX0 55 yX0_placeBrushes, Cond.instanceMethod yX0_placeBrushes, Cond.selects RX0 yX0_placeBrushes yX0_placeBrushes, Cond.code yX0_placeBrushes cX0_placeBrushes 3 none, Cond.fieldLink RX0 13 "ArmatureWinding" "brushOnBar" "[I"]
def wsL_changes_r2 : List Cond := [Cond.methodLink RX0 68 yX0_brushBar, Cond.instanceMethod yX0_brushBar, Cond.selects RX0 yX0_brushBar yX0_brushBar, Cond.code yX0_brushBar cX0_brushBar 2 (some .int), Cond.methodLink RX0 33 yX0_layWinding, Cond.instanceMethod yX0_layWinding, Cond.selects RX0 yX0_layWinding yX0_layWinding, Cond.code yX0_layWinding cX0_layWinding 5 none, Cond.fieldLink RX0 58 "ArmatureWinding" "type" "I", Cond.fieldLink RX0 61 "ArmatureWinding" "plex" "I", Cond.fieldLink RX0 64 "ArmatureWinding" "progressive" "Z", Cond.fieldLink RX0 37 "ArmatureWinding" "pitch" "I", Cond.methodLink RL 50 yL_winding, Cond.static yL_winding, Cond.code yL_winding cL_winding 8 (some .boolean), Cond.methodLink RL 42 yX0_setWinding, Cond.instanceMethod yX0_setWinding, Cond.selects RX0 yX0_setWinding yX0_setWinding, Cond.code yX0_setWinding cX0_setWinding 5 (some .int), Cond.methodLink RX0 25 yX0_isWavePossible, Cond.instanceMethod yX0_isWavePossible, Cond.selects RX0 yX0_isWavePossible yX0_isWavePossible, Cond.code yX0_isWavePossible cX0_isWavePossible 2 (some .boolean), Cond.methodLink RX0 29 yX0_wavePitch]
def wsL_changes_r3 : List Cond := [Cond.instanceMethod yX0_wavePitch, Cond.selects RX0 yX0_wavePitch yX0_wavePitch, Cond.code yX0_wavePitch cX0_wavePitch 3 (some .int), Cond.methodLink RL 54 yX0_setChording, Cond.instanceMethod yX0_setChording, Cond.selects RX0 yX0_setChording yX0_setChording, Cond.code yX0_setChording cX0_setChording 3 (some .int), Cond.methodLink RL 25 yL_isOpen, Cond.static yL_isOpen, Cond.code yL_isOpen cL_isOpen 2 (some .boolean), Cond.methodLink RL 58 yX0_setOpen, Cond.instanceMethod yX0_setOpen, Cond.selects RX0 yX0_setOpen yX0_setOpen, Cond.code yX0_setOpen cX0_setOpen 4 (some .int), Cond.methodLink RX0 43 yX0_openMark, Cond.instanceMethod yX0_openMark, Cond.selects RX0 yX0_openMark yX0_openMark, Cond.code yX0_openMark cX0_openMark 2 (some .int), Cond.methodLink RX0 82 yX0_isOpen, Cond.instanceMethod yX0_isOpen, Cond.selects RX0 yX0_isOpen yX0_isOpen, Cond.code yX0_isOpen cX0_isOpen 2 (some .boolean)]
def wsL_changes : List Cond := .code yL_changes cL_changes 9 (some .boolean) :: ((wsL_changes_r1 ++ (wsL_changes_r2 ++ wsL_changes_r3)) ++ wsX00)
def wsL_begin : List Cond := .code yL_begin cL_begin 1 none :: ([])
def wsL_gcd : List Cond := .code yL_gcd cL_gcd 4 (some .int) :: ([])
def wsL_circuits_r1 : List Cond := [Cond.methodLink RL 29 yL_mod, Cond.static yL_mod, Cond.initialized RL, Cond.code yL_mod cL_mod 2 (some .int), Cond.methodLink RL 62 yL_gcd, Cond.static yL_gcd, Cond.code yL_gcd cL_gcd 4 (some .int), Cond.methodLink RL 65 yX0_coilAt, Cond.instanceMethod yX0_coilAt, Cond.selects RX0 yX0_coilAt yX0_coilAt, Cond.initialized RX0, Cond.code yX0_coilAt cX0_coilAt 3 (some .int), Cond.fieldLink RX0 37 "ArmatureWinding" "pitch" "I", Cond.fieldLink RX0 21 "ArmatureWinding" "coils" "I", Cond.methodLink RX0 91 yX0_circuitCount, Cond.instanceMethod yX0_circuitCount, Cond.selects RX0 yX0_circuitCount yX0_circuitCount, Cond.code yX0_circuitCount cX0_circuitCount 2 (some .int), Cond.methodLink RX0 88 yX0_circuitLength, Cond.instanceMethod yX0_circuitLength, Cond.selects RX0 yX0_circuitLength yX0_circuitLength, Cond.code yX0_circuitLength cX0_circuitLength 2 (some .int), Cond.methodLink RX0 71 yX0_wrap, Cond.static yX0_wrap]
def wsL_circuits_r2 : List Cond := [Cond.code yX0_wrap cX0_wrap 3 (some .int), Cond.methodLink RL 68 yX0_circuitOf, Cond.instanceMethod yX0_circuitOf, Cond.selects RX0 yX0_circuitOf yX0_circuitOf, Cond.code yX0_circuitOf cX0_circuitOf 2 (some .int), Cond.methodLink RL 71 yX0_endBar, Cond.instanceMethod yX0_endBar, Cond.selects RX0 yX0_endBar yX0_endBar, Cond.code yX0_endBar cX0_endBar 2 (some .int), Cond.methodLink RL 25 yL_isOpen, Cond.static yL_isOpen, Cond.code yL_isOpen cL_isOpen 2 (some .boolean), Cond.methodLink RL 74 yX0_circuitCount, Cond.methodLink RL 78 yX0_closedCircuits, Cond.instanceMethod yX0_closedCircuits, Cond.selects RX0 yX0_closedCircuits yX0_closedCircuits, Cond.code yX0_closedCircuits cX0_closedCircuits 4 (some .int), Cond.methodLink RX0 94 yX0_isClosed, Cond.instanceMethod yX0_isClosed, Cond.selects RX0 yX0_isClosed yX0_isClosed, Cond.code yX0_isClosed cX0_isClosed 4 (some .boolean), Cond.methodLink RX0 82 yX0_isOpen, Cond.instanceMethod yX0_isOpen, Cond.selects RX0 yX0_isOpen yX0_isOpen]
def wsL_circuits_r3 : List Cond := [Cond.code yX0_isOpen cX0_isOpen 2 (some .boolean), Cond.fieldLink RX0 9 "ArmatureWinding" "open" "[Z"]
def wsL_circuits : List Cond := .code yL_circuits cL_circuits 12 (some .boolean) :: ((wsL_circuits_r1 ++ (wsL_circuits_r2 ++ wsL_circuits_r3)) ++ wsX00)
def wsL_coils_r1 : List Cond := [Cond.methodLink RL 71 yX0_endBar, Cond.instanceMethod yX0_endBar, Cond.selects RX0 yX0_endBar yX0_endBar, Cond.initialized RX0, Cond.code yX0_endBar cX0_endBar 2 (some .int), Cond.fieldLink RX0 21 "ArmatureWinding" "coils" "I", Cond.fieldLink RX0 37 "ArmatureWinding" "pitch" "I", Cond.methodLink RX0 71 yX0_wrap, Cond.static yX0_wrap, Cond.code yX0_wrap cX0_wrap 3 (some .int), Cond.methodLink RL 29 yL_mod, Cond.static yL_mod, Cond.initialized RL, Cond.code yL_mod cL_mod 2 (some .int), Cond.methodLink RL 81 yX0_coilEndingAt, Cond.instanceMethod yX0_coilEndingAt, Cond.selects RX0 yX0_coilEndingAt yX0_coilEndingAt, Cond.code yX0_coilEndingAt cX0_coilEndingAt 2 (some .int), Cond.methodLink RL 84 yX0_upperSlot, Cond.instanceMethod yX0_upperSlot, Cond.selects RX0 yX0_upperSlot yX0_upperSlot, Cond.code yX0_upperSlot cX0_upperSlot 2 (some .int), Cond.fieldLink RX0 52 "ArmatureWinding" "coilsPerSlot" "I", Cond.methodLink RL 87 yX0_lowerSlot]
def wsL_coils_r2 : List Cond := [Cond.instanceMethod yX0_lowerSlot, Cond.selects RX0 yX0_lowerSlot yX0_lowerSlot, Cond.code yX0_lowerSlot cX0_lowerSlot 2 (some .int), Cond.fieldLink RX0 49 "ArmatureWinding" "slots" "I", Cond.methodLink RX0 75 yX0_upperSlot, Cond.methodLink RX0 78 yX0_slotPitch, Cond.instanceMethod yX0_slotPitch, Cond.selects RX0 yX0_slotPitch yX0_slotPitch, Cond.code yX0_slotPitch cX0_slotPitch 3 (some .int), Cond.fieldLink RX0 46 "ArmatureWinding" "poles" "I", Cond.fieldLink RX0 40 "ArmatureWinding" "chording" "I", Cond.methodLink RL 18 yL_lower, Cond.static yL_lower, Cond.code yL_lower cL_lower 2 (some .int), Cond.methodLink RL 8 yL_slotPitch, Cond.static yL_slotPitch, Cond.code yL_slotPitch cL_slotPitch 2 (some .int), Cond.methodLink RL 25 yL_isOpen, Cond.static yL_isOpen, Cond.code yL_isOpen cL_isOpen 2 (some .boolean), Cond.methodLink RL 90 yX0_openCoilsIn, Cond.instanceMethod yX0_openCoilsIn, Cond.selects RX0 yX0_openCoilsIn yX0_openCoilsIn, Cond.code yX0_openCoilsIn cX0_openCoilsIn 4 (some .int)]
def wsL_coils_r3 : List Cond := [Cond.methodLink RX0 82 yX0_isOpen, Cond.instanceMethod yX0_isOpen, Cond.selects RX0 yX0_isOpen yX0_isOpen, Cond.code yX0_isOpen cX0_isOpen 2 (some .boolean), Cond.fieldLink RX0 9 "ArmatureWinding" "open" "[Z", Cond.methodLink RX0 85 yX0_lowerSlot, Cond.methodLink RL 93 yX0_coilCount, Cond.instanceMethod yX0_coilCount, Cond.selects RX0 yX0_coilCount yX0_coilCount, Cond.code yX0_coilCount cX0_coilCount 1 (some .int), Cond.methodLink RL 96 yX0_slotPitch]
def wsL_coils : List Cond := .code yL_coils cL_coils 6 (some .boolean) :: ((wsL_coils_r1 ++ (wsL_coils_r2 ++ wsL_coils_r3)) ++ wsX00)
def wsL_sums_r1 : List Cond := [Cond.methodLink RL 98 yX0_coilVoltage, Cond.instanceMethod yX0_coilVoltage, Cond.selects RX0 yX0_coilVoltage yX0_coilVoltage, Cond.initialized RX0, Cond.code yX0_coilVoltage cX0_coilVoltage 3 (some .int), Cond.fieldLink RX0 21 "ArmatureWinding" "coils" "I", Cond.methodLink RX0 75 yX0_upperSlot, Cond.instanceMethod yX0_upperSlot, Cond.selects RX0 yX0_upperSlot yX0_upperSlot, Cond.code yX0_upperSlot cX0_upperSlot 2 (some .int), Cond.fieldLink RX0 52 "ArmatureWinding" "coilsPerSlot" "I", Cond.methodLink RX0 103 yX0_sideVoltage, Cond.instanceMethod yX0_sideVoltage, Cond.selects RX0 yX0_sideVoltage yX0_sideVoltage, Cond.code yX0_sideVoltage cX0_sideVoltage 4 (some .int), Cond.fieldLink RX0 49 "ArmatureWinding" "slots" "I", Cond.fieldLink RX0 46 "ArmatureWinding" "poles" "I", Cond.methodLink RX0 71 yX0_wrap, Cond.static yX0_wrap, Cond.code yX0_wrap cX0_wrap 3 (some .int), Cond.methodLink RX0 85 yX0_lowerSlot, Cond.instanceMethod yX0_lowerSlot, Cond.selects RX0 yX0_lowerSlot yX0_lowerSlot, Cond.code yX0_lowerSlot cX0_lowerSlot 2 (some .int)]
def wsL_sums_r2 : List Cond := [Cond.methodLink RX0 78 yX0_slotPitch, Cond.instanceMethod yX0_slotPitch, Cond.selects RX0 yX0_slotPitch yX0_slotPitch, Cond.code yX0_slotPitch cX0_slotPitch 3 (some .int), Cond.fieldLink RX0 40 "ArmatureWinding" "chording" "I", Cond.methodLink RL 22 yL_voltage, Cond.static yL_voltage, Cond.initialized RL, Cond.code yL_voltage cL_voltage 3 (some .int), Cond.methodLink RL 14 yL_side, Cond.static yL_side, Cond.code yL_side cL_side 4 (some .int), Cond.methodLink RL 18 yL_lower, Cond.static yL_lower, Cond.code yL_lower cL_lower 2 (some .int), Cond.methodLink RL 8 yL_slotPitch, Cond.static yL_slotPitch, Cond.code yL_slotPitch cL_slotPitch 2 (some .int)]
def wsL_sums : List Cond := .code yL_sums cL_sums 6 (some .boolean) :: ((wsL_sums_r1 ++ wsL_sums_r2) ++ wsX00)
def wsL_law_r1 : List Cond := [Cond.classLink RL 37 RX0, Cond.instantiable RX0 11, Cond.initialized RX0, Cond.arrayClass .int, Cond.methodLink RL 101 yX0_init, Cond.instanceMethod yX0_init, Cond.code yX0_init cX0_init 1 none, Cond.methodLink RX0 3 objectInit, Cond.instanceMethod objectInit, Cond.code objectInit ⟨#[0xb1]⟩ 1 none, Cond.arrayClass .boolean, Cond.fieldLink RX0 9 "ArmatureWinding" "open" "[Z", Cond.fieldLink RX0 13 "ArmatureWinding" "brushOnBar" "[I", Cond.methodLink RX0 17 yX0_layArmature, Cond.instanceMethod yX0_layArmature, Cond.selects RX0 yX0_layArmature yX0_layArmature, Cond.code yX0_layArmature cX0_layArmature 5 none, Cond.fieldLink RX0 46 "ArmatureWinding" "poles" "I", Cond.fieldLink RX0 49 "ArmatureWinding" "slots" "I", Cond.fieldLink RX0 52 "ArmatureWinding" "coilsPerSlot" "I", Cond.fieldLink RX0 21 "ArmatureWinding" "coils" "I", Cond.fieldLink RX0 40 "ArmatureWinding" "chording" "I", Cond.methodLink RX0 55 yX0_placeBrushes, Cond.instanceMethod yX0_placeBrushes]
def wsL_law_r2 : List Cond := [Cond.selects RX0 yX0_placeBrushes yX0_placeBrushes, Cond.code yX0_placeBrushes cX0_placeBrushes 3 none, Cond.methodLink RX0 68 yX0_brushBar, Cond.instanceMethod yX0_brushBar, Cond.selects RX0 yX0_brushBar yX0_brushBar, Cond.code yX0_brushBar cX0_brushBar 2 (some .int), Cond.methodLink RX0 33 yX0_layWinding, Cond.instanceMethod yX0_layWinding, Cond.selects RX0 yX0_layWinding yX0_layWinding, Cond.code yX0_layWinding cX0_layWinding 5 none, Cond.fieldLink RX0 58 "ArmatureWinding" "type" "I", Cond.fieldLink RX0 61 "ArmatureWinding" "plex" "I", Cond.fieldLink RX0 64 "ArmatureWinding" "progressive" "Z", Cond.fieldLink RX0 37 "ArmatureWinding" "pitch" "I", Cond.methodLink RL 102 yL_begin, Cond.static yL_begin, Cond.initialized RL, Cond.code yL_begin cL_begin 1 none, Cond.methodLink RL 106 yL_cell, Cond.static yL_cell, Cond.code yL_cell cL_cell 2 (some .int), Cond.constant RL 7 (2147483647), Cond.methodLink RL 109 yL_circuits, Cond.static yL_circuits]
def wsL_law_r3 : List Cond := [Cond.code yL_circuits cL_circuits 12 (some .boolean), Cond.methodLink RL 29 yL_mod, Cond.static yL_mod, Cond.code yL_mod cL_mod 2 (some .int), Cond.methodLink RL 62 yL_gcd, Cond.static yL_gcd, Cond.code yL_gcd cL_gcd 4 (some .int), Cond.methodLink RL 65 yX0_coilAt, Cond.instanceMethod yX0_coilAt, Cond.selects RX0 yX0_coilAt yX0_coilAt, Cond.code yX0_coilAt cX0_coilAt 3 (some .int), Cond.methodLink RX0 91 yX0_circuitCount, Cond.instanceMethod yX0_circuitCount, Cond.selects RX0 yX0_circuitCount yX0_circuitCount, Cond.code yX0_circuitCount cX0_circuitCount 2 (some .int), Cond.methodLink RX0 88 yX0_circuitLength, Cond.instanceMethod yX0_circuitLength, Cond.selects RX0 yX0_circuitLength yX0_circuitLength, Cond.code yX0_circuitLength cX0_circuitLength 2 (some .int), Cond.methodLink RX0 71 yX0_wrap, Cond.static yX0_wrap, Cond.code yX0_wrap cX0_wrap 3 (some .int), Cond.methodLink RL 68 yX0_circuitOf, Cond.instanceMethod yX0_circuitOf]
def wsL_law_r4 : List Cond := [Cond.selects RX0 yX0_circuitOf yX0_circuitOf, Cond.code yX0_circuitOf cX0_circuitOf 2 (some .int), Cond.methodLink RL 71 yX0_endBar, Cond.instanceMethod yX0_endBar, Cond.selects RX0 yX0_endBar yX0_endBar, Cond.code yX0_endBar cX0_endBar 2 (some .int), Cond.methodLink RL 25 yL_isOpen, Cond.static yL_isOpen, Cond.code yL_isOpen cL_isOpen 2 (some .boolean), Cond.methodLink RL 74 yX0_circuitCount, Cond.methodLink RL 78 yX0_closedCircuits, Cond.instanceMethod yX0_closedCircuits, Cond.selects RX0 yX0_closedCircuits yX0_closedCircuits, Cond.code yX0_closedCircuits cX0_closedCircuits 4 (some .int), Cond.methodLink RX0 94 yX0_isClosed, Cond.instanceMethod yX0_isClosed, Cond.selects RX0 yX0_isClosed yX0_isClosed, Cond.code yX0_isClosed cX0_isClosed 4 (some .boolean), Cond.methodLink RX0 82 yX0_isOpen, Cond.instanceMethod yX0_isOpen, Cond.selects RX0 yX0_isOpen yX0_isOpen, Cond.code yX0_isOpen cX0_isOpen 2 (some .boolean), Cond.methodLink RL 113 yL_coils, Cond.static yL_coils]
def wsL_law_r5 : List Cond := [Cond.code yL_coils cL_coils 6 (some .boolean), Cond.methodLink RL 81 yX0_coilEndingAt, Cond.instanceMethod yX0_coilEndingAt, Cond.selects RX0 yX0_coilEndingAt yX0_coilEndingAt, Cond.code yX0_coilEndingAt cX0_coilEndingAt 2 (some .int), Cond.methodLink RL 84 yX0_upperSlot, Cond.instanceMethod yX0_upperSlot, Cond.selects RX0 yX0_upperSlot yX0_upperSlot, Cond.code yX0_upperSlot cX0_upperSlot 2 (some .int), Cond.methodLink RL 87 yX0_lowerSlot, Cond.instanceMethod yX0_lowerSlot, Cond.selects RX0 yX0_lowerSlot yX0_lowerSlot, Cond.code yX0_lowerSlot cX0_lowerSlot 2 (some .int), Cond.methodLink RX0 75 yX0_upperSlot, Cond.methodLink RX0 78 yX0_slotPitch, Cond.instanceMethod yX0_slotPitch, Cond.selects RX0 yX0_slotPitch yX0_slotPitch, Cond.code yX0_slotPitch cX0_slotPitch 3 (some .int), Cond.methodLink RL 18 yL_lower, Cond.static yL_lower, Cond.code yL_lower cL_lower 2 (some .int), Cond.methodLink RL 8 yL_slotPitch, Cond.static yL_slotPitch, Cond.code yL_slotPitch cL_slotPitch 2 (some .int)]
def wsL_law_r6 : List Cond := [Cond.methodLink RL 90 yX0_openCoilsIn, Cond.instanceMethod yX0_openCoilsIn, Cond.selects RX0 yX0_openCoilsIn yX0_openCoilsIn, Cond.code yX0_openCoilsIn cX0_openCoilsIn 4 (some .int), Cond.methodLink RX0 85 yX0_lowerSlot, Cond.methodLink RL 93 yX0_coilCount, Cond.instanceMethod yX0_coilCount, Cond.selects RX0 yX0_coilCount yX0_coilCount, Cond.code yX0_coilCount cX0_coilCount 1 (some .int), Cond.methodLink RL 96 yX0_slotPitch, Cond.methodLink RL 116 yL_sums, Cond.static yL_sums, Cond.code yL_sums cL_sums 6 (some .boolean), Cond.methodLink RL 98 yX0_coilVoltage, Cond.instanceMethod yX0_coilVoltage, Cond.selects RX0 yX0_coilVoltage yX0_coilVoltage, Cond.code yX0_coilVoltage cX0_coilVoltage 3 (some .int), Cond.methodLink RX0 103 yX0_sideVoltage, Cond.instanceMethod yX0_sideVoltage, Cond.selects RX0 yX0_sideVoltage yX0_sideVoltage, Cond.code yX0_sideVoltage cX0_sideVoltage 4 (some .int), Cond.methodLink RL 22 yL_voltage, Cond.static yL_voltage, Cond.code yL_voltage cL_voltage 3 (some .int)]
def wsL_law_r7 : List Cond := [Cond.methodLink RL 14 yL_side, Cond.static yL_side, Cond.code yL_side cL_side 4 (some .int), Cond.methodLink RL 119 yL_changes, Cond.static yL_changes, Cond.code yL_changes cL_changes 9 (some .boolean), Cond.methodLink RL 46 yL_armature, Cond.static yL_armature, Cond.code yL_armature cL_armature 5 (some .boolean), Cond.methodLink RL 36 yX0_setArmature, Cond.instanceMethod yX0_setArmature, Cond.selects RX0 yX0_setArmature yX0_setArmature, Cond.code yX0_setArmature cX0_setArmature 4 (some .int), Cond.methodLink RL 50 yL_winding, Cond.static yL_winding, Cond.code yL_winding cL_winding 8 (some .boolean), Cond.methodLink RL 42 yX0_setWinding, Cond.instanceMethod yX0_setWinding, Cond.selects RX0 yX0_setWinding yX0_setWinding, Cond.code yX0_setWinding cX0_setWinding 5 (some .int), Cond.methodLink RX0 25 yX0_isWavePossible, Cond.instanceMethod yX0_isWavePossible, Cond.selects RX0 yX0_isWavePossible yX0_isWavePossible, Cond.code yX0_isWavePossible cX0_isWavePossible 2 (some .boolean)]
def wsL_law_r8 : List Cond := [Cond.methodLink RX0 29 yX0_wavePitch, Cond.instanceMethod yX0_wavePitch, Cond.selects RX0 yX0_wavePitch yX0_wavePitch, Cond.code yX0_wavePitch cX0_wavePitch 3 (some .int), Cond.methodLink RL 54 yX0_setChording, Cond.instanceMethod yX0_setChording, Cond.selects RX0 yX0_setChording yX0_setChording, Cond.code yX0_setChording cX0_setChording 3 (some .int), Cond.methodLink RL 58 yX0_setOpen, Cond.instanceMethod yX0_setOpen, Cond.selects RX0 yX0_setOpen yX0_setOpen, Cond.code yX0_setOpen cX0_setOpen 4 (some .int), Cond.methodLink RX0 43 yX0_openMark, Cond.instanceMethod yX0_openMark, Cond.selects RX0 yX0_openMark yX0_openMark, Cond.code yX0_openMark cX0_openMark 2 (some .int)]
def wsL_law : List Cond := (wsL_law_r1 ++ (wsL_law_r2 ++ (wsL_law_r3 ++ (wsL_law_r4 ++ (wsL_law_r5 ++ (wsL_law_r6 ++ (wsL_law_r7 ++ wsL_law_r8))))))) ++ wsX00 ++ ([] : List Cond)
end
section
set_option maxRecDepth 20000 in
theorem wsL_law_in : ∀ w ∈ wsL_law, w ∈ lw_tbl := fun w h => (goodIn_p wsL_law [16, 19, 23, 27, 31, 35, 122, 74, 125, 128, 131, 135, 139, 143, 146, 150, 154, 107, 159, 163, 119, 166, 170, 174, 178, 183, 186, 189, 193, 198, 202, 206, 210, 213, 216, 78, 81, 85, 88, 92, 96, 100, 104, 111, 115] rfl (by decide +kernel) w h).1
theorem inlX0 : ∀ w ∈ wsX00, w ∈ wsL_law := fun _ h => List.mem_append_left _ (List.mem_append_right _ h)
theorem inX0 : ∀ w ∈ wsX00, w ∈ lw_tbl := fun w h => wsL_law_in w (inlX0 w h)
theorem inX1 : ∀ w ∈ wsX10, w ∈ lw_tbl := by decide +kernel
set_option maxRecDepth 20000 in
theorem ggX0_init_X0_layArmature : GoodIn wsX0_init wsX0_layArmature := goodIn_r _ [12, 13, 14, 15, 16, 17, 5, 18, 19, 20, 11, 21, 7, 22, 23, 24, 25, 26, 27, 28, 29, 30, 31, 32, 33, 34, 35, 36, 37, 38, 39, 40, 41, 42, 43, 44] (by decide +kernel) (by decide +kernel)
set_option maxRecDepth 20000 in
theorem gX0_init_X0_layArmature : GoodIn wsX0_init (wsV RX0 17 RX0 yX0_layArmature wsX0_layArmature) := goodIn_app (goodIn_of _ (by decide +kernel)) ggX0_init_X0_layArmature
theorem dX0_init_0 : decode cX0_init 0 = .ok (.aload_n 0, 1) := by decide +kernel
theorem dX0_init_1 : decode cX0_init 1 = .ok (.invokespecial 3, 3) := by decide +kernel
theorem dX0_init_4 : decode cX0_init 4 = .ok (.aload_n 0, 1) := by decide +kernel
theorem dX0_init_5 : decode cX0_init 5 = .ok (.bipush 72, 2) := by decide +kernel
theorem dX0_init_7 : decode cX0_init 7 = .ok (.newarray .boolean, 2) := by decide +kernel
theorem dX0_init_9 : decode cX0_init 9 = .ok (.putfield 9, 3) := by decide +kernel
theorem dX0_init_12 : decode cX0_init 12 = .ok (.aload_n 0, 1) := by decide +kernel
theorem dX0_init_13 : decode cX0_init 13 = .ok (.bipush 72, 2) := by decide +kernel
theorem dX0_init_15 : decode cX0_init 15 = .ok (.newarray .int, 2) := by decide +kernel
theorem dX0_init_17 : decode cX0_init 17 = .ok (.putfield 13, 3) := by decide +kernel
theorem dX0_init_20 : decode cX0_init 20 = .ok (.aload_n 0, 1) := by decide +kernel
theorem dX0_init_21 : decode cX0_init 21 = .ok (.iconst 4, 1) := by decide +kernel
theorem dX0_init_22 : decode cX0_init 22 = .ok (.bipush 12, 2) := by decide +kernel
theorem dX0_init_24 : decode cX0_init 24 = .ok (.iconst 1, 1) := by decide +kernel
theorem dX0_init_25 : decode cX0_init 25 = .ok (.invokevirtual 17, 3) := by decide +kernel
theorem dX0_init_28 : decode cX0_init 28 = .ok (.return_, 1) := by decide +kernel
set_option maxRecDepth 20000 in
theorem ggX0_setArmature_X0_layArmature : GoodIn wsX0_setArmature wsX0_layArmature := goodIn_r _ [6, 7, 8, 9, 1, 10, 11, 12, 13, 14, 5, 15, 16, 17, 18, 19, 20, 21, 22, 23, 24, 25, 26, 27, 28, 29, 30, 31, 32, 33, 34, 35, 36, 37, 38, 39] (by decide +kernel) (by decide +kernel)
set_option maxRecDepth 20000 in
theorem gX0_setArmature_X0_layArmature : GoodIn wsX0_setArmature (wsV RX0 17 RX0 yX0_layArmature wsX0_layArmature) := goodIn_app (goodIn_of _ (by decide +kernel)) ggX0_setArmature_X0_layArmature
theorem dX0_setArmature_0 : decode cX0_setArmature 0 = .ok (.iload_n 1, 1) := by decide +kernel
theorem dX0_setArmature_1 : decode cX0_setArmature 1 = .ok (.iconst 2, 1) := by decide +kernel
theorem dX0_setArmature_2 : decode cX0_setArmature 2 = .ok (.if_icmp .lt 15, 3) := by decide +kernel
theorem dX0_setArmature_5 : decode cX0_setArmature 5 = .ok (.iload_n 1, 1) := by decide +kernel
theorem dX0_setArmature_6 : decode cX0_setArmature 6 = .ok (.bipush 8, 2) := by decide +kernel
theorem dX0_setArmature_8 : decode cX0_setArmature 8 = .ok (.if_icmp .gt 9, 3) := by decide +kernel
theorem dX0_setArmature_11 : decode cX0_setArmature 11 = .ok (.iload_n 1, 1) := by decide +kernel
theorem dX0_setArmature_12 : decode cX0_setArmature 12 = .ok (.iconst 2, 1) := by decide +kernel
theorem dX0_setArmature_13 : decode cX0_setArmature 13 = .ok (.irem, 1) := by decide +kernel
theorem dX0_setArmature_14 : decode cX0_setArmature 14 = .ok (.ifCond .eq 7, 3) := by decide +kernel
theorem dX0_setArmature_17 : decode cX0_setArmature 17 = .ok (.sipush (-1001), 3) := by decide +kernel
theorem dX0_setArmature_20 : decode cX0_setArmature 20 = .ok (.ireturn, 1) := by decide +kernel
theorem dX0_setArmature_21 : decode cX0_setArmature 21 = .ok (.iload_n 2, 1) := by decide +kernel
theorem dX0_setArmature_22 : decode cX0_setArmature 22 = .ok (.iload_n 1, 1) := by decide +kernel
theorem dX0_setArmature_23 : decode cX0_setArmature 23 = .ok (.if_icmp .lt 9, 3) := by decide +kernel
theorem dX0_setArmature_26 : decode cX0_setArmature 26 = .ok (.iload_n 2, 1) := by decide +kernel
theorem dX0_setArmature_27 : decode cX0_setArmature 27 = .ok (.bipush 24, 2) := by decide +kernel
theorem dX0_setArmature_29 : decode cX0_setArmature 29 = .ok (.if_icmp .le 7, 3) := by decide +kernel
theorem dX0_setArmature_32 : decode cX0_setArmature 32 = .ok (.sipush (-1001), 3) := by decide +kernel
theorem dX0_setArmature_35 : decode cX0_setArmature 35 = .ok (.ireturn, 1) := by decide +kernel
theorem dX0_setArmature_36 : decode cX0_setArmature 36 = .ok (.iload_n 3, 1) := by decide +kernel
theorem dX0_setArmature_37 : decode cX0_setArmature 37 = .ok (.iconst 1, 1) := by decide +kernel
theorem dX0_setArmature_38 : decode cX0_setArmature 38 = .ok (.if_icmp .lt 8, 3) := by decide +kernel
theorem dX0_setArmature_41 : decode cX0_setArmature 41 = .ok (.iload_n 3, 1) := by decide +kernel
theorem dX0_setArmature_42 : decode cX0_setArmature 42 = .ok (.iconst 3, 1) := by decide +kernel
theorem dX0_setArmature_43 : decode cX0_setArmature 43 = .ok (.if_icmp .le 7, 3) := by decide +kernel
theorem dX0_setArmature_46 : decode cX0_setArmature 46 = .ok (.sipush (-1001), 3) := by decide +kernel
theorem dX0_setArmature_49 : decode cX0_setArmature 49 = .ok (.ireturn, 1) := by decide +kernel
theorem dX0_setArmature_50 : decode cX0_setArmature 50 = .ok (.aload_n 0, 1) := by decide +kernel
theorem dX0_setArmature_51 : decode cX0_setArmature 51 = .ok (.iload_n 1, 1) := by decide +kernel
theorem dX0_setArmature_52 : decode cX0_setArmature 52 = .ok (.iload_n 2, 1) := by decide +kernel
theorem dX0_setArmature_53 : decode cX0_setArmature 53 = .ok (.iload_n 3, 1) := by decide +kernel
theorem dX0_setArmature_54 : decode cX0_setArmature 54 = .ok (.invokevirtual 17, 3) := by decide +kernel
theorem dX0_setArmature_57 : decode cX0_setArmature 57 = .ok (.aload_n 0, 1) := by decide +kernel
theorem dX0_setArmature_58 : decode cX0_setArmature 58 = .ok (.getfield 21, 3) := by decide +kernel
theorem dX0_setArmature_61 : decode cX0_setArmature 61 = .ok (.ireturn, 1) := by decide +kernel
set_option maxRecDepth 20000 in
theorem ggX0_setWinding_X0_isWavePossible : GoodIn wsX0_setWinding wsX0_isWavePossible := goodIn_r _ [6, 7, 8, 9, 10, 11, 5, 12, 20, 21, 22, 23, 24, 25, 26, 27, 28, 29, 30] (by decide +kernel) (by decide +kernel)
set_option maxRecDepth 20000 in
theorem gX0_setWinding_X0_isWavePossible : GoodIn wsX0_setWinding (wsV RX0 25 RX0 yX0_isWavePossible wsX0_isWavePossible) := goodIn_app (goodIn_of _ (by decide +kernel)) ggX0_setWinding_X0_isWavePossible
set_option maxRecDepth 20000 in
theorem ggX0_setWinding_X0_wavePitch : GoodIn wsX0_setWinding wsX0_wavePitch := goodIn_r _ [12, 7, 8, 20, 21, 22, 23, 24, 25, 26, 27, 28, 29, 30] (by decide +kernel) (by decide +kernel)
set_option maxRecDepth 20000 in
theorem gX0_setWinding_X0_wavePitch : GoodIn wsX0_setWinding (wsV RX0 29 RX0 yX0_wavePitch wsX0_wavePitch) := goodIn_app (goodIn_of _ (by decide +kernel)) ggX0_setWinding_X0_wavePitch
set_option maxRecDepth 20000 in
theorem ggX0_setWinding_X0_layWinding : GoodIn wsX0_setWinding wsX0_layWinding := goodIn_r _ [16, 17, 18, 19, 1, 20, 21, 22, 23, 24, 25, 26, 27, 28, 29, 30] (by decide +kernel) (by decide +kernel)
set_option maxRecDepth 20000 in
theorem gX0_setWinding_X0_layWinding : GoodIn wsX0_setWinding (wsV RX0 33 RX0 yX0_layWinding wsX0_layWinding) := goodIn_app (goodIn_of _ (by decide +kernel)) ggX0_setWinding_X0_layWinding
theorem dX0_setWinding_0 : decode cX0_setWinding 0 = .ok (.iload_n 1, 1) := by decide +kernel
theorem dX0_setWinding_1 : decode cX0_setWinding 1 = .ok (.ifCond .eq 12, 3) := by decide +kernel
theorem dX0_setWinding_4 : decode cX0_setWinding 4 = .ok (.iload_n 1, 1) := by decide +kernel
theorem dX0_setWinding_5 : decode cX0_setWinding 5 = .ok (.iconst 1, 1) := by decide +kernel
theorem dX0_setWinding_6 : decode cX0_setWinding 6 = .ok (.if_icmp .eq 7, 3) := by decide +kernel
theorem dX0_setWinding_9 : decode cX0_setWinding 9 = .ok (.sipush (-1001), 3) := by decide +kernel
theorem dX0_setWinding_12 : decode cX0_setWinding 12 = .ok (.ireturn, 1) := by decide +kernel
theorem dX0_setWinding_13 : decode cX0_setWinding 13 = .ok (.iload_n 2, 1) := by decide +kernel
theorem dX0_setWinding_14 : decode cX0_setWinding 14 = .ok (.iconst 1, 1) := by decide +kernel
theorem dX0_setWinding_15 : decode cX0_setWinding 15 = .ok (.if_icmp .lt 8, 3) := by decide +kernel
theorem dX0_setWinding_18 : decode cX0_setWinding 18 = .ok (.iload_n 2, 1) := by decide +kernel
theorem dX0_setWinding_19 : decode cX0_setWinding 19 = .ok (.iconst 3, 1) := by decide +kernel
theorem dX0_setWinding_20 : decode cX0_setWinding 20 = .ok (.if_icmp .le 7, 3) := by decide +kernel
theorem dX0_setWinding_23 : decode cX0_setWinding 23 = .ok (.sipush (-1001), 3) := by decide +kernel
theorem dX0_setWinding_26 : decode cX0_setWinding 26 = .ok (.ireturn, 1) := by decide +kernel
theorem dX0_setWinding_27 : decode cX0_setWinding 27 = .ok (.iload_n 3, 1) := by decide +kernel
theorem dX0_setWinding_28 : decode cX0_setWinding 28 = .ok (.ifCond .eq 7, 3) := by decide +kernel
theorem dX0_setWinding_31 : decode cX0_setWinding 31 = .ok (.iload_n 2, 1) := by decide +kernel
theorem dX0_setWinding_32 : decode cX0_setWinding 32 = .ok (.goto 5, 3) := by decide +kernel
theorem dX0_setWinding_35 : decode cX0_setWinding 35 = .ok (.iload_n 2, 1) := by decide +kernel
theorem dX0_setWinding_36 : decode cX0_setWinding 36 = .ok (.ineg, 1) := by decide +kernel
theorem dX0_setWinding_37 : decode cX0_setWinding 37 = .ok (.istore 4, 2) := by decide +kernel
theorem dX0_setWinding_39 : decode cX0_setWinding 39 = .ok (.iload_n 1, 1) := by decide +kernel
theorem dX0_setWinding_40 : decode cX0_setWinding 40 = .ok (.iconst 1, 1) := by decide +kernel
theorem dX0_setWinding_41 : decode cX0_setWinding 41 = .ok (.if_icmp .ne 16, 3) := by decide +kernel
theorem dX0_setWinding_44 : decode cX0_setWinding 44 = .ok (.aload_n 0, 1) := by decide +kernel
theorem dX0_setWinding_45 : decode cX0_setWinding 45 = .ok (.iload 4, 2) := by decide +kernel
theorem dX0_setWinding_47 : decode cX0_setWinding 47 = .ok (.invokevirtual 25, 3) := by decide +kernel
theorem dX0_setWinding_50 : decode cX0_setWinding 50 = .ok (.ifCond .ne 7, 3) := by decide +kernel
theorem dX0_setWinding_53 : decode cX0_setWinding 53 = .ok (.sipush (-1003), 3) := by decide +kernel
theorem dX0_setWinding_56 : decode cX0_setWinding 56 = .ok (.ireturn, 1) := by decide +kernel
theorem dX0_setWinding_57 : decode cX0_setWinding 57 = .ok (.aload_n 0, 1) := by decide +kernel
theorem dX0_setWinding_58 : decode cX0_setWinding 58 = .ok (.iload_n 1, 1) := by decide +kernel
theorem dX0_setWinding_59 : decode cX0_setWinding 59 = .ok (.iload_n 2, 1) := by decide +kernel
theorem dX0_setWinding_60 : decode cX0_setWinding 60 = .ok (.iload_n 3, 1) := by decide +kernel
theorem dX0_setWinding_61 : decode cX0_setWinding 61 = .ok (.iload_n 1, 1) := by decide +kernel
theorem dX0_setWinding_62 : decode cX0_setWinding 62 = .ok (.iconst 1, 1) := by decide +kernel
theorem dX0_setWinding_63 : decode cX0_setWinding 63 = .ok (.if_icmp .ne 12, 3) := by decide +kernel
theorem dX0_setWinding_66 : decode cX0_setWinding 66 = .ok (.aload_n 0, 1) := by decide +kernel
theorem dX0_setWinding_67 : decode cX0_setWinding 67 = .ok (.iload 4, 2) := by decide +kernel
theorem dX0_setWinding_69 : decode cX0_setWinding 69 = .ok (.invokevirtual 29, 3) := by decide +kernel
theorem dX0_setWinding_72 : decode cX0_setWinding 72 = .ok (.goto 5, 3) := by decide +kernel
theorem dX0_setWinding_75 : decode cX0_setWinding 75 = .ok (.iload 4, 2) := by decide +kernel
theorem dX0_setWinding_77 : decode cX0_setWinding 77 = .ok (.invokevirtual 33, 3) := by decide +kernel
theorem dX0_setWinding_80 : decode cX0_setWinding 80 = .ok (.aload_n 0, 1) := by decide +kernel
theorem dX0_setWinding_81 : decode cX0_setWinding 81 = .ok (.getfield 37, 3) := by decide +kernel
theorem dX0_setWinding_84 : decode cX0_setWinding 84 = .ok (.ireturn, 1) := by decide +kernel
theorem dX0_setChording_0 : decode cX0_setChording 0 = .ok (.iload_n 1, 1) := by decide +kernel
theorem dX0_setChording_1 : decode cX0_setChording 1 = .ok (.ifCond .lt 8, 3) := by decide +kernel
theorem dX0_setChording_4 : decode cX0_setChording 4 = .ok (.iload_n 1, 1) := by decide +kernel
theorem dX0_setChording_5 : decode cX0_setChording 5 = .ok (.iconst 5, 1) := by decide +kernel
theorem dX0_setChording_6 : decode cX0_setChording 6 = .ok (.if_icmp .le 7, 3) := by decide +kernel
theorem dX0_setChording_9 : decode cX0_setChording 9 = .ok (.sipush (-1001), 3) := by decide +kernel
theorem dX0_setChording_12 : decode cX0_setChording 12 = .ok (.ireturn, 1) := by decide +kernel
theorem dX0_setChording_13 : decode cX0_setChording 13 = .ok (.aload_n 0, 1) := by decide +kernel
theorem dX0_setChording_14 : decode cX0_setChording 14 = .ok (.getfield 40, 3) := by decide +kernel
theorem dX0_setChording_17 : decode cX0_setChording 17 = .ok (.istore_n 2, 1) := by decide +kernel
theorem dX0_setChording_18 : decode cX0_setChording 18 = .ok (.aload_n 0, 1) := by decide +kernel
theorem dX0_setChording_19 : decode cX0_setChording 19 = .ok (.iload_n 1, 1) := by decide +kernel
theorem dX0_setChording_20 : decode cX0_setChording 20 = .ok (.putfield 40, 3) := by decide +kernel
theorem dX0_setChording_23 : decode cX0_setChording 23 = .ok (.iload_n 2, 1) := by decide +kernel
theorem dX0_setChording_24 : decode cX0_setChording 24 = .ok (.ireturn, 1) := by decide +kernel
set_option maxRecDepth 20000 in
theorem ggX0_setOpen_X0_openMark : GoodIn wsX0_setOpen wsX0_openMark := goodIn_r _ [7, 8, 9, 10, 6, 11, 2, 12, 13, 14, 15, 16, 17, 18, 19, 20, 21, 22] (by decide +kernel) (by decide +kernel)
set_option maxRecDepth 20000 in
theorem gX0_setOpen_X0_openMark : GoodIn wsX0_setOpen (wsV RX0 43 RX0 yX0_openMark wsX0_openMark) := goodIn_app (goodIn_of _ (by decide +kernel)) ggX0_setOpen_X0_openMark
theorem dX0_setOpen_0 : decode cX0_setOpen 0 = .ok (.iload_n 1, 1) := by decide +kernel
theorem dX0_setOpen_1 : decode cX0_setOpen 1 = .ok (.ifCond .lt 20, 3) := by decide +kernel
theorem dX0_setOpen_4 : decode cX0_setOpen 4 = .ok (.iload_n 1, 1) := by decide +kernel
theorem dX0_setOpen_5 : decode cX0_setOpen 5 = .ok (.aload_n 0, 1) := by decide +kernel
theorem dX0_setOpen_6 : decode cX0_setOpen 6 = .ok (.getfield 21, 3) := by decide +kernel
theorem dX0_setOpen_9 : decode cX0_setOpen 9 = .ok (.if_icmp .ge 12, 3) := by decide +kernel
theorem dX0_setOpen_12 : decode cX0_setOpen 12 = .ok (.iload_n 1, 1) := by decide +kernel
theorem dX0_setOpen_13 : decode cX0_setOpen 13 = .ok (.aload_n 0, 1) := by decide +kernel
theorem dX0_setOpen_14 : decode cX0_setOpen 14 = .ok (.getfield 9, 3) := by decide +kernel
theorem dX0_setOpen_17 : decode cX0_setOpen 17 = .ok (.arraylength, 1) := by decide +kernel
theorem dX0_setOpen_18 : decode cX0_setOpen 18 = .ok (.if_icmp .lt 7, 3) := by decide +kernel
theorem dX0_setOpen_21 : decode cX0_setOpen 21 = .ok (.sipush (-1002), 3) := by decide +kernel
theorem dX0_setOpen_24 : decode cX0_setOpen 24 = .ok (.ireturn, 1) := by decide +kernel
theorem dX0_setOpen_25 : decode cX0_setOpen 25 = .ok (.aload_n 0, 1) := by decide +kernel
theorem dX0_setOpen_26 : decode cX0_setOpen 26 = .ok (.iload_n 1, 1) := by decide +kernel
theorem dX0_setOpen_27 : decode cX0_setOpen 27 = .ok (.invokevirtual 43, 3) := by decide +kernel
theorem dX0_setOpen_30 : decode cX0_setOpen 30 = .ok (.istore_n 3, 1) := by decide +kernel
theorem dX0_setOpen_31 : decode cX0_setOpen 31 = .ok (.aload_n 0, 1) := by decide +kernel
theorem dX0_setOpen_32 : decode cX0_setOpen 32 = .ok (.getfield 9, 3) := by decide +kernel
theorem dX0_setOpen_35 : decode cX0_setOpen 35 = .ok (.iload_n 1, 1) := by decide +kernel
theorem dX0_setOpen_36 : decode cX0_setOpen 36 = .ok (.iload_n 2, 1) := by decide +kernel
theorem dX0_setOpen_37 : decode cX0_setOpen 37 = .ok (.bastore, 1) := by decide +kernel
theorem dX0_setOpen_38 : decode cX0_setOpen 38 = .ok (.iload_n 3, 1) := by decide +kernel
theorem dX0_setOpen_39 : decode cX0_setOpen 39 = .ok (.ireturn, 1) := by decide +kernel
set_option maxRecDepth 20000 in
theorem ggX0_layArmature_X0_placeBrushes : GoodIn wsX0_layArmature wsX0_placeBrushes := goodIn_r _ [11, 12, 1, 13, 14, 15, 10, 16, 4, 25, 26, 27, 28, 29, 30, 31, 32, 33, 34, 35] (by decide +kernel) (by decide +kernel)
set_option maxRecDepth 20000 in
theorem gX0_layArmature_X0_placeBrushes : GoodIn wsX0_layArmature (wsV RX0 55 RX0 yX0_placeBrushes wsX0_placeBrushes) := goodIn_app (goodIn_of _ (by decide +kernel)) ggX0_layArmature_X0_placeBrushes
set_option maxRecDepth 20000 in
theorem ggX0_layArmature_X0_layWinding : GoodIn wsX0_layArmature wsX0_layWinding := goodIn_r _ [20, 21, 22, 23, 24, 25, 26, 27, 28, 29, 30, 31, 32, 33, 34, 35] (by decide +kernel) (by decide +kernel)
set_option maxRecDepth 20000 in
theorem gX0_layArmature_X0_layWinding : GoodIn wsX0_layArmature (wsV RX0 33 RX0 yX0_layWinding wsX0_layWinding) := goodIn_app (goodIn_of _ (by decide +kernel)) ggX0_layArmature_X0_layWinding
theorem dX0_layArmature_0 : decode cX0_layArmature 0 = .ok (.aload_n 0, 1) := by decide +kernel
theorem dX0_layArmature_1 : decode cX0_layArmature 1 = .ok (.iload_n 1, 1) := by decide +kernel
theorem dX0_layArmature_2 : decode cX0_layArmature 2 = .ok (.putfield 46, 3) := by decide +kernel
theorem dX0_layArmature_5 : decode cX0_layArmature 5 = .ok (.aload_n 0, 1) := by decide +kernel
theorem dX0_layArmature_6 : decode cX0_layArmature 6 = .ok (.iload_n 2, 1) := by decide +kernel
theorem dX0_layArmature_7 : decode cX0_layArmature 7 = .ok (.putfield 49, 3) := by decide +kernel
theorem dX0_layArmature_10 : decode cX0_layArmature 10 = .ok (.aload_n 0, 1) := by decide +kernel
theorem dX0_layArmature_11 : decode cX0_layArmature 11 = .ok (.iload_n 3, 1) := by decide +kernel
theorem dX0_layArmature_12 : decode cX0_layArmature 12 = .ok (.putfield 52, 3) := by decide +kernel
theorem dX0_layArmature_15 : decode cX0_layArmature 15 = .ok (.aload_n 0, 1) := by decide +kernel
theorem dX0_layArmature_16 : decode cX0_layArmature 16 = .ok (.iload_n 2, 1) := by decide +kernel
theorem dX0_layArmature_17 : decode cX0_layArmature 17 = .ok (.iload_n 3, 1) := by decide +kernel
theorem dX0_layArmature_18 : decode cX0_layArmature 18 = .ok (.imul, 1) := by decide +kernel
theorem dX0_layArmature_19 : decode cX0_layArmature 19 = .ok (.putfield 21, 3) := by decide +kernel
theorem dX0_layArmature_22 : decode cX0_layArmature 22 = .ok (.aload_n 0, 1) := by decide +kernel
theorem dX0_layArmature_23 : decode cX0_layArmature 23 = .ok (.iconst 0, 1) := by decide +kernel
theorem dX0_layArmature_24 : decode cX0_layArmature 24 = .ok (.putfield 40, 3) := by decide +kernel
theorem dX0_layArmature_27 : decode cX0_layArmature 27 = .ok (.iconst 0, 1) := by decide +kernel
theorem dX0_layArmature_28 : decode cX0_layArmature 28 = .ok (.istore 4, 2) := by decide +kernel
theorem dX0_layArmature_30 : decode cX0_layArmature 30 = .ok (.iload 4, 2) := by decide +kernel
theorem dX0_layArmature_32 : decode cX0_layArmature 32 = .ok (.aload_n 0, 1) := by decide +kernel
theorem dX0_layArmature_33 : decode cX0_layArmature 33 = .ok (.getfield 9, 3) := by decide +kernel
theorem dX0_layArmature_36 : decode cX0_layArmature 36 = .ok (.arraylength, 1) := by decide +kernel
theorem dX0_layArmature_37 : decode cX0_layArmature 37 = .ok (.if_icmp .ge 17, 3) := by decide +kernel
theorem dX0_layArmature_40 : decode cX0_layArmature 40 = .ok (.aload_n 0, 1) := by decide +kernel
theorem dX0_layArmature_41 : decode cX0_layArmature 41 = .ok (.getfield 9, 3) := by decide +kernel
theorem dX0_layArmature_44 : decode cX0_layArmature 44 = .ok (.iload 4, 2) := by decide +kernel
theorem dX0_layArmature_46 : decode cX0_layArmature 46 = .ok (.iconst 0, 1) := by decide +kernel
theorem dX0_layArmature_47 : decode cX0_layArmature 47 = .ok (.bastore, 1) := by decide +kernel
theorem dX0_layArmature_48 : decode cX0_layArmature 48 = .ok (.iinc 4 1, 3) := by decide +kernel
theorem dX0_layArmature_51 : decode cX0_layArmature 51 = .ok (.goto (-21), 3) := by decide +kernel
theorem dX0_layArmature_54 : decode cX0_layArmature 54 = .ok (.aload_n 0, 1) := by decide +kernel
theorem dX0_layArmature_55 : decode cX0_layArmature 55 = .ok (.invokevirtual 55, 3) := by decide +kernel
theorem dX0_layArmature_58 : decode cX0_layArmature 58 = .ok (.aload_n 0, 1) := by decide +kernel
theorem dX0_layArmature_59 : decode cX0_layArmature 59 = .ok (.iconst 0, 1) := by decide +kernel
theorem dX0_layArmature_60 : decode cX0_layArmature 60 = .ok (.iconst 1, 1) := by decide +kernel
theorem dX0_layArmature_61 : decode cX0_layArmature 61 = .ok (.iconst 1, 1) := by decide +kernel
theorem dX0_layArmature_62 : decode cX0_layArmature 62 = .ok (.iconst 1, 1) := by decide +kernel
theorem dX0_layArmature_63 : decode cX0_layArmature 63 = .ok (.invokevirtual 33, 3) := by decide +kernel
theorem dX0_layArmature_66 : decode cX0_layArmature 66 = .ok (.return_, 1) := by decide +kernel
theorem dX0_layWinding_0 : decode cX0_layWinding 0 = .ok (.aload_n 0, 1) := by decide +kernel
theorem dX0_layWinding_1 : decode cX0_layWinding 1 = .ok (.iload_n 1, 1) := by decide +kernel
theorem dX0_layWinding_2 : decode cX0_layWinding 2 = .ok (.putfield 58, 3) := by decide +kernel
theorem dX0_layWinding_5 : decode cX0_layWinding 5 = .ok (.aload_n 0, 1) := by decide +kernel
theorem dX0_layWinding_6 : decode cX0_layWinding 6 = .ok (.iload_n 2, 1) := by decide +kernel
theorem dX0_layWinding_7 : decode cX0_layWinding 7 = .ok (.putfield 61, 3) := by decide +kernel
theorem dX0_layWinding_10 : decode cX0_layWinding 10 = .ok (.aload_n 0, 1) := by decide +kernel
theorem dX0_layWinding_11 : decode cX0_layWinding 11 = .ok (.iload_n 3, 1) := by decide +kernel
theorem dX0_layWinding_12 : decode cX0_layWinding 12 = .ok (.putfield 64, 3) := by decide +kernel
theorem dX0_layWinding_15 : decode cX0_layWinding 15 = .ok (.aload_n 0, 1) := by decide +kernel
theorem dX0_layWinding_16 : decode cX0_layWinding 16 = .ok (.iload 4, 2) := by decide +kernel
theorem dX0_layWinding_18 : decode cX0_layWinding 18 = .ok (.putfield 37, 3) := by decide +kernel
theorem dX0_layWinding_21 : decode cX0_layWinding 21 = .ok (.return_, 1) := by decide +kernel
set_option maxRecDepth 20000 in
theorem ggX0_placeBrushes_X0_brushBar : GoodIn wsX0_placeBrushes wsX0_brushBar := goodIn_r _ [7, 2, 8, 9, 10, 11, 12, 13, 14, 15, 16, 17, 18, 19] (by decide +kernel) (by decide +kernel)
set_option maxRecDepth 20000 in
theorem gX0_placeBrushes_X0_brushBar : GoodIn wsX0_placeBrushes (wsV RX0 68 RX0 yX0_brushBar wsX0_brushBar) := goodIn_app (goodIn_of _ (by decide +kernel)) ggX0_placeBrushes_X0_brushBar
theorem dX0_placeBrushes_0 : decode cX0_placeBrushes 0 = .ok (.iconst 0, 1) := by decide +kernel
theorem dX0_placeBrushes_1 : decode cX0_placeBrushes 1 = .ok (.istore_n 1, 1) := by decide +kernel
theorem dX0_placeBrushes_2 : decode cX0_placeBrushes 2 = .ok (.iload_n 1, 1) := by decide +kernel
theorem dX0_placeBrushes_3 : decode cX0_placeBrushes 3 = .ok (.aload_n 0, 1) := by decide +kernel
theorem dX0_placeBrushes_4 : decode cX0_placeBrushes 4 = .ok (.getfield 13, 3) := by decide +kernel
theorem dX0_placeBrushes_7 : decode cX0_placeBrushes 7 = .ok (.arraylength, 1) := by decide +kernel
theorem dX0_placeBrushes_8 : decode cX0_placeBrushes 8 = .ok (.if_icmp .ge 18, 3) := by decide +kernel
theorem dX0_placeBrushes_11 : decode cX0_placeBrushes 11 = .ok (.aload_n 0, 1) := by decide +kernel
theorem dX0_placeBrushes_12 : decode cX0_placeBrushes 12 = .ok (.getfield 13, 3) := by decide +kernel
theorem dX0_placeBrushes_15 : decode cX0_placeBrushes 15 = .ok (.iload_n 1, 1) := by decide +kernel
theorem dX0_placeBrushes_16 : decode cX0_placeBrushes 16 = .ok (.sipush (-1004), 3) := by decide +kernel
theorem dX0_placeBrushes_19 : decode cX0_placeBrushes 19 = .ok (.iastore, 1) := by decide +kernel
theorem dX0_placeBrushes_20 : decode cX0_placeBrushes 20 = .ok (.iinc 1 1, 3) := by decide +kernel
theorem dX0_placeBrushes_23 : decode cX0_placeBrushes 23 = .ok (.goto (-21), 3) := by decide +kernel
theorem dX0_placeBrushes_26 : decode cX0_placeBrushes 26 = .ok (.aload_n 0, 1) := by decide +kernel
theorem dX0_placeBrushes_27 : decode cX0_placeBrushes 27 = .ok (.getfield 46, 3) := by decide +kernel
theorem dX0_placeBrushes_30 : decode cX0_placeBrushes 30 = .ok (.iconst 1, 1) := by decide +kernel
theorem dX0_placeBrushes_31 : decode cX0_placeBrushes 31 = .ok (.isub, 1) := by decide +kernel
theorem dX0_placeBrushes_32 : decode cX0_placeBrushes 32 = .ok (.istore_n 1, 1) := by decide +kernel
theorem dX0_placeBrushes_33 : decode cX0_placeBrushes 33 = .ok (.iload_n 1, 1) := by decide +kernel
theorem dX0_placeBrushes_34 : decode cX0_placeBrushes 34 = .ok (.ifCond .lt 35, 3) := by decide +kernel
theorem dX0_placeBrushes_37 : decode cX0_placeBrushes 37 = .ok (.aload_n 0, 1) := by decide +kernel
theorem dX0_placeBrushes_38 : decode cX0_placeBrushes 38 = .ok (.iload_n 1, 1) := by decide +kernel
theorem dX0_placeBrushes_39 : decode cX0_placeBrushes 39 = .ok (.invokevirtual 68, 3) := by decide +kernel
theorem dX0_placeBrushes_42 : decode cX0_placeBrushes 42 = .ok (.istore_n 2, 1) := by decide +kernel
theorem dX0_placeBrushes_43 : decode cX0_placeBrushes 43 = .ok (.iload_n 2, 1) := by decide +kernel
theorem dX0_placeBrushes_44 : decode cX0_placeBrushes 44 = .ok (.ifCond .lt 19, 3) := by decide +kernel
theorem dX0_placeBrushes_47 : decode cX0_placeBrushes 47 = .ok (.iload_n 2, 1) := by decide +kernel
theorem dX0_placeBrushes_48 : decode cX0_placeBrushes 48 = .ok (.aload_n 0, 1) := by decide +kernel
theorem dX0_placeBrushes_49 : decode cX0_placeBrushes 49 = .ok (.getfield 13, 3) := by decide +kernel
theorem dX0_placeBrushes_52 : decode cX0_placeBrushes 52 = .ok (.arraylength, 1) := by decide +kernel
theorem dX0_placeBrushes_53 : decode cX0_placeBrushes 53 = .ok (.if_icmp .ge 10, 3) := by decide +kernel
theorem dX0_placeBrushes_56 : decode cX0_placeBrushes 56 = .ok (.aload_n 0, 1) := by decide +kernel
theorem dX0_placeBrushes_57 : decode cX0_placeBrushes 57 = .ok (.getfield 13, 3) := by decide +kernel
theorem dX0_placeBrushes_60 : decode cX0_placeBrushes 60 = .ok (.iload_n 2, 1) := by decide +kernel
theorem dX0_placeBrushes_61 : decode cX0_placeBrushes 61 = .ok (.iload_n 1, 1) := by decide +kernel
theorem dX0_placeBrushes_62 : decode cX0_placeBrushes 62 = .ok (.iastore, 1) := by decide +kernel
theorem dX0_placeBrushes_63 : decode cX0_placeBrushes 63 = .ok (.iinc 1 (-1), 3) := by decide +kernel
theorem dX0_placeBrushes_66 : decode cX0_placeBrushes 66 = .ok (.goto (-33), 3) := by decide +kernel
theorem dX0_placeBrushes_69 : decode cX0_placeBrushes 69 = .ok (.return_, 1) := by decide +kernel
theorem dX0_wavePitch_0 : decode cX0_wavePitch 0 = .ok (.aload_n 0, 1) := by decide +kernel
theorem dX0_wavePitch_1 : decode cX0_wavePitch 1 = .ok (.getfield 46, 3) := by decide +kernel
theorem dX0_wavePitch_4 : decode cX0_wavePitch 4 = .ok (.iconst 2, 1) := by decide +kernel
theorem dX0_wavePitch_5 : decode cX0_wavePitch 5 = .ok (.idiv, 1) := by decide +kernel
theorem dX0_wavePitch_6 : decode cX0_wavePitch 6 = .ok (.istore_n 2, 1) := by decide +kernel
theorem dX0_wavePitch_7 : decode cX0_wavePitch 7 = .ok (.iload_n 2, 1) := by decide +kernel
theorem dX0_wavePitch_8 : decode cX0_wavePitch 8 = .ok (.ifCond .le 14, 3) := by decide +kernel
theorem dX0_wavePitch_11 : decode cX0_wavePitch 11 = .ok (.aload_n 0, 1) := by decide +kernel
theorem dX0_wavePitch_12 : decode cX0_wavePitch 12 = .ok (.getfield 21, 3) := by decide +kernel
theorem dX0_wavePitch_15 : decode cX0_wavePitch 15 = .ok (.iload_n 1, 1) := by decide +kernel
theorem dX0_wavePitch_16 : decode cX0_wavePitch 16 = .ok (.iadd, 1) := by decide +kernel
theorem dX0_wavePitch_17 : decode cX0_wavePitch 17 = .ok (.iload_n 2, 1) := by decide +kernel
theorem dX0_wavePitch_18 : decode cX0_wavePitch 18 = .ok (.idiv, 1) := by decide +kernel
theorem dX0_wavePitch_19 : decode cX0_wavePitch 19 = .ok (.goto 4, 3) := by decide +kernel
theorem dX0_wavePitch_22 : decode cX0_wavePitch 22 = .ok (.iconst 0, 1) := by decide +kernel
theorem dX0_wavePitch_23 : decode cX0_wavePitch 23 = .ok (.ireturn, 1) := by decide +kernel
set_option maxRecDepth 20000 in
theorem ggX0_isWavePossible_X0_wavePitch : GoodIn wsX0_isWavePossible wsX0_wavePitch := goodIn_r _ [7, 1, 2, 8, 9, 10, 11, 12, 13, 14, 15, 16, 17, 18] (by decide +kernel) (by decide +kernel)
set_option maxRecDepth 20000 in
theorem gX0_isWavePossible_X0_wavePitch : GoodIn wsX0_isWavePossible (wsV RX0 29 RX0 yX0_wavePitch wsX0_wavePitch) := goodIn_app (goodIn_of _ (by decide +kernel)) ggX0_isWavePossible_X0_wavePitch
theorem dX0_isWavePossible_0 : decode cX0_isWavePossible 0 = .ok (.aload_n 0, 1) := by decide +kernel
theorem dX0_isWavePossible_1 : decode cX0_isWavePossible 1 = .ok (.iload_n 1, 1) := by decide +kernel
theorem dX0_isWavePossible_2 : decode cX0_isWavePossible 2 = .ok (.invokevirtual 29, 3) := by decide +kernel
theorem dX0_isWavePossible_5 : decode cX0_isWavePossible 5 = .ok (.aload_n 0, 1) := by decide +kernel
theorem dX0_isWavePossible_6 : decode cX0_isWavePossible 6 = .ok (.getfield 46, 3) := by decide +kernel
theorem dX0_isWavePossible_9 : decode cX0_isWavePossible 9 = .ok (.iconst 2, 1) := by decide +kernel
theorem dX0_isWavePossible_10 : decode cX0_isWavePossible 10 = .ok (.idiv, 1) := by decide +kernel
theorem dX0_isWavePossible_11 : decode cX0_isWavePossible 11 = .ok (.imul, 1) := by decide +kernel
theorem dX0_isWavePossible_12 : decode cX0_isWavePossible 12 = .ok (.aload_n 0, 1) := by decide +kernel
theorem dX0_isWavePossible_13 : decode cX0_isWavePossible 13 = .ok (.getfield 21, 3) := by decide +kernel
theorem dX0_isWavePossible_16 : decode cX0_isWavePossible 16 = .ok (.iload_n 1, 1) := by decide +kernel
theorem dX0_isWavePossible_17 : decode cX0_isWavePossible 17 = .ok (.iadd, 1) := by decide +kernel
theorem dX0_isWavePossible_18 : decode cX0_isWavePossible 18 = .ok (.if_icmp .ne 7, 3) := by decide +kernel
theorem dX0_isWavePossible_21 : decode cX0_isWavePossible 21 = .ok (.iconst 1, 1) := by decide +kernel
theorem dX0_isWavePossible_22 : decode cX0_isWavePossible 22 = .ok (.goto 4, 3) := by decide +kernel
theorem dX0_isWavePossible_25 : decode cX0_isWavePossible 25 = .ok (.iconst 0, 1) := by decide +kernel
theorem dX0_isWavePossible_26 : decode cX0_isWavePossible 26 = .ok (.ireturn, 1) := by decide +kernel
theorem dX0_coilCount_0 : decode cX0_coilCount 0 = .ok (.aload_n 0, 1) := by decide +kernel
theorem dX0_coilCount_1 : decode cX0_coilCount 1 = .ok (.getfield 21, 3) := by decide +kernel
theorem dX0_coilCount_4 : decode cX0_coilCount 4 = .ok (.ireturn, 1) := by decide +kernel
theorem dX0_slotPitch_0 : decode cX0_slotPitch 0 = .ok (.aload_n 0, 1) := by decide +kernel
theorem dX0_slotPitch_1 : decode cX0_slotPitch 1 = .ok (.getfield 46, 3) := by decide +kernel
theorem dX0_slotPitch_4 : decode cX0_slotPitch 4 = .ok (.ifCond .le 15, 3) := by decide +kernel
theorem dX0_slotPitch_7 : decode cX0_slotPitch 7 = .ok (.aload_n 0, 1) := by decide +kernel
theorem dX0_slotPitch_8 : decode cX0_slotPitch 8 = .ok (.getfield 49, 3) := by decide +kernel
theorem dX0_slotPitch_11 : decode cX0_slotPitch 11 = .ok (.aload_n 0, 1) := by decide +kernel
theorem dX0_slotPitch_12 : decode cX0_slotPitch 12 = .ok (.getfield 46, 3) := by decide +kernel
theorem dX0_slotPitch_15 : decode cX0_slotPitch 15 = .ok (.idiv, 1) := by decide +kernel
theorem dX0_slotPitch_16 : decode cX0_slotPitch 16 = .ok (.goto 4, 3) := by decide +kernel
theorem dX0_slotPitch_19 : decode cX0_slotPitch 19 = .ok (.iconst 0, 1) := by decide +kernel
theorem dX0_slotPitch_20 : decode cX0_slotPitch 20 = .ok (.istore_n 1, 1) := by decide +kernel
theorem dX0_slotPitch_21 : decode cX0_slotPitch 21 = .ok (.iload_n 1, 1) := by decide +kernel
theorem dX0_slotPitch_22 : decode cX0_slotPitch 22 = .ok (.aload_n 0, 1) := by decide +kernel
theorem dX0_slotPitch_23 : decode cX0_slotPitch 23 = .ok (.getfield 40, 3) := by decide +kernel
theorem dX0_slotPitch_26 : decode cX0_slotPitch 26 = .ok (.isub, 1) := by decide +kernel
theorem dX0_slotPitch_27 : decode cX0_slotPitch 27 = .ok (.istore_n 2, 1) := by decide +kernel
theorem dX0_slotPitch_28 : decode cX0_slotPitch 28 = .ok (.iload_n 2, 1) := by decide +kernel
theorem dX0_slotPitch_29 : decode cX0_slotPitch 29 = .ok (.iconst 1, 1) := by decide +kernel
theorem dX0_slotPitch_30 : decode cX0_slotPitch 30 = .ok (.if_icmp .ge 7, 3) := by decide +kernel
theorem dX0_slotPitch_33 : decode cX0_slotPitch 33 = .ok (.iconst 1, 1) := by decide +kernel
theorem dX0_slotPitch_34 : decode cX0_slotPitch 34 = .ok (.goto 4, 3) := by decide +kernel
theorem dX0_slotPitch_37 : decode cX0_slotPitch 37 = .ok (.iload_n 2, 1) := by decide +kernel
theorem dX0_slotPitch_38 : decode cX0_slotPitch 38 = .ok (.ireturn, 1) := by decide +kernel
set_option maxRecDepth 20000 in
theorem ggX0_endBar_X0_wrap : GoodIn wsX0_endBar wsX0_wrap := goodIn_r _ [6] (by decide +kernel) (by decide +kernel)
set_option maxRecDepth 20000 in
theorem gX0_endBar_X0_wrap : GoodIn wsX0_endBar (va_wsS RX0 71 yX0_wrap wsX0_wrap) := goodIn_app (goodIn_of _ (by decide +kernel)) ggX0_endBar_X0_wrap
theorem dX0_endBar_0 : decode cX0_endBar 0 = .ok (.iload_n 1, 1) := by decide +kernel
theorem dX0_endBar_1 : decode cX0_endBar 1 = .ok (.ifCond .lt 11, 3) := by decide +kernel
theorem dX0_endBar_4 : decode cX0_endBar 4 = .ok (.iload_n 1, 1) := by decide +kernel
theorem dX0_endBar_5 : decode cX0_endBar 5 = .ok (.aload_n 0, 1) := by decide +kernel
theorem dX0_endBar_6 : decode cX0_endBar 6 = .ok (.getfield 21, 3) := by decide +kernel
theorem dX0_endBar_9 : decode cX0_endBar 9 = .ok (.if_icmp .lt 7, 3) := by decide +kernel
theorem dX0_endBar_12 : decode cX0_endBar 12 = .ok (.sipush (-1002), 3) := by decide +kernel
theorem dX0_endBar_15 : decode cX0_endBar 15 = .ok (.ireturn, 1) := by decide +kernel
theorem dX0_endBar_16 : decode cX0_endBar 16 = .ok (.iload_n 1, 1) := by decide +kernel
theorem dX0_endBar_17 : decode cX0_endBar 17 = .ok (.aload_n 0, 1) := by decide +kernel
theorem dX0_endBar_18 : decode cX0_endBar 18 = .ok (.getfield 37, 3) := by decide +kernel
theorem dX0_endBar_21 : decode cX0_endBar 21 = .ok (.iadd, 1) := by decide +kernel
theorem dX0_endBar_22 : decode cX0_endBar 22 = .ok (.aload_n 0, 1) := by decide +kernel
theorem dX0_endBar_23 : decode cX0_endBar 23 = .ok (.getfield 21, 3) := by decide +kernel
theorem dX0_endBar_26 : decode cX0_endBar 26 = .ok (.invokestatic 71, 3) := by decide +kernel
theorem dX0_endBar_29 : decode cX0_endBar 29 = .ok (.ireturn, 1) := by decide +kernel
set_option maxRecDepth 20000 in
theorem ggX0_coilEndingAt_X0_wrap : GoodIn wsX0_coilEndingAt wsX0_wrap := goodIn_r _ [6] (by decide +kernel) (by decide +kernel)
set_option maxRecDepth 20000 in
theorem gX0_coilEndingAt_X0_wrap : GoodIn wsX0_coilEndingAt (va_wsS RX0 71 yX0_wrap wsX0_wrap) := goodIn_app (goodIn_of _ (by decide +kernel)) ggX0_coilEndingAt_X0_wrap
theorem dX0_coilEndingAt_0 : decode cX0_coilEndingAt 0 = .ok (.iload_n 1, 1) := by decide +kernel
theorem dX0_coilEndingAt_1 : decode cX0_coilEndingAt 1 = .ok (.ifCond .lt 11, 3) := by decide +kernel
theorem dX0_coilEndingAt_4 : decode cX0_coilEndingAt 4 = .ok (.iload_n 1, 1) := by decide +kernel
theorem dX0_coilEndingAt_5 : decode cX0_coilEndingAt 5 = .ok (.aload_n 0, 1) := by decide +kernel
theorem dX0_coilEndingAt_6 : decode cX0_coilEndingAt 6 = .ok (.getfield 21, 3) := by decide +kernel
theorem dX0_coilEndingAt_9 : decode cX0_coilEndingAt 9 = .ok (.if_icmp .lt 7, 3) := by decide +kernel
theorem dX0_coilEndingAt_12 : decode cX0_coilEndingAt 12 = .ok (.sipush (-1002), 3) := by decide +kernel
theorem dX0_coilEndingAt_15 : decode cX0_coilEndingAt 15 = .ok (.ireturn, 1) := by decide +kernel
theorem dX0_coilEndingAt_16 : decode cX0_coilEndingAt 16 = .ok (.iload_n 1, 1) := by decide +kernel
theorem dX0_coilEndingAt_17 : decode cX0_coilEndingAt 17 = .ok (.aload_n 0, 1) := by decide +kernel
theorem dX0_coilEndingAt_18 : decode cX0_coilEndingAt 18 = .ok (.getfield 37, 3) := by decide +kernel
theorem dX0_coilEndingAt_21 : decode cX0_coilEndingAt 21 = .ok (.isub, 1) := by decide +kernel
theorem dX0_coilEndingAt_22 : decode cX0_coilEndingAt 22 = .ok (.aload_n 0, 1) := by decide +kernel
theorem dX0_coilEndingAt_23 : decode cX0_coilEndingAt 23 = .ok (.getfield 21, 3) := by decide +kernel
theorem dX0_coilEndingAt_26 : decode cX0_coilEndingAt 26 = .ok (.invokestatic 71, 3) := by decide +kernel
theorem dX0_coilEndingAt_29 : decode cX0_coilEndingAt 29 = .ok (.ireturn, 1) := by decide +kernel
theorem dX0_upperSlot_0 : decode cX0_upperSlot 0 = .ok (.iload_n 1, 1) := by decide +kernel
theorem dX0_upperSlot_1 : decode cX0_upperSlot 1 = .ok (.ifCond .lt 18, 3) := by decide +kernel
theorem dX0_upperSlot_4 : decode cX0_upperSlot 4 = .ok (.iload_n 1, 1) := by decide +kernel
theorem dX0_upperSlot_5 : decode cX0_upperSlot 5 = .ok (.aload_n 0, 1) := by decide +kernel
theorem dX0_upperSlot_6 : decode cX0_upperSlot 6 = .ok (.getfield 21, 3) := by decide +kernel
theorem dX0_upperSlot_9 : decode cX0_upperSlot 9 = .ok (.if_icmp .ge 10, 3) := by decide +kernel
theorem dX0_upperSlot_12 : decode cX0_upperSlot 12 = .ok (.aload_n 0, 1) := by decide +kernel
theorem dX0_upperSlot_13 : decode cX0_upperSlot 13 = .ok (.getfield 52, 3) := by decide +kernel
theorem dX0_upperSlot_16 : decode cX0_upperSlot 16 = .ok (.ifCond .gt 7, 3) := by decide +kernel
theorem dX0_upperSlot_19 : decode cX0_upperSlot 19 = .ok (.sipush (-1002), 3) := by decide +kernel
theorem dX0_upperSlot_22 : decode cX0_upperSlot 22 = .ok (.ireturn, 1) := by decide +kernel
theorem dX0_upperSlot_23 : decode cX0_upperSlot 23 = .ok (.iload_n 1, 1) := by decide +kernel
theorem dX0_upperSlot_24 : decode cX0_upperSlot 24 = .ok (.aload_n 0, 1) := by decide +kernel
theorem dX0_upperSlot_25 : decode cX0_upperSlot 25 = .ok (.getfield 52, 3) := by decide +kernel
theorem dX0_upperSlot_28 : decode cX0_upperSlot 28 = .ok (.idiv, 1) := by decide +kernel
theorem dX0_upperSlot_29 : decode cX0_upperSlot 29 = .ok (.ireturn, 1) := by decide +kernel
set_option maxRecDepth 20000 in
theorem ggX0_lowerSlot_X0_upperSlot : GoodIn wsX0_lowerSlot wsX0_upperSlot := goodIn_r _ [7, 1, 8, 18, 19, 20, 21, 22, 23, 24, 25, 26, 27, 28] (by decide +kernel) (by decide +kernel)
set_option maxRecDepth 20000 in
theorem gX0_lowerSlot_X0_upperSlot : GoodIn wsX0_lowerSlot (wsV RX0 75 RX0 yX0_upperSlot wsX0_upperSlot) := goodIn_app (goodIn_of _ (by decide +kernel)) ggX0_lowerSlot_X0_upperSlot
set_option maxRecDepth 20000 in
theorem ggX0_lowerSlot_X0_slotPitch : GoodIn wsX0_lowerSlot wsX0_slotPitch := goodIn_r _ [12, 13, 2, 14, 18, 19, 20, 21, 22, 23, 24, 25, 26, 27, 28] (by decide +kernel) (by decide +kernel)
set_option maxRecDepth 20000 in
theorem gX0_lowerSlot_X0_slotPitch : GoodIn wsX0_lowerSlot (wsV RX0 78 RX0 yX0_slotPitch wsX0_slotPitch) := goodIn_app (goodIn_of _ (by decide +kernel)) ggX0_lowerSlot_X0_slotPitch
set_option maxRecDepth 20000 in
theorem ggX0_lowerSlot_X0_wrap : GoodIn wsX0_lowerSlot wsX0_wrap := goodIn_r _ [17] (by decide +kernel) (by decide +kernel)
set_option maxRecDepth 20000 in
theorem gX0_lowerSlot_X0_wrap : GoodIn wsX0_lowerSlot (va_wsS RX0 71 yX0_wrap wsX0_wrap) := goodIn_app (goodIn_of _ (by decide +kernel)) ggX0_lowerSlot_X0_wrap
theorem dX0_lowerSlot_0 : decode cX0_lowerSlot 0 = .ok (.iload_n 1, 1) := by decide +kernel
theorem dX0_lowerSlot_1 : decode cX0_lowerSlot 1 = .ok (.ifCond .lt 11, 3) := by decide +kernel
theorem dX0_lowerSlot_4 : decode cX0_lowerSlot 4 = .ok (.iload_n 1, 1) := by decide +kernel
theorem dX0_lowerSlot_5 : decode cX0_lowerSlot 5 = .ok (.aload_n 0, 1) := by decide +kernel
theorem dX0_lowerSlot_6 : decode cX0_lowerSlot 6 = .ok (.getfield 21, 3) := by decide +kernel
theorem dX0_lowerSlot_9 : decode cX0_lowerSlot 9 = .ok (.if_icmp .lt 7, 3) := by decide +kernel
theorem dX0_lowerSlot_12 : decode cX0_lowerSlot 12 = .ok (.sipush (-1002), 3) := by decide +kernel
theorem dX0_lowerSlot_15 : decode cX0_lowerSlot 15 = .ok (.ireturn, 1) := by decide +kernel
theorem dX0_lowerSlot_16 : decode cX0_lowerSlot 16 = .ok (.aload_n 0, 1) := by decide +kernel
theorem dX0_lowerSlot_17 : decode cX0_lowerSlot 17 = .ok (.iload_n 1, 1) := by decide +kernel
theorem dX0_lowerSlot_18 : decode cX0_lowerSlot 18 = .ok (.invokevirtual 75, 3) := by decide +kernel
theorem dX0_lowerSlot_21 : decode cX0_lowerSlot 21 = .ok (.aload_n 0, 1) := by decide +kernel
theorem dX0_lowerSlot_22 : decode cX0_lowerSlot 22 = .ok (.invokevirtual 78, 3) := by decide +kernel
theorem dX0_lowerSlot_25 : decode cX0_lowerSlot 25 = .ok (.iadd, 1) := by decide +kernel
theorem dX0_lowerSlot_26 : decode cX0_lowerSlot 26 = .ok (.aload_n 0, 1) := by decide +kernel
theorem dX0_lowerSlot_27 : decode cX0_lowerSlot 27 = .ok (.getfield 49, 3) := by decide +kernel
theorem dX0_lowerSlot_30 : decode cX0_lowerSlot 30 = .ok (.invokestatic 71, 3) := by decide +kernel
theorem dX0_lowerSlot_33 : decode cX0_lowerSlot 33 = .ok (.ireturn, 1) := by decide +kernel
set_option maxRecDepth 20000 in
theorem ggX0_openCoilsIn_X0_isOpen : GoodIn wsX0_openCoilsIn wsX0_isOpen := goodIn_r _ [7, 8, 27, 28, 29, 30, 31, 32, 33, 34, 35, 36, 37] (by decide +kernel) (by decide +kernel)
set_option maxRecDepth 20000 in
theorem gX0_openCoilsIn_X0_isOpen : GoodIn wsX0_openCoilsIn (wsV RX0 82 RX0 yX0_isOpen wsX0_isOpen) := goodIn_app (goodIn_of _ (by decide +kernel)) ggX0_openCoilsIn_X0_isOpen
set_option maxRecDepth 20000 in
theorem ggX0_openCoilsIn_X0_upperSlot : GoodIn wsX0_openCoilsIn wsX0_upperSlot := goodIn_r _ [12, 2, 13, 27, 28, 29, 30, 31, 32, 33, 34, 35, 36, 37] (by decide +kernel) (by decide +kernel)
set_option maxRecDepth 20000 in
theorem gX0_openCoilsIn_X0_upperSlot : GoodIn wsX0_openCoilsIn (wsV RX0 75 RX0 yX0_upperSlot wsX0_upperSlot) := goodIn_app (goodIn_of _ (by decide +kernel)) ggX0_openCoilsIn_X0_upperSlot
set_option maxRecDepth 20000 in
theorem ggX0_openCoilsIn_X0_lowerSlot : GoodIn wsX0_openCoilsIn wsX0_lowerSlot := goodIn_r _ [17, 2, 1, 9, 10, 11, 6, 12, 13, 18, 19, 20, 21, 22, 23, 24, 25, 26, 27, 28, 29, 30, 31, 32, 33, 34, 35, 36, 37] (by decide +kernel) (by decide +kernel)
set_option maxRecDepth 20000 in
theorem gX0_openCoilsIn_X0_lowerSlot : GoodIn wsX0_openCoilsIn (wsV RX0 85 RX0 yX0_lowerSlot wsX0_lowerSlot) := goodIn_app (goodIn_of _ (by decide +kernel)) ggX0_openCoilsIn_X0_lowerSlot
theorem dX0_openCoilsIn_0 : decode cX0_openCoilsIn 0 = .ok (.iload_n 1, 1) := by decide +kernel
theorem dX0_openCoilsIn_1 : decode cX0_openCoilsIn 1 = .ok (.ifCond .lt 11, 3) := by decide +kernel
theorem dX0_openCoilsIn_4 : decode cX0_openCoilsIn 4 = .ok (.iload_n 1, 1) := by decide +kernel
theorem dX0_openCoilsIn_5 : decode cX0_openCoilsIn 5 = .ok (.aload_n 0, 1) := by decide +kernel
theorem dX0_openCoilsIn_6 : decode cX0_openCoilsIn 6 = .ok (.getfield 49, 3) := by decide +kernel
theorem dX0_openCoilsIn_9 : decode cX0_openCoilsIn 9 = .ok (.if_icmp .lt 7, 3) := by decide +kernel
theorem dX0_openCoilsIn_12 : decode cX0_openCoilsIn 12 = .ok (.sipush (-1002), 3) := by decide +kernel
theorem dX0_openCoilsIn_15 : decode cX0_openCoilsIn 15 = .ok (.ireturn, 1) := by decide +kernel
theorem dX0_openCoilsIn_16 : decode cX0_openCoilsIn 16 = .ok (.iconst 0, 1) := by decide +kernel
theorem dX0_openCoilsIn_17 : decode cX0_openCoilsIn 17 = .ok (.istore_n 2, 1) := by decide +kernel
theorem dX0_openCoilsIn_18 : decode cX0_openCoilsIn 18 = .ok (.iconst 0, 1) := by decide +kernel
theorem dX0_openCoilsIn_19 : decode cX0_openCoilsIn 19 = .ok (.istore_n 3, 1) := by decide +kernel
theorem dX0_openCoilsIn_20 : decode cX0_openCoilsIn 20 = .ok (.iload_n 3, 1) := by decide +kernel
theorem dX0_openCoilsIn_21 : decode cX0_openCoilsIn 21 = .ok (.aload_n 0, 1) := by decide +kernel
theorem dX0_openCoilsIn_22 : decode cX0_openCoilsIn 22 = .ok (.getfield 21, 3) := by decide +kernel
theorem dX0_openCoilsIn_25 : decode cX0_openCoilsIn 25 = .ok (.if_icmp .ge 38, 3) := by decide +kernel
theorem dX0_openCoilsIn_28 : decode cX0_openCoilsIn 28 = .ok (.aload_n 0, 1) := by decide +kernel
theorem dX0_openCoilsIn_29 : decode cX0_openCoilsIn 29 = .ok (.iload_n 3, 1) := by decide +kernel
theorem dX0_openCoilsIn_30 : decode cX0_openCoilsIn 30 = .ok (.invokevirtual 82, 3) := by decide +kernel
theorem dX0_openCoilsIn_33 : decode cX0_openCoilsIn 33 = .ok (.ifCond .eq 24, 3) := by decide +kernel
theorem dX0_openCoilsIn_36 : decode cX0_openCoilsIn 36 = .ok (.aload_n 0, 1) := by decide +kernel
theorem dX0_openCoilsIn_37 : decode cX0_openCoilsIn 37 = .ok (.iload_n 3, 1) := by decide +kernel
theorem dX0_openCoilsIn_38 : decode cX0_openCoilsIn 38 = .ok (.invokevirtual 75, 3) := by decide +kernel
theorem dX0_openCoilsIn_41 : decode cX0_openCoilsIn 41 = .ok (.iload_n 1, 1) := by decide +kernel
theorem dX0_openCoilsIn_42 : decode cX0_openCoilsIn 42 = .ok (.if_icmp .eq 12, 3) := by decide +kernel
theorem dX0_openCoilsIn_45 : decode cX0_openCoilsIn 45 = .ok (.aload_n 0, 1) := by decide +kernel
theorem dX0_openCoilsIn_46 : decode cX0_openCoilsIn 46 = .ok (.iload_n 3, 1) := by decide +kernel
theorem dX0_openCoilsIn_47 : decode cX0_openCoilsIn 47 = .ok (.invokevirtual 85, 3) := by decide +kernel
theorem dX0_openCoilsIn_50 : decode cX0_openCoilsIn 50 = .ok (.iload_n 1, 1) := by decide +kernel
theorem dX0_openCoilsIn_51 : decode cX0_openCoilsIn 51 = .ok (.if_icmp .ne 6, 3) := by decide +kernel
theorem dX0_openCoilsIn_54 : decode cX0_openCoilsIn 54 = .ok (.iinc 2 1, 3) := by decide +kernel
theorem dX0_openCoilsIn_57 : decode cX0_openCoilsIn 57 = .ok (.iinc 3 1, 3) := by decide +kernel
theorem dX0_openCoilsIn_60 : decode cX0_openCoilsIn 60 = .ok (.goto (-40), 3) := by decide +kernel
theorem dX0_openCoilsIn_63 : decode cX0_openCoilsIn 63 = .ok (.iload_n 2, 1) := by decide +kernel
theorem dX0_openCoilsIn_64 : decode cX0_openCoilsIn 64 = .ok (.ireturn, 1) := by decide +kernel
theorem dX0_isOpen_0 : decode cX0_isOpen 0 = .ok (.iload_n 1, 1) := by decide +kernel
theorem dX0_isOpen_1 : decode cX0_isOpen 1 = .ok (.ifCond .lt 25, 3) := by decide +kernel
theorem dX0_isOpen_4 : decode cX0_isOpen 4 = .ok (.iload_n 1, 1) := by decide +kernel
theorem dX0_isOpen_5 : decode cX0_isOpen 5 = .ok (.aload_n 0, 1) := by decide +kernel
theorem dX0_isOpen_6 : decode cX0_isOpen 6 = .ok (.getfield 9, 3) := by decide +kernel
theorem dX0_isOpen_9 : decode cX0_isOpen 9 = .ok (.arraylength, 1) := by decide +kernel
theorem dX0_isOpen_10 : decode cX0_isOpen 10 = .ok (.if_icmp .ge 16, 3) := by decide +kernel
theorem dX0_isOpen_13 : decode cX0_isOpen 13 = .ok (.aload_n 0, 1) := by decide +kernel
theorem dX0_isOpen_14 : decode cX0_isOpen 14 = .ok (.getfield 9, 3) := by decide +kernel
theorem dX0_isOpen_17 : decode cX0_isOpen 17 = .ok (.iload_n 1, 1) := by decide +kernel
theorem dX0_isOpen_18 : decode cX0_isOpen 18 = .ok (.baload, 1) := by decide +kernel
theorem dX0_isOpen_19 : decode cX0_isOpen 19 = .ok (.ifCond .eq 7, 3) := by decide +kernel
theorem dX0_isOpen_22 : decode cX0_isOpen 22 = .ok (.iconst 1, 1) := by decide +kernel
theorem dX0_isOpen_23 : decode cX0_isOpen 23 = .ok (.goto 4, 3) := by decide +kernel
theorem dX0_isOpen_26 : decode cX0_isOpen 26 = .ok (.iconst 0, 1) := by decide +kernel
theorem dX0_isOpen_27 : decode cX0_isOpen 27 = .ok (.ireturn, 1) := by decide +kernel
set_option maxRecDepth 20000 in
theorem ggX0_openMark_X0_isOpen : GoodIn wsX0_openMark wsX0_isOpen := goodIn_r _ [5, 6, 7, 8, 9, 10, 11, 12, 13, 14, 15, 16, 17] (by decide +kernel) (by decide +kernel)
set_option maxRecDepth 20000 in
theorem gX0_openMark_X0_isOpen : GoodIn wsX0_openMark (wsV RX0 82 RX0 yX0_isOpen wsX0_isOpen) := goodIn_app (goodIn_of _ (by decide +kernel)) ggX0_openMark_X0_isOpen
theorem dX0_openMark_0 : decode cX0_openMark 0 = .ok (.aload_n 0, 1) := by decide +kernel
theorem dX0_openMark_1 : decode cX0_openMark 1 = .ok (.iload_n 1, 1) := by decide +kernel
theorem dX0_openMark_2 : decode cX0_openMark 2 = .ok (.invokevirtual 82, 3) := by decide +kernel
theorem dX0_openMark_5 : decode cX0_openMark 5 = .ok (.ifCond .eq 7, 3) := by decide +kernel
theorem dX0_openMark_8 : decode cX0_openMark 8 = .ok (.iconst 1, 1) := by decide +kernel
theorem dX0_openMark_9 : decode cX0_openMark 9 = .ok (.goto 4, 3) := by decide +kernel
theorem dX0_openMark_12 : decode cX0_openMark 12 = .ok (.iconst 0, 1) := by decide +kernel
theorem dX0_openMark_13 : decode cX0_openMark 13 = .ok (.ireturn, 1) := by decide +kernel
set_option maxRecDepth 20000 in
theorem ggX0_circuitCount_X0_circuitLength : GoodIn wsX0_circuitCount wsX0_circuitLength := goodIn_r _ [6, 1, 7, 8, 9, 5, 10, 11, 12, 13, 14, 15, 16, 17, 18, 19, 20, 21] (by decide +kernel) (by decide +kernel)
set_option maxRecDepth 20000 in
theorem gX0_circuitCount_X0_circuitLength : GoodIn wsX0_circuitCount (wsV RX0 88 RX0 yX0_circuitLength wsX0_circuitLength) := goodIn_app (goodIn_of _ (by decide +kernel)) ggX0_circuitCount_X0_circuitLength
theorem dX0_circuitCount_0 : decode cX0_circuitCount 0 = .ok (.aload_n 0, 1) := by decide +kernel
theorem dX0_circuitCount_1 : decode cX0_circuitCount 1 = .ok (.invokevirtual 88, 3) := by decide +kernel
theorem dX0_circuitCount_4 : decode cX0_circuitCount 4 = .ok (.istore_n 1, 1) := by decide +kernel
theorem dX0_circuitCount_5 : decode cX0_circuitCount 5 = .ok (.iload_n 1, 1) := by decide +kernel
theorem dX0_circuitCount_6 : decode cX0_circuitCount 6 = .ok (.ifCond .le 12, 3) := by decide +kernel
theorem dX0_circuitCount_9 : decode cX0_circuitCount 9 = .ok (.aload_n 0, 1) := by decide +kernel
theorem dX0_circuitCount_10 : decode cX0_circuitCount 10 = .ok (.getfield 21, 3) := by decide +kernel
theorem dX0_circuitCount_13 : decode cX0_circuitCount 13 = .ok (.iload_n 1, 1) := by decide +kernel
theorem dX0_circuitCount_14 : decode cX0_circuitCount 14 = .ok (.idiv, 1) := by decide +kernel
theorem dX0_circuitCount_15 : decode cX0_circuitCount 15 = .ok (.goto 4, 3) := by decide +kernel
theorem dX0_circuitCount_18 : decode cX0_circuitCount 18 = .ok (.iconst 0, 1) := by decide +kernel
theorem dX0_circuitCount_19 : decode cX0_circuitCount 19 = .ok (.ireturn, 1) := by decide +kernel
set_option maxRecDepth 20000 in
theorem ggX0_circuitOf_X0_circuitCount : GoodIn wsX0_circuitOf wsX0_circuitCount := goodIn_r _ [6, 1, 7, 8, 9, 5, 10, 11, 12, 13, 14, 15, 16, 17, 18, 19, 20, 21, 22, 23, 24, 25] (by decide +kernel) (by decide +kernel)
set_option maxRecDepth 20000 in
theorem gX0_circuitOf_X0_circuitCount : GoodIn wsX0_circuitOf (wsV RX0 91 RX0 yX0_circuitCount wsX0_circuitCount) := goodIn_app (goodIn_of _ (by decide +kernel)) ggX0_circuitOf_X0_circuitCount
set_option maxRecDepth 20000 in
theorem ggX0_circuitOf_X0_wrap : GoodIn wsX0_circuitOf wsX0_wrap := goodIn_r _ [14] (by decide +kernel) (by decide +kernel)
set_option maxRecDepth 20000 in
theorem gX0_circuitOf_X0_wrap : GoodIn wsX0_circuitOf (va_wsS RX0 71 yX0_wrap wsX0_wrap) := goodIn_app (goodIn_of _ (by decide +kernel)) ggX0_circuitOf_X0_wrap
theorem dX0_circuitOf_0 : decode cX0_circuitOf 0 = .ok (.iload_n 1, 1) := by decide +kernel
theorem dX0_circuitOf_1 : decode cX0_circuitOf 1 = .ok (.ifCond .lt 11, 3) := by decide +kernel
theorem dX0_circuitOf_4 : decode cX0_circuitOf 4 = .ok (.iload_n 1, 1) := by decide +kernel
theorem dX0_circuitOf_5 : decode cX0_circuitOf 5 = .ok (.aload_n 0, 1) := by decide +kernel
theorem dX0_circuitOf_6 : decode cX0_circuitOf 6 = .ok (.getfield 21, 3) := by decide +kernel
theorem dX0_circuitOf_9 : decode cX0_circuitOf 9 = .ok (.if_icmp .lt 7, 3) := by decide +kernel
theorem dX0_circuitOf_12 : decode cX0_circuitOf 12 = .ok (.sipush (-1002), 3) := by decide +kernel
theorem dX0_circuitOf_15 : decode cX0_circuitOf 15 = .ok (.ireturn, 1) := by decide +kernel
theorem dX0_circuitOf_16 : decode cX0_circuitOf 16 = .ok (.iload_n 1, 1) := by decide +kernel
theorem dX0_circuitOf_17 : decode cX0_circuitOf 17 = .ok (.aload_n 0, 1) := by decide +kernel
theorem dX0_circuitOf_18 : decode cX0_circuitOf 18 = .ok (.invokevirtual 91, 3) := by decide +kernel
theorem dX0_circuitOf_21 : decode cX0_circuitOf 21 = .ok (.invokestatic 71, 3) := by decide +kernel
theorem dX0_circuitOf_24 : decode cX0_circuitOf 24 = .ok (.ireturn, 1) := by decide +kernel
set_option maxRecDepth 20000 in
theorem ggX0_coilAt_X0_circuitCount : GoodIn wsX0_coilAt wsX0_circuitCount := goodIn_r _ [7, 2, 8, 9, 10, 6, 11, 1, 12, 13, 14, 15, 16, 17, 18, 19, 20, 21, 22, 23, 24, 25] (by decide +kernel) (by decide +kernel)
set_option maxRecDepth 20000 in
theorem gX0_coilAt_X0_circuitCount : GoodIn wsX0_coilAt (wsV RX0 91 RX0 yX0_circuitCount wsX0_circuitCount) := goodIn_app (goodIn_of _ (by decide +kernel)) ggX0_coilAt_X0_circuitCount
set_option maxRecDepth 20000 in
theorem ggX0_coilAt_X0_circuitLength : GoodIn wsX0_coilAt wsX0_circuitLength := goodIn_r _ [11, 2, 1, 12, 13, 6, 14, 15, 16, 17, 18, 19, 20, 21, 22, 23, 24, 25] (by decide +kernel) (by decide +kernel)
set_option maxRecDepth 20000 in
theorem gX0_coilAt_X0_circuitLength : GoodIn wsX0_coilAt (wsV RX0 88 RX0 yX0_circuitLength wsX0_circuitLength) := goodIn_app (goodIn_of _ (by decide +kernel)) ggX0_coilAt_X0_circuitLength
set_option maxRecDepth 20000 in
theorem ggX0_coilAt_X0_wrap : GoodIn wsX0_coilAt wsX0_wrap := goodIn_r _ [14] (by decide +kernel) (by decide +kernel)
set_option maxRecDepth 20000 in
theorem gX0_coilAt_X0_wrap : GoodIn wsX0_coilAt (va_wsS RX0 71 yX0_wrap wsX0_wrap) := goodIn_app (goodIn_of _ (by decide +kernel)) ggX0_coilAt_X0_wrap
theorem dX0_coilAt_0 : decode cX0_coilAt 0 = .ok (.iload_n 1, 1) := by decide +kernel
theorem dX0_coilAt_1 : decode cX0_coilAt 1 = .ok (.ifCond .lt 11, 3) := by decide +kernel
theorem dX0_coilAt_4 : decode cX0_coilAt 4 = .ok (.iload_n 1, 1) := by decide +kernel
theorem dX0_coilAt_5 : decode cX0_coilAt 5 = .ok (.aload_n 0, 1) := by decide +kernel
theorem dX0_coilAt_6 : decode cX0_coilAt 6 = .ok (.invokevirtual 91, 3) := by decide +kernel
theorem dX0_coilAt_9 : decode cX0_coilAt 9 = .ok (.if_icmp .lt 7, 3) := by decide +kernel
theorem dX0_coilAt_12 : decode cX0_coilAt 12 = .ok (.sipush (-1002), 3) := by decide +kernel
theorem dX0_coilAt_15 : decode cX0_coilAt 15 = .ok (.ireturn, 1) := by decide +kernel
theorem dX0_coilAt_16 : decode cX0_coilAt 16 = .ok (.iload_n 2, 1) := by decide +kernel
theorem dX0_coilAt_17 : decode cX0_coilAt 17 = .ok (.ifCond .lt 11, 3) := by decide +kernel
theorem dX0_coilAt_20 : decode cX0_coilAt 20 = .ok (.iload_n 2, 1) := by decide +kernel
theorem dX0_coilAt_21 : decode cX0_coilAt 21 = .ok (.aload_n 0, 1) := by decide +kernel
theorem dX0_coilAt_22 : decode cX0_coilAt 22 = .ok (.invokevirtual 88, 3) := by decide +kernel
theorem dX0_coilAt_25 : decode cX0_coilAt 25 = .ok (.if_icmp .lt 7, 3) := by decide +kernel
theorem dX0_coilAt_28 : decode cX0_coilAt 28 = .ok (.sipush (-1004), 3) := by decide +kernel
theorem dX0_coilAt_31 : decode cX0_coilAt 31 = .ok (.ireturn, 1) := by decide +kernel
theorem dX0_coilAt_32 : decode cX0_coilAt 32 = .ok (.iload_n 1, 1) := by decide +kernel
theorem dX0_coilAt_33 : decode cX0_coilAt 33 = .ok (.iload_n 2, 1) := by decide +kernel
theorem dX0_coilAt_34 : decode cX0_coilAt 34 = .ok (.aload_n 0, 1) := by decide +kernel
theorem dX0_coilAt_35 : decode cX0_coilAt 35 = .ok (.getfield 37, 3) := by decide +kernel
theorem dX0_coilAt_38 : decode cX0_coilAt 38 = .ok (.imul, 1) := by decide +kernel
theorem dX0_coilAt_39 : decode cX0_coilAt 39 = .ok (.iadd, 1) := by decide +kernel
theorem dX0_coilAt_40 : decode cX0_coilAt 40 = .ok (.aload_n 0, 1) := by decide +kernel
theorem dX0_coilAt_41 : decode cX0_coilAt 41 = .ok (.getfield 21, 3) := by decide +kernel
theorem dX0_coilAt_44 : decode cX0_coilAt 44 = .ok (.invokestatic 71, 3) := by decide +kernel
theorem dX0_coilAt_47 : decode cX0_coilAt 47 = .ok (.ireturn, 1) := by decide +kernel
set_option maxRecDepth 20000 in
theorem ggX0_closedCircuits_X0_circuitCount : GoodIn wsX0_closedCircuits wsX0_circuitCount := goodIn_r _ [5, 6, 7, 8, 9, 4, 10, 11, 12, 13, 14, 24, 25, 26, 27, 28, 29, 30, 31, 32, 33, 34] (by decide +kernel) (by decide +kernel)
set_option maxRecDepth 20000 in
theorem gX0_closedCircuits_X0_circuitCount : GoodIn wsX0_closedCircuits (wsV RX0 91 RX0 yX0_circuitCount wsX0_circuitCount) := goodIn_app (goodIn_of _ (by decide +kernel)) ggX0_closedCircuits_X0_circuitCount
set_option maxRecDepth 20000 in
theorem ggX0_closedCircuits_X0_isClosed : GoodIn wsX0_closedCircuits wsX0_isClosed := goodIn_r _ [18, 11, 6, 7, 8, 9, 4, 10, 12, 13, 14, 19, 20, 21, 22, 23, 24, 25, 26, 27, 28, 29, 30, 31, 32, 33, 34] (by decide +kernel) (by decide +kernel)
set_option maxRecDepth 20000 in
theorem gX0_closedCircuits_X0_isClosed : GoodIn wsX0_closedCircuits (wsV RX0 94 RX0 yX0_isClosed wsX0_isClosed) := goodIn_app (goodIn_of _ (by decide +kernel)) ggX0_closedCircuits_X0_isClosed
theorem dX0_closedCircuits_0 : decode cX0_closedCircuits 0 = .ok (.aload_n 0, 1) := by decide +kernel
theorem dX0_closedCircuits_1 : decode cX0_closedCircuits 1 = .ok (.invokevirtual 91, 3) := by decide +kernel
theorem dX0_closedCircuits_4 : decode cX0_closedCircuits 4 = .ok (.istore_n 1, 1) := by decide +kernel
theorem dX0_closedCircuits_5 : decode cX0_closedCircuits 5 = .ok (.iconst 0, 1) := by decide +kernel
theorem dX0_closedCircuits_6 : decode cX0_closedCircuits 6 = .ok (.istore_n 2, 1) := by decide +kernel
theorem dX0_closedCircuits_7 : decode cX0_closedCircuits 7 = .ok (.iconst 0, 1) := by decide +kernel
theorem dX0_closedCircuits_8 : decode cX0_closedCircuits 8 = .ok (.istore_n 3, 1) := by decide +kernel
theorem dX0_closedCircuits_9 : decode cX0_closedCircuits 9 = .ok (.iload_n 3, 1) := by decide +kernel
theorem dX0_closedCircuits_10 : decode cX0_closedCircuits 10 = .ok (.iload_n 1, 1) := by decide +kernel
theorem dX0_closedCircuits_11 : decode cX0_closedCircuits 11 = .ok (.if_icmp .ge 20, 3) := by decide +kernel
theorem dX0_closedCircuits_14 : decode cX0_closedCircuits 14 = .ok (.aload_n 0, 1) := by decide +kernel
theorem dX0_closedCircuits_15 : decode cX0_closedCircuits 15 = .ok (.iload_n 3, 1) := by decide +kernel
theorem dX0_closedCircuits_16 : decode cX0_closedCircuits 16 = .ok (.invokevirtual 94, 3) := by decide +kernel
theorem dX0_closedCircuits_19 : decode cX0_closedCircuits 19 = .ok (.ifCond .eq 6, 3) := by decide +kernel
theorem dX0_closedCircuits_22 : decode cX0_closedCircuits 22 = .ok (.iinc 2 1, 3) := by decide +kernel
theorem dX0_closedCircuits_25 : decode cX0_closedCircuits 25 = .ok (.iinc 3 1, 3) := by decide +kernel
theorem dX0_closedCircuits_28 : decode cX0_closedCircuits 28 = .ok (.goto (-19), 3) := by decide +kernel
theorem dX0_closedCircuits_31 : decode cX0_closedCircuits 31 = .ok (.iload_n 2, 1) := by decide +kernel
theorem dX0_closedCircuits_32 : decode cX0_closedCircuits 32 = .ok (.ireturn, 1) := by decide +kernel
set_option maxRecDepth 20000 in
theorem ggX0_circuitLength_X0_wrap : GoodIn wsX0_circuitLength wsX0_wrap := goodIn_r _ [6] (by decide +kernel) (by decide +kernel)
set_option maxRecDepth 20000 in
theorem gX0_circuitLength_X0_wrap : GoodIn wsX0_circuitLength (va_wsS RX0 71 yX0_wrap wsX0_wrap) := goodIn_app (goodIn_of _ (by decide +kernel)) ggX0_circuitLength_X0_wrap
theorem dX0_circuitLength_0 : decode cX0_circuitLength 0 = .ok (.iconst 1, 1) := by decide +kernel
theorem dX0_circuitLength_1 : decode cX0_circuitLength 1 = .ok (.istore_n 1, 1) := by decide +kernel
theorem dX0_circuitLength_2 : decode cX0_circuitLength 2 = .ok (.iload_n 1, 1) := by decide +kernel
theorem dX0_circuitLength_3 : decode cX0_circuitLength 3 = .ok (.aload_n 0, 1) := by decide +kernel
theorem dX0_circuitLength_4 : decode cX0_circuitLength 4 = .ok (.getfield 21, 3) := by decide +kernel
theorem dX0_circuitLength_7 : decode cX0_circuitLength 7 = .ok (.if_icmp .ge 25, 3) := by decide +kernel
theorem dX0_circuitLength_10 : decode cX0_circuitLength 10 = .ok (.iload_n 1, 1) := by decide +kernel
theorem dX0_circuitLength_11 : decode cX0_circuitLength 11 = .ok (.aload_n 0, 1) := by decide +kernel
theorem dX0_circuitLength_12 : decode cX0_circuitLength 12 = .ok (.getfield 37, 3) := by decide +kernel
theorem dX0_circuitLength_15 : decode cX0_circuitLength 15 = .ok (.imul, 1) := by decide +kernel
theorem dX0_circuitLength_16 : decode cX0_circuitLength 16 = .ok (.aload_n 0, 1) := by decide +kernel
theorem dX0_circuitLength_17 : decode cX0_circuitLength 17 = .ok (.getfield 21, 3) := by decide +kernel
theorem dX0_circuitLength_20 : decode cX0_circuitLength 20 = .ok (.invokestatic 71, 3) := by decide +kernel
theorem dX0_circuitLength_23 : decode cX0_circuitLength 23 = .ok (.ifCond .eq 9, 3) := by decide +kernel
theorem dX0_circuitLength_26 : decode cX0_circuitLength 26 = .ok (.iinc 1 1, 3) := by decide +kernel
theorem dX0_circuitLength_29 : decode cX0_circuitLength 29 = .ok (.goto (-27), 3) := by decide +kernel
theorem dX0_circuitLength_32 : decode cX0_circuitLength 32 = .ok (.iload_n 1, 1) := by decide +kernel
theorem dX0_circuitLength_33 : decode cX0_circuitLength 33 = .ok (.ireturn, 1) := by decide +kernel
set_option maxRecDepth 20000 in
theorem ggX0_isClosed_X0_circuitLength : GoodIn wsX0_isClosed wsX0_circuitLength := goodIn_r _ [7, 2, 1, 8, 9, 6, 10, 16, 17, 18, 19, 20, 21, 22, 23, 24, 25, 26] (by decide +kernel) (by decide +kernel)
set_option maxRecDepth 20000 in
theorem gX0_isClosed_X0_circuitLength : GoodIn wsX0_isClosed (wsV RX0 88 RX0 yX0_circuitLength wsX0_circuitLength) := goodIn_app (goodIn_of _ (by decide +kernel)) ggX0_isClosed_X0_circuitLength
set_option maxRecDepth 20000 in
theorem ggX0_isClosed_X0_wrap : GoodIn wsX0_isClosed wsX0_wrap := goodIn_r _ [10] (by decide +kernel) (by decide +kernel)
set_option maxRecDepth 20000 in
theorem gX0_isClosed_X0_wrap : GoodIn wsX0_isClosed (va_wsS RX0 71 yX0_wrap wsX0_wrap) := goodIn_app (goodIn_of _ (by decide +kernel)) ggX0_isClosed_X0_wrap
set_option maxRecDepth 20000 in
theorem ggX0_isClosed_X0_isOpen : GoodIn wsX0_isClosed wsX0_isOpen := goodIn_r _ [14, 15, 16, 17, 18, 19, 20, 21, 22, 23, 24, 25, 26] (by decide +kernel) (by decide +kernel)
set_option maxRecDepth 20000 in
theorem gX0_isClosed_X0_isOpen : GoodIn wsX0_isClosed (wsV RX0 82 RX0 yX0_isOpen wsX0_isOpen) := goodIn_app (goodIn_of _ (by decide +kernel)) ggX0_isClosed_X0_isOpen
theorem dX0_isClosed_0 : decode cX0_isClosed 0 = .ok (.aload_n 0, 1) := by decide +kernel
theorem dX0_isClosed_1 : decode cX0_isClosed 1 = .ok (.invokevirtual 88, 3) := by decide +kernel
theorem dX0_isClosed_4 : decode cX0_isClosed 4 = .ok (.istore_n 2, 1) := by decide +kernel
theorem dX0_isClosed_5 : decode cX0_isClosed 5 = .ok (.iconst 0, 1) := by decide +kernel
theorem dX0_isClosed_6 : decode cX0_isClosed 6 = .ok (.istore_n 3, 1) := by decide +kernel
theorem dX0_isClosed_7 : decode cX0_isClosed 7 = .ok (.iload_n 3, 1) := by decide +kernel
theorem dX0_isClosed_8 : decode cX0_isClosed 8 = .ok (.iload_n 2, 1) := by decide +kernel
theorem dX0_isClosed_9 : decode cX0_isClosed 9 = .ok (.if_icmp .ge 33, 3) := by decide +kernel
theorem dX0_isClosed_12 : decode cX0_isClosed 12 = .ok (.aload_n 0, 1) := by decide +kernel
theorem dX0_isClosed_13 : decode cX0_isClosed 13 = .ok (.iload_n 1, 1) := by decide +kernel
theorem dX0_isClosed_14 : decode cX0_isClosed 14 = .ok (.iload_n 3, 1) := by decide +kernel
theorem dX0_isClosed_15 : decode cX0_isClosed 15 = .ok (.aload_n 0, 1) := by decide +kernel
theorem dX0_isClosed_16 : decode cX0_isClosed 16 = .ok (.getfield 37, 3) := by decide +kernel
theorem dX0_isClosed_19 : decode cX0_isClosed 19 = .ok (.imul, 1) := by decide +kernel
theorem dX0_isClosed_20 : decode cX0_isClosed 20 = .ok (.iadd, 1) := by decide +kernel
theorem dX0_isClosed_21 : decode cX0_isClosed 21 = .ok (.aload_n 0, 1) := by decide +kernel
theorem dX0_isClosed_22 : decode cX0_isClosed 22 = .ok (.getfield 21, 3) := by decide +kernel
theorem dX0_isClosed_25 : decode cX0_isClosed 25 = .ok (.invokestatic 71, 3) := by decide +kernel
theorem dX0_isClosed_28 : decode cX0_isClosed 28 = .ok (.invokevirtual 82, 3) := by decide +kernel
theorem dX0_isClosed_31 : decode cX0_isClosed 31 = .ok (.ifCond .eq 5, 3) := by decide +kernel
theorem dX0_isClosed_34 : decode cX0_isClosed 34 = .ok (.iconst 0, 1) := by decide +kernel
theorem dX0_isClosed_35 : decode cX0_isClosed 35 = .ok (.ireturn, 1) := by decide +kernel
theorem dX0_isClosed_36 : decode cX0_isClosed 36 = .ok (.iinc 3 1, 3) := by decide +kernel
theorem dX0_isClosed_39 : decode cX0_isClosed 39 = .ok (.goto (-32), 3) := by decide +kernel
theorem dX0_isClosed_42 : decode cX0_isClosed 42 = .ok (.iconst 1, 1) := by decide +kernel
theorem dX0_isClosed_43 : decode cX0_isClosed 43 = .ok (.ireturn, 1) := by decide +kernel
theorem dX0_brushBar_0 : decode cX0_brushBar 0 = .ok (.iload_n 1, 1) := by decide +kernel
theorem dX0_brushBar_1 : decode cX0_brushBar 1 = .ok (.ifCond .lt 18, 3) := by decide +kernel
theorem dX0_brushBar_4 : decode cX0_brushBar 4 = .ok (.iload_n 1, 1) := by decide +kernel
theorem dX0_brushBar_5 : decode cX0_brushBar 5 = .ok (.aload_n 0, 1) := by decide +kernel
theorem dX0_brushBar_6 : decode cX0_brushBar 6 = .ok (.getfield 46, 3) := by decide +kernel
theorem dX0_brushBar_9 : decode cX0_brushBar 9 = .ok (.if_icmp .ge 10, 3) := by decide +kernel
theorem dX0_brushBar_12 : decode cX0_brushBar 12 = .ok (.aload_n 0, 1) := by decide +kernel
theorem dX0_brushBar_13 : decode cX0_brushBar 13 = .ok (.getfield 46, 3) := by decide +kernel
theorem dX0_brushBar_16 : decode cX0_brushBar 16 = .ok (.ifCond .gt 7, 3) := by decide +kernel
theorem dX0_brushBar_19 : decode cX0_brushBar 19 = .ok (.sipush (-1002), 3) := by decide +kernel
theorem dX0_brushBar_22 : decode cX0_brushBar 22 = .ok (.ireturn, 1) := by decide +kernel
theorem dX0_brushBar_23 : decode cX0_brushBar 23 = .ok (.iload_n 1, 1) := by decide +kernel
theorem dX0_brushBar_24 : decode cX0_brushBar 24 = .ok (.aload_n 0, 1) := by decide +kernel
theorem dX0_brushBar_25 : decode cX0_brushBar 25 = .ok (.getfield 21, 3) := by decide +kernel
theorem dX0_brushBar_28 : decode cX0_brushBar 28 = .ok (.imul, 1) := by decide +kernel
theorem dX0_brushBar_29 : decode cX0_brushBar 29 = .ok (.aload_n 0, 1) := by decide +kernel
theorem dX0_brushBar_30 : decode cX0_brushBar 30 = .ok (.getfield 46, 3) := by decide +kernel
theorem dX0_brushBar_33 : decode cX0_brushBar 33 = .ok (.idiv, 1) := by decide +kernel
theorem dX0_brushBar_34 : decode cX0_brushBar 34 = .ok (.ireturn, 1) := by decide +kernel
set_option maxRecDepth 20000 in
theorem ggX0_coilVoltage_X0_upperSlot : GoodIn wsX0_coilVoltage wsX0_upperSlot := goodIn_r _ [6, 1, 7, 26, 27, 28, 29, 30, 31, 32, 33, 34, 35, 36] (by decide +kernel) (by decide +kernel)
set_option maxRecDepth 20000 in
theorem gX0_coilVoltage_X0_upperSlot : GoodIn wsX0_coilVoltage (wsV RX0 75 RX0 yX0_upperSlot wsX0_upperSlot) := goodIn_app (goodIn_of _ (by decide +kernel)) ggX0_coilVoltage_X0_upperSlot
set_option maxRecDepth 20000 in
theorem ggX0_coilVoltage_X0_sideVoltage : GoodIn wsX0_coilVoltage wsX0_sideVoltage := goodIn_r _ [11, 12, 13, 14, 15, 5, 16, 26, 27, 28, 29, 30, 31, 32, 33, 34, 35, 36] (by decide +kernel) (by decide +kernel)
set_option maxRecDepth 20000 in
theorem gX0_coilVoltage_X0_sideVoltage : GoodIn wsX0_coilVoltage (wsV RX0 103 RX0 yX0_sideVoltage wsX0_sideVoltage) := goodIn_app (goodIn_of _ (by decide +kernel)) ggX0_coilVoltage_X0_sideVoltage
set_option maxRecDepth 20000 in
theorem ggX0_coilVoltage_X0_lowerSlot : GoodIn wsX0_coilVoltage wsX0_lowerSlot := goodIn_r _ [20, 1, 12, 2, 3, 4, 5, 6, 7, 21, 22, 23, 24, 13, 25, 14, 15, 16, 26, 27, 28, 29, 30, 31, 32, 33, 34, 35, 36] (by decide +kernel) (by decide +kernel)
set_option maxRecDepth 20000 in
theorem gX0_coilVoltage_X0_lowerSlot : GoodIn wsX0_coilVoltage (wsV RX0 85 RX0 yX0_lowerSlot wsX0_lowerSlot) := goodIn_app (goodIn_of _ (by decide +kernel)) ggX0_coilVoltage_X0_lowerSlot
theorem dX0_coilVoltage_0 : decode cX0_coilVoltage 0 = .ok (.iload_n 1, 1) := by decide +kernel
theorem dX0_coilVoltage_1 : decode cX0_coilVoltage 1 = .ok (.ifCond .lt 11, 3) := by decide +kernel
theorem dX0_coilVoltage_4 : decode cX0_coilVoltage 4 = .ok (.iload_n 1, 1) := by decide +kernel
theorem dX0_coilVoltage_5 : decode cX0_coilVoltage 5 = .ok (.aload_n 0, 1) := by decide +kernel
theorem dX0_coilVoltage_6 : decode cX0_coilVoltage 6 = .ok (.getfield 21, 3) := by decide +kernel
theorem dX0_coilVoltage_9 : decode cX0_coilVoltage 9 = .ok (.if_icmp .lt 7, 3) := by decide +kernel
theorem dX0_coilVoltage_12 : decode cX0_coilVoltage 12 = .ok (.sipush (-1002), 3) := by decide +kernel
theorem dX0_coilVoltage_15 : decode cX0_coilVoltage 15 = .ok (.ireturn, 1) := by decide +kernel
theorem dX0_coilVoltage_16 : decode cX0_coilVoltage 16 = .ok (.iload_n 2, 1) := by decide +kernel
theorem dX0_coilVoltage_17 : decode cX0_coilVoltage 17 = .ok (.ifCond .lt 9, 3) := by decide +kernel
theorem dX0_coilVoltage_20 : decode cX0_coilVoltage 20 = .ok (.iload_n 2, 1) := by decide +kernel
end
section
theorem dX0_coilVoltage_21 : decode cX0_coilVoltage 21 = .ok (.bipush 100, 2) := by decide +kernel
theorem dX0_coilVoltage_23 : decode cX0_coilVoltage 23 = .ok (.if_icmp .le 7, 3) := by decide +kernel
theorem dX0_coilVoltage_26 : decode cX0_coilVoltage 26 = .ok (.sipush (-1001), 3) := by decide +kernel
theorem dX0_coilVoltage_29 : decode cX0_coilVoltage 29 = .ok (.ireturn, 1) := by decide +kernel
theorem dX0_coilVoltage_30 : decode cX0_coilVoltage 30 = .ok (.aload_n 0, 1) := by decide +kernel
theorem dX0_coilVoltage_31 : decode cX0_coilVoltage 31 = .ok (.aload_n 0, 1) := by decide +kernel
theorem dX0_coilVoltage_32 : decode cX0_coilVoltage 32 = .ok (.iload_n 1, 1) := by decide +kernel
theorem dX0_coilVoltage_33 : decode cX0_coilVoltage 33 = .ok (.invokevirtual 75, 3) := by decide +kernel
theorem dX0_coilVoltage_36 : decode cX0_coilVoltage 36 = .ok (.iload_n 2, 1) := by decide +kernel
theorem dX0_coilVoltage_37 : decode cX0_coilVoltage 37 = .ok (.invokevirtual 103, 3) := by decide +kernel
theorem dX0_coilVoltage_40 : decode cX0_coilVoltage 40 = .ok (.aload_n 0, 1) := by decide +kernel
theorem dX0_coilVoltage_41 : decode cX0_coilVoltage 41 = .ok (.aload_n 0, 1) := by decide +kernel
theorem dX0_coilVoltage_42 : decode cX0_coilVoltage 42 = .ok (.iload_n 1, 1) := by decide +kernel
theorem dX0_coilVoltage_43 : decode cX0_coilVoltage 43 = .ok (.invokevirtual 85, 3) := by decide +kernel
theorem dX0_coilVoltage_46 : decode cX0_coilVoltage 46 = .ok (.iload_n 2, 1) := by decide +kernel
theorem dX0_coilVoltage_47 : decode cX0_coilVoltage 47 = .ok (.invokevirtual 103, 3) := by decide +kernel
theorem dX0_coilVoltage_50 : decode cX0_coilVoltage 50 = .ok (.isub, 1) := by decide +kernel
theorem dX0_coilVoltage_51 : decode cX0_coilVoltage 51 = .ok (.ireturn, 1) := by decide +kernel
set_option maxRecDepth 20000 in
theorem ggX0_sideVoltage_X0_wrap : GoodIn wsX0_sideVoltage wsX0_wrap := goodIn_r _ [6] (by decide +kernel) (by decide +kernel)
set_option maxRecDepth 20000 in
theorem gX0_sideVoltage_X0_wrap : GoodIn wsX0_sideVoltage (va_wsS RX0 71 yX0_wrap wsX0_wrap) := goodIn_app (goodIn_of _ (by decide +kernel)) ggX0_sideVoltage_X0_wrap
theorem dX0_sideVoltage_0 : decode cX0_sideVoltage 0 = .ok (.aload_n 0, 1) := by decide +kernel
theorem dX0_sideVoltage_1 : decode cX0_sideVoltage 1 = .ok (.getfield 49, 3) := by decide +kernel
theorem dX0_sideVoltage_4 : decode cX0_sideVoltage 4 = .ok (.ifCond .le 26, 3) := by decide +kernel
theorem dX0_sideVoltage_7 : decode cX0_sideVoltage 7 = .ok (.iload_n 1, 1) := by decide +kernel
theorem dX0_sideVoltage_8 : decode cX0_sideVoltage 8 = .ok (.iload_n 2, 1) := by decide +kernel
theorem dX0_sideVoltage_9 : decode cX0_sideVoltage 9 = .ok (.iadd, 1) := by decide +kernel
theorem dX0_sideVoltage_10 : decode cX0_sideVoltage 10 = .ok (.aload_n 0, 1) := by decide +kernel
theorem dX0_sideVoltage_11 : decode cX0_sideVoltage 11 = .ok (.getfield 49, 3) := by decide +kernel
theorem dX0_sideVoltage_14 : decode cX0_sideVoltage 14 = .ok (.invokestatic 71, 3) := by decide +kernel
theorem dX0_sideVoltage_17 : decode cX0_sideVoltage 17 = .ok (.aload_n 0, 1) := by decide +kernel
theorem dX0_sideVoltage_18 : decode cX0_sideVoltage 18 = .ok (.getfield 46, 3) := by decide +kernel
theorem dX0_sideVoltage_21 : decode cX0_sideVoltage 21 = .ok (.imul, 1) := by decide +kernel
theorem dX0_sideVoltage_22 : decode cX0_sideVoltage 22 = .ok (.aload_n 0, 1) := by decide +kernel
theorem dX0_sideVoltage_23 : decode cX0_sideVoltage 23 = .ok (.getfield 49, 3) := by decide +kernel
theorem dX0_sideVoltage_26 : decode cX0_sideVoltage 26 = .ok (.idiv, 1) := by decide +kernel
theorem dX0_sideVoltage_27 : decode cX0_sideVoltage 27 = .ok (.goto 4, 3) := by decide +kernel
theorem dX0_sideVoltage_30 : decode cX0_sideVoltage 30 = .ok (.iconst 0, 1) := by decide +kernel
theorem dX0_sideVoltage_31 : decode cX0_sideVoltage 31 = .ok (.istore_n 3, 1) := by decide +kernel
theorem dX0_sideVoltage_32 : decode cX0_sideVoltage 32 = .ok (.iload_n 3, 1) := by decide +kernel
theorem dX0_sideVoltage_33 : decode cX0_sideVoltage 33 = .ok (.iconst 2, 1) := by decide +kernel
theorem dX0_sideVoltage_34 : decode cX0_sideVoltage 34 = .ok (.irem, 1) := by decide +kernel
theorem dX0_sideVoltage_35 : decode cX0_sideVoltage 35 = .ok (.ifCond .ne 7, 3) := by decide +kernel
theorem dX0_sideVoltage_38 : decode cX0_sideVoltage 38 = .ok (.iconst 1, 1) := by decide +kernel
theorem dX0_sideVoltage_39 : decode cX0_sideVoltage 39 = .ok (.goto 4, 3) := by decide +kernel
theorem dX0_sideVoltage_42 : decode cX0_sideVoltage 42 = .ok (.iconst (-1), 1) := by decide +kernel
theorem dX0_sideVoltage_43 : decode cX0_sideVoltage 43 = .ok (.ireturn, 1) := by decide +kernel
theorem dX0_wrap_0 : decode cX0_wrap 0 = .ok (.iload_n 1, 1) := by decide +kernel
theorem dX0_wrap_1 : decode cX0_wrap 1 = .ok (.ifCond .gt 5, 3) := by decide +kernel
theorem dX0_wrap_4 : decode cX0_wrap 4 = .ok (.iconst 0, 1) := by decide +kernel
theorem dX0_wrap_5 : decode cX0_wrap 5 = .ok (.ireturn, 1) := by decide +kernel
theorem dX0_wrap_6 : decode cX0_wrap 6 = .ok (.iload_n 0, 1) := by decide +kernel
theorem dX0_wrap_7 : decode cX0_wrap 7 = .ok (.iload_n 1, 1) := by decide +kernel
theorem dX0_wrap_8 : decode cX0_wrap 8 = .ok (.irem, 1) := by decide +kernel
theorem dX0_wrap_9 : decode cX0_wrap 9 = .ok (.istore_n 2, 1) := by decide +kernel
theorem dX0_wrap_10 : decode cX0_wrap 10 = .ok (.iload_n 2, 1) := by decide +kernel
theorem dX0_wrap_11 : decode cX0_wrap 11 = .ok (.ifCond .ge 9, 3) := by decide +kernel
theorem dX0_wrap_14 : decode cX0_wrap 14 = .ok (.iload_n 2, 1) := by decide +kernel
theorem dX0_wrap_15 : decode cX0_wrap 15 = .ok (.iload_n 1, 1) := by decide +kernel
theorem dX0_wrap_16 : decode cX0_wrap 16 = .ok (.iadd, 1) := by decide +kernel
theorem dX0_wrap_17 : decode cX0_wrap 17 = .ok (.goto 4, 3) := by decide +kernel
theorem dX0_wrap_20 : decode cX0_wrap 20 = .ok (.iload_n 2, 1) := by decide +kernel
theorem dX0_wrap_21 : decode cX0_wrap 21 = .ok (.ireturn, 1) := by decide +kernel
theorem dL_cell_0 : decode cL_cell 0 = .ok (.iload_n 1, 1) := by decide +kernel
theorem dL_cell_1 : decode cL_cell 1 = .ok (.aload_n 0, 1) := by decide +kernel
theorem dL_cell_2 : decode cL_cell 2 = .ok (.arraylength, 1) := by decide +kernel
theorem dL_cell_3 : decode cL_cell 3 = .ok (.if_icmp .ge 9, 3) := by decide +kernel
theorem dL_cell_6 : decode cL_cell 6 = .ok (.aload_n 0, 1) := by decide +kernel
theorem dL_cell_7 : decode cL_cell 7 = .ok (.iload_n 1, 1) := by decide +kernel
theorem dL_cell_8 : decode cL_cell 8 = .ok (.iaload, 1) := by decide +kernel
theorem dL_cell_9 : decode cL_cell 9 = .ok (.goto 11, 3) := by decide +kernel
theorem dL_cell_12 : decode cL_cell 12 = .ok (.sipush 7919, 3) := by decide +kernel
theorem dL_cell_15 : decode cL_cell 15 = .ok (.iload_n 1, 1) := by decide +kernel
theorem dL_cell_16 : decode cL_cell 16 = .ok (.imul, 1) := by decide +kernel
theorem dL_cell_17 : decode cL_cell 17 = .ok (.bipush 13, 2) := by decide +kernel
theorem dL_cell_19 : decode cL_cell 19 = .ok (.iadd, 1) := by decide +kernel
theorem dL_cell_20 : decode cL_cell 20 = .ok (.ldc 7, 2) := by decide +kernel
theorem dL_cell_22 : decode cL_cell 22 = .ok (.iand, 1) := by decide +kernel
theorem dL_cell_23 : decode cL_cell 23 = .ok (.ireturn, 1) := by decide +kernel
theorem dL_isOpen_0 : decode cL_isOpen 0 = .ok (.aload_n 0, 1) := by decide +kernel
theorem dL_isOpen_1 : decode cL_isOpen 1 = .ok (.iload_n 1, 1) := by decide +kernel
theorem dL_isOpen_2 : decode cL_isOpen 2 = .ok (.bipush 24, 2) := by decide +kernel
theorem dL_isOpen_4 : decode cL_isOpen 4 = .ok (.idiv, 1) := by decide +kernel
theorem dL_isOpen_5 : decode cL_isOpen 5 = .ok (.iaload, 1) := by decide +kernel
theorem dL_isOpen_6 : decode cL_isOpen 6 = .ok (.iload_n 1, 1) := by decide +kernel
theorem dL_isOpen_7 : decode cL_isOpen 7 = .ok (.bipush 24, 2) := by decide +kernel
theorem dL_isOpen_9 : decode cL_isOpen 9 = .ok (.irem, 1) := by decide +kernel
theorem dL_isOpen_10 : decode cL_isOpen 10 = .ok (.ishr, 1) := by decide +kernel
theorem dL_isOpen_11 : decode cL_isOpen 11 = .ok (.iconst 1, 1) := by decide +kernel
theorem dL_isOpen_12 : decode cL_isOpen 12 = .ok (.iand, 1) := by decide +kernel
theorem dL_isOpen_13 : decode cL_isOpen 13 = .ok (.iconst 1, 1) := by decide +kernel
theorem dL_isOpen_14 : decode cL_isOpen 14 = .ok (.if_icmp .ne 7, 3) := by decide +kernel
theorem dL_isOpen_17 : decode cL_isOpen 17 = .ok (.iconst 1, 1) := by decide +kernel
theorem dL_isOpen_18 : decode cL_isOpen 18 = .ok (.goto 4, 3) := by decide +kernel
theorem dL_isOpen_21 : decode cL_isOpen 21 = .ok (.iconst 0, 1) := by decide +kernel
theorem dL_isOpen_22 : decode cL_isOpen 22 = .ok (.ireturn, 1) := by decide +kernel
theorem dL_mod_0 : decode cL_mod 0 = .ok (.iload_n 0, 1) := by decide +kernel
theorem dL_mod_1 : decode cL_mod 1 = .ok (.iload_n 1, 1) := by decide +kernel
theorem dL_mod_2 : decode cL_mod 2 = .ok (.irem, 1) := by decide +kernel
theorem dL_mod_3 : decode cL_mod 3 = .ok (.iload_n 1, 1) := by decide +kernel
theorem dL_mod_4 : decode cL_mod 4 = .ok (.iadd, 1) := by decide +kernel
theorem dL_mod_5 : decode cL_mod 5 = .ok (.iload_n 1, 1) := by decide +kernel
theorem dL_mod_6 : decode cL_mod 6 = .ok (.irem, 1) := by decide +kernel
theorem dL_mod_7 : decode cL_mod 7 = .ok (.ireturn, 1) := by decide +kernel
theorem dL_slotPitch_0 : decode cL_slotPitch 0 = .ok (.aload_n 0, 1) := by decide +kernel
theorem dL_slotPitch_1 : decode cL_slotPitch 1 = .ok (.iconst 1, 1) := by decide +kernel
theorem dL_slotPitch_2 : decode cL_slotPitch 2 = .ok (.iaload, 1) := by decide +kernel
theorem dL_slotPitch_3 : decode cL_slotPitch 3 = .ok (.aload_n 0, 1) := by decide +kernel
theorem dL_slotPitch_4 : decode cL_slotPitch 4 = .ok (.iconst 0, 1) := by decide +kernel
theorem dL_slotPitch_5 : decode cL_slotPitch 5 = .ok (.iaload, 1) := by decide +kernel
theorem dL_slotPitch_6 : decode cL_slotPitch 6 = .ok (.idiv, 1) := by decide +kernel
theorem dL_slotPitch_7 : decode cL_slotPitch 7 = .ok (.aload_n 0, 1) := by decide +kernel
theorem dL_slotPitch_8 : decode cL_slotPitch 8 = .ok (.bipush 8, 2) := by decide +kernel
theorem dL_slotPitch_10 : decode cL_slotPitch 10 = .ok (.iaload, 1) := by decide +kernel
theorem dL_slotPitch_11 : decode cL_slotPitch 11 = .ok (.isub, 1) := by decide +kernel
theorem dL_slotPitch_12 : decode cL_slotPitch 12 = .ok (.istore_n 1, 1) := by decide +kernel
theorem dL_slotPitch_13 : decode cL_slotPitch 13 = .ok (.iload_n 1, 1) := by decide +kernel
theorem dL_slotPitch_14 : decode cL_slotPitch 14 = .ok (.iconst 1, 1) := by decide +kernel
theorem dL_slotPitch_15 : decode cL_slotPitch 15 = .ok (.if_icmp .ge 7, 3) := by decide +kernel
theorem dL_slotPitch_18 : decode cL_slotPitch 18 = .ok (.iconst 1, 1) := by decide +kernel
theorem dL_slotPitch_19 : decode cL_slotPitch 19 = .ok (.goto 4, 3) := by decide +kernel
theorem dL_slotPitch_22 : decode cL_slotPitch 22 = .ok (.iload_n 1, 1) := by decide +kernel
theorem dL_slotPitch_23 : decode cL_slotPitch 23 = .ok (.ireturn, 1) := by decide +kernel
set_option maxRecDepth 20000 in
theorem ggL_lower_L_slotPitch : GoodIn wsL_lower wsL_slotPitch := goodIn_r _ [4] (by decide +kernel) (by decide +kernel)
set_option maxRecDepth 20000 in
theorem gL_lower_L_slotPitch : GoodIn wsL_lower (va_wsS RL 8 yL_slotPitch wsL_slotPitch) := goodIn_app (goodIn_of _ (by decide +kernel)) ggL_lower_L_slotPitch
theorem dL_lower_0 : decode cL_lower 0 = .ok (.iload_n 1, 1) := by decide +kernel
theorem dL_lower_1 : decode cL_lower 1 = .ok (.aload_n 0, 1) := by decide +kernel
theorem dL_lower_2 : decode cL_lower 2 = .ok (.iconst 2, 1) := by decide +kernel
theorem dL_lower_3 : decode cL_lower 3 = .ok (.iaload, 1) := by decide +kernel
theorem dL_lower_4 : decode cL_lower 4 = .ok (.idiv, 1) := by decide +kernel
theorem dL_lower_5 : decode cL_lower 5 = .ok (.aload_n 0, 1) := by decide +kernel
theorem dL_lower_6 : decode cL_lower 6 = .ok (.invokestatic 8, 3) := by decide +kernel
theorem dL_lower_9 : decode cL_lower 9 = .ok (.iadd, 1) := by decide +kernel
theorem dL_lower_10 : decode cL_lower 10 = .ok (.aload_n 0, 1) := by decide +kernel
theorem dL_lower_11 : decode cL_lower 11 = .ok (.iconst 1, 1) := by decide +kernel
theorem dL_lower_12 : decode cL_lower 12 = .ok (.iaload, 1) := by decide +kernel
theorem dL_lower_13 : decode cL_lower 13 = .ok (.irem, 1) := by decide +kernel
theorem dL_lower_14 : decode cL_lower 14 = .ok (.ireturn, 1) := by decide +kernel
theorem dL_side_0 : decode cL_side 0 = .ok (.iload_n 1, 1) := by decide +kernel
theorem dL_side_1 : decode cL_side 1 = .ok (.iload_n 2, 1) := by decide +kernel
theorem dL_side_2 : decode cL_side 2 = .ok (.iadd, 1) := by decide +kernel
theorem dL_side_3 : decode cL_side 3 = .ok (.aload_n 0, 1) := by decide +kernel
theorem dL_side_4 : decode cL_side 4 = .ok (.iconst 1, 1) := by decide +kernel
theorem dL_side_5 : decode cL_side 5 = .ok (.iaload, 1) := by decide +kernel
theorem dL_side_6 : decode cL_side 6 = .ok (.irem, 1) := by decide +kernel
theorem dL_side_7 : decode cL_side 7 = .ok (.aload_n 0, 1) := by decide +kernel
theorem dL_side_8 : decode cL_side 8 = .ok (.iconst 0, 1) := by decide +kernel
theorem dL_side_9 : decode cL_side 9 = .ok (.iaload, 1) := by decide +kernel
theorem dL_side_10 : decode cL_side 10 = .ok (.imul, 1) := by decide +kernel
theorem dL_side_11 : decode cL_side 11 = .ok (.aload_n 0, 1) := by decide +kernel
theorem dL_side_12 : decode cL_side 12 = .ok (.iconst 1, 1) := by decide +kernel
theorem dL_side_13 : decode cL_side 13 = .ok (.iaload, 1) := by decide +kernel
theorem dL_side_14 : decode cL_side 14 = .ok (.idiv, 1) := by decide +kernel
theorem dL_side_15 : decode cL_side 15 = .ok (.istore_n 3, 1) := by decide +kernel
theorem dL_side_16 : decode cL_side 16 = .ok (.iload_n 3, 1) := by decide +kernel
theorem dL_side_17 : decode cL_side 17 = .ok (.iconst 2, 1) := by decide +kernel
theorem dL_side_18 : decode cL_side 18 = .ok (.irem, 1) := by decide +kernel
theorem dL_side_19 : decode cL_side 19 = .ok (.ifCond .ne 7, 3) := by decide +kernel
theorem dL_side_22 : decode cL_side 22 = .ok (.iconst 1, 1) := by decide +kernel
theorem dL_side_23 : decode cL_side 23 = .ok (.goto 4, 3) := by decide +kernel
theorem dL_side_26 : decode cL_side 26 = .ok (.iconst (-1), 1) := by decide +kernel
theorem dL_side_27 : decode cL_side 27 = .ok (.ireturn, 1) := by decide +kernel
set_option maxRecDepth 20000 in
theorem ggL_voltage_L_side : GoodIn wsL_voltage wsL_side := goodIn_r _ [4] (by decide +kernel) (by decide +kernel)
set_option maxRecDepth 20000 in
theorem gL_voltage_L_side : GoodIn wsL_voltage (va_wsS RL 14 yL_side wsL_side) := goodIn_app (goodIn_of _ (by decide +kernel)) ggL_voltage_L_side
set_option maxRecDepth 20000 in
theorem ggL_voltage_L_lower : GoodIn wsL_voltage wsL_lower := goodIn_r _ [7, 8, 9, 3, 10] (by decide +kernel) (by decide +kernel)
set_option maxRecDepth 20000 in
theorem gL_voltage_L_lower : GoodIn wsL_voltage (va_wsS RL 18 yL_lower wsL_lower) := goodIn_app (goodIn_of _ (by decide +kernel)) ggL_voltage_L_lower
theorem dL_voltage_0 : decode cL_voltage 0 = .ok (.aload_n 0, 1) := by decide +kernel
theorem dL_voltage_1 : decode cL_voltage 1 = .ok (.iload_n 1, 1) := by decide +kernel
theorem dL_voltage_2 : decode cL_voltage 2 = .ok (.aload_n 0, 1) := by decide +kernel
theorem dL_voltage_3 : decode cL_voltage 3 = .ok (.iconst 2, 1) := by decide +kernel
theorem dL_voltage_4 : decode cL_voltage 4 = .ok (.iaload, 1) := by decide +kernel
theorem dL_voltage_5 : decode cL_voltage 5 = .ok (.idiv, 1) := by decide +kernel
theorem dL_voltage_6 : decode cL_voltage 6 = .ok (.iload_n 2, 1) := by decide +kernel
theorem dL_voltage_7 : decode cL_voltage 7 = .ok (.invokestatic 14, 3) := by decide +kernel
theorem dL_voltage_10 : decode cL_voltage 10 = .ok (.aload_n 0, 1) := by decide +kernel
theorem dL_voltage_11 : decode cL_voltage 11 = .ok (.aload_n 0, 1) := by decide +kernel
theorem dL_voltage_12 : decode cL_voltage 12 = .ok (.iload_n 1, 1) := by decide +kernel
theorem dL_voltage_13 : decode cL_voltage 13 = .ok (.invokestatic 18, 3) := by decide +kernel
theorem dL_voltage_16 : decode cL_voltage 16 = .ok (.iload_n 2, 1) := by decide +kernel
theorem dL_voltage_17 : decode cL_voltage 17 = .ok (.invokestatic 14, 3) := by decide +kernel
theorem dL_voltage_20 : decode cL_voltage 20 = .ok (.isub, 1) := by decide +kernel
theorem dL_voltage_21 : decode cL_voltage 21 = .ok (.ireturn, 1) := by decide +kernel
set_option maxRecDepth 20000 in
theorem ggL_armature_X0_setArmature : GoodIn wsL_armature wsX0_setArmature := goodIn_r _ [5, 6, 7, 8, 9, 4, 10, 11, 12, 13, 14, 15, 16, 17, 18, 19, 20, 21, 22, 23, 24, 25, 26, 27, 28, 29, 30, 31, 32, 33, 34, 35, 36, 37, 38, 39, 40, 41, 42, 43] (by decide +kernel) (by decide +kernel)
set_option maxRecDepth 20000 in
theorem gL_armature_X0_setArmature : GoodIn wsL_armature (wsV RL 36 RX0 yX0_setArmature wsX0_setArmature) := goodIn_app (goodIn_of _ (by decide +kernel)) ggL_armature_X0_setArmature
theorem dL_armature_0 : decode cL_armature 0 = .ok (.aload_n 2, 1) := by decide +kernel
theorem dL_armature_1 : decode cL_armature 1 = .ok (.iconst 0, 1) := by decide +kernel
theorem dL_armature_2 : decode cL_armature 2 = .ok (.iconst 2, 1) := by decide +kernel
theorem dL_armature_3 : decode cL_armature 3 = .ok (.iconst 2, 1) := by decide +kernel
theorem dL_armature_4 : decode cL_armature 4 = .ok (.iload_n 1, 1) := by decide +kernel
theorem dL_armature_5 : decode cL_armature 5 = .ok (.iconst 4, 1) := by decide +kernel
theorem dL_armature_6 : decode cL_armature 6 = .ok (.irem, 1) := by decide +kernel
theorem dL_armature_7 : decode cL_armature 7 = .ok (.imul, 1) := by decide +kernel
theorem dL_armature_8 : decode cL_armature 8 = .ok (.iadd, 1) := by decide +kernel
theorem dL_armature_9 : decode cL_armature 9 = .ok (.iastore, 1) := by decide +kernel
theorem dL_armature_10 : decode cL_armature 10 = .ok (.aload_n 2, 1) := by decide +kernel
theorem dL_armature_11 : decode cL_armature 11 = .ok (.iconst 1, 1) := by decide +kernel
theorem dL_armature_12 : decode cL_armature 12 = .ok (.aload_n 2, 1) := by decide +kernel
theorem dL_armature_13 : decode cL_armature 13 = .ok (.iconst 0, 1) := by decide +kernel
theorem dL_armature_14 : decode cL_armature 14 = .ok (.iaload, 1) := by decide +kernel
theorem dL_armature_15 : decode cL_armature 15 = .ok (.iload_n 1, 1) := by decide +kernel
theorem dL_armature_16 : decode cL_armature 16 = .ok (.iconst 4, 1) := by decide +kernel
theorem dL_armature_17 : decode cL_armature 17 = .ok (.idiv, 1) := by decide +kernel
theorem dL_armature_18 : decode cL_armature 18 = .ok (.bipush 25, 2) := by decide +kernel
theorem dL_armature_20 : decode cL_armature 20 = .ok (.aload_n 2, 1) := by decide +kernel
theorem dL_armature_21 : decode cL_armature 21 = .ok (.iconst 0, 1) := by decide +kernel
theorem dL_armature_22 : decode cL_armature 22 = .ok (.iaload, 1) := by decide +kernel
theorem dL_armature_23 : decode cL_armature 23 = .ok (.isub, 1) := by decide +kernel
theorem dL_armature_24 : decode cL_armature 24 = .ok (.irem, 1) := by decide +kernel
theorem dL_armature_25 : decode cL_armature 25 = .ok (.iadd, 1) := by decide +kernel
theorem dL_armature_26 : decode cL_armature 26 = .ok (.iastore, 1) := by decide +kernel
theorem dL_armature_27 : decode cL_armature 27 = .ok (.aload_n 2, 1) := by decide +kernel
theorem dL_armature_28 : decode cL_armature 28 = .ok (.iconst 2, 1) := by decide +kernel
theorem dL_armature_29 : decode cL_armature 29 = .ok (.iconst 1, 1) := by decide +kernel
theorem dL_armature_30 : decode cL_armature 30 = .ok (.iload_n 1, 1) := by decide +kernel
theorem dL_armature_31 : decode cL_armature 31 = .ok (.sipush 128, 3) := by decide +kernel
theorem dL_armature_34 : decode cL_armature 34 = .ok (.idiv, 1) := by decide +kernel
theorem dL_armature_35 : decode cL_armature 35 = .ok (.iconst 3, 1) := by decide +kernel
theorem dL_armature_36 : decode cL_armature 36 = .ok (.irem, 1) := by decide +kernel
theorem dL_armature_37 : decode cL_armature 37 = .ok (.iadd, 1) := by decide +kernel
theorem dL_armature_38 : decode cL_armature 38 = .ok (.iastore, 1) := by decide +kernel
theorem dL_armature_39 : decode cL_armature 39 = .ok (.aload_n 2, 1) := by decide +kernel
theorem dL_armature_40 : decode cL_armature 40 = .ok (.iconst 3, 1) := by decide +kernel
theorem dL_armature_41 : decode cL_armature 41 = .ok (.aload_n 2, 1) := by decide +kernel
theorem dL_armature_42 : decode cL_armature 42 = .ok (.iconst 1, 1) := by decide +kernel
theorem dL_armature_43 : decode cL_armature 43 = .ok (.iaload, 1) := by decide +kernel
theorem dL_armature_44 : decode cL_armature 44 = .ok (.aload_n 2, 1) := by decide +kernel
theorem dL_armature_45 : decode cL_armature 45 = .ok (.iconst 2, 1) := by decide +kernel
theorem dL_armature_46 : decode cL_armature 46 = .ok (.iaload, 1) := by decide +kernel
theorem dL_armature_47 : decode cL_armature 47 = .ok (.imul, 1) := by decide +kernel
theorem dL_armature_48 : decode cL_armature 48 = .ok (.iastore, 1) := by decide +kernel
theorem dL_armature_49 : decode cL_armature 49 = .ok (.aload_n 2, 1) := by decide +kernel
theorem dL_armature_50 : decode cL_armature 50 = .ok (.iconst 4, 1) := by decide +kernel
theorem dL_armature_51 : decode cL_armature 51 = .ok (.iconst 0, 1) := by decide +kernel
theorem dL_armature_52 : decode cL_armature 52 = .ok (.iastore, 1) := by decide +kernel
theorem dL_armature_53 : decode cL_armature 53 = .ok (.aload_n 2, 1) := by decide +kernel
theorem dL_armature_54 : decode cL_armature 54 = .ok (.iconst 5, 1) := by decide +kernel
theorem dL_armature_55 : decode cL_armature 55 = .ok (.iconst 1, 1) := by decide +kernel
theorem dL_armature_56 : decode cL_armature 56 = .ok (.iastore, 1) := by decide +kernel
theorem dL_armature_57 : decode cL_armature 57 = .ok (.aload_n 2, 1) := by decide +kernel
theorem dL_armature_58 : decode cL_armature 58 = .ok (.bipush 6, 2) := by decide +kernel
theorem dL_armature_60 : decode cL_armature 60 = .ok (.iconst 1, 1) := by decide +kernel
theorem dL_armature_61 : decode cL_armature 61 = .ok (.iastore, 1) := by decide +kernel
theorem dL_armature_62 : decode cL_armature 62 = .ok (.aload_n 2, 1) := by decide +kernel
theorem dL_armature_63 : decode cL_armature 63 = .ok (.bipush 7, 2) := by decide +kernel
theorem dL_armature_65 : decode cL_armature 65 = .ok (.iconst 1, 1) := by decide +kernel
theorem dL_armature_66 : decode cL_armature 66 = .ok (.iastore, 1) := by decide +kernel
theorem dL_armature_67 : decode cL_armature 67 = .ok (.aload_n 2, 1) := by decide +kernel
theorem dL_armature_68 : decode cL_armature 68 = .ok (.bipush 8, 2) := by decide +kernel
theorem dL_armature_70 : decode cL_armature 70 = .ok (.iconst 0, 1) := by decide +kernel
theorem dL_armature_71 : decode cL_armature 71 = .ok (.iastore, 1) := by decide +kernel
theorem dL_armature_72 : decode cL_armature 72 = .ok (.iconst 0, 1) := by decide +kernel
theorem dL_armature_73 : decode cL_armature 73 = .ok (.istore 4, 2) := by decide +kernel
theorem dL_armature_75 : decode cL_armature 75 = .ok (.iload 4, 2) := by decide +kernel
theorem dL_armature_77 : decode cL_armature 77 = .ok (.iconst 3, 1) := by decide +kernel
theorem dL_armature_78 : decode cL_armature 78 = .ok (.if_icmp .ge 14, 3) := by decide +kernel
theorem dL_armature_81 : decode cL_armature 81 = .ok (.aload_n 3, 1) := by decide +kernel
theorem dL_armature_82 : decode cL_armature 82 = .ok (.iload 4, 2) := by decide +kernel
theorem dL_armature_84 : decode cL_armature 84 = .ok (.iconst 0, 1) := by decide +kernel
theorem dL_armature_85 : decode cL_armature 85 = .ok (.iastore, 1) := by decide +kernel
theorem dL_armature_86 : decode cL_armature 86 = .ok (.iinc 4 1, 3) := by decide +kernel
theorem dL_armature_89 : decode cL_armature 89 = .ok (.goto (-14), 3) := by decide +kernel
theorem dL_armature_92 : decode cL_armature 92 = .ok (.aload_n 0, 1) := by decide +kernel
theorem dL_armature_93 : decode cL_armature 93 = .ok (.iconst 3, 1) := by decide +kernel
theorem dL_armature_94 : decode cL_armature 94 = .ok (.bipush 12, 2) := by decide +kernel
theorem dL_armature_96 : decode cL_armature 96 = .ok (.iconst 1, 1) := by decide +kernel
theorem dL_armature_97 : decode cL_armature 97 = .ok (.invokevirtual 36, 3) := by decide +kernel
theorem dL_armature_100 : decode cL_armature 100 = .ok (.sipush (-1001), 3) := by decide +kernel
theorem dL_armature_103 : decode cL_armature 103 = .ok (.if_icmp .ne 110, 3) := by decide +kernel
theorem dL_armature_106 : decode cL_armature 106 = .ok (.aload_n 0, 1) := by decide +kernel
theorem dL_armature_107 : decode cL_armature 107 = .ok (.bipush 10, 2) := by decide +kernel
theorem dL_armature_109 : decode cL_armature 109 = .ok (.bipush 12, 2) := by decide +kernel
theorem dL_armature_111 : decode cL_armature 111 = .ok (.iconst 1, 1) := by decide +kernel
theorem dL_armature_112 : decode cL_armature 112 = .ok (.invokevirtual 36, 3) := by decide +kernel
theorem dL_armature_115 : decode cL_armature 115 = .ok (.sipush (-1001), 3) := by decide +kernel
theorem dL_armature_118 : decode cL_armature 118 = .ok (.if_icmp .ne 95, 3) := by decide +kernel
theorem dL_armature_121 : decode cL_armature 121 = .ok (.aload_n 0, 1) := by decide +kernel
theorem dL_armature_122 : decode cL_armature 122 = .ok (.aload_n 2, 1) := by decide +kernel
theorem dL_armature_123 : decode cL_armature 123 = .ok (.iconst 0, 1) := by decide +kernel
theorem dL_armature_124 : decode cL_armature 124 = .ok (.iaload, 1) := by decide +kernel
theorem dL_armature_125 : decode cL_armature 125 = .ok (.aload_n 2, 1) := by decide +kernel
theorem dL_armature_126 : decode cL_armature 126 = .ok (.iconst 0, 1) := by decide +kernel
theorem dL_armature_127 : decode cL_armature 127 = .ok (.iaload, 1) := by decide +kernel
theorem dL_armature_128 : decode cL_armature 128 = .ok (.iconst 1, 1) := by decide +kernel
theorem dL_armature_129 : decode cL_armature 129 = .ok (.isub, 1) := by decide +kernel
theorem dL_armature_130 : decode cL_armature 130 = .ok (.iconst 1, 1) := by decide +kernel
theorem dL_armature_131 : decode cL_armature 131 = .ok (.invokevirtual 36, 3) := by decide +kernel
theorem dL_armature_134 : decode cL_armature 134 = .ok (.sipush (-1001), 3) := by decide +kernel
theorem dL_armature_137 : decode cL_armature 137 = .ok (.if_icmp .ne 76, 3) := by decide +kernel
theorem dL_armature_140 : decode cL_armature 140 = .ok (.aload_n 0, 1) := by decide +kernel
theorem dL_armature_141 : decode cL_armature 141 = .ok (.aload_n 2, 1) := by decide +kernel
theorem dL_armature_142 : decode cL_armature 142 = .ok (.iconst 0, 1) := by decide +kernel
theorem dL_armature_143 : decode cL_armature 143 = .ok (.iaload, 1) := by decide +kernel
theorem dL_armature_144 : decode cL_armature 144 = .ok (.bipush 25, 2) := by decide +kernel
theorem dL_armature_146 : decode cL_armature 146 = .ok (.iconst 1, 1) := by decide +kernel
theorem dL_armature_147 : decode cL_armature 147 = .ok (.invokevirtual 36, 3) := by decide +kernel
theorem dL_armature_150 : decode cL_armature 150 = .ok (.sipush (-1001), 3) := by decide +kernel
theorem dL_armature_153 : decode cL_armature 153 = .ok (.if_icmp .ne 60, 3) := by decide +kernel
theorem dL_armature_156 : decode cL_armature 156 = .ok (.aload_n 0, 1) := by decide +kernel
theorem dL_armature_157 : decode cL_armature 157 = .ok (.aload_n 2, 1) := by decide +kernel
theorem dL_armature_158 : decode cL_armature 158 = .ok (.iconst 0, 1) := by decide +kernel
theorem dL_armature_159 : decode cL_armature 159 = .ok (.iaload, 1) := by decide +kernel
theorem dL_armature_160 : decode cL_armature 160 = .ok (.aload_n 2, 1) := by decide +kernel
theorem dL_armature_161 : decode cL_armature 161 = .ok (.iconst 1, 1) := by decide +kernel
theorem dL_armature_162 : decode cL_armature 162 = .ok (.iaload, 1) := by decide +kernel
theorem dL_armature_163 : decode cL_armature 163 = .ok (.iconst 0, 1) := by decide +kernel
theorem dL_armature_164 : decode cL_armature 164 = .ok (.invokevirtual 36, 3) := by decide +kernel
theorem dL_armature_167 : decode cL_armature 167 = .ok (.sipush (-1001), 3) := by decide +kernel
theorem dL_armature_170 : decode cL_armature 170 = .ok (.if_icmp .ne 43, 3) := by decide +kernel
theorem dL_armature_173 : decode cL_armature 173 = .ok (.aload_n 0, 1) := by decide +kernel
theorem dL_armature_174 : decode cL_armature 174 = .ok (.aload_n 2, 1) := by decide +kernel
theorem dL_armature_175 : decode cL_armature 175 = .ok (.iconst 0, 1) := by decide +kernel
theorem dL_armature_176 : decode cL_armature 176 = .ok (.iaload, 1) := by decide +kernel
theorem dL_armature_177 : decode cL_armature 177 = .ok (.aload_n 2, 1) := by decide +kernel
theorem dL_armature_178 : decode cL_armature 178 = .ok (.iconst 1, 1) := by decide +kernel
theorem dL_armature_179 : decode cL_armature 179 = .ok (.iaload, 1) := by decide +kernel
theorem dL_armature_180 : decode cL_armature 180 = .ok (.iconst 4, 1) := by decide +kernel
theorem dL_armature_181 : decode cL_armature 181 = .ok (.invokevirtual 36, 3) := by decide +kernel
theorem dL_armature_184 : decode cL_armature 184 = .ok (.sipush (-1001), 3) := by decide +kernel
theorem dL_armature_187 : decode cL_armature 187 = .ok (.if_icmp .ne 26, 3) := by decide +kernel
theorem dL_armature_190 : decode cL_armature 190 = .ok (.aload_n 0, 1) := by decide +kernel
theorem dL_armature_191 : decode cL_armature 191 = .ok (.aload_n 2, 1) := by decide +kernel
theorem dL_armature_192 : decode cL_armature 192 = .ok (.iconst 0, 1) := by decide +kernel
theorem dL_armature_193 : decode cL_armature 193 = .ok (.iaload, 1) := by decide +kernel
theorem dL_armature_194 : decode cL_armature 194 = .ok (.aload_n 2, 1) := by decide +kernel
theorem dL_armature_195 : decode cL_armature 195 = .ok (.iconst 1, 1) := by decide +kernel
theorem dL_armature_196 : decode cL_armature 196 = .ok (.iaload, 1) := by decide +kernel
theorem dL_armature_197 : decode cL_armature 197 = .ok (.aload_n 2, 1) := by decide +kernel
theorem dL_armature_198 : decode cL_armature 198 = .ok (.iconst 2, 1) := by decide +kernel
theorem dL_armature_199 : decode cL_armature 199 = .ok (.iaload, 1) := by decide +kernel
theorem dL_armature_200 : decode cL_armature 200 = .ok (.invokevirtual 36, 3) := by decide +kernel
theorem dL_armature_203 : decode cL_armature 203 = .ok (.aload_n 2, 1) := by decide +kernel
theorem dL_armature_204 : decode cL_armature 204 = .ok (.iconst 3, 1) := by decide +kernel
theorem dL_armature_205 : decode cL_armature 205 = .ok (.iaload, 1) := by decide +kernel
theorem dL_armature_206 : decode cL_armature 206 = .ok (.if_icmp .ne 7, 3) := by decide +kernel
theorem dL_armature_209 : decode cL_armature 209 = .ok (.iconst 1, 1) := by decide +kernel
theorem dL_armature_210 : decode cL_armature 210 = .ok (.goto 4, 3) := by decide +kernel
theorem dL_armature_213 : decode cL_armature 213 = .ok (.iconst 0, 1) := by decide +kernel
theorem dL_armature_214 : decode cL_armature 214 = .ok (.ireturn, 1) := by decide +kernel
set_option maxRecDepth 20000 in
theorem ggL_winding_X0_setWinding : GoodIn wsL_winding wsX0_setWinding := goodIn_r _ [5, 6, 7, 8, 9, 4, 10, 11, 12, 13, 14, 15, 16, 17, 18, 19, 20, 21, 22, 23, 24, 25, 26, 27, 28, 29, 30, 31, 32, 33, 34] (by decide +kernel) (by decide +kernel)
set_option maxRecDepth 20000 in
theorem gL_winding_X0_setWinding : GoodIn wsL_winding (wsV RL 42 RX0 yX0_setWinding wsX0_setWinding) := goodIn_app (goodIn_of _ (by decide +kernel)) ggL_winding_X0_setWinding
theorem dL_winding_0 : decode cL_winding 0 = .ok (.iload_n 1, 1) := by decide +kernel
theorem dL_winding_1 : decode cL_winding 1 = .ok (.iconst 2, 1) := by decide +kernel
theorem dL_winding_2 : decode cL_winding 2 = .ok (.irem, 1) := by decide +kernel
theorem dL_winding_3 : decode cL_winding 3 = .ok (.istore_n 3, 1) := by decide +kernel
theorem dL_winding_4 : decode cL_winding 4 = .ok (.iconst 1, 1) := by decide +kernel
theorem dL_winding_5 : decode cL_winding 5 = .ok (.iload_n 1, 1) := by decide +kernel
theorem dL_winding_6 : decode cL_winding 6 = .ok (.iconst 2, 1) := by decide +kernel
theorem dL_winding_7 : decode cL_winding 7 = .ok (.idiv, 1) := by decide +kernel
theorem dL_winding_8 : decode cL_winding 8 = .ok (.iconst 3, 1) := by decide +kernel
theorem dL_winding_9 : decode cL_winding 9 = .ok (.irem, 1) := by decide +kernel
theorem dL_winding_10 : decode cL_winding 10 = .ok (.iadd, 1) := by decide +kernel
theorem dL_winding_11 : decode cL_winding 11 = .ok (.istore 4, 2) := by decide +kernel
theorem dL_winding_13 : decode cL_winding 13 = .ok (.iload_n 1, 1) := by decide +kernel
theorem dL_winding_14 : decode cL_winding 14 = .ok (.bipush 8, 2) := by decide +kernel
theorem dL_winding_16 : decode cL_winding 16 = .ok (.idiv, 1) := by decide +kernel
theorem dL_winding_17 : decode cL_winding 17 = .ok (.iconst 2, 1) := by decide +kernel
theorem dL_winding_18 : decode cL_winding 18 = .ok (.irem, 1) := by decide +kernel
theorem dL_winding_19 : decode cL_winding 19 = .ok (.istore 5, 2) := by decide +kernel
theorem dL_winding_21 : decode cL_winding 21 = .ok (.iload 5, 2) := by decide +kernel
theorem dL_winding_23 : decode cL_winding 23 = .ok (.iconst 1, 1) := by decide +kernel
theorem dL_winding_24 : decode cL_winding 24 = .ok (.if_icmp .ne 8, 3) := by decide +kernel
theorem dL_winding_27 : decode cL_winding 27 = .ok (.iload 4, 2) := by decide +kernel
theorem dL_winding_29 : decode cL_winding 29 = .ok (.goto 6, 3) := by decide +kernel
theorem dL_winding_32 : decode cL_winding 32 = .ok (.iload 4, 2) := by decide +kernel
theorem dL_winding_34 : decode cL_winding 34 = .ok (.ineg, 1) := by decide +kernel
theorem dL_winding_35 : decode cL_winding 35 = .ok (.istore 6, 2) := by decide +kernel
theorem dL_winding_37 : decode cL_winding 37 = .ok (.aload_n 2, 1) := by decide +kernel
theorem dL_winding_38 : decode cL_winding 38 = .ok (.iconst 3, 1) := by decide +kernel
theorem dL_winding_39 : decode cL_winding 39 = .ok (.iaload, 1) := by decide +kernel
theorem dL_winding_40 : decode cL_winding 40 = .ok (.iload 6, 2) := by decide +kernel
theorem dL_winding_42 : decode cL_winding 42 = .ok (.iadd, 1) := by decide +kernel
theorem dL_winding_43 : decode cL_winding 43 = .ok (.istore 7, 2) := by decide +kernel
theorem dL_winding_45 : decode cL_winding 45 = .ok (.aload_n 0, 1) := by decide +kernel
theorem dL_winding_46 : decode cL_winding 46 = .ok (.iconst 2, 1) := by decide +kernel
theorem dL_winding_47 : decode cL_winding 47 = .ok (.iload 4, 2) := by decide +kernel
theorem dL_winding_49 : decode cL_winding 49 = .ok (.iconst 1, 1) := by decide +kernel
theorem dL_winding_50 : decode cL_winding 50 = .ok (.invokevirtual 42, 3) := by decide +kernel
theorem dL_winding_53 : decode cL_winding 53 = .ok (.sipush (-1001), 3) := by decide +kernel
theorem dL_winding_56 : decode cL_winding 56 = .ok (.if_icmp .ne 42, 3) := by decide +kernel
theorem dL_winding_59 : decode cL_winding 59 = .ok (.aload_n 0, 1) := by decide +kernel
theorem dL_winding_60 : decode cL_winding 60 = .ok (.iconst (-1), 1) := by decide +kernel
theorem dL_winding_61 : decode cL_winding 61 = .ok (.iconst 1, 1) := by decide +kernel
theorem dL_winding_62 : decode cL_winding 62 = .ok (.iconst 1, 1) := by decide +kernel
theorem dL_winding_63 : decode cL_winding 63 = .ok (.invokevirtual 42, 3) := by decide +kernel
theorem dL_winding_66 : decode cL_winding 66 = .ok (.sipush (-1001), 3) := by decide +kernel
theorem dL_winding_69 : decode cL_winding 69 = .ok (.if_icmp .ne 29, 3) := by decide +kernel
theorem dL_winding_72 : decode cL_winding 72 = .ok (.aload_n 0, 1) := by decide +kernel
theorem dL_winding_73 : decode cL_winding 73 = .ok (.iload_n 3, 1) := by decide +kernel
theorem dL_winding_74 : decode cL_winding 74 = .ok (.iconst 0, 1) := by decide +kernel
theorem dL_winding_75 : decode cL_winding 75 = .ok (.iconst 1, 1) := by decide +kernel
theorem dL_winding_76 : decode cL_winding 76 = .ok (.invokevirtual 42, 3) := by decide +kernel
theorem dL_winding_79 : decode cL_winding 79 = .ok (.sipush (-1001), 3) := by decide +kernel
theorem dL_winding_82 : decode cL_winding 82 = .ok (.if_icmp .ne 16, 3) := by decide +kernel
theorem dL_winding_85 : decode cL_winding 85 = .ok (.aload_n 0, 1) := by decide +kernel
theorem dL_winding_86 : decode cL_winding 86 = .ok (.iload_n 3, 1) := by decide +kernel
theorem dL_winding_87 : decode cL_winding 87 = .ok (.iconst 4, 1) := by decide +kernel
theorem dL_winding_88 : decode cL_winding 88 = .ok (.iconst 0, 1) := by decide +kernel
theorem dL_winding_89 : decode cL_winding 89 = .ok (.invokevirtual 42, 3) := by decide +kernel
theorem dL_winding_92 : decode cL_winding 92 = .ok (.sipush (-1001), 3) := by decide +kernel
theorem dL_winding_95 : decode cL_winding 95 = .ok (.if_icmp .eq 5, 3) := by decide +kernel
theorem dL_winding_98 : decode cL_winding 98 = .ok (.iconst 0, 1) := by decide +kernel
theorem dL_winding_99 : decode cL_winding 99 = .ok (.ireturn, 1) := by decide +kernel
theorem dL_winding_100 : decode cL_winding 100 = .ok (.iload_n 3, 1) := by decide +kernel
theorem dL_winding_101 : decode cL_winding 101 = .ok (.iconst 1, 1) := by decide +kernel
theorem dL_winding_102 : decode cL_winding 102 = .ok (.if_icmp .ne 44, 3) := by decide +kernel
theorem dL_winding_105 : decode cL_winding 105 = .ok (.iload 7, 2) := by decide +kernel
theorem dL_winding_107 : decode cL_winding 107 = .ok (.aload_n 2, 1) := by decide +kernel
theorem dL_winding_108 : decode cL_winding 108 = .ok (.iconst 0, 1) := by decide +kernel
theorem dL_winding_109 : decode cL_winding 109 = .ok (.iaload, 1) := by decide +kernel
theorem dL_winding_110 : decode cL_winding 110 = .ok (.iconst 2, 1) := by decide +kernel
theorem dL_winding_111 : decode cL_winding 111 = .ok (.idiv, 1) := by decide +kernel
theorem dL_winding_112 : decode cL_winding 112 = .ok (.irem, 1) := by decide +kernel
theorem dL_winding_113 : decode cL_winding 113 = .ok (.ifCond .eq 33, 3) := by decide +kernel
theorem dL_winding_116 : decode cL_winding 116 = .ok (.aload_n 0, 1) := by decide +kernel
theorem dL_winding_117 : decode cL_winding 117 = .ok (.iload_n 3, 1) := by decide +kernel
theorem dL_winding_118 : decode cL_winding 118 = .ok (.iload 4, 2) := by decide +kernel
theorem dL_winding_120 : decode cL_winding 120 = .ok (.iload 5, 2) := by decide +kernel
theorem dL_winding_122 : decode cL_winding 122 = .ok (.iconst 1, 1) := by decide +kernel
theorem dL_winding_123 : decode cL_winding 123 = .ok (.if_icmp .ne 7, 3) := by decide +kernel
theorem dL_winding_126 : decode cL_winding 126 = .ok (.iconst 1, 1) := by decide +kernel
theorem dL_winding_127 : decode cL_winding 127 = .ok (.goto 4, 3) := by decide +kernel
theorem dL_winding_130 : decode cL_winding 130 = .ok (.iconst 0, 1) := by decide +kernel
theorem dL_winding_131 : decode cL_winding 131 = .ok (.invokevirtual 42, 3) := by decide +kernel
theorem dL_winding_134 : decode cL_winding 134 = .ok (.sipush (-1003), 3) := by decide +kernel
theorem dL_winding_137 : decode cL_winding 137 = .ok (.if_icmp .ne 7, 3) := by decide +kernel
theorem dL_winding_140 : decode cL_winding 140 = .ok (.iconst 1, 1) := by decide +kernel
theorem dL_winding_141 : decode cL_winding 141 = .ok (.goto 4, 3) := by decide +kernel
theorem dL_winding_144 : decode cL_winding 144 = .ok (.iconst 0, 1) := by decide +kernel
theorem dL_winding_145 : decode cL_winding 145 = .ok (.ireturn, 1) := by decide +kernel
theorem dL_winding_146 : decode cL_winding 146 = .ok (.aload_n 2, 1) := by decide +kernel
theorem dL_winding_147 : decode cL_winding 147 = .ok (.iconst 4, 1) := by decide +kernel
theorem dL_winding_148 : decode cL_winding 148 = .ok (.iload_n 3, 1) := by decide +kernel
theorem dL_winding_149 : decode cL_winding 149 = .ok (.iastore, 1) := by decide +kernel
theorem dL_winding_150 : decode cL_winding 150 = .ok (.aload_n 2, 1) := by decide +kernel
theorem dL_winding_151 : decode cL_winding 151 = .ok (.iconst 5, 1) := by decide +kernel
theorem dL_winding_152 : decode cL_winding 152 = .ok (.iload 4, 2) := by decide +kernel
theorem dL_winding_154 : decode cL_winding 154 = .ok (.iastore, 1) := by decide +kernel
theorem dL_winding_155 : decode cL_winding 155 = .ok (.aload_n 2, 1) := by decide +kernel
theorem dL_winding_156 : decode cL_winding 156 = .ok (.bipush 6, 2) := by decide +kernel
theorem dL_winding_158 : decode cL_winding 158 = .ok (.iload 5, 2) := by decide +kernel
theorem dL_winding_160 : decode cL_winding 160 = .ok (.iastore, 1) := by decide +kernel
theorem dL_winding_161 : decode cL_winding 161 = .ok (.aload_n 2, 1) := by decide +kernel
theorem dL_winding_162 : decode cL_winding 162 = .ok (.bipush 7, 2) := by decide +kernel
theorem dL_winding_164 : decode cL_winding 164 = .ok (.iload_n 3, 1) := by decide +kernel
theorem dL_winding_165 : decode cL_winding 165 = .ok (.ifCond .ne 8, 3) := by decide +kernel
theorem dL_winding_168 : decode cL_winding 168 = .ok (.iload 6, 2) := by decide +kernel
theorem dL_winding_170 : decode cL_winding 170 = .ok (.goto 11, 3) := by decide +kernel
theorem dL_winding_173 : decode cL_winding 173 = .ok (.iload 7, 2) := by decide +kernel
theorem dL_winding_175 : decode cL_winding 175 = .ok (.aload_n 2, 1) := by decide +kernel
theorem dL_winding_176 : decode cL_winding 176 = .ok (.iconst 0, 1) := by decide +kernel
theorem dL_winding_177 : decode cL_winding 177 = .ok (.iaload, 1) := by decide +kernel
theorem dL_winding_178 : decode cL_winding 178 = .ok (.iconst 2, 1) := by decide +kernel
theorem dL_winding_179 : decode cL_winding 179 = .ok (.idiv, 1) := by decide +kernel
theorem dL_winding_180 : decode cL_winding 180 = .ok (.idiv, 1) := by decide +kernel
theorem dL_winding_181 : decode cL_winding 181 = .ok (.iastore, 1) := by decide +kernel
theorem dL_winding_182 : decode cL_winding 182 = .ok (.aload_n 0, 1) := by decide +kernel
theorem dL_winding_183 : decode cL_winding 183 = .ok (.iload_n 3, 1) := by decide +kernel
theorem dL_winding_184 : decode cL_winding 184 = .ok (.iload 4, 2) := by decide +kernel
theorem dL_winding_186 : decode cL_winding 186 = .ok (.iload 5, 2) := by decide +kernel
theorem dL_winding_188 : decode cL_winding 188 = .ok (.iconst 1, 1) := by decide +kernel
theorem dL_winding_189 : decode cL_winding 189 = .ok (.if_icmp .ne 7, 3) := by decide +kernel
theorem dL_winding_192 : decode cL_winding 192 = .ok (.iconst 1, 1) := by decide +kernel
theorem dL_winding_193 : decode cL_winding 193 = .ok (.goto 4, 3) := by decide +kernel
theorem dL_winding_196 : decode cL_winding 196 = .ok (.iconst 0, 1) := by decide +kernel
theorem dL_winding_197 : decode cL_winding 197 = .ok (.invokevirtual 42, 3) := by decide +kernel
theorem dL_winding_200 : decode cL_winding 200 = .ok (.aload_n 2, 1) := by decide +kernel
theorem dL_winding_201 : decode cL_winding 201 = .ok (.bipush 7, 2) := by decide +kernel
theorem dL_winding_203 : decode cL_winding 203 = .ok (.iaload, 1) := by decide +kernel
theorem dL_winding_204 : decode cL_winding 204 = .ok (.if_icmp .ne 7, 3) := by decide +kernel
theorem dL_winding_207 : decode cL_winding 207 = .ok (.iconst 1, 1) := by decide +kernel
theorem dL_winding_208 : decode cL_winding 208 = .ok (.goto 4, 3) := by decide +kernel
theorem dL_winding_211 : decode cL_winding 211 = .ok (.iconst 0, 1) := by decide +kernel
theorem dL_winding_212 : decode cL_winding 212 = .ok (.ireturn, 1) := by decide +kernel
set_option maxRecDepth 20000 in
theorem ggL_changes_L_armature : GoodIn wsL_changes wsL_armature := goodIn_r _ [4, 5, 6, 7, 8, 9, 10, 11, 12, 13, 14, 15, 16, 17, 18, 19, 20, 21, 22, 23, 24, 25, 26, 27, 28, 29, 30, 31, 32, 33, 34, 35, 36, 71, 72, 73, 74, 75, 76, 77, 78, 79, 80, 81] (by decide +kernel) (by decide +kernel)
set_option maxRecDepth 20000 in
theorem gL_changes_L_armature : GoodIn wsL_changes (va_wsS RL 46 yL_armature wsL_armature) := goodIn_app (goodIn_of _ (by decide +kernel)) ggL_changes_L_armature
set_option maxRecDepth 20000 in
theorem ggL_changes_L_winding : GoodIn wsL_changes wsL_winding := goodIn_r _ [39, 40, 41, 42, 8, 43, 36, 44, 45, 46, 47, 15, 10, 48, 49, 50, 51, 29, 30, 31, 32, 33, 34, 35, 71, 72, 73, 74, 75, 76, 77, 78, 79, 80, 81] (by decide +kernel) (by decide +kernel)
set_option maxRecDepth 20000 in
theorem gL_changes_L_winding : GoodIn wsL_changes (va_wsS RL 50 yL_winding wsL_winding) := goodIn_app (goodIn_of _ (by decide +kernel)) ggL_changes_L_winding
set_option maxRecDepth 20000 in
theorem ggL_changes_X0_setChording : GoodIn wsL_changes wsX0_setChording := goodIn_r _ [55, 18, 71, 72, 73, 74, 75, 76, 77, 78, 79, 80, 81] (by decide +kernel) (by decide +kernel)
set_option maxRecDepth 20000 in
theorem gL_changes_X0_setChording : GoodIn wsL_changes (wsV RL 54 RX0 yX0_setChording wsX0_setChording) := goodIn_app (goodIn_of _ (by decide +kernel)) ggL_changes_X0_setChording
set_option maxRecDepth 20000 in
theorem ggL_changes_L_isOpen : GoodIn wsL_changes wsL_isOpen := goodIn_r _ [58] (by decide +kernel) (by decide +kernel)
set_option maxRecDepth 20000 in
theorem gL_changes_L_isOpen : GoodIn wsL_changes (va_wsS RL 25 yL_isOpen wsL_isOpen) := goodIn_app (goodIn_of _ (by decide +kernel)) ggL_changes_L_isOpen
set_option maxRecDepth 20000 in
theorem ggL_changes_X0_setOpen : GoodIn wsL_changes wsX0_setOpen := goodIn_r _ [62, 10, 19, 63, 64, 65, 8, 66, 67, 68, 69, 70, 71, 72, 73, 74, 75, 76, 77, 78, 79, 80, 81] (by decide +kernel) (by decide +kernel)
set_option maxRecDepth 20000 in
theorem gL_changes_X0_setOpen : GoodIn wsL_changes (wsV RL 58 RX0 yX0_setOpen wsX0_setOpen) := goodIn_app (goodIn_of _ (by decide +kernel)) ggL_changes_X0_setOpen
theorem dL_changes_0 : decode cL_changes 0 = .ok (.iload_n 1, 1) := by decide +kernel
theorem dL_changes_1 : decode cL_changes 1 = .ok (.bipush 8, 2) := by decide +kernel
theorem dL_changes_3 : decode cL_changes 3 = .ok (.irem, 1) := by decide +kernel
theorem dL_changes_4 : decode cL_changes 4 = .ok (.istore 5, 2) := by decide +kernel
theorem dL_changes_6 : decode cL_changes 6 = .ok (.iload 5, 2) := by decide +kernel
theorem dL_changes_8 : decode cL_changes 8 = .ok (.ifCond .ne 12, 3) := by decide +kernel
theorem dL_changes_11 : decode cL_changes 11 = .ok (.aload_n 0, 1) := by decide +kernel
theorem dL_changes_12 : decode cL_changes 12 = .ok (.iload_n 2, 1) := by decide +kernel
theorem dL_changes_13 : decode cL_changes 13 = .ok (.aload_n 3, 1) := by decide +kernel
theorem dL_changes_14 : decode cL_changes 14 = .ok (.aload 4, 2) := by decide +kernel
theorem dL_changes_16 : decode cL_changes 16 = .ok (.invokestatic 46, 3) := by decide +kernel
theorem dL_changes_19 : decode cL_changes 19 = .ok (.ireturn, 1) := by decide +kernel
theorem dL_changes_20 : decode cL_changes 20 = .ok (.iload 5, 2) := by decide +kernel
theorem dL_changes_22 : decode cL_changes 22 = .ok (.iconst 4, 1) := by decide +kernel
theorem dL_changes_23 : decode cL_changes 23 = .ok (.if_icmp .ge 10, 3) := by decide +kernel
theorem dL_changes_26 : decode cL_changes 26 = .ok (.aload_n 0, 1) := by decide +kernel
theorem dL_changes_27 : decode cL_changes 27 = .ok (.iload_n 2, 1) := by decide +kernel
theorem dL_changes_28 : decode cL_changes 28 = .ok (.aload_n 3, 1) := by decide +kernel
theorem dL_changes_29 : decode cL_changes 29 = .ok (.invokestatic 50, 3) := by decide +kernel
theorem dL_changes_32 : decode cL_changes 32 = .ok (.ireturn, 1) := by decide +kernel
theorem dL_changes_33 : decode cL_changes 33 = .ok (.iload 5, 2) := by decide +kernel
theorem dL_changes_35 : decode cL_changes 35 = .ok (.iconst 4, 1) := by decide +kernel
theorem dL_changes_36 : decode cL_changes 36 = .ok (.if_icmp .ne 59, 3) := by decide +kernel
theorem dL_changes_39 : decode cL_changes 39 = .ok (.aload_n 3, 1) := by decide +kernel
theorem dL_changes_40 : decode cL_changes 40 = .ok (.bipush 8, 2) := by decide +kernel
theorem dL_changes_42 : decode cL_changes 42 = .ok (.iaload, 1) := by decide +kernel
theorem dL_changes_43 : decode cL_changes 43 = .ok (.istore 6, 2) := by decide +kernel
theorem dL_changes_45 : decode cL_changes 45 = .ok (.aload_n 3, 1) := by decide +kernel
theorem dL_changes_46 : decode cL_changes 46 = .ok (.bipush 8, 2) := by decide +kernel
theorem dL_changes_48 : decode cL_changes 48 = .ok (.iload_n 2, 1) := by decide +kernel
theorem dL_changes_49 : decode cL_changes 49 = .ok (.bipush 6, 2) := by decide +kernel
theorem dL_changes_51 : decode cL_changes 51 = .ok (.irem, 1) := by decide +kernel
theorem dL_changes_52 : decode cL_changes 52 = .ok (.iastore, 1) := by decide +kernel
theorem dL_changes_53 : decode cL_changes 53 = .ok (.aload_n 0, 1) := by decide +kernel
theorem dL_changes_54 : decode cL_changes 54 = .ok (.iconst (-1), 1) := by decide +kernel
theorem dL_changes_55 : decode cL_changes 55 = .ok (.invokevirtual 54, 3) := by decide +kernel
theorem dL_changes_58 : decode cL_changes 58 = .ok (.sipush (-1001), 3) := by decide +kernel
theorem dL_changes_61 : decode cL_changes 61 = .ok (.if_icmp .ne 32, 3) := by decide +kernel
theorem dL_changes_64 : decode cL_changes 64 = .ok (.aload_n 0, 1) := by decide +kernel
theorem dL_changes_65 : decode cL_changes 65 = .ok (.bipush 6, 2) := by decide +kernel
theorem dL_changes_67 : decode cL_changes 67 = .ok (.invokevirtual 54, 3) := by decide +kernel
theorem dL_changes_70 : decode cL_changes 70 = .ok (.sipush (-1001), 3) := by decide +kernel
theorem dL_changes_73 : decode cL_changes 73 = .ok (.if_icmp .ne 20, 3) := by decide +kernel
theorem dL_changes_76 : decode cL_changes 76 = .ok (.aload_n 0, 1) := by decide +kernel
theorem dL_changes_77 : decode cL_changes 77 = .ok (.aload_n 3, 1) := by decide +kernel
theorem dL_changes_78 : decode cL_changes 78 = .ok (.bipush 8, 2) := by decide +kernel
theorem dL_changes_80 : decode cL_changes 80 = .ok (.iaload, 1) := by decide +kernel
theorem dL_changes_81 : decode cL_changes 81 = .ok (.invokevirtual 54, 3) := by decide +kernel
theorem dL_changes_84 : decode cL_changes 84 = .ok (.iload 6, 2) := by decide +kernel
theorem dL_changes_86 : decode cL_changes 86 = .ok (.if_icmp .ne 7, 3) := by decide +kernel
theorem dL_changes_89 : decode cL_changes 89 = .ok (.iconst 1, 1) := by decide +kernel
theorem dL_changes_90 : decode cL_changes 90 = .ok (.goto 4, 3) := by decide +kernel
theorem dL_changes_93 : decode cL_changes 93 = .ok (.iconst 0, 1) := by decide +kernel
theorem dL_changes_94 : decode cL_changes 94 = .ok (.ireturn, 1) := by decide +kernel
theorem dL_changes_95 : decode cL_changes 95 = .ok (.iload_n 2, 1) := by decide +kernel
theorem dL_changes_96 : decode cL_changes 96 = .ok (.aload_n 3, 1) := by decide +kernel
theorem dL_changes_97 : decode cL_changes 97 = .ok (.iconst 3, 1) := by decide +kernel
theorem dL_changes_98 : decode cL_changes 98 = .ok (.iaload, 1) := by decide +kernel
theorem dL_changes_99 : decode cL_changes 99 = .ok (.irem, 1) := by decide +kernel
theorem dL_changes_100 : decode cL_changes 100 = .ok (.istore 6, 2) := by decide +kernel
theorem dL_changes_102 : decode cL_changes 102 = .ok (.aload 4, 2) := by decide +kernel
theorem dL_changes_104 : decode cL_changes 104 = .ok (.iload 6, 2) := by decide +kernel
theorem dL_changes_106 : decode cL_changes 106 = .ok (.invokestatic 25, 3) := by decide +kernel
theorem dL_changes_109 : decode cL_changes 109 = .ok (.ifCond .eq 7, 3) := by decide +kernel
theorem dL_changes_112 : decode cL_changes 112 = .ok (.iconst 1, 1) := by decide +kernel
theorem dL_changes_113 : decode cL_changes 113 = .ok (.goto 4, 3) := by decide +kernel
theorem dL_changes_116 : decode cL_changes 116 = .ok (.iconst 0, 1) := by decide +kernel
theorem dL_changes_117 : decode cL_changes 117 = .ok (.istore 7, 2) := by decide +kernel
theorem dL_changes_119 : decode cL_changes 119 = .ok (.iload_n 2, 1) := by decide +kernel
theorem dL_changes_120 : decode cL_changes 120 = .ok (.sipush 128, 3) := by decide +kernel
theorem dL_changes_123 : decode cL_changes 123 = .ok (.idiv, 1) := by decide +kernel
theorem dL_changes_124 : decode cL_changes 124 = .ok (.iconst 3, 1) := by decide +kernel
theorem dL_changes_125 : decode cL_changes 125 = .ok (.irem, 1) := by decide +kernel
theorem dL_changes_126 : decode cL_changes 126 = .ok (.ifCond .le 7, 3) := by decide +kernel
theorem dL_changes_129 : decode cL_changes 129 = .ok (.iconst 1, 1) := by decide +kernel
theorem dL_changes_130 : decode cL_changes 130 = .ok (.goto 4, 3) := by decide +kernel
theorem dL_changes_133 : decode cL_changes 133 = .ok (.iconst 0, 1) := by decide +kernel
theorem dL_changes_134 : decode cL_changes 134 = .ok (.istore 8, 2) := by decide +kernel
theorem dL_changes_136 : decode cL_changes 136 = .ok (.aload 4, 2) := by decide +kernel
theorem dL_changes_138 : decode cL_changes 138 = .ok (.iload 6, 2) := by decide +kernel
theorem dL_changes_140 : decode cL_changes 140 = .ok (.bipush 24, 2) := by decide +kernel
theorem dL_changes_142 : decode cL_changes 142 = .ok (.idiv, 1) := by decide +kernel
theorem dL_changes_143 : decode cL_changes 143 = .ok (.iload 8, 2) := by decide +kernel
theorem dL_changes_145 : decode cL_changes 145 = .ok (.ifCond .eq 22, 3) := by decide +kernel
theorem dL_changes_148 : decode cL_changes 148 = .ok (.aload 4, 2) := by decide +kernel
theorem dL_changes_150 : decode cL_changes 150 = .ok (.iload 6, 2) := by decide +kernel
theorem dL_changes_152 : decode cL_changes 152 = .ok (.bipush 24, 2) := by decide +kernel
theorem dL_changes_154 : decode cL_changes 154 = .ok (.idiv, 1) := by decide +kernel
theorem dL_changes_155 : decode cL_changes 155 = .ok (.iaload, 1) := by decide +kernel
theorem dL_changes_156 : decode cL_changes 156 = .ok (.iconst 1, 1) := by decide +kernel
theorem dL_changes_157 : decode cL_changes 157 = .ok (.iload 6, 2) := by decide +kernel
theorem dL_changes_159 : decode cL_changes 159 = .ok (.bipush 24, 2) := by decide +kernel
theorem dL_changes_161 : decode cL_changes 161 = .ok (.irem, 1) := by decide +kernel
theorem dL_changes_162 : decode cL_changes 162 = .ok (.ishl, 1) := by decide +kernel
theorem dL_changes_163 : decode cL_changes 163 = .ok (.ior, 1) := by decide +kernel
theorem dL_changes_164 : decode cL_changes 164 = .ok (.goto 21, 3) := by decide +kernel
theorem dL_changes_167 : decode cL_changes 167 = .ok (.aload 4, 2) := by decide +kernel
theorem dL_changes_169 : decode cL_changes 169 = .ok (.iload 6, 2) := by decide +kernel
theorem dL_changes_171 : decode cL_changes 171 = .ok (.bipush 24, 2) := by decide +kernel
theorem dL_changes_173 : decode cL_changes 173 = .ok (.idiv, 1) := by decide +kernel
theorem dL_changes_174 : decode cL_changes 174 = .ok (.iaload, 1) := by decide +kernel
theorem dL_changes_175 : decode cL_changes 175 = .ok (.iconst 1, 1) := by decide +kernel
theorem dL_changes_176 : decode cL_changes 176 = .ok (.iload 6, 2) := by decide +kernel
theorem dL_changes_178 : decode cL_changes 178 = .ok (.bipush 24, 2) := by decide +kernel
theorem dL_changes_180 : decode cL_changes 180 = .ok (.irem, 1) := by decide +kernel
theorem dL_changes_181 : decode cL_changes 181 = .ok (.ishl, 1) := by decide +kernel
theorem dL_changes_182 : decode cL_changes 182 = .ok (.iconst (-1), 1) := by decide +kernel
theorem dL_changes_183 : decode cL_changes 183 = .ok (.ixor, 1) := by decide +kernel
theorem dL_changes_184 : decode cL_changes 184 = .ok (.iand, 1) := by decide +kernel
theorem dL_changes_185 : decode cL_changes 185 = .ok (.iastore, 1) := by decide +kernel
theorem dL_changes_186 : decode cL_changes 186 = .ok (.aload_n 0, 1) := by decide +kernel
theorem dL_changes_187 : decode cL_changes 187 = .ok (.aload_n 3, 1) := by decide +kernel
theorem dL_changes_188 : decode cL_changes 188 = .ok (.iconst 3, 1) := by decide +kernel
theorem dL_changes_189 : decode cL_changes 189 = .ok (.iaload, 1) := by decide +kernel
theorem dL_changes_190 : decode cL_changes 190 = .ok (.iload 8, 2) := by decide +kernel
theorem dL_changes_192 : decode cL_changes 192 = .ok (.invokevirtual 58, 3) := by decide +kernel
theorem dL_changes_195 : decode cL_changes 195 = .ok (.sipush (-1002), 3) := by decide +kernel
theorem dL_changes_198 : decode cL_changes 198 = .ok (.if_icmp .ne 33, 3) := by decide +kernel
theorem dL_changes_201 : decode cL_changes 201 = .ok (.aload_n 0, 1) := by decide +kernel
theorem dL_changes_202 : decode cL_changes 202 = .ok (.iconst (-1), 1) := by decide +kernel
theorem dL_changes_203 : decode cL_changes 203 = .ok (.iload 8, 2) := by decide +kernel
theorem dL_changes_205 : decode cL_changes 205 = .ok (.invokevirtual 58, 3) := by decide +kernel
theorem dL_changes_208 : decode cL_changes 208 = .ok (.sipush (-1002), 3) := by decide +kernel
theorem dL_changes_211 : decode cL_changes 211 = .ok (.if_icmp .ne 20, 3) := by decide +kernel
theorem dL_changes_214 : decode cL_changes 214 = .ok (.aload_n 0, 1) := by decide +kernel
theorem dL_changes_215 : decode cL_changes 215 = .ok (.iload 6, 2) := by decide +kernel
theorem dL_changes_217 : decode cL_changes 217 = .ok (.iload 8, 2) := by decide +kernel
theorem dL_changes_219 : decode cL_changes 219 = .ok (.invokevirtual 58, 3) := by decide +kernel
theorem dL_changes_222 : decode cL_changes 222 = .ok (.iload 7, 2) := by decide +kernel
theorem dL_changes_224 : decode cL_changes 224 = .ok (.if_icmp .ne 7, 3) := by decide +kernel
theorem dL_changes_227 : decode cL_changes 227 = .ok (.iconst 1, 1) := by decide +kernel
theorem dL_changes_228 : decode cL_changes 228 = .ok (.goto 4, 3) := by decide +kernel
theorem dL_changes_231 : decode cL_changes 231 = .ok (.iconst 0, 1) := by decide +kernel
theorem dL_changes_232 : decode cL_changes 232 = .ok (.ireturn, 1) := by decide +kernel
theorem dL_begin_0 : decode cL_begin 0 = .ok (.aload_n 0, 1) := by decide +kernel
theorem dL_begin_1 : decode cL_begin 1 = .ok (.iconst 0, 1) := by decide +kernel
theorem dL_begin_2 : decode cL_begin 2 = .ok (.iconst 4, 1) := by decide +kernel
theorem dL_begin_3 : decode cL_begin 3 = .ok (.iastore, 1) := by decide +kernel
theorem dL_begin_4 : decode cL_begin 4 = .ok (.aload_n 0, 1) := by decide +kernel
theorem dL_begin_5 : decode cL_begin 5 = .ok (.iconst 1, 1) := by decide +kernel
theorem dL_begin_6 : decode cL_begin 6 = .ok (.bipush 12, 2) := by decide +kernel
theorem dL_begin_8 : decode cL_begin 8 = .ok (.iastore, 1) := by decide +kernel
theorem dL_begin_9 : decode cL_begin 9 = .ok (.aload_n 0, 1) := by decide +kernel
theorem dL_begin_10 : decode cL_begin 10 = .ok (.iconst 2, 1) := by decide +kernel
theorem dL_begin_11 : decode cL_begin 11 = .ok (.iconst 1, 1) := by decide +kernel
theorem dL_begin_12 : decode cL_begin 12 = .ok (.iastore, 1) := by decide +kernel
theorem dL_begin_13 : decode cL_begin 13 = .ok (.aload_n 0, 1) := by decide +kernel
theorem dL_begin_14 : decode cL_begin 14 = .ok (.iconst 3, 1) := by decide +kernel
theorem dL_begin_15 : decode cL_begin 15 = .ok (.bipush 12, 2) := by decide +kernel
theorem dL_begin_17 : decode cL_begin 17 = .ok (.iastore, 1) := by decide +kernel
theorem dL_begin_18 : decode cL_begin 18 = .ok (.aload_n 0, 1) := by decide +kernel
theorem dL_begin_19 : decode cL_begin 19 = .ok (.iconst 5, 1) := by decide +kernel
theorem dL_begin_20 : decode cL_begin 20 = .ok (.iconst 1, 1) := by decide +kernel
theorem dL_begin_21 : decode cL_begin 21 = .ok (.iastore, 1) := by decide +kernel
theorem dL_begin_22 : decode cL_begin 22 = .ok (.aload_n 0, 1) := by decide +kernel
theorem dL_begin_23 : decode cL_begin 23 = .ok (.bipush 6, 2) := by decide +kernel
theorem dL_begin_25 : decode cL_begin 25 = .ok (.iconst 1, 1) := by decide +kernel
theorem dL_begin_26 : decode cL_begin 26 = .ok (.iastore, 1) := by decide +kernel
theorem dL_begin_27 : decode cL_begin 27 = .ok (.aload_n 0, 1) := by decide +kernel
theorem dL_begin_28 : decode cL_begin 28 = .ok (.bipush 7, 2) := by decide +kernel
theorem dL_begin_30 : decode cL_begin 30 = .ok (.iconst 1, 1) := by decide +kernel
theorem dL_begin_31 : decode cL_begin 31 = .ok (.iastore, 1) := by decide +kernel
theorem dL_begin_32 : decode cL_begin 32 = .ok (.return_, 1) := by decide +kernel
theorem dL_gcd_0 : decode cL_gcd 0 = .ok (.iconst 1, 1) := by decide +kernel
theorem dL_gcd_1 : decode cL_gcd 1 = .ok (.istore_n 2, 1) := by decide +kernel
theorem dL_gcd_2 : decode cL_gcd 2 = .ok (.iconst 2, 1) := by decide +kernel
theorem dL_gcd_3 : decode cL_gcd 3 = .ok (.istore_n 3, 1) := by decide +kernel
theorem dL_gcd_4 : decode cL_gcd 4 = .ok (.iload_n 3, 1) := by decide +kernel
theorem dL_gcd_5 : decode cL_gcd 5 = .ok (.iload_n 1, 1) := by decide +kernel
theorem dL_gcd_6 : decode cL_gcd 6 = .ok (.if_icmp .gt 27, 3) := by decide +kernel
theorem dL_gcd_9 : decode cL_gcd 9 = .ok (.iload_n 0, 1) := by decide +kernel
theorem dL_gcd_10 : decode cL_gcd 10 = .ok (.iload_n 3, 1) := by decide +kernel
theorem dL_gcd_11 : decode cL_gcd 11 = .ok (.irem, 1) := by decide +kernel
theorem dL_gcd_12 : decode cL_gcd 12 = .ok (.ifCond .ne 13, 3) := by decide +kernel
theorem dL_gcd_15 : decode cL_gcd 15 = .ok (.iload_n 1, 1) := by decide +kernel
theorem dL_gcd_16 : decode cL_gcd 16 = .ok (.iload_n 3, 1) := by decide +kernel
theorem dL_gcd_17 : decode cL_gcd 17 = .ok (.irem, 1) := by decide +kernel
theorem dL_gcd_18 : decode cL_gcd 18 = .ok (.ifCond .ne 7, 3) := by decide +kernel
theorem dL_gcd_21 : decode cL_gcd 21 = .ok (.iload_n 3, 1) := by decide +kernel
theorem dL_gcd_22 : decode cL_gcd 22 = .ok (.goto 4, 3) := by decide +kernel
theorem dL_gcd_25 : decode cL_gcd 25 = .ok (.iload_n 2, 1) := by decide +kernel
theorem dL_gcd_26 : decode cL_gcd 26 = .ok (.istore_n 2, 1) := by decide +kernel
theorem dL_gcd_27 : decode cL_gcd 27 = .ok (.iinc 3 1, 3) := by decide +kernel
theorem dL_gcd_30 : decode cL_gcd 30 = .ok (.goto (-26), 3) := by decide +kernel
theorem dL_gcd_33 : decode cL_gcd 33 = .ok (.iload_n 2, 1) := by decide +kernel
theorem dL_gcd_34 : decode cL_gcd 34 = .ok (.ireturn, 1) := by decide +kernel
set_option maxRecDepth 20000 in
theorem ggL_circuits_L_mod : GoodIn wsL_circuits wsL_mod := goodIn_r _ [4] (by decide +kernel) (by decide +kernel)
set_option maxRecDepth 20000 in
theorem gL_circuits_L_mod : GoodIn wsL_circuits (va_wsS RL 29 yL_mod wsL_mod) := goodIn_app (goodIn_of _ (by decide +kernel)) ggL_circuits_L_mod
set_option maxRecDepth 20000 in
theorem ggL_circuits_L_gcd : GoodIn wsL_circuits wsL_gcd := goodIn_r _ [7] (by decide +kernel) (by decide +kernel)
set_option maxRecDepth 20000 in
theorem gL_circuits_L_gcd : GoodIn wsL_circuits (va_wsS RL 62 yL_gcd wsL_gcd) := goodIn_app (goodIn_of _ (by decide +kernel)) ggL_circuits_L_gcd
set_option maxRecDepth 20000 in
theorem ggL_circuits_X0_coilAt : GoodIn wsL_circuits wsX0_coilAt := goodIn_r _ [12, 13, 14, 15, 16, 17, 11, 18, 19, 20, 21, 22, 23, 24, 25, 51, 52, 53, 54, 55, 56, 57, 58, 59, 60, 61] (by decide +kernel) (by decide +kernel)
end
section
set_option maxRecDepth 20000 in
theorem gL_circuits_X0_coilAt : GoodIn wsL_circuits (wsV RL 65 RX0 yX0_coilAt wsX0_coilAt) := goodIn_app (goodIn_of _ (by decide +kernel)) ggL_circuits_X0_coilAt
set_option maxRecDepth 20000 in
theorem ggL_circuits_X0_circuitOf : GoodIn wsL_circuits wsX0_circuitOf := goodIn_r _ [29, 14, 15, 16, 17, 11, 18, 19, 20, 21, 22, 13, 23, 24, 25, 51, 52, 53, 54, 55, 56, 57, 58, 59, 60, 61] (by decide +kernel) (by decide +kernel)
set_option maxRecDepth 20000 in
theorem gL_circuits_X0_circuitOf : GoodIn wsL_circuits (wsV RL 68 RX0 yX0_circuitOf wsX0_circuitOf) := goodIn_app (goodIn_of _ (by decide +kernel)) ggL_circuits_X0_circuitOf
set_option maxRecDepth 20000 in
theorem ggL_circuits_X0_endBar : GoodIn wsL_circuits wsX0_endBar := goodIn_r _ [33, 14, 13, 23, 24, 11, 25, 51, 52, 53, 54, 55, 56, 57, 58, 59, 60, 61] (by decide +kernel) (by decide +kernel)
set_option maxRecDepth 20000 in
theorem gL_circuits_X0_endBar : GoodIn wsL_circuits (wsV RL 71 RX0 yX0_endBar wsX0_endBar) := goodIn_app (goodIn_of _ (by decide +kernel)) ggL_circuits_X0_endBar
set_option maxRecDepth 20000 in
theorem ggL_circuits_L_isOpen : GoodIn wsL_circuits wsL_isOpen := goodIn_r _ [36] (by decide +kernel) (by decide +kernel)
set_option maxRecDepth 20000 in
theorem gL_circuits_L_isOpen : GoodIn wsL_circuits (va_wsS RL 25 yL_isOpen wsL_isOpen) := goodIn_app (goodIn_of _ (by decide +kernel)) ggL_circuits_L_isOpen
set_option maxRecDepth 20000 in
theorem ggL_circuits_X0_circuitCount : GoodIn wsL_circuits wsX0_circuitCount := goodIn_r _ [18, 14, 19, 20, 21, 11, 22, 13, 23, 24, 25, 51, 52, 53, 54, 55, 56, 57, 58, 59, 60, 61] (by decide +kernel) (by decide +kernel)
set_option maxRecDepth 20000 in
theorem gL_circuits_X0_circuitCount : GoodIn wsL_circuits (wsV RL 74 RX0 yX0_circuitCount wsX0_circuitCount) := goodIn_app (goodIn_of _ (by decide +kernel)) ggL_circuits_X0_circuitCount
set_option maxRecDepth 20000 in
theorem ggL_circuits_X0_closedCircuits : GoodIn wsL_circuits wsX0_closedCircuits := goodIn_r _ [41, 15, 16, 17, 11, 18, 14, 19, 20, 21, 22, 13, 23, 24, 25, 42, 43, 44, 45, 46, 47, 48, 49, 50, 51, 52, 53, 54, 55, 56, 57, 58, 59, 60, 61] (by decide +kernel) (by decide +kernel)
set_option maxRecDepth 20000 in
theorem gL_circuits_X0_closedCircuits : GoodIn wsL_circuits (wsV RL 78 RX0 yX0_closedCircuits wsX0_closedCircuits) := goodIn_app (goodIn_of _ (by decide +kernel)) ggL_circuits_X0_closedCircuits
theorem dL_circuits_0 : decode cL_circuits 0 = .ok (.aload_n 1, 1) := by decide +kernel
theorem dL_circuits_1 : decode cL_circuits 1 = .ok (.bipush 7, 2) := by decide +kernel
theorem dL_circuits_3 : decode cL_circuits 3 = .ok (.iaload, 1) := by decide +kernel
theorem dL_circuits_4 : decode cL_circuits 4 = .ok (.aload_n 1, 1) := by decide +kernel
theorem dL_circuits_5 : decode cL_circuits 5 = .ok (.iconst 3, 1) := by decide +kernel
theorem dL_circuits_6 : decode cL_circuits 6 = .ok (.iaload, 1) := by decide +kernel
theorem dL_circuits_7 : decode cL_circuits 7 = .ok (.invokestatic 29, 3) := by decide +kernel
theorem dL_circuits_10 : decode cL_circuits 10 = .ok (.aload_n 1, 1) := by decide +kernel
theorem dL_circuits_11 : decode cL_circuits 11 = .ok (.iconst 3, 1) := by decide +kernel
theorem dL_circuits_12 : decode cL_circuits 12 = .ok (.iaload, 1) := by decide +kernel
theorem dL_circuits_13 : decode cL_circuits 13 = .ok (.invokestatic 62, 3) := by decide +kernel
theorem dL_circuits_16 : decode cL_circuits 16 = .ok (.istore_n 3, 1) := by decide +kernel
theorem dL_circuits_17 : decode cL_circuits 17 = .ok (.aload_n 1, 1) := by decide +kernel
theorem dL_circuits_18 : decode cL_circuits 18 = .ok (.bipush 7, 2) := by decide +kernel
theorem dL_circuits_20 : decode cL_circuits 20 = .ok (.iaload, 1) := by decide +kernel
theorem dL_circuits_21 : decode cL_circuits 21 = .ok (.aload_n 1, 1) := by decide +kernel
theorem dL_circuits_22 : decode cL_circuits 22 = .ok (.iconst 3, 1) := by decide +kernel
theorem dL_circuits_23 : decode cL_circuits 23 = .ok (.iaload, 1) := by decide +kernel
theorem dL_circuits_24 : decode cL_circuits 24 = .ok (.invokestatic 29, 3) := by decide +kernel
theorem dL_circuits_27 : decode cL_circuits 27 = .ok (.ifCond .ne 9, 3) := by decide +kernel
theorem dL_circuits_30 : decode cL_circuits 30 = .ok (.aload_n 1, 1) := by decide +kernel
theorem dL_circuits_31 : decode cL_circuits 31 = .ok (.iconst 3, 1) := by decide +kernel
theorem dL_circuits_32 : decode cL_circuits 32 = .ok (.iaload, 1) := by decide +kernel
theorem dL_circuits_33 : decode cL_circuits 33 = .ok (.goto 4, 3) := by decide +kernel
theorem dL_circuits_36 : decode cL_circuits 36 = .ok (.iload_n 3, 1) := by decide +kernel
theorem dL_circuits_37 : decode cL_circuits 37 = .ok (.istore_n 3, 1) := by decide +kernel
theorem dL_circuits_38 : decode cL_circuits 38 = .ok (.iconst 0, 1) := by decide +kernel
theorem dL_circuits_39 : decode cL_circuits 39 = .ok (.istore 4, 2) := by decide +kernel
theorem dL_circuits_41 : decode cL_circuits 41 = .ok (.iconst 0, 1) := by decide +kernel
theorem dL_circuits_42 : decode cL_circuits 42 = .ok (.istore 5, 2) := by decide +kernel
theorem dL_circuits_44 : decode cL_circuits 44 = .ok (.iconst (-1), 1) := by decide +kernel
theorem dL_circuits_45 : decode cL_circuits 45 = .ok (.istore 6, 2) := by decide +kernel
theorem dL_circuits_47 : decode cL_circuits 47 = .ok (.iconst 0, 1) := by decide +kernel
theorem dL_circuits_48 : decode cL_circuits 48 = .ok (.istore 7, 2) := by decide +kernel
theorem dL_circuits_50 : decode cL_circuits 50 = .ok (.iload 7, 2) := by decide +kernel
theorem dL_circuits_52 : decode cL_circuits 52 = .ok (.iload_n 3, 1) := by decide +kernel
theorem dL_circuits_53 : decode cL_circuits 53 = .ok (.if_icmp .ge 217, 3) := by decide +kernel
theorem dL_circuits_56 : decode cL_circuits 56 = .ok (.aload_n 1, 1) := by decide +kernel
theorem dL_circuits_57 : decode cL_circuits 57 = .ok (.iconst 3, 1) := by decide +kernel
theorem dL_circuits_58 : decode cL_circuits 58 = .ok (.iaload, 1) := by decide +kernel
theorem dL_circuits_59 : decode cL_circuits 59 = .ok (.iload_n 3, 1) := by decide +kernel
theorem dL_circuits_60 : decode cL_circuits 60 = .ok (.idiv, 1) := by decide +kernel
theorem dL_circuits_61 : decode cL_circuits 61 = .ok (.istore 8, 2) := by decide +kernel
theorem dL_circuits_63 : decode cL_circuits 63 = .ok (.iconst 1, 1) := by decide +kernel
theorem dL_circuits_64 : decode cL_circuits 64 = .ok (.istore 9, 2) := by decide +kernel
theorem dL_circuits_66 : decode cL_circuits 66 = .ok (.iconst 0, 1) := by decide +kernel
theorem dL_circuits_67 : decode cL_circuits 67 = .ok (.istore 10, 2) := by decide +kernel
theorem dL_circuits_69 : decode cL_circuits 69 = .ok (.iload 10, 2) := by decide +kernel
theorem dL_circuits_71 : decode cL_circuits 71 = .ok (.iload 8, 2) := by decide +kernel
theorem dL_circuits_73 : decode cL_circuits 73 = .ok (.if_icmp .ge 102, 3) := by decide +kernel
theorem dL_circuits_76 : decode cL_circuits 76 = .ok (.aload_n 0, 1) := by decide +kernel
theorem dL_circuits_77 : decode cL_circuits 77 = .ok (.iload 7, 2) := by decide +kernel
theorem dL_circuits_79 : decode cL_circuits 79 = .ok (.iload 10, 2) := by decide +kernel
theorem dL_circuits_81 : decode cL_circuits 81 = .ok (.invokevirtual 65, 3) := by decide +kernel
theorem dL_circuits_84 : decode cL_circuits 84 = .ok (.istore 11, 2) := by decide +kernel
theorem dL_circuits_86 : decode cL_circuits 86 = .ok (.iload 11, 2) := by decide +kernel
theorem dL_circuits_88 : decode cL_circuits 88 = .ok (.ifCond .lt 55, 3) := by decide +kernel
theorem dL_circuits_91 : decode cL_circuits 91 = .ok (.aload_n 0, 1) := by decide +kernel
theorem dL_circuits_92 : decode cL_circuits 92 = .ok (.iload 11, 2) := by decide +kernel
theorem dL_circuits_94 : decode cL_circuits 94 = .ok (.invokevirtual 68, 3) := by decide +kernel
theorem dL_circuits_97 : decode cL_circuits 97 = .ok (.iload 7, 2) := by decide +kernel
theorem dL_circuits_99 : decode cL_circuits 99 = .ok (.if_icmp .ne 44, 3) := by decide +kernel
theorem dL_circuits_102 : decode cL_circuits 102 = .ok (.iload 10, 2) := by decide +kernel
theorem dL_circuits_104 : decode cL_circuits 104 = .ok (.ifCond .le 22, 3) := by decide +kernel
theorem dL_circuits_107 : decode cL_circuits 107 = .ok (.iload 11, 2) := by decide +kernel
theorem dL_circuits_109 : decode cL_circuits 109 = .ok (.aload_n 0, 1) := by decide +kernel
theorem dL_circuits_110 : decode cL_circuits 110 = .ok (.aload_n 0, 1) := by decide +kernel
theorem dL_circuits_111 : decode cL_circuits 111 = .ok (.iload 7, 2) := by decide +kernel
theorem dL_circuits_113 : decode cL_circuits 113 = .ok (.iload 10, 2) := by decide +kernel
theorem dL_circuits_115 : decode cL_circuits 115 = .ok (.iconst 1, 1) := by decide +kernel
theorem dL_circuits_116 : decode cL_circuits 116 = .ok (.isub, 1) := by decide +kernel
theorem dL_circuits_117 : decode cL_circuits 117 = .ok (.invokevirtual 65, 3) := by decide +kernel
theorem dL_circuits_120 : decode cL_circuits 120 = .ok (.invokevirtual 71, 3) := by decide +kernel
theorem dL_circuits_123 : decode cL_circuits 123 = .ok (.if_icmp .ne 20, 3) := by decide +kernel
theorem dL_circuits_126 : decode cL_circuits 126 = .ok (.iload 10, 2) := by decide +kernel
theorem dL_circuits_128 : decode cL_circuits 128 = .ok (.ifCond .le 17, 3) := by decide +kernel
theorem dL_circuits_131 : decode cL_circuits 131 = .ok (.iload 11, 2) := by decide +kernel
theorem dL_circuits_133 : decode cL_circuits 133 = .ok (.aload_n 0, 1) := by decide +kernel
theorem dL_circuits_134 : decode cL_circuits 134 = .ok (.iload 7, 2) := by decide +kernel
theorem dL_circuits_136 : decode cL_circuits 136 = .ok (.iconst 0, 1) := by decide +kernel
theorem dL_circuits_137 : decode cL_circuits 137 = .ok (.invokevirtual 65, 3) := by decide +kernel
theorem dL_circuits_140 : decode cL_circuits 140 = .ok (.if_icmp .ge 5, 3) := by decide +kernel
theorem dL_circuits_143 : decode cL_circuits 143 = .ok (.iconst 0, 1) := by decide +kernel
theorem dL_circuits_144 : decode cL_circuits 144 = .ok (.ireturn, 1) := by decide +kernel
theorem dL_circuits_145 : decode cL_circuits 145 = .ok (.iload 9, 2) := by decide +kernel
theorem dL_circuits_147 : decode cL_circuits 147 = .ok (.ifCond .eq 16, 3) := by decide +kernel
theorem dL_circuits_150 : decode cL_circuits 150 = .ok (.aload_n 2, 1) := by decide +kernel
theorem dL_circuits_151 : decode cL_circuits 151 = .ok (.iload 11, 2) := by decide +kernel
theorem dL_circuits_153 : decode cL_circuits 153 = .ok (.invokestatic 25, 3) := by decide +kernel
theorem dL_circuits_156 : decode cL_circuits 156 = .ok (.ifCond .ne 7, 3) := by decide +kernel
theorem dL_circuits_159 : decode cL_circuits 159 = .ok (.iconst 1, 1) := by decide +kernel
theorem dL_circuits_160 : decode cL_circuits 160 = .ok (.goto 4, 3) := by decide +kernel
theorem dL_circuits_163 : decode cL_circuits 163 = .ok (.iconst 0, 1) := by decide +kernel
theorem dL_circuits_164 : decode cL_circuits 164 = .ok (.istore 9, 2) := by decide +kernel
theorem dL_circuits_166 : decode cL_circuits 166 = .ok (.iinc 4 1, 3) := by decide +kernel
theorem dL_circuits_169 : decode cL_circuits 169 = .ok (.iinc 10 1, 3) := by decide +kernel
theorem dL_circuits_172 : decode cL_circuits 172 = .ok (.goto (-103), 3) := by decide +kernel
theorem dL_circuits_175 : decode cL_circuits 175 = .ok (.aload_n 0, 1) := by decide +kernel
theorem dL_circuits_176 : decode cL_circuits 176 = .ok (.iload 7, 2) := by decide +kernel
theorem dL_circuits_178 : decode cL_circuits 178 = .ok (.iload 8, 2) := by decide +kernel
theorem dL_circuits_180 : decode cL_circuits 180 = .ok (.invokevirtual 65, 3) := by decide +kernel
theorem dL_circuits_183 : decode cL_circuits 183 = .ok (.sipush (-1004), 3) := by decide +kernel
theorem dL_circuits_186 : decode cL_circuits 186 = .ok (.if_icmp .ne 52, 3) := by decide +kernel
theorem dL_circuits_189 : decode cL_circuits 189 = .ok (.aload_n 0, 1) := by decide +kernel
theorem dL_circuits_190 : decode cL_circuits 190 = .ok (.iload 7, 2) := by decide +kernel
theorem dL_circuits_192 : decode cL_circuits 192 = .ok (.iconst (-1), 1) := by decide +kernel
theorem dL_circuits_193 : decode cL_circuits 193 = .ok (.invokevirtual 65, 3) := by decide +kernel
theorem dL_circuits_196 : decode cL_circuits 196 = .ok (.sipush (-1004), 3) := by decide +kernel
theorem dL_circuits_199 : decode cL_circuits 199 = .ok (.if_icmp .ne 39, 3) := by decide +kernel
theorem dL_circuits_202 : decode cL_circuits 202 = .ok (.aload_n 0, 1) := by decide +kernel
theorem dL_circuits_203 : decode cL_circuits 203 = .ok (.aload_n 0, 1) := by decide +kernel
theorem dL_circuits_204 : decode cL_circuits 204 = .ok (.iload 7, 2) := by decide +kernel
theorem dL_circuits_206 : decode cL_circuits 206 = .ok (.iload 8, 2) := by decide +kernel
theorem dL_circuits_208 : decode cL_circuits 208 = .ok (.iconst 1, 1) := by decide +kernel
theorem dL_circuits_209 : decode cL_circuits 209 = .ok (.isub, 1) := by decide +kernel
theorem dL_circuits_210 : decode cL_circuits 210 = .ok (.invokevirtual 65, 3) := by decide +kernel
theorem dL_circuits_213 : decode cL_circuits 213 = .ok (.invokevirtual 71, 3) := by decide +kernel
theorem dL_circuits_216 : decode cL_circuits 216 = .ok (.aload_n 0, 1) := by decide +kernel
theorem dL_circuits_217 : decode cL_circuits 217 = .ok (.iload 7, 2) := by decide +kernel
theorem dL_circuits_219 : decode cL_circuits 219 = .ok (.iconst 0, 1) := by decide +kernel
theorem dL_circuits_220 : decode cL_circuits 220 = .ok (.invokevirtual 65, 3) := by decide +kernel
theorem dL_circuits_223 : decode cL_circuits 223 = .ok (.if_icmp .ne 15, 3) := by decide +kernel
theorem dL_circuits_226 : decode cL_circuits 226 = .ok (.aload_n 0, 1) := by decide +kernel
theorem dL_circuits_227 : decode cL_circuits 227 = .ok (.iload 7, 2) := by decide +kernel
theorem dL_circuits_229 : decode cL_circuits 229 = .ok (.iconst 0, 1) := by decide +kernel
theorem dL_circuits_230 : decode cL_circuits 230 = .ok (.invokevirtual 65, 3) := by decide +kernel
theorem dL_circuits_233 : decode cL_circuits 233 = .ok (.iload 6, 2) := by decide +kernel
theorem dL_circuits_235 : decode cL_circuits 235 = .ok (.if_icmp .gt 5, 3) := by decide +kernel
theorem dL_circuits_238 : decode cL_circuits 238 = .ok (.iconst 0, 1) := by decide +kernel
theorem dL_circuits_239 : decode cL_circuits 239 = .ok (.ireturn, 1) := by decide +kernel
theorem dL_circuits_240 : decode cL_circuits 240 = .ok (.aload_n 0, 1) := by decide +kernel
theorem dL_circuits_241 : decode cL_circuits 241 = .ok (.iload 7, 2) := by decide +kernel
theorem dL_circuits_243 : decode cL_circuits 243 = .ok (.iconst 0, 1) := by decide +kernel
theorem dL_circuits_244 : decode cL_circuits 244 = .ok (.invokevirtual 65, 3) := by decide +kernel
theorem dL_circuits_247 : decode cL_circuits 247 = .ok (.istore 6, 2) := by decide +kernel
theorem dL_circuits_249 : decode cL_circuits 249 = .ok (.iload 5, 2) := by decide +kernel
theorem dL_circuits_251 : decode cL_circuits 251 = .ok (.iload 9, 2) := by decide +kernel
theorem dL_circuits_253 : decode cL_circuits 253 = .ok (.ifCond .eq 7, 3) := by decide +kernel
theorem dL_circuits_256 : decode cL_circuits 256 = .ok (.iconst 1, 1) := by decide +kernel
theorem dL_circuits_257 : decode cL_circuits 257 = .ok (.goto 4, 3) := by decide +kernel
theorem dL_circuits_260 : decode cL_circuits 260 = .ok (.iconst 0, 1) := by decide +kernel
theorem dL_circuits_261 : decode cL_circuits 261 = .ok (.iadd, 1) := by decide +kernel
theorem dL_circuits_262 : decode cL_circuits 262 = .ok (.istore 5, 2) := by decide +kernel
theorem dL_circuits_264 : decode cL_circuits 264 = .ok (.iinc 7 1, 3) := by decide +kernel
theorem dL_circuits_267 : decode cL_circuits 267 = .ok (.goto (-217), 3) := by decide +kernel
theorem dL_circuits_270 : decode cL_circuits 270 = .ok (.iload 4, 2) := by decide +kernel
theorem dL_circuits_272 : decode cL_circuits 272 = .ok (.aload_n 1, 1) := by decide +kernel
theorem dL_circuits_273 : decode cL_circuits 273 = .ok (.iconst 3, 1) := by decide +kernel
theorem dL_circuits_274 : decode cL_circuits 274 = .ok (.iaload, 1) := by decide +kernel
theorem dL_circuits_275 : decode cL_circuits 275 = .ok (.if_icmp .ne 62, 3) := by decide +kernel
theorem dL_circuits_278 : decode cL_circuits 278 = .ok (.aload_n 0, 1) := by decide +kernel
theorem dL_circuits_279 : decode cL_circuits 279 = .ok (.invokevirtual 74, 3) := by decide +kernel
theorem dL_circuits_282 : decode cL_circuits 282 = .ok (.iload_n 3, 1) := by decide +kernel
theorem dL_circuits_283 : decode cL_circuits 283 = .ok (.if_icmp .ne 54, 3) := by decide +kernel
theorem dL_circuits_286 : decode cL_circuits 286 = .ok (.aload_n 0, 1) := by decide +kernel
theorem dL_circuits_287 : decode cL_circuits 287 = .ok (.invokevirtual 78, 3) := by decide +kernel
theorem dL_circuits_290 : decode cL_circuits 290 = .ok (.iload 5, 2) := by decide +kernel
theorem dL_circuits_292 : decode cL_circuits 292 = .ok (.if_icmp .ne 45, 3) := by decide +kernel
theorem dL_circuits_295 : decode cL_circuits 295 = .ok (.aload_n 0, 1) := by decide +kernel
theorem dL_circuits_296 : decode cL_circuits 296 = .ok (.iload_n 3, 1) := by decide +kernel
theorem dL_circuits_297 : decode cL_circuits 297 = .ok (.iconst 0, 1) := by decide +kernel
theorem dL_circuits_298 : decode cL_circuits 298 = .ok (.invokevirtual 65, 3) := by decide +kernel
theorem dL_circuits_301 : decode cL_circuits 301 = .ok (.sipush (-1002), 3) := by decide +kernel
theorem dL_circuits_304 : decode cL_circuits 304 = .ok (.if_icmp .ne 33, 3) := by decide +kernel
theorem dL_circuits_307 : decode cL_circuits 307 = .ok (.aload_n 0, 1) := by decide +kernel
theorem dL_circuits_308 : decode cL_circuits 308 = .ok (.iconst (-1), 1) := by decide +kernel
theorem dL_circuits_309 : decode cL_circuits 309 = .ok (.bipush 9, 2) := by decide +kernel
theorem dL_circuits_311 : decode cL_circuits 311 = .ok (.invokevirtual 65, 3) := by decide +kernel
theorem dL_circuits_314 : decode cL_circuits 314 = .ok (.sipush (-1002), 3) := by decide +kernel
theorem dL_circuits_317 : decode cL_circuits 317 = .ok (.if_icmp .ne 20, 3) := by decide +kernel
theorem dL_circuits_320 : decode cL_circuits 320 = .ok (.aload_n 0, 1) := by decide +kernel
theorem dL_circuits_321 : decode cL_circuits 321 = .ok (.aload_n 1, 1) := by decide +kernel
theorem dL_circuits_322 : decode cL_circuits 322 = .ok (.iconst 3, 1) := by decide +kernel
theorem dL_circuits_323 : decode cL_circuits 323 = .ok (.iaload, 1) := by decide +kernel
theorem dL_circuits_324 : decode cL_circuits 324 = .ok (.invokevirtual 68, 3) := by decide +kernel
theorem dL_circuits_327 : decode cL_circuits 327 = .ok (.sipush (-1002), 3) := by decide +kernel
theorem dL_circuits_330 : decode cL_circuits 330 = .ok (.if_icmp .ne 7, 3) := by decide +kernel
theorem dL_circuits_333 : decode cL_circuits 333 = .ok (.iconst 1, 1) := by decide +kernel
theorem dL_circuits_334 : decode cL_circuits 334 = .ok (.goto 4, 3) := by decide +kernel
theorem dL_circuits_337 : decode cL_circuits 337 = .ok (.iconst 0, 1) := by decide +kernel
theorem dL_circuits_338 : decode cL_circuits 338 = .ok (.ireturn, 1) := by decide +kernel
set_option maxRecDepth 20000 in
theorem ggL_coils_X0_endBar : GoodIn wsL_coils wsX0_endBar := goodIn_r _ [5, 6, 7, 8, 9, 4, 10, 60, 61, 62, 63, 64, 65, 66, 67, 68, 69, 70] (by decide +kernel) (by decide +kernel)
set_option maxRecDepth 20000 in
theorem gL_coils_X0_endBar : GoodIn wsL_coils (wsV RL 71 RX0 yX0_endBar wsX0_endBar) := goodIn_app (goodIn_of _ (by decide +kernel)) ggL_coils_X0_endBar
set_option maxRecDepth 20000 in
theorem ggL_coils_L_mod : GoodIn wsL_coils wsL_mod := goodIn_r _ [14] (by decide +kernel) (by decide +kernel)
set_option maxRecDepth 20000 in
theorem gL_coils_L_mod : GoodIn wsL_coils (va_wsS RL 29 yL_mod wsL_mod) := goodIn_app (goodIn_of _ (by decide +kernel)) ggL_coils_L_mod
set_option maxRecDepth 20000 in
theorem ggL_coils_X0_coilEndingAt : GoodIn wsL_coils wsX0_coilEndingAt := goodIn_r _ [18, 6, 7, 8, 9, 4, 10, 60, 61, 62, 63, 64, 65, 66, 67, 68, 69, 70] (by decide +kernel) (by decide +kernel)
set_option maxRecDepth 20000 in
theorem gL_coils_X0_coilEndingAt : GoodIn wsL_coils (wsV RL 81 RX0 yX0_coilEndingAt wsX0_coilEndingAt) := goodIn_app (goodIn_of _ (by decide +kernel)) ggL_coils_X0_coilEndingAt
set_option maxRecDepth 20000 in
theorem ggL_coils_X0_upperSlot : GoodIn wsL_coils wsX0_upperSlot := goodIn_r _ [22, 6, 23, 60, 61, 62, 63, 64, 65, 66, 67, 68, 69, 70] (by decide +kernel) (by decide +kernel)
set_option maxRecDepth 20000 in
theorem gL_coils_X0_upperSlot : GoodIn wsL_coils (wsV RL 84 RX0 yX0_upperSlot wsX0_upperSlot) := goodIn_app (goodIn_of _ (by decide +kernel)) ggL_coils_X0_upperSlot
set_option maxRecDepth 20000 in
theorem ggL_coils_X0_lowerSlot : GoodIn wsL_coils wsX0_lowerSlot := goodIn_r _ [27, 6, 28, 29, 20, 21, 4, 22, 23, 30, 31, 32, 33, 34, 35, 8, 9, 10, 60, 61, 62, 63, 64, 65, 66, 67, 68, 69, 70] (by decide +kernel) (by decide +kernel)
set_option maxRecDepth 20000 in
theorem gL_coils_X0_lowerSlot : GoodIn wsL_coils (wsV RL 87 RX0 yX0_lowerSlot wsX0_lowerSlot) := goodIn_app (goodIn_of _ (by decide +kernel)) ggL_coils_X0_lowerSlot
set_option maxRecDepth 20000 in
theorem ggL_coils_L_lower : GoodIn wsL_coils wsL_lower := goodIn_r _ [38, 39, 40, 13, 41] (by decide +kernel) (by decide +kernel)
set_option maxRecDepth 20000 in
theorem gL_coils_L_lower : GoodIn wsL_coils (va_wsS RL 18 yL_lower wsL_lower) := goodIn_app (goodIn_of _ (by decide +kernel)) ggL_coils_L_lower
set_option maxRecDepth 20000 in
theorem ggL_coils_L_isOpen : GoodIn wsL_coils wsL_isOpen := goodIn_r _ [44] (by decide +kernel) (by decide +kernel)
set_option maxRecDepth 20000 in
theorem gL_coils_L_isOpen : GoodIn wsL_coils (va_wsS RL 25 yL_isOpen wsL_isOpen) := goodIn_app (goodIn_of _ (by decide +kernel)) ggL_coils_L_isOpen
set_option maxRecDepth 20000 in
theorem ggL_coils_X0_openCoilsIn : GoodIn wsL_coils wsX0_openCoilsIn := goodIn_r _ [48, 28, 6, 49, 50, 51, 4, 52, 53, 29, 20, 21, 22, 23, 54, 25, 26, 27, 30, 31, 32, 33, 34, 35, 8, 9, 10, 60, 61, 62, 63, 64, 65, 66, 67, 68, 69, 70] (by decide +kernel) (by decide +kernel)
set_option maxRecDepth 20000 in
theorem gL_coils_X0_openCoilsIn : GoodIn wsL_coils (wsV RL 90 RX0 yX0_openCoilsIn wsX0_openCoilsIn) := goodIn_app (goodIn_of _ (by decide +kernel)) ggL_coils_X0_openCoilsIn
set_option maxRecDepth 20000 in
theorem ggL_coils_X0_coilCount : GoodIn wsL_coils wsX0_coilCount := goodIn_r _ [58, 6, 60, 61, 62, 63, 64, 65, 66, 67, 68, 69, 70] (by decide +kernel) (by decide +kernel)
set_option maxRecDepth 20000 in
theorem gL_coils_X0_coilCount : GoodIn wsL_coils (wsV RL 93 RX0 yX0_coilCount wsX0_coilCount) := goodIn_app (goodIn_of _ (by decide +kernel)) ggL_coils_X0_coilCount
set_option maxRecDepth 20000 in
theorem ggL_coils_X0_slotPitch : GoodIn wsL_coils wsX0_slotPitch := goodIn_r _ [33, 34, 28, 35, 60, 61, 62, 63, 64, 65, 66, 67, 68, 69, 70] (by decide +kernel) (by decide +kernel)
set_option maxRecDepth 20000 in
theorem gL_coils_X0_slotPitch : GoodIn wsL_coils (wsV RL 96 RX0 yX0_slotPitch wsX0_slotPitch) := goodIn_app (goodIn_of _ (by decide +kernel)) ggL_coils_X0_slotPitch
set_option maxRecDepth 20000 in
theorem ggL_coils_L_slotPitch : GoodIn wsL_coils wsL_slotPitch := goodIn_r _ [41] (by decide +kernel) (by decide +kernel)
set_option maxRecDepth 20000 in
theorem gL_coils_L_slotPitch : GoodIn wsL_coils (va_wsS RL 8 yL_slotPitch wsL_slotPitch) := goodIn_app (goodIn_of _ (by decide +kernel)) ggL_coils_L_slotPitch
theorem dL_coils_0 : decode cL_coils 0 = .ok (.iconst 0, 1) := by decide +kernel
theorem dL_coils_1 : decode cL_coils 1 = .ok (.istore_n 3, 1) := by decide +kernel
theorem dL_coils_2 : decode cL_coils 2 = .ok (.iload_n 3, 1) := by decide +kernel
theorem dL_coils_3 : decode cL_coils 3 = .ok (.aload_n 1, 1) := by decide +kernel
theorem dL_coils_4 : decode cL_coils 4 = .ok (.iconst 3, 1) := by decide +kernel
theorem dL_coils_5 : decode cL_coils 5 = .ok (.iaload, 1) := by decide +kernel
theorem dL_coils_6 : decode cL_coils 6 = .ok (.if_icmp .ge 71, 3) := by decide +kernel
theorem dL_coils_9 : decode cL_coils 9 = .ok (.aload_n 0, 1) := by decide +kernel
theorem dL_coils_10 : decode cL_coils 10 = .ok (.iload_n 3, 1) := by decide +kernel
theorem dL_coils_11 : decode cL_coils 11 = .ok (.invokevirtual 71, 3) := by decide +kernel
theorem dL_coils_14 : decode cL_coils 14 = .ok (.istore 4, 2) := by decide +kernel
theorem dL_coils_16 : decode cL_coils 16 = .ok (.iload 4, 2) := by decide +kernel
theorem dL_coils_18 : decode cL_coils 18 = .ok (.iload_n 3, 1) := by decide +kernel
theorem dL_coils_19 : decode cL_coils 19 = .ok (.aload_n 1, 1) := by decide +kernel
theorem dL_coils_20 : decode cL_coils 20 = .ok (.bipush 7, 2) := by decide +kernel
theorem dL_coils_22 : decode cL_coils 22 = .ok (.iaload, 1) := by decide +kernel
theorem dL_coils_23 : decode cL_coils 23 = .ok (.iadd, 1) := by decide +kernel
theorem dL_coils_24 : decode cL_coils 24 = .ok (.aload_n 1, 1) := by decide +kernel
theorem dL_coils_25 : decode cL_coils 25 = .ok (.iconst 3, 1) := by decide +kernel
theorem dL_coils_26 : decode cL_coils 26 = .ok (.iaload, 1) := by decide +kernel
theorem dL_coils_27 : decode cL_coils 27 = .ok (.invokestatic 29, 3) := by decide +kernel
theorem dL_coils_30 : decode cL_coils 30 = .ok (.if_icmp .ne 39, 3) := by decide +kernel
theorem dL_coils_33 : decode cL_coils 33 = .ok (.aload_n 0, 1) := by decide +kernel
theorem dL_coils_34 : decode cL_coils 34 = .ok (.iload 4, 2) := by decide +kernel
theorem dL_coils_36 : decode cL_coils 36 = .ok (.invokevirtual 81, 3) := by decide +kernel
theorem dL_coils_39 : decode cL_coils 39 = .ok (.iload_n 3, 1) := by decide +kernel
theorem dL_coils_40 : decode cL_coils 40 = .ok (.if_icmp .ne 29, 3) := by decide +kernel
theorem dL_coils_43 : decode cL_coils 43 = .ok (.aload_n 0, 1) := by decide +kernel
theorem dL_coils_44 : decode cL_coils 44 = .ok (.iload_n 3, 1) := by decide +kernel
theorem dL_coils_45 : decode cL_coils 45 = .ok (.invokevirtual 84, 3) := by decide +kernel
theorem dL_coils_48 : decode cL_coils 48 = .ok (.iload_n 3, 1) := by decide +kernel
theorem dL_coils_49 : decode cL_coils 49 = .ok (.aload_n 1, 1) := by decide +kernel
theorem dL_coils_50 : decode cL_coils 50 = .ok (.iconst 2, 1) := by decide +kernel
theorem dL_coils_51 : decode cL_coils 51 = .ok (.iaload, 1) := by decide +kernel
theorem dL_coils_52 : decode cL_coils 52 = .ok (.idiv, 1) := by decide +kernel
theorem dL_coils_53 : decode cL_coils 53 = .ok (.if_icmp .ne 16, 3) := by decide +kernel
theorem dL_coils_56 : decode cL_coils 56 = .ok (.aload_n 0, 1) := by decide +kernel
theorem dL_coils_57 : decode cL_coils 57 = .ok (.iload_n 3, 1) := by decide +kernel
theorem dL_coils_58 : decode cL_coils 58 = .ok (.invokevirtual 87, 3) := by decide +kernel
theorem dL_coils_61 : decode cL_coils 61 = .ok (.aload_n 1, 1) := by decide +kernel
theorem dL_coils_62 : decode cL_coils 62 = .ok (.iload_n 3, 1) := by decide +kernel
theorem dL_coils_63 : decode cL_coils 63 = .ok (.invokestatic 18, 3) := by decide +kernel
theorem dL_coils_66 : decode cL_coils 66 = .ok (.if_icmp .eq 5, 3) := by decide +kernel
theorem dL_coils_69 : decode cL_coils 69 = .ok (.iconst 0, 1) := by decide +kernel
theorem dL_coils_70 : decode cL_coils 70 = .ok (.ireturn, 1) := by decide +kernel
theorem dL_coils_71 : decode cL_coils 71 = .ok (.iinc 3 1, 3) := by decide +kernel
theorem dL_coils_74 : decode cL_coils 74 = .ok (.goto (-72), 3) := by decide +kernel
theorem dL_coils_77 : decode cL_coils 77 = .ok (.iconst 0, 1) := by decide +kernel
theorem dL_coils_78 : decode cL_coils 78 = .ok (.istore_n 3, 1) := by decide +kernel
theorem dL_coils_79 : decode cL_coils 79 = .ok (.iload_n 3, 1) := by decide +kernel
theorem dL_coils_80 : decode cL_coils 80 = .ok (.aload_n 1, 1) := by decide +kernel
theorem dL_coils_81 : decode cL_coils 81 = .ok (.iconst 1, 1) := by decide +kernel
theorem dL_coils_82 : decode cL_coils 82 = .ok (.iaload, 1) := by decide +kernel
theorem dL_coils_83 : decode cL_coils 83 = .ok (.if_icmp .ge 80, 3) := by decide +kernel
theorem dL_coils_86 : decode cL_coils 86 = .ok (.iconst 0, 1) := by decide +kernel
theorem dL_coils_87 : decode cL_coils 87 = .ok (.istore 4, 2) := by decide +kernel
theorem dL_coils_89 : decode cL_coils 89 = .ok (.iconst 0, 1) := by decide +kernel
theorem dL_coils_90 : decode cL_coils 90 = .ok (.istore 5, 2) := by decide +kernel
theorem dL_coils_92 : decode cL_coils 92 = .ok (.iload 5, 2) := by decide +kernel
theorem dL_coils_94 : decode cL_coils 94 = .ok (.aload_n 1, 1) := by decide +kernel
theorem dL_coils_95 : decode cL_coils 95 = .ok (.iconst 3, 1) := by decide +kernel
theorem dL_coils_96 : decode cL_coils 96 = .ok (.iaload, 1) := by decide +kernel
theorem dL_coils_97 : decode cL_coils 97 = .ok (.if_icmp .ge 48, 3) := by decide +kernel
theorem dL_coils_100 : decode cL_coils 100 = .ok (.iload 4, 2) := by decide +kernel
theorem dL_coils_102 : decode cL_coils 102 = .ok (.aload_n 2, 1) := by decide +kernel
theorem dL_coils_103 : decode cL_coils 103 = .ok (.iload 5, 2) := by decide +kernel
theorem dL_coils_105 : decode cL_coils 105 = .ok (.invokestatic 25, 3) := by decide +kernel
theorem dL_coils_108 : decode cL_coils 108 = .ok (.ifCond .eq 27, 3) := by decide +kernel
theorem dL_coils_111 : decode cL_coils 111 = .ok (.iload 5, 2) := by decide +kernel
theorem dL_coils_113 : decode cL_coils 113 = .ok (.aload_n 1, 1) := by decide +kernel
theorem dL_coils_114 : decode cL_coils 114 = .ok (.iconst 2, 1) := by decide +kernel
theorem dL_coils_115 : decode cL_coils 115 = .ok (.iaload, 1) := by decide +kernel
theorem dL_coils_116 : decode cL_coils 116 = .ok (.idiv, 1) := by decide +kernel
theorem dL_coils_117 : decode cL_coils 117 = .ok (.iload_n 3, 1) := by decide +kernel
theorem dL_coils_118 : decode cL_coils 118 = .ok (.if_icmp .eq 13, 3) := by decide +kernel
theorem dL_coils_121 : decode cL_coils 121 = .ok (.aload_n 1, 1) := by decide +kernel
theorem dL_coils_122 : decode cL_coils 122 = .ok (.iload 5, 2) := by decide +kernel
theorem dL_coils_124 : decode cL_coils 124 = .ok (.invokestatic 18, 3) := by decide +kernel
theorem dL_coils_127 : decode cL_coils 127 = .ok (.iload_n 3, 1) := by decide +kernel
theorem dL_coils_128 : decode cL_coils 128 = .ok (.if_icmp .ne 7, 3) := by decide +kernel
theorem dL_coils_131 : decode cL_coils 131 = .ok (.iconst 1, 1) := by decide +kernel
theorem dL_coils_132 : decode cL_coils 132 = .ok (.goto 4, 3) := by decide +kernel
theorem dL_coils_135 : decode cL_coils 135 = .ok (.iconst 0, 1) := by decide +kernel
theorem dL_coils_136 : decode cL_coils 136 = .ok (.iadd, 1) := by decide +kernel
theorem dL_coils_137 : decode cL_coils 137 = .ok (.istore 4, 2) := by decide +kernel
theorem dL_coils_139 : decode cL_coils 139 = .ok (.iinc 5 1, 3) := by decide +kernel
theorem dL_coils_142 : decode cL_coils 142 = .ok (.goto (-50), 3) := by decide +kernel
theorem dL_coils_145 : decode cL_coils 145 = .ok (.aload_n 0, 1) := by decide +kernel
theorem dL_coils_146 : decode cL_coils 146 = .ok (.iload_n 3, 1) := by decide +kernel
theorem dL_coils_147 : decode cL_coils 147 = .ok (.invokevirtual 90, 3) := by decide +kernel
theorem dL_coils_150 : decode cL_coils 150 = .ok (.iload 4, 2) := by decide +kernel
theorem dL_coils_152 : decode cL_coils 152 = .ok (.if_icmp .eq 5, 3) := by decide +kernel
theorem dL_coils_155 : decode cL_coils 155 = .ok (.iconst 0, 1) := by decide +kernel
theorem dL_coils_156 : decode cL_coils 156 = .ok (.ireturn, 1) := by decide +kernel
theorem dL_coils_157 : decode cL_coils 157 = .ok (.iinc 3 1, 3) := by decide +kernel
theorem dL_coils_160 : decode cL_coils 160 = .ok (.goto (-81), 3) := by decide +kernel
theorem dL_coils_163 : decode cL_coils 163 = .ok (.aload_n 0, 1) := by decide +kernel
theorem dL_coils_164 : decode cL_coils 164 = .ok (.invokevirtual 93, 3) := by decide +kernel
theorem dL_coils_167 : decode cL_coils 167 = .ok (.aload_n 1, 1) := by decide +kernel
theorem dL_coils_168 : decode cL_coils 168 = .ok (.iconst 3, 1) := by decide +kernel
theorem dL_coils_169 : decode cL_coils 169 = .ok (.iaload, 1) := by decide +kernel
theorem dL_coils_170 : decode cL_coils 170 = .ok (.if_icmp .ne 79, 3) := by decide +kernel
theorem dL_coils_173 : decode cL_coils 173 = .ok (.aload_n 0, 1) := by decide +kernel
theorem dL_coils_174 : decode cL_coils 174 = .ok (.invokevirtual 96, 3) := by decide +kernel
theorem dL_coils_177 : decode cL_coils 177 = .ok (.aload_n 1, 1) := by decide +kernel
theorem dL_coils_178 : decode cL_coils 178 = .ok (.invokestatic 8, 3) := by decide +kernel
theorem dL_coils_181 : decode cL_coils 181 = .ok (.if_icmp .ne 68, 3) := by decide +kernel
theorem dL_coils_184 : decode cL_coils 184 = .ok (.aload_n 0, 1) := by decide +kernel
theorem dL_coils_185 : decode cL_coils 185 = .ok (.iconst (-1), 1) := by decide +kernel
theorem dL_coils_186 : decode cL_coils 186 = .ok (.invokevirtual 71, 3) := by decide +kernel
theorem dL_coils_189 : decode cL_coils 189 = .ok (.sipush (-1002), 3) := by decide +kernel
theorem dL_coils_192 : decode cL_coils 192 = .ok (.if_icmp .ne 57, 3) := by decide +kernel
theorem dL_coils_195 : decode cL_coils 195 = .ok (.aload_n 0, 1) := by decide +kernel
theorem dL_coils_196 : decode cL_coils 196 = .ok (.aload_n 1, 1) := by decide +kernel
theorem dL_coils_197 : decode cL_coils 197 = .ok (.iconst 3, 1) := by decide +kernel
theorem dL_coils_198 : decode cL_coils 198 = .ok (.iaload, 1) := by decide +kernel
theorem dL_coils_199 : decode cL_coils 199 = .ok (.invokevirtual 81, 3) := by decide +kernel
theorem dL_coils_202 : decode cL_coils 202 = .ok (.sipush (-1002), 3) := by decide +kernel
theorem dL_coils_205 : decode cL_coils 205 = .ok (.if_icmp .ne 44, 3) := by decide +kernel
theorem dL_coils_208 : decode cL_coils 208 = .ok (.aload_n 0, 1) := by decide +kernel
theorem dL_coils_209 : decode cL_coils 209 = .ok (.aload_n 1, 1) := by decide +kernel
theorem dL_coils_210 : decode cL_coils 210 = .ok (.iconst 3, 1) := by decide +kernel
theorem dL_coils_211 : decode cL_coils 211 = .ok (.iaload, 1) := by decide +kernel
theorem dL_coils_212 : decode cL_coils 212 = .ok (.invokevirtual 84, 3) := by decide +kernel
theorem dL_coils_215 : decode cL_coils 215 = .ok (.sipush (-1002), 3) := by decide +kernel
theorem dL_coils_218 : decode cL_coils 218 = .ok (.if_icmp .ne 31, 3) := by decide +kernel
theorem dL_coils_221 : decode cL_coils 221 = .ok (.aload_n 0, 1) := by decide +kernel
theorem dL_coils_222 : decode cL_coils 222 = .ok (.iconst (-1), 1) := by decide +kernel
theorem dL_coils_223 : decode cL_coils 223 = .ok (.invokevirtual 87, 3) := by decide +kernel
theorem dL_coils_226 : decode cL_coils 226 = .ok (.sipush (-1002), 3) := by decide +kernel
theorem dL_coils_229 : decode cL_coils 229 = .ok (.if_icmp .ne 20, 3) := by decide +kernel
theorem dL_coils_232 : decode cL_coils 232 = .ok (.aload_n 0, 1) := by decide +kernel
theorem dL_coils_233 : decode cL_coils 233 = .ok (.aload_n 1, 1) := by decide +kernel
theorem dL_coils_234 : decode cL_coils 234 = .ok (.iconst 1, 1) := by decide +kernel
theorem dL_coils_235 : decode cL_coils 235 = .ok (.iaload, 1) := by decide +kernel
theorem dL_coils_236 : decode cL_coils 236 = .ok (.invokevirtual 90, 3) := by decide +kernel
theorem dL_coils_239 : decode cL_coils 239 = .ok (.sipush (-1002), 3) := by decide +kernel
theorem dL_coils_242 : decode cL_coils 242 = .ok (.if_icmp .ne 7, 3) := by decide +kernel
theorem dL_coils_245 : decode cL_coils 245 = .ok (.iconst 1, 1) := by decide +kernel
theorem dL_coils_246 : decode cL_coils 246 = .ok (.goto 4, 3) := by decide +kernel
theorem dL_coils_249 : decode cL_coils 249 = .ok (.iconst 0, 1) := by decide +kernel
theorem dL_coils_250 : decode cL_coils 250 = .ok (.ireturn, 1) := by decide +kernel
set_option maxRecDepth 20000 in
theorem ggL_sums_X0_coilVoltage : GoodIn wsL_sums wsX0_coilVoltage := goodIn_r _ [5, 6, 7, 8, 9, 4, 10, 11, 12, 13, 14, 15, 16, 17, 18, 19, 20, 21, 22, 23, 24, 25, 26, 27, 28, 29, 43, 44, 45, 46, 47, 48, 49, 50, 51, 52, 53] (by decide +kernel) (by decide +kernel)
set_option maxRecDepth 20000 in
theorem gL_sums_X0_coilVoltage : GoodIn wsL_sums (wsV RL 98 RX0 yX0_coilVoltage wsX0_coilVoltage) := goodIn_app (goodIn_of _ (by decide +kernel)) ggL_sums_X0_coilVoltage
set_option maxRecDepth 20000 in
theorem ggL_sums_L_voltage : GoodIn wsL_sums wsL_voltage := goodIn_r _ [33, 34, 35, 32, 36, 37, 38, 39, 40, 41, 42] (by decide +kernel) (by decide +kernel)
set_option maxRecDepth 20000 in
theorem gL_sums_L_voltage : GoodIn wsL_sums (va_wsS RL 22 yL_voltage wsL_voltage) := goodIn_app (goodIn_of _ (by decide +kernel)) ggL_sums_L_voltage
theorem dL_sums_0 : decode cL_sums 0 = .ok (.iconst 0, 1) := by decide +kernel
theorem dL_sums_1 : decode cL_sums 1 = .ok (.istore_n 3, 1) := by decide +kernel
theorem dL_sums_2 : decode cL_sums 2 = .ok (.iconst 0, 1) := by decide +kernel
theorem dL_sums_3 : decode cL_sums 3 = .ok (.istore 4, 2) := by decide +kernel
theorem dL_sums_5 : decode cL_sums 5 = .ok (.iload 4, 2) := by decide +kernel
theorem dL_sums_7 : decode cL_sums 7 = .ok (.aload_n 2, 1) := by decide +kernel
theorem dL_sums_8 : decode cL_sums 8 = .ok (.iconst 3, 1) := by decide +kernel
theorem dL_sums_9 : decode cL_sums 9 = .ok (.iaload, 1) := by decide +kernel
theorem dL_sums_10 : decode cL_sums 10 = .ok (.if_icmp .ge 53, 3) := by decide +kernel
theorem dL_sums_13 : decode cL_sums 13 = .ok (.aload_n 0, 1) := by decide +kernel
theorem dL_sums_14 : decode cL_sums 14 = .ok (.iload 4, 2) := by decide +kernel
theorem dL_sums_16 : decode cL_sums 16 = .ok (.iload_n 1, 1) := by decide +kernel
theorem dL_sums_17 : decode cL_sums 17 = .ok (.invokevirtual 98, 3) := by decide +kernel
theorem dL_sums_20 : decode cL_sums 20 = .ok (.istore 5, 2) := by decide +kernel
theorem dL_sums_22 : decode cL_sums 22 = .ok (.iload 5, 2) := by decide +kernel
theorem dL_sums_24 : decode cL_sums 24 = .ok (.aload_n 2, 1) := by decide +kernel
theorem dL_sums_25 : decode cL_sums 25 = .ok (.iload 4, 2) := by decide +kernel
theorem dL_sums_27 : decode cL_sums 27 = .ok (.iload_n 1, 1) := by decide +kernel
theorem dL_sums_28 : decode cL_sums 28 = .ok (.invokestatic 22, 3) := by decide +kernel
theorem dL_sums_31 : decode cL_sums 31 = .ok (.if_icmp .ne 19, 3) := by decide +kernel
theorem dL_sums_34 : decode cL_sums 34 = .ok (.iload 5, 2) := by decide +kernel
theorem dL_sums_36 : decode cL_sums 36 = .ok (.aload_n 0, 1) := by decide +kernel
theorem dL_sums_37 : decode cL_sums 37 = .ok (.iload 4, 2) := by decide +kernel
theorem dL_sums_39 : decode cL_sums 39 = .ok (.iload_n 1, 1) := by decide +kernel
theorem dL_sums_40 : decode cL_sums 40 = .ok (.aload_n 2, 1) := by decide +kernel
theorem dL_sums_41 : decode cL_sums 41 = .ok (.iconst 1, 1) := by decide +kernel
theorem dL_sums_42 : decode cL_sums 42 = .ok (.iaload, 1) := by decide +kernel
theorem dL_sums_43 : decode cL_sums 43 = .ok (.iadd, 1) := by decide +kernel
theorem dL_sums_44 : decode cL_sums 44 = .ok (.invokevirtual 98, 3) := by decide +kernel
theorem dL_sums_47 : decode cL_sums 47 = .ok (.if_icmp .eq 5, 3) := by decide +kernel
theorem dL_sums_50 : decode cL_sums 50 = .ok (.iconst 0, 1) := by decide +kernel
theorem dL_sums_51 : decode cL_sums 51 = .ok (.ireturn, 1) := by decide +kernel
theorem dL_sums_52 : decode cL_sums 52 = .ok (.iload_n 3, 1) := by decide +kernel
theorem dL_sums_53 : decode cL_sums 53 = .ok (.iload 5, 2) := by decide +kernel
theorem dL_sums_55 : decode cL_sums 55 = .ok (.iadd, 1) := by decide +kernel
theorem dL_sums_56 : decode cL_sums 56 = .ok (.istore_n 3, 1) := by decide +kernel
theorem dL_sums_57 : decode cL_sums 57 = .ok (.iinc 4 1, 3) := by decide +kernel
theorem dL_sums_60 : decode cL_sums 60 = .ok (.goto (-55), 3) := by decide +kernel
theorem dL_sums_63 : decode cL_sums 63 = .ok (.iload_n 3, 1) := by decide +kernel
theorem dL_sums_64 : decode cL_sums 64 = .ok (.ifCond .ne 47, 3) := by decide +kernel
theorem dL_sums_67 : decode cL_sums 67 = .ok (.aload_n 0, 1) := by decide +kernel
theorem dL_sums_68 : decode cL_sums 68 = .ok (.iconst 0, 1) := by decide +kernel
theorem dL_sums_69 : decode cL_sums 69 = .ok (.bipush 101, 2) := by decide +kernel
theorem dL_sums_71 : decode cL_sums 71 = .ok (.invokevirtual 98, 3) := by decide +kernel
theorem dL_sums_74 : decode cL_sums 74 = .ok (.sipush (-1001), 3) := by decide +kernel
theorem dL_sums_77 : decode cL_sums 77 = .ok (.if_icmp .ne 34, 3) := by decide +kernel
theorem dL_sums_80 : decode cL_sums 80 = .ok (.aload_n 0, 1) := by decide +kernel
theorem dL_sums_81 : decode cL_sums 81 = .ok (.iconst 0, 1) := by decide +kernel
theorem dL_sums_82 : decode cL_sums 82 = .ok (.iconst (-1), 1) := by decide +kernel
theorem dL_sums_83 : decode cL_sums 83 = .ok (.invokevirtual 98, 3) := by decide +kernel
theorem dL_sums_86 : decode cL_sums 86 = .ok (.sipush (-1001), 3) := by decide +kernel
theorem dL_sums_89 : decode cL_sums 89 = .ok (.if_icmp .ne 22, 3) := by decide +kernel
theorem dL_sums_92 : decode cL_sums 92 = .ok (.aload_n 0, 1) := by decide +kernel
theorem dL_sums_93 : decode cL_sums 93 = .ok (.aload_n 2, 1) := by decide +kernel
theorem dL_sums_94 : decode cL_sums 94 = .ok (.iconst 3, 1) := by decide +kernel
theorem dL_sums_95 : decode cL_sums 95 = .ok (.iaload, 1) := by decide +kernel
theorem dL_sums_96 : decode cL_sums 96 = .ok (.bipush 101, 2) := by decide +kernel
theorem dL_sums_98 : decode cL_sums 98 = .ok (.invokevirtual 98, 3) := by decide +kernel
theorem dL_sums_101 : decode cL_sums 101 = .ok (.sipush (-1002), 3) := by decide +kernel
theorem dL_sums_104 : decode cL_sums 104 = .ok (.if_icmp .ne 7, 3) := by decide +kernel
theorem dL_sums_107 : decode cL_sums 107 = .ok (.iconst 1, 1) := by decide +kernel
theorem dL_sums_108 : decode cL_sums 108 = .ok (.goto 4, 3) := by decide +kernel
theorem dL_sums_111 : decode cL_sums 111 = .ok (.iconst 0, 1) := by decide +kernel
theorem dL_sums_112 : decode cL_sums 112 = .ok (.ireturn, 1) := by decide +kernel
set_option maxRecDepth 20000 in
theorem ggL_law_X0_init : GoodIn wsL_law wsX0_init := goodIn_r _ [6, 7, 8, 9, 10, 11, 3, 12, 13, 14, 15, 2, 16, 17, 18, 19, 20, 21, 22, 23, 24, 25, 26, 27, 28, 29, 30, 31, 32, 33, 34, 35, 36, 37, 184, 185, 186, 187, 188, 189, 190, 191, 192, 193, 194] (by decide +kernel) (by decide +kernel)
set_option maxRecDepth 20000 in
theorem gL_law_X0_init : GoodIn wsL_law (wsX0_init) := ggL_law_X0_init
set_option maxRecDepth 20000 in
theorem ggL_law_L_begin : GoodIn wsL_law wsL_begin := goodIn_r _ [41] (by decide +kernel) (by decide +kernel)
set_option maxRecDepth 20000 in
theorem gL_law_L_begin : GoodIn wsL_law (va_wsS RL 102 yL_begin wsL_begin) := goodIn_app (goodIn_of _ (by decide +kernel)) ggL_law_L_begin
set_option maxRecDepth 20000 in
theorem ggL_law_L_cell : GoodIn wsL_law wsL_cell := goodIn_r _ [44, 45] (by decide +kernel) (by decide +kernel)
set_option maxRecDepth 20000 in
theorem gL_law_L_cell : GoodIn wsL_law (va_wsS RL 106 yL_cell wsL_cell) := goodIn_app (goodIn_of _ (by decide +kernel)) ggL_law_L_cell
set_option maxRecDepth 20000 in
theorem ggL_law_L_circuits : GoodIn wsL_law wsL_circuits := goodIn_r _ [48, 49, 50, 40, 51, 52, 53, 54, 55, 56, 57, 2, 58, 37, 20, 59, 60, 61, 62, 63, 64, 65, 66, 67, 68, 69, 70, 71, 72, 73, 74, 75, 76, 77, 78, 79, 80, 81, 82, 83, 84, 85, 86, 87, 88, 89, 90, 91, 92, 93, 11, 184, 185, 186, 187, 188, 189, 190, 191, 192, 193, 194] (by decide +kernel) (by decide +kernel)
set_option maxRecDepth 20000 in
theorem gL_law_L_circuits : GoodIn wsL_law (va_wsS RL 109 yL_circuits wsL_circuits) := goodIn_app (goodIn_of _ (by decide +kernel)) ggL_law_L_circuits
set_option maxRecDepth 20000 in
theorem ggL_law_L_coils : GoodIn wsL_law wsL_coils := goodIn_r _ [96, 74, 75, 76, 2, 77, 20, 37, 67, 68, 69, 49, 50, 40, 51, 97, 98, 99, 100, 101, 102, 103, 104, 19, 105, 106, 107, 108, 18, 109, 110, 111, 112, 113, 17, 21, 114, 115, 116, 117, 118, 119, 78, 79, 80, 120, 121, 122, 123, 90, 91, 92, 93, 11, 124, 125, 126, 127, 128, 129, 184, 185, 186, 187, 188, 189, 190, 191, 192, 193, 194] (by decide +kernel) (by decide +kernel)
set_option maxRecDepth 20000 in
theorem gL_law_L_coils : GoodIn wsL_law (va_wsS RL 113 yL_coils wsL_coils) := goodIn_app (goodIn_of _ (by decide +kernel)) ggL_law_L_coils
set_option maxRecDepth 20000 in
theorem ggL_law_L_sums : GoodIn wsL_law wsL_sums := goodIn_r _ [132, 133, 134, 135, 2, 136, 20, 109, 102, 103, 104, 19, 137, 138, 139, 140, 18, 17, 67, 68, 69, 124, 106, 107, 108, 110, 111, 112, 113, 21, 141, 142, 40, 143, 144, 145, 146, 114, 115, 116, 117, 118, 119, 184, 185, 186, 187, 188, 189, 190, 191, 192, 193, 194] (by decide +kernel) (by decide +kernel)
set_option maxRecDepth 20000 in
theorem gL_law_L_sums : GoodIn wsL_law (va_wsS RL 116 yL_sums wsL_sums) := goodIn_app (goodIn_of _ (by decide +kernel)) ggL_law_L_sums
set_option maxRecDepth 20000 in
theorem ggL_law_L_changes : GoodIn wsL_law wsL_changes := goodIn_r _ [149, 150, 151, 40, 152, 153, 154, 155, 2, 156, 20, 13, 14, 15, 16, 17, 18, 19, 21, 11, 22, 23, 24, 25, 12, 26, 27, 28, 29, 30, 31, 32, 33, 34, 35, 36, 37, 157, 158, 159, 160, 161, 162, 163, 164, 165, 166, 167, 168, 169, 170, 171, 172, 173, 174, 175, 78, 79, 80, 176, 177, 178, 179, 180, 181, 182, 183, 90, 91, 92, 93, 184, 185, 186, 187, 188, 189, 190, 191, 192, 193, 194] (by decide +kernel) (by decide +kernel)
set_option maxRecDepth 20000 in
theorem gL_law_L_changes : GoodIn wsL_law (va_wsS RL 119 yL_changes wsL_changes) := goodIn_app (goodIn_of _ (by decide +kernel)) ggL_law_L_changes
theorem dL_law_0 : decode cL_law 0 = .ok (.new 37, 3) := by decide +kernel
theorem dL_law_3 : decode cL_law 3 = .ok (.dup, 1) := by decide +kernel
theorem dL_law_4 : decode cL_law 4 = .ok (.invokespecial 101, 3) := by decide +kernel
theorem dL_law_7 : decode cL_law 7 = .ok (.astore_n 1, 1) := by decide +kernel
theorem dL_law_8 : decode cL_law 8 = .ok (.bipush 9, 2) := by decide +kernel
theorem dL_law_10 : decode cL_law 10 = .ok (.newarray .int, 2) := by decide +kernel
theorem dL_law_12 : decode cL_law 12 = .ok (.astore_n 2, 1) := by decide +kernel
theorem dL_law_13 : decode cL_law 13 = .ok (.iconst 3, 1) := by decide +kernel
theorem dL_law_14 : decode cL_law 14 = .ok (.newarray .int, 2) := by decide +kernel
theorem dL_law_16 : decode cL_law 16 = .ok (.astore_n 3, 1) := by decide +kernel
theorem dL_law_17 : decode cL_law 17 = .ok (.aload_n 2, 1) := by decide +kernel
theorem dL_law_18 : decode cL_law 18 = .ok (.invokestatic 102, 3) := by decide +kernel
theorem dL_law_21 : decode cL_law 21 = .ok (.iconst 0, 1) := by decide +kernel
theorem dL_law_22 : decode cL_law 22 = .ok (.istore 4, 2) := by decide +kernel
theorem dL_law_24 : decode cL_law 24 = .ok (.iload 4, 2) := by decide +kernel
theorem dL_law_26 : decode cL_law 26 = .ok (.bipush 30, 2) := by decide +kernel
theorem dL_law_28 : decode cL_law 28 = .ok (.if_icmp .ge 77, 3) := by decide +kernel
theorem dL_law_31 : decode cL_law 31 = .ok (.aload_n 0, 1) := by decide +kernel
theorem dL_law_32 : decode cL_law 32 = .ok (.iconst 2, 1) := by decide +kernel
theorem dL_law_33 : decode cL_law 33 = .ok (.iload 4, 2) := by decide +kernel
theorem dL_law_35 : decode cL_law 35 = .ok (.imul, 1) := by decide +kernel
theorem dL_law_36 : decode cL_law 36 = .ok (.invokestatic 106, 3) := by decide +kernel
theorem dL_law_39 : decode cL_law 39 = .ok (.istore 5, 2) := by decide +kernel
theorem dL_law_41 : decode cL_law 41 = .ok (.aload_n 0, 1) := by decide +kernel
theorem dL_law_42 : decode cL_law 42 = .ok (.iconst 2, 1) := by decide +kernel
theorem dL_law_43 : decode cL_law 43 = .ok (.iload 4, 2) := by decide +kernel
theorem dL_law_45 : decode cL_law 45 = .ok (.imul, 1) := by decide +kernel
theorem dL_law_46 : decode cL_law 46 = .ok (.iconst 1, 1) := by decide +kernel
theorem dL_law_47 : decode cL_law 47 = .ok (.iadd, 1) := by decide +kernel
theorem dL_law_48 : decode cL_law 48 = .ok (.invokestatic 106, 3) := by decide +kernel
theorem dL_law_51 : decode cL_law 51 = .ok (.istore 6, 2) := by decide +kernel
theorem dL_law_53 : decode cL_law 53 = .ok (.aload_n 1, 1) := by decide +kernel
theorem dL_law_54 : decode cL_law 54 = .ok (.aload_n 2, 1) := by decide +kernel
theorem dL_law_55 : decode cL_law 55 = .ok (.aload_n 3, 1) := by decide +kernel
theorem dL_law_56 : decode cL_law 56 = .ok (.invokestatic 109, 3) := by decide +kernel
theorem dL_law_59 : decode cL_law 59 = .ok (.ifCond .eq 38, 3) := by decide +kernel
theorem dL_law_62 : decode cL_law 62 = .ok (.aload_n 1, 1) := by decide +kernel
theorem dL_law_63 : decode cL_law 63 = .ok (.aload_n 2, 1) := by decide +kernel
theorem dL_law_64 : decode cL_law 64 = .ok (.aload_n 3, 1) := by decide +kernel
theorem dL_law_65 : decode cL_law 65 = .ok (.invokestatic 113, 3) := by decide +kernel
theorem dL_law_68 : decode cL_law 68 = .ok (.ifCond .eq 29, 3) := by decide +kernel
theorem dL_law_71 : decode cL_law 71 = .ok (.aload_n 1, 1) := by decide +kernel
theorem dL_law_72 : decode cL_law 72 = .ok (.iload 6, 2) := by decide +kernel
theorem dL_law_74 : decode cL_law 74 = .ok (.bipush 70, 2) := by decide +kernel
theorem dL_law_76 : decode cL_law 76 = .ok (.irem, 1) := by decide +kernel
theorem dL_law_77 : decode cL_law 77 = .ok (.aload_n 2, 1) := by decide +kernel
theorem dL_law_78 : decode cL_law 78 = .ok (.invokestatic 116, 3) := by decide +kernel
theorem dL_law_81 : decode cL_law 81 = .ok (.ifCond .eq 16, 3) := by decide +kernel
theorem dL_law_84 : decode cL_law 84 = .ok (.aload_n 1, 1) := by decide +kernel
theorem dL_law_85 : decode cL_law 85 = .ok (.iload 5, 2) := by decide +kernel
theorem dL_law_87 : decode cL_law 87 = .ok (.iload 6, 2) := by decide +kernel
theorem dL_law_89 : decode cL_law 89 = .ok (.aload_n 2, 1) := by decide +kernel
theorem dL_law_90 : decode cL_law 90 = .ok (.aload_n 3, 1) := by decide +kernel
theorem dL_law_91 : decode cL_law 91 = .ok (.invokestatic 119, 3) := by decide +kernel
theorem dL_law_94 : decode cL_law 94 = .ok (.ifCond .ne 5, 3) := by decide +kernel
theorem dL_law_97 : decode cL_law 97 = .ok (.iconst 0, 1) := by decide +kernel
theorem dL_law_98 : decode cL_law 98 = .ok (.ireturn, 1) := by decide +kernel
theorem dL_law_99 : decode cL_law 99 = .ok (.iinc 4 1, 3) := by decide +kernel
theorem dL_law_102 : decode cL_law 102 = .ok (.goto (-78), 3) := by decide +kernel
theorem dL_law_105 : decode cL_law 105 = .ok (.aload_n 1, 1) := by decide +kernel
theorem dL_law_106 : decode cL_law 106 = .ok (.aload_n 2, 1) := by decide +kernel
theorem dL_law_107 : decode cL_law 107 = .ok (.aload_n 3, 1) := by decide +kernel
theorem dL_law_108 : decode cL_law 108 = .ok (.invokestatic 109, 3) := by decide +kernel
theorem dL_law_111 : decode cL_law 111 = .ok (.ifCond .eq 16, 3) := by decide +kernel
theorem dL_law_114 : decode cL_law 114 = .ok (.aload_n 1, 1) := by decide +kernel
theorem dL_law_115 : decode cL_law 115 = .ok (.aload_n 2, 1) := by decide +kernel
theorem dL_law_116 : decode cL_law 116 = .ok (.aload_n 3, 1) := by decide +kernel
theorem dL_law_117 : decode cL_law 117 = .ok (.invokestatic 113, 3) := by decide +kernel
theorem dL_law_120 : decode cL_law 120 = .ok (.ifCond .eq 7, 3) := by decide +kernel
theorem dL_law_123 : decode cL_law 123 = .ok (.iconst 1, 1) := by decide +kernel
theorem dL_law_124 : decode cL_law 124 = .ok (.goto 4, 3) := by decide +kernel
theorem dL_law_127 : decode cL_law 127 = .ok (.iconst 0, 1) := by decide +kernel
theorem dL_law_128 : decode cL_law 128 = .ok (.ireturn, 1) := by decide +kernel
abbrev vwCl : List vw_C := [(RX0, TX0, 11)]
end
section
/-! ints by their numbers: zI z is the int of the number z; every row of a walk speaks of zI -/
def zI (z : Int) : Int32 := Int32.ofInt z
theorem zI_add (x y : Int) : zI x + zI y = zI (x + y) := (Int32.ofInt_add x y).symm
theorem zI_sub (x y : Int) : zI x - zI y = zI (x - y) := (Int32.ofInt_sub x y).symm
theorem zI_mul (x y : Int) : zI x * zI y = zI (x * y) := (Int32.ofInt_mul x y).symm
theorem zI_neg (x : Int) : - zI x = zI (-x) := (Int32.ofInt_neg x).symm
theorem zI_toInt {x : Int} (h : -2147483648 ≤ x ∧ x < 2147483648) : (zI x).toInt = x := Int32.toInt_ofInt_of_le (by have := h.1; omega) (by have := h.2; omega)
theorem zI_lt {x y : Int} (hx : -2147483648 ≤ x ∧ x < 2147483648) (hy : -2147483648 ≤ y ∧ y < 2147483648) : zI x < zI y ↔ x < y := by
  rw [Int32.lt_iff_toInt_lt, zI_toInt hx, zI_toInt hy]
theorem zI_le {x y : Int} (hx : -2147483648 ≤ x ∧ x < 2147483648) (hy : -2147483648 ≤ y ∧ y < 2147483648) : zI x ≤ zI y ↔ x ≤ y := by
  rw [Int32.le_iff_toInt_le, zI_toInt hx, zI_toInt hy]
theorem zI_eq {x y : Int} (hx : -2147483648 ≤ x ∧ x < 2147483648) (hy : -2147483648 ≤ y ∧ y < 2147483648) : zI x = zI y ↔ x = y := by
  rw [← Int32.toInt_inj, zI_toInt hx, zI_toInt hy]
theorem zI_0 : zI 0 = 0 := by decide
theorem zI_of (x : Int32) : ∃ z : Int, (-2147483648 ≤ z ∧ z < 2147483648) ∧ x = zI z := by
  refine ⟨x.toInt, ⟨?_, ?_⟩, ?_⟩
  · have := Int32.le_toInt x; omega
  · have := Int32.toInt_lt x; omega
  · exact (Int32.ofInt_toInt x).symm
theorem zI_tdiv {x y : Int} (hx : -2147483648 < x ∧ x < 2147483648) (hy : -2147483648 ≤ y ∧ y < 2147483648) : zI x / zI y = zI (x.tdiv y) := by
  apply Int32.toInt_inj.mp
  rw [Int32.toInt_div, zI_toInt ⟨by omega, hx.2⟩, zI_toInt hy]
  have hb : -2147483648 < x.tdiv y ∧ x.tdiv y < 2147483648 := by
    have h1 : (x.tdiv y).natAbs ≤ x.natAbs := by rw [Int.natAbs_tdiv]; exact Nat.div_le_self _ _
    omega
  rw [zI_toInt ⟨by omega, hb.2⟩]
  exact Int.bmod_eq_of_le (by omega) (by omega)
theorem zI_trem {x y : Int} (hx : -2147483648 < x ∧ x < 2147483648) (hy : -2147483648 ≤ y ∧ y < 2147483648) : zI x - zI x / zI y * zI y = zI (x.tmod y) := by
  rw [zI_tdiv hx hy, zI_mul, zI_sub]
  exact congrArg zI (by rw [Int.tmod_def, Int.mul_comm])
theorem zI_div {x y : Int} (hx : 0 ≤ x ∧ x < 2147483648) (hy : 0 < y ∧ y < 2147483648) : zI x / zI y = zI (x / y) := by
  rw [zI_tdiv ⟨by omega, hx.2⟩ ⟨by omega, hy.2⟩, Int.tdiv_eq_ediv_of_nonneg hx.1]
theorem zI_rem {x y : Int} (hx : 0 ≤ x ∧ x < 2147483648) (hy : 0 < y ∧ y < 2147483648) : zI x - zI x / zI y * zI y = zI (x % y) := by
  rw [zI_trem ⟨by omega, hx.2⟩ ⟨by omega, hy.2⟩, Int.tmod_eq_emod_of_nonneg hx.1]
theorem zI_clamp {x : Int} (hx : 0 ≤ x ∧ x < 2147483648) : (zI x).toNatClampNeg = x.toNat := by
  rw [← Int32.toNat_toInt, zI_toInt ⟨by omega, hx.2⟩]
theorem zI_in {x : Int} {n : Nat} (h0 : 0 ≤ x) (h : x < n) (hn : n < 2147483648) : vp_in (zI x) n := by
  rw [vp_in_iff, zI_toInt ⟨by omega, by omega⟩]
  exact ⟨h0, h⟩
theorem zI_nI {n : Nat} (h : n < 2147483648) : nI n = zI n := by
  apply Int32.toInt_inj.mp
  rw [nI_toInt (by omega), zI_toInt ⟨by omega, by omega⟩]
section ZB
variable {p : Program} {l : Launch} {e : Env} {R : Room} {s : State} {m : MethodId} {args : Array Value} {below : List Frame} {meth : Method} {c : Code} {H : Heap} {locs : List Loc} {cells slots : Nat} {Q : State → Prop}
variable {cc : ByteArray} {pc : Nat} {ls : Array Slot} {rest : List Value}
theorem zb_iconst (hx : p.tables.exec = Jvm.exec) (hb : c.code = cc) {n : Int} (hdg : decode cc pc = .ok (.iconst n, 1)) (k : W p l e R s m args below meth c H locs cells slots Q (F0 m (pc + 1) ls (.int (zI n) :: rest))) : W p l e R s m args below meth c H locs cells slots Q (F0 m pc ls rest) := lv_iconst hx hb hdg rfl k
theorem zb_bipush (hx : p.tables.exec = Jvm.exec) (hb : c.code = cc) {n : Int} (hdg : decode cc pc = .ok (.bipush n, 2)) (hv : (Int8.ofInt n).toInt32 = zI n) (k : W p l e R s m args below meth c H locs cells slots Q (F0 m (pc + 2) ls (.int (zI n) :: rest))) : W p l e R s m args below meth c H locs cells slots Q (F0 m pc ls rest) := lv_bipush hx hb hdg hv k
theorem zb_sipush (hx : p.tables.exec = Jvm.exec) (hb : c.code = cc) {n : Int} (hdg : decode cc pc = .ok (.sipush n, 3)) (hv : (Int16.ofInt n).toInt32 = zI n) (k : W p l e R s m args below meth c H locs cells slots Q (F0 m (pc + 3) ls (.int (zI n) :: rest))) : W p l e R s m args below meth c H locs cells slots Q (F0 m pc ls rest) := lv_sipush hx hb hdg hv k
theorem zb_add (hx : p.tables.exec = Jvm.exec) (hb : c.code = cc) {x y : Int} (hdg : decode cc pc = .ok (.iadd, 1)) (k : W p l e R s m args below meth c H locs cells slots Q (F0 m (pc + 1) ls (.int (zI (x + y)) :: rest))) : W p l e R s m args below meth c H locs cells slots Q (F0 m pc ls (.int (zI y) :: .int (zI x) :: rest)) := lv_iadd hx hb hdg (by rw [zI_add]; exact k)
theorem zb_sub (hx : p.tables.exec = Jvm.exec) (hb : c.code = cc) {x y : Int} (hdg : decode cc pc = .ok (.isub, 1)) (k : W p l e R s m args below meth c H locs cells slots Q (F0 m (pc + 1) ls (.int (zI (x - y)) :: rest))) : W p l e R s m args below meth c H locs cells slots Q (F0 m pc ls (.int (zI y) :: .int (zI x) :: rest)) := lv_isub hx hb hdg (by rw [zI_sub]; exact k)
theorem zb_mul (hx : p.tables.exec = Jvm.exec) (hb : c.code = cc) {x y : Int} (hdg : decode cc pc = .ok (.imul, 1)) (k : W p l e R s m args below meth c H locs cells slots Q (F0 m (pc + 1) ls (.int (zI (x * y)) :: rest))) : W p l e R s m args below meth c H locs cells slots Q (F0 m pc ls (.int (zI y) :: .int (zI x) :: rest)) := lv_imul hx hb hdg (by rw [zI_mul]; exact k)
theorem zb_neg (hx : p.tables.exec = Jvm.exec) (hb : c.code = cc) {x : Int} (hdg : decode cc pc = .ok (.ineg, 1)) (k : W p l e R s m args below meth c H locs cells slots Q (F0 m (pc + 1) ls (.int (zI (-x)) :: rest))) : W p l e R s m args below meth c H locs cells slots Q (F0 m pc ls (.int (zI x) :: rest)) := lv_ineg hx hb hdg (by rw [zI_neg]; exact k)
theorem zb_nz {y : Int} (hy : -2147483648 ≤ y ∧ y < 2147483648) (h : y ≠ 0) : ¬ zI y = 0 := by
  rw [← zI_0, zI_eq hy (by decide)]; exact h
theorem zb_div (hx : p.tables.exec = Jvm.exec) (hb : c.code = cc) {x y : Int} (hdg : decode cc pc = .ok (.idiv, 1)) (h1 : 0 ≤ x ∧ x < 2147483648) (h2 : 0 < y ∧ y < 2147483648) (k : W p l e R s m args below meth c H locs cells slots Q (F0 m (pc + 1) ls (.int (zI (x / y)) :: rest))) : W p l e R s m args below meth c H locs cells slots Q (F0 m pc ls (.int (zI y) :: .int (zI x) :: rest)) := lv_idiv hx hb hdg (zb_nz ⟨by omega, by omega⟩ (by omega)) (by rw [zI_div h1 h2]; exact k)
theorem zb_rem (hx : p.tables.exec = Jvm.exec) (hb : c.code = cc) {x y : Int} (hdg : decode cc pc = .ok (.irem, 1)) (h1 : 0 ≤ x ∧ x < 2147483648) (h2 : 0 < y ∧ y < 2147483648) (k : W p l e R s m args below meth c H locs cells slots Q (F0 m (pc + 1) ls (.int (zI (x % y)) :: rest))) : W p l e R s m args below meth c H locs cells slots Q (F0 m pc ls (.int (zI y) :: .int (zI x) :: rest)) := lv_irem hx hb hdg (zb_nz ⟨by omega, by omega⟩ (by omega)) (by rw [zI_rem h1 h2]; exact k)
theorem zb_tdiv (hx : p.tables.exec = Jvm.exec) (hb : c.code = cc) {x y : Int} (hdg : decode cc pc = .ok (.idiv, 1)) (h1 : -2147483648 < x ∧ x < 2147483648) (h2 : 0 < y ∧ y < 2147483648) (k : W p l e R s m args below meth c H locs cells slots Q (F0 m (pc + 1) ls (.int (zI (x.tdiv y)) :: rest))) : W p l e R s m args below meth c H locs cells slots Q (F0 m pc ls (.int (zI y) :: .int (zI x) :: rest)) := lv_idiv hx hb hdg (zb_nz ⟨by omega, by omega⟩ (by omega)) (by rw [zI_tdiv h1 ⟨by omega, h2.2⟩]; exact k)
theorem zb_trem (hx : p.tables.exec = Jvm.exec) (hb : c.code = cc) {x y : Int} (hdg : decode cc pc = .ok (.irem, 1)) (h1 : -2147483648 < x ∧ x < 2147483648) (h2 : 0 < y ∧ y < 2147483648) (k : W p l e R s m args below meth c H locs cells slots Q (F0 m (pc + 1) ls (.int (zI (x.tmod y)) :: rest))) : W p l e R s m args below meth c H locs cells slots Q (F0 m pc ls (.int (zI y) :: .int (zI x) :: rest)) := lv_irem hx hb hdg (zb_nz ⟨by omega, by omega⟩ (by omega)) (by rw [zI_trem h1 ⟨by omega, h2.2⟩]; exact k)
/-- another name, or another form, for the number on top -/
theorem zb_as {x : Int} (y : Int) (h : x = y) (k : W p l e R s m args below meth c H locs cells slots Q (F0 m pc ls (.int (zI y) :: rest))) : W p l e R s m args below meth c H locs cells slots Q (F0 m pc ls (.int (zI x) :: rest)) := by subst h; exact k
theorem zb_nm {x : Int} (k : ∀ y : Int, y = x → W p l e R s m args below meth c H locs cells slots Q (F0 m pc ls (.int (zI y) :: rest))) : W p l e R s m args below meth c H locs cells slots Q (F0 m pc ls (.int (zI x) :: rest)) := k x rfl
theorem zb_to {v w : Value} (h : v = w) (k : W p l e R s m args below meth c H locs cells slots Q (F0 m pc ls (w :: rest))) : W p l e R s m args below meth c H locs cells slots Q (F0 m pc ls (v :: rest)) := by subst h; exact k
theorem zb_join (I : Int → Prop) {pcj : Nat} {lj : Array Slot} {rj : List Value} {g : JFrame} (kk : ∀ z : Int, I z → W p l e R s m args below meth c H locs cells slots Q (F0 m pcj lj (.int (zI z) :: rj))) (br : (∀ z : Int, I z → W p l e R s m args below meth c H locs cells slots Q (F0 m pcj lj (.int (zI z) :: rj))) → W p l e R s m args below meth c H locs cells slots Q g) : W p l e R s m args below meth c H locs cells slots Q g := br kk
theorem zb_iinc (hx : p.tables.exec = Jvm.exec) (hb : c.code = cc) {i nL k : Nat} {n x : Int} {lv lv' : List (Nat × Value)} (hdg : decode cc pc = .ok (.iinc i n, 3)) (h : lv_has ls nL lv) (hk : lv[k]? = some (i, .int (zI x))) (hn : i < nL) (hl : (i, Value.int (zI (x + n))) :: lv.filter (fun q => !(q.1 == i) && !(q.1 + 1 == i && q.2.category == 2)) = lv')
    (kk : ∀ ls' : Array Slot, lv_has ls' nL lv' → W p l e R s m args below meth c H locs cells slots Q (F0 m (pc + 3) ls' rest)) : W p l e R s m args below meth c H locs cells slots Q (F0 m pc ls rest) := lv_iinc hx hb hdg h hk (zI_add x n) hn hl kk
theorem zb_ceq (hx : p.tables.exec = Jvm.exec) (hb : c.code = cc) {x y : Int} {off : Int} {tgt : Nat} (hdg : decode cc pc = .ok (.if_icmp .eq off, 3)) (ht : (pc : Int) + off = (tgt : Int)) (hX : -2147483648 ≤ x ∧ x < 2147483648) (hY : -2147483648 ≤ y ∧ y < 2147483648)
    (kt : x = y → W p l e R s m args below meth c H locs cells slots Q (F0 m tgt ls rest)) (kf : ¬ x = y → W p l e R s m args below meth c H locs cells slots Q (F0 m (pc + 3) ls rest)) : W p l e R s m args below meth c H locs cells slots Q (F0 m pc ls (.int (zI y) :: .int (zI x) :: rest)) := lv_icmp_eq hx hb hdg ht (fun h => kt ((zI_eq hX hY).mp h)) (fun h => kf (fun q => h ((zI_eq hX hY).mpr q)))
theorem zb_ieq (hx : p.tables.exec = Jvm.exec) (hb : c.code = cc) {x : Int} {off : Int} {tgt : Nat} (hdg : decode cc pc = .ok (.ifCond .eq off, 3)) (ht : (pc : Int) + off = (tgt : Int)) (hX : -2147483648 ≤ x ∧ x < 2147483648)
    (kt : x = 0 → W p l e R s m args below meth c H locs cells slots Q (F0 m tgt ls rest)) (kf : ¬ x = 0 → W p l e R s m args below meth c H locs cells slots Q (F0 m (pc + 3) ls rest)) : W p l e R s m args below meth c H locs cells slots Q (F0 m pc ls (.int (zI x) :: rest)) := by
  have hY : -2147483648 ≤ (0 : Int) ∧ (0 : Int) < 2147483648 := by decide
  exact lv_if_eq hx hb hdg ht (fun h => by rw [← zI_0] at h; exact kt ((zI_eq hX hY).mp h)) (fun h => by rw [← zI_0] at h; exact kf (fun q => h ((zI_eq hX hY).mpr q)))
theorem zb_cne (hx : p.tables.exec = Jvm.exec) (hb : c.code = cc) {x y : Int} {off : Int} {tgt : Nat} (hdg : decode cc pc = .ok (.if_icmp .ne off, 3)) (ht : (pc : Int) + off = (tgt : Int)) (hX : -2147483648 ≤ x ∧ x < 2147483648) (hY : -2147483648 ≤ y ∧ y < 2147483648)
    (kt : ¬ x = y → W p l e R s m args below meth c H locs cells slots Q (F0 m tgt ls rest)) (kf : x = y → W p l e R s m args below meth c H locs cells slots Q (F0 m (pc + 3) ls rest)) : W p l e R s m args below meth c H locs cells slots Q (F0 m pc ls (.int (zI y) :: .int (zI x) :: rest)) := lv_icmp_ne hx hb hdg ht (fun h => kt (fun q => h ((zI_eq hX hY).mpr q))) (fun h => kf ((zI_eq hX hY).mp h))
theorem zb_ine (hx : p.tables.exec = Jvm.exec) (hb : c.code = cc) {x : Int} {off : Int} {tgt : Nat} (hdg : decode cc pc = .ok (.ifCond .ne off, 3)) (ht : (pc : Int) + off = (tgt : Int)) (hX : -2147483648 ≤ x ∧ x < 2147483648)
    (kt : ¬ x = 0 → W p l e R s m args below meth c H locs cells slots Q (F0 m tgt ls rest)) (kf : x = 0 → W p l e R s m args below meth c H locs cells slots Q (F0 m (pc + 3) ls rest)) : W p l e R s m args below meth c H locs cells slots Q (F0 m pc ls (.int (zI x) :: rest)) := by
  have hY : -2147483648 ≤ (0 : Int) ∧ (0 : Int) < 2147483648 := by decide
  exact lv_if_ne hx hb hdg ht (fun h => by rw [← zI_0] at h; exact kt (fun q => h ((zI_eq hX hY).mpr q))) (fun h => by rw [← zI_0] at h; exact kf ((zI_eq hX hY).mp h))
theorem zb_clt (hx : p.tables.exec = Jvm.exec) (hb : c.code = cc) {x y : Int} {off : Int} {tgt : Nat} (hdg : decode cc pc = .ok (.if_icmp .lt off, 3)) (ht : (pc : Int) + off = (tgt : Int)) (hX : -2147483648 ≤ x ∧ x < 2147483648) (hY : -2147483648 ≤ y ∧ y < 2147483648)
    (kt : x < y → W p l e R s m args below meth c H locs cells slots Q (F0 m tgt ls rest)) (kf : ¬ x < y → W p l e R s m args below meth c H locs cells slots Q (F0 m (pc + 3) ls rest)) : W p l e R s m args below meth c H locs cells slots Q (F0 m pc ls (.int (zI y) :: .int (zI x) :: rest)) := lv_icmp_lt hx hb hdg ht (fun h => kt ((zI_lt hX hY).mp h)) (fun h => kf (fun q => h ((zI_lt hX hY).mpr q)))
theorem zb_ilt (hx : p.tables.exec = Jvm.exec) (hb : c.code = cc) {x : Int} {off : Int} {tgt : Nat} (hdg : decode cc pc = .ok (.ifCond .lt off, 3)) (ht : (pc : Int) + off = (tgt : Int)) (hX : -2147483648 ≤ x ∧ x < 2147483648)
    (kt : x < 0 → W p l e R s m args below meth c H locs cells slots Q (F0 m tgt ls rest)) (kf : ¬ x < 0 → W p l e R s m args below meth c H locs cells slots Q (F0 m (pc + 3) ls rest)) : W p l e R s m args below meth c H locs cells slots Q (F0 m pc ls (.int (zI x) :: rest)) := by
  have hY : -2147483648 ≤ (0 : Int) ∧ (0 : Int) < 2147483648 := by decide
  exact lv_if_lt hx hb hdg ht (fun h => by rw [← zI_0] at h; exact kt ((zI_lt hX hY).mp h)) (fun h => by rw [← zI_0] at h; exact kf (fun q => h ((zI_lt hX hY).mpr q)))
theorem zb_cge (hx : p.tables.exec = Jvm.exec) (hb : c.code = cc) {x y : Int} {off : Int} {tgt : Nat} (hdg : decode cc pc = .ok (.if_icmp .ge off, 3)) (ht : (pc : Int) + off = (tgt : Int)) (hX : -2147483648 ≤ x ∧ x < 2147483648) (hY : -2147483648 ≤ y ∧ y < 2147483648)
    (kt : y ≤ x → W p l e R s m args below meth c H locs cells slots Q (F0 m tgt ls rest)) (kf : ¬ y ≤ x → W p l e R s m args below meth c H locs cells slots Q (F0 m (pc + 3) ls rest)) : W p l e R s m args below meth c H locs cells slots Q (F0 m pc ls (.int (zI y) :: .int (zI x) :: rest)) := lv_icmp_ge hx hb hdg ht (fun h => kt ((zI_le hY hX).mp h)) (fun h => kf (fun q => h ((zI_le hY hX).mpr q)))
theorem zb_ige (hx : p.tables.exec = Jvm.exec) (hb : c.code = cc) {x : Int} {off : Int} {tgt : Nat} (hdg : decode cc pc = .ok (.ifCond .ge off, 3)) (ht : (pc : Int) + off = (tgt : Int)) (hX : -2147483648 ≤ x ∧ x < 2147483648)
    (kt : 0 ≤ x → W p l e R s m args below meth c H locs cells slots Q (F0 m tgt ls rest)) (kf : ¬ 0 ≤ x → W p l e R s m args below meth c H locs cells slots Q (F0 m (pc + 3) ls rest)) : W p l e R s m args below meth c H locs cells slots Q (F0 m pc ls (.int (zI x) :: rest)) := by
  have hY : -2147483648 ≤ (0 : Int) ∧ (0 : Int) < 2147483648 := by decide
  exact lv_if_ge hx hb hdg ht (fun h => by rw [← zI_0] at h; exact kt ((zI_le hY hX).mp h)) (fun h => by rw [← zI_0] at h; exact kf (fun q => h ((zI_le hY hX).mpr q)))
theorem zb_cgt (hx : p.tables.exec = Jvm.exec) (hb : c.code = cc) {x y : Int} {off : Int} {tgt : Nat} (hdg : decode cc pc = .ok (.if_icmp .gt off, 3)) (ht : (pc : Int) + off = (tgt : Int)) (hX : -2147483648 ≤ x ∧ x < 2147483648) (hY : -2147483648 ≤ y ∧ y < 2147483648)
    (kt : y < x → W p l e R s m args below meth c H locs cells slots Q (F0 m tgt ls rest)) (kf : ¬ y < x → W p l e R s m args below meth c H locs cells slots Q (F0 m (pc + 3) ls rest)) : W p l e R s m args below meth c H locs cells slots Q (F0 m pc ls (.int (zI y) :: .int (zI x) :: rest)) := lv_icmp_gt hx hb hdg ht (fun h => kt ((zI_lt hY hX).mp h)) (fun h => kf (fun q => h ((zI_lt hY hX).mpr q)))
theorem zb_igt (hx : p.tables.exec = Jvm.exec) (hb : c.code = cc) {x : Int} {off : Int} {tgt : Nat} (hdg : decode cc pc = .ok (.ifCond .gt off, 3)) (ht : (pc : Int) + off = (tgt : Int)) (hX : -2147483648 ≤ x ∧ x < 2147483648)
    (kt : 0 < x → W p l e R s m args below meth c H locs cells slots Q (F0 m tgt ls rest)) (kf : ¬ 0 < x → W p l e R s m args below meth c H locs cells slots Q (F0 m (pc + 3) ls rest)) : W p l e R s m args below meth c H locs cells slots Q (F0 m pc ls (.int (zI x) :: rest)) := by
  have hY : -2147483648 ≤ (0 : Int) ∧ (0 : Int) < 2147483648 := by decide
  exact lv_if_gt hx hb hdg ht (fun h => by rw [← zI_0] at h; exact kt ((zI_lt hY hX).mp h)) (fun h => by rw [← zI_0] at h; exact kf (fun q => h ((zI_lt hY hX).mpr q)))
theorem zb_cle (hx : p.tables.exec = Jvm.exec) (hb : c.code = cc) {x y : Int} {off : Int} {tgt : Nat} (hdg : decode cc pc = .ok (.if_icmp .le off, 3)) (ht : (pc : Int) + off = (tgt : Int)) (hX : -2147483648 ≤ x ∧ x < 2147483648) (hY : -2147483648 ≤ y ∧ y < 2147483648)
    (kt : x ≤ y → W p l e R s m args below meth c H locs cells slots Q (F0 m tgt ls rest)) (kf : ¬ x ≤ y → W p l e R s m args below meth c H locs cells slots Q (F0 m (pc + 3) ls rest)) : W p l e R s m args below meth c H locs cells slots Q (F0 m pc ls (.int (zI y) :: .int (zI x) :: rest)) := lv_icmp_le hx hb hdg ht (fun h => kt ((zI_le hX hY).mp h)) (fun h => kf (fun q => h ((zI_le hX hY).mpr q)))
theorem zb_ile (hx : p.tables.exec = Jvm.exec) (hb : c.code = cc) {x : Int} {off : Int} {tgt : Nat} (hdg : decode cc pc = .ok (.ifCond .le off, 3)) (ht : (pc : Int) + off = (tgt : Int)) (hX : -2147483648 ≤ x ∧ x < 2147483648)
    (kt : x ≤ 0 → W p l e R s m args below meth c H locs cells slots Q (F0 m tgt ls rest)) (kf : ¬ x ≤ 0 → W p l e R s m args below meth c H locs cells slots Q (F0 m (pc + 3) ls rest)) : W p l e R s m args below meth c H locs cells slots Q (F0 m pc ls (.int (zI x) :: rest)) := by
  have hY : -2147483648 ≤ (0 : Int) ∧ (0 : Int) < 2147483648 := by decide
  exact lv_if_le hx hb hdg ht (fun h => by rw [← zI_0] at h; exact kt ((zI_le hX hY).mp h)) (fun h => by rw [← zI_0] at h; exact kf (fun q => h ((zI_le hX hY).mpr q)))
theorem zb_lp1 {nL : Nat} (I : Int → Prop) (lv : Int → List (Nat × Value)) (μ : Int → Int) (a0 : Int) (h : I a0) (hl : lv_has ls nL (lv a0))
    (step : ∀ (a0 : Int) (ls : Array Slot), I a0 → lv_has ls nL (lv a0) → (∀ (b0 : Int) (ls' : Array Slot), I b0 → (0 ≤ μ b0 ∧ μ b0 < μ a0) → lv_has ls' nL (lv b0) → W p l e R s m args below meth c H locs cells slots Q (F0 m pc ls' [])) → W p l e R s m args below meth c H locs cells slots Q (F0 m pc ls [])) : W p l e R s m args below meth c H locs cells slots Q (F0 m pc ls []) := by
  have key : ∀ (n : Nat) (a0 : Int) (ls : Array Slot), I a0 → lv_has ls nL (lv a0) → (μ a0).toNat < n → W p l e R s m args below meth c H locs cells slots Q (F0 m pc ls []) := by
    intro n
    induction n with
    | zero => intro a0 ls _ _ h; exact absurd h (Nat.not_lt_zero _)
    | succ n ih => intro a0 ls hI hl hn; exact step a0 ls hI hl (fun b0 ls' h1 h2 h3 => ih b0 ls' h1 h3 (by omega))
  exact key _ a0 ls h hl (Nat.lt_succ_self _)
theorem zb_lp2 {nL : Nat} (I : Int → Int → Prop) (lv : Int → Int → List (Nat × Value)) (μ : Int → Int → Int) (a0 a1 : Int) (h : I a0 a1) (hl : lv_has ls nL (lv a0 a1))
    (step : ∀ (a0 a1 : Int) (ls : Array Slot), I a0 a1 → lv_has ls nL (lv a0 a1) → (∀ (b0 b1 : Int) (ls' : Array Slot), I b0 b1 → (0 ≤ μ b0 b1 ∧ μ b0 b1 < μ a0 a1) → lv_has ls' nL (lv b0 b1) → W p l e R s m args below meth c H locs cells slots Q (F0 m pc ls' [])) → W p l e R s m args below meth c H locs cells slots Q (F0 m pc ls [])) : W p l e R s m args below meth c H locs cells slots Q (F0 m pc ls []) := by
  have key : ∀ (n : Nat) (a0 a1 : Int) (ls : Array Slot), I a0 a1 → lv_has ls nL (lv a0 a1) → (μ a0 a1).toNat < n → W p l e R s m args below meth c H locs cells slots Q (F0 m pc ls []) := by
    intro n
    induction n with
    | zero => intro a0 a1 ls _ _ h; exact absurd h (Nat.not_lt_zero _)
    | succ n ih => intro a0 a1 ls hI hl hn; exact step a0 a1 ls hI hl (fun b0 b1 ls' h1 h2 h3 => ih b0 b1 ls' h1 h3 (by omega))
  exact key _ a0 a1 ls h hl (Nat.lt_succ_self _)
theorem zb_lp3 {nL : Nat} (I : Int → Int → Int → Prop) (lv : Int → Int → Int → List (Nat × Value)) (μ : Int → Int → Int → Int) (a0 a1 a2 : Int) (h : I a0 a1 a2) (hl : lv_has ls nL (lv a0 a1 a2))
    (step : ∀ (a0 a1 a2 : Int) (ls : Array Slot), I a0 a1 a2 → lv_has ls nL (lv a0 a1 a2) → (∀ (b0 b1 b2 : Int) (ls' : Array Slot), I b0 b1 b2 → (0 ≤ μ b0 b1 b2 ∧ μ b0 b1 b2 < μ a0 a1 a2) → lv_has ls' nL (lv b0 b1 b2) → W p l e R s m args below meth c H locs cells slots Q (F0 m pc ls' [])) → W p l e R s m args below meth c H locs cells slots Q (F0 m pc ls [])) : W p l e R s m args below meth c H locs cells slots Q (F0 m pc ls []) := by
  have key : ∀ (n : Nat) (a0 a1 a2 : Int) (ls : Array Slot), I a0 a1 a2 → lv_has ls nL (lv a0 a1 a2) → (μ a0 a1 a2).toNat < n → W p l e R s m args below meth c H locs cells slots Q (F0 m pc ls []) := by
    intro n
    induction n with
    | zero => intro a0 a1 a2 ls _ _ h; exact absurd h (Nat.not_lt_zero _)
    | succ n ih => intro a0 a1 a2 ls hI hl hn; exact step a0 a1 a2 ls hI hl (fun b0 b1 b2 ls' h1 h2 h3 => ih b0 b1 b2 ls' h1 h3 (by omega))
  exact key _ a0 a1 a2 ls h hl (Nat.lt_succ_self _)
theorem zb_lp4 {nL : Nat} (I : Int → Int → Int → Int → Prop) (lv : Int → Int → Int → Int → List (Nat × Value)) (μ : Int → Int → Int → Int → Int) (a0 a1 a2 a3 : Int) (h : I a0 a1 a2 a3) (hl : lv_has ls nL (lv a0 a1 a2 a3))
    (step : ∀ (a0 a1 a2 a3 : Int) (ls : Array Slot), I a0 a1 a2 a3 → lv_has ls nL (lv a0 a1 a2 a3) → (∀ (b0 b1 b2 b3 : Int) (ls' : Array Slot), I b0 b1 b2 b3 → (0 ≤ μ b0 b1 b2 b3 ∧ μ b0 b1 b2 b3 < μ a0 a1 a2 a3) → lv_has ls' nL (lv b0 b1 b2 b3) → W p l e R s m args below meth c H locs cells slots Q (F0 m pc ls' [])) → W p l e R s m args below meth c H locs cells slots Q (F0 m pc ls [])) : W p l e R s m args below meth c H locs cells slots Q (F0 m pc ls []) := by
  have key : ∀ (n : Nat) (a0 a1 a2 a3 : Int) (ls : Array Slot), I a0 a1 a2 a3 → lv_has ls nL (lv a0 a1 a2 a3) → (μ a0 a1 a2 a3).toNat < n → W p l e R s m args below meth c H locs cells slots Q (F0 m pc ls []) := by
    intro n
    induction n with
    | zero => intro a0 a1 a2 a3 ls _ _ h; exact absurd h (Nat.not_lt_zero _)
    | succ n ih => intro a0 a1 a2 a3 ls hI hl hn; exact step a0 a1 a2 a3 ls hI hl (fun b0 b1 b2 b3 ls' h1 h2 h3 => ih b0 b1 b2 b3 ls' h1 h3 (by omega))
  exact key _ a0 a1 a2 a3 ls h hl (Nat.lt_succ_self _)
theorem zb_lp5 {nL : Nat} (I : Int → Int → Int → Int → Int → Prop) (lv : Int → Int → Int → Int → Int → List (Nat × Value)) (μ : Int → Int → Int → Int → Int → Int) (a0 a1 a2 a3 a4 : Int) (h : I a0 a1 a2 a3 a4) (hl : lv_has ls nL (lv a0 a1 a2 a3 a4))
    (step : ∀ (a0 a1 a2 a3 a4 : Int) (ls : Array Slot), I a0 a1 a2 a3 a4 → lv_has ls nL (lv a0 a1 a2 a3 a4) → (∀ (b0 b1 b2 b3 b4 : Int) (ls' : Array Slot), I b0 b1 b2 b3 b4 → (0 ≤ μ b0 b1 b2 b3 b4 ∧ μ b0 b1 b2 b3 b4 < μ a0 a1 a2 a3 a4) → lv_has ls' nL (lv b0 b1 b2 b3 b4) → W p l e R s m args below meth c H locs cells slots Q (F0 m pc ls' [])) → W p l e R s m args below meth c H locs cells slots Q (F0 m pc ls [])) : W p l e R s m args below meth c H locs cells slots Q (F0 m pc ls []) := by
  have key : ∀ (n : Nat) (a0 a1 a2 a3 a4 : Int) (ls : Array Slot), I a0 a1 a2 a3 a4 → lv_has ls nL (lv a0 a1 a2 a3 a4) → (μ a0 a1 a2 a3 a4).toNat < n → W p l e R s m args below meth c H locs cells slots Q (F0 m pc ls []) := by
    intro n
    induction n with
    | zero => intro a0 a1 a2 a3 a4 ls _ _ h; exact absurd h (Nat.not_lt_zero _)
    | succ n ih => intro a0 a1 a2 a3 a4 ls hI hl hn; exact step a0 a1 a2 a3 a4 ls hI hl (fun b0 b1 b2 b3 b4 ls' h1 h2 h3 => ih b0 b1 b2 b3 b4 ls' h1 h3 (by omega))
  exact key _ a0 a1 a2 a3 a4 ls h hl (Nat.lt_succ_self _)
end ZB
/-! a method that only reads: it hands back the int of v, and the heap is what it was -/
abbrev aw_rm (f n : Nat) : Room := { frames := f, cells := 0, slots := 0, locals := n }
def aw_Q (v : Int) : Array Value → State → Outcome → State → Prop := fun _ st oc t => oc = .returned (some (.int (zI v))) ∧ t.heap = st.heap
def aw_Pc (D : va_G) (tys : List (ClassId × FieldType)) (ws : va_W) (av : List Value) : Array Value → State → Prop := va_Pc av (fun U => va_P D vwCl ws U.heap ∧ va_K D vwCl tys U)
def aw_RO (l : Launch) (y : MethodName) (wds : List Cond) (rm : Room) (D : va_G) (tys : List (ClassId × FieldType)) (ws : va_W) (av : List Value) (v : Int) : Prop := Met l y wds rm (aw_Pc D tys ws av) (aw_Q v) 0 0 (fun _ => False)
theorem aw_blind {D : va_G} {tys : List (ClassId × FieldType)} {ws : va_W} {av : List Value} : FrameBlind (aw_Pc D tys ws av) := fun a U g mk q => by
  obtain ⟨q1, q2, q3⟩ := q
  exact ⟨q1, q2, va_K.moved (u := U) (U := U.calling g mk a) (Vm.Alike.refl U.vm) q3⟩
section AW
variable {p : Program} {l : Launch} {e : Env} {R : Room} {s : State} {m : MethodId} {args : Array Value} {below : List Frame} {meth : Method} {c : Code} {H : Heap} {locs : List Loc} {cells slots : Nat} {Q : State → Prop}
variable {cc bytes : ByteArray} {pc nL n index maxL : Nat} {ls : Array Slot} {rest As st0 : List Value} {D : va_G} {tys : List (ClassId × FieldType)} {ws : va_W} {y : MethodName} {wds Ts : List Cond} {rm : Room} {v : Int} {own : String} {ret : Option FieldType}
theorem aw_run {args2 : Array Value} (hr : va_Run p l e R s m args below meth c H locs cells slots 0 0 (F0 m pc ls st0) rest (aw_Q v args2) (fun _ => False))
    (kk : W p l e R s m args below meth c H locs cells slots Q (F0 m (pc + 3) ls (.int (zI v) :: rest))) : W p l e R s m args below meth c H locs cells slots Q (F0 m pc ls st0) := by
  intro T hT X
  obtain ⟨v', st₀, t, T', L, h0, X', hL, e1, e2, ⟨hv, hh⟩, st⟩ := hr T hT X
  cases hv
  have hLn : L = [] := List.eq_nil_iff_forall_not_mem.mpr (fun q hq => hL q hq)
  subst hLn
  rw [List.append_nil] at X'
  obtain ⟨t2, a1, b1⟩ := kk T' (by rw [e1, hh, h0]) X'
  exact ⟨t2, st t2 a1, b1⟩
theorem aw_callV {b ci : Nat} {q : vw_C} {fs : List Value} (S : CallFix p m c cc nL s args Ts own) (hM : aw_RO l y wds rm D tys ws (.ref b :: As) v) (cw : CallW R s args own q.1 index y bytes maxL ret wds rm 0 0 n) (hP : va_P D vwCl ws H) (hK : va_K D vwCl tys s) (hc : vwCl[ci]? = some q) (he : ws[0]? = some (b, .inr (ci, fs)))
    (hn : As.length = n) (hsize : ls.size = nL) (hst : st0 = As.reverse ++ .ref b :: rest) (hW : (rest.map fun v => v.category).sum ≤ 8) (hdg : decode cc pc = .ok (.invokevirtual index, 3)) (hcs : cells ≤ R.cells ∧ slots ≤ R.slots)
    (kk : W p l e R s m args below meth c H locs cells slots Q (F0 m (pc + 3) ls (.int (zI v) :: rest))) : W p l e R s m args below meth c H locs cells slots Q (F0 m pc ls st0) :=
  aw_run (va_runV S hM cw ⟨aw_blind, va_recv hK hP hc he, fun U hU hW => ⟨rfl, by rw [hU]; exact hP, va_K.moved hW.alike hK⟩⟩ rfl hn hsize hst (lv_room hW) hdg hcs) kk
theorem aw_callS (S : CallFix p m c cc nL s args Ts own) (hM : aw_RO l y wds rm D tys ws As v) (cw : CallB R s args own index y bytes maxL ret wds rm 0 0 n ∧ (Cond.static y).before args s = true) (hP : va_P D vwCl ws H) (hK : va_K D vwCl tys s)
    (hn : As.length = n) (hsize : ls.size = nL) (hst : st0 = As.reverse ++ rest) (hW : (rest.map fun v => v.category).sum ≤ 8) (hdg : decode cc pc = .ok (.invokestatic index, 3)) (hcs : cells ≤ R.cells ∧ slots ≤ R.slots)
    (kk : W p l e R s m args below meth c H locs cells slots Q (F0 m (pc + 3) ls (.int (zI v) :: rest))) : W p l e R s m args below meth c H locs cells slots Q (F0 m pc ls st0) :=
  aw_run (va_runS S hM cw ⟨aw_blind, fun U hU hW => ⟨rfl, by rw [hU]; exact hP, va_K.moved hW.alike hK⟩⟩ rfl hn hsize hst (lv_room hW) hdg hcs) kk
theorem aw_iret {v w : Int} (hx : p.tables.exec = Jvm.exec) (hb : c.code = cc) (hr : meth.sig.returnType = some .int) (hlocks : meth.locks = false) (hdg : decode cc pc = .ok (.ireturn, 1)) (hvw : w = v) : W p l e R s m args below meth c s.heap [] cells slots (MQ below (aw_Q v) args s cells slots (fun _ => False)) (F0 m pc ls [.int (zI w)]) :=
  W.iret hx hb hr (fun t ht _ => ⟨by rw [hvw], ht⟩) (fun q hq => by cases hq) hdg hlocks
theorem aw_zret {v w : Int} (hx : p.tables.exec = Jvm.exec) (hb : c.code = cc) (hr : meth.sig.returnType = some .boolean) (hlocks : meth.locks = false) (hdg : decode cc pc = .ok (.ireturn, 1)) (h01 : w = 0 ∨ w = 1) (hvw : w = v) : W p l e R s m args below meth c s.heap [] cells slots (MQ below (aw_Q v) args s cells slots (fun _ => False)) (F0 m pc ls [.int (zI w)]) :=
  W.zret hx hb hr (by rcases h01 with rfl | rfl <;> decide) (fun t ht _ => ⟨by rw [hvw], ht⟩) (fun q hq => by cases hq) hdg hlocks
end AW
/-! the cells: the object, its two rows, the law's two rows -/
abbrev aw_T (yZ yI : ClassId) : List (ClassId × FieldType) := [(yZ, .boolean), (yI, .int)]
def aw_b (b : Bool) : Int := if b = true then 1 else 0
def aw_f (ob : Int → Bool) : Nat → Int32 := fun j => zI (aw_b (ob j))
def aw_d (dv : Nat → Int) : Nat → Int32 := fun j => zI (dv j)
abbrev aw_W3 (yZ yI : ClassId) (o oa ba : Nat) (P S K N : Int) (ty px pr : Int32) (w ch : Int) (ob : Int → Bool) (g : Nat → Int32) : va_W := [(o, .inr (0, [.int (zI P), .int (zI S), .int (zI K), .int (zI N), .int ty, .int px, .int pr, .int (zI w), .int (zI ch), .ref oa, .ref ba])), (oa, .inl (yZ, 72, .inl (aw_f ob))), (ba, .inl (yI, 72, .inl g))]
abbrev aw_Dr (yI : ClassId) (da : Nat) (dv : Nat → Int) : Nat × va_E := (da, .inl (yI, 9, .inl (aw_d dv)))
abbrev aw_Mr (yI : ClassId) (pa : Nat) (pf : Nat → Int32) : Nat × va_E := (pa, .inl (yI, 3, .inl pf))
abbrev aw_W5 (yZ yI : ClassId) (o oa ba da pa : Nat) (dv : Nat → Int) (pf : Nat → Int32) (ty px pr : Int32) (ob : Int → Bool) (g : Nat → Int32) : va_W := [(o, .inr (0, [.int (zI (dv 0)), .int (zI (dv 1)), .int (zI (dv 2)), .int (zI (dv 3)), .int ty, .int px, .int pr, .int (zI (dv 7)), .int (zI (dv 8)), .ref oa, .ref ba])), (oa, .inl (yZ, 72, .inl (aw_f ob))), (ba, .inl (yI, 72, .inl g)), aw_Dr yI da dv, aw_Mr yI pa pf]
section AR
variable {p : Program} {l : Launch} {e : Env} {R : Room} {s : State} {m : MethodId} {args : Array Value} {below : List Frame} {meth : Method} {c : Code} {H : Heap} {locs : List Loc} {cells slots : Nat} {Q : State → Prop}
variable {cc : ByteArray} {pc : Nat} {ls : Array Slot} {rest : List Value} {D : va_G} {tys : List (ClassId × FieldType)} {ws : va_W} {yI yZ : ClassId}
/-- a place of the law's row of numbers -/
theorem aw_dld (hx : p.tables.exec = Jvm.exec) (hb : c.code = cc) (hK : va_K D vwCl tys s) (hP : va_P D vwCl ws H) (q0 t0 : Nat) {a : Nat} {dv : Nat → Int} (ha : ws[q0]? = some (a, .inl (yI, 9, .inl (aw_d dv)))) (ht : tys[t0]? = some (yI, .int)) (k : Nat) (hk : k < 9) (hdg : decode cc pc = .ok (.iaload, 1))
    (kk : W p l e R s m args below meth c H locs cells slots Q (F0 m (pc + 1) ls (.int (zI (dv k)) :: rest))) : W p l e R s m args below meth c H locs cells slots Q (F0 m pc ls (.int (zI (k : Int)) :: .ref a :: rest)) :=
  va_iald hx hb hK hP q0 t0 ha ht (zI_in (by omega) (by omega) (by omega)) hdg (by rw [zI_clamp (by omega)]; exact kk)
/-- a place of the row that tells of each coil whether it is interrupted -/
theorem aw_zld (hx : p.tables.exec = Jvm.exec) (hb : c.code = cc) (hK : va_K D vwCl tys s) (hP : va_P D vwCl ws H) (q0 t0 : Nat) {a : Nat} {ob : Int → Bool} (ha : ws[q0]? = some (a, .inl (yZ, 72, .inl (aw_f ob)))) (ht : tys[t0]? = some (yZ, .boolean)) {x : Int} (h0 : 0 ≤ x) (h1 : x < 72) (hdg : decode cc pc = .ok (.baload, 1))
    (kk : W p l e R s m args below meth c H locs cells slots Q (F0 m (pc + 1) ls (.int (zI (aw_b (ob x))) :: rest))) : W p l e R s m args below meth c H locs cells slots Q (F0 m pc ls (.int (zI x) :: .ref a :: rest)) :=
  va_zald hx hb hK hP q0 t0 ha ht (zI_in h0 (by omega) (by omega)) hdg (by rw [zI_clamp (by omega)]; unfold aw_f; rw [show ((x.toNat : Nat) : Int) = x from by omega]; exact kk)
end AR
end
section
/-! what the methods answer, as numbers -/
def aw_In (P S K N w ch : Int) : Prop := 2 ≤ P ∧ P ≤ 8 ∧ P ≤ S ∧ S ≤ 24 ∧ 1 ≤ K ∧ K ≤ 3 ∧ N = S * K ∧ 2 ≤ N ∧ N ≤ 72 ∧ -80 ≤ w ∧ w ≤ 80 ∧ 0 ≤ ch ∧ ch ≤ 5
def aw_sp (P S ch : Int) : Int := if S / P - ch < 1 then 1 else S / P - ch
def aw_lo (P S K ch z : Int) : Int := (z / K + aw_sp P S ch) % S
def aw_sd (P S slot turn : Int) : Int := if (slot + turn) % S * P / S % 2 = 0 then 1 else -1
def aw_vt (P S K ch z turn : Int) : Int := aw_sd P S (z / K) turn - aw_sd P S (aw_lo P S K ch z) turn
def aw_gc (w N : Int) : Int := (Nat.gcd (w % N).toNat N.toNat : Nat)
def aw_ln (w N : Int) : Int := N / aw_gc w N
/-- how many of the first numbers have p -/
def aw_cN (p : Int → Bool) : Nat → Int
  | 0 => 0
  | n + 1 => aw_cN p n + aw_b (p n)
def aw_cn (p : Int → Bool) (z : Int) : Int := aw_cN p z.toNat
/-- all of the first numbers have p -/
def aw_aN (p : Int → Bool) : Nat → Bool
  | 0 => true
  | n + 1 => aw_aN p n && p n
def aw_al (p : Int → Bool) (z : Int) : Bool := aw_aN p z.toNat
def aw_sN (h : Int → Int) : Nat → Int
  | 0 => 0
  | n + 1 => aw_sN h n + h n
def aw_sm (h : Int → Int) (z : Int) : Int := aw_sN h z.toNat
def aw_ci (w N : Int) (ob : Int → Bool) (c : Int) : Int → Bool := fun k => !(ob ((c + k * w) % N))
/-- is circuit c closed -/
def aw_cl (w N : Int) (ob : Int → Bool) (c : Int) : Bool := aw_al (aw_ci w N ob c) (aw_ln w N)
/-- the interrupted coils with a side in a slot -/
def aw_oc (P S K ch : Int) (ob : Int → Bool) (slot : Int) : Int → Bool := fun z => ob z && (z / K == slot || aw_lo P S K ch z == slot)
theorem aw_b_01 (x : Bool) : aw_b x = 0 ∨ aw_b x = 1 := by cases x <;> simp [aw_b]
theorem aw_b_t {x : Bool} (h : x = true) : aw_b x = 1 := by subst h; rfl
theorem aw_b_f {x : Bool} (h : x = false) : aw_b x = 0 := by subst h; rfl
theorem aw_b_eq0 {x : Bool} : aw_b x = 0 ↔ x = false := by cases x <;> simp [aw_b]
theorem aw_b_eq1 {x : Bool} : aw_b x = 1 ↔ x = true := by cases x <;> simp [aw_b]
theorem aw_b_ne0 {x : Bool} : ¬ aw_b x = 0 ↔ x = true := by cases x <;> simp [aw_b]
theorem aw_cn_0 (p : Int → Bool) : aw_cn p 0 = 0 := rfl
theorem aw_cn_s (p : Int → Bool) {z : Int} (h : 0 ≤ z) : aw_cn p (z + 1) = aw_cn p z + aw_b (p z) := by
  unfold aw_cn
  rw [show (z + 1).toNat = z.toNat + 1 from by omega]
  show aw_cN p z.toNat + aw_b (p (z.toNat : Nat)) = _
  rw [show ((z.toNat : Nat) : Int) = z from by omega]
theorem aw_cN_le (p : Int → Bool) (n : Nat) : 0 ≤ aw_cN p n ∧ aw_cN p n ≤ n := by
  induction n with
  | zero => exact ⟨by simp [aw_cN], by simp [aw_cN]⟩
  | succ n ih =>
    have h := aw_b_01 (p n)
    simp only [aw_cN]
    omega
theorem aw_cn_le (p : Int → Bool) {z : Int} (h : 0 ≤ z) : 0 ≤ aw_cn p z ∧ aw_cn p z ≤ z := by
  have := aw_cN_le p z.toNat
  unfold aw_cn
  omega
theorem aw_al_0 (p : Int → Bool) : aw_al p 0 = true := rfl
theorem aw_al_s (p : Int → Bool) {z : Int} (h : 0 ≤ z) : aw_al p (z + 1) = (aw_al p z && p z) := by
  unfold aw_al
  rw [show (z + 1).toNat = z.toNat + 1 from by omega]
  show (aw_aN p z.toNat && p (z.toNat : Nat)) = _
  rw [show ((z.toNat : Nat) : Int) = z from by omega]
theorem aw_aN_f (p : Int → Bool) {k : Nat} (hk : p k = false) : ∀ n : Nat, k < n → aw_aN p n = false := by
  intro n
  induction n with
  | zero => intro h; exact absurd h (Nat.not_lt_zero _)
  | succ n ih =>
    intro h
    simp only [aw_aN]
    by_cases e : k = n
    · subst e; rw [hk, Bool.and_false]
    · rw [ih (by omega), Bool.false_and]
theorem aw_al_f (p : Int → Bool) {k z : Int} (h0 : 0 ≤ k) (hk : k < z) (h : p k = false) : aw_al p z = false :=
  aw_aN_f p (k := k.toNat) (by rw [show ((k.toNat : Nat) : Int) = k from by omega]; exact h) _ (by omega)
theorem aw_sm_0 (h : Int → Int) : aw_sm h 0 = 0 := rfl
theorem aw_sm_s (f : Int → Int) {z : Int} (h : 0 ≤ z) : aw_sm f (z + 1) = aw_sm f z + f z := by
  unfold aw_sm
  rw [show (z + 1).toNat = z.toNat + 1 from by omega]
  show aw_sN f z.toNat + f (z.toNat : Nat) = _
  rw [show ((z.toNat : Nat) : Int) = z from by omega]
/-! numbers within their ranges -/
theorem aw_mod {x n : Int} (h : 0 < n) : 0 ≤ x % n ∧ x % n < n := ⟨Int.emod_nonneg _ (by omega), Int.emod_lt_of_pos _ h⟩
theorem aw_div {x n : Int} (h0 : 0 ≤ x) (h : 0 < n) : 0 ≤ x / n ∧ x / n ≤ x := ⟨Int.ediv_nonneg h0 (by omega), Int.ediv_le_self _ h0⟩
theorem aw_mul {x y a b : Int} (h0 : 0 ≤ x) (h1 : x ≤ a) (h2 : -b ≤ y) (h3 : y ≤ b) : -(a * b) ≤ x * y ∧ x * y ≤ a * b := by
  have hb : 0 ≤ b := by omega
  have e1 : x * b ≤ a * b := Int.mul_le_mul_of_nonneg_right h1 hb
  have e2 : x * y ≤ x * b := Int.mul_le_mul_of_nonneg_left h3 h0
  have e3 : x * (-b) ≤ x * y := Int.mul_le_mul_of_nonneg_left h2 h0
  have e4 : x * (-b) = -(x * b) := Int.mul_neg _ _
  omega
theorem aw_divlt {z S K N : Int} (hN : N = S * K) (hK : 0 < K) (h1 : z < N) : z / K < S := by
  apply Int.ediv_lt_of_lt_mul hK
  rw [← hN]; exact h1
theorem aw_sp_in {P S ch : Int} (hP : 2 ≤ P) (hS : 2 ≤ S) (hch : 0 ≤ ch) : 1 ≤ aw_sp P S ch ∧ aw_sp P S ch ≤ S := by
  have h := aw_div (x := S) (n := P) (by omega) (by omega)
  unfold aw_sp
  split <;> omega
theorem aw_sd_in (P S a b : Int) : aw_sd P S a b = 1 ∨ aw_sd P S a b = -1 := by
  unfold aw_sd; split
  · exact Or.inl rfl
  · exact Or.inr rfl
theorem aw_sd_per (P S a b : Int) : aw_sd P S a (b + S) = aw_sd P S a b := by
  unfold aw_sd
  rw [show a + (b + S) = a + b + S from by omega, Int.add_emod_right]
theorem aw_vt_per (P S K ch z b : Int) : aw_vt P S K ch z (b + S) = aw_vt P S K ch z b := by
  unfold aw_vt
  rw [aw_sd_per, aw_sd_per]
theorem aw_vt_in (P S K ch z b : Int) : -2 ≤ aw_vt P S K ch z b ∧ aw_vt P S K ch z b ≤ 2 := by
  have h1 := aw_sd_in P S (z / K) b
  have h2 := aw_sd_in P S (aw_lo P S K ch z) b
  unfold aw_vt
  omega
/-! circuits -/
theorem aw_gc_in {w N : Int} (hN : 0 < N) : 1 ≤ aw_gc w N ∧ aw_gc w N ≤ N := by
  have h1 : 0 < Nat.gcd (w % N).toNat N.toNat := Nat.gcd_pos_of_pos_right _ (by omega)
  have h2 : Nat.gcd (w % N).toNat N.toNat ≤ N.toNat := Nat.gcd_le_right _ (by omega)
  unfold aw_gc
  omega
theorem aw_gc_N {w N : Int} (hN : 0 < N) : aw_gc w N ∣ N := by
  have h : ((Nat.gcd (w % N).toNat N.toNat : Nat) : Int) ∣ ((N.toNat : Nat) : Int) := Int.natCast_dvd_natCast.mpr (Nat.gcd_dvd_right _ _)
  rwa [show ((N.toNat : Nat) : Int) = N from by omega] at h
theorem aw_gc_w {w N : Int} (hN : 0 < N) : aw_gc w N ∣ w := by
  have hm := aw_mod (x := w) hN
  have h : ((Nat.gcd (w % N).toNat N.toNat : Nat) : Int) ∣ (((w % N).toNat : Nat) : Int) := Int.natCast_dvd_natCast.mpr (Nat.gcd_dvd_left _ _)
  rw [show (((w % N).toNat : Nat) : Int) = w % N from by omega] at h
  have h2 : aw_gc w N ∣ w % N + N * (w / N) := Int.dvd_add h (Int.dvd_trans (aw_gc_N hN) (Int.dvd_mul_right _ _))
  rwa [Int.emod_add_mul_ediv] at h2
theorem aw_ln_eq {w N : Int} (hN : 0 < N) : aw_ln w N * aw_gc w N = N := Int.ediv_mul_cancel (aw_gc_N hN)
theorem aw_ln_in {w N : Int} (hN : 0 < N) : 1 ≤ aw_ln w N ∧ aw_ln w N ≤ N := by
  have h1 := aw_ln_eq (w := w) hN
  have h2 := aw_gc_in (w := w) hN
  have h3 : 0 ≤ aw_ln w N := Int.ediv_nonneg (by omega) (by omega)
  have h4 : aw_ln w N ≠ 0 := by intro h; rw [h, Int.zero_mul] at h1; omega
  have h5 : aw_ln w N ≤ N := Int.ediv_le_self _ (by omega)
  omega
theorem aw_N_ln {w N : Int} (hN : 0 < N) : N / aw_ln w N = aw_gc w N := by
  have h1 := aw_ln_eq (w := w) hN
  have h2 := aw_ln_in (w := w) hN
  have e : N = aw_ln w N * aw_gc w N := h1.symm
  calc N / aw_ln w N = (aw_ln w N * aw_gc w N) / aw_ln w N := by rw [h1]
    _ = aw_gc w N := Int.mul_ediv_cancel_left _ (by omega)
theorem aw_ln_0 {w N : Int} (hN : 0 < N) : aw_ln w N * w % N = 0 := by
  obtain ⟨q, hq⟩ := aw_gc_w (w := w) hN
  have h1 := aw_ln_eq (w := w) hN
  apply Int.emod_eq_zero_of_dvd
  refine ⟨q, ?_⟩
  calc aw_ln w N * w = aw_ln w N * (aw_gc w N * q) := by rw [← hq]
    _ = (aw_ln w N * aw_gc w N) * q := (Int.mul_assoc _ _ _).symm
    _ = N * q := by rw [h1]
/-- no shorter way leads back -/
theorem aw_ln_min {w N j : Int} (hN : 0 < N) (h1 : 1 ≤ j) (h2 : j * w % N = 0) : aw_ln w N ≤ j := by
  have hm := aw_mod (x := w) hN
  have h3 : j * (w % N) % N = 0 := by rw [Int.mul_emod, Int.emod_emod, ← Int.mul_emod]; exact h2
  have d : N ∣ j * (w % N) := Int.dvd_of_emod_eq_zero h3
  obtain ⟨a, ha⟩ : ∃ a : Nat, w % N = a := ⟨(w % N).toNat, by omega⟩
  obtain ⟨n, hn⟩ : ∃ n : Nat, N = n := ⟨N.toNat, by omega⟩
  obtain ⟨k, hk⟩ : ∃ k : Nat, j = k := ⟨j.toNat, by omega⟩
  have hg : aw_gc w N = (Nat.gcd a n : Nat) := by
    unfold aw_gc; rw [ha, hn]; simp
  have hnp : 0 < n := by omega
  have dn : n ∣ k * a := by
    rw [ha, hk, hn] at d
    exact Int.natCast_dvd_natCast.mp (by push_cast; exact d)
  have hgp : 0 < Nat.gcd a n := Nat.gcd_pos_of_pos_right _ hnp
  have c1 : Nat.Coprime (n / Nat.gcd a n) (a / Nat.gcd a n) := Nat.Coprime.symm (Nat.coprime_div_gcd_div_gcd hgp)
  have d2 : n / Nat.gcd a n ∣ k * (a / Nat.gcd a n) := by
    have e1 : a = a / Nat.gcd a n * Nat.gcd a n := (Nat.div_mul_cancel (Nat.gcd_dvd_left _ _)).symm
    have e2 : n = n / Nat.gcd a n * Nat.gcd a n := (Nat.div_mul_cancel (Nat.gcd_dvd_right _ _)).symm
    apply Nat.dvd_of_mul_dvd_mul_right hgp
    rw [← e2, Nat.mul_assoc, ← e1]
    exact dn
  have d3 : n / Nat.gcd a n ∣ k := Nat.Coprime.dvd_of_dvd_mul_right c1 d2
  have hle : n / Nat.gcd a n ≤ k := Nat.le_of_dvd (by omega) d3
  unfold aw_ln
  rw [hg, hn, hk]
  exact_mod_cast hle
theorem aw_ln_no {w N j : Int} (hN : 0 < N) (h1 : 1 ≤ j) (h2 : j < aw_ln w N) : ¬ j * w % N = 0 := fun h => by
  have := aw_ln_min hN h1 h
  omega
/-- the remainder by the number of circuits stays on the way -/
theorem aw_gc_mod {w N c : Int} (hN : 0 < N) (k : Int) : (c + k * w) % N % aw_gc w N = c % aw_gc w N := by
  obtain ⟨q, hq⟩ := aw_gc_w (w := w) hN
  rw [Int.emod_emod_of_dvd _ (aw_gc_N hN)]
  have e : c + k * w = c + aw_gc w N * (k * q) := by
    have : k * w = aw_gc w N * (k * q) := by
      calc k * w = k * (aw_gc w N * q) := by rw [← hq]
        _ = aw_gc w N * (k * q) := Int.mul_left_comm _ _ _
    rw [this]
  rw [e, Int.add_mul_emod_self_left]
theorem aw_tmod {x n : Int} (h : 0 < n) : -n < x.tmod n ∧ x.tmod n < n ∧ (0 ≤ x.tmod n → x.tmod n = x % n) ∧ (x.tmod n < 0 → x.tmod n + n = x % n) := by
  have hm := aw_mod (x := x) h
  rw [Int.tmod_eq_emod]
  split
  · refine ⟨by omega, by omega, fun _ => by omega, fun _ => by omega⟩
  · rename_i hh
    have h0 : x % n ≠ 0 := fun e => hh (Or.inr (Int.dvd_of_emod_eq_zero e))
    refine ⟨by omega, by omega, fun _ => by omega, fun _ => by omega⟩
/-! the voltages of all coils add up to nothing -/
theorem aw_sN_add (f g : Int → Int) (n : Nat) : aw_sN (fun k => f k - g k) n = aw_sN f n - aw_sN g n := by
  induction n with
  | zero => rfl
  | succ n ih => simp only [aw_sN]; omega
theorem aw_sN_congr {f g : Int → Int} {n : Nat} (h : ∀ k : Nat, k < n → f k = g k) : aw_sN f n = aw_sN g n := by
  induction n with
  | zero => rfl
  | succ n ih => simp only [aw_sN]; rw [ih (fun k hk => h k (by omega)), h n (by omega)]
theorem aw_sN_app (f : Int → Int) (a b : Nat) : aw_sN f (a + b) = aw_sN f a + aw_sN (fun k => f (a + k)) b := by
  induction b with
  | zero => simp [aw_sN]
  | succ b ih =>
    rw [show a + (b + 1) = (a + b) + 1 from by omega]
    simp only [aw_sN]
    rw [ih]
    have e : f ((a + b : Nat) : Int) = f ((a : Int) + b) := congrArg f (by omega)
    rw [e]; omega
/-- every number of the outer row counts K times -/
theorem aw_sN_blk (f : Int → Int) (K : Nat) (hK : 0 < K) (S : Nat) : aw_sN (fun z => f (z / K)) (S * K) = K * aw_sN f S := by
  induction S with
  | zero => simp [aw_sN]
  | succ S ih =>
    have e1 : (S + 1) * K = S * K + K := by rw [Nat.add_mul, Nat.one_mul]
    rw [e1, aw_sN_app, ih]
    have hc : ∀ b : Nat, b ≤ K → aw_sN (fun k => f ((((S * K : Nat) : Int) + k) / K)) b = b * f S := by
      intro b
      induction b with
      | zero => intro _; simp [aw_sN]
      | succ b ihb =>
        intro hb
        simp only [aw_sN]
        rw [ihb (by omega)]
        have hd : (((S * K : Nat) : Int) + (b : Int)) / K = S := by
          have e2 : ((S * K : Nat) : Int) + (b : Int) = b + S * (K : Int) := by push_cast; omega
          rw [e2, Int.add_mul_ediv_right _ _ (by omega), Int.ediv_eq_zero_of_lt (by omega) (by omega)]
          omega
        rw [hd]
        have e3 : ((b + 1 : Nat) : Int) * f S = b * f S + f S := by
          push_cast; rw [Int.add_mul, Int.one_mul]
        rw [e3]
    rw [hc K (Nat.le_refl K)]
    simp only [aw_sN]
    rw [Int.mul_add]
/-- a round shifted by one -/
theorem aw_sN_rot (f : Int → Int) (S : Nat) (hS : 0 < S) (q : Nat) : aw_sN (fun k => f ((k + (q + 1 : Nat)) % S)) S = aw_sN (fun k => f ((k + q) % S)) S := by
  obtain ⟨n, rfl⟩ : ∃ n, S = 1 + n := ⟨S - 1, by omega⟩
  have hl : aw_sN (fun k => f ((k + (q + 1 : Nat)) % ((1 + n : Nat) : Int))) (n + 1) = aw_sN (fun k => f ((k + (q + 1 : Nat)) % ((1 + n : Nat) : Int))) n + f (((n : Int) + (q + 1 : Nat)) % ((1 + n : Nat) : Int)) := rfl
  have hr := aw_sN_app (fun k => f ((k + q) % ((1 + n : Nat) : Int))) 1 n
  rw [hr, Nat.add_comm 1 n, ← Nat.add_comm 1 n]
  have e1 : (n : Int) + (q + 1 : Nat) = q + (1 + n : Nat) := by omega
  have hl2 : aw_sN (fun k => f ((k + (q + 1 : Nat)) % ((1 + n : Nat) : Int))) (1 + n) = aw_sN (fun k => f ((k + (q + 1 : Nat)) % ((1 + n : Nat) : Int))) n + f ((q : Int) % ((1 + n : Nat) : Int)) := by
    rw [Nat.add_comm 1 n] at hl ⊢
    rw [hl]
    congr 2
    rw [show (n : Int) + (q + 1 : Nat) = q + (n + 1 : Nat) from by omega, Int.add_emod_right]
  rw [hl2]
  have e2 : aw_sN (fun k => f (((1 : Nat) + k + q) % ((1 + n : Nat) : Int))) n = aw_sN (fun k => f ((k + (q + 1 : Nat)) % ((1 + n : Nat) : Int))) n :=
    aw_sN_congr (fun k _ => by congr 2; omega)
  have e3 : aw_sN (fun k => f ((k + q) % ((1 + n : Nat) : Int))) 1 = f ((q : Int) % ((1 + n : Nat) : Int)) := by
    simp [aw_sN]
  rw [e3]
  have e4 : aw_sN (fun k => (fun k => f ((k + q) % ((1 + n : Nat) : Int))) ((1 : Nat) + k)) n = aw_sN (fun k => f ((k + (q + 1 : Nat)) % ((1 + n : Nat) : Int))) n := e2
  rw [e4]
  omega
theorem aw_sN_rots (f : Int → Int) (S : Nat) (hS : 0 < S) (q : Nat) : aw_sN (fun k => f ((k + q) % S)) S = aw_sN f S := by
  induction q with
  | zero =>
    apply aw_sN_congr
    intro k hk
    congr 1
    rw [show (k : Int) + ((0 : Nat) : Int) = k from by omega]
    exact Int.emod_eq_of_lt (by omega) (by omega)
  | succ q ih => rw [aw_sN_rot f S hS q, ih]
theorem aw_sum0 {P S K N w ch : Int} (hI : aw_In P S K N w ch) (t : Int) : aw_sm (fun z => aw_vt P S K ch z t) N = 0 := by
  obtain ⟨i1, i2, i3, i4, i5, i6, i7, i8, i9, i10, i11, i12, i13⟩ := hI
  have hs := aw_sp_in (P := P) (S := S) (ch := ch) (by omega) (by omega) (by omega)
  obtain ⟨k, rfl⟩ : ∃ k : Nat, K = k := ⟨K.toNat, by omega⟩
  obtain ⟨n, rfl⟩ : ∃ n : Nat, S = n := ⟨S.toNat, by omega⟩
  obtain ⟨q, hq⟩ : ∃ q : Nat, aw_sp P n ch = q := ⟨(aw_sp P n ch).toNat, by omega⟩
  have hN : N.toNat = n * k := by
    have e : ((n * k : Nat) : Int) = (n : Int) * k := by push_cast; rfl
    omega
  unfold aw_sm
  rw [hN]
  have e0 : aw_sN (fun z => aw_vt P n k ch z t) (n * k) = aw_sN (fun z => (fun a => aw_sd P n a t - aw_sd P n ((a + q) % n) t) (z / k)) (n * k) := by
    apply aw_sN_congr
    intro j _
    show aw_vt P n k ch j t = aw_sd P n ((j : Int) / k) t - aw_sd P n (((j : Int) / k + q) % n) t
    unfold aw_vt aw_lo
    rw [hq]
  refine (e0.trans (aw_sN_blk (fun a => aw_sd P n a t - aw_sd P n ((a + q) % n) t) k (by omega) n)).trans ?_
  rw [aw_sN_add (fun a => aw_sd P n a t) (fun a => aw_sd P n ((a + q) % n) t), aw_sN_rots (fun a => aw_sd P n a t) n (by omega) q, Int.sub_self, Int.mul_zero]
end
section
section
variable {l : Launch} {D : va_G} {yZ yI : ClassId} {o oa ba da pa : Nat} {P S K N w ch : Int} {ty px pr : Int32} {ob : Int → Bool} {g pf : Nat → Int32} {dv : Nat → Int}
set_option maxHeartbeats 4000000 in
set_option maxRecDepth 100000 in
/-- wrap(x, n): the remainder that is never negative -/
theorem k_wrap {x n : Int} (hx1 : -1000000 ≤ x ∧ x ≤ 1000000) (hn : 0 < n ∧ n ≤ 1000000) : aw_RO l yX0_wrap wsX0_wrap (aw_rm 0 0) D [] [] [.int (zI x), .int (zI n)] (x % n) := by
  refine Met.ofW (cc := cX0_wrap) (maxL := 3) (ret := (some .int)) (by decide) rfl ?_
  intro p e s m args below meth c s₁ B hml hv
  obtain ⟨rfl, hP, hK⟩ := hv
  have hx := B.exec
  have hb := B.bytes
  have hr := B.returns
  have hts := atoms_spec (ws := wsX0_wrap) B.pre
  have hown : s.vm.findClass RX0 = some m.cls := findClass_of_methodNamed B.named
  have hlocks := B.notSynchronized
  have hl := lv_entry ([.int (zI x), .int (zI n)]) (n := 3) (Nat.le_of_ble_eq_true rfl)
  rw [lg_entry_eq]
  generalize (lg_sl ([.int (zI x), .int (zI n)]) ++ List.replicate (3 - (lg_sl ([.int (zI x), .int (zI n)])).length) Slot.unset).toArray = ls at hl ⊢
  have hl : lv_has ls 3 [(0, .int (zI x)), (1, .int (zI n))] := hl
  refine lv_iload_n hx hb dX0_wrap_0 rfl (lv_at hl 1 rfl) ?_
  refine zb_igt (tgt := 6) hx hb dX0_wrap_1 (by decide) (by omega) (fun c1 => ?_) (fun c1 => absurd c1 (by omega))
  refine lv_iload_n hx hb dX0_wrap_6 rfl (lv_at hl 0 rfl) ?_
  refine lv_iload_n hx hb dX0_wrap_7 rfl (lv_at hl 1 rfl) ?_
  refine zb_trem hx hb dX0_wrap_8 (by omega) (by omega) ?_
  refine zb_nm (fun r e_r => ?_)
  have hr1 := Int.emod_emod_of_dvd x (Int.dvd_refl n)
  have hm := aw_mod (x := x) hn.1
  have hrr : -n < r ∧ r < n ∧ (0 ≤ r → r = x % n) ∧ (r < 0 → r + n = x % n) := by rw [e_r]; exact aw_tmod hn.1
  refine lv_istore_n (lv' := [(2, .int (zI r)), (0, .int (zI x)), (1, .int (zI n))]) hx hb dX0_wrap_9 rfl hl (by decide) rfl (fun ls hl => ?_)
  refine lv_iload_n hx hb dX0_wrap_10 rfl (lv_at hl 0 rfl) ?_
  refine zb_ige (tgt := 20) hx hb dX0_wrap_11 (by decide) (by omega) (fun c11 => ?_) (fun c11 => ?_)
  · skip
    refine lv_iload_n hx hb dX0_wrap_20 rfl (lv_at hl 0 rfl) ?_
    exact aw_iret hx hb hr hlocks dX0_wrap_21 (hrr.2.2.1 (by omega))
  · skip
    refine lv_iload_n hx hb dX0_wrap_14 rfl (lv_at hl 0 rfl) ?_
    refine lv_iload_n hx hb dX0_wrap_15 rfl (lv_at hl 2 rfl) ?_
    refine zb_add hx hb dX0_wrap_16 ?_
    refine lv_goto (tgt := 21) hx hb dX0_wrap_17 (by decide) ?_
    exact aw_iret hx hb hr hlocks dX0_wrap_21 (hrr.2.2.2 (by omega))
set_option maxHeartbeats 4000000 in
set_option maxRecDepth 100000 in
/-- slotPitch() -/
theorem k_slotPitch (hI : aw_In P S K N w ch) : aw_RO l yX0_slotPitch wsX0_slotPitch (aw_rm 0 0) D (aw_T yZ yI) (aw_W3 yZ yI o oa ba P S K N ty px pr w ch ob g) [.ref o] (aw_sp P S ch) := by
  refine Met.ofW (cc := cX0_slotPitch) (maxL := 3) (ret := (some .int)) (by decide) rfl ?_
  intro p e s m args below meth c s₁ B hml hv
  obtain ⟨rfl, hP, hK⟩ := hv
  have hx := B.exec
  have hb := B.bytes
  have hr := B.returns
  have hts := atoms_spec (ws := wsX0_slotPitch) B.pre
  have hown : s.vm.findClass RX0 = some m.cls := findClass_of_methodNamed B.named
  have hlocks := B.notSynchronized
  have hin : ∀ w ∈ wsX00, w ∈ wsX0_slotPitch := fun w h => List.mem_cons_of_mem _ (List.mem_append_right _ h)
  have hf_40 := hts (.fieldLink RX0 40 "ArmatureWinding" "chording" "I") (by decide +kernel)
  have hf_46 := hts (.fieldLink RX0 46 "ArmatureWinding" "poles" "I") (by decide +kernel)
  have hf_49 := hts (.fieldLink RX0 49 "ArmatureWinding" "slots" "I") (by decide +kernel)
  have hl := lv_entry ([.ref o]) (n := 3) (Nat.le_of_ble_eq_true rfl)
  rw [lg_entry_eq]
  generalize (lg_sl ([.ref o]) ++ List.replicate (3 - (lg_sl ([.ref o])).length) Slot.unset).toArray = ls at hl ⊢
  have hl : lv_has ls 3 [(0, .ref o)] := hl
  obtain ⟨i1, i2, i3, i4, i5, i6, i7, i8, i9, i10, i11, i12, i13⟩ := id hI
  have hd := aw_div (x := S) (n := P) (by omega) (by omega)
  refine lv_aload_n hx hb dX0_slotPitch_0 rfl (lv_at hl 0 rfl) ?_
  refine va_get (D := D) (ci := 0) (v := .int (zI P)) (C := RX0) (T := TX0) (N := 11) hx hb hts hin hown hK hP 0 rfl rfl 0 (by decide) hf_46 (fun _ h9 => h9) rfl dX0_slotPitch_1 ?_
  refine zb_ile (tgt := 19) hx hb dX0_slotPitch_4 (by decide) (by omega) (fun c4 => absurd c4 (by omega)) (fun c4 => ?_)
  refine lv_aload_n hx hb dX0_slotPitch_7 rfl (lv_at hl 0 rfl) ?_
  refine va_get (D := D) (ci := 0) (v := .int (zI S)) (C := RX0) (T := TX0) (N := 11) hx hb hts hin hown hK hP 0 rfl rfl 1 (by decide) hf_49 (fun _ h9 => h9) rfl dX0_slotPitch_8 ?_
  refine lv_aload_n hx hb dX0_slotPitch_11 rfl (lv_at hl 0 rfl) ?_
  refine va_get (D := D) (ci := 0) (v := .int (zI P)) (C := RX0) (T := TX0) (N := 11) hx hb hts hin hown hK hP 0 rfl rfl 0 (by decide) hf_46 (fun _ h9 => h9) rfl dX0_slotPitch_12 ?_
  refine zb_div hx hb dX0_slotPitch_15 (by omega) (by omega) ?_
  refine lv_goto (tgt := 20) hx hb dX0_slotPitch_16 (by decide) ?_
  refine lv_istore_n (lv' := [(1, .int (zI (S / P))), (0, .ref o)]) hx hb dX0_slotPitch_20 rfl hl (by decide) rfl (fun ls hl => ?_)
  refine lv_iload_n hx hb dX0_slotPitch_21 rfl (lv_at hl 0 rfl) ?_
  refine lv_aload_n hx hb dX0_slotPitch_22 rfl (lv_at hl 1 rfl) ?_
  refine va_get (D := D) (ci := 0) (v := .int (zI ch)) (C := RX0) (T := TX0) (N := 11) hx hb hts hin hown hK hP 0 rfl rfl 8 (by decide) hf_40 (fun _ h9 => h9) rfl dX0_slotPitch_23 ?_
  refine zb_sub hx hb dX0_slotPitch_26 ?_
  refine lv_istore_n (lv' := [(2, .int (zI ((S / P) - ch))), (1, .int (zI (S / P))), (0, .ref o)]) hx hb dX0_slotPitch_27 rfl hl (by decide) rfl (fun ls hl => ?_)
  refine lv_iload_n hx hb dX0_slotPitch_28 rfl (lv_at hl 0 rfl) ?_
  refine zb_iconst hx hb dX0_slotPitch_29 ?_
  refine zb_cge (tgt := 37) hx hb dX0_slotPitch_30 (by decide) (by omega) (by omega) (fun c30 => ?_) (fun c30 => ?_)
  · skip
    refine lv_iload_n hx hb dX0_slotPitch_37 rfl (lv_at hl 0 rfl) ?_
    exact aw_iret hx hb hr hlocks dX0_slotPitch_38 (by unfold aw_sp; rw [if_neg (by omega)])
  · skip
    refine zb_iconst hx hb dX0_slotPitch_33 ?_
    refine lv_goto (tgt := 38) hx hb dX0_slotPitch_34 (by decide) ?_
    exact aw_iret hx hb hr hlocks dX0_slotPitch_38 (by unfold aw_sp; rw [if_pos (by omega)])
set_option maxHeartbeats 4000000 in
set_option maxRecDepth 100000 in
/-- coilCount() -/
theorem k_coilCount  : aw_RO l yX0_coilCount wsX0_coilCount (aw_rm 0 0) D (aw_T yZ yI) (aw_W3 yZ yI o oa ba P S K N ty px pr w ch ob g) [.ref o] (N) := by
  refine Met.ofW (cc := cX0_coilCount) (maxL := 1) (ret := (some .int)) (by decide) rfl ?_
  intro p e s m args below meth c s₁ B hml hv
  obtain ⟨rfl, hP, hK⟩ := hv
  have hx := B.exec
  have hb := B.bytes
  have hr := B.returns
  have hts := atoms_spec (ws := wsX0_coilCount) B.pre
  have hown : s.vm.findClass RX0 = some m.cls := findClass_of_methodNamed B.named
  have hlocks := B.notSynchronized
  have hin : ∀ w ∈ wsX00, w ∈ wsX0_coilCount := fun w h => List.mem_cons_of_mem _ (List.mem_append_right _ h)
  have hf_21 := hts (.fieldLink RX0 21 "ArmatureWinding" "coils" "I") (by decide +kernel)
  have hl := lv_entry ([.ref o]) (n := 1) (Nat.le_of_ble_eq_true rfl)
  rw [lg_entry_eq]
  generalize (lg_sl ([.ref o]) ++ List.replicate (1 - (lg_sl ([.ref o])).length) Slot.unset).toArray = ls at hl ⊢
  have hl : lv_has ls 1 [(0, .ref o)] := hl
  refine lv_aload_n hx hb dX0_coilCount_0 rfl (lv_at hl 0 rfl) ?_
  refine va_get (D := D) (ci := 0) (v := .int (zI N)) (C := RX0) (T := TX0) (N := 11) hx hb hts hin hown hK hP 0 rfl rfl 3 (by decide) hf_21 (fun _ h9 => h9) rfl dX0_coilCount_1 ?_
  exact aw_iret hx hb hr hlocks dX0_coilCount_4 (by first | rfl | omega)
set_option maxHeartbeats 4000000 in
set_option maxRecDepth 100000 in
/-- endBar(z) -/
theorem k_endBar (hI : aw_In P S K N w ch) {z : Int} (hz : 0 ≤ z ∧ z < N) : aw_RO l yX0_endBar wsX0_endBar (aw_rm 1 22) D (aw_T yZ yI) (aw_W3 yZ yI o oa ba P S K N ty px pr w ch ob g) [.ref o, .int (zI z)] ((z + w) % N) := by
  refine Met.ofW (cc := cX0_endBar) (maxL := 2) (ret := (some .int)) (by decide) rfl ?_
  intro p e s m args below meth c s₁ B hml hv
  obtain ⟨rfl, hP, hK⟩ := hv
  have hx := B.exec
  have hb := B.bytes
  have hr := B.returns
  have hts := atoms_spec (ws := wsX0_endBar) B.pre
  have hown : s.vm.findClass RX0 = some m.cls := findClass_of_methodNamed B.named
  have hlocks := B.notSynchronized
  have hin : ∀ w ∈ wsX00, w ∈ wsX0_endBar := fun w h => List.mem_cons_of_mem _ (List.mem_append_right _ h)
  have hf_21 := hts (.fieldLink RX0 21 "ArmatureWinding" "coils" "I") (by decide +kernel)
  have hf_37 := hts (.fieldLink RX0 37 "ArmatureWinding" "pitch" "I") (by decide +kernel)
  have hl := lv_entry ([.ref o, .int (zI z)]) (n := 2) (Nat.le_of_ble_eq_true rfl)
  rw [lg_entry_eq]
  generalize (lg_sl ([.ref o, .int (zI z)]) ++ List.replicate (2 - (lg_sl ([.ref o, .int (zI z)])).length) Slot.unset).toArray = ls at hl ⊢
  have hl : lv_has ls 2 [(0, .ref o), (1, .int (zI z))] := hl
  obtain ⟨i1, i2, i3, i4, i5, i6, i7, i8, i9, i10, i11, i12, i13⟩ := id hI
  refine lv_iload_n hx hb dX0_endBar_0 rfl (lv_at hl 1 rfl) ?_
  refine zb_ilt (tgt := 12) hx hb dX0_endBar_1 (by decide) (by omega) (fun c1 => absurd c1 (by omega)) (fun c1 => ?_)
  refine lv_iload_n hx hb dX0_endBar_4 rfl (lv_at hl 1 rfl) ?_
  refine lv_aload_n hx hb dX0_endBar_5 rfl (lv_at hl 0 rfl) ?_
  refine va_get (D := D) (ci := 0) (v := .int (zI N)) (C := RX0) (T := TX0) (N := 11) hx hb hts hin hown hK hP 0 rfl rfl 3 (by decide) hf_21 (fun _ h9 => h9) rfl dX0_endBar_6 ?_
  refine zb_clt (tgt := 16) hx hb dX0_endBar_9 (by decide) (by omega) (by omega) (fun c9 => ?_) (fun c9 => absurd c9 (by omega))
  refine lv_iload_n hx hb dX0_endBar_16 rfl (lv_at hl 1 rfl) ?_
  refine lv_aload_n hx hb dX0_endBar_17 rfl (lv_at hl 0 rfl) ?_
  refine va_get (D := D) (ci := 0) (v := .int (zI w)) (C := RX0) (T := TX0) (N := 11) hx hb hts hin hown hK hP 0 rfl rfl 7 (by decide) hf_37 (fun _ h9 => h9) rfl dX0_endBar_18 ?_
  refine zb_add hx hb dX0_endBar_21 ?_
  refine lv_aload_n hx hb dX0_endBar_22 rfl (lv_at hl 0 rfl) ?_
  refine va_get (D := D) (ci := 0) (v := .int (zI N)) (C := RX0) (T := TX0) (N := 11) hx hb hts hin hown hK hP 0 rfl rfl 3 (by decide) hf_21 (fun _ h9 => h9) rfl dX0_endBar_23 ?_
  refine aw_callS (As := [.int (zI (z + w)), .int (zI N)]) (rest := []) ⟨hx, hb, hml, hown, hts⟩ (k_wrap (x := z + w) (n := N) ⟨by omega, by omega⟩ ⟨by omega, by omega⟩) (va_cwS 2 hts gX0_endBar_X0_wrap rfl rfl rfl (by decide +kernel) ⟨Nat.le_of_ble_eq_true rfl, Nat.le_of_ble_eq_true rfl⟩) (hP.sub (ws' := []) [] rfl) (hK.sub (tys' := []) [] rfl) rfl hl.1 rfl (Nat.le_of_ble_eq_true rfl) dX0_endBar_26 ⟨Nat.zero_le _, Nat.zero_le _⟩ ?_
  exact aw_iret hx hb hr hlocks dX0_endBar_29 (by first | rfl | omega)
set_option maxHeartbeats 4000000 in
set_option maxRecDepth 100000 in
/-- endBar(z), no such coil -/
theorem k_endBar_no (hI : aw_In P S K N w ch) {z : Int} (hz : -1000 ≤ z ∧ z ≤ 1000) (hz2 : z < 0 ∨ N ≤ z) : aw_RO l yX0_endBar wsX0_endBar (aw_rm 1 22) D (aw_T yZ yI) (aw_W3 yZ yI o oa ba P S K N ty px pr w ch ob g) [.ref o, .int (zI z)] (-1002) := by
  refine Met.ofW (cc := cX0_endBar) (maxL := 2) (ret := (some .int)) (by decide) rfl ?_
  intro p e s m args below meth c s₁ B hml hv
  obtain ⟨rfl, hP, hK⟩ := hv
  have hx := B.exec
  have hb := B.bytes
  have hr := B.returns
  have hts := atoms_spec (ws := wsX0_endBar) B.pre
  have hown : s.vm.findClass RX0 = some m.cls := findClass_of_methodNamed B.named
  have hlocks := B.notSynchronized
  have hin : ∀ w ∈ wsX00, w ∈ wsX0_endBar := fun w h => List.mem_cons_of_mem _ (List.mem_append_right _ h)
  have hf_21 := hts (.fieldLink RX0 21 "ArmatureWinding" "coils" "I") (by decide +kernel)
  have hf_37 := hts (.fieldLink RX0 37 "ArmatureWinding" "pitch" "I") (by decide +kernel)
  have hl := lv_entry ([.ref o, .int (zI z)]) (n := 2) (Nat.le_of_ble_eq_true rfl)
  rw [lg_entry_eq]
  generalize (lg_sl ([.ref o, .int (zI z)]) ++ List.replicate (2 - (lg_sl ([.ref o, .int (zI z)])).length) Slot.unset).toArray = ls at hl ⊢
  have hl : lv_has ls 2 [(0, .ref o), (1, .int (zI z))] := hl
  obtain ⟨i1, i2, i3, i4, i5, i6, i7, i8, i9, i10, i11, i12, i13⟩ := id hI
  refine lv_iload_n hx hb dX0_endBar_0 rfl (lv_at hl 1 rfl) ?_
  refine zb_ilt (tgt := 12) hx hb dX0_endBar_1 (by decide) (by omega) (fun c1 => ?_) (fun c1 => ?_)
  · skip
    refine zb_sipush hx hb dX0_endBar_12 (by decide) ?_
    exact aw_iret hx hb hr hlocks dX0_endBar_15 (by first | rfl | omega)
  · skip
    refine lv_iload_n hx hb dX0_endBar_4 rfl (lv_at hl 1 rfl) ?_
    refine lv_aload_n hx hb dX0_endBar_5 rfl (lv_at hl 0 rfl) ?_
    refine va_get (D := D) (ci := 0) (v := .int (zI N)) (C := RX0) (T := TX0) (N := 11) hx hb hts hin hown hK hP 0 rfl rfl 3 (by decide) hf_21 (fun _ h9 => h9) rfl dX0_endBar_6 ?_
    refine zb_clt (tgt := 16) hx hb dX0_endBar_9 (by decide) (by omega) (by omega) (fun c9 => absurd c9 (by omega)) (fun c9 => ?_)
    refine zb_sipush hx hb dX0_endBar_12 (by decide) ?_
    exact aw_iret hx hb hr hlocks dX0_endBar_15 (by first | rfl | omega)
set_option maxHeartbeats 4000000 in
set_option maxRecDepth 100000 in
/-- coilEndingAt(z) -/
theorem k_coilEndingAt (hI : aw_In P S K N w ch) {z : Int} (hz : 0 ≤ z ∧ z < N) : aw_RO l yX0_coilEndingAt wsX0_coilEndingAt (aw_rm 1 22) D (aw_T yZ yI) (aw_W3 yZ yI o oa ba P S K N ty px pr w ch ob g) [.ref o, .int (zI z)] ((z - w) % N) := by
  refine Met.ofW (cc := cX0_coilEndingAt) (maxL := 2) (ret := (some .int)) (by decide) rfl ?_
  intro p e s m args below meth c s₁ B hml hv
  obtain ⟨rfl, hP, hK⟩ := hv
  have hx := B.exec
  have hb := B.bytes
  have hr := B.returns
  have hts := atoms_spec (ws := wsX0_coilEndingAt) B.pre
  have hown : s.vm.findClass RX0 = some m.cls := findClass_of_methodNamed B.named
  have hlocks := B.notSynchronized
  have hin : ∀ w ∈ wsX00, w ∈ wsX0_coilEndingAt := fun w h => List.mem_cons_of_mem _ (List.mem_append_right _ h)
  have hf_21 := hts (.fieldLink RX0 21 "ArmatureWinding" "coils" "I") (by decide +kernel)
  have hf_37 := hts (.fieldLink RX0 37 "ArmatureWinding" "pitch" "I") (by decide +kernel)
  have hl := lv_entry ([.ref o, .int (zI z)]) (n := 2) (Nat.le_of_ble_eq_true rfl)
  rw [lg_entry_eq]
  generalize (lg_sl ([.ref o, .int (zI z)]) ++ List.replicate (2 - (lg_sl ([.ref o, .int (zI z)])).length) Slot.unset).toArray = ls at hl ⊢
  have hl : lv_has ls 2 [(0, .ref o), (1, .int (zI z))] := hl
  obtain ⟨i1, i2, i3, i4, i5, i6, i7, i8, i9, i10, i11, i12, i13⟩ := id hI
  refine lv_iload_n hx hb dX0_coilEndingAt_0 rfl (lv_at hl 1 rfl) ?_
  refine zb_ilt (tgt := 12) hx hb dX0_coilEndingAt_1 (by decide) (by omega) (fun c1 => absurd c1 (by omega)) (fun c1 => ?_)
  refine lv_iload_n hx hb dX0_coilEndingAt_4 rfl (lv_at hl 1 rfl) ?_
  refine lv_aload_n hx hb dX0_coilEndingAt_5 rfl (lv_at hl 0 rfl) ?_
  refine va_get (D := D) (ci := 0) (v := .int (zI N)) (C := RX0) (T := TX0) (N := 11) hx hb hts hin hown hK hP 0 rfl rfl 3 (by decide) hf_21 (fun _ h9 => h9) rfl dX0_coilEndingAt_6 ?_
  refine zb_clt (tgt := 16) hx hb dX0_coilEndingAt_9 (by decide) (by omega) (by omega) (fun c9 => ?_) (fun c9 => absurd c9 (by omega))
  refine lv_iload_n hx hb dX0_coilEndingAt_16 rfl (lv_at hl 1 rfl) ?_
  refine lv_aload_n hx hb dX0_coilEndingAt_17 rfl (lv_at hl 0 rfl) ?_
  refine va_get (D := D) (ci := 0) (v := .int (zI w)) (C := RX0) (T := TX0) (N := 11) hx hb hts hin hown hK hP 0 rfl rfl 7 (by decide) hf_37 (fun _ h9 => h9) rfl dX0_coilEndingAt_18 ?_
  refine zb_sub hx hb dX0_coilEndingAt_21 ?_
  refine lv_aload_n hx hb dX0_coilEndingAt_22 rfl (lv_at hl 0 rfl) ?_
  refine va_get (D := D) (ci := 0) (v := .int (zI N)) (C := RX0) (T := TX0) (N := 11) hx hb hts hin hown hK hP 0 rfl rfl 3 (by decide) hf_21 (fun _ h9 => h9) rfl dX0_coilEndingAt_23 ?_
  refine aw_callS (As := [.int (zI (z - w)), .int (zI N)]) (rest := []) ⟨hx, hb, hml, hown, hts⟩ (k_wrap (x := z - w) (n := N) ⟨by omega, by omega⟩ ⟨by omega, by omega⟩) (va_cwS 2 hts gX0_coilEndingAt_X0_wrap rfl rfl rfl (by decide +kernel) ⟨Nat.le_of_ble_eq_true rfl, Nat.le_of_ble_eq_true rfl⟩) (hP.sub (ws' := []) [] rfl) (hK.sub (tys' := []) [] rfl) rfl hl.1 rfl (Nat.le_of_ble_eq_true rfl) dX0_coilEndingAt_26 ⟨Nat.zero_le _, Nat.zero_le _⟩ ?_
  exact aw_iret hx hb hr hlocks dX0_coilEndingAt_29 (by first | rfl | omega)
set_option maxHeartbeats 4000000 in
set_option maxRecDepth 100000 in
/-- coilEndingAt(z), no such coil -/
theorem k_coilEndingAt_no (hI : aw_In P S K N w ch) {z : Int} (hz : -1000 ≤ z ∧ z ≤ 1000) (hz2 : z < 0 ∨ N ≤ z) : aw_RO l yX0_coilEndingAt wsX0_coilEndingAt (aw_rm 1 22) D (aw_T yZ yI) (aw_W3 yZ yI o oa ba P S K N ty px pr w ch ob g) [.ref o, .int (zI z)] (-1002) := by
  refine Met.ofW (cc := cX0_coilEndingAt) (maxL := 2) (ret := (some .int)) (by decide) rfl ?_
  intro p e s m args below meth c s₁ B hml hv
  obtain ⟨rfl, hP, hK⟩ := hv
  have hx := B.exec
  have hb := B.bytes
  have hr := B.returns
  have hts := atoms_spec (ws := wsX0_coilEndingAt) B.pre
  have hown : s.vm.findClass RX0 = some m.cls := findClass_of_methodNamed B.named
  have hlocks := B.notSynchronized
  have hin : ∀ w ∈ wsX00, w ∈ wsX0_coilEndingAt := fun w h => List.mem_cons_of_mem _ (List.mem_append_right _ h)
  have hf_21 := hts (.fieldLink RX0 21 "ArmatureWinding" "coils" "I") (by decide +kernel)
  have hf_37 := hts (.fieldLink RX0 37 "ArmatureWinding" "pitch" "I") (by decide +kernel)
  have hl := lv_entry ([.ref o, .int (zI z)]) (n := 2) (Nat.le_of_ble_eq_true rfl)
  rw [lg_entry_eq]
  generalize (lg_sl ([.ref o, .int (zI z)]) ++ List.replicate (2 - (lg_sl ([.ref o, .int (zI z)])).length) Slot.unset).toArray = ls at hl ⊢
  have hl : lv_has ls 2 [(0, .ref o), (1, .int (zI z))] := hl
  obtain ⟨i1, i2, i3, i4, i5, i6, i7, i8, i9, i10, i11, i12, i13⟩ := id hI
  refine lv_iload_n hx hb dX0_coilEndingAt_0 rfl (lv_at hl 1 rfl) ?_
  refine zb_ilt (tgt := 12) hx hb dX0_coilEndingAt_1 (by decide) (by omega) (fun c1 => ?_) (fun c1 => ?_)
  · skip
    refine zb_sipush hx hb dX0_coilEndingAt_12 (by decide) ?_
    exact aw_iret hx hb hr hlocks dX0_coilEndingAt_15 (by first | rfl | omega)
  · skip
    refine lv_iload_n hx hb dX0_coilEndingAt_4 rfl (lv_at hl 1 rfl) ?_
    refine lv_aload_n hx hb dX0_coilEndingAt_5 rfl (lv_at hl 0 rfl) ?_
    refine va_get (D := D) (ci := 0) (v := .int (zI N)) (C := RX0) (T := TX0) (N := 11) hx hb hts hin hown hK hP 0 rfl rfl 3 (by decide) hf_21 (fun _ h9 => h9) rfl dX0_coilEndingAt_6 ?_
    refine zb_clt (tgt := 16) hx hb dX0_coilEndingAt_9 (by decide) (by omega) (by omega) (fun c9 => absurd c9 (by omega)) (fun c9 => ?_)
    refine zb_sipush hx hb dX0_coilEndingAt_12 (by decide) ?_
    exact aw_iret hx hb hr hlocks dX0_coilEndingAt_15 (by first | rfl | omega)
set_option maxHeartbeats 4000000 in
set_option maxRecDepth 100000 in
/-- upperSlot(z) -/
theorem k_upperSlot (hI : aw_In P S K N w ch) {z : Int} (hz : 0 ≤ z ∧ z < N) : aw_RO l yX0_upperSlot wsX0_upperSlot (aw_rm 0 0) D (aw_T yZ yI) (aw_W3 yZ yI o oa ba P S K N ty px pr w ch ob g) [.ref o, .int (zI z)] (z / K) := by
  refine Met.ofW (cc := cX0_upperSlot) (maxL := 2) (ret := (some .int)) (by decide) rfl ?_
  intro p e s m args below meth c s₁ B hml hv
  obtain ⟨rfl, hP, hK⟩ := hv
  have hx := B.exec
  have hb := B.bytes
  have hr := B.returns
  have hts := atoms_spec (ws := wsX0_upperSlot) B.pre
  have hown : s.vm.findClass RX0 = some m.cls := findClass_of_methodNamed B.named
  have hlocks := B.notSynchronized
  have hin : ∀ w ∈ wsX00, w ∈ wsX0_upperSlot := fun w h => List.mem_cons_of_mem _ (List.mem_append_right _ h)
  have hf_21 := hts (.fieldLink RX0 21 "ArmatureWinding" "coils" "I") (by decide +kernel)
  have hf_52 := hts (.fieldLink RX0 52 "ArmatureWinding" "coilsPerSlot" "I") (by decide +kernel)
  have hl := lv_entry ([.ref o, .int (zI z)]) (n := 2) (Nat.le_of_ble_eq_true rfl)
  rw [lg_entry_eq]
  generalize (lg_sl ([.ref o, .int (zI z)]) ++ List.replicate (2 - (lg_sl ([.ref o, .int (zI z)])).length) Slot.unset).toArray = ls at hl ⊢
  have hl : lv_has ls 2 [(0, .ref o), (1, .int (zI z))] := hl
  obtain ⟨i1, i2, i3, i4, i5, i6, i7, i8, i9, i10, i11, i12, i13⟩ := id hI
  refine lv_iload_n hx hb dX0_upperSlot_0 rfl (lv_at hl 1 rfl) ?_
  refine zb_ilt (tgt := 19) hx hb dX0_upperSlot_1 (by decide) (by omega) (fun c1 => absurd c1 (by omega)) (fun c1 => ?_)
  refine lv_iload_n hx hb dX0_upperSlot_4 rfl (lv_at hl 1 rfl) ?_
  refine lv_aload_n hx hb dX0_upperSlot_5 rfl (lv_at hl 0 rfl) ?_
  refine va_get (D := D) (ci := 0) (v := .int (zI N)) (C := RX0) (T := TX0) (N := 11) hx hb hts hin hown hK hP 0 rfl rfl 3 (by decide) hf_21 (fun _ h9 => h9) rfl dX0_upperSlot_6 ?_
  refine zb_cge (tgt := 19) hx hb dX0_upperSlot_9 (by decide) (by omega) (by omega) (fun c9 => absurd c9 (by omega)) (fun c9 => ?_)
  refine lv_aload_n hx hb dX0_upperSlot_12 rfl (lv_at hl 0 rfl) ?_
  refine va_get (D := D) (ci := 0) (v := .int (zI K)) (C := RX0) (T := TX0) (N := 11) hx hb hts hin hown hK hP 0 rfl rfl 2 (by decide) hf_52 (fun _ h9 => h9) rfl dX0_upperSlot_13 ?_
  refine zb_igt (tgt := 23) hx hb dX0_upperSlot_16 (by decide) (by omega) (fun c16 => ?_) (fun c16 => absurd c16 (by omega))
  refine lv_iload_n hx hb dX0_upperSlot_23 rfl (lv_at hl 1 rfl) ?_
  refine lv_aload_n hx hb dX0_upperSlot_24 rfl (lv_at hl 0 rfl) ?_
  refine va_get (D := D) (ci := 0) (v := .int (zI K)) (C := RX0) (T := TX0) (N := 11) hx hb hts hin hown hK hP 0 rfl rfl 2 (by decide) hf_52 (fun _ h9 => h9) rfl dX0_upperSlot_25 ?_
  refine zb_div hx hb dX0_upperSlot_28 (by omega) (by omega) ?_
  exact aw_iret hx hb hr hlocks dX0_upperSlot_29 (by first | rfl | omega)
set_option maxHeartbeats 4000000 in
set_option maxRecDepth 100000 in
/-- upperSlot(z), no such coil -/
theorem k_upperSlot_no (hI : aw_In P S K N w ch) {z : Int} (hz : -1000 ≤ z ∧ z ≤ 1000) (hz2 : z < 0 ∨ N ≤ z) : aw_RO l yX0_upperSlot wsX0_upperSlot (aw_rm 0 0) D (aw_T yZ yI) (aw_W3 yZ yI o oa ba P S K N ty px pr w ch ob g) [.ref o, .int (zI z)] (-1002) := by
  refine Met.ofW (cc := cX0_upperSlot) (maxL := 2) (ret := (some .int)) (by decide) rfl ?_
  intro p e s m args below meth c s₁ B hml hv
  obtain ⟨rfl, hP, hK⟩ := hv
  have hx := B.exec
  have hb := B.bytes
  have hr := B.returns
  have hts := atoms_spec (ws := wsX0_upperSlot) B.pre
  have hown : s.vm.findClass RX0 = some m.cls := findClass_of_methodNamed B.named
  have hlocks := B.notSynchronized
  have hin : ∀ w ∈ wsX00, w ∈ wsX0_upperSlot := fun w h => List.mem_cons_of_mem _ (List.mem_append_right _ h)
  have hf_21 := hts (.fieldLink RX0 21 "ArmatureWinding" "coils" "I") (by decide +kernel)
  have hf_52 := hts (.fieldLink RX0 52 "ArmatureWinding" "coilsPerSlot" "I") (by decide +kernel)
  have hl := lv_entry ([.ref o, .int (zI z)]) (n := 2) (Nat.le_of_ble_eq_true rfl)
  rw [lg_entry_eq]
  generalize (lg_sl ([.ref o, .int (zI z)]) ++ List.replicate (2 - (lg_sl ([.ref o, .int (zI z)])).length) Slot.unset).toArray = ls at hl ⊢
  have hl : lv_has ls 2 [(0, .ref o), (1, .int (zI z))] := hl
  obtain ⟨i1, i2, i3, i4, i5, i6, i7, i8, i9, i10, i11, i12, i13⟩ := id hI
  refine lv_iload_n hx hb dX0_upperSlot_0 rfl (lv_at hl 1 rfl) ?_
  refine zb_ilt (tgt := 19) hx hb dX0_upperSlot_1 (by decide) (by omega) (fun c1 => ?_) (fun c1 => ?_)
  · skip
    refine zb_sipush hx hb dX0_upperSlot_19 (by decide) ?_
    exact aw_iret hx hb hr hlocks dX0_upperSlot_22 (by first | rfl | omega)
  · skip
    refine lv_iload_n hx hb dX0_upperSlot_4 rfl (lv_at hl 1 rfl) ?_
    refine lv_aload_n hx hb dX0_upperSlot_5 rfl (lv_at hl 0 rfl) ?_
    refine va_get (D := D) (ci := 0) (v := .int (zI N)) (C := RX0) (T := TX0) (N := 11) hx hb hts hin hown hK hP 0 rfl rfl 3 (by decide) hf_21 (fun _ h9 => h9) rfl dX0_upperSlot_6 ?_
    refine zb_cge (tgt := 19) hx hb dX0_upperSlot_9 (by decide) (by omega) (by omega) (fun c9 => ?_) (fun c9 => absurd c9 (by omega))
    refine zb_sipush hx hb dX0_upperSlot_19 (by decide) ?_
    exact aw_iret hx hb hr hlocks dX0_upperSlot_22 (by first | rfl | omega)
set_option maxHeartbeats 4000000 in
set_option maxRecDepth 100000 in
/-- lowerSlot(z) -/
theorem k_lowerSlot (hI : aw_In P S K N w ch) {z : Int} (hz : 0 ≤ z ∧ z < N) : aw_RO l yX0_lowerSlot wsX0_lowerSlot (aw_rm 1 22) D (aw_T yZ yI) (aw_W3 yZ yI o oa ba P S K N ty px pr w ch ob g) [.ref o, .int (zI z)] (aw_lo P S K ch z) := by
  refine Met.ofW (cc := cX0_lowerSlot) (maxL := 2) (ret := (some .int)) (by decide) rfl ?_
  intro p e s m args below meth c s₁ B hml hv
  obtain ⟨rfl, hP, hK⟩ := hv
  have hx := B.exec
  have hb := B.bytes
  have hr := B.returns
  have hts := atoms_spec (ws := wsX0_lowerSlot) B.pre
  have hown : s.vm.findClass RX0 = some m.cls := findClass_of_methodNamed B.named
  have hlocks := B.notSynchronized
  have hin : ∀ w ∈ wsX00, w ∈ wsX0_lowerSlot := fun w h => List.mem_cons_of_mem _ (List.mem_append_right _ h)
  have hf_21 := hts (.fieldLink RX0 21 "ArmatureWinding" "coils" "I") (by decide +kernel)
  have hf_49 := hts (.fieldLink RX0 49 "ArmatureWinding" "slots" "I") (by decide +kernel)
  have hl := lv_entry ([.ref o, .int (zI z)]) (n := 2) (Nat.le_of_ble_eq_true rfl)
  rw [lg_entry_eq]
  generalize (lg_sl ([.ref o, .int (zI z)]) ++ List.replicate (2 - (lg_sl ([.ref o, .int (zI z)])).length) Slot.unset).toArray = ls at hl ⊢
  have hl : lv_has ls 2 [(0, .ref o), (1, .int (zI z))] := hl
  obtain ⟨i1, i2, i3, i4, i5, i6, i7, i8, i9, i10, i11, i12, i13⟩ := id hI
  have hq := aw_div (x := z) (n := K) (by omega) (by omega)
  have hs := aw_sp_in (P := P) (S := S) (ch := ch) (by omega) (by omega) (by omega)
  refine lv_iload_n hx hb dX0_lowerSlot_0 rfl (lv_at hl 1 rfl) ?_
  refine zb_ilt (tgt := 12) hx hb dX0_lowerSlot_1 (by decide) (by omega) (fun c1 => absurd c1 (by omega)) (fun c1 => ?_)
  refine lv_iload_n hx hb dX0_lowerSlot_4 rfl (lv_at hl 1 rfl) ?_
  refine lv_aload_n hx hb dX0_lowerSlot_5 rfl (lv_at hl 0 rfl) ?_
  refine va_get (D := D) (ci := 0) (v := .int (zI N)) (C := RX0) (T := TX0) (N := 11) hx hb hts hin hown hK hP 0 rfl rfl 3 (by decide) hf_21 (fun _ h9 => h9) rfl dX0_lowerSlot_6 ?_
  refine zb_clt (tgt := 16) hx hb dX0_lowerSlot_9 (by decide) (by omega) (by omega) (fun c9 => ?_) (fun c9 => absurd c9 (by omega))
  refine lv_aload_n hx hb dX0_lowerSlot_16 rfl (lv_at hl 0 rfl) ?_
  refine lv_iload_n hx hb dX0_lowerSlot_17 rfl (lv_at hl 1 rfl) ?_
  refine aw_callV (As := [.int (zI z)]) (rest := []) ⟨hx, hb, hml, hown, hts⟩ (k_upperSlot hI hz) (cwV 1 hts gX0_lowerSlot_X0_upperSlot rfl rfl rfl (by decide +kernel) ⟨Nat.le_of_ble_eq_true rfl, Nat.le_of_ble_eq_true rfl⟩) hP hK rfl rfl rfl hl.1 rfl (Nat.le_of_ble_eq_true rfl) dX0_lowerSlot_18 ⟨Nat.zero_le _, Nat.zero_le _⟩ ?_
  refine lv_aload_n hx hb dX0_lowerSlot_21 rfl (lv_at hl 0 rfl) ?_
  refine aw_callV (As := []) (rest := [.int (zI (z / K))]) ⟨hx, hb, hml, hown, hts⟩ (k_slotPitch hI) (cwV 0 hts gX0_lowerSlot_X0_slotPitch rfl rfl rfl (by decide +kernel) ⟨Nat.le_of_ble_eq_true rfl, Nat.le_of_ble_eq_true rfl⟩) hP hK rfl rfl rfl hl.1 rfl (Nat.le_of_ble_eq_true rfl) dX0_lowerSlot_22 ⟨Nat.zero_le _, Nat.zero_le _⟩ ?_
  refine zb_add hx hb dX0_lowerSlot_25 ?_
  refine lv_aload_n hx hb dX0_lowerSlot_26 rfl (lv_at hl 0 rfl) ?_
  refine va_get (D := D) (ci := 0) (v := .int (zI S)) (C := RX0) (T := TX0) (N := 11) hx hb hts hin hown hK hP 0 rfl rfl 1 (by decide) hf_49 (fun _ h9 => h9) rfl dX0_lowerSlot_27 ?_
  refine aw_callS (As := [.int (zI ((z / K) + (aw_sp P S ch))), .int (zI S)]) (rest := []) ⟨hx, hb, hml, hown, hts⟩ (k_wrap (x := z / K + aw_sp P S ch) (n := S) ⟨by omega, by omega⟩ ⟨by omega, by omega⟩) (va_cwS 2 hts gX0_lowerSlot_X0_wrap rfl rfl rfl (by decide +kernel) ⟨Nat.le_of_ble_eq_true rfl, Nat.le_of_ble_eq_true rfl⟩) (hP.sub (ws' := []) [] rfl) (hK.sub (tys' := []) [] rfl) rfl hl.1 rfl (Nat.le_of_ble_eq_true rfl) dX0_lowerSlot_30 ⟨Nat.zero_le _, Nat.zero_le _⟩ ?_
  exact aw_iret hx hb hr hlocks dX0_lowerSlot_33 (by first | rfl | omega)
set_option maxHeartbeats 4000000 in
set_option maxRecDepth 100000 in
/-- lowerSlot(z), no such coil -/
theorem k_lowerSlot_no (hI : aw_In P S K N w ch) {z : Int} (hz : -1000 ≤ z ∧ z ≤ 1000) (hz2 : z < 0 ∨ N ≤ z) : aw_RO l yX0_lowerSlot wsX0_lowerSlot (aw_rm 1 22) D (aw_T yZ yI) (aw_W3 yZ yI o oa ba P S K N ty px pr w ch ob g) [.ref o, .int (zI z)] (-1002) := by
  refine Met.ofW (cc := cX0_lowerSlot) (maxL := 2) (ret := (some .int)) (by decide) rfl ?_
  intro p e s m args below meth c s₁ B hml hv
  obtain ⟨rfl, hP, hK⟩ := hv
  have hx := B.exec
  have hb := B.bytes
  have hr := B.returns
  have hts := atoms_spec (ws := wsX0_lowerSlot) B.pre
  have hown : s.vm.findClass RX0 = some m.cls := findClass_of_methodNamed B.named
  have hlocks := B.notSynchronized
  have hin : ∀ w ∈ wsX00, w ∈ wsX0_lowerSlot := fun w h => List.mem_cons_of_mem _ (List.mem_append_right _ h)
  have hf_21 := hts (.fieldLink RX0 21 "ArmatureWinding" "coils" "I") (by decide +kernel)
  have hf_49 := hts (.fieldLink RX0 49 "ArmatureWinding" "slots" "I") (by decide +kernel)
  have hl := lv_entry ([.ref o, .int (zI z)]) (n := 2) (Nat.le_of_ble_eq_true rfl)
  rw [lg_entry_eq]
  generalize (lg_sl ([.ref o, .int (zI z)]) ++ List.replicate (2 - (lg_sl ([.ref o, .int (zI z)])).length) Slot.unset).toArray = ls at hl ⊢
  have hl : lv_has ls 2 [(0, .ref o), (1, .int (zI z))] := hl
  obtain ⟨i1, i2, i3, i4, i5, i6, i7, i8, i9, i10, i11, i12, i13⟩ := id hI
  refine lv_iload_n hx hb dX0_lowerSlot_0 rfl (lv_at hl 1 rfl) ?_
  refine zb_ilt (tgt := 12) hx hb dX0_lowerSlot_1 (by decide) (by omega) (fun c1 => ?_) (fun c1 => ?_)
  · skip
    refine zb_sipush hx hb dX0_lowerSlot_12 (by decide) ?_
    exact aw_iret hx hb hr hlocks dX0_lowerSlot_15 (by first | rfl | omega)
  · skip
    refine lv_iload_n hx hb dX0_lowerSlot_4 rfl (lv_at hl 1 rfl) ?_
    refine lv_aload_n hx hb dX0_lowerSlot_5 rfl (lv_at hl 0 rfl) ?_
    refine va_get (D := D) (ci := 0) (v := .int (zI N)) (C := RX0) (T := TX0) (N := 11) hx hb hts hin hown hK hP 0 rfl rfl 3 (by decide) hf_21 (fun _ h9 => h9) rfl dX0_lowerSlot_6 ?_
    refine zb_clt (tgt := 16) hx hb dX0_lowerSlot_9 (by decide) (by omega) (by omega) (fun c9 => absurd c9 (by omega)) (fun c9 => ?_)
    refine zb_sipush hx hb dX0_lowerSlot_12 (by decide) ?_
    exact aw_iret hx hb hr hlocks dX0_lowerSlot_15 (by first | rfl | omega)
set_option maxHeartbeats 4000000 in
set_option maxRecDepth 100000 in
/-- isOpen(z) -/
theorem k_isOpen {z : Int} (hz : 0 ≤ z ∧ z < 72) : aw_RO l yX0_isOpen wsX0_isOpen (aw_rm 0 0) D (aw_T yZ yI) (aw_W3 yZ yI o oa ba P S K N ty px pr w ch ob g) [.ref o, .int (zI z)] (aw_b (ob z)) := by
  refine Met.ofW (cc := cX0_isOpen) (maxL := 2) (ret := (some .boolean)) (by decide) rfl ?_
  intro p e s m args below meth c s₁ B hml hv
  obtain ⟨rfl, hP, hK⟩ := hv
  have hx := B.exec
  have hb := B.bytes
  have hr := B.returns
  have hts := atoms_spec (ws := wsX0_isOpen) B.pre
  have hown : s.vm.findClass RX0 = some m.cls := findClass_of_methodNamed B.named
  have hlocks := B.notSynchronized
  have hin : ∀ w ∈ wsX00, w ∈ wsX0_isOpen := fun w h => List.mem_cons_of_mem _ (List.mem_append_right _ h)
  have hf_9 := hts (.fieldLink RX0 9 "ArmatureWinding" "open" "[Z") (by decide +kernel)
  have hl := lv_entry ([.ref o, .int (zI z)]) (n := 2) (Nat.le_of_ble_eq_true rfl)
  rw [lg_entry_eq]
  generalize (lg_sl ([.ref o, .int (zI z)]) ++ List.replicate (2 - (lg_sl ([.ref o, .int (zI z)])).length) Slot.unset).toArray = ls at hl ⊢
  have hl : lv_has ls 2 [(0, .ref o), (1, .int (zI z))] := hl
  have hb1 := aw_b_01 (ob z)
  refine lv_iload_n hx hb dX0_isOpen_0 rfl (lv_at hl 1 rfl) ?_
  refine zb_ilt (tgt := 26) hx hb dX0_isOpen_1 (by decide) (by omega) (fun c1 => absurd c1 (by omega)) (fun c1 => ?_)
  refine lv_iload_n hx hb dX0_isOpen_4 rfl (lv_at hl 1 rfl) ?_
  refine lv_aload_n hx hb dX0_isOpen_5 rfl (lv_at hl 0 rfl) ?_
  refine va_get (D := D) (ci := 0) (v := .ref oa) (C := RX0) (T := TX0) (N := 11) hx hb hts hin hown hK hP 0 rfl rfl 9 (by decide) hf_9 (fun _ h9 => h9) rfl dX0_isOpen_6 ?_
  refine va_alen hx hb hK hP 1 0 rfl rfl (v := zI 72) (show Int32.ofNat 72 = zI 72 from by decide) dX0_isOpen_9 ?_
  refine zb_cge (tgt := 26) hx hb dX0_isOpen_10 (by decide) (by omega) (by omega) (fun c10 => absurd c10 (by omega)) (fun c10 => ?_)
  refine lv_aload_n hx hb dX0_isOpen_13 rfl (lv_at hl 0 rfl) ?_
  refine va_get (D := D) (ci := 0) (v := .ref oa) (C := RX0) (T := TX0) (N := 11) hx hb hts hin hown hK hP 0 rfl rfl 9 (by decide) hf_9 (fun _ h9 => h9) rfl dX0_isOpen_14 ?_
  refine lv_iload_n hx hb dX0_isOpen_17 rfl (lv_at hl 1 rfl) ?_
  refine aw_zld hx hb hK hP 1 0 rfl rfl (by omega) (by omega) dX0_isOpen_18 ?_
  refine zb_ieq (tgt := 26) hx hb dX0_isOpen_19 (by decide) (by omega) (fun c19 => ?_) (fun c19 => ?_)
  · skip
    refine zb_iconst hx hb dX0_isOpen_26 ?_
    exact aw_zret hx hb hr hlocks dX0_isOpen_27 (by omega) (by omega)
  · skip
    refine zb_iconst hx hb dX0_isOpen_22 ?_
    refine lv_goto (tgt := 27) hx hb dX0_isOpen_23 (by decide) ?_
    exact aw_zret hx hb hr hlocks dX0_isOpen_27 (by omega) (by omega)
set_option maxHeartbeats 4000000 in
set_option maxRecDepth 100000 in
/-- openMark(z) -/
theorem k_openMark {z : Int} (hz : 0 ≤ z ∧ z < 72) : aw_RO l yX0_openMark wsX0_openMark (aw_rm 1 21) D (aw_T yZ yI) (aw_W3 yZ yI o oa ba P S K N ty px pr w ch ob g) [.ref o, .int (zI z)] (aw_b (ob z)) := by
  refine Met.ofW (cc := cX0_openMark) (maxL := 2) (ret := (some .int)) (by decide) rfl ?_
  intro p e s m args below meth c s₁ B hml hv
  obtain ⟨rfl, hP, hK⟩ := hv
  have hx := B.exec
  have hb := B.bytes
  have hr := B.returns
  have hts := atoms_spec (ws := wsX0_openMark) B.pre
  have hown : s.vm.findClass RX0 = some m.cls := findClass_of_methodNamed B.named
  have hlocks := B.notSynchronized
  have hl := lv_entry ([.ref o, .int (zI z)]) (n := 2) (Nat.le_of_ble_eq_true rfl)
  rw [lg_entry_eq]
  generalize (lg_sl ([.ref o, .int (zI z)]) ++ List.replicate (2 - (lg_sl ([.ref o, .int (zI z)])).length) Slot.unset).toArray = ls at hl ⊢
  have hl : lv_has ls 2 [(0, .ref o), (1, .int (zI z))] := hl
  have hb1 := aw_b_01 (ob z)
  refine lv_aload_n hx hb dX0_openMark_0 rfl (lv_at hl 0 rfl) ?_
  refine lv_iload_n hx hb dX0_openMark_1 rfl (lv_at hl 1 rfl) ?_
  refine aw_callV (As := [.int (zI z)]) (rest := []) ⟨hx, hb, hml, hown, hts⟩ (k_isOpen hz) (cwV 1 hts gX0_openMark_X0_isOpen rfl rfl rfl (by decide +kernel) ⟨Nat.le_of_ble_eq_true rfl, Nat.le_of_ble_eq_true rfl⟩) hP hK rfl rfl rfl hl.1 rfl (Nat.le_of_ble_eq_true rfl) dX0_openMark_2 ⟨Nat.zero_le _, Nat.zero_le _⟩ ?_
  refine zb_ieq (tgt := 12) hx hb dX0_openMark_5 (by decide) (by omega) (fun c5 => ?_) (fun c5 => ?_)
  · skip
    refine zb_iconst hx hb dX0_openMark_12 ?_
    exact aw_iret hx hb hr hlocks dX0_openMark_13 (by first | rfl | omega)
  · skip
    refine zb_iconst hx hb dX0_openMark_8 ?_
    refine lv_goto (tgt := 13) hx hb dX0_openMark_9 (by decide) ?_
    exact aw_iret hx hb hr hlocks dX0_openMark_13 (by first | rfl | omega)
set_option maxHeartbeats 4000000 in
set_option maxRecDepth 100000 in
/-- circuitLength() -/
theorem k_circuitLength (hI : aw_In P S K N w ch) : aw_RO l yX0_circuitLength wsX0_circuitLength (aw_rm 1 22) D (aw_T yZ yI) (aw_W3 yZ yI o oa ba P S K N ty px pr w ch ob g) [.ref o] (aw_ln w N) := by
  refine Met.ofW (cc := cX0_circuitLength) (maxL := 2) (ret := (some .int)) (by decide) rfl ?_
  intro p e s m args below meth c s₁ B hml hv
  obtain ⟨rfl, hP, hK⟩ := hv
  have hx := B.exec
  have hb := B.bytes
  have hr := B.returns
  have hts := atoms_spec (ws := wsX0_circuitLength) B.pre
  have hown : s.vm.findClass RX0 = some m.cls := findClass_of_methodNamed B.named
  have hlocks := B.notSynchronized
  have hin : ∀ w ∈ wsX00, w ∈ wsX0_circuitLength := fun w h => List.mem_cons_of_mem _ (List.mem_append_right _ h)
  have hf_21 := hts (.fieldLink RX0 21 "ArmatureWinding" "coils" "I") (by decide +kernel)
  have hf_37 := hts (.fieldLink RX0 37 "ArmatureWinding" "pitch" "I") (by decide +kernel)
  have hl := lv_entry ([.ref o]) (n := 2) (Nat.le_of_ble_eq_true rfl)
  rw [lg_entry_eq]
  generalize (lg_sl ([.ref o]) ++ List.replicate (2 - (lg_sl ([.ref o])).length) Slot.unset).toArray = ls at hl ⊢
  have hl : lv_has ls 2 [(0, .ref o)] := hl
  obtain ⟨i1, i2, i3, i4, i5, i6, i7, i8, i9, i10, i11, i12, i13⟩ := id hI
  have hL := aw_ln_in (w := w) (N := N) (by omega)
  have hL0 := aw_ln_0 (w := w) (N := N) (by omega)
  refine zb_iconst hx hb dX0_circuitLength_0 ?_
  refine lv_istore_n (lv' := [(1, .int (zI 1)), (0, .ref o)]) hx hb dX0_circuitLength_1 rfl hl (by decide) rfl (fun ls hl => ?_)
  refine zb_lp1 (nL := 2) (fun j => 1 ≤ j ∧ j ≤ aw_ln w N) (fun j => [(1, .int (zI j)), (0, .ref o)]) (fun j => N - j) 1 (by omega) (lv_sub hl [0, 1] rfl) ?_
  intro j ls hJ2 hl ih2
  have hJ2 : 1 ≤ j ∧ j ≤ aw_ln w N := hJ2
  have hl : lv_has ls 2 [(1, .int (zI j)), (0, .ref o)] := hl
  have hj := aw_mul (x := j) (y := w) (a := 72) (b := 80) (by omega) (by omega) (by omega) (by omega)
  have hjm := aw_mod (x := j * w) (n := N) (by omega)
  refine lv_iload_n hx hb dX0_circuitLength_2 rfl (lv_at hl 0 rfl) ?_
  refine lv_aload_n hx hb dX0_circuitLength_3 rfl (lv_at hl 1 rfl) ?_
  refine va_get (D := D) (ci := 0) (v := .int (zI N)) (C := RX0) (T := TX0) (N := 11) hx hb hts hin hown hK hP 0 rfl rfl 3 (by decide) hf_21 (fun _ h9 => h9) rfl dX0_circuitLength_4 ?_
  refine zb_cge (tgt := 32) hx hb dX0_circuitLength_7 (by decide) (by omega) (by omega) (fun c7 => ?_) (fun c7 => ?_)
  · skip
    refine lv_iload_n hx hb dX0_circuitLength_32 rfl (lv_at hl 0 rfl) ?_
    exact aw_iret hx hb hr hlocks dX0_circuitLength_33 (by omega)
  · skip
    refine lv_iload_n hx hb dX0_circuitLength_10 rfl (lv_at hl 0 rfl) ?_
    refine lv_aload_n hx hb dX0_circuitLength_11 rfl (lv_at hl 1 rfl) ?_
    refine va_get (D := D) (ci := 0) (v := .int (zI w)) (C := RX0) (T := TX0) (N := 11) hx hb hts hin hown hK hP 0 rfl rfl 7 (by decide) hf_37 (fun _ h9 => h9) rfl dX0_circuitLength_12 ?_
    refine zb_mul hx hb dX0_circuitLength_15 ?_
    refine lv_aload_n hx hb dX0_circuitLength_16 rfl (lv_at hl 1 rfl) ?_
    refine va_get (D := D) (ci := 0) (v := .int (zI N)) (C := RX0) (T := TX0) (N := 11) hx hb hts hin hown hK hP 0 rfl rfl 3 (by decide) hf_21 (fun _ h9 => h9) rfl dX0_circuitLength_17 ?_
    refine aw_callS (As := [.int (zI (j * w)), .int (zI N)]) (rest := []) ⟨hx, hb, hml, hown, hts⟩ (k_wrap (x := j * w) (n := N) ⟨by omega, by omega⟩ ⟨by omega, by omega⟩) (va_cwS 2 hts gX0_circuitLength_X0_wrap rfl rfl rfl (by decide +kernel) ⟨Nat.le_of_ble_eq_true rfl, Nat.le_of_ble_eq_true rfl⟩) (hP.sub (ws' := []) [] rfl) (hK.sub (tys' := []) [] rfl) rfl hl.1 rfl (Nat.le_of_ble_eq_true rfl) dX0_circuitLength_20 ⟨Nat.zero_le _, Nat.zero_le _⟩ ?_
    refine zb_ieq (tgt := 32) hx hb dX0_circuitLength_23 (by decide) (by omega) (fun c23 => ?_) (fun c23 => ?_)
    · skip
      refine lv_iload_n hx hb dX0_circuitLength_32 rfl (lv_at hl 0 rfl) ?_
      exact aw_iret hx hb hr hlocks dX0_circuitLength_33 (by rcases Int.lt_or_eq_of_le hJ2.2 with q | q; exact absurd c23 (aw_ln_no (by omega) (by omega) q); exact q)
    · skip
      refine zb_iinc (lv' := [(1, .int (zI (j + 1))), (0, .ref o)]) hx hb dX0_circuitLength_26 hl (k := 0) rfl (by decide) rfl (fun ls hl => ?_)
      refine lv_goto (tgt := 2) hx hb dX0_circuitLength_29 (by decide) ?_
      exact ih2 (j + 1) ls (by have := aw_ln_no (w := w) (N := N) (j := j) (by omega) (by omega); rcases Int.lt_or_eq_of_le hJ2.2 with q | q; exact ⟨by omega, by omega⟩; exact absurd (q ▸ hL0) c23) (by omega) (lv_sub hl [0, 1] rfl)
set_option maxHeartbeats 4000000 in
set_option maxRecDepth 100000 in
/-- circuitCount() -/
theorem k_circuitCount (hI : aw_In P S K N w ch) : aw_RO l yX0_circuitCount wsX0_circuitCount (aw_rm 2 43) D (aw_T yZ yI) (aw_W3 yZ yI o oa ba P S K N ty px pr w ch ob g) [.ref o] (aw_gc w N) := by
  refine Met.ofW (cc := cX0_circuitCount) (maxL := 2) (ret := (some .int)) (by decide) rfl ?_
  intro p e s m args below meth c s₁ B hml hv
  obtain ⟨rfl, hP, hK⟩ := hv
  have hx := B.exec
  have hb := B.bytes
  have hr := B.returns
  have hts := atoms_spec (ws := wsX0_circuitCount) B.pre
  have hown : s.vm.findClass RX0 = some m.cls := findClass_of_methodNamed B.named
  have hlocks := B.notSynchronized
  have hin : ∀ w ∈ wsX00, w ∈ wsX0_circuitCount := fun w h => List.mem_cons_of_mem _ (List.mem_append_right _ h)
  have hf_21 := hts (.fieldLink RX0 21 "ArmatureWinding" "coils" "I") (by decide +kernel)
  have hl := lv_entry ([.ref o]) (n := 2) (Nat.le_of_ble_eq_true rfl)
  rw [lg_entry_eq]
  generalize (lg_sl ([.ref o]) ++ List.replicate (2 - (lg_sl ([.ref o])).length) Slot.unset).toArray = ls at hl ⊢
  have hl : lv_has ls 2 [(0, .ref o)] := hl
  obtain ⟨i1, i2, i3, i4, i5, i6, i7, i8, i9, i10, i11, i12, i13⟩ := id hI
  have hL := aw_ln_in (w := w) (N := N) (by omega)
  refine lv_aload_n hx hb dX0_circuitCount_0 rfl (lv_at hl 0 rfl) ?_
  refine aw_callV (As := []) (rest := []) ⟨hx, hb, hml, hown, hts⟩ (k_circuitLength hI) (cwV 0 hts gX0_circuitCount_X0_circuitLength rfl rfl rfl (by decide +kernel) ⟨Nat.le_of_ble_eq_true rfl, Nat.le_of_ble_eq_true rfl⟩) hP hK rfl rfl rfl hl.1 rfl (Nat.le_of_ble_eq_true rfl) dX0_circuitCount_1 ⟨Nat.zero_le _, Nat.zero_le _⟩ ?_
  refine lv_istore_n (lv' := [(1, .int (zI (aw_ln w N))), (0, .ref o)]) hx hb dX0_circuitCount_4 rfl hl (by decide) rfl (fun ls hl => ?_)
  refine lv_iload_n hx hb dX0_circuitCount_5 rfl (lv_at hl 0 rfl) ?_
  refine zb_ile (tgt := 18) hx hb dX0_circuitCount_6 (by decide) (by omega) (fun c6 => absurd c6 (by omega)) (fun c6 => ?_)
  refine lv_aload_n hx hb dX0_circuitCount_9 rfl (lv_at hl 1 rfl) ?_
  refine va_get (D := D) (ci := 0) (v := .int (zI N)) (C := RX0) (T := TX0) (N := 11) hx hb hts hin hown hK hP 0 rfl rfl 3 (by decide) hf_21 (fun _ h9 => h9) rfl dX0_circuitCount_10 ?_
  refine lv_iload_n hx hb dX0_circuitCount_13 rfl (lv_at hl 0 rfl) ?_
  refine zb_div hx hb dX0_circuitCount_14 (by omega) (by omega) ?_
  refine lv_goto (tgt := 19) hx hb dX0_circuitCount_15 (by decide) ?_
  exact aw_iret hx hb hr hlocks dX0_circuitCount_19 (aw_N_ln (by omega))
set_option maxHeartbeats 4000000 in
set_option maxRecDepth 100000 in
/-- circuitOf(z) -/
theorem k_circuitOf (hI : aw_In P S K N w ch) {z : Int} (hz : 0 ≤ z ∧ z < N) : aw_RO l yX0_circuitOf wsX0_circuitOf (aw_rm 3 64) D (aw_T yZ yI) (aw_W3 yZ yI o oa ba P S K N ty px pr w ch ob g) [.ref o, .int (zI z)] (z % aw_gc w N) := by
  refine Met.ofW (cc := cX0_circuitOf) (maxL := 2) (ret := (some .int)) (by decide) rfl ?_
  intro p e s m args below meth c s₁ B hml hv
  obtain ⟨rfl, hP, hK⟩ := hv
  have hx := B.exec
  have hb := B.bytes
  have hr := B.returns
  have hts := atoms_spec (ws := wsX0_circuitOf) B.pre
  have hown : s.vm.findClass RX0 = some m.cls := findClass_of_methodNamed B.named
  have hlocks := B.notSynchronized
  have hin : ∀ w ∈ wsX00, w ∈ wsX0_circuitOf := fun w h => List.mem_cons_of_mem _ (List.mem_append_right _ h)
  have hf_21 := hts (.fieldLink RX0 21 "ArmatureWinding" "coils" "I") (by decide +kernel)
  have hl := lv_entry ([.ref o, .int (zI z)]) (n := 2) (Nat.le_of_ble_eq_true rfl)
  rw [lg_entry_eq]
  generalize (lg_sl ([.ref o, .int (zI z)]) ++ List.replicate (2 - (lg_sl ([.ref o, .int (zI z)])).length) Slot.unset).toArray = ls at hl ⊢
  have hl : lv_has ls 2 [(0, .ref o), (1, .int (zI z))] := hl
  obtain ⟨i1, i2, i3, i4, i5, i6, i7, i8, i9, i10, i11, i12, i13⟩ := id hI
  have hG := aw_gc_in (w := w) (N := N) (by omega)
  have hL := aw_ln_in (w := w) (N := N) (by omega)
  refine lv_iload_n hx hb dX0_circuitOf_0 rfl (lv_at hl 1 rfl) ?_
  refine zb_ilt (tgt := 12) hx hb dX0_circuitOf_1 (by decide) (by omega) (fun c1 => absurd c1 (by omega)) (fun c1 => ?_)
  refine lv_iload_n hx hb dX0_circuitOf_4 rfl (lv_at hl 1 rfl) ?_
  refine lv_aload_n hx hb dX0_circuitOf_5 rfl (lv_at hl 0 rfl) ?_
  refine va_get (D := D) (ci := 0) (v := .int (zI N)) (C := RX0) (T := TX0) (N := 11) hx hb hts hin hown hK hP 0 rfl rfl 3 (by decide) hf_21 (fun _ h9 => h9) rfl dX0_circuitOf_6 ?_
  refine zb_clt (tgt := 16) hx hb dX0_circuitOf_9 (by decide) (by omega) (by omega) (fun c9 => ?_) (fun c9 => absurd c9 (by omega))
  refine lv_iload_n hx hb dX0_circuitOf_16 rfl (lv_at hl 1 rfl) ?_
  refine lv_aload_n hx hb dX0_circuitOf_17 rfl (lv_at hl 0 rfl) ?_
  refine aw_callV (As := []) (rest := [.int (zI z)]) ⟨hx, hb, hml, hown, hts⟩ (k_circuitCount hI) (cwV 0 hts gX0_circuitOf_X0_circuitCount rfl rfl rfl (by decide +kernel) ⟨Nat.le_of_ble_eq_true rfl, Nat.le_of_ble_eq_true rfl⟩) hP hK rfl rfl rfl hl.1 rfl (Nat.le_of_ble_eq_true rfl) dX0_circuitOf_18 ⟨Nat.zero_le _, Nat.zero_le _⟩ ?_
  refine aw_callS (As := [.int (zI z), .int (zI (aw_gc w N))]) (rest := []) ⟨hx, hb, hml, hown, hts⟩ (k_wrap (x := z) (n := aw_gc w N) ⟨by omega, by omega⟩ ⟨by omega, by omega⟩) (va_cwS 2 hts gX0_circuitOf_X0_wrap rfl rfl rfl (by decide +kernel) ⟨Nat.le_of_ble_eq_true rfl, Nat.le_of_ble_eq_true rfl⟩) (hP.sub (ws' := []) [] rfl) (hK.sub (tys' := []) [] rfl) rfl hl.1 rfl (Nat.le_of_ble_eq_true rfl) dX0_circuitOf_21 ⟨Nat.zero_le _, Nat.zero_le _⟩ ?_
  exact aw_iret hx hb hr hlocks dX0_circuitOf_24 (by first | rfl | omega)
set_option maxHeartbeats 4000000 in
set_option maxRecDepth 100000 in
/-- circuitOf(z), no such coil -/
theorem k_circuitOf_no (hI : aw_In P S K N w ch) {z : Int} (hz : -1000 ≤ z ∧ z ≤ 1000) (hz2 : z < 0 ∨ N ≤ z) : aw_RO l yX0_circuitOf wsX0_circuitOf (aw_rm 3 64) D (aw_T yZ yI) (aw_W3 yZ yI o oa ba P S K N ty px pr w ch ob g) [.ref o, .int (zI z)] (-1002) := by
  refine Met.ofW (cc := cX0_circuitOf) (maxL := 2) (ret := (some .int)) (by decide) rfl ?_
  intro p e s m args below meth c s₁ B hml hv
  obtain ⟨rfl, hP, hK⟩ := hv
  have hx := B.exec
  have hb := B.bytes
  have hr := B.returns
  have hts := atoms_spec (ws := wsX0_circuitOf) B.pre
  have hown : s.vm.findClass RX0 = some m.cls := findClass_of_methodNamed B.named
  have hlocks := B.notSynchronized
  have hin : ∀ w ∈ wsX00, w ∈ wsX0_circuitOf := fun w h => List.mem_cons_of_mem _ (List.mem_append_right _ h)
  have hf_21 := hts (.fieldLink RX0 21 "ArmatureWinding" "coils" "I") (by decide +kernel)
  have hl := lv_entry ([.ref o, .int (zI z)]) (n := 2) (Nat.le_of_ble_eq_true rfl)
  rw [lg_entry_eq]
  generalize (lg_sl ([.ref o, .int (zI z)]) ++ List.replicate (2 - (lg_sl ([.ref o, .int (zI z)])).length) Slot.unset).toArray = ls at hl ⊢
  have hl : lv_has ls 2 [(0, .ref o), (1, .int (zI z))] := hl
  obtain ⟨i1, i2, i3, i4, i5, i6, i7, i8, i9, i10, i11, i12, i13⟩ := id hI
  refine lv_iload_n hx hb dX0_circuitOf_0 rfl (lv_at hl 1 rfl) ?_
  refine zb_ilt (tgt := 12) hx hb dX0_circuitOf_1 (by decide) (by omega) (fun c1 => ?_) (fun c1 => ?_)
  · skip
    refine zb_sipush hx hb dX0_circuitOf_12 (by decide) ?_
    exact aw_iret hx hb hr hlocks dX0_circuitOf_15 (by first | rfl | omega)
  · skip
    refine lv_iload_n hx hb dX0_circuitOf_4 rfl (lv_at hl 1 rfl) ?_
    refine lv_aload_n hx hb dX0_circuitOf_5 rfl (lv_at hl 0 rfl) ?_
    refine va_get (D := D) (ci := 0) (v := .int (zI N)) (C := RX0) (T := TX0) (N := 11) hx hb hts hin hown hK hP 0 rfl rfl 3 (by decide) hf_21 (fun _ h9 => h9) rfl dX0_circuitOf_6 ?_
    refine zb_clt (tgt := 16) hx hb dX0_circuitOf_9 (by decide) (by omega) (by omega) (fun c9 => absurd c9 (by omega)) (fun c9 => ?_)
    refine zb_sipush hx hb dX0_circuitOf_12 (by decide) ?_
    exact aw_iret hx hb hr hlocks dX0_circuitOf_15 (by first | rfl | omega)
set_option maxHeartbeats 4000000 in
set_option maxRecDepth 100000 in
/-- coilAt(q, k) -/
theorem k_coilAt (hI : aw_In P S K N w ch) {q k : Int} (hq : 0 ≤ q ∧ q < aw_gc w N) (hk : 0 ≤ k ∧ k < aw_ln w N) : aw_RO l yX0_coilAt wsX0_coilAt (aw_rm 3 64) D (aw_T yZ yI) (aw_W3 yZ yI o oa ba P S K N ty px pr w ch ob g) [.ref o, .int (zI q), .int (zI k)] ((q + k * w) % N) := by
  refine Met.ofW (cc := cX0_coilAt) (maxL := 3) (ret := (some .int)) (by decide) rfl ?_
  intro p e s m args below meth c s₁ B hml hv
  obtain ⟨rfl, hP, hK⟩ := hv
  have hx := B.exec
  have hb := B.bytes
  have hr := B.returns
  have hts := atoms_spec (ws := wsX0_coilAt) B.pre
  have hown : s.vm.findClass RX0 = some m.cls := findClass_of_methodNamed B.named
  have hlocks := B.notSynchronized
  have hin : ∀ w ∈ wsX00, w ∈ wsX0_coilAt := fun w h => List.mem_cons_of_mem _ (List.mem_append_right _ h)
  have hf_21 := hts (.fieldLink RX0 21 "ArmatureWinding" "coils" "I") (by decide +kernel)
  have hf_37 := hts (.fieldLink RX0 37 "ArmatureWinding" "pitch" "I") (by decide +kernel)
  have hl := lv_entry ([.ref o, .int (zI q), .int (zI k)]) (n := 3) (Nat.le_of_ble_eq_true rfl)
  rw [lg_entry_eq]
  generalize (lg_sl ([.ref o, .int (zI q), .int (zI k)]) ++ List.replicate (3 - (lg_sl ([.ref o, .int (zI q), .int (zI k)])).length) Slot.unset).toArray = ls at hl ⊢
  have hl : lv_has ls 3 [(0, .ref o), (1, .int (zI q)), (2, .int (zI k))] := hl
  obtain ⟨i1, i2, i3, i4, i5, i6, i7, i8, i9, i10, i11, i12, i13⟩ := id hI
  have hG := aw_gc_in (w := w) (N := N) (by omega)
  have hL := aw_ln_in (w := w) (N := N) (by omega)
  have hj := aw_mul (x := k) (y := w) (a := 72) (b := 80) (by omega) (by omega) (by omega) (by omega)
  refine lv_iload_n hx hb dX0_coilAt_0 rfl (lv_at hl 1 rfl) ?_
  refine zb_ilt (tgt := 12) hx hb dX0_coilAt_1 (by decide) (by omega) (fun c1 => absurd c1 (by omega)) (fun c1 => ?_)
  refine lv_iload_n hx hb dX0_coilAt_4 rfl (lv_at hl 1 rfl) ?_
  refine lv_aload_n hx hb dX0_coilAt_5 rfl (lv_at hl 0 rfl) ?_
  refine aw_callV (As := []) (rest := [.int (zI q)]) ⟨hx, hb, hml, hown, hts⟩ (k_circuitCount hI) (cwV 0 hts gX0_coilAt_X0_circuitCount rfl rfl rfl (by decide +kernel) ⟨Nat.le_of_ble_eq_true rfl, Nat.le_of_ble_eq_true rfl⟩) hP hK rfl rfl rfl hl.1 rfl (Nat.le_of_ble_eq_true rfl) dX0_coilAt_6 ⟨Nat.zero_le _, Nat.zero_le _⟩ ?_
  refine zb_clt (tgt := 16) hx hb dX0_coilAt_9 (by decide) (by omega) (by omega) (fun c9 => ?_) (fun c9 => absurd c9 (by omega))
  refine lv_iload_n hx hb dX0_coilAt_16 rfl (lv_at hl 2 rfl) ?_
  refine zb_ilt (tgt := 28) hx hb dX0_coilAt_17 (by decide) (by omega) (fun c17 => absurd c17 (by omega)) (fun c17 => ?_)
  refine lv_iload_n hx hb dX0_coilAt_20 rfl (lv_at hl 2 rfl) ?_
  refine lv_aload_n hx hb dX0_coilAt_21 rfl (lv_at hl 0 rfl) ?_
  refine aw_callV (As := []) (rest := [.int (zI k)]) ⟨hx, hb, hml, hown, hts⟩ (k_circuitLength hI) (cwV 0 hts gX0_coilAt_X0_circuitLength rfl rfl rfl (by decide +kernel) ⟨Nat.le_of_ble_eq_true rfl, Nat.le_of_ble_eq_true rfl⟩) hP hK rfl rfl rfl hl.1 rfl (Nat.le_of_ble_eq_true rfl) dX0_coilAt_22 ⟨Nat.zero_le _, Nat.zero_le _⟩ ?_
  refine zb_clt (tgt := 32) hx hb dX0_coilAt_25 (by decide) (by omega) (by omega) (fun c25 => ?_) (fun c25 => absurd c25 (by omega))
  refine lv_iload_n hx hb dX0_coilAt_32 rfl (lv_at hl 1 rfl) ?_
  refine lv_iload_n hx hb dX0_coilAt_33 rfl (lv_at hl 2 rfl) ?_
  refine lv_aload_n hx hb dX0_coilAt_34 rfl (lv_at hl 0 rfl) ?_
  refine va_get (D := D) (ci := 0) (v := .int (zI w)) (C := RX0) (T := TX0) (N := 11) hx hb hts hin hown hK hP 0 rfl rfl 7 (by decide) hf_37 (fun _ h9 => h9) rfl dX0_coilAt_35 ?_
  refine zb_mul hx hb dX0_coilAt_38 ?_
  refine zb_add hx hb dX0_coilAt_39 ?_
  refine lv_aload_n hx hb dX0_coilAt_40 rfl (lv_at hl 0 rfl) ?_
  refine va_get (D := D) (ci := 0) (v := .int (zI N)) (C := RX0) (T := TX0) (N := 11) hx hb hts hin hown hK hP 0 rfl rfl 3 (by decide) hf_21 (fun _ h9 => h9) rfl dX0_coilAt_41 ?_
  refine aw_callS (As := [.int (zI (q + (k * w))), .int (zI N)]) (rest := []) ⟨hx, hb, hml, hown, hts⟩ (k_wrap (x := q + k * w) (n := N) ⟨by omega, by omega⟩ ⟨by omega, by omega⟩) (va_cwS 2 hts gX0_coilAt_X0_wrap rfl rfl rfl (by decide +kernel) ⟨Nat.le_of_ble_eq_true rfl, Nat.le_of_ble_eq_true rfl⟩) (hP.sub (ws' := []) [] rfl) (hK.sub (tys' := []) [] rfl) rfl hl.1 rfl (Nat.le_of_ble_eq_true rfl) dX0_coilAt_44 ⟨Nat.zero_le _, Nat.zero_le _⟩ ?_
  exact aw_iret hx hb hr hlocks dX0_coilAt_47 (by first | rfl | omega)
set_option maxHeartbeats 4000000 in
set_option maxRecDepth 100000 in
/-- coilAt(q, k), no such place -/
theorem k_coilAt_none (hI : aw_In P S K N w ch) {q k : Int} (hq : 0 ≤ q ∧ q < aw_gc w N) (hk : -1000 ≤ k ∧ k ≤ 1000) (hk2 : k < 0 ∨ aw_ln w N ≤ k) : aw_RO l yX0_coilAt wsX0_coilAt (aw_rm 3 64) D (aw_T yZ yI) (aw_W3 yZ yI o oa ba P S K N ty px pr w ch ob g) [.ref o, .int (zI q), .int (zI k)] (-1004) := by
  refine Met.ofW (cc := cX0_coilAt) (maxL := 3) (ret := (some .int)) (by decide) rfl ?_
  intro p e s m args below meth c s₁ B hml hv
  obtain ⟨rfl, hP, hK⟩ := hv
  have hx := B.exec
  have hb := B.bytes
  have hr := B.returns
  have hts := atoms_spec (ws := wsX0_coilAt) B.pre
  have hown : s.vm.findClass RX0 = some m.cls := findClass_of_methodNamed B.named
  have hlocks := B.notSynchronized
  have hin : ∀ w ∈ wsX00, w ∈ wsX0_coilAt := fun w h => List.mem_cons_of_mem _ (List.mem_append_right _ h)
  have hf_21 := hts (.fieldLink RX0 21 "ArmatureWinding" "coils" "I") (by decide +kernel)
  have hf_37 := hts (.fieldLink RX0 37 "ArmatureWinding" "pitch" "I") (by decide +kernel)
  have hl := lv_entry ([.ref o, .int (zI q), .int (zI k)]) (n := 3) (Nat.le_of_ble_eq_true rfl)
  rw [lg_entry_eq]
  generalize (lg_sl ([.ref o, .int (zI q), .int (zI k)]) ++ List.replicate (3 - (lg_sl ([.ref o, .int (zI q), .int (zI k)])).length) Slot.unset).toArray = ls at hl ⊢
  have hl : lv_has ls 3 [(0, .ref o), (1, .int (zI q)), (2, .int (zI k))] := hl
  obtain ⟨i1, i2, i3, i4, i5, i6, i7, i8, i9, i10, i11, i12, i13⟩ := id hI
  have hG := aw_gc_in (w := w) (N := N) (by omega)
  have hL := aw_ln_in (w := w) (N := N) (by omega)
  refine lv_iload_n hx hb dX0_coilAt_0 rfl (lv_at hl 1 rfl) ?_
  refine zb_ilt (tgt := 12) hx hb dX0_coilAt_1 (by decide) (by omega) (fun c1 => absurd c1 (by omega)) (fun c1 => ?_)
  refine lv_iload_n hx hb dX0_coilAt_4 rfl (lv_at hl 1 rfl) ?_
  refine lv_aload_n hx hb dX0_coilAt_5 rfl (lv_at hl 0 rfl) ?_
  refine aw_callV (As := []) (rest := [.int (zI q)]) ⟨hx, hb, hml, hown, hts⟩ (k_circuitCount hI) (cwV 0 hts gX0_coilAt_X0_circuitCount rfl rfl rfl (by decide +kernel) ⟨Nat.le_of_ble_eq_true rfl, Nat.le_of_ble_eq_true rfl⟩) hP hK rfl rfl rfl hl.1 rfl (Nat.le_of_ble_eq_true rfl) dX0_coilAt_6 ⟨Nat.zero_le _, Nat.zero_le _⟩ ?_
  refine zb_clt (tgt := 16) hx hb dX0_coilAt_9 (by decide) (by omega) (by omega) (fun c9 => ?_) (fun c9 => absurd c9 (by omega))
  refine lv_iload_n hx hb dX0_coilAt_16 rfl (lv_at hl 2 rfl) ?_
  refine zb_ilt (tgt := 28) hx hb dX0_coilAt_17 (by decide) (by omega) (fun c17 => ?_) (fun c17 => ?_)
  · skip
    refine zb_sipush hx hb dX0_coilAt_28 (by decide) ?_
    exact aw_iret hx hb hr hlocks dX0_coilAt_31 (by first | rfl | omega)
  · skip
    refine lv_iload_n hx hb dX0_coilAt_20 rfl (lv_at hl 2 rfl) ?_
    refine lv_aload_n hx hb dX0_coilAt_21 rfl (lv_at hl 0 rfl) ?_
    refine aw_callV (As := []) (rest := [.int (zI k)]) ⟨hx, hb, hml, hown, hts⟩ (k_circuitLength hI) (cwV 0 hts gX0_coilAt_X0_circuitLength rfl rfl rfl (by decide +kernel) ⟨Nat.le_of_ble_eq_true rfl, Nat.le_of_ble_eq_true rfl⟩) hP hK rfl rfl rfl hl.1 rfl (Nat.le_of_ble_eq_true rfl) dX0_coilAt_22 ⟨Nat.zero_le _, Nat.zero_le _⟩ ?_
    refine zb_clt (tgt := 32) hx hb dX0_coilAt_25 (by decide) (by omega) (by omega) (fun c25 => absurd c25 (by omega)) (fun c25 => ?_)
    refine zb_sipush hx hb dX0_coilAt_28 (by decide) ?_
    exact aw_iret hx hb hr hlocks dX0_coilAt_31 (by first | rfl | omega)
set_option maxHeartbeats 4000000 in
set_option maxRecDepth 100000 in
/-- coilAt(q, k), no such circuit -/
theorem k_coilAt_no (hI : aw_In P S K N w ch) {q k : Int} (hq : -1000 ≤ q ∧ q ≤ 1000) (hq2 : q < 0 ∨ aw_gc w N ≤ q) : aw_RO l yX0_coilAt wsX0_coilAt (aw_rm 3 64) D (aw_T yZ yI) (aw_W3 yZ yI o oa ba P S K N ty px pr w ch ob g) [.ref o, .int (zI q), .int (zI k)] (-1002) := by
  refine Met.ofW (cc := cX0_coilAt) (maxL := 3) (ret := (some .int)) (by decide) rfl ?_
  intro p e s m args below meth c s₁ B hml hv
  obtain ⟨rfl, hP, hK⟩ := hv
  have hx := B.exec
  have hb := B.bytes
  have hr := B.returns
  have hts := atoms_spec (ws := wsX0_coilAt) B.pre
  have hown : s.vm.findClass RX0 = some m.cls := findClass_of_methodNamed B.named
  have hlocks := B.notSynchronized
  have hin : ∀ w ∈ wsX00, w ∈ wsX0_coilAt := fun w h => List.mem_cons_of_mem _ (List.mem_append_right _ h)
  have hf_21 := hts (.fieldLink RX0 21 "ArmatureWinding" "coils" "I") (by decide +kernel)
  have hf_37 := hts (.fieldLink RX0 37 "ArmatureWinding" "pitch" "I") (by decide +kernel)
  have hl := lv_entry ([.ref o, .int (zI q), .int (zI k)]) (n := 3) (Nat.le_of_ble_eq_true rfl)
  rw [lg_entry_eq]
  generalize (lg_sl ([.ref o, .int (zI q), .int (zI k)]) ++ List.replicate (3 - (lg_sl ([.ref o, .int (zI q), .int (zI k)])).length) Slot.unset).toArray = ls at hl ⊢
  have hl : lv_has ls 3 [(0, .ref o), (1, .int (zI q)), (2, .int (zI k))] := hl
  obtain ⟨i1, i2, i3, i4, i5, i6, i7, i8, i9, i10, i11, i12, i13⟩ := id hI
  have hG := aw_gc_in (w := w) (N := N) (by omega)
  have hL := aw_ln_in (w := w) (N := N) (by omega)
  refine lv_iload_n hx hb dX0_coilAt_0 rfl (lv_at hl 1 rfl) ?_
  refine zb_ilt (tgt := 12) hx hb dX0_coilAt_1 (by decide) (by omega) (fun c1 => ?_) (fun c1 => ?_)
  · skip
    refine zb_sipush hx hb dX0_coilAt_12 (by decide) ?_
    exact aw_iret hx hb hr hlocks dX0_coilAt_15 (by first | rfl | omega)
  · skip
    refine lv_iload_n hx hb dX0_coilAt_4 rfl (lv_at hl 1 rfl) ?_
    refine lv_aload_n hx hb dX0_coilAt_5 rfl (lv_at hl 0 rfl) ?_
    refine aw_callV (As := []) (rest := [.int (zI q)]) ⟨hx, hb, hml, hown, hts⟩ (k_circuitCount hI) (cwV 0 hts gX0_coilAt_X0_circuitCount rfl rfl rfl (by decide +kernel) ⟨Nat.le_of_ble_eq_true rfl, Nat.le_of_ble_eq_true rfl⟩) hP hK rfl rfl rfl hl.1 rfl (Nat.le_of_ble_eq_true rfl) dX0_coilAt_6 ⟨Nat.zero_le _, Nat.zero_le _⟩ ?_
    refine zb_clt (tgt := 16) hx hb dX0_coilAt_9 (by decide) (by omega) (by omega) (fun c9 => absurd c9 (by omega)) (fun c9 => ?_)
    refine zb_sipush hx hb dX0_coilAt_12 (by decide) ?_
    exact aw_iret hx hb hr hlocks dX0_coilAt_15 (by first | rfl | omega)
end
end
section
section
variable {l : Launch} {D : va_G} {yZ yI : ClassId} {o oa ba da pa : Nat} {P S K N w ch : Int} {ty px pr : Int32} {ob : Int → Bool} {g pf : Nat → Int32} {dv : Nat → Int}
set_option maxHeartbeats 4000000 in
set_option maxRecDepth 100000 in
/-- isClosed(q) -/
theorem k_isClosed (hI : aw_In P S K N w ch) {q : Int} (hq : 0 ≤ q ∧ q < aw_gc w N) : aw_RO l yX0_isClosed wsX0_isClosed (aw_rm 2 43) D (aw_T yZ yI) (aw_W3 yZ yI o oa ba P S K N ty px pr w ch ob g) [.ref o, .int (zI q)] (aw_b (aw_cl w N ob q)) := by
  refine Met.ofW (cc := cX0_isClosed) (maxL := 4) (ret := (some .boolean)) (by decide) rfl ?_
  intro p e s m args below meth c s₁ B hml hv
  obtain ⟨rfl, hP, hK⟩ := hv
  have hx := B.exec
  have hb := B.bytes
  have hr := B.returns
  have hts := atoms_spec (ws := wsX0_isClosed) B.pre
  have hown : s.vm.findClass RX0 = some m.cls := findClass_of_methodNamed B.named
  have hlocks := B.notSynchronized
  have hin : ∀ w ∈ wsX00, w ∈ wsX0_isClosed := fun w h => List.mem_cons_of_mem _ (List.mem_append_right _ h)
  have hf_21 := hts (.fieldLink RX0 21 "ArmatureWinding" "coils" "I") (by decide +kernel)
  have hf_37 := hts (.fieldLink RX0 37 "ArmatureWinding" "pitch" "I") (by decide +kernel)
  have hl := lv_entry ([.ref o, .int (zI q)]) (n := 4) (Nat.le_of_ble_eq_true rfl)
  rw [lg_entry_eq]
  generalize (lg_sl ([.ref o, .int (zI q)]) ++ List.replicate (4 - (lg_sl ([.ref o, .int (zI q)])).length) Slot.unset).toArray = ls at hl ⊢
  have hl : lv_has ls 4 [(0, .ref o), (1, .int (zI q))] := hl
  obtain ⟨i1, i2, i3, i4, i5, i6, i7, i8, i9, i10, i11, i12, i13⟩ := id hI
  have hG := aw_gc_in (w := w) (N := N) (by omega)
  have hL := aw_ln_in (w := w) (N := N) (by omega)
  refine lv_aload_n hx hb dX0_isClosed_0 rfl (lv_at hl 0 rfl) ?_
  refine aw_callV (As := []) (rest := []) ⟨hx, hb, hml, hown, hts⟩ (k_circuitLength hI) (cwV 0 hts gX0_isClosed_X0_circuitLength rfl rfl rfl (by decide +kernel) ⟨Nat.le_of_ble_eq_true rfl, Nat.le_of_ble_eq_true rfl⟩) hP hK rfl rfl rfl hl.1 rfl (Nat.le_of_ble_eq_true rfl) dX0_isClosed_1 ⟨Nat.zero_le _, Nat.zero_le _⟩ ?_
  refine lv_istore_n (lv' := [(2, .int (zI (aw_ln w N))), (0, .ref o), (1, .int (zI q))]) hx hb dX0_isClosed_4 rfl hl (by decide) rfl (fun ls hl => ?_)
  refine zb_iconst hx hb dX0_isClosed_5 ?_
  refine lv_istore_n (lv' := [(3, .int (zI 0)), (2, .int (zI (aw_ln w N))), (0, .ref o), (1, .int (zI q))]) hx hb dX0_isClosed_6 rfl hl (by decide) rfl (fun ls hl => ?_)
  refine zb_lp1 (nL := 4) (fun j => 0 ≤ j ∧ j ≤ aw_ln w N ∧ aw_al (aw_ci w N ob q) j = true) (fun j => [(3, .int (zI j)), (2, .int (zI (aw_ln w N))), (1, .int (zI q)), (0, .ref o)]) (fun j => aw_ln w N - j) 0 ⟨by omega, by omega, aw_al_0 _⟩ (lv_sub hl [0, 1, 3, 2] rfl) ?_
  intro j ls hJ7 hl ih7
  have hJ7 : 0 ≤ j ∧ j ≤ aw_ln w N ∧ aw_al (aw_ci w N ob q) j = true := hJ7
  have hl : lv_has ls 4 [(3, .int (zI j)), (2, .int (zI (aw_ln w N))), (1, .int (zI q)), (0, .ref o)] := hl
  have hj := aw_mul (x := j) (y := w) (a := 72) (b := 80) (by omega) (by omega) (by omega) (by omega)
  have hjm := aw_mod (x := q + j * w) (n := N) (by omega)
  have hb1 := aw_b_01 (ob ((q + j * w) % N))
  refine lv_iload_n hx hb dX0_isClosed_7 rfl (lv_at hl 0 rfl) ?_
  refine lv_iload_n hx hb dX0_isClosed_8 rfl (lv_at hl 1 rfl) ?_
  refine zb_cge (tgt := 42) hx hb dX0_isClosed_9 (by decide) (by omega) (by omega) (fun c9 => ?_) (fun c9 => ?_)
  · skip
    refine zb_iconst hx hb dX0_isClosed_42 ?_
    exact aw_zret hx hb hr hlocks dX0_isClosed_43 (by omega) (have e : j = aw_ln w N := (by omega); by unfold aw_cl; rw [← e, hJ7.2.2]; rfl)
  · skip
    refine lv_aload_n hx hb dX0_isClosed_12 rfl (lv_at hl 3 rfl) ?_
    refine lv_iload_n hx hb dX0_isClosed_13 rfl (lv_at hl 2 rfl) ?_
    refine lv_iload_n hx hb dX0_isClosed_14 rfl (lv_at hl 0 rfl) ?_
    refine lv_aload_n hx hb dX0_isClosed_15 rfl (lv_at hl 3 rfl) ?_
    refine va_get (D := D) (ci := 0) (v := .int (zI w)) (C := RX0) (T := TX0) (N := 11) hx hb hts hin hown hK hP 0 rfl rfl 7 (by decide) hf_37 (fun _ h9 => h9) rfl dX0_isClosed_16 ?_
    refine zb_mul hx hb dX0_isClosed_19 ?_
    refine zb_add hx hb dX0_isClosed_20 ?_
    refine lv_aload_n hx hb dX0_isClosed_21 rfl (lv_at hl 3 rfl) ?_
    refine va_get (D := D) (ci := 0) (v := .int (zI N)) (C := RX0) (T := TX0) (N := 11) hx hb hts hin hown hK hP 0 rfl rfl 3 (by decide) hf_21 (fun _ h9 => h9) rfl dX0_isClosed_22 ?_
    refine aw_callS (As := [.int (zI (q + (j * w))), .int (zI N)]) (rest := [.ref o]) ⟨hx, hb, hml, hown, hts⟩ (k_wrap (x := q + j * w) (n := N) ⟨by omega, by omega⟩ ⟨by omega, by omega⟩) (va_cwS 2 hts gX0_isClosed_X0_wrap rfl rfl rfl (by decide +kernel) ⟨Nat.le_of_ble_eq_true rfl, Nat.le_of_ble_eq_true rfl⟩) (hP.sub (ws' := []) [] rfl) (hK.sub (tys' := []) [] rfl) rfl hl.1 rfl (Nat.le_of_ble_eq_true rfl) dX0_isClosed_25 ⟨Nat.zero_le _, Nat.zero_le _⟩ ?_
    refine aw_callV (As := [.int (zI ((q + j * w) % N))]) (rest := []) ⟨hx, hb, hml, hown, hts⟩ (k_isOpen (z := (q + j * w) % N) ⟨by omega, by omega⟩) (cwV 1 hts gX0_isClosed_X0_isOpen rfl rfl rfl (by decide +kernel) ⟨Nat.le_of_ble_eq_true rfl, Nat.le_of_ble_eq_true rfl⟩) hP hK rfl rfl rfl hl.1 rfl (Nat.le_of_ble_eq_true rfl) dX0_isClosed_28 ⟨Nat.zero_le _, Nat.zero_le _⟩ ?_
    refine zb_ieq (tgt := 36) hx hb dX0_isClosed_31 (by decide) (by omega) (fun c31 => ?_) (fun c31 => ?_)
    · skip
      refine zb_iinc (lv' := [(3, .int (zI (j + 1))), (2, .int (zI (aw_ln w N))), (1, .int (zI q)), (0, .ref o)]) hx hb dX0_isClosed_36 hl (k := 0) rfl (by decide) rfl (fun ls hl => ?_)
      refine lv_goto (tgt := 7) hx hb dX0_isClosed_39 (by decide) ?_
      exact ih7 (j + 1) ls ⟨by omega, by omega, by rw [aw_al_s _ hJ7.1, hJ7.2.2, Bool.true_and]; unfold aw_ci; rw [aw_b_eq0.mp c31]; rfl⟩ (by omega) (lv_sub hl [0, 1, 2, 3] rfl)
    · skip
      refine zb_iconst hx hb dX0_isClosed_34 ?_
      exact aw_zret hx hb hr hlocks dX0_isClosed_35 (by omega) (by unfold aw_cl; rw [aw_al_f _ (k := j) hJ7.1 (by omega) (by unfold aw_ci; rw [aw_b_ne0.mp c31]; rfl)]; rfl)
set_option maxHeartbeats 4000000 in
set_option maxRecDepth 100000 in
/-- closedCircuits() -/
theorem k_closedCircuits (hI : aw_In P S K N w ch) : aw_RO l yX0_closedCircuits wsX0_closedCircuits (aw_rm 3 66) D (aw_T yZ yI) (aw_W3 yZ yI o oa ba P S K N ty px pr w ch ob g) [.ref o] (aw_cn (aw_cl w N ob) (aw_gc w N)) := by
  refine Met.ofW (cc := cX0_closedCircuits) (maxL := 4) (ret := (some .int)) (by decide) rfl ?_
  intro p e s m args below meth c s₁ B hml hv
  obtain ⟨rfl, hP, hK⟩ := hv
  have hx := B.exec
  have hb := B.bytes
  have hr := B.returns
  have hts := atoms_spec (ws := wsX0_closedCircuits) B.pre
  have hown : s.vm.findClass RX0 = some m.cls := findClass_of_methodNamed B.named
  have hlocks := B.notSynchronized
  have hl := lv_entry ([.ref o]) (n := 4) (Nat.le_of_ble_eq_true rfl)
  rw [lg_entry_eq]
  generalize (lg_sl ([.ref o]) ++ List.replicate (4 - (lg_sl ([.ref o])).length) Slot.unset).toArray = ls at hl ⊢
  have hl : lv_has ls 4 [(0, .ref o)] := hl
  obtain ⟨i1, i2, i3, i4, i5, i6, i7, i8, i9, i10, i11, i12, i13⟩ := id hI
  have hG := aw_gc_in (w := w) (N := N) (by omega)
  have hL := aw_ln_in (w := w) (N := N) (by omega)
  refine lv_aload_n hx hb dX0_closedCircuits_0 rfl (lv_at hl 0 rfl) ?_
  refine aw_callV (As := []) (rest := []) ⟨hx, hb, hml, hown, hts⟩ (k_circuitCount hI) (cwV 0 hts gX0_closedCircuits_X0_circuitCount rfl rfl rfl (by decide +kernel) ⟨Nat.le_of_ble_eq_true rfl, Nat.le_of_ble_eq_true rfl⟩) hP hK rfl rfl rfl hl.1 rfl (Nat.le_of_ble_eq_true rfl) dX0_closedCircuits_1 ⟨Nat.zero_le _, Nat.zero_le _⟩ ?_
  refine lv_istore_n (lv' := [(1, .int (zI (aw_gc w N))), (0, .ref o)]) hx hb dX0_closedCircuits_4 rfl hl (by decide) rfl (fun ls hl => ?_)
  refine zb_iconst hx hb dX0_closedCircuits_5 ?_
  refine lv_istore_n (lv' := [(2, .int (zI 0)), (1, .int (zI (aw_gc w N))), (0, .ref o)]) hx hb dX0_closedCircuits_6 rfl hl (by decide) rfl (fun ls hl => ?_)
  refine zb_iconst hx hb dX0_closedCircuits_7 ?_
  refine lv_istore_n (lv' := [(3, .int (zI 0)), (2, .int (zI 0)), (1, .int (zI (aw_gc w N))), (0, .ref o)]) hx hb dX0_closedCircuits_8 rfl hl (by decide) rfl (fun ls hl => ?_)
  refine zb_lp2 (nL := 4) (fun n q => 0 ≤ q ∧ q ≤ aw_gc w N ∧ n = aw_cn (aw_cl w N ob) q) (fun n q => [(3, .int (zI q)), (2, .int (zI n)), (1, .int (zI (aw_gc w N))), (0, .ref o)]) (fun n q => aw_gc w N - q) 0 0 ⟨by omega, by omega, (aw_cn_0 _).symm⟩ (lv_sub hl [0, 1, 2, 3] rfl) ?_
  intro n q ls hJ9 hl ih9
  have hJ9 : 0 ≤ q ∧ q ≤ aw_gc w N ∧ n = aw_cn (aw_cl w N ob) q := hJ9
  have hl : lv_has ls 4 [(3, .int (zI q)), (2, .int (zI n)), (1, .int (zI (aw_gc w N))), (0, .ref o)] := hl
  have hb1 := aw_b_01 (aw_cl w N ob q)
  refine lv_iload_n hx hb dX0_closedCircuits_9 rfl (lv_at hl 0 rfl) ?_
  refine lv_iload_n hx hb dX0_closedCircuits_10 rfl (lv_at hl 2 rfl) ?_
  refine zb_cge (tgt := 31) hx hb dX0_closedCircuits_11 (by decide) (by omega) (by omega) (fun c11 => ?_) (fun c11 => ?_)
  · skip
    refine lv_iload_n hx hb dX0_closedCircuits_31 rfl (lv_at hl 1 rfl) ?_
    exact aw_iret hx hb hr hlocks dX0_closedCircuits_32 (have e : q = aw_gc w N := (by omega); by rw [hJ9.2.2, e])
  · skip
    refine lv_aload_n hx hb dX0_closedCircuits_14 rfl (lv_at hl 3 rfl) ?_
    refine lv_iload_n hx hb dX0_closedCircuits_15 rfl (lv_at hl 0 rfl) ?_
    refine aw_callV (As := [.int (zI q)]) (rest := []) ⟨hx, hb, hml, hown, hts⟩ (k_isClosed (q := q) hI ⟨by omega, by omega⟩) (cwV 1 hts gX0_closedCircuits_X0_isClosed rfl rfl rfl (by decide +kernel) ⟨Nat.le_of_ble_eq_true rfl, Nat.le_of_ble_eq_true rfl⟩) hP hK rfl rfl rfl hl.1 rfl (Nat.le_of_ble_eq_true rfl) dX0_closedCircuits_16 ⟨Nat.zero_le _, Nat.zero_le _⟩ ?_
    refine zb_ieq (tgt := 25) hx hb dX0_closedCircuits_19 (by decide) (by omega) (fun c19 => ?_) (fun c19 => ?_)
    · skip
      refine zb_iinc (lv' := [(3, .int (zI (q + 1))), (2, .int (zI n)), (1, .int (zI (aw_gc w N))), (0, .ref o)]) hx hb dX0_closedCircuits_25 hl (k := 0) rfl (by decide) rfl (fun ls hl => ?_)
      refine lv_goto (tgt := 9) hx hb dX0_closedCircuits_28 (by decide) ?_
      exact ih9 n (q + 1) ls ⟨by omega, by omega, by rw [aw_cn_s _ hJ9.1, aw_b_f (aw_b_eq0.mp c19), hJ9.2.2, Int.add_zero]⟩ (by omega) (lv_sub hl [0, 1, 2, 3] rfl)
    · skip
      refine zb_iinc (lv' := [(2, .int (zI (n + 1))), (3, .int (zI q)), (1, .int (zI (aw_gc w N))), (0, .ref o)]) hx hb dX0_closedCircuits_22 hl (k := 1) rfl (by decide) rfl (fun ls hl => ?_)
      refine zb_iinc (lv' := [(3, .int (zI (q + 1))), (2, .int (zI (n + 1))), (1, .int (zI (aw_gc w N))), (0, .ref o)]) hx hb dX0_closedCircuits_25 hl (k := 1) rfl (by decide) rfl (fun ls hl => ?_)
      refine lv_goto (tgt := 9) hx hb dX0_closedCircuits_28 (by decide) ?_
      exact ih9 (n + 1) (q + 1) ls ⟨by omega, by omega, by rw [aw_cn_s _ hJ9.1, aw_b_t (aw_b_ne0.mp c19), hJ9.2.2]⟩ (by omega) (lv_sub hl [0, 1, 2, 3] rfl)
set_option maxHeartbeats 4000000 in
set_option maxRecDepth 100000 in
/-- sideVoltage(a, t) -/
theorem k_sideVoltage (hI : aw_In P S K N w ch) {a t : Int} (ha : 0 ≤ a ∧ a ≤ 100) (ht : 0 ≤ t ∧ t ≤ 200) : aw_RO l yX0_sideVoltage wsX0_sideVoltage (aw_rm 1 22) D (aw_T yZ yI) (aw_W3 yZ yI o oa ba P S K N ty px pr w ch ob g) [.ref o, .int (zI a), .int (zI t)] (aw_sd P S a t) := by
  refine Met.ofW (cc := cX0_sideVoltage) (maxL := 4) (ret := (some .int)) (by decide) rfl ?_
  intro p e s m args below meth c s₁ B hml hv
  obtain ⟨rfl, hP, hK⟩ := hv
  have hx := B.exec
  have hb := B.bytes
  have hr := B.returns
  have hts := atoms_spec (ws := wsX0_sideVoltage) B.pre
  have hown : s.vm.findClass RX0 = some m.cls := findClass_of_methodNamed B.named
  have hlocks := B.notSynchronized
  have hin : ∀ w ∈ wsX00, w ∈ wsX0_sideVoltage := fun w h => List.mem_cons_of_mem _ (List.mem_append_right _ h)
  have hf_46 := hts (.fieldLink RX0 46 "ArmatureWinding" "poles" "I") (by decide +kernel)
  have hf_49 := hts (.fieldLink RX0 49 "ArmatureWinding" "slots" "I") (by decide +kernel)
  have hl := lv_entry ([.ref o, .int (zI a), .int (zI t)]) (n := 4) (Nat.le_of_ble_eq_true rfl)
  rw [lg_entry_eq]
  generalize (lg_sl ([.ref o, .int (zI a), .int (zI t)]) ++ List.replicate (4 - (lg_sl ([.ref o, .int (zI a), .int (zI t)])).length) Slot.unset).toArray = ls at hl ⊢
  have hl : lv_has ls 4 [(0, .ref o), (1, .int (zI a)), (2, .int (zI t))] := hl
  obtain ⟨i1, i2, i3, i4, i5, i6, i7, i8, i9, i10, i11, i12, i13⟩ := id hI
  have hm := aw_mod (x := a + t) (n := S) (by omega)
  have hj := aw_mul (x := (a + t) % S) (y := P) (a := 24) (b := 8) (by omega) (by omega) (by omega) (by omega)
  have hj0 : 0 ≤ (a + t) % S * P := Int.mul_nonneg (by omega) (by omega)
  have hd := aw_div (x := (a + t) % S * P) (n := S) (by omega) (by omega)
  refine lv_aload_n hx hb dX0_sideVoltage_0 rfl (lv_at hl 0 rfl) ?_
  refine va_get (D := D) (ci := 0) (v := .int (zI S)) (C := RX0) (T := TX0) (N := 11) hx hb hts hin hown hK hP 0 rfl rfl 1 (by decide) hf_49 (fun _ h9 => h9) rfl dX0_sideVoltage_1 ?_
  refine zb_ile (tgt := 30) hx hb dX0_sideVoltage_4 (by decide) (by omega) (fun c4 => absurd c4 (by omega)) (fun c4 => ?_)
  refine lv_iload_n hx hb dX0_sideVoltage_7 rfl (lv_at hl 1 rfl) ?_
  refine lv_iload_n hx hb dX0_sideVoltage_8 rfl (lv_at hl 2 rfl) ?_
  refine zb_add hx hb dX0_sideVoltage_9 ?_
  refine lv_aload_n hx hb dX0_sideVoltage_10 rfl (lv_at hl 0 rfl) ?_
  refine va_get (D := D) (ci := 0) (v := .int (zI S)) (C := RX0) (T := TX0) (N := 11) hx hb hts hin hown hK hP 0 rfl rfl 1 (by decide) hf_49 (fun _ h9 => h9) rfl dX0_sideVoltage_11 ?_
  refine aw_callS (As := [.int (zI (a + t)), .int (zI S)]) (rest := []) ⟨hx, hb, hml, hown, hts⟩ (k_wrap (x := a + t) (n := S) ⟨by omega, by omega⟩ ⟨by omega, by omega⟩) (va_cwS 2 hts gX0_sideVoltage_X0_wrap rfl rfl rfl (by decide +kernel) ⟨Nat.le_of_ble_eq_true rfl, Nat.le_of_ble_eq_true rfl⟩) (hP.sub (ws' := []) [] rfl) (hK.sub (tys' := []) [] rfl) rfl hl.1 rfl (Nat.le_of_ble_eq_true rfl) dX0_sideVoltage_14 ⟨Nat.zero_le _, Nat.zero_le _⟩ ?_
  refine lv_aload_n hx hb dX0_sideVoltage_17 rfl (lv_at hl 0 rfl) ?_
  refine va_get (D := D) (ci := 0) (v := .int (zI P)) (C := RX0) (T := TX0) (N := 11) hx hb hts hin hown hK hP 0 rfl rfl 0 (by decide) hf_46 (fun _ h9 => h9) rfl dX0_sideVoltage_18 ?_
  refine zb_mul hx hb dX0_sideVoltage_21 ?_
  refine lv_aload_n hx hb dX0_sideVoltage_22 rfl (lv_at hl 0 rfl) ?_
  refine va_get (D := D) (ci := 0) (v := .int (zI S)) (C := RX0) (T := TX0) (N := 11) hx hb hts hin hown hK hP 0 rfl rfl 1 (by decide) hf_49 (fun _ h9 => h9) rfl dX0_sideVoltage_23 ?_
  refine zb_div hx hb dX0_sideVoltage_26 (by omega) (by omega) ?_
  refine lv_goto (tgt := 31) hx hb dX0_sideVoltage_27 (by decide) ?_
  refine lv_istore_n (lv' := [(3, .int (zI ((((a + t) % S) * P) / S))), (0, .ref o), (1, .int (zI a)), (2, .int (zI t))]) hx hb dX0_sideVoltage_31 rfl hl (by decide) rfl (fun ls hl => ?_)
  refine lv_iload_n hx hb dX0_sideVoltage_32 rfl (lv_at hl 0 rfl) ?_
  refine zb_iconst hx hb dX0_sideVoltage_33 ?_
  refine zb_rem hx hb dX0_sideVoltage_34 (by omega) (by omega) ?_
  refine zb_ine (tgt := 42) hx hb dX0_sideVoltage_35 (by decide) (by omega) (fun c35 => ?_) (fun c35 => ?_)
  · skip
    refine zb_iconst hx hb dX0_sideVoltage_42 ?_
    exact aw_iret hx hb hr hlocks dX0_sideVoltage_43 (by unfold aw_sd; rw [if_neg (by omega)])
  · skip
    refine zb_iconst hx hb dX0_sideVoltage_38 ?_
    refine lv_goto (tgt := 43) hx hb dX0_sideVoltage_39 (by decide) ?_
    exact aw_iret hx hb hr hlocks dX0_sideVoltage_43 (by unfold aw_sd; rw [if_pos (by omega)])
set_option maxHeartbeats 4000000 in
set_option maxRecDepth 100000 in
/-- coilVoltage(z, t) -/
theorem k_coilVoltage (hI : aw_In P S K N w ch) {z t : Int} (hz : 0 ≤ z ∧ z < N) (ht : 0 ≤ t ∧ t ≤ 100) : aw_RO l yX0_coilVoltage wsX0_coilVoltage (aw_rm 2 45) D (aw_T yZ yI) (aw_W3 yZ yI o oa ba P S K N ty px pr w ch ob g) [.ref o, .int (zI z), .int (zI t)] (aw_vt P S K ch z t) := by
  refine Met.ofW (cc := cX0_coilVoltage) (maxL := 3) (ret := (some .int)) (by decide) rfl ?_
  intro p e s m args below meth c s₁ B hml hv
  obtain ⟨rfl, hP, hK⟩ := hv
  have hx := B.exec
  have hb := B.bytes
  have hr := B.returns
  have hts := atoms_spec (ws := wsX0_coilVoltage) B.pre
  have hown : s.vm.findClass RX0 = some m.cls := findClass_of_methodNamed B.named
  have hlocks := B.notSynchronized
  have hin : ∀ w ∈ wsX00, w ∈ wsX0_coilVoltage := fun w h => List.mem_cons_of_mem _ (List.mem_append_right _ h)
  have hf_21 := hts (.fieldLink RX0 21 "ArmatureWinding" "coils" "I") (by decide +kernel)
  have hl := lv_entry ([.ref o, .int (zI z), .int (zI t)]) (n := 3) (Nat.le_of_ble_eq_true rfl)
  rw [lg_entry_eq]
  generalize (lg_sl ([.ref o, .int (zI z), .int (zI t)]) ++ List.replicate (3 - (lg_sl ([.ref o, .int (zI z), .int (zI t)])).length) Slot.unset).toArray = ls at hl ⊢
  have hl : lv_has ls 3 [(0, .ref o), (1, .int (zI z)), (2, .int (zI t))] := hl
  obtain ⟨i1, i2, i3, i4, i5, i6, i7, i8, i9, i10, i11, i12, i13⟩ := id hI
  have hq := aw_div (x := z) (n := K) (by omega) (by omega)
  have hqs := aw_divlt (z := z) i7 (by omega) (by omega)
  have hlo : 0 ≤ aw_lo P S K ch z ∧ aw_lo P S K ch z < S := aw_mod (by omega)
  refine lv_iload_n hx hb dX0_coilVoltage_0 rfl (lv_at hl 1 rfl) ?_
  refine zb_ilt (tgt := 12) hx hb dX0_coilVoltage_1 (by decide) (by omega) (fun c1 => absurd c1 (by omega)) (fun c1 => ?_)
  refine lv_iload_n hx hb dX0_coilVoltage_4 rfl (lv_at hl 1 rfl) ?_
  refine lv_aload_n hx hb dX0_coilVoltage_5 rfl (lv_at hl 0 rfl) ?_
  refine va_get (D := D) (ci := 0) (v := .int (zI N)) (C := RX0) (T := TX0) (N := 11) hx hb hts hin hown hK hP 0 rfl rfl 3 (by decide) hf_21 (fun _ h9 => h9) rfl dX0_coilVoltage_6 ?_
  refine zb_clt (tgt := 16) hx hb dX0_coilVoltage_9 (by decide) (by omega) (by omega) (fun c9 => ?_) (fun c9 => absurd c9 (by omega))
  refine lv_iload_n hx hb dX0_coilVoltage_16 rfl (lv_at hl 2 rfl) ?_
  refine zb_ilt (tgt := 26) hx hb dX0_coilVoltage_17 (by decide) (by omega) (fun c17 => absurd c17 (by omega)) (fun c17 => ?_)
  refine lv_iload_n hx hb dX0_coilVoltage_20 rfl (lv_at hl 2 rfl) ?_
  refine zb_bipush hx hb dX0_coilVoltage_21 (by decide) ?_
  refine zb_cle (tgt := 30) hx hb dX0_coilVoltage_23 (by decide) (by omega) (by omega) (fun c23 => ?_) (fun c23 => absurd c23 (by omega))
  refine lv_aload_n hx hb dX0_coilVoltage_30 rfl (lv_at hl 0 rfl) ?_
  refine lv_aload_n hx hb dX0_coilVoltage_31 rfl (lv_at hl 0 rfl) ?_
  refine lv_iload_n hx hb dX0_coilVoltage_32 rfl (lv_at hl 1 rfl) ?_
  refine aw_callV (As := [.int (zI z)]) (rest := [.ref o]) ⟨hx, hb, hml, hown, hts⟩ (k_upperSlot hI hz) (cwV 1 hts gX0_coilVoltage_X0_upperSlot rfl rfl rfl (by decide +kernel) ⟨Nat.le_of_ble_eq_true rfl, Nat.le_of_ble_eq_true rfl⟩) hP hK rfl rfl rfl hl.1 rfl (Nat.le_of_ble_eq_true rfl) dX0_coilVoltage_33 ⟨Nat.zero_le _, Nat.zero_le _⟩ ?_
  refine lv_iload_n hx hb dX0_coilVoltage_36 rfl (lv_at hl 2 rfl) ?_
  refine aw_callV (As := [.int (zI (z / K)), .int (zI t)]) (rest := []) ⟨hx, hb, hml, hown, hts⟩ (k_sideVoltage (a := z / K) (t := t) hI ⟨by omega, by omega⟩ ⟨by omega, by omega⟩) (cwV 2 hts gX0_coilVoltage_X0_sideVoltage rfl rfl rfl (by decide +kernel) ⟨Nat.le_of_ble_eq_true rfl, Nat.le_of_ble_eq_true rfl⟩) hP hK rfl rfl rfl hl.1 rfl (Nat.le_of_ble_eq_true rfl) dX0_coilVoltage_37 ⟨Nat.zero_le _, Nat.zero_le _⟩ ?_
  refine lv_aload_n hx hb dX0_coilVoltage_40 rfl (lv_at hl 0 rfl) ?_
  refine lv_aload_n hx hb dX0_coilVoltage_41 rfl (lv_at hl 0 rfl) ?_
  refine lv_iload_n hx hb dX0_coilVoltage_42 rfl (lv_at hl 1 rfl) ?_
  refine aw_callV (As := [.int (zI z)]) (rest := [.ref o, .int (zI (aw_sd P S (z / K) t))]) ⟨hx, hb, hml, hown, hts⟩ (k_lowerSlot hI hz) (cwV 1 hts gX0_coilVoltage_X0_lowerSlot rfl rfl rfl (by decide +kernel) ⟨Nat.le_of_ble_eq_true rfl, Nat.le_of_ble_eq_true rfl⟩) hP hK rfl rfl rfl hl.1 rfl (Nat.le_of_ble_eq_true rfl) dX0_coilVoltage_43 ⟨Nat.zero_le _, Nat.zero_le _⟩ ?_
  refine lv_iload_n hx hb dX0_coilVoltage_46 rfl (lv_at hl 2 rfl) ?_
  refine aw_callV (As := [.int (zI (aw_lo P S K ch z)), .int (zI t)]) (rest := [.int (zI (aw_sd P S (z / K) t))]) ⟨hx, hb, hml, hown, hts⟩ (k_sideVoltage (a := aw_lo P S K ch z) (t := t) hI ⟨by omega, by omega⟩ ⟨by omega, by omega⟩) (cwV 2 hts gX0_coilVoltage_X0_sideVoltage rfl rfl rfl (by decide +kernel) ⟨Nat.le_of_ble_eq_true rfl, Nat.le_of_ble_eq_true rfl⟩) hP hK rfl rfl rfl hl.1 rfl (Nat.le_of_ble_eq_true rfl) dX0_coilVoltage_47 ⟨Nat.zero_le _, Nat.zero_le _⟩ ?_
  refine zb_sub hx hb dX0_coilVoltage_50 ?_
  exact aw_iret hx hb hr hlocks dX0_coilVoltage_51 (by first | rfl | omega)
set_option maxHeartbeats 4000000 in
set_option maxRecDepth 100000 in
/-- coilVoltage(z, t), no such turn -/
theorem k_coilVoltage_oor (hI : aw_In P S K N w ch) {z t : Int} (hz : 0 ≤ z ∧ z < N) (ht : -1000 ≤ t ∧ t ≤ 1000) (ht2 : t < 0 ∨ 100 < t) : aw_RO l yX0_coilVoltage wsX0_coilVoltage (aw_rm 2 45) D (aw_T yZ yI) (aw_W3 yZ yI o oa ba P S K N ty px pr w ch ob g) [.ref o, .int (zI z), .int (zI t)] (-1001) := by
  refine Met.ofW (cc := cX0_coilVoltage) (maxL := 3) (ret := (some .int)) (by decide) rfl ?_
  intro p e s m args below meth c s₁ B hml hv
  obtain ⟨rfl, hP, hK⟩ := hv
  have hx := B.exec
  have hb := B.bytes
  have hr := B.returns
  have hts := atoms_spec (ws := wsX0_coilVoltage) B.pre
  have hown : s.vm.findClass RX0 = some m.cls := findClass_of_methodNamed B.named
  have hlocks := B.notSynchronized
  have hin : ∀ w ∈ wsX00, w ∈ wsX0_coilVoltage := fun w h => List.mem_cons_of_mem _ (List.mem_append_right _ h)
  have hf_21 := hts (.fieldLink RX0 21 "ArmatureWinding" "coils" "I") (by decide +kernel)
  have hl := lv_entry ([.ref o, .int (zI z), .int (zI t)]) (n := 3) (Nat.le_of_ble_eq_true rfl)
  rw [lg_entry_eq]
  generalize (lg_sl ([.ref o, .int (zI z), .int (zI t)]) ++ List.replicate (3 - (lg_sl ([.ref o, .int (zI z), .int (zI t)])).length) Slot.unset).toArray = ls at hl ⊢
  have hl : lv_has ls 3 [(0, .ref o), (1, .int (zI z)), (2, .int (zI t))] := hl
  obtain ⟨i1, i2, i3, i4, i5, i6, i7, i8, i9, i10, i11, i12, i13⟩ := id hI
  refine lv_iload_n hx hb dX0_coilVoltage_0 rfl (lv_at hl 1 rfl) ?_
  refine zb_ilt (tgt := 12) hx hb dX0_coilVoltage_1 (by decide) (by omega) (fun c1 => absurd c1 (by omega)) (fun c1 => ?_)
  refine lv_iload_n hx hb dX0_coilVoltage_4 rfl (lv_at hl 1 rfl) ?_
  refine lv_aload_n hx hb dX0_coilVoltage_5 rfl (lv_at hl 0 rfl) ?_
  refine va_get (D := D) (ci := 0) (v := .int (zI N)) (C := RX0) (T := TX0) (N := 11) hx hb hts hin hown hK hP 0 rfl rfl 3 (by decide) hf_21 (fun _ h9 => h9) rfl dX0_coilVoltage_6 ?_
  refine zb_clt (tgt := 16) hx hb dX0_coilVoltage_9 (by decide) (by omega) (by omega) (fun c9 => ?_) (fun c9 => absurd c9 (by omega))
  refine lv_iload_n hx hb dX0_coilVoltage_16 rfl (lv_at hl 2 rfl) ?_
  refine zb_ilt (tgt := 26) hx hb dX0_coilVoltage_17 (by decide) (by omega) (fun c17 => ?_) (fun c17 => ?_)
  · skip
    refine zb_sipush hx hb dX0_coilVoltage_26 (by decide) ?_
    exact aw_iret hx hb hr hlocks dX0_coilVoltage_29 (by first | rfl | omega)
  · skip
    refine lv_iload_n hx hb dX0_coilVoltage_20 rfl (lv_at hl 2 rfl) ?_
    refine zb_bipush hx hb dX0_coilVoltage_21 (by decide) ?_
    refine zb_cle (tgt := 30) hx hb dX0_coilVoltage_23 (by decide) (by omega) (by omega) (fun c23 => absurd c23 (by omega)) (fun c23 => ?_)
    refine zb_sipush hx hb dX0_coilVoltage_26 (by decide) ?_
    exact aw_iret hx hb hr hlocks dX0_coilVoltage_29 (by first | rfl | omega)
set_option maxHeartbeats 4000000 in
set_option maxRecDepth 100000 in
/-- coilVoltage(z, t), no such coil -/
theorem k_coilVoltage_no (hI : aw_In P S K N w ch) {z t : Int} (hz : -1000 ≤ z ∧ z ≤ 1000) (hz2 : z < 0 ∨ N ≤ z) : aw_RO l yX0_coilVoltage wsX0_coilVoltage (aw_rm 2 45) D (aw_T yZ yI) (aw_W3 yZ yI o oa ba P S K N ty px pr w ch ob g) [.ref o, .int (zI z), .int (zI t)] (-1002) := by
  refine Met.ofW (cc := cX0_coilVoltage) (maxL := 3) (ret := (some .int)) (by decide) rfl ?_
  intro p e s m args below meth c s₁ B hml hv
  obtain ⟨rfl, hP, hK⟩ := hv
  have hx := B.exec
  have hb := B.bytes
  have hr := B.returns
  have hts := atoms_spec (ws := wsX0_coilVoltage) B.pre
  have hown : s.vm.findClass RX0 = some m.cls := findClass_of_methodNamed B.named
  have hlocks := B.notSynchronized
  have hin : ∀ w ∈ wsX00, w ∈ wsX0_coilVoltage := fun w h => List.mem_cons_of_mem _ (List.mem_append_right _ h)
  have hf_21 := hts (.fieldLink RX0 21 "ArmatureWinding" "coils" "I") (by decide +kernel)
  have hl := lv_entry ([.ref o, .int (zI z), .int (zI t)]) (n := 3) (Nat.le_of_ble_eq_true rfl)
  rw [lg_entry_eq]
  generalize (lg_sl ([.ref o, .int (zI z), .int (zI t)]) ++ List.replicate (3 - (lg_sl ([.ref o, .int (zI z), .int (zI t)])).length) Slot.unset).toArray = ls at hl ⊢
  have hl : lv_has ls 3 [(0, .ref o), (1, .int (zI z)), (2, .int (zI t))] := hl
  obtain ⟨i1, i2, i3, i4, i5, i6, i7, i8, i9, i10, i11, i12, i13⟩ := id hI
  refine lv_iload_n hx hb dX0_coilVoltage_0 rfl (lv_at hl 1 rfl) ?_
  refine zb_ilt (tgt := 12) hx hb dX0_coilVoltage_1 (by decide) (by omega) (fun c1 => ?_) (fun c1 => ?_)
  · skip
    refine zb_sipush hx hb dX0_coilVoltage_12 (by decide) ?_
    exact aw_iret hx hb hr hlocks dX0_coilVoltage_15 (by first | rfl | omega)
  · skip
    refine lv_iload_n hx hb dX0_coilVoltage_4 rfl (lv_at hl 1 rfl) ?_
    refine lv_aload_n hx hb dX0_coilVoltage_5 rfl (lv_at hl 0 rfl) ?_
    refine va_get (D := D) (ci := 0) (v := .int (zI N)) (C := RX0) (T := TX0) (N := 11) hx hb hts hin hown hK hP 0 rfl rfl 3 (by decide) hf_21 (fun _ h9 => h9) rfl dX0_coilVoltage_6 ?_
    refine zb_clt (tgt := 16) hx hb dX0_coilVoltage_9 (by decide) (by omega) (by omega) (fun c9 => absurd c9 (by omega)) (fun c9 => ?_)
    refine zb_sipush hx hb dX0_coilVoltage_12 (by decide) ?_
    exact aw_iret hx hb hr hlocks dX0_coilVoltage_15 (by first | rfl | omega)
set_option maxHeartbeats 4000000 in
set_option maxRecDepth 100000 in
/-- openCoilsIn(a) -/
theorem k_openCoilsIn (hI : aw_In P S K N w ch) {a : Int} (ha : 0 ≤ a ∧ a < S) : aw_RO l yX0_openCoilsIn wsX0_openCoilsIn (aw_rm 2 43) D (aw_T yZ yI) (aw_W3 yZ yI o oa ba P S K N ty px pr w ch ob g) [.ref o, .int (zI a)] (aw_cn (aw_oc P S K ch ob a) N) := by
  refine Met.ofW (cc := cX0_openCoilsIn) (maxL := 4) (ret := (some .int)) (by decide) rfl ?_
  intro p e s m args below meth c s₁ B hml hv
  obtain ⟨rfl, hP, hK⟩ := hv
  have hx := B.exec
  have hb := B.bytes
  have hr := B.returns
  have hts := atoms_spec (ws := wsX0_openCoilsIn) B.pre
  have hown : s.vm.findClass RX0 = some m.cls := findClass_of_methodNamed B.named
  have hlocks := B.notSynchronized
  have hin : ∀ w ∈ wsX00, w ∈ wsX0_openCoilsIn := fun w h => List.mem_cons_of_mem _ (List.mem_append_right _ h)
  have hf_21 := hts (.fieldLink RX0 21 "ArmatureWinding" "coils" "I") (by decide +kernel)
  have hf_49 := hts (.fieldLink RX0 49 "ArmatureWinding" "slots" "I") (by decide +kernel)
  have hl := lv_entry ([.ref o, .int (zI a)]) (n := 4) (Nat.le_of_ble_eq_true rfl)
  rw [lg_entry_eq]
  generalize (lg_sl ([.ref o, .int (zI a)]) ++ List.replicate (4 - (lg_sl ([.ref o, .int (zI a)])).length) Slot.unset).toArray = ls at hl ⊢
  have hl : lv_has ls 4 [(0, .ref o), (1, .int (zI a))] := hl
  obtain ⟨i1, i2, i3, i4, i5, i6, i7, i8, i9, i10, i11, i12, i13⟩ := id hI
  refine lv_iload_n hx hb dX0_openCoilsIn_0 rfl (lv_at hl 1 rfl) ?_
  refine zb_ilt (tgt := 12) hx hb dX0_openCoilsIn_1 (by decide) (by omega) (fun c1 => absurd c1 (by omega)) (fun c1 => ?_)
  refine lv_iload_n hx hb dX0_openCoilsIn_4 rfl (lv_at hl 1 rfl) ?_
  refine lv_aload_n hx hb dX0_openCoilsIn_5 rfl (lv_at hl 0 rfl) ?_
  refine va_get (D := D) (ci := 0) (v := .int (zI S)) (C := RX0) (T := TX0) (N := 11) hx hb hts hin hown hK hP 0 rfl rfl 1 (by decide) hf_49 (fun _ h9 => h9) rfl dX0_openCoilsIn_6 ?_
  refine zb_clt (tgt := 16) hx hb dX0_openCoilsIn_9 (by decide) (by omega) (by omega) (fun c9 => ?_) (fun c9 => absurd c9 (by omega))
  refine zb_iconst hx hb dX0_openCoilsIn_16 ?_
  refine lv_istore_n (lv' := [(2, .int (zI 0)), (0, .ref o), (1, .int (zI a))]) hx hb dX0_openCoilsIn_17 rfl hl (by decide) rfl (fun ls hl => ?_)
  refine zb_iconst hx hb dX0_openCoilsIn_18 ?_
  refine lv_istore_n (lv' := [(3, .int (zI 0)), (2, .int (zI 0)), (0, .ref o), (1, .int (zI a))]) hx hb dX0_openCoilsIn_19 rfl hl (by decide) rfl (fun ls hl => ?_)
  refine zb_lp2 (nL := 4) (fun n z => 0 ≤ z ∧ z ≤ N ∧ n = aw_cn (aw_oc P S K ch ob a) z) (fun n z => [(3, .int (zI z)), (2, .int (zI n)), (1, .int (zI a)), (0, .ref o)]) (fun n z => N - z) 0 0 ⟨by omega, by omega, (aw_cn_0 _).symm⟩ (lv_sub hl [0, 1, 3, 2] rfl) ?_
  intro n z ls hJ20 hl ih20
  have hJ20 : 0 ≤ z ∧ z ≤ N ∧ n = aw_cn (aw_oc P S K ch ob a) z := hJ20
  have hl : lv_has ls 4 [(3, .int (zI z)), (2, .int (zI n)), (1, .int (zI a)), (0, .ref o)] := hl
  have hb1 := aw_b_01 (ob z)
  refine lv_iload_n hx hb dX0_openCoilsIn_20 rfl (lv_at hl 0 rfl) ?_
  refine lv_aload_n hx hb dX0_openCoilsIn_21 rfl (lv_at hl 3 rfl) ?_
  refine va_get (D := D) (ci := 0) (v := .int (zI N)) (C := RX0) (T := TX0) (N := 11) hx hb hts hin hown hK hP 0 rfl rfl 3 (by decide) hf_21 (fun _ h9 => h9) rfl dX0_openCoilsIn_22 ?_
  refine zb_cge (tgt := 63) hx hb dX0_openCoilsIn_25 (by decide) (by omega) (by omega) (fun c25 => ?_) (fun c25 => ?_)
  · skip
    refine lv_iload_n hx hb dX0_openCoilsIn_63 rfl (lv_at hl 1 rfl) ?_
    exact aw_iret hx hb hr hlocks dX0_openCoilsIn_64 (have e : z = N := (by omega); by rw [hJ20.2.2, e])
  · skip
    refine lv_aload_n hx hb dX0_openCoilsIn_28 rfl (lv_at hl 3 rfl) ?_
    refine lv_iload_n hx hb dX0_openCoilsIn_29 rfl (lv_at hl 0 rfl) ?_
    refine aw_callV (As := [.int (zI z)]) (rest := []) ⟨hx, hb, hml, hown, hts⟩ (k_isOpen (z := z) ⟨by omega, by omega⟩) (cwV 1 hts gX0_openCoilsIn_X0_isOpen rfl rfl rfl (by decide +kernel) ⟨Nat.le_of_ble_eq_true rfl, Nat.le_of_ble_eq_true rfl⟩) hP hK rfl rfl rfl hl.1 rfl (Nat.le_of_ble_eq_true rfl) dX0_openCoilsIn_30 ⟨Nat.zero_le _, Nat.zero_le _⟩ ?_
    refine zb_ieq (tgt := 57) hx hb dX0_openCoilsIn_33 (by decide) (by omega) (fun c33 => ?_) (fun c33 => ?_)
    · skip
      refine zb_iinc (lv' := [(3, .int (zI (z + 1))), (2, .int (zI n)), (1, .int (zI a)), (0, .ref o)]) hx hb dX0_openCoilsIn_57 hl (k := 0) rfl (by decide) rfl (fun ls hl => ?_)
      refine lv_goto (tgt := 20) hx hb dX0_openCoilsIn_60 (by decide) ?_
      exact ih20 n (z + 1) ls ⟨by omega, by omega, by rw [aw_cn_s _ hJ20.1, aw_b_f (by unfold aw_oc; rw [aw_b_eq0.mp c33]; rfl), hJ20.2.2, Int.add_zero]⟩ (by omega) (lv_sub hl [0, 1, 2, 3] rfl)
    · skip
      refine lv_aload_n hx hb dX0_openCoilsIn_36 rfl (lv_at hl 3 rfl) ?_
      refine lv_iload_n hx hb dX0_openCoilsIn_37 rfl (lv_at hl 0 rfl) ?_
      have hz : 0 ≤ z ∧ z < N := ⟨by omega, by omega⟩
      have hq := aw_div (x := z) (n := K) (by omega) (by omega)
      have hqs := aw_divlt (z := z) i7 (by omega) (by omega)
      have hlo : 0 ≤ aw_lo P S K ch z ∧ aw_lo P S K ch z < S := aw_mod (by omega)
      refine aw_callV (As := [.int (zI z)]) (rest := []) ⟨hx, hb, hml, hown, hts⟩ (k_upperSlot hI hz) (cwV 1 hts gX0_openCoilsIn_X0_upperSlot rfl rfl rfl (by decide +kernel) ⟨Nat.le_of_ble_eq_true rfl, Nat.le_of_ble_eq_true rfl⟩) hP hK rfl rfl rfl hl.1 rfl (Nat.le_of_ble_eq_true rfl) dX0_openCoilsIn_38 ⟨Nat.zero_le _, Nat.zero_le _⟩ ?_
      refine lv_iload_n hx hb dX0_openCoilsIn_41 rfl (lv_at hl 2 rfl) ?_
      refine zb_ceq (tgt := 54) hx hb dX0_openCoilsIn_42 (by decide) (by omega) (by omega) (fun c42 => ?_) (fun c42 => ?_)
      · skip
        refine zb_iinc (lv' := [(2, .int (zI (n + 1))), (3, .int (zI z)), (1, .int (zI a)), (0, .ref o)]) hx hb dX0_openCoilsIn_54 hl (k := 1) rfl (by decide) rfl (fun ls hl => ?_)
        refine zb_iinc (lv' := [(3, .int (zI (z + 1))), (2, .int (zI (n + 1))), (1, .int (zI a)), (0, .ref o)]) hx hb dX0_openCoilsIn_57 hl (k := 1) rfl (by decide) rfl (fun ls hl => ?_)
        refine lv_goto (tgt := 20) hx hb dX0_openCoilsIn_60 (by decide) ?_
        exact ih20 (n + 1) (z + 1) ls ⟨by omega, by omega, by rw [aw_cn_s _ hJ20.1, aw_b_t (by unfold aw_oc; rw [aw_b_ne0.mp c33, c42]; simp), hJ20.2.2]⟩ (by omega) (lv_sub hl [0, 1, 2, 3] rfl)
      · skip
        refine lv_aload_n hx hb dX0_openCoilsIn_45 rfl (lv_at hl 3 rfl) ?_
        refine lv_iload_n hx hb dX0_openCoilsIn_46 rfl (lv_at hl 0 rfl) ?_
        refine aw_callV (As := [.int (zI z)]) (rest := []) ⟨hx, hb, hml, hown, hts⟩ (k_lowerSlot hI hz) (cwV 1 hts gX0_openCoilsIn_X0_lowerSlot rfl rfl rfl (by decide +kernel) ⟨Nat.le_of_ble_eq_true rfl, Nat.le_of_ble_eq_true rfl⟩) hP hK rfl rfl rfl hl.1 rfl (Nat.le_of_ble_eq_true rfl) dX0_openCoilsIn_47 ⟨Nat.zero_le _, Nat.zero_le _⟩ ?_
        refine lv_iload_n hx hb dX0_openCoilsIn_50 rfl (lv_at hl 2 rfl) ?_
        refine zb_cne (tgt := 57) hx hb dX0_openCoilsIn_51 (by decide) (by omega) (by omega) (fun c51 => ?_) (fun c51 => ?_)
        · skip
          refine zb_iinc (lv' := [(3, .int (zI (z + 1))), (2, .int (zI n)), (1, .int (zI a)), (0, .ref o)]) hx hb dX0_openCoilsIn_57 hl (k := 0) rfl (by decide) rfl (fun ls hl => ?_)
          refine lv_goto (tgt := 20) hx hb dX0_openCoilsIn_60 (by decide) ?_
          exact ih20 n (z + 1) ls ⟨by omega, by omega, by rw [aw_cn_s _ hJ20.1, aw_b_f (by unfold aw_oc; simp [c42, c51]), hJ20.2.2, Int.add_zero]⟩ (by omega) (lv_sub hl [0, 1, 2, 3] rfl)
        · skip
          refine zb_iinc (lv' := [(2, .int (zI (n + 1))), (3, .int (zI z)), (1, .int (zI a)), (0, .ref o)]) hx hb dX0_openCoilsIn_54 hl (k := 1) rfl (by decide) rfl (fun ls hl => ?_)
          refine zb_iinc (lv' := [(3, .int (zI (z + 1))), (2, .int (zI (n + 1))), (1, .int (zI a)), (0, .ref o)]) hx hb dX0_openCoilsIn_57 hl (k := 1) rfl (by decide) rfl (fun ls hl => ?_)
          refine lv_goto (tgt := 20) hx hb dX0_openCoilsIn_60 (by decide) ?_
          exact ih20 (n + 1) (z + 1) ls ⟨by omega, by omega, by rw [aw_cn_s _ hJ20.1, aw_b_t (by unfold aw_oc; rw [aw_b_ne0.mp c33, c51]; simp), hJ20.2.2]⟩ (by omega) (lv_sub hl [0, 1, 2, 3] rfl)
set_option maxHeartbeats 4000000 in
set_option maxRecDepth 100000 in
/-- openCoilsIn(a), no such slot -/
theorem k_openCoilsIn_no (hI : aw_In P S K N w ch) {a : Int} (ha : -1000 ≤ a ∧ a ≤ 1000) (ha2 : a < 0 ∨ S ≤ a) : aw_RO l yX0_openCoilsIn wsX0_openCoilsIn (aw_rm 2 43) D (aw_T yZ yI) (aw_W3 yZ yI o oa ba P S K N ty px pr w ch ob g) [.ref o, .int (zI a)] (-1002) := by
  refine Met.ofW (cc := cX0_openCoilsIn) (maxL := 4) (ret := (some .int)) (by decide) rfl ?_
  intro p e s m args below meth c s₁ B hml hv
  obtain ⟨rfl, hP, hK⟩ := hv
  have hx := B.exec
  have hb := B.bytes
  have hr := B.returns
  have hts := atoms_spec (ws := wsX0_openCoilsIn) B.pre
  have hown : s.vm.findClass RX0 = some m.cls := findClass_of_methodNamed B.named
  have hlocks := B.notSynchronized
  have hin : ∀ w ∈ wsX00, w ∈ wsX0_openCoilsIn := fun w h => List.mem_cons_of_mem _ (List.mem_append_right _ h)
  have hf_21 := hts (.fieldLink RX0 21 "ArmatureWinding" "coils" "I") (by decide +kernel)
  have hf_49 := hts (.fieldLink RX0 49 "ArmatureWinding" "slots" "I") (by decide +kernel)
  have hl := lv_entry ([.ref o, .int (zI a)]) (n := 4) (Nat.le_of_ble_eq_true rfl)
  rw [lg_entry_eq]
  generalize (lg_sl ([.ref o, .int (zI a)]) ++ List.replicate (4 - (lg_sl ([.ref o, .int (zI a)])).length) Slot.unset).toArray = ls at hl ⊢
  have hl : lv_has ls 4 [(0, .ref o), (1, .int (zI a))] := hl
  obtain ⟨i1, i2, i3, i4, i5, i6, i7, i8, i9, i10, i11, i12, i13⟩ := id hI
  refine lv_iload_n hx hb dX0_openCoilsIn_0 rfl (lv_at hl 1 rfl) ?_
  refine zb_ilt (tgt := 12) hx hb dX0_openCoilsIn_1 (by decide) (by omega) (fun c1 => ?_) (fun c1 => ?_)
  · skip
    refine zb_sipush hx hb dX0_openCoilsIn_12 (by decide) ?_
    exact aw_iret hx hb hr hlocks dX0_openCoilsIn_15 (by first | rfl | omega)
  · skip
    refine lv_iload_n hx hb dX0_openCoilsIn_4 rfl (lv_at hl 1 rfl) ?_
    refine lv_aload_n hx hb dX0_openCoilsIn_5 rfl (lv_at hl 0 rfl) ?_
    refine va_get (D := D) (ci := 0) (v := .int (zI S)) (C := RX0) (T := TX0) (N := 11) hx hb hts hin hown hK hP 0 rfl rfl 1 (by decide) hf_49 (fun _ h9 => h9) rfl dX0_openCoilsIn_6 ?_
    refine zb_clt (tgt := 16) hx hb dX0_openCoilsIn_9 (by decide) (by omega) (by omega) (fun c9 => absurd c9 (by omega)) (fun c9 => ?_)
    refine zb_sipush hx hb dX0_openCoilsIn_12 (by decide) ?_
    exact aw_iret hx hb hr hlocks dX0_openCoilsIn_15 (by first | rfl | omega)
end
end
section
/-! what the law's own numbers say -/
/-- the law's row of interrupted coils says what ob says -/
def aw_OB (pf : Nat → Int32) (ob : Int → Bool) : Prop := ∀ z : Int, 0 ≤ z → z < 72 → ((pf (zI (z / 24)).toNatClampNeg >>> (zI (z % 24) &&& 31)) &&& zI 1) = zI (aw_b (ob z))
theorem aw_tmod2 {x n : Int} (h : 0 < n) : (x.tmod n + n).tmod n = x % n := by
  have ht := aw_tmod (x := x) h
  have hm := aw_mod (x := x) h
  rw [Int.tmod_eq_emod_of_nonneg (by omega)]
  by_cases h0 : 0 ≤ x.tmod n
  · rw [Int.add_emod_right, ht.2.2.1 h0, Int.emod_emod]
  · rw [ht.2.2.2 (by omega), Int.emod_emod]
theorem aw_emod_le {z n : Int} (h0 : 0 ≤ z) (h : 0 < n) : z % n ≤ z := by
  have h1 := Int.emod_add_mul_ediv z n
  have h2 : 0 ≤ n * (z / n) := Int.mul_nonneg (by omega) (Int.ediv_nonneg h0 (by omega))
  omega
theorem aw_gc_0 {w N : Int} (hN : 0 < N) (h : w % N = 0) : aw_gc w N = N := by
  unfold aw_gc
  rw [h, show (0 : Int).toNat = 0 from rfl, Nat.gcd_zero_left]
  omega
theorem aw_at0 {q w N : Int} (h0 : 0 ≤ q) (h1 : q < N) : (q + 0 * w) % N = q := by
  rw [Int.zero_mul, Int.add_zero]
  exact Int.emod_eq_of_lt h0 h1
theorem aw_next {q k w N : Int} (_hN : 0 < N) : ((q + (k - 1) * w) % N + w) % N = (q + k * w) % N := by
  rw [Int.emod_add_emod]
  congr 1
  rw [Int.sub_mul, Int.one_mul]
  omega
theorem aw_back {q w N : Int} (hN : 0 < N) (h0 : 0 ≤ q) (h1 : q < N) : ((q + (aw_ln w N - 1) * w) % N + w) % N = q := by
  rw [aw_next hN, Int.add_emod, aw_ln_0 hN, Int.add_zero, Int.emod_emod]
  exact Int.emod_eq_of_lt h0 h1
theorem aw_endback {z w N : Int} (h : 0 ≤ z ∧ z < N) : ((z + w) % N - w) % N = z := by
  rw [Int.sub_emod, Int.emod_emod, ← Int.sub_emod, Int.add_sub_cancel]
  exact Int.emod_eq_of_lt h.1 h.2
theorem aw_ciA {p : Int → Bool} {k b : Int} (hk : 0 ≤ k) (hb : b = aw_b (aw_al p k)) (h : b = 0) : aw_b (aw_al p (k + 1)) = 0 := by
  rw [aw_al_s _ hk, aw_b_eq0.mp (hb.symm.trans h), Bool.false_and]; rfl
theorem aw_ciB {w N q k z : Int} {ob : Int → Bool} (hk : 0 ≤ k) (e : z = (q + k * w) % N) (h : ¬ aw_b (ob z) = 0) : aw_b (aw_al (aw_ci w N ob q) (k + 1)) = 0 := by
  have h1 : aw_ci w N ob q k = false := by
    unfold aw_ci; rw [← e, aw_b_ne0.mp h]; rfl
  rw [aw_al_s _ hk, h1, Bool.and_false]; rfl
theorem aw_ciC {w N q k z b : Int} {ob : Int → Bool} (hk : 0 ≤ k) (hb : b = aw_b (aw_al (aw_ci w N ob q) k)) (hn : ¬ b = 0) (e : z = (q + k * w) % N) (h : aw_b (ob z) = 0) : aw_b (aw_al (aw_ci w N ob q) (k + 1)) = 1 := by
  have h1 : aw_ci w N ob q k = true := by
    unfold aw_ci; rw [← e, aw_b_eq0.mp h]; rfl
  rw [aw_al_s _ hk, h1, Bool.and_true]
  exact aw_b_t (aw_b_ne0.mp (hb ▸ hn))
theorem aw_clf {w N q k b : Int} {ob : Int → Bool} (e : k = aw_ln w N) (hb : b = aw_b (aw_al (aw_ci w N ob q) k)) (h : b = 0) : aw_cl w N ob q = false := by
  unfold aw_cl; rw [← e]; exact aw_b_eq0.mp (hb.symm.trans h)
theorem aw_clt {w N q k b : Int} {ob : Int → Bool} (e : k = aw_ln w N) (hb : b = aw_b (aw_al (aw_ci w N ob q) k)) (h : ¬ b = 0) : aw_cl w N ob q = true := by
  unfold aw_cl; rw [← e]; exact aw_b_ne0.mp (hb ▸ h)
/-! the law's search for the common divisor: r is the largest one below k -/
def aw_gp (a b k r : Int) : Prop := 1 ≤ r ∧ r < k ∧ r ∣ a ∧ r ∣ b ∧ ∀ j : Int, 1 ≤ j → j < k → j ∣ a → j ∣ b → j ≤ r
theorem aw_gp_0 (a b : Int) : aw_gp a b 2 1 := ⟨by omega, by omega, Int.one_dvd _, Int.one_dvd _, fun j _ h _ _ => by omega⟩
theorem aw_gp_f {a b k r : Int} (h : aw_gp a b k r) (hn : a % k = 0 → b % k = 0 → False) : aw_gp a b (k + 1) r := by
  obtain ⟨h1, h2, h3, h4, h5⟩ := h
  refine ⟨h1, by omega, h3, h4, fun j q1 q2 q3 q4 => ?_⟩
  rcases Int.lt_or_eq_of_le (show j ≤ k by omega) with q | q
  · exact h5 j q1 q q3 q4
  · subst q
    exact (hn (Int.emod_eq_zero_of_dvd q3) (Int.emod_eq_zero_of_dvd q4)).elim
theorem aw_gp_t {a b k r : Int} (_h : aw_gp a b k r) (hk : 1 ≤ k) (ha : a % k = 0) (hb : b % k = 0) : aw_gp a b (k + 1) k :=
  ⟨hk, by omega, Int.dvd_of_emod_eq_zero ha, Int.dvd_of_emod_eq_zero hb, fun j _ q2 _ _ => by omega⟩
theorem aw_gp_e {a b k r : Int} (ha : 0 ≤ a) (hb : 1 ≤ b) (hk : k = b + 1) (h : aw_gp a b k r) : r = ((Nat.gcd a.toNat b.toNat : Nat) : Int) := by
  obtain ⟨h1, h2, h3, h4, h5⟩ := h
  have hg1 : ((Nat.gcd a.toNat b.toNat : Nat) : Int) ∣ a := by
    have := Int.natCast_dvd_natCast.mpr (Nat.gcd_dvd_left a.toNat b.toNat)
    rwa [show ((a.toNat : Nat) : Int) = a from by omega] at this
  have hg2 : ((Nat.gcd a.toNat b.toNat : Nat) : Int) ∣ b := by
    have := Int.natCast_dvd_natCast.mpr (Nat.gcd_dvd_right a.toNat b.toNat)
    rwa [show ((b.toNat : Nat) : Int) = b from by omega] at this
  have hp : 0 < Nat.gcd a.toNat b.toNat := Nat.gcd_pos_of_pos_right _ (by omega)
  have hle : Nat.gcd a.toNat b.toNat ≤ b.toNat := Nat.gcd_le_right _ (by omega)
  have u1 := h5 _ (by omega) (by omega) hg1 hg2
  have d1 : r.toNat ∣ a.toNat := by
    apply Int.natCast_dvd_natCast.mp
    rwa [show ((a.toNat : Nat) : Int) = a from by omega, show ((r.toNat : Nat) : Int) = r from by omega]
  have d2 : r.toNat ∣ b.toNat := by
    apply Int.natCast_dvd_natCast.mp
    rwa [show ((b.toNat : Nat) : Int) = b from by omega, show ((r.toNat : Nat) : Int) = r from by omega]
  have u2 := Nat.le_of_dvd hp (Nat.dvd_gcd d1 d2)
  omega
section ZC
variable {p : Program} {l : Launch} {e : Env} {R : Room} {s : State} {m : MethodId} {args : Array Value} {below : List Frame} {meth : Method} {c : Code} {H : Heap} {locs : List Loc} {cells slots : Nat} {Q : State → Prop}
/-- two roads that meet -/
theorem zb_cut {pcj : Nat} {lj : Array Slot} {rj : List Value} {g : JFrame} (kk : W p l e R s m args below meth c H locs cells slots Q (F0 m pcj lj rj)) (br : W p l e R s m args below meth c H locs cells slots Q (F0 m pcj lj rj) → W p l e R s m args below meth c H locs cells slots Q g) : W p l e R s m args below meth c H locs cells slots Q g := br kk
end ZC
end
section
section
variable {l : Launch} {D : va_G} {yZ yI : ClassId} {o oa ba da pa : Nat} {P S K N w ch : Int} {ty px pr : Int32} {ob : Int → Bool} {g pf : Nat → Int32} {dv : Nat → Int}
set_option maxHeartbeats 4000000 in
set_option maxRecDepth 100000 in
/-- the law's mod -/
theorem k_mod {x n : Int} (hx1 : -1000000 ≤ x ∧ x ≤ 1000000) (hn : 0 < n ∧ n ≤ 1000000) : aw_RO l yL_mod wsL_mod (aw_rm 0 0) D [] [] [.int (zI x), .int (zI n)] (x % n) := by
  refine Met.ofW (cc := cL_mod) (maxL := 2) (ret := (some .int)) (by decide) rfl ?_
  intro p e s m args below meth c s₁ B hml hv
  obtain ⟨rfl, hP, hK⟩ := hv
  have hx := B.exec
  have hb := B.bytes
  have hr := B.returns
  have hts := atoms_spec (ws := wsL_mod) B.pre
  have hown : s.vm.findClass RL = some m.cls := findClass_of_methodNamed B.named
  have hlocks := B.notSynchronized
  have hl := lv_entry ([.int (zI x), .int (zI n)]) (n := 2) (Nat.le_of_ble_eq_true rfl)
  rw [lg_entry_eq]
  generalize (lg_sl ([.int (zI x), .int (zI n)]) ++ List.replicate (2 - (lg_sl ([.int (zI x), .int (zI n)])).length) Slot.unset).toArray = ls at hl ⊢
  have hl : lv_has ls 2 [(0, .int (zI x)), (1, .int (zI n))] := hl
  have hm := aw_mod (x := x) hn.1
  have ht := aw_tmod (x := x) hn.1
  refine lv_iload_n hx hb dL_mod_0 rfl (lv_at hl 0 rfl) ?_
  refine lv_iload_n hx hb dL_mod_1 rfl (lv_at hl 1 rfl) ?_
  refine zb_trem hx hb dL_mod_2 (by omega) (by omega) ?_
  refine lv_iload_n hx hb dL_mod_3 rfl (lv_at hl 1 rfl) ?_
  refine zb_add hx hb dL_mod_4 ?_
  refine lv_iload_n hx hb dL_mod_5 rfl (lv_at hl 1 rfl) ?_
  refine zb_trem hx hb dL_mod_6 (by omega) (by omega) ?_
  exact aw_iret hx hb hr hlocks dL_mod_7 (aw_tmod2 hn.1)
set_option maxHeartbeats 4000000 in
set_option maxRecDepth 100000 in
/-- the law's slotPitch -/
theorem k_lslotPitch (hI : aw_In (dv 0) (dv 1) (dv 2) (dv 3) (dv 7) (dv 8)) : aw_RO l yL_slotPitch wsL_slotPitch (aw_rm 0 0) D (aw_T yZ yI) [aw_Dr yI da dv] [.ref da] (aw_sp (dv 0) (dv 1) (dv 8)) := by
  refine Met.ofW (cc := cL_slotPitch) (maxL := 2) (ret := (some .int)) (by decide) rfl ?_
  intro p e s m args below meth c s₁ B hml hv
  obtain ⟨rfl, hP, hK⟩ := hv
  have hx := B.exec
  have hb := B.bytes
  have hr := B.returns
  have hts := atoms_spec (ws := wsL_slotPitch) B.pre
  have hown : s.vm.findClass RL = some m.cls := findClass_of_methodNamed B.named
  have hlocks := B.notSynchronized
  have hl := lv_entry ([.ref da]) (n := 2) (Nat.le_of_ble_eq_true rfl)
  rw [lg_entry_eq]
  generalize (lg_sl ([.ref da]) ++ List.replicate (2 - (lg_sl ([.ref da])).length) Slot.unset).toArray = ls at hl ⊢
  have hl : lv_has ls 2 [(0, .ref da)] := hl
  obtain ⟨i1, i2, i3, i4, i5, i6, i7, i8, i9, i10, i11, i12, i13⟩ := id hI
  have hd := aw_div (x := dv 1) (n := dv 0) (by omega) (by omega)
  refine lv_aload_n hx hb dL_slotPitch_0 rfl (lv_at hl 0 rfl) ?_
  refine zb_iconst hx hb dL_slotPitch_1 ?_
  refine aw_dld hx hb hK hP 0 1 rfl rfl 1 (by decide) dL_slotPitch_2 ?_
  refine lv_aload_n hx hb dL_slotPitch_3 rfl (lv_at hl 0 rfl) ?_
  refine zb_iconst hx hb dL_slotPitch_4 ?_
  refine aw_dld hx hb hK hP 0 1 rfl rfl 0 (by decide) dL_slotPitch_5 ?_
  refine zb_div hx hb dL_slotPitch_6 (by omega) (by omega) ?_
  refine lv_aload_n hx hb dL_slotPitch_7 rfl (lv_at hl 0 rfl) ?_
  refine zb_bipush hx hb dL_slotPitch_8 (by decide) ?_
  refine aw_dld hx hb hK hP 0 1 rfl rfl 8 (by decide) dL_slotPitch_10 ?_
  refine zb_sub hx hb dL_slotPitch_11 ?_
  refine lv_istore_n (lv' := [(1, .int (zI (((dv 1) / (dv 0)) - (dv 8)))), (0, .ref da)]) hx hb dL_slotPitch_12 rfl hl (by decide) rfl (fun ls hl => ?_)
  refine lv_iload_n hx hb dL_slotPitch_13 rfl (lv_at hl 0 rfl) ?_
  refine zb_iconst hx hb dL_slotPitch_14 ?_
  refine zb_cge (tgt := 22) hx hb dL_slotPitch_15 (by decide) (by omega) (by omega) (fun c15 => ?_) (fun c15 => ?_)
  · skip
    refine lv_iload_n hx hb dL_slotPitch_22 rfl (lv_at hl 0 rfl) ?_
    exact aw_iret hx hb hr hlocks dL_slotPitch_23 (by unfold aw_sp; rw [if_neg (by omega)])
  · skip
    refine zb_iconst hx hb dL_slotPitch_18 ?_
    refine lv_goto (tgt := 23) hx hb dL_slotPitch_19 (by decide) ?_
    exact aw_iret hx hb hr hlocks dL_slotPitch_23 (by unfold aw_sp; rw [if_pos (by omega)])
set_option maxHeartbeats 4000000 in
set_option maxRecDepth 100000 in
/-- the law's lower -/
theorem k_llower (hI : aw_In (dv 0) (dv 1) (dv 2) (dv 3) (dv 7) (dv 8)) {z : Int} (hz : 0 ≤ z ∧ z < dv 3) : aw_RO l yL_lower wsL_lower (aw_rm 1 21) D (aw_T yZ yI) [aw_Dr yI da dv] [.ref da, .int (zI z)] (aw_lo (dv 0) (dv 1) (dv 2) (dv 8) z) := by
  refine Met.ofW (cc := cL_lower) (maxL := 2) (ret := (some .int)) (by decide) rfl ?_
  intro p e s m args below meth c s₁ B hml hv
  obtain ⟨rfl, hP, hK⟩ := hv
  have hx := B.exec
  have hb := B.bytes
  have hr := B.returns
  have hts := atoms_spec (ws := wsL_lower) B.pre
  have hown : s.vm.findClass RL = some m.cls := findClass_of_methodNamed B.named
  have hlocks := B.notSynchronized
  have hl := lv_entry ([.ref da, .int (zI z)]) (n := 2) (Nat.le_of_ble_eq_true rfl)
  rw [lg_entry_eq]
  generalize (lg_sl ([.ref da, .int (zI z)]) ++ List.replicate (2 - (lg_sl ([.ref da, .int (zI z)])).length) Slot.unset).toArray = ls at hl ⊢
  have hl : lv_has ls 2 [(0, .ref da), (1, .int (zI z))] := hl
  obtain ⟨i1, i2, i3, i4, i5, i6, i7, i8, i9, i10, i11, i12, i13⟩ := id hI
  have hq := aw_div (x := z) (n := dv 2) (by omega) (by omega)
  have hs := aw_sp_in (P := dv 0) (S := dv 1) (ch := dv 8) (by omega) (by omega) (by omega)
  refine lv_iload_n hx hb dL_lower_0 rfl (lv_at hl 1 rfl) ?_
  refine lv_aload_n hx hb dL_lower_1 rfl (lv_at hl 0 rfl) ?_
  refine zb_iconst hx hb dL_lower_2 ?_
  refine aw_dld hx hb hK hP 0 1 rfl rfl 2 (by decide) dL_lower_3 ?_
  refine zb_div hx hb dL_lower_4 (by omega) (by omega) ?_
  refine lv_aload_n hx hb dL_lower_5 rfl (lv_at hl 0 rfl) ?_
  refine aw_callS (As := [.ref da]) (rest := [.int (zI (z / (dv 2)))]) ⟨hx, hb, hml, hown, hts⟩ (k_lslotPitch hI) (va_cwS 1 hts gL_lower_L_slotPitch rfl rfl rfl (by decide +kernel) ⟨Nat.le_of_ble_eq_true rfl, Nat.le_of_ble_eq_true rfl⟩) hP hK rfl hl.1 rfl (Nat.le_of_ble_eq_true rfl) dL_lower_6 ⟨Nat.zero_le _, Nat.zero_le _⟩ ?_
  refine zb_add hx hb dL_lower_9 ?_
  refine lv_aload_n hx hb dL_lower_10 rfl (lv_at hl 0 rfl) ?_
  refine zb_iconst hx hb dL_lower_11 ?_
  refine aw_dld hx hb hK hP 0 1 rfl rfl 1 (by decide) dL_lower_12 ?_
  refine zb_rem hx hb dL_lower_13 (by omega) (by omega) ?_
  exact aw_iret hx hb hr hlocks dL_lower_14 rfl
set_option maxHeartbeats 4000000 in
set_option maxRecDepth 100000 in
/-- the law's side -/
theorem k_lside (hI : aw_In (dv 0) (dv 1) (dv 2) (dv 3) (dv 7) (dv 8)) {a t : Int} (ha : 0 ≤ a ∧ a ≤ 100) (ht : 0 ≤ t ∧ t ≤ 200) : aw_RO l yL_side wsL_side (aw_rm 0 0) D (aw_T yZ yI) [aw_Dr yI da dv] [.ref da, .int (zI a), .int (zI t)] (aw_sd (dv 0) (dv 1) a t) := by
  refine Met.ofW (cc := cL_side) (maxL := 4) (ret := (some .int)) (by decide) rfl ?_
  intro p e s m args below meth c s₁ B hml hv
  obtain ⟨rfl, hP, hK⟩ := hv
  have hx := B.exec
  have hb := B.bytes
  have hr := B.returns
  have hts := atoms_spec (ws := wsL_side) B.pre
  have hown : s.vm.findClass RL = some m.cls := findClass_of_methodNamed B.named
  have hlocks := B.notSynchronized
  have hl := lv_entry ([.ref da, .int (zI a), .int (zI t)]) (n := 4) (Nat.le_of_ble_eq_true rfl)
  rw [lg_entry_eq]
  generalize (lg_sl ([.ref da, .int (zI a), .int (zI t)]) ++ List.replicate (4 - (lg_sl ([.ref da, .int (zI a), .int (zI t)])).length) Slot.unset).toArray = ls at hl ⊢
  have hl : lv_has ls 4 [(0, .ref da), (1, .int (zI a)), (2, .int (zI t))] := hl
  obtain ⟨i1, i2, i3, i4, i5, i6, i7, i8, i9, i10, i11, i12, i13⟩ := id hI
  have hm := aw_mod (x := a + t) (n := dv 1) (by omega)
  have hj := aw_mul (x := (a + t) % dv 1) (y := dv 0) (a := 24) (b := 8) (by omega) (by omega) (by omega) (by omega)
  have hj0 : 0 ≤ (a + t) % dv 1 * dv 0 := Int.mul_nonneg (by omega) (by omega)
  have hd := aw_div (x := (a + t) % dv 1 * dv 0) (n := dv 1) (by omega) (by omega)
  refine lv_iload_n hx hb dL_side_0 rfl (lv_at hl 1 rfl) ?_
  refine lv_iload_n hx hb dL_side_1 rfl (lv_at hl 2 rfl) ?_
  refine zb_add hx hb dL_side_2 ?_
  refine lv_aload_n hx hb dL_side_3 rfl (lv_at hl 0 rfl) ?_
  refine zb_iconst hx hb dL_side_4 ?_
  refine aw_dld hx hb hK hP 0 1 rfl rfl 1 (by decide) dL_side_5 ?_
  refine zb_rem hx hb dL_side_6 (by omega) (by omega) ?_
  refine lv_aload_n hx hb dL_side_7 rfl (lv_at hl 0 rfl) ?_
  refine zb_iconst hx hb dL_side_8 ?_
  refine aw_dld hx hb hK hP 0 1 rfl rfl 0 (by decide) dL_side_9 ?_
  refine zb_mul hx hb dL_side_10 ?_
  refine lv_aload_n hx hb dL_side_11 rfl (lv_at hl 0 rfl) ?_
  refine zb_iconst hx hb dL_side_12 ?_
  refine aw_dld hx hb hK hP 0 1 rfl rfl 1 (by decide) dL_side_13 ?_
  refine zb_div hx hb dL_side_14 (by omega) (by omega) ?_
  refine lv_istore_n (lv' := [(3, .int (zI ((((a + t) % (dv 1)) * (dv 0)) / (dv 1)))), (0, .ref da), (1, .int (zI a)), (2, .int (zI t))]) hx hb dL_side_15 rfl hl (by decide) rfl (fun ls hl => ?_)
  refine lv_iload_n hx hb dL_side_16 rfl (lv_at hl 0 rfl) ?_
  refine zb_iconst hx hb dL_side_17 ?_
  refine zb_rem hx hb dL_side_18 (by omega) (by omega) ?_
  refine zb_ine (tgt := 26) hx hb dL_side_19 (by decide) (by omega) (fun c19 => ?_) (fun c19 => ?_)
  · skip
    refine zb_iconst hx hb dL_side_26 ?_
    exact aw_iret hx hb hr hlocks dL_side_27 (by unfold aw_sd; rw [if_neg (by omega)])
  · skip
    refine zb_iconst hx hb dL_side_22 ?_
    refine lv_goto (tgt := 27) hx hb dL_side_23 (by decide) ?_
    exact aw_iret hx hb hr hlocks dL_side_27 (by unfold aw_sd; rw [if_pos (by omega)])
set_option maxHeartbeats 4000000 in
set_option maxRecDepth 100000 in
/-- the law's voltage -/
theorem k_lvoltage (hI : aw_In (dv 0) (dv 1) (dv 2) (dv 3) (dv 7) (dv 8)) {z t : Int} (hz : 0 ≤ z ∧ z < dv 3) (ht : 0 ≤ t ∧ t ≤ 200) : aw_RO l yL_voltage wsL_voltage (aw_rm 2 42) D (aw_T yZ yI) [aw_Dr yI da dv] [.ref da, .int (zI z), .int (zI t)] (aw_vt (dv 0) (dv 1) (dv 2) (dv 8) z t) := by
  refine Met.ofW (cc := cL_voltage) (maxL := 3) (ret := (some .int)) (by decide) rfl ?_
  intro p e s m args below meth c s₁ B hml hv
  obtain ⟨rfl, hP, hK⟩ := hv
  have hx := B.exec
  have hb := B.bytes
  have hr := B.returns
  have hts := atoms_spec (ws := wsL_voltage) B.pre
  have hown : s.vm.findClass RL = some m.cls := findClass_of_methodNamed B.named
  have hlocks := B.notSynchronized
  have hl := lv_entry ([.ref da, .int (zI z), .int (zI t)]) (n := 3) (Nat.le_of_ble_eq_true rfl)
  rw [lg_entry_eq]
  generalize (lg_sl ([.ref da, .int (zI z), .int (zI t)]) ++ List.replicate (3 - (lg_sl ([.ref da, .int (zI z), .int (zI t)])).length) Slot.unset).toArray = ls at hl ⊢
  have hl : lv_has ls 3 [(0, .ref da), (1, .int (zI z)), (2, .int (zI t))] := hl
  obtain ⟨i1, i2, i3, i4, i5, i6, i7, i8, i9, i10, i11, i12, i13⟩ := id hI
  have hq := aw_div (x := z) (n := dv 2) (by omega) (by omega)
  have hqs := aw_divlt (z := z) i7 (by omega) (by omega)
  have hlo : 0 ≤ aw_lo (dv 0) (dv 1) (dv 2) (dv 8) z ∧ aw_lo (dv 0) (dv 1) (dv 2) (dv 8) z < dv 1 := aw_mod (by omega)
  refine lv_aload_n hx hb dL_voltage_0 rfl (lv_at hl 0 rfl) ?_
  refine lv_iload_n hx hb dL_voltage_1 rfl (lv_at hl 1 rfl) ?_
  refine lv_aload_n hx hb dL_voltage_2 rfl (lv_at hl 0 rfl) ?_
  refine zb_iconst hx hb dL_voltage_3 ?_
  refine aw_dld hx hb hK hP 0 1 rfl rfl 2 (by decide) dL_voltage_4 ?_
  refine zb_div hx hb dL_voltage_5 (by omega) (by omega) ?_
  refine lv_iload_n hx hb dL_voltage_6 rfl (lv_at hl 2 rfl) ?_
  refine aw_callS (As := [.ref da, .int (zI (z / (dv 2))), .int (zI t)]) (rest := []) ⟨hx, hb, hml, hown, hts⟩ (k_lside (a := z / dv 2) (t := t) hI ⟨by omega, by omega⟩ ht) (va_cwS 3 hts gL_voltage_L_side rfl rfl rfl (by decide +kernel) ⟨Nat.le_of_ble_eq_true rfl, Nat.le_of_ble_eq_true rfl⟩) hP hK rfl hl.1 rfl (Nat.le_of_ble_eq_true rfl) dL_voltage_7 ⟨Nat.zero_le _, Nat.zero_le _⟩ ?_
  refine lv_aload_n hx hb dL_voltage_10 rfl (lv_at hl 0 rfl) ?_
  refine lv_aload_n hx hb dL_voltage_11 rfl (lv_at hl 0 rfl) ?_
  refine lv_iload_n hx hb dL_voltage_12 rfl (lv_at hl 1 rfl) ?_
  refine aw_callS (As := [.ref da, .int (zI z)]) (rest := [.ref da, .int (zI (aw_sd (dv 0) (dv 1) (z / dv 2) t))]) ⟨hx, hb, hml, hown, hts⟩ (k_llower hI hz) (va_cwS 2 hts gL_voltage_L_lower rfl rfl rfl (by decide +kernel) ⟨Nat.le_of_ble_eq_true rfl, Nat.le_of_ble_eq_true rfl⟩) hP hK rfl hl.1 rfl (Nat.le_of_ble_eq_true rfl) dL_voltage_13 ⟨Nat.zero_le _, Nat.zero_le _⟩ ?_
  refine lv_iload_n hx hb dL_voltage_16 rfl (lv_at hl 2 rfl) ?_
  refine aw_callS (As := [.ref da, .int (zI (aw_lo (dv 0) (dv 1) (dv 2) (dv 8) z)), .int (zI t)]) (rest := [.int (zI (aw_sd (dv 0) (dv 1) (z / dv 2) t))]) ⟨hx, hb, hml, hown, hts⟩ (k_lside (a := aw_lo (dv 0) (dv 1) (dv 2) (dv 8) z) (t := t) hI ⟨by omega, by omega⟩ ht) (va_cwS 3 hts gL_voltage_L_side rfl rfl rfl (by decide +kernel) ⟨Nat.le_of_ble_eq_true rfl, Nat.le_of_ble_eq_true rfl⟩) hP hK rfl hl.1 rfl (Nat.le_of_ble_eq_true rfl) dL_voltage_17 ⟨Nat.zero_le _, Nat.zero_le _⟩ ?_
  refine zb_sub hx hb dL_voltage_20 ?_
  exact aw_iret hx hb hr hlocks dL_voltage_21 rfl
set_option maxHeartbeats 4000000 in
set_option maxRecDepth 100000 in
/-- the law's isOpen -/
theorem k_lisOpen (hO : aw_OB pf ob) {z : Int} (hz : 0 ≤ z ∧ z < 72) : aw_RO l yL_isOpen wsL_isOpen (aw_rm 0 0) D (aw_T yZ yI) [aw_Mr yI pa pf] [.ref pa, .int (zI z)] (aw_b (ob z)) := by
  refine Met.ofW (cc := cL_isOpen) (maxL := 2) (ret := (some .boolean)) (by decide) rfl ?_
  intro p e s m args below meth c s₁ B hml hv
  obtain ⟨rfl, hP, hK⟩ := hv
  have hx := B.exec
  have hb := B.bytes
  have hr := B.returns
  have hts := atoms_spec (ws := wsL_isOpen) B.pre
  have hown : s.vm.findClass RL = some m.cls := findClass_of_methodNamed B.named
  have hlocks := B.notSynchronized
  have hl := lv_entry ([.ref pa, .int (zI z)]) (n := 2) (Nat.le_of_ble_eq_true rfl)
  rw [lg_entry_eq]
  generalize (lg_sl ([.ref pa, .int (zI z)]) ++ List.replicate (2 - (lg_sl ([.ref pa, .int (zI z)])).length) Slot.unset).toArray = ls at hl ⊢
  have hl : lv_has ls 2 [(0, .ref pa), (1, .int (zI z))] := hl
  have hb1 := aw_b_01 (ob z)
  have hq : 0 ≤ z / 24 ∧ z / 24 < 3 := by omega
  refine lv_aload_n hx hb dL_isOpen_0 rfl (lv_at hl 0 rfl) ?_
  refine lv_iload_n hx hb dL_isOpen_1 rfl (lv_at hl 1 rfl) ?_
  refine zb_bipush hx hb dL_isOpen_2 (by decide) ?_
  refine zb_div hx hb dL_isOpen_4 (by omega) (by omega) ?_
  refine va_iald hx hb hK hP 0 1 rfl rfl (zI_in (by omega) (by omega) (by omega)) dL_isOpen_5 ?_
  refine lv_iload_n hx hb dL_isOpen_6 rfl (lv_at hl 1 rfl) ?_
  refine zb_bipush hx hb dL_isOpen_7 (by decide) ?_
  refine zb_rem hx hb dL_isOpen_9 (by omega) (by omega) ?_
  refine lv_ishr hx hb dL_isOpen_10 ?_
  refine zb_iconst hx hb dL_isOpen_11 ?_
  refine lv_iand hx hb dL_isOpen_12 ?_
  refine zb_to (w := .int (zI (aw_b (ob z)))) (congrArg Value.int (hO z hz.1 hz.2)) ?_
  refine zb_iconst hx hb dL_isOpen_13 ?_
  refine zb_cne (tgt := 21) hx hb dL_isOpen_14 (by decide) (by omega) (by omega) (fun c14 => ?_) (fun c14 => ?_)
  · skip
    refine zb_iconst hx hb dL_isOpen_21 ?_
    exact aw_zret hx hb hr hlocks dL_isOpen_22 (by omega) (by omega)
  · skip
    refine zb_iconst hx hb dL_isOpen_17 ?_
    refine lv_goto (tgt := 22) hx hb dL_isOpen_18 (by decide) ?_
    exact aw_zret hx hb hr hlocks dL_isOpen_22 (by omega) (by omega)
set_option maxHeartbeats 4000000 in
set_option maxRecDepth 100000 in
/-- the law's gcd -/
theorem k_gcd {a b : Int} (ha : 0 ≤ a ∧ a ≤ 1000) (hb0 : 1 ≤ b ∧ b ≤ 1000) : aw_RO l yL_gcd wsL_gcd (aw_rm 0 0) D [] [] [.int (zI a), .int (zI b)] (((Nat.gcd a.toNat b.toNat : Nat) : Int)) := by
  refine Met.ofW (cc := cL_gcd) (maxL := 4) (ret := (some .int)) (by decide) rfl ?_
  intro p e s m args below meth c s₁ B hml hv
  obtain ⟨rfl, hP, hK⟩ := hv
  have hx := B.exec
  have hb := B.bytes
  have hr := B.returns
  have hts := atoms_spec (ws := wsL_gcd) B.pre
  have hown : s.vm.findClass RL = some m.cls := findClass_of_methodNamed B.named
  have hlocks := B.notSynchronized
  have hl := lv_entry ([.int (zI a), .int (zI b)]) (n := 4) (Nat.le_of_ble_eq_true rfl)
  rw [lg_entry_eq]
  generalize (lg_sl ([.int (zI a), .int (zI b)]) ++ List.replicate (4 - (lg_sl ([.int (zI a), .int (zI b)])).length) Slot.unset).toArray = ls at hl ⊢
  have hl : lv_has ls 4 [(0, .int (zI a)), (1, .int (zI b))] := hl
  refine zb_iconst hx hb dL_gcd_0 ?_
  refine lv_istore_n (lv' := [(2, .int (zI 1)), (0, .int (zI a)), (1, .int (zI b))]) hx hb dL_gcd_1 rfl hl (by decide) rfl (fun ls hl => ?_)
  refine zb_iconst hx hb dL_gcd_2 ?_
  refine lv_istore_n (lv' := [(3, .int (zI 2)), (2, .int (zI 1)), (0, .int (zI a)), (1, .int (zI b))]) hx hb dL_gcd_3 rfl hl (by decide) rfl (fun ls hl => ?_)
  refine zb_lp2 (nL := 4) (fun r k => 2 ≤ k ∧ k ≤ b + 1 ∧ aw_gp a b k r) (fun r k => [(3, .int (zI k)), (2, .int (zI r)), (1, .int (zI b)), (0, .int (zI a))]) (fun r k => b + 1 - k) 1 2 ⟨by omega, by omega, aw_gp_0 a b⟩ (lv_sub hl [0, 1, 3, 2] rfl) ?_
  intro r k ls hJ4 hl ih4
  have hJ4 : 2 ≤ k ∧ k ≤ b + 1 ∧ aw_gp a b k r := hJ4
  have hl : lv_has ls 4 [(3, .int (zI k)), (2, .int (zI r)), (1, .int (zI b)), (0, .int (zI a))] := hl
  have h12 := aw_mod (x := a) (n := k) (by omega)
  have h18 := aw_mod (x := b) (n := k) (by omega)
  have hr9 : 1 ≤ r ∧ r < k := ⟨hJ4.2.2.1, hJ4.2.2.2.1⟩
  refine lv_iload_n hx hb dL_gcd_4 rfl (lv_at hl 0 rfl) ?_
  refine lv_iload_n hx hb dL_gcd_5 rfl (lv_at hl 2 rfl) ?_
  refine zb_cgt (tgt := 33) hx hb dL_gcd_6 (by decide) (by omega) (by omega) (fun c6 => ?_) (fun c6 => ?_)
  · skip
    refine lv_iload_n hx hb dL_gcd_33 rfl (lv_at hl 1 rfl) ?_
    exact aw_iret hx hb hr hlocks dL_gcd_34 (aw_gp_e ha.1 hb0.1 (show k = b + 1 by omega) hJ4.2.2)
  · skip
    refine lv_iload_n hx hb dL_gcd_9 rfl (lv_at hl 3 rfl) ?_
    refine lv_iload_n hx hb dL_gcd_10 rfl (lv_at hl 0 rfl) ?_
    refine zb_rem hx hb dL_gcd_11 (by omega) (by omega) ?_
    refine zb_ine (tgt := 25) hx hb dL_gcd_12 (by decide) (by omega) (fun c12 => ?_) (fun c12 => ?_)
    · skip
      refine lv_iload_n hx hb dL_gcd_25 rfl (lv_at hl 1 rfl) ?_
      refine lv_istore_n (lv' := [(2, .int (zI r)), (3, .int (zI k)), (1, .int (zI b)), (0, .int (zI a))]) hx hb dL_gcd_26 rfl hl (by decide) rfl (fun ls hl => ?_)
      refine zb_iinc (lv' := [(3, .int (zI (k + 1))), (2, .int (zI r)), (1, .int (zI b)), (0, .int (zI a))]) hx hb dL_gcd_27 hl (k := 1) rfl (by decide) rfl (fun ls hl => ?_)
      refine lv_goto (tgt := 4) hx hb dL_gcd_30 (by decide) ?_
      exact ih4 r (k + 1) ls ⟨by omega, by omega, aw_gp_f hJ4.2.2 (fun q _ => c12 q)⟩ (by omega) (lv_sub hl [0, 1, 2, 3] rfl)
    · skip
      refine lv_iload_n hx hb dL_gcd_15 rfl (lv_at hl 2 rfl) ?_
      refine lv_iload_n hx hb dL_gcd_16 rfl (lv_at hl 0 rfl) ?_
      refine zb_rem hx hb dL_gcd_17 (by omega) (by omega) ?_
      refine zb_ine (tgt := 25) hx hb dL_gcd_18 (by decide) (by omega) (fun c18 => ?_) (fun c18 => ?_)
      · skip
        refine lv_iload_n hx hb dL_gcd_25 rfl (lv_at hl 1 rfl) ?_
        refine lv_istore_n (lv' := [(2, .int (zI r)), (3, .int (zI k)), (1, .int (zI b)), (0, .int (zI a))]) hx hb dL_gcd_26 rfl hl (by decide) rfl (fun ls hl => ?_)
        refine zb_iinc (lv' := [(3, .int (zI (k + 1))), (2, .int (zI r)), (1, .int (zI b)), (0, .int (zI a))]) hx hb dL_gcd_27 hl (k := 1) rfl (by decide) rfl (fun ls hl => ?_)
        refine lv_goto (tgt := 4) hx hb dL_gcd_30 (by decide) ?_
        exact ih4 r (k + 1) ls ⟨by omega, by omega, aw_gp_f hJ4.2.2 (fun _ q => c18 q)⟩ (by omega) (lv_sub hl [0, 1, 2, 3] rfl)
      · skip
        refine lv_iload_n hx hb dL_gcd_21 rfl (lv_at hl 0 rfl) ?_
        refine lv_goto (tgt := 26) hx hb dL_gcd_22 (by decide) ?_
        refine lv_istore_n (lv' := [(2, .int (zI k)), (3, .int (zI k)), (1, .int (zI b)), (0, .int (zI a))]) hx hb dL_gcd_26 rfl hl (by decide) rfl (fun ls hl => ?_)
        refine zb_iinc (lv' := [(3, .int (zI (k + 1))), (2, .int (zI k)), (1, .int (zI b)), (0, .int (zI a))]) hx hb dL_gcd_27 hl (k := 1) rfl (by decide) rfl (fun ls hl => ?_)
        refine lv_goto (tgt := 4) hx hb dL_gcd_30 (by decide) ?_
        exact ih4 k (k + 1) ls ⟨by omega, by omega, aw_gp_t hJ4.2.2 (by omega) (by omega) (by omega)⟩ (by omega) (lv_sub hl [0, 1, 2, 3] rfl)
end
end
section
section
variable {l : Launch} {D : va_G} {yZ yI : ClassId} {o oa ba da pa : Nat} {P S K N w ch : Int} {ty px pr : Int32} {ob : Int → Bool} {g pf : Nat → Int32} {dv : Nat → Int}
set_option maxHeartbeats 4000000 in
set_option maxRecDepth 100000 in
/-- the law's circuits: true -/
theorem k_circuits (hI : aw_In (dv 0) (dv 1) (dv 2) (dv 3) (dv 7) (dv 8)) (hO : aw_OB pf ob) : aw_RO l yL_circuits wsL_circuits (aw_rm 4 89) D (aw_T yZ yI) (aw_W5 yZ yI o oa ba da pa dv pf ty px pr ob g) [.ref o, .ref da, .ref pa] (1) := by
  refine Met.ofW (cc := cL_circuits) (maxL := 12) (ret := (some .boolean)) (by decide) rfl ?_
  intro p e s m args below meth c s₁ B hml hv
  obtain ⟨rfl, hP, hK⟩ := hv
  have hx := B.exec
  have hb := B.bytes
  have hr := B.returns
  have hts := atoms_spec (ws := wsL_circuits) B.pre
  have hown : s.vm.findClass RL = some m.cls := findClass_of_methodNamed B.named
  have hlocks := B.notSynchronized
  have hl := lv_entry ([.ref o, .ref da, .ref pa]) (n := 12) (Nat.le_of_ble_eq_true rfl)
  rw [lg_entry_eq]
  generalize (lg_sl ([.ref o, .ref da, .ref pa]) ++ List.replicate (12 - (lg_sl ([.ref o, .ref da, .ref pa])).length) Slot.unset).toArray = ls at hl ⊢
  have hl : lv_has ls 12 [(0, .ref o), (1, .ref da), (2, .ref pa)] := hl
  obtain ⟨i1, i2, i3, i4, i5, i6, i7, i8, i9, i10, i11, i12, i13⟩ := id hI
  have hP3 : va_P D vwCl (aw_W3 yZ yI o oa ba (dv 0) (dv 1) (dv 2) (dv 3) ty px pr (dv 7) (dv 8) ob g) s.heap := hP.sub [0, 1, 2] rfl
  have hPd : va_P D vwCl [aw_Dr yI da dv] s.heap := hP.sub [3] rfl
  have hPm : va_P D vwCl [aw_Mr yI pa pf] s.heap := hP.sub [4] rfl
  have hN : 0 < dv 3 := by omega
  have hG := aw_gc_in (w := dv 7) hN
  have hL := aw_ln_in (w := dv 7) hN
  have hLG := aw_ln_eq (w := dv 7) hN
  have hm := aw_mod (x := dv 7) hN
  refine lv_aload_n hx hb dL_circuits_0 rfl (lv_at hl 1 rfl) ?_
  refine zb_bipush hx hb dL_circuits_1 (by decide) ?_
  refine aw_dld hx hb hK hP 3 1 rfl rfl 7 (by decide) dL_circuits_3 ?_
  refine lv_aload_n hx hb dL_circuits_4 rfl (lv_at hl 1 rfl) ?_
  refine zb_iconst hx hb dL_circuits_5 ?_
  refine aw_dld hx hb hK hP 3 1 rfl rfl 3 (by decide) dL_circuits_6 ?_
  refine aw_callS (As := [.int (zI (dv 7)), .int (zI (dv 3))]) (rest := []) ⟨hx, hb, hml, hown, hts⟩ (k_mod (x := dv 7) (n := dv 3) ⟨by omega, by omega⟩ ⟨by omega, by omega⟩) (va_cwS 2 hts gL_circuits_L_mod rfl rfl rfl (by decide +kernel) ⟨Nat.le_of_ble_eq_true rfl, Nat.le_of_ble_eq_true rfl⟩) (hP.sub (ws' := []) [] rfl) (hK.sub (tys' := []) [] rfl) rfl hl.1 rfl (Nat.le_of_ble_eq_true rfl) dL_circuits_7 ⟨Nat.zero_le _, Nat.zero_le _⟩ ?_
  refine lv_aload_n hx hb dL_circuits_10 rfl (lv_at hl 1 rfl) ?_
  refine zb_iconst hx hb dL_circuits_11 ?_
  refine aw_dld hx hb hK hP 3 1 rfl rfl 3 (by decide) dL_circuits_12 ?_
  refine aw_callS (As := [.int (zI (dv 7 % dv 3)), .int (zI (dv 3))]) (rest := []) ⟨hx, hb, hml, hown, hts⟩ (k_gcd (a := dv 7 % dv 3) (b := dv 3) ⟨by omega, by omega⟩ ⟨by omega, by omega⟩) (va_cwS 2 hts gL_circuits_L_gcd rfl rfl rfl (by decide +kernel) ⟨Nat.le_of_ble_eq_true rfl, Nat.le_of_ble_eq_true rfl⟩) (hP.sub (ws' := []) [] rfl) (hK.sub (tys' := []) [] rfl) rfl hl.1 rfl (Nat.le_of_ble_eq_true rfl) dL_circuits_13 ⟨Nat.zero_le _, Nat.zero_le _⟩ ?_
  refine lv_istore_n (lv' := [(3, .int (zI (aw_gc (dv 7) (dv 3)))), (0, .ref o), (1, .ref da), (2, .ref pa)]) hx hb dL_circuits_16 rfl hl (by decide) rfl (fun ls hl => ?_)
  refine lv_aload_n hx hb dL_circuits_17 rfl (lv_at hl 2 rfl) ?_
  refine zb_bipush hx hb dL_circuits_18 (by decide) ?_
  refine aw_dld hx hb hK hP 3 1 rfl rfl 7 (by decide) dL_circuits_20 ?_
  refine lv_aload_n hx hb dL_circuits_21 rfl (lv_at hl 2 rfl) ?_
  refine zb_iconst hx hb dL_circuits_22 ?_
  refine aw_dld hx hb hK hP 3 1 rfl rfl 3 (by decide) dL_circuits_23 ?_
  refine aw_callS (As := [.int (zI (dv 7)), .int (zI (dv 3))]) (rest := []) ⟨hx, hb, hml, hown, hts⟩ (k_mod (x := dv 7) (n := dv 3) ⟨by omega, by omega⟩ ⟨by omega, by omega⟩) (va_cwS 2 hts gL_circuits_L_mod rfl rfl rfl (by decide +kernel) ⟨Nat.le_of_ble_eq_true rfl, Nat.le_of_ble_eq_true rfl⟩) (hP.sub (ws' := []) [] rfl) (hK.sub (tys' := []) [] rfl) rfl hl.1 rfl (Nat.le_of_ble_eq_true rfl) dL_circuits_24 ⟨Nat.zero_le _, Nat.zero_le _⟩ ?_
  refine zb_join (fun u => u = aw_gc (dv 7) (dv 3)) (pcj := 37) (lj := ls) (rj := []) (fun u hu => ?_) (fun hj37 => ?_)
  rotate_left
  · skip
    refine zb_ine (tgt := 36) hx hb dL_circuits_27 (by decide) (by omega) (fun c27 => ?_) (fun c27 => ?_)
    · skip
      refine lv_iload_n hx hb dL_circuits_36 rfl (lv_at hl 0 rfl) ?_
      exact hj37 (aw_gc (dv 7) (dv 3)) rfl
    · skip
      refine lv_aload_n hx hb dL_circuits_30 rfl (lv_at hl 2 rfl) ?_
      refine zb_iconst hx hb dL_circuits_31 ?_
      refine aw_dld hx hb hK hP 3 1 rfl rfl 3 (by decide) dL_circuits_32 ?_
      refine lv_goto (tgt := 37) hx hb dL_circuits_33 (by decide) ?_
      exact hj37 (dv 3) (aw_gc_0 hN (by omega)).symm
  · skip
    subst hu
    refine lv_istore_n (lv' := [(3, .int (zI (aw_gc (dv 7) (dv 3)))), (0, .ref o), (1, .ref da), (2, .ref pa)]) hx hb dL_circuits_37 rfl hl (by decide) rfl (fun ls hl => ?_)
    refine zb_iconst hx hb dL_circuits_38 ?_
    refine lv_istore (lv' := [(4, .int (zI 0)), (3, .int (zI (aw_gc (dv 7) (dv 3)))), (0, .ref o), (1, .ref da), (2, .ref pa)]) hx hb dL_circuits_39 hl (by decide) rfl (fun ls hl => ?_)
    refine zb_iconst hx hb dL_circuits_41 ?_
    refine lv_istore (lv' := [(5, .int (zI 0)), (4, .int (zI 0)), (3, .int (zI (aw_gc (dv 7) (dv 3)))), (0, .ref o), (1, .ref da), (2, .ref pa)]) hx hb dL_circuits_42 hl (by decide) rfl (fun ls hl => ?_)
    refine zb_iconst hx hb dL_circuits_44 ?_
    refine lv_istore (lv' := [(6, .int (zI ((-1)))), (5, .int (zI 0)), (4, .int (zI 0)), (3, .int (zI (aw_gc (dv 7) (dv 3)))), (0, .ref o), (1, .ref da), (2, .ref pa)]) hx hb dL_circuits_45 hl (by decide) rfl (fun ls hl => ?_)
    refine zb_iconst hx hb dL_circuits_47 ?_
    refine lv_istore (lv' := [(7, .int (zI 0)), (6, .int (zI ((-1)))), (5, .int (zI 0)), (4, .int (zI 0)), (3, .int (zI (aw_gc (dv 7) (dv 3)))), (0, .ref o), (1, .ref da), (2, .ref pa)]) hx hb dL_circuits_48 hl (by decide) rfl (fun ls hl => ?_)
    refine zb_lp4 (nL := 12) (fun pp cl la q => 0 ≤ q ∧ q ≤ aw_gc (dv 7) (dv 3) ∧ pp = q * aw_ln (dv 7) (dv 3) ∧ cl = aw_cn (aw_cl (dv 7) (dv 3) ob) q ∧ la = q - 1) (fun pp cl la q => [(7, .int (zI q)), (6, .int (zI la)), (5, .int (zI cl)), (4, .int (zI pp)), (3, .int (zI (aw_gc (dv 7) (dv 3)))), (2, .ref pa), (1, .ref da), (0, .ref o)]) (fun pp cl la q => aw_gc (dv 7) (dv 3) - q) 0 0 ((-1)) 0 ⟨by omega, by omega, by omega, (aw_cn_0 _).symm, by omega⟩ (lv_sub hl [0, 1, 2, 3, 4, 7, 6, 5] rfl) ?_
    intro pp cl la q ls hJ50 hl ih50
    have hJ50 : 0 ≤ q ∧ q ≤ aw_gc (dv 7) (dv 3) ∧ pp = q * aw_ln (dv 7) (dv 3) ∧ cl = aw_cn (aw_cl (dv 7) (dv 3) ob) q ∧ la = q - 1 := hJ50
    have hl : lv_has ls 12 [(7, .int (zI q)), (6, .int (zI la)), (5, .int (zI cl)), (4, .int (zI pp)), (3, .int (zI (aw_gc (dv 7) (dv 3)))), (2, .ref pa), (1, .ref da), (0, .ref o)] := hl
    have hcn := aw_cn_le (aw_cl (dv 7) (dv 3) ob) (z := q) hJ50.1
    have hqL := aw_mul (x := q) (y := aw_ln (dv 7) (dv 3)) (a := 72) (b := 72) (by omega) (by omega) (by omega) (by omega)
    refine lv_iload hx hb dL_circuits_50 (lv_at hl 0 rfl) ?_
    refine lv_iload_n hx hb dL_circuits_52 rfl (lv_at hl 4 rfl) ?_
    refine zb_cge (tgt := 270) hx hb dL_circuits_53 (by decide) (by omega) (by omega) (fun c53 => ?_) (fun c53 => ?_)
    · skip
      have e50 : q = aw_gc (dv 7) (dv 3) := by omega
      have hcl2 : cl = aw_cn (aw_cl (dv 7) (dv 3) ob) (aw_gc (dv 7) (dv 3)) := by rw [hJ50.2.2.2.1, e50]
      have hpp2 : pp = dv 3 := by rw [hJ50.2.2.1, e50, Int.mul_comm]; exact hLG
      have hcn2 := aw_cn_le (aw_cl (dv 7) (dv 3) ob) (z := aw_gc (dv 7) (dv 3)) (by omega)
      refine lv_iload hx hb dL_circuits_270 (lv_at hl 3 rfl) ?_
      refine lv_aload_n hx hb dL_circuits_272 rfl (lv_at hl 6 rfl) ?_
      refine zb_iconst hx hb dL_circuits_273 ?_
      refine aw_dld hx hb hK hP 3 1 rfl rfl 3 (by decide) dL_circuits_274 ?_
      refine zb_cne (tgt := 337) hx hb dL_circuits_275 (by decide) (by omega) (by omega) (fun c275 => absurd c275 (by omega)) (fun c275 => ?_)
      refine lv_aload_n hx hb dL_circuits_278 rfl (lv_at hl 7 rfl) ?_
      refine aw_callV (As := []) (rest := []) ⟨hx, hb, hml, hown, hts⟩ (k_circuitCount hI) (cwV 0 hts gL_circuits_X0_circuitCount rfl rfl rfl (by decide +kernel) ⟨Nat.le_of_ble_eq_true rfl, Nat.le_of_ble_eq_true rfl⟩) hP3 hK rfl rfl rfl hl.1 rfl (Nat.le_of_ble_eq_true rfl) dL_circuits_279 ⟨Nat.zero_le _, Nat.zero_le _⟩ ?_
      refine lv_iload_n hx hb dL_circuits_282 rfl (lv_at hl 4 rfl) ?_
      refine zb_cne (tgt := 337) hx hb dL_circuits_283 (by decide) (by omega) (by omega) (fun c283 => absurd c283 (by omega)) (fun c283 => ?_)
      refine lv_aload_n hx hb dL_circuits_286 rfl (lv_at hl 7 rfl) ?_
      refine aw_callV (As := []) (rest := []) ⟨hx, hb, hml, hown, hts⟩ (k_closedCircuits hI) (cwV 0 hts gL_circuits_X0_closedCircuits rfl rfl rfl (by decide +kernel) ⟨Nat.le_of_ble_eq_true rfl, Nat.le_of_ble_eq_true rfl⟩) hP3 hK rfl rfl rfl hl.1 rfl (Nat.le_of_ble_eq_true rfl) dL_circuits_287 ⟨Nat.zero_le _, Nat.zero_le _⟩ ?_
      refine lv_iload hx hb dL_circuits_290 (lv_at hl 2 rfl) ?_
      refine zb_cne (tgt := 337) hx hb dL_circuits_292 (by decide) (by omega) (by omega) (fun c292 => absurd c292 (by omega)) (fun c292 => ?_)
      refine lv_aload_n hx hb dL_circuits_295 rfl (lv_at hl 7 rfl) ?_
      refine lv_iload_n hx hb dL_circuits_296 rfl (lv_at hl 4 rfl) ?_
      refine zb_iconst hx hb dL_circuits_297 ?_
      refine aw_callV (As := [.int (zI (aw_gc (dv 7) (dv 3))), .int (zI 0)]) (rest := []) ⟨hx, hb, hml, hown, hts⟩ (k_coilAt_no (q := aw_gc (dv 7) (dv 3)) (k := 0) hI ⟨by omega, by omega⟩ (by omega)) (cwV 2 hts gL_circuits_X0_coilAt rfl rfl rfl (by decide +kernel) ⟨Nat.le_of_ble_eq_true rfl, Nat.le_of_ble_eq_true rfl⟩) hP3 hK rfl rfl rfl hl.1 rfl (Nat.le_of_ble_eq_true rfl) dL_circuits_298 ⟨Nat.zero_le _, Nat.zero_le _⟩ ?_
      refine zb_sipush hx hb dL_circuits_301 (by decide) ?_
      refine zb_cne (tgt := 337) hx hb dL_circuits_304 (by decide) (by omega) (by omega) (fun c304 => absurd c304 (by omega)) (fun c304 => ?_)
      refine lv_aload_n hx hb dL_circuits_307 rfl (lv_at hl 7 rfl) ?_
      refine zb_iconst hx hb dL_circuits_308 ?_
      refine zb_bipush hx hb dL_circuits_309 (by decide) ?_
      refine aw_callV (As := [.int (zI ((-1))), .int (zI 9)]) (rest := []) ⟨hx, hb, hml, hown, hts⟩ (k_coilAt_no (q := -1) (k := 9) hI ⟨by omega, by omega⟩ (by omega)) (cwV 2 hts gL_circuits_X0_coilAt rfl rfl rfl (by decide +kernel) ⟨Nat.le_of_ble_eq_true rfl, Nat.le_of_ble_eq_true rfl⟩) hP3 hK rfl rfl rfl hl.1 rfl (Nat.le_of_ble_eq_true rfl) dL_circuits_311 ⟨Nat.zero_le _, Nat.zero_le _⟩ ?_
      refine zb_sipush hx hb dL_circuits_314 (by decide) ?_
      refine zb_cne (tgt := 337) hx hb dL_circuits_317 (by decide) (by omega) (by omega) (fun c317 => absurd c317 (by omega)) (fun c317 => ?_)
      refine lv_aload_n hx hb dL_circuits_320 rfl (lv_at hl 7 rfl) ?_
      refine lv_aload_n hx hb dL_circuits_321 rfl (lv_at hl 6 rfl) ?_
      refine zb_iconst hx hb dL_circuits_322 ?_
      refine aw_dld hx hb hK hP 3 1 rfl rfl 3 (by decide) dL_circuits_323 ?_
      refine aw_callV (As := [.int (zI (dv 3))]) (rest := []) ⟨hx, hb, hml, hown, hts⟩ (k_circuitOf_no (z := dv 3) hI ⟨by omega, by omega⟩ (by omega)) (cwV 1 hts gL_circuits_X0_circuitOf rfl rfl rfl (by decide +kernel) ⟨Nat.le_of_ble_eq_true rfl, Nat.le_of_ble_eq_true rfl⟩) hP3 hK rfl rfl rfl hl.1 rfl (Nat.le_of_ble_eq_true rfl) dL_circuits_324 ⟨Nat.zero_le _, Nat.zero_le _⟩ ?_
      refine zb_sipush hx hb dL_circuits_327 (by decide) ?_
      refine zb_cne (tgt := 337) hx hb dL_circuits_330 (by decide) (by omega) (by omega) (fun c330 => absurd c330 (by omega)) (fun c330 => ?_)
      refine zb_iconst hx hb dL_circuits_333 ?_
      refine lv_goto (tgt := 338) hx hb dL_circuits_334 (by decide) ?_
      exact aw_zret hx hb hr hlocks dL_circuits_338 (by omega) rfl
    · skip
      refine lv_aload_n hx hb dL_circuits_56 rfl (lv_at hl 6 rfl) ?_
      refine zb_iconst hx hb dL_circuits_57 ?_
      refine aw_dld hx hb hK hP 3 1 rfl rfl 3 (by decide) dL_circuits_58 ?_
      refine lv_iload_n hx hb dL_circuits_59 rfl (lv_at hl 4 rfl) ?_
      refine zb_div hx hb dL_circuits_60 (by omega) (by omega) ?_
      refine zb_as (aw_ln (dv 7) (dv 3)) rfl ?_
      refine lv_istore (lv' := [(8, .int (zI (aw_ln (dv 7) (dv 3)))), (7, .int (zI q)), (6, .int (zI la)), (5, .int (zI cl)), (4, .int (zI pp)), (3, .int (zI (aw_gc (dv 7) (dv 3)))), (2, .ref pa), (1, .ref da), (0, .ref o)]) hx hb dL_circuits_61 hl (by decide) rfl (fun ls hl => ?_)
      refine zb_iconst hx hb dL_circuits_63 ?_
      refine lv_istore (lv' := [(9, .int (zI 1)), (8, .int (zI (aw_ln (dv 7) (dv 3)))), (7, .int (zI q)), (6, .int (zI la)), (5, .int (zI cl)), (4, .int (zI pp)), (3, .int (zI (aw_gc (dv 7) (dv 3)))), (2, .ref pa), (1, .ref da), (0, .ref o)]) hx hb dL_circuits_64 hl (by decide) rfl (fun ls hl => ?_)
      refine zb_iconst hx hb dL_circuits_66 ?_
      refine lv_istore (lv' := [(10, .int (zI 0)), (9, .int (zI 1)), (8, .int (zI (aw_ln (dv 7) (dv 3)))), (7, .int (zI q)), (6, .int (zI la)), (5, .int (zI cl)), (4, .int (zI pp)), (3, .int (zI (aw_gc (dv 7) (dv 3)))), (2, .ref pa), (1, .ref da), (0, .ref o)]) hx hb dL_circuits_67 hl (by decide) rfl (fun ls hl => ?_)
      refine zb_lp3 (nL := 12) (fun pa1 b k => 0 ≤ k ∧ k ≤ aw_ln (dv 7) (dv 3) ∧ pa1 = q * aw_ln (dv 7) (dv 3) + k ∧ b = aw_b (aw_al (aw_ci (dv 7) (dv 3) ob q) k)) (fun pa1 b k => [(10, .int (zI k)), (9, .int (zI b)), (8, .int (zI (aw_ln (dv 7) (dv 3)))), (4, .int (zI pa1)), (7, .int (zI q)), (6, .int (zI la)), (5, .int (zI cl)), (3, .int (zI (aw_gc (dv 7) (dv 3)))), (2, .ref pa), (1, .ref da), (0, .ref o)]) (fun pa1 b k => aw_ln (dv 7) (dv 3) - k) pp 1 0 ⟨by omega, by omega, by omega, rfl⟩ (lv_sub hl [0, 1, 2, 6, 3, 4, 5, 7, 8, 9, 10] rfl) ?_
      intro pa1 b k ls hJ69 hl ih69
      have hJ69 : 0 ≤ k ∧ k ≤ aw_ln (dv 7) (dv 3) ∧ pa1 = q * aw_ln (dv 7) (dv 3) + k ∧ b = aw_b (aw_al (aw_ci (dv 7) (dv 3) ob q) k) := hJ69
      have hl : lv_has ls 12 [(10, .int (zI k)), (9, .int (zI b)), (8, .int (zI (aw_ln (dv 7) (dv 3)))), (4, .int (zI pa1)), (7, .int (zI q)), (6, .int (zI la)), (5, .int (zI cl)), (3, .int (zI (aw_gc (dv 7) (dv 3)))), (2, .ref pa), (1, .ref da), (0, .ref o)] := hl
      have hkb := aw_b_01 (aw_al (aw_ci (dv 7) (dv 3) ob q) k)
      refine lv_iload hx hb dL_circuits_69 (lv_at hl 0 rfl) ?_
      refine lv_iload hx hb dL_circuits_71 (lv_at hl 2 rfl) ?_
      refine zb_cge (tgt := 175) hx hb dL_circuits_73 (by decide) (by omega) (by omega) (fun c73 => ?_) (fun c73 => ?_)
      · skip
        have e69 : k = aw_ln (dv 7) (dv 3) := by omega
        refine lv_aload_n hx hb dL_circuits_175 rfl (lv_at hl 10 rfl) ?_
        refine lv_iload hx hb dL_circuits_176 (lv_at hl 4 rfl) ?_
        refine lv_iload hx hb dL_circuits_178 (lv_at hl 2 rfl) ?_
        refine aw_callV (As := [.int (zI q), .int (zI (aw_ln (dv 7) (dv 3)))]) (rest := []) ⟨hx, hb, hml, hown, hts⟩ (k_coilAt_none (q := q) (k := aw_ln (dv 7) (dv 3)) hI ⟨by omega, by omega⟩ ⟨by omega, by omega⟩ (by omega)) (cwV 2 hts gL_circuits_X0_coilAt rfl rfl rfl (by decide +kernel) ⟨Nat.le_of_ble_eq_true rfl, Nat.le_of_ble_eq_true rfl⟩) hP3 hK rfl rfl rfl hl.1 rfl (Nat.le_of_ble_eq_true rfl) dL_circuits_180 ⟨Nat.zero_le _, Nat.zero_le _⟩ ?_
        refine zb_sipush hx hb dL_circuits_183 (by decide) ?_
        refine zb_cne (tgt := 238) hx hb dL_circuits_186 (by decide) (by omega) (by omega) (fun c186 => absurd c186 (by omega)) (fun c186 => ?_)
        refine lv_aload_n hx hb dL_circuits_189 rfl (lv_at hl 10 rfl) ?_
        refine lv_iload hx hb dL_circuits_190 (lv_at hl 4 rfl) ?_
        refine zb_iconst hx hb dL_circuits_192 ?_
        refine aw_callV (As := [.int (zI q), .int (zI ((-1)))]) (rest := []) ⟨hx, hb, hml, hown, hts⟩ (k_coilAt_none (q := q) (k := -1) hI ⟨by omega, by omega⟩ ⟨by omega, by omega⟩ (by omega)) (cwV 2 hts gL_circuits_X0_coilAt rfl rfl rfl (by decide +kernel) ⟨Nat.le_of_ble_eq_true rfl, Nat.le_of_ble_eq_true rfl⟩) hP3 hK rfl rfl rfl hl.1 rfl (Nat.le_of_ble_eq_true rfl) dL_circuits_193 ⟨Nat.zero_le _, Nat.zero_le _⟩ ?_
        refine zb_sipush hx hb dL_circuits_196 (by decide) ?_
        refine zb_cne (tgt := 238) hx hb dL_circuits_199 (by decide) (by omega) (by omega) (fun c199 => absurd c199 (by omega)) (fun c199 => ?_)
        refine lv_aload_n hx hb dL_circuits_202 rfl (lv_at hl 10 rfl) ?_
        refine lv_aload_n hx hb dL_circuits_203 rfl (lv_at hl 10 rfl) ?_
        refine lv_iload hx hb dL_circuits_204 (lv_at hl 4 rfl) ?_
        refine lv_iload hx hb dL_circuits_206 (lv_at hl 2 rfl) ?_
        refine zb_iconst hx hb dL_circuits_208 ?_
        refine zb_sub hx hb dL_circuits_209 ?_
        refine aw_callV (As := [.int (zI q), .int (zI ((aw_ln (dv 7) (dv 3)) - 1))]) (rest := [.ref o]) ⟨hx, hb, hml, hown, hts⟩ (k_coilAt (q := q) (k := aw_ln (dv 7) (dv 3) - 1) hI ⟨by omega, by omega⟩ ⟨by omega, by omega⟩) (cwV 2 hts gL_circuits_X0_coilAt rfl rfl rfl (by decide +kernel) ⟨Nat.le_of_ble_eq_true rfl, Nat.le_of_ble_eq_true rfl⟩) hP3 hK rfl rfl rfl hl.1 rfl (Nat.le_of_ble_eq_true rfl) dL_circuits_210 ⟨Nat.zero_le _, Nat.zero_le _⟩ ?_
        have h210 := aw_mod (x := q + (aw_ln (dv 7) (dv 3) - 1) * dv 7) hN
        refine aw_callV (As := [.int (zI ((q + (aw_ln (dv 7) (dv 3) - 1) * dv 7) % dv 3))]) (rest := []) ⟨hx, hb, hml, hown, hts⟩ (k_endBar (z := (q + (aw_ln (dv 7) (dv 3) - 1) * dv 7) % dv 3) hI (aw_mod hN)) (cwV 1 hts gL_circuits_X0_endBar rfl rfl rfl (by decide +kernel) ⟨Nat.le_of_ble_eq_true rfl, Nat.le_of_ble_eq_true rfl⟩) hP3 hK rfl rfl rfl hl.1 rfl (Nat.le_of_ble_eq_true rfl) dL_circuits_213 ⟨Nat.zero_le _, Nat.zero_le _⟩ ?_
        refine lv_aload_n hx hb dL_circuits_216 rfl (lv_at hl 10 rfl) ?_
        refine lv_iload hx hb dL_circuits_217 (lv_at hl 4 rfl) ?_
        refine zb_iconst hx hb dL_circuits_219 ?_
        refine aw_callV (As := [.int (zI q), .int (zI 0)]) (rest := [.int (zI (((q + (aw_ln (dv 7) (dv 3) - 1) * dv 7) % dv 3 + dv 7) % dv 3))]) ⟨hx, hb, hml, hown, hts⟩ (k_coilAt (q := q) (k := 0) hI ⟨by omega, by omega⟩ ⟨by omega, by omega⟩) (cwV 2 hts gL_circuits_X0_coilAt rfl rfl rfl (by decide +kernel) ⟨Nat.le_of_ble_eq_true rfl, Nat.le_of_ble_eq_true rfl⟩) hP3 hK rfl rfl rfl hl.1 rfl (Nat.le_of_ble_eq_true rfl) dL_circuits_220 ⟨Nat.zero_le _, Nat.zero_le _⟩ ?_
        refine zb_as (q) (aw_at0 (by omega) (by omega)) ?_
        refine zb_cne (tgt := 238) hx hb dL_circuits_223 (by decide) (by have := aw_mod (x := (q + (aw_ln (dv 7) (dv 3) - 1) * dv 7) % dv 3 + dv 7) hN; omega) (by omega) (fun c223 => absurd c223 (fun hh => hh (aw_back hN (by omega) (by omega)))) (fun c223 => ?_)
        refine lv_aload_n hx hb dL_circuits_226 rfl (lv_at hl 10 rfl) ?_
        refine lv_iload hx hb dL_circuits_227 (lv_at hl 4 rfl) ?_
        refine zb_iconst hx hb dL_circuits_229 ?_
        refine aw_callV (As := [.int (zI q), .int (zI 0)]) (rest := []) ⟨hx, hb, hml, hown, hts⟩ (k_coilAt (q := q) (k := 0) hI ⟨by omega, by omega⟩ ⟨by omega, by omega⟩) (cwV 2 hts gL_circuits_X0_coilAt rfl rfl rfl (by decide +kernel) ⟨Nat.le_of_ble_eq_true rfl, Nat.le_of_ble_eq_true rfl⟩) hP3 hK rfl rfl rfl hl.1 rfl (Nat.le_of_ble_eq_true rfl) dL_circuits_230 ⟨Nat.zero_le _, Nat.zero_le _⟩ ?_
        refine zb_as (q) (aw_at0 (by omega) (by omega)) ?_
        refine lv_iload hx hb dL_circuits_233 (lv_at hl 5 rfl) ?_
        refine zb_cgt (tgt := 240) hx hb dL_circuits_235 (by decide) (by omega) (by omega) (fun c235 => ?_) (fun c235 => absurd c235 (by omega))
        refine lv_aload_n hx hb dL_circuits_240 rfl (lv_at hl 10 rfl) ?_
        refine lv_iload hx hb dL_circuits_241 (lv_at hl 4 rfl) ?_
        refine zb_iconst hx hb dL_circuits_243 ?_
        refine aw_callV (As := [.int (zI q), .int (zI 0)]) (rest := []) ⟨hx, hb, hml, hown, hts⟩ (k_coilAt (q := q) (k := 0) hI ⟨by omega, by omega⟩ ⟨by omega, by omega⟩) (cwV 2 hts gL_circuits_X0_coilAt rfl rfl rfl (by decide +kernel) ⟨Nat.le_of_ble_eq_true rfl, Nat.le_of_ble_eq_true rfl⟩) hP3 hK rfl rfl rfl hl.1 rfl (Nat.le_of_ble_eq_true rfl) dL_circuits_244 ⟨Nat.zero_le _, Nat.zero_le _⟩ ?_
        refine zb_as (q) (aw_at0 (by omega) (by omega)) ?_
        refine lv_istore (lv' := [(6, .int (zI q)), (10, .int (zI k)), (9, .int (zI b)), (8, .int (zI (aw_ln (dv 7) (dv 3)))), (4, .int (zI pa1)), (7, .int (zI q)), (5, .int (zI cl)), (3, .int (zI (aw_gc (dv 7) (dv 3)))), (2, .ref pa), (1, .ref da), (0, .ref o)]) hx hb dL_circuits_247 hl (by decide) rfl (fun ls hl => ?_)
        refine lv_iload hx hb dL_circuits_249 (lv_at hl 6 rfl) ?_
        refine lv_iload hx hb dL_circuits_251 (lv_at hl 2 rfl) ?_
        refine zb_ieq (tgt := 260) hx hb dL_circuits_253 (by decide) (by omega) (fun c253 => ?_) (fun c253 => ?_)
        · skip
          refine zb_iconst hx hb dL_circuits_260 ?_
          refine zb_add hx hb dL_circuits_261 ?_
          refine lv_istore (lv' := [(5, .int (zI (cl + 0))), (6, .int (zI q)), (10, .int (zI k)), (9, .int (zI b)), (8, .int (zI (aw_ln (dv 7) (dv 3)))), (4, .int (zI pa1)), (7, .int (zI q)), (3, .int (zI (aw_gc (dv 7) (dv 3)))), (2, .ref pa), (1, .ref da), (0, .ref o)]) hx hb dL_circuits_262 hl (by decide) rfl (fun ls hl => ?_)
          refine zb_iinc (lv' := [(7, .int (zI (q + 1))), (5, .int (zI (cl + 0))), (6, .int (zI q)), (10, .int (zI k)), (9, .int (zI b)), (8, .int (zI (aw_ln (dv 7) (dv 3)))), (4, .int (zI pa1)), (3, .int (zI (aw_gc (dv 7) (dv 3)))), (2, .ref pa), (1, .ref da), (0, .ref o)]) hx hb dL_circuits_264 hl (k := 6) rfl (by decide) rfl (fun ls hl => ?_)
          refine lv_goto (tgt := 50) hx hb dL_circuits_267 (by decide) ?_
          exact ih50 pa1 (cl + 0) q (q + 1) ls ⟨by omega, by omega, by rw [hJ69.2.2.1, e69, Int.add_mul, Int.one_mul], by rw [aw_cn_s _ hJ50.1, hJ50.2.2.2.1, aw_b_f (aw_clf e69 hJ69.2.2.2 c253)], by omega⟩ (by omega) (lv_sub hl [0, 2, 1, 6, 7, 8, 9, 10] rfl)
        · skip
          refine zb_iconst hx hb dL_circuits_256 ?_
          refine lv_goto (tgt := 261) hx hb dL_circuits_257 (by decide) ?_
          refine zb_add hx hb dL_circuits_261 ?_
          refine lv_istore (lv' := [(5, .int (zI (cl + 1))), (6, .int (zI q)), (10, .int (zI k)), (9, .int (zI b)), (8, .int (zI (aw_ln (dv 7) (dv 3)))), (4, .int (zI pa1)), (7, .int (zI q)), (3, .int (zI (aw_gc (dv 7) (dv 3)))), (2, .ref pa), (1, .ref da), (0, .ref o)]) hx hb dL_circuits_262 hl (by decide) rfl (fun ls hl => ?_)
          refine zb_iinc (lv' := [(7, .int (zI (q + 1))), (5, .int (zI (cl + 1))), (6, .int (zI q)), (10, .int (zI k)), (9, .int (zI b)), (8, .int (zI (aw_ln (dv 7) (dv 3)))), (4, .int (zI pa1)), (3, .int (zI (aw_gc (dv 7) (dv 3)))), (2, .ref pa), (1, .ref da), (0, .ref o)]) hx hb dL_circuits_264 hl (k := 6) rfl (by decide) rfl (fun ls hl => ?_)
          refine lv_goto (tgt := 50) hx hb dL_circuits_267 (by decide) ?_
          exact ih50 pa1 (cl + 1) q (q + 1) ls ⟨by omega, by omega, by rw [hJ69.2.2.1, e69, Int.add_mul, Int.one_mul], by rw [aw_cn_s _ hJ50.1, hJ50.2.2.2.1, aw_b_t (aw_clt e69 hJ69.2.2.2 c253)], by omega⟩ (by omega) (lv_sub hl [0, 2, 1, 6, 7, 8, 9, 10] rfl)
      · skip
        refine lv_aload_n hx hb dL_circuits_76 rfl (lv_at hl 10 rfl) ?_
        refine lv_iload hx hb dL_circuits_77 (lv_at hl 4 rfl) ?_
        refine lv_iload hx hb dL_circuits_79 (lv_at hl 0 rfl) ?_
        refine aw_callV (As := [.int (zI q), .int (zI k)]) (rest := []) ⟨hx, hb, hml, hown, hts⟩ (k_coilAt (q := q) (k := k) hI ⟨by omega, by omega⟩ ⟨by omega, by omega⟩) (cwV 2 hts gL_circuits_X0_coilAt rfl rfl rfl (by decide +kernel) ⟨Nat.le_of_ble_eq_true rfl, Nat.le_of_ble_eq_true rfl⟩) hP3 hK rfl rfl rfl hl.1 rfl (Nat.le_of_ble_eq_true rfl) dL_circuits_81 ⟨Nat.zero_le _, Nat.zero_le _⟩ ?_
        refine zb_nm (fun z e_z => ?_)
        have hz : 0 ≤ z ∧ z < dv 3 := by rw [e_z]; exact aw_mod hN
        have hzg : z % aw_gc (dv 7) (dv 3) = q := by rw [e_z, aw_gc_mod hN]; exact Int.emod_eq_of_lt (by omega) (by omega)
        have hzq : q ≤ z := by have := aw_emod_le (z := z) (n := aw_gc (dv 7) (dv 3)) hz.1 (by omega); omega
        have hbz := aw_b_01 (ob z)
        refine lv_istore (lv' := [(11, .int (zI z)), (10, .int (zI k)), (9, .int (zI b)), (8, .int (zI (aw_ln (dv 7) (dv 3)))), (4, .int (zI pa1)), (7, .int (zI q)), (6, .int (zI la)), (5, .int (zI cl)), (3, .int (zI (aw_gc (dv 7) (dv 3)))), (2, .ref pa), (1, .ref da), (0, .ref o)]) hx hb dL_circuits_84 hl (by decide) rfl (fun ls hl => ?_)
        refine lv_iload hx hb dL_circuits_86 (lv_at hl 0 rfl) ?_
        refine zb_ilt (tgt := 143) hx hb dL_circuits_88 (by decide) (by omega) (fun c88 => absurd c88 (by omega)) (fun c88 => ?_)
        refine lv_aload_n hx hb dL_circuits_91 rfl (lv_at hl 11 rfl) ?_
        refine lv_iload hx hb dL_circuits_92 (lv_at hl 0 rfl) ?_
        refine aw_callV (As := [.int (zI z)]) (rest := []) ⟨hx, hb, hml, hown, hts⟩ (k_circuitOf (z := z) hI hz) (cwV 1 hts gL_circuits_X0_circuitOf rfl rfl rfl (by decide +kernel) ⟨Nat.le_of_ble_eq_true rfl, Nat.le_of_ble_eq_true rfl⟩) hP3 hK rfl rfl rfl hl.1 rfl (Nat.le_of_ble_eq_true rfl) dL_circuits_94 ⟨Nat.zero_le _, Nat.zero_le _⟩ ?_
        refine lv_iload hx hb dL_circuits_97 (lv_at hl 5 rfl) ?_
        refine zb_cne (tgt := 143) hx hb dL_circuits_99 (by decide) (by omega) (by omega) (fun c99 => absurd c99 (by omega)) (fun c99 => ?_)
        refine lv_iload hx hb dL_circuits_102 (lv_at hl 1 rfl) ?_
        refine zb_cut (pcj := 145) (lj := ls) (rj := []) ?_ (fun hk145 => ?_)
        rotate_left
        · skip
          refine zb_ile (tgt := 126) hx hb dL_circuits_104 (by decide) (by omega) (fun c104 => ?_) (fun c104 => ?_)
          · skip
            refine lv_iload hx hb dL_circuits_126 (lv_at hl 1 rfl) ?_
            refine zb_ile (tgt := 145) hx hb dL_circuits_128 (by decide) (by omega) (fun c128 => ?_) (fun c128 => absurd c128 (by omega))
            exact hk145
          · skip
            refine lv_iload hx hb dL_circuits_107 (lv_at hl 0 rfl) ?_
            refine lv_aload_n hx hb dL_circuits_109 rfl (lv_at hl 11 rfl) ?_
            refine lv_aload_n hx hb dL_circuits_110 rfl (lv_at hl 11 rfl) ?_
            refine lv_iload hx hb dL_circuits_111 (lv_at hl 5 rfl) ?_
            refine lv_iload hx hb dL_circuits_113 (lv_at hl 1 rfl) ?_
            refine zb_iconst hx hb dL_circuits_115 ?_
            refine zb_sub hx hb dL_circuits_116 ?_
            refine aw_callV (As := [.int (zI q), .int (zI (k - 1))]) (rest := [.ref o, .int (zI z)]) ⟨hx, hb, hml, hown, hts⟩ (k_coilAt (q := q) (k := k - 1) hI ⟨by omega, by omega⟩ ⟨by omega, by omega⟩) (cwV 2 hts gL_circuits_X0_coilAt rfl rfl rfl (by decide +kernel) ⟨Nat.le_of_ble_eq_true rfl, Nat.le_of_ble_eq_true rfl⟩) hP3 hK rfl rfl rfl hl.1 rfl (Nat.le_of_ble_eq_true rfl) dL_circuits_117 ⟨Nat.zero_le _, Nat.zero_le _⟩ ?_
            have h117 := aw_mod (x := q + (k - 1) * dv 7) hN
            refine aw_callV (As := [.int (zI ((q + (k - 1) * dv 7) % dv 3))]) (rest := [.int (zI z)]) ⟨hx, hb, hml, hown, hts⟩ (k_endBar (z := (q + (k - 1) * dv 7) % dv 3) hI (aw_mod hN)) (cwV 1 hts gL_circuits_X0_endBar rfl rfl rfl (by decide +kernel) ⟨Nat.le_of_ble_eq_true rfl, Nat.le_of_ble_eq_true rfl⟩) hP3 hK rfl rfl rfl hl.1 rfl (Nat.le_of_ble_eq_true rfl) dL_circuits_120 ⟨Nat.zero_le _, Nat.zero_le _⟩ ?_
            have h120 := aw_mod (x := (q + (k - 1) * dv 7) % dv 3 + dv 7) hN
            refine zb_cne (tgt := 143) hx hb dL_circuits_123 (by decide) (by omega) (by omega) (fun c123 => absurd c123 (fun hh => hh (e_z.trans (aw_next hN).symm))) (fun c123 => ?_)
            refine lv_iload hx hb dL_circuits_126 (lv_at hl 1 rfl) ?_
            refine zb_ile (tgt := 145) hx hb dL_circuits_128 (by decide) (by omega) (fun c128 => absurd c128 (by omega)) (fun c128 => ?_)
            refine lv_iload hx hb dL_circuits_131 (lv_at hl 0 rfl) ?_
            refine lv_aload_n hx hb dL_circuits_133 rfl (lv_at hl 11 rfl) ?_
            refine lv_iload hx hb dL_circuits_134 (lv_at hl 5 rfl) ?_
            refine zb_iconst hx hb dL_circuits_136 ?_
            refine aw_callV (As := [.int (zI q), .int (zI 0)]) (rest := [.int (zI z)]) ⟨hx, hb, hml, hown, hts⟩ (k_coilAt (q := q) (k := 0) hI ⟨by omega, by omega⟩ ⟨by omega, by omega⟩) (cwV 2 hts gL_circuits_X0_coilAt rfl rfl rfl (by decide +kernel) ⟨Nat.le_of_ble_eq_true rfl, Nat.le_of_ble_eq_true rfl⟩) hP3 hK rfl rfl rfl hl.1 rfl (Nat.le_of_ble_eq_true rfl) dL_circuits_137 ⟨Nat.zero_le _, Nat.zero_le _⟩ ?_
            refine zb_as (q) (aw_at0 (by omega) (by omega)) ?_
            refine zb_cge (tgt := 145) hx hb dL_circuits_140 (by decide) (by omega) (by omega) (fun c140 => ?_) (fun c140 => absurd c140 (by omega))
            exact hk145
        · skip
          refine lv_iload hx hb dL_circuits_145 (lv_at hl 2 rfl) ?_
          refine zb_ieq (tgt := 163) hx hb dL_circuits_147 (by decide) (by omega) (fun c147 => ?_) (fun c147 => ?_)
          · skip
            refine zb_iconst hx hb dL_circuits_163 ?_
            refine lv_istore (lv' := [(9, .int (zI 0)), (11, .int (zI z)), (10, .int (zI k)), (8, .int (zI (aw_ln (dv 7) (dv 3)))), (4, .int (zI pa1)), (7, .int (zI q)), (6, .int (zI la)), (5, .int (zI cl)), (3, .int (zI (aw_gc (dv 7) (dv 3)))), (2, .ref pa), (1, .ref da), (0, .ref o)]) hx hb dL_circuits_164 hl (by decide) rfl (fun ls hl => ?_)
            refine zb_iinc (lv' := [(4, .int (zI (pa1 + 1))), (9, .int (zI 0)), (11, .int (zI z)), (10, .int (zI k)), (8, .int (zI (aw_ln (dv 7) (dv 3)))), (7, .int (zI q)), (6, .int (zI la)), (5, .int (zI cl)), (3, .int (zI (aw_gc (dv 7) (dv 3)))), (2, .ref pa), (1, .ref da), (0, .ref o)]) hx hb dL_circuits_166 hl (k := 4) rfl (by decide) rfl (fun ls hl => ?_)
            refine zb_iinc (lv' := [(10, .int (zI (k + 1))), (4, .int (zI (pa1 + 1))), (9, .int (zI 0)), (11, .int (zI z)), (8, .int (zI (aw_ln (dv 7) (dv 3)))), (7, .int (zI q)), (6, .int (zI la)), (5, .int (zI cl)), (3, .int (zI (aw_gc (dv 7) (dv 3)))), (2, .ref pa), (1, .ref da), (0, .ref o)]) hx hb dL_circuits_169 hl (k := 3) rfl (by decide) rfl (fun ls hl => ?_)
            refine lv_goto (tgt := 69) hx hb dL_circuits_172 (by decide) ?_
            exact ih69 (pa1 + 1) 0 (k + 1) ls ⟨by omega, by omega, by omega, (aw_ciA hJ69.1 hJ69.2.2.2 c147).symm⟩ (by omega) (lv_sub hl [0, 2, 4, 1, 5, 6, 7, 8, 9, 10, 11] rfl)
          · skip
            refine lv_aload_n hx hb dL_circuits_150 rfl (lv_at hl 9 rfl) ?_
            refine lv_iload hx hb dL_circuits_151 (lv_at hl 0 rfl) ?_
            refine aw_callS (As := [.ref pa, .int (zI z)]) (rest := []) ⟨hx, hb, hml, hown, hts⟩ (k_lisOpen (z := z) hO ⟨by omega, by omega⟩) (va_cwS 2 hts gL_circuits_L_isOpen rfl rfl rfl (by decide +kernel) ⟨Nat.le_of_ble_eq_true rfl, Nat.le_of_ble_eq_true rfl⟩) hPm hK rfl hl.1 rfl (Nat.le_of_ble_eq_true rfl) dL_circuits_153 ⟨Nat.zero_le _, Nat.zero_le _⟩ ?_
            refine zb_ine (tgt := 163) hx hb dL_circuits_156 (by decide) (by omega) (fun c156 => ?_) (fun c156 => ?_)
            · skip
              refine zb_iconst hx hb dL_circuits_163 ?_
              refine lv_istore (lv' := [(9, .int (zI 0)), (11, .int (zI z)), (10, .int (zI k)), (8, .int (zI (aw_ln (dv 7) (dv 3)))), (4, .int (zI pa1)), (7, .int (zI q)), (6, .int (zI la)), (5, .int (zI cl)), (3, .int (zI (aw_gc (dv 7) (dv 3)))), (2, .ref pa), (1, .ref da), (0, .ref o)]) hx hb dL_circuits_164 hl (by decide) rfl (fun ls hl => ?_)
              refine zb_iinc (lv' := [(4, .int (zI (pa1 + 1))), (9, .int (zI 0)), (11, .int (zI z)), (10, .int (zI k)), (8, .int (zI (aw_ln (dv 7) (dv 3)))), (7, .int (zI q)), (6, .int (zI la)), (5, .int (zI cl)), (3, .int (zI (aw_gc (dv 7) (dv 3)))), (2, .ref pa), (1, .ref da), (0, .ref o)]) hx hb dL_circuits_166 hl (k := 4) rfl (by decide) rfl (fun ls hl => ?_)
              refine zb_iinc (lv' := [(10, .int (zI (k + 1))), (4, .int (zI (pa1 + 1))), (9, .int (zI 0)), (11, .int (zI z)), (8, .int (zI (aw_ln (dv 7) (dv 3)))), (7, .int (zI q)), (6, .int (zI la)), (5, .int (zI cl)), (3, .int (zI (aw_gc (dv 7) (dv 3)))), (2, .ref pa), (1, .ref da), (0, .ref o)]) hx hb dL_circuits_169 hl (k := 3) rfl (by decide) rfl (fun ls hl => ?_)
              refine lv_goto (tgt := 69) hx hb dL_circuits_172 (by decide) ?_
              exact ih69 (pa1 + 1) 0 (k + 1) ls ⟨by omega, by omega, by omega, (aw_ciB hJ69.1 e_z c156).symm⟩ (by omega) (lv_sub hl [0, 2, 4, 1, 5, 6, 7, 8, 9, 10, 11] rfl)
            · skip
              refine zb_iconst hx hb dL_circuits_159 ?_
              refine lv_goto (tgt := 164) hx hb dL_circuits_160 (by decide) ?_
              refine lv_istore (lv' := [(9, .int (zI 1)), (11, .int (zI z)), (10, .int (zI k)), (8, .int (zI (aw_ln (dv 7) (dv 3)))), (4, .int (zI pa1)), (7, .int (zI q)), (6, .int (zI la)), (5, .int (zI cl)), (3, .int (zI (aw_gc (dv 7) (dv 3)))), (2, .ref pa), (1, .ref da), (0, .ref o)]) hx hb dL_circuits_164 hl (by decide) rfl (fun ls hl => ?_)
              refine zb_iinc (lv' := [(4, .int (zI (pa1 + 1))), (9, .int (zI 1)), (11, .int (zI z)), (10, .int (zI k)), (8, .int (zI (aw_ln (dv 7) (dv 3)))), (7, .int (zI q)), (6, .int (zI la)), (5, .int (zI cl)), (3, .int (zI (aw_gc (dv 7) (dv 3)))), (2, .ref pa), (1, .ref da), (0, .ref o)]) hx hb dL_circuits_166 hl (k := 4) rfl (by decide) rfl (fun ls hl => ?_)
              refine zb_iinc (lv' := [(10, .int (zI (k + 1))), (4, .int (zI (pa1 + 1))), (9, .int (zI 1)), (11, .int (zI z)), (8, .int (zI (aw_ln (dv 7) (dv 3)))), (7, .int (zI q)), (6, .int (zI la)), (5, .int (zI cl)), (3, .int (zI (aw_gc (dv 7) (dv 3)))), (2, .ref pa), (1, .ref da), (0, .ref o)]) hx hb dL_circuits_169 hl (k := 3) rfl (by decide) rfl (fun ls hl => ?_)
              refine lv_goto (tgt := 69) hx hb dL_circuits_172 (by decide) ?_
              exact ih69 (pa1 + 1) 1 (k + 1) ls ⟨by omega, by omega, by omega, (aw_ciC hJ69.1 hJ69.2.2.2 c147 e_z c156).symm⟩ (by omega) (lv_sub hl [0, 2, 4, 1, 5, 6, 7, 8, 9, 10, 11] rfl)
end
end
section
section
variable {l : Launch} {D : va_G} {yZ yI : ClassId} {o oa ba da pa : Nat} {P S K N w ch : Int} {ty px pr : Int32} {ob : Int → Bool} {g pf : Nat → Int32} {dv : Nat → Int}
set_option maxHeartbeats 4000000 in
set_option maxRecDepth 100000 in
/-- the law's coils: true -/
theorem k_coils (hI : aw_In (dv 0) (dv 1) (dv 2) (dv 3) (dv 7) (dv 8)) (hO : aw_OB pf ob) : aw_RO l yL_coils wsL_coils (aw_rm 3 66) D (aw_T yZ yI) (aw_W5 yZ yI o oa ba da pa dv pf ty px pr ob g) [.ref o, .ref da, .ref pa] (1) := by
  refine Met.ofW (cc := cL_coils) (maxL := 6) (ret := (some .boolean)) (by decide) rfl ?_
  intro p e s m args below meth c s₁ B hml hv
  obtain ⟨rfl, hP, hK⟩ := hv
  have hx := B.exec
  have hb := B.bytes
  have hr := B.returns
  have hts := atoms_spec (ws := wsL_coils) B.pre
  have hown : s.vm.findClass RL = some m.cls := findClass_of_methodNamed B.named
  have hlocks := B.notSynchronized
  have hl := lv_entry ([.ref o, .ref da, .ref pa]) (n := 6) (Nat.le_of_ble_eq_true rfl)
  rw [lg_entry_eq]
  generalize (lg_sl ([.ref o, .ref da, .ref pa]) ++ List.replicate (6 - (lg_sl ([.ref o, .ref da, .ref pa])).length) Slot.unset).toArray = ls at hl ⊢
  have hl : lv_has ls 6 [(0, .ref o), (1, .ref da), (2, .ref pa)] := hl
  obtain ⟨i1, i2, i3, i4, i5, i6, i7, i8, i9, i10, i11, i12, i13⟩ := id hI
  have hP3 : va_P D vwCl (aw_W3 yZ yI o oa ba (dv 0) (dv 1) (dv 2) (dv 3) ty px pr (dv 7) (dv 8) ob g) s.heap := hP.sub [0, 1, 2] rfl
  have hPd : va_P D vwCl [aw_Dr yI da dv] s.heap := hP.sub [3] rfl
  have hPm : va_P D vwCl [aw_Mr yI pa pf] s.heap := hP.sub [4] rfl
  have hN : 0 < dv 3 := by omega
  have hs := aw_sp_in (P := dv 0) (S := dv 1) (ch := dv 8) (by omega) (by omega) (by omega)
  refine zb_iconst hx hb dL_coils_0 ?_
  refine lv_istore_n (lv' := [(3, .int (zI 0)), (0, .ref o), (1, .ref da), (2, .ref pa)]) hx hb dL_coils_1 rfl hl (by decide) rfl (fun ls hl => ?_)
  refine zb_lp1 (nL := 6) (fun z => 0 ≤ z ∧ z ≤ dv 3) (fun z => [(3, .int (zI z)), (2, .ref pa), (1, .ref da), (0, .ref o)]) (fun z => dv 3 - z) 0 ⟨by omega, by omega⟩ (lv_sub hl [0, 3, 2, 1] rfl) ?_
  intro z ls hJ2 hl ih2
  have hJ2 : 0 ≤ z ∧ z ≤ dv 3 := hJ2
  have hl : lv_has ls 6 [(3, .int (zI z)), (2, .ref pa), (1, .ref da), (0, .ref o)] := hl
  refine lv_iload_n hx hb dL_coils_2 rfl (lv_at hl 0 rfl) ?_
  refine lv_aload_n hx hb dL_coils_3 rfl (lv_at hl 2 rfl) ?_
  refine zb_iconst hx hb dL_coils_4 ?_
  refine aw_dld hx hb hK hP 3 1 rfl rfl 3 (by decide) dL_coils_5 ?_
  refine zb_cge (tgt := 77) hx hb dL_coils_6 (by decide) (by omega) (by omega) (fun c6 => ?_) (fun c6 => ?_)
  · skip
    refine zb_iconst hx hb dL_coils_77 ?_
    refine lv_istore_n (lv' := [(3, .int (zI 0)), (2, .ref pa), (1, .ref da), (0, .ref o)]) hx hb dL_coils_78 rfl hl (by decide) rfl (fun ls hl => ?_)
    refine zb_lp1 (nL := 6) (fun a => 0 ≤ a ∧ a ≤ dv 1) (fun a => [(3, .int (zI a)), (2, .ref pa), (1, .ref da), (0, .ref o)]) (fun a => dv 1 - a) 0 ⟨by omega, by omega⟩ (lv_sub hl [0, 1, 2, 3] rfl) ?_
    intro a ls hJ79 hl ih79
    have hJ79 : 0 ≤ a ∧ a ≤ dv 1 := hJ79
    have hl : lv_has ls 6 [(3, .int (zI a)), (2, .ref pa), (1, .ref da), (0, .ref o)] := hl
    refine lv_iload_n hx hb dL_coils_79 rfl (lv_at hl 0 rfl) ?_
    refine lv_aload_n hx hb dL_coils_80 rfl (lv_at hl 2 rfl) ?_
    refine zb_iconst hx hb dL_coils_81 ?_
    refine aw_dld hx hb hK hP 3 1 rfl rfl 1 (by decide) dL_coils_82 ?_
    refine zb_cge (tgt := 163) hx hb dL_coils_83 (by decide) (by omega) (by omega) (fun c83 => ?_) (fun c83 => ?_)
    · skip
      refine lv_aload_n hx hb dL_coils_163 rfl (lv_at hl 3 rfl) ?_
      refine aw_callV (As := []) (rest := []) ⟨hx, hb, hml, hown, hts⟩ (k_coilCount) (cwV 0 hts gL_coils_X0_coilCount rfl rfl rfl (by decide +kernel) ⟨Nat.le_of_ble_eq_true rfl, Nat.le_of_ble_eq_true rfl⟩) hP3 hK rfl rfl rfl hl.1 rfl (Nat.le_of_ble_eq_true rfl) dL_coils_164 ⟨Nat.zero_le _, Nat.zero_le _⟩ ?_
      refine lv_aload_n hx hb dL_coils_167 rfl (lv_at hl 2 rfl) ?_
      refine zb_iconst hx hb dL_coils_168 ?_
      refine aw_dld hx hb hK hP 3 1 rfl rfl 3 (by decide) dL_coils_169 ?_
      refine zb_cne (tgt := 249) hx hb dL_coils_170 (by decide) (by omega) (by omega) (fun c170 => absurd c170 (by omega)) (fun c170 => ?_)
      refine lv_aload_n hx hb dL_coils_173 rfl (lv_at hl 3 rfl) ?_
      refine aw_callV (As := []) (rest := []) ⟨hx, hb, hml, hown, hts⟩ (k_slotPitch hI) (cwV 0 hts gL_coils_X0_slotPitch rfl rfl rfl (by decide +kernel) ⟨Nat.le_of_ble_eq_true rfl, Nat.le_of_ble_eq_true rfl⟩) hP3 hK rfl rfl rfl hl.1 rfl (Nat.le_of_ble_eq_true rfl) dL_coils_174 ⟨Nat.zero_le _, Nat.zero_le _⟩ ?_
      refine lv_aload_n hx hb dL_coils_177 rfl (lv_at hl 2 rfl) ?_
      refine aw_callS (As := [.ref da]) (rest := [.int (zI (aw_sp (dv 0) (dv 1) (dv 8)))]) ⟨hx, hb, hml, hown, hts⟩ (k_lslotPitch hI) (va_cwS 1 hts gL_coils_L_slotPitch rfl rfl rfl (by decide +kernel) ⟨Nat.le_of_ble_eq_true rfl, Nat.le_of_ble_eq_true rfl⟩) hPd hK rfl hl.1 rfl (Nat.le_of_ble_eq_true rfl) dL_coils_178 ⟨Nat.zero_le _, Nat.zero_le _⟩ ?_
      refine zb_cne (tgt := 249) hx hb dL_coils_181 (by decide) (by omega) (by omega) (fun c181 => absurd c181 (by omega)) (fun c181 => ?_)
      refine lv_aload_n hx hb dL_coils_184 rfl (lv_at hl 3 rfl) ?_
      refine zb_iconst hx hb dL_coils_185 ?_
      refine aw_callV (As := [.int (zI ((-1)))]) (rest := []) ⟨hx, hb, hml, hown, hts⟩ (k_endBar_no (z := -1) hI ⟨by omega, by omega⟩ (by omega)) (cwV 1 hts gL_coils_X0_endBar rfl rfl rfl (by decide +kernel) ⟨Nat.le_of_ble_eq_true rfl, Nat.le_of_ble_eq_true rfl⟩) hP3 hK rfl rfl rfl hl.1 rfl (Nat.le_of_ble_eq_true rfl) dL_coils_186 ⟨Nat.zero_le _, Nat.zero_le _⟩ ?_
      refine zb_sipush hx hb dL_coils_189 (by decide) ?_
      refine zb_cne (tgt := 249) hx hb dL_coils_192 (by decide) (by omega) (by omega) (fun c192 => absurd c192 (by omega)) (fun c192 => ?_)
      refine lv_aload_n hx hb dL_coils_195 rfl (lv_at hl 3 rfl) ?_
      refine lv_aload_n hx hb dL_coils_196 rfl (lv_at hl 2 rfl) ?_
      refine zb_iconst hx hb dL_coils_197 ?_
      refine aw_dld hx hb hK hP 3 1 rfl rfl 3 (by decide) dL_coils_198 ?_
      refine aw_callV (As := [.int (zI (dv 3))]) (rest := []) ⟨hx, hb, hml, hown, hts⟩ (k_coilEndingAt_no (z := dv 3) hI ⟨by omega, by omega⟩ (by omega)) (cwV 1 hts gL_coils_X0_coilEndingAt rfl rfl rfl (by decide +kernel) ⟨Nat.le_of_ble_eq_true rfl, Nat.le_of_ble_eq_true rfl⟩) hP3 hK rfl rfl rfl hl.1 rfl (Nat.le_of_ble_eq_true rfl) dL_coils_199 ⟨Nat.zero_le _, Nat.zero_le _⟩ ?_
      refine zb_sipush hx hb dL_coils_202 (by decide) ?_
      refine zb_cne (tgt := 249) hx hb dL_coils_205 (by decide) (by omega) (by omega) (fun c205 => absurd c205 (by omega)) (fun c205 => ?_)
      refine lv_aload_n hx hb dL_coils_208 rfl (lv_at hl 3 rfl) ?_
      refine lv_aload_n hx hb dL_coils_209 rfl (lv_at hl 2 rfl) ?_
      refine zb_iconst hx hb dL_coils_210 ?_
      refine aw_dld hx hb hK hP 3 1 rfl rfl 3 (by decide) dL_coils_211 ?_
      refine aw_callV (As := [.int (zI (dv 3))]) (rest := []) ⟨hx, hb, hml, hown, hts⟩ (k_upperSlot_no (z := dv 3) hI ⟨by omega, by omega⟩ (by omega)) (cwV 1 hts gL_coils_X0_upperSlot rfl rfl rfl (by decide +kernel) ⟨Nat.le_of_ble_eq_true rfl, Nat.le_of_ble_eq_true rfl⟩) hP3 hK rfl rfl rfl hl.1 rfl (Nat.le_of_ble_eq_true rfl) dL_coils_212 ⟨Nat.zero_le _, Nat.zero_le _⟩ ?_
      refine zb_sipush hx hb dL_coils_215 (by decide) ?_
      refine zb_cne (tgt := 249) hx hb dL_coils_218 (by decide) (by omega) (by omega) (fun c218 => absurd c218 (by omega)) (fun c218 => ?_)
      refine lv_aload_n hx hb dL_coils_221 rfl (lv_at hl 3 rfl) ?_
      refine zb_iconst hx hb dL_coils_222 ?_
      refine aw_callV (As := [.int (zI ((-1)))]) (rest := []) ⟨hx, hb, hml, hown, hts⟩ (k_lowerSlot_no (z := -1) hI ⟨by omega, by omega⟩ (by omega)) (cwV 1 hts gL_coils_X0_lowerSlot rfl rfl rfl (by decide +kernel) ⟨Nat.le_of_ble_eq_true rfl, Nat.le_of_ble_eq_true rfl⟩) hP3 hK rfl rfl rfl hl.1 rfl (Nat.le_of_ble_eq_true rfl) dL_coils_223 ⟨Nat.zero_le _, Nat.zero_le _⟩ ?_
      refine zb_sipush hx hb dL_coils_226 (by decide) ?_
      refine zb_cne (tgt := 249) hx hb dL_coils_229 (by decide) (by omega) (by omega) (fun c229 => absurd c229 (by omega)) (fun c229 => ?_)
      refine lv_aload_n hx hb dL_coils_232 rfl (lv_at hl 3 rfl) ?_
      refine lv_aload_n hx hb dL_coils_233 rfl (lv_at hl 2 rfl) ?_
      refine zb_iconst hx hb dL_coils_234 ?_
      refine aw_dld hx hb hK hP 3 1 rfl rfl 1 (by decide) dL_coils_235 ?_
      refine aw_callV (As := [.int (zI (dv 1))]) (rest := []) ⟨hx, hb, hml, hown, hts⟩ (k_openCoilsIn_no (a := dv 1) hI ⟨by omega, by omega⟩ (by omega)) (cwV 1 hts gL_coils_X0_openCoilsIn rfl rfl rfl (by decide +kernel) ⟨Nat.le_of_ble_eq_true rfl, Nat.le_of_ble_eq_true rfl⟩) hP3 hK rfl rfl rfl hl.1 rfl (Nat.le_of_ble_eq_true rfl) dL_coils_236 ⟨Nat.zero_le _, Nat.zero_le _⟩ ?_
      refine zb_sipush hx hb dL_coils_239 (by decide) ?_
      refine zb_cne (tgt := 249) hx hb dL_coils_242 (by decide) (by omega) (by omega) (fun c242 => absurd c242 (by omega)) (fun c242 => ?_)
      refine zb_iconst hx hb dL_coils_245 ?_
      refine lv_goto (tgt := 250) hx hb dL_coils_246 (by decide) ?_
      exact aw_zret hx hb hr hlocks dL_coils_250 (by omega) rfl
    · skip
      refine zb_iconst hx hb dL_coils_86 ?_
      refine lv_istore (lv' := [(4, .int (zI 0)), (3, .int (zI a)), (2, .ref pa), (1, .ref da), (0, .ref o)]) hx hb dL_coils_87 hl (by decide) rfl (fun ls hl => ?_)
      refine zb_iconst hx hb dL_coils_89 ?_
      refine lv_istore (lv' := [(5, .int (zI 0)), (4, .int (zI 0)), (3, .int (zI a)), (2, .ref pa), (1, .ref da), (0, .ref o)]) hx hb dL_coils_90 hl (by decide) rfl (fun ls hl => ?_)
      refine zb_lp2 (nL := 6) (fun n z => 0 ≤ z ∧ z ≤ dv 3 ∧ n = aw_cn (aw_oc (dv 0) (dv 1) (dv 2) (dv 8) ob a) z) (fun n z => [(5, .int (zI z)), (4, .int (zI n)), (3, .int (zI a)), (2, .ref pa), (1, .ref da), (0, .ref o)]) (fun n z => dv 3 - z) 0 0 ⟨by omega, by omega, (aw_cn_0 _).symm⟩ (lv_sub hl [0, 1, 2, 3, 4, 5] rfl) ?_
      intro n z ls hJ92 hl ih92
      have hJ92 : 0 ≤ z ∧ z ≤ dv 3 ∧ n = aw_cn (aw_oc (dv 0) (dv 1) (dv 2) (dv 8) ob a) z := hJ92
      have hl : lv_has ls 6 [(5, .int (zI z)), (4, .int (zI n)), (3, .int (zI a)), (2, .ref pa), (1, .ref da), (0, .ref o)] := hl
      have hb1 := aw_b_01 (ob z)
      refine lv_iload hx hb dL_coils_92 (lv_at hl 0 rfl) ?_
      refine lv_aload_n hx hb dL_coils_94 rfl (lv_at hl 4 rfl) ?_
      refine zb_iconst hx hb dL_coils_95 ?_
      refine aw_dld hx hb hK hP 3 1 rfl rfl 3 (by decide) dL_coils_96 ?_
      refine zb_cge (tgt := 145) hx hb dL_coils_97 (by decide) (by omega) (by omega) (fun c97 => ?_) (fun c97 => ?_)
      · skip
        refine lv_aload_n hx hb dL_coils_145 rfl (lv_at hl 5 rfl) ?_
        refine lv_iload_n hx hb dL_coils_146 rfl (lv_at hl 2 rfl) ?_
        refine aw_callV (As := [.int (zI a)]) (rest := []) ⟨hx, hb, hml, hown, hts⟩ (k_openCoilsIn (a := a) hI ⟨by omega, by omega⟩) (cwV 1 hts gL_coils_X0_openCoilsIn rfl rfl rfl (by decide +kernel) ⟨Nat.le_of_ble_eq_true rfl, Nat.le_of_ble_eq_true rfl⟩) hP3 hK rfl rfl rfl hl.1 rfl (Nat.le_of_ble_eq_true rfl) dL_coils_147 ⟨Nat.zero_le _, Nat.zero_le _⟩ ?_
        refine lv_iload hx hb dL_coils_150 (lv_at hl 1 rfl) ?_
        refine zb_ceq (tgt := 157) hx hb dL_coils_152 (by decide) (by have := aw_cn_le (aw_oc (dv 0) (dv 1) (dv 2) (dv 8) ob a) (z := dv 3) (by omega); omega) (by have := aw_cn_le (aw_oc (dv 0) (dv 1) (dv 2) (dv 8) ob a) (z := z) (by omega); omega) (fun c152 => ?_) (fun c152 => absurd c152 (fun hh => hh (by rw [hJ92.2.2, show z = dv 3 from by omega])))
        refine zb_iinc (lv' := [(3, .int (zI (a + 1))), (5, .int (zI z)), (4, .int (zI n)), (2, .ref pa), (1, .ref da), (0, .ref o)]) hx hb dL_coils_157 hl (k := 2) rfl (by decide) rfl (fun ls hl => ?_)
        refine lv_goto (tgt := 79) hx hb dL_coils_160 (by decide) ?_
        exact ih79 (a + 1) ls ⟨by omega, by omega⟩ (by omega) (lv_sub hl [0, 3, 4, 5] rfl)
      · skip
        have hz : 0 ≤ z ∧ z < dv 3 := ⟨by omega, by omega⟩
        have hq := aw_div (x := z) (n := dv 2) (by omega) (by omega)
        have hqs := aw_divlt (z := z) i7 (by omega) (by omega)
        have hlo : 0 ≤ aw_lo (dv 0) (dv 1) (dv 2) (dv 8) z ∧ aw_lo (dv 0) (dv 1) (dv 2) (dv 8) z < dv 1 := aw_mod (by omega)
        refine lv_iload hx hb dL_coils_100 (lv_at hl 1 rfl) ?_
        refine lv_aload_n hx hb dL_coils_102 rfl (lv_at hl 3 rfl) ?_
        refine lv_iload hx hb dL_coils_103 (lv_at hl 0 rfl) ?_
        refine aw_callS (As := [.ref pa, .int (zI z)]) (rest := [.int (zI n)]) ⟨hx, hb, hml, hown, hts⟩ (k_lisOpen (z := z) hO ⟨by omega, by omega⟩) (va_cwS 2 hts gL_coils_L_isOpen rfl rfl rfl (by decide +kernel) ⟨Nat.le_of_ble_eq_true rfl, Nat.le_of_ble_eq_true rfl⟩) hPm hK rfl hl.1 rfl (Nat.le_of_ble_eq_true rfl) dL_coils_105 ⟨Nat.zero_le _, Nat.zero_le _⟩ ?_
        refine zb_ieq (tgt := 135) hx hb dL_coils_108 (by decide) (by omega) (fun c108 => ?_) (fun c108 => ?_)
        · skip
          refine zb_iconst hx hb dL_coils_135 ?_
          refine zb_add hx hb dL_coils_136 ?_
          refine lv_istore (lv' := [(4, .int (zI (n + 0))), (5, .int (zI z)), (3, .int (zI a)), (2, .ref pa), (1, .ref da), (0, .ref o)]) hx hb dL_coils_137 hl (by decide) rfl (fun ls hl => ?_)
          refine zb_iinc (lv' := [(5, .int (zI (z + 1))), (4, .int (zI (n + 0))), (3, .int (zI a)), (2, .ref pa), (1, .ref da), (0, .ref o)]) hx hb dL_coils_139 hl (k := 1) rfl (by decide) rfl (fun ls hl => ?_)
          refine lv_goto (tgt := 92) hx hb dL_coils_142 (by decide) ?_
          exact ih92 (n + 0) (z + 1) ls ⟨by omega, by omega, by rw [aw_cn_s _ hJ92.1, aw_b_f (by unfold aw_oc; rw [aw_b_eq0.mp c108]; rfl), hJ92.2.2]⟩ (by omega) (lv_sub hl [0, 1, 2, 3, 4, 5] rfl)
        · skip
          refine lv_iload hx hb dL_coils_111 (lv_at hl 0 rfl) ?_
          refine lv_aload_n hx hb dL_coils_113 rfl (lv_at hl 4 rfl) ?_
          refine zb_iconst hx hb dL_coils_114 ?_
          refine aw_dld hx hb hK hP 3 1 rfl rfl 2 (by decide) dL_coils_115 ?_
          refine zb_div hx hb dL_coils_116 (by omega) (by omega) ?_
          refine lv_iload_n hx hb dL_coils_117 rfl (lv_at hl 2 rfl) ?_
          refine zb_ceq (tgt := 131) hx hb dL_coils_118 (by decide) (by omega) (by omega) (fun c118 => ?_) (fun c118 => ?_)
          · skip
            refine zb_iconst hx hb dL_coils_131 ?_
            refine lv_goto (tgt := 136) hx hb dL_coils_132 (by decide) ?_
            refine zb_add hx hb dL_coils_136 ?_
            refine lv_istore (lv' := [(4, .int (zI (n + 1))), (5, .int (zI z)), (3, .int (zI a)), (2, .ref pa), (1, .ref da), (0, .ref o)]) hx hb dL_coils_137 hl (by decide) rfl (fun ls hl => ?_)
            refine zb_iinc (lv' := [(5, .int (zI (z + 1))), (4, .int (zI (n + 1))), (3, .int (zI a)), (2, .ref pa), (1, .ref da), (0, .ref o)]) hx hb dL_coils_139 hl (k := 1) rfl (by decide) rfl (fun ls hl => ?_)
            refine lv_goto (tgt := 92) hx hb dL_coils_142 (by decide) ?_
            exact ih92 (n + 1) (z + 1) ls ⟨by omega, by omega, by rw [aw_cn_s _ hJ92.1, aw_b_t (by unfold aw_oc; rw [aw_b_ne0.mp c108, c118]; simp), hJ92.2.2]⟩ (by omega) (lv_sub hl [0, 1, 2, 3, 4, 5] rfl)
          · skip
            refine lv_aload_n hx hb dL_coils_121 rfl (lv_at hl 4 rfl) ?_
            refine lv_iload hx hb dL_coils_122 (lv_at hl 0 rfl) ?_
            refine aw_callS (As := [.ref da, .int (zI z)]) (rest := [.int (zI n)]) ⟨hx, hb, hml, hown, hts⟩ (k_llower (z := z) hI ⟨by omega, by omega⟩) (va_cwS 2 hts gL_coils_L_lower rfl rfl rfl (by decide +kernel) ⟨Nat.le_of_ble_eq_true rfl, Nat.le_of_ble_eq_true rfl⟩) hPd hK rfl hl.1 rfl (Nat.le_of_ble_eq_true rfl) dL_coils_124 ⟨Nat.zero_le _, Nat.zero_le _⟩ ?_
            refine lv_iload_n hx hb dL_coils_127 rfl (lv_at hl 2 rfl) ?_
            refine zb_cne (tgt := 135) hx hb dL_coils_128 (by decide) (by omega) (by omega) (fun c128 => ?_) (fun c128 => ?_)
            · skip
              refine zb_iconst hx hb dL_coils_135 ?_
              refine zb_add hx hb dL_coils_136 ?_
              refine lv_istore (lv' := [(4, .int (zI (n + 0))), (5, .int (zI z)), (3, .int (zI a)), (2, .ref pa), (1, .ref da), (0, .ref o)]) hx hb dL_coils_137 hl (by decide) rfl (fun ls hl => ?_)
              refine zb_iinc (lv' := [(5, .int (zI (z + 1))), (4, .int (zI (n + 0))), (3, .int (zI a)), (2, .ref pa), (1, .ref da), (0, .ref o)]) hx hb dL_coils_139 hl (k := 1) rfl (by decide) rfl (fun ls hl => ?_)
              refine lv_goto (tgt := 92) hx hb dL_coils_142 (by decide) ?_
              exact ih92 (n + 0) (z + 1) ls ⟨by omega, by omega, by rw [aw_cn_s _ hJ92.1, aw_b_f (by unfold aw_oc; simp [c118, c128]), hJ92.2.2]⟩ (by omega) (lv_sub hl [0, 1, 2, 3, 4, 5] rfl)
            · skip
              refine zb_iconst hx hb dL_coils_131 ?_
              refine lv_goto (tgt := 136) hx hb dL_coils_132 (by decide) ?_
              refine zb_add hx hb dL_coils_136 ?_
              refine lv_istore (lv' := [(4, .int (zI (n + 1))), (5, .int (zI z)), (3, .int (zI a)), (2, .ref pa), (1, .ref da), (0, .ref o)]) hx hb dL_coils_137 hl (by decide) rfl (fun ls hl => ?_)
              refine zb_iinc (lv' := [(5, .int (zI (z + 1))), (4, .int (zI (n + 1))), (3, .int (zI a)), (2, .ref pa), (1, .ref da), (0, .ref o)]) hx hb dL_coils_139 hl (k := 1) rfl (by decide) rfl (fun ls hl => ?_)
              refine lv_goto (tgt := 92) hx hb dL_coils_142 (by decide) ?_
              exact ih92 (n + 1) (z + 1) ls ⟨by omega, by omega, by rw [aw_cn_s _ hJ92.1, aw_b_t (by unfold aw_oc; rw [aw_b_ne0.mp c108, c128]; simp), hJ92.2.2]⟩ (by omega) (lv_sub hl [0, 1, 2, 3, 4, 5] rfl)
  · skip
    have hz : 0 ≤ z ∧ z < dv 3 := ⟨by omega, by omega⟩
    have hq := aw_div (x := z) (n := dv 2) (by omega) (by omega)
    have hqs := aw_divlt (z := z) i7 (by omega) (by omega)
    have hlo : 0 ≤ aw_lo (dv 0) (dv 1) (dv 2) (dv 8) z ∧ aw_lo (dv 0) (dv 1) (dv 2) (dv 8) z < dv 1 := aw_mod (by omega)
    have hen := aw_mod (x := z + dv 7) hN
    have hback := aw_mod (x := (z + dv 7) % dv 3 - dv 7) hN
    refine lv_aload_n hx hb dL_coils_9 rfl (lv_at hl 3 rfl) ?_
    refine lv_iload_n hx hb dL_coils_10 rfl (lv_at hl 0 rfl) ?_
    refine aw_callV (As := [.int (zI z)]) (rest := []) ⟨hx, hb, hml, hown, hts⟩ (k_endBar (z := z) hI hz) (cwV 1 hts gL_coils_X0_endBar rfl rfl rfl (by decide +kernel) ⟨Nat.le_of_ble_eq_true rfl, Nat.le_of_ble_eq_true rfl⟩) hP3 hK rfl rfl rfl hl.1 rfl (Nat.le_of_ble_eq_true rfl) dL_coils_11 ⟨Nat.zero_le _, Nat.zero_le _⟩ ?_
    refine lv_istore (lv' := [(4, .int (zI ((z + dv 7) % dv 3))), (3, .int (zI z)), (2, .ref pa), (1, .ref da), (0, .ref o)]) hx hb dL_coils_14 hl (by decide) rfl (fun ls hl => ?_)
    refine lv_iload hx hb dL_coils_16 (lv_at hl 0 rfl) ?_
    refine lv_iload_n hx hb dL_coils_18 rfl (lv_at hl 1 rfl) ?_
    refine lv_aload_n hx hb dL_coils_19 rfl (lv_at hl 3 rfl) ?_
    refine zb_bipush hx hb dL_coils_20 (by decide) ?_
    refine aw_dld hx hb hK hP 3 1 rfl rfl 7 (by decide) dL_coils_22 ?_
    refine zb_add hx hb dL_coils_23 ?_
    refine lv_aload_n hx hb dL_coils_24 rfl (lv_at hl 3 rfl) ?_
    refine zb_iconst hx hb dL_coils_25 ?_
    refine aw_dld hx hb hK hP 3 1 rfl rfl 3 (by decide) dL_coils_26 ?_
    refine aw_callS (As := [.int (zI (z + (dv 7))), .int (zI (dv 3))]) (rest := [.int (zI ((z + dv 7) % dv 3))]) ⟨hx, hb, hml, hown, hts⟩ (k_mod (x := z + dv 7) (n := dv 3) ⟨by omega, by omega⟩ ⟨by omega, by omega⟩) (va_cwS 2 hts gL_coils_L_mod rfl rfl rfl (by decide +kernel) ⟨Nat.le_of_ble_eq_true rfl, Nat.le_of_ble_eq_true rfl⟩) (hP.sub (ws' := []) [] rfl) (hK.sub (tys' := []) [] rfl) rfl hl.1 rfl (Nat.le_of_ble_eq_true rfl) dL_coils_27 ⟨Nat.zero_le _, Nat.zero_le _⟩ ?_
    refine zb_cne (tgt := 69) hx hb dL_coils_30 (by decide) (by omega) (by omega) (fun c30 => absurd c30 (by omega)) (fun c30 => ?_)
    refine lv_aload_n hx hb dL_coils_33 rfl (lv_at hl 4 rfl) ?_
    refine lv_iload hx hb dL_coils_34 (lv_at hl 0 rfl) ?_
    refine aw_callV (As := [.int (zI ((z + dv 7) % dv 3))]) (rest := []) ⟨hx, hb, hml, hown, hts⟩ (k_coilEndingAt (z := (z + dv 7) % dv 3) hI hen) (cwV 1 hts gL_coils_X0_coilEndingAt rfl rfl rfl (by decide +kernel) ⟨Nat.le_of_ble_eq_true rfl, Nat.le_of_ble_eq_true rfl⟩) hP3 hK rfl rfl rfl hl.1 rfl (Nat.le_of_ble_eq_true rfl) dL_coils_36 ⟨Nat.zero_le _, Nat.zero_le _⟩ ?_
    refine lv_iload_n hx hb dL_coils_39 rfl (lv_at hl 1 rfl) ?_
    refine zb_cne (tgt := 69) hx hb dL_coils_40 (by decide) (by omega) (by omega) (fun c40 => absurd c40 (fun hh => hh (aw_endback hz))) (fun c40 => ?_)
    refine lv_aload_n hx hb dL_coils_43 rfl (lv_at hl 4 rfl) ?_
    refine lv_iload_n hx hb dL_coils_44 rfl (lv_at hl 1 rfl) ?_
    refine aw_callV (As := [.int (zI z)]) (rest := []) ⟨hx, hb, hml, hown, hts⟩ (k_upperSlot (z := z) hI hz) (cwV 1 hts gL_coils_X0_upperSlot rfl rfl rfl (by decide +kernel) ⟨Nat.le_of_ble_eq_true rfl, Nat.le_of_ble_eq_true rfl⟩) hP3 hK rfl rfl rfl hl.1 rfl (Nat.le_of_ble_eq_true rfl) dL_coils_45 ⟨Nat.zero_le _, Nat.zero_le _⟩ ?_
    refine lv_iload_n hx hb dL_coils_48 rfl (lv_at hl 1 rfl) ?_
    refine lv_aload_n hx hb dL_coils_49 rfl (lv_at hl 3 rfl) ?_
    refine zb_iconst hx hb dL_coils_50 ?_
    refine aw_dld hx hb hK hP 3 1 rfl rfl 2 (by decide) dL_coils_51 ?_
    refine zb_div hx hb dL_coils_52 (by omega) (by omega) ?_
    refine zb_cne (tgt := 69) hx hb dL_coils_53 (by decide) (by omega) (by omega) (fun c53 => absurd c53 (by omega)) (fun c53 => ?_)
    refine lv_aload_n hx hb dL_coils_56 rfl (lv_at hl 4 rfl) ?_
    refine lv_iload_n hx hb dL_coils_57 rfl (lv_at hl 1 rfl) ?_
    refine aw_callV (As := [.int (zI z)]) (rest := []) ⟨hx, hb, hml, hown, hts⟩ (k_lowerSlot (z := z) hI hz) (cwV 1 hts gL_coils_X0_lowerSlot rfl rfl rfl (by decide +kernel) ⟨Nat.le_of_ble_eq_true rfl, Nat.le_of_ble_eq_true rfl⟩) hP3 hK rfl rfl rfl hl.1 rfl (Nat.le_of_ble_eq_true rfl) dL_coils_58 ⟨Nat.zero_le _, Nat.zero_le _⟩ ?_
    refine lv_aload_n hx hb dL_coils_61 rfl (lv_at hl 3 rfl) ?_
    refine lv_iload_n hx hb dL_coils_62 rfl (lv_at hl 1 rfl) ?_
    refine aw_callS (As := [.ref da, .int (zI z)]) (rest := [.int (zI (aw_lo (dv 0) (dv 1) (dv 2) (dv 8) z))]) ⟨hx, hb, hml, hown, hts⟩ (k_llower (z := z) hI hz) (va_cwS 2 hts gL_coils_L_lower rfl rfl rfl (by decide +kernel) ⟨Nat.le_of_ble_eq_true rfl, Nat.le_of_ble_eq_true rfl⟩) hPd hK rfl hl.1 rfl (Nat.le_of_ble_eq_true rfl) dL_coils_63 ⟨Nat.zero_le _, Nat.zero_le _⟩ ?_
    refine zb_ceq (tgt := 71) hx hb dL_coils_66 (by decide) (by omega) (by omega) (fun c66 => ?_) (fun c66 => absurd c66 (by omega))
    refine zb_iinc (lv' := [(3, .int (zI (z + 1))), (4, .int (zI ((z + dv 7) % dv 3))), (2, .ref pa), (1, .ref da), (0, .ref o)]) hx hb dL_coils_71 hl (k := 1) rfl (by decide) rfl (fun ls hl => ?_)
    refine lv_goto (tgt := 2) hx hb dL_coils_74 (by decide) ?_
    exact ih2 (z + 1) ls ⟨by omega, by omega⟩ (by omega) (lv_sub hl [0, 2, 3, 4] rfl)
set_option maxHeartbeats 4000000 in
set_option maxRecDepth 100000 in
/-- the law's sums: true -/
theorem k_sums (hI : aw_In (dv 0) (dv 1) (dv 2) (dv 3) (dv 7) (dv 8)) {t : Int} (ht : 0 ≤ t ∧ t < 70) : aw_RO l yL_sums wsL_sums (aw_rm 3 67) D (aw_T yZ yI) (aw_W5 yZ yI o oa ba da pa dv pf ty px pr ob g) [.ref o, .int (zI t), .ref da] (1) := by
  refine Met.ofW (cc := cL_sums) (maxL := 6) (ret := (some .boolean)) (by decide) rfl ?_
  intro p e s m args below meth c s₁ B hml hv
  obtain ⟨rfl, hP, hK⟩ := hv
  have hx := B.exec
  have hb := B.bytes
  have hr := B.returns
  have hts := atoms_spec (ws := wsL_sums) B.pre
  have hown : s.vm.findClass RL = some m.cls := findClass_of_methodNamed B.named
  have hlocks := B.notSynchronized
  have hl := lv_entry ([.ref o, .int (zI t), .ref da]) (n := 6) (Nat.le_of_ble_eq_true rfl)
  rw [lg_entry_eq]
  generalize (lg_sl ([.ref o, .int (zI t), .ref da]) ++ List.replicate (6 - (lg_sl ([.ref o, .int (zI t), .ref da])).length) Slot.unset).toArray = ls at hl ⊢
  have hl : lv_has ls 6 [(0, .ref o), (1, .int (zI t)), (2, .ref da)] := hl
  obtain ⟨i1, i2, i3, i4, i5, i6, i7, i8, i9, i10, i11, i12, i13⟩ := id hI
  have hP3 : va_P D vwCl (aw_W3 yZ yI o oa ba (dv 0) (dv 1) (dv 2) (dv 3) ty px pr (dv 7) (dv 8) ob g) s.heap := hP.sub [0, 1, 2] rfl
  have hPd : va_P D vwCl [aw_Dr yI da dv] s.heap := hP.sub [3] rfl
  have hN : 0 < dv 3 := by omega
  have h00 := aw_sum0 hI t
  refine zb_iconst hx hb dL_sums_0 ?_
  refine lv_istore_n (lv' := [(3, .int (zI 0)), (0, .ref o), (1, .int (zI t)), (2, .ref da)]) hx hb dL_sums_1 rfl hl (by decide) rfl (fun ls hl => ?_)
  refine zb_iconst hx hb dL_sums_2 ?_
  refine lv_istore (lv' := [(4, .int (zI 0)), (3, .int (zI 0)), (0, .ref o), (1, .int (zI t)), (2, .ref da)]) hx hb dL_sums_3 hl (by decide) rfl (fun ls hl => ?_)
  refine zb_lp2 (nL := 6) (fun n z => 0 ≤ z ∧ z ≤ dv 3 ∧ n = aw_sm (fun z => aw_vt (dv 0) (dv 1) (dv 2) (dv 8) z t) z ∧ -2 * z ≤ n ∧ n ≤ 2 * z) (fun n z => [(4, .int (zI z)), (3, .int (zI n)), (2, .ref da), (1, .int (zI t)), (0, .ref o)]) (fun n z => dv 3 - z) 0 0 ⟨by omega, by omega, (aw_sm_0 _).symm, by omega, by omega⟩ (lv_sub hl [0, 1, 4, 3, 2] rfl) ?_
  intro n z ls hJ5 hl ih5
  have hJ5 : 0 ≤ z ∧ z ≤ dv 3 ∧ n = aw_sm (fun z => aw_vt (dv 0) (dv 1) (dv 2) (dv 8) z t) z ∧ -2 * z ≤ n ∧ n ≤ 2 * z := hJ5
  have hl : lv_has ls 6 [(4, .int (zI z)), (3, .int (zI n)), (2, .ref da), (1, .int (zI t)), (0, .ref o)] := hl
  refine lv_iload hx hb dL_sums_5 (lv_at hl 0 rfl) ?_
  refine lv_aload_n hx hb dL_sums_7 rfl (lv_at hl 2 rfl) ?_
  refine zb_iconst hx hb dL_sums_8 ?_
  refine aw_dld hx hb hK hP 3 1 rfl rfl 3 (by decide) dL_sums_9 ?_
  refine zb_cge (tgt := 63) hx hb dL_sums_10 (by decide) (by omega) (by omega) (fun c10 => ?_) (fun c10 => ?_)
  · skip
    refine lv_iload_n hx hb dL_sums_63 rfl (lv_at hl 1 rfl) ?_
    refine zb_ine (tgt := 111) hx hb dL_sums_64 (by decide) (by omega) (fun c64 => absurd c64 (fun hh => hh (by rw [hJ5.2.2.1, show z = dv 3 from by omega]; exact h00))) (fun c64 => ?_)
    refine lv_aload_n hx hb dL_sums_67 rfl (lv_at hl 4 rfl) ?_
    refine zb_iconst hx hb dL_sums_68 ?_
    refine zb_bipush hx hb dL_sums_69 (by decide) ?_
    refine aw_callV (As := [.int (zI 0), .int (zI 101)]) (rest := []) ⟨hx, hb, hml, hown, hts⟩ (k_coilVoltage_oor (z := 0) (t := 101) hI ⟨by omega, by omega⟩ ⟨by omega, by omega⟩ (by omega)) (cwV 2 hts gL_sums_X0_coilVoltage rfl rfl rfl (by decide +kernel) ⟨Nat.le_of_ble_eq_true rfl, Nat.le_of_ble_eq_true rfl⟩) hP3 hK rfl rfl rfl hl.1 rfl (Nat.le_of_ble_eq_true rfl) dL_sums_71 ⟨Nat.zero_le _, Nat.zero_le _⟩ ?_
    refine zb_sipush hx hb dL_sums_74 (by decide) ?_
    refine zb_cne (tgt := 111) hx hb dL_sums_77 (by decide) (by omega) (by omega) (fun c77 => absurd c77 (by omega)) (fun c77 => ?_)
    refine lv_aload_n hx hb dL_sums_80 rfl (lv_at hl 4 rfl) ?_
    refine zb_iconst hx hb dL_sums_81 ?_
    refine zb_iconst hx hb dL_sums_82 ?_
    refine aw_callV (As := [.int (zI 0), .int (zI ((-1)))]) (rest := []) ⟨hx, hb, hml, hown, hts⟩ (k_coilVoltage_oor (z := 0) (t := -1) hI ⟨by omega, by omega⟩ ⟨by omega, by omega⟩ (by omega)) (cwV 2 hts gL_sums_X0_coilVoltage rfl rfl rfl (by decide +kernel) ⟨Nat.le_of_ble_eq_true rfl, Nat.le_of_ble_eq_true rfl⟩) hP3 hK rfl rfl rfl hl.1 rfl (Nat.le_of_ble_eq_true rfl) dL_sums_83 ⟨Nat.zero_le _, Nat.zero_le _⟩ ?_
    refine zb_sipush hx hb dL_sums_86 (by decide) ?_
    refine zb_cne (tgt := 111) hx hb dL_sums_89 (by decide) (by omega) (by omega) (fun c89 => absurd c89 (by omega)) (fun c89 => ?_)
    refine lv_aload_n hx hb dL_sums_92 rfl (lv_at hl 4 rfl) ?_
    refine lv_aload_n hx hb dL_sums_93 rfl (lv_at hl 2 rfl) ?_
    refine zb_iconst hx hb dL_sums_94 ?_
    refine aw_dld hx hb hK hP 3 1 rfl rfl 3 (by decide) dL_sums_95 ?_
    refine zb_bipush hx hb dL_sums_96 (by decide) ?_
    refine aw_callV (As := [.int (zI (dv 3)), .int (zI 101)]) (rest := []) ⟨hx, hb, hml, hown, hts⟩ (k_coilVoltage_no (z := dv 3) (t := 101) hI ⟨by omega, by omega⟩ (by omega)) (cwV 2 hts gL_sums_X0_coilVoltage rfl rfl rfl (by decide +kernel) ⟨Nat.le_of_ble_eq_true rfl, Nat.le_of_ble_eq_true rfl⟩) hP3 hK rfl rfl rfl hl.1 rfl (Nat.le_of_ble_eq_true rfl) dL_sums_98 ⟨Nat.zero_le _, Nat.zero_le _⟩ ?_
    refine zb_sipush hx hb dL_sums_101 (by decide) ?_
    refine zb_cne (tgt := 111) hx hb dL_sums_104 (by decide) (by omega) (by omega) (fun c104 => absurd c104 (by omega)) (fun c104 => ?_)
    refine zb_iconst hx hb dL_sums_107 ?_
    refine lv_goto (tgt := 112) hx hb dL_sums_108 (by decide) ?_
    exact aw_zret hx hb hr hlocks dL_sums_112 (by omega) rfl
  · skip
    have hz : 0 ≤ z ∧ z < dv 3 := ⟨by omega, by omega⟩
    have hv := aw_vt_in (dv 0) (dv 1) (dv 2) (dv 8) z t
    have hp := aw_vt_per (dv 0) (dv 1) (dv 2) (dv 8) z t
    refine lv_aload_n hx hb dL_sums_13 rfl (lv_at hl 4 rfl) ?_
    refine lv_iload hx hb dL_sums_14 (lv_at hl 0 rfl) ?_
    refine lv_iload_n hx hb dL_sums_16 rfl (lv_at hl 3 rfl) ?_
    refine aw_callV (As := [.int (zI z), .int (zI t)]) (rest := []) ⟨hx, hb, hml, hown, hts⟩ (k_coilVoltage (z := z) (t := t) hI hz ⟨by omega, by omega⟩) (cwV 2 hts gL_sums_X0_coilVoltage rfl rfl rfl (by decide +kernel) ⟨Nat.le_of_ble_eq_true rfl, Nat.le_of_ble_eq_true rfl⟩) hP3 hK rfl rfl rfl hl.1 rfl (Nat.le_of_ble_eq_true rfl) dL_sums_17 ⟨Nat.zero_le _, Nat.zero_le _⟩ ?_
    refine lv_istore (lv' := [(5, .int (zI (aw_vt (dv 0) (dv 1) (dv 2) (dv 8) z t))), (4, .int (zI z)), (3, .int (zI n)), (2, .ref da), (1, .int (zI t)), (0, .ref o)]) hx hb dL_sums_20 hl (by decide) rfl (fun ls hl => ?_)
    refine lv_iload hx hb dL_sums_22 (lv_at hl 0 rfl) ?_
    refine lv_aload_n hx hb dL_sums_24 rfl (lv_at hl 3 rfl) ?_
    refine lv_iload hx hb dL_sums_25 (lv_at hl 1 rfl) ?_
    refine lv_iload_n hx hb dL_sums_27 rfl (lv_at hl 4 rfl) ?_
    refine aw_callS (As := [.ref da, .int (zI z), .int (zI t)]) (rest := [.int (zI (aw_vt (dv 0) (dv 1) (dv 2) (dv 8) z t))]) ⟨hx, hb, hml, hown, hts⟩ (k_lvoltage (z := z) (t := t) hI hz ⟨by omega, by omega⟩) (va_cwS 3 hts gL_sums_L_voltage rfl rfl rfl (by decide +kernel) ⟨Nat.le_of_ble_eq_true rfl, Nat.le_of_ble_eq_true rfl⟩) hPd hK rfl hl.1 rfl (Nat.le_of_ble_eq_true rfl) dL_sums_28 ⟨Nat.zero_le _, Nat.zero_le _⟩ ?_
    refine zb_cne (tgt := 50) hx hb dL_sums_31 (by decide) (by omega) (by omega) (fun c31 => absurd c31 (by omega)) (fun c31 => ?_)
    refine lv_iload hx hb dL_sums_34 (lv_at hl 0 rfl) ?_
    refine lv_aload_n hx hb dL_sums_36 rfl (lv_at hl 5 rfl) ?_
    refine lv_iload hx hb dL_sums_37 (lv_at hl 1 rfl) ?_
    refine lv_iload_n hx hb dL_sums_39 rfl (lv_at hl 4 rfl) ?_
    refine lv_aload_n hx hb dL_sums_40 rfl (lv_at hl 3 rfl) ?_
    refine zb_iconst hx hb dL_sums_41 ?_
    refine aw_dld hx hb hK hP 3 1 rfl rfl 1 (by decide) dL_sums_42 ?_
    refine zb_add hx hb dL_sums_43 ?_
    refine aw_callV (As := [.int (zI z), .int (zI (t + (dv 1)))]) (rest := [.int (zI (aw_vt (dv 0) (dv 1) (dv 2) (dv 8) z t))]) ⟨hx, hb, hml, hown, hts⟩ (k_coilVoltage (z := z) (t := t + dv 1) hI hz ⟨by omega, by omega⟩) (cwV 2 hts gL_sums_X0_coilVoltage rfl rfl rfl (by decide +kernel) ⟨Nat.le_of_ble_eq_true rfl, Nat.le_of_ble_eq_true rfl⟩) hP3 hK rfl rfl rfl hl.1 rfl (Nat.le_of_ble_eq_true rfl) dL_sums_44 ⟨Nat.zero_le _, Nat.zero_le _⟩ ?_
    refine zb_ceq (tgt := 52) hx hb dL_sums_47 (by decide) (by omega) (by omega) (fun c47 => ?_) (fun c47 => absurd c47 (by omega))
    refine lv_iload_n hx hb dL_sums_52 rfl (lv_at hl 2 rfl) ?_
    refine lv_iload hx hb dL_sums_53 (lv_at hl 0 rfl) ?_
    refine zb_add hx hb dL_sums_55 ?_
    refine lv_istore_n (lv' := [(3, .int (zI (n + (aw_vt (dv 0) (dv 1) (dv 2) (dv 8) z t)))), (5, .int (zI (aw_vt (dv 0) (dv 1) (dv 2) (dv 8) z t))), (4, .int (zI z)), (2, .ref da), (1, .int (zI t)), (0, .ref o)]) hx hb dL_sums_56 rfl hl (by decide) rfl (fun ls hl => ?_)
    refine zb_iinc (lv' := [(4, .int (zI (z + 1))), (3, .int (zI (n + (aw_vt (dv 0) (dv 1) (dv 2) (dv 8) z t)))), (5, .int (zI (aw_vt (dv 0) (dv 1) (dv 2) (dv 8) z t))), (2, .ref da), (1, .int (zI t)), (0, .ref o)]) hx hb dL_sums_57 hl (k := 2) rfl (by decide) rfl (fun ls hl => ?_)
    refine lv_goto (tgt := 5) hx hb dL_sums_60 (by decide) ?_
    exact ih5 (n + (aw_vt (dv 0) (dv 1) (dv 2) (dv 8) z t)) (z + 1) ls ⟨by omega, by omega, by rw [aw_sm_s _ hJ5.1, hJ5.2.2.1], by omega, by omega⟩ (by omega) (lv_sub hl [0, 1, 3, 4, 5] rfl)
end
end
section
/-! a method that writes cells of its world and makes none: post says what is known of what it leaves (u), ws' u are the cells behind it -/
def aw_QM {S : Type} (v : Option Int) (post : S → Prop) (ws' : S → va_W) (D : va_G) (tys : List (ClassId × FieldType)) (ws : va_W) (sz : Nat) : Array Value → State → Outcome → State → Prop := fun _ st oc t =>
  oc = .returned (v.map fun z => Value.int (zI z)) ∧ (∃ u : S, post u ∧ va_P D vwCl (ws' u) t.heap ∧ va_K D vwCl tys t ∧ va_D (va_A ws sz) (ws' u)) ∧ va_F (va_A ws sz) st t
def aw_PcM (D : va_G) (tys : List (ClassId × FieldType)) (ws : va_W) (sz : Nat) (av : List Value) : Array Value → State → Prop := va_Pc av (fun U => U.heap.size = sz ∧ va_P D vwCl ws U.heap ∧ va_K D vwCl tys U ∧ va_D (fun _ => True) ws)
def aw_MU {S : Type} (l : Launch) (y : MethodName) (wds : List Cond) (rm : Room) (D : va_G) (tys : List (ClassId × FieldType)) (ws : va_W) (av : List Value) (v : Option Int) (post : S → Prop) (ws' : S → va_W) : Prop :=
  ∀ sz : Nat, Met l y wds rm (aw_PcM D tys ws sz av) (aw_QM v post ws' D tys ws sz) 0 0 (va_A ws sz)
theorem aw_blindM {D : va_G} {tys : List (ClassId × FieldType)} {ws : va_W} {sz : Nat} {av : List Value} : FrameBlind (aw_PcM D tys ws sz av) := fun a U g mk q => by
  obtain ⟨q1, q2, q3, q4, q5⟩ := q
  exact ⟨q1, q2, q3, va_K.moved (u := U) (U := U.calling g mk a) (Vm.Alike.refl U.vm) q4, q5⟩
theorem aw_fm {α β : Type} (f : α → Option β) : ∀ (is : List α) (ws : List β), is.map f = ws.map some → is.filterMap f = ws := by
  intro is
  induction is with
  | nil => intro ws h; cases ws with
    | nil => rfl
    | cons a ws => cases h
  | cons i is ih => intro ws h; cases ws with
    | nil => cases h
    | cons a ws =>
      simp only [List.map_cons, List.cons.injEq] at h
      rw [List.filterMap_cons, h.1, ih ws h.2]
def aw_up (ob : Int → Bool) (x : Int) (bv : Bool) : Int → Bool := fun z => if z = x then bv else ob z
def aw_ud (dv : Nat → Int) (k : Nat) (v : Int) : Nat → Int := fun j => if j = k then v else dv j
section AM
variable {p : Program} {l : Launch} {e : Env} {R : Room} {s : State} {m : MethodId} {args : Array Value} {below : List Frame} {meth : Method} {c : Code} {H : Heap} {locs : List Loc} {cells slots : Nat} {Q : State → Prop}
variable {cc bytes : ByteArray} {pc nL n index maxL : Nat} {ls : Array Slot} {rest As st0 : List Value} {D : va_G} {tys : List (ClassId × FieldType)} {y : MethodName} {wds Ts : List Cond} {rm : Room} {own : String} {ret : Option FieldType} {yI yZ : ClassId}
variable {S : Type} {v : Option Int} {post : S → Prop} {ws' ws2 : S → va_W} {A0 : Nat → Prop} {H0 : Heap} {wsC wc wr : va_W}
theorem aw_runM {a2 : Array Value} (hr : va_Run p l e R s m args below meth c H locs cells slots 0 0 (F0 m pc ls st0) rest (aw_QM v post ws' D tys wc H.size a2) (va_A wc H.size))
    (hP : va_P D vwCl wsC H) (hD : va_D A0 wsC) (hS : va_S A0 H0 H locs) (hA : ∀ q, H0.size ≤ q → A0 q) (isC isR : List Nat) (hC : isC.map (fun i => wsC[i]?) = wc.map some) (hR : isR.map (fun i => wsC[i]?) = wr.map some) (hn : va_nd isR = true) (hdis : ∀ i ∈ isR, i ∉ isC)
    (is2 : List Nat) (hn2 : va_nd is2 = true) (h2 : ∀ u, is2.map (fun i => (wr ++ ws' u)[i]?) = (ws2 u).map some)
    (kk : ∀ (u : S) (H1 : Heap) (locs1 : List Loc), post u → va_P D vwCl (ws2 u) H1 → va_D A0 (ws2 u) → va_S A0 H0 H1 locs1 → W p l e R s m args below meth c H1 locs1 cells slots Q (F0 m (pc + 3) ls ((v.map fun z => Value.int (zI z)).toList ++ rest))) : W p l e R s m args below meth c H locs cells slots Q (F0 m pc ls st0) := by
  have hF := va_free (wc := wc) hD hS hA isC hC
  intro T hT X
  obtain ⟨v', st₀, t, T', L, h0, X', hL, e1, e2, ⟨hv, ⟨u, hu, hp, hk, hd⟩, hz, hkk⟩, st⟩ := hr T hT X
  cases hv
  rw [h0] at hz hkk
  have hk1 : ∀ q : Nat, q < H.size → ¬ va_A wc H.size q → T'.heap[q]? = H[q]? := fun q h1 h2 => by rw [e1]; exact hkk q h1 h2
  rw [← e1] at hp
  obtain ⟨hP1, hD1⟩ := va_join hP hD isC isR hC hR hn hdis hk1 hF hp hd
  obtain ⟨t2, a1, b1⟩ := kk u T'.heap (locs ++ L) hu (hP1.sub is2 (aw_fm _ _ _ (h2 u))) (hD1.sub is2 hn2 (h2 u))
    ⟨Nat.le_trans hS.1 (by rw [e1]; exact hz), fun q h1 h2 => by rw [hk1 q (Nat.lt_of_lt_of_le h1 hS.1) (fun z => h2 (hF q z))]; exact hS.2.1 q h1 h2, fun q hq => by
      rcases List.mem_append.mp hq with h | h
      · exact hS.2.2 q h
      · exact hF _ (hL q h)⟩ T' rfl X'
  exact ⟨t2, st t2 a1, b1⟩
theorem aw_callMV {b ci : Nat} {q : vw_C} {fs : List Value} (F : CallFix p m c cc nL s args Ts own) (hM : aw_MU l y wds rm D tys wc (.ref b :: As) v post ws') (cw : CallW R s args own q.1 index y bytes maxL ret wds rm 0 0 n) (hP : va_P D vwCl wsC H) (hD : va_D A0 wsC) (hK : va_K D vwCl tys s) (hS : va_S A0 H0 H locs) (hA : ∀ q, H0.size ≤ q → A0 q) (hc : vwCl[ci]? = some q) (he : wc[0]? = some (b, .inr (ci, fs)))
    (isC isR : List Nat) (hC : isC.map (fun i => wsC[i]?) = wc.map some) (hR : isR.map (fun i => wsC[i]?) = wr.map some) (hnC : va_nd isC = true) (hnR : va_nd isR = true) (hdis : ∀ i ∈ isR, i ∉ isC) (is2 : List Nat) (hn2 : va_nd is2 = true) (h2 : ∀ u, is2.map (fun i => (wr ++ ws' u)[i]?) = (ws2 u).map some)
    (hn : As.length = n) (hsize : ls.size = nL) (hst : st0 = As.reverse ++ .ref b :: rest) (hW : (rest.map fun v => v.category).sum ≤ 8) (hdg : decode cc pc = .ok (.invokevirtual index, 3)) (hcs : cells ≤ R.cells ∧ slots ≤ R.slots)
    (kk : ∀ (u : S) (H1 : Heap) (locs1 : List Loc), post u → va_P D vwCl (ws2 u) H1 → va_D A0 (ws2 u) → va_S A0 H0 H1 locs1 → W p l e R s m args below meth c H1 locs1 cells slots Q (F0 m (pc + 3) ls ((v.map fun z => Value.int (zI z)).toList ++ rest))) : W p l e R s m args below meth c H locs cells slots Q (F0 m pc ls st0) :=
  have hPc := hP.sub (ws' := wc) isC (aw_fm _ _ _ hC)
  have hDc := hD.sub (ws' := wc) isC hnC hC
  aw_runM (va_runV F (hM H.size) cw ⟨aw_blindM, va_recv hK hPc hc he, fun U hU hW => ⟨rfl, by rw [hU], by rw [hU]; exact hPc, va_K.moved hW.alike hK, hDc.weaken (fun _ _ _ _ => trivial)⟩⟩ rfl hn hsize hst (lv_room hW) hdg hcs) hP hD hS hA isC isR hC hR hnR hdis is2 hn2 h2 kk
theorem aw_callMS (F : CallFix p m c cc nL s args Ts own) (hM : aw_MU l y wds rm D tys wc As v post ws') (cw : CallB R s args own index y bytes maxL ret wds rm 0 0 n ∧ (Cond.static y).before args s = true) (hP : va_P D vwCl wsC H) (hD : va_D A0 wsC) (hK : va_K D vwCl tys s) (hS : va_S A0 H0 H locs) (hA : ∀ q, H0.size ≤ q → A0 q)
    (isC isR : List Nat) (hC : isC.map (fun i => wsC[i]?) = wc.map some) (hR : isR.map (fun i => wsC[i]?) = wr.map some) (hnC : va_nd isC = true) (hnR : va_nd isR = true) (hdis : ∀ i ∈ isR, i ∉ isC) (is2 : List Nat) (hn2 : va_nd is2 = true) (h2 : ∀ u, is2.map (fun i => (wr ++ ws' u)[i]?) = (ws2 u).map some)
    (hn : As.length = n) (hsize : ls.size = nL) (hst : st0 = As.reverse ++ rest) (hW : (rest.map fun v => v.category).sum ≤ 8) (hdg : decode cc pc = .ok (.invokestatic index, 3)) (hcs : cells ≤ R.cells ∧ slots ≤ R.slots)
    (kk : ∀ (u : S) (H1 : Heap) (locs1 : List Loc), post u → va_P D vwCl (ws2 u) H1 → va_D A0 (ws2 u) → va_S A0 H0 H1 locs1 → W p l e R s m args below meth c H1 locs1 cells slots Q (F0 m (pc + 3) ls ((v.map fun z => Value.int (zI z)).toList ++ rest))) : W p l e R s m args below meth c H locs cells slots Q (F0 m pc ls st0) :=
  have hPc := hP.sub (ws' := wc) isC (aw_fm _ _ _ hC)
  have hDc := hD.sub (ws' := wc) isC hnC hC
  aw_runM (va_runS F (hM H.size) cw ⟨aw_blindM, fun U hU hW => ⟨rfl, by rw [hU], by rw [hU]; exact hPc, va_K.moved hW.alike hK, hDc.weaken (fun _ _ _ _ => trivial)⟩⟩ rfl hn hsize hst (lv_room hW) hdg hcs) hP hD hS hA isC isR hC hR hnR hdis is2 hn2 h2 kk
/-! the ends -/
variable {ws : va_W}
theorem aw_iretM {z w : Int} (u : S) (hx : p.tables.exec = Jvm.exec) (hb : c.code = cc) (hr : meth.sig.returnType = some .int) (hlocks : meth.locks = false) (hdg : decode cc pc = .ok (.ireturn, 1)) (hvw : w = z) (hu : post u) (hP : va_P D vwCl (ws' u) H) (hK : va_K D vwCl tys s) (hD : va_D (va_A ws s.heap.size) (ws' u)) (hS : va_S (va_A ws s.heap.size) s.heap H locs) : W p l e R s m args below meth c H locs cells slots (MQ below (aw_QM (some z) post ws' D tys ws s.heap.size) args s cells slots (va_A ws s.heap.size)) (F0 m pc ls [.int (zI w)]) :=
  W.iret hx hb hr (fun t ht hW => ⟨by rw [hvw]; rfl, ⟨u, hu, by rw [ht]; exact hP, va_K.moved hW.alike hK, hD⟩, hS.F ht⟩) hS.2.2 hdg hlocks
theorem aw_zretM {z w : Int} (u : S) (hx : p.tables.exec = Jvm.exec) (hb : c.code = cc) (hr : meth.sig.returnType = some .boolean) (hlocks : meth.locks = false) (hdg : decode cc pc = .ok (.ireturn, 1)) (h01 : w = 0 ∨ w = 1) (hvw : w = z) (hu : post u) (hP : va_P D vwCl (ws' u) H) (hK : va_K D vwCl tys s) (hD : va_D (va_A ws s.heap.size) (ws' u)) (hS : va_S (va_A ws s.heap.size) s.heap H locs) : W p l e R s m args below meth c H locs cells slots (MQ below (aw_QM (some z) post ws' D tys ws s.heap.size) args s cells slots (va_A ws s.heap.size)) (F0 m pc ls [.int (zI w)]) :=
  W.zret hx hb hr (by rcases h01 with rfl | rfl <;> decide) (fun t ht hW => ⟨by rw [hvw]; rfl, ⟨u, hu, by rw [ht]; exact hP, va_K.moved hW.alike hK, hD⟩, hS.F ht⟩) hS.2.2 hdg hlocks
theorem aw_vretM (u : S) (hx : p.tables.exec = Jvm.exec) (hb : c.code = cc) (hr : meth.sig.returnType = none) (hlocks : meth.locks = false) (hdg : decode cc pc = .ok (.return_, 1)) (hu : post u) (hP : va_P D vwCl (ws' u) H) (hK : va_K D vwCl tys s) (hD : va_D (va_A ws s.heap.size) (ws' u)) (hS : va_S (va_A ws s.heap.size) s.heap H locs) : W p l e R s m args below meth c H locs cells slots (MQ below (aw_QM none post ws' D tys ws s.heap.size) args s cells slots (va_A ws s.heap.size)) (F0 m pc ls []) :=
  W.vret hx hb hr (fun t ht hW => ⟨rfl, ⟨u, hu, by rw [ht]; exact hP, va_K.moved hW.alike hK, hD⟩, hS.F ht⟩) hS.2.2 hdg hlocks
/-! stores -/
theorem aw_zst (hx : p.tables.exec = Jvm.exec) (hb : c.code = cc) (hK : va_K D vwCl tys s) (hP : va_P D vwCl ws H) (hD : va_D A0 ws) (hS : va_S A0 H0 H locs) (q0 t0 : Nat) {a : Nat} {ob : Int → Bool} (ha : ws[q0]? = some (a, .inl (yZ, 72, .inl (aw_f ob)))) (ht : tys[t0]? = some (yZ, .boolean)) {x : Int} (bv : Bool) (h0 : 0 ≤ x) (h1 : x < 72) (hdg : decode cc pc = .ok (.bastore, 1))
    (kk : ∀ (H1 : Heap) (locs1 : List Loc), va_P D vwCl (ws.set q0 (a, .inl (yZ, 72, .inl (aw_f (aw_up ob x bv))))) H1 → va_D A0 (ws.set q0 (a, .inl (yZ, 72, .inl (aw_f (aw_up ob x bv))))) → va_S A0 H0 H1 locs1 → W p l e R s m args below meth c H1 locs1 cells slots Q (F0 m (pc + 1) ls rest)) : W p l e R s m args below meth c H locs cells slots Q (F0 m pc ls (.int (zI (aw_b bv)) :: .int (zI x) :: .ref a :: rest)) := by
  have he : upd (aw_f ob) (zI x).toNatClampNeg (vp_nar .boolean (zI (aw_b bv))) = aw_f (aw_up ob x bv) := by
    rw [zI_clamp (by omega)]
    funext j
    have hn : vp_nar .boolean (zI (aw_b bv)) = zI (aw_b bv) := by cases bv <;> decide
    unfold upd aw_f aw_up
    by_cases hj : j = x.toNat
    · subst hj
      rw [if_pos rfl, if_pos (by omega), hn]
    · rw [if_neg hj, if_neg (by omega)]
  refine va_zast hx hb hK hP hD hS q0 t0 ha ht (zI_in h0 (by omega) (by omega)) hdg ?_
  rw [he]
  exact kk
theorem aw_dst (hx : p.tables.exec = Jvm.exec) (hb : c.code = cc) (hK : va_K D vwCl tys s) (hP : va_P D vwCl ws H) (hD : va_D A0 ws) (hS : va_S A0 H0 H locs) (q0 t0 : Nat) {a : Nat} {dv : Nat → Int} (ha : ws[q0]? = some (a, .inl (yI, 9, .inl (aw_d dv)))) (ht : tys[t0]? = some (yI, .int)) (k : Nat) (hk : k < 9) {x : Int} (hdg : decode cc pc = .ok (.iastore, 1))
    (kk : ∀ (H1 : Heap) (locs1 : List Loc), va_P D vwCl (ws.set q0 (a, .inl (yI, 9, .inl (aw_d (aw_ud dv k x))))) H1 → va_D A0 (ws.set q0 (a, .inl (yI, 9, .inl (aw_d (aw_ud dv k x))))) → va_S A0 H0 H1 locs1 → W p l e R s m args below meth c H1 locs1 cells slots Q (F0 m (pc + 1) ls rest)) : W p l e R s m args below meth c H locs cells slots Q (F0 m pc ls (.int (zI x) :: .int (zI (k : Int)) :: .ref a :: rest)) := by
  have he : upd (aw_d dv) (zI (k : Int)).toNatClampNeg (zI x) = aw_d (aw_ud dv k x) := by
    rw [zI_clamp (by omega)]
    funext j
    unfold upd aw_d aw_ud
    rw [show ((k : Int)).toNat = k from by omega]
    by_cases hj : j = k
    · rw [if_pos hj, if_pos hj]
    · rw [if_neg hj, if_neg hj]
  refine va_iast hx hb hK hP hD hS q0 t0 ha ht (zI_in (by omega) (by omega) (by omega)) hdg ?_
  rw [he]
  exact kk
/-- a loop that writes: a counts, x is what the cells hold -/
theorem zb_lpm {τ : Type} (I : Int → τ → Prop) (lv : Int → List (Nat × Value)) (wf : τ → va_W) (μ : Int → Int) (a : Int) (x : τ) (h : I a x) (hl : lv_has ls nL (lv a)) (hP : va_P D vwCl (wf x) H) (hD : va_D A0 (wf x)) (hS : va_S A0 H0 H locs)
    (step : ∀ (a : Int) (x : τ) (H : Heap) (locs : List Loc) (ls : Array Slot), I a x → lv_has ls nL (lv a) → va_P D vwCl (wf x) H → va_D A0 (wf x) → va_S A0 H0 H locs →
      (∀ (b : Int) (z : τ) (H' : Heap) (locs' : List Loc) (ls' : Array Slot), I b z → (0 ≤ μ b ∧ μ b < μ a) → lv_has ls' nL (lv b) → va_P D vwCl (wf z) H' → va_D A0 (wf z) → va_S A0 H0 H' locs' → W p l e R s m args below meth c H' locs' cells slots Q (F0 m pc ls' [])) → W p l e R s m args below meth c H locs cells slots Q (F0 m pc ls [])) : W p l e R s m args below meth c H locs cells slots Q (F0 m pc ls []) := by
  have key : ∀ (n : Nat) (a : Int) (x : τ) (H : Heap) (locs : List Loc) (ls : Array Slot), I a x → lv_has ls nL (lv a) → va_P D vwCl (wf x) H → va_D A0 (wf x) → va_S A0 H0 H locs → (μ a).toNat < n → W p l e R s m args below meth c H locs cells slots Q (F0 m pc ls []) := by
    intro n
    induction n with
    | zero => intro a x H locs ls _ _ _ _ _ h; exact absurd h (Nat.not_lt_zero _)
    | succ n ih => intro a x H locs ls h1 h2 h3 h4 h5 hn; exact step a x H locs ls h1 h2 h3 h4 h5 (fun b z H' locs' ls' g1 g2 g3 g4 g5 g6 => ih b z H' locs' ls' g1 g3 g4 g5 g6 (by omega))
  exact key _ a x H locs ls h hl hP hD hS (Nat.lt_succ_self _)
end AM
end
section
/-! bits: the first rows (bt to b_sshr) are out of kit/laws/BITS.to-paste -/
def bt (x : Int32) (i : Nat) : Bool := x.toBitVec.getLsbD i
theorem b_ext {x y : Int32} (h : ∀ i, i < 32 → bt x i = bt y i) : x = y := Int32.toBitVec_inj.mp (BitVec.eq_of_getLsbD_eq (fun i hi => h i hi))
theorem b_or (x y : Int32) (i : Nat) : bt (x ||| y) i = (bt x i || bt y i) := by unfold bt; rw [Int32.toBitVec_or, BitVec.getLsbD_or]
theorem b_and (x y : Int32) (i : Nat) : bt (x &&& y) i = (bt x i && bt y i) := by unfold bt; rw [Int32.toBitVec_and, BitVec.getLsbD_and]
theorem b_xor (x y : Int32) (i : Nat) : bt (x ^^^ y) i = (bt x i ^^ bt y i) := by unfold bt; rw [Int32.toBitVec_xor, BitVec.getLsbD_xor]
theorem b_m1 : ∀ i, i < 32 → bt (-1) i = true := by decide +kernel
theorem b_0 (i : Nat) : bt 0 i = false := BitVec.getLsbD_zero
theorem s_l : ∀ n, n < 32 → ((nI n &&& 31).toBitVec.smod 32).toNat = n := by decide +kernel
theorem b_shl (n : Nat) (hn : n < 32) (x : Int32) {i : Nat} (hi : i < 32) : bt (x <<< (nI n &&& 31)) i = (decide (n ≤ i) && bt x (i - n)) := by
  unfold bt
  rw [Int32.toBitVec_shiftLeft]
  show (x.toBitVec <<< ((nI n &&& 31).toBitVec.smod 32).toNat).getLsbD i = _
  rw [s_l n hn, BitVec.getLsbD_shiftLeft]
  rcases Nat.lt_or_ge i n with h | h
  · simp [h, Nat.not_le.mpr h]
  · simp [hi, h, Nat.not_lt.mpr h]
theorem b_sshr (n : Nat) (hn : n < 32) (x : Int32) {i : Nat} (hi : i < 32) : bt (x >>> (nI n &&& 31)) i = if n + i < 32 then bt x (n + i) else bt x 31 := by
  unfold bt
  rw [Int32.toBitVec_shiftRight]
  show (x.toBitVec.sshiftRight ((nI n &&& 31).toBitVec.smod 32).toNat).getLsbD i = _
  rw [s_l n hn, BitVec.getLsbD_sshiftRight, BitVec.msb_eq_getLsbD_last]
  simp [hi]
theorem aw_bt1 {i : Nat} (hi : i < 32) : bt 1 i = decide (i = 0) := (by decide +kernel : ∀ i, i < 32 → bt 1 i = decide (i = 0)) i hi
theorem aw_btb (x : Bool) {i : Nat} (hi : i < 32) : bt (zI (aw_b x)) i = (decide (i = 0) && x) := by
  cases x
  · rw [show zI (aw_b false) = 0 from by decide, b_0, Bool.and_false]
  · rw [show zI (aw_b true) = 1 from by decide, aw_bt1 hi, Bool.and_true]
theorem aw_sft (x : Int32) {n : Nat} (hn : n < 32) : (x >>> (nI n &&& 31)) &&& 1 = zI (aw_b (bt x n)) := by
  apply b_ext
  intro i hi
  rw [b_and, b_sshr n hn x hi, aw_bt1 hi, aw_btb _ hi]
  by_cases h : i = 0
  · subst h
    rw [Nat.add_zero, if_pos hn]
    simp
  · simp [h]
theorem aw_b_inj {x y : Bool} : zI (aw_b x) = zI (aw_b y) ↔ x = y := by
  cases x <;> cases y <;> decide
theorem aw_OB_iff {pf : Nat → Int32} {ob : Int → Bool} : aw_OB pf ob ↔ ∀ z : Int, 0 ≤ z → z < 72 → bt (pf (z / 24).toNat) (z % 24).toNat = ob z := by
  unfold aw_OB
  have key : ∀ z : Int, 0 ≤ z → z < 72 → ((pf (zI (z / 24)).toNatClampNeg >>> (zI (z % 24) &&& 31)) &&& zI 1) = zI (aw_b (bt (pf (z / 24).toNat) (z % 24).toNat)) := by
    intro z h0 h1
    rw [zI_clamp (by omega), show zI (z % 24) = nI (z % 24).toNat from by rw [zI_nI (by omega)]; congr 1; omega, show zI 1 = 1 from by decide]
    exact aw_sft _ (by omega)
  constructor
  · intro h z h0 h1
    exact aw_b_inj.mp ((key z h0 h1).symm.trans (h z h0 h1))
  · intro h z h0 h1
    rw [key z h0 h1, h z h0 h1]
theorem aw_OB_0 {pf : Nat → Int32} {ob : Int → Bool} (hp : ∀ j : Nat, j < 3 → pf j = zI 0) (ho : ∀ z : Int, 0 ≤ z → z < 72 → ob z = false) : aw_OB pf ob := by
  rw [aw_OB_iff]
  intro z h0 h1
  rw [hp _ (by omega), ho z h0 h1, zI_0, b_0]
theorem aw_one {n : Nat} (hn : n < 32) {i : Nat} (hi : i < 32) : bt ((1 : Int32) <<< (nI n &&& 31)) i = decide (i = n) := by
  rw [b_shl n hn _ hi]
  by_cases h : n ≤ i
  · rw [aw_bt1 (by omega)]
    by_cases e : i = n
    · subst e; simp
    · simp [h, e, show ¬ i - n = 0 from by omega]
  · simp [h, show ¬ i = n from by omega]
theorem aw_OB_set {pf : Nat → Int32} {ob : Int → Bool} (h : aw_OB pf ob) {c : Int} (h0 : 0 ≤ c) (h1 : c < 72) : aw_OB (upd pf (zI (c / 24)).toNatClampNeg (pf (zI (c / 24)).toNatClampNeg ||| (zI 1 <<< (zI (c % 24) &&& 31)))) (aw_up ob c true) := by
  rw [aw_OB_iff] at h ⊢
  intro z g0 g1
  rw [zI_clamp (by omega), show zI (c % 24) = nI (c % 24).toNat from by rw [zI_nI (by omega)]; congr 1; omega, show zI 1 = 1 from by decide]
  unfold upd aw_up
  by_cases hq : (z / 24).toNat = (c / 24).toNat
  · rw [if_pos hq, b_or, aw_one (by omega) (by omega), ← hq, h z g0 g1]
    by_cases e : z = c
    · subst e; simp
    · rw [if_neg e, decide_eq_false (by omega), Bool.or_false]
  · rw [if_neg hq, if_neg (by intro e; exact hq (by rw [e])), h z g0 g1]
theorem aw_OB_clr {pf : Nat → Int32} {ob : Int → Bool} (h : aw_OB pf ob) {c : Int} (h0 : 0 ≤ c) (h1 : c < 72) : aw_OB (upd pf (zI (c / 24)).toNatClampNeg (pf (zI (c / 24)).toNatClampNeg &&& ((zI 1 <<< (zI (c % 24) &&& 31)) ^^^ zI (-1)))) (aw_up ob c false) := by
  rw [aw_OB_iff] at h ⊢
  intro z g0 g1
  rw [zI_clamp (by omega), show zI (c % 24) = nI (c % 24).toNat from by rw [zI_nI (by omega)]; congr 1; omega, show zI 1 = 1 from by decide, show zI (-1) = -1 from by decide]
  unfold upd aw_up
  by_cases hq : (z / 24).toNat = (c / 24).toNat
  · rw [if_pos hq, b_and, b_xor, b_m1 _ (by omega), aw_one (by omega) (by omega), ← hq, h z g0 g1]
    by_cases e : z = c
    · subst e; simp
    · rw [if_neg e, decide_eq_false (by omega)]; simp
  · rw [if_neg hq, if_neg (by intro e; exact hq (by rw [e])), h z g0 g1]
end
section
theorem aw_tdiv_in {x y a : Int} (hx : -a ≤ x) (hx2 : x ≤ a) (_hy : 1 ≤ y) : -a ≤ x.tdiv y ∧ x.tdiv y ≤ a := by
  have h1 : (x.tdiv y).natAbs ≤ x.natAbs := by rw [Int.natAbs_tdiv]; exact Nat.div_le_self _ _
  omega
section
variable {l : Launch} {D : va_G} {yZ yI : ClassId} {o oa ba da pa : Nat} {P S K N w ch : Int} {ty px pr : Int32} {ob : Int → Bool} {g pf : Nat → Int32} {dv : Nat → Int}
set_option maxHeartbeats 4000000 in
set_option maxRecDepth 100000 in
/-- brushBar(q) -/
theorem k_brushBar (hP1 : 1 ≤ P ∧ P ≤ 8) (hN1 : 0 ≤ N ∧ N ≤ 72) {q : Int} (hq : 0 ≤ q ∧ q < P) : aw_RO l yX0_brushBar wsX0_brushBar (aw_rm 0 0) D (aw_T yZ yI) (aw_W3 yZ yI o oa ba P S K N ty px pr w ch ob g) [.ref o, .int (zI q)] (q * N / P) := by
  refine Met.ofW (cc := cX0_brushBar) (maxL := 2) (ret := (some .int)) (by decide) rfl ?_
  intro p e s m args below meth c s₁ B hml hv
  obtain ⟨rfl, hP, hK⟩ := hv
  have hx := B.exec
  have hb := B.bytes
  have hr := B.returns
  have hts := atoms_spec (ws := wsX0_brushBar) B.pre
  have hown : s.vm.findClass RX0 = some m.cls := findClass_of_methodNamed B.named
  have hlocks := B.notSynchronized
  have hin : ∀ w ∈ wsX00, w ∈ wsX0_brushBar := fun w h => List.mem_cons_of_mem _ (List.mem_append_right _ h)
  have hf_21 := hts (.fieldLink RX0 21 "ArmatureWinding" "coils" "I") (by decide +kernel)
  have hf_46 := hts (.fieldLink RX0 46 "ArmatureWinding" "poles" "I") (by decide +kernel)
  have hl := lv_entry ([.ref o, .int (zI q)]) (n := 2) (Nat.le_of_ble_eq_true rfl)
  rw [lg_entry_eq]
  generalize (lg_sl ([.ref o, .int (zI q)]) ++ List.replicate (2 - (lg_sl ([.ref o, .int (zI q)])).length) Slot.unset).toArray = ls at hl ⊢
  have hl : lv_has ls 2 [(0, .ref o), (1, .int (zI q))] := hl
  have hm := aw_mul (x := q) (y := N) (a := 8) (b := 72) (by omega) (by omega) (by omega) (by omega)
  have hm0 : 0 ≤ q * N := Int.mul_nonneg (by omega) (by omega)
  refine lv_iload_n hx hb dX0_brushBar_0 rfl (lv_at hl 1 rfl) ?_
  refine zb_ilt (tgt := 19) hx hb dX0_brushBar_1 (by decide) (by omega) (fun c1 => absurd c1 (by omega)) (fun c1 => ?_)
  refine lv_iload_n hx hb dX0_brushBar_4 rfl (lv_at hl 1 rfl) ?_
  refine lv_aload_n hx hb dX0_brushBar_5 rfl (lv_at hl 0 rfl) ?_
  refine va_get (D := D) (ci := 0) (v := .int (zI P)) (C := RX0) (T := TX0) (N := 11) hx hb hts hin hown hK hP 0 rfl rfl 0 (by decide) hf_46 (fun _ h9 => h9) rfl dX0_brushBar_6 ?_
  refine zb_cge (tgt := 19) hx hb dX0_brushBar_9 (by decide) (by omega) (by omega) (fun c9 => absurd c9 (by omega)) (fun c9 => ?_)
  refine lv_aload_n hx hb dX0_brushBar_12 rfl (lv_at hl 0 rfl) ?_
  refine va_get (D := D) (ci := 0) (v := .int (zI P)) (C := RX0) (T := TX0) (N := 11) hx hb hts hin hown hK hP 0 rfl rfl 0 (by decide) hf_46 (fun _ h9 => h9) rfl dX0_brushBar_13 ?_
  refine zb_igt (tgt := 23) hx hb dX0_brushBar_16 (by decide) (by omega) (fun c16 => ?_) (fun c16 => absurd c16 (by omega))
  refine lv_iload_n hx hb dX0_brushBar_23 rfl (lv_at hl 1 rfl) ?_
  refine lv_aload_n hx hb dX0_brushBar_24 rfl (lv_at hl 0 rfl) ?_
  refine va_get (D := D) (ci := 0) (v := .int (zI N)) (C := RX0) (T := TX0) (N := 11) hx hb hts hin hown hK hP 0 rfl rfl 3 (by decide) hf_21 (fun _ h9 => h9) rfl dX0_brushBar_25 ?_
  refine zb_mul hx hb dX0_brushBar_28 ?_
  refine lv_aload_n hx hb dX0_brushBar_29 rfl (lv_at hl 0 rfl) ?_
  refine va_get (D := D) (ci := 0) (v := .int (zI P)) (C := RX0) (T := TX0) (N := 11) hx hb hts hin hown hK hP 0 rfl rfl 0 (by decide) hf_46 (fun _ h9 => h9) rfl dX0_brushBar_30 ?_
  refine zb_div hx hb dX0_brushBar_33 (by omega) (by omega) ?_
  exact aw_iret hx hb hr hlocks dX0_brushBar_34 (by first | rfl | omega)
set_option maxHeartbeats 4000000 in
set_option maxRecDepth 100000 in
/-- wavePitch(x) -/
theorem k_wavePitch (hP1 : 2 ≤ P ∧ P ≤ 8) (hN1 : 0 ≤ N ∧ N ≤ 72) {x : Int} (hx3 : -10 ≤ x ∧ x ≤ 10) : aw_RO l yX0_wavePitch wsX0_wavePitch (aw_rm 0 0) D (aw_T yZ yI) (aw_W3 yZ yI o oa ba P S K N ty px pr w ch ob g) [.ref o, .int (zI x)] ((N + x).tdiv (P / 2)) := by
  refine Met.ofW (cc := cX0_wavePitch) (maxL := 3) (ret := (some .int)) (by decide) rfl ?_
  intro p e s m args below meth c s₁ B hml hv
  obtain ⟨rfl, hP, hK⟩ := hv
  have hx := B.exec
  have hb := B.bytes
  have hr := B.returns
  have hts := atoms_spec (ws := wsX0_wavePitch) B.pre
  have hown : s.vm.findClass RX0 = some m.cls := findClass_of_methodNamed B.named
  have hlocks := B.notSynchronized
  have hin : ∀ w ∈ wsX00, w ∈ wsX0_wavePitch := fun w h => List.mem_cons_of_mem _ (List.mem_append_right _ h)
  have hf_21 := hts (.fieldLink RX0 21 "ArmatureWinding" "coils" "I") (by decide +kernel)
  have hf_46 := hts (.fieldLink RX0 46 "ArmatureWinding" "poles" "I") (by decide +kernel)
  have hl := lv_entry ([.ref o, .int (zI x)]) (n := 3) (Nat.le_of_ble_eq_true rfl)
  rw [lg_entry_eq]
  generalize (lg_sl ([.ref o, .int (zI x)]) ++ List.replicate (3 - (lg_sl ([.ref o, .int (zI x)])).length) Slot.unset).toArray = ls at hl ⊢
  have hl : lv_has ls 3 [(0, .ref o), (1, .int (zI x))] := hl
  refine lv_aload_n hx hb dX0_wavePitch_0 rfl (lv_at hl 0 rfl) ?_
  refine va_get (D := D) (ci := 0) (v := .int (zI P)) (C := RX0) (T := TX0) (N := 11) hx hb hts hin hown hK hP 0 rfl rfl 0 (by decide) hf_46 (fun _ h9 => h9) rfl dX0_wavePitch_1 ?_
  refine zb_iconst hx hb dX0_wavePitch_4 ?_
  refine zb_div hx hb dX0_wavePitch_5 (by omega) (by omega) ?_
  refine lv_istore_n (lv' := [(2, .int (zI (P / 2))), (0, .ref o), (1, .int (zI x))]) hx hb dX0_wavePitch_6 rfl hl (by decide) rfl (fun ls hl => ?_)
  refine lv_iload_n hx hb dX0_wavePitch_7 rfl (lv_at hl 0 rfl) ?_
  refine zb_ile (tgt := 22) hx hb dX0_wavePitch_8 (by decide) (by omega) (fun c8 => absurd c8 (by omega)) (fun c8 => ?_)
  refine lv_aload_n hx hb dX0_wavePitch_11 rfl (lv_at hl 1 rfl) ?_
  refine va_get (D := D) (ci := 0) (v := .int (zI N)) (C := RX0) (T := TX0) (N := 11) hx hb hts hin hown hK hP 0 rfl rfl 3 (by decide) hf_21 (fun _ h9 => h9) rfl dX0_wavePitch_12 ?_
  refine lv_iload_n hx hb dX0_wavePitch_15 rfl (lv_at hl 2 rfl) ?_
  refine zb_add hx hb dX0_wavePitch_16 ?_
  refine lv_iload_n hx hb dX0_wavePitch_17 rfl (lv_at hl 0 rfl) ?_
  refine zb_tdiv hx hb dX0_wavePitch_18 (by omega) (by omega) ?_
  refine lv_goto (tgt := 23) hx hb dX0_wavePitch_19 (by decide) ?_
  exact aw_iret hx hb hr hlocks dX0_wavePitch_23 (by first | rfl | omega)
set_option maxHeartbeats 4000000 in
set_option maxRecDepth 100000 in
/-- isWavePossible(x) -/
theorem k_isWavePossible (hP1 : 2 ≤ P ∧ P ≤ 8) (hN1 : 0 ≤ N ∧ N ≤ 72) {x : Int} (hx3 : -10 ≤ x ∧ x ≤ 10) : aw_RO l yX0_isWavePossible wsX0_isWavePossible (aw_rm 1 22) D (aw_T yZ yI) (aw_W3 yZ yI o oa ba P S K N ty px pr w ch ob g) [.ref o, .int (zI x)] (aw_b (decide ((N + x).tdiv (P / 2) * (P / 2) = N + x))) := by
  refine Met.ofW (cc := cX0_isWavePossible) (maxL := 2) (ret := (some .boolean)) (by decide) rfl ?_
  intro p e s m args below meth c s₁ B hml hv
  obtain ⟨rfl, hP, hK⟩ := hv
  have hx := B.exec
  have hb := B.bytes
  have hr := B.returns
  have hts := atoms_spec (ws := wsX0_isWavePossible) B.pre
  have hown : s.vm.findClass RX0 = some m.cls := findClass_of_methodNamed B.named
  have hlocks := B.notSynchronized
  have hin : ∀ w ∈ wsX00, w ∈ wsX0_isWavePossible := fun w h => List.mem_cons_of_mem _ (List.mem_append_right _ h)
  have hf_21 := hts (.fieldLink RX0 21 "ArmatureWinding" "coils" "I") (by decide +kernel)
  have hf_46 := hts (.fieldLink RX0 46 "ArmatureWinding" "poles" "I") (by decide +kernel)
  have hl := lv_entry ([.ref o, .int (zI x)]) (n := 2) (Nat.le_of_ble_eq_true rfl)
  rw [lg_entry_eq]
  generalize (lg_sl ([.ref o, .int (zI x)]) ++ List.replicate (2 - (lg_sl ([.ref o, .int (zI x)])).length) Slot.unset).toArray = ls at hl ⊢
  have hl : lv_has ls 2 [(0, .ref o), (1, .int (zI x))] := hl
  have ht := aw_tdiv_in (x := N + x) (y := P / 2) (a := 82) (by omega) (by omega) (by omega)
  have hm := aw_mul (x := P / 2) (y := (N + x).tdiv (P / 2)) (a := 4) (b := 82) (by omega) (by omega) (by omega) (by omega)
  have hc : (N + x).tdiv (P / 2) * (P / 2) = P / 2 * (N + x).tdiv (P / 2) := Int.mul_comm _ _
  refine lv_aload_n hx hb dX0_isWavePossible_0 rfl (lv_at hl 0 rfl) ?_
  refine lv_iload_n hx hb dX0_isWavePossible_1 rfl (lv_at hl 1 rfl) ?_
  refine aw_callV (As := [.int (zI x)]) (rest := []) ⟨hx, hb, hml, hown, hts⟩ (k_wavePitch (x := x) hP1 hN1 hx3) (cwV 1 hts gX0_isWavePossible_X0_wavePitch rfl rfl rfl (by decide +kernel) ⟨Nat.le_of_ble_eq_true rfl, Nat.le_of_ble_eq_true rfl⟩) hP hK rfl rfl rfl hl.1 rfl (Nat.le_of_ble_eq_true rfl) dX0_isWavePossible_2 ⟨Nat.zero_le _, Nat.zero_le _⟩ ?_
  refine lv_aload_n hx hb dX0_isWavePossible_5 rfl (lv_at hl 0 rfl) ?_
  refine va_get (D := D) (ci := 0) (v := .int (zI P)) (C := RX0) (T := TX0) (N := 11) hx hb hts hin hown hK hP 0 rfl rfl 0 (by decide) hf_46 (fun _ h9 => h9) rfl dX0_isWavePossible_6 ?_
  refine zb_iconst hx hb dX0_isWavePossible_9 ?_
  refine zb_div hx hb dX0_isWavePossible_10 (by omega) (by omega) ?_
  refine zb_mul hx hb dX0_isWavePossible_11 ?_
  refine lv_aload_n hx hb dX0_isWavePossible_12 rfl (lv_at hl 0 rfl) ?_
  refine va_get (D := D) (ci := 0) (v := .int (zI N)) (C := RX0) (T := TX0) (N := 11) hx hb hts hin hown hK hP 0 rfl rfl 3 (by decide) hf_21 (fun _ h9 => h9) rfl dX0_isWavePossible_13 ?_
  refine lv_iload_n hx hb dX0_isWavePossible_16 rfl (lv_at hl 1 rfl) ?_
  refine zb_add hx hb dX0_isWavePossible_17 ?_
  refine zb_cne (tgt := 25) hx hb dX0_isWavePossible_18 (by decide) (by omega) (by omega) (fun c18 => ?_) (fun c18 => ?_)
  · skip
    refine zb_iconst hx hb dX0_isWavePossible_25 ?_
    exact aw_zret hx hb hr hlocks dX0_isWavePossible_26 (by omega) (by rw [decide_eq_false c18]; rfl)
  · skip
    refine zb_iconst hx hb dX0_isWavePossible_21 ?_
    refine lv_goto (tgt := 26) hx hb dX0_isWavePossible_22 (by decide) ?_
    exact aw_zret hx hb hr hlocks dX0_isWavePossible_26 (by omega) (by rw [decide_eq_true c18]; rfl)
set_option maxHeartbeats 4000000 in
set_option maxRecDepth 100000 in
/-- setArmature(a, b, k), out of range -/
theorem k_setArmature_no {a b k : Int} (ha : -1000 ≤ a ∧ a ≤ 1000) (hb3 : -1000 ≤ b ∧ b ≤ 1000) (hk : -1000 ≤ k ∧ k ≤ 1000) (hno : ¬ (2 ≤ a ∧ a ≤ 8 ∧ a % 2 = 0 ∧ a ≤ b ∧ b ≤ 24 ∧ 1 ≤ k ∧ k ≤ 3)) : aw_RO l yX0_setArmature wsX0_setArmature (aw_rm 3 67) D (aw_T yZ yI) (aw_W3 yZ yI o oa ba P S K N ty px pr w ch ob g) [.ref o, .int (zI a), .int (zI b), .int (zI k)] (-1001) := by
  refine Met.ofW (cc := cX0_setArmature) (maxL := 4) (ret := (some .int)) (by decide) rfl ?_
  intro p e s m args below meth c s₁ B hml hv
  obtain ⟨rfl, hP, hK⟩ := hv
  have hx := B.exec
  have hb := B.bytes
  have hr := B.returns
  have hts := atoms_spec (ws := wsX0_setArmature) B.pre
  have hown : s.vm.findClass RX0 = some m.cls := findClass_of_methodNamed B.named
  have hlocks := B.notSynchronized
  have hin : ∀ w ∈ wsX00, w ∈ wsX0_setArmature := fun w h => List.mem_cons_of_mem _ (List.mem_append_right _ h)
  have hf_21 := hts (.fieldLink RX0 21 "ArmatureWinding" "coils" "I") (by decide +kernel)
  have hl := lv_entry ([.ref o, .int (zI a), .int (zI b), .int (zI k)]) (n := 4) (Nat.le_of_ble_eq_true rfl)
  rw [lg_entry_eq]
  generalize (lg_sl ([.ref o, .int (zI a), .int (zI b), .int (zI k)]) ++ List.replicate (4 - (lg_sl ([.ref o, .int (zI a), .int (zI b), .int (zI k)])).length) Slot.unset).toArray = ls at hl ⊢
  have hl : lv_has ls 4 [(0, .ref o), (1, .int (zI a)), (2, .int (zI b)), (3, .int (zI k))] := hl
  refine lv_iload_n hx hb dX0_setArmature_0 rfl (lv_at hl 1 rfl) ?_
  refine zb_iconst hx hb dX0_setArmature_1 ?_
  refine zb_clt (tgt := 17) hx hb dX0_setArmature_2 (by decide) (by omega) (by omega) (fun c2 => ?_) (fun c2 => ?_)
  · skip
    refine zb_sipush hx hb dX0_setArmature_17 (by decide) ?_
    exact aw_iret hx hb hr hlocks dX0_setArmature_20 (by first | rfl | omega)
  · skip
    refine lv_iload_n hx hb dX0_setArmature_5 rfl (lv_at hl 1 rfl) ?_
    refine zb_bipush hx hb dX0_setArmature_6 (by decide) ?_
    refine zb_cgt (tgt := 17) hx hb dX0_setArmature_8 (by decide) (by omega) (by omega) (fun c8 => ?_) (fun c8 => ?_)
    · skip
      refine zb_sipush hx hb dX0_setArmature_17 (by decide) ?_
      exact aw_iret hx hb hr hlocks dX0_setArmature_20 (by first | rfl | omega)
    · skip
      refine lv_iload_n hx hb dX0_setArmature_11 rfl (lv_at hl 1 rfl) ?_
      refine zb_iconst hx hb dX0_setArmature_12 ?_
      refine zb_rem hx hb dX0_setArmature_13 (by omega) (by omega) ?_
      refine zb_ieq (tgt := 21) hx hb dX0_setArmature_14 (by decide) (by omega) (fun c14 => ?_) (fun c14 => ?_)
      · skip
        refine lv_iload_n hx hb dX0_setArmature_21 rfl (lv_at hl 2 rfl) ?_
        refine lv_iload_n hx hb dX0_setArmature_22 rfl (lv_at hl 1 rfl) ?_
        refine zb_clt (tgt := 32) hx hb dX0_setArmature_23 (by decide) (by omega) (by omega) (fun c23 => ?_) (fun c23 => ?_)
        · skip
          refine zb_sipush hx hb dX0_setArmature_32 (by decide) ?_
          exact aw_iret hx hb hr hlocks dX0_setArmature_35 (by first | rfl | omega)
        · skip
          refine lv_iload_n hx hb dX0_setArmature_26 rfl (lv_at hl 2 rfl) ?_
          refine zb_bipush hx hb dX0_setArmature_27 (by decide) ?_
          refine zb_cle (tgt := 36) hx hb dX0_setArmature_29 (by decide) (by omega) (by omega) (fun c29 => ?_) (fun c29 => ?_)
          · skip
            refine lv_iload_n hx hb dX0_setArmature_36 rfl (lv_at hl 3 rfl) ?_
            refine zb_iconst hx hb dX0_setArmature_37 ?_
            refine zb_clt (tgt := 46) hx hb dX0_setArmature_38 (by decide) (by omega) (by omega) (fun c38 => ?_) (fun c38 => ?_)
            · skip
              refine zb_sipush hx hb dX0_setArmature_46 (by decide) ?_
              exact aw_iret hx hb hr hlocks dX0_setArmature_49 (by first | rfl | omega)
            · skip
              refine lv_iload_n hx hb dX0_setArmature_41 rfl (lv_at hl 3 rfl) ?_
              refine zb_iconst hx hb dX0_setArmature_42 ?_
              refine zb_cle (tgt := 50) hx hb dX0_setArmature_43 (by decide) (by omega) (by omega) (fun c43 => absurd c43 (by omega)) (fun c43 => ?_)
              refine zb_sipush hx hb dX0_setArmature_46 (by decide) ?_
              exact aw_iret hx hb hr hlocks dX0_setArmature_49 (by first | rfl | omega)
          · skip
            refine zb_sipush hx hb dX0_setArmature_32 (by decide) ?_
            exact aw_iret hx hb hr hlocks dX0_setArmature_35 (by first | rfl | omega)
      · skip
        refine zb_sipush hx hb dX0_setArmature_17 (by decide) ?_
        exact aw_iret hx hb hr hlocks dX0_setArmature_20 (by first | rfl | omega)
set_option maxHeartbeats 4000000 in
set_option maxRecDepth 100000 in
/-- setWinding(t, x, b), out of range -/
theorem k_setWinding_oor {t x b : Int} (ht : -1000 ≤ t ∧ t ≤ 1000) (hx3 : -1000 ≤ x ∧ x ≤ 1000) (hno : ¬ ((t = 0 ∨ t = 1) ∧ 1 ≤ x ∧ x ≤ 3)) : aw_RO l yX0_setWinding wsX0_setWinding (aw_rm 2 43) D (aw_T yZ yI) (aw_W3 yZ yI o oa ba P S K N ty px pr w ch ob g) [.ref o, .int (zI t), .int (zI x), .int (zI b)] (-1001) := by
  refine Met.ofW (cc := cX0_setWinding) (maxL := 5) (ret := (some .int)) (by decide) rfl ?_
  intro p e s m args below meth c s₁ B hml hv
  obtain ⟨rfl, hP, hK⟩ := hv
  have hx := B.exec
  have hb := B.bytes
  have hr := B.returns
  have hts := atoms_spec (ws := wsX0_setWinding) B.pre
  have hown : s.vm.findClass RX0 = some m.cls := findClass_of_methodNamed B.named
  have hlocks := B.notSynchronized
  have hin : ∀ w ∈ wsX00, w ∈ wsX0_setWinding := fun w h => List.mem_cons_of_mem _ (List.mem_append_right _ h)
  have hf_37 := hts (.fieldLink RX0 37 "ArmatureWinding" "pitch" "I") (by decide +kernel)
  have hl := lv_entry ([.ref o, .int (zI t), .int (zI x), .int (zI b)]) (n := 5) (Nat.le_of_ble_eq_true rfl)
  rw [lg_entry_eq]
  generalize (lg_sl ([.ref o, .int (zI t), .int (zI x), .int (zI b)]) ++ List.replicate (5 - (lg_sl ([.ref o, .int (zI t), .int (zI x), .int (zI b)])).length) Slot.unset).toArray = ls at hl ⊢
  have hl : lv_has ls 5 [(0, .ref o), (1, .int (zI t)), (2, .int (zI x)), (3, .int (zI b))] := hl
  refine lv_iload_n hx hb dX0_setWinding_0 rfl (lv_at hl 1 rfl) ?_
  refine zb_ieq (tgt := 13) hx hb dX0_setWinding_1 (by decide) (by omega) (fun c1 => ?_) (fun c1 => ?_)
  · skip
    refine lv_iload_n hx hb dX0_setWinding_13 rfl (lv_at hl 2 rfl) ?_
    refine zb_iconst hx hb dX0_setWinding_14 ?_
    refine zb_clt (tgt := 23) hx hb dX0_setWinding_15 (by decide) (by omega) (by omega) (fun c15 => ?_) (fun c15 => ?_)
    · skip
      refine zb_sipush hx hb dX0_setWinding_23 (by decide) ?_
      exact aw_iret hx hb hr hlocks dX0_setWinding_26 (by first | rfl | omega)
    · skip
      refine lv_iload_n hx hb dX0_setWinding_18 rfl (lv_at hl 2 rfl) ?_
      refine zb_iconst hx hb dX0_setWinding_19 ?_
      refine zb_cle (tgt := 27) hx hb dX0_setWinding_20 (by decide) (by omega) (by omega) (fun c20 => absurd c20 (by omega)) (fun c20 => ?_)
      refine zb_sipush hx hb dX0_setWinding_23 (by decide) ?_
      exact aw_iret hx hb hr hlocks dX0_setWinding_26 (by first | rfl | omega)
  · skip
    refine lv_iload_n hx hb dX0_setWinding_4 rfl (lv_at hl 1 rfl) ?_
    refine zb_iconst hx hb dX0_setWinding_5 ?_
    refine zb_ceq (tgt := 13) hx hb dX0_setWinding_6 (by decide) (by omega) (by omega) (fun c6 => ?_) (fun c6 => ?_)
    · skip
      refine lv_iload_n hx hb dX0_setWinding_13 rfl (lv_at hl 2 rfl) ?_
      refine zb_iconst hx hb dX0_setWinding_14 ?_
      refine zb_clt (tgt := 23) hx hb dX0_setWinding_15 (by decide) (by omega) (by omega) (fun c15 => ?_) (fun c15 => ?_)
      · skip
        refine zb_sipush hx hb dX0_setWinding_23 (by decide) ?_
        exact aw_iret hx hb hr hlocks dX0_setWinding_26 (by first | rfl | omega)
      · skip
        refine lv_iload_n hx hb dX0_setWinding_18 rfl (lv_at hl 2 rfl) ?_
        refine zb_iconst hx hb dX0_setWinding_19 ?_
        refine zb_cle (tgt := 27) hx hb dX0_setWinding_20 (by decide) (by omega) (by omega) (fun c20 => absurd c20 (by omega)) (fun c20 => ?_)
        refine zb_sipush hx hb dX0_setWinding_23 (by decide) ?_
        exact aw_iret hx hb hr hlocks dX0_setWinding_26 (by first | rfl | omega)
    · skip
      refine zb_sipush hx hb dX0_setWinding_9 (by decide) ?_
      exact aw_iret hx hb hr hlocks dX0_setWinding_12 (by first | rfl | omega)
set_option maxHeartbeats 4000000 in
set_option maxRecDepth 100000 in
/-- setWinding(t, x, b), not possible -/
theorem k_setWinding_np (hP1 : 2 ≤ P ∧ P ≤ 8) (hN1 : 0 ≤ N ∧ N ≤ 72) {t x b h : Int} (ht : t = 1) (hx3 : 1 ≤ x ∧ x ≤ 3) (hb3 : b = 1 ∧ h = x ∨ b = 0 ∧ h = -x) (hno : ¬ (N + h).tdiv (P / 2) * (P / 2) = N + h) : aw_RO l yX0_setWinding wsX0_setWinding (aw_rm 2 43) D (aw_T yZ yI) (aw_W3 yZ yI o oa ba P S K N ty px pr w ch ob g) [.ref o, .int (zI t), .int (zI x), .int (zI b)] (-1003) := by
  refine Met.ofW (cc := cX0_setWinding) (maxL := 5) (ret := (some .int)) (by decide) rfl ?_
  intro p e s m args below meth c s₁ B hml hv
  obtain ⟨rfl, hP, hK⟩ := hv
  have hx := B.exec
  have hb := B.bytes
  have hr := B.returns
  have hts := atoms_spec (ws := wsX0_setWinding) B.pre
  have hown : s.vm.findClass RX0 = some m.cls := findClass_of_methodNamed B.named
  have hlocks := B.notSynchronized
  have hin : ∀ w ∈ wsX00, w ∈ wsX0_setWinding := fun w h => List.mem_cons_of_mem _ (List.mem_append_right _ h)
  have hf_37 := hts (.fieldLink RX0 37 "ArmatureWinding" "pitch" "I") (by decide +kernel)
  have hl := lv_entry ([.ref o, .int (zI t), .int (zI x), .int (zI b)]) (n := 5) (Nat.le_of_ble_eq_true rfl)
  rw [lg_entry_eq]
  generalize (lg_sl ([.ref o, .int (zI t), .int (zI x), .int (zI b)]) ++ List.replicate (5 - (lg_sl ([.ref o, .int (zI t), .int (zI x), .int (zI b)])).length) Slot.unset).toArray = ls at hl ⊢
  have hl : lv_has ls 5 [(0, .ref o), (1, .int (zI t)), (2, .int (zI x)), (3, .int (zI b))] := hl
  have hw := aw_b_f (decide_eq_false hno)
  refine lv_iload_n hx hb dX0_setWinding_0 rfl (lv_at hl 1 rfl) ?_
  refine zb_ieq (tgt := 13) hx hb dX0_setWinding_1 (by decide) (by omega) (fun c1 => absurd c1 (by omega)) (fun c1 => ?_)
  refine lv_iload_n hx hb dX0_setWinding_4 rfl (lv_at hl 1 rfl) ?_
  refine zb_iconst hx hb dX0_setWinding_5 ?_
  refine zb_ceq (tgt := 13) hx hb dX0_setWinding_6 (by decide) (by omega) (by omega) (fun c6 => ?_) (fun c6 => absurd c6 (by omega))
  refine lv_iload_n hx hb dX0_setWinding_13 rfl (lv_at hl 2 rfl) ?_
  refine zb_iconst hx hb dX0_setWinding_14 ?_
  refine zb_clt (tgt := 23) hx hb dX0_setWinding_15 (by decide) (by omega) (by omega) (fun c15 => absurd c15 (by omega)) (fun c15 => ?_)
  refine lv_iload_n hx hb dX0_setWinding_18 rfl (lv_at hl 2 rfl) ?_
  refine zb_iconst hx hb dX0_setWinding_19 ?_
  refine zb_cle (tgt := 27) hx hb dX0_setWinding_20 (by decide) (by omega) (by omega) (fun c20 => ?_) (fun c20 => absurd c20 (by omega))
  refine lv_iload_n hx hb dX0_setWinding_27 rfl (lv_at hl 3 rfl) ?_
  refine zb_join (fun j => h = j) (pcj := 37) (lj := ls) (rj := []) (fun j hj => ?_) (fun hj37 => ?_)
  rotate_left
  · skip
    refine zb_ieq (tgt := 35) hx hb dX0_setWinding_28 (by decide) (by omega) (fun c28 => ?_) (fun c28 => ?_)
    · skip
      refine lv_iload_n hx hb dX0_setWinding_35 rfl (lv_at hl 2 rfl) ?_
      refine zb_neg hx hb dX0_setWinding_36 ?_
      exact hj37 (-x) (by omega)
    · skip
      refine lv_iload_n hx hb dX0_setWinding_31 rfl (lv_at hl 2 rfl) ?_
      refine lv_goto (tgt := 37) hx hb dX0_setWinding_32 (by decide) ?_
      exact hj37 x (by omega)
  · skip
    subst hj
    refine lv_istore (lv' := [(4, .int (zI h)), (0, .ref o), (1, .int (zI t)), (2, .int (zI x)), (3, .int (zI b))]) hx hb dX0_setWinding_37 hl (by decide) rfl (fun ls hl => ?_)
    refine lv_iload_n hx hb dX0_setWinding_39 rfl (lv_at hl 2 rfl) ?_
    refine zb_iconst hx hb dX0_setWinding_40 ?_
    refine zb_cne (tgt := 57) hx hb dX0_setWinding_41 (by decide) (by omega) (by omega) (fun c41 => absurd c41 (by omega)) (fun c41 => ?_)
    refine lv_aload_n hx hb dX0_setWinding_44 rfl (lv_at hl 1 rfl) ?_
    refine lv_iload hx hb dX0_setWinding_45 (lv_at hl 0 rfl) ?_
    refine aw_callV (As := [.int (zI h)]) (rest := []) ⟨hx, hb, hml, hown, hts⟩ (k_isWavePossible (x := h) hP1 hN1 ⟨by omega, by omega⟩) (cwV 1 hts gX0_setWinding_X0_isWavePossible rfl rfl rfl (by decide +kernel) ⟨Nat.le_of_ble_eq_true rfl, Nat.le_of_ble_eq_true rfl⟩) hP hK rfl rfl rfl hl.1 rfl (Nat.le_of_ble_eq_true rfl) dX0_setWinding_47 ⟨Nat.zero_le _, Nat.zero_le _⟩ ?_
    refine zb_ine (tgt := 57) hx hb dX0_setWinding_50 (by decide) (by omega) (fun c50 => absurd c50 (by omega)) (fun c50 => ?_)
    refine zb_sipush hx hb dX0_setWinding_53 (by decide) ?_
    exact aw_iret hx hb hr hlocks dX0_setWinding_56 (by first | rfl | omega)
set_option maxHeartbeats 4000000 in
set_option maxRecDepth 100000 in
/-- setChording(x), out of range -/
theorem k_setChording_no {x : Int} (hx3 : -1000 ≤ x ∧ x ≤ 1000) (hno : x < 0 ∨ 5 < x) : aw_RO l yX0_setChording wsX0_setChording (aw_rm 0 0) D (aw_T yZ yI) (aw_W3 yZ yI o oa ba P S K N ty px pr w ch ob g) [.ref o, .int (zI x)] (-1001) := by
  refine Met.ofW (cc := cX0_setChording) (maxL := 3) (ret := (some .int)) (by decide) rfl ?_
  intro p e s m args below meth c s₁ B hml hv
  obtain ⟨rfl, hP, hK⟩ := hv
  have hx := B.exec
  have hb := B.bytes
  have hr := B.returns
  have hts := atoms_spec (ws := wsX0_setChording) B.pre
  have hown : s.vm.findClass RX0 = some m.cls := findClass_of_methodNamed B.named
  have hlocks := B.notSynchronized
  have hin : ∀ w ∈ wsX00, w ∈ wsX0_setChording := fun w h => List.mem_cons_of_mem _ (List.mem_append_right _ h)
  have hf_40 := hts (.fieldLink RX0 40 "ArmatureWinding" "chording" "I") (by decide +kernel)
  have hl := lv_entry ([.ref o, .int (zI x)]) (n := 3) (Nat.le_of_ble_eq_true rfl)
  rw [lg_entry_eq]
  generalize (lg_sl ([.ref o, .int (zI x)]) ++ List.replicate (3 - (lg_sl ([.ref o, .int (zI x)])).length) Slot.unset).toArray = ls at hl ⊢
  have hl : lv_has ls 3 [(0, .ref o), (1, .int (zI x))] := hl
  refine lv_iload_n hx hb dX0_setChording_0 rfl (lv_at hl 1 rfl) ?_
  refine zb_ilt (tgt := 9) hx hb dX0_setChording_1 (by decide) (by omega) (fun c1 => ?_) (fun c1 => ?_)
  · skip
    refine zb_sipush hx hb dX0_setChording_9 (by decide) ?_
    exact aw_iret hx hb hr hlocks dX0_setChording_12 (by first | rfl | omega)
  · skip
    refine lv_iload_n hx hb dX0_setChording_4 rfl (lv_at hl 1 rfl) ?_
    refine zb_iconst hx hb dX0_setChording_5 ?_
    refine zb_cle (tgt := 13) hx hb dX0_setChording_6 (by decide) (by omega) (by omega) (fun c6 => absurd c6 (by omega)) (fun c6 => ?_)
    refine zb_sipush hx hb dX0_setChording_9 (by decide) ?_
    exact aw_iret hx hb hr hlocks dX0_setChording_12 (by first | rfl | omega)
set_option maxHeartbeats 4000000 in
set_option maxRecDepth 100000 in
/-- setOpen(q, b), no such coil -/
theorem k_setOpen_no (hN1 : 0 ≤ N ∧ N ≤ 72) {q b : Int} (hq : -1000 ≤ q ∧ q ≤ 1000) (hno : q < 0 ∨ N ≤ q) : aw_RO l yX0_setOpen wsX0_setOpen (aw_rm 2 42) D (aw_T yZ yI) (aw_W3 yZ yI o oa ba P S K N ty px pr w ch ob g) [.ref o, .int (zI q), .int (zI b)] (-1002) := by
  refine Met.ofW (cc := cX0_setOpen) (maxL := 4) (ret := (some .int)) (by decide) rfl ?_
  intro p e s m args below meth c s₁ B hml hv
  obtain ⟨rfl, hP, hK⟩ := hv
  have hx := B.exec
  have hb := B.bytes
  have hr := B.returns
  have hts := atoms_spec (ws := wsX0_setOpen) B.pre
  have hown : s.vm.findClass RX0 = some m.cls := findClass_of_methodNamed B.named
  have hlocks := B.notSynchronized
  have hin : ∀ w ∈ wsX00, w ∈ wsX0_setOpen := fun w h => List.mem_cons_of_mem _ (List.mem_append_right _ h)
  have hf_9 := hts (.fieldLink RX0 9 "ArmatureWinding" "open" "[Z") (by decide +kernel)
  have hf_21 := hts (.fieldLink RX0 21 "ArmatureWinding" "coils" "I") (by decide +kernel)
  have hl := lv_entry ([.ref o, .int (zI q), .int (zI b)]) (n := 4) (Nat.le_of_ble_eq_true rfl)
  rw [lg_entry_eq]
  generalize (lg_sl ([.ref o, .int (zI q), .int (zI b)]) ++ List.replicate (4 - (lg_sl ([.ref o, .int (zI q), .int (zI b)])).length) Slot.unset).toArray = ls at hl ⊢
  have hl : lv_has ls 4 [(0, .ref o), (1, .int (zI q)), (2, .int (zI b))] := hl
  refine lv_iload_n hx hb dX0_setOpen_0 rfl (lv_at hl 1 rfl) ?_
  refine zb_ilt (tgt := 21) hx hb dX0_setOpen_1 (by decide) (by omega) (fun c1 => ?_) (fun c1 => ?_)
  · skip
    refine zb_sipush hx hb dX0_setOpen_21 (by decide) ?_
    exact aw_iret hx hb hr hlocks dX0_setOpen_24 (by first | rfl | omega)
  · skip
    refine lv_iload_n hx hb dX0_setOpen_4 rfl (lv_at hl 1 rfl) ?_
    refine lv_aload_n hx hb dX0_setOpen_5 rfl (lv_at hl 0 rfl) ?_
    refine va_get (D := D) (ci := 0) (v := .int (zI N)) (C := RX0) (T := TX0) (N := 11) hx hb hts hin hown hK hP 0 rfl rfl 3 (by decide) hf_21 (fun _ h9 => h9) rfl dX0_setOpen_6 ?_
    refine zb_cge (tgt := 21) hx hb dX0_setOpen_9 (by decide) (by omega) (by omega) (fun c9 => ?_) (fun c9 => absurd c9 (by omega))
    refine zb_sipush hx hb dX0_setOpen_21 (by decide) ?_
    exact aw_iret hx hb hr hlocks dX0_setOpen_24 (by first | rfl | omega)
end
end
section
section
variable {l : Launch} {D : va_G} {yZ yI : ClassId} {o oa ba da pa : Nat} {P S K N w ch : Int} {ty px pr : Int32} {ob : Int → Bool} {g pf : Nat → Int32} {dv : Nat → Int}
set_option maxHeartbeats 4000000 in
set_option maxRecDepth 100000 in
/-- layWinding(t, x, b, y) -/
theorem k_layWinding {t x b y : Int} (hb3 : b = 0 ∨ b = 1) : aw_MU (S := Unit) l yX0_layWinding wsX0_layWinding (aw_rm 0 0) D (aw_T yZ yI) [(o, .inr (0, [.int (zI P), .int (zI S), .int (zI K), .int (zI N), .int ty, .int px, .int pr, .int (zI w), .int (zI ch), .ref oa, .ref ba])), (oa, .inl (yZ, 72, .inl (aw_f ob))), (ba, .inl (yI, 72, .inl g))] [.ref o, .int (zI t), .int (zI x), .int (zI b), .int (zI y)] none (fun _ => True) (fun _ => aw_W3 yZ yI o oa ba P S K N (zI t) (zI x) (zI b) y ch ob g) := by
  intro sz
  refine Met.ofW (cc := cX0_layWinding) (maxL := 5) (ret := none) (by decide) rfl ?_
  intro p e s m args below meth c s₁ B hml hv
  obtain ⟨rfl, hsz, hP, hK, hD0⟩ := hv
  have hx := B.exec
  have hb := B.bytes
  have hr := B.returns
  have hts := atoms_spec (ws := wsX0_layWinding) B.pre
  have hown : s.vm.findClass RX0 = some m.cls := findClass_of_methodNamed B.named
  have hlocks := B.notSynchronized
  subst hsz
  have hD := hD0.self (sz := s.heap.size)
  have hA : ∀ q : Nat, s.heap.size ≤ q → va_A [(o, .inr (0, [.int (zI P), .int (zI S), .int (zI K), .int (zI N), .int ty, .int px, .int pr, .int (zI w), .int (zI ch), .ref oa, .ref ba])), (oa, .inl (yZ, 72, .inl (aw_f ob))), (ba, .inl (yI, 72, .inl g))] s.heap.size q := fun q h => Or.inr h
  have hS : va_S (va_A [(o, .inr (0, [.int (zI P), .int (zI S), .int (zI K), .int (zI N), .int ty, .int px, .int pr, .int (zI w), .int (zI ch), .ref oa, .ref ba])), (oa, .inl (yZ, 72, .inl (aw_f ob))), (ba, .inl (yI, 72, .inl g))] s.heap.size) s.heap s.heap [] := va_S.rf
  have hin : ∀ w ∈ wsX00, w ∈ wsX0_layWinding := fun w h => List.mem_cons_of_mem _ (List.mem_append_right _ h)
  have hf_37 := hts (.fieldLink RX0 37 "ArmatureWinding" "pitch" "I") (by decide +kernel)
  have hf_58 := hts (.fieldLink RX0 58 "ArmatureWinding" "type" "I") (by decide +kernel)
  have hf_61 := hts (.fieldLink RX0 61 "ArmatureWinding" "plex" "I") (by decide +kernel)
  have hf_64 := hts (.fieldLink RX0 64 "ArmatureWinding" "progressive" "Z") (by decide +kernel)
  have hl := lv_entry ([.ref o, .int (zI t), .int (zI x), .int (zI b), .int (zI y)]) (n := 5) (Nat.le_of_ble_eq_true rfl)
  rw [lg_entry_eq]
  generalize (lg_sl ([.ref o, .int (zI t), .int (zI x), .int (zI b), .int (zI y)]) ++ List.replicate (5 - (lg_sl ([.ref o, .int (zI t), .int (zI x), .int (zI b), .int (zI y)])).length) Slot.unset).toArray = ls at hl ⊢
  have hl : lv_has ls 5 [(0, .ref o), (1, .int (zI t)), (2, .int (zI x)), (3, .int (zI b)), (4, .int (zI y))] := hl
  refine lv_aload_n hx hb dX0_layWinding_0 rfl (lv_at hl 0 rfl) ?_
  refine lv_iload_n hx hb dX0_layWinding_1 rfl (lv_at hl 1 rfl) ?_
  refine va_put (D := D) (ci := 0) (v := .int (zI t)) (ty := .int) (C := RX0) (T := TX0) (N := 11) hx hb hts hin tyX0 tyX0_ok nmX0 hown hK hP hD hS 0 rfl rfl 4 (by decide) hf_58 (fun _ h9 => h9) rfl (by decide +kernel) rfl rfl (Nat.le_of_ble_eq_true rfl) dX0_layWinding_2 (fun H locs hP hD hS => ?_)
  have hP : va_P D vwCl [(o, .inr (0, [.int (zI P), .int (zI S), .int (zI K), .int (zI N), .int (zI t), .int px, .int pr, .int (zI w), .int (zI ch), .ref oa, .ref ba])), (oa, .inl (yZ, 72, .inl (aw_f ob))), (ba, .inl (yI, 72, .inl g))] H := hP
  have hD : va_D _ [(o, .inr (0, [.int (zI P), .int (zI S), .int (zI K), .int (zI N), .int (zI t), .int px, .int pr, .int (zI w), .int (zI ch), .ref oa, .ref ba])), (oa, .inl (yZ, 72, .inl (aw_f ob))), (ba, .inl (yI, 72, .inl g))] := hD
  refine lv_aload_n hx hb dX0_layWinding_5 rfl (lv_at hl 0 rfl) ?_
  refine lv_iload_n hx hb dX0_layWinding_6 rfl (lv_at hl 2 rfl) ?_
  refine va_put (D := D) (ci := 0) (v := .int (zI x)) (ty := .int) (C := RX0) (T := TX0) (N := 11) hx hb hts hin tyX0 tyX0_ok nmX0 hown hK hP hD hS 0 rfl rfl 5 (by decide) hf_61 (fun _ h9 => h9) rfl (by decide +kernel) rfl rfl (Nat.le_of_ble_eq_true rfl) dX0_layWinding_7 (fun H locs hP hD hS => ?_)
  have hP : va_P D vwCl [(o, .inr (0, [.int (zI P), .int (zI S), .int (zI K), .int (zI N), .int (zI t), .int (zI x), .int pr, .int (zI w), .int (zI ch), .ref oa, .ref ba])), (oa, .inl (yZ, 72, .inl (aw_f ob))), (ba, .inl (yI, 72, .inl g))] H := hP
  have hD : va_D _ [(o, .inr (0, [.int (zI P), .int (zI S), .int (zI K), .int (zI N), .int (zI t), .int (zI x), .int pr, .int (zI w), .int (zI ch), .ref oa, .ref ba])), (oa, .inl (yZ, 72, .inl (aw_f ob))), (ba, .inl (yI, 72, .inl g))] := hD
  refine lv_aload_n hx hb dX0_layWinding_10 rfl (lv_at hl 0 rfl) ?_
  refine lv_iload_n hx hb dX0_layWinding_11 rfl (lv_at hl 3 rfl) ?_
  refine va_put (D := D) (ci := 0) (v := .int (zI b)) (ty := .boolean) (C := RX0) (T := TX0) (N := 11) hx hb hts hin tyX0 tyX0_ok nmX0 hown hK hP hD hS 0 rfl rfl 6 (by decide) hf_64 (fun _ h9 => h9) rfl (by decide +kernel) (by rcases hb3 with rfl | rfl <;> decide) (by rcases hb3 with rfl | rfl <;> decide) (Nat.le_of_ble_eq_true rfl) dX0_layWinding_12 (fun H locs hP hD hS => ?_)
  have hP : va_P D vwCl [(o, .inr (0, [.int (zI P), .int (zI S), .int (zI K), .int (zI N), .int (zI t), .int (zI x), .int (zI b), .int (zI w), .int (zI ch), .ref oa, .ref ba])), (oa, .inl (yZ, 72, .inl (aw_f ob))), (ba, .inl (yI, 72, .inl g))] H := hP
  have hD : va_D _ [(o, .inr (0, [.int (zI P), .int (zI S), .int (zI K), .int (zI N), .int (zI t), .int (zI x), .int (zI b), .int (zI w), .int (zI ch), .ref oa, .ref ba])), (oa, .inl (yZ, 72, .inl (aw_f ob))), (ba, .inl (yI, 72, .inl g))] := hD
  refine lv_aload_n hx hb dX0_layWinding_15 rfl (lv_at hl 0 rfl) ?_
  refine lv_iload hx hb dX0_layWinding_16 (lv_at hl 4 rfl) ?_
  refine va_put (D := D) (ci := 0) (v := .int (zI y)) (ty := .int) (C := RX0) (T := TX0) (N := 11) hx hb hts hin tyX0 tyX0_ok nmX0 hown hK hP hD hS 0 rfl rfl 7 (by decide) hf_37 (fun _ h9 => h9) rfl (by decide +kernel) rfl rfl (Nat.le_of_ble_eq_true rfl) dX0_layWinding_18 (fun H locs hP hD hS => ?_)
  have hP : va_P D vwCl [(o, .inr (0, [.int (zI P), .int (zI S), .int (zI K), .int (zI N), .int (zI t), .int (zI x), .int (zI b), .int (zI y), .int (zI ch), .ref oa, .ref ba])), (oa, .inl (yZ, 72, .inl (aw_f ob))), (ba, .inl (yI, 72, .inl g))] H := hP
  have hD : va_D _ [(o, .inr (0, [.int (zI P), .int (zI S), .int (zI K), .int (zI N), .int (zI t), .int (zI x), .int (zI b), .int (zI y), .int (zI ch), .ref oa, .ref ba])), (oa, .inl (yZ, 72, .inl (aw_f ob))), (ba, .inl (yI, 72, .inl g))] := hD
  exact aw_vretM () hx hb hr hlocks dX0_layWinding_21 trivial hP hK hD hS
set_option maxHeartbeats 4000000 in
set_option maxRecDepth 100000 in
/-- placeBrushes(): the row of brushes holds something -/
theorem k_placeBrushes (hP1 : 1 ≤ P ∧ P ≤ 8) (hN1 : 0 ≤ N ∧ N ≤ 72) : aw_MU (S := Nat → Int32) l yX0_placeBrushes wsX0_placeBrushes (aw_rm 1 21) D (aw_T yZ yI) [(o, .inr (0, [.int (zI P), .int (zI S), .int (zI K), .int (zI N), .int ty, .int px, .int pr, .int (zI w), .int (zI ch), .ref oa, .ref ba])), (oa, .inl (yZ, 72, .inl (aw_f ob))), (ba, .inl (yI, 72, .inl g))] [.ref o] none (fun _ => True) (fun u => aw_W3 yZ yI o oa ba P S K N ty px pr w ch ob u) := by
  intro sz
  refine Met.ofW (cc := cX0_placeBrushes) (maxL := 3) (ret := none) (by decide) rfl ?_
  intro p e s m args below meth c s₁ B hml hv
  obtain ⟨rfl, hsz, hP, hK, hD0⟩ := hv
  have hx := B.exec
  have hb := B.bytes
  have hr := B.returns
  have hts := atoms_spec (ws := wsX0_placeBrushes) B.pre
  have hown : s.vm.findClass RX0 = some m.cls := findClass_of_methodNamed B.named
  have hlocks := B.notSynchronized
  subst hsz
  have hD := hD0.self (sz := s.heap.size)
  have hA : ∀ q : Nat, s.heap.size ≤ q → va_A [(o, .inr (0, [.int (zI P), .int (zI S), .int (zI K), .int (zI N), .int ty, .int px, .int pr, .int (zI w), .int (zI ch), .ref oa, .ref ba])), (oa, .inl (yZ, 72, .inl (aw_f ob))), (ba, .inl (yI, 72, .inl g))] s.heap.size q := fun q h => Or.inr h
  have hS : va_S (va_A [(o, .inr (0, [.int (zI P), .int (zI S), .int (zI K), .int (zI N), .int ty, .int px, .int pr, .int (zI w), .int (zI ch), .ref oa, .ref ba])), (oa, .inl (yZ, 72, .inl (aw_f ob))), (ba, .inl (yI, 72, .inl g))] s.heap.size) s.heap s.heap [] := va_S.rf
  have hin : ∀ w ∈ wsX00, w ∈ wsX0_placeBrushes := fun w h => List.mem_cons_of_mem _ (List.mem_append_right _ h)
  have hf_13 := hts (.fieldLink RX0 13 "ArmatureWinding" "brushOnBar" "[I") (by decide +kernel)
  have hf_46 := hts (.fieldLink RX0 46 "ArmatureWinding" "poles" "I") (by decide +kernel)
  have hl := lv_entry ([.ref o]) (n := 3) (Nat.le_of_ble_eq_true rfl)
  rw [lg_entry_eq]
  generalize (lg_sl ([.ref o]) ++ List.replicate (3 - (lg_sl ([.ref o])).length) Slot.unset).toArray = ls at hl ⊢
  have hl : lv_has ls 3 [(0, .ref o)] := hl
  refine zb_iconst hx hb dX0_placeBrushes_0 ?_
  refine lv_istore_n (lv' := [(1, .int (zI 0)), (0, .ref o)]) hx hb dX0_placeBrushes_1 rfl hl (by decide) rfl (fun ls hl => ?_)
  refine zb_lpm (nL := 3) (τ := Nat → Int32) (fun z g2 => 0 ≤ z ∧ z ≤ 72) (fun z => [(1, .int (zI z)), (0, .ref o)]) (fun g2 => [(o, .inr (0, [.int (zI P), .int (zI S), .int (zI K), .int (zI N), .int ty, .int px, .int pr, .int (zI w), .int (zI ch), .ref oa, .ref ba])), (oa, .inl (yZ, 72, .inl (aw_f ob))), (ba, .inl (yI, 72, .inl g2))]) (fun z => 72 - z) 0 g ⟨by omega, by omega⟩ (lv_sub hl [0, 1] rfl) hP hD hS ?_
  intro z g2 H locs ls hJ2 hl hP hD hS ih2
  have hJ2 : 0 ≤ z ∧ z ≤ 72 := hJ2
  have hl : lv_has ls 3 [(1, .int (zI z)), (0, .ref o)] := hl
  have hP : va_P D vwCl [(o, .inr (0, [.int (zI P), .int (zI S), .int (zI K), .int (zI N), .int ty, .int px, .int pr, .int (zI w), .int (zI ch), .ref oa, .ref ba])), (oa, .inl (yZ, 72, .inl (aw_f ob))), (ba, .inl (yI, 72, .inl g2))] H := hP
  have hD : va_D _ [(o, .inr (0, [.int (zI P), .int (zI S), .int (zI K), .int (zI N), .int ty, .int px, .int pr, .int (zI w), .int (zI ch), .ref oa, .ref ba])), (oa, .inl (yZ, 72, .inl (aw_f ob))), (ba, .inl (yI, 72, .inl g2))] := hD
  refine lv_iload_n hx hb dX0_placeBrushes_2 rfl (lv_at hl 0 rfl) ?_
  refine lv_aload_n hx hb dX0_placeBrushes_3 rfl (lv_at hl 1 rfl) ?_
  refine va_get (D := D) (ci := 0) (v := .ref ba) (C := RX0) (T := TX0) (N := 11) hx hb hts hin hown hK hP 0 rfl rfl 10 (by decide) hf_13 (fun _ h9 => h9) rfl dX0_placeBrushes_4 ?_
  refine va_alen hx hb hK hP 2 1 rfl rfl (v := zI 72) (show Int32.ofNat 72 = zI 72 from by decide) dX0_placeBrushes_7 ?_
  refine zb_cge (tgt := 26) hx hb dX0_placeBrushes_8 (by decide) (by omega) (by omega) (fun c8 => ?_) (fun c8 => ?_)
  · skip
    refine lv_aload_n hx hb dX0_placeBrushes_26 rfl (lv_at hl 1 rfl) ?_
    refine va_get (D := D) (ci := 0) (v := .int (zI P)) (C := RX0) (T := TX0) (N := 11) hx hb hts hin hown hK hP 0 rfl rfl 0 (by decide) hf_46 (fun _ h9 => h9) rfl dX0_placeBrushes_27 ?_
    refine zb_iconst hx hb dX0_placeBrushes_30 ?_
    refine zb_sub hx hb dX0_placeBrushes_31 ?_
    refine lv_istore_n (lv' := [(1, .int (zI (P - 1))), (0, .ref o)]) hx hb dX0_placeBrushes_32 rfl hl (by decide) rfl (fun ls hl => ?_)
    refine zb_lpm (nL := 3) (τ := Nat → Int32) (fun q g3 => -1 ≤ q ∧ q < P) (fun q => [(1, .int (zI q)), (0, .ref o)]) (fun g3 => [(o, .inr (0, [.int (zI P), .int (zI S), .int (zI K), .int (zI N), .int ty, .int px, .int pr, .int (zI w), .int (zI ch), .ref oa, .ref ba])), (oa, .inl (yZ, 72, .inl (aw_f ob))), (ba, .inl (yI, 72, .inl g3))]) (fun q => q + 1) (P - 1) g2 ⟨by omega, by omega⟩ (lv_sub hl [0, 1] rfl) hP hD hS ?_
    intro q g3 H locs ls hJ33 hl hP hD hS ih33
    have hJ33 : -1 ≤ q ∧ q < P := hJ33
    have hl : lv_has ls 3 [(1, .int (zI q)), (0, .ref o)] := hl
    have hP : va_P D vwCl [(o, .inr (0, [.int (zI P), .int (zI S), .int (zI K), .int (zI N), .int ty, .int px, .int pr, .int (zI w), .int (zI ch), .ref oa, .ref ba])), (oa, .inl (yZ, 72, .inl (aw_f ob))), (ba, .inl (yI, 72, .inl g3))] H := hP
    have hD : va_D _ [(o, .inr (0, [.int (zI P), .int (zI S), .int (zI K), .int (zI N), .int ty, .int px, .int pr, .int (zI w), .int (zI ch), .ref oa, .ref ba])), (oa, .inl (yZ, 72, .inl (aw_f ob))), (ba, .inl (yI, 72, .inl g3))] := hD
    refine lv_iload_n hx hb dX0_placeBrushes_33 rfl (lv_at hl 0 rfl) ?_
    refine zb_ilt (tgt := 69) hx hb dX0_placeBrushes_34 (by decide) (by omega) (fun c34 => ?_) (fun c34 => ?_)
    · skip
      exact aw_vretM g3 hx hb hr hlocks dX0_placeBrushes_69 trivial hP hK hD hS
    · skip
      have hm := aw_mul (x := q) (y := N) (a := 8) (b := 72) (by omega) (by omega) (by omega) (by omega)
      have hm0 : 0 ≤ q * N := Int.mul_nonneg (by omega) (by omega)
      have hd := aw_div (x := q * N) (n := P) hm0 (by omega)
      refine lv_aload_n hx hb dX0_placeBrushes_37 rfl (lv_at hl 1 rfl) ?_
      refine lv_iload_n hx hb dX0_placeBrushes_38 rfl (lv_at hl 0 rfl) ?_
      refine aw_callV (As := [.int (zI q)]) (rest := []) ⟨hx, hb, hml, hown, hts⟩ (k_brushBar (q := q) hP1 hN1 ⟨by omega, by omega⟩) (cwV 1 hts gX0_placeBrushes_X0_brushBar rfl rfl rfl (by decide +kernel) ⟨Nat.le_of_ble_eq_true rfl, Nat.le_of_ble_eq_true rfl⟩) hP hK rfl rfl rfl hl.1 rfl (Nat.le_of_ble_eq_true rfl) dX0_placeBrushes_39 ⟨Nat.zero_le _, Nat.zero_le _⟩ ?_
      refine lv_istore_n (lv' := [(2, .int (zI (q * N / P))), (1, .int (zI q)), (0, .ref o)]) hx hb dX0_placeBrushes_42 rfl hl (by decide) rfl (fun ls hl => ?_)
      refine lv_iload_n hx hb dX0_placeBrushes_43 rfl (lv_at hl 0 rfl) ?_
      refine zb_ilt (tgt := 63) hx hb dX0_placeBrushes_44 (by decide) (by omega) (fun c44 => ?_) (fun c44 => ?_)
      · skip
        refine zb_iinc (lv' := [(1, .int (zI (q + (-1)))), (2, .int (zI (q * N / P))), (0, .ref o)]) hx hb dX0_placeBrushes_63 hl (k := 1) rfl (by decide) rfl (fun ls hl => ?_)
        refine lv_goto (tgt := 33) hx hb dX0_placeBrushes_66 (by decide) ?_
        exact ih33 (q + (-1)) g3 H locs ls ⟨by omega, by omega⟩ (by omega) (lv_sub hl [0, 2] rfl) hP hD hS
      · skip
        refine lv_iload_n hx hb dX0_placeBrushes_47 rfl (lv_at hl 0 rfl) ?_
        refine lv_aload_n hx hb dX0_placeBrushes_48 rfl (lv_at hl 2 rfl) ?_
        refine va_get (D := D) (ci := 0) (v := .ref ba) (C := RX0) (T := TX0) (N := 11) hx hb hts hin hown hK hP 0 rfl rfl 10 (by decide) hf_13 (fun _ h9 => h9) rfl dX0_placeBrushes_49 ?_
        refine va_alen hx hb hK hP 2 1 rfl rfl (v := zI 72) (show Int32.ofNat 72 = zI 72 from by decide) dX0_placeBrushes_52 ?_
        refine zb_cge (tgt := 63) hx hb dX0_placeBrushes_53 (by decide) (by omega) (by omega) (fun c53 => ?_) (fun c53 => ?_)
        · skip
          refine zb_iinc (lv' := [(1, .int (zI (q + (-1)))), (2, .int (zI (q * N / P))), (0, .ref o)]) hx hb dX0_placeBrushes_63 hl (k := 1) rfl (by decide) rfl (fun ls hl => ?_)
          refine lv_goto (tgt := 33) hx hb dX0_placeBrushes_66 (by decide) ?_
          exact ih33 (q + (-1)) g3 H locs ls ⟨by omega, by omega⟩ (by omega) (lv_sub hl [0, 2] rfl) hP hD hS
        · skip
          refine lv_aload_n hx hb dX0_placeBrushes_56 rfl (lv_at hl 2 rfl) ?_
          refine va_get (D := D) (ci := 0) (v := .ref ba) (C := RX0) (T := TX0) (N := 11) hx hb hts hin hown hK hP 0 rfl rfl 10 (by decide) hf_13 (fun _ h9 => h9) rfl dX0_placeBrushes_57 ?_
          refine lv_iload_n hx hb dX0_placeBrushes_60 rfl (lv_at hl 0 rfl) ?_
          refine lv_iload_n hx hb dX0_placeBrushes_61 rfl (lv_at hl 1 rfl) ?_
          refine va_iast hx hb hK hP hD hS 2 1 rfl rfl (zI_in (by omega) (by omega) (by omega)) dX0_placeBrushes_62 (fun H locs hP hD hS => ?_)
          have hP : va_P D vwCl [(o, .inr (0, [.int (zI P), .int (zI S), .int (zI K), .int (zI N), .int ty, .int px, .int pr, .int (zI w), .int (zI ch), .ref oa, .ref ba])), (oa, .inl (yZ, 72, .inl (aw_f ob))), (ba, .inl (yI, 72, .inl (upd g3 (zI (q * N / P)).toNatClampNeg (zI q))))] H := hP
          have hD : va_D _ [(o, .inr (0, [.int (zI P), .int (zI S), .int (zI K), .int (zI N), .int ty, .int px, .int pr, .int (zI w), .int (zI ch), .ref oa, .ref ba])), (oa, .inl (yZ, 72, .inl (aw_f ob))), (ba, .inl (yI, 72, .inl (upd g3 (zI (q * N / P)).toNatClampNeg (zI q))))] := hD
          refine zb_iinc (lv' := [(1, .int (zI (q + (-1)))), (2, .int (zI (q * N / P))), (0, .ref o)]) hx hb dX0_placeBrushes_63 hl (k := 1) rfl (by decide) rfl (fun ls hl => ?_)
          refine lv_goto (tgt := 33) hx hb dX0_placeBrushes_66 (by decide) ?_
          exact ih33 (q + (-1)) (upd g3 (zI (q * N / P)).toNatClampNeg (zI q)) H locs ls ⟨by omega, by omega⟩ (by omega) (lv_sub hl [0, 2] rfl) hP hD hS
  · skip
    refine lv_aload_n hx hb dX0_placeBrushes_11 rfl (lv_at hl 1 rfl) ?_
    refine va_get (D := D) (ci := 0) (v := .ref ba) (C := RX0) (T := TX0) (N := 11) hx hb hts hin hown hK hP 0 rfl rfl 10 (by decide) hf_13 (fun _ h9 => h9) rfl dX0_placeBrushes_12 ?_
    refine lv_iload_n hx hb dX0_placeBrushes_15 rfl (lv_at hl 0 rfl) ?_
    refine zb_sipush hx hb dX0_placeBrushes_16 (by decide) ?_
    refine va_iast hx hb hK hP hD hS 2 1 rfl rfl (zI_in (by omega) (by omega) (by omega)) dX0_placeBrushes_19 (fun H locs hP hD hS => ?_)
    have hP : va_P D vwCl [(o, .inr (0, [.int (zI P), .int (zI S), .int (zI K), .int (zI N), .int ty, .int px, .int pr, .int (zI w), .int (zI ch), .ref oa, .ref ba])), (oa, .inl (yZ, 72, .inl (aw_f ob))), (ba, .inl (yI, 72, .inl (upd g2 (zI z).toNatClampNeg (zI ((-1004))))))] H := hP
    have hD : va_D _ [(o, .inr (0, [.int (zI P), .int (zI S), .int (zI K), .int (zI N), .int ty, .int px, .int pr, .int (zI w), .int (zI ch), .ref oa, .ref ba])), (oa, .inl (yZ, 72, .inl (aw_f ob))), (ba, .inl (yI, 72, .inl (upd g2 (zI z).toNatClampNeg (zI ((-1004))))))] := hD
    refine zb_iinc (lv' := [(1, .int (zI (z + 1))), (0, .ref o)]) hx hb dX0_placeBrushes_20 hl (k := 0) rfl (by decide) rfl (fun ls hl => ?_)
    refine lv_goto (tgt := 2) hx hb dX0_placeBrushes_23 (by decide) ?_
    exact ih2 (z + 1) (upd g2 (zI z).toNatClampNeg (zI ((-1004)))) H locs ls ⟨by omega, by omega⟩ (by omega) (lv_sub hl [0, 1] rfl) hP hD hS
set_option maxHeartbeats 4000000 in
set_option maxRecDepth 100000 in
/-- layArmature(a, b, k) -/
theorem k_layArmature {a b k : Int} (ha : 1 ≤ a ∧ a ≤ 8) (hbk : 0 ≤ b * k ∧ b * k ≤ 72) : aw_MU (S := (Int → Bool) × (Nat → Int32)) l yX0_layArmature wsX0_layArmature (aw_rm 2 43) D (aw_T yZ yI) [(o, .inr (0, [.int (zI P), .int (zI S), .int (zI K), .int (zI N), .int ty, .int px, .int pr, .int (zI w), .int (zI ch), .ref oa, .ref ba])), (oa, .inl (yZ, 72, .inl (aw_f ob))), (ba, .inl (yI, 72, .inl g))] [.ref o, .int (zI a), .int (zI b), .int (zI k)] none (fun u => ∀ z : Int, 0 ≤ z → z < 72 → u.1 z = false) (fun u => aw_W3 yZ yI o oa ba a b k (b * k) (zI 0) (zI 1) (zI 1) 1 0 (u.1) (u.2)) := by
  intro sz
  refine Met.ofW (cc := cX0_layArmature) (maxL := 5) (ret := none) (by decide) rfl ?_
  intro p e s m args below meth c s₁ B hml hv
  obtain ⟨rfl, hsz, hP, hK, hD0⟩ := hv
  have hx := B.exec
  have hb := B.bytes
  have hr := B.returns
  have hts := atoms_spec (ws := wsX0_layArmature) B.pre
  have hown : s.vm.findClass RX0 = some m.cls := findClass_of_methodNamed B.named
  have hlocks := B.notSynchronized
  subst hsz
  have hD := hD0.self (sz := s.heap.size)
  have hA : ∀ q : Nat, s.heap.size ≤ q → va_A [(o, .inr (0, [.int (zI P), .int (zI S), .int (zI K), .int (zI N), .int ty, .int px, .int pr, .int (zI w), .int (zI ch), .ref oa, .ref ba])), (oa, .inl (yZ, 72, .inl (aw_f ob))), (ba, .inl (yI, 72, .inl g))] s.heap.size q := fun q h => Or.inr h
  have hS : va_S (va_A [(o, .inr (0, [.int (zI P), .int (zI S), .int (zI K), .int (zI N), .int ty, .int px, .int pr, .int (zI w), .int (zI ch), .ref oa, .ref ba])), (oa, .inl (yZ, 72, .inl (aw_f ob))), (ba, .inl (yI, 72, .inl g))] s.heap.size) s.heap s.heap [] := va_S.rf
  have hin : ∀ w ∈ wsX00, w ∈ wsX0_layArmature := fun w h => List.mem_cons_of_mem _ (List.mem_append_right _ h)
  have hf_9 := hts (.fieldLink RX0 9 "ArmatureWinding" "open" "[Z") (by decide +kernel)
  have hf_21 := hts (.fieldLink RX0 21 "ArmatureWinding" "coils" "I") (by decide +kernel)
  have hf_40 := hts (.fieldLink RX0 40 "ArmatureWinding" "chording" "I") (by decide +kernel)
  have hf_46 := hts (.fieldLink RX0 46 "ArmatureWinding" "poles" "I") (by decide +kernel)
  have hf_49 := hts (.fieldLink RX0 49 "ArmatureWinding" "slots" "I") (by decide +kernel)
  have hf_52 := hts (.fieldLink RX0 52 "ArmatureWinding" "coilsPerSlot" "I") (by decide +kernel)
  have hl := lv_entry ([.ref o, .int (zI a), .int (zI b), .int (zI k)]) (n := 5) (Nat.le_of_ble_eq_true rfl)
  rw [lg_entry_eq]
  generalize (lg_sl ([.ref o, .int (zI a), .int (zI b), .int (zI k)]) ++ List.replicate (5 - (lg_sl ([.ref o, .int (zI a), .int (zI b), .int (zI k)])).length) Slot.unset).toArray = ls at hl ⊢
  have hl : lv_has ls 5 [(0, .ref o), (1, .int (zI a)), (2, .int (zI b)), (3, .int (zI k))] := hl
  refine lv_aload_n hx hb dX0_layArmature_0 rfl (lv_at hl 0 rfl) ?_
  refine lv_iload_n hx hb dX0_layArmature_1 rfl (lv_at hl 1 rfl) ?_
  refine va_put (D := D) (ci := 0) (v := .int (zI a)) (ty := .int) (C := RX0) (T := TX0) (N := 11) hx hb hts hin tyX0 tyX0_ok nmX0 hown hK hP hD hS 0 rfl rfl 0 (by decide) hf_46 (fun _ h9 => h9) rfl (by decide +kernel) rfl rfl (Nat.le_of_ble_eq_true rfl) dX0_layArmature_2 (fun H locs hP hD hS => ?_)
  have hP : va_P D vwCl [(o, .inr (0, [.int (zI a), .int (zI S), .int (zI K), .int (zI N), .int ty, .int px, .int pr, .int (zI w), .int (zI ch), .ref oa, .ref ba])), (oa, .inl (yZ, 72, .inl (aw_f ob))), (ba, .inl (yI, 72, .inl g))] H := hP
  have hD : va_D _ [(o, .inr (0, [.int (zI a), .int (zI S), .int (zI K), .int (zI N), .int ty, .int px, .int pr, .int (zI w), .int (zI ch), .ref oa, .ref ba])), (oa, .inl (yZ, 72, .inl (aw_f ob))), (ba, .inl (yI, 72, .inl g))] := hD
  refine lv_aload_n hx hb dX0_layArmature_5 rfl (lv_at hl 0 rfl) ?_
  refine lv_iload_n hx hb dX0_layArmature_6 rfl (lv_at hl 2 rfl) ?_
  refine va_put (D := D) (ci := 0) (v := .int (zI b)) (ty := .int) (C := RX0) (T := TX0) (N := 11) hx hb hts hin tyX0 tyX0_ok nmX0 hown hK hP hD hS 0 rfl rfl 1 (by decide) hf_49 (fun _ h9 => h9) rfl (by decide +kernel) rfl rfl (Nat.le_of_ble_eq_true rfl) dX0_layArmature_7 (fun H locs hP hD hS => ?_)
  have hP : va_P D vwCl [(o, .inr (0, [.int (zI a), .int (zI b), .int (zI K), .int (zI N), .int ty, .int px, .int pr, .int (zI w), .int (zI ch), .ref oa, .ref ba])), (oa, .inl (yZ, 72, .inl (aw_f ob))), (ba, .inl (yI, 72, .inl g))] H := hP
  have hD : va_D _ [(o, .inr (0, [.int (zI a), .int (zI b), .int (zI K), .int (zI N), .int ty, .int px, .int pr, .int (zI w), .int (zI ch), .ref oa, .ref ba])), (oa, .inl (yZ, 72, .inl (aw_f ob))), (ba, .inl (yI, 72, .inl g))] := hD
  refine lv_aload_n hx hb dX0_layArmature_10 rfl (lv_at hl 0 rfl) ?_
  refine lv_iload_n hx hb dX0_layArmature_11 rfl (lv_at hl 3 rfl) ?_
  refine va_put (D := D) (ci := 0) (v := .int (zI k)) (ty := .int) (C := RX0) (T := TX0) (N := 11) hx hb hts hin tyX0 tyX0_ok nmX0 hown hK hP hD hS 0 rfl rfl 2 (by decide) hf_52 (fun _ h9 => h9) rfl (by decide +kernel) rfl rfl (Nat.le_of_ble_eq_true rfl) dX0_layArmature_12 (fun H locs hP hD hS => ?_)
  have hP : va_P D vwCl [(o, .inr (0, [.int (zI a), .int (zI b), .int (zI k), .int (zI N), .int ty, .int px, .int pr, .int (zI w), .int (zI ch), .ref oa, .ref ba])), (oa, .inl (yZ, 72, .inl (aw_f ob))), (ba, .inl (yI, 72, .inl g))] H := hP
  have hD : va_D _ [(o, .inr (0, [.int (zI a), .int (zI b), .int (zI k), .int (zI N), .int ty, .int px, .int pr, .int (zI w), .int (zI ch), .ref oa, .ref ba])), (oa, .inl (yZ, 72, .inl (aw_f ob))), (ba, .inl (yI, 72, .inl g))] := hD
  refine lv_aload_n hx hb dX0_layArmature_15 rfl (lv_at hl 0 rfl) ?_
  refine lv_iload_n hx hb dX0_layArmature_16 rfl (lv_at hl 2 rfl) ?_
  refine lv_iload_n hx hb dX0_layArmature_17 rfl (lv_at hl 3 rfl) ?_
  refine zb_mul hx hb dX0_layArmature_18 ?_
  refine va_put (D := D) (ci := 0) (v := .int (zI (b * k))) (ty := .int) (C := RX0) (T := TX0) (N := 11) hx hb hts hin tyX0 tyX0_ok nmX0 hown hK hP hD hS 0 rfl rfl 3 (by decide) hf_21 (fun _ h9 => h9) rfl (by decide +kernel) rfl rfl (Nat.le_of_ble_eq_true rfl) dX0_layArmature_19 (fun H locs hP hD hS => ?_)
  have hP : va_P D vwCl [(o, .inr (0, [.int (zI a), .int (zI b), .int (zI k), .int (zI (b * k)), .int ty, .int px, .int pr, .int (zI w), .int (zI ch), .ref oa, .ref ba])), (oa, .inl (yZ, 72, .inl (aw_f ob))), (ba, .inl (yI, 72, .inl g))] H := hP
  have hD : va_D _ [(o, .inr (0, [.int (zI a), .int (zI b), .int (zI k), .int (zI (b * k)), .int ty, .int px, .int pr, .int (zI w), .int (zI ch), .ref oa, .ref ba])), (oa, .inl (yZ, 72, .inl (aw_f ob))), (ba, .inl (yI, 72, .inl g))] := hD
  refine lv_aload_n hx hb dX0_layArmature_22 rfl (lv_at hl 0 rfl) ?_
  refine zb_iconst hx hb dX0_layArmature_23 ?_
  refine va_put (D := D) (ci := 0) (v := .int (zI 0)) (ty := .int) (C := RX0) (T := TX0) (N := 11) hx hb hts hin tyX0 tyX0_ok nmX0 hown hK hP hD hS 0 rfl rfl 8 (by decide) hf_40 (fun _ h9 => h9) rfl (by decide +kernel) rfl rfl (Nat.le_of_ble_eq_true rfl) dX0_layArmature_24 (fun H locs hP hD hS => ?_)
  have hP : va_P D vwCl [(o, .inr (0, [.int (zI a), .int (zI b), .int (zI k), .int (zI (b * k)), .int ty, .int px, .int pr, .int (zI w), .int (zI 0), .ref oa, .ref ba])), (oa, .inl (yZ, 72, .inl (aw_f ob))), (ba, .inl (yI, 72, .inl g))] H := hP
  have hD : va_D _ [(o, .inr (0, [.int (zI a), .int (zI b), .int (zI k), .int (zI (b * k)), .int ty, .int px, .int pr, .int (zI w), .int (zI 0), .ref oa, .ref ba])), (oa, .inl (yZ, 72, .inl (aw_f ob))), (ba, .inl (yI, 72, .inl g))] := hD
  refine zb_iconst hx hb dX0_layArmature_27 ?_
  refine lv_istore (lv' := [(4, .int (zI 0)), (0, .ref o), (1, .int (zI a)), (2, .int (zI b)), (3, .int (zI k))]) hx hb dX0_layArmature_28 hl (by decide) rfl (fun ls hl => ?_)
  refine zb_lpm (nL := 5) (τ := Int → Bool) (fun z ob2 => 0 ≤ z ∧ z ≤ 72 ∧ ∀ j : Int, 0 ≤ j → j < z → ob2 j = false) (fun z => [(4, .int (zI z)), (3, .int (zI k)), (2, .int (zI b)), (1, .int (zI a)), (0, .ref o)]) (fun ob2 => [(o, .inr (0, [.int (zI a), .int (zI b), .int (zI k), .int (zI (b * k)), .int ty, .int px, .int pr, .int (zI w), .int (zI 0), .ref oa, .ref ba])), (oa, .inl (yZ, 72, .inl (aw_f ob2))), (ba, .inl (yI, 72, .inl g))]) (fun z => 72 - z) 0 ob ⟨by omega, by omega, fun j _ _ => by omega⟩ (lv_sub hl [0, 4, 3, 2, 1] rfl) hP hD hS ?_
  intro z ob2 H locs ls hJ30 hl hP hD hS ih30
  have hJ30 : 0 ≤ z ∧ z ≤ 72 ∧ ∀ j : Int, 0 ≤ j → j < z → ob2 j = false := hJ30
  have hl : lv_has ls 5 [(4, .int (zI z)), (3, .int (zI k)), (2, .int (zI b)), (1, .int (zI a)), (0, .ref o)] := hl
  have hP : va_P D vwCl [(o, .inr (0, [.int (zI a), .int (zI b), .int (zI k), .int (zI (b * k)), .int ty, .int px, .int pr, .int (zI w), .int (zI 0), .ref oa, .ref ba])), (oa, .inl (yZ, 72, .inl (aw_f ob2))), (ba, .inl (yI, 72, .inl g))] H := hP
  have hD : va_D _ [(o, .inr (0, [.int (zI a), .int (zI b), .int (zI k), .int (zI (b * k)), .int ty, .int px, .int pr, .int (zI w), .int (zI 0), .ref oa, .ref ba])), (oa, .inl (yZ, 72, .inl (aw_f ob2))), (ba, .inl (yI, 72, .inl g))] := hD
  refine lv_iload hx hb dX0_layArmature_30 (lv_at hl 0 rfl) ?_
  refine lv_aload_n hx hb dX0_layArmature_32 rfl (lv_at hl 4 rfl) ?_
  refine va_get (D := D) (ci := 0) (v := .ref oa) (C := RX0) (T := TX0) (N := 11) hx hb hts hin hown hK hP 0 rfl rfl 9 (by decide) hf_9 (fun _ h9 => h9) rfl dX0_layArmature_33 ?_
  refine va_alen hx hb hK hP 1 0 rfl rfl (v := zI 72) (show Int32.ofNat 72 = zI 72 from by decide) dX0_layArmature_36 ?_
  refine zb_cge (tgt := 54) hx hb dX0_layArmature_37 (by decide) (by omega) (by omega) (fun c37 => ?_) (fun c37 => ?_)
  · skip
    have hob : ∀ z : Int, 0 ≤ z → z < 72 → ob2 z = false := fun j j0 j1 => hJ30.2.2 j j0 (by omega)
    refine lv_aload_n hx hb dX0_layArmature_54 rfl (lv_at hl 4 rfl) ?_
    refine aw_callMV (As := []) (rest := []) (wc := [(o, .inr (0, [.int (zI a), .int (zI b), .int (zI k), .int (zI (b * k)), .int ty, .int px, .int pr, .int (zI w), .int (zI 0), .ref oa, .ref ba])), (oa, .inl (yZ, 72, .inl (aw_f ob2))), (ba, .inl (yI, 72, .inl g))]) (wr := []) (ws2 := fun u => [(o, .inr (0, [.int (zI a), .int (zI b), .int (zI k), .int (zI (b * k)), .int ty, .int px, .int pr, .int (zI w), .int (zI 0), .ref oa, .ref ba])), (oa, .inl (yZ, 72, .inl (aw_f ob2))), (ba, .inl (yI, 72, .inl u))]) ⟨hx, hb, hml, hown, hts⟩ (k_placeBrushes ha hbk) (cwV 0 hts gX0_layArmature_X0_placeBrushes rfl rfl rfl (by decide +kernel) ⟨Nat.le_of_ble_eq_true rfl, Nat.le_of_ble_eq_true rfl⟩) hP hD hK hS hA rfl rfl [0, 1, 2] [] rfl rfl (by decide) (by decide) (by decide) [0, 1, 2] (by decide) (fun _ => rfl) rfl hl.1 rfl (Nat.le_of_ble_eq_true rfl) dX0_layArmature_55 ⟨Nat.zero_le _, Nat.zero_le _⟩ (fun u H locs hu hP hD hS => ?_)
    obtain ⟨g2, hg2⟩ : ∃ x, x = u := ⟨_, rfl⟩
    rw [← hg2] at hP hD
    have hP : va_P D vwCl [(o, .inr (0, [.int (zI a), .int (zI b), .int (zI k), .int (zI (b * k)), .int ty, .int px, .int pr, .int (zI w), .int (zI 0), .ref oa, .ref ba])), (oa, .inl (yZ, 72, .inl (aw_f ob2))), (ba, .inl (yI, 72, .inl g2))] H := hP
    have hD : va_D _ [(o, .inr (0, [.int (zI a), .int (zI b), .int (zI k), .int (zI (b * k)), .int ty, .int px, .int pr, .int (zI w), .int (zI 0), .ref oa, .ref ba])), (oa, .inl (yZ, 72, .inl (aw_f ob2))), (ba, .inl (yI, 72, .inl g2))] := hD
    refine W.eq (g2 := F0 m 58 ls []) rfl ?_
    refine lv_aload_n hx hb dX0_layArmature_58 rfl (lv_at hl 4 rfl) ?_
    refine zb_iconst hx hb dX0_layArmature_59 ?_
    refine zb_iconst hx hb dX0_layArmature_60 ?_
    refine zb_iconst hx hb dX0_layArmature_61 ?_
    refine zb_iconst hx hb dX0_layArmature_62 ?_
    refine aw_callMV (As := [.int (zI 0), .int (zI 1), .int (zI 1), .int (zI 1)]) (rest := []) (wc := [(o, .inr (0, [.int (zI a), .int (zI b), .int (zI k), .int (zI (b * k)), .int ty, .int px, .int pr, .int (zI w), .int (zI 0), .ref oa, .ref ba])), (oa, .inl (yZ, 72, .inl (aw_f ob2))), (ba, .inl (yI, 72, .inl g2))]) (wr := []) (ws2 := fun u => [(o, .inr (0, [.int (zI a), .int (zI b), .int (zI k), .int (zI (b * k)), .int (zI 0), .int (zI 1), .int (zI 1), .int (zI 1), .int (zI 0), .ref oa, .ref ba])), (oa, .inl (yZ, 72, .inl (aw_f ob2))), (ba, .inl (yI, 72, .inl g2))]) ⟨hx, hb, hml, hown, hts⟩ (k_layWinding (t := 0) (x := 1) (b := 1) (y := 1) (Or.inr rfl)) (cwV 4 hts gX0_layArmature_X0_layWinding rfl rfl rfl (by decide +kernel) ⟨Nat.le_of_ble_eq_true rfl, Nat.le_of_ble_eq_true rfl⟩) hP hD hK hS hA rfl rfl [0, 1, 2] [] rfl rfl (by decide) (by decide) (by decide) [0, 1, 2] (by decide) (fun _ => rfl) rfl hl.1 rfl (Nat.le_of_ble_eq_true rfl) dX0_layArmature_63 ⟨Nat.zero_le _, Nat.zero_le _⟩ (fun u H locs hu hP hD hS => ?_)
    have hP : va_P D vwCl [(o, .inr (0, [.int (zI a), .int (zI b), .int (zI k), .int (zI (b * k)), .int (zI 0), .int (zI 1), .int (zI 1), .int (zI 1), .int (zI 0), .ref oa, .ref ba])), (oa, .inl (yZ, 72, .inl (aw_f ob2))), (ba, .inl (yI, 72, .inl g2))] H := hP
    have hD : va_D _ [(o, .inr (0, [.int (zI a), .int (zI b), .int (zI k), .int (zI (b * k)), .int (zI 0), .int (zI 1), .int (zI 1), .int (zI 1), .int (zI 0), .ref oa, .ref ba])), (oa, .inl (yZ, 72, .inl (aw_f ob2))), (ba, .inl (yI, 72, .inl g2))] := hD
    refine W.eq (g2 := F0 m 66 ls []) rfl ?_
    exact aw_vretM (ob2, g2) hx hb hr hlocks dX0_layArmature_66 hob hP hK hD hS
  · skip
    refine lv_aload_n hx hb dX0_layArmature_40 rfl (lv_at hl 4 rfl) ?_
    refine va_get (D := D) (ci := 0) (v := .ref oa) (C := RX0) (T := TX0) (N := 11) hx hb hts hin hown hK hP 0 rfl rfl 9 (by decide) hf_9 (fun _ h9 => h9) rfl dX0_layArmature_41 ?_
    refine lv_iload hx hb dX0_layArmature_44 (lv_at hl 0 rfl) ?_
    refine zb_iconst hx hb dX0_layArmature_46 ?_
    refine zb_as (aw_b false) rfl ?_
    refine aw_zst hx hb hK hP hD hS 1 0 rfl rfl false (by omega) (by omega) dX0_layArmature_47 (fun H locs hP hD hS => ?_)
    have hP : va_P D vwCl [(o, .inr (0, [.int (zI a), .int (zI b), .int (zI k), .int (zI (b * k)), .int ty, .int px, .int pr, .int (zI w), .int (zI 0), .ref oa, .ref ba])), (oa, .inl (yZ, 72, .inl (aw_f (aw_up ob2 z false)))), (ba, .inl (yI, 72, .inl g))] H := hP
    have hD : va_D _ [(o, .inr (0, [.int (zI a), .int (zI b), .int (zI k), .int (zI (b * k)), .int ty, .int px, .int pr, .int (zI w), .int (zI 0), .ref oa, .ref ba])), (oa, .inl (yZ, 72, .inl (aw_f (aw_up ob2 z false)))), (ba, .inl (yI, 72, .inl g))] := hD
    refine zb_iinc (lv' := [(4, .int (zI (z + 1))), (3, .int (zI k)), (2, .int (zI b)), (1, .int (zI a)), (0, .ref o)]) hx hb dX0_layArmature_48 hl (k := 0) rfl (by decide) rfl (fun ls hl => ?_)
    refine lv_goto (tgt := 30) hx hb dX0_layArmature_51 (by decide) ?_
    exact ih30 (z + 1) (aw_up ob2 z false) H locs ls ⟨by omega, by omega, fun j j0 j1 => by unfold aw_up; by_cases hj : j = z; rw [if_pos hj]; rw [if_neg hj]; exact hJ30.2.2 j j0 (by omega)⟩ (by omega) (lv_sub hl [0, 1, 2, 3, 4] rfl) hP hD hS
set_option maxHeartbeats 4000000 in
set_option maxRecDepth 100000 in
/-- setArmature(a, b, k), accepted -/
theorem k_setArmature {a b k : Int} (h1 : 2 ≤ a ∧ a ≤ 8) (h2 : a % 2 = 0) (h3 : a ≤ b ∧ b ≤ 24) (h4 : 1 ≤ k ∧ k ≤ 3) : aw_MU (S := (Int → Bool) × (Nat → Int32)) l yX0_setArmature wsX0_setArmature (aw_rm 3 67) D (aw_T yZ yI) [(o, .inr (0, [.int (zI P), .int (zI S), .int (zI K), .int (zI N), .int ty, .int px, .int pr, .int (zI w), .int (zI ch), .ref oa, .ref ba])), (oa, .inl (yZ, 72, .inl (aw_f ob))), (ba, .inl (yI, 72, .inl g))] [.ref o, .int (zI a), .int (zI b), .int (zI k)] (some (b * k)) (fun u => ∀ z : Int, 0 ≤ z → z < 72 → u.1 z = false) (fun u => aw_W3 yZ yI o oa ba a b k (b * k) (zI 0) (zI 1) (zI 1) 1 0 (u.1) (u.2)) := by
  intro sz
  refine Met.ofW (cc := cX0_setArmature) (maxL := 4) (ret := (some .int)) (by decide) rfl ?_
  intro p e s m args below meth c s₁ B hml hv
  obtain ⟨rfl, hsz, hP, hK, hD0⟩ := hv
  have hx := B.exec
  have hb := B.bytes
  have hr := B.returns
  have hts := atoms_spec (ws := wsX0_setArmature) B.pre
  have hown : s.vm.findClass RX0 = some m.cls := findClass_of_methodNamed B.named
  have hlocks := B.notSynchronized
  subst hsz
  have hD := hD0.self (sz := s.heap.size)
  have hA : ∀ q : Nat, s.heap.size ≤ q → va_A [(o, .inr (0, [.int (zI P), .int (zI S), .int (zI K), .int (zI N), .int ty, .int px, .int pr, .int (zI w), .int (zI ch), .ref oa, .ref ba])), (oa, .inl (yZ, 72, .inl (aw_f ob))), (ba, .inl (yI, 72, .inl g))] s.heap.size q := fun q h => Or.inr h
  have hS : va_S (va_A [(o, .inr (0, [.int (zI P), .int (zI S), .int (zI K), .int (zI N), .int ty, .int px, .int pr, .int (zI w), .int (zI ch), .ref oa, .ref ba])), (oa, .inl (yZ, 72, .inl (aw_f ob))), (ba, .inl (yI, 72, .inl g))] s.heap.size) s.heap s.heap [] := va_S.rf
  have hin : ∀ w ∈ wsX00, w ∈ wsX0_setArmature := fun w h => List.mem_cons_of_mem _ (List.mem_append_right _ h)
  have hf_21 := hts (.fieldLink RX0 21 "ArmatureWinding" "coils" "I") (by decide +kernel)
  have hl := lv_entry ([.ref o, .int (zI a), .int (zI b), .int (zI k)]) (n := 4) (Nat.le_of_ble_eq_true rfl)
  rw [lg_entry_eq]
  generalize (lg_sl ([.ref o, .int (zI a), .int (zI b), .int (zI k)]) ++ List.replicate (4 - (lg_sl ([.ref o, .int (zI a), .int (zI b), .int (zI k)])).length) Slot.unset).toArray = ls at hl ⊢
  have hl : lv_has ls 4 [(0, .ref o), (1, .int (zI a)), (2, .int (zI b)), (3, .int (zI k))] := hl
  have hbk1 := aw_mul (x := b) (y := k) (a := 24) (b := 3) (by omega) (by omega) (by omega) (by omega)
  have hbk0 : 0 ≤ b * k := Int.mul_nonneg (by omega) (by omega)
  refine lv_iload_n hx hb dX0_setArmature_0 rfl (lv_at hl 1 rfl) ?_
  refine zb_iconst hx hb dX0_setArmature_1 ?_
  refine zb_clt (tgt := 17) hx hb dX0_setArmature_2 (by decide) (by omega) (by omega) (fun c2 => absurd c2 (by omega)) (fun c2 => ?_)
  refine lv_iload_n hx hb dX0_setArmature_5 rfl (lv_at hl 1 rfl) ?_
  refine zb_bipush hx hb dX0_setArmature_6 (by decide) ?_
  refine zb_cgt (tgt := 17) hx hb dX0_setArmature_8 (by decide) (by omega) (by omega) (fun c8 => absurd c8 (by omega)) (fun c8 => ?_)
  refine lv_iload_n hx hb dX0_setArmature_11 rfl (lv_at hl 1 rfl) ?_
  refine zb_iconst hx hb dX0_setArmature_12 ?_
  refine zb_rem hx hb dX0_setArmature_13 (by omega) (by omega) ?_
  refine zb_ieq (tgt := 21) hx hb dX0_setArmature_14 (by decide) (by omega) (fun c14 => ?_) (fun c14 => absurd c14 (by omega))
  refine lv_iload_n hx hb dX0_setArmature_21 rfl (lv_at hl 2 rfl) ?_
  refine lv_iload_n hx hb dX0_setArmature_22 rfl (lv_at hl 1 rfl) ?_
  refine zb_clt (tgt := 32) hx hb dX0_setArmature_23 (by decide) (by omega) (by omega) (fun c23 => absurd c23 (by omega)) (fun c23 => ?_)
  refine lv_iload_n hx hb dX0_setArmature_26 rfl (lv_at hl 2 rfl) ?_
  refine zb_bipush hx hb dX0_setArmature_27 (by decide) ?_
  refine zb_cle (tgt := 36) hx hb dX0_setArmature_29 (by decide) (by omega) (by omega) (fun c29 => ?_) (fun c29 => absurd c29 (by omega))
  refine lv_iload_n hx hb dX0_setArmature_36 rfl (lv_at hl 3 rfl) ?_
  refine zb_iconst hx hb dX0_setArmature_37 ?_
  refine zb_clt (tgt := 46) hx hb dX0_setArmature_38 (by decide) (by omega) (by omega) (fun c38 => absurd c38 (by omega)) (fun c38 => ?_)
  refine lv_iload_n hx hb dX0_setArmature_41 rfl (lv_at hl 3 rfl) ?_
  refine zb_iconst hx hb dX0_setArmature_42 ?_
  refine zb_cle (tgt := 50) hx hb dX0_setArmature_43 (by decide) (by omega) (by omega) (fun c43 => ?_) (fun c43 => absurd c43 (by omega))
  refine lv_aload_n hx hb dX0_setArmature_50 rfl (lv_at hl 0 rfl) ?_
  refine lv_iload_n hx hb dX0_setArmature_51 rfl (lv_at hl 1 rfl) ?_
  refine lv_iload_n hx hb dX0_setArmature_52 rfl (lv_at hl 2 rfl) ?_
  refine lv_iload_n hx hb dX0_setArmature_53 rfl (lv_at hl 3 rfl) ?_
  refine aw_callMV (As := [.int (zI a), .int (zI b), .int (zI k)]) (rest := []) (wc := [(o, .inr (0, [.int (zI P), .int (zI S), .int (zI K), .int (zI N), .int ty, .int px, .int pr, .int (zI w), .int (zI ch), .ref oa, .ref ba])), (oa, .inl (yZ, 72, .inl (aw_f ob))), (ba, .inl (yI, 72, .inl g))]) (wr := []) (ws2 := fun u => [(o, .inr (0, [.int (zI a), .int (zI b), .int (zI k), .int (zI (b * k)), .int (zI 0), .int (zI 1), .int (zI 1), .int (zI 1), .int (zI 0), .ref oa, .ref ba])), (oa, .inl (yZ, 72, .inl (aw_f (u.1)))), (ba, .inl (yI, 72, .inl (u.2)))]) ⟨hx, hb, hml, hown, hts⟩ (k_layArmature ⟨by omega, by omega⟩ ⟨by omega, by omega⟩) (cwV 3 hts gX0_setArmature_X0_layArmature rfl rfl rfl (by decide +kernel) ⟨Nat.le_of_ble_eq_true rfl, Nat.le_of_ble_eq_true rfl⟩) hP hD hK hS hA rfl rfl [0, 1, 2] [] rfl rfl (by decide) (by decide) (by decide) [0, 1, 2] (by decide) (fun _ => rfl) rfl hl.1 rfl (Nat.le_of_ble_eq_true rfl) dX0_setArmature_54 ⟨Nat.zero_le _, Nat.zero_le _⟩ (fun u H locs hu hP hD hS => ?_)
  obtain ⟨ob2, g2⟩ := u
  have hP : va_P D vwCl [(o, .inr (0, [.int (zI a), .int (zI b), .int (zI k), .int (zI (b * k)), .int (zI 0), .int (zI 1), .int (zI 1), .int (zI 1), .int (zI 0), .ref oa, .ref ba])), (oa, .inl (yZ, 72, .inl (aw_f ob2))), (ba, .inl (yI, 72, .inl g2))] H := hP
  have hD : va_D _ [(o, .inr (0, [.int (zI a), .int (zI b), .int (zI k), .int (zI (b * k)), .int (zI 0), .int (zI 1), .int (zI 1), .int (zI 1), .int (zI 0), .ref oa, .ref ba])), (oa, .inl (yZ, 72, .inl (aw_f ob2))), (ba, .inl (yI, 72, .inl g2))] := hD
  refine W.eq (g2 := F0 m 57 ls []) rfl ?_
  refine lv_aload_n hx hb dX0_setArmature_57 rfl (lv_at hl 0 rfl) ?_
  refine va_get (D := D) (ci := 0) (v := .int (zI (b * k))) (C := RX0) (T := TX0) (N := 11) hx hb hts hin hown hK hP 0 rfl rfl 3 (by decide) hf_21 (fun _ h9 => h9) rfl dX0_setArmature_58 ?_
  exact aw_iretM (ob2, g2) hx hb hr hlocks dX0_setArmature_61 rfl hu hP hK hD hS
set_option maxHeartbeats 4000000 in
set_option maxRecDepth 100000 in
/-- setWinding(t, x, b), lap -/
theorem k_setWinding_lap (hP1 : 2 ≤ P ∧ P ≤ 8) (hN1 : 0 ≤ N ∧ N ≤ 72) {t x b h : Int} (hx3 : 1 ≤ x ∧ x ≤ 3) (hb3 : b = 1 ∧ h = x ∨ b = 0 ∧ h = -x) (ht : t = 0) : aw_MU (S := Unit) l yX0_setWinding wsX0_setWinding (aw_rm 2 43) D (aw_T yZ yI) [(o, .inr (0, [.int (zI P), .int (zI S), .int (zI K), .int (zI N), .int ty, .int px, .int pr, .int (zI w), .int (zI ch), .ref oa, .ref ba])), (oa, .inl (yZ, 72, .inl (aw_f ob))), (ba, .inl (yI, 72, .inl g))] [.ref o, .int (zI t), .int (zI x), .int (zI b)] (some (h)) (fun _ => True) (fun _ => aw_W3 yZ yI o oa ba P S K N (zI t) (zI x) (zI b) h ch ob g) := by
  intro sz
  refine Met.ofW (cc := cX0_setWinding) (maxL := 5) (ret := (some .int)) (by decide) rfl ?_
  intro p e s m args below meth c s₁ B hml hv
  obtain ⟨rfl, hsz, hP, hK, hD0⟩ := hv
  have hx := B.exec
  have hb := B.bytes
  have hr := B.returns
  have hts := atoms_spec (ws := wsX0_setWinding) B.pre
  have hown : s.vm.findClass RX0 = some m.cls := findClass_of_methodNamed B.named
  have hlocks := B.notSynchronized
  subst hsz
  have hD := hD0.self (sz := s.heap.size)
  have hA : ∀ q : Nat, s.heap.size ≤ q → va_A [(o, .inr (0, [.int (zI P), .int (zI S), .int (zI K), .int (zI N), .int ty, .int px, .int pr, .int (zI w), .int (zI ch), .ref oa, .ref ba])), (oa, .inl (yZ, 72, .inl (aw_f ob))), (ba, .inl (yI, 72, .inl g))] s.heap.size q := fun q h => Or.inr h
  have hS : va_S (va_A [(o, .inr (0, [.int (zI P), .int (zI S), .int (zI K), .int (zI N), .int ty, .int px, .int pr, .int (zI w), .int (zI ch), .ref oa, .ref ba])), (oa, .inl (yZ, 72, .inl (aw_f ob))), (ba, .inl (yI, 72, .inl g))] s.heap.size) s.heap s.heap [] := va_S.rf
  have hin : ∀ w ∈ wsX00, w ∈ wsX0_setWinding := fun w h => List.mem_cons_of_mem _ (List.mem_append_right _ h)
  have hf_37 := hts (.fieldLink RX0 37 "ArmatureWinding" "pitch" "I") (by decide +kernel)
  have hl := lv_entry ([.ref o, .int (zI t), .int (zI x), .int (zI b)]) (n := 5) (Nat.le_of_ble_eq_true rfl)
  rw [lg_entry_eq]
  generalize (lg_sl ([.ref o, .int (zI t), .int (zI x), .int (zI b)]) ++ List.replicate (5 - (lg_sl ([.ref o, .int (zI t), .int (zI x), .int (zI b)])).length) Slot.unset).toArray = ls at hl ⊢
  have hl : lv_has ls 5 [(0, .ref o), (1, .int (zI t)), (2, .int (zI x)), (3, .int (zI b))] := hl
  refine lv_iload_n hx hb dX0_setWinding_0 rfl (lv_at hl 1 rfl) ?_
  refine zb_ieq (tgt := 13) hx hb dX0_setWinding_1 (by decide) (by omega) (fun c1 => ?_) (fun c1 => absurd c1 (by omega))
  refine lv_iload_n hx hb dX0_setWinding_13 rfl (lv_at hl 2 rfl) ?_
  refine zb_iconst hx hb dX0_setWinding_14 ?_
  refine zb_clt (tgt := 23) hx hb dX0_setWinding_15 (by decide) (by omega) (by omega) (fun c15 => absurd c15 (by omega)) (fun c15 => ?_)
  refine lv_iload_n hx hb dX0_setWinding_18 rfl (lv_at hl 2 rfl) ?_
  refine zb_iconst hx hb dX0_setWinding_19 ?_
  refine zb_cle (tgt := 27) hx hb dX0_setWinding_20 (by decide) (by omega) (by omega) (fun c20 => ?_) (fun c20 => absurd c20 (by omega))
  refine lv_iload_n hx hb dX0_setWinding_27 rfl (lv_at hl 3 rfl) ?_
  refine zb_join (fun j => h = j) (pcj := 37) (lj := ls) (rj := []) (fun j hj => ?_) (fun hj37 => ?_)
  rotate_left
  · skip
    refine zb_ieq (tgt := 35) hx hb dX0_setWinding_28 (by decide) (by omega) (fun c28 => ?_) (fun c28 => ?_)
    · skip
      refine lv_iload_n hx hb dX0_setWinding_35 rfl (lv_at hl 2 rfl) ?_
      refine zb_neg hx hb dX0_setWinding_36 ?_
      exact hj37 (-x) (by omega)
    · skip
      refine lv_iload_n hx hb dX0_setWinding_31 rfl (lv_at hl 2 rfl) ?_
      refine lv_goto (tgt := 37) hx hb dX0_setWinding_32 (by decide) ?_
      exact hj37 x (by omega)
  · skip
    subst hj
    refine lv_istore (lv' := [(4, .int (zI h)), (0, .ref o), (1, .int (zI t)), (2, .int (zI x)), (3, .int (zI b))]) hx hb dX0_setWinding_37 hl (by decide) rfl (fun ls hl => ?_)
    refine lv_iload_n hx hb dX0_setWinding_39 rfl (lv_at hl 2 rfl) ?_
    refine zb_iconst hx hb dX0_setWinding_40 ?_
    refine zb_cne (tgt := 57) hx hb dX0_setWinding_41 (by decide) (by omega) (by omega) (fun c41 => ?_) (fun c41 => absurd c41 (by omega))
    refine lv_aload_n hx hb dX0_setWinding_57 rfl (lv_at hl 1 rfl) ?_
    refine lv_iload_n hx hb dX0_setWinding_58 rfl (lv_at hl 2 rfl) ?_
    refine lv_iload_n hx hb dX0_setWinding_59 rfl (lv_at hl 3 rfl) ?_
    refine lv_iload_n hx hb dX0_setWinding_60 rfl (lv_at hl 4 rfl) ?_
    refine lv_iload_n hx hb dX0_setWinding_61 rfl (lv_at hl 2 rfl) ?_
    refine zb_iconst hx hb dX0_setWinding_62 ?_
    refine zb_cne (tgt := 75) hx hb dX0_setWinding_63 (by decide) (by omega) (by omega) (fun c63 => ?_) (fun c63 => absurd c63 (by omega))
    refine lv_iload hx hb dX0_setWinding_75 (lv_at hl 0 rfl) ?_
    refine aw_callMV (As := [.int (zI t), .int (zI x), .int (zI b), .int (zI h)]) (rest := []) (wc := [(o, .inr (0, [.int (zI P), .int (zI S), .int (zI K), .int (zI N), .int ty, .int px, .int pr, .int (zI w), .int (zI ch), .ref oa, .ref ba])), (oa, .inl (yZ, 72, .inl (aw_f ob))), (ba, .inl (yI, 72, .inl g))]) (wr := []) (ws2 := fun u => [(o, .inr (0, [.int (zI P), .int (zI S), .int (zI K), .int (zI N), .int (zI t), .int (zI x), .int (zI b), .int (zI h), .int (zI ch), .ref oa, .ref ba])), (oa, .inl (yZ, 72, .inl (aw_f ob))), (ba, .inl (yI, 72, .inl g))]) ⟨hx, hb, hml, hown, hts⟩ (k_layWinding (t := t) (x := x) (b := b) (y := h) (by omega)) (cwV 4 hts gX0_setWinding_X0_layWinding rfl rfl rfl (by decide +kernel) ⟨Nat.le_of_ble_eq_true rfl, Nat.le_of_ble_eq_true rfl⟩) hP hD hK hS hA rfl rfl [0, 1, 2] [] rfl rfl (by decide) (by decide) (by decide) [0, 1, 2] (by decide) (fun _ => rfl) rfl hl.1 rfl (Nat.le_of_ble_eq_true rfl) dX0_setWinding_77 ⟨Nat.zero_le _, Nat.zero_le _⟩ (fun u H locs hu hP hD hS => ?_)
    have hP : va_P D vwCl [(o, .inr (0, [.int (zI P), .int (zI S), .int (zI K), .int (zI N), .int (zI t), .int (zI x), .int (zI b), .int (zI h), .int (zI ch), .ref oa, .ref ba])), (oa, .inl (yZ, 72, .inl (aw_f ob))), (ba, .inl (yI, 72, .inl g))] H := hP
    have hD : va_D _ [(o, .inr (0, [.int (zI P), .int (zI S), .int (zI K), .int (zI N), .int (zI t), .int (zI x), .int (zI b), .int (zI h), .int (zI ch), .ref oa, .ref ba])), (oa, .inl (yZ, 72, .inl (aw_f ob))), (ba, .inl (yI, 72, .inl g))] := hD
    refine W.eq (g2 := F0 m 80 ls []) rfl ?_
    refine lv_aload_n hx hb dX0_setWinding_80 rfl (lv_at hl 1 rfl) ?_
    refine va_get (D := D) (ci := 0) (v := .int (zI h)) (C := RX0) (T := TX0) (N := 11) hx hb hts hin hown hK hP 0 rfl rfl 7 (by decide) hf_37 (fun _ h9 => h9) rfl dX0_setWinding_81 ?_
    exact aw_iretM () hx hb hr hlocks dX0_setWinding_84 rfl trivial hP hK hD hS
set_option maxHeartbeats 4000000 in
set_option maxRecDepth 100000 in
/-- setWinding(t, x, b), wave, possible -/
theorem k_setWinding_wave (hP1 : 2 ≤ P ∧ P ≤ 8) (hN1 : 0 ≤ N ∧ N ≤ 72) {t x b h : Int} (hx3 : 1 ≤ x ∧ x ≤ 3) (hb3 : b = 1 ∧ h = x ∨ b = 0 ∧ h = -x) (ht : t = 1) (hyes : (N + h).tdiv (P / 2) * (P / 2) = N + h) : aw_MU (S := Unit) l yX0_setWinding wsX0_setWinding (aw_rm 2 43) D (aw_T yZ yI) [(o, .inr (0, [.int (zI P), .int (zI S), .int (zI K), .int (zI N), .int ty, .int px, .int pr, .int (zI w), .int (zI ch), .ref oa, .ref ba])), (oa, .inl (yZ, 72, .inl (aw_f ob))), (ba, .inl (yI, 72, .inl g))] [.ref o, .int (zI t), .int (zI x), .int (zI b)] (some ((N + h).tdiv (P / 2))) (fun _ => True) (fun _ => aw_W3 yZ yI o oa ba P S K N (zI t) (zI x) (zI b) ((N + h).tdiv (P / 2)) ch ob g) := by
  intro sz
  refine Met.ofW (cc := cX0_setWinding) (maxL := 5) (ret := (some .int)) (by decide) rfl ?_
  intro p e s m args below meth c s₁ B hml hv
  obtain ⟨rfl, hsz, hP, hK, hD0⟩ := hv
  have hx := B.exec
  have hb := B.bytes
  have hr := B.returns
  have hts := atoms_spec (ws := wsX0_setWinding) B.pre
  have hown : s.vm.findClass RX0 = some m.cls := findClass_of_methodNamed B.named
  have hlocks := B.notSynchronized
  subst hsz
  have hD := hD0.self (sz := s.heap.size)
  have hA : ∀ q : Nat, s.heap.size ≤ q → va_A [(o, .inr (0, [.int (zI P), .int (zI S), .int (zI K), .int (zI N), .int ty, .int px, .int pr, .int (zI w), .int (zI ch), .ref oa, .ref ba])), (oa, .inl (yZ, 72, .inl (aw_f ob))), (ba, .inl (yI, 72, .inl g))] s.heap.size q := fun q h => Or.inr h
  have hS : va_S (va_A [(o, .inr (0, [.int (zI P), .int (zI S), .int (zI K), .int (zI N), .int ty, .int px, .int pr, .int (zI w), .int (zI ch), .ref oa, .ref ba])), (oa, .inl (yZ, 72, .inl (aw_f ob))), (ba, .inl (yI, 72, .inl g))] s.heap.size) s.heap s.heap [] := va_S.rf
  have hin : ∀ w ∈ wsX00, w ∈ wsX0_setWinding := fun w h => List.mem_cons_of_mem _ (List.mem_append_right _ h)
  have hf_37 := hts (.fieldLink RX0 37 "ArmatureWinding" "pitch" "I") (by decide +kernel)
  have hl := lv_entry ([.ref o, .int (zI t), .int (zI x), .int (zI b)]) (n := 5) (Nat.le_of_ble_eq_true rfl)
  rw [lg_entry_eq]
  generalize (lg_sl ([.ref o, .int (zI t), .int (zI x), .int (zI b)]) ++ List.replicate (5 - (lg_sl ([.ref o, .int (zI t), .int (zI x), .int (zI b)])).length) Slot.unset).toArray = ls at hl ⊢
  have hl : lv_has ls 5 [(0, .ref o), (1, .int (zI t)), (2, .int (zI x)), (3, .int (zI b))] := hl
  have hw := aw_b_t (decide_eq_true hyes)
  refine lv_iload_n hx hb dX0_setWinding_0 rfl (lv_at hl 1 rfl) ?_
  refine zb_ieq (tgt := 13) hx hb dX0_setWinding_1 (by decide) (by omega) (fun c1 => absurd c1 (by omega)) (fun c1 => ?_)
  refine lv_iload_n hx hb dX0_setWinding_4 rfl (lv_at hl 1 rfl) ?_
  refine zb_iconst hx hb dX0_setWinding_5 ?_
  refine zb_ceq (tgt := 13) hx hb dX0_setWinding_6 (by decide) (by omega) (by omega) (fun c6 => ?_) (fun c6 => absurd c6 (by omega))
  refine lv_iload_n hx hb dX0_setWinding_13 rfl (lv_at hl 2 rfl) ?_
  refine zb_iconst hx hb dX0_setWinding_14 ?_
  refine zb_clt (tgt := 23) hx hb dX0_setWinding_15 (by decide) (by omega) (by omega) (fun c15 => absurd c15 (by omega)) (fun c15 => ?_)
  refine lv_iload_n hx hb dX0_setWinding_18 rfl (lv_at hl 2 rfl) ?_
  refine zb_iconst hx hb dX0_setWinding_19 ?_
  refine zb_cle (tgt := 27) hx hb dX0_setWinding_20 (by decide) (by omega) (by omega) (fun c20 => ?_) (fun c20 => absurd c20 (by omega))
  refine lv_iload_n hx hb dX0_setWinding_27 rfl (lv_at hl 3 rfl) ?_
  refine zb_join (fun j => h = j) (pcj := 37) (lj := ls) (rj := []) (fun j hj => ?_) (fun hj37 => ?_)
  rotate_left
  · skip
    refine zb_ieq (tgt := 35) hx hb dX0_setWinding_28 (by decide) (by omega) (fun c28 => ?_) (fun c28 => ?_)
    · skip
      refine lv_iload_n hx hb dX0_setWinding_35 rfl (lv_at hl 2 rfl) ?_
      refine zb_neg hx hb dX0_setWinding_36 ?_
      exact hj37 (-x) (by omega)
    · skip
      refine lv_iload_n hx hb dX0_setWinding_31 rfl (lv_at hl 2 rfl) ?_
      refine lv_goto (tgt := 37) hx hb dX0_setWinding_32 (by decide) ?_
      exact hj37 x (by omega)
  · skip
    subst hj
    refine lv_istore (lv' := [(4, .int (zI h)), (0, .ref o), (1, .int (zI t)), (2, .int (zI x)), (3, .int (zI b))]) hx hb dX0_setWinding_37 hl (by decide) rfl (fun ls hl => ?_)
    refine lv_iload_n hx hb dX0_setWinding_39 rfl (lv_at hl 2 rfl) ?_
    refine zb_iconst hx hb dX0_setWinding_40 ?_
    refine zb_cne (tgt := 57) hx hb dX0_setWinding_41 (by decide) (by omega) (by omega) (fun c41 => absurd c41 (by omega)) (fun c41 => ?_)
    refine lv_aload_n hx hb dX0_setWinding_44 rfl (lv_at hl 1 rfl) ?_
    refine lv_iload hx hb dX0_setWinding_45 (lv_at hl 0 rfl) ?_
    refine aw_callV (As := [.int (zI h)]) (rest := []) ⟨hx, hb, hml, hown, hts⟩ (k_isWavePossible (x := h) hP1 hN1 ⟨by omega, by omega⟩) (cwV 1 hts gX0_setWinding_X0_isWavePossible rfl rfl rfl (by decide +kernel) ⟨Nat.le_of_ble_eq_true rfl, Nat.le_of_ble_eq_true rfl⟩) hP hK rfl rfl rfl hl.1 rfl (Nat.le_of_ble_eq_true rfl) dX0_setWinding_47 ⟨Nat.zero_le _, Nat.zero_le _⟩ ?_
    refine zb_ine (tgt := 57) hx hb dX0_setWinding_50 (by decide) (by omega) (fun c50 => ?_) (fun c50 => absurd c50 (by omega))
    refine lv_aload_n hx hb dX0_setWinding_57 rfl (lv_at hl 1 rfl) ?_
    refine lv_iload_n hx hb dX0_setWinding_58 rfl (lv_at hl 2 rfl) ?_
    refine lv_iload_n hx hb dX0_setWinding_59 rfl (lv_at hl 3 rfl) ?_
    refine lv_iload_n hx hb dX0_setWinding_60 rfl (lv_at hl 4 rfl) ?_
    refine lv_iload_n hx hb dX0_setWinding_61 rfl (lv_at hl 2 rfl) ?_
    refine zb_iconst hx hb dX0_setWinding_62 ?_
    refine zb_cne (tgt := 75) hx hb dX0_setWinding_63 (by decide) (by omega) (by omega) (fun c63 => absurd c63 (by omega)) (fun c63 => ?_)
    refine lv_aload_n hx hb dX0_setWinding_66 rfl (lv_at hl 1 rfl) ?_
    refine lv_iload hx hb dX0_setWinding_67 (lv_at hl 0 rfl) ?_
    refine aw_callV (As := [.int (zI h)]) (rest := [.int (zI b), .int (zI x), .int (zI t), .ref o]) ⟨hx, hb, hml, hown, hts⟩ (k_wavePitch (x := h) hP1 hN1 ⟨by omega, by omega⟩) (cwV 1 hts gX0_setWinding_X0_wavePitch rfl rfl rfl (by decide +kernel) ⟨Nat.le_of_ble_eq_true rfl, Nat.le_of_ble_eq_true rfl⟩) hP hK rfl rfl rfl hl.1 rfl (Nat.le_of_ble_eq_true rfl) dX0_setWinding_69 ⟨Nat.zero_le _, Nat.zero_le _⟩ ?_
    refine lv_goto (tgt := 77) hx hb dX0_setWinding_72 (by decide) ?_
    refine aw_callMV (As := [.int (zI t), .int (zI x), .int (zI b), .int (zI ((N + h).tdiv (P / 2)))]) (rest := []) (wc := [(o, .inr (0, [.int (zI P), .int (zI S), .int (zI K), .int (zI N), .int ty, .int px, .int pr, .int (zI w), .int (zI ch), .ref oa, .ref ba])), (oa, .inl (yZ, 72, .inl (aw_f ob))), (ba, .inl (yI, 72, .inl g))]) (wr := []) (ws2 := fun u => [(o, .inr (0, [.int (zI P), .int (zI S), .int (zI K), .int (zI N), .int (zI t), .int (zI x), .int (zI b), .int (zI ((N + h).tdiv (P / 2))), .int (zI ch), .ref oa, .ref ba])), (oa, .inl (yZ, 72, .inl (aw_f ob))), (ba, .inl (yI, 72, .inl g))]) ⟨hx, hb, hml, hown, hts⟩ (k_layWinding (t := t) (x := x) (b := b) (y := (N + h).tdiv (P / 2)) (by omega)) (cwV 4 hts gX0_setWinding_X0_layWinding rfl rfl rfl (by decide +kernel) ⟨Nat.le_of_ble_eq_true rfl, Nat.le_of_ble_eq_true rfl⟩) hP hD hK hS hA rfl rfl [0, 1, 2] [] rfl rfl (by decide) (by decide) (by decide) [0, 1, 2] (by decide) (fun _ => rfl) rfl hl.1 rfl (Nat.le_of_ble_eq_true rfl) dX0_setWinding_77 ⟨Nat.zero_le _, Nat.zero_le _⟩ (fun u H locs hu hP hD hS => ?_)
    have hP : va_P D vwCl [(o, .inr (0, [.int (zI P), .int (zI S), .int (zI K), .int (zI N), .int (zI t), .int (zI x), .int (zI b), .int (zI ((N + h).tdiv (P / 2))), .int (zI ch), .ref oa, .ref ba])), (oa, .inl (yZ, 72, .inl (aw_f ob))), (ba, .inl (yI, 72, .inl g))] H := hP
    have hD : va_D _ [(o, .inr (0, [.int (zI P), .int (zI S), .int (zI K), .int (zI N), .int (zI t), .int (zI x), .int (zI b), .int (zI ((N + h).tdiv (P / 2))), .int (zI ch), .ref oa, .ref ba])), (oa, .inl (yZ, 72, .inl (aw_f ob))), (ba, .inl (yI, 72, .inl g))] := hD
    refine W.eq (g2 := F0 m 80 ls []) rfl ?_
    refine lv_aload_n hx hb dX0_setWinding_80 rfl (lv_at hl 1 rfl) ?_
    refine va_get (D := D) (ci := 0) (v := .int (zI ((N + h).tdiv (P / 2)))) (C := RX0) (T := TX0) (N := 11) hx hb hts hin hown hK hP 0 rfl rfl 7 (by decide) hf_37 (fun _ h9 => h9) rfl dX0_setWinding_81 ?_
    exact aw_iretM () hx hb hr hlocks dX0_setWinding_84 rfl trivial hP hK hD hS
set_option maxHeartbeats 4000000 in
set_option maxRecDepth 100000 in
/-- setChording(x), accepted -/
theorem k_setChording {x : Int} (hx3 : 0 ≤ x ∧ x ≤ 5) : aw_MU (S := Unit) l yX0_setChording wsX0_setChording (aw_rm 0 0) D (aw_T yZ yI) [(o, .inr (0, [.int (zI P), .int (zI S), .int (zI K), .int (zI N), .int ty, .int px, .int pr, .int (zI w), .int (zI ch), .ref oa, .ref ba])), (oa, .inl (yZ, 72, .inl (aw_f ob))), (ba, .inl (yI, 72, .inl g))] [.ref o, .int (zI x)] (some (ch)) (fun _ => True) (fun _ => aw_W3 yZ yI o oa ba P S K N ty px pr w x ob g) := by
  intro sz
  refine Met.ofW (cc := cX0_setChording) (maxL := 3) (ret := (some .int)) (by decide) rfl ?_
  intro p e s m args below meth c s₁ B hml hv
  obtain ⟨rfl, hsz, hP, hK, hD0⟩ := hv
  have hx := B.exec
  have hb := B.bytes
  have hr := B.returns
  have hts := atoms_spec (ws := wsX0_setChording) B.pre
  have hown : s.vm.findClass RX0 = some m.cls := findClass_of_methodNamed B.named
  have hlocks := B.notSynchronized
  subst hsz
  have hD := hD0.self (sz := s.heap.size)
  have hA : ∀ q : Nat, s.heap.size ≤ q → va_A [(o, .inr (0, [.int (zI P), .int (zI S), .int (zI K), .int (zI N), .int ty, .int px, .int pr, .int (zI w), .int (zI ch), .ref oa, .ref ba])), (oa, .inl (yZ, 72, .inl (aw_f ob))), (ba, .inl (yI, 72, .inl g))] s.heap.size q := fun q h => Or.inr h
  have hS : va_S (va_A [(o, .inr (0, [.int (zI P), .int (zI S), .int (zI K), .int (zI N), .int ty, .int px, .int pr, .int (zI w), .int (zI ch), .ref oa, .ref ba])), (oa, .inl (yZ, 72, .inl (aw_f ob))), (ba, .inl (yI, 72, .inl g))] s.heap.size) s.heap s.heap [] := va_S.rf
  have hin : ∀ w ∈ wsX00, w ∈ wsX0_setChording := fun w h => List.mem_cons_of_mem _ (List.mem_append_right _ h)
  have hf_40 := hts (.fieldLink RX0 40 "ArmatureWinding" "chording" "I") (by decide +kernel)
  have hl := lv_entry ([.ref o, .int (zI x)]) (n := 3) (Nat.le_of_ble_eq_true rfl)
  rw [lg_entry_eq]
  generalize (lg_sl ([.ref o, .int (zI x)]) ++ List.replicate (3 - (lg_sl ([.ref o, .int (zI x)])).length) Slot.unset).toArray = ls at hl ⊢
  have hl : lv_has ls 3 [(0, .ref o), (1, .int (zI x))] := hl
  refine lv_iload_n hx hb dX0_setChording_0 rfl (lv_at hl 1 rfl) ?_
  refine zb_ilt (tgt := 9) hx hb dX0_setChording_1 (by decide) (by omega) (fun c1 => absurd c1 (by omega)) (fun c1 => ?_)
  refine lv_iload_n hx hb dX0_setChording_4 rfl (lv_at hl 1 rfl) ?_
  refine zb_iconst hx hb dX0_setChording_5 ?_
  refine zb_cle (tgt := 13) hx hb dX0_setChording_6 (by decide) (by omega) (by omega) (fun c6 => ?_) (fun c6 => absurd c6 (by omega))
  refine lv_aload_n hx hb dX0_setChording_13 rfl (lv_at hl 0 rfl) ?_
  refine va_get (D := D) (ci := 0) (v := .int (zI ch)) (C := RX0) (T := TX0) (N := 11) hx hb hts hin hown hK hP 0 rfl rfl 8 (by decide) hf_40 (fun _ h9 => h9) rfl dX0_setChording_14 ?_
  refine lv_istore_n (lv' := [(2, .int (zI ch)), (0, .ref o), (1, .int (zI x))]) hx hb dX0_setChording_17 rfl hl (by decide) rfl (fun ls hl => ?_)
  refine lv_aload_n hx hb dX0_setChording_18 rfl (lv_at hl 1 rfl) ?_
  refine lv_iload_n hx hb dX0_setChording_19 rfl (lv_at hl 2 rfl) ?_
  refine va_put (D := D) (ci := 0) (v := .int (zI x)) (ty := .int) (C := RX0) (T := TX0) (N := 11) hx hb hts hin tyX0 tyX0_ok nmX0 hown hK hP hD hS 0 rfl rfl 8 (by decide) hf_40 (fun _ h9 => h9) rfl (by decide +kernel) rfl rfl (Nat.le_of_ble_eq_true rfl) dX0_setChording_20 (fun H locs hP hD hS => ?_)
  have hP : va_P D vwCl [(o, .inr (0, [.int (zI P), .int (zI S), .int (zI K), .int (zI N), .int ty, .int px, .int pr, .int (zI w), .int (zI x), .ref oa, .ref ba])), (oa, .inl (yZ, 72, .inl (aw_f ob))), (ba, .inl (yI, 72, .inl g))] H := hP
  have hD : va_D _ [(o, .inr (0, [.int (zI P), .int (zI S), .int (zI K), .int (zI N), .int ty, .int px, .int pr, .int (zI w), .int (zI x), .ref oa, .ref ba])), (oa, .inl (yZ, 72, .inl (aw_f ob))), (ba, .inl (yI, 72, .inl g))] := hD
  refine lv_iload_n hx hb dX0_setChording_23 rfl (lv_at hl 0 rfl) ?_
  exact aw_iretM () hx hb hr hlocks dX0_setChording_24 rfl trivial hP hK hD hS
set_option maxHeartbeats 4000000 in
set_option maxRecDepth 100000 in
/-- setOpen(q, b), accepted -/
theorem k_setOpen (hN1 : 0 ≤ N ∧ N ≤ 72) {q : Int} {bv : Bool} (hq : 0 ≤ q ∧ q < N) : aw_MU (S := Unit) l yX0_setOpen wsX0_setOpen (aw_rm 2 42) D (aw_T yZ yI) [(o, .inr (0, [.int (zI P), .int (zI S), .int (zI K), .int (zI N), .int ty, .int px, .int pr, .int (zI w), .int (zI ch), .ref oa, .ref ba])), (oa, .inl (yZ, 72, .inl (aw_f ob))), (ba, .inl (yI, 72, .inl g))] [.ref o, .int (zI q), .int (zI (aw_b bv))] (some (aw_b (ob q))) (fun _ => True) (fun _ => aw_W3 yZ yI o oa ba P S K N ty px pr w ch (aw_up ob q bv) g) := by
  intro sz
  refine Met.ofW (cc := cX0_setOpen) (maxL := 4) (ret := (some .int)) (by decide) rfl ?_
  intro p e s m args below meth c s₁ B hml hv
  obtain ⟨rfl, hsz, hP, hK, hD0⟩ := hv
  have hx := B.exec
  have hb := B.bytes
  have hr := B.returns
  have hts := atoms_spec (ws := wsX0_setOpen) B.pre
  have hown : s.vm.findClass RX0 = some m.cls := findClass_of_methodNamed B.named
  have hlocks := B.notSynchronized
  subst hsz
  have hD := hD0.self (sz := s.heap.size)
  have hA : ∀ q : Nat, s.heap.size ≤ q → va_A [(o, .inr (0, [.int (zI P), .int (zI S), .int (zI K), .int (zI N), .int ty, .int px, .int pr, .int (zI w), .int (zI ch), .ref oa, .ref ba])), (oa, .inl (yZ, 72, .inl (aw_f ob))), (ba, .inl (yI, 72, .inl g))] s.heap.size q := fun q h => Or.inr h
  have hS : va_S (va_A [(o, .inr (0, [.int (zI P), .int (zI S), .int (zI K), .int (zI N), .int ty, .int px, .int pr, .int (zI w), .int (zI ch), .ref oa, .ref ba])), (oa, .inl (yZ, 72, .inl (aw_f ob))), (ba, .inl (yI, 72, .inl g))] s.heap.size) s.heap s.heap [] := va_S.rf
  have hin : ∀ w ∈ wsX00, w ∈ wsX0_setOpen := fun w h => List.mem_cons_of_mem _ (List.mem_append_right _ h)
  have hf_9 := hts (.fieldLink RX0 9 "ArmatureWinding" "open" "[Z") (by decide +kernel)
  have hf_21 := hts (.fieldLink RX0 21 "ArmatureWinding" "coils" "I") (by decide +kernel)
  have hl := lv_entry ([.ref o, .int (zI q), .int (zI (aw_b bv))]) (n := 4) (Nat.le_of_ble_eq_true rfl)
  rw [lg_entry_eq]
  generalize (lg_sl ([.ref o, .int (zI q), .int (zI (aw_b bv))]) ++ List.replicate (4 - (lg_sl ([.ref o, .int (zI q), .int (zI (aw_b bv))])).length) Slot.unset).toArray = ls at hl ⊢
  have hl : lv_has ls 4 [(0, .ref o), (1, .int (zI q)), (2, .int (zI (aw_b bv)))] := hl
  refine lv_iload_n hx hb dX0_setOpen_0 rfl (lv_at hl 1 rfl) ?_
  refine zb_ilt (tgt := 21) hx hb dX0_setOpen_1 (by decide) (by omega) (fun c1 => absurd c1 (by omega)) (fun c1 => ?_)
  refine lv_iload_n hx hb dX0_setOpen_4 rfl (lv_at hl 1 rfl) ?_
  refine lv_aload_n hx hb dX0_setOpen_5 rfl (lv_at hl 0 rfl) ?_
  refine va_get (D := D) (ci := 0) (v := .int (zI N)) (C := RX0) (T := TX0) (N := 11) hx hb hts hin hown hK hP 0 rfl rfl 3 (by decide) hf_21 (fun _ h9 => h9) rfl dX0_setOpen_6 ?_
  refine zb_cge (tgt := 21) hx hb dX0_setOpen_9 (by decide) (by omega) (by omega) (fun c9 => absurd c9 (by omega)) (fun c9 => ?_)
  refine lv_iload_n hx hb dX0_setOpen_12 rfl (lv_at hl 1 rfl) ?_
  refine lv_aload_n hx hb dX0_setOpen_13 rfl (lv_at hl 0 rfl) ?_
  refine va_get (D := D) (ci := 0) (v := .ref oa) (C := RX0) (T := TX0) (N := 11) hx hb hts hin hown hK hP 0 rfl rfl 9 (by decide) hf_9 (fun _ h9 => h9) rfl dX0_setOpen_14 ?_
  refine va_alen hx hb hK hP 1 0 rfl rfl (v := zI 72) (show Int32.ofNat 72 = zI 72 from by decide) dX0_setOpen_17 ?_
  refine zb_clt (tgt := 25) hx hb dX0_setOpen_18 (by decide) (by omega) (by omega) (fun c18 => ?_) (fun c18 => absurd c18 (by omega))
  refine lv_aload_n hx hb dX0_setOpen_25 rfl (lv_at hl 0 rfl) ?_
  refine lv_iload_n hx hb dX0_setOpen_26 rfl (lv_at hl 1 rfl) ?_
  refine aw_callV (As := [.int (zI q)]) (rest := []) ⟨hx, hb, hml, hown, hts⟩ (k_openMark (z := q) ⟨by omega, by omega⟩) (cwV 1 hts gX0_setOpen_X0_openMark rfl rfl rfl (by decide +kernel) ⟨Nat.le_of_ble_eq_true rfl, Nat.le_of_ble_eq_true rfl⟩) hP hK rfl rfl rfl hl.1 rfl (Nat.le_of_ble_eq_true rfl) dX0_setOpen_27 ⟨Nat.zero_le _, Nat.zero_le _⟩ ?_
  refine lv_istore_n (lv' := [(3, .int (zI (aw_b (ob q)))), (0, .ref o), (1, .int (zI q)), (2, .int (zI (aw_b bv)))]) hx hb dX0_setOpen_30 rfl hl (by decide) rfl (fun ls hl => ?_)
  refine lv_aload_n hx hb dX0_setOpen_31 rfl (lv_at hl 1 rfl) ?_
  refine va_get (D := D) (ci := 0) (v := .ref oa) (C := RX0) (T := TX0) (N := 11) hx hb hts hin hown hK hP 0 rfl rfl 9 (by decide) hf_9 (fun _ h9 => h9) rfl dX0_setOpen_32 ?_
  refine lv_iload_n hx hb dX0_setOpen_35 rfl (lv_at hl 2 rfl) ?_
  refine lv_iload_n hx hb dX0_setOpen_36 rfl (lv_at hl 3 rfl) ?_
  refine aw_zst hx hb hK hP hD hS 1 0 rfl rfl bv (by omega) (by omega) dX0_setOpen_37 (fun H locs hP hD hS => ?_)
  have hP : va_P D vwCl [(o, .inr (0, [.int (zI P), .int (zI S), .int (zI K), .int (zI N), .int ty, .int px, .int pr, .int (zI w), .int (zI ch), .ref oa, .ref ba])), (oa, .inl (yZ, 72, .inl (aw_f (aw_up ob q bv)))), (ba, .inl (yI, 72, .inl g))] H := hP
  have hD : va_D _ [(o, .inr (0, [.int (zI P), .int (zI S), .int (zI K), .int (zI N), .int ty, .int px, .int pr, .int (zI w), .int (zI ch), .ref oa, .ref ba])), (oa, .inl (yZ, 72, .inl (aw_f (aw_up ob q bv)))), (ba, .inl (yI, 72, .inl g))] := hD
  refine lv_iload_n hx hb dX0_setOpen_38 rfl (lv_at hl 0 rfl) ?_
  exact aw_iretM () hx hb hr hlocks dX0_setOpen_39 rfl trivial hP hK hD hS
end
end
section
/-- what the law's numbers, its row of interrupted coils, these coils, three fields that nobody reads, and the brushes' row are -/
abbrev aw_S5 : Type := (Nat → Int) × (Nat → Int32) × (Int → Bool) × (Int32 × Int32 × Int32) × (Nat → Int32)
def aw_p5 (u : aw_S5) : Prop := aw_In (u.1 0) (u.1 1) (u.1 2) (u.1 3) (u.1 7) (u.1 8) ∧ aw_OB u.2.1 u.2.2.1
abbrev aw_w5 (yZ yI : ClassId) (o oa ba da pa : Nat) (u : aw_S5) : va_W := aw_W5 yZ yI o oa ba da pa u.1 u.2.1 u.2.2.2.1.1 u.2.2.2.1.2.1 u.2.2.2.1.2.2 u.2.2.1 u.2.2.2.2
theorem aw_tno {x y : Int} (h : ¬ x.tmod y = 0) : ¬ x.tdiv y * y = x := fun e => h (by
  have := Int.mul_tdiv_add_tmod x y
  rw [Int.mul_comm] at this
  omega)
theorem aw_tyes {x y : Int} (h : x.tmod y = 0) : x.tdiv y * y = x := by
  have := Int.mul_tdiv_add_tmod x y
  rw [Int.mul_comm] at this
  omega
section
variable {l : Launch} {D : va_G} {yZ yI : ClassId} {o oa ba da pa : Nat} {P S K N w ch : Int} {ty px pr : Int32} {ob : Int → Bool} {g pf : Nat → Int32} {dv : Nat → Int}
set_option maxHeartbeats 4000000 in
set_option maxRecDepth 100000 in
/-- the law's begin -/
theorem k_begin  : aw_MU (S := Unit) l yL_begin wsL_begin (aw_rm 0 0) D (aw_T yZ yI) [aw_Dr yI da dv] [.ref da] none (fun _ => True) (fun _ => [aw_Dr yI da (aw_ud (aw_ud (aw_ud (aw_ud (aw_ud (aw_ud (aw_ud dv 0 4) 1 12) 2 1) 3 12) 5 1) 6 1) 7 1)]) := by
  intro sz
  refine Met.ofW (cc := cL_begin) (maxL := 1) (ret := none) (by decide) rfl ?_
  intro p e s m args below meth c s₁ B hml hv
  obtain ⟨rfl, hsz, hP, hK, hD0⟩ := hv
  have hx := B.exec
  have hb := B.bytes
  have hr := B.returns
  have hts := atoms_spec (ws := wsL_begin) B.pre
  have hown : s.vm.findClass RL = some m.cls := findClass_of_methodNamed B.named
  have hlocks := B.notSynchronized
  subst hsz
  have hD := hD0.self (sz := s.heap.size)
  have hA : ∀ q : Nat, s.heap.size ≤ q → va_A [aw_Dr yI da dv] s.heap.size q := fun q h => Or.inr h
  have hS : va_S (va_A [aw_Dr yI da dv] s.heap.size) s.heap s.heap [] := va_S.rf
  have hl := lv_entry ([.ref da]) (n := 1) (Nat.le_of_ble_eq_true rfl)
  rw [lg_entry_eq]
  generalize (lg_sl ([.ref da]) ++ List.replicate (1 - (lg_sl ([.ref da])).length) Slot.unset).toArray = ls at hl ⊢
  have hl : lv_has ls 1 [(0, .ref da)] := hl
  refine lv_aload_n hx hb dL_begin_0 rfl (lv_at hl 0 rfl) ?_
  refine zb_iconst hx hb dL_begin_1 ?_
  refine zb_iconst hx hb dL_begin_2 ?_
  refine aw_dst hx hb hK hP hD hS 0 1 rfl rfl 0 (by decide) dL_begin_3 (fun H locs hP hD hS => ?_)
  have hP : va_P D vwCl [aw_Dr yI da (aw_ud dv 0 4)] H := hP
  have hD : va_D _ [aw_Dr yI da (aw_ud dv 0 4)] := hD
  refine lv_aload_n hx hb dL_begin_4 rfl (lv_at hl 0 rfl) ?_
  refine zb_iconst hx hb dL_begin_5 ?_
  refine zb_bipush hx hb dL_begin_6 (by decide) ?_
  refine aw_dst hx hb hK hP hD hS 0 1 rfl rfl 1 (by decide) dL_begin_8 (fun H locs hP hD hS => ?_)
  have hP : va_P D vwCl [aw_Dr yI da (aw_ud (aw_ud dv 0 4) 1 12)] H := hP
  have hD : va_D _ [aw_Dr yI da (aw_ud (aw_ud dv 0 4) 1 12)] := hD
  refine lv_aload_n hx hb dL_begin_9 rfl (lv_at hl 0 rfl) ?_
  refine zb_iconst hx hb dL_begin_10 ?_
  refine zb_iconst hx hb dL_begin_11 ?_
  refine aw_dst hx hb hK hP hD hS 0 1 rfl rfl 2 (by decide) dL_begin_12 (fun H locs hP hD hS => ?_)
  have hP : va_P D vwCl [aw_Dr yI da (aw_ud (aw_ud (aw_ud dv 0 4) 1 12) 2 1)] H := hP
  have hD : va_D _ [aw_Dr yI da (aw_ud (aw_ud (aw_ud dv 0 4) 1 12) 2 1)] := hD
  refine lv_aload_n hx hb dL_begin_13 rfl (lv_at hl 0 rfl) ?_
  refine zb_iconst hx hb dL_begin_14 ?_
  refine zb_bipush hx hb dL_begin_15 (by decide) ?_
  refine aw_dst hx hb hK hP hD hS 0 1 rfl rfl 3 (by decide) dL_begin_17 (fun H locs hP hD hS => ?_)
  have hP : va_P D vwCl [aw_Dr yI da (aw_ud (aw_ud (aw_ud (aw_ud dv 0 4) 1 12) 2 1) 3 12)] H := hP
  have hD : va_D _ [aw_Dr yI da (aw_ud (aw_ud (aw_ud (aw_ud dv 0 4) 1 12) 2 1) 3 12)] := hD
  refine lv_aload_n hx hb dL_begin_18 rfl (lv_at hl 0 rfl) ?_
  refine zb_iconst hx hb dL_begin_19 ?_
  refine zb_iconst hx hb dL_begin_20 ?_
  refine aw_dst hx hb hK hP hD hS 0 1 rfl rfl 5 (by decide) dL_begin_21 (fun H locs hP hD hS => ?_)
  have hP : va_P D vwCl [aw_Dr yI da (aw_ud (aw_ud (aw_ud (aw_ud (aw_ud dv 0 4) 1 12) 2 1) 3 12) 5 1)] H := hP
  have hD : va_D _ [aw_Dr yI da (aw_ud (aw_ud (aw_ud (aw_ud (aw_ud dv 0 4) 1 12) 2 1) 3 12) 5 1)] := hD
  refine lv_aload_n hx hb dL_begin_22 rfl (lv_at hl 0 rfl) ?_
  refine zb_bipush hx hb dL_begin_23 (by decide) ?_
  refine zb_iconst hx hb dL_begin_25 ?_
  refine aw_dst hx hb hK hP hD hS 0 1 rfl rfl 6 (by decide) dL_begin_26 (fun H locs hP hD hS => ?_)
  have hP : va_P D vwCl [aw_Dr yI da (aw_ud (aw_ud (aw_ud (aw_ud (aw_ud (aw_ud dv 0 4) 1 12) 2 1) 3 12) 5 1) 6 1)] H := hP
  have hD : va_D _ [aw_Dr yI da (aw_ud (aw_ud (aw_ud (aw_ud (aw_ud (aw_ud dv 0 4) 1 12) 2 1) 3 12) 5 1) 6 1)] := hD
  refine lv_aload_n hx hb dL_begin_27 rfl (lv_at hl 0 rfl) ?_
  refine zb_bipush hx hb dL_begin_28 (by decide) ?_
  refine zb_iconst hx hb dL_begin_30 ?_
  refine aw_dst hx hb hK hP hD hS 0 1 rfl rfl 7 (by decide) dL_begin_31 (fun H locs hP hD hS => ?_)
  have hP : va_P D vwCl [aw_Dr yI da (aw_ud (aw_ud (aw_ud (aw_ud (aw_ud (aw_ud (aw_ud dv 0 4) 1 12) 2 1) 3 12) 5 1) 6 1) 7 1)] H := hP
  have hD : va_D _ [aw_Dr yI da (aw_ud (aw_ud (aw_ud (aw_ud (aw_ud (aw_ud (aw_ud dv 0 4) 1 12) 2 1) 3 12) 5 1) 6 1) 7 1)] := hD
  exact aw_vretM () hx hb hr hlocks dL_begin_32 trivial hP hK hD hS
set_option maxHeartbeats 4000000 in
set_option maxRecDepth 100000 in
/-- the law's armature: true -/
theorem k_armature {x : Int} (hx0 : 0 ≤ x ∧ x < 2147483648) : aw_MU (S := aw_S5) l yL_armature wsL_armature (aw_rm 4 90) D (aw_T yZ yI) [(o, .inr (0, [.int (zI (dv 0)), .int (zI (dv 1)), .int (zI (dv 2)), .int (zI (dv 3)), .int ty, .int px, .int pr, .int (zI (dv 7)), .int (zI (dv 8)), .ref oa, .ref ba])), (oa, .inl (yZ, 72, .inl (aw_f ob))), (ba, .inl (yI, 72, .inl g)), aw_Dr yI da dv, aw_Mr yI pa pf] [.ref o, .int (zI x), .ref da, .ref pa] (some (1)) (aw_p5) (fun u => aw_w5 yZ yI o oa ba da pa u) := by
  intro sz
  refine Met.ofW (cc := cL_armature) (maxL := 5) (ret := (some .boolean)) (by decide) rfl ?_
  intro p e s m args below meth c s₁ B hml hv
  obtain ⟨rfl, hsz, hP, hK, hD0⟩ := hv
  have hx := B.exec
  have hb := B.bytes
  have hr := B.returns
  have hts := atoms_spec (ws := wsL_armature) B.pre
  have hown : s.vm.findClass RL = some m.cls := findClass_of_methodNamed B.named
  have hlocks := B.notSynchronized
  subst hsz
  have hD := hD0.self (sz := s.heap.size)
  have hA : ∀ q : Nat, s.heap.size ≤ q → va_A [(o, .inr (0, [.int (zI (dv 0)), .int (zI (dv 1)), .int (zI (dv 2)), .int (zI (dv 3)), .int ty, .int px, .int pr, .int (zI (dv 7)), .int (zI (dv 8)), .ref oa, .ref ba])), (oa, .inl (yZ, 72, .inl (aw_f ob))), (ba, .inl (yI, 72, .inl g)), aw_Dr yI da dv, aw_Mr yI pa pf] s.heap.size q := fun q h => Or.inr h
  have hS : va_S (va_A [(o, .inr (0, [.int (zI (dv 0)), .int (zI (dv 1)), .int (zI (dv 2)), .int (zI (dv 3)), .int ty, .int px, .int pr, .int (zI (dv 7)), .int (zI (dv 8)), .ref oa, .ref ba])), (oa, .inl (yZ, 72, .inl (aw_f ob))), (ba, .inl (yI, 72, .inl g)), aw_Dr yI da dv, aw_Mr yI pa pf] s.heap.size) s.heap s.heap [] := va_S.rf
  have hl := lv_entry ([.ref o, .int (zI x), .ref da, .ref pa]) (n := 5) (Nat.le_of_ble_eq_true rfl)
  rw [lg_entry_eq]
  generalize (lg_sl ([.ref o, .int (zI x), .ref da, .ref pa]) ++ List.replicate (5 - (lg_sl ([.ref o, .int (zI x), .ref da, .ref pa])).length) Slot.unset).toArray = ls at hl ⊢
  have hl : lv_has ls 5 [(0, .ref o), (1, .int (zI x)), (2, .ref da), (3, .ref pa)] := hl
  refine lv_aload_n hx hb dL_armature_0 rfl (lv_at hl 2 rfl) ?_
  refine zb_iconst hx hb dL_armature_1 ?_
  refine zb_iconst hx hb dL_armature_2 ?_
  refine zb_iconst hx hb dL_armature_3 ?_
  refine lv_iload_n hx hb dL_armature_4 rfl (lv_at hl 1 rfl) ?_
  refine zb_iconst hx hb dL_armature_5 ?_
  refine zb_rem hx hb dL_armature_6 (by omega) (by omega) ?_
  refine zb_mul hx hb dL_armature_7 ?_
  refine zb_add hx hb dL_armature_8 ?_
  refine zb_nm (fun np e_np => ?_)
  have hnp : 2 ≤ np ∧ np ≤ 8 ∧ np % 2 = 0 := by omega
  refine aw_dst hx hb hK hP hD hS 3 1 rfl rfl 0 (by decide) dL_armature_9 (fun H locs hP hD hS => ?_)
  have hP : va_P D vwCl [(o, .inr (0, [.int (zI (dv 0)), .int (zI (dv 1)), .int (zI (dv 2)), .int (zI (dv 3)), .int ty, .int px, .int pr, .int (zI (dv 7)), .int (zI (dv 8)), .ref oa, .ref ba])), (oa, .inl (yZ, 72, .inl (aw_f ob))), (ba, .inl (yI, 72, .inl g)), aw_Dr yI da (aw_ud dv 0 np), aw_Mr yI pa pf] H := hP
  have hD : va_D _ [(o, .inr (0, [.int (zI (dv 0)), .int (zI (dv 1)), .int (zI (dv 2)), .int (zI (dv 3)), .int ty, .int px, .int pr, .int (zI (dv 7)), .int (zI (dv 8)), .ref oa, .ref ba])), (oa, .inl (yZ, 72, .inl (aw_f ob))), (ba, .inl (yI, 72, .inl g)), aw_Dr yI da (aw_ud dv 0 np), aw_Mr yI pa pf] := hD
  refine lv_aload_n hx hb dL_armature_10 rfl (lv_at hl 2 rfl) ?_
  refine zb_iconst hx hb dL_armature_11 ?_
  refine lv_aload_n hx hb dL_armature_12 rfl (lv_at hl 2 rfl) ?_
  refine zb_iconst hx hb dL_armature_13 ?_
  refine aw_dld hx hb hK hP 3 1 rfl rfl 0 (by decide) dL_armature_14 ?_
  refine zb_as np rfl ?_
  refine lv_iload_n hx hb dL_armature_15 rfl (lv_at hl 1 rfl) ?_
  refine zb_iconst hx hb dL_armature_16 ?_
  refine zb_div hx hb dL_armature_17 (by omega) (by omega) ?_
  refine zb_bipush hx hb dL_armature_18 (by decide) ?_
  refine lv_aload_n hx hb dL_armature_20 rfl (lv_at hl 2 rfl) ?_
  refine zb_iconst hx hb dL_armature_21 ?_
  refine aw_dld hx hb hK hP 3 1 rfl rfl 0 (by decide) dL_armature_22 ?_
  refine zb_as np rfl ?_
  refine zb_sub hx hb dL_armature_23 ?_
  refine zb_rem hx hb dL_armature_24 (by omega) (by omega) ?_
  refine zb_add hx hb dL_armature_25 ?_
  refine zb_nm (fun ns e_ns => ?_)
  have hns0 := aw_mod (x := x / 4) (n := 25 - np) (by omega)
  have hns : np ≤ ns ∧ ns ≤ 24 := by omega
  refine aw_dst hx hb hK hP hD hS 3 1 rfl rfl 1 (by decide) dL_armature_26 (fun H locs hP hD hS => ?_)
  have hP : va_P D vwCl [(o, .inr (0, [.int (zI (dv 0)), .int (zI (dv 1)), .int (zI (dv 2)), .int (zI (dv 3)), .int ty, .int px, .int pr, .int (zI (dv 7)), .int (zI (dv 8)), .ref oa, .ref ba])), (oa, .inl (yZ, 72, .inl (aw_f ob))), (ba, .inl (yI, 72, .inl g)), aw_Dr yI da (aw_ud (aw_ud dv 0 np) 1 ns), aw_Mr yI pa pf] H := hP
  have hD : va_D _ [(o, .inr (0, [.int (zI (dv 0)), .int (zI (dv 1)), .int (zI (dv 2)), .int (zI (dv 3)), .int ty, .int px, .int pr, .int (zI (dv 7)), .int (zI (dv 8)), .ref oa, .ref ba])), (oa, .inl (yZ, 72, .inl (aw_f ob))), (ba, .inl (yI, 72, .inl g)), aw_Dr yI da (aw_ud (aw_ud dv 0 np) 1 ns), aw_Mr yI pa pf] := hD
  refine lv_aload_n hx hb dL_armature_27 rfl (lv_at hl 2 rfl) ?_
  refine zb_iconst hx hb dL_armature_28 ?_
  refine zb_iconst hx hb dL_armature_29 ?_
  refine lv_iload_n hx hb dL_armature_30 rfl (lv_at hl 1 rfl) ?_
  refine zb_sipush hx hb dL_armature_31 (by decide) ?_
  refine zb_div hx hb dL_armature_34 (by omega) (by omega) ?_
  refine zb_iconst hx hb dL_armature_35 ?_
  refine zb_rem hx hb dL_armature_36 (by omega) (by omega) ?_
  refine zb_add hx hb dL_armature_37 ?_
  refine zb_nm (fun nk e_nk => ?_)
  have hnk : 1 ≤ nk ∧ nk ≤ 3 := by omega
  have hnn := aw_mul (x := ns) (y := nk) (a := 24) (b := 3) (by omega) (by omega) (by omega) (by omega)
  have hnn2 : ns * 1 ≤ ns * nk := Int.mul_le_mul_of_nonneg_left (by omega) (by omega)
  have hIn : aw_In np ns nk (ns * nk) 1 0 := ⟨by omega, by omega, by omega, by omega, by omega, by omega, rfl, by omega, by omega, by omega, by omega, by omega, by omega⟩
  refine aw_dst hx hb hK hP hD hS 3 1 rfl rfl 2 (by decide) dL_armature_38 (fun H locs hP hD hS => ?_)
  have hP : va_P D vwCl [(o, .inr (0, [.int (zI (dv 0)), .int (zI (dv 1)), .int (zI (dv 2)), .int (zI (dv 3)), .int ty, .int px, .int pr, .int (zI (dv 7)), .int (zI (dv 8)), .ref oa, .ref ba])), (oa, .inl (yZ, 72, .inl (aw_f ob))), (ba, .inl (yI, 72, .inl g)), aw_Dr yI da (aw_ud (aw_ud (aw_ud dv 0 np) 1 ns) 2 nk), aw_Mr yI pa pf] H := hP
  have hD : va_D _ [(o, .inr (0, [.int (zI (dv 0)), .int (zI (dv 1)), .int (zI (dv 2)), .int (zI (dv 3)), .int ty, .int px, .int pr, .int (zI (dv 7)), .int (zI (dv 8)), .ref oa, .ref ba])), (oa, .inl (yZ, 72, .inl (aw_f ob))), (ba, .inl (yI, 72, .inl g)), aw_Dr yI da (aw_ud (aw_ud (aw_ud dv 0 np) 1 ns) 2 nk), aw_Mr yI pa pf] := hD
  refine lv_aload_n hx hb dL_armature_39 rfl (lv_at hl 2 rfl) ?_
  refine zb_iconst hx hb dL_armature_40 ?_
  refine lv_aload_n hx hb dL_armature_41 rfl (lv_at hl 2 rfl) ?_
  refine zb_iconst hx hb dL_armature_42 ?_
  refine aw_dld hx hb hK hP 3 1 rfl rfl 1 (by decide) dL_armature_43 ?_
  refine zb_as ns rfl ?_
  refine lv_aload_n hx hb dL_armature_44 rfl (lv_at hl 2 rfl) ?_
  refine zb_iconst hx hb dL_armature_45 ?_
  refine aw_dld hx hb hK hP 3 1 rfl rfl 2 (by decide) dL_armature_46 ?_
  refine zb_as nk rfl ?_
  refine zb_mul hx hb dL_armature_47 ?_
  refine aw_dst hx hb hK hP hD hS 3 1 rfl rfl 3 (by decide) dL_armature_48 (fun H locs hP hD hS => ?_)
  have hP : va_P D vwCl [(o, .inr (0, [.int (zI (dv 0)), .int (zI (dv 1)), .int (zI (dv 2)), .int (zI (dv 3)), .int ty, .int px, .int pr, .int (zI (dv 7)), .int (zI (dv 8)), .ref oa, .ref ba])), (oa, .inl (yZ, 72, .inl (aw_f ob))), (ba, .inl (yI, 72, .inl g)), aw_Dr yI da (aw_ud (aw_ud (aw_ud (aw_ud dv 0 np) 1 ns) 2 nk) 3 (ns * nk)), aw_Mr yI pa pf] H := hP
  have hD : va_D _ [(o, .inr (0, [.int (zI (dv 0)), .int (zI (dv 1)), .int (zI (dv 2)), .int (zI (dv 3)), .int ty, .int px, .int pr, .int (zI (dv 7)), .int (zI (dv 8)), .ref oa, .ref ba])), (oa, .inl (yZ, 72, .inl (aw_f ob))), (ba, .inl (yI, 72, .inl g)), aw_Dr yI da (aw_ud (aw_ud (aw_ud (aw_ud dv 0 np) 1 ns) 2 nk) 3 (ns * nk)), aw_Mr yI pa pf] := hD
  refine lv_aload_n hx hb dL_armature_49 rfl (lv_at hl 2 rfl) ?_
  refine zb_iconst hx hb dL_armature_50 ?_
  refine zb_iconst hx hb dL_armature_51 ?_
  refine aw_dst hx hb hK hP hD hS 3 1 rfl rfl 4 (by decide) dL_armature_52 (fun H locs hP hD hS => ?_)
  have hP : va_P D vwCl [(o, .inr (0, [.int (zI (dv 0)), .int (zI (dv 1)), .int (zI (dv 2)), .int (zI (dv 3)), .int ty, .int px, .int pr, .int (zI (dv 7)), .int (zI (dv 8)), .ref oa, .ref ba])), (oa, .inl (yZ, 72, .inl (aw_f ob))), (ba, .inl (yI, 72, .inl g)), aw_Dr yI da (aw_ud (aw_ud (aw_ud (aw_ud (aw_ud dv 0 np) 1 ns) 2 nk) 3 (ns * nk)) 4 0), aw_Mr yI pa pf] H := hP
  have hD : va_D _ [(o, .inr (0, [.int (zI (dv 0)), .int (zI (dv 1)), .int (zI (dv 2)), .int (zI (dv 3)), .int ty, .int px, .int pr, .int (zI (dv 7)), .int (zI (dv 8)), .ref oa, .ref ba])), (oa, .inl (yZ, 72, .inl (aw_f ob))), (ba, .inl (yI, 72, .inl g)), aw_Dr yI da (aw_ud (aw_ud (aw_ud (aw_ud (aw_ud dv 0 np) 1 ns) 2 nk) 3 (ns * nk)) 4 0), aw_Mr yI pa pf] := hD
  refine lv_aload_n hx hb dL_armature_53 rfl (lv_at hl 2 rfl) ?_
  refine zb_iconst hx hb dL_armature_54 ?_
  refine zb_iconst hx hb dL_armature_55 ?_
  refine aw_dst hx hb hK hP hD hS 3 1 rfl rfl 5 (by decide) dL_armature_56 (fun H locs hP hD hS => ?_)
  have hP : va_P D vwCl [(o, .inr (0, [.int (zI (dv 0)), .int (zI (dv 1)), .int (zI (dv 2)), .int (zI (dv 3)), .int ty, .int px, .int pr, .int (zI (dv 7)), .int (zI (dv 8)), .ref oa, .ref ba])), (oa, .inl (yZ, 72, .inl (aw_f ob))), (ba, .inl (yI, 72, .inl g)), aw_Dr yI da (aw_ud (aw_ud (aw_ud (aw_ud (aw_ud (aw_ud dv 0 np) 1 ns) 2 nk) 3 (ns * nk)) 4 0) 5 1), aw_Mr yI pa pf] H := hP
  have hD : va_D _ [(o, .inr (0, [.int (zI (dv 0)), .int (zI (dv 1)), .int (zI (dv 2)), .int (zI (dv 3)), .int ty, .int px, .int pr, .int (zI (dv 7)), .int (zI (dv 8)), .ref oa, .ref ba])), (oa, .inl (yZ, 72, .inl (aw_f ob))), (ba, .inl (yI, 72, .inl g)), aw_Dr yI da (aw_ud (aw_ud (aw_ud (aw_ud (aw_ud (aw_ud dv 0 np) 1 ns) 2 nk) 3 (ns * nk)) 4 0) 5 1), aw_Mr yI pa pf] := hD
  refine lv_aload_n hx hb dL_armature_57 rfl (lv_at hl 2 rfl) ?_
  refine zb_bipush hx hb dL_armature_58 (by decide) ?_
  refine zb_iconst hx hb dL_armature_60 ?_
  refine aw_dst hx hb hK hP hD hS 3 1 rfl rfl 6 (by decide) dL_armature_61 (fun H locs hP hD hS => ?_)
  have hP : va_P D vwCl [(o, .inr (0, [.int (zI (dv 0)), .int (zI (dv 1)), .int (zI (dv 2)), .int (zI (dv 3)), .int ty, .int px, .int pr, .int (zI (dv 7)), .int (zI (dv 8)), .ref oa, .ref ba])), (oa, .inl (yZ, 72, .inl (aw_f ob))), (ba, .inl (yI, 72, .inl g)), aw_Dr yI da (aw_ud (aw_ud (aw_ud (aw_ud (aw_ud (aw_ud (aw_ud dv 0 np) 1 ns) 2 nk) 3 (ns * nk)) 4 0) 5 1) 6 1), aw_Mr yI pa pf] H := hP
  have hD : va_D _ [(o, .inr (0, [.int (zI (dv 0)), .int (zI (dv 1)), .int (zI (dv 2)), .int (zI (dv 3)), .int ty, .int px, .int pr, .int (zI (dv 7)), .int (zI (dv 8)), .ref oa, .ref ba])), (oa, .inl (yZ, 72, .inl (aw_f ob))), (ba, .inl (yI, 72, .inl g)), aw_Dr yI da (aw_ud (aw_ud (aw_ud (aw_ud (aw_ud (aw_ud (aw_ud dv 0 np) 1 ns) 2 nk) 3 (ns * nk)) 4 0) 5 1) 6 1), aw_Mr yI pa pf] := hD
  refine lv_aload_n hx hb dL_armature_62 rfl (lv_at hl 2 rfl) ?_
  refine zb_bipush hx hb dL_armature_63 (by decide) ?_
  refine zb_iconst hx hb dL_armature_65 ?_
  refine aw_dst hx hb hK hP hD hS 3 1 rfl rfl 7 (by decide) dL_armature_66 (fun H locs hP hD hS => ?_)
  have hP : va_P D vwCl [(o, .inr (0, [.int (zI (dv 0)), .int (zI (dv 1)), .int (zI (dv 2)), .int (zI (dv 3)), .int ty, .int px, .int pr, .int (zI (dv 7)), .int (zI (dv 8)), .ref oa, .ref ba])), (oa, .inl (yZ, 72, .inl (aw_f ob))), (ba, .inl (yI, 72, .inl g)), aw_Dr yI da (aw_ud (aw_ud (aw_ud (aw_ud (aw_ud (aw_ud (aw_ud (aw_ud dv 0 np) 1 ns) 2 nk) 3 (ns * nk)) 4 0) 5 1) 6 1) 7 1), aw_Mr yI pa pf] H := hP
  have hD : va_D _ [(o, .inr (0, [.int (zI (dv 0)), .int (zI (dv 1)), .int (zI (dv 2)), .int (zI (dv 3)), .int ty, .int px, .int pr, .int (zI (dv 7)), .int (zI (dv 8)), .ref oa, .ref ba])), (oa, .inl (yZ, 72, .inl (aw_f ob))), (ba, .inl (yI, 72, .inl g)), aw_Dr yI da (aw_ud (aw_ud (aw_ud (aw_ud (aw_ud (aw_ud (aw_ud (aw_ud dv 0 np) 1 ns) 2 nk) 3 (ns * nk)) 4 0) 5 1) 6 1) 7 1), aw_Mr yI pa pf] := hD
  refine lv_aload_n hx hb dL_armature_67 rfl (lv_at hl 2 rfl) ?_
  refine zb_bipush hx hb dL_armature_68 (by decide) ?_
  refine zb_iconst hx hb dL_armature_70 ?_
  refine aw_dst hx hb hK hP hD hS 3 1 rfl rfl 8 (by decide) dL_armature_71 (fun H locs hP hD hS => ?_)
  have hP : va_P D vwCl [(o, .inr (0, [.int (zI (dv 0)), .int (zI (dv 1)), .int (zI (dv 2)), .int (zI (dv 3)), .int ty, .int px, .int pr, .int (zI (dv 7)), .int (zI (dv 8)), .ref oa, .ref ba])), (oa, .inl (yZ, 72, .inl (aw_f ob))), (ba, .inl (yI, 72, .inl g)), aw_Dr yI da (aw_ud (aw_ud (aw_ud (aw_ud (aw_ud (aw_ud (aw_ud (aw_ud (aw_ud dv 0 np) 1 ns) 2 nk) 3 (ns * nk)) 4 0) 5 1) 6 1) 7 1) 8 0), aw_Mr yI pa pf] H := hP
  have hD : va_D _ [(o, .inr (0, [.int (zI (dv 0)), .int (zI (dv 1)), .int (zI (dv 2)), .int (zI (dv 3)), .int ty, .int px, .int pr, .int (zI (dv 7)), .int (zI (dv 8)), .ref oa, .ref ba])), (oa, .inl (yZ, 72, .inl (aw_f ob))), (ba, .inl (yI, 72, .inl g)), aw_Dr yI da (aw_ud (aw_ud (aw_ud (aw_ud (aw_ud (aw_ud (aw_ud (aw_ud (aw_ud dv 0 np) 1 ns) 2 nk) 3 (ns * nk)) 4 0) 5 1) 6 1) 7 1) 8 0), aw_Mr yI pa pf] := hD
  refine zb_iconst hx hb dL_armature_72 ?_
  refine lv_istore (lv' := [(4, .int (zI 0)), (0, .ref o), (1, .int (zI x)), (2, .ref da), (3, .ref pa)]) hx hb dL_armature_73 hl (by decide) rfl (fun ls hl => ?_)
  refine zb_lpm (nL := 5) (τ := Nat → Int32) (fun z pf2 => 0 ≤ z ∧ z ≤ 3 ∧ ∀ j : Nat, (j : Int) < z → pf2 j = zI 0) (fun z => [(4, .int (zI z)), (3, .ref pa), (2, .ref da), (1, .int (zI x)), (0, .ref o)]) (fun pf2 => [(o, .inr (0, [.int (zI (dv 0)), .int (zI (dv 1)), .int (zI (dv 2)), .int (zI (dv 3)), .int ty, .int px, .int pr, .int (zI (dv 7)), .int (zI (dv 8)), .ref oa, .ref ba])), (oa, .inl (yZ, 72, .inl (aw_f ob))), (ba, .inl (yI, 72, .inl g)), aw_Dr yI da (aw_ud (aw_ud (aw_ud (aw_ud (aw_ud (aw_ud (aw_ud (aw_ud (aw_ud dv 0 np) 1 ns) 2 nk) 3 (ns * nk)) 4 0) 5 1) 6 1) 7 1) 8 0), aw_Mr yI pa pf2]) (fun z => 3 - z) 0 pf ⟨by omega, by omega, fun j hj => by omega⟩ (lv_sub hl [0, 4, 3, 2, 1] rfl) hP hD hS ?_
  intro z pf2 H locs ls hJ75 hl hP hD hS ih75
  have hJ75 : 0 ≤ z ∧ z ≤ 3 ∧ ∀ j : Nat, (j : Int) < z → pf2 j = zI 0 := hJ75
  have hl : lv_has ls 5 [(4, .int (zI z)), (3, .ref pa), (2, .ref da), (1, .int (zI x)), (0, .ref o)] := hl
  have hP : va_P D vwCl [(o, .inr (0, [.int (zI (dv 0)), .int (zI (dv 1)), .int (zI (dv 2)), .int (zI (dv 3)), .int ty, .int px, .int pr, .int (zI (dv 7)), .int (zI (dv 8)), .ref oa, .ref ba])), (oa, .inl (yZ, 72, .inl (aw_f ob))), (ba, .inl (yI, 72, .inl g)), aw_Dr yI da (aw_ud (aw_ud (aw_ud (aw_ud (aw_ud (aw_ud (aw_ud (aw_ud (aw_ud dv 0 np) 1 ns) 2 nk) 3 (ns * nk)) 4 0) 5 1) 6 1) 7 1) 8 0), aw_Mr yI pa pf2] H := hP
  have hD : va_D _ [(o, .inr (0, [.int (zI (dv 0)), .int (zI (dv 1)), .int (zI (dv 2)), .int (zI (dv 3)), .int ty, .int px, .int pr, .int (zI (dv 7)), .int (zI (dv 8)), .ref oa, .ref ba])), (oa, .inl (yZ, 72, .inl (aw_f ob))), (ba, .inl (yI, 72, .inl g)), aw_Dr yI da (aw_ud (aw_ud (aw_ud (aw_ud (aw_ud (aw_ud (aw_ud (aw_ud (aw_ud dv 0 np) 1 ns) 2 nk) 3 (ns * nk)) 4 0) 5 1) 6 1) 7 1) 8 0), aw_Mr yI pa pf2] := hD
  refine lv_iload hx hb dL_armature_75 (lv_at hl 0 rfl) ?_
  refine zb_iconst hx hb dL_armature_77 ?_
  refine zb_cge (tgt := 92) hx hb dL_armature_78 (by decide) (by omega) (by omega) (fun c78 => ?_) (fun c78 => ?_)
  · skip
    have hpf : ∀ j : Nat, j < 3 → pf2 j = zI 0 := fun j hj => hJ75.2.2 j (by omega)
    refine lv_aload_n hx hb dL_armature_92 rfl (lv_at hl 4 rfl) ?_
    refine zb_iconst hx hb dL_armature_93 ?_
    refine zb_bipush hx hb dL_armature_94 (by decide) ?_
    refine zb_iconst hx hb dL_armature_96 ?_
    refine aw_callV (As := [.int (zI 3), .int (zI 12), .int (zI 1)]) (rest := []) ⟨hx, hb, hml, hown, hts⟩ (k_setArmature_no (a := 3) (b := 12) (k := 1) ⟨by omega, by omega⟩ ⟨by omega, by omega⟩ ⟨by omega, by omega⟩ (by omega)) (cwV 3 hts gL_armature_X0_setArmature rfl rfl rfl (by decide +kernel) ⟨Nat.le_of_ble_eq_true rfl, Nat.le_of_ble_eq_true rfl⟩) (hP.sub (ws' := [(o, .inr (0, [.int (zI (dv 0)), .int (zI (dv 1)), .int (zI (dv 2)), .int (zI (dv 3)), .int ty, .int px, .int pr, .int (zI (dv 7)), .int (zI (dv 8)), .ref oa, .ref ba])), (oa, .inl (yZ, 72, .inl (aw_f ob))), (ba, .inl (yI, 72, .inl g))]) [0, 1, 2] rfl) hK rfl rfl rfl hl.1 rfl (Nat.le_of_ble_eq_true rfl) dL_armature_97 ⟨Nat.zero_le _, Nat.zero_le _⟩ ?_
    refine zb_sipush hx hb dL_armature_100 (by decide) ?_
    refine zb_cne (tgt := 213) hx hb dL_armature_103 (by decide) (by omega) (by omega) (fun c103 => absurd c103 (by omega)) (fun c103 => ?_)
    refine lv_aload_n hx hb dL_armature_106 rfl (lv_at hl 4 rfl) ?_
    refine zb_bipush hx hb dL_armature_107 (by decide) ?_
    refine zb_bipush hx hb dL_armature_109 (by decide) ?_
    refine zb_iconst hx hb dL_armature_111 ?_
    refine aw_callV (As := [.int (zI 10), .int (zI 12), .int (zI 1)]) (rest := []) ⟨hx, hb, hml, hown, hts⟩ (k_setArmature_no (a := 10) (b := 12) (k := 1) ⟨by omega, by omega⟩ ⟨by omega, by omega⟩ ⟨by omega, by omega⟩ (by omega)) (cwV 3 hts gL_armature_X0_setArmature rfl rfl rfl (by decide +kernel) ⟨Nat.le_of_ble_eq_true rfl, Nat.le_of_ble_eq_true rfl⟩) (hP.sub (ws' := [(o, .inr (0, [.int (zI (dv 0)), .int (zI (dv 1)), .int (zI (dv 2)), .int (zI (dv 3)), .int ty, .int px, .int pr, .int (zI (dv 7)), .int (zI (dv 8)), .ref oa, .ref ba])), (oa, .inl (yZ, 72, .inl (aw_f ob))), (ba, .inl (yI, 72, .inl g))]) [0, 1, 2] rfl) hK rfl rfl rfl hl.1 rfl (Nat.le_of_ble_eq_true rfl) dL_armature_112 ⟨Nat.zero_le _, Nat.zero_le _⟩ ?_
    refine zb_sipush hx hb dL_armature_115 (by decide) ?_
    refine zb_cne (tgt := 213) hx hb dL_armature_118 (by decide) (by omega) (by omega) (fun c118 => absurd c118 (by omega)) (fun c118 => ?_)
    refine lv_aload_n hx hb dL_armature_121 rfl (lv_at hl 4 rfl) ?_
    refine lv_aload_n hx hb dL_armature_122 rfl (lv_at hl 2 rfl) ?_
    refine zb_iconst hx hb dL_armature_123 ?_
    refine aw_dld hx hb hK hP 3 1 rfl rfl 0 (by decide) dL_armature_124 ?_
    refine zb_as np rfl ?_
    refine lv_aload_n hx hb dL_armature_125 rfl (lv_at hl 2 rfl) ?_
    refine zb_iconst hx hb dL_armature_126 ?_
    refine aw_dld hx hb hK hP 3 1 rfl rfl 0 (by decide) dL_armature_127 ?_
    refine zb_as np rfl ?_
    refine zb_iconst hx hb dL_armature_128 ?_
    refine zb_sub hx hb dL_armature_129 ?_
    refine zb_iconst hx hb dL_armature_130 ?_
    refine aw_callV (As := [.int (zI np), .int (zI (np - 1)), .int (zI 1)]) (rest := []) ⟨hx, hb, hml, hown, hts⟩ (k_setArmature_no (a := np) (b := np - 1) (k := 1) ⟨by omega, by omega⟩ ⟨by omega, by omega⟩ ⟨by omega, by omega⟩ (by omega)) (cwV 3 hts gL_armature_X0_setArmature rfl rfl rfl (by decide +kernel) ⟨Nat.le_of_ble_eq_true rfl, Nat.le_of_ble_eq_true rfl⟩) (hP.sub (ws' := [(o, .inr (0, [.int (zI (dv 0)), .int (zI (dv 1)), .int (zI (dv 2)), .int (zI (dv 3)), .int ty, .int px, .int pr, .int (zI (dv 7)), .int (zI (dv 8)), .ref oa, .ref ba])), (oa, .inl (yZ, 72, .inl (aw_f ob))), (ba, .inl (yI, 72, .inl g))]) [0, 1, 2] rfl) hK rfl rfl rfl hl.1 rfl (Nat.le_of_ble_eq_true rfl) dL_armature_131 ⟨Nat.zero_le _, Nat.zero_le _⟩ ?_
    refine zb_sipush hx hb dL_armature_134 (by decide) ?_
    refine zb_cne (tgt := 213) hx hb dL_armature_137 (by decide) (by omega) (by omega) (fun c137 => absurd c137 (by omega)) (fun c137 => ?_)
    refine lv_aload_n hx hb dL_armature_140 rfl (lv_at hl 4 rfl) ?_
    refine lv_aload_n hx hb dL_armature_141 rfl (lv_at hl 2 rfl) ?_
    refine zb_iconst hx hb dL_armature_142 ?_
    refine aw_dld hx hb hK hP 3 1 rfl rfl 0 (by decide) dL_armature_143 ?_
    refine zb_as np rfl ?_
    refine zb_bipush hx hb dL_armature_144 (by decide) ?_
    refine zb_iconst hx hb dL_armature_146 ?_
    refine aw_callV (As := [.int (zI np), .int (zI 25), .int (zI 1)]) (rest := []) ⟨hx, hb, hml, hown, hts⟩ (k_setArmature_no (a := np) (b := 25) (k := 1) ⟨by omega, by omega⟩ ⟨by omega, by omega⟩ ⟨by omega, by omega⟩ (by omega)) (cwV 3 hts gL_armature_X0_setArmature rfl rfl rfl (by decide +kernel) ⟨Nat.le_of_ble_eq_true rfl, Nat.le_of_ble_eq_true rfl⟩) (hP.sub (ws' := [(o, .inr (0, [.int (zI (dv 0)), .int (zI (dv 1)), .int (zI (dv 2)), .int (zI (dv 3)), .int ty, .int px, .int pr, .int (zI (dv 7)), .int (zI (dv 8)), .ref oa, .ref ba])), (oa, .inl (yZ, 72, .inl (aw_f ob))), (ba, .inl (yI, 72, .inl g))]) [0, 1, 2] rfl) hK rfl rfl rfl hl.1 rfl (Nat.le_of_ble_eq_true rfl) dL_armature_147 ⟨Nat.zero_le _, Nat.zero_le _⟩ ?_
    refine zb_sipush hx hb dL_armature_150 (by decide) ?_
    refine zb_cne (tgt := 213) hx hb dL_armature_153 (by decide) (by omega) (by omega) (fun c153 => absurd c153 (by omega)) (fun c153 => ?_)
    refine lv_aload_n hx hb dL_armature_156 rfl (lv_at hl 4 rfl) ?_
    refine lv_aload_n hx hb dL_armature_157 rfl (lv_at hl 2 rfl) ?_
    refine zb_iconst hx hb dL_armature_158 ?_
    refine aw_dld hx hb hK hP 3 1 rfl rfl 0 (by decide) dL_armature_159 ?_
    refine zb_as np rfl ?_
    refine lv_aload_n hx hb dL_armature_160 rfl (lv_at hl 2 rfl) ?_
    refine zb_iconst hx hb dL_armature_161 ?_
    refine aw_dld hx hb hK hP 3 1 rfl rfl 1 (by decide) dL_armature_162 ?_
    refine zb_as ns rfl ?_
    refine zb_iconst hx hb dL_armature_163 ?_
    refine aw_callV (As := [.int (zI np), .int (zI ns), .int (zI 0)]) (rest := []) ⟨hx, hb, hml, hown, hts⟩ (k_setArmature_no (a := np) (b := ns) (k := 0) ⟨by omega, by omega⟩ ⟨by omega, by omega⟩ ⟨by omega, by omega⟩ (by omega)) (cwV 3 hts gL_armature_X0_setArmature rfl rfl rfl (by decide +kernel) ⟨Nat.le_of_ble_eq_true rfl, Nat.le_of_ble_eq_true rfl⟩) (hP.sub (ws' := [(o, .inr (0, [.int (zI (dv 0)), .int (zI (dv 1)), .int (zI (dv 2)), .int (zI (dv 3)), .int ty, .int px, .int pr, .int (zI (dv 7)), .int (zI (dv 8)), .ref oa, .ref ba])), (oa, .inl (yZ, 72, .inl (aw_f ob))), (ba, .inl (yI, 72, .inl g))]) [0, 1, 2] rfl) hK rfl rfl rfl hl.1 rfl (Nat.le_of_ble_eq_true rfl) dL_armature_164 ⟨Nat.zero_le _, Nat.zero_le _⟩ ?_
    refine zb_sipush hx hb dL_armature_167 (by decide) ?_
    refine zb_cne (tgt := 213) hx hb dL_armature_170 (by decide) (by omega) (by omega) (fun c170 => absurd c170 (by omega)) (fun c170 => ?_)
    refine lv_aload_n hx hb dL_armature_173 rfl (lv_at hl 4 rfl) ?_
    refine lv_aload_n hx hb dL_armature_174 rfl (lv_at hl 2 rfl) ?_
    refine zb_iconst hx hb dL_armature_175 ?_
    refine aw_dld hx hb hK hP 3 1 rfl rfl 0 (by decide) dL_armature_176 ?_
    refine zb_as np rfl ?_
    refine lv_aload_n hx hb dL_armature_177 rfl (lv_at hl 2 rfl) ?_
    refine zb_iconst hx hb dL_armature_178 ?_
    refine aw_dld hx hb hK hP 3 1 rfl rfl 1 (by decide) dL_armature_179 ?_
    refine zb_as ns rfl ?_
    refine zb_iconst hx hb dL_armature_180 ?_
    refine aw_callV (As := [.int (zI np), .int (zI ns), .int (zI 4)]) (rest := []) ⟨hx, hb, hml, hown, hts⟩ (k_setArmature_no (a := np) (b := ns) (k := 4) ⟨by omega, by omega⟩ ⟨by omega, by omega⟩ ⟨by omega, by omega⟩ (by omega)) (cwV 3 hts gL_armature_X0_setArmature rfl rfl rfl (by decide +kernel) ⟨Nat.le_of_ble_eq_true rfl, Nat.le_of_ble_eq_true rfl⟩) (hP.sub (ws' := [(o, .inr (0, [.int (zI (dv 0)), .int (zI (dv 1)), .int (zI (dv 2)), .int (zI (dv 3)), .int ty, .int px, .int pr, .int (zI (dv 7)), .int (zI (dv 8)), .ref oa, .ref ba])), (oa, .inl (yZ, 72, .inl (aw_f ob))), (ba, .inl (yI, 72, .inl g))]) [0, 1, 2] rfl) hK rfl rfl rfl hl.1 rfl (Nat.le_of_ble_eq_true rfl) dL_armature_181 ⟨Nat.zero_le _, Nat.zero_le _⟩ ?_
    refine zb_sipush hx hb dL_armature_184 (by decide) ?_
    refine zb_cne (tgt := 213) hx hb dL_armature_187 (by decide) (by omega) (by omega) (fun c187 => absurd c187 (by omega)) (fun c187 => ?_)
    refine lv_aload_n hx hb dL_armature_190 rfl (lv_at hl 4 rfl) ?_
    refine lv_aload_n hx hb dL_armature_191 rfl (lv_at hl 2 rfl) ?_
    refine zb_iconst hx hb dL_armature_192 ?_
    refine aw_dld hx hb hK hP 3 1 rfl rfl 0 (by decide) dL_armature_193 ?_
    refine zb_as np rfl ?_
    refine lv_aload_n hx hb dL_armature_194 rfl (lv_at hl 2 rfl) ?_
    refine zb_iconst hx hb dL_armature_195 ?_
    refine aw_dld hx hb hK hP 3 1 rfl rfl 1 (by decide) dL_armature_196 ?_
    refine zb_as ns rfl ?_
    refine lv_aload_n hx hb dL_armature_197 rfl (lv_at hl 2 rfl) ?_
    refine zb_iconst hx hb dL_armature_198 ?_
    refine aw_dld hx hb hK hP 3 1 rfl rfl 2 (by decide) dL_armature_199 ?_
    refine zb_as nk rfl ?_
    refine aw_callMV (As := [.int (zI np), .int (zI ns), .int (zI nk)]) (rest := []) (wc := [(o, .inr (0, [.int (zI (dv 0)), .int (zI (dv 1)), .int (zI (dv 2)), .int (zI (dv 3)), .int ty, .int px, .int pr, .int (zI (dv 7)), .int (zI (dv 8)), .ref oa, .ref ba])), (oa, .inl (yZ, 72, .inl (aw_f ob))), (ba, .inl (yI, 72, .inl g))]) (wr := [aw_Dr yI da (aw_ud (aw_ud (aw_ud (aw_ud (aw_ud (aw_ud (aw_ud (aw_ud (aw_ud dv 0 np) 1 ns) 2 nk) 3 (ns * nk)) 4 0) 5 1) 6 1) 7 1) 8 0), aw_Mr yI pa pf2]) (ws2 := fun u => [(o, .inr (0, [.int (zI np), .int (zI ns), .int (zI nk), .int (zI (ns * nk)), .int (zI 0), .int (zI 1), .int (zI 1), .int (zI 1), .int (zI 0), .ref oa, .ref ba])), (oa, .inl (yZ, 72, .inl (aw_f (u.1)))), (ba, .inl (yI, 72, .inl (u.2))), aw_Dr yI da (aw_ud (aw_ud (aw_ud (aw_ud (aw_ud (aw_ud (aw_ud (aw_ud (aw_ud dv 0 np) 1 ns) 2 nk) 3 (ns * nk)) 4 0) 5 1) 6 1) 7 1) 8 0), aw_Mr yI pa pf2]) ⟨hx, hb, hml, hown, hts⟩ (k_setArmature (a := np) (b := ns) (k := nk) ⟨by omega, by omega⟩ (by omega) ⟨by omega, by omega⟩ ⟨by omega, by omega⟩) (cwV 3 hts gL_armature_X0_setArmature rfl rfl rfl (by decide +kernel) ⟨Nat.le_of_ble_eq_true rfl, Nat.le_of_ble_eq_true rfl⟩) hP hD hK hS hA rfl rfl [0, 1, 2] [3, 4] rfl rfl (by decide) (by decide) (by decide) [2, 3, 4, 0, 1] (by decide) (fun _ => rfl) rfl hl.1 rfl (Nat.le_of_ble_eq_true rfl) dL_armature_200 ⟨Nat.zero_le _, Nat.zero_le _⟩ (fun u H locs hu hP hD hS => ?_)
    obtain ⟨ob2, g2⟩ := u
    have hu : ∀ z : Int, 0 ≤ z → z < 72 → ob2 z = false := hu
    have hP : va_P D vwCl [(o, .inr (0, [.int (zI np), .int (zI ns), .int (zI nk), .int (zI (ns * nk)), .int (zI 0), .int (zI 1), .int (zI 1), .int (zI 1), .int (zI 0), .ref oa, .ref ba])), (oa, .inl (yZ, 72, .inl (aw_f ob2))), (ba, .inl (yI, 72, .inl g2)), aw_Dr yI da (aw_ud (aw_ud (aw_ud (aw_ud (aw_ud (aw_ud (aw_ud (aw_ud (aw_ud dv 0 np) 1 ns) 2 nk) 3 (ns * nk)) 4 0) 5 1) 6 1) 7 1) 8 0), aw_Mr yI pa pf2] H := hP
    have hD : va_D _ [(o, .inr (0, [.int (zI np), .int (zI ns), .int (zI nk), .int (zI (ns * nk)), .int (zI 0), .int (zI 1), .int (zI 1), .int (zI 1), .int (zI 0), .ref oa, .ref ba])), (oa, .inl (yZ, 72, .inl (aw_f ob2))), (ba, .inl (yI, 72, .inl g2)), aw_Dr yI da (aw_ud (aw_ud (aw_ud (aw_ud (aw_ud (aw_ud (aw_ud (aw_ud (aw_ud dv 0 np) 1 ns) 2 nk) 3 (ns * nk)) 4 0) 5 1) 6 1) 7 1) 8 0), aw_Mr yI pa pf2] := hD
    refine W.eq (g2 := F0 m 203 ls [.int (zI (ns * nk))]) rfl ?_
    refine lv_aload_n hx hb dL_armature_203 rfl (lv_at hl 2 rfl) ?_
    refine zb_iconst hx hb dL_armature_204 ?_
    refine aw_dld hx hb hK hP 3 1 rfl rfl 3 (by decide) dL_armature_205 ?_
    refine zb_as (ns * nk) rfl ?_
    refine zb_cne (tgt := 213) hx hb dL_armature_206 (by decide) (by omega) (by omega) (fun c206 => absurd c206 (by omega)) (fun c206 => ?_)
    refine zb_iconst hx hb dL_armature_209 ?_
    refine lv_goto (tgt := 214) hx hb dL_armature_210 (by decide) ?_
    exact aw_zretM (z := 1) (post := aw_p5) (ws' := fun u => aw_w5 yZ yI o oa ba da pa u) ((aw_ud (aw_ud (aw_ud (aw_ud (aw_ud (aw_ud (aw_ud (aw_ud (aw_ud dv 0 np) 1 ns) 2 nk) 3 (ns * nk)) 4 0) 5 1) 6 1) 7 1) 8 0, pf2, ob2, (zI 0, zI 1, zI 1), g2) : aw_S5) hx hb hr hlocks dL_armature_214 (by omega) (by first | rfl | omega) ⟨hIn, aw_OB_0 hpf hu⟩ hP hK hD hS
  · skip
    refine lv_aload_n hx hb dL_armature_81 rfl (lv_at hl 1 rfl) ?_
    refine lv_iload hx hb dL_armature_82 (lv_at hl 0 rfl) ?_
    refine zb_iconst hx hb dL_armature_84 ?_
    refine va_iast hx hb hK hP hD hS 4 1 rfl rfl (zI_in (by omega) (by omega) (by omega)) dL_armature_85 (fun H locs hP hD hS => ?_)
    have hP : va_P D vwCl [(o, .inr (0, [.int (zI (dv 0)), .int (zI (dv 1)), .int (zI (dv 2)), .int (zI (dv 3)), .int ty, .int px, .int pr, .int (zI (dv 7)), .int (zI (dv 8)), .ref oa, .ref ba])), (oa, .inl (yZ, 72, .inl (aw_f ob))), (ba, .inl (yI, 72, .inl g)), aw_Dr yI da (aw_ud (aw_ud (aw_ud (aw_ud (aw_ud (aw_ud (aw_ud (aw_ud (aw_ud dv 0 np) 1 ns) 2 nk) 3 (ns * nk)) 4 0) 5 1) 6 1) 7 1) 8 0), aw_Mr yI pa (upd pf2 (zI z).toNatClampNeg (zI 0))] H := hP
    have hD : va_D _ [(o, .inr (0, [.int (zI (dv 0)), .int (zI (dv 1)), .int (zI (dv 2)), .int (zI (dv 3)), .int ty, .int px, .int pr, .int (zI (dv 7)), .int (zI (dv 8)), .ref oa, .ref ba])), (oa, .inl (yZ, 72, .inl (aw_f ob))), (ba, .inl (yI, 72, .inl g)), aw_Dr yI da (aw_ud (aw_ud (aw_ud (aw_ud (aw_ud (aw_ud (aw_ud (aw_ud (aw_ud dv 0 np) 1 ns) 2 nk) 3 (ns * nk)) 4 0) 5 1) 6 1) 7 1) 8 0), aw_Mr yI pa (upd pf2 (zI z).toNatClampNeg (zI 0))] := hD
    refine zb_iinc (lv' := [(4, .int (zI (z + 1))), (3, .ref pa), (2, .ref da), (1, .int (zI x)), (0, .ref o)]) hx hb dL_armature_86 hl (k := 0) rfl (by decide) rfl (fun ls hl => ?_)
    refine lv_goto (tgt := 75) hx hb dL_armature_89 (by decide) ?_
    exact ih75 (z + 1) (upd pf2 (zI z).toNatClampNeg (zI 0)) H locs ls ⟨by omega, by omega, fun j hj => by unfold upd; rw [zI_clamp (by omega)]; by_cases q : j = z.toNat; rw [if_pos q]; rw [if_neg q]; exact hJ75.2.2 j (by omega)⟩ (by omega) (lv_sub hl [0, 1, 2, 3, 4] rfl) hP hD hS
set_option maxHeartbeats 4000000 in
set_option maxRecDepth 100000 in
/-- the law's winding: true -/
theorem k_winding (hI : aw_In (dv 0) (dv 1) (dv 2) (dv 3) (dv 7) (dv 8)) (hO : aw_OB pf ob) {x : Int} (hx0 : 0 ≤ x ∧ x < 2147483648) : aw_MU (S := aw_S5) l yL_winding wsL_winding (aw_rm 3 67) D (aw_T yZ yI) [(o, .inr (0, [.int (zI (dv 0)), .int (zI (dv 1)), .int (zI (dv 2)), .int (zI (dv 3)), .int ty, .int px, .int pr, .int (zI (dv 7)), .int (zI (dv 8)), .ref oa, .ref ba])), (oa, .inl (yZ, 72, .inl (aw_f ob))), (ba, .inl (yI, 72, .inl g)), aw_Dr yI da dv, aw_Mr yI pa pf] [.ref o, .int (zI x), .ref da] (some (1)) (aw_p5) (fun u => aw_w5 yZ yI o oa ba da pa u) := by
  intro sz
  refine Met.ofW (cc := cL_winding) (maxL := 8) (ret := (some .boolean)) (by decide) rfl ?_
  intro p e s m args below meth c s₁ B hml hv
  obtain ⟨rfl, hsz, hP, hK, hD0⟩ := hv
  have hx := B.exec
  have hb := B.bytes
  have hr := B.returns
  have hts := atoms_spec (ws := wsL_winding) B.pre
  have hown : s.vm.findClass RL = some m.cls := findClass_of_methodNamed B.named
  have hlocks := B.notSynchronized
  subst hsz
  have hD := hD0.self (sz := s.heap.size)
  have hA : ∀ q : Nat, s.heap.size ≤ q → va_A [(o, .inr (0, [.int (zI (dv 0)), .int (zI (dv 1)), .int (zI (dv 2)), .int (zI (dv 3)), .int ty, .int px, .int pr, .int (zI (dv 7)), .int (zI (dv 8)), .ref oa, .ref ba])), (oa, .inl (yZ, 72, .inl (aw_f ob))), (ba, .inl (yI, 72, .inl g)), aw_Dr yI da dv, aw_Mr yI pa pf] s.heap.size q := fun q h => Or.inr h
  have hS : va_S (va_A [(o, .inr (0, [.int (zI (dv 0)), .int (zI (dv 1)), .int (zI (dv 2)), .int (zI (dv 3)), .int ty, .int px, .int pr, .int (zI (dv 7)), .int (zI (dv 8)), .ref oa, .ref ba])), (oa, .inl (yZ, 72, .inl (aw_f ob))), (ba, .inl (yI, 72, .inl g)), aw_Dr yI da dv, aw_Mr yI pa pf] s.heap.size) s.heap s.heap [] := va_S.rf
  have hl := lv_entry ([.ref o, .int (zI x), .ref da]) (n := 8) (Nat.le_of_ble_eq_true rfl)
  rw [lg_entry_eq]
  generalize (lg_sl ([.ref o, .int (zI x), .ref da]) ++ List.replicate (8 - (lg_sl ([.ref o, .int (zI x), .ref da])).length) Slot.unset).toArray = ls at hl ⊢
  have hl : lv_has ls 8 [(0, .ref o), (1, .int (zI x)), (2, .ref da)] := hl
  obtain ⟨i1, i2, i3, i4, i5, i6, i7, i8, i9, i10, i11, i12, i13⟩ := id hI
  refine lv_iload_n hx hb dL_winding_0 rfl (lv_at hl 1 rfl) ?_
  refine zb_iconst hx hb dL_winding_1 ?_
  refine zb_rem hx hb dL_winding_2 (by omega) (by omega) ?_
  refine zb_nm (fun t e_t => ?_)
  have ht : 0 ≤ t ∧ t ≤ 1 := by omega
  refine lv_istore_n (lv' := [(3, .int (zI t)), (0, .ref o), (1, .int (zI x)), (2, .ref da)]) hx hb dL_winding_3 rfl hl (by decide) rfl (fun ls hl => ?_)
  refine zb_iconst hx hb dL_winding_4 ?_
  refine lv_iload_n hx hb dL_winding_5 rfl (lv_at hl 2 rfl) ?_
  refine zb_iconst hx hb dL_winding_6 ?_
  refine zb_div hx hb dL_winding_7 (by omega) (by omega) ?_
  refine zb_iconst hx hb dL_winding_8 ?_
  refine zb_rem hx hb dL_winding_9 (by omega) (by omega) ?_
  refine zb_add hx hb dL_winding_10 ?_
  refine zb_nm (fun k e_k => ?_)
  have hk : 1 ≤ k ∧ k ≤ 3 := by omega
  refine lv_istore (lv' := [(4, .int (zI k)), (3, .int (zI t)), (0, .ref o), (1, .int (zI x)), (2, .ref da)]) hx hb dL_winding_11 hl (by decide) rfl (fun ls hl => ?_)
  refine lv_iload_n hx hb dL_winding_13 rfl (lv_at hl 3 rfl) ?_
  refine zb_bipush hx hb dL_winding_14 (by decide) ?_
  refine zb_div hx hb dL_winding_16 (by omega) (by omega) ?_
  refine zb_iconst hx hb dL_winding_17 ?_
  refine zb_rem hx hb dL_winding_18 (by omega) (by omega) ?_
  refine zb_nm (fun b e_b => ?_)
  have hb0 : 0 ≤ b ∧ b ≤ 1 := by omega
  refine lv_istore (lv' := [(5, .int (zI b)), (4, .int (zI k)), (3, .int (zI t)), (0, .ref o), (1, .int (zI x)), (2, .ref da)]) hx hb dL_winding_19 hl (by decide) rfl (fun ls hl => ?_)
  refine lv_iload hx hb dL_winding_21 (lv_at hl 0 rfl) ?_
  refine zb_iconst hx hb dL_winding_23 ?_
  refine zb_join (fun h => b = 1 ∧ h = k ∨ b = 0 ∧ h = -k) (pcj := 35) (lj := ls) (rj := []) (fun h hh => ?_) (fun hj35 => ?_)
  rotate_left
  · skip
    refine zb_cne (tgt := 32) hx hb dL_winding_24 (by decide) (by omega) (by omega) (fun c24 => ?_) (fun c24 => ?_)
    · skip
      refine lv_iload hx hb dL_winding_32 (lv_at hl 1 rfl) ?_
      refine zb_neg hx hb dL_winding_34 ?_
      exact hj35 (-k) (by omega)
    · skip
      refine lv_iload hx hb dL_winding_27 (lv_at hl 1 rfl) ?_
      refine lv_goto (tgt := 35) hx hb dL_winding_29 (by decide) ?_
      exact hj35 k (by omega)
  · skip
    refine lv_istore (lv' := [(6, .int (zI h)), (5, .int (zI b)), (4, .int (zI k)), (3, .int (zI t)), (0, .ref o), (1, .int (zI x)), (2, .ref da)]) hx hb dL_winding_35 hl (by decide) rfl (fun ls hl => ?_)
    refine lv_aload_n hx hb dL_winding_37 rfl (lv_at hl 6 rfl) ?_
    refine zb_iconst hx hb dL_winding_38 ?_
    refine aw_dld hx hb hK hP 3 1 rfl rfl 3 (by decide) dL_winding_39 ?_
    refine lv_iload hx hb dL_winding_40 (lv_at hl 0 rfl) ?_
    refine zb_add hx hb dL_winding_42 ?_
    refine lv_istore (lv' := [(7, .int (zI ((dv 3) + h))), (6, .int (zI h)), (5, .int (zI b)), (4, .int (zI k)), (3, .int (zI t)), (0, .ref o), (1, .int (zI x)), (2, .ref da)]) hx hb dL_winding_43 hl (by decide) rfl (fun ls hl => ?_)
    have htd := aw_tdiv_in (x := dv 3 + h) (y := dv 0 / 2) (a := 75) (by omega) (by omega) (by omega)
    refine lv_aload_n hx hb dL_winding_45 rfl (lv_at hl 5 rfl) ?_
    refine zb_iconst hx hb dL_winding_46 ?_
    refine lv_iload hx hb dL_winding_47 (lv_at hl 3 rfl) ?_
    refine zb_iconst hx hb dL_winding_49 ?_
    refine aw_callV (As := [.int (zI 2), .int (zI k), .int (zI 1)]) (rest := []) ⟨hx, hb, hml, hown, hts⟩ (k_setWinding_oor (t := 2) (x := k) (b := 1) ⟨by omega, by omega⟩ ⟨by omega, by omega⟩ (by omega)) (cwV 3 hts gL_winding_X0_setWinding rfl rfl rfl (by decide +kernel) ⟨Nat.le_of_ble_eq_true rfl, Nat.le_of_ble_eq_true rfl⟩) (hP.sub (ws' := [(o, .inr (0, [.int (zI (dv 0)), .int (zI (dv 1)), .int (zI (dv 2)), .int (zI (dv 3)), .int ty, .int px, .int pr, .int (zI (dv 7)), .int (zI (dv 8)), .ref oa, .ref ba])), (oa, .inl (yZ, 72, .inl (aw_f ob))), (ba, .inl (yI, 72, .inl g))]) [0, 1, 2] rfl) hK rfl rfl rfl hl.1 rfl (Nat.le_of_ble_eq_true rfl) dL_winding_50 ⟨Nat.zero_le _, Nat.zero_le _⟩ ?_
    refine zb_sipush hx hb dL_winding_53 (by decide) ?_
    refine zb_cne (tgt := 98) hx hb dL_winding_56 (by decide) (by omega) (by omega) (fun c56 => absurd c56 (by omega)) (fun c56 => ?_)
    refine lv_aload_n hx hb dL_winding_59 rfl (lv_at hl 5 rfl) ?_
    refine zb_iconst hx hb dL_winding_60 ?_
    refine zb_iconst hx hb dL_winding_61 ?_
    refine zb_iconst hx hb dL_winding_62 ?_
    refine aw_callV (As := [.int (zI ((-1))), .int (zI 1), .int (zI 1)]) (rest := []) ⟨hx, hb, hml, hown, hts⟩ (k_setWinding_oor (t := -1) (x := 1) (b := 1) ⟨by omega, by omega⟩ ⟨by omega, by omega⟩ (by omega)) (cwV 3 hts gL_winding_X0_setWinding rfl rfl rfl (by decide +kernel) ⟨Nat.le_of_ble_eq_true rfl, Nat.le_of_ble_eq_true rfl⟩) (hP.sub (ws' := [(o, .inr (0, [.int (zI (dv 0)), .int (zI (dv 1)), .int (zI (dv 2)), .int (zI (dv 3)), .int ty, .int px, .int pr, .int (zI (dv 7)), .int (zI (dv 8)), .ref oa, .ref ba])), (oa, .inl (yZ, 72, .inl (aw_f ob))), (ba, .inl (yI, 72, .inl g))]) [0, 1, 2] rfl) hK rfl rfl rfl hl.1 rfl (Nat.le_of_ble_eq_true rfl) dL_winding_63 ⟨Nat.zero_le _, Nat.zero_le _⟩ ?_
    refine zb_sipush hx hb dL_winding_66 (by decide) ?_
    refine zb_cne (tgt := 98) hx hb dL_winding_69 (by decide) (by omega) (by omega) (fun c69 => absurd c69 (by omega)) (fun c69 => ?_)
    refine lv_aload_n hx hb dL_winding_72 rfl (lv_at hl 5 rfl) ?_
    refine lv_iload_n hx hb dL_winding_73 rfl (lv_at hl 4 rfl) ?_
    refine zb_iconst hx hb dL_winding_74 ?_
    refine zb_iconst hx hb dL_winding_75 ?_
    refine aw_callV (As := [.int (zI t), .int (zI 0), .int (zI 1)]) (rest := []) ⟨hx, hb, hml, hown, hts⟩ (k_setWinding_oor (t := t) (x := 0) (b := 1) ⟨by omega, by omega⟩ ⟨by omega, by omega⟩ (by omega)) (cwV 3 hts gL_winding_X0_setWinding rfl rfl rfl (by decide +kernel) ⟨Nat.le_of_ble_eq_true rfl, Nat.le_of_ble_eq_true rfl⟩) (hP.sub (ws' := [(o, .inr (0, [.int (zI (dv 0)), .int (zI (dv 1)), .int (zI (dv 2)), .int (zI (dv 3)), .int ty, .int px, .int pr, .int (zI (dv 7)), .int (zI (dv 8)), .ref oa, .ref ba])), (oa, .inl (yZ, 72, .inl (aw_f ob))), (ba, .inl (yI, 72, .inl g))]) [0, 1, 2] rfl) hK rfl rfl rfl hl.1 rfl (Nat.le_of_ble_eq_true rfl) dL_winding_76 ⟨Nat.zero_le _, Nat.zero_le _⟩ ?_
    refine zb_sipush hx hb dL_winding_79 (by decide) ?_
    refine zb_cne (tgt := 98) hx hb dL_winding_82 (by decide) (by omega) (by omega) (fun c82 => absurd c82 (by omega)) (fun c82 => ?_)
    refine lv_aload_n hx hb dL_winding_85 rfl (lv_at hl 5 rfl) ?_
    refine lv_iload_n hx hb dL_winding_86 rfl (lv_at hl 4 rfl) ?_
    refine zb_iconst hx hb dL_winding_87 ?_
    refine zb_iconst hx hb dL_winding_88 ?_
    refine aw_callV (As := [.int (zI t), .int (zI 4), .int (zI 0)]) (rest := []) ⟨hx, hb, hml, hown, hts⟩ (k_setWinding_oor (t := t) (x := 4) (b := 0) ⟨by omega, by omega⟩ ⟨by omega, by omega⟩ (by omega)) (cwV 3 hts gL_winding_X0_setWinding rfl rfl rfl (by decide +kernel) ⟨Nat.le_of_ble_eq_true rfl, Nat.le_of_ble_eq_true rfl⟩) (hP.sub (ws' := [(o, .inr (0, [.int (zI (dv 0)), .int (zI (dv 1)), .int (zI (dv 2)), .int (zI (dv 3)), .int ty, .int px, .int pr, .int (zI (dv 7)), .int (zI (dv 8)), .ref oa, .ref ba])), (oa, .inl (yZ, 72, .inl (aw_f ob))), (ba, .inl (yI, 72, .inl g))]) [0, 1, 2] rfl) hK rfl rfl rfl hl.1 rfl (Nat.le_of_ble_eq_true rfl) dL_winding_89 ⟨Nat.zero_le _, Nat.zero_le _⟩ ?_
    refine zb_sipush hx hb dL_winding_92 (by decide) ?_
    refine zb_ceq (tgt := 100) hx hb dL_winding_95 (by decide) (by omega) (by omega) (fun c95 => ?_) (fun c95 => absurd c95 (by omega))
    refine lv_iload_n hx hb dL_winding_100 rfl (lv_at hl 4 rfl) ?_
    refine zb_iconst hx hb dL_winding_101 ?_
    refine zb_cne (tgt := 146) hx hb dL_winding_102 (by decide) (by omega) (by omega) (fun c102 => ?_) (fun c102 => ?_)
    · skip
      have t0 : t = 0 := by omega
      have hIn : aw_In (dv 0) (dv 1) (dv 2) (dv 3) h (dv 8) := ⟨by omega, by omega, by omega, by omega, by omega, by omega, i7, by omega, by omega, by omega, by omega, by omega, by omega⟩
      refine lv_aload_n hx hb dL_winding_146 rfl (lv_at hl 7 rfl) ?_
      refine zb_iconst hx hb dL_winding_147 ?_
      refine lv_iload_n hx hb dL_winding_148 rfl (lv_at hl 4 rfl) ?_
      refine aw_dst hx hb hK hP hD hS 3 1 rfl rfl 4 (by decide) dL_winding_149 (fun H locs hP hD hS => ?_)
      have hP : va_P D vwCl [(o, .inr (0, [.int (zI (dv 0)), .int (zI (dv 1)), .int (zI (dv 2)), .int (zI (dv 3)), .int ty, .int px, .int pr, .int (zI (dv 7)), .int (zI (dv 8)), .ref oa, .ref ba])), (oa, .inl (yZ, 72, .inl (aw_f ob))), (ba, .inl (yI, 72, .inl g)), aw_Dr yI da (aw_ud dv 4 t), aw_Mr yI pa pf] H := hP
      have hD : va_D _ [(o, .inr (0, [.int (zI (dv 0)), .int (zI (dv 1)), .int (zI (dv 2)), .int (zI (dv 3)), .int ty, .int px, .int pr, .int (zI (dv 7)), .int (zI (dv 8)), .ref oa, .ref ba])), (oa, .inl (yZ, 72, .inl (aw_f ob))), (ba, .inl (yI, 72, .inl g)), aw_Dr yI da (aw_ud dv 4 t), aw_Mr yI pa pf] := hD
      refine lv_aload_n hx hb dL_winding_150 rfl (lv_at hl 7 rfl) ?_
      refine zb_iconst hx hb dL_winding_151 ?_
      refine lv_iload hx hb dL_winding_152 (lv_at hl 3 rfl) ?_
      refine aw_dst hx hb hK hP hD hS 3 1 rfl rfl 5 (by decide) dL_winding_154 (fun H locs hP hD hS => ?_)
      have hP : va_P D vwCl [(o, .inr (0, [.int (zI (dv 0)), .int (zI (dv 1)), .int (zI (dv 2)), .int (zI (dv 3)), .int ty, .int px, .int pr, .int (zI (dv 7)), .int (zI (dv 8)), .ref oa, .ref ba])), (oa, .inl (yZ, 72, .inl (aw_f ob))), (ba, .inl (yI, 72, .inl g)), aw_Dr yI da (aw_ud (aw_ud dv 4 t) 5 k), aw_Mr yI pa pf] H := hP
      have hD : va_D _ [(o, .inr (0, [.int (zI (dv 0)), .int (zI (dv 1)), .int (zI (dv 2)), .int (zI (dv 3)), .int ty, .int px, .int pr, .int (zI (dv 7)), .int (zI (dv 8)), .ref oa, .ref ba])), (oa, .inl (yZ, 72, .inl (aw_f ob))), (ba, .inl (yI, 72, .inl g)), aw_Dr yI da (aw_ud (aw_ud dv 4 t) 5 k), aw_Mr yI pa pf] := hD
      refine lv_aload_n hx hb dL_winding_155 rfl (lv_at hl 7 rfl) ?_
      refine zb_bipush hx hb dL_winding_156 (by decide) ?_
      refine lv_iload hx hb dL_winding_158 (lv_at hl 2 rfl) ?_
      refine aw_dst hx hb hK hP hD hS 3 1 rfl rfl 6 (by decide) dL_winding_160 (fun H locs hP hD hS => ?_)
      have hP : va_P D vwCl [(o, .inr (0, [.int (zI (dv 0)), .int (zI (dv 1)), .int (zI (dv 2)), .int (zI (dv 3)), .int ty, .int px, .int pr, .int (zI (dv 7)), .int (zI (dv 8)), .ref oa, .ref ba])), (oa, .inl (yZ, 72, .inl (aw_f ob))), (ba, .inl (yI, 72, .inl g)), aw_Dr yI da (aw_ud (aw_ud (aw_ud dv 4 t) 5 k) 6 b), aw_Mr yI pa pf] H := hP
      have hD : va_D _ [(o, .inr (0, [.int (zI (dv 0)), .int (zI (dv 1)), .int (zI (dv 2)), .int (zI (dv 3)), .int ty, .int px, .int pr, .int (zI (dv 7)), .int (zI (dv 8)), .ref oa, .ref ba])), (oa, .inl (yZ, 72, .inl (aw_f ob))), (ba, .inl (yI, 72, .inl g)), aw_Dr yI da (aw_ud (aw_ud (aw_ud dv 4 t) 5 k) 6 b), aw_Mr yI pa pf] := hD
      refine lv_aload_n hx hb dL_winding_161 rfl (lv_at hl 7 rfl) ?_
      refine zb_bipush hx hb dL_winding_162 (by decide) ?_
      refine lv_iload_n hx hb dL_winding_164 rfl (lv_at hl 4 rfl) ?_
      refine zb_ine (tgt := 173) hx hb dL_winding_165 (by decide) (by omega) (fun c165 => absurd c165 (by omega)) (fun c165 => ?_)
      refine lv_iload hx hb dL_winding_168 (lv_at hl 1 rfl) ?_
      refine lv_goto (tgt := 181) hx hb dL_winding_170 (by decide) ?_
      refine aw_dst hx hb hK hP hD hS 3 1 rfl rfl 7 (by decide) dL_winding_181 (fun H locs hP hD hS => ?_)
      have hP : va_P D vwCl [(o, .inr (0, [.int (zI (dv 0)), .int (zI (dv 1)), .int (zI (dv 2)), .int (zI (dv 3)), .int ty, .int px, .int pr, .int (zI (dv 7)), .int (zI (dv 8)), .ref oa, .ref ba])), (oa, .inl (yZ, 72, .inl (aw_f ob))), (ba, .inl (yI, 72, .inl g)), aw_Dr yI da (aw_ud (aw_ud (aw_ud (aw_ud dv 4 t) 5 k) 6 b) 7 h), aw_Mr yI pa pf] H := hP
      have hD : va_D _ [(o, .inr (0, [.int (zI (dv 0)), .int (zI (dv 1)), .int (zI (dv 2)), .int (zI (dv 3)), .int ty, .int px, .int pr, .int (zI (dv 7)), .int (zI (dv 8)), .ref oa, .ref ba])), (oa, .inl (yZ, 72, .inl (aw_f ob))), (ba, .inl (yI, 72, .inl g)), aw_Dr yI da (aw_ud (aw_ud (aw_ud (aw_ud dv 4 t) 5 k) 6 b) 7 h), aw_Mr yI pa pf] := hD
      refine lv_aload_n hx hb dL_winding_182 rfl (lv_at hl 5 rfl) ?_
      refine lv_iload_n hx hb dL_winding_183 rfl (lv_at hl 4 rfl) ?_
      refine lv_iload hx hb dL_winding_184 (lv_at hl 3 rfl) ?_
      refine lv_iload hx hb dL_winding_186 (lv_at hl 2 rfl) ?_
      refine zb_iconst hx hb dL_winding_188 ?_
      refine zb_join (fun j2 => b = j2) (pcj := 197) (lj := ls) (rj := [.int (zI k), .int (zI t), .ref o]) (fun j2 hj2 => ?_) (fun hj197 => ?_)
      rotate_left
      · skip
        refine zb_cne (tgt := 196) hx hb dL_winding_189 (by decide) (by omega) (by omega) (fun c189 => ?_) (fun c189 => ?_)
        · skip
          refine zb_iconst hx hb dL_winding_196 ?_
          exact hj197 0 (by omega)
        · skip
          refine zb_iconst hx hb dL_winding_192 ?_
          refine lv_goto (tgt := 197) hx hb dL_winding_193 (by decide) ?_
          exact hj197 1 (by omega)
      · skip
        subst hj2
        refine aw_callMV (As := [.int (zI t), .int (zI k), .int (zI b)]) (rest := []) (wc := [(o, .inr (0, [.int (zI (dv 0)), .int (zI (dv 1)), .int (zI (dv 2)), .int (zI (dv 3)), .int ty, .int px, .int pr, .int (zI (dv 7)), .int (zI (dv 8)), .ref oa, .ref ba])), (oa, .inl (yZ, 72, .inl (aw_f ob))), (ba, .inl (yI, 72, .inl g))]) (wr := [aw_Dr yI da (aw_ud (aw_ud (aw_ud (aw_ud dv 4 t) 5 k) 6 b) 7 h), aw_Mr yI pa pf]) (ws2 := fun u => [(o, .inr (0, [.int (zI (dv 0)), .int (zI (dv 1)), .int (zI (dv 2)), .int (zI (dv 3)), .int (zI t), .int (zI k), .int (zI b), .int (zI h), .int (zI (dv 8)), .ref oa, .ref ba])), (oa, .inl (yZ, 72, .inl (aw_f ob))), (ba, .inl (yI, 72, .inl g)), aw_Dr yI da (aw_ud (aw_ud (aw_ud (aw_ud dv 4 t) 5 k) 6 b) 7 h), aw_Mr yI pa pf]) ⟨hx, hb, hml, hown, hts⟩ (k_setWinding_lap (t := t) (x := k) (b := b) (h := h) ⟨by omega, by omega⟩ ⟨by omega, by omega⟩ ⟨by omega, by omega⟩ hh t0) (cwV 3 hts gL_winding_X0_setWinding rfl rfl rfl (by decide +kernel) ⟨Nat.le_of_ble_eq_true rfl, Nat.le_of_ble_eq_true rfl⟩) hP hD hK hS hA rfl rfl [0, 1, 2] [3, 4] rfl rfl (by decide) (by decide) (by decide) [2, 3, 4, 0, 1] (by decide) (fun _ => rfl) rfl hl.1 rfl (Nat.le_of_ble_eq_true rfl) dL_winding_197 ⟨Nat.zero_le _, Nat.zero_le _⟩ (fun u H locs hu hP hD hS => ?_)
        have hP : va_P D vwCl [(o, .inr (0, [.int (zI (dv 0)), .int (zI (dv 1)), .int (zI (dv 2)), .int (zI (dv 3)), .int (zI t), .int (zI k), .int (zI b), .int (zI h), .int (zI (dv 8)), .ref oa, .ref ba])), (oa, .inl (yZ, 72, .inl (aw_f ob))), (ba, .inl (yI, 72, .inl g)), aw_Dr yI da (aw_ud (aw_ud (aw_ud (aw_ud dv 4 t) 5 k) 6 b) 7 h), aw_Mr yI pa pf] H := hP
        have hD : va_D _ [(o, .inr (0, [.int (zI (dv 0)), .int (zI (dv 1)), .int (zI (dv 2)), .int (zI (dv 3)), .int (zI t), .int (zI k), .int (zI b), .int (zI h), .int (zI (dv 8)), .ref oa, .ref ba])), (oa, .inl (yZ, 72, .inl (aw_f ob))), (ba, .inl (yI, 72, .inl g)), aw_Dr yI da (aw_ud (aw_ud (aw_ud (aw_ud dv 4 t) 5 k) 6 b) 7 h), aw_Mr yI pa pf] := hD
        refine W.eq (g2 := F0 m 200 ls [.int (zI h)]) rfl ?_
        refine lv_aload_n hx hb dL_winding_200 rfl (lv_at hl 7 rfl) ?_
        refine zb_bipush hx hb dL_winding_201 (by decide) ?_
        refine aw_dld hx hb hK hP 3 1 rfl rfl 7 (by decide) dL_winding_203 ?_
        refine zb_as h rfl ?_
        refine zb_cne (tgt := 211) hx hb dL_winding_204 (by decide) (by omega) (by omega) (fun c204 => absurd c204 (by omega)) (fun c204 => ?_)
        refine zb_iconst hx hb dL_winding_207 ?_
        refine lv_goto (tgt := 212) hx hb dL_winding_208 (by decide) ?_
        exact aw_zretM (z := 1) (post := aw_p5) (ws' := fun u => aw_w5 yZ yI o oa ba da pa u) ((aw_ud (aw_ud (aw_ud (aw_ud dv 4 t) 5 k) 6 b) 7 h, pf, ob, (zI t, zI k, zI b), g) : aw_S5) hx hb hr hlocks dL_winding_212 (by omega) (by first | rfl | omega) ⟨hIn, hO⟩ hP hK hD hS
    · skip
      refine lv_iload hx hb dL_winding_105 (lv_at hl 0 rfl) ?_
      refine lv_aload_n hx hb dL_winding_107 rfl (lv_at hl 7 rfl) ?_
      refine zb_iconst hx hb dL_winding_108 ?_
      refine aw_dld hx hb hK hP 3 1 rfl rfl 0 (by decide) dL_winding_109 ?_
      refine zb_iconst hx hb dL_winding_110 ?_
      refine zb_div hx hb dL_winding_111 (by omega) (by omega) ?_
      refine zb_trem hx hb dL_winding_112 (by omega) (by omega) ?_
      refine zb_ieq (tgt := 146) hx hb dL_winding_113 (by decide) (by have := aw_tmod (x := dv 3 + h) (n := dv 0 / 2) (by omega); omega) (fun c113 => ?_) (fun c113 => ?_)
      · skip
        have hIn : aw_In (dv 0) (dv 1) (dv 2) (dv 3) ((dv 3 + h).tdiv (dv 0 / 2)) (dv 8) := ⟨by omega, by omega, by omega, by omega, by omega, by omega, i7, by omega, by omega, by omega, by omega, by omega, by omega⟩
        refine lv_aload_n hx hb dL_winding_146 rfl (lv_at hl 7 rfl) ?_
        refine zb_iconst hx hb dL_winding_147 ?_
        refine lv_iload_n hx hb dL_winding_148 rfl (lv_at hl 4 rfl) ?_
        refine aw_dst hx hb hK hP hD hS 3 1 rfl rfl 4 (by decide) dL_winding_149 (fun H locs hP hD hS => ?_)
        have hP : va_P D vwCl [(o, .inr (0, [.int (zI (dv 0)), .int (zI (dv 1)), .int (zI (dv 2)), .int (zI (dv 3)), .int ty, .int px, .int pr, .int (zI (dv 7)), .int (zI (dv 8)), .ref oa, .ref ba])), (oa, .inl (yZ, 72, .inl (aw_f ob))), (ba, .inl (yI, 72, .inl g)), aw_Dr yI da (aw_ud dv 4 t), aw_Mr yI pa pf] H := hP
        have hD : va_D _ [(o, .inr (0, [.int (zI (dv 0)), .int (zI (dv 1)), .int (zI (dv 2)), .int (zI (dv 3)), .int ty, .int px, .int pr, .int (zI (dv 7)), .int (zI (dv 8)), .ref oa, .ref ba])), (oa, .inl (yZ, 72, .inl (aw_f ob))), (ba, .inl (yI, 72, .inl g)), aw_Dr yI da (aw_ud dv 4 t), aw_Mr yI pa pf] := hD
        refine lv_aload_n hx hb dL_winding_150 rfl (lv_at hl 7 rfl) ?_
        refine zb_iconst hx hb dL_winding_151 ?_
        refine lv_iload hx hb dL_winding_152 (lv_at hl 3 rfl) ?_
        refine aw_dst hx hb hK hP hD hS 3 1 rfl rfl 5 (by decide) dL_winding_154 (fun H locs hP hD hS => ?_)
        have hP : va_P D vwCl [(o, .inr (0, [.int (zI (dv 0)), .int (zI (dv 1)), .int (zI (dv 2)), .int (zI (dv 3)), .int ty, .int px, .int pr, .int (zI (dv 7)), .int (zI (dv 8)), .ref oa, .ref ba])), (oa, .inl (yZ, 72, .inl (aw_f ob))), (ba, .inl (yI, 72, .inl g)), aw_Dr yI da (aw_ud (aw_ud dv 4 t) 5 k), aw_Mr yI pa pf] H := hP
        have hD : va_D _ [(o, .inr (0, [.int (zI (dv 0)), .int (zI (dv 1)), .int (zI (dv 2)), .int (zI (dv 3)), .int ty, .int px, .int pr, .int (zI (dv 7)), .int (zI (dv 8)), .ref oa, .ref ba])), (oa, .inl (yZ, 72, .inl (aw_f ob))), (ba, .inl (yI, 72, .inl g)), aw_Dr yI da (aw_ud (aw_ud dv 4 t) 5 k), aw_Mr yI pa pf] := hD
        refine lv_aload_n hx hb dL_winding_155 rfl (lv_at hl 7 rfl) ?_
        refine zb_bipush hx hb dL_winding_156 (by decide) ?_
        refine lv_iload hx hb dL_winding_158 (lv_at hl 2 rfl) ?_
        refine aw_dst hx hb hK hP hD hS 3 1 rfl rfl 6 (by decide) dL_winding_160 (fun H locs hP hD hS => ?_)
        have hP : va_P D vwCl [(o, .inr (0, [.int (zI (dv 0)), .int (zI (dv 1)), .int (zI (dv 2)), .int (zI (dv 3)), .int ty, .int px, .int pr, .int (zI (dv 7)), .int (zI (dv 8)), .ref oa, .ref ba])), (oa, .inl (yZ, 72, .inl (aw_f ob))), (ba, .inl (yI, 72, .inl g)), aw_Dr yI da (aw_ud (aw_ud (aw_ud dv 4 t) 5 k) 6 b), aw_Mr yI pa pf] H := hP
        have hD : va_D _ [(o, .inr (0, [.int (zI (dv 0)), .int (zI (dv 1)), .int (zI (dv 2)), .int (zI (dv 3)), .int ty, .int px, .int pr, .int (zI (dv 7)), .int (zI (dv 8)), .ref oa, .ref ba])), (oa, .inl (yZ, 72, .inl (aw_f ob))), (ba, .inl (yI, 72, .inl g)), aw_Dr yI da (aw_ud (aw_ud (aw_ud dv 4 t) 5 k) 6 b), aw_Mr yI pa pf] := hD
        refine lv_aload_n hx hb dL_winding_161 rfl (lv_at hl 7 rfl) ?_
        refine zb_bipush hx hb dL_winding_162 (by decide) ?_
        refine lv_iload_n hx hb dL_winding_164 rfl (lv_at hl 4 rfl) ?_
        refine zb_ine (tgt := 173) hx hb dL_winding_165 (by decide) (by omega) (fun c165 => ?_) (fun c165 => absurd c165 (by omega))
        refine lv_iload hx hb dL_winding_173 (lv_at hl 0 rfl) ?_
        refine lv_aload_n hx hb dL_winding_175 rfl (lv_at hl 7 rfl) ?_
        refine zb_iconst hx hb dL_winding_176 ?_
        refine aw_dld hx hb hK hP 3 1 rfl rfl 0 (by decide) dL_winding_177 ?_
        refine zb_as (dv 0) rfl ?_
        refine zb_iconst hx hb dL_winding_178 ?_
        refine zb_div hx hb dL_winding_179 (by omega) (by omega) ?_
        refine zb_tdiv hx hb dL_winding_180 (by omega) (by omega) ?_
        refine aw_dst hx hb hK hP hD hS 3 1 rfl rfl 7 (by decide) dL_winding_181 (fun H locs hP hD hS => ?_)
        have hP : va_P D vwCl [(o, .inr (0, [.int (zI (dv 0)), .int (zI (dv 1)), .int (zI (dv 2)), .int (zI (dv 3)), .int ty, .int px, .int pr, .int (zI (dv 7)), .int (zI (dv 8)), .ref oa, .ref ba])), (oa, .inl (yZ, 72, .inl (aw_f ob))), (ba, .inl (yI, 72, .inl g)), aw_Dr yI da (aw_ud (aw_ud (aw_ud (aw_ud dv 4 t) 5 k) 6 b) 7 (((dv 3) + h).tdiv ((dv 0) / 2))), aw_Mr yI pa pf] H := hP
        have hD : va_D _ [(o, .inr (0, [.int (zI (dv 0)), .int (zI (dv 1)), .int (zI (dv 2)), .int (zI (dv 3)), .int ty, .int px, .int pr, .int (zI (dv 7)), .int (zI (dv 8)), .ref oa, .ref ba])), (oa, .inl (yZ, 72, .inl (aw_f ob))), (ba, .inl (yI, 72, .inl g)), aw_Dr yI da (aw_ud (aw_ud (aw_ud (aw_ud dv 4 t) 5 k) 6 b) 7 (((dv 3) + h).tdiv ((dv 0) / 2))), aw_Mr yI pa pf] := hD
        refine lv_aload_n hx hb dL_winding_182 rfl (lv_at hl 5 rfl) ?_
        refine lv_iload_n hx hb dL_winding_183 rfl (lv_at hl 4 rfl) ?_
        refine lv_iload hx hb dL_winding_184 (lv_at hl 3 rfl) ?_
        refine lv_iload hx hb dL_winding_186 (lv_at hl 2 rfl) ?_
        refine zb_iconst hx hb dL_winding_188 ?_
        refine zb_join (fun j2 => b = j2) (pcj := 197) (lj := ls) (rj := [.int (zI k), .int (zI t), .ref o]) (fun j2 hj2 => ?_) (fun hj197 => ?_)
        rotate_left
        · skip
          refine zb_cne (tgt := 196) hx hb dL_winding_189 (by decide) (by omega) (by omega) (fun c189 => ?_) (fun c189 => ?_)
          · skip
            refine zb_iconst hx hb dL_winding_196 ?_
            exact hj197 0 (by omega)
          · skip
            refine zb_iconst hx hb dL_winding_192 ?_
            refine lv_goto (tgt := 197) hx hb dL_winding_193 (by decide) ?_
            exact hj197 1 (by omega)
        · skip
          subst hj2
          refine aw_callMV (As := [.int (zI t), .int (zI k), .int (zI b)]) (rest := []) (wc := [(o, .inr (0, [.int (zI (dv 0)), .int (zI (dv 1)), .int (zI (dv 2)), .int (zI (dv 3)), .int ty, .int px, .int pr, .int (zI (dv 7)), .int (zI (dv 8)), .ref oa, .ref ba])), (oa, .inl (yZ, 72, .inl (aw_f ob))), (ba, .inl (yI, 72, .inl g))]) (wr := [aw_Dr yI da (aw_ud (aw_ud (aw_ud (aw_ud dv 4 t) 5 k) 6 b) 7 (((dv 3) + h).tdiv ((dv 0) / 2))), aw_Mr yI pa pf]) (ws2 := fun u => [(o, .inr (0, [.int (zI (dv 0)), .int (zI (dv 1)), .int (zI (dv 2)), .int (zI (dv 3)), .int (zI t), .int (zI k), .int (zI b), .int (zI ((dv 3 + h).tdiv (dv 0 / 2))), .int (zI (dv 8)), .ref oa, .ref ba])), (oa, .inl (yZ, 72, .inl (aw_f ob))), (ba, .inl (yI, 72, .inl g)), aw_Dr yI da (aw_ud (aw_ud (aw_ud (aw_ud dv 4 t) 5 k) 6 b) 7 (((dv 3) + h).tdiv ((dv 0) / 2))), aw_Mr yI pa pf]) ⟨hx, hb, hml, hown, hts⟩ (k_setWinding_wave (t := t) (x := k) (b := b) (h := h) ⟨by omega, by omega⟩ ⟨by omega, by omega⟩ ⟨by omega, by omega⟩ hh (by omega) (aw_tyes c113)) (cwV 3 hts gL_winding_X0_setWinding rfl rfl rfl (by decide +kernel) ⟨Nat.le_of_ble_eq_true rfl, Nat.le_of_ble_eq_true rfl⟩) hP hD hK hS hA rfl rfl [0, 1, 2] [3, 4] rfl rfl (by decide) (by decide) (by decide) [2, 3, 4, 0, 1] (by decide) (fun _ => rfl) rfl hl.1 rfl (Nat.le_of_ble_eq_true rfl) dL_winding_197 ⟨Nat.zero_le _, Nat.zero_le _⟩ (fun u H locs hu hP hD hS => ?_)
          have hP : va_P D vwCl [(o, .inr (0, [.int (zI (dv 0)), .int (zI (dv 1)), .int (zI (dv 2)), .int (zI (dv 3)), .int (zI t), .int (zI k), .int (zI b), .int (zI ((dv 3 + h).tdiv (dv 0 / 2))), .int (zI (dv 8)), .ref oa, .ref ba])), (oa, .inl (yZ, 72, .inl (aw_f ob))), (ba, .inl (yI, 72, .inl g)), aw_Dr yI da (aw_ud (aw_ud (aw_ud (aw_ud dv 4 t) 5 k) 6 b) 7 (((dv 3) + h).tdiv ((dv 0) / 2))), aw_Mr yI pa pf] H := hP
          have hD : va_D _ [(o, .inr (0, [.int (zI (dv 0)), .int (zI (dv 1)), .int (zI (dv 2)), .int (zI (dv 3)), .int (zI t), .int (zI k), .int (zI b), .int (zI ((dv 3 + h).tdiv (dv 0 / 2))), .int (zI (dv 8)), .ref oa, .ref ba])), (oa, .inl (yZ, 72, .inl (aw_f ob))), (ba, .inl (yI, 72, .inl g)), aw_Dr yI da (aw_ud (aw_ud (aw_ud (aw_ud dv 4 t) 5 k) 6 b) 7 (((dv 3) + h).tdiv ((dv 0) / 2))), aw_Mr yI pa pf] := hD
          refine W.eq (g2 := F0 m 200 ls [.int (zI ((dv 3 + h).tdiv (dv 0 / 2)))]) rfl ?_
          refine lv_aload_n hx hb dL_winding_200 rfl (lv_at hl 7 rfl) ?_
          refine zb_bipush hx hb dL_winding_201 (by decide) ?_
          refine aw_dld hx hb hK hP 3 1 rfl rfl 7 (by decide) dL_winding_203 ?_
          refine zb_as (((dv 3) + h).tdiv ((dv 0) / 2)) rfl ?_
          refine zb_cne (tgt := 211) hx hb dL_winding_204 (by decide) (by omega) (by omega) (fun c204 => absurd c204 (by omega)) (fun c204 => ?_)
          refine zb_iconst hx hb dL_winding_207 ?_
          refine lv_goto (tgt := 212) hx hb dL_winding_208 (by decide) ?_
          exact aw_zretM (z := 1) (post := aw_p5) (ws' := fun u => aw_w5 yZ yI o oa ba da pa u) ((aw_ud (aw_ud (aw_ud (aw_ud dv 4 t) 5 k) 6 b) 7 (((dv 3) + h).tdiv ((dv 0) / 2)), pf, ob, (zI t, zI k, zI b), g) : aw_S5) hx hb hr hlocks dL_winding_212 (by omega) (by first | rfl | omega) ⟨hIn, hO⟩ hP hK hD hS
      · skip
        refine lv_aload_n hx hb dL_winding_116 rfl (lv_at hl 5 rfl) ?_
        refine lv_iload_n hx hb dL_winding_117 rfl (lv_at hl 4 rfl) ?_
        refine lv_iload hx hb dL_winding_118 (lv_at hl 3 rfl) ?_
        refine lv_iload hx hb dL_winding_120 (lv_at hl 2 rfl) ?_
        refine zb_iconst hx hb dL_winding_122 ?_
        refine zb_join (fun j1 => b = j1) (pcj := 131) (lj := ls) (rj := [.int (zI k), .int (zI t), .ref o]) (fun j1 hj1 => ?_) (fun hj131 => ?_)
        rotate_left
        · skip
          refine zb_cne (tgt := 130) hx hb dL_winding_123 (by decide) (by omega) (by omega) (fun c123 => ?_) (fun c123 => ?_)
          · skip
            refine zb_iconst hx hb dL_winding_130 ?_
            exact hj131 0 (by omega)
          · skip
            refine zb_iconst hx hb dL_winding_126 ?_
            refine lv_goto (tgt := 131) hx hb dL_winding_127 (by decide) ?_
            exact hj131 1 (by omega)
        · skip
          subst hj1
          refine aw_callV (As := [.int (zI t), .int (zI k), .int (zI b)]) (rest := []) ⟨hx, hb, hml, hown, hts⟩ (k_setWinding_np (t := t) (x := k) (b := b) (h := h) ⟨by omega, by omega⟩ ⟨by omega, by omega⟩ (by omega) ⟨by omega, by omega⟩ hh (aw_tno c113)) (cwV 3 hts gL_winding_X0_setWinding rfl rfl rfl (by decide +kernel) ⟨Nat.le_of_ble_eq_true rfl, Nat.le_of_ble_eq_true rfl⟩) (hP.sub (ws' := [(o, .inr (0, [.int (zI (dv 0)), .int (zI (dv 1)), .int (zI (dv 2)), .int (zI (dv 3)), .int ty, .int px, .int pr, .int (zI (dv 7)), .int (zI (dv 8)), .ref oa, .ref ba])), (oa, .inl (yZ, 72, .inl (aw_f ob))), (ba, .inl (yI, 72, .inl g))]) [0, 1, 2] rfl) hK rfl rfl rfl hl.1 rfl (Nat.le_of_ble_eq_true rfl) dL_winding_131 ⟨Nat.zero_le _, Nat.zero_le _⟩ ?_
          refine zb_sipush hx hb dL_winding_134 (by decide) ?_
          refine zb_cne (tgt := 144) hx hb dL_winding_137 (by decide) (by omega) (by omega) (fun c137 => absurd c137 (by omega)) (fun c137 => ?_)
          refine zb_iconst hx hb dL_winding_140 ?_
          refine lv_goto (tgt := 145) hx hb dL_winding_141 (by decide) ?_
          exact aw_zretM (z := 1) (post := aw_p5) (ws' := fun u => aw_w5 yZ yI o oa ba da pa u) ((dv, pf, ob, (ty, px, pr), g) : aw_S5) hx hb hr hlocks dL_winding_145 (by omega) (by first | rfl | omega) ⟨hI, hO⟩ hP hK hD hS
end
end
section
section
variable {l : Launch} {D : va_G} {yZ yI : ClassId} {o oa ba da pa : Nat} {P S K N w ch : Int} {ty px pr : Int32} {ob : Int → Bool} {g pf : Nat → Int32} {dv : Nat → Int}
set_option maxHeartbeats 4000000 in
set_option maxRecDepth 100000 in
/-- the law's changes: true -/
theorem k_changes (hI : aw_In (dv 0) (dv 1) (dv 2) (dv 3) (dv 7) (dv 8)) (hO : aw_OB pf ob) {x y : Int} (hx0 : 0 ≤ x ∧ x < 2147483648) (hy0 : 0 ≤ y ∧ y < 2147483648) : aw_MU (S := aw_S5) l yL_changes wsL_changes (aw_rm 5 114) D (aw_T yZ yI) [(o, .inr (0, [.int (zI (dv 0)), .int (zI (dv 1)), .int (zI (dv 2)), .int (zI (dv 3)), .int ty, .int px, .int pr, .int (zI (dv 7)), .int (zI (dv 8)), .ref oa, .ref ba])), (oa, .inl (yZ, 72, .inl (aw_f ob))), (ba, .inl (yI, 72, .inl g)), aw_Dr yI da dv, aw_Mr yI pa pf] [.ref o, .int (zI x), .int (zI y), .ref da, .ref pa] (some (1)) (aw_p5) (fun u => aw_w5 yZ yI o oa ba da pa u) := by
  intro sz
  refine Met.ofW (cc := cL_changes) (maxL := 9) (ret := (some .boolean)) (by decide) rfl ?_
  intro p e s m args below meth c s₁ B hml hv
  obtain ⟨rfl, hsz, hP, hK, hD0⟩ := hv
  have hx := B.exec
  have hb := B.bytes
  have hr := B.returns
  have hts := atoms_spec (ws := wsL_changes) B.pre
  have hown : s.vm.findClass RL = some m.cls := findClass_of_methodNamed B.named
  have hlocks := B.notSynchronized
  subst hsz
  have hD := hD0.self (sz := s.heap.size)
  have hA : ∀ q : Nat, s.heap.size ≤ q → va_A [(o, .inr (0, [.int (zI (dv 0)), .int (zI (dv 1)), .int (zI (dv 2)), .int (zI (dv 3)), .int ty, .int px, .int pr, .int (zI (dv 7)), .int (zI (dv 8)), .ref oa, .ref ba])), (oa, .inl (yZ, 72, .inl (aw_f ob))), (ba, .inl (yI, 72, .inl g)), aw_Dr yI da dv, aw_Mr yI pa pf] s.heap.size q := fun q h => Or.inr h
  have hS : va_S (va_A [(o, .inr (0, [.int (zI (dv 0)), .int (zI (dv 1)), .int (zI (dv 2)), .int (zI (dv 3)), .int ty, .int px, .int pr, .int (zI (dv 7)), .int (zI (dv 8)), .ref oa, .ref ba])), (oa, .inl (yZ, 72, .inl (aw_f ob))), (ba, .inl (yI, 72, .inl g)), aw_Dr yI da dv, aw_Mr yI pa pf] s.heap.size) s.heap s.heap [] := va_S.rf
  have hl := lv_entry ([.ref o, .int (zI x), .int (zI y), .ref da, .ref pa]) (n := 9) (Nat.le_of_ble_eq_true rfl)
  rw [lg_entry_eq]
  generalize (lg_sl ([.ref o, .int (zI x), .int (zI y), .ref da, .ref pa]) ++ List.replicate (9 - (lg_sl ([.ref o, .int (zI x), .int (zI y), .ref da, .ref pa])).length) Slot.unset).toArray = ls at hl ⊢
  have hl : lv_has ls 9 [(0, .ref o), (1, .int (zI x)), (2, .int (zI y)), (3, .ref da), (4, .ref pa)] := hl
  obtain ⟨i1, i2, i3, i4, i5, i6, i7, i8, i9, i10, i11, i12, i13⟩ := id hI
  refine lv_iload_n hx hb dL_changes_0 rfl (lv_at hl 1 rfl) ?_
  refine zb_bipush hx hb dL_changes_1 (by decide) ?_
  refine zb_rem hx hb dL_changes_3 (by omega) (by omega) ?_
  refine zb_nm (fun a e_a => ?_)
  refine lv_istore (lv' := [(5, .int (zI a)), (0, .ref o), (1, .int (zI x)), (2, .int (zI y)), (3, .ref da), (4, .ref pa)]) hx hb dL_changes_4 hl (by decide) rfl (fun ls hl => ?_)
  refine lv_iload hx hb dL_changes_6 (lv_at hl 0 rfl) ?_
  refine zb_ine (tgt := 20) hx hb dL_changes_8 (by decide) (by omega) (fun c8 => ?_) (fun c8 => ?_)
  · skip
    refine lv_iload hx hb dL_changes_20 (lv_at hl 0 rfl) ?_
    refine zb_iconst hx hb dL_changes_22 ?_
    refine zb_cge (tgt := 33) hx hb dL_changes_23 (by decide) (by omega) (by omega) (fun c23 => ?_) (fun c23 => ?_)
    · skip
      refine lv_iload hx hb dL_changes_33 (lv_at hl 0 rfl) ?_
      refine zb_iconst hx hb dL_changes_35 ?_
      refine zb_cne (tgt := 95) hx hb dL_changes_36 (by decide) (by omega) (by omega) (fun c36 => ?_) (fun c36 => ?_)
      · skip
        refine lv_iload_n hx hb dL_changes_95 rfl (lv_at hl 3 rfl) ?_
        refine lv_aload_n hx hb dL_changes_96 rfl (lv_at hl 4 rfl) ?_
        refine zb_iconst hx hb dL_changes_97 ?_
        refine aw_dld hx hb hK hP 3 1 rfl rfl 3 (by decide) dL_changes_98 ?_
        refine zb_rem hx hb dL_changes_99 (by omega) (by omega) ?_
        refine zb_nm (fun q e_q => ?_)
        have hq : 0 ≤ q ∧ q < dv 3 := by rw [e_q]; exact aw_mod (by omega)
        have hbq := aw_b_01 (ob q)
        refine lv_istore (lv' := [(6, .int (zI q)), (5, .int (zI a)), (0, .ref o), (1, .int (zI x)), (2, .int (zI y)), (3, .ref da), (4, .ref pa)]) hx hb dL_changes_100 hl (by decide) rfl (fun ls hl => ?_)
        refine lv_aload hx hb dL_changes_102 (lv_at hl 6 rfl) ?_
        refine lv_iload hx hb dL_changes_104 (lv_at hl 0 rfl) ?_
        refine aw_callS (As := [.ref pa, .int (zI q)]) (rest := []) ⟨hx, hb, hml, hown, hts⟩ (k_lisOpen (z := q) hO ⟨by omega, by omega⟩) (va_cwS 2 hts gL_changes_L_isOpen rfl rfl rfl (by decide +kernel) ⟨Nat.le_of_ble_eq_true rfl, Nat.le_of_ble_eq_true rfl⟩) (hP.sub (ws' := [aw_Mr yI pa pf]) [4] rfl) hK rfl hl.1 rfl (Nat.le_of_ble_eq_true rfl) dL_changes_106 ⟨Nat.zero_le _, Nat.zero_le _⟩ ?_
        refine zb_join (fun v7 => v7 = aw_b (ob q)) (pcj := 117) (lj := ls) (rj := []) (fun v7 hv7 => ?_) (fun hj117 => ?_)
        rotate_left
        · skip
          refine zb_ieq (tgt := 116) hx hb dL_changes_109 (by decide) (by omega) (fun c109 => ?_) (fun c109 => ?_)
          · skip
            refine zb_iconst hx hb dL_changes_116 ?_
            exact hj117 0 (by omega)
          · skip
            refine zb_iconst hx hb dL_changes_112 ?_
            refine lv_goto (tgt := 117) hx hb dL_changes_113 (by decide) ?_
            exact hj117 1 (by omega)
        · skip
          refine lv_istore (lv' := [(7, .int (zI v7)), (6, .int (zI q)), (5, .int (zI a)), (0, .ref o), (1, .int (zI x)), (2, .int (zI y)), (3, .ref da), (4, .ref pa)]) hx hb dL_changes_117 hl (by decide) rfl (fun ls hl => ?_)
          refine lv_iload_n hx hb dL_changes_119 rfl (lv_at hl 5 rfl) ?_
          refine zb_sipush hx hb dL_changes_120 (by decide) ?_
          refine zb_div hx hb dL_changes_123 (by omega) (by omega) ?_
          refine zb_iconst hx hb dL_changes_124 ?_
          refine zb_rem hx hb dL_changes_125 (by omega) (by omega) ?_
          refine zb_join (fun v8 => v8 = aw_b (decide (0 < y / 128 % 3))) (pcj := 134) (lj := ls) (rj := []) (fun v8 hv8 => ?_) (fun hj134 => ?_)
          rotate_left
          · skip
            refine zb_ile (tgt := 133) hx hb dL_changes_126 (by decide) (by omega) (fun c126 => ?_) (fun c126 => ?_)
            · skip
              refine zb_iconst hx hb dL_changes_133 ?_
              exact hj134 0 (by rw [decide_eq_false (by omega)]; rfl)
            · skip
              refine zb_iconst hx hb dL_changes_129 ?_
              refine lv_goto (tgt := 134) hx hb dL_changes_130 (by decide) ?_
              exact hj134 1 (by rw [decide_eq_true (by omega)]; rfl)
          · skip
            obtain ⟨bv, hbv⟩ : ∃ bv : Bool, bv = decide (0 < y / 128 % 3) := ⟨_, rfl⟩
            rw [← hbv] at hv8
            subst hv8
            have hbb := aw_b_01 bv
            refine lv_istore (lv' := [(8, .int (zI (aw_b bv))), (7, .int (zI v7)), (6, .int (zI q)), (5, .int (zI a)), (0, .ref o), (1, .int (zI x)), (2, .int (zI y)), (3, .ref da), (4, .ref pa)]) hx hb dL_changes_134 hl (by decide) rfl (fun ls hl => ?_)
            refine lv_aload hx hb dL_changes_136 (lv_at hl 8 rfl) ?_
            refine lv_iload hx hb dL_changes_138 (lv_at hl 2 rfl) ?_
            refine zb_bipush hx hb dL_changes_140 (by decide) ?_
            refine zb_div hx hb dL_changes_142 (by omega) (by omega) ?_
            refine lv_iload hx hb dL_changes_143 (lv_at hl 0 rfl) ?_
            refine zb_ieq (tgt := 167) hx hb dL_changes_145 (by decide) (by omega) (fun c145 => ?_) (fun c145 => ?_)
            · skip
              refine lv_aload hx hb dL_changes_167 (lv_at hl 8 rfl) ?_
              refine lv_iload hx hb dL_changes_169 (lv_at hl 2 rfl) ?_
              refine zb_bipush hx hb dL_changes_171 (by decide) ?_
              refine zb_div hx hb dL_changes_173 (by omega) (by omega) ?_
              refine va_iald hx hb hK hP 4 1 rfl rfl (zI_in (by omega) (by omega) (by omega)) dL_changes_174 ?_
              refine zb_iconst hx hb dL_changes_175 ?_
              refine lv_iload hx hb dL_changes_176 (lv_at hl 2 rfl) ?_
              refine zb_bipush hx hb dL_changes_178 (by decide) ?_
              refine zb_rem hx hb dL_changes_180 (by omega) (by omega) ?_
              refine lv_ishl hx hb dL_changes_181 ?_
              refine zb_iconst hx hb dL_changes_182 ?_
              refine lv_ixor hx hb dL_changes_183 ?_
              refine lv_iand hx hb dL_changes_184 ?_
              refine va_iast hx hb hK hP hD hS 4 1 rfl rfl (zI_in (by omega) (by omega) (by omega)) dL_changes_185 (fun H locs hP hD hS => ?_)
              have hP : va_P D vwCl [(o, .inr (0, [.int (zI (dv 0)), .int (zI (dv 1)), .int (zI (dv 2)), .int (zI (dv 3)), .int ty, .int px, .int pr, .int (zI (dv 7)), .int (zI (dv 8)), .ref oa, .ref ba])), (oa, .inl (yZ, 72, .inl (aw_f ob))), (ba, .inl (yI, 72, .inl g)), aw_Dr yI da dv, aw_Mr yI pa (upd pf (zI (q / 24)).toNatClampNeg (pf (zI (q / 24)).toNatClampNeg &&& ((zI 1 <<< (zI (q % 24) &&& 31)) ^^^ zI (-1))))] H := hP
              have hD : va_D _ [(o, .inr (0, [.int (zI (dv 0)), .int (zI (dv 1)), .int (zI (dv 2)), .int (zI (dv 3)), .int ty, .int px, .int pr, .int (zI (dv 7)), .int (zI (dv 8)), .ref oa, .ref ba])), (oa, .inl (yZ, 72, .inl (aw_f ob))), (ba, .inl (yI, 72, .inl g)), aw_Dr yI da dv, aw_Mr yI pa (upd pf (zI (q / 24)).toNatClampNeg (pf (zI (q / 24)).toNatClampNeg &&& ((zI 1 <<< (zI (q % 24) &&& 31)) ^^^ zI (-1))))] := hD
              refine lv_aload_n hx hb dL_changes_186 rfl (lv_at hl 4 rfl) ?_
              refine lv_aload_n hx hb dL_changes_187 rfl (lv_at hl 7 rfl) ?_
              refine zb_iconst hx hb dL_changes_188 ?_
              refine aw_dld hx hb hK hP 3 1 rfl rfl 3 (by decide) dL_changes_189 ?_
              refine lv_iload hx hb dL_changes_190 (lv_at hl 0 rfl) ?_
              refine aw_callV (As := [.int (zI (dv 3)), .int (zI (aw_b bv))]) (rest := []) ⟨hx, hb, hml, hown, hts⟩ (k_setOpen_no (q := dv 3) (b := aw_b bv) ⟨by omega, by omega⟩ ⟨by omega, by omega⟩ (by omega)) (cwV 2 hts gL_changes_X0_setOpen rfl rfl rfl (by decide +kernel) ⟨Nat.le_of_ble_eq_true rfl, Nat.le_of_ble_eq_true rfl⟩) (hP.sub (ws' := [(o, .inr (0, [.int (zI (dv 0)), .int (zI (dv 1)), .int (zI (dv 2)), .int (zI (dv 3)), .int ty, .int px, .int pr, .int (zI (dv 7)), .int (zI (dv 8)), .ref oa, .ref ba])), (oa, .inl (yZ, 72, .inl (aw_f ob))), (ba, .inl (yI, 72, .inl g))]) [0, 1, 2] rfl) hK rfl rfl rfl hl.1 rfl (Nat.le_of_ble_eq_true rfl) dL_changes_192 ⟨Nat.zero_le _, Nat.zero_le _⟩ ?_
              refine zb_sipush hx hb dL_changes_195 (by decide) ?_
              refine zb_cne (tgt := 231) hx hb dL_changes_198 (by decide) (by omega) (by omega) (fun c198 => absurd c198 (by omega)) (fun c198 => ?_)
              refine lv_aload_n hx hb dL_changes_201 rfl (lv_at hl 4 rfl) ?_
              refine zb_iconst hx hb dL_changes_202 ?_
              refine lv_iload hx hb dL_changes_203 (lv_at hl 0 rfl) ?_
              refine aw_callV (As := [.int (zI ((-1))), .int (zI (aw_b bv))]) (rest := []) ⟨hx, hb, hml, hown, hts⟩ (k_setOpen_no (q := -1) (b := aw_b bv) ⟨by omega, by omega⟩ ⟨by omega, by omega⟩ (by omega)) (cwV 2 hts gL_changes_X0_setOpen rfl rfl rfl (by decide +kernel) ⟨Nat.le_of_ble_eq_true rfl, Nat.le_of_ble_eq_true rfl⟩) (hP.sub (ws' := [(o, .inr (0, [.int (zI (dv 0)), .int (zI (dv 1)), .int (zI (dv 2)), .int (zI (dv 3)), .int ty, .int px, .int pr, .int (zI (dv 7)), .int (zI (dv 8)), .ref oa, .ref ba])), (oa, .inl (yZ, 72, .inl (aw_f ob))), (ba, .inl (yI, 72, .inl g))]) [0, 1, 2] rfl) hK rfl rfl rfl hl.1 rfl (Nat.le_of_ble_eq_true rfl) dL_changes_205 ⟨Nat.zero_le _, Nat.zero_le _⟩ ?_
              refine zb_sipush hx hb dL_changes_208 (by decide) ?_
              refine zb_cne (tgt := 231) hx hb dL_changes_211 (by decide) (by omega) (by omega) (fun c211 => absurd c211 (by omega)) (fun c211 => ?_)
              refine lv_aload_n hx hb dL_changes_214 rfl (lv_at hl 4 rfl) ?_
              refine lv_iload hx hb dL_changes_215 (lv_at hl 2 rfl) ?_
              refine lv_iload hx hb dL_changes_217 (lv_at hl 0 rfl) ?_
              refine aw_callMV (As := [.int (zI q), .int (zI (aw_b bv))]) (rest := []) (wc := [(o, .inr (0, [.int (zI (dv 0)), .int (zI (dv 1)), .int (zI (dv 2)), .int (zI (dv 3)), .int ty, .int px, .int pr, .int (zI (dv 7)), .int (zI (dv 8)), .ref oa, .ref ba])), (oa, .inl (yZ, 72, .inl (aw_f ob))), (ba, .inl (yI, 72, .inl g))]) (wr := [aw_Dr yI da dv, aw_Mr yI pa (upd pf (zI (q / 24)).toNatClampNeg (pf (zI (q / 24)).toNatClampNeg &&& ((zI 1 <<< (zI (q % 24) &&& 31)) ^^^ zI (-1))))]) (ws2 := fun u => [(o, .inr (0, [.int (zI (dv 0)), .int (zI (dv 1)), .int (zI (dv 2)), .int (zI (dv 3)), .int ty, .int px, .int pr, .int (zI (dv 7)), .int (zI (dv 8)), .ref oa, .ref ba])), (oa, .inl (yZ, 72, .inl (aw_f (aw_up ob q bv)))), (ba, .inl (yI, 72, .inl g)), aw_Dr yI da dv, aw_Mr yI pa (upd pf (zI (q / 24)).toNatClampNeg (pf (zI (q / 24)).toNatClampNeg &&& ((zI 1 <<< (zI (q % 24) &&& 31)) ^^^ zI (-1))))]) ⟨hx, hb, hml, hown, hts⟩ (k_setOpen (q := q) (bv := bv) ⟨by omega, by omega⟩ hq) (cwV 2 hts gL_changes_X0_setOpen rfl rfl rfl (by decide +kernel) ⟨Nat.le_of_ble_eq_true rfl, Nat.le_of_ble_eq_true rfl⟩) hP hD hK hS hA rfl rfl [0, 1, 2] [3, 4] rfl rfl (by decide) (by decide) (by decide) [2, 3, 4, 0, 1] (by decide) (fun _ => rfl) rfl hl.1 rfl (Nat.le_of_ble_eq_true rfl) dL_changes_219 ⟨Nat.zero_le _, Nat.zero_le _⟩ (fun u H locs hu hP hD hS => ?_)
              have hP : va_P D vwCl [(o, .inr (0, [.int (zI (dv 0)), .int (zI (dv 1)), .int (zI (dv 2)), .int (zI (dv 3)), .int ty, .int px, .int pr, .int (zI (dv 7)), .int (zI (dv 8)), .ref oa, .ref ba])), (oa, .inl (yZ, 72, .inl (aw_f (aw_up ob q bv)))), (ba, .inl (yI, 72, .inl g)), aw_Dr yI da dv, aw_Mr yI pa (upd pf (zI (q / 24)).toNatClampNeg (pf (zI (q / 24)).toNatClampNeg &&& ((zI 1 <<< (zI (q % 24) &&& 31)) ^^^ zI (-1))))] H := hP
              have hD : va_D _ [(o, .inr (0, [.int (zI (dv 0)), .int (zI (dv 1)), .int (zI (dv 2)), .int (zI (dv 3)), .int ty, .int px, .int pr, .int (zI (dv 7)), .int (zI (dv 8)), .ref oa, .ref ba])), (oa, .inl (yZ, 72, .inl (aw_f (aw_up ob q bv)))), (ba, .inl (yI, 72, .inl g)), aw_Dr yI da dv, aw_Mr yI pa (upd pf (zI (q / 24)).toNatClampNeg (pf (zI (q / 24)).toNatClampNeg &&& ((zI 1 <<< (zI (q % 24) &&& 31)) ^^^ zI (-1))))] := hD
              refine W.eq (g2 := F0 m 222 ls [.int (zI (aw_b (ob q)))]) rfl ?_
              refine lv_iload hx hb dL_changes_222 (lv_at hl 1 rfl) ?_
              refine zb_cne (tgt := 231) hx hb dL_changes_224 (by decide) (by omega) (by omega) (fun c224 => absurd c224 (by omega)) (fun c224 => ?_)
              refine zb_iconst hx hb dL_changes_227 ?_
              refine lv_goto (tgt := 232) hx hb dL_changes_228 (by decide) ?_
              exact aw_zretM (z := 1) (post := aw_p5) (ws' := fun u => aw_w5 yZ yI o oa ba da pa u) ((dv, upd pf (zI (q / 24)).toNatClampNeg (pf (zI (q / 24)).toNatClampNeg &&& ((zI 1 <<< (zI (q % 24) &&& 31)) ^^^ zI (-1))), aw_up ob q bv, (ty, px, pr), g) : aw_S5) hx hb hr hlocks dL_changes_232 (by omega) (by first | rfl | omega) ⟨hI, by show aw_OB _ (aw_up ob q bv); rw [aw_b_eq0.mp c145]; exact aw_OB_clr hO (by omega) (by omega)⟩ hP hK hD hS
            · skip
              refine lv_aload hx hb dL_changes_148 (lv_at hl 8 rfl) ?_
              refine lv_iload hx hb dL_changes_150 (lv_at hl 2 rfl) ?_
              refine zb_bipush hx hb dL_changes_152 (by decide) ?_
              refine zb_div hx hb dL_changes_154 (by omega) (by omega) ?_
              refine va_iald hx hb hK hP 4 1 rfl rfl (zI_in (by omega) (by omega) (by omega)) dL_changes_155 ?_
              refine zb_iconst hx hb dL_changes_156 ?_
              refine lv_iload hx hb dL_changes_157 (lv_at hl 2 rfl) ?_
              refine zb_bipush hx hb dL_changes_159 (by decide) ?_
              refine zb_rem hx hb dL_changes_161 (by omega) (by omega) ?_
              refine lv_ishl hx hb dL_changes_162 ?_
              refine lv_ior hx hb dL_changes_163 ?_
              refine lv_goto (tgt := 185) hx hb dL_changes_164 (by decide) ?_
              refine va_iast hx hb hK hP hD hS 4 1 rfl rfl (zI_in (by omega) (by omega) (by omega)) dL_changes_185 (fun H locs hP hD hS => ?_)
              have hP : va_P D vwCl [(o, .inr (0, [.int (zI (dv 0)), .int (zI (dv 1)), .int (zI (dv 2)), .int (zI (dv 3)), .int ty, .int px, .int pr, .int (zI (dv 7)), .int (zI (dv 8)), .ref oa, .ref ba])), (oa, .inl (yZ, 72, .inl (aw_f ob))), (ba, .inl (yI, 72, .inl g)), aw_Dr yI da dv, aw_Mr yI pa (upd pf (zI (q / 24)).toNatClampNeg (pf (zI (q / 24)).toNatClampNeg ||| (zI 1 <<< (zI (q % 24) &&& 31))))] H := hP
              have hD : va_D _ [(o, .inr (0, [.int (zI (dv 0)), .int (zI (dv 1)), .int (zI (dv 2)), .int (zI (dv 3)), .int ty, .int px, .int pr, .int (zI (dv 7)), .int (zI (dv 8)), .ref oa, .ref ba])), (oa, .inl (yZ, 72, .inl (aw_f ob))), (ba, .inl (yI, 72, .inl g)), aw_Dr yI da dv, aw_Mr yI pa (upd pf (zI (q / 24)).toNatClampNeg (pf (zI (q / 24)).toNatClampNeg ||| (zI 1 <<< (zI (q % 24) &&& 31))))] := hD
              refine lv_aload_n hx hb dL_changes_186 rfl (lv_at hl 4 rfl) ?_
              refine lv_aload_n hx hb dL_changes_187 rfl (lv_at hl 7 rfl) ?_
              refine zb_iconst hx hb dL_changes_188 ?_
              refine aw_dld hx hb hK hP 3 1 rfl rfl 3 (by decide) dL_changes_189 ?_
              refine lv_iload hx hb dL_changes_190 (lv_at hl 0 rfl) ?_
              refine aw_callV (As := [.int (zI (dv 3)), .int (zI (aw_b bv))]) (rest := []) ⟨hx, hb, hml, hown, hts⟩ (k_setOpen_no (q := dv 3) (b := aw_b bv) ⟨by omega, by omega⟩ ⟨by omega, by omega⟩ (by omega)) (cwV 2 hts gL_changes_X0_setOpen rfl rfl rfl (by decide +kernel) ⟨Nat.le_of_ble_eq_true rfl, Nat.le_of_ble_eq_true rfl⟩) (hP.sub (ws' := [(o, .inr (0, [.int (zI (dv 0)), .int (zI (dv 1)), .int (zI (dv 2)), .int (zI (dv 3)), .int ty, .int px, .int pr, .int (zI (dv 7)), .int (zI (dv 8)), .ref oa, .ref ba])), (oa, .inl (yZ, 72, .inl (aw_f ob))), (ba, .inl (yI, 72, .inl g))]) [0, 1, 2] rfl) hK rfl rfl rfl hl.1 rfl (Nat.le_of_ble_eq_true rfl) dL_changes_192 ⟨Nat.zero_le _, Nat.zero_le _⟩ ?_
              refine zb_sipush hx hb dL_changes_195 (by decide) ?_
              refine zb_cne (tgt := 231) hx hb dL_changes_198 (by decide) (by omega) (by omega) (fun c198 => absurd c198 (by omega)) (fun c198 => ?_)
              refine lv_aload_n hx hb dL_changes_201 rfl (lv_at hl 4 rfl) ?_
              refine zb_iconst hx hb dL_changes_202 ?_
              refine lv_iload hx hb dL_changes_203 (lv_at hl 0 rfl) ?_
              refine aw_callV (As := [.int (zI ((-1))), .int (zI (aw_b bv))]) (rest := []) ⟨hx, hb, hml, hown, hts⟩ (k_setOpen_no (q := -1) (b := aw_b bv) ⟨by omega, by omega⟩ ⟨by omega, by omega⟩ (by omega)) (cwV 2 hts gL_changes_X0_setOpen rfl rfl rfl (by decide +kernel) ⟨Nat.le_of_ble_eq_true rfl, Nat.le_of_ble_eq_true rfl⟩) (hP.sub (ws' := [(o, .inr (0, [.int (zI (dv 0)), .int (zI (dv 1)), .int (zI (dv 2)), .int (zI (dv 3)), .int ty, .int px, .int pr, .int (zI (dv 7)), .int (zI (dv 8)), .ref oa, .ref ba])), (oa, .inl (yZ, 72, .inl (aw_f ob))), (ba, .inl (yI, 72, .inl g))]) [0, 1, 2] rfl) hK rfl rfl rfl hl.1 rfl (Nat.le_of_ble_eq_true rfl) dL_changes_205 ⟨Nat.zero_le _, Nat.zero_le _⟩ ?_
              refine zb_sipush hx hb dL_changes_208 (by decide) ?_
              refine zb_cne (tgt := 231) hx hb dL_changes_211 (by decide) (by omega) (by omega) (fun c211 => absurd c211 (by omega)) (fun c211 => ?_)
              refine lv_aload_n hx hb dL_changes_214 rfl (lv_at hl 4 rfl) ?_
              refine lv_iload hx hb dL_changes_215 (lv_at hl 2 rfl) ?_
              refine lv_iload hx hb dL_changes_217 (lv_at hl 0 rfl) ?_
              refine aw_callMV (As := [.int (zI q), .int (zI (aw_b bv))]) (rest := []) (wc := [(o, .inr (0, [.int (zI (dv 0)), .int (zI (dv 1)), .int (zI (dv 2)), .int (zI (dv 3)), .int ty, .int px, .int pr, .int (zI (dv 7)), .int (zI (dv 8)), .ref oa, .ref ba])), (oa, .inl (yZ, 72, .inl (aw_f ob))), (ba, .inl (yI, 72, .inl g))]) (wr := [aw_Dr yI da dv, aw_Mr yI pa (upd pf (zI (q / 24)).toNatClampNeg (pf (zI (q / 24)).toNatClampNeg ||| (zI 1 <<< (zI (q % 24) &&& 31))))]) (ws2 := fun u => [(o, .inr (0, [.int (zI (dv 0)), .int (zI (dv 1)), .int (zI (dv 2)), .int (zI (dv 3)), .int ty, .int px, .int pr, .int (zI (dv 7)), .int (zI (dv 8)), .ref oa, .ref ba])), (oa, .inl (yZ, 72, .inl (aw_f (aw_up ob q bv)))), (ba, .inl (yI, 72, .inl g)), aw_Dr yI da dv, aw_Mr yI pa (upd pf (zI (q / 24)).toNatClampNeg (pf (zI (q / 24)).toNatClampNeg ||| (zI 1 <<< (zI (q % 24) &&& 31))))]) ⟨hx, hb, hml, hown, hts⟩ (k_setOpen (q := q) (bv := bv) ⟨by omega, by omega⟩ hq) (cwV 2 hts gL_changes_X0_setOpen rfl rfl rfl (by decide +kernel) ⟨Nat.le_of_ble_eq_true rfl, Nat.le_of_ble_eq_true rfl⟩) hP hD hK hS hA rfl rfl [0, 1, 2] [3, 4] rfl rfl (by decide) (by decide) (by decide) [2, 3, 4, 0, 1] (by decide) (fun _ => rfl) rfl hl.1 rfl (Nat.le_of_ble_eq_true rfl) dL_changes_219 ⟨Nat.zero_le _, Nat.zero_le _⟩ (fun u H locs hu hP hD hS => ?_)
              have hP : va_P D vwCl [(o, .inr (0, [.int (zI (dv 0)), .int (zI (dv 1)), .int (zI (dv 2)), .int (zI (dv 3)), .int ty, .int px, .int pr, .int (zI (dv 7)), .int (zI (dv 8)), .ref oa, .ref ba])), (oa, .inl (yZ, 72, .inl (aw_f (aw_up ob q bv)))), (ba, .inl (yI, 72, .inl g)), aw_Dr yI da dv, aw_Mr yI pa (upd pf (zI (q / 24)).toNatClampNeg (pf (zI (q / 24)).toNatClampNeg ||| (zI 1 <<< (zI (q % 24) &&& 31))))] H := hP
              have hD : va_D _ [(o, .inr (0, [.int (zI (dv 0)), .int (zI (dv 1)), .int (zI (dv 2)), .int (zI (dv 3)), .int ty, .int px, .int pr, .int (zI (dv 7)), .int (zI (dv 8)), .ref oa, .ref ba])), (oa, .inl (yZ, 72, .inl (aw_f (aw_up ob q bv)))), (ba, .inl (yI, 72, .inl g)), aw_Dr yI da dv, aw_Mr yI pa (upd pf (zI (q / 24)).toNatClampNeg (pf (zI (q / 24)).toNatClampNeg ||| (zI 1 <<< (zI (q % 24) &&& 31))))] := hD
              refine W.eq (g2 := F0 m 222 ls [.int (zI (aw_b (ob q)))]) rfl ?_
              refine lv_iload hx hb dL_changes_222 (lv_at hl 1 rfl) ?_
              refine zb_cne (tgt := 231) hx hb dL_changes_224 (by decide) (by omega) (by omega) (fun c224 => absurd c224 (by omega)) (fun c224 => ?_)
              refine zb_iconst hx hb dL_changes_227 ?_
              refine lv_goto (tgt := 232) hx hb dL_changes_228 (by decide) ?_
              exact aw_zretM (z := 1) (post := aw_p5) (ws' := fun u => aw_w5 yZ yI o oa ba da pa u) ((dv, upd pf (zI (q / 24)).toNatClampNeg (pf (zI (q / 24)).toNatClampNeg ||| (zI 1 <<< (zI (q % 24) &&& 31))), aw_up ob q bv, (ty, px, pr), g) : aw_S5) hx hb hr hlocks dL_changes_232 (by omega) (by first | rfl | omega) ⟨hI, by show aw_OB _ (aw_up ob q bv); rw [aw_b_ne0.mp c145]; exact aw_OB_set hO (by omega) (by omega)⟩ hP hK hD hS
      · skip
        refine lv_aload_n hx hb dL_changes_39 rfl (lv_at hl 4 rfl) ?_
        refine zb_bipush hx hb dL_changes_40 (by decide) ?_
        refine aw_dld hx hb hK hP 3 1 rfl rfl 8 (by decide) dL_changes_42 ?_
        refine lv_istore (lv' := [(6, .int (zI (dv 8))), (5, .int (zI a)), (0, .ref o), (1, .int (zI x)), (2, .int (zI y)), (3, .ref da), (4, .ref pa)]) hx hb dL_changes_43 hl (by decide) rfl (fun ls hl => ?_)
        refine lv_aload_n hx hb dL_changes_45 rfl (lv_at hl 5 rfl) ?_
        refine zb_bipush hx hb dL_changes_46 (by decide) ?_
        refine lv_iload_n hx hb dL_changes_48 rfl (lv_at hl 4 rfl) ?_
        refine zb_bipush hx hb dL_changes_49 (by decide) ?_
        refine zb_rem hx hb dL_changes_51 (by omega) (by omega) ?_
        refine zb_nm (fun nc e_nc => ?_)
        have hnc : 0 ≤ nc ∧ nc ≤ 5 := by omega
        have hIn : aw_In (dv 0) (dv 1) (dv 2) (dv 3) (dv 7) nc := ⟨by omega, by omega, by omega, by omega, by omega, by omega, i7, by omega, by omega, by omega, by omega, by omega, by omega⟩
        refine aw_dst hx hb hK hP hD hS 3 1 rfl rfl 8 (by decide) dL_changes_52 (fun H locs hP hD hS => ?_)
        have hP : va_P D vwCl [(o, .inr (0, [.int (zI (dv 0)), .int (zI (dv 1)), .int (zI (dv 2)), .int (zI (dv 3)), .int ty, .int px, .int pr, .int (zI (dv 7)), .int (zI (dv 8)), .ref oa, .ref ba])), (oa, .inl (yZ, 72, .inl (aw_f ob))), (ba, .inl (yI, 72, .inl g)), aw_Dr yI da (aw_ud dv 8 nc), aw_Mr yI pa pf] H := hP
        have hD : va_D _ [(o, .inr (0, [.int (zI (dv 0)), .int (zI (dv 1)), .int (zI (dv 2)), .int (zI (dv 3)), .int ty, .int px, .int pr, .int (zI (dv 7)), .int (zI (dv 8)), .ref oa, .ref ba])), (oa, .inl (yZ, 72, .inl (aw_f ob))), (ba, .inl (yI, 72, .inl g)), aw_Dr yI da (aw_ud dv 8 nc), aw_Mr yI pa pf] := hD
        refine lv_aload_n hx hb dL_changes_53 rfl (lv_at hl 2 rfl) ?_
        refine zb_iconst hx hb dL_changes_54 ?_
        refine aw_callV (As := [.int (zI ((-1)))]) (rest := []) ⟨hx, hb, hml, hown, hts⟩ (k_setChording_no (x := -1) ⟨by omega, by omega⟩ (by omega)) (cwV 1 hts gL_changes_X0_setChording rfl rfl rfl (by decide +kernel) ⟨Nat.le_of_ble_eq_true rfl, Nat.le_of_ble_eq_true rfl⟩) (hP.sub (ws' := [(o, .inr (0, [.int (zI (dv 0)), .int (zI (dv 1)), .int (zI (dv 2)), .int (zI (dv 3)), .int ty, .int px, .int pr, .int (zI (dv 7)), .int (zI (dv 8)), .ref oa, .ref ba])), (oa, .inl (yZ, 72, .inl (aw_f ob))), (ba, .inl (yI, 72, .inl g))]) [0, 1, 2] rfl) hK rfl rfl rfl hl.1 rfl (Nat.le_of_ble_eq_true rfl) dL_changes_55 ⟨Nat.zero_le _, Nat.zero_le _⟩ ?_
        refine zb_sipush hx hb dL_changes_58 (by decide) ?_
        refine zb_cne (tgt := 93) hx hb dL_changes_61 (by decide) (by omega) (by omega) (fun c61 => absurd c61 (by omega)) (fun c61 => ?_)
        refine lv_aload_n hx hb dL_changes_64 rfl (lv_at hl 2 rfl) ?_
        refine zb_bipush hx hb dL_changes_65 (by decide) ?_
        refine aw_callV (As := [.int (zI 6)]) (rest := []) ⟨hx, hb, hml, hown, hts⟩ (k_setChording_no (x := 6) ⟨by omega, by omega⟩ (by omega)) (cwV 1 hts gL_changes_X0_setChording rfl rfl rfl (by decide +kernel) ⟨Nat.le_of_ble_eq_true rfl, Nat.le_of_ble_eq_true rfl⟩) (hP.sub (ws' := [(o, .inr (0, [.int (zI (dv 0)), .int (zI (dv 1)), .int (zI (dv 2)), .int (zI (dv 3)), .int ty, .int px, .int pr, .int (zI (dv 7)), .int (zI (dv 8)), .ref oa, .ref ba])), (oa, .inl (yZ, 72, .inl (aw_f ob))), (ba, .inl (yI, 72, .inl g))]) [0, 1, 2] rfl) hK rfl rfl rfl hl.1 rfl (Nat.le_of_ble_eq_true rfl) dL_changes_67 ⟨Nat.zero_le _, Nat.zero_le _⟩ ?_
        refine zb_sipush hx hb dL_changes_70 (by decide) ?_
        refine zb_cne (tgt := 93) hx hb dL_changes_73 (by decide) (by omega) (by omega) (fun c73 => absurd c73 (by omega)) (fun c73 => ?_)
        refine lv_aload_n hx hb dL_changes_76 rfl (lv_at hl 2 rfl) ?_
        refine lv_aload_n hx hb dL_changes_77 rfl (lv_at hl 5 rfl) ?_
        refine zb_bipush hx hb dL_changes_78 (by decide) ?_
        refine aw_dld hx hb hK hP 3 1 rfl rfl 8 (by decide) dL_changes_80 ?_
        refine zb_as nc rfl ?_
        refine aw_callMV (As := [.int (zI nc)]) (rest := []) (wc := [(o, .inr (0, [.int (zI (dv 0)), .int (zI (dv 1)), .int (zI (dv 2)), .int (zI (dv 3)), .int ty, .int px, .int pr, .int (zI (dv 7)), .int (zI (dv 8)), .ref oa, .ref ba])), (oa, .inl (yZ, 72, .inl (aw_f ob))), (ba, .inl (yI, 72, .inl g))]) (wr := [aw_Dr yI da (aw_ud dv 8 nc), aw_Mr yI pa pf]) (ws2 := fun u => [(o, .inr (0, [.int (zI (dv 0)), .int (zI (dv 1)), .int (zI (dv 2)), .int (zI (dv 3)), .int ty, .int px, .int pr, .int (zI (dv 7)), .int (zI nc), .ref oa, .ref ba])), (oa, .inl (yZ, 72, .inl (aw_f ob))), (ba, .inl (yI, 72, .inl g)), aw_Dr yI da (aw_ud dv 8 nc), aw_Mr yI pa pf]) ⟨hx, hb, hml, hown, hts⟩ (k_setChording (x := nc) hnc) (cwV 1 hts gL_changes_X0_setChording rfl rfl rfl (by decide +kernel) ⟨Nat.le_of_ble_eq_true rfl, Nat.le_of_ble_eq_true rfl⟩) hP hD hK hS hA rfl rfl [0, 1, 2] [3, 4] rfl rfl (by decide) (by decide) (by decide) [2, 3, 4, 0, 1] (by decide) (fun _ => rfl) rfl hl.1 rfl (Nat.le_of_ble_eq_true rfl) dL_changes_81 ⟨Nat.zero_le _, Nat.zero_le _⟩ (fun u H locs hu hP hD hS => ?_)
        have hP : va_P D vwCl [(o, .inr (0, [.int (zI (dv 0)), .int (zI (dv 1)), .int (zI (dv 2)), .int (zI (dv 3)), .int ty, .int px, .int pr, .int (zI (dv 7)), .int (zI nc), .ref oa, .ref ba])), (oa, .inl (yZ, 72, .inl (aw_f ob))), (ba, .inl (yI, 72, .inl g)), aw_Dr yI da (aw_ud dv 8 nc), aw_Mr yI pa pf] H := hP
        have hD : va_D _ [(o, .inr (0, [.int (zI (dv 0)), .int (zI (dv 1)), .int (zI (dv 2)), .int (zI (dv 3)), .int ty, .int px, .int pr, .int (zI (dv 7)), .int (zI nc), .ref oa, .ref ba])), (oa, .inl (yZ, 72, .inl (aw_f ob))), (ba, .inl (yI, 72, .inl g)), aw_Dr yI da (aw_ud dv 8 nc), aw_Mr yI pa pf] := hD
        refine W.eq (g2 := F0 m 84 ls [.int (zI (dv 8))]) rfl ?_
        refine lv_iload hx hb dL_changes_84 (lv_at hl 0 rfl) ?_
        refine zb_cne (tgt := 93) hx hb dL_changes_86 (by decide) (by omega) (by omega) (fun c86 => absurd c86 (by omega)) (fun c86 => ?_)
        refine zb_iconst hx hb dL_changes_89 ?_
        refine lv_goto (tgt := 94) hx hb dL_changes_90 (by decide) ?_
        exact aw_zretM (z := 1) (post := aw_p5) (ws' := fun u => aw_w5 yZ yI o oa ba da pa u) ((aw_ud dv 8 nc, pf, ob, (ty, px, pr), g) : aw_S5) hx hb hr hlocks dL_changes_94 (by omega) (by first | rfl | omega) ⟨hIn, hO⟩ hP hK hD hS
    · skip
      refine lv_aload_n hx hb dL_changes_26 rfl (lv_at hl 1 rfl) ?_
      refine lv_iload_n hx hb dL_changes_27 rfl (lv_at hl 3 rfl) ?_
      refine lv_aload_n hx hb dL_changes_28 rfl (lv_at hl 4 rfl) ?_
      refine aw_callMS (As := [.ref o, .int (zI y), .ref da]) (rest := []) (wc := [(o, .inr (0, [.int (zI (dv 0)), .int (zI (dv 1)), .int (zI (dv 2)), .int (zI (dv 3)), .int ty, .int px, .int pr, .int (zI (dv 7)), .int (zI (dv 8)), .ref oa, .ref ba])), (oa, .inl (yZ, 72, .inl (aw_f ob))), (ba, .inl (yI, 72, .inl g)), aw_Dr yI da dv, aw_Mr yI pa pf]) (wr := []) (ws2 := fun u => [(o, .inr (0, [.int (zI (u.1 0)), .int (zI (u.1 1)), .int (zI (u.1 2)), .int (zI (u.1 3)), .int (u.2.2.2.1.1), .int (u.2.2.2.1.2.1), .int (u.2.2.2.1.2.2), .int (zI (u.1 7)), .int (zI (u.1 8)), .ref oa, .ref ba])), (oa, .inl (yZ, 72, .inl (aw_f (u.2.2.1)))), (ba, .inl (yI, 72, .inl (u.2.2.2.2))), aw_Dr yI da (u.1), aw_Mr yI pa (u.2.1)]) ⟨hx, hb, hml, hown, hts⟩ (k_winding (x := y) hI hO hy0) (va_cwS 3 hts gL_changes_L_winding rfl rfl rfl (by decide +kernel) ⟨Nat.le_of_ble_eq_true rfl, Nat.le_of_ble_eq_true rfl⟩) hP hD hK hS hA [0, 1, 2, 3, 4] [] rfl rfl (by decide) (by decide) (by decide) [0, 1, 2, 3, 4] (by decide) (fun _ => rfl) rfl hl.1 rfl (Nat.le_of_ble_eq_true rfl) dL_changes_29 ⟨Nat.zero_le _, Nat.zero_le _⟩ (fun u H locs hu hP hD hS => ?_)
      obtain ⟨dv2, pf2, ob2, ⟨ty2, px2, pr2⟩, g2⟩ := u
      have hP : va_P D vwCl [(o, .inr (0, [.int (zI (dv2 0)), .int (zI (dv2 1)), .int (zI (dv2 2)), .int (zI (dv2 3)), .int ty2, .int px2, .int pr2, .int (zI (dv2 7)), .int (zI (dv2 8)), .ref oa, .ref ba])), (oa, .inl (yZ, 72, .inl (aw_f ob2))), (ba, .inl (yI, 72, .inl g2)), aw_Dr yI da dv2, aw_Mr yI pa pf2] H := hP
      have hD : va_D _ [(o, .inr (0, [.int (zI (dv2 0)), .int (zI (dv2 1)), .int (zI (dv2 2)), .int (zI (dv2 3)), .int ty2, .int px2, .int pr2, .int (zI (dv2 7)), .int (zI (dv2 8)), .ref oa, .ref ba])), (oa, .inl (yZ, 72, .inl (aw_f ob2))), (ba, .inl (yI, 72, .inl g2)), aw_Dr yI da dv2, aw_Mr yI pa pf2] := hD
      refine W.eq (g2 := F0 m 32 ls [.int (zI 1)]) rfl ?_
      exact aw_zretM (z := 1) (post := aw_p5) (ws' := fun u => aw_w5 yZ yI o oa ba da pa u) ((dv2, pf2, ob2, (ty2, px2, pr2), g2) : aw_S5) hx hb hr hlocks dL_changes_32 (by omega) (by first | rfl | omega) hu hP hK hD hS
  · skip
    refine lv_aload_n hx hb dL_changes_11 rfl (lv_at hl 1 rfl) ?_
    refine lv_iload_n hx hb dL_changes_12 rfl (lv_at hl 3 rfl) ?_
    refine lv_aload_n hx hb dL_changes_13 rfl (lv_at hl 4 rfl) ?_
    refine lv_aload hx hb dL_changes_14 (lv_at hl 5 rfl) ?_
    refine aw_callMS (As := [.ref o, .int (zI y), .ref da, .ref pa]) (rest := []) (wc := [(o, .inr (0, [.int (zI (dv 0)), .int (zI (dv 1)), .int (zI (dv 2)), .int (zI (dv 3)), .int ty, .int px, .int pr, .int (zI (dv 7)), .int (zI (dv 8)), .ref oa, .ref ba])), (oa, .inl (yZ, 72, .inl (aw_f ob))), (ba, .inl (yI, 72, .inl g)), aw_Dr yI da dv, aw_Mr yI pa pf]) (wr := []) (ws2 := fun u => [(o, .inr (0, [.int (zI (u.1 0)), .int (zI (u.1 1)), .int (zI (u.1 2)), .int (zI (u.1 3)), .int (u.2.2.2.1.1), .int (u.2.2.2.1.2.1), .int (u.2.2.2.1.2.2), .int (zI (u.1 7)), .int (zI (u.1 8)), .ref oa, .ref ba])), (oa, .inl (yZ, 72, .inl (aw_f (u.2.2.1)))), (ba, .inl (yI, 72, .inl (u.2.2.2.2))), aw_Dr yI da (u.1), aw_Mr yI pa (u.2.1)]) ⟨hx, hb, hml, hown, hts⟩ (k_armature (x := y) hy0) (va_cwS 4 hts gL_changes_L_armature rfl rfl rfl (by decide +kernel) ⟨Nat.le_of_ble_eq_true rfl, Nat.le_of_ble_eq_true rfl⟩) hP hD hK hS hA [0, 1, 2, 3, 4] [] rfl rfl (by decide) (by decide) (by decide) [0, 1, 2, 3, 4] (by decide) (fun _ => rfl) rfl hl.1 rfl (Nat.le_of_ble_eq_true rfl) dL_changes_16 ⟨Nat.zero_le _, Nat.zero_le _⟩ (fun u H locs hu hP hD hS => ?_)
    obtain ⟨dv2, pf2, ob2, ⟨ty2, px2, pr2⟩, g2⟩ := u
    have hP : va_P D vwCl [(o, .inr (0, [.int (zI (dv2 0)), .int (zI (dv2 1)), .int (zI (dv2 2)), .int (zI (dv2 3)), .int ty2, .int px2, .int pr2, .int (zI (dv2 7)), .int (zI (dv2 8)), .ref oa, .ref ba])), (oa, .inl (yZ, 72, .inl (aw_f ob2))), (ba, .inl (yI, 72, .inl g2)), aw_Dr yI da dv2, aw_Mr yI pa pf2] H := hP
    have hD : va_D _ [(o, .inr (0, [.int (zI (dv2 0)), .int (zI (dv2 1)), .int (zI (dv2 2)), .int (zI (dv2 3)), .int ty2, .int px2, .int pr2, .int (zI (dv2 7)), .int (zI (dv2 8)), .ref oa, .ref ba])), (oa, .inl (yZ, 72, .inl (aw_f ob2))), (ba, .inl (yI, 72, .inl g2)), aw_Dr yI da dv2, aw_Mr yI pa pf2] := hD
    refine W.eq (g2 := F0 m 19 ls [.int (zI 1)]) rfl ?_
    exact aw_zretM (z := 1) (post := aw_p5) (ws' := fun u => aw_w5 yZ yI o oa ba da pa u) ((dv2, pf2, ob2, (ty2, px2, pr2), g2) : aw_S5) hx hb hr hlocks dL_changes_19 (by omega) (by first | rfl | omega) hu hP hK hD hS
end
end
section
abbrev aw_new (h0 : Nat) : Nat × va_E := (h0, .inr (0, [.int 0, .int 0, .int 0, .int 0, .int 0, .int 0, .int 0, .int 0, .int 0, .null, .null]))
theorem aw_f0 : aw_f (fun _ => false) = fun _ => 0 := by
  funext j
  show zI (aw_b false) = 0
  decide
abbrev aw_I : Type := (Int → Bool) × (Nat → Int32)
set_option maxHeartbeats 4000000 in
set_option maxRecDepth 100000 in
/-- the constructor: two rows are made; the armature of 4 poles, 12 slots, one coil a slot -/
theorem k_init (l : Launch) (D : va_G) (h0 sz : Nat) : Met l yX0_init wsX0_init ({ frames := 3, cells := 2, slots := 144, locals := 67 }) (va_Pc [.ref h0] (fun U => U.heap.size = sz ∧ va_P D vwCl [aw_new h0] U.heap ∧ va_K D vwCl [] U ∧ va_D (fun _ => True) [aw_new h0]))
    (va_Qv (fun u : aw_I => ∀ z : Int, 0 ≤ z → z < 72 → u.1 z = false) (fun u t => ∃ (yZ yI : ClassId) (oa ba : Nat), va_P D vwCl (aw_W3 yZ yI h0 oa ba 4 12 1 (12 * 1) (zI 0) (zI 1) (zI 1) 1 0 u.1 u.2) t.heap ∧ va_K D vwCl (aw_T yZ yI) t ∧ va_D (va_A [aw_new h0] sz) (aw_W3 yZ yI h0 oa ba 4 12 1 (12 * 1) (zI 0) (zI 1) (zI 1) 1 0 u.1 u.2)) (va_A [aw_new h0] sz)) 2 144 (va_A [aw_new h0] sz) := by
  refine Met.ofW (cc := cX0_init) (maxL := 1) (ret := none) (by decide) rfl ?_
  intro p e s m args below meth c s₁ B hml hv
  obtain ⟨rfl, hsz, hP, hK, hD0⟩ := hv
  have hx := B.exec
  have hb := B.bytes
  have hr := B.returns
  have hts := atoms_spec (ws := wsX0_init) B.pre
  have hown : s.vm.findClass RX0 = some m.cls := findClass_of_methodNamed B.named
  have hlocks := B.notSynchronized
  have hin2 : meth.name = "<init>" := (name_of_methodNamed B.named B.method).1
  have hin : ∀ w ∈ wsX00, w ∈ wsX0_init := fun w h => List.mem_cons_of_mem _ (List.mem_append_right _ h)
  have hf_9 := hts (.fieldLink RX0 9 "ArmatureWinding" "open" "[Z") (by decide +kernel)
  have hf_13 := hts (.fieldLink RX0 13 "ArmatureWinding" "brushOnBar" "[I") (by decide +kernel)
  subst hsz
  have hD := hD0.self (sz := s.heap.size)
  have hA : ∀ q : Nat, s.heap.size ≤ q → va_A [aw_new h0] s.heap.size q := fun q h => Or.inr h
  have hS : va_S (va_A [aw_new h0] s.heap.size) s.heap s.heap [] := va_S.rf
  have hl := lv_entry ([.ref h0]) (n := 1) (Nat.le_of_ble_eq_true rfl)
  rw [lg_entry_eq]
  generalize (lg_sl ([.ref h0]) ++ List.replicate (1 - (lg_sl ([.ref h0])).length) Slot.unset).toArray = ls at hl ⊢
  have hl : lv_has ls 1 [(0, .ref h0)] := hl
  refine lv_aload_n hx hb dX0_init_0 rfl (lv_at hl 0 rfl) ?_
  refine W.objInit hx hb hown (hts (.methodLink RX0 3 objectInit) (by decide +kernel)) (hts (.instanceMethod objectInit) (by decide +kernel)) (hts _ (List.mem_cons_of_mem _ (List.mem_append_left _ (List.mem_append_left _ (List.mem_of_getElem? (i := 2) rfl))))) rfl (by rw [hml]; exact hl.1) rfl dX0_init_1 (Nat.le_of_ble_eq_true rfl) (Nat.le_of_ble_eq_true rfl) ?_
  refine W.eq (g2 := F0 m 4 ls []) rfl ?_
  refine lv_aload_n hx hb dX0_init_4 rfl (lv_at hl 0 rfl) ?_
  refine zb_bipush hx hb dX0_init_5 (by decide) ?_
  refine va_newa (atype := .boolean) (ty := .boolean) (n := zI 72) (N' := 72) (a0 := (72, .inl (fun _ => 0))) hx hb (hts (.arrayClass .boolean) (by decide +kernel)) rfl hK hP hD hS hA (fun _ => rfl) (by decide) (by decide) (by decide) (Nat.le_of_ble_eq_true rfl) (Nat.le_of_ble_eq_true rfl) dX0_init_7 (fun oa yZ H hK hP hD hS => ?_)
  refine W.widen (k := 1) (n := 72) (by omega) (by omega) ?_
  have hK : va_K D vwCl [(yZ, .boolean)] s := hK
  have hP : va_P D vwCl [aw_new h0, (oa, .inl (yZ, 72, .inl (fun _ => 0)))] H := hP
  have hD : va_D _ [aw_new h0, (oa, .inl (yZ, 72, .inl (fun _ => 0)))] := hD
  refine va_putF (D := D) (ci := 0) (v := .ref oa) (ty := .array .boolean) (C := RX0) (T := TX0) (N := 11) hx hb hts hin tyX0 tyX0_ok nmX0 hown hK hP hD hS 0 rfl rfl 9 (by decide) hf_9 (fun _ h9 => h9) rfl hin2 rfl (by decide +kernel) rfl rfl (Nat.le_of_ble_eq_true rfl) dX0_init_9 (fun H locs hP hD hS => ?_)
  have hP : va_P D vwCl [(h0, .inr (0, [.int 0, .int 0, .int 0, .int 0, .int 0, .int 0, .int 0, .int 0, .int 0, .ref oa, .null])), (oa, .inl (yZ, 72, .inl (fun _ => 0)))] H := hP
  have hD : va_D _ [(h0, .inr (0, [.int 0, .int 0, .int 0, .int 0, .int 0, .int 0, .int 0, .int 0, .int 0, .ref oa, .null])), (oa, .inl (yZ, 72, .inl (fun _ => 0)))] := hD
  refine lv_aload_n hx hb dX0_init_12 rfl (lv_at hl 0 rfl) ?_
  refine zb_bipush hx hb dX0_init_13 (by decide) ?_
  refine va_newa (atype := .int) (ty := .int) (n := zI 72) (N' := 72) (a0 := (72, .inl (fun _ => 0))) hx hb (hts (.arrayClass .int) (by decide +kernel)) rfl hK hP hD hS hA (fun _ => rfl) (by decide) (by decide) (by decide) (Nat.le_of_ble_eq_true rfl) (Nat.le_of_ble_eq_true rfl) dX0_init_15 (fun ba yI H hK hP hD hS => ?_)
  refine W.widen (k := 2) (n := 144) (by omega) (by omega) ?_
  have hK : va_K D vwCl (aw_T yZ yI) s := hK
  have hP : va_P D vwCl [(h0, .inr (0, [.int 0, .int 0, .int 0, .int 0, .int 0, .int 0, .int 0, .int 0, .int 0, .ref oa, .null])), (oa, .inl (yZ, 72, .inl (fun _ => 0))), (ba, .inl (yI, 72, .inl (fun _ => 0)))] H := hP
  have hD : va_D _ [(h0, .inr (0, [.int 0, .int 0, .int 0, .int 0, .int 0, .int 0, .int 0, .int 0, .int 0, .ref oa, .null])), (oa, .inl (yZ, 72, .inl (fun _ => 0))), (ba, .inl (yI, 72, .inl (fun _ => 0)))] := hD
  refine va_putF (D := D) (ci := 0) (v := .ref ba) (ty := .array .int) (C := RX0) (T := TX0) (N := 11) hx hb hts hin tyX0 tyX0_ok nmX0 hown hK hP hD hS 0 rfl rfl 10 (by decide) hf_13 (fun _ h9 => h9) rfl hin2 rfl (by decide +kernel) rfl rfl (Nat.le_of_ble_eq_true rfl) dX0_init_17 (fun H locs hP hD hS => ?_)
  have hP : va_P D vwCl [(h0, .inr (0, [.int 0, .int 0, .int 0, .int 0, .int 0, .int 0, .int 0, .int 0, .int 0, .ref oa, .ref ba])), (oa, .inl (yZ, 72, .inl (fun _ => 0))), (ba, .inl (yI, 72, .inl (fun _ => 0)))] H := hP
  have hD : va_D _ [(h0, .inr (0, [.int 0, .int 0, .int 0, .int 0, .int 0, .int 0, .int 0, .int 0, .int 0, .ref oa, .ref ba])), (oa, .inl (yZ, 72, .inl (fun _ => 0))), (ba, .inl (yI, 72, .inl (fun _ => 0)))] := hD
  rw [← aw_f0, ← zI_0] at hP hD
  refine lv_aload_n hx hb dX0_init_20 rfl (lv_at hl 0 rfl) ?_
  refine zb_iconst hx hb dX0_init_21 ?_
  refine zb_bipush hx hb dX0_init_22 (by decide) ?_
  refine zb_iconst hx hb dX0_init_24 ?_
  refine aw_callMV (As := [.int (zI 4), .int (zI 12), .int (zI 1)]) (rest := []) (wc := aw_W3 yZ yI h0 oa ba 0 0 0 0 (zI 0) (zI 0) (zI 0) 0 0 (fun _ => false) (fun _ => zI 0)) (wr := []) (ws2 := fun u => aw_W3 yZ yI h0 oa ba 4 12 1 (12 * 1) (zI 0) (zI 1) (zI 1) 1 0 u.1 u.2) ⟨hx, hb, hml, hown, hts⟩ (k_layArmature (a := 4) (b := 12) (k := 1) ⟨by omega, by omega⟩ ⟨by omega, by omega⟩) (cwV 3 hts gX0_init_X0_layArmature rfl rfl rfl (by decide +kernel) ⟨Nat.le_of_ble_eq_true rfl, Nat.le_of_ble_eq_true rfl⟩) hP hD hK hS hA rfl rfl [0, 1, 2] [] rfl rfl (by decide) (by decide) (by decide) [0, 1, 2] (by decide) (fun _ => rfl) rfl hl.1 rfl (Nat.le_of_ble_eq_true rfl) dX0_init_25 ⟨Nat.le_of_ble_eq_true rfl, Nat.le_of_ble_eq_true rfl⟩ (fun u H locs hu hP hD hS => ?_)
  refine W.eq (g2 := F0 m 28 ls []) rfl ?_
  exact W.vret hx hb hr (fun t ht hW => ⟨⟨u, rfl, hu, yZ, yI, oa, ba, by rw [ht]; exact hP, va_K.moved hW.alike hK, hD⟩, hS.F ht⟩) hS.2.2 dX0_init_28
/-- what the law reads for number k of the script -/
def aw_ce (L : Nat) (xs : Nat → Int32) (k : Int) : Int := ((if k < (L : Int) then xs k.toNat else zI (7919 * k + 13)) &&& zI 2147483647).toInt
theorem aw_ce_in (L : Nat) (xs : Nat → Int32) (k : Int) : 0 ≤ aw_ce L xs k ∧ aw_ce L xs k < 2147483648 := by
  unfold aw_ce
  have h : ∀ x : Int32, 0 ≤ (x &&& zI 2147483647).toInt ∧ (x &&& zI 2147483647).toInt < 2147483648 := by
    intro x
    rw [show zI 2147483647 = 2147483647 from by decide, pk_and x (m := 2147483647) 31 (by decide), nI_toInt (by omega)]
    omega
  exact h _
theorem zI_back (x : Int32) : zI x.toInt = x := Int32.ofInt_toInt x
section
variable {l : Launch} {D : va_G}
set_option maxHeartbeats 4000000 in
set_option maxRecDepth 100000 in
/-- the law's cell -/
theorem k_cell {b L : Nat} {xs : Nat → Int32} (hL : L ≤ 1000) {k : Int} (hk : 0 ≤ k ∧ k ≤ 1000) : Met l yL_cell wsL_cell (aw_rm 0 0) (va_Pc [.ref b, .int (zI k)] (fun U => va_X b L xs U U.heap)) (aw_Q (aw_ce L xs k)) 0 0 (fun _ => False) := by
  refine Met.ofW (cc := cL_cell) (maxL := 2) (ret := (some .int)) (by decide) rfl ?_
  intro p e s m args below meth c s₁ B hml hv
  obtain ⟨rfl, hX⟩ := hv
  have hx := B.exec
  have hb := B.bytes
  have hr := B.returns
  have hts := atoms_spec (ws := wsL_cell) B.pre
  have hown : s.vm.findClass RL = some m.cls := findClass_of_methodNamed B.named
  have hlocks := B.notSynchronized
  have hl := lv_entry ([.ref b, .int (zI k)]) (n := 2) (Nat.le_of_ble_eq_true rfl)
  rw [lg_entry_eq]
  generalize (lg_sl ([.ref b, .int (zI k)]) ++ List.replicate (2 - (lg_sl ([.ref b, .int (zI k)])).length) Slot.unset).toArray = ls at hl ⊢
  have hl : lv_has ls 2 [(0, .ref b), (1, .int (zI k))] := hl
  have hbl : b < s.heap.size := by
    obtain ⟨scr, h1, _⟩ := hX
    exact (Array.getElem?_eq_some_iff.mp h1).1
  have hS : va_S (fun _ => False) s.heap s.heap [] := va_S.rf
  refine lv_iload_n hx hb dL_cell_0 rfl (lv_at hl 1 rfl) ?_
  refine lv_aload_n hx hb dL_cell_1 rfl (lv_at hl 0 rfl) ?_
  refine va_slen hx hb hX hbl (fun h => h) hS dL_cell_2 ?_
  rw [show Int32.ofNat L = zI L from zI_nI (n := L) (by omega)]
  refine zb_cge (tgt := 12) hx hb dL_cell_3 (by decide) (by omega) (by omega) (fun c3 => ?_) (fun c3 => ?_)
  · skip
    have e1 : (if k < (L : Int) then xs k.toNat else zI (7919 * k + 13)) = zI (7919 * k + 13) := if_neg (by omega)
    refine zb_sipush hx hb dL_cell_12 (by decide) ?_
    refine lv_iload_n hx hb dL_cell_15 rfl (lv_at hl 1 rfl) ?_
    refine zb_mul hx hb dL_cell_16 ?_
    refine zb_bipush hx hb dL_cell_17 (by decide) ?_
    refine zb_add hx hb dL_cell_19 ?_
    refine lv_ldc (v := 2147483647) hx hb hown (hts (.constant RL 7 (2147483647)) (by decide +kernel)) dL_cell_20 ?_
    refine lv_iand hx hb dL_cell_22 ?_
    refine zb_to (w := .int (zI (aw_ce L xs k))) (congrArg Value.int (by unfold aw_ce; rw [zI_back, e1]; rfl)) ?_
    exact aw_iret hx hb hr hlocks dL_cell_23 rfl
  · skip
    have e1 : (if k < (L : Int) then xs k.toNat else zI (7919 * k + 13)) = xs k.toNat := if_pos (by omega)
    refine lv_aload_n hx hb dL_cell_6 rfl (lv_at hl 0 rfl) ?_
    refine lv_iload_n hx hb dL_cell_7 rfl (lv_at hl 1 rfl) ?_
    refine va_sld hx hb hX hbl (fun h => h) hS (zI_in (by omega) (by omega) (by omega)) dL_cell_8 ?_
    rw [zI_clamp (by omega)]
    refine lv_goto (tgt := 20) hx hb dL_cell_9 (by decide) ?_
    refine lv_ldc (v := 2147483647) hx hb hown (hts (.constant RL 7 (2147483647)) (by decide +kernel)) dL_cell_20 ?_
    refine lv_iand hx hb dL_cell_22 ?_
    refine zb_to (w := .int (zI (aw_ce L xs k))) (congrArg Value.int (by unfold aw_ce; rw [zI_back, e1]; rfl)) ?_
    exact aw_iret hx hb hr hlocks dL_cell_23 rfl
end
end
section
/-! THE CLAIM OUT OF ONE WALK OF THE LAW'S BODY. Your part is whole_start (and what it stands on); all else here is the same for every law, but numbers. -/
def R_law : String := "ArmatureWindingLaw"
def lw_P (b : Addr) (xs : List Int32) (args : Array Value) (s : State) : Prop := args = #[.ref b] ∧ s.IntsAt b xs ∧ xs.length ≤ 260 ∧ (Jvm.Cond.and given_1 narrow_1).before args s = true
def lw_Q (_ : Array Value) (s : State) (o : Outcome) (t : State) : Prop := o = .returned (some (.int 1)) ∧ Framed s o t [] 5 167
def lw_Z (below : List Frame) (a : Array Value) (s : State) : State → Prop := fun t => ∃ o, t.status = .running ∧ Ended t below o ∧ lw_Q a s o t
/-- the law's own end, with 1 on the stack, nothing written that was there before, its room as the claim has it -/
theorem lw_ret {p : Program} {l : Launch} {e : Env} {s : State} {m : MethodId} {below : List Frame} {meth : Method} {c : Code} {b : Nat} (hx : p.tables.exec = Jvm.exec) (hb : c.code = code) (hr : meth.sig.returnType = ret) (hlocks : meth.locks = false) {pc : Nat} {H : Heap} {ls : Array Slot} (hdg : decode code pc = .ok (.ireturn, 1)) : W p l e room_1 s m #[Value.ref b] below meth c H [] 5 167 (lw_Z below #[Value.ref b] s) (F0 m pc ls [.int 1]) := by
  intro T hT X
  obtain ⟨fs, hret, hrun, hended, hW, hframe⟩ := X.leave (v := some (.int 1)) (hlocks := hlocks) (fun h => by rw [hr] at h; cases h)
  have hmeth' : T.vm.method? m = some meth := X.method'
  refine ⟨T.setFrames fs, ?_, .returned (some (.int 1)), hrun, hended, rfl, ⟨_, rfl⟩, hW, hframe⟩
  jvm_step X.here [X.here.top, hx, hb, hdg, hmeth', hr, ret, narrow_b1]
  (try refine ⟨rfl, ?_⟩); (try refine ⟨rfl, ?_⟩)
  first | (intro acts; rw [hret _ acts rfl rfl rfl]) | rw [hret _ _ rfl rfl rfl]
  exact Steps.refl _
/-- what holds at the law's entry: the machine, the code, the tables' words (any of lw_tbl by 'hts w (by decide +kernel)'), the script of L ints xs at the cell b, what the Statement gives of the start (any of its parts by flat_of_before) -/
def lw_At (p : Program) (s : State) (m : MethodId) (meth : Method) (c : Code) (b L : Nat) (xs : Nat → Int32) : Prop :=
  p.tables.exec = Jvm.exec ∧ c.code = code ∧ meth.sig.returnType = ret ∧ c.maxLocals = 7 ∧ s.vm.findClass R_law = some m.cls ∧ (∀ w ∈ lw_tbl, w.before #[Value.ref b] s = true) ∧ va_X b L xs s s.heap ∧ b < s.heap.size ∧ meth.locks = false ∧ (Jvm.Cond.and given_1 narrow_1).before #[Value.ref b] s = true
set_option maxHeartbeats 4000000 in
set_option maxRecDepth 100000 in
/-- THE LAW, from its entry -/
theorem whole_start {p : Program} {e : Env} {s : State} {m : MethodId} {below : List Frame} {meth : Method} {c : Code} (l : Launch) (hflags : l.flags = flags0) {b L : Nat} {xs : Nat → Int32} (hL : L ≤ 260) (C0 : lw_At p s m meth c b L xs) : W p l e room_1 s m #[Value.ref b] below meth c s.heap [] 0 0 (lw_Z below #[Value.ref b] s) (entryFrame m ([Value.ref b] : List Value).toArray 7) := by
  obtain ⟨hx, hb, hr, hml, hown, hts, hX, hbl, hlocks, hgv⟩ := id C0
  have hA : ∀ q : Nat, s.heap.size ≤ q → (fun q : Nat => s.heap.size ≤ q) q := fun _ h => h
  have hbA : ¬ (fun q : Nat => s.heap.size ≤ q) b := Nat.not_le.mpr hbl
  have hown : s.vm.findClass RL = some m.cls := hown
  have hts : ∀ w ∈ wsL_law, w.before #[Value.ref b] s = true := fun w h => hts w (wsL_law_in w h)
  obtain ⟨c0, iS0, hKn0⟩ := u_known (C := RX0) (T := TX0) (N := 11) (n := 11) hts inlX0 (hts (.instantiable RX0 11) (by decide +kernel))
  obtain ⟨D, hK⟩ : ∃ D : va_G, va_K D vwCl [] s := by
    refine ⟨(fun _ => c0, fun _ => iS0), ⟨?_, fun k q h => by simp at h⟩⟩
    intro k q hq
    match k, hq with
    | 0, hq => cases hq; exact hKn0
    | k + 1, hq => simp [vwCl] at hq
  have hS : va_S (fun q : Nat => s.heap.size ≤ q) s.heap s.heap [] := va_S.rf
  have hP : va_P D vwCl [] s.heap := fun k q h => by simp at h
  have hD : va_D (fun q : Nat => s.heap.size ≤ q) [] := ⟨fun i j p q h => by simp at h, fun k q h => by simp at h⟩
  have hl := lv_entry ([.ref b]) (n := 7) (Nat.le_of_ble_eq_true rfl)
  rw [lg_entry_eq]
  generalize (lg_sl ([.ref b]) ++ List.replicate (7 - (lg_sl ([.ref b])).length) Slot.unset).toArray = ls at hl ⊢
  have hl : lv_has ls 7 [(0, .ref b)] := hl
  refine va_new (ci := 0) (fs := [.int 0, .int 0, .int 0, .int 0, .int 0, .int 0, .int 0, .int 0, .int 0, .null, .null]) (C := RX0) (T := TX0) (N := 11) hx hb hts inlX0 tyX0 tyX0_ok hown (hts (.classLink RL 37 RX0) (by decide +kernel)) (hts (.instantiable RX0 11) (by decide +kernel)) (hts (.initialized RX0) (by decide +kernel)) hK hP hD hS hA rfl (fun j hj => by rcases (show j = 0 ∨ j = 1 ∨ j = 2 ∨ j = 3 ∨ j = 4 ∨ j = 5 ∨ j = 6 ∨ j = 7 ∨ j = 8 ∨ j = 9 ∨ j = 10 by omega) with rfl | rfl | rfl | rfl | rfl | rfl | rfl | rfl | rfl | rfl | rfl <;> rfl) (Nat.le_of_ble_eq_true rfl) (Nat.le_of_ble_eq_true rfl) dL_law_0 (fun o H hP hD hS => ?_)
  have hP : va_P D vwCl [aw_new o] H := hP
  have hD : va_D (fun q : Nat => s.heap.size ≤ q) [aw_new o] := hD
  refine W.widen (k := 1) (n := 11) (by omega) (by omega) ?_
  refine lv_dup hx hb dL_law_3 rfl ?_
  have hPc := hP.sub (ws' := [aw_new o]) [0] rfl
  have hDc := hD.sub (ws' := [aw_new o]) [0] (by decide) rfl
  have hKc := hK.sub (tys' := []) [] rfl
  have hFc := va_free (wc := [aw_new o]) hD hS hA [0] rfl
  refine va_callv (va_runI (As := []) (rest := [.ref o]) ⟨hx, hb, hml, hown, hts⟩ (k_init l D o H.size) (cwI 0 hts gL_law_X0_init rfl rfl rfl (hts (.initialized RX0) (by decide +kernel)) (hts (.methodLink RL 101 yX0_init) (by decide +kernel)) (hts (.instanceMethod yX0_init) (by decide +kernel)) rfl (by decide +kernel) ⟨Nat.le_of_ble_eq_true rfl, Nat.le_of_ble_eq_true rfl⟩) ⟨fun a U gg mk q => by obtain ⟨q0, q1, qP, qK, qD⟩ := q; exact ⟨q0, q1, qP, va_K.moved (u := U) (U := U.calling gg mk a) (Vm.Alike.refl U.vm) qK, qD⟩, fun U hU hW => ⟨rfl, by rw [hU], by rw [hU]; exact hPc, va_K.moved hW.alike hKc, hDc.weaken (fun _ _ _ _ => trivial)⟩⟩ rfl rfl hl.1 rfl (lv_room (Nat.le_of_ble_eq_true rfl)) dL_law_4 ⟨Nat.le_of_ble_eq_true rfl, Nat.le_of_ble_eq_true rfl⟩) hS (fun q _ h => hFc q h) hFc (fun u t H1 locs ht hvm hw hB hz1 hk1 hS => ?_)
  obtain ⟨ob0, g0⟩ := u
  obtain ⟨yZ, yI, oa, ba, hP1, hK1, hD1⟩ := hB
  rw [ht] at hP1
  have hK1 := va_K.moved hvm.symm hK1
  have hob0 : ∀ z : Int, 0 ≤ z → z < 72 → ob0 z = false := hw
  obtain ⟨hP, hD⟩ := va_join (wr := []) (w1 := aw_W3 yZ yI o oa ba 4 12 1 (12 * 1) (zI 0) (zI 1) (zI 1) 1 0 ob0 g0) hP hD [0] [] rfl rfl (by decide) (by decide) hk1 hFc hP1 hD1
  have hK : va_K D vwCl (aw_T yZ yI) s := hK1
  generalize H1 = H at hP hS ⊢
  have hP : va_P D vwCl [(o, .inr (0, [.int (zI 4), .int (zI 12), .int (zI 1), .int (zI (12 * 1)), .int (zI 0), .int (zI 1), .int (zI 1), .int (zI 1), .int (zI 0), .ref oa, .ref ba])), (oa, .inl (yZ, 72, .inl (aw_f ob0))), (ba, .inl (yI, 72, .inl g0))] H := hP
  have hD : va_D (fun q : Nat => s.heap.size ≤ q) [(o, .inr (0, [.int (zI 4), .int (zI 12), .int (zI 1), .int (zI (12 * 1)), .int (zI 0), .int (zI 1), .int (zI 1), .int (zI 1), .int (zI 0), .ref oa, .ref ba])), (oa, .inl (yZ, 72, .inl (aw_f ob0))), (ba, .inl (yI, 72, .inl g0))] := hD
  refine W.widen (k := 3) (n := 155) (by omega) (by omega) ?_
  refine lv_astore_n (lv' := [(1, .ref o), (0, .ref b)]) hx hb dL_law_7 rfl hl (by decide) rfl (fun ls hl => ?_)
  refine zb_bipush hx hb dL_law_8 (by decide) ?_
  refine va_newa (atype := .int) (ty := .int) (n := zI 9) (N' := 9) (a0 := (9, .inl (fun _ => 0))) hx hb (hts (.arrayClass .int) (by decide +kernel)) rfl hK hP hD hS hA (fun _ => rfl) (by decide) (by decide) (by decide) (Nat.le_of_ble_eq_true rfl) (Nat.le_of_ble_eq_true rfl) dL_law_10 (fun da yD H hK hP hD hS => ?_)
  have hy : yD = yI := Option.some.inj ((hK.2 2 (yD, .int) rfl).2.symm.trans (hK.2 1 (yI, .int) rfl).2)
  subst hy
  have hK : va_K D vwCl (aw_T yZ yD) s := hK.sub [0, 1] rfl
  refine W.widen (k := 4) (n := 164) (by omega) (by omega) ?_
  refine lv_astore_n (lv' := [(2, .ref da), (1, .ref o), (0, .ref b)]) hx hb dL_law_12 rfl hl (by decide) rfl (fun ls hl => ?_)
  refine zb_iconst hx hb dL_law_13 ?_
  refine va_newa (atype := .int) (ty := .int) (n := zI 3) (N' := 3) (a0 := (3, .inl (fun _ => 0))) hx hb (hts (.arrayClass .int) (by decide +kernel)) rfl hK hP hD hS hA (fun _ => rfl) (by decide) (by decide) (by decide) (Nat.le_of_ble_eq_true rfl) (Nat.le_of_ble_eq_true rfl) dL_law_14 (fun pa yE H hK hP hD hS => ?_)
  have hy : yE = yD := Option.some.inj ((hK.2 2 (yE, .int) rfl).2.symm.trans (hK.2 1 (yD, .int) rfl).2)
  subst hy
  have hK : va_K D vwCl (aw_T yZ yE) s := hK.sub [0, 1] rfl
  refine W.widen (k := 5) (n := 167) (by omega) (by omega) ?_
  refine lv_astore_n (lv' := [(3, .ref pa), (2, .ref da), (1, .ref o), (0, .ref b)]) hx hb dL_law_16 rfl hl (by decide) rfl (fun ls hl => ?_)
  have e0 : aw_d (fun _ => 0) = fun _ => 0 := by funext j; show zI 0 = 0; decide
  rw [show (fun (_ : Nat) => (0 : Int32)) = aw_d (fun _ => 0) from e0.symm] at hP hD
  obtain ⟨yI, hyI⟩ : ∃ y, y = yE := ⟨_, rfl⟩
  subst hyI
  have hu0 : aw_p5 ((aw_ud (aw_ud (aw_ud (aw_ud (aw_ud (aw_ud (aw_ud (fun _ => 0) 0 4) 1 12) 2 1) 3 12) 5 1) 6 1) 7 1, fun _ => 0, ob0, (zI 0, zI 1, zI 1), g0) : aw_S5) := ⟨(show aw_In 4 12 1 12 1 0 from by unfold aw_In; decide), aw_OB_0 (fun j _ => zI_0.symm) hob0⟩
  refine lv_aload_n hx hb dL_law_17 rfl (lv_at hl 1 rfl) ?_
  refine aw_callMS (As := [.ref da]) (rest := []) (wc := [aw_Dr yI da ((fun _ => 0))]) (wr := [(o, .inr (0, [.int (zI 4), .int (zI 12), .int (zI 1), .int (zI (12 * 1)), .int (zI 0), .int (zI 1), .int (zI 1), .int (zI 1), .int (zI 0), .ref oa, .ref ba])), (oa, .inl (yZ, 72, .inl (aw_f ob0))), (ba, .inl (yI, 72, .inl g0)), aw_Mr yI pa ((fun _ => 0))]) (ws2 := fun u => [(o, .inr (0, [.int (zI 4), .int (zI 12), .int (zI 1), .int (zI (12 * 1)), .int (zI 0), .int (zI 1), .int (zI 1), .int (zI 1), .int (zI 0), .ref oa, .ref ba])), (oa, .inl (yZ, 72, .inl (aw_f ob0))), (ba, .inl (yI, 72, .inl g0)), aw_Dr yI da (aw_ud (aw_ud (aw_ud (aw_ud (aw_ud (aw_ud (aw_ud (fun _ => 0) 0 4) 1 12) 2 1) 3 12) 5 1) 6 1) 7 1), aw_Mr yI pa ((fun _ => 0))]) ⟨hx, hb, hml, hown, hts⟩ (k_begin (dv := fun _ => 0)) (va_cwS 1 hts gL_law_L_begin rfl rfl rfl (by decide +kernel) ⟨Nat.le_of_ble_eq_true rfl, Nat.le_of_ble_eq_true rfl⟩) hP hD hK hS hA [3] [0, 1, 2, 4] rfl rfl (by decide) (by decide) (by decide) [0, 1, 2, 4, 3] (by decide) (fun _ => rfl) rfl hl.1 rfl (Nat.le_of_ble_eq_true rfl) dL_law_18 ⟨Nat.le_of_ble_eq_true rfl, Nat.le_of_ble_eq_true rfl⟩ (fun u H locs hu hP hD hS => ?_)
  have hP : va_P D vwCl [(o, .inr (0, [.int (zI 4), .int (zI 12), .int (zI 1), .int (zI (12 * 1)), .int (zI 0), .int (zI 1), .int (zI 1), .int (zI 1), .int (zI 0), .ref oa, .ref ba])), (oa, .inl (yZ, 72, .inl (aw_f ob0))), (ba, .inl (yI, 72, .inl g0)), aw_Dr yI da (aw_ud (aw_ud (aw_ud (aw_ud (aw_ud (aw_ud (aw_ud (fun _ => 0) 0 4) 1 12) 2 1) 3 12) 5 1) 6 1) 7 1), aw_Mr yI pa ((fun _ => 0))] H := hP
  have hD : va_D _ [(o, .inr (0, [.int (zI 4), .int (zI 12), .int (zI 1), .int (zI (12 * 1)), .int (zI 0), .int (zI 1), .int (zI 1), .int (zI 1), .int (zI 0), .ref oa, .ref ba])), (oa, .inl (yZ, 72, .inl (aw_f ob0))), (ba, .inl (yI, 72, .inl g0)), aw_Dr yI da (aw_ud (aw_ud (aw_ud (aw_ud (aw_ud (aw_ud (aw_ud (fun _ => 0) 0 4) 1 12) 2 1) 3 12) 5 1) 6 1) 7 1), aw_Mr yI pa ((fun _ => 0))] := hD
  refine W.eq (g2 := F0 m 21 ls []) rfl ?_
  refine zb_iconst hx hb dL_law_21 ?_
  refine lv_istore (lv' := [(4, .int (zI 0)), (3, .ref pa), (2, .ref da), (1, .ref o), (0, .ref b)]) hx hb dL_law_22 hl (by decide) rfl (fun ls hl => ?_)
  refine zb_lpm (nL := 7) (τ := aw_S5) (fun k u => 0 ≤ k ∧ k ≤ 30 ∧ aw_p5 u) (fun k => [(4, .int (zI k)), (3, .ref pa), (2, .ref da), (1, .ref o), (0, .ref b)]) (fun u => aw_w5 yZ yI o oa ba da pa u) (fun k => 30 - k) 0 ((aw_ud (aw_ud (aw_ud (aw_ud (aw_ud (aw_ud (aw_ud (fun _ => 0) 0 4) 1 12) 2 1) 3 12) 5 1) 6 1) 7 1, fun _ => 0, ob0, (zI 0, zI 1, zI 1), g0) : aw_S5) ⟨by omega, by omega, hu0⟩ (lv_sub hl [0, 1, 2, 3, 4] rfl) hP hD hS ?_
  intro k u H locs ls hJ hl hP hD hS ih
  obtain ⟨dv, pf, ob, ⟨ty, px, pr⟩, g⟩ := u
  obtain ⟨hk0, hk1, hI, hO⟩ := hJ
  have hI : aw_In (dv 0) (dv 1) (dv 2) (dv 3) (dv 7) (dv 8) := hI
  have hO : aw_OB pf ob := hO
  have hl : lv_has ls 7 [(4, .int (zI k)), (3, .ref pa), (2, .ref da), (1, .ref o), (0, .ref b)] := hl
  have hP : va_P D vwCl [(o, .inr (0, [.int (zI (dv 0)), .int (zI (dv 1)), .int (zI (dv 2)), .int (zI (dv 3)), .int ty, .int px, .int pr, .int (zI (dv 7)), .int (zI (dv 8)), .ref oa, .ref ba])), (oa, .inl (yZ, 72, .inl (aw_f ob))), (ba, .inl (yI, 72, .inl g)), aw_Dr yI da dv, aw_Mr yI pa pf] H := hP
  have hD : va_D _ [(o, .inr (0, [.int (zI (dv 0)), .int (zI (dv 1)), .int (zI (dv 2)), .int (zI (dv 3)), .int ty, .int px, .int pr, .int (zI (dv 7)), .int (zI (dv 8)), .ref oa, .ref ba])), (oa, .inl (yZ, 72, .inl (aw_f ob))), (ba, .inl (yI, 72, .inl g)), aw_Dr yI da dv, aw_Mr yI pa pf] := hD
  refine lv_iload hx hb dL_law_24 (lv_at hl 0 rfl) ?_
  refine zb_bipush hx hb dL_law_26 (by decide) ?_
  refine zb_cge (tgt := 105) hx hb dL_law_28 (by decide) (by omega) (by omega) (fun c28 => ?_) (fun c28 => ?_)
  · skip
    refine lv_aload_n hx hb dL_law_105 rfl (lv_at hl 3 rfl) ?_
    refine lv_aload_n hx hb dL_law_106 rfl (lv_at hl 2 rfl) ?_
    refine lv_aload_n hx hb dL_law_107 rfl (lv_at hl 1 rfl) ?_
    refine aw_callS (As := [.ref o, .ref da, .ref pa]) (rest := []) ⟨hx, hb, hml, hown, hts⟩ (k_circuits hI hO) (va_cwS 3 hts gL_law_L_circuits rfl rfl rfl (by decide +kernel) ⟨Nat.le_of_ble_eq_true rfl, Nat.le_of_ble_eq_true rfl⟩) hP hK rfl hl.1 rfl (Nat.le_of_ble_eq_true rfl) dL_law_108 ⟨Nat.le_of_ble_eq_true rfl, Nat.le_of_ble_eq_true rfl⟩ ?_
    refine zb_ieq (tgt := 127) hx hb dL_law_111 (by decide) (by omega) (fun c111 => absurd c111 (by omega)) (fun c111 => ?_)
    refine lv_aload_n hx hb dL_law_114 rfl (lv_at hl 3 rfl) ?_
    refine lv_aload_n hx hb dL_law_115 rfl (lv_at hl 2 rfl) ?_
    refine lv_aload_n hx hb dL_law_116 rfl (lv_at hl 1 rfl) ?_
    refine aw_callS (As := [.ref o, .ref da, .ref pa]) (rest := []) ⟨hx, hb, hml, hown, hts⟩ (k_coils hI hO) (va_cwS 3 hts gL_law_L_coils rfl rfl rfl (by decide +kernel) ⟨Nat.le_of_ble_eq_true rfl, Nat.le_of_ble_eq_true rfl⟩) hP hK rfl hl.1 rfl (Nat.le_of_ble_eq_true rfl) dL_law_117 ⟨Nat.le_of_ble_eq_true rfl, Nat.le_of_ble_eq_true rfl⟩ ?_
    refine zb_ieq (tgt := 127) hx hb dL_law_120 (by decide) (by omega) (fun c120 => absurd c120 (by omega)) (fun c120 => ?_)
    refine zb_iconst hx hb dL_law_123 ?_
    refine lv_goto (tgt := 128) hx hb dL_law_124 (by decide) ?_
    refine zb_to (w := .int 1) (by decide) ?_
    refine va_forget (fun q hq => hS.2.2 q hq) ?_
    exact lw_ret hx hb hr hlocks dL_law_128
  · skip
    refine lv_aload_n hx hb dL_law_31 rfl (lv_at hl 4 rfl) ?_
    refine zb_iconst hx hb dL_law_32 ?_
    refine lv_iload hx hb dL_law_33 (lv_at hl 0 rfl) ?_
    refine zb_mul hx hb dL_law_35 ?_
    have hXH36 : va_X b L xs s H := hX.kept (hS.2.1 b hbl hbA)
    refine aw_run (va_runS (As := [.ref b, .int (zI (2 * k))]) (rest := []) ⟨hx, hb, hml, hown, hts⟩ (k_cell (b := b) (L := L) (xs := xs) (k := 2 * k) (by omega) ⟨by omega, by omega⟩) (va_cwS 2 hts gL_law_L_cell rfl rfl rfl (by decide +kernel) ⟨Nat.le_of_ble_eq_true rfl, Nat.le_of_ble_eq_true rfl⟩) ⟨fun a U gg mk q => ⟨q.1, va_X.moved (u := U) (U := U.calling gg mk a) (Vm.Alike.refl U.vm) q.2⟩, fun U hU hW => ⟨rfl, by show va_X b L xs U U.heap; rw [hU]; exact va_X.moved hW.alike hXH36⟩⟩ rfl rfl hl.1 rfl (lv_room (Nat.le_of_ble_eq_true rfl)) dL_law_36 ⟨Nat.le_of_ble_eq_true rfl, Nat.le_of_ble_eq_true rfl⟩) ?_
    refine zb_nm (fun x1 e_x1 => ?_)
    have hx1 : 0 ≤ x1 ∧ x1 < 2147483648 := by rw [e_x1]; exact aw_ce_in _ _ _
    refine lv_istore (lv' := [(5, .int (zI x1)), (4, .int (zI k)), (3, .ref pa), (2, .ref da), (1, .ref o), (0, .ref b)]) hx hb dL_law_39 hl (by decide) rfl (fun ls hl => ?_)
    refine lv_aload_n hx hb dL_law_41 rfl (lv_at hl 5 rfl) ?_
    refine zb_iconst hx hb dL_law_42 ?_
    refine lv_iload hx hb dL_law_43 (lv_at hl 1 rfl) ?_
    refine zb_mul hx hb dL_law_45 ?_
    refine zb_iconst hx hb dL_law_46 ?_
    refine zb_add hx hb dL_law_47 ?_
    have hXH48 : va_X b L xs s H := hX.kept (hS.2.1 b hbl hbA)
    refine aw_run (va_runS (As := [.ref b, .int (zI (2 * k + 1))]) (rest := []) ⟨hx, hb, hml, hown, hts⟩ (k_cell (b := b) (L := L) (xs := xs) (k := 2 * k + 1) (by omega) ⟨by omega, by omega⟩) (va_cwS 2 hts gL_law_L_cell rfl rfl rfl (by decide +kernel) ⟨Nat.le_of_ble_eq_true rfl, Nat.le_of_ble_eq_true rfl⟩) ⟨fun a U gg mk q => ⟨q.1, va_X.moved (u := U) (U := U.calling gg mk a) (Vm.Alike.refl U.vm) q.2⟩, fun U hU hW => ⟨rfl, by show va_X b L xs U U.heap; rw [hU]; exact va_X.moved hW.alike hXH48⟩⟩ rfl rfl hl.1 rfl (lv_room (Nat.le_of_ble_eq_true rfl)) dL_law_48 ⟨Nat.le_of_ble_eq_true rfl, Nat.le_of_ble_eq_true rfl⟩) ?_
    refine zb_nm (fun y1 e_y1 => ?_)
    have hy1 : 0 ≤ y1 ∧ y1 < 2147483648 := by rw [e_y1]; exact aw_ce_in _ _ _
    refine lv_istore (lv' := [(6, .int (zI y1)), (5, .int (zI x1)), (4, .int (zI k)), (3, .ref pa), (2, .ref da), (1, .ref o), (0, .ref b)]) hx hb dL_law_51 hl (by decide) rfl (fun ls hl => ?_)
    refine lv_aload_n hx hb dL_law_53 rfl (lv_at hl 5 rfl) ?_
    refine lv_aload_n hx hb dL_law_54 rfl (lv_at hl 4 rfl) ?_
    refine lv_aload_n hx hb dL_law_55 rfl (lv_at hl 3 rfl) ?_
    refine aw_callS (As := [.ref o, .ref da, .ref pa]) (rest := []) ⟨hx, hb, hml, hown, hts⟩ (k_circuits hI hO) (va_cwS 3 hts gL_law_L_circuits rfl rfl rfl (by decide +kernel) ⟨Nat.le_of_ble_eq_true rfl, Nat.le_of_ble_eq_true rfl⟩) hP hK rfl hl.1 rfl (Nat.le_of_ble_eq_true rfl) dL_law_56 ⟨Nat.le_of_ble_eq_true rfl, Nat.le_of_ble_eq_true rfl⟩ ?_
    refine zb_ieq (tgt := 97) hx hb dL_law_59 (by decide) (by omega) (fun c59 => absurd c59 (by omega)) (fun c59 => ?_)
    refine lv_aload_n hx hb dL_law_62 rfl (lv_at hl 5 rfl) ?_
    refine lv_aload_n hx hb dL_law_63 rfl (lv_at hl 4 rfl) ?_
    refine lv_aload_n hx hb dL_law_64 rfl (lv_at hl 3 rfl) ?_
    refine aw_callS (As := [.ref o, .ref da, .ref pa]) (rest := []) ⟨hx, hb, hml, hown, hts⟩ (k_coils hI hO) (va_cwS 3 hts gL_law_L_coils rfl rfl rfl (by decide +kernel) ⟨Nat.le_of_ble_eq_true rfl, Nat.le_of_ble_eq_true rfl⟩) hP hK rfl hl.1 rfl (Nat.le_of_ble_eq_true rfl) dL_law_65 ⟨Nat.le_of_ble_eq_true rfl, Nat.le_of_ble_eq_true rfl⟩ ?_
    refine zb_ieq (tgt := 97) hx hb dL_law_68 (by decide) (by omega) (fun c68 => absurd c68 (by omega)) (fun c68 => ?_)
    refine lv_aload_n hx hb dL_law_71 rfl (lv_at hl 5 rfl) ?_
    refine lv_iload hx hb dL_law_72 (lv_at hl 0 rfl) ?_
    refine zb_bipush hx hb dL_law_74 (by decide) ?_
    refine zb_rem hx hb dL_law_76 (by omega) (by omega) ?_
    refine lv_aload_n hx hb dL_law_77 rfl (lv_at hl 4 rfl) ?_
    refine aw_callS (As := [.ref o, .int (zI (y1 % 70)), .ref da]) (rest := []) ⟨hx, hb, hml, hown, hts⟩ (k_sums (pa := pa) (pf := pf) (t := y1 % 70) hI ⟨by omega, by omega⟩) (va_cwS 3 hts gL_law_L_sums rfl rfl rfl (by decide +kernel) ⟨Nat.le_of_ble_eq_true rfl, Nat.le_of_ble_eq_true rfl⟩) hP hK rfl hl.1 rfl (Nat.le_of_ble_eq_true rfl) dL_law_78 ⟨Nat.le_of_ble_eq_true rfl, Nat.le_of_ble_eq_true rfl⟩ ?_
    refine zb_ieq (tgt := 97) hx hb dL_law_81 (by decide) (by omega) (fun c81 => absurd c81 (by omega)) (fun c81 => ?_)
    refine lv_aload_n hx hb dL_law_84 rfl (lv_at hl 5 rfl) ?_
    refine lv_iload hx hb dL_law_85 (lv_at hl 1 rfl) ?_
    refine lv_iload hx hb dL_law_87 (lv_at hl 0 rfl) ?_
    refine lv_aload_n hx hb dL_law_89 rfl (lv_at hl 4 rfl) ?_
    refine lv_aload_n hx hb dL_law_90 rfl (lv_at hl 3 rfl) ?_
    refine aw_callMS (As := [.ref o, .int (zI x1), .int (zI y1), .ref da, .ref pa]) (rest := []) (wc := [(o, .inr (0, [.int (zI (dv 0)), .int (zI (dv 1)), .int (zI (dv 2)), .int (zI (dv 3)), .int ty, .int px, .int pr, .int (zI (dv 7)), .int (zI (dv 8)), .ref oa, .ref ba])), (oa, .inl (yZ, 72, .inl (aw_f ob))), (ba, .inl (yI, 72, .inl g)), aw_Dr yI da dv, aw_Mr yI pa pf]) (wr := []) (ws2 := fun u => [(o, .inr (0, [.int (zI (u.1 0)), .int (zI (u.1 1)), .int (zI (u.1 2)), .int (zI (u.1 3)), .int (u.2.2.2.1.1), .int (u.2.2.2.1.2.1), .int (u.2.2.2.1.2.2), .int (zI (u.1 7)), .int (zI (u.1 8)), .ref oa, .ref ba])), (oa, .inl (yZ, 72, .inl (aw_f (u.2.2.1)))), (ba, .inl (yI, 72, .inl (u.2.2.2.2))), aw_Dr yI da (u.1), aw_Mr yI pa (u.2.1)]) ⟨hx, hb, hml, hown, hts⟩ (k_changes (x := x1) (y := y1) hI hO hx1 hy1) (va_cwS 5 hts gL_law_L_changes rfl rfl rfl (by decide +kernel) ⟨Nat.le_of_ble_eq_true rfl, Nat.le_of_ble_eq_true rfl⟩) hP hD hK hS hA [0, 1, 2, 3, 4] [] rfl rfl (by decide) (by decide) (by decide) [0, 1, 2, 3, 4] (by decide) (fun _ => rfl) rfl hl.1 rfl (Nat.le_of_ble_eq_true rfl) dL_law_91 ⟨Nat.le_of_ble_eq_true rfl, Nat.le_of_ble_eq_true rfl⟩ (fun u H locs hu hP hD hS => ?_)
    obtain ⟨dv2, pf2, ob2, ⟨ty2, px2, pr2⟩, g2⟩ := u
    have hP : va_P D vwCl [(o, .inr (0, [.int (zI (dv2 0)), .int (zI (dv2 1)), .int (zI (dv2 2)), .int (zI (dv2 3)), .int ty2, .int px2, .int pr2, .int (zI (dv2 7)), .int (zI (dv2 8)), .ref oa, .ref ba])), (oa, .inl (yZ, 72, .inl (aw_f ob2))), (ba, .inl (yI, 72, .inl g2)), aw_Dr yI da dv2, aw_Mr yI pa pf2] H := hP
    have hD : va_D _ [(o, .inr (0, [.int (zI (dv2 0)), .int (zI (dv2 1)), .int (zI (dv2 2)), .int (zI (dv2 3)), .int ty2, .int px2, .int pr2, .int (zI (dv2 7)), .int (zI (dv2 8)), .ref oa, .ref ba])), (oa, .inl (yZ, 72, .inl (aw_f ob2))), (ba, .inl (yI, 72, .inl g2)), aw_Dr yI da dv2, aw_Mr yI pa pf2] := hD
    refine W.eq (g2 := F0 m 94 ls [.int (zI 1)]) rfl ?_
    refine zb_ine (tgt := 99) hx hb dL_law_94 (by decide) (by omega) (fun c94 => ?_) (fun c94 => absurd c94 (by omega))
    refine zb_iinc (lv' := [(4, .int (zI (k + 1))), (6, .int (zI y1)), (5, .int (zI x1)), (3, .ref pa), (2, .ref da), (1, .ref o), (0, .ref b)]) hx hb dL_law_99 hl (k := 2) rfl (by decide) rfl (fun ls hl => ?_)
    refine lv_goto (tgt := 24) hx hb dL_law_102 (by decide) ?_
    exact ih (k + 1) (dv2, pf2, ob2, (ty2, px2, pr2), g2) H locs ls ⟨by omega, by omega, hu⟩ ⟨by omega, by omega⟩ (lv_sub hl [0, 3, 4, 5, 6] rfl) hP hD hS
end
section
-- ===== YOUR PART ENDS =====
set_option maxHeartbeats 4000000 in
theorem lw_walk (l : Launch) (hflags : l.flags = flags0) (b : Addr) (xs : List Int32) : MetFree l x (headSpec (Jvm.Cond.code x code maxLocals ret :: tables_1) room_1) (lw_P b xs) (fun _ _ _ _ _ => True) lw_Q := by
  refine MetFree.of_bodyS (code := code) (maxLocals := maxLocals) (ret := ret) (by decide) ?_ ?_
  · intro args s m h hn
    obtain ⟨meth, c, h1, h2, h3, h4, h5, h6, -, -⟩ := Cond.code_spec hn (atoms_spec (ws := Jvm.Cond.code x code maxLocals ret :: tables_1) h _ List.mem_cons_self)
    exact ⟨meth, c, h1, h2, h3, h4, h5, h6⟩
  · intro p e s m args below meth c s₁ B hml0 hP _
    obtain ⟨rfl, hx, hbd, hgv⟩ := hP
    obtain ⟨scr, harrAt, hlist, hof, hsmall⟩ := hx
    obtain ⟨hcb, hkn, -, -⟩ := State.arrayAt?_spec harrAt
    have hown : s.vm.findClass R_law = some m.cls := findClass_of_methodNamed B.named
    have hts0 : ∀ c ∈ (Jvm.Cond.code x code maxLocals ret :: tables_1), c.before #[Value.ref b] s = true := atoms_spec (ws := Jvm.Cond.code x code maxLocals ret :: tables_1) B.pre
    have hts : ∀ w ∈ lw_tbl, w.before #[Value.ref b] s = true := k2_hts_sels lw_privs (fun w hw => hts0 w (List.mem_cons_of_mem _ hw)) lw_privs_ok
    have hml : c.maxLocals = 7 := B.maxLocals_eq (hts0 _ List.mem_cons_self)
    have X₀ : Stand p l e room_1 s m #[Value.ref b] below meth c s₁ [] 0 0 := Stand.of_body B
    have hh0 : s₁.heap = s.heap := by rw [B.state]; rfl
    have hsz : scr.slots.size = xs.length := by rw [← Array.length_toList, hlist, List.length_map]
    have hval : ∀ j : Nat, j < xs.length → scr.slots[j]? = some (.int (xs.getD j 0)) := fun j hj => by
      rw [← Array.getElem?_toList, hlist]
      simp [hj]
    have hbl : b < s.heap.size := (Array.getElem?_eq_some_iff.mp hcb).1
    have hX : va_X b xs.length (fun j => xs.getD j 0) s s.heap := ⟨scr, hcb, hof, hkn, hsz, hval⟩
    have K : W p l e room_1 s m #[Value.ref b] below meth c s₁.heap [] 0 0 (lw_Z below #[Value.ref b] s) (entryFrame m ([Value.ref b] : List Value).toArray 7) := by
      rw [hh0]
      exact whole_start l hflags hbd ⟨B.exec, B.bytes, B.returns, hml, hown, hts, hX, hbl, B.notSynchronized, hgv⟩
    obtain ⟨t, a1, o, b1, b2, b3⟩ := K s₁ rfl X₀
    exact ⟨t, o, a1, b1, b2, b3⟩
theorem lw_pre_spec {args : Array Value} {s : State} (h : (Jvm.Cond.and given_1 narrow_1).before args s = true) (hr : rest_1_c.before args s = true) : ∃ (b : Addr) (xs : List Int32), lw_P b xs args s := by
  have hs := flat_of_before _ h
  have hq := flat_of_before _ hr
  have hc : (Cond.count 1).before args s = true := hs _ (by decide +kernel)
  have harr : (Cond.arrayOf (.arg 0) .int).before args s = true := hs _ (by decide +kernel)
  have hle : (Cond.le (.length (.arg 0)) (.int 260)).before args s = true := hs _ (by decide +kernel)
  have hlen : (Cond.isInt (.length (.arg 0))).before args s = true := hq _ (by decide +kernel)
  have hall : (Cond.all (.arg 0) (.isInt (.elem (.arg 0) (.index 0)))).before args s = true := hq _ (by decide +kernel)
  obtain ⟨b, xs, hb, hx⟩ := State.ints_of_pre rfl harr hlen hall
  have hsm : xs.length < 2 ^ 31 := hx.choose_spec.2.2.2
  have hev : (Term.length (.arg 0)).eval args s none [] s = some (.int xs.length.toInt32) := hx.length_eval hb
  have hv := Cond.le_ints hev (show (Term.int 260).eval args s none [] s = some (.int 260) from rfl)
  have hd : xs.length.toInt32 ≤ 260 := by
    simpa [Cond.before, Cond.holds, hv] using hle
  have hN : xs.length ≤ 260 := (Int32.ofNat_le_ofNat hsm (by decide)).mp (show Int32.ofNat xs.length ≤ Int32.ofNat 260 from hd)
  exact ⟨b, xs, Cond.one_arg hc (show args[0]? = some (.ref b) from hb), hx, hN, h⟩
theorem lw_comes (l : Launch) (hflags : l.flags = flags0) : Comes l x (Jvm.Cond.code x code maxLocals ret :: tables_1) room_1 (fun tb e args s => Calls_1 tb e args s ∧ rest_1 tb e args s ∧ Pre_1 tb e args s)
    (fun _ _ args s o t => lw_Q args s o t) := by
  intro p e ha hc hk s m args below hf hfit hheap happ hpre
  obtain ⟨b, xs, hP⟩ := lw_pre_spec hpre.2.2 hpre.2.1
  obtain ⟨k, o, h1, h2, h3, hQ⟩ := lw_walk l hflags b xs p e ha hc hk s m args below hf ((Spec.applies_iff_loose hf).mp happ).1 hP trivial
  exact ⟨k, o, h1, h2, h3, hQ⟩
theorem lw_frame {s t : State} {o : Outcome} {args : Array Value} (h : Framed s o t [] 5 167) :
    Framed s o t (fieldLocs frame_1_writes args s ++ arrayLocs frame_1_arrays args s ++ staticLocs frame_1_statics s) 5 167 := h
theorem lw_limb (L : Cond) (hL : ∀ (args : Array Value) (s t : State), L.after args s (.returned (some (.int 1))) t = true) :
    ArmFor flags0 classFile x code maxLocals ret World_1 tables_1 room_1 Calls_1 rest_1 Pre_1
      (fun tb e a s o t => postC L tb e a s o t ∧ Framed s o t (fieldLocs frame_1_writes a s ++ arrayLocs frame_1_arrays a s ++ staticLocs frame_1_statics s) 5 167) := by
  intro l hflags _ _ p e ha hc hk s m args below hf hfit hheap happ hpre
  obtain ⟨k, o, h1, h2, h3, rfl, hF⟩ := lw_comes l hflags p e ha hc hk s m args below hf hfit hheap happ hpre
  exact ⟨k, _, h1, h2, h3, hL args s _, lw_frame hF⟩
theorem i_vc : Claimed_1_1 ∧ Claimed_1_2 := ⟨lw_limb limb_1_1 (fun args s t => by simp [limb_1_1, Cond.after, Cond.holds, Cond.value]), lw_limb limb_1_2 (fun args s t => Cond.after_iff.mpr (by
  first | (rw [show limb_1_2 = Cond.eq .result (.int 1) from rfl, Cond.eq_ints (x := 1) (y := 1) rfl rfl]; simp; done) | (simp [limb_1_2, Cond.value, Term.eval]; done)))⟩
end
