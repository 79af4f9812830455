def T0 : List Cond := lw_tbl.filter goodWord
theorem zz_in {w : Cond} (h : w ∈ lw_tbl) (g : goodWord w = true) : w ∈ T0 := List.mem_filter.mpr ⟨h, g⟩
theorem zz_all : ∀ w ∈ T0, w ∈ lw_tbl := fun _ h => (List.mem_filter.mp h).1
theorem zz_gv {c0 w0 : Cond} {own C : String} {idx : Nat} {y : MethodName} (h1 : Cond.methodLink own idx y ∈ T0) (h2 : Cond.instanceMethod y ∈ T0) (h3 : Cond.selects C y y ∈ T0) (h4 : Cond.initialized C ∈ T0) (h5 : w0 ∈ T0) : GoodIn (c0 :: T0) (wsV own idx C y (w0 :: T0)) := by
  intro w hw
  have h : w ∈ T0 := by
    unfold wsV at hw
    rcases List.mem_append.mp hw with hw | hw
    · rcases List.mem_cons.mp hw with rfl | hw
      · exact h1
      · rcases List.mem_cons.mp hw with rfl | hw
        · exact h2
        · rcases List.mem_cons.mp hw with rfl | hw
          · exact h3
          · rcases List.mem_cons.mp hw with rfl | hw
            · exact h4
            · cases hw
    · rcases List.mem_cons.mp hw with rfl | hw
      · exact h5
      · exact hw
  exact ⟨List.mem_cons_of_mem _ h, good_of_word (List.mem_filter.mp h).2⟩
theorem zz_gs {c0 w0 : Cond} {own : String} {idx : Nat} {y : MethodName} (h1 : Cond.methodLink own idx y ∈ T0) (h2 : Cond.static y ∈ T0) (h4 : Cond.initialized y.cls ∈ T0) (h5 : w0 ∈ T0) : GoodIn (c0 :: T0) (va_wsS own idx y (w0 :: T0)) := by
  intro w hw
  have h : w ∈ T0 := by
    unfold va_wsS at hw
    rcases List.mem_append.mp hw with hw | hw
    · rcases List.mem_cons.mp hw with rfl | hw
      · exact h1
      · rcases List.mem_cons.mp hw with rfl | hw
        · exact h2
        · rcases List.mem_cons.mp hw with rfl | hw
          · exact h4
          · cases hw
    · rcases List.mem_cons.mp hw with rfl | hw
      · exact h5
      · exact hw
  exact ⟨List.mem_cons_of_mem _ h, good_of_word (List.mem_filter.mp h).2⟩
def T_F : u_T := fun k => match k with
  | 0 => ("PortProcessor$Flags", "sign", "Z", false)
  | 1 => ("PortProcessor$Flags", "zero", "Z", false)
  | 2 => ("PortProcessor$Flags", "auxiliary", "Z", false)
  | 3 => ("PortProcessor$Flags", "parity", "Z", false)
  | _ => ("PortProcessor$Flags", "carry", "Z", false)
def ty_F : Nat → FieldType := fun k => match k with
  | 0 => .boolean
  | 1 => .boolean
  | 2 => .boolean
  | 3 => .boolean
  | _ => .boolean
theorem nm_F : ∀ a, a < 5 → ∀ b, b < 5 → a ≠ b → (T_F a).2.1 ≠ (T_F b).2.1 := by decide +kernel
theorem ok9_F : ∀ k, k < 5 → parseFieldDescriptor (T_F k).2.2.1 = some (ty_F k) := by decide +kernel
theorem in9_F : ∀ w ∈ u_ws "PortProcessor$Flags" T_F 5, w ∈ lw_tbl := by decide +kernel
theorem in_F : ∀ w ∈ u_ws "PortProcessor$Flags" T_F 5, w ∈ T0 := fun w h => zz_in (in9_F w h) (List.all_eq_true.mp (by decide +kernel : (u_ws "PortProcessor$Flags" T_F 5).all goodWord = true) w h)
def T_M : u_T := fun k => match k with
  | _ => ("PortProcessor$Memory", "cells", "[I", true)
def ty_M : Nat → FieldType := fun k => match k with
  | _ => .array .int
theorem nm_M : ∀ a, a < 1 → ∀ b, b < 1 → a ≠ b → (T_M a).2.1 ≠ (T_M b).2.1 := by decide +kernel
theorem ok9_M : ∀ k, k < 1 → parseFieldDescriptor (T_M k).2.2.1 = some (ty_M k) := by decide +kernel
theorem in9_M : ∀ w ∈ u_ws "PortProcessor$Memory" T_M 1, w ∈ lw_tbl := by decide +kernel
theorem in_M : ∀ w ∈ u_ws "PortProcessor$Memory" T_M 1, w ∈ T0 := fun w h => zz_in (in9_M w h) (List.all_eq_true.mp (by decide +kernel : (u_ws "PortProcessor$Memory" T_M 1).all goodWord = true) w h)
def T_P : u_T := fun k => match k with
  | 0 => ("PortProcessor", "memory", "LPortProcessor$Memory;", true)
  | 1 => ("PortProcessor", "flags", "LPortProcessor$Flags;", true)
  | 2 => ("PortProcessor", "registers", "[I", true)
  | 3 => ("PortProcessor", "broughtIn", "[I", true)
  | 4 => ("PortProcessor", "putOut", "[I", true)
  | 5 => ("PortProcessor", "stackPointer", "I", false)
  | 6 => ("PortProcessor", "programCounter", "I", false)
  | 7 => ("PortProcessor", "halted", "Z", false)
  | 8 => ("PortProcessor", "interruptsOn", "Z", false)
  | 9 => ("PortProcessor", "lastLetInterruptsIn", "Z", false)
  | 10 => ("PortProcessor", "waitingInterrupt", "I", false)
  | _ => ("PortProcessor", "stateCount", "J", false)
def ty_P : Nat → FieldType := fun k => match k with
  | 0 => .object "PortProcessor$Memory"
  | 1 => .object "PortProcessor$Flags"
  | 2 => .array .int
  | 3 => .array .int
  | 4 => .array .int
  | 5 => .int
  | 6 => .int
  | 7 => .boolean
  | 8 => .boolean
  | 9 => .boolean
  | 10 => .int
  | _ => .long
theorem nm_P : ∀ a, a < 12 → ∀ b, b < 12 → a ≠ b → (T_P a).2.1 ≠ (T_P b).2.1 := by decide +kernel
theorem ok9_P : ∀ k, k < 12 → parseFieldDescriptor (T_P k).2.2.1 = some (ty_P k) := by decide +kernel
theorem in9_P : ∀ w ∈ u_ws "PortProcessor" T_P 12, w ∈ lw_tbl := by decide +kernel
theorem in_P : ∀ w ∈ u_ws "PortProcessor" T_P 12, w ∈ T0 := fun w h => zz_in (in9_P w h) (List.all_eq_true.mp (by decide +kernel : (u_ws "PortProcessor" T_P 12).all goodWord = true) w h)
def T_R : u_T := fun k => match k with
  | 0 => ("PortProcessorModel", "thrown", "I", false)
  | 1 => ("PortProcessorModel", "memory", "[I", true)
  | 2 => ("PortProcessorModel", "reg", "[I", true)
  | 3 => ("PortProcessorModel", "s", "I", false)
  | 4 => ("PortProcessorModel", "z", "I", false)
  | 5 => ("PortProcessorModel", "half", "I", false)
  | 6 => ("PortProcessorModel", "p", "I", false)
  | 7 => ("PortProcessorModel", "c", "I", false)
  | 8 => ("PortProcessorModel", "sp", "I", false)
  | 9 => ("PortProcessorModel", "pc", "I", false)
  | 10 => ("PortProcessorModel", "halted", "Z", false)
  | 11 => ("PortProcessorModel", "lets", "Z", false)
  | 12 => ("PortProcessorModel", "late", "Z", false)
  | 13 => ("PortProcessorModel", "waiting", "I", false)
  | 14 => ("PortProcessorModel", "states", "J", false)
  | 15 => ("PortProcessorModel", "in", "[I", true)
  | _ => ("PortProcessorModel", "put", "[I", true)
def ty_R : Nat → FieldType := fun k => match k with
  | 0 => .int
  | 1 => .array .int
  | 2 => .array .int
  | 3 => .int
  | 4 => .int
  | 5 => .int
  | 6 => .int
  | 7 => .int
  | 8 => .int
  | 9 => .int
  | 10 => .boolean
  | 11 => .boolean
  | 12 => .boolean
  | 13 => .int
  | 14 => .long
  | 15 => .array .int
  | _ => .array .int
theorem nm_R : ∀ a, a < 17 → ∀ b, b < 17 → a ≠ b → (T_R a).2.1 ≠ (T_R b).2.1 := by decide +kernel
theorem ok9_R : ∀ k, k < 17 → parseFieldDescriptor (T_R k).2.2.1 = some (ty_R k) := by decide +kernel
theorem in9_R : ∀ w ∈ u_ws "PortProcessorModel" T_R 17, w ∈ lw_tbl := by decide +kernel
theorem in_R : ∀ w ∈ u_ws "PortProcessorModel" T_R 17, w ∈ T0 := fun w h => zz_in (in9_R w h) (List.all_eq_true.mp (by decide +kernel : (u_ws "PortProcessorModel" T_R 17).all goodWord = true) w h)
abbrev vwCl : List vw_C := [("PortProcessor", T_P, 12), ("PortProcessor$Memory", T_M, 1), ("PortProcessor$Flags", T_F, 5), ("PortProcessorModel", T_R, 17)]
abbrev b_P_init : ByteArray := prog_1_method_1_code
def y_P_init : MethodName := ⟨"PortProcessor", "<init>", "()V"⟩
def w_P_init : List Cond := .code y_P_init b_P_init 2 none :: T0
theorem m_code_P_init : Cond.code y_P_init b_P_init 2 none ∈ T0 := zz_in (List.mem_append_right _ (List.mem_of_getElem? (i := 14) rfl)) rfl
abbrev b_P_load : ByteArray := prog_1_method_2_code
def y_P_load : MethodName := ⟨"PortProcessor", "load", "(IJI)V"⟩
def w_P_load : List Cond := .code y_P_load b_P_load 6 none :: T0
theorem m_code_P_load : Cond.code y_P_load b_P_load 6 none ∈ T0 := zz_in (List.mem_append_right _ (List.mem_of_getElem? (i := 99) rfl)) rfl
abbrev b_P_peek : ByteArray := prog_1_method_3_code
def y_P_peek : MethodName := ⟨"PortProcessor", "peek", "(I)I"⟩
def w_P_peek : List Cond := .code y_P_peek b_P_peek 2 (some .int) :: T0
theorem m_code_P_peek : Cond.code y_P_peek b_P_peek 2 (some .int) ∈ T0 := zz_in (List.mem_append_right _ (List.mem_of_getElem? (i := 177) rfl)) rfl
abbrev b_P_start : ByteArray := prog_1_method_4_code
def y_P_start : MethodName := ⟨"PortProcessor", "start", "(I)V"⟩
def w_P_start : List Cond := .code y_P_start b_P_start 2 none :: T0
theorem m_code_P_start : Cond.code y_P_start b_P_start 2 none ∈ T0 := zz_in (List.mem_append_right _ (List.mem_of_getElem? (i := 189) rfl)) rfl
abbrev b_P_run : ByteArray := prog_1_method_5_code
def y_P_run : MethodName := ⟨"PortProcessor", "run", "(I)I"⟩
def w_P_run : List Cond := .code y_P_run b_P_run 4 (some .int) :: T0
theorem m_code_P_run : Cond.code y_P_run b_P_run 4 (some .int) ∈ T0 := zz_in (List.mem_append_right _ (List.mem_of_getElem? (i := 198) rfl)) rfl
abbrev b_P_interrupt : ByteArray := prog_1_method_6_code
def y_P_interrupt : MethodName := ⟨"PortProcessor", "interrupt", "(I)V"⟩
def w_P_interrupt : List Cond := .code y_P_interrupt b_P_interrupt 2 none :: T0
theorem m_code_P_interrupt : Cond.code y_P_interrupt b_P_interrupt 2 none ∈ T0 := zz_in (List.mem_append_right _ (List.mem_of_getElem? (i := 429) rfl)) rfl
abbrev b_P_bring : ByteArray := prog_1_method_7_code
def y_P_bring : MethodName := ⟨"PortProcessor", "bring", "(II)V"⟩
def w_P_bring : List Cond := .code y_P_bring b_P_bring 3 none :: T0
theorem m_code_P_bring : Cond.code y_P_bring b_P_bring 3 none ∈ T0 := zz_in (List.mem_append_right _ (List.mem_of_getElem? (i := 437) rfl)) rfl
abbrev b_P_out : ByteArray := prog_1_method_8_code
def y_P_out : MethodName := ⟨"PortProcessor", "out", "(I)I"⟩
def w_P_out : List Cond := .code y_P_out b_P_out 2 (some .int) :: T0
theorem m_code_P_out : Cond.code y_P_out b_P_out 2 (some .int) ∈ T0 := zz_in (List.mem_append_right _ (List.mem_of_getElem? (i := 449) rfl)) rfl
abbrev b_P_register : ByteArray := prog_1_method_9_code
def y_P_register : MethodName := ⟨"PortProcessor", "register", "(I)I"⟩
def w_P_register : List Cond := .code y_P_register b_P_register 2 (some .int) :: T0
theorem m_code_P_register : Cond.code y_P_register b_P_register 2 (some .int) ∈ T0 := zz_in (List.mem_append_right _ (List.mem_of_getElem? (i := 456) rfl)) rfl
abbrev b_P_set : ByteArray := prog_1_method_10_code
def y_P_set : MethodName := ⟨"PortProcessor", "set", "(II)V"⟩
def w_P_set : List Cond := .code y_P_set b_P_set 4 none :: T0
theorem m_code_P_set : Cond.code y_P_set b_P_set 4 none ∈ T0 := zz_in (List.mem_append_right _ (List.mem_of_getElem? (i := 464) rfl)) rfl
abbrev b_P_is : ByteArray := prog_1_method_11_code
def y_P_is : MethodName := ⟨"PortProcessor", "is", "(I)Z"⟩
def w_P_is : List Cond := .code y_P_is b_P_is 2 (some .boolean) :: T0
theorem m_code_P_is : Cond.code y_P_is b_P_is 2 (some .boolean) ∈ T0 := zz_in (List.mem_append_right _ (List.mem_of_getElem? (i := 473) rfl)) rfl
abbrev b_P_states : ByteArray := prog_1_method_12_code
def y_P_states : MethodName := ⟨"PortProcessor", "states", "()J"⟩
def w_P_states : List Cond := .code y_P_states b_P_states 1 (some .long) :: T0
theorem m_code_P_states : Cond.code y_P_states b_P_states 1 (some .long) ∈ T0 := zz_in (List.mem_append_right _ (List.mem_of_getElem? (i := 91) rfl)) rfl
abbrev b_P_isByte : ByteArray := prog_1_method_13_code
def y_P_isByte : MethodName := ⟨"PortProcessor", "isByte", "(I)Z"⟩
def w_P_isByte : List Cond := .code y_P_isByte b_P_isByte 1 (some .boolean) :: T0
theorem m_code_P_isByte : Cond.code y_P_isByte b_P_isByte 1 (some .boolean) ∈ T0 := zz_in (List.mem_append_right _ (List.mem_of_getElem? (i := 440) rfl)) rfl
abbrev b_P_step : ByteArray := prog_1_method_14_code
def y_P_step : MethodName := ⟨"PortProcessor", "step", "()Z"⟩
def w_P_step : List Cond := .code y_P_step b_P_step 2 (some .boolean) :: T0
theorem m_code_P_step : Cond.code y_P_step b_P_step 2 (some .boolean) ∈ T0 := zz_in (List.mem_append_right _ (List.mem_of_getElem? (i := 203) rfl)) rfl
abbrev b_P_letInterruptIn : ByteArray := prog_1_method_15_code
def y_P_letInterruptIn : MethodName := ⟨"PortProcessor", "letInterruptIn", "()V"⟩
def w_P_letInterruptIn : List Cond := .code y_P_letInterruptIn b_P_letInterruptIn 1 none :: T0
theorem m_code_P_letInterruptIn : Cond.code y_P_letInterruptIn b_P_letInterruptIn 1 none ∈ T0 := zz_in (List.mem_append_right _ (List.mem_of_getElem? (i := 207) rfl)) rfl
abbrev b_P_doFirstQuarter : ByteArray := prog_1_method_16_code
def y_P_doFirstQuarter : MethodName := ⟨"PortProcessor", "doFirstQuarter", "(I)I"⟩
def w_P_doFirstQuarter : List Cond := .code y_P_doFirstQuarter b_P_doFirstQuarter 2 (some .int) :: T0
theorem m_code_P_doFirstQuarter : Cond.code y_P_doFirstQuarter b_P_doFirstQuarter 2 (some .int) ∈ T0 := zz_in (List.mem_append_right _ (List.mem_of_getElem? (i := 225) rfl)) rfl
abbrev b_P_doLastQuarter : ByteArray := prog_1_method_17_code
def y_P_doLastQuarter : MethodName := ⟨"PortProcessor", "doLastQuarter", "(I)I"⟩
def w_P_doLastQuarter : List Cond := .code y_P_doLastQuarter b_P_doLastQuarter 2 (some .int) :: T0
theorem m_code_P_doLastQuarter : Cond.code y_P_doLastQuarter b_P_doLastQuarter 2 (some .int) ∈ T0 := zz_in (List.mem_append_right _ (List.mem_of_getElem? (i := 358) rfl)) rfl
abbrev b_P_fillPair : ByteArray := prog_1_method_18_code
def y_P_fillPair : MethodName := ⟨"PortProcessor", "fillPair", "(I)I"⟩
def w_P_fillPair : List Cond := .code y_P_fillPair b_P_fillPair 2 (some .int) :: T0
theorem m_code_P_fillPair : Cond.code y_P_fillPair b_P_fillPair 2 (some .int) ∈ T0 := zz_in (List.mem_append_right _ (List.mem_of_getElem? (i := 229) rfl)) rfl
abbrev b_P_addPair : ByteArray := prog_1_method_19_code
def y_P_addPair : MethodName := ⟨"PortProcessor", "addPair", "(I)I"⟩
def w_P_addPair : List Cond := .code y_P_addPair b_P_addPair 3 (some .int) :: T0
theorem m_code_P_addPair : Cond.code y_P_addPair b_P_addPair 3 (some .int) ∈ T0 := zz_in (List.mem_append_right _ (List.mem_of_getElem? (i := 244) rfl)) rfl
abbrev b_P_countPair : ByteArray := prog_1_method_20_code
def y_P_countPair : MethodName := ⟨"PortProcessor", "countPair", "(I)I"⟩
def w_P_countPair : List Cond := .code y_P_countPair b_P_countPair 3 (some .int) :: T0
theorem m_code_P_countPair : Cond.code y_P_countPair b_P_countPair 3 (some .int) ∈ T0 := zz_in (List.mem_append_right _ (List.mem_of_getElem? (i := 268) rfl)) rfl
abbrev b_P_storeOrFetch : ByteArray := prog_1_method_21_code
def y_P_storeOrFetch : MethodName := ⟨"PortProcessor", "storeOrFetch", "(I)I"⟩
def w_P_storeOrFetch : List Cond := .code y_P_storeOrFetch b_P_storeOrFetch 2 (some .int) :: T0
theorem m_code_P_storeOrFetch : Cond.code y_P_storeOrFetch b_P_storeOrFetch 2 (some .int) ∈ T0 := zz_in (List.mem_append_right _ (List.mem_of_getElem? (i := 256) rfl)) rfl
abbrev b_P_storeHl : ByteArray := prog_1_method_22_code
def y_P_storeHl : MethodName := ⟨"PortProcessor", "storeHl", "(I)I"⟩
def w_P_storeHl : List Cond := .code y_P_storeHl b_P_storeHl 2 (some .int) :: T0
theorem m_code_P_storeHl : Cond.code y_P_storeHl b_P_storeHl 2 (some .int) ∈ T0 := zz_in (List.mem_append_right _ (List.mem_of_getElem? (i := 260) rfl)) rfl
abbrev b_P_fetchHl : ByteArray := prog_1_method_23_code
def y_P_fetchHl : MethodName := ⟨"PortProcessor", "fetchHl", "(I)I"⟩
def w_P_fetchHl : List Cond := .code y_P_fetchHl b_P_fetchHl 2 (some .int) :: T0
theorem m_code_P_fetchHl : Cond.code y_P_fetchHl b_P_fetchHl 2 (some .int) ∈ T0 := zz_in (List.mem_append_right _ (List.mem_of_getElem? (i := 264) rfl)) rfl
abbrev b_P_raise : ByteArray := prog_1_method_24_code
def y_P_raise : MethodName := ⟨"PortProcessor", "raise", "(I)I"⟩
def w_P_raise : List Cond := .code y_P_raise b_P_raise 3 (some .int) :: T0
theorem m_code_P_raise : Cond.code y_P_raise b_P_raise 3 (some .int) ∈ T0 := zz_in (List.mem_append_right _ (List.mem_of_getElem? (i := 272) rfl)) rfl
abbrev b_P_lower : ByteArray := prog_1_method_25_code
def y_P_lower : MethodName := ⟨"PortProcessor", "lower", "(I)I"⟩
def w_P_lower : List Cond := .code y_P_lower b_P_lower 3 (some .int) :: T0
theorem m_code_P_lower : Cond.code y_P_lower b_P_lower 3 (some .int) ∈ T0 := zz_in (List.mem_append_right _ (List.mem_of_getElem? (i := 301) rfl)) rfl
abbrev b_P_fillRegister : ByteArray := prog_1_method_26_code
def y_P_fillRegister : MethodName := ⟨"PortProcessor", "fillRegister", "(I)I"⟩
def w_P_fillRegister : List Cond := .code y_P_fillRegister b_P_fillRegister 3 (some .int) :: T0
theorem m_code_P_fillRegister : Cond.code y_P_fillRegister b_P_fillRegister 3 (some .int) ∈ T0 := zz_in (List.mem_append_right _ (List.mem_of_getElem? (i := 309) rfl)) rfl
abbrev b_P_workOnA : ByteArray := prog_1_method_27_code
def y_P_workOnA : MethodName := ⟨"PortProcessor", "workOnA", "(I)I"⟩
def w_P_workOnA : List Cond := .code y_P_workOnA b_P_workOnA 3 (some .int) :: T0
theorem m_code_P_workOnA : Cond.code y_P_workOnA b_P_workOnA 3 (some .int) ∈ T0 := zz_in (List.mem_append_right _ (List.mem_of_getElem? (i := 313) rfl)) rfl
abbrev b_P_move : ByteArray := prog_1_method_28_code
def y_P_move : MethodName := ⟨"PortProcessor", "move", "(I)I"⟩
def w_P_move : List Cond := .code y_P_move b_P_move 4 (some .int) :: T0
theorem m_code_P_move : Cond.code y_P_move b_P_move 4 (some .int) ∈ T0 := zz_in (List.mem_append_right _ (List.mem_of_getElem? (i := 333) rfl)) rfl
abbrev b_P_combineWithRegister : ByteArray := prog_1_method_29_code
def y_P_combineWithRegister : MethodName := ⟨"PortProcessor", "combineWithRegister", "(I)I"⟩
def w_P_combineWithRegister : List Cond := .code y_P_combineWithRegister b_P_combineWithRegister 3 (some .int) :: T0
theorem m_code_P_combineWithRegister : Cond.code y_P_combineWithRegister b_P_combineWithRegister 3 (some .int) ∈ T0 := zz_in (List.mem_append_right _ (List.mem_of_getElem? (i := 337) rfl)) rfl
abbrev b_P_combineWithNext : ByteArray := prog_1_method_30_code
def y_P_combineWithNext : MethodName := ⟨"PortProcessor", "combineWithNext", "(I)I"⟩
def w_P_combineWithNext : List Cond := .code y_P_combineWithNext b_P_combineWithNext 2 (some .int) :: T0
theorem m_code_P_combineWithNext : Cond.code y_P_combineWithNext b_P_combineWithNext 2 (some .int) ∈ T0 := zz_in (List.mem_append_right _ (List.mem_of_getElem? (i := 422) rfl)) rfl
abbrev b_P_jumpOnCondition : ByteArray := prog_1_method_31_code
def y_P_jumpOnCondition : MethodName := ⟨"PortProcessor", "jumpOnCondition", "(I)I"⟩
def w_P_jumpOnCondition : List Cond := .code y_P_jumpOnCondition b_P_jumpOnCondition 3 (some .int) :: T0
theorem m_code_P_jumpOnCondition : Cond.code y_P_jumpOnCondition b_P_jumpOnCondition 3 (some .int) ∈ T0 := zz_in (List.mem_append_right _ (List.mem_of_getElem? (i := 390) rfl)) rfl
abbrev b_P_callOnCondition : ByteArray := prog_1_method_32_code
def y_P_callOnCondition : MethodName := ⟨"PortProcessor", "callOnCondition", "(I)I"⟩
def w_P_callOnCondition : List Cond := .code y_P_callOnCondition b_P_callOnCondition 3 (some .int) :: T0
theorem m_code_P_callOnCondition : Cond.code y_P_callOnCondition b_P_callOnCondition 3 (some .int) ∈ T0 := zz_in (List.mem_append_right _ (List.mem_of_getElem? (i := 406) rfl)) rfl
abbrev b_P_callAlways : ByteArray := prog_1_method_33_code
def y_P_callAlways : MethodName := ⟨"PortProcessor", "callAlways", "()I"⟩
def w_P_callAlways : List Cond := .code y_P_callAlways b_P_callAlways 1 (some .int) :: T0
theorem m_code_P_callAlways : Cond.code y_P_callAlways b_P_callAlways 1 (some .int) ∈ T0 := zz_in (List.mem_append_right _ (List.mem_of_getElem? (i := 418) rfl)) rfl
abbrev b_P_returnOnCondition : ByteArray := prog_1_method_34_code
def y_P_returnOnCondition : MethodName := ⟨"PortProcessor", "returnOnCondition", "(I)I"⟩
def w_P_returnOnCondition : List Cond := .code y_P_returnOnCondition b_P_returnOnCondition 2 (some .int) :: T0
theorem m_code_P_returnOnCondition : Cond.code y_P_returnOnCondition b_P_returnOnCondition 2 (some .int) ∈ T0 := zz_in (List.mem_append_right _ (List.mem_of_getElem? (i := 362) rfl)) rfl
abbrev b_P_returnOrCopyHl : ByteArray := prog_1_method_35_code
def y_P_returnOrCopyHl : MethodName := ⟨"PortProcessor", "returnOrCopyHl", "(I)I"⟩
def w_P_returnOrCopyHl : List Cond := .code y_P_returnOrCopyHl b_P_returnOrCopyHl 2 (some .int) :: T0
theorem m_code_P_returnOrCopyHl : Cond.code y_P_returnOrCopyHl b_P_returnOrCopyHl 2 (some .int) ∈ T0 := zz_in (List.mem_append_right _ (List.mem_of_getElem? (i := 386) rfl)) rfl
abbrev b_P_popPair : ByteArray := prog_1_method_36_code
def y_P_popPair : MethodName := ⟨"PortProcessor", "popPair", "(I)I"⟩
def w_P_popPair : List Cond := .code y_P_popPair b_P_popPair 4 (some .int) :: T0
theorem m_code_P_popPair : Cond.code y_P_popPair b_P_popPair 4 (some .int) ∈ T0 := zz_in (List.mem_append_right _ (List.mem_of_getElem? (i := 378) rfl)) rfl
abbrev b_P_pushPair : ByteArray := prog_1_method_37_code
def y_P_pushPair : MethodName := ⟨"PortProcessor", "pushPair", "(I)I"⟩
def w_P_pushPair : List Cond := .code y_P_pushPair b_P_pushPair 3 (some .int) :: T0
theorem m_code_P_pushPair : Cond.code y_P_pushPair b_P_pushPair 3 (some .int) ∈ T0 := zz_in (List.mem_append_right _ (List.mem_of_getElem? (i := 410) rfl)) rfl
abbrev b_P_jumpExchangeOrSwitch : ByteArray := prog_1_method_38_code
def y_P_jumpExchangeOrSwitch : MethodName := ⟨"PortProcessor", "jumpExchangeOrSwitch", "(I)I"⟩
def w_P_jumpExchangeOrSwitch : List Cond := .code y_P_jumpExchangeOrSwitch b_P_jumpExchangeOrSwitch 2 (some .int) :: T0
theorem m_code_P_jumpExchangeOrSwitch : Cond.code y_P_jumpExchangeOrSwitch b_P_jumpExchangeOrSwitch 2 (some .int) ∈ T0 := zz_in (List.mem_append_right _ (List.mem_of_getElem? (i := 394) rfl)) rfl
abbrev b_P_exchangeHlWithStack : ByteArray := prog_1_method_39_code
def y_P_exchangeHlWithStack : MethodName := ⟨"PortProcessor", "exchangeHlWithStack", "()I"⟩
def w_P_exchangeHlWithStack : List Cond := .code y_P_exchangeHlWithStack b_P_exchangeHlWithStack 4 (some .int) :: T0
theorem m_code_P_exchangeHlWithStack : Cond.code y_P_exchangeHlWithStack b_P_exchangeHlWithStack 4 (some .int) ∈ T0 := zz_in (List.mem_append_right _ (List.mem_of_getElem? (i := 398) rfl)) rfl
abbrev b_P_exchangeHlWithDe : ByteArray := prog_1_method_40_code
def y_P_exchangeHlWithDe : MethodName := ⟨"PortProcessor", "exchangeHlWithDe", "()I"⟩
def w_P_exchangeHlWithDe : List Cond := .code y_P_exchangeHlWithDe b_P_exchangeHlWithDe 2 (some .int) :: T0
theorem m_code_P_exchangeHlWithDe : Cond.code y_P_exchangeHlWithDe b_P_exchangeHlWithDe 2 (some .int) ∈ T0 := zz_in (List.mem_append_right _ (List.mem_of_getElem? (i := 402) rfl)) rfl
abbrev b_P_targetOf : ByteArray := prog_1_method_41_code
def y_P_targetOf : MethodName := ⟨"PortProcessor", "targetOf", "(I)I"⟩
def w_P_targetOf : List Cond := .code y_P_targetOf b_P_targetOf 1 (some .int) :: T0
theorem m_code_P_targetOf : Cond.code y_P_targetOf b_P_targetOf 1 (some .int) ∈ T0 := zz_in (List.mem_append_right _ (List.mem_of_getElem? (i := 275) rfl)) rfl
abbrev b_P_pairOf : ByteArray := prog_1_method_42_code
def y_P_pairOf : MethodName := ⟨"PortProcessor", "pairOf", "(I)I"⟩
def w_P_pairOf : List Cond := .code y_P_pairOf b_P_pairOf 1 (some .int) :: T0
theorem m_code_P_pairOf : Cond.code y_P_pairOf b_P_pairOf 1 (some .int) ∈ T0 := zz_in (List.mem_append_right _ (List.mem_of_getElem? (i := 232) rfl)) rfl
abbrev b_P_nextByte : ByteArray := prog_1_method_43_code
def y_P_nextByte : MethodName := ⟨"PortProcessor", "nextByte", "()I"⟩
def w_P_nextByte : List Cond := .code y_P_nextByte b_P_nextByte 2 (some .int) :: T0
theorem m_code_P_nextByte : Cond.code y_P_nextByte b_P_nextByte 2 (some .int) ∈ T0 := zz_in (List.mem_append_right _ (List.mem_of_getElem? (i := 221) rfl)) rfl
abbrev b_P_nextTwoBytes : ByteArray := prog_1_method_44_code
def y_P_nextTwoBytes : MethodName := ⟨"PortProcessor", "nextTwoBytes", "()I"⟩
def w_P_nextTwoBytes : List Cond := .code y_P_nextTwoBytes b_P_nextTwoBytes 2 (some .int) :: T0
theorem m_code_P_nextTwoBytes : Cond.code y_P_nextTwoBytes b_P_nextTwoBytes 2 (some .int) ∈ T0 := zz_in (List.mem_append_right _ (List.mem_of_getElem? (i := 236) rfl)) rfl
abbrev b_P_callTo : ByteArray := prog_1_method_45_code
def y_P_callTo : MethodName := ⟨"PortProcessor", "callTo", "(I)V"⟩
def w_P_callTo : List Cond := .code y_P_callTo b_P_callTo 2 none :: T0
theorem m_code_P_callTo : Cond.code y_P_callTo b_P_callTo 2 none ∈ T0 := zz_in (List.mem_append_right _ (List.mem_of_getElem? (i := 211) rfl)) rfl
abbrev b_P_push : ByteArray := prog_1_method_46_code
def y_P_push : MethodName := ⟨"PortProcessor", "push", "(I)V"⟩
def w_P_push : List Cond := .code y_P_push b_P_push 2 none :: T0
theorem m_code_P_push : Cond.code y_P_push b_P_push 2 none ∈ T0 := zz_in (List.mem_append_right _ (List.mem_of_getElem? (i := 215) rfl)) rfl
abbrev b_P_pop : ByteArray := prog_1_method_47_code
def y_P_pop : MethodName := ⟨"PortProcessor", "pop", "()I"⟩
def w_P_pop : List Cond := .code y_P_pop b_P_pop 3 (some .int) :: T0
theorem m_code_P_pop : Cond.code y_P_pop b_P_pop 3 (some .int) ∈ T0 := zz_in (List.mem_append_right _ (List.mem_of_getElem? (i := 374) rfl)) rfl
abbrev b_P_readRegister : ByteArray := prog_1_method_48_code
def y_P_readRegister : MethodName := ⟨"PortProcessor", "readRegister", "(I)I"⟩
def w_P_readRegister : List Cond := .code y_P_readRegister b_P_readRegister 2 (some .int) :: T0
theorem m_code_P_readRegister : Cond.code y_P_readRegister b_P_readRegister 2 (some .int) ∈ T0 := zz_in (List.mem_append_right _ (List.mem_of_getElem? (i := 279) rfl)) rfl
abbrev b_P_writeRegister : ByteArray := prog_1_method_49_code
def y_P_writeRegister : MethodName := ⟨"PortProcessor", "writeRegister", "(II)V"⟩
def w_P_writeRegister : List Cond := .code y_P_writeRegister b_P_writeRegister 3 none :: T0
theorem m_code_P_writeRegister : Cond.code y_P_writeRegister b_P_writeRegister 3 none ∈ T0 := zz_in (List.mem_append_right _ (List.mem_of_getElem? (i := 297) rfl)) rfl
abbrev b_P_readPair : ByteArray := prog_1_method_50_code
def y_P_readPair : MethodName := ⟨"PortProcessor", "readPair", "(I)I"⟩
def w_P_readPair : List Cond := .code y_P_readPair b_P_readPair 2 (some .int) :: T0
theorem m_code_P_readPair : Cond.code y_P_readPair b_P_readPair 2 (some .int) ∈ T0 := zz_in (List.mem_append_right _ (List.mem_of_getElem? (i := 248) rfl)) rfl
abbrev b_P_writePair : ByteArray := prog_1_method_51_code
def y_P_writePair : MethodName := ⟨"PortProcessor", "writePair", "(II)V"⟩
def w_P_writePair : List Cond := .code y_P_writePair b_P_writePair 3 none :: T0
theorem m_code_P_writePair : Cond.code y_P_writePair b_P_writePair 3 none ∈ T0 := zz_in (List.mem_append_right _ (List.mem_of_getElem? (i := 240) rfl)) rfl
abbrev b_F_init : ByteArray := prog_2_method_1_code
def y_F_init : MethodName := ⟨"PortProcessor$Flags", "<init>", "()V"⟩
def w_F_init : List Cond := .code y_F_init b_F_init 1 none :: T0
theorem m_code_F_init : Cond.code y_F_init b_F_init 1 none ∈ T0 := zz_in (List.mem_append_right _ (List.mem_of_getElem? (i := 33) rfl)) rfl
abbrev b_F_asByte : ByteArray := prog_2_method_2_code
def y_F_asByte : MethodName := ⟨"PortProcessor$Flags", "asByte", "()I"⟩
def w_F_asByte : List Cond := .code y_F_asByte b_F_asByte 1 (some .int) :: T0
theorem m_code_F_asByte : Cond.code y_F_asByte b_F_asByte 1 (some .int) ∈ T0 := zz_in (List.mem_append_right _ (List.mem_of_getElem? (i := 414) rfl)) rfl
abbrev b_F_takeByte : ByteArray := prog_2_method_3_code
def y_F_takeByte : MethodName := ⟨"PortProcessor$Flags", "takeByte", "(I)V"⟩
def w_F_takeByte : List Cond := .code y_F_takeByte b_F_takeByte 2 none :: T0
theorem m_code_F_takeByte : Cond.code y_F_takeByte b_F_takeByte 2 none ∈ T0 := zz_in (List.mem_append_right _ (List.mem_of_getElem? (i := 382) rfl)) rfl
abbrev b_F_carryBit : ByteArray := prog_2_method_4_code
def y_F_carryBit : MethodName := ⟨"PortProcessor$Flags", "carryBit", "()I"⟩
def w_F_carryBit : List Cond := .code y_F_carryBit b_F_carryBit 1 (some .int) :: T0
theorem m_code_F_carryBit : Cond.code y_F_carryBit b_F_carryBit 1 (some .int) ∈ T0 := zz_in (List.mem_append_right _ (List.mem_of_getElem? (i := 325) rfl)) rfl
abbrev b_F_takeCarry : ByteArray := prog_2_method_5_code
def y_F_takeCarry : MethodName := ⟨"PortProcessor$Flags", "takeCarry", "(Z)V"⟩
def w_F_takeCarry : List Cond := .code y_F_takeCarry b_F_takeCarry 2 none :: T0
theorem m_code_F_takeCarry : Cond.code y_F_takeCarry b_F_takeCarry 2 none ∈ T0 := zz_in (List.mem_append_right _ (List.mem_of_getElem? (i := 252) rfl)) rfl
abbrev b_F_meet : ByteArray := prog_2_method_6_code
def y_F_meet : MethodName := ⟨"PortProcessor$Flags", "meet", "(I)Z"⟩
def w_F_meet : List Cond := .code y_F_meet b_F_meet 2 (some .boolean) :: T0
theorem m_code_F_meet : Cond.code y_F_meet b_F_meet 2 (some .boolean) ∈ T0 := zz_in (List.mem_append_right _ (List.mem_of_getElem? (i := 366) rfl)) rfl
abbrev b_F_flagOfCondition : ByteArray := prog_2_method_7_code
def y_F_flagOfCondition : MethodName := ⟨"PortProcessor$Flags", "flagOfCondition", "(I)Z"⟩
def w_F_flagOfCondition : List Cond := .code y_F_flagOfCondition b_F_flagOfCondition 2 (some .boolean) :: T0
theorem m_code_F_flagOfCondition : Cond.code y_F_flagOfCondition b_F_flagOfCondition 2 (some .boolean) ∈ T0 := zz_in (List.mem_append_right _ (List.mem_of_getElem? (i := 370) rfl)) rfl
abbrev b_F_combined : ByteArray := prog_2_method_8_code
def y_F_combined : MethodName := ⟨"PortProcessor$Flags", "combined", "(III)I"⟩
def w_F_combined : List Cond := .code y_F_combined b_F_combined 5 (some .int) :: T0
theorem m_code_F_combined : Cond.code y_F_combined b_F_combined 5 (some .int) ∈ T0 := zz_in (List.mem_append_right _ (List.mem_of_getElem? (i := 341) rfl)) rfl
abbrev b_F_sum : ByteArray := prog_2_method_9_code
def y_F_sum : MethodName := ⟨"PortProcessor$Flags", "sum", "(III)I"⟩
def w_F_sum : List Cond := .code y_F_sum b_F_sum 5 (some .int) :: T0
theorem m_code_F_sum : Cond.code y_F_sum b_F_sum 5 (some .int) ∈ T0 := zz_in (List.mem_append_right _ (List.mem_of_getElem? (i := 345) rfl)) rfl
abbrev b_F_difference : ByteArray := prog_2_method_10_code
def y_F_difference : MethodName := ⟨"PortProcessor$Flags", "difference", "(III)I"⟩
def w_F_difference : List Cond := .code y_F_difference b_F_difference 5 (some .int) :: T0
theorem m_code_F_difference : Cond.code y_F_difference b_F_difference 5 (some .int) ∈ T0 := zz_in (List.mem_append_right _ (List.mem_of_getElem? (i := 350) rfl)) rfl
abbrev b_F_logical : ByteArray := prog_2_method_11_code
def y_F_logical : MethodName := ⟨"PortProcessor$Flags", "logical", "(IZ)I"⟩
def w_F_logical : List Cond := .code y_F_logical b_F_logical 3 (some .int) :: T0
theorem m_code_F_logical : Cond.code y_F_logical b_F_logical 3 (some .int) ∈ T0 := zz_in (List.mem_append_right _ (List.mem_of_getElem? (i := 354) rfl)) rfl
abbrev b_F_raised : ByteArray := prog_2_method_12_code
def y_F_raised : MethodName := ⟨"PortProcessor$Flags", "raised", "(I)I"⟩
def w_F_raised : List Cond := .code y_F_raised b_F_raised 3 (some .int) :: T0
theorem m_code_F_raised : Cond.code y_F_raised b_F_raised 3 (some .int) ∈ T0 := zz_in (List.mem_append_right _ (List.mem_of_getElem? (i := 283) rfl)) rfl
abbrev b_F_lowered : ByteArray := prog_2_method_13_code
def y_F_lowered : MethodName := ⟨"PortProcessor$Flags", "lowered", "(I)I"⟩
def w_F_lowered : List Cond := .code y_F_lowered b_F_lowered 3 (some .int) :: T0
theorem m_code_F_lowered : Cond.code y_F_lowered b_F_lowered 3 (some .int) ∈ T0 := zz_in (List.mem_append_right _ (List.mem_of_getElem? (i := 305) rfl)) rfl
abbrev b_F_turnedLeft : ByteArray := prog_2_method_14_code
def y_F_turnedLeft : MethodName := ⟨"PortProcessor$Flags", "turnedLeft", "(II)I"⟩
def w_F_turnedLeft : List Cond := .code y_F_turnedLeft b_F_turnedLeft 3 (some .int) :: T0
theorem m_code_F_turnedLeft : Cond.code y_F_turnedLeft b_F_turnedLeft 3 (some .int) ∈ T0 := zz_in (List.mem_append_right _ (List.mem_of_getElem? (i := 317) rfl)) rfl
abbrev b_F_turnedRight : ByteArray := prog_2_method_15_code
def y_F_turnedRight : MethodName := ⟨"PortProcessor$Flags", "turnedRight", "(II)I"⟩
def w_F_turnedRight : List Cond := .code y_F_turnedRight b_F_turnedRight 3 (some .int) :: T0
theorem m_code_F_turnedRight : Cond.code y_F_turnedRight b_F_turnedRight 3 (some .int) ∈ T0 := zz_in (List.mem_append_right _ (List.mem_of_getElem? (i := 321) rfl)) rfl
abbrev b_F_decimalOf : ByteArray := prog_2_method_16_code
def y_F_decimalOf : MethodName := ⟨"PortProcessor$Flags", "decimalOf", "(I)I"⟩
def w_F_decimalOf : List Cond := .code y_F_decimalOf b_F_decimalOf 5 (some .int) :: T0
theorem m_code_F_decimalOf : Cond.code y_F_decimalOf b_F_decimalOf 5 (some .int) ∈ T0 := zz_in (List.mem_append_right _ (List.mem_of_getElem? (i := 329) rfl)) rfl
abbrev b_F_judge : ByteArray := prog_2_method_17_code
def y_F_judge : MethodName := ⟨"PortProcessor$Flags", "judge", "(I)V"⟩
def w_F_judge : List Cond := .code y_F_judge b_F_judge 2 none :: T0
theorem m_code_F_judge : Cond.code y_F_judge b_F_judge 2 none ∈ T0 := zz_in (List.mem_append_right _ (List.mem_of_getElem? (i := 287) rfl)) rfl
abbrev b_M_init : ByteArray := prog_3_method_1_code
def y_M_init : MethodName := ⟨"PortProcessor$Memory", "<init>", "()V"⟩
def w_M_init : List Cond := .code y_M_init b_M_init 1 none :: T0
theorem m_code_M_init : Cond.code y_M_init b_M_init 1 none ∈ T0 := zz_in (List.mem_append_right _ (List.mem_of_getElem? (i := 22) rfl)) rfl
abbrev b_M_read : ByteArray := prog_3_method_2_code
def y_M_read : MethodName := ⟨"PortProcessor$Memory", "read", "(I)I"⟩
def w_M_read : List Cond := .code y_M_read b_M_read 2 (some .int) :: T0
theorem m_code_M_read : Cond.code y_M_read b_M_read 2 (some .int) ∈ T0 := zz_in (List.mem_append_right _ (List.mem_of_getElem? (i := 182) rfl)) rfl
abbrev b_M_write : ByteArray := prog_3_method_3_code
def y_M_write : MethodName := ⟨"PortProcessor$Memory", "write", "(II)V"⟩
def w_M_write : List Cond := .code y_M_write b_M_write 3 none :: T0
theorem m_code_M_write : Cond.code y_M_write b_M_write 3 none ∈ T0 := zz_in (List.mem_append_right _ (List.mem_of_getElem? (i := 170) rfl)) rfl
abbrev b_I_bitCount : ByteArray := prog_8_method_49_code
def y_I_bitCount : MethodName := ⟨"java/lang/Integer", "bitCount", "(I)I"⟩
def w_I_bitCount : List Cond := .code y_I_bitCount b_I_bitCount 1 (some .int) :: T0
theorem m_code_I_bitCount : Cond.code y_I_bitCount b_I_bitCount 1 (some .int) ∈ T0 := zz_in (List.mem_append_right _ (List.mem_of_getElem? (i := 290) rfl)) rfl
theorem m_methodLink_PortProcessor_199_P_readPair : Cond.methodLink "PortProcessor" 199 y_P_readPair ∈ T0 := zz_in (List.mem_append_right _ (List.mem_of_getElem? (i := 245) rfl)) rfl
theorem m_instanceMethod_P_readPair : Cond.instanceMethod y_P_readPair ∈ T0 := zz_in (List.mem_append_right _ (List.mem_of_getElem? (i := 247) rfl)) rfl
theorem m_selects_P_readPair : Cond.selects "PortProcessor" y_P_readPair y_P_readPair ∈ T0 := zz_in (List.mem_append_left _ (List.mem_of_getElem? (i := 11) rfl)) rfl
theorem m_initialized_PortProcessor : Cond.initialized "PortProcessor" ∈ T0 := zz_in (List.mem_append_right _ (List.mem_of_getElem? (i := 1) rfl)) rfl
theorem cw_P_199 {p : Program} {m : MethodId} {c : Code} {cc : ByteArray} {nL : Nat} {s : State} {args : Array Value} {c0 : Cond} {R : Room} (K : CallFix p m c cc nL s args (c0 :: T0) "PortProcessor") (h1 : 0 + 1 ≤ R.frames) (h2 : 8 + (2 + 11) + 0 ≤ R.locals) : CallW R s args "PortProcessor" "PortProcessor" 199 y_P_readPair b_P_readPair 2 (some .int) w_P_readPair (rmz 0 0) 0 0 1 := cwV 1 K.2.2.2.2 (zz_gv m_methodLink_PortProcessor_199_P_readPair m_instanceMethod_P_readPair m_selects_P_readPair m_initialized_PortProcessor m_code_P_readPair) rfl rfl rfl ⟨rfl, by decide, by decide, by decide +kernel⟩ ⟨h1, h2⟩
theorem m_methodLink_PortProcessor_52_M_read : Cond.methodLink "PortProcessor" 52 y_M_read ∈ T0 := zz_in (List.mem_append_right _ (List.mem_of_getElem? (i := 179) rfl)) rfl
theorem m_instanceMethod_M_read : Cond.instanceMethod y_M_read ∈ T0 := zz_in (List.mem_append_right _ (List.mem_of_getElem? (i := 180) rfl)) rfl
theorem m_selects_M_read : Cond.selects "PortProcessor$Memory" y_M_read y_M_read ∈ T0 := zz_in (List.mem_append_right _ (List.mem_of_getElem? (i := 181) rfl)) rfl
theorem m_initialized_PortProcessor_Memory : Cond.initialized "PortProcessor$Memory" ∈ T0 := zz_in (List.mem_append_right _ (List.mem_of_getElem? (i := 2) rfl)) rfl
theorem cw_P_52 {p : Program} {m : MethodId} {c : Code} {cc : ByteArray} {nL : Nat} {s : State} {args : Array Value} {c0 : Cond} {R : Room} (K : CallFix p m c cc nL s args (c0 :: T0) "PortProcessor") (h1 : 0 + 1 ≤ R.frames) (h2 : 8 + (2 + 11) + 0 ≤ R.locals) : CallW R s args "PortProcessor" "PortProcessor$Memory" 52 y_M_read b_M_read 2 (some .int) w_M_read (rmz 0 0) 0 0 1 := cwV 1 K.2.2.2.2 (zz_gv m_methodLink_PortProcessor_52_M_read m_instanceMethod_M_read m_selects_M_read m_initialized_PortProcessor_Memory m_code_M_read) rfl rfl rfl ⟨rfl, by decide, by decide, by decide +kernel⟩ ⟨h1, h2⟩
theorem m_methodLink_PortProcessor_46_M_write : Cond.methodLink "PortProcessor" 46 y_M_write ∈ T0 := zz_in (List.mem_append_right _ (List.mem_of_getElem? (i := 167) rfl)) rfl
theorem m_instanceMethod_M_write : Cond.instanceMethod y_M_write ∈ T0 := zz_in (List.mem_append_right _ (List.mem_of_getElem? (i := 168) rfl)) rfl
theorem m_selects_M_write : Cond.selects "PortProcessor$Memory" y_M_write y_M_write ∈ T0 := zz_in (List.mem_append_right _ (List.mem_of_getElem? (i := 169) rfl)) rfl
theorem cw_P_46 {p : Program} {m : MethodId} {c : Code} {cc : ByteArray} {nL : Nat} {s : State} {args : Array Value} {c0 : Cond} {R : Room} (K : CallFix p m c cc nL s args (c0 :: T0) "PortProcessor") (h1 : 0 + 1 ≤ R.frames) (h2 : 8 + (3 + 11) + 0 ≤ R.locals) : CallW R s args "PortProcessor" "PortProcessor$Memory" 46 y_M_write b_M_write 3 none w_M_write (rmz 0 0) 0 0 2 := cwV 2 K.2.2.2.2 (zz_gv m_methodLink_PortProcessor_46_M_write m_instanceMethod_M_write m_selects_M_write m_initialized_PortProcessor_Memory m_code_M_write) rfl rfl rfl ⟨rfl, by decide, by decide, by decide +kernel⟩ ⟨h1, h2⟩
theorem m_constant_PortProcessor_56_65535 : Cond.constant "PortProcessor" 56 (nI 65535) ∈ T0 := zz_in (List.mem_append_right _ (List.mem_of_getElem? (i := 190) rfl)) rfl
theorem m_methodLink_PortProcessor_121_P_nextByte : Cond.methodLink "PortProcessor" 121 y_P_nextByte ∈ T0 := zz_in (List.mem_append_right _ (List.mem_of_getElem? (i := 218) rfl)) rfl
theorem m_instanceMethod_P_nextByte : Cond.instanceMethod y_P_nextByte ∈ T0 := zz_in (List.mem_append_right _ (List.mem_of_getElem? (i := 220) rfl)) rfl
theorem m_selects_P_nextByte : Cond.selects "PortProcessor" y_P_nextByte y_P_nextByte ∈ T0 := zz_in (List.mem_append_left _ (List.mem_of_getElem? (i := 5) rfl)) rfl
theorem cw_P_121 {p : Program} {m : MethodId} {c : Code} {cc : ByteArray} {nL : Nat} {s : State} {args : Array Value} {c0 : Cond} {R : Room} (K : CallFix p m c cc nL s args (c0 :: T0) "PortProcessor") (h1 : 1 + 1 ≤ R.frames) (h2 : 8 + (2 + 11) + 21 ≤ R.locals) : CallW R s args "PortProcessor" "PortProcessor" 121 y_P_nextByte b_P_nextByte 2 (some .int) w_P_nextByte (rmz 1 21) 0 0 0 := cwV 0 K.2.2.2.2 (zz_gv m_methodLink_PortProcessor_121_P_nextByte m_instanceMethod_P_nextByte m_selects_P_nextByte m_initialized_PortProcessor m_code_P_nextByte) rfl rfl rfl ⟨rfl, by decide, by decide, by decide +kernel⟩ ⟨h1, h2⟩
theorem m_methodLink_PortProcessor_247_P_push : Cond.methodLink "PortProcessor" 247 y_P_push ∈ T0 := zz_in (List.mem_append_right _ (List.mem_of_getElem? (i := 212) rfl)) rfl
theorem m_instanceMethod_P_push : Cond.instanceMethod y_P_push ∈ T0 := zz_in (List.mem_append_right _ (List.mem_of_getElem? (i := 214) rfl)) rfl
theorem m_selects_P_push : Cond.selects "PortProcessor" y_P_push y_P_push ∈ T0 := zz_in (List.mem_append_left _ (List.mem_of_getElem? (i := 4) rfl)) rfl
theorem cw_P_247 {p : Program} {m : MethodId} {c : Code} {cc : ByteArray} {nL : Nat} {s : State} {args : Array Value} {c0 : Cond} {R : Room} (K : CallFix p m c cc nL s args (c0 :: T0) "PortProcessor") (h1 : 1 + 1 ≤ R.frames) (h2 : 8 + (2 + 11) + 22 ≤ R.locals) : CallW R s args "PortProcessor" "PortProcessor" 247 y_P_push b_P_push 2 none w_P_push (rmz 1 22) 0 0 1 := cwV 1 K.2.2.2.2 (zz_gv m_methodLink_PortProcessor_247_P_push m_instanceMethod_P_push m_selects_P_push m_initialized_PortProcessor m_code_P_push) rfl rfl rfl ⟨rfl, by decide, by decide, by decide +kernel⟩ ⟨h1, h2⟩
theorem m_methodLink_PortProcessor_Flags_27_F_flagOfCondition : Cond.methodLink "PortProcessor$Flags" 27 y_F_flagOfCondition ∈ T0 := zz_in (List.mem_append_right _ (List.mem_of_getElem? (i := 367) rfl)) rfl
theorem m_instanceMethod_F_flagOfCondition : Cond.instanceMethod y_F_flagOfCondition ∈ T0 := zz_in (List.mem_append_right _ (List.mem_of_getElem? (i := 369) rfl)) rfl
theorem m_selects_F_flagOfCondition : Cond.selects "PortProcessor$Flags" y_F_flagOfCondition y_F_flagOfCondition ∈ T0 := zz_in (List.mem_append_left _ (List.mem_of_getElem? (i := 30) rfl)) rfl
theorem m_initialized_PortProcessor_Flags : Cond.initialized "PortProcessor$Flags" ∈ T0 := zz_in (List.mem_append_right _ (List.mem_of_getElem? (i := 3) rfl)) rfl
theorem cw_F_27 {p : Program} {m : MethodId} {c : Code} {cc : ByteArray} {nL : Nat} {s : State} {args : Array Value} {c0 : Cond} {R : Room} (K : CallFix p m c cc nL s args (c0 :: T0) "PortProcessor$Flags") (h1 : 0 + 1 ≤ R.frames) (h2 : 8 + (2 + 11) + 0 ≤ R.locals) : CallW R s args "PortProcessor$Flags" "PortProcessor$Flags" 27 y_F_flagOfCondition b_F_flagOfCondition 2 (some .boolean) w_F_flagOfCondition (rmz 0 0) 0 0 1 := cwV 1 K.2.2.2.2 (zz_gv m_methodLink_PortProcessor_Flags_27_F_flagOfCondition m_instanceMethod_F_flagOfCondition m_selects_F_flagOfCondition m_initialized_PortProcessor_Flags m_code_F_flagOfCondition) rfl rfl rfl ⟨rfl, by decide, by decide, by decide +kernel⟩ ⟨h1, h2⟩
theorem m_methodLink_PortProcessor_Flags_50_I_bitCount : Cond.methodLink "PortProcessor$Flags" 50 y_I_bitCount ∈ T0 := zz_in (List.mem_append_right _ (List.mem_of_getElem? (i := 288) rfl)) rfl
theorem m_static_I_bitCount : Cond.static y_I_bitCount ∈ T0 := zz_in (List.mem_append_right _ (List.mem_of_getElem? (i := 289) rfl)) rfl
theorem m_initialized_java_lang_Integer : Cond.initialized "java/lang/Integer" ∈ T0 := zz_in (List.mem_append_right _ (List.mem_of_getElem? (i := 9) rfl)) rfl
theorem cw_F_50 {p : Program} {m : MethodId} {c : Code} {cc : ByteArray} {nL : Nat} {s : State} {args : Array Value} {c0 : Cond} {R : Room} (K : CallFix p m c cc nL s args (c0 :: T0) "PortProcessor$Flags") (h1 : 0 + 1 ≤ R.frames) (h2 : 8 + (1 + 11) + 0 ≤ R.locals) : CallB R s args "PortProcessor$Flags" 50 y_I_bitCount b_I_bitCount 1 (some .int) w_I_bitCount (rmz 0 0) 0 0 1 ∧ (Cond.static y_I_bitCount).before args s = true := va_cwS 1 K.2.2.2.2 (zz_gs m_methodLink_PortProcessor_Flags_50_I_bitCount m_static_I_bitCount m_initialized_java_lang_Integer m_code_I_bitCount) rfl rfl rfl ⟨by decide, by decide, by decide +kernel⟩ ⟨h1, h2⟩
theorem m_methodLink_PortProcessor_Flags_31_F_sum : Cond.methodLink "PortProcessor$Flags" 31 y_F_sum ∈ T0 := zz_in (List.mem_append_right _ (List.mem_of_getElem? (i := 342) rfl)) rfl
theorem m_instanceMethod_F_sum : Cond.instanceMethod y_F_sum ∈ T0 := zz_in (List.mem_append_right _ (List.mem_of_getElem? (i := 344) rfl)) rfl
theorem m_selects_F_sum : Cond.selects "PortProcessor$Flags" y_F_sum y_F_sum ∈ T0 := zz_in (List.mem_append_left _ (List.mem_of_getElem? (i := 25) rfl)) rfl
theorem cw_F_31 {p : Program} {m : MethodId} {c : Code} {cc : ByteArray} {nL : Nat} {s : State} {args : Array Value} {c0 : Cond} {R : Room} (K : CallFix p m c cc nL s args (c0 :: T0) "PortProcessor$Flags") (h1 : 0 + 1 ≤ R.frames) (h2 : 8 + (5 + 11) + 0 ≤ R.locals) : CallW R s args "PortProcessor$Flags" "PortProcessor$Flags" 31 y_F_sum b_F_sum 5 (some .int) w_F_sum (rmz 0 0) 0 0 3 := cwV 3 K.2.2.2.2 (zz_gv m_methodLink_PortProcessor_Flags_31_F_sum m_instanceMethod_F_sum m_selects_F_sum m_initialized_PortProcessor_Flags m_code_F_sum) rfl rfl rfl ⟨rfl, by decide, by decide, by decide +kernel⟩ ⟨h1, h2⟩
theorem m_methodLink_PortProcessor_Flags_46_F_judge : Cond.methodLink "PortProcessor$Flags" 46 y_F_judge ∈ T0 := zz_in (List.mem_append_right _ (List.mem_of_getElem? (i := 284) rfl)) rfl
theorem m_instanceMethod_F_judge : Cond.instanceMethod y_F_judge ∈ T0 := zz_in (List.mem_append_right _ (List.mem_of_getElem? (i := 286) rfl)) rfl
theorem m_selects_F_judge : Cond.selects "PortProcessor$Flags" y_F_judge y_F_judge ∈ T0 := zz_in (List.mem_append_left _ (List.mem_of_getElem? (i := 18) rfl)) rfl
theorem cw_F_46 {p : Program} {m : MethodId} {c : Code} {cc : ByteArray} {nL : Nat} {s : State} {args : Array Value} {c0 : Cond} {R : Room} (K : CallFix p m c cc nL s args (c0 :: T0) "PortProcessor$Flags") (h1 : 1 + 1 ≤ R.frames) (h2 : 8 + (2 + 11) + 20 ≤ R.locals) : CallW R s args "PortProcessor$Flags" "PortProcessor$Flags" 46 y_F_judge b_F_judge 2 none w_F_judge (rmz 1 20) 0 0 1 := cwV 1 K.2.2.2.2 (zz_gv m_methodLink_PortProcessor_Flags_46_F_judge m_instanceMethod_F_judge m_selects_F_judge m_initialized_PortProcessor_Flags m_code_F_judge) rfl rfl rfl ⟨rfl, by decide, by decide, by decide +kernel⟩ ⟨h1, h2⟩
theorem m_methodLink_PortProcessor_Flags_35_F_carryBit : Cond.methodLink "PortProcessor$Flags" 35 y_F_carryBit ∈ T0 := zz_in (List.mem_append_right _ (List.mem_of_getElem? (i := 346) rfl)) rfl
theorem m_instanceMethod_F_carryBit : Cond.instanceMethod y_F_carryBit ∈ T0 := zz_in (List.mem_append_right _ (List.mem_of_getElem? (i := 323) rfl)) rfl
theorem m_selects_F_carryBit : Cond.selects "PortProcessor$Flags" y_F_carryBit y_F_carryBit ∈ T0 := zz_in (List.mem_append_right _ (List.mem_of_getElem? (i := 324) rfl)) rfl
theorem cw_F_35 {p : Program} {m : MethodId} {c : Code} {cc : ByteArray} {nL : Nat} {s : State} {args : Array Value} {c0 : Cond} {R : Room} (K : CallFix p m c cc nL s args (c0 :: T0) "PortProcessor$Flags") (h1 : 0 + 1 ≤ R.frames) (h2 : 8 + (1 + 11) + 0 ≤ R.locals) : CallW R s args "PortProcessor$Flags" "PortProcessor$Flags" 35 y_F_carryBit b_F_carryBit 1 (some .int) w_F_carryBit (rmz 0 0) 0 0 0 := cwV 0 K.2.2.2.2 (zz_gv m_methodLink_PortProcessor_Flags_35_F_carryBit m_instanceMethod_F_carryBit m_selects_F_carryBit m_initialized_PortProcessor_Flags m_code_F_carryBit) rfl rfl rfl ⟨rfl, by decide, by decide, by decide +kernel⟩ ⟨h1, h2⟩
theorem m_methodLink_PortProcessor_Flags_39_F_difference : Cond.methodLink "PortProcessor$Flags" 39 y_F_difference ∈ T0 := zz_in (List.mem_append_right _ (List.mem_of_getElem? (i := 347) rfl)) rfl
theorem m_instanceMethod_F_difference : Cond.instanceMethod y_F_difference ∈ T0 := zz_in (List.mem_append_right _ (List.mem_of_getElem? (i := 349) rfl)) rfl
theorem m_selects_F_difference : Cond.selects "PortProcessor$Flags" y_F_difference y_F_difference ∈ T0 := zz_in (List.mem_append_left _ (List.mem_of_getElem? (i := 26) rfl)) rfl
theorem cw_F_39 {p : Program} {m : MethodId} {c : Code} {cc : ByteArray} {nL : Nat} {s : State} {args : Array Value} {c0 : Cond} {R : Room} (K : CallFix p m c cc nL s args (c0 :: T0) "PortProcessor$Flags") (h1 : 1 + 1 ≤ R.frames) (h2 : 8 + (5 + 11) + 24 ≤ R.locals) : CallW R s args "PortProcessor$Flags" "PortProcessor$Flags" 39 y_F_difference b_F_difference 5 (some .int) w_F_difference (rmz 1 24) 0 0 3 := cwV 3 K.2.2.2.2 (zz_gv m_methodLink_PortProcessor_Flags_39_F_difference m_instanceMethod_F_difference m_selects_F_difference m_initialized_PortProcessor_Flags m_code_F_difference) rfl rfl rfl ⟨rfl, by decide, by decide, by decide +kernel⟩ ⟨h1, h2⟩
theorem m_methodLink_PortProcessor_Flags_42_F_logical : Cond.methodLink "PortProcessor$Flags" 42 y_F_logical ∈ T0 := zz_in (List.mem_append_right _ (List.mem_of_getElem? (i := 351) rfl)) rfl
theorem m_instanceMethod_F_logical : Cond.instanceMethod y_F_logical ∈ T0 := zz_in (List.mem_append_right _ (List.mem_of_getElem? (i := 353) rfl)) rfl
theorem m_selects_F_logical : Cond.selects "PortProcessor$Flags" y_F_logical y_F_logical ∈ T0 := zz_in (List.mem_append_left _ (List.mem_of_getElem? (i := 27) rfl)) rfl
theorem cw_F_42 {p : Program} {m : MethodId} {c : Code} {cc : ByteArray} {nL : Nat} {s : State} {args : Array Value} {c0 : Cond} {R : Room} (K : CallFix p m c cc nL s args (c0 :: T0) "PortProcessor$Flags") (h1 : 0 + 1 ≤ R.frames) (h2 : 8 + (3 + 11) + 0 ≤ R.locals) : CallW R s args "PortProcessor$Flags" "PortProcessor$Flags" 42 y_F_logical b_F_logical 3 (some .int) w_F_logical (rmz 0 0) 0 0 2 := cwV 2 K.2.2.2.2 (zz_gv m_methodLink_PortProcessor_Flags_42_F_logical m_instanceMethod_F_logical m_selects_F_logical m_initialized_PortProcessor_Flags m_code_F_logical) rfl rfl rfl ⟨rfl, by decide, by decide, by decide +kernel⟩ ⟨h1, h2⟩
theorem m_methodLink_PortProcessor_190_P_pairOf : Cond.methodLink "PortProcessor" 190 y_P_pairOf ∈ T0 := zz_in (List.mem_append_right _ (List.mem_of_getElem? (i := 230) rfl)) rfl
theorem m_static_P_pairOf : Cond.static y_P_pairOf ∈ T0 := zz_in (List.mem_append_right _ (List.mem_of_getElem? (i := 231) rfl)) rfl
theorem cw_P_190 {p : Program} {m : MethodId} {c : Code} {cc : ByteArray} {nL : Nat} {s : State} {args : Array Value} {c0 : Cond} {R : Room} (K : CallFix p m c cc nL s args (c0 :: T0) "PortProcessor") (h1 : 0 + 1 ≤ R.frames) (h2 : 8 + (1 + 11) + 0 ≤ R.locals) : CallB R s args "PortProcessor" 190 y_P_pairOf b_P_pairOf 1 (some .int) w_P_pairOf (rmz 0 0) 0 0 1 ∧ (Cond.static y_P_pairOf).before args s = true := va_cwS 1 K.2.2.2.2 (zz_gs m_methodLink_PortProcessor_190_P_pairOf m_static_P_pairOf m_initialized_PortProcessor m_code_P_pairOf) rfl rfl rfl ⟨by decide, by decide, by decide +kernel⟩ ⟨h1, h2⟩
theorem m_methodLink_PortProcessor_193_P_nextTwoBytes : Cond.methodLink "PortProcessor" 193 y_P_nextTwoBytes ∈ T0 := zz_in (List.mem_append_right _ (List.mem_of_getElem? (i := 233) rfl)) rfl
theorem m_instanceMethod_P_nextTwoBytes : Cond.instanceMethod y_P_nextTwoBytes ∈ T0 := zz_in (List.mem_append_right _ (List.mem_of_getElem? (i := 235) rfl)) rfl
theorem m_selects_P_nextTwoBytes : Cond.selects "PortProcessor" y_P_nextTwoBytes y_P_nextTwoBytes ∈ T0 := zz_in (List.mem_append_left _ (List.mem_of_getElem? (i := 8) rfl)) rfl
theorem cw_P_193 {p : Program} {m : MethodId} {c : Code} {cc : ByteArray} {nL : Nat} {s : State} {args : Array Value} {c0 : Cond} {R : Room} (K : CallFix p m c cc nL s args (c0 :: T0) "PortProcessor") (h1 : 2 + 1 ≤ R.frames) (h2 : 8 + (2 + 11) + 42 ≤ R.locals) : CallW R s args "PortProcessor" "PortProcessor" 193 y_P_nextTwoBytes b_P_nextTwoBytes 2 (some .int) w_P_nextTwoBytes (rmz 2 42) 0 0 0 := cwV 0 K.2.2.2.2 (zz_gv m_methodLink_PortProcessor_193_P_nextTwoBytes m_instanceMethod_P_nextTwoBytes m_selects_P_nextTwoBytes m_initialized_PortProcessor m_code_P_nextTwoBytes) rfl rfl rfl ⟨rfl, by decide, by decide, by decide +kernel⟩ ⟨h1, h2⟩
theorem m_methodLink_PortProcessor_196_P_writePair : Cond.methodLink "PortProcessor" 196 y_P_writePair ∈ T0 := zz_in (List.mem_append_right _ (List.mem_of_getElem? (i := 237) rfl)) rfl
theorem m_instanceMethod_P_writePair : Cond.instanceMethod y_P_writePair ∈ T0 := zz_in (List.mem_append_right _ (List.mem_of_getElem? (i := 239) rfl)) rfl
theorem m_selects_P_writePair : Cond.selects "PortProcessor" y_P_writePair y_P_writePair ∈ T0 := zz_in (List.mem_append_left _ (List.mem_of_getElem? (i := 9) rfl)) rfl
theorem cw_P_196 {p : Program} {m : MethodId} {c : Code} {cc : ByteArray} {nL : Nat} {s : State} {args : Array Value} {c0 : Cond} {R : Room} (K : CallFix p m c cc nL s args (c0 :: T0) "PortProcessor") (h1 : 0 + 1 ≤ R.frames) (h2 : 8 + (3 + 11) + 0 ≤ R.locals) : CallW R s args "PortProcessor" "PortProcessor" 196 y_P_writePair b_P_writePair 3 none w_P_writePair (rmz 0 0) 0 0 2 := cwV 2 K.2.2.2.2 (zz_gv m_methodLink_PortProcessor_196_P_writePair m_instanceMethod_P_writePair m_selects_P_writePair m_initialized_PortProcessor m_code_P_writePair) rfl rfl rfl ⟨rfl, by decide, by decide, by decide +kernel⟩ ⟨h1, h2⟩
theorem m_methodLink_PortProcessor_202_F_takeCarry : Cond.methodLink "PortProcessor" 202 y_F_takeCarry ∈ T0 := zz_in (List.mem_append_right _ (List.mem_of_getElem? (i := 249) rfl)) rfl
theorem m_instanceMethod_F_takeCarry : Cond.instanceMethod y_F_takeCarry ∈ T0 := zz_in (List.mem_append_right _ (List.mem_of_getElem? (i := 250) rfl)) rfl
theorem m_selects_F_takeCarry : Cond.selects "PortProcessor$Flags" y_F_takeCarry y_F_takeCarry ∈ T0 := zz_in (List.mem_append_right _ (List.mem_of_getElem? (i := 251) rfl)) rfl
theorem cw_P_202 {p : Program} {m : MethodId} {c : Code} {cc : ByteArray} {nL : Nat} {s : State} {args : Array Value} {c0 : Cond} {R : Room} (K : CallFix p m c cc nL s args (c0 :: T0) "PortProcessor") (h1 : 0 + 1 ≤ R.frames) (h2 : 8 + (2 + 11) + 0 ≤ R.locals) : CallW R s args "PortProcessor" "PortProcessor$Flags" 202 y_F_takeCarry b_F_takeCarry 2 none w_F_takeCarry (rmz 0 0) 0 0 1 := cwV 1 K.2.2.2.2 (zz_gv m_methodLink_PortProcessor_202_F_takeCarry m_instanceMethod_F_takeCarry m_selects_F_takeCarry m_initialized_PortProcessor_Flags m_code_F_takeCarry) rfl rfl rfl ⟨rfl, by decide, by decide, by decide +kernel⟩ ⟨h1, h2⟩
theorem m_methodLink_PortProcessor_206_P_storeHl : Cond.methodLink "PortProcessor" 206 y_P_storeHl ∈ T0 := zz_in (List.mem_append_right _ (List.mem_of_getElem? (i := 257) rfl)) rfl
theorem m_instanceMethod_P_storeHl : Cond.instanceMethod y_P_storeHl ∈ T0 := zz_in (List.mem_append_right _ (List.mem_of_getElem? (i := 259) rfl)) rfl
theorem m_selects_P_storeHl : Cond.selects "PortProcessor" y_P_storeHl y_P_storeHl ∈ T0 := zz_in (List.mem_append_left _ (List.mem_of_getElem? (i := 13) rfl)) rfl
theorem cw_P_206 {p : Program} {m : MethodId} {c : Code} {cc : ByteArray} {nL : Nat} {s : State} {args : Array Value} {c0 : Cond} {R : Room} (K : CallFix p m c cc nL s args (c0 :: T0) "PortProcessor") (h1 : 1 + 1 ≤ R.frames) (h2 : 8 + (2 + 11) + 22 ≤ R.locals) : CallW R s args "PortProcessor" "PortProcessor" 206 y_P_storeHl b_P_storeHl 2 (some .int) w_P_storeHl (rmz 1 22) 0 0 1 := cwV 1 K.2.2.2.2 (zz_gv m_methodLink_PortProcessor_206_P_storeHl m_instanceMethod_P_storeHl m_selects_P_storeHl m_initialized_PortProcessor m_code_P_storeHl) rfl rfl rfl ⟨rfl, by decide, by decide, by decide +kernel⟩ ⟨h1, h2⟩
theorem m_methodLink_PortProcessor_209_P_fetchHl : Cond.methodLink "PortProcessor" 209 y_P_fetchHl ∈ T0 := zz_in (List.mem_append_right _ (List.mem_of_getElem? (i := 261) rfl)) rfl
theorem m_instanceMethod_P_fetchHl : Cond.instanceMethod y_P_fetchHl ∈ T0 := zz_in (List.mem_append_right _ (List.mem_of_getElem? (i := 263) rfl)) rfl
theorem m_selects_P_fetchHl : Cond.selects "PortProcessor" y_P_fetchHl y_P_fetchHl ∈ T0 := zz_in (List.mem_append_left _ (List.mem_of_getElem? (i := 14) rfl)) rfl
theorem cw_P_209 {p : Program} {m : MethodId} {c : Code} {cc : ByteArray} {nL : Nat} {s : State} {args : Array Value} {c0 : Cond} {R : Room} (K : CallFix p m c cc nL s args (c0 :: T0) "PortProcessor") (h1 : 1 + 1 ≤ R.frames) (h2 : 8 + (2 + 11) + 21 ≤ R.locals) : CallW R s args "PortProcessor" "PortProcessor" 209 y_P_fetchHl b_P_fetchHl 2 (some .int) w_P_fetchHl (rmz 1 21) 0 0 1 := cwV 1 K.2.2.2.2 (zz_gv m_methodLink_PortProcessor_209_P_fetchHl m_instanceMethod_P_fetchHl m_selects_P_fetchHl m_initialized_PortProcessor m_code_P_fetchHl) rfl rfl rfl ⟨rfl, by decide, by decide, by decide +kernel⟩ ⟨h1, h2⟩
theorem m_methodLink_PortProcessor_212_P_targetOf : Cond.methodLink "PortProcessor" 212 y_P_targetOf ∈ T0 := zz_in (List.mem_append_right _ (List.mem_of_getElem? (i := 273) rfl)) rfl
theorem m_static_P_targetOf : Cond.static y_P_targetOf ∈ T0 := zz_in (List.mem_append_right _ (List.mem_of_getElem? (i := 274) rfl)) rfl
theorem cw_P_212 {p : Program} {m : MethodId} {c : Code} {cc : ByteArray} {nL : Nat} {s : State} {args : Array Value} {c0 : Cond} {R : Room} (K : CallFix p m c cc nL s args (c0 :: T0) "PortProcessor") (h1 : 0 + 1 ≤ R.frames) (h2 : 8 + (1 + 11) + 0 ≤ R.locals) : CallB R s args "PortProcessor" 212 y_P_targetOf b_P_targetOf 1 (some .int) w_P_targetOf (rmz 0 0) 0 0 1 ∧ (Cond.static y_P_targetOf).before args s = true := va_cwS 1 K.2.2.2.2 (zz_gs m_methodLink_PortProcessor_212_P_targetOf m_static_P_targetOf m_initialized_PortProcessor m_code_P_targetOf) rfl rfl rfl ⟨by decide, by decide, by decide +kernel⟩ ⟨h1, h2⟩
theorem m_methodLink_PortProcessor_91_P_readRegister : Cond.methodLink "PortProcessor" 91 y_P_readRegister ∈ T0 := zz_in (List.mem_append_right _ (List.mem_of_getElem? (i := 276) rfl)) rfl
theorem m_instanceMethod_P_readRegister : Cond.instanceMethod y_P_readRegister ∈ T0 := zz_in (List.mem_append_right _ (List.mem_of_getElem? (i := 278) rfl)) rfl
theorem m_selects_P_readRegister : Cond.selects "PortProcessor" y_P_readRegister y_P_readRegister ∈ T0 := zz_in (List.mem_append_left _ (List.mem_of_getElem? (i := 17) rfl)) rfl
theorem cw_P_91 {p : Program} {m : MethodId} {c : Code} {cc : ByteArray} {nL : Nat} {s : State} {args : Array Value} {c0 : Cond} {R : Room} (K : CallFix p m c cc nL s args (c0 :: T0) "PortProcessor") (h1 : 1 + 1 ≤ R.frames) (h2 : 8 + (2 + 11) + 21 ≤ R.locals) : CallW R s args "PortProcessor" "PortProcessor" 91 y_P_readRegister b_P_readRegister 2 (some .int) w_P_readRegister (rmz 1 21) 0 0 1 := cwV 1 K.2.2.2.2 (zz_gv m_methodLink_PortProcessor_91_P_readRegister m_instanceMethod_P_readRegister m_selects_P_readRegister m_initialized_PortProcessor m_code_P_readRegister) rfl rfl rfl ⟨rfl, by decide, by decide, by decide +kernel⟩ ⟨h1, h2⟩
theorem m_methodLink_PortProcessor_215_F_raised : Cond.methodLink "PortProcessor" 215 y_F_raised ∈ T0 := zz_in (List.mem_append_right _ (List.mem_of_getElem? (i := 280) rfl)) rfl
theorem m_instanceMethod_F_raised : Cond.instanceMethod y_F_raised ∈ T0 := zz_in (List.mem_append_right _ (List.mem_of_getElem? (i := 281) rfl)) rfl
theorem m_selects_F_raised : Cond.selects "PortProcessor$Flags" y_F_raised y_F_raised ∈ T0 := zz_in (List.mem_append_right _ (List.mem_of_getElem? (i := 282) rfl)) rfl
theorem cw_P_215 {p : Program} {m : MethodId} {c : Code} {cc : ByteArray} {nL : Nat} {s : State} {args : Array Value} {c0 : Cond} {R : Room} (K : CallFix p m c cc nL s args (c0 :: T0) "PortProcessor") (h1 : 2 + 1 ≤ R.frames) (h2 : 8 + (3 + 11) + 41 ≤ R.locals) : CallW R s args "PortProcessor" "PortProcessor$Flags" 215 y_F_raised b_F_raised 3 (some .int) w_F_raised (rmz 2 41) 0 0 1 := cwV 1 K.2.2.2.2 (zz_gv m_methodLink_PortProcessor_215_F_raised m_instanceMethod_F_raised m_selects_F_raised m_initialized_PortProcessor_Flags m_code_F_raised) rfl rfl rfl ⟨rfl, by decide, by decide, by decide +kernel⟩ ⟨h1, h2⟩
theorem m_methodLink_PortProcessor_218_P_writeRegister : Cond.methodLink "PortProcessor" 218 y_P_writeRegister ∈ T0 := zz_in (List.mem_append_right _ (List.mem_of_getElem? (i := 294) rfl)) rfl
theorem m_instanceMethod_P_writeRegister : Cond.instanceMethod y_P_writeRegister ∈ T0 := zz_in (List.mem_append_right _ (List.mem_of_getElem? (i := 296) rfl)) rfl
theorem m_selects_P_writeRegister : Cond.selects "PortProcessor" y_P_writeRegister y_P_writeRegister ∈ T0 := zz_in (List.mem_append_left _ (List.mem_of_getElem? (i := 19) rfl)) rfl
theorem cw_P_218 {p : Program} {m : MethodId} {c : Code} {cc : ByteArray} {nL : Nat} {s : State} {args : Array Value} {c0 : Cond} {R : Room} (K : CallFix p m c cc nL s args (c0 :: T0) "PortProcessor") (h1 : 1 + 1 ≤ R.frames) (h2 : 8 + (3 + 11) + 22 ≤ R.locals) : CallW R s args "PortProcessor" "PortProcessor" 218 y_P_writeRegister b_P_writeRegister 3 none w_P_writeRegister (rmz 1 22) 0 0 2 := cwV 2 K.2.2.2.2 (zz_gv m_methodLink_PortProcessor_218_P_writeRegister m_instanceMethod_P_writeRegister m_selects_P_writeRegister m_initialized_PortProcessor m_code_P_writeRegister) rfl rfl rfl ⟨rfl, by decide, by decide, by decide +kernel⟩ ⟨h1, h2⟩
theorem m_methodLink_PortProcessor_221_F_lowered : Cond.methodLink "PortProcessor" 221 y_F_lowered ∈ T0 := zz_in (List.mem_append_right _ (List.mem_of_getElem? (i := 302) rfl)) rfl
theorem m_instanceMethod_F_lowered : Cond.instanceMethod y_F_lowered ∈ T0 := zz_in (List.mem_append_right _ (List.mem_of_getElem? (i := 303) rfl)) rfl
theorem m_selects_F_lowered : Cond.selects "PortProcessor$Flags" y_F_lowered y_F_lowered ∈ T0 := zz_in (List.mem_append_right _ (List.mem_of_getElem? (i := 304) rfl)) rfl
theorem cw_P_221 {p : Program} {m : MethodId} {c : Code} {cc : ByteArray} {nL : Nat} {s : State} {args : Array Value} {c0 : Cond} {R : Room} (K : CallFix p m c cc nL s args (c0 :: T0) "PortProcessor") (h1 : 2 + 1 ≤ R.frames) (h2 : 8 + (3 + 11) + 41 ≤ R.locals) : CallW R s args "PortProcessor" "PortProcessor$Flags" 221 y_F_lowered b_F_lowered 3 (some .int) w_F_lowered (rmz 2 41) 0 0 1 := cwV 1 K.2.2.2.2 (zz_gv m_methodLink_PortProcessor_221_F_lowered m_instanceMethod_F_lowered m_selects_F_lowered m_initialized_PortProcessor_Flags m_code_F_lowered) rfl rfl rfl ⟨rfl, by decide, by decide, by decide +kernel⟩ ⟨h1, h2⟩
theorem m_methodLink_PortProcessor_224_F_turnedLeft : Cond.methodLink "PortProcessor" 224 y_F_turnedLeft ∈ T0 := zz_in (List.mem_append_right _ (List.mem_of_getElem? (i := 314) rfl)) rfl
theorem m_instanceMethod_F_turnedLeft : Cond.instanceMethod y_F_turnedLeft ∈ T0 := zz_in (List.mem_append_right _ (List.mem_of_getElem? (i := 315) rfl)) rfl
theorem m_selects_F_turnedLeft : Cond.selects "PortProcessor$Flags" y_F_turnedLeft y_F_turnedLeft ∈ T0 := zz_in (List.mem_append_right _ (List.mem_of_getElem? (i := 316) rfl)) rfl
theorem cw_P_224 {p : Program} {m : MethodId} {c : Code} {cc : ByteArray} {nL : Nat} {s : State} {args : Array Value} {c0 : Cond} {R : Room} (K : CallFix p m c cc nL s args (c0 :: T0) "PortProcessor") (h1 : 0 + 1 ≤ R.frames) (h2 : 8 + (3 + 11) + 0 ≤ R.locals) : CallW R s args "PortProcessor" "PortProcessor$Flags" 224 y_F_turnedLeft b_F_turnedLeft 3 (some .int) w_F_turnedLeft (rmz 0 0) 0 0 2 := cwV 2 K.2.2.2.2 (zz_gv m_methodLink_PortProcessor_224_F_turnedLeft m_instanceMethod_F_turnedLeft m_selects_F_turnedLeft m_initialized_PortProcessor_Flags m_code_F_turnedLeft) rfl rfl rfl ⟨rfl, by decide, by decide, by decide +kernel⟩ ⟨h1, h2⟩
theorem m_methodLink_PortProcessor_228_F_turnedRight : Cond.methodLink "PortProcessor" 228 y_F_turnedRight ∈ T0 := zz_in (List.mem_append_right _ (List.mem_of_getElem? (i := 318) rfl)) rfl
theorem m_instanceMethod_F_turnedRight : Cond.instanceMethod y_F_turnedRight ∈ T0 := zz_in (List.mem_append_right _ (List.mem_of_getElem? (i := 319) rfl)) rfl
theorem m_selects_F_turnedRight : Cond.selects "PortProcessor$Flags" y_F_turnedRight y_F_turnedRight ∈ T0 := zz_in (List.mem_append_right _ (List.mem_of_getElem? (i := 320) rfl)) rfl
theorem cw_P_228 {p : Program} {m : MethodId} {c : Code} {cc : ByteArray} {nL : Nat} {s : State} {args : Array Value} {c0 : Cond} {R : Room} (K : CallFix p m c cc nL s args (c0 :: T0) "PortProcessor") (h1 : 0 + 1 ≤ R.frames) (h2 : 8 + (3 + 11) + 0 ≤ R.locals) : CallW R s args "PortProcessor" "PortProcessor$Flags" 228 y_F_turnedRight b_F_turnedRight 3 (some .int) w_F_turnedRight (rmz 0 0) 0 0 2 := cwV 2 K.2.2.2.2 (zz_gv m_methodLink_PortProcessor_228_F_turnedRight m_instanceMethod_F_turnedRight m_selects_F_turnedRight m_initialized_PortProcessor_Flags m_code_F_turnedRight) rfl rfl rfl ⟨rfl, by decide, by decide, by decide +kernel⟩ ⟨h1, h2⟩
theorem m_methodLink_PortProcessor_231_F_carryBit : Cond.methodLink "PortProcessor" 231 y_F_carryBit ∈ T0 := zz_in (List.mem_append_right _ (List.mem_of_getElem? (i := 322) rfl)) rfl
theorem cw_P_231 {p : Program} {m : MethodId} {c : Code} {cc : ByteArray} {nL : Nat} {s : State} {args : Array Value} {c0 : Cond} {R : Room} (K : CallFix p m c cc nL s args (c0 :: T0) "PortProcessor") (h1 : 0 + 1 ≤ R.frames) (h2 : 8 + (1 + 11) + 0 ≤ R.locals) : CallW R s args "PortProcessor" "PortProcessor$Flags" 231 y_F_carryBit b_F_carryBit 1 (some .int) w_F_carryBit (rmz 0 0) 0 0 0 := cwV 0 K.2.2.2.2 (zz_gv m_methodLink_PortProcessor_231_F_carryBit m_instanceMethod_F_carryBit m_selects_F_carryBit m_initialized_PortProcessor_Flags m_code_F_carryBit) rfl rfl rfl ⟨rfl, by decide, by decide, by decide +kernel⟩ ⟨h1, h2⟩
theorem m_methodLink_PortProcessor_234_F_decimalOf : Cond.methodLink "PortProcessor" 234 y_F_decimalOf ∈ T0 := zz_in (List.mem_append_right _ (List.mem_of_getElem? (i := 326) rfl)) rfl
theorem m_instanceMethod_F_decimalOf : Cond.instanceMethod y_F_decimalOf ∈ T0 := zz_in (List.mem_append_right _ (List.mem_of_getElem? (i := 327) rfl)) rfl
theorem m_selects_F_decimalOf : Cond.selects "PortProcessor$Flags" y_F_decimalOf y_F_decimalOf ∈ T0 := zz_in (List.mem_append_right _ (List.mem_of_getElem? (i := 328) rfl)) rfl
theorem cw_P_234 {p : Program} {m : MethodId} {c : Code} {cc : ByteArray} {nL : Nat} {s : State} {args : Array Value} {c0 : Cond} {R : Room} (K : CallFix p m c cc nL s args (c0 :: T0) "PortProcessor") (h1 : 2 + 1 ≤ R.frames) (h2 : 8 + (5 + 11) + 41 ≤ R.locals) : CallW R s args "PortProcessor" "PortProcessor$Flags" 234 y_F_decimalOf b_F_decimalOf 5 (some .int) w_F_decimalOf (rmz 2 41) 0 0 1 := cwV 1 K.2.2.2.2 (zz_gv m_methodLink_PortProcessor_234_F_decimalOf m_instanceMethod_F_decimalOf m_selects_F_decimalOf m_initialized_PortProcessor_Flags m_code_F_decimalOf) rfl rfl rfl ⟨rfl, by decide, by decide, by decide +kernel⟩ ⟨h1, h2⟩
theorem m_methodLink_PortProcessor_237_F_combined : Cond.methodLink "PortProcessor" 237 y_F_combined ∈ T0 := zz_in (List.mem_append_right _ (List.mem_of_getElem? (i := 338) rfl)) rfl
theorem m_instanceMethod_F_combined : Cond.instanceMethod y_F_combined ∈ T0 := zz_in (List.mem_append_right _ (List.mem_of_getElem? (i := 339) rfl)) rfl
theorem m_selects_F_combined : Cond.selects "PortProcessor$Flags" y_F_combined y_F_combined ∈ T0 := zz_in (List.mem_append_right _ (List.mem_of_getElem? (i := 340) rfl)) rfl
theorem cw_P_237 {p : Program} {m : MethodId} {c : Code} {cc : ByteArray} {nL : Nat} {s : State} {args : Array Value} {c0 : Cond} {R : Room} (K : CallFix p m c cc nL s args (c0 :: T0) "PortProcessor") (h1 : 2 + 1 ≤ R.frames) (h2 : 8 + (5 + 11) + 48 ≤ R.locals) : CallW R s args "PortProcessor" "PortProcessor$Flags" 237 y_F_combined b_F_combined 5 (some .int) w_F_combined (rmz 2 48) 0 0 3 := cwV 3 K.2.2.2.2 (zz_gv m_methodLink_PortProcessor_237_F_combined m_instanceMethod_F_combined m_selects_F_combined m_initialized_PortProcessor_Flags m_code_F_combined) rfl rfl rfl ⟨rfl, by decide, by decide, by decide +kernel⟩ ⟨h1, h2⟩
theorem m_methodLink_PortProcessor_241_F_meet : Cond.methodLink "PortProcessor" 241 y_F_meet ∈ T0 := zz_in (List.mem_append_right _ (List.mem_of_getElem? (i := 363) rfl)) rfl
theorem m_instanceMethod_F_meet : Cond.instanceMethod y_F_meet ∈ T0 := zz_in (List.mem_append_right _ (List.mem_of_getElem? (i := 364) rfl)) rfl
theorem m_selects_F_meet : Cond.selects "PortProcessor$Flags" y_F_meet y_F_meet ∈ T0 := zz_in (List.mem_append_right _ (List.mem_of_getElem? (i := 365) rfl)) rfl
theorem cw_P_241 {p : Program} {m : MethodId} {c : Code} {cc : ByteArray} {nL : Nat} {s : State} {args : Array Value} {c0 : Cond} {R : Room} (K : CallFix p m c cc nL s args (c0 :: T0) "PortProcessor") (h1 : 1 + 1 ≤ R.frames) (h2 : 8 + (2 + 11) + 21 ≤ R.locals) : CallW R s args "PortProcessor" "PortProcessor$Flags" 241 y_F_meet b_F_meet 2 (some .boolean) w_F_meet (rmz 1 21) 0 0 1 := cwV 1 K.2.2.2.2 (zz_gv m_methodLink_PortProcessor_241_F_meet m_instanceMethod_F_meet m_selects_F_meet m_initialized_PortProcessor_Flags m_code_F_meet) rfl rfl rfl ⟨rfl, by decide, by decide, by decide +kernel⟩ ⟨h1, h2⟩
theorem m_methodLink_PortProcessor_136_P_callTo : Cond.methodLink "PortProcessor" 136 y_P_callTo ∈ T0 := zz_in (List.mem_append_right _ (List.mem_of_getElem? (i := 208) rfl)) rfl
theorem m_instanceMethod_P_callTo : Cond.instanceMethod y_P_callTo ∈ T0 := zz_in (List.mem_append_right _ (List.mem_of_getElem? (i := 210) rfl)) rfl
theorem m_selects_P_callTo : Cond.selects "PortProcessor" y_P_callTo y_P_callTo ∈ T0 := zz_in (List.mem_append_left _ (List.mem_of_getElem? (i := 3) rfl)) rfl
theorem cw_P_136 {p : Program} {m : MethodId} {c : Code} {cc : ByteArray} {nL : Nat} {s : State} {args : Array Value} {c0 : Cond} {R : Room} (K : CallFix p m c cc nL s args (c0 :: T0) "PortProcessor") (h1 : 2 + 1 ≤ R.frames) (h2 : 8 + (2 + 11) + 43 ≤ R.locals) : CallW R s args "PortProcessor" "PortProcessor" 136 y_P_callTo b_P_callTo 2 none w_P_callTo (rmz 2 43) 0 0 1 := cwV 1 K.2.2.2.2 (zz_gv m_methodLink_PortProcessor_136_P_callTo m_instanceMethod_P_callTo m_selects_P_callTo m_initialized_PortProcessor m_code_P_callTo) rfl rfl rfl ⟨rfl, by decide, by decide, by decide +kernel⟩ ⟨h1, h2⟩
theorem m_methodLink_PortProcessor_244_P_pop : Cond.methodLink "PortProcessor" 244 y_P_pop ∈ T0 := zz_in (List.mem_append_right _ (List.mem_of_getElem? (i := 371) rfl)) rfl
theorem m_instanceMethod_P_pop : Cond.instanceMethod y_P_pop ∈ T0 := zz_in (List.mem_append_right _ (List.mem_of_getElem? (i := 373) rfl)) rfl
theorem m_selects_P_pop : Cond.selects "PortProcessor" y_P_pop y_P_pop ∈ T0 := zz_in (List.mem_append_left _ (List.mem_of_getElem? (i := 31) rfl)) rfl
theorem cw_P_244 {p : Program} {m : MethodId} {c : Code} {cc : ByteArray} {nL : Nat} {s : State} {args : Array Value} {c0 : Cond} {R : Room} (K : CallFix p m c cc nL s args (c0 :: T0) "PortProcessor") (h1 : 1 + 1 ≤ R.frames) (h2 : 8 + (3 + 11) + 21 ≤ R.locals) : CallW R s args "PortProcessor" "PortProcessor" 244 y_P_pop b_P_pop 3 (some .int) w_P_pop (rmz 1 21) 0 0 0 := cwV 0 K.2.2.2.2 (zz_gv m_methodLink_PortProcessor_244_P_pop m_instanceMethod_P_pop m_selects_P_pop m_initialized_PortProcessor m_code_P_pop) rfl rfl rfl ⟨rfl, by decide, by decide, by decide +kernel⟩ ⟨h1, h2⟩
theorem m_methodLink_PortProcessor_98_F_takeByte : Cond.methodLink "PortProcessor" 98 y_F_takeByte ∈ T0 := zz_in (List.mem_append_right _ (List.mem_of_getElem? (i := 379) rfl)) rfl
theorem m_instanceMethod_F_takeByte : Cond.instanceMethod y_F_takeByte ∈ T0 := zz_in (List.mem_append_right _ (List.mem_of_getElem? (i := 380) rfl)) rfl
theorem m_selects_F_takeByte : Cond.selects "PortProcessor$Flags" y_F_takeByte y_F_takeByte ∈ T0 := zz_in (List.mem_append_right _ (List.mem_of_getElem? (i := 381) rfl)) rfl
theorem cw_P_98 {p : Program} {m : MethodId} {c : Code} {cc : ByteArray} {nL : Nat} {s : State} {args : Array Value} {c0 : Cond} {R : Room} (K : CallFix p m c cc nL s args (c0 :: T0) "PortProcessor") (h1 : 0 + 1 ≤ R.frames) (h2 : 8 + (2 + 11) + 0 ≤ R.locals) : CallW R s args "PortProcessor" "PortProcessor$Flags" 98 y_F_takeByte b_F_takeByte 2 none w_F_takeByte (rmz 0 0) 0 0 1 := cwV 1 K.2.2.2.2 (zz_gv m_methodLink_PortProcessor_98_F_takeByte m_instanceMethod_F_takeByte m_selects_F_takeByte m_initialized_PortProcessor_Flags m_code_F_takeByte) rfl rfl rfl ⟨rfl, by decide, by decide, by decide +kernel⟩ ⟨h1, h2⟩
theorem m_methodLink_PortProcessor_84_F_asByte : Cond.methodLink "PortProcessor" 84 y_F_asByte ∈ T0 := zz_in (List.mem_append_right _ (List.mem_of_getElem? (i := 411) rfl)) rfl
theorem m_instanceMethod_F_asByte : Cond.instanceMethod y_F_asByte ∈ T0 := zz_in (List.mem_append_right _ (List.mem_of_getElem? (i := 412) rfl)) rfl
theorem m_selects_F_asByte : Cond.selects "PortProcessor$Flags" y_F_asByte y_F_asByte ∈ T0 := zz_in (List.mem_append_right _ (List.mem_of_getElem? (i := 413) rfl)) rfl
theorem cw_P_84 {p : Program} {m : MethodId} {c : Code} {cc : ByteArray} {nL : Nat} {s : State} {args : Array Value} {c0 : Cond} {R : Room} (K : CallFix p m c cc nL s args (c0 :: T0) "PortProcessor") (h1 : 0 + 1 ≤ R.frames) (h2 : 8 + (1 + 11) + 0 ≤ R.locals) : CallW R s args "PortProcessor" "PortProcessor$Flags" 84 y_F_asByte b_F_asByte 1 (some .int) w_F_asByte (rmz 0 0) 0 0 0 := cwV 0 K.2.2.2.2 (zz_gv m_methodLink_PortProcessor_84_F_asByte m_instanceMethod_F_asByte m_selects_F_asByte m_initialized_PortProcessor_Flags m_code_F_asByte) rfl rfl rfl ⟨rfl, by decide, by decide, by decide +kernel⟩ ⟨h1, h2⟩
theorem m_methodLink_PortProcessor_250_P_exchangeHlWithStack : Cond.methodLink "PortProcessor" 250 y_P_exchangeHlWithStack ∈ T0 := zz_in (List.mem_append_right _ (List.mem_of_getElem? (i := 395) rfl)) rfl
theorem m_instanceMethod_P_exchangeHlWithStack : Cond.instanceMethod y_P_exchangeHlWithStack ∈ T0 := zz_in (List.mem_append_right _ (List.mem_of_getElem? (i := 397) rfl)) rfl
theorem m_selects_P_exchangeHlWithStack : Cond.selects "PortProcessor" y_P_exchangeHlWithStack y_P_exchangeHlWithStack ∈ T0 := zz_in (List.mem_append_left _ (List.mem_of_getElem? (i := 36) rfl)) rfl
theorem cw_P_250 {p : Program} {m : MethodId} {c : Code} {cc : ByteArray} {nL : Nat} {s : State} {args : Array Value} {c0 : Cond} {R : Room} (K : CallFix p m c cc nL s args (c0 :: T0) "PortProcessor") (h1 : 1 + 1 ≤ R.frames) (h2 : 8 + (4 + 11) + 22 ≤ R.locals) : CallW R s args "PortProcessor" "PortProcessor" 250 y_P_exchangeHlWithStack b_P_exchangeHlWithStack 4 (some .int) w_P_exchangeHlWithStack (rmz 1 22) 0 0 0 := cwV 0 K.2.2.2.2 (zz_gv m_methodLink_PortProcessor_250_P_exchangeHlWithStack m_instanceMethod_P_exchangeHlWithStack m_selects_P_exchangeHlWithStack m_initialized_PortProcessor m_code_P_exchangeHlWithStack) rfl rfl rfl ⟨rfl, by decide, by decide, by decide +kernel⟩ ⟨h1, h2⟩
theorem m_methodLink_PortProcessor_253_P_exchangeHlWithDe : Cond.methodLink "PortProcessor" 253 y_P_exchangeHlWithDe ∈ T0 := zz_in (List.mem_append_right _ (List.mem_of_getElem? (i := 399) rfl)) rfl
theorem m_instanceMethod_P_exchangeHlWithDe : Cond.instanceMethod y_P_exchangeHlWithDe ∈ T0 := zz_in (List.mem_append_right _ (List.mem_of_getElem? (i := 401) rfl)) rfl
theorem m_selects_P_exchangeHlWithDe : Cond.selects "PortProcessor" y_P_exchangeHlWithDe y_P_exchangeHlWithDe ∈ T0 := zz_in (List.mem_append_left _ (List.mem_of_getElem? (i := 37) rfl)) rfl
theorem cw_P_253 {p : Program} {m : MethodId} {c : Code} {cc : ByteArray} {nL : Nat} {s : State} {args : Array Value} {c0 : Cond} {R : Room} (K : CallFix p m c cc nL s args (c0 :: T0) "PortProcessor") (h1 : 1 + 1 ≤ R.frames) (h2 : 8 + (2 + 11) + 22 ≤ R.locals) : CallW R s args "PortProcessor" "PortProcessor" 253 y_P_exchangeHlWithDe b_P_exchangeHlWithDe 2 (some .int) w_P_exchangeHlWithDe (rmz 1 22) 0 0 0 := cwV 0 K.2.2.2.2 (zz_gv m_methodLink_PortProcessor_253_P_exchangeHlWithDe m_instanceMethod_P_exchangeHlWithDe m_selects_P_exchangeHlWithDe m_initialized_PortProcessor m_code_P_exchangeHlWithDe) rfl rfl rfl ⟨rfl, by decide, by decide, by decide +kernel⟩ ⟨h1, h2⟩
theorem m_methodLink_PortProcessor_142_P_addPair : Cond.methodLink "PortProcessor" 142 y_P_addPair ∈ T0 := zz_in (List.mem_append_right _ (List.mem_of_getElem? (i := 241) rfl)) rfl
theorem m_instanceMethod_P_addPair : Cond.instanceMethod y_P_addPair ∈ T0 := zz_in (List.mem_append_right _ (List.mem_of_getElem? (i := 243) rfl)) rfl
theorem m_selects_P_addPair : Cond.selects "PortProcessor" y_P_addPair y_P_addPair ∈ T0 := zz_in (List.mem_append_left _ (List.mem_of_getElem? (i := 10) rfl)) rfl
theorem cw_P_142 {p : Program} {m : MethodId} {c : Code} {cc : ByteArray} {nL : Nat} {s : State} {args : Array Value} {c0 : Cond} {R : Room} (K : CallFix p m c cc nL s args (c0 :: T0) "PortProcessor") (h1 : 1 + 1 ≤ R.frames) (h2 : 8 + (3 + 11) + 22 ≤ R.locals) : CallW R s args "PortProcessor" "PortProcessor" 142 y_P_addPair b_P_addPair 3 (some .int) w_P_addPair (rmz 1 22) 0 0 1 := cwV 1 K.2.2.2.2 (zz_gv m_methodLink_PortProcessor_142_P_addPair m_instanceMethod_P_addPair m_selects_P_addPair m_initialized_PortProcessor m_code_P_addPair) rfl rfl rfl ⟨rfl, by decide, by decide, by decide +kernel⟩ ⟨h1, h2⟩
theorem m_methodLink_PortProcessor_139_P_fillPair : Cond.methodLink "PortProcessor" 139 y_P_fillPair ∈ T0 := zz_in (List.mem_append_right _ (List.mem_of_getElem? (i := 226) rfl)) rfl
theorem m_instanceMethod_P_fillPair : Cond.instanceMethod y_P_fillPair ∈ T0 := zz_in (List.mem_append_right _ (List.mem_of_getElem? (i := 228) rfl)) rfl
theorem m_selects_P_fillPair : Cond.selects "PortProcessor" y_P_fillPair y_P_fillPair ∈ T0 := zz_in (List.mem_append_left _ (List.mem_of_getElem? (i := 7) rfl)) rfl
theorem cw_P_139 {p : Program} {m : MethodId} {c : Code} {cc : ByteArray} {nL : Nat} {s : State} {args : Array Value} {c0 : Cond} {R : Room} (K : CallFix p m c cc nL s args (c0 :: T0) "PortProcessor") (h1 : 3 + 1 ≤ R.frames) (h2 : 8 + (2 + 11) + 63 ≤ R.locals) : CallW R s args "PortProcessor" "PortProcessor" 139 y_P_fillPair b_P_fillPair 2 (some .int) w_P_fillPair (rmz 3 63) 0 0 1 := cwV 1 K.2.2.2.2 (zz_gv m_methodLink_PortProcessor_139_P_fillPair m_instanceMethod_P_fillPair m_selects_P_fillPair m_initialized_PortProcessor m_code_P_fillPair) rfl rfl rfl ⟨rfl, by decide, by decide, by decide +kernel⟩ ⟨h1, h2⟩
theorem m_methodLink_PortProcessor_145_P_storeOrFetch : Cond.methodLink "PortProcessor" 145 y_P_storeOrFetch ∈ T0 := zz_in (List.mem_append_right _ (List.mem_of_getElem? (i := 253) rfl)) rfl
theorem m_instanceMethod_P_storeOrFetch : Cond.instanceMethod y_P_storeOrFetch ∈ T0 := zz_in (List.mem_append_right _ (List.mem_of_getElem? (i := 255) rfl)) rfl
theorem m_selects_P_storeOrFetch : Cond.selects "PortProcessor" y_P_storeOrFetch y_P_storeOrFetch ∈ T0 := zz_in (List.mem_append_left _ (List.mem_of_getElem? (i := 12) rfl)) rfl
theorem cw_P_145 {p : Program} {m : MethodId} {c : Code} {cc : ByteArray} {nL : Nat} {s : State} {args : Array Value} {c0 : Cond} {R : Room} (K : CallFix p m c cc nL s args (c0 :: T0) "PortProcessor") (h1 : 3 + 1 ≤ R.frames) (h2 : 8 + (2 + 11) + 63 ≤ R.locals) : CallW R s args "PortProcessor" "PortProcessor" 145 y_P_storeOrFetch b_P_storeOrFetch 2 (some .int) w_P_storeOrFetch (rmz 3 63) 0 0 1 := cwV 1 K.2.2.2.2 (zz_gv m_methodLink_PortProcessor_145_P_storeOrFetch m_instanceMethod_P_storeOrFetch m_selects_P_storeOrFetch m_initialized_PortProcessor m_code_P_storeOrFetch) rfl rfl rfl ⟨rfl, by decide, by decide, by decide +kernel⟩ ⟨h1, h2⟩
theorem m_methodLink_PortProcessor_148_P_countPair : Cond.methodLink "PortProcessor" 148 y_P_countPair ∈ T0 := zz_in (List.mem_append_right _ (List.mem_of_getElem? (i := 265) rfl)) rfl
theorem m_instanceMethod_P_countPair : Cond.instanceMethod y_P_countPair ∈ T0 := zz_in (List.mem_append_right _ (List.mem_of_getElem? (i := 267) rfl)) rfl
theorem m_selects_P_countPair : Cond.selects "PortProcessor" y_P_countPair y_P_countPair ∈ T0 := zz_in (List.mem_append_left _ (List.mem_of_getElem? (i := 15) rfl)) rfl
theorem cw_P_148 {p : Program} {m : MethodId} {c : Code} {cc : ByteArray} {nL : Nat} {s : State} {args : Array Value} {c0 : Cond} {R : Room} (K : CallFix p m c cc nL s args (c0 :: T0) "PortProcessor") (h1 : 1 + 1 ≤ R.frames) (h2 : 8 + (3 + 11) + 22 ≤ R.locals) : CallW R s args "PortProcessor" "PortProcessor" 148 y_P_countPair b_P_countPair 3 (some .int) w_P_countPair (rmz 1 22) 0 0 1 := cwV 1 K.2.2.2.2 (zz_gv m_methodLink_PortProcessor_148_P_countPair m_instanceMethod_P_countPair m_selects_P_countPair m_initialized_PortProcessor m_code_P_countPair) rfl rfl rfl ⟨rfl, by decide, by decide, by decide +kernel⟩ ⟨h1, h2⟩
theorem m_methodLink_PortProcessor_151_P_raise : Cond.methodLink "PortProcessor" 151 y_P_raise ∈ T0 := zz_in (List.mem_append_right _ (List.mem_of_getElem? (i := 269) rfl)) rfl
theorem m_instanceMethod_P_raise : Cond.instanceMethod y_P_raise ∈ T0 := zz_in (List.mem_append_right _ (List.mem_of_getElem? (i := 271) rfl)) rfl
theorem m_selects_P_raise : Cond.selects "PortProcessor" y_P_raise y_P_raise ∈ T0 := zz_in (List.mem_append_left _ (List.mem_of_getElem? (i := 16) rfl)) rfl
theorem cw_P_151 {p : Program} {m : MethodId} {c : Code} {cc : ByteArray} {nL : Nat} {s : State} {args : Array Value} {c0 : Cond} {R : Room} (K : CallFix p m c cc nL s args (c0 :: T0) "PortProcessor") (h1 : 3 + 1 ≤ R.frames) (h2 : 8 + (3 + 11) + 63 ≤ R.locals) : CallW R s args "PortProcessor" "PortProcessor" 151 y_P_raise b_P_raise 3 (some .int) w_P_raise (rmz 3 63) 0 0 1 := cwV 1 K.2.2.2.2 (zz_gv m_methodLink_PortProcessor_151_P_raise m_instanceMethod_P_raise m_selects_P_raise m_initialized_PortProcessor m_code_P_raise) rfl rfl rfl ⟨rfl, by decide, by decide, by decide +kernel⟩ ⟨h1, h2⟩
theorem m_methodLink_PortProcessor_154_P_lower : Cond.methodLink "PortProcessor" 154 y_P_lower ∈ T0 := zz_in (List.mem_append_right _ (List.mem_of_getElem? (i := 298) rfl)) rfl
theorem m_instanceMethod_P_lower : Cond.instanceMethod y_P_lower ∈ T0 := zz_in (List.mem_append_right _ (List.mem_of_getElem? (i := 300) rfl)) rfl
theorem m_selects_P_lower : Cond.selects "PortProcessor" y_P_lower y_P_lower ∈ T0 := zz_in (List.mem_append_left _ (List.mem_of_getElem? (i := 20) rfl)) rfl
theorem cw_P_154 {p : Program} {m : MethodId} {c : Code} {cc : ByteArray} {nL : Nat} {s : State} {args : Array Value} {c0 : Cond} {R : Room} (K : CallFix p m c cc nL s args (c0 :: T0) "PortProcessor") (h1 : 3 + 1 ≤ R.frames) (h2 : 8 + (3 + 11) + 63 ≤ R.locals) : CallW R s args "PortProcessor" "PortProcessor" 154 y_P_lower b_P_lower 3 (some .int) w_P_lower (rmz 3 63) 0 0 1 := cwV 1 K.2.2.2.2 (zz_gv m_methodLink_PortProcessor_154_P_lower m_instanceMethod_P_lower m_selects_P_lower m_initialized_PortProcessor m_code_P_lower) rfl rfl rfl ⟨rfl, by decide, by decide, by decide +kernel⟩ ⟨h1, h2⟩
theorem m_methodLink_PortProcessor_157_P_fillRegister : Cond.methodLink "PortProcessor" 157 y_P_fillRegister ∈ T0 := zz_in (List.mem_append_right _ (List.mem_of_getElem? (i := 306) rfl)) rfl
theorem m_instanceMethod_P_fillRegister : Cond.instanceMethod y_P_fillRegister ∈ T0 := zz_in (List.mem_append_right _ (List.mem_of_getElem? (i := 308) rfl)) rfl
theorem m_selects_P_fillRegister : Cond.selects "PortProcessor" y_P_fillRegister y_P_fillRegister ∈ T0 := zz_in (List.mem_append_left _ (List.mem_of_getElem? (i := 21) rfl)) rfl
theorem cw_P_157 {p : Program} {m : MethodId} {c : Code} {cc : ByteArray} {nL : Nat} {s : State} {args : Array Value} {c0 : Cond} {R : Room} (K : CallFix p m c cc nL s args (c0 :: T0) "PortProcessor") (h1 : 2 + 1 ≤ R.frames) (h2 : 8 + (3 + 11) + 44 ≤ R.locals) : CallW R s args "PortProcessor" "PortProcessor" 157 y_P_fillRegister b_P_fillRegister 3 (some .int) w_P_fillRegister (rmz 2 44) 0 0 1 := cwV 1 K.2.2.2.2 (zz_gv m_methodLink_PortProcessor_157_P_fillRegister m_instanceMethod_P_fillRegister m_selects_P_fillRegister m_initialized_PortProcessor m_code_P_fillRegister) rfl rfl rfl ⟨rfl, by decide, by decide, by decide +kernel⟩ ⟨h1, h2⟩
theorem m_methodLink_PortProcessor_160_P_workOnA : Cond.methodLink "PortProcessor" 160 y_P_workOnA ∈ T0 := zz_in (List.mem_append_right _ (List.mem_of_getElem? (i := 310) rfl)) rfl
theorem m_instanceMethod_P_workOnA : Cond.instanceMethod y_P_workOnA ∈ T0 := zz_in (List.mem_append_right _ (List.mem_of_getElem? (i := 312) rfl)) rfl
theorem m_selects_P_workOnA : Cond.selects "PortProcessor" y_P_workOnA y_P_workOnA ∈ T0 := zz_in (List.mem_append_left _ (List.mem_of_getElem? (i := 22) rfl)) rfl
theorem cw_P_160 {p : Program} {m : MethodId} {c : Code} {cc : ByteArray} {nL : Nat} {s : State} {args : Array Value} {c0 : Cond} {R : Room} (K : CallFix p m c cc nL s args (c0 :: T0) "PortProcessor") (h1 : 3 + 1 ≤ R.frames) (h2 : 8 + (3 + 11) + 65 ≤ R.locals) : CallW R s args "PortProcessor" "PortProcessor" 160 y_P_workOnA b_P_workOnA 3 (some .int) w_P_workOnA (rmz 3 65) 0 0 1 := cwV 1 K.2.2.2.2 (zz_gv m_methodLink_PortProcessor_160_P_workOnA m_instanceMethod_P_workOnA m_selects_P_workOnA m_initialized_PortProcessor m_code_P_workOnA) rfl rfl rfl ⟨rfl, by decide, by decide, by decide +kernel⟩ ⟨h1, h2⟩
theorem m_methodLink_PortProcessor_163_P_returnOnCondition : Cond.methodLink "PortProcessor" 163 y_P_returnOnCondition ∈ T0 := zz_in (List.mem_append_right _ (List.mem_of_getElem? (i := 359) rfl)) rfl
theorem m_instanceMethod_P_returnOnCondition : Cond.instanceMethod y_P_returnOnCondition ∈ T0 := zz_in (List.mem_append_right _ (List.mem_of_getElem? (i := 361) rfl)) rfl
theorem m_selects_P_returnOnCondition : Cond.selects "PortProcessor" y_P_returnOnCondition y_P_returnOnCondition ∈ T0 := zz_in (List.mem_append_left _ (List.mem_of_getElem? (i := 29) rfl)) rfl
theorem cw_P_163 {p : Program} {m : MethodId} {c : Code} {cc : ByteArray} {nL : Nat} {s : State} {args : Array Value} {c0 : Cond} {R : Room} (K : CallFix p m c cc nL s args (c0 :: T0) "PortProcessor") (h1 : 2 + 1 ≤ R.frames) (h2 : 8 + (2 + 11) + 43 ≤ R.locals) : CallW R s args "PortProcessor" "PortProcessor" 163 y_P_returnOnCondition b_P_returnOnCondition 2 (some .int) w_P_returnOnCondition (rmz 2 43) 0 0 1 := cwV 1 K.2.2.2.2 (zz_gv m_methodLink_PortProcessor_163_P_returnOnCondition m_instanceMethod_P_returnOnCondition m_selects_P_returnOnCondition m_initialized_PortProcessor m_code_P_returnOnCondition) rfl rfl rfl ⟨rfl, by decide, by decide, by decide +kernel⟩ ⟨h1, h2⟩
theorem m_methodLink_PortProcessor_169_P_returnOrCopyHl : Cond.methodLink "PortProcessor" 169 y_P_returnOrCopyHl ∈ T0 := zz_in (List.mem_append_right _ (List.mem_of_getElem? (i := 383) rfl)) rfl
theorem m_instanceMethod_P_returnOrCopyHl : Cond.instanceMethod y_P_returnOrCopyHl ∈ T0 := zz_in (List.mem_append_right _ (List.mem_of_getElem? (i := 385) rfl)) rfl
theorem m_selects_P_returnOrCopyHl : Cond.selects "PortProcessor" y_P_returnOrCopyHl y_P_returnOrCopyHl ∈ T0 := zz_in (List.mem_append_left _ (List.mem_of_getElem? (i := 33) rfl)) rfl
theorem cw_P_169 {p : Program} {m : MethodId} {c : Code} {cc : ByteArray} {nL : Nat} {s : State} {args : Array Value} {c0 : Cond} {R : Room} (K : CallFix p m c cc nL s args (c0 :: T0) "PortProcessor") (h1 : 2 + 1 ≤ R.frames) (h2 : 8 + (2 + 11) + 43 ≤ R.locals) : CallW R s args "PortProcessor" "PortProcessor" 169 y_P_returnOrCopyHl b_P_returnOrCopyHl 2 (some .int) w_P_returnOrCopyHl (rmz 2 43) 0 0 1 := cwV 1 K.2.2.2.2 (zz_gv m_methodLink_PortProcessor_169_P_returnOrCopyHl m_instanceMethod_P_returnOrCopyHl m_selects_P_returnOrCopyHl m_initialized_PortProcessor m_code_P_returnOrCopyHl) rfl rfl rfl ⟨rfl, by decide, by decide, by decide +kernel⟩ ⟨h1, h2⟩
theorem m_methodLink_PortProcessor_166_P_popPair : Cond.methodLink "PortProcessor" 166 y_P_popPair ∈ T0 := zz_in (List.mem_append_right _ (List.mem_of_getElem? (i := 375) rfl)) rfl
theorem m_instanceMethod_P_popPair : Cond.instanceMethod y_P_popPair ∈ T0 := zz_in (List.mem_append_right _ (List.mem_of_getElem? (i := 377) rfl)) rfl
theorem m_selects_P_popPair : Cond.selects "PortProcessor" y_P_popPair y_P_popPair ∈ T0 := zz_in (List.mem_append_left _ (List.mem_of_getElem? (i := 32) rfl)) rfl
theorem cw_P_166 {p : Program} {m : MethodId} {c : Code} {cc : ByteArray} {nL : Nat} {s : State} {args : Array Value} {c0 : Cond} {R : Room} (K : CallFix p m c cc nL s args (c0 :: T0) "PortProcessor") (h1 : 2 + 1 ≤ R.frames) (h2 : 8 + (4 + 11) + 43 ≤ R.locals) : CallW R s args "PortProcessor" "PortProcessor" 166 y_P_popPair b_P_popPair 4 (some .int) w_P_popPair (rmz 2 43) 0 0 1 := cwV 1 K.2.2.2.2 (zz_gv m_methodLink_PortProcessor_166_P_popPair m_instanceMethod_P_popPair m_selects_P_popPair m_initialized_PortProcessor m_code_P_popPair) rfl rfl rfl ⟨rfl, by decide, by decide, by decide +kernel⟩ ⟨h1, h2⟩
theorem m_methodLink_PortProcessor_172_P_jumpOnCondition : Cond.methodLink "PortProcessor" 172 y_P_jumpOnCondition ∈ T0 := zz_in (List.mem_append_right _ (List.mem_of_getElem? (i := 387) rfl)) rfl
theorem m_instanceMethod_P_jumpOnCondition : Cond.instanceMethod y_P_jumpOnCondition ∈ T0 := zz_in (List.mem_append_right _ (List.mem_of_getElem? (i := 389) rfl)) rfl
theorem m_selects_P_jumpOnCondition : Cond.selects "PortProcessor" y_P_jumpOnCondition y_P_jumpOnCondition ∈ T0 := zz_in (List.mem_append_left _ (List.mem_of_getElem? (i := 34) rfl)) rfl
theorem cw_P_172 {p : Program} {m : MethodId} {c : Code} {cc : ByteArray} {nL : Nat} {s : State} {args : Array Value} {c0 : Cond} {R : Room} (K : CallFix p m c cc nL s args (c0 :: T0) "PortProcessor") (h1 : 3 + 1 ≤ R.frames) (h2 : 8 + (3 + 11) + 63 ≤ R.locals) : CallW R s args "PortProcessor" "PortProcessor" 172 y_P_jumpOnCondition b_P_jumpOnCondition 3 (some .int) w_P_jumpOnCondition (rmz 3 63) 0 0 1 := cwV 1 K.2.2.2.2 (zz_gv m_methodLink_PortProcessor_172_P_jumpOnCondition m_instanceMethod_P_jumpOnCondition m_selects_P_jumpOnCondition m_initialized_PortProcessor m_code_P_jumpOnCondition) rfl rfl rfl ⟨rfl, by decide, by decide, by decide +kernel⟩ ⟨h1, h2⟩
theorem m_methodLink_PortProcessor_175_P_jumpExchangeOrSwitch : Cond.methodLink "PortProcessor" 175 y_P_jumpExchangeOrSwitch ∈ T0 := zz_in (List.mem_append_right _ (List.mem_of_getElem? (i := 391) rfl)) rfl
theorem m_instanceMethod_P_jumpExchangeOrSwitch : Cond.instanceMethod y_P_jumpExchangeOrSwitch ∈ T0 := zz_in (List.mem_append_right _ (List.mem_of_getElem? (i := 393) rfl)) rfl
theorem m_selects_P_jumpExchangeOrSwitch : Cond.selects "PortProcessor" y_P_jumpExchangeOrSwitch y_P_jumpExchangeOrSwitch ∈ T0 := zz_in (List.mem_append_left _ (List.mem_of_getElem? (i := 35) rfl)) rfl
theorem cw_P_175 {p : Program} {m : MethodId} {c : Code} {cc : ByteArray} {nL : Nat} {s : State} {args : Array Value} {c0 : Cond} {R : Room} (K : CallFix p m c cc nL s args (c0 :: T0) "PortProcessor") (h1 : 3 + 1 ≤ R.frames) (h2 : 8 + (2 + 11) + 63 ≤ R.locals) : CallW R s args "PortProcessor" "PortProcessor" 175 y_P_jumpExchangeOrSwitch b_P_jumpExchangeOrSwitch 2 (some .int) w_P_jumpExchangeOrSwitch (rmz 3 63) 0 0 1 := cwV 1 K.2.2.2.2 (zz_gv m_methodLink_PortProcessor_175_P_jumpExchangeOrSwitch m_instanceMethod_P_jumpExchangeOrSwitch m_selects_P_jumpExchangeOrSwitch m_initialized_PortProcessor m_code_P_jumpExchangeOrSwitch) rfl rfl rfl ⟨rfl, by decide, by decide, by decide +kernel⟩ ⟨h1, h2⟩
theorem m_methodLink_PortProcessor_178_P_callOnCondition : Cond.methodLink "PortProcessor" 178 y_P_callOnCondition ∈ T0 := zz_in (List.mem_append_right _ (List.mem_of_getElem? (i := 403) rfl)) rfl
theorem m_instanceMethod_P_callOnCondition : Cond.instanceMethod y_P_callOnCondition ∈ T0 := zz_in (List.mem_append_right _ (List.mem_of_getElem? (i := 405) rfl)) rfl
theorem m_selects_P_callOnCondition : Cond.selects "PortProcessor" y_P_callOnCondition y_P_callOnCondition ∈ T0 := zz_in (List.mem_append_left _ (List.mem_of_getElem? (i := 38) rfl)) rfl
theorem cw_P_178 {p : Program} {m : MethodId} {c : Code} {cc : ByteArray} {nL : Nat} {s : State} {args : Array Value} {c0 : Cond} {R : Room} (K : CallFix p m c cc nL s args (c0 :: T0) "PortProcessor") (h1 : 3 + 1 ≤ R.frames) (h2 : 8 + (3 + 11) + 64 ≤ R.locals) : CallW R s args "PortProcessor" "PortProcessor" 178 y_P_callOnCondition b_P_callOnCondition 3 (some .int) w_P_callOnCondition (rmz 3 64) 0 0 1 := cwV 1 K.2.2.2.2 (zz_gv m_methodLink_PortProcessor_178_P_callOnCondition m_instanceMethod_P_callOnCondition m_selects_P_callOnCondition m_initialized_PortProcessor m_code_P_callOnCondition) rfl rfl rfl ⟨rfl, by decide, by decide, by decide +kernel⟩ ⟨h1, h2⟩
theorem m_methodLink_PortProcessor_184_P_callAlways : Cond.methodLink "PortProcessor" 184 y_P_callAlways ∈ T0 := zz_in (List.mem_append_right _ (List.mem_of_getElem? (i := 415) rfl)) rfl
theorem m_instanceMethod_P_callAlways : Cond.instanceMethod y_P_callAlways ∈ T0 := zz_in (List.mem_append_right _ (List.mem_of_getElem? (i := 417) rfl)) rfl
theorem m_selects_P_callAlways : Cond.selects "PortProcessor" y_P_callAlways y_P_callAlways ∈ T0 := zz_in (List.mem_append_left _ (List.mem_of_getElem? (i := 40) rfl)) rfl
theorem cw_P_184 {p : Program} {m : MethodId} {c : Code} {cc : ByteArray} {nL : Nat} {s : State} {args : Array Value} {c0 : Cond} {R : Room} (K : CallFix p m c cc nL s args (c0 :: T0) "PortProcessor") (h1 : 3 + 1 ≤ R.frames) (h2 : 8 + (1 + 11) + 64 ≤ R.locals) : CallW R s args "PortProcessor" "PortProcessor" 184 y_P_callAlways b_P_callAlways 1 (some .int) w_P_callAlways (rmz 3 64) 0 0 0 := cwV 0 K.2.2.2.2 (zz_gv m_methodLink_PortProcessor_184_P_callAlways m_instanceMethod_P_callAlways m_selects_P_callAlways m_initialized_PortProcessor m_code_P_callAlways) rfl rfl rfl ⟨rfl, by decide, by decide, by decide +kernel⟩ ⟨h1, h2⟩
theorem m_methodLink_PortProcessor_181_P_pushPair : Cond.methodLink "PortProcessor" 181 y_P_pushPair ∈ T0 := zz_in (List.mem_append_right _ (List.mem_of_getElem? (i := 407) rfl)) rfl
theorem m_instanceMethod_P_pushPair : Cond.instanceMethod y_P_pushPair ∈ T0 := zz_in (List.mem_append_right _ (List.mem_of_getElem? (i := 409) rfl)) rfl
theorem m_selects_P_pushPair : Cond.selects "PortProcessor" y_P_pushPair y_P_pushPair ∈ T0 := zz_in (List.mem_append_left _ (List.mem_of_getElem? (i := 39) rfl)) rfl
theorem cw_P_181 {p : Program} {m : MethodId} {c : Code} {cc : ByteArray} {nL : Nat} {s : State} {args : Array Value} {c0 : Cond} {R : Room} (K : CallFix p m c cc nL s args (c0 :: T0) "PortProcessor") (h1 : 2 + 1 ≤ R.frames) (h2 : 8 + (3 + 11) + 43 ≤ R.locals) : CallW R s args "PortProcessor" "PortProcessor" 181 y_P_pushPair b_P_pushPair 3 (some .int) w_P_pushPair (rmz 2 43) 0 0 1 := cwV 1 K.2.2.2.2 (zz_gv m_methodLink_PortProcessor_181_P_pushPair m_instanceMethod_P_pushPair m_selects_P_pushPair m_initialized_PortProcessor m_code_P_pushPair) rfl rfl rfl ⟨rfl, by decide, by decide, by decide +kernel⟩ ⟨h1, h2⟩
theorem m_methodLink_PortProcessor_187_P_combineWithNext : Cond.methodLink "PortProcessor" 187 y_P_combineWithNext ∈ T0 := zz_in (List.mem_append_right _ (List.mem_of_getElem? (i := 419) rfl)) rfl
theorem m_instanceMethod_P_combineWithNext : Cond.instanceMethod y_P_combineWithNext ∈ T0 := zz_in (List.mem_append_right _ (List.mem_of_getElem? (i := 421) rfl)) rfl
theorem m_selects_P_combineWithNext : Cond.selects "PortProcessor" y_P_combineWithNext y_P_combineWithNext ∈ T0 := zz_in (List.mem_append_left _ (List.mem_of_getElem? (i := 41) rfl)) rfl
theorem cw_P_187 {p : Program} {m : MethodId} {c : Code} {cc : ByteArray} {nL : Nat} {s : State} {args : Array Value} {c0 : Cond} {R : Room} (K : CallFix p m c cc nL s args (c0 :: T0) "PortProcessor") (h1 : 3 + 1 ≤ R.frames) (h2 : 8 + (2 + 11) + 72 ≤ R.locals) : CallW R s args "PortProcessor" "PortProcessor" 187 y_P_combineWithNext b_P_combineWithNext 2 (some .int) w_P_combineWithNext (rmz 3 72) 0 0 1 := cwV 1 K.2.2.2.2 (zz_gv m_methodLink_PortProcessor_187_P_combineWithNext m_instanceMethod_P_combineWithNext m_selects_P_combineWithNext m_initialized_PortProcessor m_code_P_combineWithNext) rfl rfl rfl ⟨rfl, by decide, by decide, by decide +kernel⟩ ⟨h1, h2⟩
theorem m_methodLink_PortProcessor_124_P_doFirstQuarter : Cond.methodLink "PortProcessor" 124 y_P_doFirstQuarter ∈ T0 := zz_in (List.mem_append_right _ (List.mem_of_getElem? (i := 222) rfl)) rfl
theorem m_instanceMethod_P_doFirstQuarter : Cond.instanceMethod y_P_doFirstQuarter ∈ T0 := zz_in (List.mem_append_right _ (List.mem_of_getElem? (i := 224) rfl)) rfl
theorem m_selects_P_doFirstQuarter : Cond.selects "PortProcessor" y_P_doFirstQuarter y_P_doFirstQuarter ∈ T0 := zz_in (List.mem_append_left _ (List.mem_of_getElem? (i := 6) rfl)) rfl
theorem cw_P_124 {p : Program} {m : MethodId} {c : Code} {cc : ByteArray} {nL : Nat} {s : State} {args : Array Value} {c0 : Cond} {R : Room} (K : CallFix p m c cc nL s args (c0 :: T0) "PortProcessor") (h1 : 4 + 1 ≤ R.frames) (h2 : 8 + (2 + 11) + 87 ≤ R.locals) : CallW R s args "PortProcessor" "PortProcessor" 124 y_P_doFirstQuarter b_P_doFirstQuarter 2 (some .int) w_P_doFirstQuarter (rmz 4 87) 0 0 1 := cwV 1 K.2.2.2.2 (zz_gv m_methodLink_PortProcessor_124_P_doFirstQuarter m_instanceMethod_P_doFirstQuarter m_selects_P_doFirstQuarter m_initialized_PortProcessor m_code_P_doFirstQuarter) rfl rfl rfl ⟨rfl, by decide, by decide, by decide +kernel⟩ ⟨h1, h2⟩
theorem m_methodLink_PortProcessor_127_P_move : Cond.methodLink "PortProcessor" 127 y_P_move ∈ T0 := zz_in (List.mem_append_right _ (List.mem_of_getElem? (i := 330) rfl)) rfl
theorem m_instanceMethod_P_move : Cond.instanceMethod y_P_move ∈ T0 := zz_in (List.mem_append_right _ (List.mem_of_getElem? (i := 332) rfl)) rfl
theorem m_selects_P_move : Cond.selects "PortProcessor" y_P_move y_P_move ∈ T0 := zz_in (List.mem_append_left _ (List.mem_of_getElem? (i := 23) rfl)) rfl
theorem cw_P_127 {p : Program} {m : MethodId} {c : Code} {cc : ByteArray} {nL : Nat} {s : State} {args : Array Value} {c0 : Cond} {R : Room} (K : CallFix p m c cc nL s args (c0 :: T0) "PortProcessor") (h1 : 2 + 1 ≤ R.frames) (h2 : 8 + (4 + 11) + 44 ≤ R.locals) : CallW R s args "PortProcessor" "PortProcessor" 127 y_P_move b_P_move 4 (some .int) w_P_move (rmz 2 44) 0 0 1 := cwV 1 K.2.2.2.2 (zz_gv m_methodLink_PortProcessor_127_P_move m_instanceMethod_P_move m_selects_P_move m_initialized_PortProcessor m_code_P_move) rfl rfl rfl ⟨rfl, by decide, by decide, by decide +kernel⟩ ⟨h1, h2⟩
theorem m_methodLink_PortProcessor_130_P_combineWithRegister : Cond.methodLink "PortProcessor" 130 y_P_combineWithRegister ∈ T0 := zz_in (List.mem_append_right _ (List.mem_of_getElem? (i := 334) rfl)) rfl
theorem m_instanceMethod_P_combineWithRegister : Cond.instanceMethod y_P_combineWithRegister ∈ T0 := zz_in (List.mem_append_right _ (List.mem_of_getElem? (i := 336) rfl)) rfl
theorem m_selects_P_combineWithRegister : Cond.selects "PortProcessor" y_P_combineWithRegister y_P_combineWithRegister ∈ T0 := zz_in (List.mem_append_left _ (List.mem_of_getElem? (i := 24) rfl)) rfl
theorem cw_P_130 {p : Program} {m : MethodId} {c : Code} {cc : ByteArray} {nL : Nat} {s : State} {args : Array Value} {c0 : Cond} {R : Room} (K : CallFix p m c cc nL s args (c0 :: T0) "PortProcessor") (h1 : 3 + 1 ≤ R.frames) (h2 : 8 + (3 + 11) + 72 ≤ R.locals) : CallW R s args "PortProcessor" "PortProcessor" 130 y_P_combineWithRegister b_P_combineWithRegister 3 (some .int) w_P_combineWithRegister (rmz 3 72) 0 0 1 := cwV 1 K.2.2.2.2 (zz_gv m_methodLink_PortProcessor_130_P_combineWithRegister m_instanceMethod_P_combineWithRegister m_selects_P_combineWithRegister m_initialized_PortProcessor m_code_P_combineWithRegister) rfl rfl rfl ⟨rfl, by decide, by decide, by decide +kernel⟩ ⟨h1, h2⟩
theorem m_methodLink_PortProcessor_133_P_doLastQuarter : Cond.methodLink "PortProcessor" 133 y_P_doLastQuarter ∈ T0 := zz_in (List.mem_append_right _ (List.mem_of_getElem? (i := 355) rfl)) rfl
theorem m_instanceMethod_P_doLastQuarter : Cond.instanceMethod y_P_doLastQuarter ∈ T0 := zz_in (List.mem_append_right _ (List.mem_of_getElem? (i := 357) rfl)) rfl
theorem m_selects_P_doLastQuarter : Cond.selects "PortProcessor" y_P_doLastQuarter y_P_doLastQuarter ∈ T0 := zz_in (List.mem_append_left _ (List.mem_of_getElem? (i := 28) rfl)) rfl
theorem cw_P_133 {p : Program} {m : MethodId} {c : Code} {cc : ByteArray} {nL : Nat} {s : State} {args : Array Value} {c0 : Cond} {R : Room} (K : CallFix p m c cc nL s args (c0 :: T0) "PortProcessor") (h1 : 4 + 1 ≤ R.frames) (h2 : 8 + (2 + 11) + 93 ≤ R.locals) : CallW R s args "PortProcessor" "PortProcessor" 133 y_P_doLastQuarter b_P_doLastQuarter 2 (some .int) w_P_doLastQuarter (rmz 4 93) 0 0 1 := cwV 1 K.2.2.2.2 (zz_gv m_methodLink_PortProcessor_133_P_doLastQuarter m_instanceMethod_P_doLastQuarter m_selects_P_doLastQuarter m_initialized_PortProcessor m_code_P_doLastQuarter) rfl rfl rfl ⟨rfl, by decide, by decide, by decide +kernel⟩ ⟨h1, h2⟩
theorem m_constantLong_PortProcessor_119_4 : Cond.constantLong "PortProcessor" 119 (lN 4) ∈ T0 := zz_in (List.mem_append_right _ (List.mem_of_getElem? (i := 217) rfl)) rfl
theorem m_methodLink_PortProcessor_114_P_letInterruptIn : Cond.methodLink "PortProcessor" 114 y_P_letInterruptIn ∈ T0 := zz_in (List.mem_append_right _ (List.mem_of_getElem? (i := 204) rfl)) rfl
theorem m_instanceMethod_P_letInterruptIn : Cond.instanceMethod y_P_letInterruptIn ∈ T0 := zz_in (List.mem_append_right _ (List.mem_of_getElem? (i := 206) rfl)) rfl
theorem m_selects_P_letInterruptIn : Cond.selects "PortProcessor" y_P_letInterruptIn y_P_letInterruptIn ∈ T0 := zz_in (List.mem_append_left _ (List.mem_of_getElem? (i := 2) rfl)) rfl
theorem cw_P_114 {p : Program} {m : MethodId} {c : Code} {cc : ByteArray} {nL : Nat} {s : State} {args : Array Value} {c0 : Cond} {R : Room} (K : CallFix p m c cc nL s args (c0 :: T0) "PortProcessor") (h1 : 3 + 1 ≤ R.frames) (h2 : 8 + (1 + 11) + 64 ≤ R.locals) : CallW R s args "PortProcessor" "PortProcessor" 114 y_P_letInterruptIn b_P_letInterruptIn 1 none w_P_letInterruptIn (rmz 3 64) 0 0 0 := cwV 0 K.2.2.2.2 (zz_gv m_methodLink_PortProcessor_114_P_letInterruptIn m_instanceMethod_P_letInterruptIn m_selects_P_letInterruptIn m_initialized_PortProcessor m_code_P_letInterruptIn) rfl rfl rfl ⟨rfl, by decide, by decide, by decide +kernel⟩ ⟨h1, h2⟩
theorem m_constantLong_PortProcessor_117_11 : Cond.constantLong "PortProcessor" 117 (lN 11) ∈ T0 := zz_in (List.mem_append_right _ (List.mem_of_getElem? (i := 216) rfl)) rfl
theorem m_constant_java_lang_Integer_265_1431655765 : Cond.constant "java/lang/Integer" 265 (nI 1431655765) ∈ T0 := zz_in (List.mem_append_right _ (List.mem_of_getElem? (i := 291) rfl)) rfl
theorem m_constant_java_lang_Integer_266_858993459 : Cond.constant "java/lang/Integer" 266 (nI 858993459) ∈ T0 := zz_in (List.mem_append_right _ (List.mem_of_getElem? (i := 292) rfl)) rfl
theorem m_constant_java_lang_Integer_267_252645135 : Cond.constant "java/lang/Integer" 267 (nI 252645135) ∈ T0 := zz_in (List.mem_append_right _ (List.mem_of_getElem? (i := 293) rfl)) rfl
theorem m_fieldLink_PortProcessor_10 : Cond.fieldLink "PortProcessor" 10 "PortProcessor" "memory" "LPortProcessor$Memory;" ∈ T0 := zz_in (List.mem_append_right _ (List.mem_of_getElem? (i := 51) rfl)) rfl
theorem m_fieldLink_PortProcessor_19 : Cond.fieldLink "PortProcessor" 19 "PortProcessor" "flags" "LPortProcessor$Flags;" ∈ T0 := zz_in (List.mem_append_right _ (List.mem_of_getElem? (i := 52) rfl)) rfl
theorem m_fieldLink_PortProcessor_23 : Cond.fieldLink "PortProcessor" 23 "PortProcessor" "registers" "[I" ∈ T0 := zz_in (List.mem_append_right _ (List.mem_of_getElem? (i := 53) rfl)) rfl
theorem m_fieldLink_PortProcessor_27 : Cond.fieldLink "PortProcessor" 27 "PortProcessor" "broughtIn" "[I" ∈ T0 := zz_in (List.mem_append_right _ (List.mem_of_getElem? (i := 54) rfl)) rfl
theorem m_fieldLink_PortProcessor_30 : Cond.fieldLink "PortProcessor" 30 "PortProcessor" "putOut" "[I" ∈ T0 := zz_in (List.mem_append_right _ (List.mem_of_getElem? (i := 55) rfl)) rfl
theorem m_fieldLink_PortProcessor_88 : Cond.fieldLink "PortProcessor" 88 "PortProcessor" "stackPointer" "I" ∈ T0 := zz_in (List.mem_append_right _ (List.mem_of_getElem? (i := 56) rfl)) rfl
theorem m_fieldLink_PortProcessor_59 : Cond.fieldLink "PortProcessor" 59 "PortProcessor" "programCounter" "I" ∈ T0 := zz_in (List.mem_append_right _ (List.mem_of_getElem? (i := 57) rfl)) rfl
theorem m_fieldLink_PortProcessor_62 : Cond.fieldLink "PortProcessor" 62 "PortProcessor" "halted" "Z" ∈ T0 := zz_in (List.mem_append_right _ (List.mem_of_getElem? (i := 58) rfl)) rfl
theorem m_fieldLink_PortProcessor_102 : Cond.fieldLink "PortProcessor" 102 "PortProcessor" "interruptsOn" "Z" ∈ T0 := zz_in (List.mem_append_right _ (List.mem_of_getElem? (i := 59) rfl)) rfl
theorem m_fieldLink_PortProcessor_111 : Cond.fieldLink "PortProcessor" 111 "PortProcessor" "lastLetInterruptsIn" "Z" ∈ T0 := zz_in (List.mem_append_right _ (List.mem_of_getElem? (i := 60) rfl)) rfl
theorem m_fieldLink_PortProcessor_33 : Cond.fieldLink "PortProcessor" 33 "PortProcessor" "waitingInterrupt" "I" ∈ T0 := zz_in (List.mem_append_right _ (List.mem_of_getElem? (i := 61) rfl)) rfl
theorem m_fieldLink_PortProcessor_107 : Cond.fieldLink "PortProcessor" 107 "PortProcessor" "stateCount" "J" ∈ T0 := zz_in (List.mem_append_right _ (List.mem_of_getElem? (i := 62) rfl)) rfl
theorem m_fieldLink_PortProcessor_Memory_11 : Cond.fieldLink "PortProcessor$Memory" 11 "PortProcessor$Memory" "cells" "[I" ∈ T0 := zz_in (List.mem_append_right _ (List.mem_of_getElem? (i := 24) rfl)) rfl
theorem m_fieldLink_PortProcessor_Flags_11 : Cond.fieldLink "PortProcessor$Flags" 11 "PortProcessor$Flags" "sign" "Z" ∈ T0 := zz_in (List.mem_append_right _ (List.mem_of_getElem? (i := 35) rfl)) rfl
theorem m_fieldLink_PortProcessor_Flags_15 : Cond.fieldLink "PortProcessor$Flags" 15 "PortProcessor$Flags" "zero" "Z" ∈ T0 := zz_in (List.mem_append_right _ (List.mem_of_getElem? (i := 36) rfl)) rfl
theorem m_fieldLink_PortProcessor_Flags_18 : Cond.fieldLink "PortProcessor$Flags" 18 "PortProcessor$Flags" "auxiliary" "Z" ∈ T0 := zz_in (List.mem_append_right _ (List.mem_of_getElem? (i := 37) rfl)) rfl
theorem m_fieldLink_PortProcessor_Flags_21 : Cond.fieldLink "PortProcessor$Flags" 21 "PortProcessor$Flags" "parity" "Z" ∈ T0 := zz_in (List.mem_append_right _ (List.mem_of_getElem? (i := 38) rfl)) rfl
theorem m_fieldLink_PortProcessor_Flags_24 : Cond.fieldLink "PortProcessor$Flags" 24 "PortProcessor$Flags" "carry" "Z" ∈ T0 := zz_in (List.mem_append_right _ (List.mem_of_getElem? (i := 39) rfl)) rfl
