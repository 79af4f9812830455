abbrev b_R_init : ByteArray := prog_5_method_1_code
def y_R_init : MethodName := ⟨"PortProcessorModel", "<init>", "()V"⟩
def w_R_init : List Cond := .code y_R_init b_R_init 1 none :: T0
theorem m_code_R_init : Cond.code y_R_init b_R_init 1 none ∈ T0 := zz_in (List.mem_append_right _ (List.mem_of_getElem? (i := 479) rfl)) rfl
abbrev b_R_thrown : ByteArray := prog_5_method_2_code
def y_R_thrown : MethodName := ⟨"PortProcessorModel", "thrown", "()I"⟩
def w_R_thrown : List Cond := .code y_R_thrown b_R_thrown 1 (some .int) :: T0
theorem m_code_R_thrown : Cond.code y_R_thrown b_R_thrown 1 (some .int) ∈ T0 := zz_in (List.mem_append_right _ (List.mem_append_right _ (List.mem_append_right _ (List.mem_of_getElem? (i := 56) rfl)))) rfl
abbrev b_R_outside : ByteArray := prog_5_method_3_code
def y_R_outside : MethodName := ⟨"PortProcessorModel", "outside", "(II)Z"⟩
def w_R_outside : List Cond := .code y_R_outside b_R_outside 2 (some .boolean) :: T0
theorem m_code_R_outside : Cond.code y_R_outside b_R_outside 2 (some .boolean) ∈ T0 := zz_in (List.mem_append_right _ (List.mem_append_right _ (List.mem_append_right _ (List.mem_of_getElem? (i := 68) rfl)))) rfl
abbrev b_R_read : ByteArray := prog_5_method_4_code
def y_R_read : MethodName := ⟨"PortProcessorModel", "read", "(I)I"⟩
def w_R_read : List Cond := .code y_R_read b_R_read 2 (some .int) :: T0
theorem m_code_R_read : Cond.code y_R_read b_R_read 2 (some .int) ∈ T0 := zz_in (List.mem_append_right _ (List.mem_append_right _ (List.mem_append_right _ (List.mem_of_getElem? (i := 99) rfl)))) rfl
abbrev b_R_write : ByteArray := prog_5_method_5_code
def y_R_write : MethodName := ⟨"PortProcessorModel", "write", "(II)V"⟩
def w_R_write : List Cond := .code y_R_write b_R_write 3 none :: T0
theorem m_code_R_write : Cond.code y_R_write b_R_write 3 none ∈ T0 := zz_in (List.mem_append_right _ (List.mem_append_right _ (List.mem_append_right _ (List.mem_of_getElem? (i := 90) rfl)))) rfl
abbrev b_R_hl : ByteArray := prog_5_method_6_code
def y_R_hl : MethodName := ⟨"PortProcessorModel", "hl", "()I"⟩
def w_R_hl : List Cond := .code y_R_hl b_R_hl 1 (some .int) :: T0
theorem m_code_R_hl : Cond.code y_R_hl b_R_hl 1 (some .int) ∈ T0 := zz_in (List.mem_append_right _ (List.mem_append_right _ (List.mem_append_right _ (List.mem_of_getElem? (i := 119) rfl)))) rfl
abbrev b_R_get : ByteArray := prog_5_method_7_code
def y_R_get : MethodName := ⟨"PortProcessorModel", "get", "(I)I"⟩
def w_R_get : List Cond := .code y_R_get b_R_get 2 (some .int) :: T0
theorem m_code_R_get : Cond.code y_R_get b_R_get 2 (some .int) ∈ T0 := zz_in (List.mem_append_right _ (List.mem_append_right _ (List.mem_append_right _ (List.mem_of_getElem? (i := 147) rfl)))) rfl
abbrev b_R_set8 : ByteArray := prog_5_method_8_code
def y_R_set8 : MethodName := ⟨"PortProcessorModel", "set8", "(II)V"⟩
def w_R_set8 : List Cond := .code y_R_set8 b_R_set8 3 none :: T0
theorem m_code_R_set8 : Cond.code y_R_set8 b_R_set8 3 none ∈ T0 := zz_in (List.mem_append_right _ (List.mem_append_right _ (List.mem_append_right _ (List.mem_of_getElem? (i := 131) rfl)))) rfl
abbrev b_R_pair : ByteArray := prog_5_method_9_code
def y_R_pair : MethodName := ⟨"PortProcessorModel", "pair", "(I)I"⟩
def w_R_pair : List Cond := .code y_R_pair b_R_pair 2 (some .int) :: T0
theorem m_code_R_pair : Cond.code y_R_pair b_R_pair 2 (some .int) ∈ T0 := zz_in (List.mem_append_right _ (List.mem_append_right _ (List.mem_append_right _ (List.mem_of_getElem? (i := 123) rfl)))) rfl
abbrev b_R_setPair : ByteArray := prog_5_method_10_code
def y_R_setPair : MethodName := ⟨"PortProcessorModel", "setPair", "(II)V"⟩
def w_R_setPair : List Cond := .code y_R_setPair b_R_setPair 4 none :: T0
theorem m_code_R_setPair : Cond.code y_R_setPair b_R_setPair 4 none ∈ T0 := zz_in (List.mem_append_right _ (List.mem_append_right _ (List.mem_append_right _ (List.mem_of_getElem? (i := 115) rfl)))) rfl
abbrev b_R_next : ByteArray := prog_5_method_11_code
def y_R_next : MethodName := ⟨"PortProcessorModel", "next", "()I"⟩
def w_R_next : List Cond := .code y_R_next b_R_next 2 (some .int) :: T0
theorem m_code_R_next : Cond.code y_R_next b_R_next 2 (some .int) ∈ T0 := zz_in (List.mem_append_right _ (List.mem_append_right _ (List.mem_append_right _ (List.mem_of_getElem? (i := 95) rfl)))) rfl
abbrev b_R_nextWord : ByteArray := prog_5_method_12_code
def y_R_nextWord : MethodName := ⟨"PortProcessorModel", "nextWord", "()I"⟩
def w_R_nextWord : List Cond := .code y_R_nextWord b_R_nextWord 2 (some .int) :: T0
theorem m_code_R_nextWord : Cond.code y_R_nextWord b_R_nextWord 2 (some .int) ∈ T0 := zz_in (List.mem_append_right _ (List.mem_append_right _ (List.mem_append_right _ (List.mem_of_getElem? (i := 111) rfl)))) rfl
abbrev b_R_push : ByteArray := prog_5_method_13_code
def y_R_push : MethodName := ⟨"PortProcessorModel", "push", "(I)V"⟩
def w_R_push : List Cond := .code y_R_push b_R_push 3 none :: T0
theorem m_code_R_push : Cond.code y_R_push b_R_push 3 none ∈ T0 := zz_in (List.mem_append_right _ (List.mem_append_right _ (List.mem_append_right _ (List.mem_of_getElem? (i := 85) rfl)))) rfl
abbrev b_R_pop : ByteArray := prog_5_method_14_code
def y_R_pop : MethodName := ⟨"PortProcessorModel", "pop", "()I"⟩
def w_R_pop : List Cond := .code y_R_pop b_R_pop 3 (some .int) :: T0
theorem m_code_R_pop : Cond.code y_R_pop b_R_pop 3 (some .int) ∈ T0 := zz_in (List.mem_append_right _ (List.mem_append_right _ (List.mem_append_right _ (List.mem_of_getElem? (i := 171) rfl)))) rfl
abbrev b_R_show : ByteArray := prog_5_method_15_code
def y_R_show : MethodName := ⟨"PortProcessorModel", "show", "(I)V"⟩
def w_R_show : List Cond := .code y_R_show b_R_show 3 none :: T0
theorem m_code_R_show : Cond.code y_R_show b_R_show 3 none ∈ T0 := zz_in (List.mem_append_right _ (List.mem_append_right _ (List.mem_append_right _ (List.mem_of_getElem? (i := 143) rfl)))) rfl
abbrev b_R_flags : ByteArray := prog_5_method_16_code
def y_R_flags : MethodName := ⟨"PortProcessorModel", "flags", "()I"⟩
def w_R_flags : List Cond := .code y_R_flags b_R_flags 1 (some .int) :: T0
theorem m_code_R_flags : Cond.code y_R_flags b_R_flags 1 (some .int) ∈ T0 := zz_in (List.mem_append_right _ (List.mem_append_right _ (List.mem_append_right _ (List.mem_of_getElem? (i := 175) rfl)))) rfl
abbrev b_R_setFlags : ByteArray := prog_5_method_17_code
def y_R_setFlags : MethodName := ⟨"PortProcessorModel", "setFlags", "(I)V"⟩
def w_R_setFlags : List Cond := .code y_R_setFlags b_R_setFlags 2 none :: T0
theorem m_code_R_setFlags : Cond.code y_R_setFlags b_R_setFlags 2 none ∈ T0 := zz_in (List.mem_append_right _ (List.mem_append_right _ (List.mem_append_right _ (List.mem_of_getElem? (i := 183) rfl)))) rfl
abbrev b_R_holds : ByteArray := prog_5_method_18_code
def y_R_holds : MethodName := ⟨"PortProcessorModel", "holds", "(I)Z"⟩
def w_R_holds : List Cond := .code y_R_holds b_R_holds 3 (some .boolean) :: T0
theorem m_code_R_holds : Cond.code y_R_holds b_R_holds 3 (some .boolean) ∈ T0 := zz_in (List.mem_append_right _ (List.mem_append_right _ (List.mem_append_right _ (List.mem_of_getElem? (i := 167) rfl)))) rfl
abbrev b_R_sum : ByteArray := prog_5_method_19_code
def y_R_sum : MethodName := ⟨"PortProcessorModel", "sum", "(III)I"⟩
def w_R_sum : List Cond := .code y_R_sum b_R_sum 8 (some .int) :: T0
theorem m_code_R_sum : Cond.code y_R_sum b_R_sum 8 (some .int) ∈ T0 := zz_in (List.mem_append_right _ (List.mem_append_right _ (List.mem_append_right _ (List.mem_of_getElem? (i := 155) rfl)))) rfl
abbrev b_R_difference : ByteArray := prog_5_method_20_code
def y_R_difference : MethodName := ⟨"PortProcessorModel", "difference", "(III)I"⟩
def w_R_difference : List Cond := .code y_R_difference b_R_difference 5 (some .int) :: T0
theorem m_code_R_difference : Cond.code y_R_difference b_R_difference 5 (some .int) ∈ T0 := zz_in (List.mem_append_right _ (List.mem_append_right _ (List.mem_append_right _ (List.mem_of_getElem? (i := 159) rfl)))) rfl
abbrev b_R_reckon : ByteArray := prog_5_method_21_code
def y_R_reckon : MethodName := ⟨"PortProcessorModel", "reckon", "(II)V"⟩
def w_R_reckon : List Cond := .code y_R_reckon b_R_reckon 5 none :: T0
theorem m_code_R_reckon : Cond.code y_R_reckon b_R_reckon 5 none ∈ T0 := zz_in (List.mem_append_right _ (List.mem_append_right _ (List.mem_append_right _ (List.mem_of_getElem? (i := 151) rfl)))) rfl
abbrev b_R_instruction : ByteArray := prog_5_method_22_code
def y_R_instruction : MethodName := ⟨"PortProcessorModel", "instruction", "(I)I"⟩
def w_R_instruction : List Cond := .code y_R_instruction b_R_instruction 4 (some .int) :: T0
theorem m_code_R_instruction : Cond.code y_R_instruction b_R_instruction 4 (some .int) ∈ T0 := zz_in (List.mem_append_right _ (List.mem_append_right _ (List.mem_append_right _ (List.mem_of_getElem? (i := 103) rfl)))) rfl
abbrev b_R_first : ByteArray := prog_5_method_23_code
def y_R_first : MethodName := ⟨"PortProcessorModel", "first", "(I)I"⟩
def w_R_first : List Cond := .code y_R_first b_R_first 7 (some .int) :: T0
theorem m_code_R_first : Cond.code y_R_first b_R_first 7 (some .int) ∈ T0 := zz_in (List.mem_append_right _ (List.mem_append_right _ (List.mem_append_right _ (List.mem_of_getElem? (i := 107) rfl)))) rfl
abbrev b_R_direct : ByteArray := prog_5_method_24_code
def y_R_direct : MethodName := ⟨"PortProcessorModel", "direct", "(I)I"⟩
def w_R_direct : List Cond := .code y_R_direct b_R_direct 4 (some .int) :: T0
theorem m_code_R_direct : Cond.code y_R_direct b_R_direct 4 (some .int) ∈ T0 := zz_in (List.mem_append_right _ (List.mem_append_right _ (List.mem_append_right _ (List.mem_of_getElem? (i := 127) rfl)))) rfl
abbrev b_R_alter : ByteArray := prog_5_method_25_code
def y_R_alter : MethodName := ⟨"PortProcessorModel", "alter", "(I)V"⟩
def w_R_alter : List Cond := .code y_R_alter b_R_alter 4 none :: T0
theorem m_code_R_alter : Cond.code y_R_alter b_R_alter 4 none ∈ T0 := zz_in (List.mem_append_right _ (List.mem_append_right _ (List.mem_append_right _ (List.mem_of_getElem? (i := 135) rfl)))) rfl
abbrev b_R_decimal : ByteArray := prog_5_method_26_code
def y_R_decimal : MethodName := ⟨"PortProcessorModel", "decimal", "()V"⟩
def w_R_decimal : List Cond := .code y_R_decimal b_R_decimal 6 none :: T0
theorem m_code_R_decimal : Cond.code y_R_decimal b_R_decimal 6 none ∈ T0 := zz_in (List.mem_append_right _ (List.mem_append_right _ (List.mem_append_right _ (List.mem_of_getElem? (i := 139) rfl)))) rfl
abbrev b_R_last : ByteArray := prog_5_method_27_code
def y_R_last : MethodName := ⟨"PortProcessorModel", "last", "(I)I"⟩
def w_R_last : List Cond := .code y_R_last b_R_last 5 (some .int) :: T0
theorem m_code_R_last : Cond.code y_R_last b_R_last 5 (some .int) ∈ T0 := zz_in (List.mem_append_right _ (List.mem_append_right _ (List.mem_append_right _ (List.mem_of_getElem? (i := 163) rfl)))) rfl
abbrev b_R_popped : ByteArray := prog_5_method_28_code
def y_R_popped : MethodName := ⟨"PortProcessorModel", "popped", "(I)I"⟩
def w_R_popped : List Cond := .code y_R_popped b_R_popped 3 (some .int) :: T0
theorem m_code_R_popped : Cond.code y_R_popped b_R_popped 3 (some .int) ∈ T0 := zz_in (List.mem_append_right _ (List.mem_append_right _ (List.mem_append_right _ (List.mem_of_getElem? (i := 179) rfl)))) rfl
abbrev b_R_single : ByteArray := prog_5_method_29_code
def y_R_single : MethodName := ⟨"PortProcessorModel", "single", "(I)I"⟩
def w_R_single : List Cond := .code y_R_single b_R_single 3 (some .int) :: T0
theorem m_code_R_single : Cond.code y_R_single b_R_single 3 (some .int) ∈ T0 := zz_in (List.mem_append_right _ (List.mem_append_right _ (List.mem_append_right _ (List.mem_of_getElem? (i := 187) rfl)))) rfl
abbrev b_R_step : ByteArray := prog_5_method_30_code
def y_R_step : MethodName := ⟨"PortProcessorModel", "step", "()Z"⟩
def w_R_step : List Cond := .code y_R_step b_R_step 3 (some .boolean) :: T0
theorem m_code_R_step : Cond.code y_R_step b_R_step 3 (some .boolean) ∈ T0 := zz_in (List.mem_append_right _ (List.mem_append_right _ (List.mem_append_right _ (List.mem_of_getElem? (i := 81) rfl)))) rfl
abbrev b_R_load : ByteArray := prog_5_method_31_code
def y_R_load : MethodName := ⟨"PortProcessorModel", "load", "(IJI)V"⟩
def w_R_load : List Cond := .code y_R_load b_R_load 6 none :: T0
theorem m_code_R_load : Cond.code y_R_load b_R_load 6 none ∈ T0 := zz_in (List.mem_append_right _ (List.mem_append_right _ (List.mem_append_right _ (List.mem_of_getElem? (i := 60) rfl)))) rfl
abbrev b_R_peek : ByteArray := prog_5_method_32_code
def y_R_peek : MethodName := ⟨"PortProcessorModel", "peek", "(I)I"⟩
def w_R_peek : List Cond := .code y_R_peek b_R_peek 2 (some .int) :: T0
theorem m_code_R_peek : Cond.code y_R_peek b_R_peek 2 (some .int) ∈ T0 := zz_in (List.mem_append_right _ (List.mem_append_right _ (List.mem_append_right _ (List.mem_of_getElem? (i := 65) rfl)))) rfl
abbrev b_R_start : ByteArray := prog_5_method_33_code
def y_R_start : MethodName := ⟨"PortProcessorModel", "start", "(I)V"⟩
def w_R_start : List Cond := .code y_R_start b_R_start 2 none :: T0
theorem m_code_R_start : Cond.code y_R_start b_R_start 2 none ∈ T0 := zz_in (List.mem_append_right _ (List.mem_append_right _ (List.mem_append_right _ (List.mem_of_getElem? (i := 72) rfl)))) rfl
abbrev b_R_run : ByteArray := prog_5_method_34_code
def y_R_run : MethodName := ⟨"PortProcessorModel", "run", "(I)I"⟩
def w_R_run : List Cond := .code y_R_run b_R_run 4 (some .int) :: T0
theorem m_code_R_run : Cond.code y_R_run b_R_run 4 (some .int) ∈ T0 := zz_in (List.mem_append_right _ (List.mem_append_right _ (List.mem_append_right _ (List.mem_of_getElem? (i := 77) rfl)))) rfl
abbrev b_R_interrupt : ByteArray := prog_5_method_35_code
def y_R_interrupt : MethodName := ⟨"PortProcessorModel", "interrupt", "(I)V"⟩
def w_R_interrupt : List Cond := .code y_R_interrupt b_R_interrupt 2 none :: T0
theorem m_code_R_interrupt : Cond.code y_R_interrupt b_R_interrupt 2 none ∈ T0 := zz_in (List.mem_append_right _ (List.mem_append_right _ (List.mem_append_right _ (List.mem_of_getElem? (i := 191) rfl)))) rfl
abbrev b_R_bring : ByteArray := prog_5_method_36_code
def y_R_bring : MethodName := ⟨"PortProcessorModel", "bring", "(II)V"⟩
def w_R_bring : List Cond := .code y_R_bring b_R_bring 3 none :: T0
theorem m_code_R_bring : Cond.code y_R_bring b_R_bring 3 none ∈ T0 := zz_in (List.mem_append_right _ (List.mem_append_right _ (List.mem_append_right _ (List.mem_of_getElem? (i := 195) rfl)))) rfl
abbrev b_R_out : ByteArray := prog_5_method_37_code
def y_R_out : MethodName := ⟨"PortProcessorModel", "out", "(I)I"⟩
def w_R_out : List Cond := .code y_R_out b_R_out 2 (some .int) :: T0
theorem m_code_R_out : Cond.code y_R_out b_R_out 2 (some .int) ∈ T0 := zz_in (List.mem_append_right _ (List.mem_append_right _ (List.mem_append_right _ (List.mem_of_getElem? (i := 199) rfl)))) rfl
abbrev b_R_register : ByteArray := prog_5_method_38_code
def y_R_register : MethodName := ⟨"PortProcessorModel", "register", "(I)I"⟩
def w_R_register : List Cond := .code y_R_register b_R_register 2 (some .int) :: T0
theorem m_code_R_register : Cond.code y_R_register b_R_register 2 (some .int) ∈ T0 := zz_in (List.mem_append_right _ (List.mem_append_right _ (List.mem_append_right _ (List.mem_of_getElem? (i := 203) rfl)))) rfl
abbrev b_R_set : ByteArray := prog_5_method_39_code
def y_R_set : MethodName := ⟨"PortProcessorModel", "set", "(II)V"⟩
def w_R_set : List Cond := .code y_R_set b_R_set 3 none :: T0
theorem m_code_R_set : Cond.code y_R_set b_R_set 3 none ∈ T0 := zz_in (List.mem_append_right _ (List.mem_append_right _ (List.mem_append_right _ (List.mem_of_getElem? (i := 207) rfl)))) rfl
abbrev b_R_is : ByteArray := prog_5_method_40_code
def y_R_is : MethodName := ⟨"PortProcessorModel", "is", "(I)Z"⟩
def w_R_is : List Cond := .code y_R_is b_R_is 2 (some .boolean) :: T0
theorem m_code_R_is : Cond.code y_R_is b_R_is 2 (some .boolean) ∈ T0 := zz_in (List.mem_append_right _ (List.mem_append_right _ (List.mem_append_right _ (List.mem_of_getElem? (i := 211) rfl)))) rfl
abbrev b_R_states : ByteArray := prog_5_method_41_code
def y_R_states : MethodName := ⟨"PortProcessorModel", "states", "()J"⟩
def w_R_states : List Cond := .code y_R_states b_R_states 1 (some .long) :: T0
theorem m_code_R_states : Cond.code y_R_states b_R_states 1 (some .long) ∈ T0 := zz_in (List.mem_append_right _ (List.mem_append_right _ (List.mem_append_right _ (List.mem_of_getElem? (i := 215) rfl)))) rfl
theorem m_methodLink_PortProcessorModel_29_R_hl : Cond.methodLink "PortProcessorModel" 29 y_R_hl ∈ T0 := zz_in (List.mem_append_right _ (List.mem_append_right _ (List.mem_append_right _ (List.mem_of_getElem? (i := 116) rfl)))) rfl
theorem m_instanceMethod_R_hl : Cond.instanceMethod y_R_hl ∈ T0 := zz_in (List.mem_append_right _ (List.mem_append_right _ (List.mem_append_right _ (List.mem_of_getElem? (i := 118) rfl)))) rfl
theorem m_selects_R_hl : Cond.selects "PortProcessorModel" y_R_hl y_R_hl ∈ T0 := zz_in (List.mem_append_left _ (List.mem_of_getElem? (i := 51) rfl)) rfl
theorem m_initialized_PortProcessorModel : Cond.initialized "PortProcessorModel" ∈ T0 := zz_in (List.mem_append_right _ (List.mem_of_getElem? (i := 4) rfl)) rfl
theorem cw_R_29 {p : Program} {m : MethodId} {c : Code} {cc : ByteArray} {nL : Nat} {s : State} {args : Array Value} {c0 : Cond} {R : Room} (K : CallFix p m c cc nL s args (c0 :: T0) "PortProcessorModel") (h1 : 0 + 1 ≤ R.frames) (h2 : 8 + (1 + 11) + 0 ≤ R.locals) : CallW R s args "PortProcessorModel" "PortProcessorModel" 29 y_R_hl b_R_hl 1 (some .int) w_R_hl (rmz 0 0) 0 0 0 := cwV 0 K.2.2.2.2 (zz_gv m_methodLink_PortProcessorModel_29_R_hl m_instanceMethod_R_hl m_selects_R_hl m_initialized_PortProcessorModel m_code_R_hl) rfl rfl rfl ⟨rfl, by decide, by decide, by decide +kernel⟩ ⟨h1, h2⟩
theorem m_methodLink_PortProcessorModel_33_R_read : Cond.methodLink "PortProcessorModel" 33 y_R_read ∈ T0 := zz_in (List.mem_append_right _ (List.mem_append_right _ (List.mem_append_right _ (List.mem_of_getElem? (i := 96) rfl)))) rfl
theorem m_instanceMethod_R_read : Cond.instanceMethod y_R_read ∈ T0 := zz_in (List.mem_append_right _ (List.mem_append_right _ (List.mem_append_right _ (List.mem_of_getElem? (i := 98) rfl)))) rfl
theorem m_selects_R_read : Cond.selects "PortProcessorModel" y_R_read y_R_read ∈ T0 := zz_in (List.mem_append_left _ (List.mem_of_getElem? (i := 46) rfl)) rfl
theorem cw_R_33 {p : Program} {m : MethodId} {c : Code} {cc : ByteArray} {nL : Nat} {s : State} {args : Array Value} {c0 : Cond} {R : Room} (K : CallFix p m c cc nL s args (c0 :: T0) "PortProcessorModel") (h1 : 0 + 1 ≤ R.frames) (h2 : 8 + (2 + 11) + 0 ≤ R.locals) : CallW R s args "PortProcessorModel" "PortProcessorModel" 33 y_R_read b_R_read 2 (some .int) w_R_read (rmz 0 0) 0 0 1 := cwV 1 K.2.2.2.2 (zz_gv m_methodLink_PortProcessorModel_33_R_read m_instanceMethod_R_read m_selects_R_read m_initialized_PortProcessorModel m_code_R_read) rfl rfl rfl ⟨rfl, by decide, by decide, by decide +kernel⟩ ⟨h1, h2⟩
theorem m_methodLink_PortProcessorModel_37_R_write : Cond.methodLink "PortProcessorModel" 37 y_R_write ∈ T0 := zz_in (List.mem_append_right _ (List.mem_append_right _ (List.mem_append_right _ (List.mem_of_getElem? (i := 87) rfl)))) rfl
theorem m_instanceMethod_R_write : Cond.instanceMethod y_R_write ∈ T0 := zz_in (List.mem_append_right _ (List.mem_append_right _ (List.mem_append_right _ (List.mem_of_getElem? (i := 89) rfl)))) rfl
theorem m_selects_R_write : Cond.selects "PortProcessorModel" y_R_write y_R_write ∈ T0 := zz_in (List.mem_append_left _ (List.mem_of_getElem? (i := 44) rfl)) rfl
theorem cw_R_37 {p : Program} {m : MethodId} {c : Code} {cc : ByteArray} {nL : Nat} {s : State} {args : Array Value} {c0 : Cond} {R : Room} (K : CallFix p m c cc nL s args (c0 :: T0) "PortProcessorModel") (h1 : 0 + 1 ≤ R.frames) (h2 : 8 + (3 + 11) + 0 ≤ R.locals) : CallW R s args "PortProcessorModel" "PortProcessorModel" 37 y_R_write b_R_write 3 none w_R_write (rmz 0 0) 0 0 2 := cwV 2 K.2.2.2.2 (zz_gv m_methodLink_PortProcessorModel_37_R_write m_instanceMethod_R_write m_selects_R_write m_initialized_PortProcessorModel m_code_R_write) rfl rfl rfl ⟨rfl, by decide, by decide, by decide +kernel⟩ ⟨h1, h2⟩
theorem m_methodLink_PortProcessorModel_49_R_next : Cond.methodLink "PortProcessorModel" 49 y_R_next ∈ T0 := zz_in (List.mem_append_right _ (List.mem_append_right _ (List.mem_append_right _ (List.mem_of_getElem? (i := 92) rfl)))) rfl
theorem m_instanceMethod_R_next : Cond.instanceMethod y_R_next ∈ T0 := zz_in (List.mem_append_right _ (List.mem_append_right _ (List.mem_append_right _ (List.mem_of_getElem? (i := 94) rfl)))) rfl
theorem m_selects_R_next : Cond.selects "PortProcessorModel" y_R_next y_R_next ∈ T0 := zz_in (List.mem_append_left _ (List.mem_of_getElem? (i := 45) rfl)) rfl
theorem cw_R_49 {p : Program} {m : MethodId} {c : Code} {cc : ByteArray} {nL : Nat} {s : State} {args : Array Value} {c0 : Cond} {R : Room} (K : CallFix p m c cc nL s args (c0 :: T0) "PortProcessorModel") (h1 : 1 + 1 ≤ R.frames) (h2 : 8 + (2 + 11) + 21 ≤ R.locals) : CallW R s args "PortProcessorModel" "PortProcessorModel" 49 y_R_next b_R_next 2 (some .int) w_R_next (rmz 1 21) 0 0 0 := cwV 0 K.2.2.2.2 (zz_gv m_methodLink_PortProcessorModel_49_R_next m_instanceMethod_R_next m_selects_R_next m_initialized_PortProcessorModel m_code_R_next) rfl rfl rfl ⟨rfl, by decide, by decide, by decide +kernel⟩ ⟨h1, h2⟩
theorem m_methodLink_PortProcessorModel_67_R_show : Cond.methodLink "PortProcessorModel" 67 y_R_show ∈ T0 := zz_in (List.mem_append_right _ (List.mem_append_right _ (List.mem_append_right _ (List.mem_of_getElem? (i := 140) rfl)))) rfl
theorem m_instanceMethod_R_show : Cond.instanceMethod y_R_show ∈ T0 := zz_in (List.mem_append_right _ (List.mem_append_right _ (List.mem_append_right _ (List.mem_of_getElem? (i := 142) rfl)))) rfl
theorem m_selects_R_show : Cond.selects "PortProcessorModel" y_R_show y_R_show ∈ T0 := zz_in (List.mem_append_left _ (List.mem_of_getElem? (i := 57) rfl)) rfl
theorem cw_R_67 {p : Program} {m : MethodId} {c : Code} {cc : ByteArray} {nL : Nat} {s : State} {args : Array Value} {c0 : Cond} {R : Room} (K : CallFix p m c cc nL s args (c0 :: T0) "PortProcessorModel") (h1 : 0 + 1 ≤ R.frames) (h2 : 8 + (3 + 11) + 0 ≤ R.locals) : CallW R s args "PortProcessorModel" "PortProcessorModel" 67 y_R_show b_R_show 3 none w_R_show (rmz 0 0) 0 0 1 := cwV 1 K.2.2.2.2 (zz_gv m_methodLink_PortProcessorModel_67_R_show m_instanceMethod_R_show m_selects_R_show m_initialized_PortProcessorModel m_code_R_show) rfl rfl rfl ⟨rfl, by decide, by decide, by decide +kernel⟩ ⟨h1, h2⟩
theorem m_methodLink_PortProcessorModel_71_R_sum : Cond.methodLink "PortProcessorModel" 71 y_R_sum ∈ T0 := zz_in (List.mem_append_right _ (List.mem_append_right _ (List.mem_append_right _ (List.mem_of_getElem? (i := 152) rfl)))) rfl
theorem m_instanceMethod_R_sum : Cond.instanceMethod y_R_sum ∈ T0 := zz_in (List.mem_append_right _ (List.mem_append_right _ (List.mem_append_right _ (List.mem_of_getElem? (i := 154) rfl)))) rfl
theorem m_selects_R_sum : Cond.selects "PortProcessorModel" y_R_sum y_R_sum ∈ T0 := zz_in (List.mem_append_left _ (List.mem_of_getElem? (i := 60) rfl)) rfl
theorem cw_R_71 {p : Program} {m : MethodId} {c : Code} {cc : ByteArray} {nL : Nat} {s : State} {args : Array Value} {c0 : Cond} {R : Room} (K : CallFix p m c cc nL s args (c0 :: T0) "PortProcessorModel") (h1 : 1 + 1 ≤ R.frames) (h2 : 8 + (8 + 11) + 22 ≤ R.locals) : CallW R s args "PortProcessorModel" "PortProcessorModel" 71 y_R_sum b_R_sum 8 (some .int) w_R_sum (rmz 1 22) 0 0 3 := cwV 3 K.2.2.2.2 (zz_gv m_methodLink_PortProcessorModel_71_R_sum m_instanceMethod_R_sum m_selects_R_sum m_initialized_PortProcessorModel m_code_R_sum) rfl rfl rfl ⟨rfl, by decide, by decide, by decide +kernel⟩ ⟨h1, h2⟩
theorem m_methodLink_PortProcessorModel_75_R_difference : Cond.methodLink "PortProcessorModel" 75 y_R_difference ∈ T0 := zz_in (List.mem_append_right _ (List.mem_append_right _ (List.mem_append_right _ (List.mem_of_getElem? (i := 156) rfl)))) rfl
theorem m_instanceMethod_R_difference : Cond.instanceMethod y_R_difference ∈ T0 := zz_in (List.mem_append_right _ (List.mem_append_right _ (List.mem_append_right _ (List.mem_of_getElem? (i := 158) rfl)))) rfl
theorem m_selects_R_difference : Cond.selects "PortProcessorModel" y_R_difference y_R_difference ∈ T0 := zz_in (List.mem_append_left _ (List.mem_of_getElem? (i := 61) rfl)) rfl
theorem cw_R_75 {p : Program} {m : MethodId} {c : Code} {cc : ByteArray} {nL : Nat} {s : State} {args : Array Value} {c0 : Cond} {R : Room} (K : CallFix p m c cc nL s args (c0 :: T0) "PortProcessorModel") (h1 : 2 + 1 ≤ R.frames) (h2 : 8 + (5 + 11) + 49 ≤ R.locals) : CallW R s args "PortProcessorModel" "PortProcessorModel" 75 y_R_difference b_R_difference 5 (some .int) w_R_difference (rmz 2 49) 0 0 3 := cwV 3 K.2.2.2.2 (zz_gv m_methodLink_PortProcessorModel_75_R_difference m_instanceMethod_R_difference m_selects_R_difference m_initialized_PortProcessorModel m_code_R_difference) rfl rfl rfl ⟨rfl, by decide, by decide, by decide +kernel⟩ ⟨h1, h2⟩
theorem m_methodLink_PortProcessorModel_112_R_decimal : Cond.methodLink "PortProcessorModel" 112 y_R_decimal ∈ T0 := zz_in (List.mem_append_right _ (List.mem_append_right _ (List.mem_append_right _ (List.mem_of_getElem? (i := 136) rfl)))) rfl
theorem m_instanceMethod_R_decimal : Cond.instanceMethod y_R_decimal ∈ T0 := zz_in (List.mem_append_right _ (List.mem_append_right _ (List.mem_append_right _ (List.mem_of_getElem? (i := 138) rfl)))) rfl
theorem m_selects_R_decimal : Cond.selects "PortProcessorModel" y_R_decimal y_R_decimal ∈ T0 := zz_in (List.mem_append_left _ (List.mem_of_getElem? (i := 56) rfl)) rfl
theorem cw_R_112 {p : Program} {m : MethodId} {c : Code} {cc : ByteArray} {nL : Nat} {s : State} {args : Array Value} {c0 : Cond} {R : Room} (K : CallFix p m c cc nL s args (c0 :: T0) "PortProcessorModel") (h1 : 1 + 1 ≤ R.frames) (h2 : 8 + (6 + 11) + 22 ≤ R.locals) : CallW R s args "PortProcessorModel" "PortProcessorModel" 112 y_R_decimal b_R_decimal 6 none w_R_decimal (rmz 1 22) 0 0 0 := cwV 0 K.2.2.2.2 (zz_gv m_methodLink_PortProcessorModel_112_R_decimal m_instanceMethod_R_decimal m_selects_R_decimal m_initialized_PortProcessorModel m_code_R_decimal) rfl rfl rfl ⟨rfl, by decide, by decide, by decide +kernel⟩ ⟨h1, h2⟩
theorem m_methodLink_PortProcessorModel_103_R_pair : Cond.methodLink "PortProcessorModel" 103 y_R_pair ∈ T0 := zz_in (List.mem_append_right _ (List.mem_append_right _ (List.mem_append_right _ (List.mem_of_getElem? (i := 120) rfl)))) rfl
theorem m_instanceMethod_R_pair : Cond.instanceMethod y_R_pair ∈ T0 := zz_in (List.mem_append_right _ (List.mem_append_right _ (List.mem_append_right _ (List.mem_of_getElem? (i := 122) rfl)))) rfl
theorem m_selects_R_pair : Cond.selects "PortProcessorModel" y_R_pair y_R_pair ∈ T0 := zz_in (List.mem_append_left _ (List.mem_of_getElem? (i := 52) rfl)) rfl
theorem cw_R_103 {p : Program} {m : MethodId} {c : Code} {cc : ByteArray} {nL : Nat} {s : State} {args : Array Value} {c0 : Cond} {R : Room} (K : CallFix p m c cc nL s args (c0 :: T0) "PortProcessorModel") (h1 : 0 + 1 ≤ R.frames) (h2 : 8 + (2 + 11) + 0 ≤ R.locals) : CallW R s args "PortProcessorModel" "PortProcessorModel" 103 y_R_pair b_R_pair 2 (some .int) w_R_pair (rmz 0 0) 0 0 1 := cwV 1 K.2.2.2.2 (zz_gv m_methodLink_PortProcessorModel_103_R_pair m_instanceMethod_R_pair m_selects_R_pair m_initialized_PortProcessorModel m_code_R_pair) rfl rfl rfl ⟨rfl, by decide, by decide, by decide +kernel⟩ ⟨h1, h2⟩
theorem m_methodLink_PortProcessorModel_97_R_nextWord : Cond.methodLink "PortProcessorModel" 97 y_R_nextWord ∈ T0 := zz_in (List.mem_append_right _ (List.mem_append_right _ (List.mem_append_right _ (List.mem_of_getElem? (i := 108) rfl)))) rfl
theorem m_instanceMethod_R_nextWord : Cond.instanceMethod y_R_nextWord ∈ T0 := zz_in (List.mem_append_right _ (List.mem_append_right _ (List.mem_append_right _ (List.mem_of_getElem? (i := 110) rfl)))) rfl
theorem m_selects_R_nextWord : Cond.selects "PortProcessorModel" y_R_nextWord y_R_nextWord ∈ T0 := zz_in (List.mem_append_left _ (List.mem_of_getElem? (i := 49) rfl)) rfl
theorem cw_R_97 {p : Program} {m : MethodId} {c : Code} {cc : ByteArray} {nL : Nat} {s : State} {args : Array Value} {c0 : Cond} {R : Room} (K : CallFix p m c cc nL s args (c0 :: T0) "PortProcessorModel") (h1 : 2 + 1 ≤ R.frames) (h2 : 8 + (2 + 11) + 42 ≤ R.locals) : CallW R s args "PortProcessorModel" "PortProcessorModel" 97 y_R_nextWord b_R_nextWord 2 (some .int) w_R_nextWord (rmz 2 42) 0 0 0 := cwV 0 K.2.2.2.2 (zz_gv m_methodLink_PortProcessorModel_97_R_nextWord m_instanceMethod_R_nextWord m_selects_R_nextWord m_initialized_PortProcessorModel m_code_R_nextWord) rfl rfl rfl ⟨rfl, by decide, by decide, by decide +kernel⟩ ⟨h1, h2⟩
theorem m_methodLink_PortProcessorModel_119_R_pop : Cond.methodLink "PortProcessorModel" 119 y_R_pop ∈ T0 := zz_in (List.mem_append_right _ (List.mem_append_right _ (List.mem_append_right _ (List.mem_of_getElem? (i := 168) rfl)))) rfl
theorem m_instanceMethod_R_pop : Cond.instanceMethod y_R_pop ∈ T0 := zz_in (List.mem_append_right _ (List.mem_append_right _ (List.mem_append_right _ (List.mem_of_getElem? (i := 170) rfl)))) rfl
theorem m_selects_R_pop : Cond.selects "PortProcessorModel" y_R_pop y_R_pop ∈ T0 := zz_in (List.mem_append_left _ (List.mem_of_getElem? (i := 64) rfl)) rfl
theorem cw_R_119 {p : Program} {m : MethodId} {c : Code} {cc : ByteArray} {nL : Nat} {s : State} {args : Array Value} {c0 : Cond} {R : Room} (K : CallFix p m c cc nL s args (c0 :: T0) "PortProcessorModel") (h1 : 1 + 1 ≤ R.frames) (h2 : 8 + (3 + 11) + 21 ≤ R.locals) : CallW R s args "PortProcessorModel" "PortProcessorModel" 119 y_R_pop b_R_pop 3 (some .int) w_R_pop (rmz 1 21) 0 0 0 := cwV 0 K.2.2.2.2 (zz_gv m_methodLink_PortProcessorModel_119_R_pop m_instanceMethod_R_pop m_selects_R_pop m_initialized_PortProcessorModel m_code_R_pop) rfl rfl rfl ⟨rfl, by decide, by decide, by decide +kernel⟩ ⟨h1, h2⟩
theorem m_methodLink_PortProcessorModel_134_R_setFlags : Cond.methodLink "PortProcessorModel" 134 y_R_setFlags ∈ T0 := zz_in (List.mem_append_right _ (List.mem_append_right _ (List.mem_append_right _ (List.mem_of_getElem? (i := 180) rfl)))) rfl
theorem m_instanceMethod_R_setFlags : Cond.instanceMethod y_R_setFlags ∈ T0 := zz_in (List.mem_append_right _ (List.mem_append_right _ (List.mem_append_right _ (List.mem_of_getElem? (i := 182) rfl)))) rfl
theorem m_selects_R_setFlags : Cond.selects "PortProcessorModel" y_R_setFlags y_R_setFlags ∈ T0 := zz_in (List.mem_append_left _ (List.mem_of_getElem? (i := 67) rfl)) rfl
theorem cw_R_134 {p : Program} {m : MethodId} {c : Code} {cc : ByteArray} {nL : Nat} {s : State} {args : Array Value} {c0 : Cond} {R : Room} (K : CallFix p m c cc nL s args (c0 :: T0) "PortProcessorModel") (h1 : 0 + 1 ≤ R.frames) (h2 : 8 + (2 + 11) + 0 ≤ R.locals) : CallW R s args "PortProcessorModel" "PortProcessorModel" 134 y_R_setFlags b_R_setFlags 2 none w_R_setFlags (rmz 0 0) 0 0 1 := cwV 1 K.2.2.2.2 (zz_gv m_methodLink_PortProcessorModel_134_R_setFlags m_instanceMethod_R_setFlags m_selects_R_setFlags m_initialized_PortProcessorModel m_code_R_setFlags) rfl rfl rfl ⟨rfl, by decide, by decide, by decide +kernel⟩ ⟨h1, h2⟩
theorem m_methodLink_PortProcessorModel_100_R_setPair : Cond.methodLink "PortProcessorModel" 100 y_R_setPair ∈ T0 := zz_in (List.mem_append_right _ (List.mem_append_right _ (List.mem_append_right _ (List.mem_of_getElem? (i := 112) rfl)))) rfl
theorem m_instanceMethod_R_setPair : Cond.instanceMethod y_R_setPair ∈ T0 := zz_in (List.mem_append_right _ (List.mem_append_right _ (List.mem_append_right _ (List.mem_of_getElem? (i := 114) rfl)))) rfl
theorem m_selects_R_setPair : Cond.selects "PortProcessorModel" y_R_setPair y_R_setPair ∈ T0 := zz_in (List.mem_append_left _ (List.mem_of_getElem? (i := 50) rfl)) rfl
theorem cw_R_100 {p : Program} {m : MethodId} {c : Code} {cc : ByteArray} {nL : Nat} {s : State} {args : Array Value} {c0 : Cond} {R : Room} (K : CallFix p m c cc nL s args (c0 :: T0) "PortProcessorModel") (h1 : 0 + 1 ≤ R.frames) (h2 : 8 + (4 + 11) + 0 ≤ R.locals) : CallW R s args "PortProcessorModel" "PortProcessorModel" 100 y_R_setPair b_R_setPair 4 none w_R_setPair (rmz 0 0) 0 0 2 := cwV 2 K.2.2.2.2 (zz_gv m_methodLink_PortProcessorModel_100_R_setPair m_instanceMethod_R_setPair m_selects_R_setPair m_initialized_PortProcessorModel m_code_R_setPair) rfl rfl rfl ⟨rfl, by decide, by decide, by decide +kernel⟩ ⟨h1, h2⟩
theorem m_methodLink_PortProcessorModel_106_R_direct : Cond.methodLink "PortProcessorModel" 106 y_R_direct ∈ T0 := zz_in (List.mem_append_right _ (List.mem_append_right _ (List.mem_append_right _ (List.mem_of_getElem? (i := 124) rfl)))) rfl
theorem m_instanceMethod_R_direct : Cond.instanceMethod y_R_direct ∈ T0 := zz_in (List.mem_append_right _ (List.mem_append_right _ (List.mem_append_right _ (List.mem_of_getElem? (i := 126) rfl)))) rfl
theorem m_selects_R_direct : Cond.selects "PortProcessorModel" y_R_direct y_R_direct ∈ T0 := zz_in (List.mem_append_left _ (List.mem_of_getElem? (i := 53) rfl)) rfl
theorem cw_R_106 {p : Program} {m : MethodId} {c : Code} {cc : ByteArray} {nL : Nat} {s : State} {args : Array Value} {c0 : Cond} {R : Room} (K : CallFix p m c cc nL s args (c0 :: T0) "PortProcessorModel") (h1 : 3 + 1 ≤ R.frames) (h2 : 8 + (4 + 11) + 63 ≤ R.locals) : CallW R s args "PortProcessorModel" "PortProcessorModel" 106 y_R_direct b_R_direct 4 (some .int) w_R_direct (rmz 3 63) 0 0 1 := cwV 1 K.2.2.2.2 (zz_gv m_methodLink_PortProcessorModel_106_R_direct m_instanceMethod_R_direct m_selects_R_direct m_initialized_PortProcessorModel m_code_R_direct) rfl rfl rfl ⟨rfl, by decide, by decide, by decide +kernel⟩ ⟨h1, h2⟩
theorem m_methodLink_PortProcessorModel_88_R_set8 : Cond.methodLink "PortProcessorModel" 88 y_R_set8 ∈ T0 := zz_in (List.mem_append_right _ (List.mem_append_right _ (List.mem_append_right _ (List.mem_of_getElem? (i := 128) rfl)))) rfl
theorem m_instanceMethod_R_set8 : Cond.instanceMethod y_R_set8 ∈ T0 := zz_in (List.mem_append_right _ (List.mem_append_right _ (List.mem_append_right _ (List.mem_of_getElem? (i := 130) rfl)))) rfl
theorem m_selects_R_set8 : Cond.selects "PortProcessorModel" y_R_set8 y_R_set8 ∈ T0 := zz_in (List.mem_append_left _ (List.mem_of_getElem? (i := 54) rfl)) rfl
theorem cw_R_88 {p : Program} {m : MethodId} {c : Code} {cc : ByteArray} {nL : Nat} {s : State} {args : Array Value} {c0 : Cond} {R : Room} (K : CallFix p m c cc nL s args (c0 :: T0) "PortProcessorModel") (h1 : 1 + 1 ≤ R.frames) (h2 : 8 + (3 + 11) + 22 ≤ R.locals) : CallW R s args "PortProcessorModel" "PortProcessorModel" 88 y_R_set8 b_R_set8 3 none w_R_set8 (rmz 1 22) 0 0 2 := cwV 2 K.2.2.2.2 (zz_gv m_methodLink_PortProcessorModel_88_R_set8 m_instanceMethod_R_set8 m_selects_R_set8 m_initialized_PortProcessorModel m_code_R_set8) rfl rfl rfl ⟨rfl, by decide, by decide, by decide +kernel⟩ ⟨h1, h2⟩
theorem m_methodLink_PortProcessorModel_109_R_alter : Cond.methodLink "PortProcessorModel" 109 y_R_alter ∈ T0 := zz_in (List.mem_append_right _ (List.mem_append_right _ (List.mem_append_right _ (List.mem_of_getElem? (i := 132) rfl)))) rfl
theorem m_instanceMethod_R_alter : Cond.instanceMethod y_R_alter ∈ T0 := zz_in (List.mem_append_right _ (List.mem_append_right _ (List.mem_append_right _ (List.mem_of_getElem? (i := 134) rfl)))) rfl
theorem m_selects_R_alter : Cond.selects "PortProcessorModel" y_R_alter y_R_alter ∈ T0 := zz_in (List.mem_append_left _ (List.mem_of_getElem? (i := 55) rfl)) rfl
theorem cw_R_109 {p : Program} {m : MethodId} {c : Code} {cc : ByteArray} {nL : Nat} {s : State} {args : Array Value} {c0 : Cond} {R : Room} (K : CallFix p m c cc nL s args (c0 :: T0) "PortProcessorModel") (h1 : 2 + 1 ≤ R.frames) (h2 : 8 + (4 + 11) + 47 ≤ R.locals) : CallW R s args "PortProcessorModel" "PortProcessorModel" 109 y_R_alter b_R_alter 4 none w_R_alter (rmz 2 47) 0 0 1 := cwV 1 K.2.2.2.2 (zz_gv m_methodLink_PortProcessorModel_109_R_alter m_instanceMethod_R_alter m_selects_R_alter m_initialized_PortProcessorModel m_code_R_alter) rfl rfl rfl ⟨rfl, by decide, by decide, by decide +kernel⟩ ⟨h1, h2⟩
theorem m_methodLink_PortProcessorModel_85_R_get : Cond.methodLink "PortProcessorModel" 85 y_R_get ∈ T0 := zz_in (List.mem_append_right _ (List.mem_append_right _ (List.mem_append_right _ (List.mem_of_getElem? (i := 144) rfl)))) rfl
theorem m_instanceMethod_R_get : Cond.instanceMethod y_R_get ∈ T0 := zz_in (List.mem_append_right _ (List.mem_append_right _ (List.mem_append_right _ (List.mem_of_getElem? (i := 146) rfl)))) rfl
theorem m_selects_R_get : Cond.selects "PortProcessorModel" y_R_get y_R_get ∈ T0 := zz_in (List.mem_append_left _ (List.mem_of_getElem? (i := 58) rfl)) rfl
theorem cw_R_85 {p : Program} {m : MethodId} {c : Code} {cc : ByteArray} {nL : Nat} {s : State} {args : Array Value} {c0 : Cond} {R : Room} (K : CallFix p m c cc nL s args (c0 :: T0) "PortProcessorModel") (h1 : 1 + 1 ≤ R.frames) (h2 : 8 + (2 + 11) + 21 ≤ R.locals) : CallW R s args "PortProcessorModel" "PortProcessorModel" 85 y_R_get b_R_get 2 (some .int) w_R_get (rmz 1 21) 0 0 1 := cwV 1 K.2.2.2.2 (zz_gv m_methodLink_PortProcessorModel_85_R_get m_instanceMethod_R_get m_selects_R_get m_initialized_PortProcessorModel m_code_R_get) rfl rfl rfl ⟨rfl, by decide, by decide, by decide +kernel⟩ ⟨h1, h2⟩
theorem m_methodLink_PortProcessorModel_115_R_holds : Cond.methodLink "PortProcessorModel" 115 y_R_holds ∈ T0 := zz_in (List.mem_append_right _ (List.mem_append_right _ (List.mem_append_right _ (List.mem_of_getElem? (i := 164) rfl)))) rfl
theorem m_instanceMethod_R_holds : Cond.instanceMethod y_R_holds ∈ T0 := zz_in (List.mem_append_right _ (List.mem_append_right _ (List.mem_append_right _ (List.mem_of_getElem? (i := 166) rfl)))) rfl
theorem m_selects_R_holds : Cond.selects "PortProcessorModel" y_R_holds y_R_holds ∈ T0 := zz_in (List.mem_append_left _ (List.mem_of_getElem? (i := 63) rfl)) rfl
theorem cw_R_115 {p : Program} {m : MethodId} {c : Code} {cc : ByteArray} {nL : Nat} {s : State} {args : Array Value} {c0 : Cond} {R : Room} (K : CallFix p m c cc nL s args (c0 :: T0) "PortProcessorModel") (h1 : 0 + 1 ≤ R.frames) (h2 : 8 + (3 + 11) + 0 ≤ R.locals) : CallW R s args "PortProcessorModel" "PortProcessorModel" 115 y_R_holds b_R_holds 3 (some .boolean) w_R_holds (rmz 0 0) 0 0 1 := cwV 1 K.2.2.2.2 (zz_gv m_methodLink_PortProcessorModel_115_R_holds m_instanceMethod_R_holds m_selects_R_holds m_initialized_PortProcessorModel m_code_R_holds) rfl rfl rfl ⟨rfl, by decide, by decide, by decide +kernel⟩ ⟨h1, h2⟩
theorem m_methodLink_PortProcessorModel_122_R_push : Cond.methodLink "PortProcessorModel" 122 y_R_push ∈ T0 := zz_in (List.mem_append_right _ (List.mem_append_right _ (List.mem_append_right _ (List.mem_of_getElem? (i := 82) rfl)))) rfl
theorem m_instanceMethod_R_push : Cond.instanceMethod y_R_push ∈ T0 := zz_in (List.mem_append_right _ (List.mem_append_right _ (List.mem_append_right _ (List.mem_of_getElem? (i := 84) rfl)))) rfl
theorem m_selects_R_push : Cond.selects "PortProcessorModel" y_R_push y_R_push ∈ T0 := zz_in (List.mem_append_left _ (List.mem_of_getElem? (i := 43) rfl)) rfl
theorem cw_R_122 {p : Program} {m : MethodId} {c : Code} {cc : ByteArray} {nL : Nat} {s : State} {args : Array Value} {c0 : Cond} {R : Room} (K : CallFix p m c cc nL s args (c0 :: T0) "PortProcessorModel") (h1 : 1 + 1 ≤ R.frames) (h2 : 8 + (3 + 11) + 22 ≤ R.locals) : CallW R s args "PortProcessorModel" "PortProcessorModel" 122 y_R_push b_R_push 3 none w_R_push (rmz 1 22) 0 0 1 := cwV 1 K.2.2.2.2 (zz_gv m_methodLink_PortProcessorModel_122_R_push m_instanceMethod_R_push m_selects_R_push m_initialized_PortProcessorModel m_code_R_push) rfl rfl rfl ⟨rfl, by decide, by decide, by decide +kernel⟩ ⟨h1, h2⟩
theorem m_methodLink_PortProcessorModel_125_R_flags : Cond.methodLink "PortProcessorModel" 125 y_R_flags ∈ T0 := zz_in (List.mem_append_right _ (List.mem_append_right _ (List.mem_append_right _ (List.mem_of_getElem? (i := 172) rfl)))) rfl
theorem m_instanceMethod_R_flags : Cond.instanceMethod y_R_flags ∈ T0 := zz_in (List.mem_append_right _ (List.mem_append_right _ (List.mem_append_right _ (List.mem_of_getElem? (i := 174) rfl)))) rfl
theorem m_selects_R_flags : Cond.selects "PortProcessorModel" y_R_flags y_R_flags ∈ T0 := zz_in (List.mem_append_left _ (List.mem_of_getElem? (i := 65) rfl)) rfl
theorem cw_R_125 {p : Program} {m : MethodId} {c : Code} {cc : ByteArray} {nL : Nat} {s : State} {args : Array Value} {c0 : Cond} {R : Room} (K : CallFix p m c cc nL s args (c0 :: T0) "PortProcessorModel") (h1 : 0 + 1 ≤ R.frames) (h2 : 8 + (1 + 11) + 0 ≤ R.locals) : CallW R s args "PortProcessorModel" "PortProcessorModel" 125 y_R_flags b_R_flags 1 (some .int) w_R_flags (rmz 0 0) 0 0 0 := cwV 0 K.2.2.2.2 (zz_gv m_methodLink_PortProcessorModel_125_R_flags m_instanceMethod_R_flags m_selects_R_flags m_initialized_PortProcessorModel m_code_R_flags) rfl rfl rfl ⟨rfl, by decide, by decide, by decide +kernel⟩ ⟨h1, h2⟩
theorem m_methodLink_PortProcessorModel_91_R_reckon : Cond.methodLink "PortProcessorModel" 91 y_R_reckon ∈ T0 := zz_in (List.mem_append_right _ (List.mem_append_right _ (List.mem_append_right _ (List.mem_of_getElem? (i := 148) rfl)))) rfl
theorem m_instanceMethod_R_reckon : Cond.instanceMethod y_R_reckon ∈ T0 := zz_in (List.mem_append_right _ (List.mem_append_right _ (List.mem_append_right _ (List.mem_of_getElem? (i := 150) rfl)))) rfl
theorem m_selects_R_reckon : Cond.selects "PortProcessorModel" y_R_reckon y_R_reckon ∈ T0 := zz_in (List.mem_append_left _ (List.mem_of_getElem? (i := 59) rfl)) rfl
theorem cw_R_91 {p : Program} {m : MethodId} {c : Code} {cc : ByteArray} {nL : Nat} {s : State} {args : Array Value} {c0 : Cond} {R : Room} (K : CallFix p m c cc nL s args (c0 :: T0) "PortProcessorModel") (h1 : 3 + 1 ≤ R.frames) (h2 : 8 + (5 + 11) + 73 ≤ R.locals) : CallW R s args "PortProcessorModel" "PortProcessorModel" 91 y_R_reckon b_R_reckon 5 none w_R_reckon (rmz 3 73) 0 0 2 := cwV 2 K.2.2.2.2 (zz_gv m_methodLink_PortProcessorModel_91_R_reckon m_instanceMethod_R_reckon m_selects_R_reckon m_initialized_PortProcessorModel m_code_R_reckon) rfl rfl rfl ⟨rfl, by decide, by decide, by decide +kernel⟩ ⟨h1, h2⟩
theorem m_methodLink_PortProcessorModel_128_R_popped : Cond.methodLink "PortProcessorModel" 128 y_R_popped ∈ T0 := zz_in (List.mem_append_right _ (List.mem_append_right _ (List.mem_append_right _ (List.mem_of_getElem? (i := 176) rfl)))) rfl
theorem m_instanceMethod_R_popped : Cond.instanceMethod y_R_popped ∈ T0 := zz_in (List.mem_append_right _ (List.mem_append_right _ (List.mem_append_right _ (List.mem_of_getElem? (i := 178) rfl)))) rfl
theorem m_selects_R_popped : Cond.selects "PortProcessorModel" y_R_popped y_R_popped ∈ T0 := zz_in (List.mem_append_left _ (List.mem_of_getElem? (i := 66) rfl)) rfl
theorem cw_R_128 {p : Program} {m : MethodId} {c : Code} {cc : ByteArray} {nL : Nat} {s : State} {args : Array Value} {c0 : Cond} {R : Room} (K : CallFix p m c cc nL s args (c0 :: T0) "PortProcessorModel") (h1 : 2 + 1 ≤ R.frames) (h2 : 8 + (3 + 11) + 43 ≤ R.locals) : CallW R s args "PortProcessorModel" "PortProcessorModel" 128 y_R_popped b_R_popped 3 (some .int) w_R_popped (rmz 2 43) 0 0 1 := cwV 1 K.2.2.2.2 (zz_gv m_methodLink_PortProcessorModel_128_R_popped m_instanceMethod_R_popped m_selects_R_popped m_initialized_PortProcessorModel m_code_R_popped) rfl rfl rfl ⟨rfl, by decide, by decide, by decide +kernel⟩ ⟨h1, h2⟩
theorem m_methodLink_PortProcessorModel_131_R_single : Cond.methodLink "PortProcessorModel" 131 y_R_single ∈ T0 := zz_in (List.mem_append_right _ (List.mem_append_right _ (List.mem_append_right _ (List.mem_of_getElem? (i := 184) rfl)))) rfl
theorem m_instanceMethod_R_single : Cond.instanceMethod y_R_single ∈ T0 := zz_in (List.mem_append_right _ (List.mem_append_right _ (List.mem_append_right _ (List.mem_of_getElem? (i := 186) rfl)))) rfl
theorem m_selects_R_single : Cond.selects "PortProcessorModel" y_R_single y_R_single ∈ T0 := zz_in (List.mem_append_left _ (List.mem_of_getElem? (i := 68) rfl)) rfl
theorem cw_R_131 {p : Program} {m : MethodId} {c : Code} {cc : ByteArray} {nL : Nat} {s : State} {args : Array Value} {c0 : Cond} {R : Room} (K : CallFix p m c cc nL s args (c0 :: T0) "PortProcessorModel") (h1 : 2 + 1 ≤ R.frames) (h2 : 8 + (3 + 11) + 42 ≤ R.locals) : CallW R s args "PortProcessorModel" "PortProcessorModel" 131 y_R_single b_R_single 3 (some .int) w_R_single (rmz 2 42) 0 0 1 := cwV 1 K.2.2.2.2 (zz_gv m_methodLink_PortProcessorModel_131_R_single m_instanceMethod_R_single m_selects_R_single m_initialized_PortProcessorModel m_code_R_single) rfl rfl rfl ⟨rfl, by decide, by decide, by decide +kernel⟩ ⟨h1, h2⟩
theorem m_methodLink_PortProcessorModel_82_R_first : Cond.methodLink "PortProcessorModel" 82 y_R_first ∈ T0 := zz_in (List.mem_append_right _ (List.mem_append_right _ (List.mem_append_right _ (List.mem_of_getElem? (i := 104) rfl)))) rfl
theorem m_instanceMethod_R_first : Cond.instanceMethod y_R_first ∈ T0 := zz_in (List.mem_append_right _ (List.mem_append_right _ (List.mem_append_right _ (List.mem_of_getElem? (i := 106) rfl)))) rfl
theorem m_selects_R_first : Cond.selects "PortProcessorModel" y_R_first y_R_first ∈ T0 := zz_in (List.mem_append_left _ (List.mem_of_getElem? (i := 48) rfl)) rfl
theorem cw_R_82 {p : Program} {m : MethodId} {c : Code} {cc : ByteArray} {nL : Nat} {s : State} {args : Array Value} {c0 : Cond} {R : Room} (K : CallFix p m c cc nL s args (c0 :: T0) "PortProcessorModel") (h1 : 4 + 1 ≤ R.frames) (h2 : 8 + (7 + 11) + 86 ≤ R.locals) : CallW R s args "PortProcessorModel" "PortProcessorModel" 82 y_R_first b_R_first 7 (some .int) w_R_first (rmz 4 86) 0 0 1 := cwV 1 K.2.2.2.2 (zz_gv m_methodLink_PortProcessorModel_82_R_first m_instanceMethod_R_first m_selects_R_first m_initialized_PortProcessorModel m_code_R_first) rfl rfl rfl ⟨rfl, by decide, by decide, by decide +kernel⟩ ⟨h1, h2⟩
theorem m_methodLink_PortProcessorModel_94_R_last : Cond.methodLink "PortProcessorModel" 94 y_R_last ∈ T0 := zz_in (List.mem_append_right _ (List.mem_append_right _ (List.mem_append_right _ (List.mem_of_getElem? (i := 160) rfl)))) rfl
theorem m_instanceMethod_R_last : Cond.instanceMethod y_R_last ∈ T0 := zz_in (List.mem_append_right _ (List.mem_append_right _ (List.mem_append_right _ (List.mem_of_getElem? (i := 162) rfl)))) rfl
theorem m_selects_R_last : Cond.selects "PortProcessorModel" y_R_last y_R_last ∈ T0 := zz_in (List.mem_append_left _ (List.mem_of_getElem? (i := 62) rfl)) rfl
theorem cw_R_94 {p : Program} {m : MethodId} {c : Code} {cc : ByteArray} {nL : Nat} {s : State} {args : Array Value} {c0 : Cond} {R : Room} (K : CallFix p m c cc nL s args (c0 :: T0) "PortProcessorModel") (h1 : 4 + 1 ≤ R.frames) (h2 : 8 + (5 + 11) + 97 ≤ R.locals) : CallW R s args "PortProcessorModel" "PortProcessorModel" 94 y_R_last b_R_last 5 (some .int) w_R_last (rmz 4 97) 0 0 1 := cwV 1 K.2.2.2.2 (zz_gv m_methodLink_PortProcessorModel_94_R_last m_instanceMethod_R_last m_selects_R_last m_initialized_PortProcessorModel m_code_R_last) rfl rfl rfl ⟨rfl, by decide, by decide, by decide +kernel⟩ ⟨h1, h2⟩
theorem m_methodLink_PortProcessorModel_149_R_instruction : Cond.methodLink "PortProcessorModel" 149 y_R_instruction ∈ T0 := zz_in (List.mem_append_right _ (List.mem_append_right _ (List.mem_append_right _ (List.mem_of_getElem? (i := 100) rfl)))) rfl
theorem m_instanceMethod_R_instruction : Cond.instanceMethod y_R_instruction ∈ T0 := zz_in (List.mem_append_right _ (List.mem_append_right _ (List.mem_append_right _ (List.mem_of_getElem? (i := 102) rfl)))) rfl
theorem m_selects_R_instruction : Cond.selects "PortProcessorModel" y_R_instruction y_R_instruction ∈ T0 := zz_in (List.mem_append_left _ (List.mem_of_getElem? (i := 47) rfl)) rfl
theorem cw_R_149 {p : Program} {m : MethodId} {c : Code} {cc : ByteArray} {nL : Nat} {s : State} {args : Array Value} {c0 : Cond} {R : Room} (K : CallFix p m c cc nL s args (c0 :: T0) "PortProcessorModel") (h1 : 5 + 1 ≤ R.frames) (h2 : 8 + (4 + 11) + 121 ≤ R.locals) : CallW R s args "PortProcessorModel" "PortProcessorModel" 149 y_R_instruction b_R_instruction 4 (some .int) w_R_instruction (rmz 5 121) 0 0 1 := cwV 1 K.2.2.2.2 (zz_gv m_methodLink_PortProcessorModel_149_R_instruction m_instanceMethod_R_instruction m_selects_R_instruction m_initialized_PortProcessorModel m_code_R_instruction) rfl rfl rfl ⟨rfl, by decide, by decide, by decide +kernel⟩ ⟨h1, h2⟩
theorem m_constant_PortProcessorModel_44_65535 : Cond.constant "PortProcessorModel" 44 (nI 65535) ∈ T0 := zz_in (List.mem_append_right _ (List.mem_append_right _ (List.mem_append_right _ (List.mem_of_getElem? (i := 86) rfl)))) rfl
theorem m_constant_PortProcessorModel_48_65536 : Cond.constant "PortProcessorModel" 48 (nI 65536) ∈ T0 := zz_in (List.mem_append_right _ (List.mem_append_right _ (List.mem_append_right _ (List.mem_of_getElem? (i := 73) rfl)))) rfl
theorem m_fieldLink_PortProcessorModel_26 : Cond.fieldLink "PortProcessorModel" 26 "PortProcessorModel" "thrown" "I" ∈ T0 := zz_in (List.mem_append_right _ (List.mem_append_right _ (List.mem_append_right _ (List.mem_of_getElem? (i := 1) rfl)))) rfl
theorem m_fieldLink_PortProcessorModel_7 : Cond.fieldLink "PortProcessorModel" 7 "PortProcessorModel" "memory" "[I" ∈ T0 := zz_in (List.mem_append_right _ (List.mem_append_right _ (List.mem_append_right _ (List.mem_of_getElem? (i := 2) rfl)))) rfl
theorem m_fieldLink_PortProcessorModel_13 : Cond.fieldLink "PortProcessorModel" 13 "PortProcessorModel" "reg" "[I" ∈ T0 := zz_in (List.mem_append_right _ (List.mem_append_right _ (List.mem_append_right _ (List.mem_of_getElem? (i := 3) rfl)))) rfl
theorem m_fieldLink_PortProcessorModel_52 : Cond.fieldLink "PortProcessorModel" 52 "PortProcessorModel" "s" "I" ∈ T0 := zz_in (List.mem_append_right _ (List.mem_append_right _ (List.mem_append_right _ (List.mem_of_getElem? (i := 4) rfl)))) rfl
theorem m_fieldLink_PortProcessorModel_55 : Cond.fieldLink "PortProcessorModel" 55 "PortProcessorModel" "z" "I" ∈ T0 := zz_in (List.mem_append_right _ (List.mem_append_right _ (List.mem_append_right _ (List.mem_of_getElem? (i := 5) rfl)))) rfl
theorem m_fieldLink_PortProcessorModel_61 : Cond.fieldLink "PortProcessorModel" 61 "PortProcessorModel" "half" "I" ∈ T0 := zz_in (List.mem_append_right _ (List.mem_append_right _ (List.mem_append_right _ (List.mem_of_getElem? (i := 6) rfl)))) rfl
theorem m_fieldLink_PortProcessorModel_58 : Cond.fieldLink "PortProcessorModel" 58 "PortProcessorModel" "p" "I" ∈ T0 := zz_in (List.mem_append_right _ (List.mem_append_right _ (List.mem_append_right _ (List.mem_of_getElem? (i := 7) rfl)))) rfl
theorem m_fieldLink_PortProcessorModel_64 : Cond.fieldLink "PortProcessorModel" 64 "PortProcessorModel" "c" "I" ∈ T0 := zz_in (List.mem_append_right _ (List.mem_append_right _ (List.mem_append_right _ (List.mem_of_getElem? (i := 8) rfl)))) rfl
theorem m_fieldLink_PortProcessorModel_41 : Cond.fieldLink "PortProcessorModel" 41 "PortProcessorModel" "sp" "I" ∈ T0 := zz_in (List.mem_append_right _ (List.mem_append_right _ (List.mem_append_right _ (List.mem_of_getElem? (i := 9) rfl)))) rfl
theorem m_fieldLink_PortProcessorModel_45 : Cond.fieldLink "PortProcessorModel" 45 "PortProcessorModel" "pc" "I" ∈ T0 := zz_in (List.mem_append_right _ (List.mem_append_right _ (List.mem_append_right _ (List.mem_of_getElem? (i := 10) rfl)))) rfl
theorem m_fieldLink_PortProcessorModel_78 : Cond.fieldLink "PortProcessorModel" 78 "PortProcessorModel" "halted" "Z" ∈ T0 := zz_in (List.mem_append_right _ (List.mem_append_right _ (List.mem_append_right _ (List.mem_of_getElem? (i := 11) rfl)))) rfl
theorem m_fieldLink_PortProcessorModel_137 : Cond.fieldLink "PortProcessorModel" 137 "PortProcessorModel" "lets" "Z" ∈ T0 := zz_in (List.mem_append_right _ (List.mem_append_right _ (List.mem_append_right _ (List.mem_of_getElem? (i := 12) rfl)))) rfl
theorem m_fieldLink_PortProcessorModel_140 : Cond.fieldLink "PortProcessorModel" 140 "PortProcessorModel" "late" "Z" ∈ T0 := zz_in (List.mem_append_right _ (List.mem_append_right _ (List.mem_append_right _ (List.mem_of_getElem? (i := 13) rfl)))) rfl
theorem m_fieldLink_PortProcessorModel_16 : Cond.fieldLink "PortProcessorModel" 16 "PortProcessorModel" "waiting" "I" ∈ T0 := zz_in (List.mem_append_right _ (List.mem_append_right _ (List.mem_append_right _ (List.mem_of_getElem? (i := 14) rfl)))) rfl
theorem m_fieldLink_PortProcessorModel_143 : Cond.fieldLink "PortProcessorModel" 143 "PortProcessorModel" "states" "J" ∈ T0 := zz_in (List.mem_append_right _ (List.mem_append_right _ (List.mem_append_right _ (List.mem_of_getElem? (i := 15) rfl)))) rfl
theorem m_fieldLink_PortProcessorModel_20 : Cond.fieldLink "PortProcessorModel" 20 "PortProcessorModel" "in" "[I" ∈ T0 := zz_in (List.mem_append_right _ (List.mem_append_right _ (List.mem_append_right _ (List.mem_of_getElem? (i := 16) rfl)))) rfl
theorem m_fieldLink_PortProcessorModel_23 : Cond.fieldLink "PortProcessorModel" 23 "PortProcessorModel" "put" "[I" ∈ T0 := zz_in (List.mem_append_right _ (List.mem_append_right _ (List.mem_append_right _ (List.mem_of_getElem? (i := 17) rfl)))) rfl
theorem m_constantLong_PortProcessorModel_147_11 : Cond.constantLong "PortProcessorModel" 147 (lN 11) ∈ T0 := zz_in (List.mem_append_right _ (List.mem_append_right _ (List.mem_append_right _ (List.mem_of_getElem? (i := 91) rfl)))) rfl
