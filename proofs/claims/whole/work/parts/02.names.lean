abbrev R_X : String := "EnclaveGuards"
def F_X : u_T := fun k => match k with
  | 0 => ("EnclaveGuards", "key", "I", true)
  | 1 => ("EnclaveGuards", "memory", "[I", true)
  | 2 => ("EnclaveGuards", "owners", "[I", true)
  | 3 => ("EnclaveGuards", "processors", "[LEnclaveGuards$Processor;", true)
  | 4 => ("EnclaveGuards", "enclaves", "[LEnclaveGuards$Enclave;", true)
  | _ => ("EnclaveGuards", "deniedCount", "I", false)
def t_X : Nat → FieldType := fun k => match k with
  | 0 => .int
  | 1 => .array .int
  | 2 => .array .int
  | 3 => .array (.object "EnclaveGuards$Processor")
  | 4 => .array (.object "EnclaveGuards$Enclave")
  | _ => .int
theorem n_X : ∀ a, a < 6 → ∀ b, b < 6 → a ≠ b → (F_X a).2.1 ≠ (F_X b).2.1 := by decide +kernel
theorem t_X_ok : ∀ k, k < 6 → parseFieldDescriptor (F_X k).2.2.1 = some (t_X k) := by decide +kernel
abbrev R_G : String := "EnclaveGuards$Guard"
def F_G : u_T := fun k => match k with
  | 0 => ("EnclaveGuards$Guard", "mode", "I", false)
  | 1 => ("EnclaveGuards$Guard", "rights", "I", false)
  | _ => ("EnclaveGuards$Guard", "address", "I", false)
def t_G : Nat → FieldType := fun k => match k with
  | 0 => .int
  | 1 => .int
  | _ => .int
theorem n_G : ∀ a, a < 3 → ∀ b, b < 3 → a ≠ b → (F_G a).2.1 ≠ (F_G b).2.1 := by decide +kernel
theorem t_G_ok : ∀ k, k < 3 → parseFieldDescriptor (F_G k).2.2.1 = some (t_G k) := by decide +kernel
abbrev R_P : String := "EnclaveGuards$Processor"
def F_P : u_T := fun k => match k with
  | 0 => ("EnclaveGuards$Processor", "registers", "[I", true)
  | 1 => ("EnclaveGuards$Processor", "guards", "[LEnclaveGuards$Guard;", true)
  | _ => ("EnclaveGuards$Processor", "enclave", "I", false)
def t_P : Nat → FieldType := fun k => match k with
  | 0 => .array .int
  | 1 => .array (.object "EnclaveGuards$Guard")
  | _ => .int
theorem n_P : ∀ a, a < 3 → ∀ b, b < 3 → a ≠ b → (F_P a).2.1 ≠ (F_P b).2.1 := by decide +kernel
theorem t_P_ok : ∀ k, k < 3 → parseFieldDescriptor (F_P k).2.2.1 = some (t_P k) := by decide +kernel
abbrev R_E : String := "EnclaveGuards$Enclave"
def F_E : u_T := fun k => match k with
  | 0 => ("EnclaveGuards$Enclave", "registers", "[I", true)
  | 1 => ("EnclaveGuards$Enclave", "state", "I", false)
  | 2 => ("EnclaveGuards$Enclave", "first", "I", false)
  | 3 => ("EnclaveGuards$Enclave", "pages", "I", false)
  | 4 => ("EnclaveGuards$Enclave", "entry", "I", false)
  | 5 => ("EnclaveGuards$Enclave", "shared", "I", false)
  | 6 => ("EnclaveGuards$Enclave", "measurement", "I", false)
  | 7 => ("EnclaveGuards$Enclave", "pc", "I", false)
  | _ => ("EnclaveGuards$Enclave", "released", "I", false)
def t_E : Nat → FieldType := fun k => match k with
  | 0 => .array .int
  | 1 => .int
  | 2 => .int
  | 3 => .int
  | 4 => .int
  | 5 => .int
  | 6 => .int
  | 7 => .int
  | _ => .int
theorem n_E : ∀ a, a < 9 → ∀ b, b < 9 → a ≠ b → (F_E a).2.1 ≠ (F_E b).2.1 := by decide +kernel
theorem t_E_ok : ∀ k, k < 9 → parseFieldDescriptor (F_E k).2.2.1 = some (t_E k) := by decide +kernel
abbrev R_M : String := "EnclaveGuardsModel"
def F_M : u_T := fun k => match k with
  | 0 => ("EnclaveGuardsModel", "key", "I", true)
  | 1 => ("EnclaveGuardsModel", "words", "[I", true)
  | 2 => ("EnclaveGuardsModel", "owners", "[I", true)
  | 3 => ("EnclaveGuardsModel", "kept", "[I", true)
  | 4 => ("EnclaveGuardsModel", "runs", "[I", true)
  | 5 => ("EnclaveGuardsModel", "wrong", "I", false)
  | 6 => ("EnclaveGuardsModel", "states", "[I", true)
  | 7 => ("EnclaveGuardsModel", "firsts", "[I", true)
  | 8 => ("EnclaveGuardsModel", "sizes", "[I", true)
  | 9 => ("EnclaveGuardsModel", "entries", "[I", true)
  | 10 => ("EnclaveGuardsModel", "shares", "[I", true)
  | 11 => ("EnclaveGuardsModel", "measures", "[I", true)
  | 12 => ("EnclaveGuardsModel", "outs", "[I", true)
  | 13 => ("EnclaveGuardsModel", "counters", "[I", true)
  | _ => ("EnclaveGuardsModel", "\x72", "[I", true)
def t_M : Nat → FieldType := fun k => match k with
  | 0 => .int
  | 1 => .array .int
  | 2 => .array .int
  | 3 => .array .int
  | 4 => .array .int
  | 5 => .int
  | 6 => .array .int
  | 7 => .array .int
  | 8 => .array .int
  | 9 => .array .int
  | 10 => .array .int
  | 11 => .array .int
  | 12 => .array .int
  | 13 => .array .int
  | _ => .array .int
theorem n_M : ∀ a, a < 15 → ∀ b, b < 15 → a ≠ b → (F_M a).2.1 ≠ (F_M b).2.1 := by decide +kernel
theorem t_M_ok : ∀ k, k < 15 → parseFieldDescriptor (F_M k).2.2.1 = some (t_M k) := by decide +kernel
abbrev R_L : String := "EnclaveGuardsLaw"
abbrev clX : List vw_C := [(R_X, F_X, 6), (R_G, F_G, 3), (R_P, F_P, 3), (R_E, F_E, 9), (R_M, F_M, 15)]
abbrev tyX (ca : Nat → ClassId) : List (ClassId × FieldType) := [(ca 0, .int), (ca 1, .object R_P), (ca 2, .object R_E), (ca 3, .object R_G)]
def TT : List Cond := lw_tbl.filter goodWord
theorem gTT : GoodIn TT TT := fun w hw => ⟨hw, good_of_word (List.mem_filter.mp hw).2⟩
theorem tt_of {w : Cond} (i : Nat) (h : tables_1[i]? = some w) (g : goodWord w = true) : w ∈ TT := List.mem_filter.mpr ⟨List.mem_append_right _ (List.mem_of_getElem? h), g⟩
theorem ts_of {q : MethodName × Nat} (i : Nat) (h : lw_privs[i]? = some q) (g : goodWord (Cond.selects q.1.cls q.1 q.1) = true) : Cond.selects q.1.cls q.1 q.1 ∈ TT := List.mem_filter.mpr ⟨List.mem_append_left _ (List.mem_map.mpr ⟨q, List.mem_of_getElem? h, rfl⟩), g⟩
abbrev b_X_init : ByteArray := prog_1_method_1_code
def y_X_init : MethodName := ⟨"EnclaveGuards", "<init>", "(I)V"⟩
abbrev b_E_init : ByteArray := prog_2_method_1_code
def y_E_init : MethodName := ⟨"EnclaveGuards$Enclave", "<init>", "()V"⟩
abbrev b_P_init : ByteArray := prog_4_method_1_code
def y_P_init : MethodName := ⟨"EnclaveGuards$Processor", "<init>", "()V"⟩
abbrev b_G_init : ByteArray := prog_3_method_1_code
def y_G_init : MethodName := ⟨"EnclaveGuards$Guard", "<init>", "()V"⟩
abbrev b_X_setAllGuards : ByteArray := prog_1_method_41_code
def y_X_setAllGuards : MethodName := ⟨"EnclaveGuards", "setAllGuards", "()V"⟩
abbrev b_X_setGuards : ByteArray := prog_1_method_42_code
def y_X_setGuards : MethodName := ⟨"EnclaveGuards", "setGuards", "(LEnclaveGuards$Processor;)V"⟩
abbrev b_G_setBlock : ByteArray := prog_3_method_4_code
def y_G_setBlock : MethodName := ⟨"EnclaveGuards$Guard", "setBlock", "(III)V"⟩
abbrev b_G_setTo : ByteArray := prog_3_method_2_code
def y_G_setTo : MethodName := ⟨"EnclaveGuards$Guard", "setTo", "(III)V"⟩
abbrev b_X_setEnclaveGuards : ByteArray := prog_1_method_43_code
def y_X_setEnclaveGuards : MethodName := ⟨"EnclaveGuards", "setEnclaveGuards", "(LEnclaveGuards$Enclave;LEnclaveGuards$Guard;LEnclaveGuards$Guard;I)V"⟩
abbrev b_G_setOff : ByteArray := prog_3_method_3_code
def y_G_setOff : MethodName := ⟨"EnclaveGuards$Guard", "setOff", "(I)V"⟩
abbrev b_E_isBlock : ByteArray := prog_2_method_4_code
def y_E_isBlock : MethodName := ⟨"EnclaveGuards$Enclave", "isBlock", "()Z"⟩
abbrev b_E_firstWord : ByteArray := prog_2_method_2_code
def y_E_firstWord : MethodName := ⟨"EnclaveGuards$Enclave", "firstWord", "()I"⟩
abbrev b_E_endWord : ByteArray := prog_2_method_3_code
def y_E_endWord : MethodName := ⟨"EnclaveGuards$Enclave", "endWord", "()I"⟩
abbrev b_X_setSharedGuard : ByteArray := prog_1_method_44_code
def y_X_setSharedGuard : MethodName := ⟨"EnclaveGuards", "setSharedGuard", "(LEnclaveGuards$Processor;)V"⟩
abbrev b_X_load : ByteArray := prog_1_method_2_code
def y_X_load : MethodName := ⟨"EnclaveGuards", "load", "(II)J"⟩
abbrev b_X_isBusy : ByteArray := prog_1_method_27_code
def y_X_isBusy : MethodName := ⟨"EnclaveGuards", "isBusy", "(I)Z"⟩
abbrev b_X_isProcessor : ByteArray := prog_1_method_19_code
def y_X_isProcessor : MethodName := ⟨"EnclaveGuards", "isProcessor", "(I)Z"⟩
abbrev b_X_isAllowed : ByteArray := prog_1_method_40_code
def y_X_isAllowed : MethodName := ⟨"EnclaveGuards", "isAllowed", "(LEnclaveGuards$Processor;II)Z"⟩
abbrev b_X_isAddress : ByteArray := prog_1_method_21_code
def y_X_isAddress : MethodName := ⟨"EnclaveGuards", "isAddress", "(I)Z"⟩
abbrev b_G_matches : ByteArray := prog_3_method_5_code
def y_G_matches : MethodName := ⟨"EnclaveGuards$Guard", "matches", "(II)Z"⟩
abbrev b_X_store : ByteArray := prog_1_method_3_code
def y_X_store : MethodName := ⟨"EnclaveGuards", "store", "(III)I"⟩
abbrev b_X_denied : ByteArray := prog_1_method_4_code
def y_X_denied : MethodName := ⟨"EnclaveGuards", "denied", "()I"⟩
abbrev b_X_give : ByteArray := prog_1_method_5_code
def y_X_give : MethodName := ⟨"EnclaveGuards", "give", "(III)Z"⟩
abbrev b_X_isRegister : ByteArray := prog_1_method_20_code
def y_X_isRegister : MethodName := ⟨"EnclaveGuards", "isRegister", "(I)Z"⟩
abbrev b_X_register : ByteArray := prog_1_method_6_code
def y_X_register : MethodName := ⟨"EnclaveGuards", "register", "(II)J"⟩
abbrev b_X_create : ByteArray := prog_1_method_7_code
def y_X_create : MethodName := ⟨"EnclaveGuards", "create", "(IIIII)I"⟩
abbrev b_X_arePages : ByteArray := prog_1_method_25_code
def y_X_arePages : MethodName := ⟨"EnclaveGuards", "arePages", "(II)Z"⟩
abbrev b_X_isPage : ByteArray := prog_1_method_22_code
def y_X_isPage : MethodName := ⟨"EnclaveGuards", "isPage", "(I)Z"⟩
abbrev b_X_isOnPages : ByteArray := prog_1_method_26_code
def y_X_isOnPages : MethodName := ⟨"EnclaveGuards", "isOnPages", "(III)Z"⟩
abbrev b_X_isShared : ByteArray := prog_1_method_24_code
def y_X_isShared : MethodName := ⟨"EnclaveGuards", "isShared", "(I)Z"⟩
abbrev b_X_areSystemPages : ByteArray := prog_1_method_30_code
def y_X_areSystemPages : MethodName := ⟨"EnclaveGuards", "areSystemPages", "(II)Z"⟩
abbrev b_X_canShare : ByteArray := prog_1_method_31_code
def y_X_canShare : MethodName := ⟨"EnclaveGuards", "canShare", "(III)Z"⟩
abbrev b_X_leastFreeEnclave : ByteArray := prog_1_method_32_code
def y_X_leastFreeEnclave : MethodName := ⟨"EnclaveGuards", "leastFreeEnclave", "()I"⟩
abbrev b_X_makeEnclave : ByteArray := prog_1_method_33_code
def y_X_makeEnclave : MethodName := ⟨"EnclaveGuards", "makeEnclave", "(IIIII)V"⟩
abbrev b_X_measure : ByteArray := prog_1_method_36_code
def y_X_measure : MethodName := ⟨"EnclaveGuards", "measure", "(LEnclaveGuards$Enclave;)I"⟩
abbrev b_X_mix : ByteArray := prog_1_method_37_code
def y_X_mix : MethodName := ⟨"EnclaveGuards", "mix", "(II)I"⟩
abbrev b_X_setOwner : ByteArray := prog_1_method_35_code
def y_X_setOwner : MethodName := ⟨"EnclaveGuards", "setOwner", "(LEnclaveGuards$Enclave;I)V"⟩
abbrev b_X_run : ByteArray := prog_1_method_8_code
def y_X_run : MethodName := ⟨"EnclaveGuards", "run", "(III)I"⟩
abbrev b_X_isThere : ByteArray := prog_1_method_29_code
def y_X_isThere : MethodName := ⟨"EnclaveGuards", "isThere", "(I)Z"⟩
abbrev b_X_isEnclaveNumber : ByteArray := prog_1_method_23_code
def y_X_isEnclaveNumber : MethodName := ⟨"EnclaveGuards", "isEnclaveNumber", "(I)Z"⟩
abbrev b_E_startWith : ByteArray := prog_2_method_5_code
def y_E_startWith : MethodName := ⟨"EnclaveGuards$Enclave", "startWith", "(I)V"⟩
abbrev b_X_step : ByteArray := prog_1_method_9_code
def y_X_step : MethodName := ⟨"EnclaveGuards", "step", "(II)I"⟩
abbrev b_X_runsEnclave : ByteArray := prog_1_method_28_code
def y_X_runsEnclave : MethodName := ⟨"EnclaveGuards", "runsEnclave", "(I)Z"⟩
abbrev b_X_makeStep : ByteArray := prog_1_method_46_code
def y_X_makeStep : MethodName := ⟨"EnclaveGuards", "makeStep", "(LEnclaveGuards$Processor;LEnclaveGuards$Enclave;)V"⟩
abbrev b_E_endWith : ByteArray := prog_2_method_6_code
def y_E_endWith : MethodName := ⟨"EnclaveGuards$Enclave", "endWith", "(II)V"⟩
abbrev b_X_doWord : ByteArray := prog_1_method_47_code
def y_X_doWord : MethodName := ⟨"EnclaveGuards", "doWord", "(LEnclaveGuards$Processor;LEnclaveGuards$Enclave;I)I"⟩
abbrev b_X_loadFor : ByteArray := prog_1_method_48_code
def y_X_loadFor : MethodName := ⟨"EnclaveGuards", "loadFor", "(LEnclaveGuards$Processor;LEnclaveGuards$Enclave;II)V"⟩
abbrev b_X_storeFor : ByteArray := prog_1_method_49_code
def y_X_storeFor : MethodName := ⟨"EnclaveGuards", "storeFor", "(LEnclaveGuards$Processor;LEnclaveGuards$Enclave;II)V"⟩
abbrev b_X_proofOf : ByteArray := prog_1_method_38_code
def y_X_proofOf : MethodName := ⟨"EnclaveGuards", "proofOf", "(II)I"⟩
abbrev b_X_secretOf : ByteArray := prog_1_method_39_code
def y_X_secretOf : MethodName := ⟨"EnclaveGuards", "secretOf", "(I)I"⟩
abbrev b_X_runSystem : ByteArray := prog_1_method_45_code
def y_X_runSystem : MethodName := ⟨"EnclaveGuards", "runSystem", "(LEnclaveGuards$Processor;)V"⟩
abbrev b_X_interrupt : ByteArray := prog_1_method_10_code
def y_X_interrupt : MethodName := ⟨"EnclaveGuards", "interrupt", "(I)I"⟩
abbrev b_X_destroy : ByteArray := prog_1_method_11_code
def y_X_destroy : MethodName := ⟨"EnclaveGuards", "destroy", "(II)I"⟩
abbrev b_X_removeEnclave : ByteArray := prog_1_method_34_code
def y_X_removeEnclave : MethodName := ⟨"EnclaveGuards", "removeEnclave", "(LEnclaveGuards$Enclave;)V"⟩
abbrev b_X_state : ByteArray := prog_1_method_12_code
def y_X_state : MethodName := ⟨"EnclaveGuards", "state", "(I)I"⟩
abbrev b_X_released : ByteArray := prog_1_method_13_code
def y_X_released : MethodName := ⟨"EnclaveGuards", "released", "(I)J"⟩
abbrev b_X_measurement : ByteArray := prog_1_method_14_code
def y_X_measurement : MethodName := ⟨"EnclaveGuards", "measurement", "(I)J"⟩
abbrev b_X_verify : ByteArray := prog_1_method_15_code
def y_X_verify : MethodName := ⟨"EnclaveGuards", "verify", "(III)Z"⟩
abbrev b_X_running : ByteArray := prog_1_method_16_code
def y_X_running : MethodName := ⟨"EnclaveGuards", "running", "(I)I"⟩
abbrev b_X_owner : ByteArray := prog_1_method_17_code
def y_X_owner : MethodName := ⟨"EnclaveGuards", "owner", "(I)I"⟩
abbrev b_X_guard : ByteArray := prog_1_method_18_code
def y_X_guard : MethodName := ⟨"EnclaveGuards", "guard", "(III)I"⟩
abbrev b_L_cell : ByteArray := method_2_code
def y_L_cell : MethodName := ⟨"EnclaveGuardsLaw", "cell", "([II)I"⟩
abbrev b_M_init : ByteArray := prog_6_method_1_code
def y_M_init : MethodName := ⟨"EnclaveGuardsModel", "<init>", "(I)V"⟩
abbrev b_M_load : ByteArray := prog_6_method_8_code
def y_M_load : MethodName := ⟨"EnclaveGuardsModel", "load", "(II)J"⟩
abbrev b_M_busy : ByteArray := prog_6_method_5_code
def y_M_busy : MethodName := ⟨"EnclaveGuardsModel", "busy", "(I)Z"⟩
abbrev b_M_processor : ByteArray := prog_6_method_4_code
def y_M_processor : MethodName := ⟨"EnclaveGuardsModel", "processor", "(I)Z"⟩
abbrev b_M_allowed : ByteArray := prog_6_method_7_code
def y_M_allowed : MethodName := ⟨"EnclaveGuardsModel", "allowed", "(III)Z"⟩
abbrev b_M_isShared : ByteArray := prog_6_method_6_code
def y_M_isShared : MethodName := ⟨"EnclaveGuardsModel", "isShared", "(II)Z"⟩
abbrev b_M_store : ByteArray := prog_6_method_9_code
def y_M_store : MethodName := ⟨"EnclaveGuardsModel", "store", "(III)I"⟩
abbrev b_M_denied : ByteArray := prog_6_method_10_code
def y_M_denied : MethodName := ⟨"EnclaveGuardsModel", "denied", "()I"⟩
abbrev b_M_give : ByteArray := prog_6_method_11_code
def y_M_give : MethodName := ⟨"EnclaveGuardsModel", "give", "(III)Z"⟩
abbrev b_M_register : ByteArray := prog_6_method_12_code
def y_M_register : MethodName := ⟨"EnclaveGuardsModel", "register", "(II)J"⟩
abbrev b_M_create : ByteArray := prog_6_method_15_code
def y_M_create : MethodName := ⟨"EnclaveGuardsModel", "create", "(IIIII)I"⟩
abbrev b_M_wrongRange : ByteArray := prog_6_method_13_code
def y_M_wrongRange : MethodName := ⟨"EnclaveGuardsModel", "wrongRange", "(IIII)Z"⟩
abbrev b_M_measure : ByteArray := prog_6_method_14_code
def y_M_measure : MethodName := ⟨"EnclaveGuardsModel", "measure", "(III)I"⟩
abbrev b_M_mix : ByteArray := prog_6_method_2_code
def y_M_mix : MethodName := ⟨"EnclaveGuardsModel", "mix", "(II)I"⟩
abbrev b_M_run : ByteArray := prog_6_method_17_code
def y_M_run : MethodName := ⟨"EnclaveGuardsModel", "run", "(III)I"⟩
abbrev b_M_there : ByteArray := prog_6_method_16_code
def y_M_there : MethodName := ⟨"EnclaveGuardsModel", "there", "(I)Z"⟩
abbrev b_M_step : ByteArray := prog_6_method_22_code
def y_M_step : MethodName := ⟨"EnclaveGuardsModel", "step", "(II)I"⟩
abbrev b_M_once : ByteArray := prog_6_method_20_code
def y_M_once : MethodName := ⟨"EnclaveGuardsModel", "once", "(I)V"⟩
abbrev b_M_end : ByteArray := prog_6_method_19_code
def y_M_end : MethodName := ⟨"EnclaveGuardsModel", "end", "(III)V"⟩
abbrev b_M_leave : ByteArray := prog_6_method_18_code
def y_M_leave : MethodName := ⟨"EnclaveGuardsModel", "leave", "(II)V"⟩
abbrev b_M_work : ByteArray := prog_6_method_21_code
def y_M_work : MethodName := ⟨"EnclaveGuardsModel", "work", "(IIIIII)V"⟩
abbrev b_M_proof : ByteArray := prog_6_method_3_code
def y_M_proof : MethodName := ⟨"EnclaveGuardsModel", "proof", "(II)I"⟩
abbrev b_M_interrupt : ByteArray := prog_6_method_23_code
def y_M_interrupt : MethodName := ⟨"EnclaveGuardsModel", "interrupt", "(I)I"⟩
abbrev b_M_destroy : ByteArray := prog_6_method_24_code
def y_M_destroy : MethodName := ⟨"EnclaveGuardsModel", "destroy", "(II)I"⟩
abbrev b_M_state : ByteArray := prog_6_method_25_code
def y_M_state : MethodName := ⟨"EnclaveGuardsModel", "state", "(I)I"⟩
abbrev b_M_released : ByteArray := prog_6_method_26_code
def y_M_released : MethodName := ⟨"EnclaveGuardsModel", "released", "(I)J"⟩
abbrev b_M_measurement : ByteArray := prog_6_method_27_code
def y_M_measurement : MethodName := ⟨"EnclaveGuardsModel", "measurement", "(I)J"⟩
abbrev b_M_verify : ByteArray := prog_6_method_28_code
def y_M_verify : MethodName := ⟨"EnclaveGuardsModel", "verify", "(III)Z"⟩
abbrev b_M_running : ByteArray := prog_6_method_29_code
def y_M_running : MethodName := ⟨"EnclaveGuardsModel", "running", "(I)I"⟩
abbrev b_M_owner : ByteArray := prog_6_method_30_code
def y_M_owner : MethodName := ⟨"EnclaveGuardsModel", "owner", "(I)I"⟩
abbrev b_M_guard : ByteArray := prog_6_method_32_code
def y_M_guard : MethodName := ⟨"EnclaveGuardsModel", "guard", "(III)I"⟩
abbrev b_M_shown : ByteArray := prog_6_method_31_code
def y_M_shown : MethodName := ⟨"EnclaveGuardsModel", "shown", "(IIII)I"⟩
theorem u_X : ∀ w ∈ u_ws R_X F_X 6, w ∈ TT := by
  intro w hw
  obtain ⟨k, hk, rfl⟩ := List.mem_map.mp hw
  have hk := List.mem_range.mp hk
  have hk : k = 0 ∨ k = 1 ∨ k = 2 ∨ k = 3 ∨ k = 4 ∨ k = 5 := by omega
  rcases hk with rfl | rfl | rfl | rfl | rfl | rfl
  · exact tt_of 144 (by decide +kernel) (by decide +kernel)
  · exact tt_of 146 (by decide +kernel) (by decide +kernel)
  · exact tt_of 148 (by decide +kernel) (by decide +kernel)
  · exact tt_of 150 (by decide +kernel) (by decide +kernel)
  · exact tt_of 152 (by decide +kernel) (by decide +kernel)
  · exact tt_of 154 (by decide +kernel) (by decide +kernel)
theorem u_G : ∀ w ∈ u_ws R_G F_G 3, w ∈ TT := by
  intro w hw
  obtain ⟨k, hk, rfl⟩ := List.mem_map.mp hw
  have hk := List.mem_range.mp hk
  have hk : k = 0 ∨ k = 1 ∨ k = 2 := by omega
  rcases hk with rfl | rfl | rfl
  · exact tt_of 78 (by decide +kernel) (by decide +kernel)
  · exact tt_of 80 (by decide +kernel) (by decide +kernel)
  · exact tt_of 82 (by decide +kernel) (by decide +kernel)
theorem u_P : ∀ w ∈ u_ws R_P F_P 3, w ∈ TT := by
  intro w hw
  obtain ⟨k, hk, rfl⟩ := List.mem_map.mp hw
  have hk := List.mem_range.mp hk
  have hk : k = 0 ∨ k = 1 ∨ k = 2 := by omega
  rcases hk with rfl | rfl | rfl
  · exact tt_of 91 (by decide +kernel) (by decide +kernel)
  · exact tt_of 93 (by decide +kernel) (by decide +kernel)
  · exact tt_of 95 (by decide +kernel) (by decide +kernel)
theorem u_E : ∀ w ∈ u_ws R_E F_E 9, w ∈ TT := by
  intro w hw
  obtain ⟨k, hk, rfl⟩ := List.mem_map.mp hw
  have hk := List.mem_range.mp hk
  have hk : k = 0 ∨ k = 1 ∨ k = 2 ∨ k = 3 ∨ k = 4 ∨ k = 5 ∨ k = 6 ∨ k = 7 ∨ k = 8 := by omega
  rcases hk with rfl | rfl | rfl | rfl | rfl | rfl | rfl | rfl | rfl
  · exact tt_of 38 (by decide +kernel) (by decide +kernel)
  · exact tt_of 40 (by decide +kernel) (by decide +kernel)
  · exact tt_of 42 (by decide +kernel) (by decide +kernel)
  · exact tt_of 44 (by decide +kernel) (by decide +kernel)
  · exact tt_of 46 (by decide +kernel) (by decide +kernel)
  · exact tt_of 48 (by decide +kernel) (by decide +kernel)
  · exact tt_of 50 (by decide +kernel) (by decide +kernel)
  · exact tt_of 52 (by decide +kernel) (by decide +kernel)
  · exact tt_of 54 (by decide +kernel) (by decide +kernel)
theorem u_M : ∀ w ∈ u_ws R_M F_M 15, w ∈ TT := by
  intro w hw
  obtain ⟨k, hk, rfl⟩ := List.mem_map.mp hw
  have hk := List.mem_range.mp hk
  have hk : k = 0 ∨ k = 1 ∨ k = 2 ∨ k = 3 ∨ k = 4 ∨ k = 5 ∨ k = 6 ∨ k = 7 ∨ k = 8 ∨ k = 9 ∨ k = 10 ∨ k = 11 ∨ k = 12 ∨ k = 13 ∨ k = 14 := by omega
  rcases hk with rfl | rfl | rfl | rfl | rfl | rfl | rfl | rfl | rfl | rfl | rfl | rfl | rfl | rfl | rfl
  · exact tt_of 363 (by decide +kernel) (by decide +kernel)
  · exact tt_of 365 (by decide +kernel) (by decide +kernel)
  · exact tt_of 367 (by decide +kernel) (by decide +kernel)
  · exact tt_of 369 (by decide +kernel) (by decide +kernel)
  · exact tt_of 371 (by decide +kernel) (by decide +kernel)
  · exact tt_of 373 (by decide +kernel) (by decide +kernel)
  · exact tt_of 375 (by decide +kernel) (by decide +kernel)
  · exact tt_of 377 (by decide +kernel) (by decide +kernel)
  · exact tt_of 379 (by decide +kernel) (by decide +kernel)
  · exact tt_of 381 (by decide +kernel) (by decide +kernel)
  · exact tt_of 383 (by decide +kernel) (by decide +kernel)
  · exact tt_of 385 (by decide +kernel) (by decide +kernel)
  · exact tt_of 387 (by decide +kernel) (by decide +kernel)
  · exact tt_of 389 (by decide +kernel) (by decide +kernel)
  · exact tt_of 391 (by decide +kernel) (by decide +kernel)
