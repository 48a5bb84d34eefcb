section
-- ===== PART A: goes FIRST, ahead of the names: the tables' words, and 'selects' of the private methods out of them =====
/-- a private method of a class that the tables say can be made, by its rows of tables_1 -/
def lw_okq (q : MethodName × Nat) : Prop := (q.1.cls ≠ "java/lang/invoke/MethodHandle" ∧ q.1.cls ≠ "java/lang/invoke/VarHandle") ∧ Cond.instantiable q.1.cls q.2 ∈ tables_1 ∧ Cond.privateMethod q.1 ∈ tables_1 ∧ Cond.instanceMethod q.1 ∈ tables_1
theorem lw_p0 : lw_okq (⟨"EnclaveGuards", "setAllGuards", "()V"⟩, 6) := ⟨⟨by decide +kernel, by decide +kernel⟩, List.mem_of_getElem? (i := 7) (by decide +kernel), List.mem_of_getElem? (i := 99) (by decide +kernel), List.mem_of_getElem? (i := 100) (by decide +kernel)⟩
theorem lw_p1 : lw_okq (⟨"EnclaveGuards", "setGuards", "(LEnclaveGuards$Processor;)V"⟩, 6) := ⟨⟨by decide +kernel, by decide +kernel⟩, List.mem_of_getElem? (i := 7) (by decide +kernel), List.mem_of_getElem? (i := 103) (by decide +kernel), List.mem_of_getElem? (i := 104) (by decide +kernel)⟩
theorem lw_p2 : lw_okq (⟨"EnclaveGuards", "setSharedGuard", "(LEnclaveGuards$Processor;)V"⟩, 6) := ⟨⟨by decide +kernel, by decide +kernel⟩, List.mem_of_getElem? (i := 7) (by decide +kernel), List.mem_of_getElem? (i := 135) (by decide +kernel), List.mem_of_getElem? (i := 136) (by decide +kernel)⟩
theorem lw_p3 : lw_okq (⟨"EnclaveGuards", "isBusy", "(I)Z"⟩, 6) := ⟨⟨by decide +kernel, by decide +kernel⟩, List.mem_of_getElem? (i := 7) (by decide +kernel), List.mem_of_getElem? (i := 162) (by decide +kernel), List.mem_of_getElem? (i := 163) (by decide +kernel)⟩
theorem lw_p4 : lw_okq (⟨"EnclaveGuards", "isAllowed", "(LEnclaveGuards$Processor;II)Z"⟩, 6) := ⟨⟨by decide +kernel, by decide +kernel⟩, List.mem_of_getElem? (i := 7) (by decide +kernel), List.mem_of_getElem? (i := 170) (by decide +kernel), List.mem_of_getElem? (i := 171) (by decide +kernel)⟩
theorem lw_p5 : lw_okq (⟨"EnclaveGuards", "areSystemPages", "(II)Z"⟩, 6) := ⟨⟨by decide +kernel, by decide +kernel⟩, List.mem_of_getElem? (i := 7) (by decide +kernel), List.mem_of_getElem? (i := 217) (by decide +kernel), List.mem_of_getElem? (i := 218) (by decide +kernel)⟩
theorem lw_p6 : lw_okq (⟨"EnclaveGuards", "canShare", "(III)Z"⟩, 6) := ⟨⟨by decide +kernel, by decide +kernel⟩, List.mem_of_getElem? (i := 7) (by decide +kernel), List.mem_of_getElem? (i := 221) (by decide +kernel), List.mem_of_getElem? (i := 222) (by decide +kernel)⟩
theorem lw_p7 : lw_okq (⟨"EnclaveGuards", "leastFreeEnclave", "()I"⟩, 6) := ⟨⟨by decide +kernel, by decide +kernel⟩, List.mem_of_getElem? (i := 7) (by decide +kernel), List.mem_of_getElem? (i := 225) (by decide +kernel), List.mem_of_getElem? (i := 226) (by decide +kernel)⟩
theorem lw_p8 : lw_okq (⟨"EnclaveGuards", "makeEnclave", "(IIIII)V"⟩, 6) := ⟨⟨by decide +kernel, by decide +kernel⟩, List.mem_of_getElem? (i := 7) (by decide +kernel), List.mem_of_getElem? (i := 229) (by decide +kernel), List.mem_of_getElem? (i := 230) (by decide +kernel)⟩
theorem lw_p9 : lw_okq (⟨"EnclaveGuards", "measure", "(LEnclaveGuards$Enclave;)I"⟩, 6) := ⟨⟨by decide +kernel, by decide +kernel⟩, List.mem_of_getElem? (i := 7) (by decide +kernel), List.mem_of_getElem? (i := 233) (by decide +kernel), List.mem_of_getElem? (i := 234) (by decide +kernel)⟩
theorem lw_p10 : lw_okq (⟨"EnclaveGuards", "setOwner", "(LEnclaveGuards$Enclave;I)V"⟩, 6) := ⟨⟨by decide +kernel, by decide +kernel⟩, List.mem_of_getElem? (i := 7) (by decide +kernel), List.mem_of_getElem? (i := 241) (by decide +kernel), List.mem_of_getElem? (i := 242) (by decide +kernel)⟩
theorem lw_p11 : lw_okq (⟨"EnclaveGuards", "isThere", "(I)Z"⟩, 6) := ⟨⟨by decide +kernel, by decide +kernel⟩, List.mem_of_getElem? (i := 7) (by decide +kernel), List.mem_of_getElem? (i := 249) (by decide +kernel), List.mem_of_getElem? (i := 250) (by decide +kernel)⟩
theorem lw_p12 : lw_okq (⟨"EnclaveGuards", "runsEnclave", "(I)Z"⟩, 6) := ⟨⟨by decide +kernel, by decide +kernel⟩, List.mem_of_getElem? (i := 7) (by decide +kernel), List.mem_of_getElem? (i := 264) (by decide +kernel), List.mem_of_getElem? (i := 265) (by decide +kernel)⟩
theorem lw_p13 : lw_okq (⟨"EnclaveGuards", "makeStep", "(LEnclaveGuards$Processor;LEnclaveGuards$Enclave;)V"⟩, 6) := ⟨⟨by decide +kernel, by decide +kernel⟩, List.mem_of_getElem? (i := 7) (by decide +kernel), List.mem_of_getElem? (i := 268) (by decide +kernel), List.mem_of_getElem? (i := 269) (by decide +kernel)⟩
theorem lw_p14 : lw_okq (⟨"EnclaveGuards", "doWord", "(LEnclaveGuards$Processor;LEnclaveGuards$Enclave;I)I"⟩, 6) := ⟨⟨by decide +kernel, by decide +kernel⟩, List.mem_of_getElem? (i := 7) (by decide +kernel), List.mem_of_getElem? (i := 276) (by decide +kernel), List.mem_of_getElem? (i := 277) (by decide +kernel)⟩
theorem lw_p15 : lw_okq (⟨"EnclaveGuards", "loadFor", "(LEnclaveGuards$Processor;LEnclaveGuards$Enclave;II)V"⟩, 6) := ⟨⟨by decide +kernel, by decide +kernel⟩, List.mem_of_getElem? (i := 7) (by decide +kernel), List.mem_of_getElem? (i := 280) (by decide +kernel), List.mem_of_getElem? (i := 281) (by decide +kernel)⟩
def lw_privs_1 : List (MethodName × Nat) := [(⟨"EnclaveGuards", "setAllGuards", "()V"⟩, 6), (⟨"EnclaveGuards", "setGuards", "(LEnclaveGuards$Processor;)V"⟩, 6), (⟨"EnclaveGuards", "setSharedGuard", "(LEnclaveGuards$Processor;)V"⟩, 6), (⟨"EnclaveGuards", "isBusy", "(I)Z"⟩, 6), (⟨"EnclaveGuards", "isAllowed", "(LEnclaveGuards$Processor;II)Z"⟩, 6), (⟨"EnclaveGuards", "areSystemPages", "(II)Z"⟩, 6), (⟨"EnclaveGuards", "canShare", "(III)Z"⟩, 6), (⟨"EnclaveGuards", "leastFreeEnclave", "()I"⟩, 6), (⟨"EnclaveGuards", "makeEnclave", "(IIIII)V"⟩, 6), (⟨"EnclaveGuards", "measure", "(LEnclaveGuards$Enclave;)I"⟩, 6), (⟨"EnclaveGuards", "setOwner", "(LEnclaveGuards$Enclave;I)V"⟩, 6), (⟨"EnclaveGuards", "isThere", "(I)Z"⟩, 6), (⟨"EnclaveGuards", "runsEnclave", "(I)Z"⟩, 6), (⟨"EnclaveGuards", "makeStep", "(LEnclaveGuards$Processor;LEnclaveGuards$Enclave;)V"⟩, 6), (⟨"EnclaveGuards", "doWord", "(LEnclaveGuards$Processor;LEnclaveGuards$Enclave;I)I"⟩, 6), (⟨"EnclaveGuards", "loadFor", "(LEnclaveGuards$Processor;LEnclaveGuards$Enclave;II)V"⟩, 6)]
theorem lw_r1 : ∀ q ∈ lw_privs_1, lw_okq q := List.forall_mem_cons.mpr ⟨lw_p0, List.forall_mem_cons.mpr ⟨lw_p1, List.forall_mem_cons.mpr ⟨lw_p2, List.forall_mem_cons.mpr ⟨lw_p3, List.forall_mem_cons.mpr ⟨lw_p4, List.forall_mem_cons.mpr ⟨lw_p5, List.forall_mem_cons.mpr ⟨lw_p6, List.forall_mem_cons.mpr ⟨lw_p7, List.forall_mem_cons.mpr ⟨lw_p8, List.forall_mem_cons.mpr ⟨lw_p9, List.forall_mem_cons.mpr ⟨lw_p10, List.forall_mem_cons.mpr ⟨lw_p11, List.forall_mem_cons.mpr ⟨lw_p12, List.forall_mem_cons.mpr ⟨lw_p13, List.forall_mem_cons.mpr ⟨lw_p14, List.forall_mem_cons.mpr ⟨lw_p15, fun _ h => absurd h List.not_mem_nil⟩⟩⟩⟩⟩⟩⟩⟩⟩⟩⟩⟩⟩⟩⟩⟩
theorem lw_p16 : lw_okq (⟨"EnclaveGuards", "storeFor", "(LEnclaveGuards$Processor;LEnclaveGuards$Enclave;II)V"⟩, 6) := ⟨⟨by decide +kernel, by decide +kernel⟩, List.mem_of_getElem? (i := 7) (by decide +kernel), List.mem_of_getElem? (i := 284) (by decide +kernel), List.mem_of_getElem? (i := 285) (by decide +kernel)⟩
theorem lw_p17 : lw_okq (⟨"EnclaveGuards", "proofOf", "(II)I"⟩, 6) := ⟨⟨by decide +kernel, by decide +kernel⟩, List.mem_of_getElem? (i := 7) (by decide +kernel), List.mem_of_getElem? (i := 288) (by decide +kernel), List.mem_of_getElem? (i := 289) (by decide +kernel)⟩
theorem lw_p18 : lw_okq (⟨"EnclaveGuards", "secretOf", "(I)I"⟩, 6) := ⟨⟨by decide +kernel, by decide +kernel⟩, List.mem_of_getElem? (i := 7) (by decide +kernel), List.mem_of_getElem? (i := 292) (by decide +kernel), List.mem_of_getElem? (i := 293) (by decide +kernel)⟩
theorem lw_p19 : lw_okq (⟨"EnclaveGuards", "runSystem", "(LEnclaveGuards$Processor;)V"⟩, 6) := ⟨⟨by decide +kernel, by decide +kernel⟩, List.mem_of_getElem? (i := 7) (by decide +kernel), List.mem_of_getElem? (i := 296) (by decide +kernel), List.mem_of_getElem? (i := 297) (by decide +kernel)⟩
theorem lw_p20 : lw_okq (⟨"EnclaveGuards", "removeEnclave", "(LEnclaveGuards$Enclave;)V"⟩, 6) := ⟨⟨by decide +kernel, by decide +kernel⟩, List.mem_of_getElem? (i := 7) (by decide +kernel), List.mem_of_getElem? (i := 308) (by decide +kernel), List.mem_of_getElem? (i := 309) (by decide +kernel)⟩
theorem lw_p21 : lw_okq (⟨"EnclaveGuardsModel", "busy", "(I)Z"⟩, 15) := ⟨⟨by decide +kernel, by decide +kernel⟩, List.mem_of_getElem? (i := 343) (by decide +kernel), List.mem_of_getElem? (i := 399) (by decide +kernel), List.mem_of_getElem? (i := 400) (by decide +kernel)⟩
theorem lw_p22 : lw_okq (⟨"EnclaveGuardsModel", "allowed", "(III)Z"⟩, 15) := ⟨⟨by decide +kernel, by decide +kernel⟩, List.mem_of_getElem? (i := 343) (by decide +kernel), List.mem_of_getElem? (i := 407) (by decide +kernel), List.mem_of_getElem? (i := 408) (by decide +kernel)⟩
theorem lw_p23 : lw_okq (⟨"EnclaveGuardsModel", "isShared", "(II)Z"⟩, 15) := ⟨⟨by decide +kernel, by decide +kernel⟩, List.mem_of_getElem? (i := 343) (by decide +kernel), List.mem_of_getElem? (i := 411) (by decide +kernel), List.mem_of_getElem? (i := 412) (by decide +kernel)⟩
theorem lw_p24 : lw_okq (⟨"EnclaveGuardsModel", "wrongRange", "(IIII)Z"⟩, 15) := ⟨⟨by decide +kernel, by decide +kernel⟩, List.mem_of_getElem? (i := 343) (by decide +kernel), List.mem_of_getElem? (i := 436) (by decide +kernel), List.mem_of_getElem? (i := 437) (by decide +kernel)⟩
theorem lw_p25 : lw_okq (⟨"EnclaveGuardsModel", "measure", "(III)I"⟩, 15) := ⟨⟨by decide +kernel, by decide +kernel⟩, List.mem_of_getElem? (i := 343) (by decide +kernel), List.mem_of_getElem? (i := 440) (by decide +kernel), List.mem_of_getElem? (i := 441) (by decide +kernel)⟩
theorem lw_p26 : lw_okq (⟨"EnclaveGuardsModel", "there", "(I)Z"⟩, 15) := ⟨⟨by decide +kernel, by decide +kernel⟩, List.mem_of_getElem? (i := 343) (by decide +kernel), List.mem_of_getElem? (i := 452) (by decide +kernel), List.mem_of_getElem? (i := 453) (by decide +kernel)⟩
theorem lw_p27 : lw_okq (⟨"EnclaveGuardsModel", "once", "(I)V"⟩, 15) := ⟨⟨by decide +kernel, by decide +kernel⟩, List.mem_of_getElem? (i := 343) (by decide +kernel), List.mem_of_getElem? (i := 460) (by decide +kernel), List.mem_of_getElem? (i := 461) (by decide +kernel)⟩
theorem lw_p28 : lw_okq (⟨"EnclaveGuardsModel", "end", "(III)V"⟩, 15) := ⟨⟨by decide +kernel, by decide +kernel⟩, List.mem_of_getElem? (i := 343) (by decide +kernel), List.mem_of_getElem? (i := 464) (by decide +kernel), List.mem_of_getElem? (i := 465) (by decide +kernel)⟩
theorem lw_p29 : lw_okq (⟨"EnclaveGuardsModel", "leave", "(II)V"⟩, 15) := ⟨⟨by decide +kernel, by decide +kernel⟩, List.mem_of_getElem? (i := 343) (by decide +kernel), List.mem_of_getElem? (i := 468) (by decide +kernel), List.mem_of_getElem? (i := 469) (by decide +kernel)⟩
theorem lw_p30 : lw_okq (⟨"EnclaveGuardsModel", "work", "(IIIIII)V"⟩, 15) := ⟨⟨by decide +kernel, by decide +kernel⟩, List.mem_of_getElem? (i := 343) (by decide +kernel), List.mem_of_getElem? (i := 472) (by decide +kernel), List.mem_of_getElem? (i := 473) (by decide +kernel)⟩
theorem lw_p31 : lw_okq (⟨"EnclaveGuardsModel", "proof", "(II)I"⟩, 15) := ⟨⟨by decide +kernel, by decide +kernel⟩, List.mem_of_getElem? (i := 343) (by decide +kernel), List.mem_of_getElem? (i := 476) (by decide +kernel), List.mem_of_getElem? (i := 477) (by decide +kernel)⟩
def lw_privs_2 : List (MethodName × Nat) := [(⟨"EnclaveGuards", "storeFor", "(LEnclaveGuards$Processor;LEnclaveGuards$Enclave;II)V"⟩, 6), (⟨"EnclaveGuards", "proofOf", "(II)I"⟩, 6), (⟨"EnclaveGuards", "secretOf", "(I)I"⟩, 6), (⟨"EnclaveGuards", "runSystem", "(LEnclaveGuards$Processor;)V"⟩, 6), (⟨"EnclaveGuards", "removeEnclave", "(LEnclaveGuards$Enclave;)V"⟩, 6), (⟨"EnclaveGuardsModel", "busy", "(I)Z"⟩, 15), (⟨"EnclaveGuardsModel", "allowed", "(III)Z"⟩, 15), (⟨"EnclaveGuardsModel", "isShared", "(II)Z"⟩, 15), (⟨"EnclaveGuardsModel", "wrongRange", "(IIII)Z"⟩, 15), (⟨"EnclaveGuardsModel", "measure", "(III)I"⟩, 15), (⟨"EnclaveGuardsModel", "there", "(I)Z"⟩, 15), (⟨"EnclaveGuardsModel", "once", "(I)V"⟩, 15), (⟨"EnclaveGuardsModel", "end", "(III)V"⟩, 15), (⟨"EnclaveGuardsModel", "leave", "(II)V"⟩, 15), (⟨"EnclaveGuardsModel", "work", "(IIIIII)V"⟩, 15), (⟨"EnclaveGuardsModel", "proof", "(II)I"⟩, 15)]
theorem lw_r2 : ∀ q ∈ lw_privs_2, lw_okq q := List.forall_mem_cons.mpr ⟨lw_p16, List.forall_mem_cons.mpr ⟨lw_p17, List.forall_mem_cons.mpr ⟨lw_p18, List.forall_mem_cons.mpr ⟨lw_p19, List.forall_mem_cons.mpr ⟨lw_p20, List.forall_mem_cons.mpr ⟨lw_p21, List.forall_mem_cons.mpr ⟨lw_p22, List.forall_mem_cons.mpr ⟨lw_p23, List.forall_mem_cons.mpr ⟨lw_p24, List.forall_mem_cons.mpr ⟨lw_p25, List.forall_mem_cons.mpr ⟨lw_p26, List.forall_mem_cons.mpr ⟨lw_p27, List.forall_mem_cons.mpr ⟨lw_p28, List.forall_mem_cons.mpr ⟨lw_p29, List.forall_mem_cons.mpr ⟨lw_p30, List.forall_mem_cons.mpr ⟨lw_p31, fun _ h => absurd h List.not_mem_nil⟩⟩⟩⟩⟩⟩⟩⟩⟩⟩⟩⟩⟩⟩⟩⟩
def lw_privs : List (MethodName × Nat) := lw_privs_1 ++ (lw_privs_2)
def lw_tbl : List Cond := k2_sels lw_privs ++ tables_1
theorem lw_privs_ok : ∀ q ∈ lw_privs, lw_okq q := by
  show ∀ q ∈ lw_privs_1 ++ (lw_privs_2), lw_okq q
  exact List.forall_mem_append.mpr ⟨lw_r1, lw_r2⟩
end
section
abbrev R_X : String := "EnclaveGuards"
def F_X : u_T := fun k => match k with
  | 0 => ("EnclaveGuards", "key", "I", true)
  | 1 => ("EnclaveGuards", "memory", "[I", true)
  | 2 => ("EnclaveGuards", "owners", "[I", true)
  | 3 => ("EnclaveGuards", "processors", "[LEnclaveGuards$Processor;", true)
  | 4 => ("EnclaveGuards", "enclaves", "[LEnclaveGuards$Enclave;", true)
  | _ => ("EnclaveGuards", "deniedCount", "I", false)
def t_X : Nat → FieldType := fun k => match k with
  | 0 => .int
  | 1 => .array .int
  | 2 => .array .int
  | 3 => .array (.object "EnclaveGuards$Processor")
  | 4 => .array (.object "EnclaveGuards$Enclave")
  | _ => .int
theorem n_X : ∀ a, a < 6 → ∀ b, b < 6 → a ≠ b → (F_X a).2.1 ≠ (F_X b).2.1 := by decide +kernel
theorem t_X_ok : ∀ k, k < 6 → parseFieldDescriptor (F_X k).2.2.1 = some (t_X k) := by decide +kernel
abbrev R_G : String := "EnclaveGuards$Guard"
def F_G : u_T := fun k => match k with
  | 0 => ("EnclaveGuards$Guard", "mode", "I", false)
  | 1 => ("EnclaveGuards$Guard", "rights", "I", false)
  | _ => ("EnclaveGuards$Guard", "address", "I", false)
def t_G : Nat → FieldType := fun k => match k with
  | 0 => .int
  | 1 => .int
  | _ => .int
theorem n_G : ∀ a, a < 3 → ∀ b, b < 3 → a ≠ b → (F_G a).2.1 ≠ (F_G b).2.1 := by decide +kernel
theorem t_G_ok : ∀ k, k < 3 → parseFieldDescriptor (F_G k).2.2.1 = some (t_G k) := by decide +kernel
abbrev R_P : String := "EnclaveGuards$Processor"
def F_P : u_T := fun k => match k with
  | 0 => ("EnclaveGuards$Processor", "registers", "[I", true)
  | 1 => ("EnclaveGuards$Processor", "guards", "[LEnclaveGuards$Guard;", true)
  | _ => ("EnclaveGuards$Processor", "enclave", "I", false)
def t_P : Nat → FieldType := fun k => match k with
  | 0 => .array .int
  | 1 => .array (.object "EnclaveGuards$Guard")
  | _ => .int
theorem n_P : ∀ a, a < 3 → ∀ b, b < 3 → a ≠ b → (F_P a).2.1 ≠ (F_P b).2.1 := by decide +kernel
theorem t_P_ok : ∀ k, k < 3 → parseFieldDescriptor (F_P k).2.2.1 = some (t_P k) := by decide +kernel
abbrev R_E : String := "EnclaveGuards$Enclave"
def F_E : u_T := fun k => match k with
  | 0 => ("EnclaveGuards$Enclave", "registers", "[I", true)
  | 1 => ("EnclaveGuards$Enclave", "state", "I", false)
  | 2 => ("EnclaveGuards$Enclave", "first", "I", false)
  | 3 => ("EnclaveGuards$Enclave", "pages", "I", false)
  | 4 => ("EnclaveGuards$Enclave", "entry", "I", false)
  | 5 => ("EnclaveGuards$Enclave", "shared", "I", false)
  | 6 => ("EnclaveGuards$Enclave", "measurement", "I", false)
  | 7 => ("EnclaveGuards$Enclave", "pc", "I", false)
  | _ => ("EnclaveGuards$Enclave", "released", "I", false)
def t_E : Nat → FieldType := fun k => match k with
  | 0 => .array .int
  | 1 => .int
  | 2 => .int
  | 3 => .int
  | 4 => .int
  | 5 => .int
  | 6 => .int
  | 7 => .int
  | _ => .int
theorem n_E : ∀ a, a < 9 → ∀ b, b < 9 → a ≠ b → (F_E a).2.1 ≠ (F_E b).2.1 := by decide +kernel
theorem t_E_ok : ∀ k, k < 9 → parseFieldDescriptor (F_E k).2.2.1 = some (t_E k) := by decide +kernel
abbrev R_M : String := "EnclaveGuardsModel"
def F_M : u_T := fun k => match k with
  | 0 => ("EnclaveGuardsModel", "key", "I", true)
  | 1 => ("EnclaveGuardsModel", "words", "[I", true)
  | 2 => ("EnclaveGuardsModel", "owners", "[I", true)
  | 3 => ("EnclaveGuardsModel", "kept", "[I", true)
  | 4 => ("EnclaveGuardsModel", "runs", "[I", true)
  | 5 => ("EnclaveGuardsModel", "wrong", "I", false)
  | 6 => ("EnclaveGuardsModel", "states", "[I", true)
  | 7 => ("EnclaveGuardsModel", "firsts", "[I", true)
  | 8 => ("EnclaveGuardsModel", "sizes", "[I", true)
  | 9 => ("EnclaveGuardsModel", "entries", "[I", true)
  | 10 => ("EnclaveGuardsModel", "shares", "[I", true)
  | 11 => ("EnclaveGuardsModel", "measures", "[I", true)
  | 12 => ("EnclaveGuardsModel", "outs", "[I", true)
  | 13 => ("EnclaveGuardsModel", "counters", "[I", true)
  | _ => ("EnclaveGuardsModel", "\x72", "[I", true)
def t_M : Nat → FieldType := fun k => match k with
  | 0 => .int
  | 1 => .array .int
  | 2 => .array .int
  | 3 => .array .int
  | 4 => .array .int
  | 5 => .int
  | 6 => .array .int
  | 7 => .array .int
  | 8 => .array .int
  | 9 => .array .int
  | 10 => .array .int
  | 11 => .array .int
  | 12 => .array .int
  | 13 => .array .int
  | _ => .array .int
theorem n_M : ∀ a, a < 15 → ∀ b, b < 15 → a ≠ b → (F_M a).2.1 ≠ (F_M b).2.1 := by decide +kernel
theorem t_M_ok : ∀ k, k < 15 → parseFieldDescriptor (F_M k).2.2.1 = some (t_M k) := by decide +kernel
abbrev R_L : String := "EnclaveGuardsLaw"
abbrev clX : List vw_C := [(R_X, F_X, 6), (R_G, F_G, 3), (R_P, F_P, 3), (R_E, F_E, 9), (R_M, F_M, 15)]
abbrev tyX (ca : Nat → ClassId) : List (ClassId × FieldType) := [(ca 0, .int), (ca 1, .object R_P), (ca 2, .object R_E), (ca 3, .object R_G)]
def TT : List Cond := lw_tbl.filter goodWord
theorem gTT : GoodIn TT TT := fun w hw => ⟨hw, good_of_word (List.mem_filter.mp hw).2⟩
theorem tt_of {w : Cond} (i : Nat) (h : tables_1[i]? = some w) (g : goodWord w = true) : w ∈ TT := List.mem_filter.mpr ⟨List.mem_append_right _ (List.mem_of_getElem? h), g⟩
theorem ts_of {q : MethodName × Nat} (i : Nat) (h : lw_privs[i]? = some q) (g : goodWord (Cond.selects q.1.cls q.1 q.1) = true) : Cond.selects q.1.cls q.1 q.1 ∈ TT := List.mem_filter.mpr ⟨List.mem_append_left _ (List.mem_map.mpr ⟨q, List.mem_of_getElem? h, rfl⟩), g⟩
abbrev b_X_init : ByteArray := prog_1_method_1_code
def y_X_init : MethodName := ⟨"EnclaveGuards", "<init>", "(I)V"⟩
abbrev b_E_init : ByteArray := prog_2_method_1_code
def y_E_init : MethodName := ⟨"EnclaveGuards$Enclave", "<init>", "()V"⟩
abbrev b_P_init : ByteArray := prog_4_method_1_code
def y_P_init : MethodName := ⟨"EnclaveGuards$Processor", "<init>", "()V"⟩
abbrev b_G_init : ByteArray := prog_3_method_1_code
def y_G_init : MethodName := ⟨"EnclaveGuards$Guard", "<init>", "()V"⟩
abbrev b_X_setAllGuards : ByteArray := prog_1_method_41_code
def y_X_setAllGuards : MethodName := ⟨"EnclaveGuards", "setAllGuards", "()V"⟩
abbrev b_X_setGuards : ByteArray := prog_1_method_42_code
def y_X_setGuards : MethodName := ⟨"EnclaveGuards", "setGuards", "(LEnclaveGuards$Processor;)V"⟩
abbrev b_G_setBlock : ByteArray := prog_3_method_4_code
def y_G_setBlock : MethodName := ⟨"EnclaveGuards$Guard", "setBlock", "(III)V"⟩
abbrev b_G_setTo : ByteArray := prog_3_method_2_code
def y_G_setTo : MethodName := ⟨"EnclaveGuards$Guard", "setTo", "(III)V"⟩
abbrev b_X_setEnclaveGuards : ByteArray := prog_1_method_43_code
def y_X_setEnclaveGuards : MethodName := ⟨"EnclaveGuards", "setEnclaveGuards", "(LEnclaveGuards$Enclave;LEnclaveGuards$Guard;LEnclaveGuards$Guard;I)V"⟩
abbrev b_G_setOff : ByteArray := prog_3_method_3_code
def y_G_setOff : MethodName := ⟨"EnclaveGuards$Guard", "setOff", "(I)V"⟩
abbrev b_E_isBlock : ByteArray := prog_2_method_4_code
def y_E_isBlock : MethodName := ⟨"EnclaveGuards$Enclave", "isBlock", "()Z"⟩
abbrev b_E_firstWord : ByteArray := prog_2_method_2_code
def y_E_firstWord : MethodName := ⟨"EnclaveGuards$Enclave", "firstWord", "()I"⟩
abbrev b_E_endWord : ByteArray := prog_2_method_3_code
def y_E_endWord : MethodName := ⟨"EnclaveGuards$Enclave", "endWord", "()I"⟩
abbrev b_X_setSharedGuard : ByteArray := prog_1_method_44_code
def y_X_setSharedGuard : MethodName := ⟨"EnclaveGuards", "setSharedGuard", "(LEnclaveGuards$Processor;)V"⟩
abbrev b_X_load : ByteArray := prog_1_method_2_code
def y_X_load : MethodName := ⟨"EnclaveGuards", "load", "(II)J"⟩
abbrev b_X_isBusy : ByteArray := prog_1_method_27_code
def y_X_isBusy : MethodName := ⟨"EnclaveGuards", "isBusy", "(I)Z"⟩
abbrev b_X_isProcessor : ByteArray := prog_1_method_19_code
def y_X_isProcessor : MethodName := ⟨"EnclaveGuards", "isProcessor", "(I)Z"⟩
abbrev b_X_isAllowed : ByteArray := prog_1_method_40_code
def y_X_isAllowed : MethodName := ⟨"EnclaveGuards", "isAllowed", "(LEnclaveGuards$Processor;II)Z"⟩
abbrev b_X_isAddress : ByteArray := prog_1_method_21_code
def y_X_isAddress : MethodName := ⟨"EnclaveGuards", "isAddress", "(I)Z"⟩
abbrev b_G_matches : ByteArray := prog_3_method_5_code
def y_G_matches : MethodName := ⟨"EnclaveGuards$Guard", "matches", "(II)Z"⟩
abbrev b_X_store : ByteArray := prog_1_method_3_code
def y_X_store : MethodName := ⟨"EnclaveGuards", "store", "(III)I"⟩
abbrev b_X_denied : ByteArray := prog_1_method_4_code
def y_X_denied : MethodName := ⟨"EnclaveGuards", "denied", "()I"⟩
abbrev b_X_give : ByteArray := prog_1_method_5_code
def y_X_give : MethodName := ⟨"EnclaveGuards", "give", "(III)Z"⟩
abbrev b_X_isRegister : ByteArray := prog_1_method_20_code
def y_X_isRegister : MethodName := ⟨"EnclaveGuards", "isRegister", "(I)Z"⟩
abbrev b_X_register : ByteArray := prog_1_method_6_code
def y_X_register : MethodName := ⟨"EnclaveGuards", "register", "(II)J"⟩
abbrev b_X_create : ByteArray := prog_1_method_7_code
def y_X_create : MethodName := ⟨"EnclaveGuards", "create", "(IIIII)I"⟩
abbrev b_X_arePages : ByteArray := prog_1_method_25_code
def y_X_arePages : MethodName := ⟨"EnclaveGuards", "arePages", "(II)Z"⟩
abbrev b_X_isPage : ByteArray := prog_1_method_22_code
def y_X_isPage : MethodName := ⟨"EnclaveGuards", "isPage", "(I)Z"⟩
abbrev b_X_isOnPages : ByteArray := prog_1_method_26_code
def y_X_isOnPages : MethodName := ⟨"EnclaveGuards", "isOnPages", "(III)Z"⟩
abbrev b_X_isShared : ByteArray := prog_1_method_24_code
def y_X_isShared : MethodName := ⟨"EnclaveGuards", "isShared", "(I)Z"⟩
abbrev b_X_areSystemPages : ByteArray := prog_1_method_30_code
def y_X_areSystemPages : MethodName := ⟨"EnclaveGuards", "areSystemPages", "(II)Z"⟩
abbrev b_X_canShare : ByteArray := prog_1_method_31_code
def y_X_canShare : MethodName := ⟨"EnclaveGuards", "canShare", "(III)Z"⟩
abbrev b_X_leastFreeEnclave : ByteArray := prog_1_method_32_code
def y_X_leastFreeEnclave : MethodName := ⟨"EnclaveGuards", "leastFreeEnclave", "()I"⟩
abbrev b_X_makeEnclave : ByteArray := prog_1_method_33_code
def y_X_makeEnclave : MethodName := ⟨"EnclaveGuards", "makeEnclave", "(IIIII)V"⟩
abbrev b_X_measure : ByteArray := prog_1_method_36_code
def y_X_measure : MethodName := ⟨"EnclaveGuards", "measure", "(LEnclaveGuards$Enclave;)I"⟩
abbrev b_X_mix : ByteArray := prog_1_method_37_code
def y_X_mix : MethodName := ⟨"EnclaveGuards", "mix", "(II)I"⟩
abbrev b_X_setOwner : ByteArray := prog_1_method_35_code
def y_X_setOwner : MethodName := ⟨"EnclaveGuards", "setOwner", "(LEnclaveGuards$Enclave;I)V"⟩
abbrev b_X_run : ByteArray := prog_1_method_8_code
def y_X_run : MethodName := ⟨"EnclaveGuards", "run", "(III)I"⟩
abbrev b_X_isThere : ByteArray := prog_1_method_29_code
def y_X_isThere : MethodName := ⟨"EnclaveGuards", "isThere", "(I)Z"⟩
abbrev b_X_isEnclaveNumber : ByteArray := prog_1_method_23_code
def y_X_isEnclaveNumber : MethodName := ⟨"EnclaveGuards", "isEnclaveNumber", "(I)Z"⟩
abbrev b_E_startWith : ByteArray := prog_2_method_5_code
def y_E_startWith : MethodName := ⟨"EnclaveGuards$Enclave", "startWith", "(I)V"⟩
abbrev b_X_step : ByteArray := prog_1_method_9_code
def y_X_step : MethodName := ⟨"EnclaveGuards", "step", "(II)I"⟩
abbrev b_X_runsEnclave : ByteArray := prog_1_method_28_code
def y_X_runsEnclave : MethodName := ⟨"EnclaveGuards", "runsEnclave", "(I)Z"⟩
abbrev b_X_makeStep : ByteArray := prog_1_method_46_code
def y_X_makeStep : MethodName := ⟨"EnclaveGuards", "makeStep", "(LEnclaveGuards$Processor;LEnclaveGuards$Enclave;)V"⟩
abbrev b_E_endWith : ByteArray := prog_2_method_6_code
def y_E_endWith : MethodName := ⟨"EnclaveGuards$Enclave", "endWith", "(II)V"⟩
abbrev b_X_doWord : ByteArray := prog_1_method_47_code
def y_X_doWord : MethodName := ⟨"EnclaveGuards", "doWord", "(LEnclaveGuards$Processor;LEnclaveGuards$Enclave;I)I"⟩
abbrev b_X_loadFor : ByteArray := prog_1_method_48_code
def y_X_loadFor : MethodName := ⟨"EnclaveGuards", "loadFor", "(LEnclaveGuards$Processor;LEnclaveGuards$Enclave;II)V"⟩
abbrev b_X_storeFor : ByteArray := prog_1_method_49_code
def y_X_storeFor : MethodName := ⟨"EnclaveGuards", "storeFor", "(LEnclaveGuards$Processor;LEnclaveGuards$Enclave;II)V"⟩
abbrev b_X_proofOf : ByteArray := prog_1_method_38_code
def y_X_proofOf : MethodName := ⟨"EnclaveGuards", "proofOf", "(II)I"⟩
abbrev b_X_secretOf : ByteArray := prog_1_method_39_code
def y_X_secretOf : MethodName := ⟨"EnclaveGuards", "secretOf", "(I)I"⟩
abbrev b_X_runSystem : ByteArray := prog_1_method_45_code
def y_X_runSystem : MethodName := ⟨"EnclaveGuards", "runSystem", "(LEnclaveGuards$Processor;)V"⟩
abbrev b_X_interrupt : ByteArray := prog_1_method_10_code
def y_X_interrupt : MethodName := ⟨"EnclaveGuards", "interrupt", "(I)I"⟩
abbrev b_X_destroy : ByteArray := prog_1_method_11_code
def y_X_destroy : MethodName := ⟨"EnclaveGuards", "destroy", "(II)I"⟩
abbrev b_X_removeEnclave : ByteArray := prog_1_method_34_code
def y_X_removeEnclave : MethodName := ⟨"EnclaveGuards", "removeEnclave", "(LEnclaveGuards$Enclave;)V"⟩
abbrev b_X_state : ByteArray := prog_1_method_12_code
def y_X_state : MethodName := ⟨"EnclaveGuards", "state", "(I)I"⟩
abbrev b_X_released : ByteArray := prog_1_method_13_code
def y_X_released : MethodName := ⟨"EnclaveGuards", "released", "(I)J"⟩
abbrev b_X_measurement : ByteArray := prog_1_method_14_code
def y_X_measurement : MethodName := ⟨"EnclaveGuards", "measurement", "(I)J"⟩
abbrev b_X_verify : ByteArray := prog_1_method_15_code
def y_X_verify : MethodName := ⟨"EnclaveGuards", "verify", "(III)Z"⟩
abbrev b_X_running : ByteArray := prog_1_method_16_code
def y_X_running : MethodName := ⟨"EnclaveGuards", "running", "(I)I"⟩
abbrev b_X_owner : ByteArray := prog_1_method_17_code
def y_X_owner : MethodName := ⟨"EnclaveGuards", "owner", "(I)I"⟩
abbrev b_X_guard : ByteArray := prog_1_method_18_code
def y_X_guard : MethodName := ⟨"EnclaveGuards", "guard", "(III)I"⟩
abbrev b_L_cell : ByteArray := method_2_code
def y_L_cell : MethodName := ⟨"EnclaveGuardsLaw", "cell", "([II)I"⟩
abbrev b_M_init : ByteArray := prog_6_method_1_code
def y_M_init : MethodName := ⟨"EnclaveGuardsModel", "<init>", "(I)V"⟩
abbrev b_M_load : ByteArray := prog_6_method_8_code
def y_M_load : MethodName := ⟨"EnclaveGuardsModel", "load", "(II)J"⟩
abbrev b_M_busy : ByteArray := prog_6_method_5_code
def y_M_busy : MethodName := ⟨"EnclaveGuardsModel", "busy", "(I)Z"⟩
abbrev b_M_processor : ByteArray := prog_6_method_4_code
def y_M_processor : MethodName := ⟨"EnclaveGuardsModel", "processor", "(I)Z"⟩
abbrev b_M_allowed : ByteArray := prog_6_method_7_code
def y_M_allowed : MethodName := ⟨"EnclaveGuardsModel", "allowed", "(III)Z"⟩
abbrev b_M_isShared : ByteArray := prog_6_method_6_code
def y_M_isShared : MethodName := ⟨"EnclaveGuardsModel", "isShared", "(II)Z"⟩
abbrev b_M_store : ByteArray := prog_6_method_9_code
def y_M_store : MethodName := ⟨"EnclaveGuardsModel", "store", "(III)I"⟩
abbrev b_M_denied : ByteArray := prog_6_method_10_code
def y_M_denied : MethodName := ⟨"EnclaveGuardsModel", "denied", "()I"⟩
abbrev b_M_give : ByteArray := prog_6_method_11_code
def y_M_give : MethodName := ⟨"EnclaveGuardsModel", "give", "(III)Z"⟩
abbrev b_M_register : ByteArray := prog_6_method_12_code
def y_M_register : MethodName := ⟨"EnclaveGuardsModel", "register", "(II)J"⟩
abbrev b_M_create : ByteArray := prog_6_method_15_code
def y_M_create : MethodName := ⟨"EnclaveGuardsModel", "create", "(IIIII)I"⟩
abbrev b_M_wrongRange : ByteArray := prog_6_method_13_code
def y_M_wrongRange : MethodName := ⟨"EnclaveGuardsModel", "wrongRange", "(IIII)Z"⟩
abbrev b_M_measure : ByteArray := prog_6_method_14_code
def y_M_measure : MethodName := ⟨"EnclaveGuardsModel", "measure", "(III)I"⟩
abbrev b_M_mix : ByteArray := prog_6_method_2_code
def y_M_mix : MethodName := ⟨"EnclaveGuardsModel", "mix", "(II)I"⟩
abbrev b_M_run : ByteArray := prog_6_method_17_code
def y_M_run : MethodName := ⟨"EnclaveGuardsModel", "run", "(III)I"⟩
abbrev b_M_there : ByteArray := prog_6_method_16_code
def y_M_there : MethodName := ⟨"EnclaveGuardsModel", "there", "(I)Z"⟩
abbrev b_M_step : ByteArray := prog_6_method_22_code
def y_M_step : MethodName := ⟨"EnclaveGuardsModel", "step", "(II)I"⟩
abbrev b_M_once : ByteArray := prog_6_method_20_code
def y_M_once : MethodName := ⟨"EnclaveGuardsModel", "once", "(I)V"⟩
abbrev b_M_end : ByteArray := prog_6_method_19_code
def y_M_end : MethodName := ⟨"EnclaveGuardsModel", "end", "(III)V"⟩
abbrev b_M_leave : ByteArray := prog_6_method_18_code
def y_M_leave : MethodName := ⟨"EnclaveGuardsModel", "leave", "(II)V"⟩
abbrev b_M_work : ByteArray := prog_6_method_21_code
def y_M_work : MethodName := ⟨"EnclaveGuardsModel", "work", "(IIIIII)V"⟩
abbrev b_M_proof : ByteArray := prog_6_method_3_code
def y_M_proof : MethodName := ⟨"EnclaveGuardsModel", "proof", "(II)I"⟩
abbrev b_M_interrupt : ByteArray := prog_6_method_23_code
def y_M_interrupt : MethodName := ⟨"EnclaveGuardsModel", "interrupt", "(I)I"⟩
abbrev b_M_destroy : ByteArray := prog_6_method_24_code
def y_M_destroy : MethodName := ⟨"EnclaveGuardsModel", "destroy", "(II)I"⟩
abbrev b_M_state : ByteArray := prog_6_method_25_code
def y_M_state : MethodName := ⟨"EnclaveGuardsModel", "state", "(I)I"⟩
abbrev b_M_released : ByteArray := prog_6_method_26_code
def y_M_released : MethodName := ⟨"EnclaveGuardsModel", "released", "(I)J"⟩
abbrev b_M_measurement : ByteArray := prog_6_method_27_code
def y_M_measurement : MethodName := ⟨"EnclaveGuardsModel", "measurement", "(I)J"⟩
abbrev b_M_verify : ByteArray := prog_6_method_28_code
def y_M_verify : MethodName := ⟨"EnclaveGuardsModel", "verify", "(III)Z"⟩
abbrev b_M_running : ByteArray := prog_6_method_29_code
def y_M_running : MethodName := ⟨"EnclaveGuardsModel", "running", "(I)I"⟩
abbrev b_M_owner : ByteArray := prog_6_method_30_code
def y_M_owner : MethodName := ⟨"EnclaveGuardsModel", "owner", "(I)I"⟩
abbrev b_M_guard : ByteArray := prog_6_method_32_code
def y_M_guard : MethodName := ⟨"EnclaveGuardsModel", "guard", "(III)I"⟩
abbrev b_M_shown : ByteArray := prog_6_method_31_code
def y_M_shown : MethodName := ⟨"EnclaveGuardsModel", "shown", "(IIII)I"⟩
theorem u_X : ∀ w ∈ u_ws R_X F_X 6, w ∈ TT := by
  intro w hw
  obtain ⟨k, hk, rfl⟩ := List.mem_map.mp hw
  have hk := List.mem_range.mp hk
  have hk : k = 0 ∨ k = 1 ∨ k = 2 ∨ k = 3 ∨ k = 4 ∨ k = 5 := by omega
  rcases hk with rfl | rfl | rfl | rfl | rfl | rfl
  · exact tt_of 144 (by decide +kernel) (by decide +kernel)
  · exact tt_of 146 (by decide +kernel) (by decide +kernel)
  · exact tt_of 148 (by decide +kernel) (by decide +kernel)
  · exact tt_of 150 (by decide +kernel) (by decide +kernel)
  · exact tt_of 152 (by decide +kernel) (by decide +kernel)
  · exact tt_of 154 (by decide +kernel) (by decide +kernel)
theorem u_G : ∀ w ∈ u_ws R_G F_G 3, w ∈ TT := by
  intro w hw
  obtain ⟨k, hk, rfl⟩ := List.mem_map.mp hw
  have hk := List.mem_range.mp hk
  have hk : k = 0 ∨ k = 1 ∨ k = 2 := by omega
  rcases hk with rfl | rfl | rfl
  · exact tt_of 78 (by decide +kernel) (by decide +kernel)
  · exact tt_of 80 (by decide +kernel) (by decide +kernel)
  · exact tt_of 82 (by decide +kernel) (by decide +kernel)
theorem u_P : ∀ w ∈ u_ws R_P F_P 3, w ∈ TT := by
  intro w hw
  obtain ⟨k, hk, rfl⟩ := List.mem_map.mp hw
  have hk := List.mem_range.mp hk
  have hk : k = 0 ∨ k = 1 ∨ k = 2 := by omega
  rcases hk with rfl | rfl | rfl
  · exact tt_of 91 (by decide +kernel) (by decide +kernel)
  · exact tt_of 93 (by decide +kernel) (by decide +kernel)
  · exact tt_of 95 (by decide +kernel) (by decide +kernel)
theorem u_E : ∀ w ∈ u_ws R_E F_E 9, w ∈ TT := by
  intro w hw
  obtain ⟨k, hk, rfl⟩ := List.mem_map.mp hw
  have hk := List.mem_range.mp hk
  have hk : k = 0 ∨ k = 1 ∨ k = 2 ∨ k = 3 ∨ k = 4 ∨ k = 5 ∨ k = 6 ∨ k = 7 ∨ k = 8 := by omega
  rcases hk with rfl | rfl | rfl | rfl | rfl | rfl | rfl | rfl | rfl
  · exact tt_of 38 (by decide +kernel) (by decide +kernel)
  · exact tt_of 40 (by decide +kernel) (by decide +kernel)
  · exact tt_of 42 (by decide +kernel) (by decide +kernel)
  · exact tt_of 44 (by decide +kernel) (by decide +kernel)
  · exact tt_of 46 (by decide +kernel) (by decide +kernel)
  · exact tt_of 48 (by decide +kernel) (by decide +kernel)
  · exact tt_of 50 (by decide +kernel) (by decide +kernel)
  · exact tt_of 52 (by decide +kernel) (by decide +kernel)
  · exact tt_of 54 (by decide +kernel) (by decide +kernel)
theorem u_M : ∀ w ∈ u_ws R_M F_M 15, w ∈ TT := by
  intro w hw
  obtain ⟨k, hk, rfl⟩ := List.mem_map.mp hw
  have hk := List.mem_range.mp hk
  have hk : k = 0 ∨ k = 1 ∨ k = 2 ∨ k = 3 ∨ k = 4 ∨ k = 5 ∨ k = 6 ∨ k = 7 ∨ k = 8 ∨ k = 9 ∨ k = 10 ∨ k = 11 ∨ k = 12 ∨ k = 13 ∨ k = 14 := by omega
  rcases hk with rfl | rfl | rfl | rfl | rfl | rfl | rfl | rfl | rfl | rfl | rfl | rfl | rfl | rfl | rfl
  · exact tt_of 363 (by decide +kernel) (by decide +kernel)
  · exact tt_of 365 (by decide +kernel) (by decide +kernel)
  · exact tt_of 367 (by decide +kernel) (by decide +kernel)
  · exact tt_of 369 (by decide +kernel) (by decide +kernel)
  · exact tt_of 371 (by decide +kernel) (by decide +kernel)
  · exact tt_of 373 (by decide +kernel) (by decide +kernel)
  · exact tt_of 375 (by decide +kernel) (by decide +kernel)
  · exact tt_of 377 (by decide +kernel) (by decide +kernel)
  · exact tt_of 379 (by decide +kernel) (by decide +kernel)
  · exact tt_of 381 (by decide +kernel) (by decide +kernel)
  · exact tt_of 383 (by decide +kernel) (by decide +kernel)
  · exact tt_of 385 (by decide +kernel) (by decide +kernel)
  · exact tt_of 387 (by decide +kernel) (by decide +kernel)
  · exact tt_of 389 (by decide +kernel) (by decide +kernel)
  · exact tt_of 391 (by decide +kernel) (by decide +kernel)
end
section

-- ===== locals by their places =====
def ll_as : Nat → List (Option Value) → List (Nat × Value)
  | _, [] => []
  | i, none :: l => ll_as (i + 1) l
  | i, some v :: l => (i, v) :: ll_as (i + 1) l
theorem ll_mem (lv : List (Option Value)) : ∀ (b : Nat) (q : Nat × Value), q ∈ ll_as b lv ↔ ∃ j, q.1 = b + j ∧ lv[j]? = some (some q.2) := by
  induction lv with
  | nil => intro b q; simp [ll_as]
  | cons a l ih =>
    intro b q
    cases a with
    | none =>
      simp only [ll_as]
      rw [ih]
      constructor
      · rintro ⟨j, h1, h2⟩
        exact ⟨j + 1, by omega, by simpa using h2⟩
      · rintro ⟨j, h1, h2⟩
        cases j with
        | zero => simp at h2
        | succ j => exact ⟨j, by omega, by simpa using h2⟩
    | some v =>
      simp only [ll_as, List.mem_cons]
      rw [ih]
      constructor
      · rintro (h | ⟨j, h1, h2⟩)
        · subst h; exact ⟨0, by simp, by simp⟩
        · exact ⟨j + 1, by omega, by simpa using h2⟩
      · rintro ⟨j, h1, h2⟩
        cases j with
        | zero =>
          left
          obtain ⟨q1, q2⟩ := q
          simp at h1 h2
          rw [h1, h2]
        | succ j => right; exact ⟨j, by omega, by simpa using h2⟩
def ll_has (ls : Array Slot) (nL : Nat) (lv : List (Option Value)) : Prop := lv_has ls nL (ll_as 0 lv) ∧ ∀ (j : Nat) (v : Value), lv[j]? = some (some v) → v.category = 1
theorem ll_at {ls : Array Slot} {nL : Nat} {lv : List (Option Value)} (h : ll_has ls nL lv) {i : Nat} {v : Value} (hk : lv[i]? = some (some v)) : ls[i]? = some (.val v) :=
  h.1.2.2 (i, v) ((ll_mem _ _ _).mpr ⟨i, by simp, hk⟩)
theorem ll_pl {lv : List (Option Value)} {i : Nat} {v : Value} (hk : lv[i]? = some (some v)) : ∃ k : Nat, (ll_as 0 lv)[k]? = some (i, v) :=
  List.getElem?_of_mem ((ll_mem _ _ _).mpr ⟨i, by simp, hk⟩)
theorem ll_st {ls ls' : Array Slot} {nL i : Nat} {lv : List (Option Value)} {v : Value} (h : ll_has ls nL lv) (hc : v.category = 1) (h' : lv_has ls' nL ((i, v) :: (ll_as 0 lv).filter (fun q => !(q.1 == i) && !(q.1 + 1 == i && q.2.category == 2)))) : ll_has ls' nL (lv.set i (some v)) := by
  have key : ∀ (j : Nat) (u : Value), (lv.set i (some v))[j]? = some (some u) → (j = i ∧ u = v) ∨ (j ≠ i ∧ lv[j]? = some (some u)) := by
    intro j u hj
    rw [List.getElem?_set] at hj
    by_cases hji : i = j
    · rw [if_pos hji] at hj
      split at hj
      · cases hj; exact Or.inl ⟨hji.symm, rfl⟩
      · cases hj
    · rw [if_neg hji] at hj
      exact Or.inr ⟨Ne.symm hji, hj⟩
  refine ⟨⟨h'.1, h'.2.1, fun q hq => ?_⟩, fun j u hj => ?_⟩
  · obtain ⟨j, e, hj⟩ := (ll_mem _ _ _).mp hq
    obtain ⟨q1, q2⟩ := q
    simp only [Nat.zero_add] at e hj
    subst e
    rcases key _ _ hj with ⟨rfl, rfl⟩ | ⟨hne, hj⟩
    · exact h'.2.2 (_, _) List.mem_cons_self
    · refine h'.2.2 (_, _) (List.mem_cons_of_mem _ (List.mem_filter.mpr ⟨(ll_mem _ _ _).mpr ⟨q1, by simp, hj⟩, ?_⟩))
      have := h.2 _ _ hj
      simp [hne, this]
  · rcases key _ _ hj with ⟨rfl, rfl⟩ | ⟨hne, hj⟩
    · exact hc
    · exact h.2 _ _ hj
theorem ll_rep : ∀ (k b : Nat), ll_as b (List.replicate k none) = []
  | 0, _ => rfl
  | k + 1, b => by rw [List.replicate_succ]; exact ll_rep k (b + 1)
theorem ll_ent : ∀ (as : List Value) (k b : Nat), (∀ v ∈ as, v.category = 1) → ll_as b (as.map some ++ List.replicate k none) = lv_args b as
  | [], k, b, _ => ll_rep k b
  | v :: vs, k, b, h => by
    have h1 : v.category = 1 := h v List.mem_cons_self
    have h2 : ¬ v.category = 2 := by omega
    show (b, v) :: ll_as (b + 1) (vs.map some ++ List.replicate k none) = (b, v) :: lv_args (if v.category = 2 then b + 2 else b + 1) vs
    rw [if_neg h2, ll_ent vs k (b + 1) (fun u hu => h u (List.mem_cons_of_mem _ hu))]
theorem ll_len : ∀ (as : List Value), (∀ v ∈ as, v.category = 1) → (lg_sl as).length = as.length
  | [], _ => rfl
  | v :: vs, h => by
    have h1 : v.category = 1 := h v List.mem_cons_self
    have h2 : ¬ v.category = 2 := by omega
    have ih := ll_len vs (fun u hu => h u (List.mem_cons_of_mem _ hu))
    simp only [lg_sl, List.flatMap_cons] at ih ⊢
    rw [if_neg h2]
    simp [ih]
theorem ll_entry {as : List Value} {nL : Nat} (hc : ∀ v ∈ as, v.category = 1) (hn : as.length ≤ nL) : ll_has ((lg_sl as ++ List.replicate (nL - (lg_sl as).length) Slot.unset).toArray) nL (as.map some ++ List.replicate (nL - as.length) none) := by
  refine ⟨?_, fun j v hj => ?_⟩
  · rw [ll_ent _ _ _ hc]
    exact lv_entry as (by rw [ll_len as hc]; exact hn)
  · have h := List.mem_of_getElem? hj
    rcases List.mem_append.mp h with h | h
    · obtain ⟨u, hu, he⟩ := List.mem_map.mp h
      cases he
      exact hc _ hu
    · exact absurd (List.eq_of_mem_replicate h) (by simp)
-- ===== the judgement =====
def EV (p : Program) (l : Launch) (e : Env) (R : Room) (s : State) (m : MethodId) (args : Array Value) (below : List Frame) (meth : Method) (c : Code) (cells slots : Nat) (Q : State → Prop) (nL : Nat) (D : va_G) (cl : List vw_C) (A : Nat → Prop) (H0 : Heap) (w : va_W) (pc : Nat) (lv : List (Option Value)) (st : List Value) : Prop :=
  ∀ (H : Heap) (locs : List Loc) (ls : Array Slot), va_P D cl w H → va_D A w → va_S A H0 H locs → ll_has ls nL lv → W p l e R s m args below meth c H locs cells slots Q (F0 m pc ls st)
def ECx (p : Program) (s : State) (m : MethodId) (args : Array Value) (c : Code) (cc : ByteArray) (nL : Nat) (own : String) (Ts : List Cond) (D : va_G) (cl : List vw_C) (tys : List (ClassId × FieldType)) (A : Nat → Prop) (H0 : Heap) : Prop :=
  CallFix p m c cc nL s args Ts own ∧ va_K D cl tys s ∧ (∀ q : Nat, H0.size ≤ q → A q) ∧ GoodIn Ts Ts
def rmI (x y : Int32) : Int32 := x - x / y * y
/-- a boolean on the stack -/
def b2i (b : Bool) : Int32 := if b then 1 else 0
theorem b2i_0 {b : Bool} : b2i b = 0 ↔ b = false := by cases b <;> decide
theorem b2i_1 {b : Bool} : b2i b = 1 ↔ b = true := by cases b <;> decide
theorem b2i_n {b : Bool} : ¬ b2i b = 0 ↔ b = true := by cases b <;> decide
theorem b2i_nar (b : Bool) : narrow .boolean (.int (b2i b)) = .int (b2i b) := by cases b <;> decide
section EVR
variable {p : Program} {l : Launch} {e : Env} {R : Room} {s : State} {m : MethodId} {args : Array Value} {below : List Frame} {meth : Method} {c : Code} {cells slots : Nat} {Q : State → Prop}
variable {cc : ByteArray} {nL pc : Nat} {own : String} {Ts : List Cond} {D : va_G} {cl : List vw_C} {tys : List (ClassId × FieldType)} {A : Nat → Prop} {H0 : Heap} {w : va_W} {lv : List (Option Value)} {st : List Value}

theorem ev_iconst (X : ECx p s m args c cc nL own Ts D cl tys A H0) {n : Int} {v : Int32} (d : decode cc pc = .ok (.iconst n, 1)) (hv : Int32.ofInt n = v) (k : EV p l e R s m args below meth c cells slots Q nL D cl A H0 w (pc + 1) lv (.int v :: st)) : EV p l e R s m args below meth c cells slots Q nL D cl A H0 w pc lv st := fun H locs ls hP hD hS hl => lv_iconst X.1.1 X.1.2.1 d hv (k H locs ls hP hD hS hl)
theorem ev_bipush (X : ECx p s m args c cc nL own Ts D cl tys A H0) {n : Int} {v : Int32} (d : decode cc pc = .ok (.bipush n, 2)) (hv : (Int8.ofInt n).toInt32 = v) (k : EV p l e R s m args below meth c cells slots Q nL D cl A H0 w (pc + 2) lv (.int v :: st)) : EV p l e R s m args below meth c cells slots Q nL D cl A H0 w pc lv st := fun H locs ls hP hD hS hl => lv_bipush X.1.1 X.1.2.1 d hv (k H locs ls hP hD hS hl)
theorem ev_sipush (X : ECx p s m args c cc nL own Ts D cl tys A H0) {n : Int} {v : Int32} (d : decode cc pc = .ok (.sipush n, 3)) (hv : (Int16.ofInt n).toInt32 = v) (k : EV p l e R s m args below meth c cells slots Q nL D cl A H0 w (pc + 3) lv (.int v :: st)) : EV p l e R s m args below meth c cells slots Q nL D cl A H0 w pc lv st := fun H locs ls hP hD hS hl => lv_sipush X.1.1 X.1.2.1 d hv (k H locs ls hP hD hS hl)
theorem ev_ldc (X : ECx p s m args c cc nL own Ts D cl tys A H0) {index : Nat} {v : Int32} (hc : Cond.constant own index v ∈ Ts) (d : decode cc pc = .ok (.ldc index, 2)) (k : EV p l e R s m args below meth c cells slots Q nL D cl A H0 w (pc + 2) lv (.int v :: st)) : EV p l e R s m args below meth c cells slots Q nL D cl A H0 w pc lv st := fun H locs ls hP hD hS hl => lv_ldc X.1.1 X.1.2.1 X.1.2.2.2.1 (X.1.2.2.2.2 _ hc) d (k H locs ls hP hD hS hl)
theorem ev_ldc2 (X : ECx p s m args c cc nL own Ts D cl tys A H0) {index : Nat} {v : Int64} (hc : Cond.constantLong own index v ∈ Ts) (d : decode cc pc = .ok (.ldc2_w index, 3)) (k : EV p l e R s m args below meth c cells slots Q nL D cl A H0 w (pc + 3) lv (.long v :: st)) : EV p l e R s m args below meth c cells slots Q nL D cl A H0 w pc lv st := fun H locs ls hP hD hS hl => lv_ldc2 X.1.1 X.1.2.1 X.1.2.2.2.1 (X.1.2.2.2.2 _ hc) d (k H locs ls hP hD hS hl)
theorem ev_iload_n (X : ECx p s m args c cc nL own Ts D cl tys A H0) {i : Fin 4} {x : Int32} (d : decode cc pc = .ok (.iload_n i, 1)) (hi : lv[i.val]? = some (some (.int x))) (k : EV p l e R s m args below meth c cells slots Q nL D cl A H0 w (pc + 1) lv (.int x :: st)) : EV p l e R s m args below meth c cells slots Q nL D cl A H0 w pc lv st := fun H locs ls hP hD hS hl => lv_iload_n X.1.1 X.1.2.1 d rfl (ll_at hl hi) (k H locs ls hP hD hS hl)
theorem ev_iload (X : ECx p s m args c cc nL own Ts D cl tys A H0) {i : Nat} {x : Int32} (d : decode cc pc = .ok (.iload i, 2)) (hi : lv[i]? = some (some (.int x))) (k : EV p l e R s m args below meth c cells slots Q nL D cl A H0 w (pc + 2) lv (.int x :: st)) : EV p l e R s m args below meth c cells slots Q nL D cl A H0 w pc lv st := fun H locs ls hP hD hS hl => lv_iload X.1.1 X.1.2.1 d (ll_at hl hi) (k H locs ls hP hD hS hl)
theorem ev_aload_n (X : ECx p s m args c cc nL own Ts D cl tys A H0) {i : Fin 4} {x : Nat} (d : decode cc pc = .ok (.aload_n i, 1)) (hi : lv[i.val]? = some (some (.ref x))) (k : EV p l e R s m args below meth c cells slots Q nL D cl A H0 w (pc + 1) lv (.ref x :: st)) : EV p l e R s m args below meth c cells slots Q nL D cl A H0 w pc lv st := fun H locs ls hP hD hS hl => lv_aload_n X.1.1 X.1.2.1 d rfl (ll_at hl hi) (k H locs ls hP hD hS hl)
theorem ev_aload (X : ECx p s m args c cc nL own Ts D cl tys A H0) {i : Nat} {x : Nat} (d : decode cc pc = .ok (.aload i, 2)) (hi : lv[i]? = some (some (.ref x))) (k : EV p l e R s m args below meth c cells slots Q nL D cl A H0 w (pc + 2) lv (.ref x :: st)) : EV p l e R s m args below meth c cells slots Q nL D cl A H0 w pc lv st := fun H locs ls hP hD hS hl => lv_aload X.1.1 X.1.2.1 d (ll_at hl hi) (k H locs ls hP hD hS hl)
theorem ev_istore_n (X : ECx p s m args c cc nL own Ts D cl tys A H0) {i : Fin 4} {x : Int32} (d : decode cc pc = .ok (.istore_n i, 1)) (hn : i.val < nL) (k : EV p l e R s m args below meth c cells slots Q nL D cl A H0 w (pc + 1) (lv.set i.val (some (.int x))) st) : EV p l e R s m args below meth c cells slots Q nL D cl A H0 w pc lv (.int x :: st) := fun H locs ls hP hD hS hl => lv_istore_n X.1.1 X.1.2.1 d rfl hl.1 hn rfl (fun ls' h' => k H locs ls' hP hD hS (ll_st hl rfl h'))
theorem ev_istore (X : ECx p s m args c cc nL own Ts D cl tys A H0) {i : Nat} {x : Int32} (d : decode cc pc = .ok (.istore i, 2)) (hn : i < nL) (k : EV p l e R s m args below meth c cells slots Q nL D cl A H0 w (pc + 2) (lv.set i (some (.int x))) st) : EV p l e R s m args below meth c cells slots Q nL D cl A H0 w pc lv (.int x :: st) := fun H locs ls hP hD hS hl => lv_istore X.1.1 X.1.2.1 d hl.1 hn rfl (fun ls' h' => k H locs ls' hP hD hS (ll_st hl rfl h'))
theorem ev_astore_n (X : ECx p s m args c cc nL own Ts D cl tys A H0) {i : Fin 4} {x : Nat} (d : decode cc pc = .ok (.astore_n i, 1)) (hn : i.val < nL) (k : EV p l e R s m args below meth c cells slots Q nL D cl A H0 w (pc + 1) (lv.set i.val (some (.ref x))) st) : EV p l e R s m args below meth c cells slots Q nL D cl A H0 w pc lv (.ref x :: st) := fun H locs ls hP hD hS hl => lv_astore_n X.1.1 X.1.2.1 d rfl hl.1 hn rfl (fun ls' h' => k H locs ls' hP hD hS (ll_st hl rfl h'))
theorem ev_astore (X : ECx p s m args c cc nL own Ts D cl tys A H0) {i : Nat} {x : Nat} (d : decode cc pc = .ok (.astore i, 2)) (hn : i < nL) (k : EV p l e R s m args below meth c cells slots Q nL D cl A H0 w (pc + 2) (lv.set i (some (.ref x))) st) : EV p l e R s m args below meth c cells slots Q nL D cl A H0 w pc lv (.ref x :: st) := fun H locs ls hP hD hS hl => lv_astore X.1.1 X.1.2.1 d hl.1 hn rfl (fun ls' h' => k H locs ls' hP hD hS (ll_st hl rfl h'))
theorem ev_iinc (X : ECx p s m args c cc nL own Ts D cl tys A H0) {i : Nat} {n : Int} {x v : Int32} (d : decode cc pc = .ok (.iinc i n, 3)) (hi : lv[i]? = some (some (.int x))) (hv : x + Int32.ofInt n = v) (hn : i < nL) (k : EV p l e R s m args below meth c cells slots Q nL D cl A H0 w (pc + 3) (lv.set i (some (.int v))) st) : EV p l e R s m args below meth c cells slots Q nL D cl A H0 w pc lv st := fun H locs ls hP hD hS hl => by
  obtain ⟨q, hq⟩ := ll_pl hi
  exact lv_iinc X.1.1 X.1.2.1 d hl.1 hq hv hn rfl (fun ls' h' => k H locs ls' hP hD hS (ll_st hl rfl h'))
theorem ev_iadd (X : ECx p s m args c cc nL own Ts D cl tys A H0) {x y : Int32} (d : decode cc pc = .ok (.iadd, 1)) (k : EV p l e R s m args below meth c cells slots Q nL D cl A H0 w (pc + 1) lv (.int (x + y) :: st)) : EV p l e R s m args below meth c cells slots Q nL D cl A H0 w pc lv (.int y :: .int x :: st) := fun H locs ls hP hD hS hl => lv_iadd X.1.1 X.1.2.1 d (k H locs ls hP hD hS hl)
theorem ev_isub (X : ECx p s m args c cc nL own Ts D cl tys A H0) {x y : Int32} (d : decode cc pc = .ok (.isub, 1)) (k : EV p l e R s m args below meth c cells slots Q nL D cl A H0 w (pc + 1) lv (.int (x - y) :: st)) : EV p l e R s m args below meth c cells slots Q nL D cl A H0 w pc lv (.int y :: .int x :: st) := fun H locs ls hP hD hS hl => lv_isub X.1.1 X.1.2.1 d (k H locs ls hP hD hS hl)
theorem ev_imul (X : ECx p s m args c cc nL own Ts D cl tys A H0) {x y : Int32} (d : decode cc pc = .ok (.imul, 1)) (k : EV p l e R s m args below meth c cells slots Q nL D cl A H0 w (pc + 1) lv (.int (x * y) :: st)) : EV p l e R s m args below meth c cells slots Q nL D cl A H0 w pc lv (.int y :: .int x :: st) := fun H locs ls hP hD hS hl => lv_imul X.1.1 X.1.2.1 d (k H locs ls hP hD hS hl)
theorem ev_iand (X : ECx p s m args c cc nL own Ts D cl tys A H0) {x y : Int32} (d : decode cc pc = .ok (.iand, 1)) (k : EV p l e R s m args below meth c cells slots Q nL D cl A H0 w (pc + 1) lv (.int (x &&& y) :: st)) : EV p l e R s m args below meth c cells slots Q nL D cl A H0 w pc lv (.int y :: .int x :: st) := fun H locs ls hP hD hS hl => lv_iand X.1.1 X.1.2.1 d (k H locs ls hP hD hS hl)
theorem ev_ior (X : ECx p s m args c cc nL own Ts D cl tys A H0) {x y : Int32} (d : decode cc pc = .ok (.ior, 1)) (k : EV p l e R s m args below meth c cells slots Q nL D cl A H0 w (pc + 1) lv (.int (x ||| y) :: st)) : EV p l e R s m args below meth c cells slots Q nL D cl A H0 w pc lv (.int y :: .int x :: st) := fun H locs ls hP hD hS hl => lv_ior X.1.1 X.1.2.1 d (k H locs ls hP hD hS hl)
theorem ev_ixor (X : ECx p s m args c cc nL own Ts D cl tys A H0) {x y : Int32} (d : decode cc pc = .ok (.ixor, 1)) (k : EV p l e R s m args below meth c cells slots Q nL D cl A H0 w (pc + 1) lv (.int (x ^^^ y) :: st)) : EV p l e R s m args below meth c cells slots Q nL D cl A H0 w pc lv (.int y :: .int x :: st) := fun H locs ls hP hD hS hl => lv_ixor X.1.1 X.1.2.1 d (k H locs ls hP hD hS hl)
theorem ev_idiv (X : ECx p s m args c cc nL own Ts D cl tys A H0) {x y : Int32} (d : decode cc pc = .ok (.idiv, 1)) (hne : ¬ y = 0) (k : EV p l e R s m args below meth c cells slots Q nL D cl A H0 w (pc + 1) lv (.int (x / y) :: st)) : EV p l e R s m args below meth c cells slots Q nL D cl A H0 w pc lv (.int y :: .int x :: st) := fun H locs ls hP hD hS hl => lv_idiv X.1.1 X.1.2.1 d hne (k H locs ls hP hD hS hl)
theorem ev_irem (X : ECx p s m args c cc nL own Ts D cl tys A H0) {x y : Int32} (d : decode cc pc = .ok (.irem, 1)) (hne : ¬ y = 0) (k : EV p l e R s m args below meth c cells slots Q nL D cl A H0 w (pc + 1) lv (.int (rmI x y) :: st)) : EV p l e R s m args below meth c cells slots Q nL D cl A H0 w pc lv (.int y :: .int x :: st) := fun H locs ls hP hD hS hl => lv_irem X.1.1 X.1.2.1 d hne (k H locs ls hP hD hS hl)
theorem ev_ishr (X : ECx p s m args c cc nL own Ts D cl tys A H0) {x y : Int32} (d : decode cc pc = .ok (.ishr, 1)) (k : EV p l e R s m args below meth c cells slots Q nL D cl A H0 w (pc + 1) lv (.int (x >>> (y &&& 31)) :: st)) : EV p l e R s m args below meth c cells slots Q nL D cl A H0 w pc lv (.int y :: .int x :: st) := fun H locs ls hP hD hS hl => lv_ishr X.1.1 X.1.2.1 d (k H locs ls hP hD hS hl)
theorem ev_iushr (X : ECx p s m args c cc nL own Ts D cl tys A H0) {x y v : Int32} (d : decode cc pc = .ok (.iushr, 1)) (hv : (x.toUInt32 >>> (y.toUInt32 &&& Int32.toUInt32 31)).toInt32 = v) (k : EV p l e R s m args below meth c cells slots Q nL D cl A H0 w (pc + 1) lv (.int v :: st)) : EV p l e R s m args below meth c cells slots Q nL D cl A H0 w pc lv (.int y :: .int x :: st) := fun H locs ls hP hD hS hl => lv_iushr X.1.1 X.1.2.1 d hv (k H locs ls hP hD hS hl)
theorem ev_i2l (X : ECx p s m args c cc nL own Ts D cl tys A H0) {x : Int32} (d : decode cc pc = .ok (.i2l, 1)) (k : EV p l e R s m args below meth c cells slots Q nL D cl A H0 w (pc + 1) lv (.long x.toInt64 :: st)) : EV p l e R s m args below meth c cells slots Q nL D cl A H0 w pc lv (.int x :: st) := fun H locs ls hP hD hS hl => lv_i2l X.1.1 X.1.2.1 d rfl (k H locs ls hP hD hS hl)
theorem ev_lcmp (X : ECx p s m args c cc nL own Ts D cl tys A H0) {x y : Int64} (d : decode cc pc = .ok (.lcmp, 1)) (k : EV p l e R s m args below meth c cells slots Q nL D cl A H0 w (pc + 1) lv (.int (lg_cmp x y) :: st)) : EV p l e R s m args below meth c cells slots Q nL D cl A H0 w pc lv (.long y :: .long x :: st) := fun H locs ls hP hD hS hl => W.lcmp X.1.1 X.1.2.1 d (k H locs ls hP hD hS hl)
theorem ev_dup (X : ECx p s m args c cc nL own Ts D cl tys A H0) {va : Value} (d : decode cc pc = .ok (.dup, 1)) (ha : va.category = 1) (k : EV p l e R s m args below meth c cells slots Q nL D cl A H0 w (pc + 1) lv (va :: va :: st)) : EV p l e R s m args below meth c cells slots Q nL D cl A H0 w pc lv (va :: st) := fun H locs ls hP hD hS hl => lv_dup X.1.1 X.1.2.1 d ha (k H locs ls hP hD hS hl)
theorem ev_pop (X : ECx p s m args c cc nL own Ts D cl tys A H0) {va : Value} (d : decode cc pc = .ok (.pop, 1)) (ha : va.category = 1) (k : EV p l e R s m args below meth c cells slots Q nL D cl A H0 w (pc + 1) lv st) : EV p l e R s m args below meth c cells slots Q nL D cl A H0 w pc lv (va :: st) := fun H locs ls hP hD hS hl => lv_pop X.1.1 X.1.2.1 d ha (k H locs ls hP hD hS hl)
theorem ev_dup_x1 (X : ECx p s m args c cc nL own Ts D cl tys A H0) {va vb : Value} (d : decode cc pc = .ok (.dup_x1, 1)) (ha : va.category = 1) (hb : vb.category = 1) (k : EV p l e R s m args below meth c cells slots Q nL D cl A H0 w (pc + 1) lv (va :: vb :: va :: st)) : EV p l e R s m args below meth c cells slots Q nL D cl A H0 w pc lv (va :: vb :: st) := fun H locs ls hP hD hS hl => lv_dup_x1 X.1.1 X.1.2.1 d ha hb (k H locs ls hP hD hS hl)
theorem ev_dup_x2 (X : ECx p s m args c cc nL own Ts D cl tys A H0) {va vb vd : Value} (d : decode cc pc = .ok (.dup_x2, 1)) (ha : va.category = 1) (hb : vb.category = 1) (hd : vd.category = 1) (k : EV p l e R s m args below meth c cells slots Q nL D cl A H0 w (pc + 1) lv (va :: vb :: vd :: va :: st)) : EV p l e R s m args below meth c cells slots Q nL D cl A H0 w pc lv (va :: vb :: vd :: st) := fun H locs ls hP hD hS hl => lv_dup_x2 X.1.1 X.1.2.1 d ha hb hd (k H locs ls hP hD hS hl)
theorem ev_dup2 (X : ECx p s m args c cc nL own Ts D cl tys A H0) {va vb : Value} (d : decode cc pc = .ok (.dup2, 1)) (ha : va.category = 1) (hb : vb.category = 1) (k : EV p l e R s m args below meth c cells slots Q nL D cl A H0 w (pc + 1) lv (va :: vb :: va :: vb :: st)) : EV p l e R s m args below meth c cells slots Q nL D cl A H0 w pc lv (va :: vb :: st) := fun H locs ls hP hD hS hl => lv_dup2_11 X.1.1 X.1.2.1 d ha hb (k H locs ls hP hD hS hl)
theorem ev_if_eq (X : ECx p s m args c cc nL own Ts D cl tys A H0) {x : Int32} {off : Int} {tgt : Nat} (d : decode cc pc = .ok (.ifCond .eq off, 3)) (ht : (pc : Int) + off = (tgt : Int)) (kt : x = 0 → EV p l e R s m args below meth c cells slots Q nL D cl A H0 w tgt lv st) (kf : ¬ x = 0 → EV p l e R s m args below meth c cells slots Q nL D cl A H0 w (pc + 3) lv st) : EV p l e R s m args below meth c cells slots Q nL D cl A H0 w pc lv (.int x :: st) := fun H locs ls hP hD hS hl => lv_if_eq X.1.1 X.1.2.1 d ht (fun h => kt h H locs ls hP hD hS hl) (fun h => kf h H locs ls hP hD hS hl)
theorem ev_icmp_eq (X : ECx p s m args c cc nL own Ts D cl tys A H0) {x y : Int32} {off : Int} {tgt : Nat} (d : decode cc pc = .ok (.if_icmp .eq off, 3)) (ht : (pc : Int) + off = (tgt : Int)) (kt : x = y → EV p l e R s m args below meth c cells slots Q nL D cl A H0 w tgt lv st) (kf : ¬ x = y → EV p l e R s m args below meth c cells slots Q nL D cl A H0 w (pc + 3) lv st) : EV p l e R s m args below meth c cells slots Q nL D cl A H0 w pc lv (.int y :: .int x :: st) := fun H locs ls hP hD hS hl => lv_icmp_eq X.1.1 X.1.2.1 d ht (fun h => kt h H locs ls hP hD hS hl) (fun h => kf h H locs ls hP hD hS hl)
theorem ev_if_ne (X : ECx p s m args c cc nL own Ts D cl tys A H0) {x : Int32} {off : Int} {tgt : Nat} (d : decode cc pc = .ok (.ifCond .ne off, 3)) (ht : (pc : Int) + off = (tgt : Int)) (kt : ¬ x = 0 → EV p l e R s m args below meth c cells slots Q nL D cl A H0 w tgt lv st) (kf : x = 0 → EV p l e R s m args below meth c cells slots Q nL D cl A H0 w (pc + 3) lv st) : EV p l e R s m args below meth c cells slots Q nL D cl A H0 w pc lv (.int x :: st) := fun H locs ls hP hD hS hl => lv_if_ne X.1.1 X.1.2.1 d ht (fun h => kt h H locs ls hP hD hS hl) (fun h => kf h H locs ls hP hD hS hl)
theorem ev_icmp_ne (X : ECx p s m args c cc nL own Ts D cl tys A H0) {x y : Int32} {off : Int} {tgt : Nat} (d : decode cc pc = .ok (.if_icmp .ne off, 3)) (ht : (pc : Int) + off = (tgt : Int)) (kt : ¬ x = y → EV p l e R s m args below meth c cells slots Q nL D cl A H0 w tgt lv st) (kf : x = y → EV p l e R s m args below meth c cells slots Q nL D cl A H0 w (pc + 3) lv st) : EV p l e R s m args below meth c cells slots Q nL D cl A H0 w pc lv (.int y :: .int x :: st) := fun H locs ls hP hD hS hl => lv_icmp_ne X.1.1 X.1.2.1 d ht (fun h => kt h H locs ls hP hD hS hl) (fun h => kf h H locs ls hP hD hS hl)
theorem ev_if_lt (X : ECx p s m args c cc nL own Ts D cl tys A H0) {x : Int32} {off : Int} {tgt : Nat} (d : decode cc pc = .ok (.ifCond .lt off, 3)) (ht : (pc : Int) + off = (tgt : Int)) (kt : x < 0 → EV p l e R s m args below meth c cells slots Q nL D cl A H0 w tgt lv st) (kf : ¬ x < 0 → EV p l e R s m args below meth c cells slots Q nL D cl A H0 w (pc + 3) lv st) : EV p l e R s m args below meth c cells slots Q nL D cl A H0 w pc lv (.int x :: st) := fun H locs ls hP hD hS hl => lv_if_lt X.1.1 X.1.2.1 d ht (fun h => kt h H locs ls hP hD hS hl) (fun h => kf h H locs ls hP hD hS hl)
theorem ev_icmp_lt (X : ECx p s m args c cc nL own Ts D cl tys A H0) {x y : Int32} {off : Int} {tgt : Nat} (d : decode cc pc = .ok (.if_icmp .lt off, 3)) (ht : (pc : Int) + off = (tgt : Int)) (kt : x < y → EV p l e R s m args below meth c cells slots Q nL D cl A H0 w tgt lv st) (kf : ¬ x < y → EV p l e R s m args below meth c cells slots Q nL D cl A H0 w (pc + 3) lv st) : EV p l e R s m args below meth c cells slots Q nL D cl A H0 w pc lv (.int y :: .int x :: st) := fun H locs ls hP hD hS hl => lv_icmp_lt X.1.1 X.1.2.1 d ht (fun h => kt h H locs ls hP hD hS hl) (fun h => kf h H locs ls hP hD hS hl)
theorem ev_if_ge (X : ECx p s m args c cc nL own Ts D cl tys A H0) {x : Int32} {off : Int} {tgt : Nat} (d : decode cc pc = .ok (.ifCond .ge off, 3)) (ht : (pc : Int) + off = (tgt : Int)) (kt : 0 ≤ x → EV p l e R s m args below meth c cells slots Q nL D cl A H0 w tgt lv st) (kf : ¬ 0 ≤ x → EV p l e R s m args below meth c cells slots Q nL D cl A H0 w (pc + 3) lv st) : EV p l e R s m args below meth c cells slots Q nL D cl A H0 w pc lv (.int x :: st) := fun H locs ls hP hD hS hl => lv_if_ge X.1.1 X.1.2.1 d ht (fun h => kt h H locs ls hP hD hS hl) (fun h => kf h H locs ls hP hD hS hl)
theorem ev_icmp_ge (X : ECx p s m args c cc nL own Ts D cl tys A H0) {x y : Int32} {off : Int} {tgt : Nat} (d : decode cc pc = .ok (.if_icmp .ge off, 3)) (ht : (pc : Int) + off = (tgt : Int)) (kt : y ≤ x → EV p l e R s m args below meth c cells slots Q nL D cl A H0 w tgt lv st) (kf : ¬ y ≤ x → EV p l e R s m args below meth c cells slots Q nL D cl A H0 w (pc + 3) lv st) : EV p l e R s m args below meth c cells slots Q nL D cl A H0 w pc lv (.int y :: .int x :: st) := fun H locs ls hP hD hS hl => lv_icmp_ge X.1.1 X.1.2.1 d ht (fun h => kt h H locs ls hP hD hS hl) (fun h => kf h H locs ls hP hD hS hl)
theorem ev_if_gt (X : ECx p s m args c cc nL own Ts D cl tys A H0) {x : Int32} {off : Int} {tgt : Nat} (d : decode cc pc = .ok (.ifCond .gt off, 3)) (ht : (pc : Int) + off = (tgt : Int)) (kt : 0 < x → EV p l e R s m args below meth c cells slots Q nL D cl A H0 w tgt lv st) (kf : ¬ 0 < x → EV p l e R s m args below meth c cells slots Q nL D cl A H0 w (pc + 3) lv st) : EV p l e R s m args below meth c cells slots Q nL D cl A H0 w pc lv (.int x :: st) := fun H locs ls hP hD hS hl => lv_if_gt X.1.1 X.1.2.1 d ht (fun h => kt h H locs ls hP hD hS hl) (fun h => kf h H locs ls hP hD hS hl)
theorem ev_icmp_gt (X : ECx p s m args c cc nL own Ts D cl tys A H0) {x y : Int32} {off : Int} {tgt : Nat} (d : decode cc pc = .ok (.if_icmp .gt off, 3)) (ht : (pc : Int) + off = (tgt : Int)) (kt : y < x → EV p l e R s m args below meth c cells slots Q nL D cl A H0 w tgt lv st) (kf : ¬ y < x → EV p l e R s m args below meth c cells slots Q nL D cl A H0 w (pc + 3) lv st) : EV p l e R s m args below meth c cells slots Q nL D cl A H0 w pc lv (.int y :: .int x :: st) := fun H locs ls hP hD hS hl => lv_icmp_gt X.1.1 X.1.2.1 d ht (fun h => kt h H locs ls hP hD hS hl) (fun h => kf h H locs ls hP hD hS hl)
theorem ev_if_le (X : ECx p s m args c cc nL own Ts D cl tys A H0) {x : Int32} {off : Int} {tgt : Nat} (d : decode cc pc = .ok (.ifCond .le off, 3)) (ht : (pc : Int) + off = (tgt : Int)) (kt : x ≤ 0 → EV p l e R s m args below meth c cells slots Q nL D cl A H0 w tgt lv st) (kf : ¬ x ≤ 0 → EV p l e R s m args below meth c cells slots Q nL D cl A H0 w (pc + 3) lv st) : EV p l e R s m args below meth c cells slots Q nL D cl A H0 w pc lv (.int x :: st) := fun H locs ls hP hD hS hl => lv_if_le X.1.1 X.1.2.1 d ht (fun h => kt h H locs ls hP hD hS hl) (fun h => kf h H locs ls hP hD hS hl)
theorem ev_icmp_le (X : ECx p s m args c cc nL own Ts D cl tys A H0) {x y : Int32} {off : Int} {tgt : Nat} (d : decode cc pc = .ok (.if_icmp .le off, 3)) (ht : (pc : Int) + off = (tgt : Int)) (kt : x ≤ y → EV p l e R s m args below meth c cells slots Q nL D cl A H0 w tgt lv st) (kf : ¬ x ≤ y → EV p l e R s m args below meth c cells slots Q nL D cl A H0 w (pc + 3) lv st) : EV p l e R s m args below meth c cells slots Q nL D cl A H0 w pc lv (.int y :: .int x :: st) := fun H locs ls hP hD hS hl => lv_icmp_le X.1.1 X.1.2.1 d ht (fun h => kt h H locs ls hP hD hS hl) (fun h => kf h H locs ls hP hD hS hl)
theorem ev_if_eqB (X : ECx p s m args c cc nL own Ts D cl tys A H0) {b : Bool} {off : Int} {tgt : Nat} (d : decode cc pc = .ok (.ifCond .eq off, 3)) (ht : (pc : Int) + off = (tgt : Int)) (kt : b = false → EV p l e R s m args below meth c cells slots Q nL D cl A H0 w tgt lv st) (kf : b = true → EV p l e R s m args below meth c cells slots Q nL D cl A H0 w (pc + 3) lv st) : EV p l e R s m args below meth c cells slots Q nL D cl A H0 w pc lv (.int (b2i b) :: st) := ev_if_eq X d ht (fun h => kt (b2i_0.mp h)) (fun h => kf (b2i_n.mp h))
theorem ev_if_neB (X : ECx p s m args c cc nL own Ts D cl tys A H0) {b : Bool} {off : Int} {tgt : Nat} (d : decode cc pc = .ok (.ifCond .ne off, 3)) (ht : (pc : Int) + off = (tgt : Int)) (kt : b = true → EV p l e R s m args below meth c cells slots Q nL D cl A H0 w tgt lv st) (kf : b = false → EV p l e R s m args below meth c cells slots Q nL D cl A H0 w (pc + 3) lv st) : EV p l e R s m args below meth c cells slots Q nL D cl A H0 w pc lv (.int (b2i b) :: st) := ev_if_ne X d ht (fun h => kt (b2i_n.mp h)) (fun h => kf (b2i_0.mp h))
theorem ev_goto (X : ECx p s m args c cc nL own Ts D cl tys A H0) {off : Int} {tgt : Nat} (d : decode cc pc = .ok (.goto off, 3)) (ht : (pc : Int) + off = (tgt : Int)) (k : EV p l e R s m args below meth c cells slots Q nL D cl A H0 w tgt lv st) : EV p l e R s m args below meth c cells slots Q nL D cl A H0 w pc lv st := fun H locs ls hP hD hS hl => lv_goto X.1.1 X.1.2.1 d ht (k H locs ls hP hD hS hl)
theorem ev_tableOut (X : ECx p s m args c cc nL own Ts D cl tys A H0) {dflt lo hi : Int} {offs : Array Int} {len : Nat} {x : Int32} {tgt : Nat} (d : decode cc pc = .ok (.tableswitch dflt lo hi offs, len)) (h : x.toInt < lo ∨ hi < x.toInt) (ht : (pc : Int) + dflt = (tgt : Int)) (k : EV p l e R s m args below meth c cells slots Q nL D cl A H0 w tgt lv st) : EV p l e R s m args below meth c cells slots Q nL D cl A H0 w pc lv (.int x :: st) := fun H locs ls hP hD hS hl => lv_tableOut X.1.1 X.1.2.1 d h ht (k H locs ls hP hD hS hl)
theorem ev_tableIn (X : ECx p s m args c cc nL own Ts D cl tys A H0) {dflt lo hi : Int} {offs : Array Int} {len : Nat} {x : Int32} {off : Int} {tgt : Nat} (d : decode cc pc = .ok (.tableswitch dflt lo hi offs, len)) (h1 : ¬ x.toInt < lo) (h2 : ¬ hi < x.toInt) (ho : offs[(x.toInt - lo).toNat]? = some off) (ht : (pc : Int) + off = (tgt : Int)) (k : EV p l e R s m args below meth c cells slots Q nL D cl A H0 w tgt lv st) : EV p l e R s m args below meth c cells slots Q nL D cl A H0 w pc lv (.int x :: st) := fun H locs ls hP hD hS hl => lv_tableIn X.1.1 X.1.2.1 d h1 h2 ho ht (k H locs ls hP hD hS hl)

/-- a method's end: the answer v, the world w' -/
def QQ (cl : List vw_C) (D : va_G) (A : Nat → Prop) (w' : va_W) (v : Option Value) : Array Value → State → Outcome → State → Prop := fun _ st oc t => oc = .returned v ∧ va_P D cl w' t.heap ∧ va_F A st t
theorem ev_iret {w' : va_W} {v : Option Value} {H0 : Heap} (X : ECx p s m args c cc nL own Ts D cl tys A s.heap) (hr : meth.sig.returnType = some .int) (hk : meth.locks = false) {r : Int32} (d : decode cc pc = .ok (.ireturn, 1)) (hv : some (.int r) = v) (hw : w = w') : EV p l e R s m args below meth c cells slots (MQ below (QQ cl D A w' v) args s cells slots A) nL D cl A s.heap w pc lv ([.int r]) := fun H locs ls hP hD hS hl => by
  subst hv
  subst hw
  exact W.iret X.1.1 X.1.2.1 hr (fun t ht hW => ⟨rfl, by rw [ht]; exact hP, hS.F ht⟩) hS.2.2 d hk
theorem ev_zret {w' : va_W} {v : Option Value} {H0 : Heap} (X : ECx p s m args c cc nL own Ts D cl tys A s.heap) (hr : meth.sig.returnType = some .boolean) (hk : meth.locks = false) {r : Int32} (hn : narrow .boolean (.int r) = .int r) (d : decode cc pc = .ok (.ireturn, 1)) (hv : some (.int r) = v) (hw : w = w') : EV p l e R s m args below meth c cells slots (MQ below (QQ cl D A w' v) args s cells slots A) nL D cl A s.heap w pc lv ([.int r]) := fun H locs ls hP hD hS hl => by
  subst hv
  subst hw
  exact W.zret X.1.1 X.1.2.1 hr hn (fun t ht hW => ⟨rfl, by rw [ht]; exact hP, hS.F ht⟩) hS.2.2 d hk
theorem ev_lret {w' : va_W} {v : Option Value} {H0 : Heap} (X : ECx p s m args c cc nL own Ts D cl tys A s.heap) (hr : meth.sig.returnType = some .long) (hk : meth.locks = false) {r : Int64} (d : decode cc pc = .ok (.lreturn, 1)) (hv : some (.long r) = v) (hw : w = w') : EV p l e R s m args below meth c cells slots (MQ below (QQ cl D A w' v) args s cells slots A) nL D cl A s.heap w pc lv ([.long r]) := fun H locs ls hP hD hS hl => by
  subst hv
  subst hw
  exact W.lret X.1.1 X.1.2.1 hr (fun t ht hW => ⟨rfl, by rw [ht]; exact hP, hS.F ht⟩) hS.2.2 d hk
theorem ev_vret {w' : va_W} {v : Option Value} {H0 : Heap} (X : ECx p s m args c cc nL own Ts D cl tys A s.heap) (hr : meth.sig.returnType = none) (hk : meth.locks = false) (d : decode cc pc = .ok (.return_, 1)) (hv : (none : Option Value) = v) (hw : w = w') : EV p l e R s m args below meth c cells slots (MQ below (QQ cl D A w' v) args s cells slots A) nL D cl A s.heap w pc lv ([]) := fun H locs ls hP hD hS hl => by
  subst hv
  subst hw
  exact W.vret X.1.1 X.1.2.1 hr (fun t ht hW => ⟨rfl, by rw [ht]; exact hP, hS.F ht⟩) hS.2.2 d hk

theorem ev_of {w1 : va_W} {pc1 : Nat} {lv1 : List (Option Value)} {st1 : List Value} (hw : w = w1) (hp : pc = pc1) (hl : lv = lv1) (hs : st = st1) (k : EV p l e R s m args below meth c cells slots Q nL D cl A H0 w1 pc1 lv1 st1) : EV p l e R s m args below meth c cells slots Q nL D cl A H0 w pc lv st := by
  subst hw; subst hp; subst hl; subst hs; exact k
theorem ev_topi {u v : Int32} (h : u = v) (k : EV p l e R s m args below meth c cells slots Q nL D cl A H0 w pc lv (.int v :: st)) : EV p l e R s m args below meth c cells slots Q nL D cl A H0 w pc lv (.int u :: st) := by
  subst h; exact k
/-- behind a call -/
theorem ev_QQ {H : Heap} {locs : List Loc} {ls : Array Slot} {mc ms : Nat} {st0 rest : List Value} {A1 : Nat → Prop} {w' : va_W} {v : Option Value} {a : Array Value} (hr : va_Run p l e R s m args below meth c H locs cells slots mc ms (F0 m pc ls st0) rest (QQ cl D A1 w' v a) A1) (hS : va_S A H0 H locs) (hA : ∀ q, A1 q → A q)
    (kk : ∀ (H1 : Heap) (locs1 : List Loc), va_P D cl w' H1 → va_S A H0 H1 locs1 → W p l e R s m args below meth c H1 locs1 (cells + mc) (slots + ms) Q (F0 m (pc + 3) ls (v.toList ++ rest))) : W p l e R s m args below meth c H locs cells slots Q (F0 m pc ls st0) := by
  intro T hT X
  obtain ⟨v', st₀, t, T', L, h0, X', hL, e1, e2, ⟨hv, hP1, hz, hk⟩, stp⟩ := hr T hT X
  cases hv
  rw [h0] at hz hk
  obtain ⟨t2, a1, b1⟩ := kk T'.heap (locs ++ L) (by rw [e1]; exact hP1)
    ⟨Nat.le_trans hS.1 (by rw [e1]; exact hz), fun q h1 h2 => by rw [e1, hk q (Nat.lt_of_lt_of_le h1 hS.1) (fun z => h2 (hA q z))]; exact hS.2.1 q h1 h2, fun q hq => by
      rcases List.mem_append.mp hq with h | h
      · exact hS.2.2 q h
      · exact hA _ (hL q h)⟩ T' rfl X'
  exact ⟨t2, stp t2 a1, b1⟩
end EVR
/-- the room of a method under which d levels of calls lie -/
def rmd (d : Nat) : Room := { frames := d, cells := 0, slots := 0, locals := 32 * d }
/-- a method's start -/
def CP (cl : List vw_C) (tys : List (ClassId × FieldType)) (D : va_G) (as : List Value) (sz : Nat) (w : va_W) : Array Value → State → Prop := va_Pc as (fun U => U.heap.size = sz ∧ va_P D cl w U.heap ∧ va_K D cl tys U ∧ va_D (fun _ => True) w)
theorem CP.blind {cl : List vw_C} {tys : List (ClassId × FieldType)} {D : va_G} {as : List Value} {sz : Nat} {w : va_W} : FrameBlind (CP cl tys D as sz w) := fun a U g mk q => by
  obtain ⟨q0, q1, qP, qK, qD⟩ := q
  exact ⟨q0, q1, qP, va_K.moved (u := U) (U := U.calling g mk a) (Vm.Alike.refl U.vm) qK, qD⟩
/-- a contract: in the world w, called on as, the method answers v and leaves w' -/
def Ct (l : Launch) (cl : List vw_C) (tys : List (ClassId × FieldType)) (Ts : List Cond) (D : va_G) (y : MethodName) (cc : ByteArray) (nL : Nat) (ret : Option FieldType) (rm : Room) (as : List Value) (w w' : va_W) (v : Option Value) : Prop :=
  ∀ sz, Met l y (.code y cc nL ret :: Ts) rm (CP cl tys D as sz w) (QQ cl D (va_A w sz) w' v) 0 0 (va_A w sz)
/-- the words of a call -/
def MkV (Ts : List Cond) (own : String) (idx : Nat) (y : MethodName) (C : String) (bytes : ByteArray) (maxL : Nat) (ret : Option FieldType) (n : Nat) : Prop :=
  (Cond.methodLink own idx y ∈ Ts ∧ Cond.instanceMethod y ∈ Ts ∧ Cond.selects C y y ∈ Ts ∧ Cond.initialized C ∈ Ts ∧ Cond.code y bytes maxL ret ∈ Ts) ∧ y.cls = C ∧ y.cls ≠ "java/lang/invoke/MethodHandle" ∧ y.cls ≠ "java/lang/invoke/VarHandle" ∧ (parseMethodDescriptor y.desc).map (fun d => d.parameters.length) = some n
def MkS (Ts : List Cond) (own : String) (idx : Nat) (y : MethodName) (bytes : ByteArray) (maxL : Nat) (ret : Option FieldType) (n : Nat) : Prop :=
  (Cond.methodLink own idx y ∈ Ts ∧ Cond.static y ∈ Ts ∧ Cond.initialized own ∈ Ts ∧ Cond.code y bytes maxL ret ∈ Ts) ∧ y.cls = own ∧ y.cls ≠ "java/lang/invoke/MethodHandle" ∧ y.cls ≠ "java/lang/invoke/VarHandle" ∧ (parseMethodDescriptor y.desc).map (fun d => d.parameters.length) = some n
def MkI (Ts : List Cond) (own : String) (idx : Nat) (y : MethodName) (bytes : ByteArray) (maxL n : Nat) : Prop :=
  (Cond.methodLink own idx y ∈ Ts ∧ Cond.instanceMethod y ∈ Ts ∧ Cond.initialized y.cls ∈ Ts ∧ Cond.code y bytes maxL none ∈ Ts) ∧ y.name = "<init>" ∧ y.cls ≠ "java/lang/invoke/MethodHandle" ∧ y.cls ≠ "java/lang/invoke/VarHandle" ∧ (parseMethodDescriptor y.desc).map (fun d => d.parameters.length) = some n
/-- the object at a in the world is of class C -/
def Rcv (cl : List vw_C) (w : va_W) (a : Nat) (C : String) : Prop := ∃ (q0 ci : Nat) (fs : List Value) (r : vw_C), w[q0]? = some (a, .inr (ci, fs)) ∧ cl[ci]? = some r ∧ r.1 = C
section EVC
variable {p : Program} {l : Launch} {e : Env} {R : Room} {s : State} {m : MethodId} {args : Array Value} {below : List Frame} {meth : Method} {c : Code} {cells slots : Nat} {Q : State → Prop}
variable {cc : ByteArray} {nL pc : Nat} {own : String} {Ts : List Cond} {D : va_G} {cl : List vw_C} {tys : List (ClassId × FieldType)} {A : Nat → Prop} {H0 : Heap} {w : va_W} {lv : List (Option Value)} {st : List Value}
theorem va_A_sub {H : Heap} {locs : List Loc} (hD : va_D A w) (hS : va_S A H0 H locs) (hA : ∀ q : Nat, H0.size ≤ q → A q) : ∀ q, va_A w H.size q → A q := by
  intro q h
  rcases h with ⟨k, e, h⟩ | h
  · exact hD.2 k (q, e) h
  · exact hA q (Nat.le_trans hS.1 h)
theorem ev_callV (X : ECx p s m args c cc nL own Ts D cl tys A H0) {y : MethodName} {bytes : ByteArray} {maxL n idx d' : Nat} {ret : Option FieldType} {a : Nat} {As st0 : List Value} {w' : va_W} {v : Option Value} {C : String}
    (F : MkV Ts own idx y C bytes maxL ret n) (hc : Ct l cl tys Ts D y bytes maxL ret (rmd d') (.ref a :: As) w w' v) (hrc : Rcv cl w a C) (hw : ∀ B : Nat → Prop, va_D B w → va_D B w') (hR : d' + 1 ≤ R.frames ∧ 8 + (maxL + 11) + 32 * d' ≤ R.locals) (hcs : cells ≤ R.cells ∧ slots ≤ R.slots) (d : decode cc pc = .ok (.invokevirtual idx, 3)) (hst : st0 = As.reverse ++ .ref a :: st) (hn : As.length = n) (hcat : (st.map fun v => v.category).sum ≤ 8)
    (k : EV p l e R s m args below meth c cells slots Q nL D cl A H0 w' (pc + 3) lv (v.toList ++ st)) : EV p l e R s m args below meth c cells slots Q nL D cl A H0 w pc lv st0 := by
  intro H locs ls hP hD hS hl
  obtain ⟨⟨m1, m2, m3, m4, m5⟩, hd⟩ := F
  obtain ⟨hx, hb, hml, hown, hts⟩ := X.1
  obtain ⟨q0, ci, fs, r, e1, e2, e3⟩ := hrc
  subst e3
  have hsub : ∀ q, va_A w H.size q → A q := va_A_sub hD hS X.2.2.1
  have hG : GoodIn Ts (wsV own idx r.1 y (.code y bytes maxL ret :: Ts)) := by
    intro z hz
    refine X.2.2.2 z ?_
    simp only [wsV, List.mem_append, List.mem_cons, List.not_mem_nil, or_false] at hz
    rcases hz with (rfl | rfl | rfl | rfl) | rfl | hz
    · exact m1
    · exact m2
    · exact m3
    · exact m4
    · exact m5
    · exact hz
  refine ev_QQ (va_runV (b := a) (As := As) (rest := st) ⟨hx, hb, hml, hown, hts⟩ (hc H.size) (cwV (rm := rmd d') n hts hG rfl rfl rfl hd hR) ⟨CP.blind, va_recv X.2.1 hP e2 e1, fun U hU hW => ⟨rfl, by rw [hU], by rw [hU]; exact hP, va_K.moved hW.alike X.2.1, hD.weaken (fun _ _ _ _ => trivial)⟩⟩ rfl hn hl.1.1 hst (lv_room hcat) d hcs) hS hsub (fun H1 locs1 hP1 hS1 => ?_)
  exact k H1 locs1 ls hP1 (hw A hD) hS1 hl
theorem ev_callS (X : ECx p s m args c cc nL own Ts D cl tys A H0) {y : MethodName} {bytes : ByteArray} {maxL n idx d' : Nat} {ret : Option FieldType} {As st0 : List Value} {w' : va_W} {v : Option Value}
    (F : MkS Ts own idx y bytes maxL ret n) (hc : Ct l cl tys Ts D y bytes maxL ret (rmd d') As w w' v) (hw : ∀ B : Nat → Prop, va_D B w → va_D B w') (hR : d' + 1 ≤ R.frames ∧ 8 + (maxL + 11) + 32 * d' ≤ R.locals) (hcs : cells ≤ R.cells ∧ slots ≤ R.slots) (d : decode cc pc = .ok (.invokestatic idx, 3)) (hst : st0 = As.reverse ++ st) (hn : As.length = n) (hcat : (st.map fun v => v.category).sum ≤ 8)
    (k : EV p l e R s m args below meth c cells slots Q nL D cl A H0 w' (pc + 3) lv (v.toList ++ st)) : EV p l e R s m args below meth c cells slots Q nL D cl A H0 w pc lv st0 := by
  intro H locs ls hP hD hS hl
  obtain ⟨⟨m1, m2, m3, m4⟩, hd⟩ := F
  obtain ⟨hx, hb, hml, hown, hts⟩ := X.1
  have hsub : ∀ q, va_A w H.size q → A q := va_A_sub hD hS X.2.2.1
  have hG : GoodIn Ts (wsS own idx y (.code y bytes maxL ret :: Ts)) := by
    intro z hz
    refine X.2.2.2 z ?_
    simp only [wsS, List.mem_append, List.mem_cons, List.not_mem_nil, or_false] at hz
    rcases hz with (rfl | rfl | rfl) | rfl | hz
    · exact m1
    · exact m2
    · exact m3
    · exact m4
    · exact hz
  refine ev_QQ (va_runS (As := As) (rest := st) ⟨hx, hb, hml, hown, hts⟩ (hc H.size) (cwS (rm := rmd d') n hts hG rfl rfl rfl hd hR) ⟨CP.blind, fun U hU hW => ⟨rfl, by rw [hU], by rw [hU]; exact hP, va_K.moved hW.alike X.2.1, hD.weaken (fun _ _ _ _ => trivial)⟩⟩ rfl hn hl.1.1 hst (lv_room hcat) d hcs) hS hsub (fun H1 locs1 hP1 hS1 => ?_)
  exact k H1 locs1 ls hP1 (hw A hD) hS1 hl
/-- a contract by a walk of the body -/
theorem ev_enter {y : MethodName} {ret : Option FieldType} {d : Nat} {as : List Value} {w' : va_W} {v : Option Value} (hy : plainName y.cls = true) (hn : as.length ≤ nL) (hcat : ∀ v ∈ as, v.category = 1) (hG : GoodIn Ts Ts)
    (body : ∀ (p : Program) (e : Env) (s : State) (m : MethodId) (args : Array Value) (below : List Frame) (meth : Method) (c : Code) (A : Nat → Prop), ECx p s m args c cc nL y.cls Ts D cl tys A s.heap → meth.sig.returnType = ret → meth.locks = false →
      EV p l e (rmd d) s m args below meth c 0 0 (MQ below (QQ cl D A w' v) args s 0 0 A) nL D cl A s.heap w 0 (as.map some ++ List.replicate (nL - as.length) none) []) : Ct l cl tys Ts D y cc nL ret (rmd d) as w w' v := by
  intro sz
  refine Met.ofW (cc := cc) (maxL := nL) (ret := ret) hy rfl ?_
  intro p e s m args below meth c s₁ B hml hv
  obtain ⟨rfl, hsz, hP, hK, hD0⟩ := hv
  subst hsz
  have hts := atoms_spec (ws := .code y cc nL ret :: Ts) B.pre
  have hown : s.vm.findClass y.cls = some m.cls := findClass_of_methodNamed B.named
  rw [lg_entry_eq]
  exact body p e s m _ below meth c _ ⟨⟨B.exec, B.bytes, hml, hown, fun w hw => hts w (List.mem_cons_of_mem _ hw)⟩, hK, fun q h => Or.inr h, hG⟩ B.returns B.notSynchronized s.heap [] _ hP hD0.self va_S.rf (ll_entry hcat hn)
end EVC
end
section
-- ===== a world by a layout: which cells there are is fixed; the ints in them are S =====
abbrev ly_C : Type := (Nat × List (Option Nat)) ⊕ (Nat ⊕ (Nat × Nat × Nat × Nat))
def up2 (S : Nat → Nat → Int32) (i k : Nat) (v : Int32) : Nat → Nat → Int32 := fun a => if a = i then upd (S i) k v else S a
theorem up2_at (S : Nat → Nat → Int32) (i k : Nat) (v : Int32) (a b : Nat) : up2 S i k v a b = if a = i ∧ b = k then v else S a b := by
  unfold up2 upd
  by_cases h : a = i
  · subst h
    by_cases h2 : b = k <;> simp [h2]
  · simp [h]
theorem up2_ne {S : Nat → Nat → Int32} {i k : Nat} {v : Int32} {a : Nat} (h : a ≠ i) : up2 S i k v a = S a := by
  unfold up2; rw [if_neg h]
theorem up2_eq {S : Nat → Nat → Int32} {i k : Nat} {v : Int32} : up2 S i k v i = upd (S i) k v := by
  unfold up2; rw [if_pos rfl]
def ly_f (ad : Nat → Nat) (f : Nat → Int32) : Nat → List (Option Nat) → List Value
  | _, [] => []
  | k, none :: l => .int (f k) :: ly_f ad f (k + 1) l
  | k, some t :: l => .ref (ad t) :: ly_f ad f (k + 1) l
def ly_v (ad : Nat → Nat) (f : Nat → Int32) (k : Nat) (o : Option Nat) : Value := match o with
  | none => .int (f k)
  | some t => .ref (ad t)
theorem ly_f_at (ad : Nat → Nat) (f : Nat → Int32) : ∀ (fl : List (Option Nat)) (b k : Nat), (ly_f ad f b fl)[k]? = (fl[k]?).map (ly_v ad f (b + k))
  | [], b, k => by simp [ly_f]
  | none :: l, b, 0 => by simp [ly_f, ly_v]
  | some t :: l, b, 0 => by simp [ly_f, ly_v]
  | none :: l, b, k + 1 => by
    have h := ly_f_at ad f l (b + 1) k
    rw [show b + 1 + k = b + (k + 1) by omega] at h
    simpa [ly_f] using h
  | some t :: l, b, k + 1 => by
    have h := ly_f_at ad f l (b + 1) k
    rw [show b + 1 + k = b + (k + 1) by omega] at h
    simpa [ly_f] using h
theorem ly_f_set {ad : Nat → Nat} {f : Nat → Int32} {fl : List (Option Nat)} {k : Nat} {v : Int32} (h : fl[k]? = some none) : (ly_f ad f 0 fl).set k (.int v) = ly_f ad (upd f k v) 0 fl := by
  apply List.ext_getElem?
  intro j
  have hlt : k < (ly_f ad f 0 fl).length := by
    have h1 := ly_f_at ad f fl 0 k
    rw [h] at h1
    exact (List.getElem?_eq_some_iff.mp h1).1
  rw [List.getElem?_set, ly_f_at ad (upd f k v) fl 0 j]
  by_cases hj : k = j
  · subst hj
    rw [if_pos rfl, if_pos hlt, h]
    simp [ly_v, upd]
  · rw [if_neg hj, ly_f_at]
    congr 1
    funext o
    cases o with
    | none => simp [ly_v, upd, Ne.symm hj]
    | some t => rfl
def ly_e (Ly : Nat → ly_C) (ad : Nat → Nat) (ca : Nat → ClassId) (S : Nat → Nat → Int32) (i : Nat) : va_E := match Ly i with
  | .inl (ci, fl) => .inr (ci, ly_f ad (S i) 0 fl)
  | .inr (.inl n) => .inl (ca 0, n, .inl (S i))
  | .inr (.inr (t, n, b, sd)) => .inl (ca t, n, .inr (.inr (.inr (.inr (fun k => some (ad (b + sd * k)))))))
def ly_w (Ly : Nat → ly_C) (N : Nat) (ad : Nat → Nat) (ca : Nat → ClassId) (S : Nat → Nat → Int32) (x : va_W) : va_W := (List.range N).map (fun i => (ad i, ly_e Ly ad ca S i)) ++ x
theorem va_D_fst {B : Nat → Prop} {w w' : va_W} (h : w.map (fun q => q.1) = w'.map (fun q => q.1)) (hD : va_D B w) : va_D B w' := by
  have key : ∀ (k : Nat) (q : Nat × va_E), w'[k]? = some q → ∃ q0, w[k]? = some q0 ∧ q0.1 = q.1 := by
    intro k q hk
    have h1 : (w.map (fun q => q.1))[k]? = some q.1 := by rw [h, List.getElem?_map, hk]; rfl
    rw [List.getElem?_map] at h1
    cases hw : w[k]? with
    | none => rw [hw] at h1; cases h1
    | some q0 => rw [hw] at h1; exact ⟨q0, rfl, Option.some.inj h1⟩
  refine ⟨fun i j x y hi hj hxy => ?_, fun k q hk => ?_⟩
  · obtain ⟨x0, h1, h2⟩ := key i x hi
    obtain ⟨y0, h3, h4⟩ := key j y hj
    exact hD.1 i j x0 y0 h1 h3 (h2.trans (hxy.trans h4.symm))
  · obtain ⟨q0, h1, h2⟩ := key k q hk
    rw [← h2]
    exact hD.2 k q0 h1
section LY
variable {Ly : Nat → ly_C} {N : Nat} {ad : Nat → Nat} {ca : Nat → ClassId} {S S' : Nat → Nat → Int32} {x : va_W}
theorem ly_D {B : Nat → Prop} (hD : va_D B (ly_w Ly N ad ca S x)) : va_D B (ly_w Ly N ad ca S' x) := by
  refine va_D_fst ?_ hD
  simp [ly_w, List.map_map, Function.comp_def]
theorem ly_at {i : Nat} (hi : i < N) : (ly_w Ly N ad ca S x)[i]? = some (ad i, ly_e Ly ad ca S i) := by
  unfold ly_w
  rw [List.getElem?_append_left (by simpa using hi), List.getElem?_map, List.getElem?_range hi]
  rfl
theorem ly_e_congr {j : Nat} (h : S' j = S j) : ly_e Ly ad ca S' j = ly_e Ly ad ca S j := by
  unfold ly_e
  rw [h]
theorem ly_len : (ly_w Ly N ad ca S x).length = N + x.length := by simp [ly_w]
theorem ly_set {i : Nat} {y : va_E} (hi : i < N) (h1 : ly_e Ly ad ca S' i = y) (h2 : ∀ j, j ≠ i → S' j = S j) : (ly_w Ly N ad ca S x).set i (ad i, y) = ly_w Ly N ad ca S' x := by
  apply List.ext_getElem?
  intro j
  rw [List.getElem?_set]
  by_cases hj : i = j
  · subst hj
    rw [if_pos rfl, if_pos (by rw [ly_len]; omega), ly_at hi, h1]
  · rw [if_neg hj]
    by_cases hN : j < N
    · rw [ly_at hN, ly_at hN, ly_e_congr (h2 j (Ne.symm hj))]
    · unfold ly_w
      rw [List.getElem?_append_right (by simp; omega), List.getElem?_append_right (by simp; omega)]
      simp
end LY
def LyO (Ly : Nat → ly_C) (N i ci : Nat) (fl : List (Option Nat)) : Prop := i < N ∧ Ly i = .inl (ci, fl)
def LyI (Ly : Nat → ly_C) (N i n : Nat) : Prop := i < N ∧ Ly i = .inr (.inl n) ∧ n < 2 ^ 31
def LyR (Ly : Nat → ly_C) (N i t n b sd : Nat) : Prop := i < N ∧ Ly i = .inr (.inr (t, n, b, sd)) ∧ n < 2 ^ 31
/-- what the tables say of a field: its class is the ci-th, its place there k -/
def Fk (cl : List vw_C) (Ts : List Cond) (own : String) (index ci k : Nat) (fin : Bool) (ty : FieldType) : Prop := ∃ (C : String) (T : u_T) (n : Nat) (t0 : Nat → FieldType),
  cl[ci]? = some (C, T, n) ∧ (∀ w ∈ u_ws C T n, w ∈ Ts) ∧ k < n ∧ Cond.fieldLink own index (T k).1 (T k).2.1 (T k).2.2.1 ∈ Ts ∧ (T k).2.2.2 = fin ∧ parseFieldDescriptor (T k).2.2.1 = some ty ∧ (∀ k, k < n → parseFieldDescriptor (T k).2.2.1 = some (t0 k)) ∧ (∀ a, a < n → ∀ b, b < n → a ≠ b → (T a).2.1 ≠ (T b).2.1)
section LYR
variable {p : Program} {l : Launch} {e : Env} {R : Room} {s : State} {m : MethodId} {args : Array Value} {below : List Frame} {meth : Method} {c : Code} {cells slots : Nat} {Q : State → Prop}
variable {cc : ByteArray} {nL pc : Nat} {own : String} {Ts : List Cond} {D : va_G} {cl : List vw_C} {tys : List (ClassId × FieldType)} {A : Nat → Prop} {H0 : Heap} {w : va_W} {lv : List (Option Value)} {st : List Value}
variable {Ly : Nat → ly_C} {N : Nat} {ad : Nat → Nat} {ca : Nat → ClassId} {S S' : Nat → Nat → Int32} {x : va_W}
theorem ev_get (X : ECx p s m args c cc nL own Ts D cl tys A H0) {idx ci k : Nat} {fin : Bool} {ty : FieldType} (F : Fk cl Ts own idx ci k fin ty) (q0 : Nat) {a : Nat} {fs : List Value} (he : w[q0]? = some (a, .inr (ci, fs))) {v : Value} (hv : fs[k]? = some v) (d : decode cc pc = .ok (.getfield idx, 3))
    (kk : EV p l e R s m args below meth c cells slots Q nL D cl A H0 w (pc + 3) lv (v :: st)) : EV p l e R s m args below meth c cells slots Q nL D cl A H0 w pc lv (.ref a :: st) := fun H locs ls hP hD hS hl => by
  obtain ⟨C, T, n, t0, h1, h2, h3, h4, -, -, -, -⟩ := F
  exact va_get X.1.1 X.1.2.1 X.1.2.2.2.2 h2 X.1.2.2.2.1 X.2.1 hP q0 he h1 k h3 (X.1.2.2.2.2 _ h4) (fun x h => h) hv d (kk H locs ls hP hD hS hl)
theorem ev_put (X : ECx p s m args c cc nL own Ts D cl tys A H0) {idx ci k : Nat} {ty : FieldType} (F : Fk cl Ts own idx ci k false ty) (q0 : Nat) {a : Nat} {fs : List Value} (he : w[q0]? = some (a, .inr (ci, fs))) {v : Value} (hn : narrow ty v = v) (hfit : fits ty v = true) (hl0 : k < fs.length) (d : decode cc pc = .ok (.putfield idx, 3))
    (kk : EV p l e R s m args below meth c cells slots Q nL D cl A H0 (w.set q0 (a, .inr (ci, fs.set k v))) (pc + 3) lv st) : EV p l e R s m args below meth c cells slots Q nL D cl A H0 w pc lv (v :: .ref a :: st) := fun H locs ls hP hD hS hl => by
  obtain ⟨C, T, n, t0, h1, h2, h3, h4, h5, h6, h7, h8⟩ := F
  exact va_put X.1.1 X.1.2.1 X.1.2.2.2.2 h2 t0 h7 h8 X.1.2.2.2.1 X.2.1 hP hD hS q0 he h1 k h3 (X.1.2.2.2.2 _ h4) (fun x h => h) h5 h6 hn hfit hl0 d (fun H1 locs1 hP1 hD1 hS1 => kk H1 locs1 ls hP1 hD1 hS1 hl)
theorem LyO.at {i ci : Nat} {fl : List (Option Nat)} (L : LyO Ly N i ci fl) : (ly_w Ly N ad ca S x)[i]? = some (ad i, .inr (ci, ly_f ad (S i) 0 fl)) := by
  rw [ly_at L.1]
  unfold ly_e
  rw [L.2]
theorem LyI.at {i n : Nat} (L : LyI Ly N i n) : (ly_w Ly N ad ca S x)[i]? = some (ad i, .inl (ca 0, n, .inl (S i))) := by
  rw [ly_at L.1]
  unfold ly_e
  rw [L.2.1]
theorem LyR.at {i t n b sd : Nat} (L : LyR Ly N i t n b sd) : (ly_w Ly N ad ca S x)[i]? = some (ad i, .inl (ca t, n, .inr (.inr (.inr (.inr (fun k => some (ad (b + sd * k)))))))) := by
  rw [ly_at L.1]
  unfold ly_e
  rw [L.2.1]
theorem ev_getI (X : ECx p s m args c cc nL own Ts D cl tys A H0) {idx ci k i : Nat} {fin : Bool} {ty : FieldType} {fl : List (Option Nat)} (F : Fk cl Ts own idx ci k fin ty) (L : LyO Ly N i ci fl) (hf : fl[k]? = some none) (d : decode cc pc = .ok (.getfield idx, 3))
    (kk : EV p l e R s m args below meth c cells slots Q nL D cl A H0 (ly_w Ly N ad ca S x) (pc + 3) lv (.int (S i k) :: st)) : EV p l e R s m args below meth c cells slots Q nL D cl A H0 (ly_w Ly N ad ca S x) pc lv (.ref (ad i) :: st) :=
  ev_get X F i L.at (v := .int (S i k)) (by rw [ly_f_at, hf]; simp [ly_v]) d kk
theorem ev_getR (X : ECx p s m args c cc nL own Ts D cl tys A H0) {idx ci k i t : Nat} {fin : Bool} {ty : FieldType} {fl : List (Option Nat)} (F : Fk cl Ts own idx ci k fin ty) (L : LyO Ly N i ci fl) (hf : fl[k]? = some (some t)) (d : decode cc pc = .ok (.getfield idx, 3))
    (kk : EV p l e R s m args below meth c cells slots Q nL D cl A H0 (ly_w Ly N ad ca S x) (pc + 3) lv (.ref (ad t) :: st)) : EV p l e R s m args below meth c cells slots Q nL D cl A H0 (ly_w Ly N ad ca S x) pc lv (.ref (ad i) :: st) :=
  ev_get X F i L.at (v := .ref (ad t)) (by rw [ly_f_at, hf]; rfl) d kk
theorem ev_putI (X : ECx p s m args c cc nL own Ts D cl tys A H0) {idx ci k i : Nat} {fl : List (Option Nat)} {v : Int32} (F : Fk cl Ts own idx ci k false .int) (L : LyO Ly N i ci fl) (hf : fl[k]? = some none) (d : decode cc pc = .ok (.putfield idx, 3))
    (kk : EV p l e R s m args below meth c cells slots Q nL D cl A H0 (ly_w Ly N ad ca (up2 S i k v) x) (pc + 3) lv st) : EV p l e R s m args below meth c cells slots Q nL D cl A H0 (ly_w Ly N ad ca S x) pc lv (.int v :: .ref (ad i) :: st) := by
  have hlt : k < (ly_f ad (S i) 0 fl).length := by
    have h1 := ly_f_at ad (S i) fl 0 k
    rw [hf] at h1
    exact (List.getElem?_eq_some_iff.mp h1).1
  refine ev_put X F i L.at rfl rfl hlt d ?_
  rw [ly_f_set hf, ly_set (S' := up2 S i k v) L.1 (by unfold ly_e; rw [L.2, up2_eq]) (fun j hj => up2_ne hj)]
  exact kk
theorem ev_iald (X : ECx p s m args c cc nL own Ts D cl tys A H0) {i n j : Nat} {z : Int32} (L : LyI Ly N i n) (ht : tys[0]? = some (ca 0, .int)) (hz : z = nI j) (hj : j < n) (d : decode cc pc = .ok (.iaload, 1))
    (kk : EV p l e R s m args below meth c cells slots Q nL D cl A H0 (ly_w Ly N ad ca S x) (pc + 1) lv (.int (S i j) :: st)) : EV p l e R s m args below meth c cells slots Q nL D cl A H0 (ly_w Ly N ad ca S x) pc lv (.int z :: .ref (ad i) :: st) := fun H locs ls hP hD hS hl => by
  subst hz
  refine va_iald X.1.1 X.1.2.1 X.2.1 hP i 0 L.at ht (nI_in hj L.2.2) d ?_
  rw [nI_clamp (Nat.lt_trans hj L.2.2)]
  exact kk H locs ls hP hD hS hl
theorem ev_iast (X : ECx p s m args c cc nL own Ts D cl tys A H0) {i n j : Nat} {z v : Int32} (L : LyI Ly N i n) (ht : tys[0]? = some (ca 0, .int)) (hz : z = nI j) (hj : j < n) (d : decode cc pc = .ok (.iastore, 1))
    (kk : EV p l e R s m args below meth c cells slots Q nL D cl A H0 (ly_w Ly N ad ca (up2 S i j v) x) (pc + 1) lv st) : EV p l e R s m args below meth c cells slots Q nL D cl A H0 (ly_w Ly N ad ca S x) pc lv (.int v :: .int z :: .ref (ad i) :: st) := fun H locs ls hP hD hS hl => by
  subst hz
  refine va_iast X.1.1 X.1.2.1 X.2.1 hP hD hS i 0 L.at ht (nI_in hj L.2.2) d (fun H1 locs1 hP1 hD1 hS1 => ?_)
  rw [nI_clamp (Nat.lt_trans hj L.2.2), ly_set (S' := up2 S i j v) L.1 (by unfold ly_e; rw [L.2.1, up2_eq]) (fun j hj => up2_ne hj)] at hP1 hD1
  exact kk H1 locs1 ls hP1 hD1 hS1 hl
theorem ev_aald (X : ECx p s m args c cc nL own Ts D cl tys A H0) {i t n b sd j : Nat} {z : Int32} {C : String} (L : LyR Ly N i t n b sd) (ht : tys[t]? = some (ca t, .object C)) (hz : z = nI j) (hj : j < n) (d : decode cc pc = .ok (.aaload, 1))
    (kk : EV p l e R s m args below meth c cells slots Q nL D cl A H0 (ly_w Ly N ad ca S x) (pc + 1) lv (.ref (ad (b + sd * j)) :: st)) : EV p l e R s m args below meth c cells slots Q nL D cl A H0 (ly_w Ly N ad ca S x) pc lv (.int z :: .ref (ad i) :: st) := fun H locs ls hP hD hS hl => by
  subst hz
  refine va_aldq X.1.1 X.1.2.1 X.2.1 hP i t L.at ht (nI_in hj L.2.2) d ?_
  rw [nI_clamp (Nat.lt_trans hj L.2.2)]
  exact kk H locs ls hP hD hS hl
/-- a call on an object of the layout -/
theorem ev_cV (X : ECx p s m args c cc nL own Ts D cl tys A H0) {y : MethodName} {bytes : ByteArray} {maxL n idx d' i ci : Nat} {ret : Option FieldType} {As st0 : List Value} {v : Option Value} {C : String} {fl : List (Option Nat)} {r : vw_C}
    (F : MkV Ts own idx y C bytes maxL ret n) (hc : Ct l cl tys Ts D y bytes maxL ret (rmd d') (.ref (ad i) :: As) (ly_w Ly N ad ca S x) (ly_w Ly N ad ca S' x) v) (L : LyO Ly N i ci fl) (hcl : cl[ci]? = some r) (hC : r.1 = C) (hR : d' + 1 ≤ R.frames ∧ 8 + (maxL + 11) + 32 * d' ≤ R.locals) (hcs : cells ≤ R.cells ∧ slots ≤ R.slots) (d : decode cc pc = .ok (.invokevirtual idx, 3)) (hst : st0 = As.reverse ++ .ref (ad i) :: st) (hn : As.length = n) (hcat : (st.map fun v => v.category).sum ≤ 8)
    (k : EV p l e R s m args below meth c cells slots Q nL D cl A H0 (ly_w Ly N ad ca S' x) (pc + 3) lv (v.toList ++ st)) : EV p l e R s m args below meth c cells slots Q nL D cl A H0 (ly_w Ly N ad ca S x) pc lv st0 :=
  ev_callV X F hc ⟨i, ci, _, r, L.at, hcl, hC⟩ (fun B h => ly_D h) hR hcs d hst hn hcat k
theorem ev_cS (X : ECx p s m args c cc nL own Ts D cl tys A H0) {y : MethodName} {bytes : ByteArray} {maxL n idx d' : Nat} {ret : Option FieldType} {As st0 : List Value} {v : Option Value}
    (F : MkS Ts own idx y bytes maxL ret n) (hc : Ct l cl tys Ts D y bytes maxL ret (rmd d') As (ly_w Ly N ad ca S x) (ly_w Ly N ad ca S' x) v) (hR : d' + 1 ≤ R.frames ∧ 8 + (maxL + 11) + 32 * d' ≤ R.locals) (hcs : cells ≤ R.cells ∧ slots ≤ R.slots) (d : decode cc pc = .ok (.invokestatic idx, 3)) (hst : st0 = As.reverse ++ st) (hn : As.length = n) (hcat : (st.map fun v => v.category).sum ≤ 8)
    (k : EV p l e R s m args below meth c cells slots Q nL D cl A H0 (ly_w Ly N ad ca S' x) (pc + 3) lv (v.toList ++ st)) : EV p l e R s m args below meth c cells slots Q nL D cl A H0 (ly_w Ly N ad ca S x) pc lv st0 :=
  ev_callS X F hc (fun B h => ly_D h) hR hcs d hst hn hcat k
end LYR
section LYC
variable {p : Program} {l : Launch} {e : Env} {R : Room} {s : State} {m : MethodId} {args : Array Value} {below : List Frame} {meth : Method} {c : Code} {cells slots : Nat} {Q : State → Prop}
variable {cc : ByteArray} {nL pc : Nat} {own : String} {Ts : List Cond} {D : va_G} {cl : List vw_C} {tys : List (ClassId × FieldType)} {A : Nat → Prop} {H0 : Heap} {lv : List (Option Value)} {st : List Value}
variable {Ly : Nat → ly_C} {N : Nat} {ad : Nat → Nat} {ca : Nat → ClassId} {S S' : Nat → Nat → Int32} {x : va_W}
theorem ev_cV1 (X : ECx p s m args c cc nL own Ts D cl tys A H0) {y : MethodName} {bytes : ByteArray} {maxL n idx d' i ci : Nat} {ret : Option FieldType} {As st0 : List Value} {v : Value} {C : String} {fl : List (Option Nat)} {r : vw_C}
    (F : MkV Ts own idx y C bytes maxL ret n) (hc : Ct l cl tys Ts D y bytes maxL ret (rmd d') (.ref (ad i) :: As) (ly_w Ly N ad ca S x) (ly_w Ly N ad ca S' x) (some v)) (L : LyO Ly N i ci fl) (hcl : cl[ci]? = some r) (hC : r.1 = C) (hR : d' + 1 ≤ R.frames ∧ 8 + (maxL + 11) + 32 * d' ≤ R.locals) (hcs : cells ≤ R.cells ∧ slots ≤ R.slots) (d : decode cc pc = .ok (.invokevirtual idx, 3)) (hst : st0 = As.reverse ++ .ref (ad i) :: st) (hn : As.length = n) (hcat : (st.map fun v => v.category).sum ≤ 8)
    (k : EV p l e R s m args below meth c cells slots Q nL D cl A H0 (ly_w Ly N ad ca S' x) (pc + 3) lv (v :: st)) : EV p l e R s m args below meth c cells slots Q nL D cl A H0 (ly_w Ly N ad ca S x) pc lv st0 :=
  ev_cV X F hc L hcl hC hR hcs d hst hn hcat k
theorem ev_cV0 (X : ECx p s m args c cc nL own Ts D cl tys A H0) {y : MethodName} {bytes : ByteArray} {maxL n idx d' i ci : Nat} {ret : Option FieldType} {As st0 : List Value} {C : String} {fl : List (Option Nat)} {r : vw_C}
    (F : MkV Ts own idx y C bytes maxL ret n) (hc : Ct l cl tys Ts D y bytes maxL ret (rmd d') (.ref (ad i) :: As) (ly_w Ly N ad ca S x) (ly_w Ly N ad ca S' x) none) (L : LyO Ly N i ci fl) (hcl : cl[ci]? = some r) (hC : r.1 = C) (hR : d' + 1 ≤ R.frames ∧ 8 + (maxL + 11) + 32 * d' ≤ R.locals) (hcs : cells ≤ R.cells ∧ slots ≤ R.slots) (d : decode cc pc = .ok (.invokevirtual idx, 3)) (hst : st0 = As.reverse ++ .ref (ad i) :: st) (hn : As.length = n) (hcat : (st.map fun v => v.category).sum ≤ 8)
    (k : EV p l e R s m args below meth c cells slots Q nL D cl A H0 (ly_w Ly N ad ca S' x) (pc + 3) lv st) : EV p l e R s m args below meth c cells slots Q nL D cl A H0 (ly_w Ly N ad ca S x) pc lv st0 :=
  ev_cV X F hc L hcl hC hR hcs d hst hn hcat k
theorem ev_cS1 (X : ECx p s m args c cc nL own Ts D cl tys A H0) {y : MethodName} {bytes : ByteArray} {maxL n idx d' : Nat} {ret : Option FieldType} {As st0 : List Value} {v : Value}
    (F : MkS Ts own idx y bytes maxL ret n) (hc : Ct l cl tys Ts D y bytes maxL ret (rmd d') As (ly_w Ly N ad ca S x) (ly_w Ly N ad ca S' x) (some v)) (hR : d' + 1 ≤ R.frames ∧ 8 + (maxL + 11) + 32 * d' ≤ R.locals) (hcs : cells ≤ R.cells ∧ slots ≤ R.slots) (d : decode cc pc = .ok (.invokestatic idx, 3)) (hst : st0 = As.reverse ++ st) (hn : As.length = n) (hcat : (st.map fun v => v.category).sum ≤ 8)
    (k : EV p l e R s m args below meth c cells slots Q nL D cl A H0 (ly_w Ly N ad ca S' x) (pc + 3) lv (v :: st)) : EV p l e R s m args below meth c cells slots Q nL D cl A H0 (ly_w Ly N ad ca S x) pc lv st0 :=
  ev_cS X F hc hR hcs d hst hn hcat k
theorem ev_cS0 (X : ECx p s m args c cc nL own Ts D cl tys A H0) {y : MethodName} {bytes : ByteArray} {maxL n idx d' : Nat} {ret : Option FieldType} {As st0 : List Value}
    (F : MkS Ts own idx y bytes maxL ret n) (hc : Ct l cl tys Ts D y bytes maxL ret (rmd d') As (ly_w Ly N ad ca S x) (ly_w Ly N ad ca S' x) none) (hR : d' + 1 ≤ R.frames ∧ 8 + (maxL + 11) + 32 * d' ≤ R.locals) (hcs : cells ≤ R.cells ∧ slots ≤ R.slots) (d : decode cc pc = .ok (.invokestatic idx, 3)) (hst : st0 = As.reverse ++ st) (hn : As.length = n) (hcat : (st.map fun v => v.category).sum ≤ 8)
    (k : EV p l e R s m args below meth c cells slots Q nL D cl A H0 (ly_w Ly N ad ca S' x) (pc + 3) lv st) : EV p l e R s m args below meth c cells slots Q nL D cl A H0 (ly_w Ly N ad ca S x) pc lv st0 :=
  ev_cS X F hc hR hcs d hst hn hcat k
theorem ev_ent {y : MethodName} {ret : Option FieldType} {d : Nat} {as : List Value} {w w' : va_W} {v : Option Value} (lv0 : List (Option Value)) (hlv : as.map some ++ List.replicate (nL - as.length) none = lv0) (hy : plainName y.cls = true) (hn : as.length ≤ nL) (hcat : as.all (fun v => v.category == 1) = true) (hG : GoodIn Ts Ts)
    (body : ∀ (p : Program) (e : Env) (s : State) (m : MethodId) (args : Array Value) (below : List Frame) (meth : Method) (c : Code) (A : Nat → Prop), ECx p s m args c cc nL y.cls Ts D cl tys A s.heap → meth.sig.returnType = ret → meth.locks = false →
      EV p l e (rmd d) s m args below meth c 0 0 (MQ below (QQ cl D A w' v) args s 0 0 A) nL D cl A s.heap w 0 lv0 []) : Ct l cl tys Ts D y cc nL ret (rmd d) as w w' v := by
  subst hlv
  exact ev_enter hy hn (fun v hv => by simpa using List.all_eq_true.mp hcat v hv) hG body
theorem ev_iretL (X : ECx p s m args c cc nL own Ts D cl tys A s.heap) (hr : meth.sig.returnType = some .int) (hk : meth.locks = false) {r : Int32} {v : Option Value} (d : decode cc pc = .ok (.ireturn, 1)) (hv : some (.int r) = v) (hS : S = S') : EV p l e R s m args below meth c cells slots (MQ below (QQ cl D A (ly_w Ly N ad ca S' x) v) args s cells slots A) nL D cl A s.heap (ly_w Ly N ad ca S x) pc lv [.int r] := by
  subst hS
  exact ev_iret (H0 := s.heap) X hr hk d hv rfl
theorem ev_zretL (X : ECx p s m args c cc nL own Ts D cl tys A s.heap) (hr : meth.sig.returnType = some .boolean) (hk : meth.locks = false) {r : Int32} {b : Bool} (d : decode cc pc = .ok (.ireturn, 1)) (hv : r = b2i b) (hS : S = S') : EV p l e R s m args below meth c cells slots (MQ below (QQ cl D A (ly_w Ly N ad ca S' x) (some (.int (b2i b)))) args s cells slots A) nL D cl A s.heap (ly_w Ly N ad ca S x) pc lv [.int r] := by
  subst hS
  subst hv
  exact ev_zret (H0 := s.heap) X hr hk (b2i_nar b) d rfl rfl
theorem ev_lretL (X : ECx p s m args c cc nL own Ts D cl tys A s.heap) (hr : meth.sig.returnType = some .long) (hk : meth.locks = false) {r : Int64} {v : Option Value} (d : decode cc pc = .ok (.lreturn, 1)) (hv : some (.long r) = v) (hS : S = S') : EV p l e R s m args below meth c cells slots (MQ below (QQ cl D A (ly_w Ly N ad ca S' x) v) args s cells slots A) nL D cl A s.heap (ly_w Ly N ad ca S x) pc lv [.long r] := by
  subst hS
  exact ev_lret (H0 := s.heap) X hr hk d hv rfl
theorem ev_vretL (X : ECx p s m args c cc nL own Ts D cl tys A s.heap) (hr : meth.sig.returnType = none) (hk : meth.locks = false) (d : decode cc pc = .ok (.return_, 1)) (hS : S = S') : EV p l e R s m args below meth c cells slots (MQ below (QQ cl D A (ly_w Ly N ad ca S' x) none) args s cells slots A) nL D cl A s.heap (ly_w Ly N ad ca S x) pc lv [] := by
  subst hS
  exact ev_vret (H0 := s.heap) X hr hk d rfl rfl
end LYC
end
section
theorem d_X_init_0 : decode b_X_init 0 = .ok (.aload_n 0, 1) := by decide +kernel
theorem d_X_init_1 : decode b_X_init 1 = .ok (.invokespecial 1, 3) := by decide +kernel
theorem d_X_init_4 : decode b_X_init 4 = .ok (.aload_n 0, 1) := by decide +kernel
theorem d_X_init_5 : decode b_X_init 5 = .ok (.iload_n 1, 1) := by decide +kernel
theorem d_X_init_6 : decode b_X_init 6 = .ok (.putfield 7, 3) := by decide +kernel
theorem d_X_init_9 : decode b_X_init 9 = .ok (.aload_n 0, 1) := by decide +kernel
theorem d_X_init_10 : decode b_X_init 10 = .ok (.sipush 256, 3) := by decide +kernel
theorem d_X_init_13 : decode b_X_init 13 = .ok (.newarray .int, 2) := by decide +kernel
theorem d_X_init_15 : decode b_X_init 15 = .ok (.putfield 13, 3) := by decide +kernel
theorem d_X_init_18 : decode b_X_init 18 = .ok (.aload_n 0, 1) := by decide +kernel
theorem d_X_init_19 : decode b_X_init 19 = .ok (.bipush 16, 2) := by decide +kernel
theorem d_X_init_21 : decode b_X_init 21 = .ok (.newarray .int, 2) := by decide +kernel
theorem d_X_init_23 : decode b_X_init 23 = .ok (.putfield 17, 3) := by decide +kernel
theorem d_X_init_26 : decode b_X_init 26 = .ok (.aload_n 0, 1) := by decide +kernel
theorem d_X_init_27 : decode b_X_init 27 = .ok (.getfield 17, 3) := by decide +kernel
theorem d_X_init_30 : decode b_X_init 30 = .ok (.iconst 0, 1) := by decide +kernel
theorem d_X_init_31 : decode b_X_init 31 = .ok (.iconst 0, 1) := by decide +kernel
theorem d_X_init_32 : decode b_X_init 32 = .ok (.iastore, 1) := by decide +kernel
theorem d_X_init_33 : decode b_X_init 33 = .ok (.iconst 1, 1) := by decide +kernel
theorem d_X_init_34 : decode b_X_init 34 = .ok (.istore_n 2, 1) := by decide +kernel
theorem d_X_init_35 : decode b_X_init 35 = .ok (.iload_n 2, 1) := by decide +kernel
theorem d_X_init_36 : decode b_X_init 36 = .ok (.bipush 16, 2) := by decide +kernel
theorem d_X_init_38 : decode b_X_init 38 = .ok (.if_icmp .ge 16, 3) := by decide +kernel
theorem d_X_init_41 : decode b_X_init 41 = .ok (.aload_n 0, 1) := by decide +kernel
theorem d_X_init_42 : decode b_X_init 42 = .ok (.getfield 17, 3) := by decide +kernel
theorem d_X_init_45 : decode b_X_init 45 = .ok (.iload_n 2, 1) := by decide +kernel
theorem d_X_init_46 : decode b_X_init 46 = .ok (.iconst 1, 1) := by decide +kernel
theorem d_X_init_47 : decode b_X_init 47 = .ok (.iastore, 1) := by decide +kernel
theorem d_X_init_48 : decode b_X_init 48 = .ok (.iinc 2 1, 3) := by decide +kernel
theorem d_X_init_51 : decode b_X_init 51 = .ok (.goto (-16), 3) := by decide +kernel
theorem d_X_init_54 : decode b_X_init 54 = .ok (.aload_n 0, 1) := by decide +kernel
theorem d_X_init_55 : decode b_X_init 55 = .ok (.iconst 4, 1) := by decide +kernel
theorem d_X_init_56 : decode b_X_init 56 = .ok (.anewarray 20, 3) := by decide +kernel
theorem d_X_init_59 : decode b_X_init 59 = .ok (.putfield 22, 3) := by decide +kernel
theorem d_X_init_62 : decode b_X_init 62 = .ok (.iconst 0, 1) := by decide +kernel
theorem d_X_init_63 : decode b_X_init 63 = .ok (.istore_n 2, 1) := by decide +kernel
theorem d_X_init_64 : decode b_X_init 64 = .ok (.iload_n 2, 1) := by decide +kernel
theorem d_X_init_65 : decode b_X_init 65 = .ok (.iconst 4, 1) := by decide +kernel
theorem d_X_init_66 : decode b_X_init 66 = .ok (.if_icmp .ge 22, 3) := by decide +kernel
theorem d_X_init_69 : decode b_X_init 69 = .ok (.aload_n 0, 1) := by decide +kernel
theorem d_X_init_70 : decode b_X_init 70 = .ok (.getfield 22, 3) := by decide +kernel
theorem d_X_init_73 : decode b_X_init 73 = .ok (.iload_n 2, 1) := by decide +kernel
theorem d_X_init_74 : decode b_X_init 74 = .ok (.new 20, 3) := by decide +kernel
theorem d_X_init_77 : decode b_X_init 77 = .ok (.dup, 1) := by decide +kernel
theorem d_X_init_78 : decode b_X_init 78 = .ok (.invokespecial 26, 3) := by decide +kernel
theorem d_X_init_81 : decode b_X_init 81 = .ok (.aastore, 1) := by decide +kernel
theorem d_X_init_82 : decode b_X_init 82 = .ok (.iinc 2 1, 3) := by decide +kernel
theorem d_X_init_85 : decode b_X_init 85 = .ok (.goto (-21), 3) := by decide +kernel
theorem d_X_init_88 : decode b_X_init 88 = .ok (.aload_n 0, 1) := by decide +kernel
theorem d_X_init_89 : decode b_X_init 89 = .ok (.iconst 2, 1) := by decide +kernel
theorem d_X_init_90 : decode b_X_init 90 = .ok (.anewarray 27, 3) := by decide +kernel
theorem d_X_init_93 : decode b_X_init 93 = .ok (.putfield 29, 3) := by decide +kernel
theorem d_X_init_96 : decode b_X_init 96 = .ok (.iconst 0, 1) := by decide +kernel
theorem d_X_init_97 : decode b_X_init 97 = .ok (.istore_n 2, 1) := by decide +kernel
theorem d_X_init_98 : decode b_X_init 98 = .ok (.iload_n 2, 1) := by decide +kernel
theorem d_X_init_99 : decode b_X_init 99 = .ok (.iconst 2, 1) := by decide +kernel
theorem d_X_init_100 : decode b_X_init 100 = .ok (.if_icmp .ge 22, 3) := by decide +kernel
theorem d_X_init_103 : decode b_X_init 103 = .ok (.aload_n 0, 1) := by decide +kernel
theorem d_X_init_104 : decode b_X_init 104 = .ok (.getfield 29, 3) := by decide +kernel
theorem d_X_init_107 : decode b_X_init 107 = .ok (.iload_n 2, 1) := by decide +kernel
theorem d_X_init_108 : decode b_X_init 108 = .ok (.new 27, 3) := by decide +kernel
theorem d_X_init_111 : decode b_X_init 111 = .ok (.dup, 1) := by decide +kernel
theorem d_X_init_112 : decode b_X_init 112 = .ok (.invokespecial 33, 3) := by decide +kernel
theorem d_X_init_115 : decode b_X_init 115 = .ok (.aastore, 1) := by decide +kernel
theorem d_X_init_116 : decode b_X_init 116 = .ok (.iinc 2 1, 3) := by decide +kernel
theorem d_X_init_119 : decode b_X_init 119 = .ok (.goto (-21), 3) := by decide +kernel
theorem d_X_init_122 : decode b_X_init 122 = .ok (.aload_n 0, 1) := by decide +kernel
theorem d_X_init_123 : decode b_X_init 123 = .ok (.invokevirtual 34, 3) := by decide +kernel
theorem d_X_init_126 : decode b_X_init 126 = .ok (.return_, 1) := by decide +kernel
theorem d_X_load_0 : decode b_X_load 0 = .ok (.aload_n 0, 1) := by decide +kernel
theorem d_X_load_1 : decode b_X_load 1 = .ok (.iload_n 1, 1) := by decide +kernel
theorem d_X_load_2 : decode b_X_load 2 = .ok (.invokevirtual 37, 3) := by decide +kernel
theorem d_X_load_5 : decode b_X_load 5 = .ok (.ifCond .eq 7, 3) := by decide +kernel
theorem d_X_load_8 : decode b_X_load 8 = .ok (.ldc2_w 41, 3) := by decide +kernel
theorem d_X_load_11 : decode b_X_load 11 = .ok (.lreturn, 1) := by decide +kernel
theorem d_X_load_12 : decode b_X_load 12 = .ok (.aload_n 0, 1) := by decide +kernel
theorem d_X_load_13 : decode b_X_load 13 = .ok (.aload_n 0, 1) := by decide +kernel
theorem d_X_load_14 : decode b_X_load 14 = .ok (.getfield 29, 3) := by decide +kernel
theorem d_X_load_17 : decode b_X_load 17 = .ok (.iload_n 1, 1) := by decide +kernel
theorem d_X_load_18 : decode b_X_load 18 = .ok (.aaload, 1) := by decide +kernel
theorem d_X_load_19 : decode b_X_load 19 = .ok (.iload_n 2, 1) := by decide +kernel
theorem d_X_load_20 : decode b_X_load 20 = .ok (.iconst 1, 1) := by decide +kernel
theorem d_X_load_21 : decode b_X_load 21 = .ok (.invokevirtual 43, 3) := by decide +kernel
theorem d_X_load_24 : decode b_X_load 24 = .ok (.ifCond .ne 17, 3) := by decide +kernel
theorem d_X_load_27 : decode b_X_load 27 = .ok (.aload_n 0, 1) := by decide +kernel
theorem d_X_load_28 : decode b_X_load 28 = .ok (.dup, 1) := by decide +kernel
theorem d_X_load_29 : decode b_X_load 29 = .ok (.getfield 47, 3) := by decide +kernel
theorem d_X_load_32 : decode b_X_load 32 = .ok (.iconst 1, 1) := by decide +kernel
theorem d_X_load_33 : decode b_X_load 33 = .ok (.iadd, 1) := by decide +kernel
theorem d_X_load_34 : decode b_X_load 34 = .ok (.putfield 47, 3) := by decide +kernel
theorem d_X_load_37 : decode b_X_load 37 = .ok (.ldc2_w 50, 3) := by decide +kernel
theorem d_X_load_40 : decode b_X_load 40 = .ok (.lreturn, 1) := by decide +kernel
theorem d_X_load_41 : decode b_X_load 41 = .ok (.aload_n 0, 1) := by decide +kernel
theorem d_X_load_42 : decode b_X_load 42 = .ok (.getfield 13, 3) := by decide +kernel
theorem d_X_load_45 : decode b_X_load 45 = .ok (.iload_n 2, 1) := by decide +kernel
theorem d_X_load_46 : decode b_X_load 46 = .ok (.iaload, 1) := by decide +kernel
theorem d_X_load_47 : decode b_X_load 47 = .ok (.i2l, 1) := by decide +kernel
theorem d_X_load_48 : decode b_X_load 48 = .ok (.lreturn, 1) := by decide +kernel
theorem d_X_store_0 : decode b_X_store 0 = .ok (.aload_n 0, 1) := by decide +kernel
theorem d_X_store_1 : decode b_X_store 1 = .ok (.iload_n 1, 1) := by decide +kernel
theorem d_X_store_2 : decode b_X_store 2 = .ok (.invokevirtual 37, 3) := by decide +kernel
theorem d_X_store_5 : decode b_X_store 5 = .ok (.ifCond .eq 5, 3) := by decide +kernel
theorem d_X_store_8 : decode b_X_store 8 = .ok (.iconst (-1), 1) := by decide +kernel
theorem d_X_store_9 : decode b_X_store 9 = .ok (.ireturn, 1) := by decide +kernel
theorem d_X_store_10 : decode b_X_store 10 = .ok (.aload_n 0, 1) := by decide +kernel
theorem d_X_store_11 : decode b_X_store 11 = .ok (.aload_n 0, 1) := by decide +kernel
theorem d_X_store_12 : decode b_X_store 12 = .ok (.getfield 29, 3) := by decide +kernel
theorem d_X_store_15 : decode b_X_store 15 = .ok (.iload_n 1, 1) := by decide +kernel
theorem d_X_store_16 : decode b_X_store 16 = .ok (.aaload, 1) := by decide +kernel
theorem d_X_store_17 : decode b_X_store 17 = .ok (.iload_n 2, 1) := by decide +kernel
theorem d_X_store_18 : decode b_X_store 18 = .ok (.iconst 2, 1) := by decide +kernel
theorem d_X_store_19 : decode b_X_store 19 = .ok (.invokevirtual 43, 3) := by decide +kernel
theorem d_X_store_22 : decode b_X_store 22 = .ok (.ifCond .ne 15, 3) := by decide +kernel
theorem d_X_store_25 : decode b_X_store 25 = .ok (.aload_n 0, 1) := by decide +kernel
theorem d_X_store_26 : decode b_X_store 26 = .ok (.dup, 1) := by decide +kernel
theorem d_X_store_27 : decode b_X_store 27 = .ok (.getfield 47, 3) := by decide +kernel
theorem d_X_store_30 : decode b_X_store 30 = .ok (.iconst 1, 1) := by decide +kernel
theorem d_X_store_31 : decode b_X_store 31 = .ok (.iadd, 1) := by decide +kernel
theorem d_X_store_32 : decode b_X_store 32 = .ok (.putfield 47, 3) := by decide +kernel
theorem d_X_store_35 : decode b_X_store 35 = .ok (.iconst 1, 1) := by decide +kernel
theorem d_X_store_36 : decode b_X_store 36 = .ok (.ireturn, 1) := by decide +kernel
theorem d_X_store_37 : decode b_X_store 37 = .ok (.aload_n 0, 1) := by decide +kernel
theorem d_X_store_38 : decode b_X_store 38 = .ok (.getfield 13, 3) := by decide +kernel
theorem d_X_store_41 : decode b_X_store 41 = .ok (.iload_n 2, 1) := by decide +kernel
theorem d_X_store_42 : decode b_X_store 42 = .ok (.iload_n 3, 1) := by decide +kernel
theorem d_X_store_43 : decode b_X_store 43 = .ok (.iastore, 1) := by decide +kernel
theorem d_X_store_44 : decode b_X_store 44 = .ok (.iconst 0, 1) := by decide +kernel
theorem d_X_store_45 : decode b_X_store 45 = .ok (.ireturn, 1) := by decide +kernel
theorem d_X_denied_0 : decode b_X_denied 0 = .ok (.aload_n 0, 1) := by decide +kernel
theorem d_X_denied_1 : decode b_X_denied 1 = .ok (.getfield 47, 3) := by decide +kernel
theorem d_X_denied_4 : decode b_X_denied 4 = .ok (.ireturn, 1) := by decide +kernel
theorem d_X_give_0 : decode b_X_give 0 = .ok (.aload_n 0, 1) := by decide +kernel
theorem d_X_give_1 : decode b_X_give 1 = .ok (.iload_n 1, 1) := by decide +kernel
theorem d_X_give_2 : decode b_X_give 2 = .ok (.invokevirtual 37, 3) := by decide +kernel
theorem d_X_give_5 : decode b_X_give 5 = .ok (.ifCond .ne 10, 3) := by decide +kernel
theorem d_X_give_8 : decode b_X_give 8 = .ok (.iload_n 2, 1) := by decide +kernel
theorem d_X_give_9 : decode b_X_give 9 = .ok (.invokestatic 52, 3) := by decide +kernel
theorem d_X_give_12 : decode b_X_give 12 = .ok (.ifCond .ne 5, 3) := by decide +kernel
theorem d_X_give_15 : decode b_X_give 15 = .ok (.iconst 0, 1) := by decide +kernel
theorem d_X_give_16 : decode b_X_give 16 = .ok (.ireturn, 1) := by decide +kernel
theorem d_X_give_17 : decode b_X_give 17 = .ok (.aload_n 0, 1) := by decide +kernel
theorem d_X_give_18 : decode b_X_give 18 = .ok (.getfield 29, 3) := by decide +kernel
theorem d_X_give_21 : decode b_X_give 21 = .ok (.iload_n 1, 1) := by decide +kernel
theorem d_X_give_22 : decode b_X_give 22 = .ok (.aaload, 1) := by decide +kernel
theorem d_X_give_23 : decode b_X_give 23 = .ok (.getfield 55, 3) := by decide +kernel
theorem d_X_give_26 : decode b_X_give 26 = .ok (.iload_n 2, 1) := by decide +kernel
theorem d_X_give_27 : decode b_X_give 27 = .ok (.iload_n 3, 1) := by decide +kernel
theorem d_X_give_28 : decode b_X_give 28 = .ok (.iastore, 1) := by decide +kernel
theorem d_X_give_29 : decode b_X_give 29 = .ok (.iconst 1, 1) := by decide +kernel
theorem d_X_give_30 : decode b_X_give 30 = .ok (.ireturn, 1) := by decide +kernel
theorem d_X_register_0 : decode b_X_register 0 = .ok (.aload_n 0, 1) := by decide +kernel
theorem d_X_register_1 : decode b_X_register 1 = .ok (.iload_n 1, 1) := by decide +kernel
theorem d_X_register_2 : decode b_X_register 2 = .ok (.invokevirtual 37, 3) := by decide +kernel
theorem d_X_register_5 : decode b_X_register 5 = .ok (.ifCond .ne 10, 3) := by decide +kernel
theorem d_X_register_8 : decode b_X_register 8 = .ok (.iload_n 2, 1) := by decide +kernel
theorem d_X_register_9 : decode b_X_register 9 = .ok (.invokestatic 52, 3) := by decide +kernel
theorem d_X_register_12 : decode b_X_register 12 = .ok (.ifCond .ne 7, 3) := by decide +kernel
theorem d_X_register_15 : decode b_X_register 15 = .ok (.ldc2_w 41, 3) := by decide +kernel
theorem d_X_register_18 : decode b_X_register 18 = .ok (.lreturn, 1) := by decide +kernel
theorem d_X_register_19 : decode b_X_register 19 = .ok (.aload_n 0, 1) := by decide +kernel
theorem d_X_register_20 : decode b_X_register 20 = .ok (.getfield 29, 3) := by decide +kernel
theorem d_X_register_23 : decode b_X_register 23 = .ok (.iload_n 1, 1) := by decide +kernel
theorem d_X_register_24 : decode b_X_register 24 = .ok (.aaload, 1) := by decide +kernel
theorem d_X_register_25 : decode b_X_register 25 = .ok (.getfield 55, 3) := by decide +kernel
theorem d_X_register_28 : decode b_X_register 28 = .ok (.iload_n 2, 1) := by decide +kernel
theorem d_X_register_29 : decode b_X_register 29 = .ok (.iaload, 1) := by decide +kernel
theorem d_X_register_30 : decode b_X_register 30 = .ok (.i2l, 1) := by decide +kernel
theorem d_X_register_31 : decode b_X_register 31 = .ok (.lreturn, 1) := by decide +kernel
theorem d_X_create_0 : decode b_X_create 0 = .ok (.aload_n 0, 1) := by decide +kernel
theorem d_X_create_1 : decode b_X_create 1 = .ok (.iload_n 1, 1) := by decide +kernel
theorem d_X_create_2 : decode b_X_create 2 = .ok (.invokevirtual 37, 3) := by decide +kernel
theorem d_X_create_5 : decode b_X_create 5 = .ok (.ifCond .eq 5, 3) := by decide +kernel
theorem d_X_create_8 : decode b_X_create 8 = .ok (.iconst (-1), 1) := by decide +kernel
theorem d_X_create_9 : decode b_X_create 9 = .ok (.ireturn, 1) := by decide +kernel
theorem d_X_create_10 : decode b_X_create 10 = .ok (.iload_n 2, 1) := by decide +kernel
theorem d_X_create_11 : decode b_X_create 11 = .ok (.iload_n 3, 1) := by decide +kernel
theorem d_X_create_12 : decode b_X_create 12 = .ok (.invokestatic 58, 3) := by decide +kernel
theorem d_X_create_15 : decode b_X_create 15 = .ok (.ifCond .eq 21, 3) := by decide +kernel
theorem d_X_create_18 : decode b_X_create 18 = .ok (.iload 4, 2) := by decide +kernel
theorem d_X_create_20 : decode b_X_create 20 = .ok (.iload_n 2, 1) := by decide +kernel
theorem d_X_create_21 : decode b_X_create 21 = .ok (.iload_n 3, 1) := by decide +kernel
theorem d_X_create_22 : decode b_X_create 22 = .ok (.invokestatic 62, 3) := by decide +kernel
theorem d_X_create_25 : decode b_X_create 25 = .ok (.ifCond .eq 11, 3) := by decide +kernel
theorem d_X_create_28 : decode b_X_create 28 = .ok (.iload 5, 2) := by decide +kernel
theorem d_X_create_30 : decode b_X_create 30 = .ok (.invokestatic 66, 3) := by decide +kernel
theorem d_X_create_33 : decode b_X_create 33 = .ok (.ifCond .ne 6, 3) := by decide +kernel
theorem d_X_create_36 : decode b_X_create 36 = .ok (.bipush (-2), 2) := by decide +kernel
theorem d_X_create_38 : decode b_X_create 38 = .ok (.ireturn, 1) := by decide +kernel
theorem d_X_create_39 : decode b_X_create 39 = .ok (.aload_n 0, 1) := by decide +kernel
theorem d_X_create_40 : decode b_X_create 40 = .ok (.iload_n 2, 1) := by decide +kernel
theorem d_X_create_41 : decode b_X_create 41 = .ok (.iload_n 3, 1) := by decide +kernel
theorem d_X_create_42 : decode b_X_create 42 = .ok (.invokevirtual 69, 3) := by decide +kernel
theorem d_X_create_45 : decode b_X_create 45 = .ok (.ifCond .ne 6, 3) := by decide +kernel
theorem d_X_create_48 : decode b_X_create 48 = .ok (.bipush (-3), 2) := by decide +kernel
theorem d_X_create_50 : decode b_X_create 50 = .ok (.ireturn, 1) := by decide +kernel
theorem d_X_create_51 : decode b_X_create 51 = .ok (.aload_n 0, 1) := by decide +kernel
theorem d_X_create_52 : decode b_X_create 52 = .ok (.iload 5, 2) := by decide +kernel
theorem d_X_create_54 : decode b_X_create 54 = .ok (.iload_n 2, 1) := by decide +kernel
theorem d_X_create_55 : decode b_X_create 55 = .ok (.iload_n 3, 1) := by decide +kernel
theorem d_X_create_56 : decode b_X_create 56 = .ok (.invokevirtual 72, 3) := by decide +kernel
theorem d_X_create_59 : decode b_X_create 59 = .ok (.ifCond .ne 6, 3) := by decide +kernel
theorem d_X_create_62 : decode b_X_create 62 = .ok (.bipush (-4), 2) := by decide +kernel
theorem d_X_create_64 : decode b_X_create 64 = .ok (.ireturn, 1) := by decide +kernel
theorem d_X_create_65 : decode b_X_create 65 = .ok (.aload_n 0, 1) := by decide +kernel
theorem d_X_create_66 : decode b_X_create 66 = .ok (.invokevirtual 75, 3) := by decide +kernel
theorem d_X_create_69 : decode b_X_create 69 = .ok (.istore 6, 2) := by decide +kernel
theorem d_X_create_71 : decode b_X_create 71 = .ok (.iload 6, 2) := by decide +kernel
theorem d_X_create_73 : decode b_X_create 73 = .ok (.iconst (-1), 1) := by decide +kernel
theorem d_X_create_74 : decode b_X_create 74 = .ok (.if_icmp .ne 6, 3) := by decide +kernel
theorem d_X_create_77 : decode b_X_create 77 = .ok (.bipush (-5), 2) := by decide +kernel
theorem d_X_create_79 : decode b_X_create 79 = .ok (.ireturn, 1) := by decide +kernel
theorem d_X_create_80 : decode b_X_create 80 = .ok (.aload_n 0, 1) := by decide +kernel
theorem d_X_create_81 : decode b_X_create 81 = .ok (.iload 6, 2) := by decide +kernel
theorem d_X_create_83 : decode b_X_create 83 = .ok (.iload_n 2, 1) := by decide +kernel
theorem d_X_create_84 : decode b_X_create 84 = .ok (.iload_n 3, 1) := by decide +kernel
theorem d_X_create_85 : decode b_X_create 85 = .ok (.iload 4, 2) := by decide +kernel
theorem d_X_create_87 : decode b_X_create 87 = .ok (.iload 5, 2) := by decide +kernel
theorem d_X_create_89 : decode b_X_create 89 = .ok (.invokevirtual 79, 3) := by decide +kernel
theorem d_X_create_92 : decode b_X_create 92 = .ok (.iload 6, 2) := by decide +kernel
theorem d_X_create_94 : decode b_X_create 94 = .ok (.ireturn, 1) := by decide +kernel
theorem d_X_run_0 : decode b_X_run 0 = .ok (.aload_n 0, 1) := by decide +kernel
theorem d_X_run_1 : decode b_X_run 1 = .ok (.iload_n 1, 1) := by decide +kernel
theorem d_X_run_2 : decode b_X_run 2 = .ok (.invokevirtual 37, 3) := by decide +kernel
theorem d_X_run_5 : decode b_X_run 5 = .ok (.ifCond .eq 5, 3) := by decide +kernel
theorem d_X_run_8 : decode b_X_run 8 = .ok (.iconst (-1), 1) := by decide +kernel
theorem d_X_run_9 : decode b_X_run 9 = .ok (.ireturn, 1) := by decide +kernel
theorem d_X_run_10 : decode b_X_run 10 = .ok (.aload_n 0, 1) := by decide +kernel
theorem d_X_run_11 : decode b_X_run 11 = .ok (.iload_n 2, 1) := by decide +kernel
theorem d_X_run_12 : decode b_X_run 12 = .ok (.invokevirtual 83, 3) := by decide +kernel
theorem d_X_run_15 : decode b_X_run 15 = .ok (.ifCond .ne 6, 3) := by decide +kernel
theorem d_X_run_18 : decode b_X_run 18 = .ok (.bipush (-2), 2) := by decide +kernel
theorem d_X_run_20 : decode b_X_run 20 = .ok (.ireturn, 1) := by decide +kernel
theorem d_X_run_21 : decode b_X_run 21 = .ok (.aload_n 0, 1) := by decide +kernel
theorem d_X_run_22 : decode b_X_run 22 = .ok (.getfield 22, 3) := by decide +kernel
theorem d_X_run_25 : decode b_X_run 25 = .ok (.iload_n 2, 1) := by decide +kernel
theorem d_X_run_26 : decode b_X_run 26 = .ok (.aaload, 1) := by decide +kernel
theorem d_X_run_27 : decode b_X_run 27 = .ok (.astore 4, 2) := by decide +kernel
theorem d_X_run_29 : decode b_X_run 29 = .ok (.aload 4, 2) := by decide +kernel
theorem d_X_run_31 : decode b_X_run 31 = .ok (.getfield 86, 3) := by decide +kernel
theorem d_X_run_34 : decode b_X_run 34 = .ok (.iconst 1, 1) := by decide +kernel
theorem d_X_run_35 : decode b_X_run 35 = .ok (.if_icmp .eq 15, 3) := by decide +kernel
theorem d_X_run_38 : decode b_X_run 38 = .ok (.aload 4, 2) := by decide +kernel
theorem d_X_run_40 : decode b_X_run 40 = .ok (.getfield 86, 3) := by decide +kernel
theorem d_X_run_43 : decode b_X_run 43 = .ok (.iconst 3, 1) := by decide +kernel
theorem d_X_run_44 : decode b_X_run 44 = .ok (.if_icmp .eq 6, 3) := by decide +kernel
theorem d_X_run_47 : decode b_X_run 47 = .ok (.bipush (-2), 2) := by decide +kernel
theorem d_X_run_49 : decode b_X_run 49 = .ok (.ireturn, 1) := by decide +kernel
theorem d_X_run_50 : decode b_X_run 50 = .ok (.aload 4, 2) := by decide +kernel
theorem d_X_run_52 : decode b_X_run 52 = .ok (.getfield 86, 3) := by decide +kernel
theorem d_X_run_55 : decode b_X_run 55 = .ok (.iconst 1, 1) := by decide +kernel
theorem d_X_run_56 : decode b_X_run 56 = .ok (.if_icmp .ne 9, 3) := by decide +kernel
theorem d_X_run_59 : decode b_X_run 59 = .ok (.aload 4, 2) := by decide +kernel
theorem d_X_run_61 : decode b_X_run 61 = .ok (.iload_n 3, 1) := by decide +kernel
theorem d_X_run_62 : decode b_X_run 62 = .ok (.invokevirtual 89, 3) := by decide +kernel
theorem d_X_run_65 : decode b_X_run 65 = .ok (.aload 4, 2) := by decide +kernel
theorem d_X_run_67 : decode b_X_run 67 = .ok (.iconst 2, 1) := by decide +kernel
theorem d_X_run_68 : decode b_X_run 68 = .ok (.putfield 86, 3) := by decide +kernel
theorem d_X_run_71 : decode b_X_run 71 = .ok (.aload_n 0, 1) := by decide +kernel
theorem d_X_run_72 : decode b_X_run 72 = .ok (.getfield 29, 3) := by decide +kernel
theorem d_X_run_75 : decode b_X_run 75 = .ok (.iload_n 1, 1) := by decide +kernel
theorem d_X_run_76 : decode b_X_run 76 = .ok (.aaload, 1) := by decide +kernel
theorem d_X_run_77 : decode b_X_run 77 = .ok (.iload_n 2, 1) := by decide +kernel
theorem d_X_run_78 : decode b_X_run 78 = .ok (.putfield 93, 3) := by decide +kernel
theorem d_X_run_81 : decode b_X_run 81 = .ok (.aload_n 0, 1) := by decide +kernel
theorem d_X_run_82 : decode b_X_run 82 = .ok (.aload_n 0, 1) := by decide +kernel
theorem d_X_run_83 : decode b_X_run 83 = .ok (.getfield 29, 3) := by decide +kernel
theorem d_X_run_86 : decode b_X_run 86 = .ok (.iload_n 1, 1) := by decide +kernel
theorem d_X_run_87 : decode b_X_run 87 = .ok (.aaload, 1) := by decide +kernel
theorem d_X_run_88 : decode b_X_run 88 = .ok (.invokevirtual 96, 3) := by decide +kernel
theorem d_X_run_91 : decode b_X_run 91 = .ok (.iconst 0, 1) := by decide +kernel
theorem d_X_run_92 : decode b_X_run 92 = .ok (.ireturn, 1) := by decide +kernel
theorem d_X_step_0 : decode b_X_step 0 = .ok (.aload_n 0, 1) := by decide +kernel
theorem d_X_step_1 : decode b_X_step 1 = .ok (.iload_n 1, 1) := by decide +kernel
theorem d_X_step_2 : decode b_X_step 2 = .ok (.invokevirtual 100, 3) := by decide +kernel
theorem d_X_step_5 : decode b_X_step 5 = .ok (.ifCond .eq 14, 3) := by decide +kernel
theorem d_X_step_8 : decode b_X_step 8 = .ok (.iload_n 2, 1) := by decide +kernel
theorem d_X_step_9 : decode b_X_step 9 = .ok (.iconst 1, 1) := by decide +kernel
theorem d_X_step_10 : decode b_X_step 10 = .ok (.if_icmp .lt 9, 3) := by decide +kernel
theorem d_X_step_13 : decode b_X_step 13 = .ok (.iload_n 2, 1) := by decide +kernel
theorem d_X_step_14 : decode b_X_step 14 = .ok (.bipush 100, 2) := by decide +kernel
theorem d_X_step_16 : decode b_X_step 16 = .ok (.if_icmp .le 5, 3) := by decide +kernel
theorem d_X_step_19 : decode b_X_step 19 = .ok (.iconst (-1), 1) := by decide +kernel
theorem d_X_step_20 : decode b_X_step 20 = .ok (.ireturn, 1) := by decide +kernel
theorem d_X_step_21 : decode b_X_step 21 = .ok (.aload_n 0, 1) := by decide +kernel
theorem d_X_step_22 : decode b_X_step 22 = .ok (.getfield 29, 3) := by decide +kernel
theorem d_X_step_25 : decode b_X_step 25 = .ok (.iload_n 1, 1) := by decide +kernel
theorem d_X_step_26 : decode b_X_step 26 = .ok (.aaload, 1) := by decide +kernel
theorem d_X_step_27 : decode b_X_step 27 = .ok (.astore_n 3, 1) := by decide +kernel
theorem d_X_step_28 : decode b_X_step 28 = .ok (.aload_n 0, 1) := by decide +kernel
theorem d_X_step_29 : decode b_X_step 29 = .ok (.getfield 22, 3) := by decide +kernel
theorem d_X_step_32 : decode b_X_step 32 = .ok (.aload_n 3, 1) := by decide +kernel
theorem d_X_step_33 : decode b_X_step 33 = .ok (.getfield 93, 3) := by decide +kernel
theorem d_X_step_36 : decode b_X_step 36 = .ok (.aaload, 1) := by decide +kernel
theorem d_X_step_37 : decode b_X_step 37 = .ok (.astore 4, 2) := by decide +kernel
theorem d_X_step_39 : decode b_X_step 39 = .ok (.iconst 0, 1) := by decide +kernel
theorem d_X_step_40 : decode b_X_step 40 = .ok (.istore 5, 2) := by decide +kernel
theorem d_X_step_42 : decode b_X_step 42 = .ok (.iload 5, 2) := by decide +kernel
theorem d_X_step_44 : decode b_X_step 44 = .ok (.iload_n 2, 1) := by decide +kernel
theorem d_X_step_45 : decode b_X_step 45 = .ok (.if_icmp .ge 25, 3) := by decide +kernel
theorem d_X_step_48 : decode b_X_step 48 = .ok (.aload 4, 2) := by decide +kernel
theorem d_X_step_50 : decode b_X_step 50 = .ok (.getfield 86, 3) := by decide +kernel
theorem d_X_step_53 : decode b_X_step 53 = .ok (.iconst 2, 1) := by decide +kernel
theorem d_X_step_54 : decode b_X_step 54 = .ok (.if_icmp .ne 16, 3) := by decide +kernel
theorem d_X_step_57 : decode b_X_step 57 = .ok (.aload_n 0, 1) := by decide +kernel
theorem d_X_step_58 : decode b_X_step 58 = .ok (.aload_n 3, 1) := by decide +kernel
theorem d_X_step_59 : decode b_X_step 59 = .ok (.aload 4, 2) := by decide +kernel
theorem d_X_step_61 : decode b_X_step 61 = .ok (.invokevirtual 103, 3) := by decide +kernel
theorem d_X_step_64 : decode b_X_step 64 = .ok (.iinc 5 1, 3) := by decide +kernel
theorem d_X_step_67 : decode b_X_step 67 = .ok (.goto (-25), 3) := by decide +kernel
theorem d_X_step_70 : decode b_X_step 70 = .ok (.aload 4, 2) := by decide +kernel
theorem d_X_step_72 : decode b_X_step 72 = .ok (.getfield 86, 3) := by decide +kernel
theorem d_X_step_75 : decode b_X_step 75 = .ok (.iconst 2, 1) := by decide +kernel
theorem d_X_step_76 : decode b_X_step 76 = .ok (.if_icmp .eq 8, 3) := by decide +kernel
theorem d_X_step_79 : decode b_X_step 79 = .ok (.aload_n 0, 1) := by decide +kernel
theorem d_X_step_80 : decode b_X_step 80 = .ok (.aload_n 3, 1) := by decide +kernel
theorem d_X_step_81 : decode b_X_step 81 = .ok (.invokevirtual 107, 3) := by decide +kernel
theorem d_X_step_84 : decode b_X_step 84 = .ok (.iload 5, 2) := by decide +kernel
theorem d_X_step_86 : decode b_X_step 86 = .ok (.ireturn, 1) := by decide +kernel
theorem d_X_interrupt_0 : decode b_X_interrupt 0 = .ok (.aload_n 0, 1) := by decide +kernel
theorem d_X_interrupt_1 : decode b_X_interrupt 1 = .ok (.iload_n 1, 1) := by decide +kernel
theorem d_X_interrupt_2 : decode b_X_interrupt 2 = .ok (.invokevirtual 100, 3) := by decide +kernel
theorem d_X_interrupt_5 : decode b_X_interrupt 5 = .ok (.ifCond .ne 5, 3) := by decide +kernel
theorem d_X_interrupt_8 : decode b_X_interrupt 8 = .ok (.iconst (-1), 1) := by decide +kernel
theorem d_X_interrupt_9 : decode b_X_interrupt 9 = .ok (.ireturn, 1) := by decide +kernel
theorem d_X_interrupt_10 : decode b_X_interrupt 10 = .ok (.aload_n 0, 1) := by decide +kernel
theorem d_X_interrupt_11 : decode b_X_interrupt 11 = .ok (.getfield 29, 3) := by decide +kernel
theorem d_X_interrupt_14 : decode b_X_interrupt 14 = .ok (.iload_n 1, 1) := by decide +kernel
theorem d_X_interrupt_15 : decode b_X_interrupt 15 = .ok (.aaload, 1) := by decide +kernel
theorem d_X_interrupt_16 : decode b_X_interrupt 16 = .ok (.astore_n 2, 1) := by decide +kernel
theorem d_X_interrupt_17 : decode b_X_interrupt 17 = .ok (.aload_n 2, 1) := by decide +kernel
theorem d_X_interrupt_18 : decode b_X_interrupt 18 = .ok (.getfield 93, 3) := by decide +kernel
theorem d_X_interrupt_21 : decode b_X_interrupt 21 = .ok (.istore_n 3, 1) := by decide +kernel
theorem d_X_interrupt_22 : decode b_X_interrupt 22 = .ok (.aload_n 0, 1) := by decide +kernel
theorem d_X_interrupt_23 : decode b_X_interrupt 23 = .ok (.getfield 22, 3) := by decide +kernel
theorem d_X_interrupt_26 : decode b_X_interrupt 26 = .ok (.iload_n 3, 1) := by decide +kernel
theorem d_X_interrupt_27 : decode b_X_interrupt 27 = .ok (.aaload, 1) := by decide +kernel
theorem d_X_interrupt_28 : decode b_X_interrupt 28 = .ok (.iconst 3, 1) := by decide +kernel
theorem d_X_interrupt_29 : decode b_X_interrupt 29 = .ok (.putfield 86, 3) := by decide +kernel
theorem d_X_interrupt_32 : decode b_X_interrupt 32 = .ok (.aload_n 0, 1) := by decide +kernel
theorem d_X_interrupt_33 : decode b_X_interrupt 33 = .ok (.aload_n 2, 1) := by decide +kernel
theorem d_X_interrupt_34 : decode b_X_interrupt 34 = .ok (.invokevirtual 107, 3) := by decide +kernel
theorem d_X_interrupt_37 : decode b_X_interrupt 37 = .ok (.iload_n 3, 1) := by decide +kernel
theorem d_X_interrupt_38 : decode b_X_interrupt 38 = .ok (.ireturn, 1) := by decide +kernel
theorem d_X_destroy_0 : decode b_X_destroy 0 = .ok (.aload_n 0, 1) := by decide +kernel
theorem d_X_destroy_1 : decode b_X_destroy 1 = .ok (.iload_n 1, 1) := by decide +kernel
theorem d_X_destroy_2 : decode b_X_destroy 2 = .ok (.invokevirtual 37, 3) := by decide +kernel
theorem d_X_destroy_5 : decode b_X_destroy 5 = .ok (.ifCond .eq 5, 3) := by decide +kernel
theorem d_X_destroy_8 : decode b_X_destroy 8 = .ok (.iconst (-1), 1) := by decide +kernel
theorem d_X_destroy_9 : decode b_X_destroy 9 = .ok (.ireturn, 1) := by decide +kernel
theorem d_X_destroy_10 : decode b_X_destroy 10 = .ok (.aload_n 0, 1) := by decide +kernel
theorem d_X_destroy_11 : decode b_X_destroy 11 = .ok (.iload_n 2, 1) := by decide +kernel
theorem d_X_destroy_12 : decode b_X_destroy 12 = .ok (.invokevirtual 83, 3) := by decide +kernel
theorem d_X_destroy_15 : decode b_X_destroy 15 = .ok (.ifCond .ne 6, 3) := by decide +kernel
theorem d_X_destroy_18 : decode b_X_destroy 18 = .ok (.bipush (-2), 2) := by decide +kernel
theorem d_X_destroy_20 : decode b_X_destroy 20 = .ok (.ireturn, 1) := by decide +kernel
theorem d_X_destroy_21 : decode b_X_destroy 21 = .ok (.aload_n 0, 1) := by decide +kernel
theorem d_X_destroy_22 : decode b_X_destroy 22 = .ok (.getfield 22, 3) := by decide +kernel
theorem d_X_destroy_25 : decode b_X_destroy 25 = .ok (.iload_n 2, 1) := by decide +kernel
theorem d_X_destroy_26 : decode b_X_destroy 26 = .ok (.aaload, 1) := by decide +kernel
theorem d_X_destroy_27 : decode b_X_destroy 27 = .ok (.getfield 86, 3) := by decide +kernel
theorem d_X_destroy_30 : decode b_X_destroy 30 = .ok (.iconst 2, 1) := by decide +kernel
theorem d_X_destroy_31 : decode b_X_destroy 31 = .ok (.if_icmp .ne 6, 3) := by decide +kernel
theorem d_X_destroy_34 : decode b_X_destroy 34 = .ok (.bipush (-3), 2) := by decide +kernel
theorem d_X_destroy_36 : decode b_X_destroy 36 = .ok (.ireturn, 1) := by decide +kernel
theorem d_X_destroy_37 : decode b_X_destroy 37 = .ok (.aload_n 0, 1) := by decide +kernel
theorem d_X_destroy_38 : decode b_X_destroy 38 = .ok (.aload_n 0, 1) := by decide +kernel
theorem d_X_destroy_39 : decode b_X_destroy 39 = .ok (.getfield 22, 3) := by decide +kernel
theorem d_X_destroy_42 : decode b_X_destroy 42 = .ok (.iload_n 2, 1) := by decide +kernel
theorem d_X_destroy_43 : decode b_X_destroy 43 = .ok (.aaload, 1) := by decide +kernel
theorem d_X_destroy_44 : decode b_X_destroy 44 = .ok (.invokevirtual 110, 3) := by decide +kernel
theorem d_X_destroy_47 : decode b_X_destroy 47 = .ok (.iconst 0, 1) := by decide +kernel
theorem d_X_destroy_48 : decode b_X_destroy 48 = .ok (.ireturn, 1) := by decide +kernel
theorem d_X_state_0 : decode b_X_state 0 = .ok (.iload_n 1, 1) := by decide +kernel
theorem d_X_state_1 : decode b_X_state 1 = .ok (.invokestatic 114, 3) := by decide +kernel
theorem d_X_state_4 : decode b_X_state 4 = .ok (.ifCond .eq 15, 3) := by decide +kernel
theorem d_X_state_7 : decode b_X_state 7 = .ok (.aload_n 0, 1) := by decide +kernel
theorem d_X_state_8 : decode b_X_state 8 = .ok (.getfield 22, 3) := by decide +kernel
theorem d_X_state_11 : decode b_X_state 11 = .ok (.iload_n 1, 1) := by decide +kernel
theorem d_X_state_12 : decode b_X_state 12 = .ok (.aaload, 1) := by decide +kernel
theorem d_X_state_13 : decode b_X_state 13 = .ok (.getfield 86, 3) := by decide +kernel
theorem d_X_state_16 : decode b_X_state 16 = .ok (.goto 4, 3) := by decide +kernel
theorem d_X_state_19 : decode b_X_state 19 = .ok (.iconst (-1), 1) := by decide +kernel
theorem d_X_state_20 : decode b_X_state 20 = .ok (.ireturn, 1) := by decide +kernel
theorem d_X_released_0 : decode b_X_released 0 = .ok (.aload_n 0, 1) := by decide +kernel
theorem d_X_released_1 : decode b_X_released 1 = .ok (.iload_n 1, 1) := by decide +kernel
theorem d_X_released_2 : decode b_X_released 2 = .ok (.invokevirtual 83, 3) := by decide +kernel
theorem d_X_released_5 : decode b_X_released 5 = .ok (.ifCond .ne 7, 3) := by decide +kernel
theorem d_X_released_8 : decode b_X_released 8 = .ok (.ldc2_w 41, 3) := by decide +kernel
theorem d_X_released_11 : decode b_X_released 11 = .ok (.lreturn, 1) := by decide +kernel
theorem d_X_released_12 : decode b_X_released 12 = .ok (.aload_n 0, 1) := by decide +kernel
theorem d_X_released_13 : decode b_X_released 13 = .ok (.getfield 22, 3) := by decide +kernel
theorem d_X_released_16 : decode b_X_released 16 = .ok (.iload_n 1, 1) := by decide +kernel
theorem d_X_released_17 : decode b_X_released 17 = .ok (.aaload, 1) := by decide +kernel
theorem d_X_released_18 : decode b_X_released 18 = .ok (.astore_n 2, 1) := by decide +kernel
theorem d_X_released_19 : decode b_X_released 19 = .ok (.aload_n 2, 1) := by decide +kernel
theorem d_X_released_20 : decode b_X_released 20 = .ok (.getfield 86, 3) := by decide +kernel
theorem d_X_released_23 : decode b_X_released 23 = .ok (.iconst 4, 1) := by decide +kernel
theorem d_X_released_24 : decode b_X_released 24 = .ok (.if_icmp .eq 11, 3) := by decide +kernel
theorem d_X_released_27 : decode b_X_released 27 = .ok (.aload_n 2, 1) := by decide +kernel
theorem d_X_released_28 : decode b_X_released 28 = .ok (.getfield 86, 3) := by decide +kernel
theorem d_X_released_31 : decode b_X_released 31 = .ok (.iconst 5, 1) := by decide +kernel
theorem d_X_released_32 : decode b_X_released 32 = .ok (.if_icmp .ne 7, 3) := by decide +kernel
theorem d_X_released_35 : decode b_X_released 35 = .ok (.iconst 1, 1) := by decide +kernel
theorem d_X_released_36 : decode b_X_released 36 = .ok (.goto 4, 3) := by decide +kernel
theorem d_X_released_39 : decode b_X_released 39 = .ok (.iconst 0, 1) := by decide +kernel
theorem d_X_released_40 : decode b_X_released 40 = .ok (.istore_n 3, 1) := by decide +kernel
theorem d_X_released_41 : decode b_X_released 41 = .ok (.iload_n 3, 1) := by decide +kernel
theorem d_X_released_42 : decode b_X_released 42 = .ok (.ifCond .eq 11, 3) := by decide +kernel
theorem d_X_released_45 : decode b_X_released 45 = .ok (.aload_n 2, 1) := by decide +kernel
theorem d_X_released_46 : decode b_X_released 46 = .ok (.getfield 117, 3) := by decide +kernel
theorem d_X_released_49 : decode b_X_released 49 = .ok (.i2l, 1) := by decide +kernel
theorem d_X_released_50 : decode b_X_released 50 = .ok (.goto 6, 3) := by decide +kernel
theorem d_X_released_53 : decode b_X_released 53 = .ok (.ldc2_w 41, 3) := by decide +kernel
theorem d_X_released_56 : decode b_X_released 56 = .ok (.lreturn, 1) := by decide +kernel
theorem d_X_measurement_0 : decode b_X_measurement 0 = .ok (.aload_n 0, 1) := by decide +kernel
theorem d_X_measurement_1 : decode b_X_measurement 1 = .ok (.iload_n 1, 1) := by decide +kernel
theorem d_X_measurement_2 : decode b_X_measurement 2 = .ok (.invokevirtual 83, 3) := by decide +kernel
theorem d_X_measurement_5 : decode b_X_measurement 5 = .ok (.ifCond .eq 16, 3) := by decide +kernel
theorem d_X_measurement_8 : decode b_X_measurement 8 = .ok (.aload_n 0, 1) := by decide +kernel
theorem d_X_measurement_9 : decode b_X_measurement 9 = .ok (.getfield 22, 3) := by decide +kernel
theorem d_X_measurement_12 : decode b_X_measurement 12 = .ok (.iload_n 1, 1) := by decide +kernel
theorem d_X_measurement_13 : decode b_X_measurement 13 = .ok (.aaload, 1) := by decide +kernel
theorem d_X_measurement_14 : decode b_X_measurement 14 = .ok (.getfield 120, 3) := by decide +kernel
theorem d_X_measurement_17 : decode b_X_measurement 17 = .ok (.i2l, 1) := by decide +kernel
theorem d_X_measurement_18 : decode b_X_measurement 18 = .ok (.goto 6, 3) := by decide +kernel
theorem d_X_measurement_21 : decode b_X_measurement 21 = .ok (.ldc2_w 41, 3) := by decide +kernel
theorem d_X_measurement_24 : decode b_X_measurement 24 = .ok (.lreturn, 1) := by decide +kernel
theorem d_X_verify_0 : decode b_X_verify 0 = .ok (.iload_n 3, 1) := by decide +kernel
theorem d_X_verify_1 : decode b_X_verify 1 = .ok (.aload_n 0, 1) := by decide +kernel
theorem d_X_verify_2 : decode b_X_verify 2 = .ok (.iload_n 1, 1) := by decide +kernel
theorem d_X_verify_3 : decode b_X_verify 3 = .ok (.iload_n 2, 1) := by decide +kernel
theorem d_X_verify_4 : decode b_X_verify 4 = .ok (.invokevirtual 123, 3) := by decide +kernel
theorem d_X_verify_7 : decode b_X_verify 7 = .ok (.if_icmp .ne 7, 3) := by decide +kernel
theorem d_X_verify_10 : decode b_X_verify 10 = .ok (.iconst 1, 1) := by decide +kernel
theorem d_X_verify_11 : decode b_X_verify 11 = .ok (.goto 4, 3) := by decide +kernel
theorem d_X_verify_14 : decode b_X_verify 14 = .ok (.iconst 0, 1) := by decide +kernel
theorem d_X_verify_15 : decode b_X_verify 15 = .ok (.ireturn, 1) := by decide +kernel
theorem d_X_running_0 : decode b_X_running 0 = .ok (.iload_n 1, 1) := by decide +kernel
theorem d_X_running_1 : decode b_X_running 1 = .ok (.invokestatic 127, 3) := by decide +kernel
theorem d_X_running_4 : decode b_X_running 4 = .ok (.ifCond .eq 15, 3) := by decide +kernel
theorem d_X_running_7 : decode b_X_running 7 = .ok (.aload_n 0, 1) := by decide +kernel
theorem d_X_running_8 : decode b_X_running 8 = .ok (.getfield 29, 3) := by decide +kernel
theorem d_X_running_11 : decode b_X_running 11 = .ok (.iload_n 1, 1) := by decide +kernel
theorem d_X_running_12 : decode b_X_running 12 = .ok (.aaload, 1) := by decide +kernel
theorem d_X_running_13 : decode b_X_running 13 = .ok (.getfield 93, 3) := by decide +kernel
theorem d_X_running_16 : decode b_X_running 16 = .ok (.goto 5, 3) := by decide +kernel
theorem d_X_running_19 : decode b_X_running 19 = .ok (.bipush (-2), 2) := by decide +kernel
theorem d_X_running_21 : decode b_X_running 21 = .ok (.ireturn, 1) := by decide +kernel
theorem d_X_owner_0 : decode b_X_owner 0 = .ok (.iload_n 1, 1) := by decide +kernel
theorem d_X_owner_1 : decode b_X_owner 1 = .ok (.invokestatic 130, 3) := by decide +kernel
theorem d_X_owner_4 : decode b_X_owner 4 = .ok (.ifCond .eq 12, 3) := by decide +kernel
theorem d_X_owner_7 : decode b_X_owner 7 = .ok (.aload_n 0, 1) := by decide +kernel
theorem d_X_owner_8 : decode b_X_owner 8 = .ok (.getfield 17, 3) := by decide +kernel
theorem d_X_owner_11 : decode b_X_owner 11 = .ok (.iload_n 1, 1) := by decide +kernel
theorem d_X_owner_12 : decode b_X_owner 12 = .ok (.iaload, 1) := by decide +kernel
theorem d_X_owner_13 : decode b_X_owner 13 = .ok (.goto 4, 3) := by decide +kernel
theorem d_X_owner_16 : decode b_X_owner 16 = .ok (.iconst (-1), 1) := by decide +kernel
theorem d_X_owner_17 : decode b_X_owner 17 = .ok (.ireturn, 1) := by decide +kernel
theorem d_X_guard_0 : decode b_X_guard 0 = .ok (.iload_n 1, 1) := by decide +kernel
theorem d_X_guard_1 : decode b_X_guard 1 = .ok (.invokestatic 127, 3) := by decide +kernel
theorem d_X_guard_4 : decode b_X_guard 4 = .ok (.ifCond .eq 13, 3) := by decide +kernel
theorem d_X_guard_7 : decode b_X_guard 7 = .ok (.iload_n 2, 1) := by decide +kernel
theorem d_X_guard_8 : decode b_X_guard 8 = .ok (.ifCond .lt 9, 3) := by decide +kernel
theorem d_X_guard_11 : decode b_X_guard 11 = .ok (.iload_n 2, 1) := by decide +kernel
theorem d_X_guard_12 : decode b_X_guard 12 = .ok (.bipush 11, 2) := by decide +kernel
theorem d_X_guard_14 : decode b_X_guard 14 = .ok (.if_icmp .lt 5, 3) := by decide +kernel
theorem d_X_guard_17 : decode b_X_guard 17 = .ok (.iconst (-1), 1) := by decide +kernel
theorem d_X_guard_18 : decode b_X_guard 18 = .ok (.ireturn, 1) := by decide +kernel
theorem d_X_guard_19 : decode b_X_guard 19 = .ok (.aload_n 0, 1) := by decide +kernel
theorem d_X_guard_20 : decode b_X_guard 20 = .ok (.getfield 29, 3) := by decide +kernel
theorem d_X_guard_23 : decode b_X_guard 23 = .ok (.iload_n 1, 1) := by decide +kernel
theorem d_X_guard_24 : decode b_X_guard 24 = .ok (.aaload, 1) := by decide +kernel
theorem d_X_guard_25 : decode b_X_guard 25 = .ok (.getfield 133, 3) := by decide +kernel
theorem d_X_guard_28 : decode b_X_guard 28 = .ok (.iload_n 2, 1) := by decide +kernel
theorem d_X_guard_29 : decode b_X_guard 29 = .ok (.aaload, 1) := by decide +kernel
theorem d_X_guard_30 : decode b_X_guard 30 = .ok (.astore 4, 2) := by decide +kernel
theorem d_X_guard_32 : decode b_X_guard 32 = .ok (.iload_n 3, 1) := by decide +kernel
theorem d_X_guard_33 : decode b_X_guard 33 = .ok (.tableswitch 45 0 2 #[27, 33, 39], 27) := by decide +kernel
theorem d_X_guard_60 : decode b_X_guard 60 = .ok (.aload 4, 2) := by decide +kernel
theorem d_X_guard_62 : decode b_X_guard 62 = .ok (.getfield 137, 3) := by decide +kernel
theorem d_X_guard_65 : decode b_X_guard 65 = .ok (.ireturn, 1) := by decide +kernel
theorem d_X_guard_66 : decode b_X_guard 66 = .ok (.aload 4, 2) := by decide +kernel
theorem d_X_guard_68 : decode b_X_guard 68 = .ok (.getfield 142, 3) := by decide +kernel
theorem d_X_guard_71 : decode b_X_guard 71 = .ok (.ireturn, 1) := by decide +kernel
theorem d_X_guard_72 : decode b_X_guard 72 = .ok (.aload 4, 2) := by decide +kernel
theorem d_X_guard_74 : decode b_X_guard 74 = .ok (.getfield 145, 3) := by decide +kernel
theorem d_X_guard_77 : decode b_X_guard 77 = .ok (.ireturn, 1) := by decide +kernel
theorem d_X_guard_78 : decode b_X_guard 78 = .ok (.iconst (-1), 1) := by decide +kernel
theorem d_X_guard_79 : decode b_X_guard 79 = .ok (.ireturn, 1) := by decide +kernel
theorem d_X_isProcessor_0 : decode b_X_isProcessor 0 = .ok (.iload_n 0, 1) := by decide +kernel
theorem d_X_isProcessor_1 : decode b_X_isProcessor 1 = .ok (.ifCond .lt 12, 3) := by decide +kernel
theorem d_X_isProcessor_4 : decode b_X_isProcessor 4 = .ok (.iload_n 0, 1) := by decide +kernel
theorem d_X_isProcessor_5 : decode b_X_isProcessor 5 = .ok (.iconst 2, 1) := by decide +kernel
theorem d_X_isProcessor_6 : decode b_X_isProcessor 6 = .ok (.if_icmp .ge 7, 3) := by decide +kernel
theorem d_X_isProcessor_9 : decode b_X_isProcessor 9 = .ok (.iconst 1, 1) := by decide +kernel
theorem d_X_isProcessor_10 : decode b_X_isProcessor 10 = .ok (.goto 4, 3) := by decide +kernel
theorem d_X_isProcessor_13 : decode b_X_isProcessor 13 = .ok (.iconst 0, 1) := by decide +kernel
theorem d_X_isProcessor_14 : decode b_X_isProcessor 14 = .ok (.ireturn, 1) := by decide +kernel
theorem d_X_isRegister_0 : decode b_X_isRegister 0 = .ok (.iload_n 0, 1) := by decide +kernel
theorem d_X_isRegister_1 : decode b_X_isRegister 1 = .ok (.ifCond .lt 13, 3) := by decide +kernel
theorem d_X_isRegister_4 : decode b_X_isRegister 4 = .ok (.iload_n 0, 1) := by decide +kernel
theorem d_X_isRegister_5 : decode b_X_isRegister 5 = .ok (.bipush 8, 2) := by decide +kernel
theorem d_X_isRegister_7 : decode b_X_isRegister 7 = .ok (.if_icmp .ge 7, 3) := by decide +kernel
theorem d_X_isRegister_10 : decode b_X_isRegister 10 = .ok (.iconst 1, 1) := by decide +kernel
theorem d_X_isRegister_11 : decode b_X_isRegister 11 = .ok (.goto 4, 3) := by decide +kernel
theorem d_X_isRegister_14 : decode b_X_isRegister 14 = .ok (.iconst 0, 1) := by decide +kernel
theorem d_X_isRegister_15 : decode b_X_isRegister 15 = .ok (.ireturn, 1) := by decide +kernel
theorem d_X_isAddress_0 : decode b_X_isAddress 0 = .ok (.iload_n 0, 1) := by decide +kernel
theorem d_X_isAddress_1 : decode b_X_isAddress 1 = .ok (.ifCond .lt 14, 3) := by decide +kernel
theorem d_X_isAddress_4 : decode b_X_isAddress 4 = .ok (.iload_n 0, 1) := by decide +kernel
theorem d_X_isAddress_5 : decode b_X_isAddress 5 = .ok (.sipush 256, 3) := by decide +kernel
theorem d_X_isAddress_8 : decode b_X_isAddress 8 = .ok (.if_icmp .ge 7, 3) := by decide +kernel
theorem d_X_isAddress_11 : decode b_X_isAddress 11 = .ok (.iconst 1, 1) := by decide +kernel
theorem d_X_isAddress_12 : decode b_X_isAddress 12 = .ok (.goto 4, 3) := by decide +kernel
theorem d_X_isAddress_15 : decode b_X_isAddress 15 = .ok (.iconst 0, 1) := by decide +kernel
theorem d_X_isAddress_16 : decode b_X_isAddress 16 = .ok (.ireturn, 1) := by decide +kernel
theorem d_X_isPage_0 : decode b_X_isPage 0 = .ok (.iload_n 0, 1) := by decide +kernel
theorem d_X_isPage_1 : decode b_X_isPage 1 = .ok (.ifCond .lt 13, 3) := by decide +kernel
theorem d_X_isPage_4 : decode b_X_isPage 4 = .ok (.iload_n 0, 1) := by decide +kernel
theorem d_X_isPage_5 : decode b_X_isPage 5 = .ok (.bipush 16, 2) := by decide +kernel
theorem d_X_isPage_7 : decode b_X_isPage 7 = .ok (.if_icmp .ge 7, 3) := by decide +kernel
theorem d_X_isPage_10 : decode b_X_isPage 10 = .ok (.iconst 1, 1) := by decide +kernel
theorem d_X_isPage_11 : decode b_X_isPage 11 = .ok (.goto 4, 3) := by decide +kernel
theorem d_X_isPage_14 : decode b_X_isPage 14 = .ok (.iconst 0, 1) := by decide +kernel
theorem d_X_isPage_15 : decode b_X_isPage 15 = .ok (.ireturn, 1) := by decide +kernel
theorem d_X_isEnclaveNumber_0 : decode b_X_isEnclaveNumber 0 = .ok (.iload_n 0, 1) := by decide +kernel
theorem d_X_isEnclaveNumber_1 : decode b_X_isEnclaveNumber 1 = .ok (.ifCond .lt 12, 3) := by decide +kernel
theorem d_X_isEnclaveNumber_4 : decode b_X_isEnclaveNumber 4 = .ok (.iload_n 0, 1) := by decide +kernel
theorem d_X_isEnclaveNumber_5 : decode b_X_isEnclaveNumber 5 = .ok (.iconst 4, 1) := by decide +kernel
theorem d_X_isEnclaveNumber_6 : decode b_X_isEnclaveNumber 6 = .ok (.if_icmp .ge 7, 3) := by decide +kernel
theorem d_X_isEnclaveNumber_9 : decode b_X_isEnclaveNumber 9 = .ok (.iconst 1, 1) := by decide +kernel
theorem d_X_isEnclaveNumber_10 : decode b_X_isEnclaveNumber 10 = .ok (.goto 4, 3) := by decide +kernel
theorem d_X_isEnclaveNumber_13 : decode b_X_isEnclaveNumber 13 = .ok (.iconst 0, 1) := by decide +kernel
theorem d_X_isEnclaveNumber_14 : decode b_X_isEnclaveNumber 14 = .ok (.ireturn, 1) := by decide +kernel
theorem d_X_isShared_0 : decode b_X_isShared 0 = .ok (.iload_n 0, 1) := by decide +kernel
theorem d_X_isShared_1 : decode b_X_isShared 1 = .ok (.iconst (-1), 1) := by decide +kernel
theorem d_X_isShared_2 : decode b_X_isShared 2 = .ok (.if_icmp .lt 14, 3) := by decide +kernel
theorem d_X_isShared_5 : decode b_X_isShared 5 = .ok (.iload_n 0, 1) := by decide +kernel
theorem d_X_isShared_6 : decode b_X_isShared 6 = .ok (.sipush 271, 3) := by decide +kernel
theorem d_X_isShared_9 : decode b_X_isShared 9 = .ok (.if_icmp .gt 7, 3) := by decide +kernel
theorem d_X_isShared_12 : decode b_X_isShared 12 = .ok (.iconst 1, 1) := by decide +kernel
theorem d_X_isShared_13 : decode b_X_isShared 13 = .ok (.goto 4, 3) := by decide +kernel
theorem d_X_isShared_16 : decode b_X_isShared 16 = .ok (.iconst 0, 1) := by decide +kernel
theorem d_X_isShared_17 : decode b_X_isShared 17 = .ok (.ireturn, 1) := by decide +kernel
theorem d_X_arePages_0 : decode b_X_arePages 0 = .ok (.iload_n 1, 1) := by decide +kernel
theorem d_X_arePages_1 : decode b_X_arePages 1 = .ok (.iconst 1, 1) := by decide +kernel
theorem d_X_arePages_2 : decode b_X_arePages 2 = .ok (.if_icmp .lt 31, 3) := by decide +kernel
theorem d_X_arePages_5 : decode b_X_arePages 5 = .ok (.iload_n 1, 1) := by decide +kernel
theorem d_X_arePages_6 : decode b_X_arePages 6 = .ok (.bipush 8, 2) := by decide +kernel
theorem d_X_arePages_8 : decode b_X_arePages 8 = .ok (.if_icmp .gt 25, 3) := by decide +kernel
theorem d_X_arePages_11 : decode b_X_arePages 11 = .ok (.iload_n 0, 1) := by decide +kernel
theorem d_X_arePages_12 : decode b_X_arePages 12 = .ok (.invokestatic 130, 3) := by decide +kernel
theorem d_X_arePages_15 : decode b_X_arePages 15 = .ok (.ifCond .eq 18, 3) := by decide +kernel
theorem d_X_arePages_18 : decode b_X_arePages 18 = .ok (.iload_n 0, 1) := by decide +kernel
theorem d_X_arePages_19 : decode b_X_arePages 19 = .ok (.iload_n 1, 1) := by decide +kernel
theorem d_X_arePages_20 : decode b_X_arePages 20 = .ok (.iadd, 1) := by decide +kernel
theorem d_X_arePages_21 : decode b_X_arePages 21 = .ok (.iconst 1, 1) := by decide +kernel
theorem d_X_arePages_22 : decode b_X_arePages 22 = .ok (.isub, 1) := by decide +kernel
theorem d_X_arePages_23 : decode b_X_arePages 23 = .ok (.invokestatic 130, 3) := by decide +kernel
theorem d_X_arePages_26 : decode b_X_arePages 26 = .ok (.ifCond .eq 7, 3) := by decide +kernel
theorem d_X_arePages_29 : decode b_X_arePages 29 = .ok (.iconst 1, 1) := by decide +kernel
theorem d_X_arePages_30 : decode b_X_arePages 30 = .ok (.goto 4, 3) := by decide +kernel
theorem d_X_arePages_33 : decode b_X_arePages 33 = .ok (.iconst 0, 1) := by decide +kernel
theorem d_X_arePages_34 : decode b_X_arePages 34 = .ok (.ireturn, 1) := by decide +kernel
theorem d_X_isOnPages_0 : decode b_X_isOnPages 0 = .ok (.iload_n 0, 1) := by decide +kernel
theorem d_X_isOnPages_1 : decode b_X_isOnPages 1 = .ok (.iload_n 1, 1) := by decide +kernel
theorem d_X_isOnPages_2 : decode b_X_isOnPages 2 = .ok (.bipush 16, 2) := by decide +kernel
theorem d_X_isOnPages_4 : decode b_X_isOnPages 4 = .ok (.imul, 1) := by decide +kernel
theorem d_X_isOnPages_5 : decode b_X_isOnPages 5 = .ok (.if_icmp .lt 17, 3) := by decide +kernel
theorem d_X_isOnPages_8 : decode b_X_isOnPages 8 = .ok (.iload_n 0, 1) := by decide +kernel
theorem d_X_isOnPages_9 : decode b_X_isOnPages 9 = .ok (.iload_n 1, 1) := by decide +kernel
theorem d_X_isOnPages_10 : decode b_X_isOnPages 10 = .ok (.iload_n 2, 1) := by decide +kernel
theorem d_X_isOnPages_11 : decode b_X_isOnPages 11 = .ok (.iadd, 1) := by decide +kernel
theorem d_X_isOnPages_12 : decode b_X_isOnPages 12 = .ok (.bipush 16, 2) := by decide +kernel
theorem d_X_isOnPages_14 : decode b_X_isOnPages 14 = .ok (.imul, 1) := by decide +kernel
theorem d_X_isOnPages_15 : decode b_X_isOnPages 15 = .ok (.if_icmp .ge 7, 3) := by decide +kernel
theorem d_X_isOnPages_18 : decode b_X_isOnPages 18 = .ok (.iconst 1, 1) := by decide +kernel
theorem d_X_isOnPages_19 : decode b_X_isOnPages 19 = .ok (.goto 4, 3) := by decide +kernel
theorem d_X_isOnPages_22 : decode b_X_isOnPages 22 = .ok (.iconst 0, 1) := by decide +kernel
theorem d_X_isOnPages_23 : decode b_X_isOnPages 23 = .ok (.ireturn, 1) := by decide +kernel
theorem d_X_isBusy_0 : decode b_X_isBusy 0 = .ok (.iload_n 1, 1) := by decide +kernel
theorem d_X_isBusy_1 : decode b_X_isBusy 1 = .ok (.invokestatic 127, 3) := by decide +kernel
theorem d_X_isBusy_4 : decode b_X_isBusy 4 = .ok (.ifCond .eq 16, 3) := by decide +kernel
theorem d_X_isBusy_7 : decode b_X_isBusy 7 = .ok (.aload_n 0, 1) := by decide +kernel
theorem d_X_isBusy_8 : decode b_X_isBusy 8 = .ok (.getfield 29, 3) := by decide +kernel
theorem d_X_isBusy_11 : decode b_X_isBusy 11 = .ok (.iload_n 1, 1) := by decide +kernel
theorem d_X_isBusy_12 : decode b_X_isBusy 12 = .ok (.aaload, 1) := by decide +kernel
theorem d_X_isBusy_13 : decode b_X_isBusy 13 = .ok (.getfield 93, 3) := by decide +kernel
theorem d_X_isBusy_16 : decode b_X_isBusy 16 = .ok (.iconst (-1), 1) := by decide +kernel
theorem d_X_isBusy_17 : decode b_X_isBusy 17 = .ok (.if_icmp .eq 7, 3) := by decide +kernel
theorem d_X_isBusy_20 : decode b_X_isBusy 20 = .ok (.iconst 1, 1) := by decide +kernel
theorem d_X_isBusy_21 : decode b_X_isBusy 21 = .ok (.goto 4, 3) := by decide +kernel
theorem d_X_isBusy_24 : decode b_X_isBusy 24 = .ok (.iconst 0, 1) := by decide +kernel
theorem d_X_isBusy_25 : decode b_X_isBusy 25 = .ok (.ireturn, 1) := by decide +kernel
theorem d_X_runsEnclave_0 : decode b_X_runsEnclave 0 = .ok (.iload_n 1, 1) := by decide +kernel
theorem d_X_runsEnclave_1 : decode b_X_runsEnclave 1 = .ok (.invokestatic 127, 3) := by decide +kernel
theorem d_X_runsEnclave_4 : decode b_X_runsEnclave 4 = .ok (.ifCond .eq 20, 3) := by decide +kernel
theorem d_X_runsEnclave_7 : decode b_X_runsEnclave 7 = .ok (.aload_n 0, 1) := by decide +kernel
theorem d_X_runsEnclave_8 : decode b_X_runsEnclave 8 = .ok (.getfield 29, 3) := by decide +kernel
theorem d_X_runsEnclave_11 : decode b_X_runsEnclave 11 = .ok (.iload_n 1, 1) := by decide +kernel
theorem d_X_runsEnclave_12 : decode b_X_runsEnclave 12 = .ok (.aaload, 1) := by decide +kernel
theorem d_X_runsEnclave_13 : decode b_X_runsEnclave 13 = .ok (.getfield 93, 3) := by decide +kernel
theorem d_X_runsEnclave_16 : decode b_X_runsEnclave 16 = .ok (.iconst (-1), 1) := by decide +kernel
theorem d_X_runsEnclave_17 : decode b_X_runsEnclave 17 = .ok (.if_icmp .eq 7, 3) := by decide +kernel
theorem d_X_runsEnclave_20 : decode b_X_runsEnclave 20 = .ok (.iconst 1, 1) := by decide +kernel
theorem d_X_runsEnclave_21 : decode b_X_runsEnclave 21 = .ok (.goto 4, 3) := by decide +kernel
theorem d_X_runsEnclave_24 : decode b_X_runsEnclave 24 = .ok (.iconst 0, 1) := by decide +kernel
theorem d_X_runsEnclave_25 : decode b_X_runsEnclave 25 = .ok (.ireturn, 1) := by decide +kernel
theorem d_X_isThere_0 : decode b_X_isThere 0 = .ok (.iload_n 1, 1) := by decide +kernel
theorem d_X_isThere_1 : decode b_X_isThere 1 = .ok (.invokestatic 114, 3) := by decide +kernel
theorem d_X_isThere_4 : decode b_X_isThere 4 = .ok (.ifCond .eq 19, 3) := by decide +kernel
theorem d_X_isThere_7 : decode b_X_isThere 7 = .ok (.aload_n 0, 1) := by decide +kernel
theorem d_X_isThere_8 : decode b_X_isThere 8 = .ok (.getfield 22, 3) := by decide +kernel
theorem d_X_isThere_11 : decode b_X_isThere 11 = .ok (.iload_n 1, 1) := by decide +kernel
theorem d_X_isThere_12 : decode b_X_isThere 12 = .ok (.aaload, 1) := by decide +kernel
theorem d_X_isThere_13 : decode b_X_isThere 13 = .ok (.getfield 86, 3) := by decide +kernel
theorem d_X_isThere_16 : decode b_X_isThere 16 = .ok (.ifCond .eq 7, 3) := by decide +kernel
theorem d_X_isThere_19 : decode b_X_isThere 19 = .ok (.iconst 1, 1) := by decide +kernel
theorem d_X_isThere_20 : decode b_X_isThere 20 = .ok (.goto 4, 3) := by decide +kernel
theorem d_X_isThere_23 : decode b_X_isThere 23 = .ok (.iconst 0, 1) := by decide +kernel
theorem d_X_isThere_24 : decode b_X_isThere 24 = .ok (.ireturn, 1) := by decide +kernel
theorem d_X_areSystemPages_0 : decode b_X_areSystemPages 0 = .ok (.iload_n 1, 1) := by decide +kernel
theorem d_X_areSystemPages_1 : decode b_X_areSystemPages 1 = .ok (.istore_n 3, 1) := by decide +kernel
theorem d_X_areSystemPages_2 : decode b_X_areSystemPages 2 = .ok (.iload_n 3, 1) := by decide +kernel
theorem d_X_areSystemPages_3 : decode b_X_areSystemPages 3 = .ok (.iload_n 1, 1) := by decide +kernel
theorem d_X_areSystemPages_4 : decode b_X_areSystemPages 4 = .ok (.iload_n 2, 1) := by decide +kernel
theorem d_X_areSystemPages_5 : decode b_X_areSystemPages 5 = .ok (.iadd, 1) := by decide +kernel
theorem d_X_areSystemPages_6 : decode b_X_areSystemPages 6 = .ok (.if_icmp .ge 21, 3) := by decide +kernel
theorem d_X_areSystemPages_9 : decode b_X_areSystemPages 9 = .ok (.aload_n 0, 1) := by decide +kernel
theorem d_X_areSystemPages_10 : decode b_X_areSystemPages 10 = .ok (.getfield 17, 3) := by decide +kernel
theorem d_X_areSystemPages_13 : decode b_X_areSystemPages 13 = .ok (.iload_n 3, 1) := by decide +kernel
theorem d_X_areSystemPages_14 : decode b_X_areSystemPages 14 = .ok (.iaload, 1) := by decide +kernel
theorem d_X_areSystemPages_15 : decode b_X_areSystemPages 15 = .ok (.iconst 1, 1) := by decide +kernel
theorem d_X_areSystemPages_16 : decode b_X_areSystemPages 16 = .ok (.if_icmp .eq 5, 3) := by decide +kernel
theorem d_X_areSystemPages_19 : decode b_X_areSystemPages 19 = .ok (.iconst 0, 1) := by decide +kernel
theorem d_X_areSystemPages_20 : decode b_X_areSystemPages 20 = .ok (.ireturn, 1) := by decide +kernel
theorem d_X_areSystemPages_21 : decode b_X_areSystemPages 21 = .ok (.iinc 3 1, 3) := by decide +kernel
theorem d_X_areSystemPages_24 : decode b_X_areSystemPages 24 = .ok (.goto (-22), 3) := by decide +kernel
theorem d_X_areSystemPages_27 : decode b_X_areSystemPages 27 = .ok (.iconst 1, 1) := by decide +kernel
theorem d_X_areSystemPages_28 : decode b_X_areSystemPages 28 = .ok (.ireturn, 1) := by decide +kernel
theorem d_X_canShare_0 : decode b_X_canShare 0 = .ok (.iload_n 1, 1) := by decide +kernel
theorem d_X_canShare_1 : decode b_X_canShare 1 = .ok (.iconst (-1), 1) := by decide +kernel
theorem d_X_canShare_2 : decode b_X_canShare 2 = .ok (.if_icmp .ne 5, 3) := by decide +kernel
theorem d_X_canShare_5 : decode b_X_canShare 5 = .ok (.iconst 1, 1) := by decide +kernel
theorem d_X_canShare_6 : decode b_X_canShare 6 = .ok (.ireturn, 1) := by decide +kernel
theorem d_X_canShare_7 : decode b_X_canShare 7 = .ok (.iload_n 1, 1) := by decide +kernel
theorem d_X_canShare_8 : decode b_X_canShare 8 = .ok (.sipush 256, 3) := by decide +kernel
theorem d_X_canShare_11 : decode b_X_canShare 11 = .ok (.if_icmp .lt 11, 3) := by decide +kernel
theorem d_X_canShare_14 : decode b_X_canShare 14 = .ok (.iload_n 1, 1) := by decide +kernel
theorem d_X_canShare_15 : decode b_X_canShare 15 = .ok (.sipush 256, 3) := by decide +kernel
theorem d_X_canShare_18 : decode b_X_canShare 18 = .ok (.isub, 1) := by decide +kernel
theorem d_X_canShare_19 : decode b_X_canShare 19 = .ok (.goto 7, 3) := by decide +kernel
theorem d_X_canShare_22 : decode b_X_canShare 22 = .ok (.iload_n 1, 1) := by decide +kernel
theorem d_X_canShare_23 : decode b_X_canShare 23 = .ok (.bipush 16, 2) := by decide +kernel
theorem d_X_canShare_25 : decode b_X_canShare 25 = .ok (.idiv, 1) := by decide +kernel
theorem d_X_canShare_26 : decode b_X_canShare 26 = .ok (.istore 4, 2) := by decide +kernel
theorem d_X_canShare_28 : decode b_X_canShare 28 = .ok (.iload 4, 2) := by decide +kernel
theorem d_X_canShare_30 : decode b_X_canShare 30 = .ok (.iload_n 2, 1) := by decide +kernel
theorem d_X_canShare_31 : decode b_X_canShare 31 = .ok (.if_icmp .lt 15, 3) := by decide +kernel
theorem d_X_canShare_34 : decode b_X_canShare 34 = .ok (.iload 4, 2) := by decide +kernel
theorem d_X_canShare_36 : decode b_X_canShare 36 = .ok (.iload_n 2, 1) := by decide +kernel
theorem d_X_canShare_37 : decode b_X_canShare 37 = .ok (.iload_n 3, 1) := by decide +kernel
theorem d_X_canShare_38 : decode b_X_canShare 38 = .ok (.iadd, 1) := by decide +kernel
theorem d_X_canShare_39 : decode b_X_canShare 39 = .ok (.if_icmp .ge 7, 3) := by decide +kernel
theorem d_X_canShare_42 : decode b_X_canShare 42 = .ok (.iconst 1, 1) := by decide +kernel
theorem d_X_canShare_43 : decode b_X_canShare 43 = .ok (.goto 4, 3) := by decide +kernel
theorem d_X_canShare_46 : decode b_X_canShare 46 = .ok (.iconst 0, 1) := by decide +kernel
theorem d_X_canShare_47 : decode b_X_canShare 47 = .ok (.istore 5, 2) := by decide +kernel
theorem d_X_canShare_49 : decode b_X_canShare 49 = .ok (.aload_n 0, 1) := by decide +kernel
theorem d_X_canShare_50 : decode b_X_canShare 50 = .ok (.getfield 17, 3) := by decide +kernel
theorem d_X_canShare_53 : decode b_X_canShare 53 = .ok (.iload 4, 2) := by decide +kernel
theorem d_X_canShare_55 : decode b_X_canShare 55 = .ok (.iaload, 1) := by decide +kernel
theorem d_X_canShare_56 : decode b_X_canShare 56 = .ok (.iconst 1, 1) := by decide +kernel
theorem d_X_canShare_57 : decode b_X_canShare 57 = .ok (.if_icmp .ne 12, 3) := by decide +kernel
theorem d_X_canShare_60 : decode b_X_canShare 60 = .ok (.iload 5, 2) := by decide +kernel
theorem d_X_canShare_62 : decode b_X_canShare 62 = .ok (.ifCond .ne 7, 3) := by decide +kernel
theorem d_X_canShare_65 : decode b_X_canShare 65 = .ok (.iconst 1, 1) := by decide +kernel
theorem d_X_canShare_66 : decode b_X_canShare 66 = .ok (.goto 4, 3) := by decide +kernel
theorem d_X_canShare_69 : decode b_X_canShare 69 = .ok (.iconst 0, 1) := by decide +kernel
theorem d_X_canShare_70 : decode b_X_canShare 70 = .ok (.ireturn, 1) := by decide +kernel
theorem d_X_leastFreeEnclave_0 : decode b_X_leastFreeEnclave 0 = .ok (.iconst 0, 1) := by decide +kernel
theorem d_X_leastFreeEnclave_1 : decode b_X_leastFreeEnclave 1 = .ok (.istore_n 1, 1) := by decide +kernel
theorem d_X_leastFreeEnclave_2 : decode b_X_leastFreeEnclave 2 = .ok (.iload_n 1, 1) := by decide +kernel
theorem d_X_leastFreeEnclave_3 : decode b_X_leastFreeEnclave 3 = .ok (.iconst 4, 1) := by decide +kernel
theorem d_X_leastFreeEnclave_4 : decode b_X_leastFreeEnclave 4 = .ok (.if_icmp .ge 23, 3) := by decide +kernel
theorem d_X_leastFreeEnclave_7 : decode b_X_leastFreeEnclave 7 = .ok (.aload_n 0, 1) := by decide +kernel
theorem d_X_leastFreeEnclave_8 : decode b_X_leastFreeEnclave 8 = .ok (.getfield 22, 3) := by decide +kernel
theorem d_X_leastFreeEnclave_11 : decode b_X_leastFreeEnclave 11 = .ok (.iload_n 1, 1) := by decide +kernel
theorem d_X_leastFreeEnclave_12 : decode b_X_leastFreeEnclave 12 = .ok (.aaload, 1) := by decide +kernel
theorem d_X_leastFreeEnclave_13 : decode b_X_leastFreeEnclave 13 = .ok (.getfield 86, 3) := by decide +kernel
theorem d_X_leastFreeEnclave_16 : decode b_X_leastFreeEnclave 16 = .ok (.ifCond .ne 5, 3) := by decide +kernel
theorem d_X_leastFreeEnclave_19 : decode b_X_leastFreeEnclave 19 = .ok (.iload_n 1, 1) := by decide +kernel
theorem d_X_leastFreeEnclave_20 : decode b_X_leastFreeEnclave 20 = .ok (.ireturn, 1) := by decide +kernel
theorem d_X_leastFreeEnclave_21 : decode b_X_leastFreeEnclave 21 = .ok (.iinc 1 1, 3) := by decide +kernel
theorem d_X_leastFreeEnclave_24 : decode b_X_leastFreeEnclave 24 = .ok (.goto (-22), 3) := by decide +kernel
theorem d_X_leastFreeEnclave_27 : decode b_X_leastFreeEnclave 27 = .ok (.iconst (-1), 1) := by decide +kernel
theorem d_X_leastFreeEnclave_28 : decode b_X_leastFreeEnclave 28 = .ok (.ireturn, 1) := by decide +kernel
theorem d_X_makeEnclave_0 : decode b_X_makeEnclave 0 = .ok (.aload_n 0, 1) := by decide +kernel
theorem d_X_makeEnclave_1 : decode b_X_makeEnclave 1 = .ok (.getfield 22, 3) := by decide +kernel
theorem d_X_makeEnclave_4 : decode b_X_makeEnclave 4 = .ok (.iload_n 1, 1) := by decide +kernel
theorem d_X_makeEnclave_5 : decode b_X_makeEnclave 5 = .ok (.aaload, 1) := by decide +kernel
theorem d_X_makeEnclave_6 : decode b_X_makeEnclave 6 = .ok (.astore 6, 2) := by decide +kernel
theorem d_X_makeEnclave_8 : decode b_X_makeEnclave 8 = .ok (.aload 6, 2) := by decide +kernel
theorem d_X_makeEnclave_10 : decode b_X_makeEnclave 10 = .ok (.iconst 1, 1) := by decide +kernel
theorem d_X_makeEnclave_11 : decode b_X_makeEnclave 11 = .ok (.putfield 86, 3) := by decide +kernel
theorem d_X_makeEnclave_14 : decode b_X_makeEnclave 14 = .ok (.aload 6, 2) := by decide +kernel
theorem d_X_makeEnclave_16 : decode b_X_makeEnclave 16 = .ok (.iload_n 2, 1) := by decide +kernel
theorem d_X_makeEnclave_17 : decode b_X_makeEnclave 17 = .ok (.putfield 148, 3) := by decide +kernel
theorem d_X_makeEnclave_20 : decode b_X_makeEnclave 20 = .ok (.aload 6, 2) := by decide +kernel
theorem d_X_makeEnclave_22 : decode b_X_makeEnclave 22 = .ok (.iload_n 3, 1) := by decide +kernel
theorem d_X_makeEnclave_23 : decode b_X_makeEnclave 23 = .ok (.putfield 151, 3) := by decide +kernel
theorem d_X_makeEnclave_26 : decode b_X_makeEnclave 26 = .ok (.aload 6, 2) := by decide +kernel
theorem d_X_makeEnclave_28 : decode b_X_makeEnclave 28 = .ok (.iload 4, 2) := by decide +kernel
theorem d_X_makeEnclave_30 : decode b_X_makeEnclave 30 = .ok (.putfield 154, 3) := by decide +kernel
theorem d_X_makeEnclave_33 : decode b_X_makeEnclave 33 = .ok (.aload 6, 2) := by decide +kernel
theorem d_X_makeEnclave_35 : decode b_X_makeEnclave 35 = .ok (.iload 5, 2) := by decide +kernel
theorem d_X_makeEnclave_37 : decode b_X_makeEnclave 37 = .ok (.putfield 157, 3) := by decide +kernel
theorem d_X_makeEnclave_40 : decode b_X_makeEnclave 40 = .ok (.aload 6, 2) := by decide +kernel
theorem d_X_makeEnclave_42 : decode b_X_makeEnclave 42 = .ok (.aload_n 0, 1) := by decide +kernel
theorem d_X_makeEnclave_43 : decode b_X_makeEnclave 43 = .ok (.aload 6, 2) := by decide +kernel
theorem d_X_makeEnclave_45 : decode b_X_makeEnclave 45 = .ok (.invokevirtual 160, 3) := by decide +kernel
theorem d_X_makeEnclave_48 : decode b_X_makeEnclave 48 = .ok (.putfield 120, 3) := by decide +kernel
theorem d_X_makeEnclave_51 : decode b_X_makeEnclave 51 = .ok (.aload_n 0, 1) := by decide +kernel
theorem d_X_makeEnclave_52 : decode b_X_makeEnclave 52 = .ok (.aload 6, 2) := by decide +kernel
theorem d_X_makeEnclave_54 : decode b_X_makeEnclave 54 = .ok (.iconst 2, 1) := by decide +kernel
theorem d_X_makeEnclave_55 : decode b_X_makeEnclave 55 = .ok (.iload_n 1, 1) := by decide +kernel
theorem d_X_makeEnclave_56 : decode b_X_makeEnclave 56 = .ok (.iadd, 1) := by decide +kernel
theorem d_X_makeEnclave_57 : decode b_X_makeEnclave 57 = .ok (.invokevirtual 164, 3) := by decide +kernel
theorem d_X_makeEnclave_60 : decode b_X_makeEnclave 60 = .ok (.aload_n 0, 1) := by decide +kernel
theorem d_X_makeEnclave_61 : decode b_X_makeEnclave 61 = .ok (.invokevirtual 34, 3) := by decide +kernel
theorem d_X_makeEnclave_64 : decode b_X_makeEnclave 64 = .ok (.return_, 1) := by decide +kernel
theorem d_X_removeEnclave_0 : decode b_X_removeEnclave 0 = .ok (.aload_n 1, 1) := by decide +kernel
theorem d_X_removeEnclave_1 : decode b_X_removeEnclave 1 = .ok (.invokevirtual 168, 3) := by decide +kernel
theorem d_X_removeEnclave_4 : decode b_X_removeEnclave 4 = .ok (.istore_n 2, 1) := by decide +kernel
theorem d_X_removeEnclave_5 : decode b_X_removeEnclave 5 = .ok (.aload_n 1, 1) := by decide +kernel
theorem d_X_removeEnclave_6 : decode b_X_removeEnclave 6 = .ok (.invokevirtual 171, 3) := by decide +kernel
theorem d_X_removeEnclave_9 : decode b_X_removeEnclave 9 = .ok (.istore_n 3, 1) := by decide +kernel
theorem d_X_removeEnclave_10 : decode b_X_removeEnclave 10 = .ok (.iload_n 3, 1) := by decide +kernel
theorem d_X_removeEnclave_11 : decode b_X_removeEnclave 11 = .ok (.iload_n 2, 1) := by decide +kernel
theorem d_X_removeEnclave_12 : decode b_X_removeEnclave 12 = .ok (.if_icmp .ge 16, 3) := by decide +kernel
theorem d_X_removeEnclave_15 : decode b_X_removeEnclave 15 = .ok (.aload_n 0, 1) := by decide +kernel
theorem d_X_removeEnclave_16 : decode b_X_removeEnclave 16 = .ok (.getfield 13, 3) := by decide +kernel
theorem d_X_removeEnclave_19 : decode b_X_removeEnclave 19 = .ok (.iload_n 3, 1) := by decide +kernel
theorem d_X_removeEnclave_20 : decode b_X_removeEnclave 20 = .ok (.iconst 0, 1) := by decide +kernel
theorem d_X_removeEnclave_21 : decode b_X_removeEnclave 21 = .ok (.iastore, 1) := by decide +kernel
theorem d_X_removeEnclave_22 : decode b_X_removeEnclave 22 = .ok (.iinc 3 1, 3) := by decide +kernel
theorem d_X_removeEnclave_25 : decode b_X_removeEnclave 25 = .ok (.goto (-15), 3) := by decide +kernel
theorem d_X_removeEnclave_28 : decode b_X_removeEnclave 28 = .ok (.aload_n 0, 1) := by decide +kernel
theorem d_X_removeEnclave_29 : decode b_X_removeEnclave 29 = .ok (.aload_n 1, 1) := by decide +kernel
theorem d_X_removeEnclave_30 : decode b_X_removeEnclave 30 = .ok (.iconst 1, 1) := by decide +kernel
theorem d_X_removeEnclave_31 : decode b_X_removeEnclave 31 = .ok (.invokevirtual 164, 3) := by decide +kernel
theorem d_X_removeEnclave_34 : decode b_X_removeEnclave 34 = .ok (.aload_n 1, 1) := by decide +kernel
theorem d_X_removeEnclave_35 : decode b_X_removeEnclave 35 = .ok (.iconst 0, 1) := by decide +kernel
theorem d_X_removeEnclave_36 : decode b_X_removeEnclave 36 = .ok (.putfield 86, 3) := by decide +kernel
theorem d_X_removeEnclave_39 : decode b_X_removeEnclave 39 = .ok (.aload_n 0, 1) := by decide +kernel
theorem d_X_removeEnclave_40 : decode b_X_removeEnclave 40 = .ok (.invokevirtual 34, 3) := by decide +kernel
theorem d_X_removeEnclave_43 : decode b_X_removeEnclave 43 = .ok (.return_, 1) := by decide +kernel
theorem d_X_setOwner_0 : decode b_X_setOwner 0 = .ok (.aload_n 1, 1) := by decide +kernel
theorem d_X_setOwner_1 : decode b_X_setOwner 1 = .ok (.getfield 148, 3) := by decide +kernel
theorem d_X_setOwner_4 : decode b_X_setOwner 4 = .ok (.aload_n 1, 1) := by decide +kernel
theorem d_X_setOwner_5 : decode b_X_setOwner 5 = .ok (.getfield 151, 3) := by decide +kernel
theorem d_X_setOwner_8 : decode b_X_setOwner 8 = .ok (.iadd, 1) := by decide +kernel
theorem d_X_setOwner_9 : decode b_X_setOwner 9 = .ok (.istore_n 3, 1) := by decide +kernel
theorem d_X_setOwner_10 : decode b_X_setOwner 10 = .ok (.aload_n 1, 1) := by decide +kernel
theorem d_X_setOwner_11 : decode b_X_setOwner 11 = .ok (.getfield 148, 3) := by decide +kernel
theorem d_X_setOwner_14 : decode b_X_setOwner 14 = .ok (.istore 4, 2) := by decide +kernel
theorem d_X_setOwner_16 : decode b_X_setOwner 16 = .ok (.iload 4, 2) := by decide +kernel
theorem d_X_setOwner_18 : decode b_X_setOwner 18 = .ok (.iload_n 3, 1) := by decide +kernel
theorem d_X_setOwner_19 : decode b_X_setOwner 19 = .ok (.if_icmp .ge 17, 3) := by decide +kernel
theorem d_X_setOwner_22 : decode b_X_setOwner 22 = .ok (.aload_n 0, 1) := by decide +kernel
theorem d_X_setOwner_23 : decode b_X_setOwner 23 = .ok (.getfield 17, 3) := by decide +kernel
theorem d_X_setOwner_26 : decode b_X_setOwner 26 = .ok (.iload 4, 2) := by decide +kernel
theorem d_X_setOwner_28 : decode b_X_setOwner 28 = .ok (.iload_n 2, 1) := by decide +kernel
theorem d_X_setOwner_29 : decode b_X_setOwner 29 = .ok (.iastore, 1) := by decide +kernel
theorem d_X_setOwner_30 : decode b_X_setOwner 30 = .ok (.iinc 4 1, 3) := by decide +kernel
theorem d_X_setOwner_33 : decode b_X_setOwner 33 = .ok (.goto (-17), 3) := by decide +kernel
theorem d_X_setOwner_36 : decode b_X_setOwner 36 = .ok (.return_, 1) := by decide +kernel
theorem d_X_measure_0 : decode b_X_measure 0 = .ok (.aload_n 1, 1) := by decide +kernel
theorem d_X_measure_1 : decode b_X_measure 1 = .ok (.getfield 151, 3) := by decide +kernel
theorem d_X_measure_4 : decode b_X_measure 4 = .ok (.aload_n 1, 1) := by decide +kernel
theorem d_X_measure_5 : decode b_X_measure 5 = .ok (.getfield 154, 3) := by decide +kernel
theorem d_X_measure_8 : decode b_X_measure 8 = .ok (.aload_n 1, 1) := by decide +kernel
theorem d_X_measure_9 : decode b_X_measure 9 = .ok (.invokevirtual 171, 3) := by decide +kernel
theorem d_X_measure_12 : decode b_X_measure 12 = .ok (.isub, 1) := by decide +kernel
theorem d_X_measure_13 : decode b_X_measure 13 = .ok (.invokestatic 174, 3) := by decide +kernel
theorem d_X_measure_16 : decode b_X_measure 16 = .ok (.istore_n 2, 1) := by decide +kernel
theorem d_X_measure_17 : decode b_X_measure 17 = .ok (.aload_n 1, 1) := by decide +kernel
theorem d_X_measure_18 : decode b_X_measure 18 = .ok (.invokevirtual 168, 3) := by decide +kernel
theorem d_X_measure_21 : decode b_X_measure 21 = .ok (.istore_n 3, 1) := by decide +kernel
theorem d_X_measure_22 : decode b_X_measure 22 = .ok (.aload_n 1, 1) := by decide +kernel
theorem d_X_measure_23 : decode b_X_measure 23 = .ok (.invokevirtual 171, 3) := by decide +kernel
theorem d_X_measure_26 : decode b_X_measure 26 = .ok (.istore 4, 2) := by decide +kernel
theorem d_X_measure_28 : decode b_X_measure 28 = .ok (.iload 4, 2) := by decide +kernel
theorem d_X_measure_30 : decode b_X_measure 30 = .ok (.iload_n 3, 1) := by decide +kernel
theorem d_X_measure_31 : decode b_X_measure 31 = .ok (.if_icmp .ge 21, 3) := by decide +kernel
theorem d_X_measure_34 : decode b_X_measure 34 = .ok (.iload_n 2, 1) := by decide +kernel
theorem d_X_measure_35 : decode b_X_measure 35 = .ok (.aload_n 0, 1) := by decide +kernel
theorem d_X_measure_36 : decode b_X_measure 36 = .ok (.getfield 13, 3) := by decide +kernel
theorem d_X_measure_39 : decode b_X_measure 39 = .ok (.iload 4, 2) := by decide +kernel
theorem d_X_measure_41 : decode b_X_measure 41 = .ok (.iaload, 1) := by decide +kernel
theorem d_X_measure_42 : decode b_X_measure 42 = .ok (.invokestatic 174, 3) := by decide +kernel
theorem d_X_measure_45 : decode b_X_measure 45 = .ok (.istore_n 2, 1) := by decide +kernel
theorem d_X_measure_46 : decode b_X_measure 46 = .ok (.iinc 4 1, 3) := by decide +kernel
theorem d_X_measure_49 : decode b_X_measure 49 = .ok (.goto (-21), 3) := by decide +kernel
theorem d_X_measure_52 : decode b_X_measure 52 = .ok (.iload_n 2, 1) := by decide +kernel
theorem d_X_measure_53 : decode b_X_measure 53 = .ok (.ireturn, 1) := by decide +kernel
theorem d_X_mix_0 : decode b_X_mix 0 = .ok (.bipush 31, 2) := by decide +kernel
theorem d_X_mix_2 : decode b_X_mix 2 = .ok (.iload_n 0, 1) := by decide +kernel
theorem d_X_mix_3 : decode b_X_mix 3 = .ok (.imul, 1) := by decide +kernel
theorem d_X_mix_4 : decode b_X_mix 4 = .ok (.iload_n 1, 1) := by decide +kernel
theorem d_X_mix_5 : decode b_X_mix 5 = .ok (.ixor, 1) := by decide +kernel
theorem d_X_mix_6 : decode b_X_mix 6 = .ok (.ldc 177, 2) := by decide +kernel
theorem d_X_mix_8 : decode b_X_mix 8 = .ok (.imul, 1) := by decide +kernel
theorem d_X_mix_9 : decode b_X_mix 9 = .ok (.istore_n 2, 1) := by decide +kernel
theorem d_X_mix_10 : decode b_X_mix 10 = .ok (.iload_n 2, 1) := by decide +kernel
theorem d_X_mix_11 : decode b_X_mix 11 = .ok (.iload_n 2, 1) := by decide +kernel
theorem d_X_mix_12 : decode b_X_mix 12 = .ok (.bipush 15, 2) := by decide +kernel
theorem d_X_mix_14 : decode b_X_mix 14 = .ok (.iushr, 1) := by decide +kernel
theorem d_X_mix_15 : decode b_X_mix 15 = .ok (.ixor, 1) := by decide +kernel
theorem d_X_mix_16 : decode b_X_mix 16 = .ok (.ireturn, 1) := by decide +kernel
theorem d_X_proofOf_0 : decode b_X_proofOf 0 = .ok (.aload_n 0, 1) := by decide +kernel
theorem d_X_proofOf_1 : decode b_X_proofOf 1 = .ok (.getfield 7, 3) := by decide +kernel
theorem d_X_proofOf_4 : decode b_X_proofOf 4 = .ok (.iconst 3, 1) := by decide +kernel
theorem d_X_proofOf_5 : decode b_X_proofOf 5 = .ok (.invokestatic 174, 3) := by decide +kernel
theorem d_X_proofOf_8 : decode b_X_proofOf 8 = .ok (.iload_n 1, 1) := by decide +kernel
theorem d_X_proofOf_9 : decode b_X_proofOf 9 = .ok (.invokestatic 174, 3) := by decide +kernel
theorem d_X_proofOf_12 : decode b_X_proofOf 12 = .ok (.iload_n 2, 1) := by decide +kernel
theorem d_X_proofOf_13 : decode b_X_proofOf 13 = .ok (.invokestatic 174, 3) := by decide +kernel
theorem d_X_proofOf_16 : decode b_X_proofOf 16 = .ok (.ireturn, 1) := by decide +kernel
theorem d_X_secretOf_0 : decode b_X_secretOf 0 = .ok (.aload_n 0, 1) := by decide +kernel
theorem d_X_secretOf_1 : decode b_X_secretOf 1 = .ok (.getfield 7, 3) := by decide +kernel
theorem d_X_secretOf_4 : decode b_X_secretOf 4 = .ok (.bipush 7, 2) := by decide +kernel
theorem d_X_secretOf_6 : decode b_X_secretOf 6 = .ok (.invokestatic 174, 3) := by decide +kernel
theorem d_X_secretOf_9 : decode b_X_secretOf 9 = .ok (.iload_n 1, 1) := by decide +kernel
theorem d_X_secretOf_10 : decode b_X_secretOf 10 = .ok (.invokestatic 174, 3) := by decide +kernel
theorem d_X_secretOf_13 : decode b_X_secretOf 13 = .ok (.ireturn, 1) := by decide +kernel
theorem d_X_isAllowed_0 : decode b_X_isAllowed 0 = .ok (.iload_n 2, 1) := by decide +kernel
theorem d_X_isAllowed_1 : decode b_X_isAllowed 1 = .ok (.invokestatic 178, 3) := by decide +kernel
theorem d_X_isAllowed_4 : decode b_X_isAllowed 4 = .ok (.ifCond .ne 5, 3) := by decide +kernel
theorem d_X_isAllowed_7 : decode b_X_isAllowed 7 = .ok (.iconst 0, 1) := by decide +kernel
theorem d_X_isAllowed_8 : decode b_X_isAllowed 8 = .ok (.ireturn, 1) := by decide +kernel
theorem d_X_isAllowed_9 : decode b_X_isAllowed 9 = .ok (.iconst 0, 1) := by decide +kernel
theorem d_X_isAllowed_10 : decode b_X_isAllowed 10 = .ok (.istore 4, 2) := by decide +kernel
theorem d_X_isAllowed_12 : decode b_X_isAllowed 12 = .ok (.iload 4, 2) := by decide +kernel
theorem d_X_isAllowed_14 : decode b_X_isAllowed 14 = .ok (.bipush 11, 2) := by decide +kernel
theorem d_X_isAllowed_16 : decode b_X_isAllowed 16 = .ok (.if_icmp .ge 69, 3) := by decide +kernel
theorem d_X_isAllowed_19 : decode b_X_isAllowed 19 = .ok (.iload 4, 2) := by decide +kernel
theorem d_X_isAllowed_21 : decode b_X_isAllowed 21 = .ok (.ifCond .ne 7, 3) := by decide +kernel
theorem d_X_isAllowed_24 : decode b_X_isAllowed 24 = .ok (.iconst 0, 1) := by decide +kernel
theorem d_X_isAllowed_25 : decode b_X_isAllowed 25 = .ok (.goto 15, 3) := by decide +kernel
theorem d_X_isAllowed_28 : decode b_X_isAllowed 28 = .ok (.aload_n 1, 1) := by decide +kernel
theorem d_X_isAllowed_29 : decode b_X_isAllowed 29 = .ok (.getfield 133, 3) := by decide +kernel
theorem d_X_isAllowed_32 : decode b_X_isAllowed 32 = .ok (.iload 4, 2) := by decide +kernel
theorem d_X_isAllowed_34 : decode b_X_isAllowed 34 = .ok (.iconst 1, 1) := by decide +kernel
theorem d_X_isAllowed_35 : decode b_X_isAllowed 35 = .ok (.isub, 1) := by decide +kernel
theorem d_X_isAllowed_36 : decode b_X_isAllowed 36 = .ok (.aaload, 1) := by decide +kernel
theorem d_X_isAllowed_37 : decode b_X_isAllowed 37 = .ok (.getfield 145, 3) := by decide +kernel
theorem d_X_isAllowed_40 : decode b_X_isAllowed 40 = .ok (.istore 5, 2) := by decide +kernel
theorem d_X_isAllowed_42 : decode b_X_isAllowed 42 = .ok (.aload_n 1, 1) := by decide +kernel
theorem d_X_isAllowed_43 : decode b_X_isAllowed 43 = .ok (.getfield 133, 3) := by decide +kernel
theorem d_X_isAllowed_46 : decode b_X_isAllowed 46 = .ok (.iload 4, 2) := by decide +kernel
theorem d_X_isAllowed_48 : decode b_X_isAllowed 48 = .ok (.aaload, 1) := by decide +kernel
theorem d_X_isAllowed_49 : decode b_X_isAllowed 49 = .ok (.iload_n 2, 1) := by decide +kernel
theorem d_X_isAllowed_50 : decode b_X_isAllowed 50 = .ok (.iload 5, 2) := by decide +kernel
theorem d_X_isAllowed_52 : decode b_X_isAllowed 52 = .ok (.invokevirtual 181, 3) := by decide +kernel
theorem d_X_isAllowed_55 : decode b_X_isAllowed 55 = .ok (.ifCond .eq 24, 3) := by decide +kernel
theorem d_X_isAllowed_58 : decode b_X_isAllowed 58 = .ok (.aload_n 1, 1) := by decide +kernel
theorem d_X_isAllowed_59 : decode b_X_isAllowed 59 = .ok (.getfield 133, 3) := by decide +kernel
theorem d_X_isAllowed_62 : decode b_X_isAllowed 62 = .ok (.iload 4, 2) := by decide +kernel
theorem d_X_isAllowed_64 : decode b_X_isAllowed 64 = .ok (.aaload, 1) := by decide +kernel
theorem d_X_isAllowed_65 : decode b_X_isAllowed 65 = .ok (.getfield 142, 3) := by decide +kernel
theorem d_X_isAllowed_68 : decode b_X_isAllowed 68 = .ok (.iload_n 3, 1) := by decide +kernel
theorem d_X_isAllowed_69 : decode b_X_isAllowed 69 = .ok (.iand, 1) := by decide +kernel
theorem d_X_isAllowed_70 : decode b_X_isAllowed 70 = .ok (.ifCond .eq 7, 3) := by decide +kernel
theorem d_X_isAllowed_73 : decode b_X_isAllowed 73 = .ok (.iconst 1, 1) := by decide +kernel
theorem d_X_isAllowed_74 : decode b_X_isAllowed 74 = .ok (.goto 4, 3) := by decide +kernel
theorem d_X_isAllowed_77 : decode b_X_isAllowed 77 = .ok (.iconst 0, 1) := by decide +kernel
theorem d_X_isAllowed_78 : decode b_X_isAllowed 78 = .ok (.ireturn, 1) := by decide +kernel
theorem d_X_isAllowed_79 : decode b_X_isAllowed 79 = .ok (.iinc 4 1, 3) := by decide +kernel
theorem d_X_isAllowed_82 : decode b_X_isAllowed 82 = .ok (.goto (-70), 3) := by decide +kernel
theorem d_X_isAllowed_85 : decode b_X_isAllowed 85 = .ok (.iconst 0, 1) := by decide +kernel
theorem d_X_isAllowed_86 : decode b_X_isAllowed 86 = .ok (.ireturn, 1) := by decide +kernel
theorem d_X_setAllGuards_0 : decode b_X_setAllGuards 0 = .ok (.iconst 0, 1) := by decide +kernel
theorem d_X_setAllGuards_1 : decode b_X_setAllGuards 1 = .ok (.istore_n 1, 1) := by decide +kernel
theorem d_X_setAllGuards_2 : decode b_X_setAllGuards 2 = .ok (.iload_n 1, 1) := by decide +kernel
theorem d_X_setAllGuards_3 : decode b_X_setAllGuards 3 = .ok (.iconst 2, 1) := by decide +kernel
theorem d_X_setAllGuards_4 : decode b_X_setAllGuards 4 = .ok (.if_icmp .ge 19, 3) := by decide +kernel
theorem d_X_setAllGuards_7 : decode b_X_setAllGuards 7 = .ok (.aload_n 0, 1) := by decide +kernel
theorem d_X_setAllGuards_8 : decode b_X_setAllGuards 8 = .ok (.aload_n 0, 1) := by decide +kernel
theorem d_X_setAllGuards_9 : decode b_X_setAllGuards 9 = .ok (.getfield 29, 3) := by decide +kernel
theorem d_X_setAllGuards_12 : decode b_X_setAllGuards 12 = .ok (.iload_n 1, 1) := by decide +kernel
theorem d_X_setAllGuards_13 : decode b_X_setAllGuards 13 = .ok (.aaload, 1) := by decide +kernel
theorem d_X_setAllGuards_14 : decode b_X_setAllGuards 14 = .ok (.invokevirtual 96, 3) := by decide +kernel
theorem d_X_setAllGuards_17 : decode b_X_setAllGuards 17 = .ok (.iinc 1 1, 3) := by decide +kernel
theorem d_X_setAllGuards_20 : decode b_X_setAllGuards 20 = .ok (.goto (-18), 3) := by decide +kernel
theorem d_X_setAllGuards_23 : decode b_X_setAllGuards 23 = .ok (.return_, 1) := by decide +kernel
theorem d_X_setGuards_0 : decode b_X_setGuards 0 = .ok (.aload_n 1, 1) := by decide +kernel
theorem d_X_setGuards_1 : decode b_X_setGuards 1 = .ok (.getfield 133, 3) := by decide +kernel
theorem d_X_setGuards_4 : decode b_X_setGuards 4 = .ok (.iconst 0, 1) := by decide +kernel
theorem d_X_setGuards_5 : decode b_X_setGuards 5 = .ok (.aaload, 1) := by decide +kernel
theorem d_X_setGuards_6 : decode b_X_setGuards 6 = .ok (.iconst 0, 1) := by decide +kernel
theorem d_X_setGuards_7 : decode b_X_setGuards 7 = .ok (.bipush 16, 2) := by decide +kernel
theorem d_X_setGuards_9 : decode b_X_setGuards 9 = .ok (.iconst 0, 1) := by decide +kernel
theorem d_X_setGuards_10 : decode b_X_setGuards 10 = .ok (.invokevirtual 184, 3) := by decide +kernel
theorem d_X_setGuards_13 : decode b_X_setGuards 13 = .ok (.iconst 0, 1) := by decide +kernel
theorem d_X_setGuards_14 : decode b_X_setGuards 14 = .ok (.istore_n 2, 1) := by decide +kernel
theorem d_X_setGuards_15 : decode b_X_setGuards 15 = .ok (.iload_n 2, 1) := by decide +kernel
theorem d_X_setGuards_16 : decode b_X_setGuards 16 = .ok (.iconst 4, 1) := by decide +kernel
theorem d_X_setGuards_17 : decode b_X_setGuards 17 = .ok (.if_icmp .ge 54, 3) := by decide +kernel
theorem d_X_setGuards_20 : decode b_X_setGuards 20 = .ok (.aload_n 1, 1) := by decide +kernel
theorem d_X_setGuards_21 : decode b_X_setGuards 21 = .ok (.getfield 93, 3) := by decide +kernel
theorem d_X_setGuards_24 : decode b_X_setGuards 24 = .ok (.iload_n 2, 1) := by decide +kernel
theorem d_X_setGuards_25 : decode b_X_setGuards 25 = .ok (.if_icmp .ne 8, 3) := by decide +kernel
theorem d_X_setGuards_28 : decode b_X_setGuards 28 = .ok (.bipush 7, 2) := by decide +kernel
theorem d_X_setGuards_30 : decode b_X_setGuards 30 = .ok (.goto 4, 3) := by decide +kernel
theorem d_X_setGuards_33 : decode b_X_setGuards 33 = .ok (.iconst 0, 1) := by decide +kernel
theorem d_X_setGuards_34 : decode b_X_setGuards 34 = .ok (.istore_n 3, 1) := by decide +kernel
theorem d_X_setGuards_35 : decode b_X_setGuards 35 = .ok (.aload_n 0, 1) := by decide +kernel
theorem d_X_setGuards_36 : decode b_X_setGuards 36 = .ok (.getfield 22, 3) := by decide +kernel
theorem d_X_setGuards_39 : decode b_X_setGuards 39 = .ok (.iload_n 2, 1) := by decide +kernel
theorem d_X_setGuards_40 : decode b_X_setGuards 40 = .ok (.aaload, 1) := by decide +kernel
theorem d_X_setGuards_41 : decode b_X_setGuards 41 = .ok (.aload_n 1, 1) := by decide +kernel
theorem d_X_setGuards_42 : decode b_X_setGuards 42 = .ok (.getfield 133, 3) := by decide +kernel
theorem d_X_setGuards_45 : decode b_X_setGuards 45 = .ok (.iconst 1, 1) := by decide +kernel
theorem d_X_setGuards_46 : decode b_X_setGuards 46 = .ok (.iconst 2, 1) := by decide +kernel
theorem d_X_setGuards_47 : decode b_X_setGuards 47 = .ok (.iload_n 2, 1) := by decide +kernel
theorem d_X_setGuards_48 : decode b_X_setGuards 48 = .ok (.imul, 1) := by decide +kernel
theorem d_X_setGuards_49 : decode b_X_setGuards 49 = .ok (.iadd, 1) := by decide +kernel
theorem d_X_setGuards_50 : decode b_X_setGuards 50 = .ok (.aaload, 1) := by decide +kernel
theorem d_X_setGuards_51 : decode b_X_setGuards 51 = .ok (.aload_n 1, 1) := by decide +kernel
theorem d_X_setGuards_52 : decode b_X_setGuards 52 = .ok (.getfield 133, 3) := by decide +kernel
theorem d_X_setGuards_55 : decode b_X_setGuards 55 = .ok (.iconst 2, 1) := by decide +kernel
theorem d_X_setGuards_56 : decode b_X_setGuards 56 = .ok (.iconst 2, 1) := by decide +kernel
theorem d_X_setGuards_57 : decode b_X_setGuards 57 = .ok (.iload_n 2, 1) := by decide +kernel
theorem d_X_setGuards_58 : decode b_X_setGuards 58 = .ok (.imul, 1) := by decide +kernel
theorem d_X_setGuards_59 : decode b_X_setGuards 59 = .ok (.iadd, 1) := by decide +kernel
theorem d_X_setGuards_60 : decode b_X_setGuards 60 = .ok (.aaload, 1) := by decide +kernel
theorem d_X_setGuards_61 : decode b_X_setGuards 61 = .ok (.iload_n 3, 1) := by decide +kernel
theorem d_X_setGuards_62 : decode b_X_setGuards 62 = .ok (.invokestatic 188, 3) := by decide +kernel
theorem d_X_setGuards_65 : decode b_X_setGuards 65 = .ok (.iinc 2 1, 3) := by decide +kernel
theorem d_X_setGuards_68 : decode b_X_setGuards 68 = .ok (.goto (-53), 3) := by decide +kernel
theorem d_X_setGuards_71 : decode b_X_setGuards 71 = .ok (.aload_n 0, 1) := by decide +kernel
theorem d_X_setGuards_72 : decode b_X_setGuards 72 = .ok (.aload_n 1, 1) := by decide +kernel
theorem d_X_setGuards_73 : decode b_X_setGuards 73 = .ok (.invokevirtual 192, 3) := by decide +kernel
theorem d_X_setGuards_76 : decode b_X_setGuards 76 = .ok (.aload_n 1, 1) := by decide +kernel
theorem d_X_setGuards_77 : decode b_X_setGuards 77 = .ok (.getfield 93, 3) := by decide +kernel
theorem d_X_setGuards_80 : decode b_X_setGuards 80 = .ok (.iconst (-1), 1) := by decide +kernel
theorem d_X_setGuards_81 : decode b_X_setGuards 81 = .ok (.if_icmp .ne 8, 3) := by decide +kernel
theorem d_X_setGuards_84 : decode b_X_setGuards 84 = .ok (.bipush 7, 2) := by decide +kernel
theorem d_X_setGuards_86 : decode b_X_setGuards 86 = .ok (.goto 4, 3) := by decide +kernel
theorem d_X_setGuards_89 : decode b_X_setGuards 89 = .ok (.iconst 0, 1) := by decide +kernel
theorem d_X_setGuards_90 : decode b_X_setGuards 90 = .ok (.istore_n 2, 1) := by decide +kernel
theorem d_X_setGuards_91 : decode b_X_setGuards 91 = .ok (.aload_n 1, 1) := by decide +kernel
theorem d_X_setGuards_92 : decode b_X_setGuards 92 = .ok (.getfield 133, 3) := by decide +kernel
theorem d_X_setGuards_95 : decode b_X_setGuards 95 = .ok (.bipush 10, 2) := by decide +kernel
theorem d_X_setGuards_97 : decode b_X_setGuards 97 = .ok (.aaload, 1) := by decide +kernel
theorem d_X_setGuards_98 : decode b_X_setGuards 98 = .ok (.iconst 0, 1) := by decide +kernel
theorem d_X_setGuards_99 : decode b_X_setGuards 99 = .ok (.sipush 256, 3) := by decide +kernel
theorem d_X_setGuards_102 : decode b_X_setGuards 102 = .ok (.iload_n 2, 1) := by decide +kernel
theorem d_X_setGuards_103 : decode b_X_setGuards 103 = .ok (.invokevirtual 184, 3) := by decide +kernel
theorem d_X_setGuards_106 : decode b_X_setGuards 106 = .ok (.return_, 1) := by decide +kernel
theorem d_X_setEnclaveGuards_0 : decode b_X_setEnclaveGuards 0 = .ok (.aload_n 0, 1) := by decide +kernel
theorem d_X_setEnclaveGuards_1 : decode b_X_setEnclaveGuards 1 = .ok (.getfield 86, 3) := by decide +kernel
theorem d_X_setEnclaveGuards_4 : decode b_X_setEnclaveGuards 4 = .ok (.ifCond .ne 16, 3) := by decide +kernel
theorem d_X_setEnclaveGuards_7 : decode b_X_setEnclaveGuards 7 = .ok (.aload_n 1, 1) := by decide +kernel
theorem d_X_setEnclaveGuards_8 : decode b_X_setEnclaveGuards 8 = .ok (.iconst 0, 1) := by decide +kernel
theorem d_X_setEnclaveGuards_9 : decode b_X_setEnclaveGuards 9 = .ok (.invokevirtual 195, 3) := by decide +kernel
theorem d_X_setEnclaveGuards_12 : decode b_X_setEnclaveGuards 12 = .ok (.aload_n 2, 1) := by decide +kernel
theorem d_X_setEnclaveGuards_13 : decode b_X_setEnclaveGuards 13 = .ok (.iconst 0, 1) := by decide +kernel
theorem d_X_setEnclaveGuards_14 : decode b_X_setEnclaveGuards 14 = .ok (.invokevirtual 195, 3) := by decide +kernel
theorem d_X_setEnclaveGuards_17 : decode b_X_setEnclaveGuards 17 = .ok (.goto 54, 3) := by decide +kernel
theorem d_X_setEnclaveGuards_20 : decode b_X_setEnclaveGuards 20 = .ok (.aload_n 0, 1) := by decide +kernel
theorem d_X_setEnclaveGuards_21 : decode b_X_setEnclaveGuards 21 = .ok (.invokevirtual 198, 3) := by decide +kernel
theorem d_X_setEnclaveGuards_24 : decode b_X_setEnclaveGuards 24 = .ok (.ifCond .eq 29, 3) := by decide +kernel
theorem d_X_setEnclaveGuards_27 : decode b_X_setEnclaveGuards 27 = .ok (.aload_n 1, 1) := by decide +kernel
theorem d_X_setEnclaveGuards_28 : decode b_X_setEnclaveGuards 28 = .ok (.iconst 0, 1) := by decide +kernel
theorem d_X_setEnclaveGuards_29 : decode b_X_setEnclaveGuards 29 = .ok (.invokevirtual 195, 3) := by decide +kernel
theorem d_X_setEnclaveGuards_32 : decode b_X_setEnclaveGuards 32 = .ok (.aload_n 2, 1) := by decide +kernel
theorem d_X_setEnclaveGuards_33 : decode b_X_setEnclaveGuards 33 = .ok (.aload_n 0, 1) := by decide +kernel
theorem d_X_setEnclaveGuards_34 : decode b_X_setEnclaveGuards 34 = .ok (.invokevirtual 171, 3) := by decide +kernel
theorem d_X_setEnclaveGuards_37 : decode b_X_setEnclaveGuards 37 = .ok (.aload_n 0, 1) := by decide +kernel
theorem d_X_setEnclaveGuards_38 : decode b_X_setEnclaveGuards 38 = .ok (.invokevirtual 168, 3) := by decide +kernel
theorem d_X_setEnclaveGuards_41 : decode b_X_setEnclaveGuards 41 = .ok (.aload_n 0, 1) := by decide +kernel
theorem d_X_setEnclaveGuards_42 : decode b_X_setEnclaveGuards 42 = .ok (.invokevirtual 171, 3) := by decide +kernel
theorem d_X_setEnclaveGuards_45 : decode b_X_setEnclaveGuards 45 = .ok (.isub, 1) := by decide +kernel
theorem d_X_setEnclaveGuards_46 : decode b_X_setEnclaveGuards 46 = .ok (.iload_n 3, 1) := by decide +kernel
theorem d_X_setEnclaveGuards_47 : decode b_X_setEnclaveGuards 47 = .ok (.invokevirtual 184, 3) := by decide +kernel
theorem d_X_setEnclaveGuards_50 : decode b_X_setEnclaveGuards 50 = .ok (.goto 21, 3) := by decide +kernel
theorem d_X_setEnclaveGuards_53 : decode b_X_setEnclaveGuards 53 = .ok (.aload_n 1, 1) := by decide +kernel
theorem d_X_setEnclaveGuards_54 : decode b_X_setEnclaveGuards 54 = .ok (.aload_n 0, 1) := by decide +kernel
theorem d_X_setEnclaveGuards_55 : decode b_X_setEnclaveGuards 55 = .ok (.invokevirtual 171, 3) := by decide +kernel
theorem d_X_setEnclaveGuards_58 : decode b_X_setEnclaveGuards 58 = .ok (.invokevirtual 195, 3) := by decide +kernel
theorem d_X_setEnclaveGuards_61 : decode b_X_setEnclaveGuards 61 = .ok (.aload_n 2, 1) := by decide +kernel
theorem d_X_setEnclaveGuards_62 : decode b_X_setEnclaveGuards 62 = .ok (.iconst 1, 1) := by decide +kernel
theorem d_X_setEnclaveGuards_63 : decode b_X_setEnclaveGuards 63 = .ok (.iload_n 3, 1) := by decide +kernel
theorem d_X_setEnclaveGuards_64 : decode b_X_setEnclaveGuards 64 = .ok (.aload_n 0, 1) := by decide +kernel
theorem d_X_setEnclaveGuards_65 : decode b_X_setEnclaveGuards 65 = .ok (.invokevirtual 168, 3) := by decide +kernel
theorem d_X_setEnclaveGuards_68 : decode b_X_setEnclaveGuards 68 = .ok (.invokevirtual 202, 3) := by decide +kernel
theorem d_X_setEnclaveGuards_71 : decode b_X_setEnclaveGuards 71 = .ok (.return_, 1) := by decide +kernel
theorem d_X_setSharedGuard_0 : decode b_X_setSharedGuard 0 = .ok (.aload_n 1, 1) := by decide +kernel
theorem d_X_setSharedGuard_1 : decode b_X_setSharedGuard 1 = .ok (.getfield 93, 3) := by decide +kernel
theorem d_X_setSharedGuard_4 : decode b_X_setSharedGuard 4 = .ok (.iconst (-1), 1) := by decide +kernel
theorem d_X_setSharedGuard_5 : decode b_X_setSharedGuard 5 = .ok (.if_icmp .ne 7, 3) := by decide +kernel
theorem d_X_setSharedGuard_8 : decode b_X_setSharedGuard 8 = .ok (.iconst (-1), 1) := by decide +kernel
theorem d_X_setSharedGuard_9 : decode b_X_setSharedGuard 9 = .ok (.goto 15, 3) := by decide +kernel
theorem d_X_setSharedGuard_12 : decode b_X_setSharedGuard 12 = .ok (.aload_n 0, 1) := by decide +kernel
theorem d_X_setSharedGuard_13 : decode b_X_setSharedGuard 13 = .ok (.getfield 22, 3) := by decide +kernel
theorem d_X_setSharedGuard_16 : decode b_X_setSharedGuard 16 = .ok (.aload_n 1, 1) := by decide +kernel
theorem d_X_setSharedGuard_17 : decode b_X_setSharedGuard 17 = .ok (.getfield 93, 3) := by decide +kernel
theorem d_X_setSharedGuard_20 : decode b_X_setSharedGuard 20 = .ok (.aaload, 1) := by decide +kernel
theorem d_X_setSharedGuard_21 : decode b_X_setSharedGuard 21 = .ok (.getfield 157, 3) := by decide +kernel
theorem d_X_setSharedGuard_24 : decode b_X_setSharedGuard 24 = .ok (.istore_n 2, 1) := by decide +kernel
theorem d_X_setSharedGuard_25 : decode b_X_setSharedGuard 25 = .ok (.aload_n 1, 1) := by decide +kernel
theorem d_X_setSharedGuard_26 : decode b_X_setSharedGuard 26 = .ok (.getfield 133, 3) := by decide +kernel
theorem d_X_setSharedGuard_29 : decode b_X_setSharedGuard 29 = .ok (.bipush 9, 2) := by decide +kernel
theorem d_X_setSharedGuard_31 : decode b_X_setSharedGuard 31 = .ok (.aaload, 1) := by decide +kernel
theorem d_X_setSharedGuard_32 : decode b_X_setSharedGuard 32 = .ok (.astore_n 3, 1) := by decide +kernel
theorem d_X_setSharedGuard_33 : decode b_X_setSharedGuard 33 = .ok (.iload_n 2, 1) := by decide +kernel
theorem d_X_setSharedGuard_34 : decode b_X_setSharedGuard 34 = .ok (.iconst (-1), 1) := by decide +kernel
theorem d_X_setSharedGuard_35 : decode b_X_setSharedGuard 35 = .ok (.if_icmp .ne 11, 3) := by decide +kernel
theorem d_X_setSharedGuard_38 : decode b_X_setSharedGuard 38 = .ok (.aload_n 3, 1) := by decide +kernel
theorem d_X_setSharedGuard_39 : decode b_X_setSharedGuard 39 = .ok (.iconst 0, 1) := by decide +kernel
theorem d_X_setSharedGuard_40 : decode b_X_setSharedGuard 40 = .ok (.invokevirtual 195, 3) := by decide +kernel
theorem d_X_setSharedGuard_43 : decode b_X_setSharedGuard 43 = .ok (.goto 35, 3) := by decide +kernel
theorem d_X_setSharedGuard_46 : decode b_X_setSharedGuard 46 = .ok (.iload_n 2, 1) := by decide +kernel
theorem d_X_setSharedGuard_47 : decode b_X_setSharedGuard 47 = .ok (.sipush 256, 3) := by decide +kernel
theorem d_X_setSharedGuard_50 : decode b_X_setSharedGuard 50 = .ok (.if_icmp .ge 13, 3) := by decide +kernel
theorem d_X_setSharedGuard_53 : decode b_X_setSharedGuard 53 = .ok (.aload_n 3, 1) := by decide +kernel
theorem d_X_setSharedGuard_54 : decode b_X_setSharedGuard 54 = .ok (.iconst 2, 1) := by decide +kernel
theorem d_X_setSharedGuard_55 : decode b_X_setSharedGuard 55 = .ok (.iconst 3, 1) := by decide +kernel
theorem d_X_setSharedGuard_56 : decode b_X_setSharedGuard 56 = .ok (.iload_n 2, 1) := by decide +kernel
theorem d_X_setSharedGuard_57 : decode b_X_setSharedGuard 57 = .ok (.invokevirtual 202, 3) := by decide +kernel
theorem d_X_setSharedGuard_60 : decode b_X_setSharedGuard 60 = .ok (.goto 18, 3) := by decide +kernel
theorem d_X_setSharedGuard_63 : decode b_X_setSharedGuard 63 = .ok (.aload_n 3, 1) := by decide +kernel
theorem d_X_setSharedGuard_64 : decode b_X_setSharedGuard 64 = .ok (.iload_n 2, 1) := by decide +kernel
theorem d_X_setSharedGuard_65 : decode b_X_setSharedGuard 65 = .ok (.sipush 256, 3) := by decide +kernel
theorem d_X_setSharedGuard_68 : decode b_X_setSharedGuard 68 = .ok (.isub, 1) := by decide +kernel
theorem d_X_setSharedGuard_69 : decode b_X_setSharedGuard 69 = .ok (.bipush 16, 2) := by decide +kernel
theorem d_X_setSharedGuard_71 : decode b_X_setSharedGuard 71 = .ok (.imul, 1) := by decide +kernel
theorem d_X_setSharedGuard_72 : decode b_X_setSharedGuard 72 = .ok (.bipush 16, 2) := by decide +kernel
theorem d_X_setSharedGuard_74 : decode b_X_setSharedGuard 74 = .ok (.iconst 3, 1) := by decide +kernel
theorem d_X_setSharedGuard_75 : decode b_X_setSharedGuard 75 = .ok (.invokevirtual 184, 3) := by decide +kernel
theorem d_X_setSharedGuard_78 : decode b_X_setSharedGuard 78 = .ok (.return_, 1) := by decide +kernel
theorem d_X_runSystem_0 : decode b_X_runSystem 0 = .ok (.aload_n 1, 1) := by decide +kernel
theorem d_X_runSystem_1 : decode b_X_runSystem 1 = .ok (.iconst (-1), 1) := by decide +kernel
theorem d_X_runSystem_2 : decode b_X_runSystem 2 = .ok (.putfield 93, 3) := by decide +kernel
theorem d_X_runSystem_5 : decode b_X_runSystem 5 = .ok (.aload_n 0, 1) := by decide +kernel
theorem d_X_runSystem_6 : decode b_X_runSystem 6 = .ok (.aload_n 1, 1) := by decide +kernel
theorem d_X_runSystem_7 : decode b_X_runSystem 7 = .ok (.invokevirtual 96, 3) := by decide +kernel
theorem d_X_runSystem_10 : decode b_X_runSystem 10 = .ok (.return_, 1) := by decide +kernel
theorem d_X_makeStep_0 : decode b_X_makeStep 0 = .ok (.aload_n 2, 1) := by decide +kernel
theorem d_X_makeStep_1 : decode b_X_makeStep 1 = .ok (.getfield 205, 3) := by decide +kernel
theorem d_X_makeStep_4 : decode b_X_makeStep 4 = .ok (.istore_n 3, 1) := by decide +kernel
theorem d_X_makeStep_5 : decode b_X_makeStep 5 = .ok (.aload_n 0, 1) := by decide +kernel
theorem d_X_makeStep_6 : decode b_X_makeStep 6 = .ok (.aload_n 1, 1) := by decide +kernel
theorem d_X_makeStep_7 : decode b_X_makeStep 7 = .ok (.iload_n 3, 1) := by decide +kernel
theorem d_X_makeStep_8 : decode b_X_makeStep 8 = .ok (.iconst 4, 1) := by decide +kernel
theorem d_X_makeStep_9 : decode b_X_makeStep 9 = .ok (.invokevirtual 43, 3) := by decide +kernel
theorem d_X_makeStep_12 : decode b_X_makeStep 12 = .ok (.ifCond .ne 10, 3) := by decide +kernel
theorem d_X_makeStep_15 : decode b_X_makeStep 15 = .ok (.aload_n 2, 1) := by decide +kernel
theorem d_X_makeStep_16 : decode b_X_makeStep 16 = .ok (.iconst 5, 1) := by decide +kernel
theorem d_X_makeStep_17 : decode b_X_makeStep 17 = .ok (.iconst 1, 1) := by decide +kernel
theorem d_X_makeStep_18 : decode b_X_makeStep 18 = .ok (.invokevirtual 208, 3) := by decide +kernel
theorem d_X_makeStep_21 : decode b_X_makeStep 21 = .ok (.return_, 1) := by decide +kernel
theorem d_X_makeStep_22 : decode b_X_makeStep 22 = .ok (.aload_n 0, 1) := by decide +kernel
theorem d_X_makeStep_23 : decode b_X_makeStep 23 = .ok (.aload_n 1, 1) := by decide +kernel
theorem d_X_makeStep_24 : decode b_X_makeStep 24 = .ok (.aload_n 2, 1) := by decide +kernel
theorem d_X_makeStep_25 : decode b_X_makeStep 25 = .ok (.aload_n 0, 1) := by decide +kernel
theorem d_X_makeStep_26 : decode b_X_makeStep 26 = .ok (.getfield 13, 3) := by decide +kernel
theorem d_X_makeStep_29 : decode b_X_makeStep 29 = .ok (.iload_n 3, 1) := by decide +kernel
theorem d_X_makeStep_30 : decode b_X_makeStep 30 = .ok (.iaload, 1) := by decide +kernel
theorem d_X_makeStep_31 : decode b_X_makeStep 31 = .ok (.invokevirtual 212, 3) := by decide +kernel
theorem d_X_makeStep_34 : decode b_X_makeStep 34 = .ok (.istore 4, 2) := by decide +kernel
theorem d_X_makeStep_36 : decode b_X_makeStep 36 = .ok (.aload_n 2, 1) := by decide +kernel
theorem d_X_makeStep_37 : decode b_X_makeStep 37 = .ok (.getfield 86, 3) := by decide +kernel
theorem d_X_makeStep_40 : decode b_X_makeStep 40 = .ok (.iconst 5, 1) := by decide +kernel
theorem d_X_makeStep_41 : decode b_X_makeStep 41 = .ok (.if_icmp .eq 9, 3) := by decide +kernel
theorem d_X_makeStep_44 : decode b_X_makeStep 44 = .ok (.aload_n 2, 1) := by decide +kernel
theorem d_X_makeStep_45 : decode b_X_makeStep 45 = .ok (.iload 4, 2) := by decide +kernel
theorem d_X_makeStep_47 : decode b_X_makeStep 47 = .ok (.putfield 205, 3) := by decide +kernel
theorem d_X_makeStep_50 : decode b_X_makeStep 50 = .ok (.return_, 1) := by decide +kernel
theorem d_X_doWord_0 : decode b_X_doWord 0 = .ok (.aload_n 2, 1) := by decide +kernel
theorem d_X_doWord_1 : decode b_X_doWord 1 = .ok (.getfield 216, 3) := by decide +kernel
theorem d_X_doWord_4 : decode b_X_doWord 4 = .ok (.astore 4, 2) := by decide +kernel
theorem d_X_doWord_6 : decode b_X_doWord 6 = .ok (.iload_n 3, 1) := by decide +kernel
theorem d_X_doWord_7 : decode b_X_doWord 7 = .ok (.iconst 4, 1) := by decide +kernel
theorem d_X_doWord_8 : decode b_X_doWord 8 = .ok (.ishr, 1) := by decide +kernel
theorem d_X_doWord_9 : decode b_X_doWord 9 = .ok (.bipush 7, 2) := by decide +kernel
theorem d_X_doWord_11 : decode b_X_doWord 11 = .ok (.iand, 1) := by decide +kernel
theorem d_X_doWord_12 : decode b_X_doWord 12 = .ok (.istore 5, 2) := by decide +kernel
theorem d_X_doWord_14 : decode b_X_doWord 14 = .ok (.iload_n 3, 1) := by decide +kernel
theorem d_X_doWord_15 : decode b_X_doWord 15 = .ok (.bipush 8, 2) := by decide +kernel
theorem d_X_doWord_17 : decode b_X_doWord 17 = .ok (.ishr, 1) := by decide +kernel
theorem d_X_doWord_18 : decode b_X_doWord 18 = .ok (.bipush 7, 2) := by decide +kernel
theorem d_X_doWord_20 : decode b_X_doWord 20 = .ok (.iand, 1) := by decide +kernel
theorem d_X_doWord_21 : decode b_X_doWord 21 = .ok (.istore 6, 2) := by decide +kernel
theorem d_X_doWord_23 : decode b_X_doWord 23 = .ok (.iload_n 3, 1) := by decide +kernel
theorem d_X_doWord_24 : decode b_X_doWord 24 = .ok (.bipush 16, 2) := by decide +kernel
theorem d_X_doWord_26 : decode b_X_doWord 26 = .ok (.ishr, 1) := by decide +kernel
theorem d_X_doWord_27 : decode b_X_doWord 27 = .ok (.istore 7, 2) := by decide +kernel
theorem d_X_doWord_29 : decode b_X_doWord 29 = .ok (.aload_n 2, 1) := by decide +kernel
theorem d_X_doWord_30 : decode b_X_doWord 30 = .ok (.getfield 205, 3) := by decide +kernel
theorem d_X_doWord_33 : decode b_X_doWord 33 = .ok (.iconst 1, 1) := by decide +kernel
theorem d_X_doWord_34 : decode b_X_doWord 34 = .ok (.iadd, 1) := by decide +kernel
theorem d_X_doWord_35 : decode b_X_doWord 35 = .ok (.istore 8, 2) := by decide +kernel
theorem d_X_doWord_37 : decode b_X_doWord 37 = .ok (.iload_n 3, 1) := by decide +kernel
theorem d_X_doWord_38 : decode b_X_doWord 38 = .ok (.bipush 15, 2) := by decide +kernel
theorem d_X_doWord_40 : decode b_X_doWord 40 = .ok (.iand, 1) := by decide +kernel
theorem d_X_doWord_41 : decode b_X_doWord 41 = .ok (.tableswitch 248 0 10 #[59, 72, 88, 107, 126, 145, 164, 183, 203, 224, 240], 59) := by decide +kernel
theorem d_X_doWord_100 : decode b_X_doWord 100 = .ok (.aload_n 2, 1) := by decide +kernel
theorem d_X_doWord_101 : decode b_X_doWord 101 = .ok (.iconst 4, 1) := by decide +kernel
theorem d_X_doWord_102 : decode b_X_doWord 102 = .ok (.aload 4, 2) := by decide +kernel
theorem d_X_doWord_104 : decode b_X_doWord 104 = .ok (.iload 5, 2) := by decide +kernel
theorem d_X_doWord_106 : decode b_X_doWord 106 = .ok (.iaload, 1) := by decide +kernel
theorem d_X_doWord_107 : decode b_X_doWord 107 = .ok (.invokevirtual 208, 3) := by decide +kernel
theorem d_X_doWord_110 : decode b_X_doWord 110 = .ok (.iload 8, 2) := by decide +kernel
theorem d_X_doWord_112 : decode b_X_doWord 112 = .ok (.ireturn, 1) := by decide +kernel
theorem d_X_doWord_113 : decode b_X_doWord 113 = .ok (.aload 4, 2) := by decide +kernel
theorem d_X_doWord_115 : decode b_X_doWord 115 = .ok (.iload 5, 2) := by decide +kernel
theorem d_X_doWord_117 : decode b_X_doWord 117 = .ok (.aload 4, 2) := by decide +kernel
theorem d_X_doWord_119 : decode b_X_doWord 119 = .ok (.iload 6, 2) := by decide +kernel
theorem d_X_doWord_121 : decode b_X_doWord 121 = .ok (.iaload, 1) := by decide +kernel
theorem d_X_doWord_122 : decode b_X_doWord 122 = .ok (.iload 7, 2) := by decide +kernel
theorem d_X_doWord_124 : decode b_X_doWord 124 = .ok (.iadd, 1) := by decide +kernel
theorem d_X_doWord_125 : decode b_X_doWord 125 = .ok (.iastore, 1) := by decide +kernel
theorem d_X_doWord_126 : decode b_X_doWord 126 = .ok (.iload 8, 2) := by decide +kernel
theorem d_X_doWord_128 : decode b_X_doWord 128 = .ok (.ireturn, 1) := by decide +kernel
theorem d_X_doWord_129 : decode b_X_doWord 129 = .ok (.aload 4, 2) := by decide +kernel
theorem d_X_doWord_131 : decode b_X_doWord 131 = .ok (.iload 5, 2) := by decide +kernel
theorem d_X_doWord_133 : decode b_X_doWord 133 = .ok (.aload 4, 2) := by decide +kernel
theorem d_X_doWord_135 : decode b_X_doWord 135 = .ok (.iload 5, 2) := by decide +kernel
theorem d_X_doWord_137 : decode b_X_doWord 137 = .ok (.iaload, 1) := by decide +kernel
theorem d_X_doWord_138 : decode b_X_doWord 138 = .ok (.aload 4, 2) := by decide +kernel
theorem d_X_doWord_140 : decode b_X_doWord 140 = .ok (.iload 6, 2) := by decide +kernel
theorem d_X_doWord_142 : decode b_X_doWord 142 = .ok (.iaload, 1) := by decide +kernel
theorem d_X_doWord_143 : decode b_X_doWord 143 = .ok (.iadd, 1) := by decide +kernel
theorem d_X_doWord_144 : decode b_X_doWord 144 = .ok (.iastore, 1) := by decide +kernel
theorem d_X_doWord_145 : decode b_X_doWord 145 = .ok (.iload 8, 2) := by decide +kernel
theorem d_X_doWord_147 : decode b_X_doWord 147 = .ok (.ireturn, 1) := by decide +kernel
theorem d_X_doWord_148 : decode b_X_doWord 148 = .ok (.aload 4, 2) := by decide +kernel
theorem d_X_doWord_150 : decode b_X_doWord 150 = .ok (.iload 5, 2) := by decide +kernel
theorem d_X_doWord_152 : decode b_X_doWord 152 = .ok (.aload 4, 2) := by decide +kernel
theorem d_X_doWord_154 : decode b_X_doWord 154 = .ok (.iload 5, 2) := by decide +kernel
theorem d_X_doWord_156 : decode b_X_doWord 156 = .ok (.iaload, 1) := by decide +kernel
theorem d_X_doWord_157 : decode b_X_doWord 157 = .ok (.aload 4, 2) := by decide +kernel
theorem d_X_doWord_159 : decode b_X_doWord 159 = .ok (.iload 6, 2) := by decide +kernel
theorem d_X_doWord_161 : decode b_X_doWord 161 = .ok (.iaload, 1) := by decide +kernel
theorem d_X_doWord_162 : decode b_X_doWord 162 = .ok (.ixor, 1) := by decide +kernel
theorem d_X_doWord_163 : decode b_X_doWord 163 = .ok (.iastore, 1) := by decide +kernel
theorem d_X_doWord_164 : decode b_X_doWord 164 = .ok (.iload 8, 2) := by decide +kernel
theorem d_X_doWord_166 : decode b_X_doWord 166 = .ok (.ireturn, 1) := by decide +kernel
theorem d_X_doWord_167 : decode b_X_doWord 167 = .ok (.aload_n 0, 1) := by decide +kernel
theorem d_X_doWord_168 : decode b_X_doWord 168 = .ok (.aload_n 1, 1) := by decide +kernel
theorem d_X_doWord_169 : decode b_X_doWord 169 = .ok (.aload_n 2, 1) := by decide +kernel
theorem d_X_doWord_170 : decode b_X_doWord 170 = .ok (.iload 5, 2) := by decide +kernel
theorem d_X_doWord_172 : decode b_X_doWord 172 = .ok (.aload 4, 2) := by decide +kernel
theorem d_X_doWord_174 : decode b_X_doWord 174 = .ok (.iload 6, 2) := by decide +kernel
theorem d_X_doWord_176 : decode b_X_doWord 176 = .ok (.iaload, 1) := by decide +kernel
theorem d_X_doWord_177 : decode b_X_doWord 177 = .ok (.iload 7, 2) := by decide +kernel
theorem d_X_doWord_179 : decode b_X_doWord 179 = .ok (.iadd, 1) := by decide +kernel
theorem d_X_doWord_180 : decode b_X_doWord 180 = .ok (.invokevirtual 217, 3) := by decide +kernel
theorem d_X_doWord_183 : decode b_X_doWord 183 = .ok (.iload 8, 2) := by decide +kernel
theorem d_X_doWord_185 : decode b_X_doWord 185 = .ok (.ireturn, 1) := by decide +kernel
theorem d_X_doWord_186 : decode b_X_doWord 186 = .ok (.aload_n 0, 1) := by decide +kernel
theorem d_X_doWord_187 : decode b_X_doWord 187 = .ok (.aload_n 1, 1) := by decide +kernel
theorem d_X_doWord_188 : decode b_X_doWord 188 = .ok (.aload_n 2, 1) := by decide +kernel
theorem d_X_doWord_189 : decode b_X_doWord 189 = .ok (.iload 5, 2) := by decide +kernel
theorem d_X_doWord_191 : decode b_X_doWord 191 = .ok (.aload 4, 2) := by decide +kernel
theorem d_X_doWord_193 : decode b_X_doWord 193 = .ok (.iload 6, 2) := by decide +kernel
theorem d_X_doWord_195 : decode b_X_doWord 195 = .ok (.iaload, 1) := by decide +kernel
theorem d_X_doWord_196 : decode b_X_doWord 196 = .ok (.iload 7, 2) := by decide +kernel
theorem d_X_doWord_198 : decode b_X_doWord 198 = .ok (.iadd, 1) := by decide +kernel
theorem d_X_doWord_199 : decode b_X_doWord 199 = .ok (.invokevirtual 221, 3) := by decide +kernel
theorem d_X_doWord_202 : decode b_X_doWord 202 = .ok (.iload 8, 2) := by decide +kernel
theorem d_X_doWord_204 : decode b_X_doWord 204 = .ok (.ireturn, 1) := by decide +kernel
theorem d_X_doWord_205 : decode b_X_doWord 205 = .ok (.aload 4, 2) := by decide +kernel
theorem d_X_doWord_207 : decode b_X_doWord 207 = .ok (.iload 5, 2) := by decide +kernel
theorem d_X_doWord_209 : decode b_X_doWord 209 = .ok (.iaload, 1) := by decide +kernel
theorem d_X_doWord_210 : decode b_X_doWord 210 = .ok (.ifCond .ne 11, 3) := by decide +kernel
theorem d_X_doWord_213 : decode b_X_doWord 213 = .ok (.iload 8, 2) := by decide +kernel
theorem d_X_doWord_215 : decode b_X_doWord 215 = .ok (.iload 7, 2) := by decide +kernel
theorem d_X_doWord_217 : decode b_X_doWord 217 = .ok (.iadd, 1) := by decide +kernel
theorem d_X_doWord_218 : decode b_X_doWord 218 = .ok (.goto 5, 3) := by decide +kernel
theorem d_X_doWord_221 : decode b_X_doWord 221 = .ok (.iload 8, 2) := by decide +kernel
theorem d_X_doWord_223 : decode b_X_doWord 223 = .ok (.ireturn, 1) := by decide +kernel
theorem d_X_doWord_224 : decode b_X_doWord 224 = .ok (.aload 4, 2) := by decide +kernel
theorem d_X_doWord_226 : decode b_X_doWord 226 = .ok (.iload 6, 2) := by decide +kernel
theorem d_X_doWord_228 : decode b_X_doWord 228 = .ok (.iaload, 1) := by decide +kernel
theorem d_X_doWord_229 : decode b_X_doWord 229 = .ok (.iload 7, 2) := by decide +kernel
theorem d_X_doWord_231 : decode b_X_doWord 231 = .ok (.iadd, 1) := by decide +kernel
theorem d_X_doWord_232 : decode b_X_doWord 232 = .ok (.istore 9, 2) := by decide +kernel
theorem d_X_doWord_234 : decode b_X_doWord 234 = .ok (.aload 4, 2) := by decide +kernel
theorem d_X_doWord_236 : decode b_X_doWord 236 = .ok (.iload 5, 2) := by decide +kernel
theorem d_X_doWord_238 : decode b_X_doWord 238 = .ok (.iload 8, 2) := by decide +kernel
theorem d_X_doWord_240 : decode b_X_doWord 240 = .ok (.iastore, 1) := by decide +kernel
theorem d_X_doWord_241 : decode b_X_doWord 241 = .ok (.iload 9, 2) := by decide +kernel
theorem d_X_doWord_243 : decode b_X_doWord 243 = .ok (.ireturn, 1) := by decide +kernel
theorem d_X_doWord_244 : decode b_X_doWord 244 = .ok (.aload 4, 2) := by decide +kernel
theorem d_X_doWord_246 : decode b_X_doWord 246 = .ok (.iload 5, 2) := by decide +kernel
theorem d_X_doWord_248 : decode b_X_doWord 248 = .ok (.aload_n 0, 1) := by decide +kernel
theorem d_X_doWord_249 : decode b_X_doWord 249 = .ok (.aload_n 2, 1) := by decide +kernel
theorem d_X_doWord_250 : decode b_X_doWord 250 = .ok (.getfield 120, 3) := by decide +kernel
theorem d_X_doWord_253 : decode b_X_doWord 253 = .ok (.aload 4, 2) := by decide +kernel
theorem d_X_doWord_255 : decode b_X_doWord 255 = .ok (.iload 6, 2) := by decide +kernel
theorem d_X_doWord_257 : decode b_X_doWord 257 = .ok (.iaload, 1) := by decide +kernel
theorem d_X_doWord_258 : decode b_X_doWord 258 = .ok (.invokevirtual 123, 3) := by decide +kernel
theorem d_X_doWord_261 : decode b_X_doWord 261 = .ok (.iastore, 1) := by decide +kernel
theorem d_X_doWord_262 : decode b_X_doWord 262 = .ok (.iload 8, 2) := by decide +kernel
theorem d_X_doWord_264 : decode b_X_doWord 264 = .ok (.ireturn, 1) := by decide +kernel
theorem d_X_doWord_265 : decode b_X_doWord 265 = .ok (.aload 4, 2) := by decide +kernel
theorem d_X_doWord_267 : decode b_X_doWord 267 = .ok (.iload 5, 2) := by decide +kernel
theorem d_X_doWord_269 : decode b_X_doWord 269 = .ok (.aload_n 0, 1) := by decide +kernel
theorem d_X_doWord_270 : decode b_X_doWord 270 = .ok (.aload_n 2, 1) := by decide +kernel
theorem d_X_doWord_271 : decode b_X_doWord 271 = .ok (.getfield 120, 3) := by decide +kernel
theorem d_X_doWord_274 : decode b_X_doWord 274 = .ok (.invokevirtual 224, 3) := by decide +kernel
theorem d_X_doWord_277 : decode b_X_doWord 277 = .ok (.iastore, 1) := by decide +kernel
theorem d_X_doWord_278 : decode b_X_doWord 278 = .ok (.iload 8, 2) := by decide +kernel
theorem d_X_doWord_280 : decode b_X_doWord 280 = .ok (.ireturn, 1) := by decide +kernel
theorem d_X_doWord_281 : decode b_X_doWord 281 = .ok (.aload_n 2, 1) := by decide +kernel
theorem d_X_doWord_282 : decode b_X_doWord 282 = .ok (.iconst 3, 1) := by decide +kernel
theorem d_X_doWord_283 : decode b_X_doWord 283 = .ok (.putfield 86, 3) := by decide +kernel
theorem d_X_doWord_286 : decode b_X_doWord 286 = .ok (.iload 8, 2) := by decide +kernel
theorem d_X_doWord_288 : decode b_X_doWord 288 = .ok (.ireturn, 1) := by decide +kernel
theorem d_X_doWord_289 : decode b_X_doWord 289 = .ok (.aload_n 2, 1) := by decide +kernel
theorem d_X_doWord_290 : decode b_X_doWord 290 = .ok (.iconst 5, 1) := by decide +kernel
theorem d_X_doWord_291 : decode b_X_doWord 291 = .ok (.iconst 4, 1) := by decide +kernel
theorem d_X_doWord_292 : decode b_X_doWord 292 = .ok (.invokevirtual 208, 3) := by decide +kernel
theorem d_X_doWord_295 : decode b_X_doWord 295 = .ok (.iload 8, 2) := by decide +kernel
theorem d_X_doWord_297 : decode b_X_doWord 297 = .ok (.ireturn, 1) := by decide +kernel
theorem d_X_loadFor_0 : decode b_X_loadFor 0 = .ok (.aload_n 0, 1) := by decide +kernel
theorem d_X_loadFor_1 : decode b_X_loadFor 1 = .ok (.aload_n 1, 1) := by decide +kernel
theorem d_X_loadFor_2 : decode b_X_loadFor 2 = .ok (.iload 4, 2) := by decide +kernel
theorem d_X_loadFor_4 : decode b_X_loadFor 4 = .ok (.iconst 1, 1) := by decide +kernel
theorem d_X_loadFor_5 : decode b_X_loadFor 5 = .ok (.invokevirtual 43, 3) := by decide +kernel
theorem d_X_loadFor_8 : decode b_X_loadFor 8 = .ok (.ifCond .eq 19, 3) := by decide +kernel
theorem d_X_loadFor_11 : decode b_X_loadFor 11 = .ok (.aload_n 2, 1) := by decide +kernel
theorem d_X_loadFor_12 : decode b_X_loadFor 12 = .ok (.getfield 216, 3) := by decide +kernel
theorem d_X_loadFor_15 : decode b_X_loadFor 15 = .ok (.iload_n 3, 1) := by decide +kernel
theorem d_X_loadFor_16 : decode b_X_loadFor 16 = .ok (.aload_n 0, 1) := by decide +kernel
theorem d_X_loadFor_17 : decode b_X_loadFor 17 = .ok (.getfield 13, 3) := by decide +kernel
theorem d_X_loadFor_20 : decode b_X_loadFor 20 = .ok (.iload 4, 2) := by decide +kernel
theorem d_X_loadFor_22 : decode b_X_loadFor 22 = .ok (.iaload, 1) := by decide +kernel
theorem d_X_loadFor_23 : decode b_X_loadFor 23 = .ok (.iastore, 1) := by decide +kernel
theorem d_X_loadFor_24 : decode b_X_loadFor 24 = .ok (.goto 9, 3) := by decide +kernel
theorem d_X_loadFor_27 : decode b_X_loadFor 27 = .ok (.aload_n 2, 1) := by decide +kernel
theorem d_X_loadFor_28 : decode b_X_loadFor 28 = .ok (.iconst 5, 1) := by decide +kernel
theorem d_X_loadFor_29 : decode b_X_loadFor 29 = .ok (.iconst 2, 1) := by decide +kernel
theorem d_X_loadFor_30 : decode b_X_loadFor 30 = .ok (.invokevirtual 208, 3) := by decide +kernel
theorem d_X_loadFor_33 : decode b_X_loadFor 33 = .ok (.return_, 1) := by decide +kernel
theorem d_X_storeFor_0 : decode b_X_storeFor 0 = .ok (.aload_n 0, 1) := by decide +kernel
theorem d_X_storeFor_1 : decode b_X_storeFor 1 = .ok (.aload_n 1, 1) := by decide +kernel
theorem d_X_storeFor_2 : decode b_X_storeFor 2 = .ok (.iload 4, 2) := by decide +kernel
theorem d_X_storeFor_4 : decode b_X_storeFor 4 = .ok (.iconst 2, 1) := by decide +kernel
theorem d_X_storeFor_5 : decode b_X_storeFor 5 = .ok (.invokevirtual 43, 3) := by decide +kernel
theorem d_X_storeFor_8 : decode b_X_storeFor 8 = .ok (.ifCond .eq 19, 3) := by decide +kernel
theorem d_X_storeFor_11 : decode b_X_storeFor 11 = .ok (.aload_n 0, 1) := by decide +kernel
theorem d_X_storeFor_12 : decode b_X_storeFor 12 = .ok (.getfield 13, 3) := by decide +kernel
theorem d_X_storeFor_15 : decode b_X_storeFor 15 = .ok (.iload 4, 2) := by decide +kernel
theorem d_X_storeFor_17 : decode b_X_storeFor 17 = .ok (.aload_n 2, 1) := by decide +kernel
theorem d_X_storeFor_18 : decode b_X_storeFor 18 = .ok (.getfield 216, 3) := by decide +kernel
theorem d_X_storeFor_21 : decode b_X_storeFor 21 = .ok (.iload_n 3, 1) := by decide +kernel
theorem d_X_storeFor_22 : decode b_X_storeFor 22 = .ok (.iaload, 1) := by decide +kernel
theorem d_X_storeFor_23 : decode b_X_storeFor 23 = .ok (.iastore, 1) := by decide +kernel
theorem d_X_storeFor_24 : decode b_X_storeFor 24 = .ok (.goto 9, 3) := by decide +kernel
theorem d_X_storeFor_27 : decode b_X_storeFor 27 = .ok (.aload_n 2, 1) := by decide +kernel
theorem d_X_storeFor_28 : decode b_X_storeFor 28 = .ok (.iconst 5, 1) := by decide +kernel
theorem d_X_storeFor_29 : decode b_X_storeFor 29 = .ok (.iconst 3, 1) := by decide +kernel
theorem d_X_storeFor_30 : decode b_X_storeFor 30 = .ok (.invokevirtual 208, 3) := by decide +kernel
theorem d_X_storeFor_33 : decode b_X_storeFor 33 = .ok (.return_, 1) := by decide +kernel
theorem d_E_init_0 : decode b_E_init 0 = .ok (.aload_n 0, 1) := by decide +kernel
theorem d_E_init_1 : decode b_E_init 1 = .ok (.invokespecial 3, 3) := by decide +kernel
theorem d_E_init_4 : decode b_E_init 4 = .ok (.aload_n 0, 1) := by decide +kernel
theorem d_E_init_5 : decode b_E_init 5 = .ok (.bipush 8, 2) := by decide +kernel
theorem d_E_init_7 : decode b_E_init 7 = .ok (.newarray .int, 2) := by decide +kernel
theorem d_E_init_9 : decode b_E_init 9 = .ok (.putfield 9, 3) := by decide +kernel
theorem d_E_init_12 : decode b_E_init 12 = .ok (.aload_n 0, 1) := by decide +kernel
theorem d_E_init_13 : decode b_E_init 13 = .ok (.iconst 0, 1) := by decide +kernel
theorem d_E_init_14 : decode b_E_init 14 = .ok (.putfield 15, 3) := by decide +kernel
theorem d_E_init_17 : decode b_E_init 17 = .ok (.aload_n 0, 1) := by decide +kernel
theorem d_E_init_18 : decode b_E_init 18 = .ok (.iconst (-1), 1) := by decide +kernel
theorem d_E_init_19 : decode b_E_init 19 = .ok (.putfield 19, 3) := by decide +kernel
theorem d_E_init_22 : decode b_E_init 22 = .ok (.return_, 1) := by decide +kernel
theorem d_E_firstWord_0 : decode b_E_firstWord 0 = .ok (.aload_n 0, 1) := by decide +kernel
theorem d_E_firstWord_1 : decode b_E_firstWord 1 = .ok (.getfield 22, 3) := by decide +kernel
theorem d_E_firstWord_4 : decode b_E_firstWord 4 = .ok (.bipush 16, 2) := by decide +kernel
theorem d_E_firstWord_6 : decode b_E_firstWord 6 = .ok (.imul, 1) := by decide +kernel
theorem d_E_firstWord_7 : decode b_E_firstWord 7 = .ok (.ireturn, 1) := by decide +kernel
theorem d_E_endWord_0 : decode b_E_endWord 0 = .ok (.aload_n 0, 1) := by decide +kernel
theorem d_E_endWord_1 : decode b_E_endWord 1 = .ok (.getfield 22, 3) := by decide +kernel
theorem d_E_endWord_4 : decode b_E_endWord 4 = .ok (.aload_n 0, 1) := by decide +kernel
theorem d_E_endWord_5 : decode b_E_endWord 5 = .ok (.getfield 25, 3) := by decide +kernel
theorem d_E_endWord_8 : decode b_E_endWord 8 = .ok (.iadd, 1) := by decide +kernel
theorem d_E_endWord_9 : decode b_E_endWord 9 = .ok (.bipush 16, 2) := by decide +kernel
theorem d_E_endWord_11 : decode b_E_endWord 11 = .ok (.imul, 1) := by decide +kernel
theorem d_E_endWord_12 : decode b_E_endWord 12 = .ok (.ireturn, 1) := by decide +kernel
theorem d_E_isBlock_0 : decode b_E_isBlock 0 = .ok (.aload_n 0, 1) := by decide +kernel
theorem d_E_isBlock_1 : decode b_E_isBlock 1 = .ok (.getfield 25, 3) := by decide +kernel
theorem d_E_isBlock_4 : decode b_E_isBlock 4 = .ok (.aload_n 0, 1) := by decide +kernel
theorem d_E_isBlock_5 : decode b_E_isBlock 5 = .ok (.getfield 25, 3) := by decide +kernel
theorem d_E_isBlock_8 : decode b_E_isBlock 8 = .ok (.iconst 1, 1) := by decide +kernel
theorem d_E_isBlock_9 : decode b_E_isBlock 9 = .ok (.isub, 1) := by decide +kernel
theorem d_E_isBlock_10 : decode b_E_isBlock 10 = .ok (.iand, 1) := by decide +kernel
theorem d_E_isBlock_11 : decode b_E_isBlock 11 = .ok (.ifCond .ne 7, 3) := by decide +kernel
theorem d_E_isBlock_14 : decode b_E_isBlock 14 = .ok (.iconst 1, 1) := by decide +kernel
theorem d_E_isBlock_15 : decode b_E_isBlock 15 = .ok (.goto 4, 3) := by decide +kernel
theorem d_E_isBlock_18 : decode b_E_isBlock 18 = .ok (.iconst 0, 1) := by decide +kernel
theorem d_E_isBlock_19 : decode b_E_isBlock 19 = .ok (.istore_n 1, 1) := by decide +kernel
theorem d_E_isBlock_20 : decode b_E_isBlock 20 = .ok (.iload_n 1, 1) := by decide +kernel
theorem d_E_isBlock_21 : decode b_E_isBlock 21 = .ok (.ifCond .eq 21, 3) := by decide +kernel
theorem d_E_isBlock_24 : decode b_E_isBlock 24 = .ok (.aload_n 0, 1) := by decide +kernel
theorem d_E_isBlock_25 : decode b_E_isBlock 25 = .ok (.getfield 22, 3) := by decide +kernel
theorem d_E_isBlock_28 : decode b_E_isBlock 28 = .ok (.aload_n 0, 1) := by decide +kernel
theorem d_E_isBlock_29 : decode b_E_isBlock 29 = .ok (.getfield 25, 3) := by decide +kernel
theorem d_E_isBlock_32 : decode b_E_isBlock 32 = .ok (.iconst 1, 1) := by decide +kernel
theorem d_E_isBlock_33 : decode b_E_isBlock 33 = .ok (.isub, 1) := by decide +kernel
theorem d_E_isBlock_34 : decode b_E_isBlock 34 = .ok (.iand, 1) := by decide +kernel
theorem d_E_isBlock_35 : decode b_E_isBlock 35 = .ok (.ifCond .ne 7, 3) := by decide +kernel
theorem d_E_isBlock_38 : decode b_E_isBlock 38 = .ok (.iconst 1, 1) := by decide +kernel
theorem d_E_isBlock_39 : decode b_E_isBlock 39 = .ok (.goto 4, 3) := by decide +kernel
theorem d_E_isBlock_42 : decode b_E_isBlock 42 = .ok (.iconst 0, 1) := by decide +kernel
theorem d_E_isBlock_43 : decode b_E_isBlock 43 = .ok (.ireturn, 1) := by decide +kernel
theorem d_E_startWith_0 : decode b_E_startWith 0 = .ok (.iconst 0, 1) := by decide +kernel
theorem d_E_startWith_1 : decode b_E_startWith 1 = .ok (.istore_n 2, 1) := by decide +kernel
theorem d_E_startWith_2 : decode b_E_startWith 2 = .ok (.iload_n 2, 1) := by decide +kernel
theorem d_E_startWith_3 : decode b_E_startWith 3 = .ok (.bipush 8, 2) := by decide +kernel
theorem d_E_startWith_5 : decode b_E_startWith 5 = .ok (.if_icmp .ge 16, 3) := by decide +kernel
theorem d_E_startWith_8 : decode b_E_startWith 8 = .ok (.aload_n 0, 1) := by decide +kernel
theorem d_E_startWith_9 : decode b_E_startWith 9 = .ok (.getfield 9, 3) := by decide +kernel
theorem d_E_startWith_12 : decode b_E_startWith 12 = .ok (.iload_n 2, 1) := by decide +kernel
theorem d_E_startWith_13 : decode b_E_startWith 13 = .ok (.iconst 0, 1) := by decide +kernel
theorem d_E_startWith_14 : decode b_E_startWith 14 = .ok (.iastore, 1) := by decide +kernel
theorem d_E_startWith_15 : decode b_E_startWith 15 = .ok (.iinc 2 1, 3) := by decide +kernel
theorem d_E_startWith_18 : decode b_E_startWith 18 = .ok (.goto (-16), 3) := by decide +kernel
theorem d_E_startWith_21 : decode b_E_startWith 21 = .ok (.aload_n 0, 1) := by decide +kernel
theorem d_E_startWith_22 : decode b_E_startWith 22 = .ok (.getfield 9, 3) := by decide +kernel
theorem d_E_startWith_25 : decode b_E_startWith 25 = .ok (.iconst 1, 1) := by decide +kernel
theorem d_E_startWith_26 : decode b_E_startWith 26 = .ok (.iload_n 1, 1) := by decide +kernel
theorem d_E_startWith_27 : decode b_E_startWith 27 = .ok (.iastore, 1) := by decide +kernel
theorem d_E_startWith_28 : decode b_E_startWith 28 = .ok (.aload_n 0, 1) := by decide +kernel
theorem d_E_startWith_29 : decode b_E_startWith 29 = .ok (.aload_n 0, 1) := by decide +kernel
theorem d_E_startWith_30 : decode b_E_startWith 30 = .ok (.getfield 28, 3) := by decide +kernel
theorem d_E_startWith_33 : decode b_E_startWith 33 = .ok (.putfield 31, 3) := by decide +kernel
theorem d_E_startWith_36 : decode b_E_startWith 36 = .ok (.return_, 1) := by decide +kernel
theorem d_E_endWith_0 : decode b_E_endWith 0 = .ok (.aload_n 0, 1) := by decide +kernel
theorem d_E_endWith_1 : decode b_E_endWith 1 = .ok (.iload_n 1, 1) := by decide +kernel
theorem d_E_endWith_2 : decode b_E_endWith 2 = .ok (.putfield 15, 3) := by decide +kernel
theorem d_E_endWith_5 : decode b_E_endWith 5 = .ok (.aload_n 0, 1) := by decide +kernel
theorem d_E_endWith_6 : decode b_E_endWith 6 = .ok (.iload_n 2, 1) := by decide +kernel
theorem d_E_endWith_7 : decode b_E_endWith 7 = .ok (.putfield 34, 3) := by decide +kernel
theorem d_E_endWith_10 : decode b_E_endWith 10 = .ok (.return_, 1) := by decide +kernel
theorem d_G_init_0 : decode b_G_init 0 = .ok (.aload_n 0, 1) := by decide +kernel
theorem d_G_init_1 : decode b_G_init 1 = .ok (.invokespecial 3, 3) := by decide +kernel
theorem d_G_init_4 : decode b_G_init 4 = .ok (.aload_n 0, 1) := by decide +kernel
theorem d_G_init_5 : decode b_G_init 5 = .ok (.iconst 0, 1) := by decide +kernel
theorem d_G_init_6 : decode b_G_init 6 = .ok (.putfield 9, 3) := by decide +kernel
theorem d_G_init_9 : decode b_G_init 9 = .ok (.aload_n 0, 1) := by decide +kernel
theorem d_G_init_10 : decode b_G_init 10 = .ok (.iconst 0, 1) := by decide +kernel
theorem d_G_init_11 : decode b_G_init 11 = .ok (.putfield 15, 3) := by decide +kernel
theorem d_G_init_14 : decode b_G_init 14 = .ok (.aload_n 0, 1) := by decide +kernel
theorem d_G_init_15 : decode b_G_init 15 = .ok (.iconst 0, 1) := by decide +kernel
theorem d_G_init_16 : decode b_G_init 16 = .ok (.putfield 18, 3) := by decide +kernel
theorem d_G_init_19 : decode b_G_init 19 = .ok (.return_, 1) := by decide +kernel
theorem d_G_setTo_0 : decode b_G_setTo 0 = .ok (.aload_n 0, 1) := by decide +kernel
theorem d_G_setTo_1 : decode b_G_setTo 1 = .ok (.iload_n 1, 1) := by decide +kernel
theorem d_G_setTo_2 : decode b_G_setTo 2 = .ok (.putfield 9, 3) := by decide +kernel
theorem d_G_setTo_5 : decode b_G_setTo 5 = .ok (.aload_n 0, 1) := by decide +kernel
theorem d_G_setTo_6 : decode b_G_setTo 6 = .ok (.iload_n 2, 1) := by decide +kernel
theorem d_G_setTo_7 : decode b_G_setTo 7 = .ok (.putfield 15, 3) := by decide +kernel
theorem d_G_setTo_10 : decode b_G_setTo 10 = .ok (.aload_n 0, 1) := by decide +kernel
theorem d_G_setTo_11 : decode b_G_setTo 11 = .ok (.iload_n 3, 1) := by decide +kernel
theorem d_G_setTo_12 : decode b_G_setTo 12 = .ok (.putfield 18, 3) := by decide +kernel
theorem d_G_setTo_15 : decode b_G_setTo 15 = .ok (.return_, 1) := by decide +kernel
theorem d_G_setOff_0 : decode b_G_setOff 0 = .ok (.aload_n 0, 1) := by decide +kernel
theorem d_G_setOff_1 : decode b_G_setOff 1 = .ok (.iconst 0, 1) := by decide +kernel
theorem d_G_setOff_2 : decode b_G_setOff 2 = .ok (.iconst 0, 1) := by decide +kernel
theorem d_G_setOff_3 : decode b_G_setOff 3 = .ok (.iload_n 1, 1) := by decide +kernel
theorem d_G_setOff_4 : decode b_G_setOff 4 = .ok (.invokevirtual 21, 3) := by decide +kernel
theorem d_G_setOff_7 : decode b_G_setOff 7 = .ok (.return_, 1) := by decide +kernel
theorem d_G_setBlock_0 : decode b_G_setBlock 0 = .ok (.aload_n 0, 1) := by decide +kernel
theorem d_G_setBlock_1 : decode b_G_setBlock 1 = .ok (.iconst 3, 1) := by decide +kernel
theorem d_G_setBlock_2 : decode b_G_setBlock 2 = .ok (.iload_n 3, 1) := by decide +kernel
theorem d_G_setBlock_3 : decode b_G_setBlock 3 = .ok (.iload_n 1, 1) := by decide +kernel
theorem d_G_setBlock_4 : decode b_G_setBlock 4 = .ok (.iload_n 2, 1) := by decide +kernel
theorem d_G_setBlock_5 : decode b_G_setBlock 5 = .ok (.iconst 2, 1) := by decide +kernel
theorem d_G_setBlock_6 : decode b_G_setBlock 6 = .ok (.idiv, 1) := by decide +kernel
theorem d_G_setBlock_7 : decode b_G_setBlock 7 = .ok (.iadd, 1) := by decide +kernel
theorem d_G_setBlock_8 : decode b_G_setBlock 8 = .ok (.iconst 1, 1) := by decide +kernel
theorem d_G_setBlock_9 : decode b_G_setBlock 9 = .ok (.isub, 1) := by decide +kernel
theorem d_G_setBlock_10 : decode b_G_setBlock 10 = .ok (.invokevirtual 21, 3) := by decide +kernel
theorem d_G_setBlock_13 : decode b_G_setBlock 13 = .ok (.return_, 1) := by decide +kernel
theorem d_G_matches_0 : decode b_G_matches 0 = .ok (.aload_n 0, 1) := by decide +kernel
theorem d_G_matches_1 : decode b_G_matches 1 = .ok (.getfield 9, 3) := by decide +kernel
theorem d_G_matches_4 : decode b_G_matches 4 = .ok (.tableswitch 91 1 3 #[28, 47, 61], 28) := by decide +kernel
theorem d_G_matches_32 : decode b_G_matches 32 = .ok (.iload_n 2, 1) := by decide +kernel
theorem d_G_matches_33 : decode b_G_matches 33 = .ok (.iload_n 1, 1) := by decide +kernel
theorem d_G_matches_34 : decode b_G_matches 34 = .ok (.if_icmp .gt 15, 3) := by decide +kernel
theorem d_G_matches_37 : decode b_G_matches 37 = .ok (.iload_n 1, 1) := by decide +kernel
theorem d_G_matches_38 : decode b_G_matches 38 = .ok (.aload_n 0, 1) := by decide +kernel
theorem d_G_matches_39 : decode b_G_matches 39 = .ok (.getfield 18, 3) := by decide +kernel
theorem d_G_matches_42 : decode b_G_matches 42 = .ok (.if_icmp .ge 7, 3) := by decide +kernel
theorem d_G_matches_45 : decode b_G_matches 45 = .ok (.iconst 1, 1) := by decide +kernel
theorem d_G_matches_46 : decode b_G_matches 46 = .ok (.goto 4, 3) := by decide +kernel
theorem d_G_matches_49 : decode b_G_matches 49 = .ok (.iconst 0, 1) := by decide +kernel
theorem d_G_matches_50 : decode b_G_matches 50 = .ok (.ireturn, 1) := by decide +kernel
theorem d_G_matches_51 : decode b_G_matches 51 = .ok (.iload_n 1, 1) := by decide +kernel
theorem d_G_matches_52 : decode b_G_matches 52 = .ok (.aload_n 0, 1) := by decide +kernel
theorem d_G_matches_53 : decode b_G_matches 53 = .ok (.getfield 18, 3) := by decide +kernel
theorem d_G_matches_56 : decode b_G_matches 56 = .ok (.if_icmp .ne 7, 3) := by decide +kernel
theorem d_G_matches_59 : decode b_G_matches 59 = .ok (.iconst 1, 1) := by decide +kernel
theorem d_G_matches_60 : decode b_G_matches 60 = .ok (.goto 4, 3) := by decide +kernel
theorem d_G_matches_63 : decode b_G_matches 63 = .ok (.iconst 0, 1) := by decide +kernel
theorem d_G_matches_64 : decode b_G_matches 64 = .ok (.ireturn, 1) := by decide +kernel
theorem d_G_matches_65 : decode b_G_matches 65 = .ok (.aload_n 0, 1) := by decide +kernel
theorem d_G_matches_66 : decode b_G_matches 66 = .ok (.getfield 18, 3) := by decide +kernel
theorem d_G_matches_69 : decode b_G_matches 69 = .ok (.aload_n 0, 1) := by decide +kernel
theorem d_G_matches_70 : decode b_G_matches 70 = .ok (.getfield 18, 3) := by decide +kernel
theorem d_G_matches_73 : decode b_G_matches 73 = .ok (.iconst 1, 1) := by decide +kernel
theorem d_G_matches_74 : decode b_G_matches 74 = .ok (.iadd, 1) := by decide +kernel
theorem d_G_matches_75 : decode b_G_matches 75 = .ok (.ixor, 1) := by decide +kernel
theorem d_G_matches_76 : decode b_G_matches 76 = .ok (.istore_n 3, 1) := by decide +kernel
theorem d_G_matches_77 : decode b_G_matches 77 = .ok (.iload_n 1, 1) := by decide +kernel
theorem d_G_matches_78 : decode b_G_matches 78 = .ok (.iload_n 3, 1) := by decide +kernel
theorem d_G_matches_79 : decode b_G_matches 79 = .ok (.ior, 1) := by decide +kernel
theorem d_G_matches_80 : decode b_G_matches 80 = .ok (.aload_n 0, 1) := by decide +kernel
theorem d_G_matches_81 : decode b_G_matches 81 = .ok (.getfield 18, 3) := by decide +kernel
theorem d_G_matches_84 : decode b_G_matches 84 = .ok (.iload_n 3, 1) := by decide +kernel
theorem d_G_matches_85 : decode b_G_matches 85 = .ok (.ior, 1) := by decide +kernel
theorem d_G_matches_86 : decode b_G_matches 86 = .ok (.if_icmp .ne 7, 3) := by decide +kernel
theorem d_G_matches_89 : decode b_G_matches 89 = .ok (.iconst 1, 1) := by decide +kernel
theorem d_G_matches_90 : decode b_G_matches 90 = .ok (.goto 4, 3) := by decide +kernel
theorem d_G_matches_93 : decode b_G_matches 93 = .ok (.iconst 0, 1) := by decide +kernel
theorem d_G_matches_94 : decode b_G_matches 94 = .ok (.ireturn, 1) := by decide +kernel
theorem d_G_matches_95 : decode b_G_matches 95 = .ok (.iconst 0, 1) := by decide +kernel
theorem d_G_matches_96 : decode b_G_matches 96 = .ok (.ireturn, 1) := by decide +kernel
theorem d_P_init_0 : decode b_P_init 0 = .ok (.aload_n 0, 1) := by decide +kernel
theorem d_P_init_1 : decode b_P_init 1 = .ok (.invokespecial 3, 3) := by decide +kernel
theorem d_P_init_4 : decode b_P_init 4 = .ok (.aload_n 0, 1) := by decide +kernel
theorem d_P_init_5 : decode b_P_init 5 = .ok (.bipush 8, 2) := by decide +kernel
theorem d_P_init_7 : decode b_P_init 7 = .ok (.newarray .int, 2) := by decide +kernel
theorem d_P_init_9 : decode b_P_init 9 = .ok (.putfield 9, 3) := by decide +kernel
theorem d_P_init_12 : decode b_P_init 12 = .ok (.aload_n 0, 1) := by decide +kernel
theorem d_P_init_13 : decode b_P_init 13 = .ok (.bipush 11, 2) := by decide +kernel
theorem d_P_init_15 : decode b_P_init 15 = .ok (.anewarray 15, 3) := by decide +kernel
theorem d_P_init_18 : decode b_P_init 18 = .ok (.putfield 17, 3) := by decide +kernel
theorem d_P_init_21 : decode b_P_init 21 = .ok (.iconst 0, 1) := by decide +kernel
theorem d_P_init_22 : decode b_P_init 22 = .ok (.istore_n 1, 1) := by decide +kernel
theorem d_P_init_23 : decode b_P_init 23 = .ok (.iload_n 1, 1) := by decide +kernel
theorem d_P_init_24 : decode b_P_init 24 = .ok (.bipush 11, 2) := by decide +kernel
theorem d_P_init_26 : decode b_P_init 26 = .ok (.if_icmp .ge 22, 3) := by decide +kernel
theorem d_P_init_29 : decode b_P_init 29 = .ok (.aload_n 0, 1) := by decide +kernel
theorem d_P_init_30 : decode b_P_init 30 = .ok (.getfield 17, 3) := by decide +kernel
theorem d_P_init_33 : decode b_P_init 33 = .ok (.iload_n 1, 1) := by decide +kernel
theorem d_P_init_34 : decode b_P_init 34 = .ok (.new 15, 3) := by decide +kernel
theorem d_P_init_37 : decode b_P_init 37 = .ok (.dup, 1) := by decide +kernel
theorem d_P_init_38 : decode b_P_init 38 = .ok (.invokespecial 21, 3) := by decide +kernel
theorem d_P_init_41 : decode b_P_init 41 = .ok (.aastore, 1) := by decide +kernel
theorem d_P_init_42 : decode b_P_init 42 = .ok (.iinc 1 1, 3) := by decide +kernel
theorem d_P_init_45 : decode b_P_init 45 = .ok (.goto (-22), 3) := by decide +kernel
theorem d_P_init_48 : decode b_P_init 48 = .ok (.aload_n 0, 1) := by decide +kernel
theorem d_P_init_49 : decode b_P_init 49 = .ok (.iconst (-1), 1) := by decide +kernel
theorem d_P_init_50 : decode b_P_init 50 = .ok (.putfield 22, 3) := by decide +kernel
theorem d_P_init_53 : decode b_P_init 53 = .ok (.return_, 1) := by decide +kernel
end
section
set_option maxRecDepth 20000 in
theorem m_L_15 : MkI TT R_L 15 y_X_init b_X_init 3 1 := ⟨⟨tt_of 8 (by decide +kernel) (by decide +kernel), tt_of 9 (by decide +kernel) (by decide +kernel), tt_of 1 (by decide +kernel) (by decide +kernel), tt_of 10 rfl rfl⟩, rfl, by decide, by decide, by decide +kernel⟩
set_option maxRecDepth 20000 in
theorem m_X_26 : MkI TT R_X 26 y_E_init b_E_init 1 0 := ⟨⟨tt_of 17 (by decide +kernel) (by decide +kernel), tt_of 18 (by decide +kernel) (by decide +kernel), tt_of 2 (by decide +kernel) (by decide +kernel), tt_of 19 rfl rfl⟩, rfl, by decide, by decide, by decide +kernel⟩
set_option maxRecDepth 20000 in
theorem f_E_9 : Fk clX TT R_E 9 3 0 true (.array .int) := ⟨R_E, F_E, 9, t_E, rfl, u_E, by decide, tt_of 21 (by decide +kernel) (by decide +kernel), rfl, by decide +kernel, t_E_ok, n_E⟩
set_option maxRecDepth 20000 in
theorem f_X_216 : Fk clX TT R_X 216 3 0 true (.array .int) := ⟨R_E, F_E, 9, t_E, rfl, u_E, by decide, tt_of 22 (by decide +kernel) (by decide +kernel), rfl, by decide +kernel, t_E_ok, n_E⟩
set_option maxRecDepth 20000 in
theorem f_E_15 : Fk clX TT R_E 15 3 1 false (.int) := ⟨R_E, F_E, 9, t_E, rfl, u_E, by decide, tt_of 23 (by decide +kernel) (by decide +kernel), rfl, by decide +kernel, t_E_ok, n_E⟩
set_option maxRecDepth 20000 in
theorem f_X_86 : Fk clX TT R_X 86 3 1 false (.int) := ⟨R_E, F_E, 9, t_E, rfl, u_E, by decide, tt_of 24 (by decide +kernel) (by decide +kernel), rfl, by decide +kernel, t_E_ok, n_E⟩
set_option maxRecDepth 20000 in
theorem f_E_22 : Fk clX TT R_E 22 3 2 false (.int) := ⟨R_E, F_E, 9, t_E, rfl, u_E, by decide, tt_of 25 (by decide +kernel) (by decide +kernel), rfl, by decide +kernel, t_E_ok, n_E⟩
set_option maxRecDepth 20000 in
theorem f_X_148 : Fk clX TT R_X 148 3 2 false (.int) := ⟨R_E, F_E, 9, t_E, rfl, u_E, by decide, tt_of 26 (by decide +kernel) (by decide +kernel), rfl, by decide +kernel, t_E_ok, n_E⟩
set_option maxRecDepth 20000 in
theorem f_E_25 : Fk clX TT R_E 25 3 3 false (.int) := ⟨R_E, F_E, 9, t_E, rfl, u_E, by decide, tt_of 27 (by decide +kernel) (by decide +kernel), rfl, by decide +kernel, t_E_ok, n_E⟩
set_option maxRecDepth 20000 in
theorem f_X_151 : Fk clX TT R_X 151 3 3 false (.int) := ⟨R_E, F_E, 9, t_E, rfl, u_E, by decide, tt_of 28 (by decide +kernel) (by decide +kernel), rfl, by decide +kernel, t_E_ok, n_E⟩
set_option maxRecDepth 20000 in
theorem f_E_28 : Fk clX TT R_E 28 3 4 false (.int) := ⟨R_E, F_E, 9, t_E, rfl, u_E, by decide, tt_of 29 (by decide +kernel) (by decide +kernel), rfl, by decide +kernel, t_E_ok, n_E⟩
set_option maxRecDepth 20000 in
theorem f_X_154 : Fk clX TT R_X 154 3 4 false (.int) := ⟨R_E, F_E, 9, t_E, rfl, u_E, by decide, tt_of 30 (by decide +kernel) (by decide +kernel), rfl, by decide +kernel, t_E_ok, n_E⟩
set_option maxRecDepth 20000 in
theorem f_E_19 : Fk clX TT R_E 19 3 5 false (.int) := ⟨R_E, F_E, 9, t_E, rfl, u_E, by decide, tt_of 31 (by decide +kernel) (by decide +kernel), rfl, by decide +kernel, t_E_ok, n_E⟩
set_option maxRecDepth 20000 in
theorem f_X_157 : Fk clX TT R_X 157 3 5 false (.int) := ⟨R_E, F_E, 9, t_E, rfl, u_E, by decide, tt_of 32 (by decide +kernel) (by decide +kernel), rfl, by decide +kernel, t_E_ok, n_E⟩
set_option maxRecDepth 20000 in
theorem f_X_120 : Fk clX TT R_X 120 3 6 false (.int) := ⟨R_E, F_E, 9, t_E, rfl, u_E, by decide, tt_of 33 (by decide +kernel) (by decide +kernel), rfl, by decide +kernel, t_E_ok, n_E⟩
set_option maxRecDepth 20000 in
theorem f_E_31 : Fk clX TT R_E 31 3 7 false (.int) := ⟨R_E, F_E, 9, t_E, rfl, u_E, by decide, tt_of 34 (by decide +kernel) (by decide +kernel), rfl, by decide +kernel, t_E_ok, n_E⟩
set_option maxRecDepth 20000 in
theorem f_X_205 : Fk clX TT R_X 205 3 7 false (.int) := ⟨R_E, F_E, 9, t_E, rfl, u_E, by decide, tt_of 35 (by decide +kernel) (by decide +kernel), rfl, by decide +kernel, t_E_ok, n_E⟩
set_option maxRecDepth 20000 in
theorem f_E_34 : Fk clX TT R_E 34 3 8 false (.int) := ⟨R_E, F_E, 9, t_E, rfl, u_E, by decide, tt_of 36 (by decide +kernel) (by decide +kernel), rfl, by decide +kernel, t_E_ok, n_E⟩
set_option maxRecDepth 20000 in
theorem f_X_117 : Fk clX TT R_X 117 3 8 false (.int) := ⟨R_E, F_E, 9, t_E, rfl, u_E, by decide, tt_of 37 (by decide +kernel) (by decide +kernel), rfl, by decide +kernel, t_E_ok, n_E⟩
set_option maxRecDepth 20000 in
theorem m_X_33 : MkI TT R_X 33 y_P_init b_P_init 2 0 := ⟨⟨tt_of 61 (by decide +kernel) (by decide +kernel), tt_of 62 (by decide +kernel) (by decide +kernel), tt_of 3 (by decide +kernel) (by decide +kernel), tt_of 63 rfl rfl⟩, rfl, by decide, by decide, by decide +kernel⟩
set_option maxRecDepth 20000 in
theorem m_P_21 : MkI TT R_P 21 y_G_init b_G_init 1 0 := ⟨⟨tt_of 68 (by decide +kernel) (by decide +kernel), tt_of 69 (by decide +kernel) (by decide +kernel), tt_of 4 (by decide +kernel) (by decide +kernel), tt_of 70 rfl rfl⟩, rfl, by decide, by decide, by decide +kernel⟩
set_option maxRecDepth 20000 in
theorem f_G_9 : Fk clX TT R_G 9 1 0 false (.int) := ⟨R_G, F_G, 3, t_G, rfl, u_G, by decide, tt_of 72 (by decide +kernel) (by decide +kernel), rfl, by decide +kernel, t_G_ok, n_G⟩
set_option maxRecDepth 20000 in
theorem f_X_137 : Fk clX TT R_X 137 1 0 false (.int) := ⟨R_G, F_G, 3, t_G, rfl, u_G, by decide, tt_of 73 (by decide +kernel) (by decide +kernel), rfl, by decide +kernel, t_G_ok, n_G⟩
set_option maxRecDepth 20000 in
theorem f_G_15 : Fk clX TT R_G 15 1 1 false (.int) := ⟨R_G, F_G, 3, t_G, rfl, u_G, by decide, tt_of 74 (by decide +kernel) (by decide +kernel), rfl, by decide +kernel, t_G_ok, n_G⟩
set_option maxRecDepth 20000 in
theorem f_X_142 : Fk clX TT R_X 142 1 1 false (.int) := ⟨R_G, F_G, 3, t_G, rfl, u_G, by decide, tt_of 75 (by decide +kernel) (by decide +kernel), rfl, by decide +kernel, t_G_ok, n_G⟩
set_option maxRecDepth 20000 in
theorem f_G_18 : Fk clX TT R_G 18 1 2 false (.int) := ⟨R_G, F_G, 3, t_G, rfl, u_G, by decide, tt_of 76 (by decide +kernel) (by decide +kernel), rfl, by decide +kernel, t_G_ok, n_G⟩
set_option maxRecDepth 20000 in
theorem f_X_145 : Fk clX TT R_X 145 1 2 false (.int) := ⟨R_G, F_G, 3, t_G, rfl, u_G, by decide, tt_of 77 (by decide +kernel) (by decide +kernel), rfl, by decide +kernel, t_G_ok, n_G⟩
set_option maxRecDepth 20000 in
theorem f_P_9 : Fk clX TT R_P 9 2 0 true (.array .int) := ⟨R_P, F_P, 3, t_P, rfl, u_P, by decide, tt_of 85 (by decide +kernel) (by decide +kernel), rfl, by decide +kernel, t_P_ok, n_P⟩
set_option maxRecDepth 20000 in
theorem f_X_55 : Fk clX TT R_X 55 2 0 true (.array .int) := ⟨R_P, F_P, 3, t_P, rfl, u_P, by decide, tt_of 86 (by decide +kernel) (by decide +kernel), rfl, by decide +kernel, t_P_ok, n_P⟩
set_option maxRecDepth 20000 in
theorem f_P_17 : Fk clX TT R_P 17 2 1 true (.array (.object "EnclaveGuards$Guard")) := ⟨R_P, F_P, 3, t_P, rfl, u_P, by decide, tt_of 87 (by decide +kernel) (by decide +kernel), rfl, by decide +kernel, t_P_ok, n_P⟩
set_option maxRecDepth 20000 in
theorem f_X_133 : Fk clX TT R_X 133 2 1 true (.array (.object "EnclaveGuards$Guard")) := ⟨R_P, F_P, 3, t_P, rfl, u_P, by decide, tt_of 88 (by decide +kernel) (by decide +kernel), rfl, by decide +kernel, t_P_ok, n_P⟩
set_option maxRecDepth 20000 in
theorem f_P_22 : Fk clX TT R_P 22 2 2 false (.int) := ⟨R_P, F_P, 3, t_P, rfl, u_P, by decide, tt_of 89 (by decide +kernel) (by decide +kernel), rfl, by decide +kernel, t_P_ok, n_P⟩
set_option maxRecDepth 20000 in
theorem f_X_93 : Fk clX TT R_X 93 2 2 false (.int) := ⟨R_P, F_P, 3, t_P, rfl, u_P, by decide, tt_of 90 (by decide +kernel) (by decide +kernel), rfl, by decide +kernel, t_P_ok, n_P⟩
set_option maxRecDepth 20000 in
theorem m_X_34 : MkV TT R_X 34 y_X_setAllGuards R_X b_X_setAllGuards 2 none 0 := ⟨⟨tt_of 98 (by decide +kernel) (by decide +kernel), tt_of 100 (by decide +kernel) (by decide +kernel), ts_of (q := (y_X_setAllGuards, 6)) 0 (by decide +kernel) (by decide +kernel), tt_of 1 (by decide +kernel) (by decide +kernel), tt_of 101 rfl rfl⟩, rfl, by decide, by decide, by decide +kernel⟩
set_option maxRecDepth 20000 in
theorem m_X_96 : MkV TT R_X 96 y_X_setGuards R_X b_X_setGuards 4 none 1 := ⟨⟨tt_of 102 (by decide +kernel) (by decide +kernel), tt_of 104 (by decide +kernel) (by decide +kernel), ts_of (q := (y_X_setGuards, 6)) 1 (by decide +kernel) (by decide +kernel), tt_of 1 (by decide +kernel) (by decide +kernel), tt_of 105 rfl rfl⟩, rfl, by decide, by decide, by decide +kernel⟩
set_option maxRecDepth 20000 in
theorem m_X_184 : MkV TT R_X 184 y_G_setBlock R_G b_G_setBlock 4 none 3 := ⟨⟨tt_of 106 (by decide +kernel) (by decide +kernel), tt_of 107 (by decide +kernel) (by decide +kernel), tt_of 108 (by decide +kernel) (by decide +kernel), tt_of 4 (by decide +kernel) (by decide +kernel), tt_of 109 rfl rfl⟩, rfl, by decide, by decide, by decide +kernel⟩
set_option maxRecDepth 20000 in
theorem m_G_21 : MkV TT R_G 21 y_G_setTo R_G b_G_setTo 4 none 3 := ⟨⟨tt_of 110 (by decide +kernel) (by decide +kernel), tt_of 111 (by decide +kernel) (by decide +kernel), tt_of 112 (by decide +kernel) (by decide +kernel), tt_of 4 (by decide +kernel) (by decide +kernel), tt_of 113 rfl rfl⟩, rfl, by decide, by decide, by decide +kernel⟩
set_option maxRecDepth 20000 in
theorem m_X_188 : MkS TT R_X 188 y_X_setEnclaveGuards b_X_setEnclaveGuards 4 none 4 := ⟨⟨tt_of 114 (by decide +kernel) (by decide +kernel), tt_of 115 (by decide +kernel) (by decide +kernel), tt_of 1 (by decide +kernel) (by decide +kernel), tt_of 116 rfl rfl⟩, rfl, by decide, by decide, by decide +kernel⟩
set_option maxRecDepth 20000 in
theorem m_X_195 : MkV TT R_X 195 y_G_setOff R_G b_G_setOff 2 none 1 := ⟨⟨tt_of 117 (by decide +kernel) (by decide +kernel), tt_of 118 (by decide +kernel) (by decide +kernel), tt_of 119 (by decide +kernel) (by decide +kernel), tt_of 4 (by decide +kernel) (by decide +kernel), tt_of 120 rfl rfl⟩, rfl, by decide, by decide, by decide +kernel⟩
set_option maxRecDepth 20000 in
theorem m_X_198 : MkV TT R_X 198 y_E_isBlock R_E b_E_isBlock 2 (some .boolean) 0 := ⟨⟨tt_of 121 (by decide +kernel) (by decide +kernel), tt_of 122 (by decide +kernel) (by decide +kernel), tt_of 123 (by decide +kernel) (by decide +kernel), tt_of 2 (by decide +kernel) (by decide +kernel), tt_of 124 rfl rfl⟩, rfl, by decide, by decide, by decide +kernel⟩
set_option maxRecDepth 20000 in
theorem m_X_171 : MkV TT R_X 171 y_E_firstWord R_E b_E_firstWord 1 (some .int) 0 := ⟨⟨tt_of 125 (by decide +kernel) (by decide +kernel), tt_of 126 (by decide +kernel) (by decide +kernel), tt_of 127 (by decide +kernel) (by decide +kernel), tt_of 2 (by decide +kernel) (by decide +kernel), tt_of 128 rfl rfl⟩, rfl, by decide, by decide, by decide +kernel⟩
set_option maxRecDepth 20000 in
theorem m_X_168 : MkV TT R_X 168 y_E_endWord R_E b_E_endWord 1 (some .int) 0 := ⟨⟨tt_of 129 (by decide +kernel) (by decide +kernel), tt_of 130 (by decide +kernel) (by decide +kernel), tt_of 131 (by decide +kernel) (by decide +kernel), tt_of 2 (by decide +kernel) (by decide +kernel), tt_of 132 rfl rfl⟩, rfl, by decide, by decide, by decide +kernel⟩
set_option maxRecDepth 20000 in
theorem m_X_202 : MkV TT R_X 202 y_G_setTo R_G b_G_setTo 4 none 3 := ⟨⟨tt_of 133 (by decide +kernel) (by decide +kernel), tt_of 111 (by decide +kernel) (by decide +kernel), tt_of 112 (by decide +kernel) (by decide +kernel), tt_of 4 (by decide +kernel) (by decide +kernel), tt_of 113 rfl rfl⟩, rfl, by decide, by decide, by decide +kernel⟩
set_option maxRecDepth 20000 in
theorem m_X_192 : MkV TT R_X 192 y_X_setSharedGuard R_X b_X_setSharedGuard 4 none 1 := ⟨⟨tt_of 134 (by decide +kernel) (by decide +kernel), tt_of 136 (by decide +kernel) (by decide +kernel), ts_of (q := (y_X_setSharedGuard, 6)) 2 (by decide +kernel) (by decide +kernel), tt_of 1 (by decide +kernel) (by decide +kernel), tt_of 137 rfl rfl⟩, rfl, by decide, by decide, by decide +kernel⟩
set_option maxRecDepth 20000 in
theorem f_X_7 : Fk clX TT R_X 7 0 0 true (.int) := ⟨R_X, F_X, 6, t_X, rfl, u_X, by decide, tt_of 138 (by decide +kernel) (by decide +kernel), rfl, by decide +kernel, t_X_ok, n_X⟩
set_option maxRecDepth 20000 in
theorem f_X_13 : Fk clX TT R_X 13 0 1 true (.array .int) := ⟨R_X, F_X, 6, t_X, rfl, u_X, by decide, tt_of 139 (by decide +kernel) (by decide +kernel), rfl, by decide +kernel, t_X_ok, n_X⟩
set_option maxRecDepth 20000 in
theorem f_X_17 : Fk clX TT R_X 17 0 2 true (.array .int) := ⟨R_X, F_X, 6, t_X, rfl, u_X, by decide, tt_of 140 (by decide +kernel) (by decide +kernel), rfl, by decide +kernel, t_X_ok, n_X⟩
set_option maxRecDepth 20000 in
theorem f_X_29 : Fk clX TT R_X 29 0 3 true (.array (.object "EnclaveGuards$Processor")) := ⟨R_X, F_X, 6, t_X, rfl, u_X, by decide, tt_of 141 (by decide +kernel) (by decide +kernel), rfl, by decide +kernel, t_X_ok, n_X⟩
set_option maxRecDepth 20000 in
theorem f_X_22 : Fk clX TT R_X 22 0 4 true (.array (.object "EnclaveGuards$Enclave")) := ⟨R_X, F_X, 6, t_X, rfl, u_X, by decide, tt_of 142 (by decide +kernel) (by decide +kernel), rfl, by decide +kernel, t_X_ok, n_X⟩
set_option maxRecDepth 20000 in
theorem f_X_47 : Fk clX TT R_X 47 0 5 false (.int) := ⟨R_X, F_X, 6, t_X, rfl, u_X, by decide, tt_of 143 (by decide +kernel) (by decide +kernel), rfl, by decide +kernel, t_X_ok, n_X⟩
set_option maxRecDepth 20000 in
theorem m_L_21 : MkV TT R_L 21 y_X_load R_X b_X_load 3 (some .long) 2 := ⟨⟨tt_of 157 (by decide +kernel) (by decide +kernel), tt_of 158 (by decide +kernel) (by decide +kernel), tt_of 159 (by decide +kernel) (by decide +kernel), tt_of 1 (by decide +kernel) (by decide +kernel), tt_of 160 rfl rfl⟩, rfl, by decide, by decide, by decide +kernel⟩
set_option maxRecDepth 20000 in
theorem m_X_37 : MkV TT R_X 37 y_X_isBusy R_X b_X_isBusy 2 (some .boolean) 1 := ⟨⟨tt_of 161 (by decide +kernel) (by decide +kernel), tt_of 163 (by decide +kernel) (by decide +kernel), ts_of (q := (y_X_isBusy, 6)) 3 (by decide +kernel) (by decide +kernel), tt_of 1 (by decide +kernel) (by decide +kernel), tt_of 164 rfl rfl⟩, rfl, by decide, by decide, by decide +kernel⟩
set_option maxRecDepth 20000 in
theorem m_X_127 : MkS TT R_X 127 y_X_isProcessor b_X_isProcessor 1 (some .boolean) 1 := ⟨⟨tt_of 165 (by decide +kernel) (by decide +kernel), tt_of 166 (by decide +kernel) (by decide +kernel), tt_of 1 (by decide +kernel) (by decide +kernel), tt_of 167 rfl rfl⟩, rfl, by decide, by decide, by decide +kernel⟩
set_option maxRecDepth 20000 in
theorem k_X_41 : Cond.constantLong R_X 41 1099511627776 ∈ TT := tt_of 168 (by decide +kernel) (by decide +kernel)
set_option maxRecDepth 20000 in
theorem m_X_43 : MkV TT R_X 43 y_X_isAllowed R_X b_X_isAllowed 6 (some .boolean) 3 := ⟨⟨tt_of 169 (by decide +kernel) (by decide +kernel), tt_of 171 (by decide +kernel) (by decide +kernel), ts_of (q := (y_X_isAllowed, 6)) 4 (by decide +kernel) (by decide +kernel), tt_of 1 (by decide +kernel) (by decide +kernel), tt_of 172 rfl rfl⟩, rfl, by decide, by decide, by decide +kernel⟩
set_option maxRecDepth 20000 in
theorem m_X_178 : MkS TT R_X 178 y_X_isAddress b_X_isAddress 1 (some .boolean) 1 := ⟨⟨tt_of 173 (by decide +kernel) (by decide +kernel), tt_of 174 (by decide +kernel) (by decide +kernel), tt_of 1 (by decide +kernel) (by decide +kernel), tt_of 175 rfl rfl⟩, rfl, by decide, by decide, by decide +kernel⟩
set_option maxRecDepth 20000 in
theorem m_X_181 : MkV TT R_X 181 y_G_matches R_G b_G_matches 4 (some .boolean) 2 := ⟨⟨tt_of 176 (by decide +kernel) (by decide +kernel), tt_of 177 (by decide +kernel) (by decide +kernel), tt_of 178 (by decide +kernel) (by decide +kernel), tt_of 4 (by decide +kernel) (by decide +kernel), tt_of 179 rfl rfl⟩, rfl, by decide, by decide, by decide +kernel⟩
set_option maxRecDepth 20000 in
theorem k_X_50 : Cond.constantLong R_X 50 1099511627777 ∈ TT := tt_of 180 (by decide +kernel) (by decide +kernel)
set_option maxRecDepth 20000 in
theorem m_L_26 : MkV TT R_L 26 y_X_store R_X b_X_store 4 (some .int) 3 := ⟨⟨tt_of 181 (by decide +kernel) (by decide +kernel), tt_of 182 (by decide +kernel) (by decide +kernel), tt_of 183 (by decide +kernel) (by decide +kernel), tt_of 1 (by decide +kernel) (by decide +kernel), tt_of 184 rfl rfl⟩, rfl, by decide, by decide, by decide +kernel⟩
set_option maxRecDepth 20000 in
theorem m_L_31 : MkV TT R_L 31 y_X_denied R_X b_X_denied 1 (some .int) 0 := ⟨⟨tt_of 185 (by decide +kernel) (by decide +kernel), tt_of 186 (by decide +kernel) (by decide +kernel), tt_of 187 (by decide +kernel) (by decide +kernel), tt_of 1 (by decide +kernel) (by decide +kernel), tt_of 188 rfl rfl⟩, rfl, by decide, by decide, by decide +kernel⟩
set_option maxRecDepth 20000 in
theorem m_L_36 : MkV TT R_L 36 y_X_give R_X b_X_give 4 (some .boolean) 3 := ⟨⟨tt_of 189 (by decide +kernel) (by decide +kernel), tt_of 190 (by decide +kernel) (by decide +kernel), tt_of 191 (by decide +kernel) (by decide +kernel), tt_of 1 (by decide +kernel) (by decide +kernel), tt_of 192 rfl rfl⟩, rfl, by decide, by decide, by decide +kernel⟩
set_option maxRecDepth 20000 in
theorem m_X_52 : MkS TT R_X 52 y_X_isRegister b_X_isRegister 1 (some .boolean) 1 := ⟨⟨tt_of 193 (by decide +kernel) (by decide +kernel), tt_of 194 (by decide +kernel) (by decide +kernel), tt_of 1 (by decide +kernel) (by decide +kernel), tt_of 195 rfl rfl⟩, rfl, by decide, by decide, by decide +kernel⟩
set_option maxRecDepth 20000 in
theorem m_L_41 : MkV TT R_L 41 y_X_register R_X b_X_register 3 (some .long) 2 := ⟨⟨tt_of 196 (by decide +kernel) (by decide +kernel), tt_of 197 (by decide +kernel) (by decide +kernel), tt_of 198 (by decide +kernel) (by decide +kernel), tt_of 1 (by decide +kernel) (by decide +kernel), tt_of 199 rfl rfl⟩, rfl, by decide, by decide, by decide +kernel⟩
set_option maxRecDepth 20000 in
theorem m_L_45 : MkV TT R_L 45 y_X_create R_X b_X_create 7 (some .int) 5 := ⟨⟨tt_of 200 (by decide +kernel) (by decide +kernel), tt_of 201 (by decide +kernel) (by decide +kernel), tt_of 202 (by decide +kernel) (by decide +kernel), tt_of 1 (by decide +kernel) (by decide +kernel), tt_of 203 rfl rfl⟩, rfl, by decide, by decide, by decide +kernel⟩
set_option maxRecDepth 20000 in
theorem m_X_58 : MkS TT R_X 58 y_X_arePages b_X_arePages 2 (some .boolean) 2 := ⟨⟨tt_of 204 (by decide +kernel) (by decide +kernel), tt_of 205 (by decide +kernel) (by decide +kernel), tt_of 1 (by decide +kernel) (by decide +kernel), tt_of 206 rfl rfl⟩, rfl, by decide, by decide, by decide +kernel⟩
set_option maxRecDepth 20000 in
theorem m_X_130 : MkS TT R_X 130 y_X_isPage b_X_isPage 1 (some .boolean) 1 := ⟨⟨tt_of 207 (by decide +kernel) (by decide +kernel), tt_of 208 (by decide +kernel) (by decide +kernel), tt_of 1 (by decide +kernel) (by decide +kernel), tt_of 209 rfl rfl⟩, rfl, by decide, by decide, by decide +kernel⟩
set_option maxRecDepth 20000 in
theorem m_X_62 : MkS TT R_X 62 y_X_isOnPages b_X_isOnPages 3 (some .boolean) 3 := ⟨⟨tt_of 210 (by decide +kernel) (by decide +kernel), tt_of 211 (by decide +kernel) (by decide +kernel), tt_of 1 (by decide +kernel) (by decide +kernel), tt_of 212 rfl rfl⟩, rfl, by decide, by decide, by decide +kernel⟩
set_option maxRecDepth 20000 in
theorem m_X_66 : MkS TT R_X 66 y_X_isShared b_X_isShared 1 (some .boolean) 1 := ⟨⟨tt_of 213 (by decide +kernel) (by decide +kernel), tt_of 214 (by decide +kernel) (by decide +kernel), tt_of 1 (by decide +kernel) (by decide +kernel), tt_of 215 rfl rfl⟩, rfl, by decide, by decide, by decide +kernel⟩
set_option maxRecDepth 20000 in
theorem m_X_69 : MkV TT R_X 69 y_X_areSystemPages R_X b_X_areSystemPages 4 (some .boolean) 2 := ⟨⟨tt_of 216 (by decide +kernel) (by decide +kernel), tt_of 218 (by decide +kernel) (by decide +kernel), ts_of (q := (y_X_areSystemPages, 6)) 5 (by decide +kernel) (by decide +kernel), tt_of 1 (by decide +kernel) (by decide +kernel), tt_of 219 rfl rfl⟩, rfl, by decide, by decide, by decide +kernel⟩
set_option maxRecDepth 20000 in
theorem m_X_72 : MkV TT R_X 72 y_X_canShare R_X b_X_canShare 6 (some .boolean) 3 := ⟨⟨tt_of 220 (by decide +kernel) (by decide +kernel), tt_of 222 (by decide +kernel) (by decide +kernel), ts_of (q := (y_X_canShare, 6)) 6 (by decide +kernel) (by decide +kernel), tt_of 1 (by decide +kernel) (by decide +kernel), tt_of 223 rfl rfl⟩, rfl, by decide, by decide, by decide +kernel⟩
set_option maxRecDepth 20000 in
theorem m_X_75 : MkV TT R_X 75 y_X_leastFreeEnclave R_X b_X_leastFreeEnclave 2 (some .int) 0 := ⟨⟨tt_of 224 (by decide +kernel) (by decide +kernel), tt_of 226 (by decide +kernel) (by decide +kernel), ts_of (q := (y_X_leastFreeEnclave, 6)) 7 (by decide +kernel) (by decide +kernel), tt_of 1 (by decide +kernel) (by decide +kernel), tt_of 227 rfl rfl⟩, rfl, by decide, by decide, by decide +kernel⟩
set_option maxRecDepth 20000 in
theorem m_X_79 : MkV TT R_X 79 y_X_makeEnclave R_X b_X_makeEnclave 7 none 5 := ⟨⟨tt_of 228 (by decide +kernel) (by decide +kernel), tt_of 230 (by decide +kernel) (by decide +kernel), ts_of (q := (y_X_makeEnclave, 6)) 8 (by decide +kernel) (by decide +kernel), tt_of 1 (by decide +kernel) (by decide +kernel), tt_of 231 rfl rfl⟩, rfl, by decide, by decide, by decide +kernel⟩
set_option maxRecDepth 20000 in
theorem m_X_160 : MkV TT R_X 160 y_X_measure R_X b_X_measure 5 (some .int) 1 := ⟨⟨tt_of 232 (by decide +kernel) (by decide +kernel), tt_of 234 (by decide +kernel) (by decide +kernel), ts_of (q := (y_X_measure, 6)) 9 (by decide +kernel) (by decide +kernel), tt_of 1 (by decide +kernel) (by decide +kernel), tt_of 235 rfl rfl⟩, rfl, by decide, by decide, by decide +kernel⟩
set_option maxRecDepth 20000 in
theorem m_X_174 : MkS TT R_X 174 y_X_mix b_X_mix 3 (some .int) 2 := ⟨⟨tt_of 236 (by decide +kernel) (by decide +kernel), tt_of 237 (by decide +kernel) (by decide +kernel), tt_of 1 (by decide +kernel) (by decide +kernel), tt_of 238 rfl rfl⟩, rfl, by decide, by decide, by decide +kernel⟩
set_option maxRecDepth 20000 in
theorem k_X_177 : Cond.constant R_X 177 668265263 ∈ TT := tt_of 239 (by decide +kernel) (by decide +kernel)
set_option maxRecDepth 20000 in
theorem m_X_164 : MkV TT R_X 164 y_X_setOwner R_X b_X_setOwner 5 none 2 := ⟨⟨tt_of 240 (by decide +kernel) (by decide +kernel), tt_of 242 (by decide +kernel) (by decide +kernel), ts_of (q := (y_X_setOwner, 6)) 10 (by decide +kernel) (by decide +kernel), tt_of 1 (by decide +kernel) (by decide +kernel), tt_of 243 rfl rfl⟩, rfl, by decide, by decide, by decide +kernel⟩
set_option maxRecDepth 20000 in
theorem m_L_50 : MkV TT R_L 50 y_X_run R_X b_X_run 5 (some .int) 3 := ⟨⟨tt_of 244 (by decide +kernel) (by decide +kernel), tt_of 245 (by decide +kernel) (by decide +kernel), tt_of 246 (by decide +kernel) (by decide +kernel), tt_of 1 (by decide +kernel) (by decide +kernel), tt_of 247 rfl rfl⟩, rfl, by decide, by decide, by decide +kernel⟩
set_option maxRecDepth 20000 in
theorem m_X_83 : MkV TT R_X 83 y_X_isThere R_X b_X_isThere 2 (some .boolean) 1 := ⟨⟨tt_of 248 (by decide +kernel) (by decide +kernel), tt_of 250 (by decide +kernel) (by decide +kernel), ts_of (q := (y_X_isThere, 6)) 11 (by decide +kernel) (by decide +kernel), tt_of 1 (by decide +kernel) (by decide +kernel), tt_of 251 rfl rfl⟩, rfl, by decide, by decide, by decide +kernel⟩
set_option maxRecDepth 20000 in
theorem m_X_114 : MkS TT R_X 114 y_X_isEnclaveNumber b_X_isEnclaveNumber 1 (some .boolean) 1 := ⟨⟨tt_of 252 (by decide +kernel) (by decide +kernel), tt_of 253 (by decide +kernel) (by decide +kernel), tt_of 1 (by decide +kernel) (by decide +kernel), tt_of 254 rfl rfl⟩, rfl, by decide, by decide, by decide +kernel⟩
set_option maxRecDepth 20000 in
theorem m_X_89 : MkV TT R_X 89 y_E_startWith R_E b_E_startWith 3 none 1 := ⟨⟨tt_of 255 (by decide +kernel) (by decide +kernel), tt_of 256 (by decide +kernel) (by decide +kernel), tt_of 257 (by decide +kernel) (by decide +kernel), tt_of 2 (by decide +kernel) (by decide +kernel), tt_of 258 rfl rfl⟩, rfl, by decide, by decide, by decide +kernel⟩
set_option maxRecDepth 20000 in
theorem m_L_54 : MkV TT R_L 54 y_X_step R_X b_X_step 6 (some .int) 2 := ⟨⟨tt_of 259 (by decide +kernel) (by decide +kernel), tt_of 260 (by decide +kernel) (by decide +kernel), tt_of 261 (by decide +kernel) (by decide +kernel), tt_of 1 (by decide +kernel) (by decide +kernel), tt_of 262 rfl rfl⟩, rfl, by decide, by decide, by decide +kernel⟩
set_option maxRecDepth 20000 in
theorem m_X_100 : MkV TT R_X 100 y_X_runsEnclave R_X b_X_runsEnclave 2 (some .boolean) 1 := ⟨⟨tt_of 263 (by decide +kernel) (by decide +kernel), tt_of 265 (by decide +kernel) (by decide +kernel), ts_of (q := (y_X_runsEnclave, 6)) 12 (by decide +kernel) (by decide +kernel), tt_of 1 (by decide +kernel) (by decide +kernel), tt_of 266 rfl rfl⟩, rfl, by decide, by decide, by decide +kernel⟩
set_option maxRecDepth 20000 in
theorem m_X_103 : MkV TT R_X 103 y_X_makeStep R_X b_X_makeStep 5 none 2 := ⟨⟨tt_of 267 (by decide +kernel) (by decide +kernel), tt_of 269 (by decide +kernel) (by decide +kernel), ts_of (q := (y_X_makeStep, 6)) 13 (by decide +kernel) (by decide +kernel), tt_of 1 (by decide +kernel) (by decide +kernel), tt_of 270 rfl rfl⟩, rfl, by decide, by decide, by decide +kernel⟩
set_option maxRecDepth 20000 in
theorem m_X_208 : MkV TT R_X 208 y_E_endWith R_E b_E_endWith 3 none 2 := ⟨⟨tt_of 271 (by decide +kernel) (by decide +kernel), tt_of 272 (by decide +kernel) (by decide +kernel), tt_of 273 (by decide +kernel) (by decide +kernel), tt_of 2 (by decide +kernel) (by decide +kernel), tt_of 274 rfl rfl⟩, rfl, by decide, by decide, by decide +kernel⟩
set_option maxRecDepth 20000 in
theorem m_X_212 : MkV TT R_X 212 y_X_doWord R_X b_X_doWord 10 (some .int) 3 := ⟨⟨tt_of 275 (by decide +kernel) (by decide +kernel), tt_of 277 (by decide +kernel) (by decide +kernel), ts_of (q := (y_X_doWord, 6)) 14 (by decide +kernel) (by decide +kernel), tt_of 1 (by decide +kernel) (by decide +kernel), tt_of 278 rfl rfl⟩, rfl, by decide, by decide, by decide +kernel⟩
set_option maxRecDepth 20000 in
theorem m_X_217 : MkV TT R_X 217 y_X_loadFor R_X b_X_loadFor 5 none 4 := ⟨⟨tt_of 279 (by decide +kernel) (by decide +kernel), tt_of 281 (by decide +kernel) (by decide +kernel), ts_of (q := (y_X_loadFor, 6)) 15 (by decide +kernel) (by decide +kernel), tt_of 1 (by decide +kernel) (by decide +kernel), tt_of 282 rfl rfl⟩, rfl, by decide, by decide, by decide +kernel⟩
set_option maxRecDepth 20000 in
theorem m_X_221 : MkV TT R_X 221 y_X_storeFor R_X b_X_storeFor 5 none 4 := ⟨⟨tt_of 283 (by decide +kernel) (by decide +kernel), tt_of 285 (by decide +kernel) (by decide +kernel), ts_of (q := (y_X_storeFor, 6)) 16 (by decide +kernel) (by decide +kernel), tt_of 1 (by decide +kernel) (by decide +kernel), tt_of 286 rfl rfl⟩, rfl, by decide, by decide, by decide +kernel⟩
set_option maxRecDepth 20000 in
theorem m_X_123 : MkV TT R_X 123 y_X_proofOf R_X b_X_proofOf 3 (some .int) 2 := ⟨⟨tt_of 287 (by decide +kernel) (by decide +kernel), tt_of 289 (by decide +kernel) (by decide +kernel), ts_of (q := (y_X_proofOf, 6)) 17 (by decide +kernel) (by decide +kernel), tt_of 1 (by decide +kernel) (by decide +kernel), tt_of 290 rfl rfl⟩, rfl, by decide, by decide, by decide +kernel⟩
set_option maxRecDepth 20000 in
theorem m_X_224 : MkV TT R_X 224 y_X_secretOf R_X b_X_secretOf 2 (some .int) 1 := ⟨⟨tt_of 291 (by decide +kernel) (by decide +kernel), tt_of 293 (by decide +kernel) (by decide +kernel), ts_of (q := (y_X_secretOf, 6)) 18 (by decide +kernel) (by decide +kernel), tt_of 1 (by decide +kernel) (by decide +kernel), tt_of 294 rfl rfl⟩, rfl, by decide, by decide, by decide +kernel⟩
set_option maxRecDepth 20000 in
theorem m_X_107 : MkV TT R_X 107 y_X_runSystem R_X b_X_runSystem 2 none 1 := ⟨⟨tt_of 295 (by decide +kernel) (by decide +kernel), tt_of 297 (by decide +kernel) (by decide +kernel), ts_of (q := (y_X_runSystem, 6)) 19 (by decide +kernel) (by decide +kernel), tt_of 1 (by decide +kernel) (by decide +kernel), tt_of 298 rfl rfl⟩, rfl, by decide, by decide, by decide +kernel⟩
set_option maxRecDepth 20000 in
theorem m_L_59 : MkV TT R_L 59 y_X_interrupt R_X b_X_interrupt 4 (some .int) 1 := ⟨⟨tt_of 299 (by decide +kernel) (by decide +kernel), tt_of 300 (by decide +kernel) (by decide +kernel), tt_of 301 (by decide +kernel) (by decide +kernel), tt_of 1 (by decide +kernel) (by decide +kernel), tt_of 302 rfl rfl⟩, rfl, by decide, by decide, by decide +kernel⟩
set_option maxRecDepth 20000 in
theorem m_L_64 : MkV TT R_L 64 y_X_destroy R_X b_X_destroy 3 (some .int) 2 := ⟨⟨tt_of 303 (by decide +kernel) (by decide +kernel), tt_of 304 (by decide +kernel) (by decide +kernel), tt_of 305 (by decide +kernel) (by decide +kernel), tt_of 1 (by decide +kernel) (by decide +kernel), tt_of 306 rfl rfl⟩, rfl, by decide, by decide, by decide +kernel⟩
set_option maxRecDepth 20000 in
theorem m_X_110 : MkV TT R_X 110 y_X_removeEnclave R_X b_X_removeEnclave 4 none 1 := ⟨⟨tt_of 307 (by decide +kernel) (by decide +kernel), tt_of 309 (by decide +kernel) (by decide +kernel), ts_of (q := (y_X_removeEnclave, 6)) 20 (by decide +kernel) (by decide +kernel), tt_of 1 (by decide +kernel) (by decide +kernel), tt_of 310 rfl rfl⟩, rfl, by decide, by decide, by decide +kernel⟩
set_option maxRecDepth 20000 in
theorem m_L_68 : MkV TT R_L 68 y_X_state R_X b_X_state 2 (some .int) 1 := ⟨⟨tt_of 311 (by decide +kernel) (by decide +kernel), tt_of 312 (by decide +kernel) (by decide +kernel), tt_of 313 (by decide +kernel) (by decide +kernel), tt_of 1 (by decide +kernel) (by decide +kernel), tt_of 314 rfl rfl⟩, rfl, by decide, by decide, by decide +kernel⟩
set_option maxRecDepth 20000 in
theorem m_L_72 : MkV TT R_L 72 y_X_released R_X b_X_released 4 (some .long) 1 := ⟨⟨tt_of 315 (by decide +kernel) (by decide +kernel), tt_of 316 (by decide +kernel) (by decide +kernel), tt_of 317 (by decide +kernel) (by decide +kernel), tt_of 1 (by decide +kernel) (by decide +kernel), tt_of 318 rfl rfl⟩, rfl, by decide, by decide, by decide +kernel⟩
set_option maxRecDepth 20000 in
theorem m_L_77 : MkV TT R_L 77 y_X_measurement R_X b_X_measurement 2 (some .long) 1 := ⟨⟨tt_of 319 (by decide +kernel) (by decide +kernel), tt_of 320 (by decide +kernel) (by decide +kernel), tt_of 321 (by decide +kernel) (by decide +kernel), tt_of 1 (by decide +kernel) (by decide +kernel), tt_of 322 rfl rfl⟩, rfl, by decide, by decide, by decide +kernel⟩
set_option maxRecDepth 20000 in
theorem m_L_81 : MkV TT R_L 81 y_X_verify R_X b_X_verify 4 (some .boolean) 3 := ⟨⟨tt_of 323 (by decide +kernel) (by decide +kernel), tt_of 324 (by decide +kernel) (by decide +kernel), tt_of 325 (by decide +kernel) (by decide +kernel), tt_of 1 (by decide +kernel) (by decide +kernel), tt_of 326 rfl rfl⟩, rfl, by decide, by decide, by decide +kernel⟩
set_option maxRecDepth 20000 in
theorem m_L_85 : MkV TT R_L 85 y_X_running R_X b_X_running 2 (some .int) 1 := ⟨⟨tt_of 327 (by decide +kernel) (by decide +kernel), tt_of 328 (by decide +kernel) (by decide +kernel), tt_of 329 (by decide +kernel) (by decide +kernel), tt_of 1 (by decide +kernel) (by decide +kernel), tt_of 330 rfl rfl⟩, rfl, by decide, by decide, by decide +kernel⟩
set_option maxRecDepth 20000 in
theorem m_L_89 : MkV TT R_L 89 y_X_owner R_X b_X_owner 2 (some .int) 1 := ⟨⟨tt_of 331 (by decide +kernel) (by decide +kernel), tt_of 332 (by decide +kernel) (by decide +kernel), tt_of 333 (by decide +kernel) (by decide +kernel), tt_of 1 (by decide +kernel) (by decide +kernel), tt_of 334 rfl rfl⟩, rfl, by decide, by decide, by decide +kernel⟩
set_option maxRecDepth 20000 in
theorem m_L_93 : MkV TT R_L 93 y_X_guard R_X b_X_guard 5 (some .int) 3 := ⟨⟨tt_of 335 (by decide +kernel) (by decide +kernel), tt_of 336 (by decide +kernel) (by decide +kernel), tt_of 337 (by decide +kernel) (by decide +kernel), tt_of 1 (by decide +kernel) (by decide +kernel), tt_of 338 rfl rfl⟩, rfl, by decide, by decide, by decide +kernel⟩
set_option maxRecDepth 20000 in
theorem m_L_9 : MkS TT R_L 9 y_L_cell b_L_cell 2 (some .int) 2 := ⟨⟨tt_of 339 (by decide +kernel) (by decide +kernel), tt_of 340 (by decide +kernel) (by decide +kernel), tt_of 0 (by decide +kernel) (by decide +kernel), tt_of 341 rfl rfl⟩, rfl, by decide, by decide, by decide +kernel⟩
set_option maxRecDepth 20000 in
theorem m_L_20 : MkI TT R_L 20 y_M_init b_M_init 3 1 := ⟨⟨tt_of 344 (by decide +kernel) (by decide +kernel), tt_of 345 (by decide +kernel) (by decide +kernel), tt_of 5 (by decide +kernel) (by decide +kernel), tt_of 346 rfl rfl⟩, rfl, by decide, by decide, by decide +kernel⟩
set_option maxRecDepth 20000 in
theorem f_M_49 : Fk clX TT R_M 49 4 0 true (.int) := ⟨R_M, F_M, 15, t_M, rfl, u_M, by decide, tt_of 348 (by decide +kernel) (by decide +kernel), rfl, by decide +kernel, t_M_ok, n_M⟩
set_option maxRecDepth 20000 in
theorem f_M_7 : Fk clX TT R_M 7 4 1 true (.array .int) := ⟨R_M, F_M, 15, t_M, rfl, u_M, by decide, tt_of 349 (by decide +kernel) (by decide +kernel), rfl, by decide +kernel, t_M_ok, n_M⟩
set_option maxRecDepth 20000 in
theorem f_M_13 : Fk clX TT R_M 13 4 2 true (.array .int) := ⟨R_M, F_M, 15, t_M, rfl, u_M, by decide, tt_of 350 (by decide +kernel) (by decide +kernel), rfl, by decide +kernel, t_M_ok, n_M⟩
set_option maxRecDepth 20000 in
theorem f_M_16 : Fk clX TT R_M 16 4 3 true (.array .int) := ⟨R_M, F_M, 15, t_M, rfl, u_M, by decide, tt_of 351 (by decide +kernel) (by decide +kernel), rfl, by decide +kernel, t_M_ok, n_M⟩
set_option maxRecDepth 20000 in
theorem f_M_19 : Fk clX TT R_M 19 4 4 true (.array .int) := ⟨R_M, F_M, 15, t_M, rfl, u_M, by decide, tt_of 352 (by decide +kernel) (by decide +kernel), rfl, by decide +kernel, t_M_ok, n_M⟩
set_option maxRecDepth 20000 in
theorem f_M_75 : Fk clX TT R_M 75 4 5 false (.int) := ⟨R_M, F_M, 15, t_M, rfl, u_M, by decide, tt_of 353 (by decide +kernel) (by decide +kernel), rfl, by decide +kernel, t_M_ok, n_M⟩
set_option maxRecDepth 20000 in
theorem f_M_22 : Fk clX TT R_M 22 4 6 true (.array .int) := ⟨R_M, F_M, 15, t_M, rfl, u_M, by decide, tt_of 354 (by decide +kernel) (by decide +kernel), rfl, by decide +kernel, t_M_ok, n_M⟩
set_option maxRecDepth 20000 in
theorem f_M_25 : Fk clX TT R_M 25 4 7 true (.array .int) := ⟨R_M, F_M, 15, t_M, rfl, u_M, by decide, tt_of 355 (by decide +kernel) (by decide +kernel), rfl, by decide +kernel, t_M_ok, n_M⟩
set_option maxRecDepth 20000 in
theorem f_M_28 : Fk clX TT R_M 28 4 8 true (.array .int) := ⟨R_M, F_M, 15, t_M, rfl, u_M, by decide, tt_of 356 (by decide +kernel) (by decide +kernel), rfl, by decide +kernel, t_M_ok, n_M⟩
set_option maxRecDepth 20000 in
theorem f_M_31 : Fk clX TT R_M 31 4 9 true (.array .int) := ⟨R_M, F_M, 15, t_M, rfl, u_M, by decide, tt_of 357 (by decide +kernel) (by decide +kernel), rfl, by decide +kernel, t_M_ok, n_M⟩
set_option maxRecDepth 20000 in
theorem f_M_34 : Fk clX TT R_M 34 4 10 true (.array .int) := ⟨R_M, F_M, 15, t_M, rfl, u_M, by decide, tt_of 358 (by decide +kernel) (by decide +kernel), rfl, by decide +kernel, t_M_ok, n_M⟩
set_option maxRecDepth 20000 in
theorem f_M_37 : Fk clX TT R_M 37 4 11 true (.array .int) := ⟨R_M, F_M, 15, t_M, rfl, u_M, by decide, tt_of 359 (by decide +kernel) (by decide +kernel), rfl, by decide +kernel, t_M_ok, n_M⟩
set_option maxRecDepth 20000 in
theorem f_M_40 : Fk clX TT R_M 40 4 12 true (.array .int) := ⟨R_M, F_M, 15, t_M, rfl, u_M, by decide, tt_of 360 (by decide +kernel) (by decide +kernel), rfl, by decide +kernel, t_M_ok, n_M⟩
set_option maxRecDepth 20000 in
theorem f_M_43 : Fk clX TT R_M 43 4 13 true (.array .int) := ⟨R_M, F_M, 15, t_M, rfl, u_M, by decide, tt_of 361 (by decide +kernel) (by decide +kernel), rfl, by decide +kernel, t_M_ok, n_M⟩
set_option maxRecDepth 20000 in
theorem f_M_46 : Fk clX TT R_M 46 4 14 true (.array .int) := ⟨R_M, F_M, 15, t_M, rfl, u_M, by decide, tt_of 362 (by decide +kernel) (by decide +kernel), rfl, by decide +kernel, t_M_ok, n_M⟩
set_option maxRecDepth 20000 in
theorem m_L_25 : MkV TT R_L 25 y_M_load R_M b_M_load 3 (some .long) 2 := ⟨⟨tt_of 394 (by decide +kernel) (by decide +kernel), tt_of 395 (by decide +kernel) (by decide +kernel), tt_of 396 (by decide +kernel) (by decide +kernel), tt_of 5 (by decide +kernel) (by decide +kernel), tt_of 397 rfl rfl⟩, rfl, by decide, by decide, by decide +kernel⟩
set_option maxRecDepth 20000 in
theorem m_M_66 : MkV TT R_M 66 y_M_busy R_M b_M_busy 2 (some .boolean) 1 := ⟨⟨tt_of 398 (by decide +kernel) (by decide +kernel), tt_of 400 (by decide +kernel) (by decide +kernel), ts_of (q := (y_M_busy, 15)) 21 (by decide +kernel) (by decide +kernel), tt_of 5 (by decide +kernel) (by decide +kernel), tt_of 401 rfl rfl⟩, rfl, by decide, by decide, by decide +kernel⟩
set_option maxRecDepth 20000 in
theorem m_M_58 : MkS TT R_M 58 y_M_processor b_M_processor 1 (some .boolean) 1 := ⟨⟨tt_of 402 (by decide +kernel) (by decide +kernel), tt_of 403 (by decide +kernel) (by decide +kernel), tt_of 5 (by decide +kernel) (by decide +kernel), tt_of 404 rfl rfl⟩, rfl, by decide, by decide, by decide +kernel⟩
set_option maxRecDepth 20000 in
theorem k_M_69 : Cond.constantLong R_M 69 1099511627776 ∈ TT := tt_of 405 (by decide +kernel) (by decide +kernel)
set_option maxRecDepth 20000 in
theorem m_M_71 : MkV TT R_M 71 y_M_allowed R_M b_M_allowed 5 (some .boolean) 3 := ⟨⟨tt_of 406 (by decide +kernel) (by decide +kernel), tt_of 408 (by decide +kernel) (by decide +kernel), ts_of (q := (y_M_allowed, 15)) 22 (by decide +kernel) (by decide +kernel), tt_of 5 (by decide +kernel) (by decide +kernel), tt_of 409 rfl rfl⟩, rfl, by decide, by decide, by decide +kernel⟩
set_option maxRecDepth 20000 in
theorem m_M_62 : MkV TT R_M 62 y_M_isShared R_M b_M_isShared 4 (some .boolean) 2 := ⟨⟨tt_of 410 (by decide +kernel) (by decide +kernel), tt_of 412 (by decide +kernel) (by decide +kernel), ts_of (q := (y_M_isShared, 15)) 23 (by decide +kernel) (by decide +kernel), tt_of 5 (by decide +kernel) (by decide +kernel), tt_of 413 rfl rfl⟩, rfl, by decide, by decide, by decide +kernel⟩
set_option maxRecDepth 20000 in
theorem k_M_78 : Cond.constantLong R_M 78 1099511627777 ∈ TT := tt_of 414 (by decide +kernel) (by decide +kernel)
set_option maxRecDepth 20000 in
theorem m_L_30 : MkV TT R_L 30 y_M_store R_M b_M_store 4 (some .int) 3 := ⟨⟨tt_of 415 (by decide +kernel) (by decide +kernel), tt_of 416 (by decide +kernel) (by decide +kernel), tt_of 417 (by decide +kernel) (by decide +kernel), tt_of 5 (by decide +kernel) (by decide +kernel), tt_of 418 rfl rfl⟩, rfl, by decide, by decide, by decide +kernel⟩
set_option maxRecDepth 20000 in
theorem m_L_35 : MkV TT R_L 35 y_M_denied R_M b_M_denied 1 (some .int) 0 := ⟨⟨tt_of 419 (by decide +kernel) (by decide +kernel), tt_of 420 (by decide +kernel) (by decide +kernel), tt_of 421 (by decide +kernel) (by decide +kernel), tt_of 5 (by decide +kernel) (by decide +kernel), tt_of 422 rfl rfl⟩, rfl, by decide, by decide, by decide +kernel⟩
set_option maxRecDepth 20000 in
theorem m_L_40 : MkV TT R_L 40 y_M_give R_M b_M_give 4 (some .boolean) 3 := ⟨⟨tt_of 423 (by decide +kernel) (by decide +kernel), tt_of 424 (by decide +kernel) (by decide +kernel), tt_of 425 (by decide +kernel) (by decide +kernel), tt_of 5 (by decide +kernel) (by decide +kernel), tt_of 426 rfl rfl⟩, rfl, by decide, by decide, by decide +kernel⟩
set_option maxRecDepth 20000 in
theorem m_L_44 : MkV TT R_L 44 y_M_register R_M b_M_register 3 (some .long) 2 := ⟨⟨tt_of 427 (by decide +kernel) (by decide +kernel), tt_of 428 (by decide +kernel) (by decide +kernel), tt_of 429 (by decide +kernel) (by decide +kernel), tt_of 5 (by decide +kernel) (by decide +kernel), tt_of 430 rfl rfl⟩, rfl, by decide, by decide, by decide +kernel⟩
set_option maxRecDepth 20000 in
theorem m_L_49 : MkV TT R_L 49 y_M_create R_M b_M_create 8 (some .int) 5 := ⟨⟨tt_of 431 (by decide +kernel) (by decide +kernel), tt_of 432 (by decide +kernel) (by decide +kernel), tt_of 433 (by decide +kernel) (by decide +kernel), tt_of 5 (by decide +kernel) (by decide +kernel), tt_of 434 rfl rfl⟩, rfl, by decide, by decide, by decide +kernel⟩
set_option maxRecDepth 20000 in
theorem m_M_80 : MkV TT R_M 80 y_M_wrongRange R_M b_M_wrongRange 5 (some .boolean) 4 := ⟨⟨tt_of 435 (by decide +kernel) (by decide +kernel), tt_of 437 (by decide +kernel) (by decide +kernel), ts_of (q := (y_M_wrongRange, 15)) 24 (by decide +kernel) (by decide +kernel), tt_of 5 (by decide +kernel) (by decide +kernel), tt_of 438 rfl rfl⟩, rfl, by decide, by decide, by decide +kernel⟩
set_option maxRecDepth 20000 in
theorem m_M_84 : MkV TT R_M 84 y_M_measure R_M b_M_measure 6 (some .int) 3 := ⟨⟨tt_of 439 (by decide +kernel) (by decide +kernel), tt_of 441 (by decide +kernel) (by decide +kernel), ts_of (q := (y_M_measure, 15)) 25 (by decide +kernel) (by decide +kernel), tt_of 5 (by decide +kernel) (by decide +kernel), tt_of 442 rfl rfl⟩, rfl, by decide, by decide, by decide +kernel⟩
set_option maxRecDepth 20000 in
theorem m_M_54 : MkS TT R_M 54 y_M_mix b_M_mix 3 (some .int) 2 := ⟨⟨tt_of 443 (by decide +kernel) (by decide +kernel), tt_of 444 (by decide +kernel) (by decide +kernel), tt_of 5 (by decide +kernel) (by decide +kernel), tt_of 445 rfl rfl⟩, rfl, by decide, by decide, by decide +kernel⟩
set_option maxRecDepth 20000 in
theorem k_M_53 : Cond.constant R_M 53 668265263 ∈ TT := tt_of 446 (by decide +kernel) (by decide +kernel)
set_option maxRecDepth 20000 in
theorem m_L_53 : MkV TT R_L 53 y_M_run R_M b_M_run 5 (some .int) 3 := ⟨⟨tt_of 447 (by decide +kernel) (by decide +kernel), tt_of 448 (by decide +kernel) (by decide +kernel), tt_of 449 (by decide +kernel) (by decide +kernel), tt_of 5 (by decide +kernel) (by decide +kernel), tt_of 450 rfl rfl⟩, rfl, by decide, by decide, by decide +kernel⟩
set_option maxRecDepth 20000 in
theorem m_M_88 : MkV TT R_M 88 y_M_there R_M b_M_there 2 (some .boolean) 1 := ⟨⟨tt_of 451 (by decide +kernel) (by decide +kernel), tt_of 453 (by decide +kernel) (by decide +kernel), ts_of (q := (y_M_there, 15)) 26 (by decide +kernel) (by decide +kernel), tt_of 5 (by decide +kernel) (by decide +kernel), tt_of 454 rfl rfl⟩, rfl, by decide, by decide, by decide +kernel⟩
set_option maxRecDepth 20000 in
theorem m_L_58 : MkV TT R_L 58 y_M_step R_M b_M_step 4 (some .int) 2 := ⟨⟨tt_of 455 (by decide +kernel) (by decide +kernel), tt_of 456 (by decide +kernel) (by decide +kernel), tt_of 457 (by decide +kernel) (by decide +kernel), tt_of 5 (by decide +kernel) (by decide +kernel), tt_of 458 rfl rfl⟩, rfl, by decide, by decide, by decide +kernel⟩
set_option maxRecDepth 20000 in
theorem m_M_106 : MkV TT R_M 106 y_M_once R_M b_M_once 10 none 1 := ⟨⟨tt_of 459 (by decide +kernel) (by decide +kernel), tt_of 461 (by decide +kernel) (by decide +kernel), ts_of (q := (y_M_once, 15)) 27 (by decide +kernel) (by decide +kernel), tt_of 5 (by decide +kernel) (by decide +kernel), tt_of 462 rfl rfl⟩, rfl, by decide, by decide, by decide +kernel⟩
set_option maxRecDepth 20000 in
theorem m_M_95 : MkV TT R_M 95 y_M_end R_M b_M_end 4 none 3 := ⟨⟨tt_of 463 (by decide +kernel) (by decide +kernel), tt_of 465 (by decide +kernel) (by decide +kernel), ts_of (q := (y_M_end, 15)) 28 (by decide +kernel) (by decide +kernel), tt_of 5 (by decide +kernel) (by decide +kernel), tt_of 466 rfl rfl⟩, rfl, by decide, by decide, by decide +kernel⟩
set_option maxRecDepth 20000 in
theorem m_M_91 : MkV TT R_M 91 y_M_leave R_M b_M_leave 3 none 2 := ⟨⟨tt_of 467 (by decide +kernel) (by decide +kernel), tt_of 469 (by decide +kernel) (by decide +kernel), ts_of (q := (y_M_leave, 15)) 29 (by decide +kernel) (by decide +kernel), tt_of 5 (by decide +kernel) (by decide +kernel), tt_of 470 rfl rfl⟩, rfl, by decide, by decide, by decide +kernel⟩
set_option maxRecDepth 20000 in
theorem m_M_99 : MkV TT R_M 99 y_M_work R_M b_M_work 8 none 6 := ⟨⟨tt_of 471 (by decide +kernel) (by decide +kernel), tt_of 473 (by decide +kernel) (by decide +kernel), ts_of (q := (y_M_work, 15)) 30 (by decide +kernel) (by decide +kernel), tt_of 5 (by decide +kernel) (by decide +kernel), tt_of 474 rfl rfl⟩, rfl, by decide, by decide, by decide +kernel⟩
set_option maxRecDepth 20000 in
theorem m_M_103 : MkV TT R_M 103 y_M_proof R_M b_M_proof 4 (some .int) 2 := ⟨⟨tt_of 475 (by decide +kernel) (by decide +kernel), tt_of 477 (by decide +kernel) (by decide +kernel), ts_of (q := (y_M_proof, 15)) 31 (by decide +kernel) (by decide +kernel), tt_of 5 (by decide +kernel) (by decide +kernel), tt_of 478 rfl rfl⟩, rfl, by decide, by decide, by decide +kernel⟩
set_option maxRecDepth 20000 in
theorem m_L_63 : MkV TT R_L 63 y_M_interrupt R_M b_M_interrupt 3 (some .int) 1 := ⟨⟨tt_of 479 (by decide +kernel) (by decide +kernel), tt_of 480 (by decide +kernel) (by decide +kernel), tt_of 481 (by decide +kernel) (by decide +kernel), tt_of 5 (by decide +kernel) (by decide +kernel), tt_of 482 rfl rfl⟩, rfl, by decide, by decide, by decide +kernel⟩
set_option maxRecDepth 20000 in
theorem m_L_67 : MkV TT R_L 67 y_M_destroy R_M b_M_destroy 4 (some .int) 2 := ⟨⟨tt_of 483 (by decide +kernel) (by decide +kernel), tt_of 484 (by decide +kernel) (by decide +kernel), tt_of 485 (by decide +kernel) (by decide +kernel), tt_of 5 (by decide +kernel) (by decide +kernel), tt_of 486 rfl rfl⟩, rfl, by decide, by decide, by decide +kernel⟩
set_option maxRecDepth 20000 in
theorem m_L_71 : MkV TT R_L 71 y_M_state R_M b_M_state 2 (some .int) 1 := ⟨⟨tt_of 487 (by decide +kernel) (by decide +kernel), tt_of 488 (by decide +kernel) (by decide +kernel), tt_of 489 (by decide +kernel) (by decide +kernel), tt_of 5 (by decide +kernel) (by decide +kernel), tt_of 490 rfl rfl⟩, rfl, by decide, by decide, by decide +kernel⟩
set_option maxRecDepth 20000 in
theorem m_L_76 : MkV TT R_L 76 y_M_released R_M b_M_released 2 (some .long) 1 := ⟨⟨tt_of 491 (by decide +kernel) (by decide +kernel), tt_of 492 (by decide +kernel) (by decide +kernel), tt_of 493 (by decide +kernel) (by decide +kernel), tt_of 5 (by decide +kernel) (by decide +kernel), tt_of 494 rfl rfl⟩, rfl, by decide, by decide, by decide +kernel⟩
set_option maxRecDepth 20000 in
theorem m_L_80 : MkV TT R_L 80 y_M_measurement R_M b_M_measurement 2 (some .long) 1 := ⟨⟨tt_of 495 (by decide +kernel) (by decide +kernel), tt_of 496 (by decide +kernel) (by decide +kernel), tt_of 497 (by decide +kernel) (by decide +kernel), tt_of 5 (by decide +kernel) (by decide +kernel), tt_of 498 rfl rfl⟩, rfl, by decide, by decide, by decide +kernel⟩
set_option maxRecDepth 20000 in
theorem m_L_84 : MkV TT R_L 84 y_M_verify R_M b_M_verify 4 (some .boolean) 3 := ⟨⟨tt_of 499 (by decide +kernel) (by decide +kernel), tt_of 500 (by decide +kernel) (by decide +kernel), tt_of 501 (by decide +kernel) (by decide +kernel), tt_of 5 (by decide +kernel) (by decide +kernel), tt_of 502 rfl rfl⟩, rfl, by decide, by decide, by decide +kernel⟩
set_option maxRecDepth 20000 in
theorem m_L_88 : MkV TT R_L 88 y_M_running R_M b_M_running 2 (some .int) 1 := ⟨⟨tt_of 503 (by decide +kernel) (by decide +kernel), tt_of 504 (by decide +kernel) (by decide +kernel), tt_of 505 (by decide +kernel) (by decide +kernel), tt_of 5 (by decide +kernel) (by decide +kernel), tt_of 506 rfl rfl⟩, rfl, by decide, by decide, by decide +kernel⟩
set_option maxRecDepth 20000 in
theorem m_L_92 : MkV TT R_L 92 y_M_owner R_M b_M_owner 2 (some .int) 1 := ⟨⟨tt_of 507 (by decide +kernel) (by decide +kernel), tt_of 508 (by decide +kernel) (by decide +kernel), tt_of 509 (by decide +kernel) (by decide +kernel), tt_of 5 (by decide +kernel) (by decide +kernel), tt_of 510 rfl rfl⟩, rfl, by decide, by decide, by decide +kernel⟩
set_option maxRecDepth 20000 in
theorem m_L_96 : MkV TT R_L 96 y_M_guard R_M b_M_guard 10 (some .int) 3 := ⟨⟨tt_of 511 (by decide +kernel) (by decide +kernel), tt_of 512 (by decide +kernel) (by decide +kernel), tt_of 513 (by decide +kernel) (by decide +kernel), tt_of 5 (by decide +kernel) (by decide +kernel), tt_of 514 rfl rfl⟩, rfl, by decide, by decide, by decide +kernel⟩
set_option maxRecDepth 20000 in
theorem m_M_110 : MkS TT R_M 110 y_M_shown b_M_shown 4 (some .int) 4 := ⟨⟨tt_of 515 (by decide +kernel) (by decide +kernel), tt_of 516 (by decide +kernel) (by decide +kernel), tt_of 5 (by decide +kernel) (by decide +kernel), tt_of 517 rfl rfl⟩, rfl, by decide, by decide, by decide +kernel⟩
end
section
-- ===== the layout of the class's cells, in the order of their making =====
abbrev St : Type := Nat → Nat → Int32
def flX : List (Option Nat) := [none, some 1, some 2, some 12, some 3, none]
def flG : List (Option Nat) := [none, none, none]
def flP (i : Nat) : List (Option Nat) := [some (i + 1), some (i + 2), none]
def flE (i : Nat) : List (Option Nat) := [some (i + 1), none, none, none, none, none, none, none, none]
def lyX (i : Nat) : ly_C :=
  if i = 0 then .inl (0, flX) else if i = 1 then .inr (.inl 256) else if i = 2 then .inr (.inl 16) else if i = 3 then .inr (.inr (2, 4, 4, 2))
  else if i < 12 then (if i % 2 = 0 then .inl (3, flE i) else .inr (.inl 8)) else if i = 12 then .inr (.inr (1, 2, 13, 14))
  else if (i - 13) % 14 = 0 then .inl (2, flP i) else if (i - 13) % 14 = 1 then .inr (.inl 8) else if (i - 13) % 14 = 2 then .inr (.inr (3, 11, i + 1, 1)) else .inl (1, flG)
abbrev CtX (l : Launch) (D : va_G) (ad : Nat → Nat) (ca : Nat → ClassId) (x : va_W) (y : MethodName) (cc : ByteArray) (nL : Nat) (ret : Option FieldType) (d : Nat) (as : List Value) (S S' : St) (v : Option Value) : Prop := Ct l clX (tyX ca) TT D y cc nL ret (rmd d) as (ly_w lyX 41 ad ca S x) (ly_w lyX 41 ad ca S' x) v
theorem lo_this : LyO lyX 41 0 0 flX := ⟨by decide, rfl⟩
theorem li_mem : LyI lyX 41 1 256 := ⟨by decide, rfl, by decide⟩
theorem li_own : LyI lyX 41 2 16 := ⟨by decide, rfl, by decide⟩
theorem lr_en : LyR lyX 41 3 2 4 4 2 := ⟨by decide, rfl, by decide⟩
theorem lr_pr : LyR lyX 41 12 1 2 13 14 := ⟨by decide, rfl, by decide⟩
def ly_eq (a b : ly_C) : Bool := match a, b with
  | .inl (c, l), .inl (c', l') => c == c' && l == l'
  | .inr (.inl n), .inr (.inl n') => n == n'
  | .inr (.inr (a, b, c, d)), .inr (.inr (a', b', c', d')) => a == a' && (b == b' && (c == c' && d == d'))
  | _, _ => false
theorem ly_eq_iff {u v : ly_C} : ly_eq u v = true ↔ u = v := by
  rcases u with ⟨c, l⟩ | n | ⟨a, b, c, d⟩ <;> rcases v with ⟨c', l'⟩ | n' | ⟨a', b', c', d'⟩ <;> simp [ly_eq]
theorem lo_en_all : ∀ e, e < 4 → (decide (4 + 2 * e < 41) && ly_eq (lyX (4 + 2 * e)) (.inl (3, flE (4 + 2 * e)))) = true := by decide
theorem ly_two {p : Bool} {a b : ly_C} {P : Prop} (hp : p = true → P) (h : (p && ly_eq a b) = true) : P ∧ a = b := by
  rw [Bool.and_eq_true] at h
  exact ⟨hp h.1, ly_eq_iff.mp h.2⟩
theorem lo_en {e : Nat} (h : e < 4) : LyO lyX 41 (4 + 2 * e) 3 (flE (4 + 2 * e)) := ly_two (by simp) (lo_en_all e h)
theorem lo_pr_all : ∀ p, p < 2 → (decide (13 + 14 * p < 41) && ly_eq (lyX (13 + 14 * p)) (.inl (2, flP (13 + 14 * p)))) = true := by decide
theorem lo_pr {p : Nat} (h : p < 2) : LyO lyX 41 (13 + 14 * p) 2 (flP (13 + 14 * p)) := ly_two (by simp) (lo_pr_all p h)
theorem li_er_all : ∀ i, i < 41 → ly_eq (lyX i) (.inl (3, flE i)) = true → (decide (i + 1 < 41) && ly_eq (lyX (i + 1)) (.inr (.inl 8))) = true := by decide +kernel
theorem li_er {i : Nat} (L : LyO lyX 41 i 3 (flE i)) : LyI lyX 41 (i + 1) 8 := by
  obtain ⟨h1, h2⟩ := ly_two (P := i + 1 < 41) (by simp) (li_er_all i L.1 (ly_eq_iff.mpr L.2))
  exact ⟨h1, h2, by decide⟩
theorem li_rg_all : ∀ i, i < 41 → ly_eq (lyX i) (.inl (2, flP i)) = true → (decide (i + 1 < 41) && ly_eq (lyX (i + 1)) (.inr (.inl 8))) = true := by decide +kernel
theorem li_rg {i : Nat} (L : LyO lyX 41 i 2 (flP i)) : LyI lyX 41 (i + 1) 8 := by
  obtain ⟨h1, h2⟩ := ly_two (P := i + 1 < 41) (by simp) (li_rg_all i L.1 (ly_eq_iff.mpr L.2))
  exact ⟨h1, h2, by decide⟩
theorem lr_gd_all : ∀ i, i < 41 → ly_eq (lyX i) (.inl (2, flP i)) = true → (decide (i + 2 < 41) && ly_eq (lyX (i + 2)) (.inr (.inr (3, 11, i + 3, 1)))) = true := by decide +kernel
theorem lr_gd {i : Nat} (L : LyO lyX 41 i 2 (flP i)) : LyR lyX 41 (i + 2) 3 11 (i + 3) 1 := by
  obtain ⟨h1, h2⟩ := ly_two (P := i + 2 < 41) (by simp) (lr_gd_all i L.1 (ly_eq_iff.mpr L.2))
  exact ⟨h1, h2, by decide⟩
theorem lo_gd_all : ∀ i, i < 41 → ly_eq (lyX i) (.inl (2, flP i)) = true → ∀ k, k < 11 → (decide (i + 3 + 1 * k < 41) && ly_eq (lyX (i + 3 + 1 * k)) (.inl (1, flG))) = true := by decide +kernel
theorem lo_gd {i k : Nat} (L : LyO lyX 41 i 2 (flP i)) (hk : k < 11) : LyO lyX 41 (i + 3 + 1 * k) 1 flG := ly_two (by simp) (lo_gd_all i L.1 (ly_eq_iff.mpr L.2) k hk)
-- ===== what the class's methods answer and do, as functions of the ints S =====
def inr (z n : Int32) : Bool := !decide (z < 0) && !decide (n ≤ z)
theorem inr_ex {z n : Int32} {k : Nat} (hk : k < 2 ^ 31) (hn : nI k = n) (h : inr z n = true) : ∃ j, j < k ∧ z = nI j := by
  subst hn
  simp only [inr, Bool.and_eq_true, Bool.not_eq_true', decide_eq_false_iff_not] at h
  rcases pk_ix z hk with h1 | h1 | h1
  · exact absurd h1 h.1
  · exact absurd h1 h.2
  · exact h1
theorem inr_z {z n : Int32} (h : inr z n = true) : z = nI z.toNatClampNeg := by
  simp only [inr, Bool.and_eq_true, Bool.not_eq_true', decide_eq_false_iff_not] at h
  obtain ⟨j, hj, rfl⟩ := nI_of h.1
  rw [nI_clamp hj]
theorem inr_j {z n : Int32} {k : Nat} (hn : nI k = n) (hk : k < 2 ^ 31) (h : inr z n = true) : z.toNatClampNeg < k := by
  obtain ⟨j, hj, rfl⟩ := inr_ex hk hn h
  rw [nI_clamp (by omega)]
  exact hj
theorem inr_nI {j k : Nat} (h : j < k) (hk : k < 2 ^ 31) : inr (nI j) (nI k) = true := by
  simp [inr, nI_pos (show j < 2 ^ 31 by omega), nI_ge h hk]
def shS (z : Int32) : Bool := !decide (z < -1) && !decide (271 < z)
def onP (a f n : Int32) : Bool := !decide (a < f * 16) && !decide ((f + n) * 16 ≤ a)
def arP (f n : Int32) : Bool := !decide (n < 1) && (!decide (8 < n) && (inr f 16 && inr (f + n - 1) 16))
def mixR (a b : Int32) : Int32 := ((31 * a ^^^ b) * 668265263) ^^^ ((((31 * a ^^^ b) * 668265263)).toUInt32 >>> ((15 : Int32).toUInt32 &&& Int32.toUInt32 31)).toInt32
theorem mix_ex : ∃ g : Int32 → Int32 → Int32, ∀ a b, g a b = mixR a b := ⟨mixR, fun _ _ => rfl⟩
/-- the mixing function, closed: nothing unfolds it -/
noncomputable def mixI : Int32 → Int32 → Int32 := Classical.choose mix_ex
theorem mixI_eq (a b : Int32) : mixI a b = mixR a b := Classical.choose_spec mix_ex a b
def busyS (S : St) (q : Int32) : Bool := !inr q 2 || !decide (S (13 + 14 * q.toNatClampNeg) 2 = -1)
def runsS (S : St) (q : Int32) : Bool := inr q 2 && !decide (S (13 + 14 * q.toNatClampNeg) 2 = -1)
def thrS (S : St) (e : Int32) : Bool := inr e 4 && !decide (S (4 + 2 * e.toNatClampNeg) 1 = 0)
theorem busy_in {S : St} {q : Int32} (h : busyS S q = false) : inr q 2 = true := by
  simp only [busyS, Bool.or_eq_false_iff] at h
  simpa using h.1
theorem busy_no {S : St} {q : Int32} (h : busyS S q = false) : S (13 + 14 * q.toNatClampNeg) 2 = -1 := by
  simp only [busyS, Bool.or_eq_false_iff] at h
  simpa using h.2
theorem runs_in {S : St} {q : Int32} (h : runsS S q = true) : inr q 2 = true := by
  simp only [runsS, Bool.and_eq_true] at h
  exact h.1
theorem runs_no {S : St} {q : Int32} (h : runsS S q = true) : ¬ S (13 + 14 * q.toNatClampNeg) 2 = -1 := by
  simp only [runsS, Bool.and_eq_true] at h
  simpa using h.2
theorem thr_in {S : St} {e : Int32} (h : thrS S e = true) : inr e 4 = true := by
  simp only [thrS, Bool.and_eq_true] at h
  exact h.1
theorem thr_no {S : St} {e : Int32} (h : thrS S e = true) : ¬ S (4 + 2 * e.toNatClampNeg) 1 = 0 := by
  simp only [thrS, Bool.and_eq_true] at h
  simpa using h.2
-- guards
def sG (S : St) (i : Nat) (m r a : Int32) : St := up2 (up2 (up2 S i 0 m) i 1 r) i 2 a
def sB (S : St) (i : Nat) (f w r : Int32) : St := sG S i 3 r (f + w / 2 - 1)
def gmS (mode addr z b : Int32) : Bool :=
  if mode = 1 then !decide (z < b) && !decide (addr ≤ z) else if mode = 2 then decide (z = addr) else if mode = 3 then decide (z ||| (addr ^^^ (addr + 1)) = addr ||| (addr ^^^ (addr + 1))) else false
-- enclaves
def blkS (f n : Int32) : Bool := decide (n &&& (n - 1) = 0) && decide (f &&& (n - 1) = 0)
def sEnd (S : St) (i : Nat) (t v : Int32) : St := up2 (up2 S i 1 t) i 8 v
def fil (S : St) (c a b : Nat) (v : Int32) : St := fun c' j => if c' = c ∧ a ≤ j ∧ j < b then v else S c' j
theorem fil_nil (S : St) (c a : Nat) (v : Int32) : fil S c a a v = S := by
  funext c' j
  unfold fil
  rw [if_neg (by omega)]
theorem fil_up {S : St} {c a k : Nat} {v : Int32} (h : a ≤ k) : up2 (fil S c a k v) c k v = fil S c a (k + 1) v := by
  funext c' j
  rw [up2_at]
  unfold fil
  by_cases h1 : c' = c ∧ j = k
  · rw [if_pos h1, if_pos ⟨h1.1, by omega, by omega⟩]
  · rw [if_neg h1]
    by_cases h2 : c' = c ∧ a ≤ j ∧ j < k
    · rw [if_pos h2, if_pos ⟨h2.1, h2.2.1, by omega⟩]
    · rw [if_neg h2, if_neg (by omega)]
def sStart (S : St) (i : Nat) (v : Int32) : St := up2 (up2 (fil S (i + 1) 0 8 0) (i + 1) 1 v) i 7 (up2 (fil S (i + 1) 0 8 0) (i + 1) 1 v i 4)

-- pages, owners, measure
def sysP (S : St) : Nat → Nat → Bool
  | _, 0 => true
  | f, n + 1 => decide (S 2 f = 1) && sysP S (f + 1) n
def canP (z : Int32) : Int32 := if z < 256 then z / 16 else z - 256
def canS (S : St) (z f n : Int32) : Bool := decide (z = -1) || (decide (S 2 (canP z).toNatClampNeg = 1) && !(!decide (canP z < f) && !decide (f + n ≤ canP z)))
def lfeS (S : St) : Nat → Nat → Int32
  | _, 0 => -1
  | e, n + 1 => if S (4 + 2 * e) 1 = 0 then nI e else lfeS S (e + 1) n
noncomputable def mfold (f : Nat → Int32) : Nat → Nat → Int32 → Int32
  | 0, _, m => m
  | n + 1, a, m => mfold f n (a + 1) (mixI m (f a))
theorem mfold_succ (f : Nat → Int32) (n a : Nat) (m : Int32) : mfold f (n + 1) a m = mfold f n (a + 1) (mixI m (f a)) := by rw [mfold]
theorem mfold_zero (f : Nat → Int32) (a : Nat) (m : Int32) : mfold f 0 a m = m := by rw [mfold]
noncomputable def meaS (S : St) (i f n : Nat) : Int32 := mfold (S 1) (16 * n) (16 * f) (mixI (S i 3) (S i 4 - S i 2 * 16))
noncomputable def prfS (k m d : Int32) : Int32 := mixI (mixI (mixI k 3) m) d
noncomputable def secS (k m : Int32) : Int32 := mixI (mixI k 7) m
-- may an access be made
def befS (S : St) (i k : Nat) : Int32 := if k = 0 then 0 else S (i + 3 + 1 * (k - 1)) 2
def alG (S : St) (i : Nat) (z r : Int32) : Nat → Nat → Bool
  | 0, _ => false
  | n + 1, k => if gmS (S (i + 3 + 1 * k) 0) (S (i + 3 + 1 * k) 2) z (befS S i k) = true then !decide (S (i + 3 + 1 * k) 1 &&& r = 0) else alG S i z r n (k + 1)
theorem alG_t {S : St} {i n k : Nat} {z r : Int32} (h : gmS (S (i + 3 + 1 * k) 0) (S (i + 3 + 1 * k) 2) z (befS S i k) = true) : alG S i z r (n + 1) k = !decide (S (i + 3 + 1 * k) 1 &&& r = 0) := by rw [alG, if_pos h]
theorem alG_f {S : St} {i n k : Nat} {z r : Int32} (h : gmS (S (i + 3 + 1 * k) 0) (S (i + 3 + 1 * k) 2) z (befS S i k) = false) : alG S i z r (n + 1) k = alG S i z r n (k + 1) := by rw [alG, if_neg (by rw [h]; decide)]
def alw (S : St) (i : Nat) (z r : Int32) : Bool := inr z 256 && alG S i z r 11 0
theorem alw_in {S : St} {i : Nat} {z r : Int32} (h : alw S i z r = true) : inr z 256 = true := by
  simp only [alw, Bool.and_eq_true] at h
  exact h.1
-- the guards set
def sEG (S : St) (i lo up : Nat) (r : Int32) : St :=
  if S i 1 = 0 then sG (sG S lo 0 0 0) up 0 0 0
  else if blkS (S i 2) (S i 3) = true then sB (sG S lo 0 0 0) up (sG S lo 0 0 0 i 2 * 16) ((sG S lo 0 0 0 i 2 + sG S lo 0 0 0 i 3) * 16 - sG S lo 0 0 0 i 2 * 16) r
  else sG (sG S lo 0 0 (S i 2 * 16)) up 1 r ((sG S lo 0 0 (S i 2 * 16) i 2 + sG S lo 0 0 (S i 2 * 16) i 3) * 16)
def sGe (S : St) (i e : Nat) : St := sEG S (4 + 2 * e) (i + 3 + 1 * (1 + 2 * e)) (i + 3 + 1 * (2 + 2 * e)) (if S i 2 = nI e then 7 else 0)
def gLoop (i : Nat) : Nat → Nat → St → St
  | 0, _, S => S
  | n + 1, e, S => gLoop i n (e + 1) (sGe S i e)
def shV (S : St) (i : Nat) : Int32 := if S i 2 = -1 then -1 else S (4 + 2 * (S i 2).toNatClampNeg) 5
def sSh (S : St) (i : Nat) : St :=
  if shV S i = -1 then sG S (i + 3 + 1 * 9) 0 0 0 else if 256 ≤ shV S i then sB S (i + 3 + 1 * 9) ((shV S i - 256) * 16) 16 3 else sG S (i + 3 + 1 * 9) 2 3 (shV S i)
def sGs (S : St) (i : Nat) : St :=
  sB (sSh (gLoop i 4 0 (sB S (i + 3 + 1 * 0) 0 16 0)) i) (i + 3 + 1 * 10) 0 256 (if sSh (gLoop i 4 0 (sB S (i + 3 + 1 * 0) 0 16 0)) i i 2 = -1 then 7 else 0)
def sAll (S : St) : St := sGs (sGs S (13 + 14 * 0)) (13 + 14 * 1)
end
section
set_option maxHeartbeats 4000000 in
set_option maxRecDepth 100000 in
theorem c_X_isProcessor {l : Launch} {D : va_G} {ad : Nat → Nat} {ca : Nat → ClassId} {x : va_W} {S : St} {z : Int32}  : CtX l D ad ca x y_X_isProcessor b_X_isProcessor 1 (some .boolean) 0 [.int z] S S (some (.int (b2i (inr z 2)))) := by
  refine ev_ent [some (.int z)] rfl (by decide) (Nat.le_of_ble_eq_true rfl) rfl gTT (fun p e s m args below meth c A X hr hk => ?_)
  refine ev_iload_n X d_X_isProcessor_0 rfl ?_
  refine ev_if_lt (tgt := 13) X d_X_isProcessor_1 (by decide) (fun h1 => ?_) (fun h1 => ?_)
  · refine ev_iconst (v := 0) X d_X_isProcessor_13 (by decide) ?_
    exact ev_zretL X hr hk d_X_isProcessor_14 (by simp [inr, b2i, h1]) (rfl)
  · refine ev_iload_n X d_X_isProcessor_4 rfl ?_
    refine ev_iconst (v := 2) X d_X_isProcessor_5 (by decide) ?_
    refine ev_icmp_ge (tgt := 13) X d_X_isProcessor_6 (by decide) (fun h6 => ?_) (fun h6 => ?_)
    · refine ev_iconst (v := 0) X d_X_isProcessor_13 (by decide) ?_
      exact ev_zretL X hr hk d_X_isProcessor_14 (by simp [inr, b2i, h1, h6]) (rfl)
    · refine ev_iconst (v := 1) X d_X_isProcessor_9 (by decide) ?_
      refine ev_goto (tgt := 14) X d_X_isProcessor_10 (by decide) ?_
      exact ev_zretL X hr hk d_X_isProcessor_14 (by simp [inr, b2i, h1, h6]) (rfl)
set_option maxHeartbeats 4000000 in
set_option maxRecDepth 100000 in
theorem c_X_isRegister {l : Launch} {D : va_G} {ad : Nat → Nat} {ca : Nat → ClassId} {x : va_W} {S : St} {z : Int32}  : CtX l D ad ca x y_X_isRegister b_X_isRegister 1 (some .boolean) 0 [.int z] S S (some (.int (b2i (inr z 8)))) := by
  refine ev_ent [some (.int z)] rfl (by decide) (Nat.le_of_ble_eq_true rfl) rfl gTT (fun p e s m args below meth c A X hr hk => ?_)
  refine ev_iload_n X d_X_isRegister_0 rfl ?_
  refine ev_if_lt (tgt := 14) X d_X_isRegister_1 (by decide) (fun h1 => ?_) (fun h1 => ?_)
  · refine ev_iconst (v := 0) X d_X_isRegister_14 (by decide) ?_
    exact ev_zretL X hr hk d_X_isRegister_15 (by simp [inr, b2i, h1]) (rfl)
  · refine ev_iload_n X d_X_isRegister_4 rfl ?_
    refine ev_bipush (v := 8) X d_X_isRegister_5 (by decide) ?_
    refine ev_icmp_ge (tgt := 14) X d_X_isRegister_7 (by decide) (fun h7 => ?_) (fun h7 => ?_)
    · refine ev_iconst (v := 0) X d_X_isRegister_14 (by decide) ?_
      exact ev_zretL X hr hk d_X_isRegister_15 (by simp [inr, b2i, h1, h7]) (rfl)
    · refine ev_iconst (v := 1) X d_X_isRegister_10 (by decide) ?_
      refine ev_goto (tgt := 15) X d_X_isRegister_11 (by decide) ?_
      exact ev_zretL X hr hk d_X_isRegister_15 (by simp [inr, b2i, h1, h7]) (rfl)
set_option maxHeartbeats 4000000 in
set_option maxRecDepth 100000 in
theorem c_X_isAddress {l : Launch} {D : va_G} {ad : Nat → Nat} {ca : Nat → ClassId} {x : va_W} {S : St} {z : Int32}  : CtX l D ad ca x y_X_isAddress b_X_isAddress 1 (some .boolean) 0 [.int z] S S (some (.int (b2i (inr z 256)))) := by
  refine ev_ent [some (.int z)] rfl (by decide) (Nat.le_of_ble_eq_true rfl) rfl gTT (fun p e s m args below meth c A X hr hk => ?_)
  refine ev_iload_n X d_X_isAddress_0 rfl ?_
  refine ev_if_lt (tgt := 15) X d_X_isAddress_1 (by decide) (fun h1 => ?_) (fun h1 => ?_)
  · refine ev_iconst (v := 0) X d_X_isAddress_15 (by decide) ?_
    exact ev_zretL X hr hk d_X_isAddress_16 (by simp [inr, b2i, h1]) (rfl)
  · refine ev_iload_n X d_X_isAddress_4 rfl ?_
    refine ev_sipush (v := 256) X d_X_isAddress_5 (by decide) ?_
    refine ev_icmp_ge (tgt := 15) X d_X_isAddress_8 (by decide) (fun h8 => ?_) (fun h8 => ?_)
    · refine ev_iconst (v := 0) X d_X_isAddress_15 (by decide) ?_
      exact ev_zretL X hr hk d_X_isAddress_16 (by simp [inr, b2i, h1, h8]) (rfl)
    · refine ev_iconst (v := 1) X d_X_isAddress_11 (by decide) ?_
      refine ev_goto (tgt := 16) X d_X_isAddress_12 (by decide) ?_
      exact ev_zretL X hr hk d_X_isAddress_16 (by simp [inr, b2i, h1, h8]) (rfl)
set_option maxHeartbeats 4000000 in
set_option maxRecDepth 100000 in
theorem c_X_isPage {l : Launch} {D : va_G} {ad : Nat → Nat} {ca : Nat → ClassId} {x : va_W} {S : St} {z : Int32}  : CtX l D ad ca x y_X_isPage b_X_isPage 1 (some .boolean) 0 [.int z] S S (some (.int (b2i (inr z 16)))) := by
  refine ev_ent [some (.int z)] rfl (by decide) (Nat.le_of_ble_eq_true rfl) rfl gTT (fun p e s m args below meth c A X hr hk => ?_)
  refine ev_iload_n X d_X_isPage_0 rfl ?_
  refine ev_if_lt (tgt := 14) X d_X_isPage_1 (by decide) (fun h1 => ?_) (fun h1 => ?_)
  · refine ev_iconst (v := 0) X d_X_isPage_14 (by decide) ?_
    exact ev_zretL X hr hk d_X_isPage_15 (by simp [inr, b2i, h1]) (rfl)
  · refine ev_iload_n X d_X_isPage_4 rfl ?_
    refine ev_bipush (v := 16) X d_X_isPage_5 (by decide) ?_
    refine ev_icmp_ge (tgt := 14) X d_X_isPage_7 (by decide) (fun h7 => ?_) (fun h7 => ?_)
    · refine ev_iconst (v := 0) X d_X_isPage_14 (by decide) ?_
      exact ev_zretL X hr hk d_X_isPage_15 (by simp [inr, b2i, h1, h7]) (rfl)
    · refine ev_iconst (v := 1) X d_X_isPage_10 (by decide) ?_
      refine ev_goto (tgt := 15) X d_X_isPage_11 (by decide) ?_
      exact ev_zretL X hr hk d_X_isPage_15 (by simp [inr, b2i, h1, h7]) (rfl)
set_option maxHeartbeats 4000000 in
set_option maxRecDepth 100000 in
theorem c_X_isEnclaveNumber {l : Launch} {D : va_G} {ad : Nat → Nat} {ca : Nat → ClassId} {x : va_W} {S : St} {z : Int32}  : CtX l D ad ca x y_X_isEnclaveNumber b_X_isEnclaveNumber 1 (some .boolean) 0 [.int z] S S (some (.int (b2i (inr z 4)))) := by
  refine ev_ent [some (.int z)] rfl (by decide) (Nat.le_of_ble_eq_true rfl) rfl gTT (fun p e s m args below meth c A X hr hk => ?_)
  refine ev_iload_n X d_X_isEnclaveNumber_0 rfl ?_
  refine ev_if_lt (tgt := 13) X d_X_isEnclaveNumber_1 (by decide) (fun h1 => ?_) (fun h1 => ?_)
  · refine ev_iconst (v := 0) X d_X_isEnclaveNumber_13 (by decide) ?_
    exact ev_zretL X hr hk d_X_isEnclaveNumber_14 (by simp [inr, b2i, h1]) (rfl)
  · refine ev_iload_n X d_X_isEnclaveNumber_4 rfl ?_
    refine ev_iconst (v := 4) X d_X_isEnclaveNumber_5 (by decide) ?_
    refine ev_icmp_ge (tgt := 13) X d_X_isEnclaveNumber_6 (by decide) (fun h6 => ?_) (fun h6 => ?_)
    · refine ev_iconst (v := 0) X d_X_isEnclaveNumber_13 (by decide) ?_
      exact ev_zretL X hr hk d_X_isEnclaveNumber_14 (by simp [inr, b2i, h1, h6]) (rfl)
    · refine ev_iconst (v := 1) X d_X_isEnclaveNumber_9 (by decide) ?_
      refine ev_goto (tgt := 14) X d_X_isEnclaveNumber_10 (by decide) ?_
      exact ev_zretL X hr hk d_X_isEnclaveNumber_14 (by simp [inr, b2i, h1, h6]) (rfl)
set_option maxHeartbeats 4000000 in
set_option maxRecDepth 100000 in
theorem c_X_isShared {l : Launch} {D : va_G} {ad : Nat → Nat} {ca : Nat → ClassId} {x : va_W} {S : St} {z : Int32}  : CtX l D ad ca x y_X_isShared b_X_isShared 1 (some .boolean) 0 [.int z] S S (some (.int (b2i (shS z)))) := by
  refine ev_ent [some (.int z)] rfl (by decide) (Nat.le_of_ble_eq_true rfl) rfl gTT (fun p e s m args below meth c A X hr hk => ?_)
  refine ev_iload_n X d_X_isShared_0 rfl ?_
  refine ev_iconst (v := (-1)) X d_X_isShared_1 (by decide) ?_
  refine ev_icmp_lt (tgt := 16) X d_X_isShared_2 (by decide) (fun h2 => ?_) (fun h2 => ?_)
  · refine ev_iconst (v := 0) X d_X_isShared_16 (by decide) ?_
    exact ev_zretL X hr hk d_X_isShared_17 (by simp [shS, b2i, h2]) (rfl)
  · refine ev_iload_n X d_X_isShared_5 rfl ?_
    refine ev_sipush (v := 271) X d_X_isShared_6 (by decide) ?_
    refine ev_icmp_gt (tgt := 16) X d_X_isShared_9 (by decide) (fun h9 => ?_) (fun h9 => ?_)
    · refine ev_iconst (v := 0) X d_X_isShared_16 (by decide) ?_
      exact ev_zretL X hr hk d_X_isShared_17 (by simp [shS, b2i, h2, h9]) (rfl)
    · refine ev_iconst (v := 1) X d_X_isShared_12 (by decide) ?_
      refine ev_goto (tgt := 17) X d_X_isShared_13 (by decide) ?_
      exact ev_zretL X hr hk d_X_isShared_17 (by simp [shS, b2i, h2, h9]) (rfl)
set_option maxHeartbeats 4000000 in
set_option maxRecDepth 100000 in
theorem c_X_isOnPages {l : Launch} {D : va_G} {ad : Nat → Nat} {ca : Nat → ClassId} {x : va_W} {S : St} {a f n : Int32}  : CtX l D ad ca x y_X_isOnPages b_X_isOnPages 3 (some .boolean) 0 [.int a, .int f, .int n] S S (some (.int (b2i (onP a f n)))) := by
  refine ev_ent [some (.int a), some (.int f), some (.int n)] rfl (by decide) (Nat.le_of_ble_eq_true rfl) rfl gTT (fun p e s m args below meth c A X hr hk => ?_)
  refine ev_iload_n X d_X_isOnPages_0 rfl ?_
  refine ev_iload_n X d_X_isOnPages_1 rfl ?_
  refine ev_bipush (v := 16) X d_X_isOnPages_2 (by decide) ?_
  refine ev_imul X d_X_isOnPages_4 ?_
  refine ev_icmp_lt (tgt := 22) X d_X_isOnPages_5 (by decide) (fun h5 => ?_) (fun h5 => ?_)
  · refine ev_iconst (v := 0) X d_X_isOnPages_22 (by decide) ?_
    exact ev_zretL X hr hk d_X_isOnPages_23 (by simp [onP, b2i, h5]) (rfl)
  · refine ev_iload_n X d_X_isOnPages_8 rfl ?_
    refine ev_iload_n X d_X_isOnPages_9 rfl ?_
    refine ev_iload_n X d_X_isOnPages_10 rfl ?_
    refine ev_iadd X d_X_isOnPages_11 ?_
    refine ev_bipush (v := 16) X d_X_isOnPages_12 (by decide) ?_
    refine ev_imul X d_X_isOnPages_14 ?_
    refine ev_icmp_ge (tgt := 22) X d_X_isOnPages_15 (by decide) (fun h15 => ?_) (fun h15 => ?_)
    · refine ev_iconst (v := 0) X d_X_isOnPages_22 (by decide) ?_
      exact ev_zretL X hr hk d_X_isOnPages_23 (by simp [onP, b2i, h5, h15]) (rfl)
    · refine ev_iconst (v := 1) X d_X_isOnPages_18 (by decide) ?_
      refine ev_goto (tgt := 23) X d_X_isOnPages_19 (by decide) ?_
      exact ev_zretL X hr hk d_X_isOnPages_23 (by simp [onP, b2i, h5, h15]) (rfl)
set_option maxHeartbeats 4000000 in
set_option maxRecDepth 100000 in
theorem c_X_mix {l : Launch} {D : va_G} {ad : Nat → Nat} {ca : Nat → ClassId} {x : va_W} {S : St} {a b : Int32}  : CtX l D ad ca x y_X_mix b_X_mix 3 (some .int) 0 [.int a, .int b] S S (some (.int (mixI a b))) := by
  refine ev_ent [some (.int a), some (.int b), none] rfl (by decide) (Nat.le_of_ble_eq_true rfl) rfl gTT (fun p e s m args below meth c A X hr hk => ?_)
  refine ev_bipush (v := 31) X d_X_mix_0 (by decide) ?_
  refine ev_iload_n X d_X_mix_2 rfl ?_
  refine ev_imul X d_X_mix_3 ?_
  refine ev_iload_n X d_X_mix_4 rfl ?_
  refine ev_ixor X d_X_mix_5 ?_
  refine ev_ldc X k_X_177 d_X_mix_6 ?_
  refine ev_imul X d_X_mix_8 ?_
  refine ev_istore_n X d_X_mix_9 (by decide) ?_
  refine ev_iload_n X d_X_mix_10 rfl ?_
  refine ev_iload_n X d_X_mix_11 rfl ?_
  refine ev_bipush (v := 15) X d_X_mix_12 (by decide) ?_
  refine ev_iushr X d_X_mix_14 rfl ?_
  refine ev_ixor X d_X_mix_15 ?_
  exact ev_iretL X hr hk d_X_mix_16 (by rw [mixI_eq]; rfl) (rfl)
set_option maxHeartbeats 4000000 in
set_option maxRecDepth 100000 in
theorem c_X_denied {l : Launch} {D : va_G} {ad : Nat → Nat} {ca : Nat → ClassId} {x : va_W} {S : St}   : CtX l D ad ca x y_X_denied b_X_denied 1 (some .int) 0 [.ref (ad 0)] S S (some (.int (S 0 5))) := by
  refine ev_ent [some (.ref (ad 0))] rfl (by decide) (Nat.le_of_ble_eq_true rfl) rfl gTT (fun p e s m args below meth c A X hr hk => ?_)
  refine ev_aload_n X d_X_denied_0 rfl ?_
  refine ev_getI X f_X_47 lo_this rfl d_X_denied_1 ?_
  exact ev_iretL X hr hk d_X_denied_4 (rfl) (rfl)
set_option maxHeartbeats 4000000 in
set_option maxRecDepth 100000 in
theorem c_G_setTo {l : Launch} {D : va_G} {ad : Nat → Nat} {ca : Nat → ClassId} {x : va_W} {S : St} {i : Nat} {u r a : Int32} (L : LyO lyX 41 i 1 flG) : CtX l D ad ca x y_G_setTo b_G_setTo 4 none 0 [.ref (ad i), .int u, .int r, .int a] S (sG S i u r a) none := by
  refine ev_ent [some (.ref (ad i)), some (.int u), some (.int r), some (.int a)] rfl (by decide) (Nat.le_of_ble_eq_true rfl) rfl gTT (fun p e s m args below meth c A X hr hk => ?_)
  refine ev_aload_n X d_G_setTo_0 rfl ?_
  refine ev_iload_n X d_G_setTo_1 rfl ?_
  refine ev_putI X f_G_9 L rfl d_G_setTo_2 ?_
  refine ev_aload_n X d_G_setTo_5 rfl ?_
  refine ev_iload_n X d_G_setTo_6 rfl ?_
  refine ev_putI X f_G_15 L rfl d_G_setTo_7 ?_
  refine ev_aload_n X d_G_setTo_10 rfl ?_
  refine ev_iload_n X d_G_setTo_11 rfl ?_
  refine ev_putI X f_G_18 L rfl d_G_setTo_12 ?_
  exact ev_vretL X hr hk d_G_setTo_15 (rfl)
theorem sw_out3 {z : Int32} (h1 : ¬ z = 1) (h2 : ¬ z = 2) (h3 : ¬ z = 3) : z.toInt < 1 ∨ 3 < z.toInt := by
  have a1 := lv_neT h1 (a := 1) (by decide)
  have a2 := lv_neT h2 (a := 2) (by decide)
  have a3 := lv_neT h3 (a := 3) (by decide)
  omega
set_option maxHeartbeats 4000000 in
set_option maxRecDepth 100000 in
theorem c_G_matches {l : Launch} {D : va_G} {ad : Nat → Nat} {ca : Nat → ClassId} {x : va_W} {S : St} {i : Nat} {z b : Int32} (L : LyO lyX 41 i 1 flG) : CtX l D ad ca x y_G_matches b_G_matches 4 (some .boolean) 0 [.ref (ad i), .int z, .int b] S S (some (.int (b2i (gmS (S i 0) (S i 2) z b)))) := by
  refine ev_ent [some (.ref (ad i)), some (.int z), some (.int b), none] rfl (by decide) (Nat.le_of_ble_eq_true rfl) rfl gTT (fun p e s m args below meth c A X hr hk => ?_)
  refine ev_aload_n X d_G_matches_0 rfl ?_
  refine ev_getI X f_G_9 L rfl d_G_matches_1 ?_
  by_cases q1 : S i 0 = 1
  · rw [q1]
    refine ev_tableIn (tgt := 32) X d_G_matches_4 (by decide) (by decide) rfl (by decide) ?_
    refine ev_iload_n X d_G_matches_32 rfl ?_
    refine ev_iload_n X d_G_matches_33 rfl ?_
    refine ev_icmp_gt (tgt := 49) X d_G_matches_34 (by decide) (fun h34 => ?_) (fun h34 => ?_)
    · refine ev_iconst (v := 0) X d_G_matches_49 (by decide) ?_
      exact ev_zretL X hr hk d_G_matches_50 (by simp [gmS, b2i, q1, h34]) (rfl)
    · refine ev_iload_n X d_G_matches_37 rfl ?_
      refine ev_aload_n X d_G_matches_38 rfl ?_
      refine ev_getI X f_G_18 L rfl d_G_matches_39 ?_
      refine ev_icmp_ge (tgt := 49) X d_G_matches_42 (by decide) (fun h42 => ?_) (fun h42 => ?_)
      · refine ev_iconst (v := 0) X d_G_matches_49 (by decide) ?_
        exact ev_zretL X hr hk d_G_matches_50 (by simp [gmS, b2i, q1, h34, h42]) (rfl)
      · refine ev_iconst (v := 1) X d_G_matches_45 (by decide) ?_
        refine ev_goto (tgt := 50) X d_G_matches_46 (by decide) ?_
        exact ev_zretL X hr hk d_G_matches_50 (by simp [gmS, b2i, q1, h34, h42]) (rfl)
  · by_cases q2 : S i 0 = 2
    · rw [q2]
      refine ev_tableIn (tgt := 51) X d_G_matches_4 (by decide) (by decide) rfl (by decide) ?_
      refine ev_iload_n X d_G_matches_51 rfl ?_
      refine ev_aload_n X d_G_matches_52 rfl ?_
      refine ev_getI X f_G_18 L rfl d_G_matches_53 ?_
      refine ev_icmp_ne (tgt := 63) X d_G_matches_56 (by decide) (fun h56 => ?_) (fun h56 => ?_)
      · refine ev_iconst (v := 0) X d_G_matches_63 (by decide) ?_
        exact ev_zretL X hr hk d_G_matches_64 (by simp [gmS, b2i, q1, q2, h56]) (rfl)
      · refine ev_iconst (v := 1) X d_G_matches_59 (by decide) ?_
        refine ev_goto (tgt := 64) X d_G_matches_60 (by decide) ?_
        exact ev_zretL X hr hk d_G_matches_64 (by simp [gmS, b2i, q1, q2, h56]) (rfl)
    · by_cases q3 : S i 0 = 3
      · rw [q3]
        refine ev_tableIn (tgt := 65) X d_G_matches_4 (by decide) (by decide) rfl (by decide) ?_
        refine ev_aload_n X d_G_matches_65 rfl ?_
        refine ev_getI X f_G_18 L rfl d_G_matches_66 ?_
        refine ev_aload_n X d_G_matches_69 rfl ?_
        refine ev_getI X f_G_18 L rfl d_G_matches_70 ?_
        refine ev_iconst (v := 1) X d_G_matches_73 (by decide) ?_
        refine ev_iadd X d_G_matches_74 ?_
        refine ev_ixor X d_G_matches_75 ?_
        refine ev_istore_n X d_G_matches_76 (by decide) ?_
        refine ev_iload_n X d_G_matches_77 rfl ?_
        refine ev_iload_n X d_G_matches_78 rfl ?_
        refine ev_ior X d_G_matches_79 ?_
        refine ev_aload_n X d_G_matches_80 rfl ?_
        refine ev_getI X f_G_18 L rfl d_G_matches_81 ?_
        refine ev_iload_n X d_G_matches_84 rfl ?_
        refine ev_ior X d_G_matches_85 ?_
        refine ev_icmp_ne (tgt := 93) X d_G_matches_86 (by decide) (fun h86 => ?_) (fun h86 => ?_)
        · refine ev_iconst (v := 0) X d_G_matches_93 (by decide) ?_
          exact ev_zretL X hr hk d_G_matches_94 (by simp [gmS, b2i, q1, q2, q3, h86]) (rfl)
        · refine ev_iconst (v := 1) X d_G_matches_89 (by decide) ?_
          refine ev_goto (tgt := 94) X d_G_matches_90 (by decide) ?_
          exact ev_zretL X hr hk d_G_matches_94 (by simp [gmS, b2i, q1, q2, q3, h86]) (rfl)
      · refine ev_tableOut (tgt := 95) X d_G_matches_4 (sw_out3 q1 q2 q3) (by decide) ?_
        refine ev_iconst (v := 0) X d_G_matches_95 (by decide) ?_
        exact ev_zretL X hr hk d_G_matches_96 (by simp [gmS, b2i, q1, q2, q3]) (rfl)
set_option maxHeartbeats 4000000 in
set_option maxRecDepth 100000 in
theorem c_E_firstWord {l : Launch} {D : va_G} {ad : Nat → Nat} {ca : Nat → ClassId} {x : va_W} {S : St} {i : Nat} (L : LyO lyX 41 i 3 (flE i)) : CtX l D ad ca x y_E_firstWord b_E_firstWord 1 (some .int) 0 [.ref (ad i)] S S (some (.int (S i 2 * 16))) := by
  refine ev_ent [some (.ref (ad i))] rfl (by decide) (Nat.le_of_ble_eq_true rfl) rfl gTT (fun p e s m args below meth c A X hr hk => ?_)
  refine ev_aload_n X d_E_firstWord_0 rfl ?_
  refine ev_getI X f_E_22 L rfl d_E_firstWord_1 ?_
  refine ev_bipush (v := 16) X d_E_firstWord_4 (by decide) ?_
  refine ev_imul X d_E_firstWord_6 ?_
  exact ev_iretL X hr hk d_E_firstWord_7 (rfl) (rfl)
set_option maxHeartbeats 4000000 in
set_option maxRecDepth 100000 in
theorem c_E_endWord {l : Launch} {D : va_G} {ad : Nat → Nat} {ca : Nat → ClassId} {x : va_W} {S : St} {i : Nat} (L : LyO lyX 41 i 3 (flE i)) : CtX l D ad ca x y_E_endWord b_E_endWord 1 (some .int) 0 [.ref (ad i)] S S (some (.int ((S i 2 + S i 3) * 16))) := by
  refine ev_ent [some (.ref (ad i))] rfl (by decide) (Nat.le_of_ble_eq_true rfl) rfl gTT (fun p e s m args below meth c A X hr hk => ?_)
  refine ev_aload_n X d_E_endWord_0 rfl ?_
  refine ev_getI X f_E_22 L rfl d_E_endWord_1 ?_
  refine ev_aload_n X d_E_endWord_4 rfl ?_
  refine ev_getI X f_E_25 L rfl d_E_endWord_5 ?_
  refine ev_iadd X d_E_endWord_8 ?_
  refine ev_bipush (v := 16) X d_E_endWord_9 (by decide) ?_
  refine ev_imul X d_E_endWord_11 ?_
  exact ev_iretL X hr hk d_E_endWord_12 (rfl) (rfl)
set_option maxHeartbeats 4000000 in
set_option maxRecDepth 100000 in
theorem c_E_isBlock {l : Launch} {D : va_G} {ad : Nat → Nat} {ca : Nat → ClassId} {x : va_W} {S : St} {i : Nat} (L : LyO lyX 41 i 3 (flE i)) : CtX l D ad ca x y_E_isBlock b_E_isBlock 2 (some .boolean) 0 [.ref (ad i)] S S (some (.int (b2i (blkS (S i 2) (S i 3))))) := by
  refine ev_ent [some (.ref (ad i)), none] rfl (by decide) (Nat.le_of_ble_eq_true rfl) rfl gTT (fun p e s m args below meth c A X hr hk => ?_)
  refine ev_aload_n X d_E_isBlock_0 rfl ?_
  refine ev_getI X f_E_25 L rfl d_E_isBlock_1 ?_
  refine ev_aload_n X d_E_isBlock_4 rfl ?_
  refine ev_getI X f_E_25 L rfl d_E_isBlock_5 ?_
  refine ev_iconst (v := 1) X d_E_isBlock_8 (by decide) ?_
  refine ev_isub X d_E_isBlock_9 ?_
  refine ev_iand X d_E_isBlock_10 ?_
  refine ev_if_ne (tgt := 18) X d_E_isBlock_11 (by decide) (fun h11 => ?_) (fun h11 => ?_)
  · refine ev_iconst (v := 0) X d_E_isBlock_18 (by decide) ?_
    refine ev_istore_n X d_E_isBlock_19 (by decide) ?_
    refine ev_iload_n X d_E_isBlock_20 rfl ?_
    refine ev_if_eq (tgt := 42) X d_E_isBlock_21 (by decide) (fun h21 => ?_) (fun h21 => ?_)
    · refine ev_iconst (v := 0) X d_E_isBlock_42 (by decide) ?_
      exact ev_zretL X hr hk d_E_isBlock_43 (by simp [blkS, b2i, h11, h21]) (rfl)
    · exact absurd h21 (by decide)
  · refine ev_iconst (v := 1) X d_E_isBlock_14 (by decide) ?_
    refine ev_goto (tgt := 19) X d_E_isBlock_15 (by decide) ?_
    refine ev_istore_n X d_E_isBlock_19 (by decide) ?_
    refine ev_iload_n X d_E_isBlock_20 rfl ?_
    refine ev_if_eq (tgt := 42) X d_E_isBlock_21 (by decide) (fun h21 => ?_) (fun h21 => ?_)
    · exact absurd h21 (by decide)
    · refine ev_aload_n X d_E_isBlock_24 rfl ?_
      refine ev_getI X f_E_22 L rfl d_E_isBlock_25 ?_
      refine ev_aload_n X d_E_isBlock_28 rfl ?_
      refine ev_getI X f_E_25 L rfl d_E_isBlock_29 ?_
      refine ev_iconst (v := 1) X d_E_isBlock_32 (by decide) ?_
      refine ev_isub X d_E_isBlock_33 ?_
      refine ev_iand X d_E_isBlock_34 ?_
      refine ev_if_ne (tgt := 42) X d_E_isBlock_35 (by decide) (fun h35 => ?_) (fun h35 => ?_)
      · refine ev_iconst (v := 0) X d_E_isBlock_42 (by decide) ?_
        exact ev_zretL X hr hk d_E_isBlock_43 (by simp [blkS, b2i, h11, h21, h35]) (rfl)
      · refine ev_iconst (v := 1) X d_E_isBlock_38 (by decide) ?_
        refine ev_goto (tgt := 43) X d_E_isBlock_39 (by decide) ?_
        exact ev_zretL X hr hk d_E_isBlock_43 (by simp [blkS, b2i, h11, h21, h35]) (rfl)
set_option maxHeartbeats 4000000 in
set_option maxRecDepth 100000 in
theorem c_E_endWith {l : Launch} {D : va_G} {ad : Nat → Nat} {ca : Nat → ClassId} {x : va_W} {S : St} {i : Nat} {t v : Int32} (L : LyO lyX 41 i 3 (flE i)) : CtX l D ad ca x y_E_endWith b_E_endWith 3 none 0 [.ref (ad i), .int t, .int v] S (sEnd S i t v) none := by
  refine ev_ent [some (.ref (ad i)), some (.int t), some (.int v)] rfl (by decide) (Nat.le_of_ble_eq_true rfl) rfl gTT (fun p e s m args below meth c A X hr hk => ?_)
  refine ev_aload_n X d_E_endWith_0 rfl ?_
  refine ev_iload_n X d_E_endWith_1 rfl ?_
  refine ev_putI X f_E_15 L rfl d_E_endWith_2 ?_
  refine ev_aload_n X d_E_endWith_5 rfl ?_
  refine ev_iload_n X d_E_endWith_6 rfl ?_
  refine ev_putI X f_E_34 L rfl d_E_endWith_7 ?_
  exact ev_vretL X hr hk d_E_endWith_10 (rfl)
set_option maxHeartbeats 4000000 in
set_option maxRecDepth 100000 in
theorem c_E_startWith {l : Launch} {D : va_G} {ad : Nat → Nat} {ca : Nat → ClassId} {x : va_W} {S : St} {i : Nat} {v : Int32} (L : LyO lyX 41 i 3 (flE i)) : CtX l D ad ca x y_E_startWith b_E_startWith 3 none 0 [.ref (ad i), .int v] S (sStart S i v) none := by
  refine ev_ent [some (.ref (ad i)), some (.int v), none] rfl (by decide) (Nat.le_of_ble_eq_true rfl) rfl gTT (fun p e s m args below meth c A X hr hk => ?_)
  have loop : ∀ (r k : Nat), k + r = 8 → EV p l e (rmd 0) s m args below meth c 0 0 (MQ below (QQ clX D A (ly_w lyX 41 ad ca (sStart S i v) x) none) args s 0 0 A) 3 D clX A s.heap (ly_w lyX 41 ad ca (fil S (i + 1) 0 k 0) x) 2 [some (.ref (ad i)), some (.int v), some (.int (nI k))] [] := by
    intro r
    induction r with
    | zero =>
      intro k h1
      have h2 : k = 8 := by omega
      subst h2
      refine ev_iload_n X d_E_startWith_2 rfl ?_
      refine ev_bipush (v := 8) X d_E_startWith_3 (by decide) ?_
      refine ev_icmp_ge (tgt := 21) X d_E_startWith_5 (by decide) (fun h5 => ?_) (fun h5 => ?_)
      · refine ev_aload_n X d_E_startWith_21 rfl ?_
        refine ev_getR X f_E_9 L rfl d_E_startWith_22 ?_
        refine ev_iconst (v := 1) X d_E_startWith_25 (by decide) ?_
        refine ev_iload_n X d_E_startWith_26 rfl ?_
        refine ev_iast (j := 1) X (li_er L) rfl rfl (by decide) d_E_startWith_27 ?_
        refine ev_aload_n X d_E_startWith_28 rfl ?_
        refine ev_aload_n X d_E_startWith_29 rfl ?_
        refine ev_getI X f_E_28 L rfl d_E_startWith_30 ?_
        refine ev_putI X f_E_31 L rfl d_E_startWith_33 ?_
        exact ev_vretL X hr hk d_E_startWith_36 (rfl)
      · exact absurd (by decide) h5
    | succ r ih =>
      intro k h1
      refine ev_iload_n X d_E_startWith_2 rfl ?_
      refine ev_bipush (v := 8) X d_E_startWith_3 (by decide) ?_
      refine ev_icmp_ge (tgt := 21) X d_E_startWith_5 (by decide) (fun h5 => ?_) (fun h5 => ?_)
      · exact absurd h5 (nI_ge (b := 8) (by omega) (by decide))
      · refine ev_aload_n X d_E_startWith_8 rfl ?_
        refine ev_getR X f_E_9 L rfl d_E_startWith_9 ?_
        refine ev_iload_n X d_E_startWith_12 rfl ?_
        refine ev_iconst (v := 0) X d_E_startWith_13 (by decide) ?_
        refine ev_iast X (li_er L) rfl rfl (by omega) d_E_startWith_14 ?_
        refine ev_iinc (v := nI (k + 1)) X d_E_startWith_15 rfl (nI_1 k) (by decide) ?_
        refine ev_goto (tgt := 2) X d_E_startWith_18 (by decide) ?_
        rw [fil_up (Nat.zero_le k)]
        exact ih (k + 1) (by omega)
  refine ev_iconst (v := 0) X d_E_startWith_0 (by decide) ?_
  refine ev_istore_n X d_E_startWith_1 (by decide) ?_
  refine ev_of (w1 := ly_w lyX 41 ad ca (fil S (i + 1) 0 0 0) x) (by rw [fil_nil]) rfl rfl rfl ?_
  exact loop 8 0 rfl
end
section
theorem w16 (a : Nat) : nI a * 16 = nI (16 * a) := by rw [show (16 : Int32) = nI 16 from rfl, pk_mul, Nat.mul_comm]
set_option maxHeartbeats 4000000 in
set_option maxRecDepth 100000 in
theorem c_X_arePages {l : Launch} {D : va_G} {ad : Nat → Nat} {ca : Nat → ClassId} {x : va_W} {S : St} {f n : Int32}  : CtX l D ad ca x y_X_arePages b_X_arePages 2 (some .boolean) 1 [.int f, .int n] S S (some (.int (b2i (arP f n)))) := by
  refine ev_ent [some (.int f), some (.int n)] rfl (by decide) (Nat.le_of_ble_eq_true rfl) rfl gTT (fun p e s m args below meth c A X hr hk => ?_)
  refine ev_iload_n X d_X_arePages_0 rfl ?_
  refine ev_iconst (v := 1) X d_X_arePages_1 (by decide) ?_
  refine ev_icmp_lt (tgt := 33) X d_X_arePages_2 (by decide) (fun h2 => ?_) (fun h2 => ?_)
  · refine ev_iconst (v := 0) X d_X_arePages_33 (by decide) ?_
    exact ev_zretL X hr hk d_X_arePages_34 (by simp [arP, b2i, h2]) (rfl)
  · refine ev_iload_n X d_X_arePages_5 rfl ?_
    refine ev_bipush (v := 8) X d_X_arePages_6 (by decide) ?_
    refine ev_icmp_gt (tgt := 33) X d_X_arePages_8 (by decide) (fun h8 => ?_) (fun h8 => ?_)
    · refine ev_iconst (v := 0) X d_X_arePages_33 (by decide) ?_
      exact ev_zretL X hr hk d_X_arePages_34 (by simp [arP, b2i, h2, h8]) (rfl)
    · refine ev_iload_n X d_X_arePages_11 rfl ?_
      refine ev_cS1 X m_X_130 c_X_isPage (by decide) (by decide) d_X_arePages_12 rfl rfl (Nat.le_of_ble_eq_true rfl) ?_
      refine ev_if_eqB (tgt := 33) X d_X_arePages_15 (by decide) (fun h15 => ?_) (fun h15 => ?_)
      · refine ev_iconst (v := 0) X d_X_arePages_33 (by decide) ?_
        exact ev_zretL X hr hk d_X_arePages_34 (by simp [arP, b2i, h2, h8, h15]) (rfl)
      · refine ev_iload_n X d_X_arePages_18 rfl ?_
        refine ev_iload_n X d_X_arePages_19 rfl ?_
        refine ev_iadd X d_X_arePages_20 ?_
        refine ev_iconst (v := 1) X d_X_arePages_21 (by decide) ?_
        refine ev_isub X d_X_arePages_22 ?_
        refine ev_cS1 X m_X_130 c_X_isPage (by decide) (by decide) d_X_arePages_23 rfl rfl (Nat.le_of_ble_eq_true rfl) ?_
        refine ev_if_eqB (tgt := 33) X d_X_arePages_26 (by decide) (fun h26 => ?_) (fun h26 => ?_)
        · refine ev_iconst (v := 0) X d_X_arePages_33 (by decide) ?_
          exact ev_zretL X hr hk d_X_arePages_34 (by simp [arP, b2i, h2, h8, h15, h26]) (rfl)
        · refine ev_iconst (v := 1) X d_X_arePages_29 (by decide) ?_
          refine ev_goto (tgt := 34) X d_X_arePages_30 (by decide) ?_
          exact ev_zretL X hr hk d_X_arePages_34 (by simp [arP, b2i, h2, h8, h15, h26]) (rfl)
set_option maxHeartbeats 4000000 in
set_option maxRecDepth 100000 in
theorem c_X_isBusy {l : Launch} {D : va_G} {ad : Nat → Nat} {ca : Nat → ClassId} {x : va_W} {S : St} {z : Int32}  : CtX l D ad ca x y_X_isBusy b_X_isBusy 2 (some .boolean) 1 [.ref (ad 0), .int z] S S (some (.int (b2i (busyS S z)))) := by
  refine ev_ent [some (.ref (ad 0)), some (.int z)] rfl (by decide) (Nat.le_of_ble_eq_true rfl) rfl gTT (fun p e s m args below meth c A X hr hk => ?_)
  refine ev_iload_n X d_X_isBusy_0 rfl ?_
  refine ev_cS1 X m_X_127 c_X_isProcessor (by decide) (by decide) d_X_isBusy_1 rfl rfl (Nat.le_of_ble_eq_true rfl) ?_
  refine ev_if_eqB (tgt := 20) X d_X_isBusy_4 (by decide) (fun h4 => ?_) (fun h4 => ?_)
  · refine ev_iconst (v := 1) X d_X_isBusy_20 (by decide) ?_
    refine ev_goto (tgt := 25) X d_X_isBusy_21 (by decide) ?_
    exact ev_zretL X hr hk d_X_isBusy_25 (by simp [busyS, b2i, h4]) (rfl)
  · refine ev_aload_n X d_X_isBusy_7 rfl ?_
    refine ev_getR X f_X_29 lo_this rfl d_X_isBusy_8 ?_
    refine ev_iload_n X d_X_isBusy_11 rfl ?_
    refine ev_aald X lr_pr rfl (inr_z h4) (inr_j (k := 2) rfl (by decide) h4) d_X_isBusy_12 ?_
    refine ev_getI X f_X_93 (lo_pr (inr_j (k := 2) rfl (by decide) h4)) rfl d_X_isBusy_13 ?_
    refine ev_iconst (v := (-1)) X d_X_isBusy_16 (by decide) ?_
    refine ev_icmp_eq (tgt := 24) X d_X_isBusy_17 (by decide) (fun h17 => ?_) (fun h17 => ?_)
    · refine ev_iconst (v := 0) X d_X_isBusy_24 (by decide) ?_
      exact ev_zretL X hr hk d_X_isBusy_25 (by simp [busyS, b2i, h4, h17]) (rfl)
    · refine ev_iconst (v := 1) X d_X_isBusy_20 (by decide) ?_
      refine ev_goto (tgt := 25) X d_X_isBusy_21 (by decide) ?_
      exact ev_zretL X hr hk d_X_isBusy_25 (by simp [busyS, b2i, h4, h17]) (rfl)
set_option maxHeartbeats 4000000 in
set_option maxRecDepth 100000 in
theorem c_X_runsEnclave {l : Launch} {D : va_G} {ad : Nat → Nat} {ca : Nat → ClassId} {x : va_W} {S : St} {z : Int32}  : CtX l D ad ca x y_X_runsEnclave b_X_runsEnclave 2 (some .boolean) 1 [.ref (ad 0), .int z] S S (some (.int (b2i (runsS S z)))) := by
  refine ev_ent [some (.ref (ad 0)), some (.int z)] rfl (by decide) (Nat.le_of_ble_eq_true rfl) rfl gTT (fun p e s m args below meth c A X hr hk => ?_)
  refine ev_iload_n X d_X_runsEnclave_0 rfl ?_
  refine ev_cS1 X m_X_127 c_X_isProcessor (by decide) (by decide) d_X_runsEnclave_1 rfl rfl (Nat.le_of_ble_eq_true rfl) ?_
  refine ev_if_eqB (tgt := 24) X d_X_runsEnclave_4 (by decide) (fun h4 => ?_) (fun h4 => ?_)
  · refine ev_iconst (v := 0) X d_X_runsEnclave_24 (by decide) ?_
    exact ev_zretL X hr hk d_X_runsEnclave_25 (by simp [runsS, b2i, h4]) (rfl)
  · refine ev_aload_n X d_X_runsEnclave_7 rfl ?_
    refine ev_getR X f_X_29 lo_this rfl d_X_runsEnclave_8 ?_
    refine ev_iload_n X d_X_runsEnclave_11 rfl ?_
    refine ev_aald X lr_pr rfl (inr_z h4) (inr_j (k := 2) rfl (by decide) h4) d_X_runsEnclave_12 ?_
    refine ev_getI X f_X_93 (lo_pr (inr_j (k := 2) rfl (by decide) h4)) rfl d_X_runsEnclave_13 ?_
    refine ev_iconst (v := (-1)) X d_X_runsEnclave_16 (by decide) ?_
    refine ev_icmp_eq (tgt := 24) X d_X_runsEnclave_17 (by decide) (fun h17 => ?_) (fun h17 => ?_)
    · refine ev_iconst (v := 0) X d_X_runsEnclave_24 (by decide) ?_
      exact ev_zretL X hr hk d_X_runsEnclave_25 (by simp [runsS, b2i, h4, h17]) (rfl)
    · refine ev_iconst (v := 1) X d_X_runsEnclave_20 (by decide) ?_
      refine ev_goto (tgt := 25) X d_X_runsEnclave_21 (by decide) ?_
      exact ev_zretL X hr hk d_X_runsEnclave_25 (by simp [runsS, b2i, h4, h17]) (rfl)
set_option maxHeartbeats 4000000 in
set_option maxRecDepth 100000 in
theorem c_X_isThere {l : Launch} {D : va_G} {ad : Nat → Nat} {ca : Nat → ClassId} {x : va_W} {S : St} {z : Int32}  : CtX l D ad ca x y_X_isThere b_X_isThere 2 (some .boolean) 1 [.ref (ad 0), .int z] S S (some (.int (b2i (thrS S z)))) := by
  refine ev_ent [some (.ref (ad 0)), some (.int z)] rfl (by decide) (Nat.le_of_ble_eq_true rfl) rfl gTT (fun p e s m args below meth c A X hr hk => ?_)
  refine ev_iload_n X d_X_isThere_0 rfl ?_
  refine ev_cS1 X m_X_114 c_X_isEnclaveNumber (by decide) (by decide) d_X_isThere_1 rfl rfl (Nat.le_of_ble_eq_true rfl) ?_
  refine ev_if_eqB (tgt := 23) X d_X_isThere_4 (by decide) (fun h4 => ?_) (fun h4 => ?_)
  · refine ev_iconst (v := 0) X d_X_isThere_23 (by decide) ?_
    exact ev_zretL X hr hk d_X_isThere_24 (by simp [thrS, b2i, h4]) (rfl)
  · refine ev_aload_n X d_X_isThere_7 rfl ?_
    refine ev_getR X f_X_22 lo_this rfl d_X_isThere_8 ?_
    refine ev_iload_n X d_X_isThere_11 rfl ?_
    refine ev_aald X lr_en rfl (inr_z h4) (inr_j (k := 4) rfl (by decide) h4) d_X_isThere_12 ?_
    refine ev_getI X f_X_86 (lo_en (inr_j (k := 4) rfl (by decide) h4)) rfl d_X_isThere_13 ?_
    refine ev_if_eq (tgt := 23) X d_X_isThere_16 (by decide) (fun h16 => ?_) (fun h16 => ?_)
    · refine ev_iconst (v := 0) X d_X_isThere_23 (by decide) ?_
      exact ev_zretL X hr hk d_X_isThere_24 (by simp [thrS, b2i, h4, h16]) (rfl)
    · refine ev_iconst (v := 1) X d_X_isThere_19 (by decide) ?_
      refine ev_goto (tgt := 24) X d_X_isThere_20 (by decide) ?_
      exact ev_zretL X hr hk d_X_isThere_24 (by simp [thrS, b2i, h4, h16]) (rfl)
set_option maxHeartbeats 4000000 in
set_option maxRecDepth 100000 in
theorem c_G_setOff {l : Launch} {D : va_G} {ad : Nat → Nat} {ca : Nat → ClassId} {x : va_W} {S : St} {i : Nat} {a : Int32} (L : LyO lyX 41 i 1 flG) : CtX l D ad ca x y_G_setOff b_G_setOff 2 none 1 [.ref (ad i), .int a] S (sG S i 0 0 a) none := by
  refine ev_ent [some (.ref (ad i)), some (.int a)] rfl (by decide) (Nat.le_of_ble_eq_true rfl) rfl gTT (fun p e s m args below meth c A X hr hk => ?_)
  refine ev_aload_n X d_G_setOff_0 rfl ?_
  refine ev_iconst (v := 0) X d_G_setOff_1 (by decide) ?_
  refine ev_iconst (v := 0) X d_G_setOff_2 (by decide) ?_
  refine ev_iload_n X d_G_setOff_3 rfl ?_
  refine ev_cV0 X m_G_21 (c_G_setTo L) L rfl rfl (by decide) (by decide) d_G_setOff_4 rfl rfl (Nat.le_of_ble_eq_true rfl) ?_
  exact ev_vretL X hr hk d_G_setOff_7 (rfl)
set_option maxHeartbeats 4000000 in
set_option maxRecDepth 100000 in
theorem c_G_setBlock {l : Launch} {D : va_G} {ad : Nat → Nat} {ca : Nat → ClassId} {x : va_W} {S : St} {i : Nat} {f v r : Int32} (L : LyO lyX 41 i 1 flG) : CtX l D ad ca x y_G_setBlock b_G_setBlock 4 none 1 [.ref (ad i), .int f, .int v, .int r] S (sB S i f v r) none := by
  refine ev_ent [some (.ref (ad i)), some (.int f), some (.int v), some (.int r)] rfl (by decide) (Nat.le_of_ble_eq_true rfl) rfl gTT (fun p e s m args below meth c A X hr hk => ?_)
  refine ev_aload_n X d_G_setBlock_0 rfl ?_
  refine ev_iconst (v := 3) X d_G_setBlock_1 (by decide) ?_
  refine ev_iload_n X d_G_setBlock_2 rfl ?_
  refine ev_iload_n X d_G_setBlock_3 rfl ?_
  refine ev_iload_n X d_G_setBlock_4 rfl ?_
  refine ev_iconst (v := 2) X d_G_setBlock_5 (by decide) ?_
  refine ev_idiv X d_G_setBlock_6 (by decide) ?_
  refine ev_iadd X d_G_setBlock_7 ?_
  refine ev_iconst (v := 1) X d_G_setBlock_8 (by decide) ?_
  refine ev_isub X d_G_setBlock_9 ?_
  refine ev_cV0 X m_G_21 (c_G_setTo L) L rfl rfl (by decide) (by decide) d_G_setBlock_10 rfl rfl (Nat.le_of_ble_eq_true rfl) ?_
  exact ev_vretL X hr hk d_G_setBlock_13 (rfl)
set_option maxHeartbeats 4000000 in
set_option maxRecDepth 100000 in
theorem c_X_proofOf {l : Launch} {D : va_G} {ad : Nat → Nat} {ca : Nat → ClassId} {x : va_W} {S : St} {u v : Int32}  : CtX l D ad ca x y_X_proofOf b_X_proofOf 3 (some .int) 1 [.ref (ad 0), .int u, .int v] S S (some (.int (prfS (S 0 0) u v))) := by
  refine ev_ent [some (.ref (ad 0)), some (.int u), some (.int v)] rfl (by decide) (Nat.le_of_ble_eq_true rfl) rfl gTT (fun p e s m args below meth c A X hr hk => ?_)
  refine ev_aload_n X d_X_proofOf_0 rfl ?_
  refine ev_getI X f_X_7 lo_this rfl d_X_proofOf_1 ?_
  refine ev_iconst (v := 3) X d_X_proofOf_4 (by decide) ?_
  refine ev_cS1 X m_X_174 c_X_mix (by decide) (by decide) d_X_proofOf_5 rfl rfl (Nat.le_of_ble_eq_true rfl) ?_
  refine ev_iload_n X d_X_proofOf_8 rfl ?_
  refine ev_cS1 X m_X_174 c_X_mix (by decide) (by decide) d_X_proofOf_9 rfl rfl (Nat.le_of_ble_eq_true rfl) ?_
  refine ev_iload_n X d_X_proofOf_12 rfl ?_
  refine ev_cS1 X m_X_174 c_X_mix (by decide) (by decide) d_X_proofOf_13 rfl rfl (Nat.le_of_ble_eq_true rfl) ?_
  exact ev_iretL X hr hk d_X_proofOf_16 (rfl) (rfl)
set_option maxHeartbeats 4000000 in
set_option maxRecDepth 100000 in
theorem c_X_secretOf {l : Launch} {D : va_G} {ad : Nat → Nat} {ca : Nat → ClassId} {x : va_W} {S : St} {u : Int32}  : CtX l D ad ca x y_X_secretOf b_X_secretOf 2 (some .int) 1 [.ref (ad 0), .int u] S S (some (.int (secS (S 0 0) u))) := by
  refine ev_ent [some (.ref (ad 0)), some (.int u)] rfl (by decide) (Nat.le_of_ble_eq_true rfl) rfl gTT (fun p e s m args below meth c A X hr hk => ?_)
  refine ev_aload_n X d_X_secretOf_0 rfl ?_
  refine ev_getI X f_X_7 lo_this rfl d_X_secretOf_1 ?_
  refine ev_bipush (v := 7) X d_X_secretOf_4 (by decide) ?_
  refine ev_cS1 X m_X_174 c_X_mix (by decide) (by decide) d_X_secretOf_6 rfl rfl (Nat.le_of_ble_eq_true rfl) ?_
  refine ev_iload_n X d_X_secretOf_9 rfl ?_
  refine ev_cS1 X m_X_174 c_X_mix (by decide) (by decide) d_X_secretOf_10 rfl rfl (Nat.le_of_ble_eq_true rfl) ?_
  exact ev_iretL X hr hk d_X_secretOf_13 (rfl) (rfl)
set_option maxHeartbeats 4000000 in
set_option maxRecDepth 100000 in
theorem c_X_running {l : Launch} {D : va_G} {ad : Nat → Nat} {ca : Nat → ClassId} {x : va_W} {S : St} {z : Int32}  : CtX l D ad ca x y_X_running b_X_running 2 (some .int) 1 [.ref (ad 0), .int z] S S (some (.int (if inr z 2 = true then S (13 + 14 * z.toNatClampNeg) 2 else -2))) := by
  refine ev_ent [some (.ref (ad 0)), some (.int z)] rfl (by decide) (Nat.le_of_ble_eq_true rfl) rfl gTT (fun p e s m args below meth c A X hr hk => ?_)
  refine ev_iload_n X d_X_running_0 rfl ?_
  refine ev_cS1 X m_X_127 c_X_isProcessor (by decide) (by decide) d_X_running_1 rfl rfl (Nat.le_of_ble_eq_true rfl) ?_
  refine ev_if_eqB (tgt := 19) X d_X_running_4 (by decide) (fun h4 => ?_) (fun h4 => ?_)
  · refine ev_bipush (v := (-2)) X d_X_running_19 (by decide) ?_
    exact ev_iretL X hr hk d_X_running_21 (by simp [h4]) (rfl)
  · refine ev_aload_n X d_X_running_7 rfl ?_
    refine ev_getR X f_X_29 lo_this rfl d_X_running_8 ?_
    refine ev_iload_n X d_X_running_11 rfl ?_
    refine ev_aald X lr_pr rfl (inr_z h4) (inr_j (k := 2) rfl (by decide) h4) d_X_running_12 ?_
    refine ev_getI X f_X_93 (lo_pr (inr_j (k := 2) rfl (by decide) h4)) rfl d_X_running_13 ?_
    refine ev_goto (tgt := 21) X d_X_running_16 (by decide) ?_
    exact ev_iretL X hr hk d_X_running_21 (by simp [h4]) (rfl)
set_option maxHeartbeats 4000000 in
set_option maxRecDepth 100000 in
theorem c_X_owner {l : Launch} {D : va_G} {ad : Nat → Nat} {ca : Nat → ClassId} {x : va_W} {S : St} {z : Int32}  : CtX l D ad ca x y_X_owner b_X_owner 2 (some .int) 1 [.ref (ad 0), .int z] S S (some (.int (if inr z 16 = true then S 2 z.toNatClampNeg else -1))) := by
  refine ev_ent [some (.ref (ad 0)), some (.int z)] rfl (by decide) (Nat.le_of_ble_eq_true rfl) rfl gTT (fun p e s m args below meth c A X hr hk => ?_)
  refine ev_iload_n X d_X_owner_0 rfl ?_
  refine ev_cS1 X m_X_130 c_X_isPage (by decide) (by decide) d_X_owner_1 rfl rfl (Nat.le_of_ble_eq_true rfl) ?_
  refine ev_if_eqB (tgt := 16) X d_X_owner_4 (by decide) (fun h4 => ?_) (fun h4 => ?_)
  · refine ev_iconst (v := (-1)) X d_X_owner_16 (by decide) ?_
    exact ev_iretL X hr hk d_X_owner_17 (by simp [h4]) (rfl)
  · refine ev_aload_n X d_X_owner_7 rfl ?_
    refine ev_getR X f_X_17 lo_this rfl d_X_owner_8 ?_
    refine ev_iload_n X d_X_owner_11 rfl ?_
    refine ev_iald X li_own rfl (inr_z h4) (inr_j (k := 16) rfl (by decide) h4) d_X_owner_12 ?_
    refine ev_goto (tgt := 17) X d_X_owner_13 (by decide) ?_
    exact ev_iretL X hr hk d_X_owner_17 (by simp [h4]) (rfl)
set_option maxHeartbeats 4000000 in
set_option maxRecDepth 100000 in
theorem c_X_state {l : Launch} {D : va_G} {ad : Nat → Nat} {ca : Nat → ClassId} {x : va_W} {S : St} {z : Int32}  : CtX l D ad ca x y_X_state b_X_state 2 (some .int) 1 [.ref (ad 0), .int z] S S (some (.int (if inr z 4 = true then S (4 + 2 * z.toNatClampNeg) 1 else -1))) := by
  refine ev_ent [some (.ref (ad 0)), some (.int z)] rfl (by decide) (Nat.le_of_ble_eq_true rfl) rfl gTT (fun p e s m args below meth c A X hr hk => ?_)
  refine ev_iload_n X d_X_state_0 rfl ?_
  refine ev_cS1 X m_X_114 c_X_isEnclaveNumber (by decide) (by decide) d_X_state_1 rfl rfl (Nat.le_of_ble_eq_true rfl) ?_
  refine ev_if_eqB (tgt := 19) X d_X_state_4 (by decide) (fun h4 => ?_) (fun h4 => ?_)
  · refine ev_iconst (v := (-1)) X d_X_state_19 (by decide) ?_
    exact ev_iretL X hr hk d_X_state_20 (by simp [h4]) (rfl)
  · refine ev_aload_n X d_X_state_7 rfl ?_
    refine ev_getR X f_X_22 lo_this rfl d_X_state_8 ?_
    refine ev_iload_n X d_X_state_11 rfl ?_
    refine ev_aald X lr_en rfl (inr_z h4) (inr_j (k := 4) rfl (by decide) h4) d_X_state_12 ?_
    refine ev_getI X f_X_86 (lo_en (inr_j (k := 4) rfl (by decide) h4)) rfl d_X_state_13 ?_
    refine ev_goto (tgt := 20) X d_X_state_16 (by decide) ?_
    exact ev_iretL X hr hk d_X_state_20 (by simp [h4]) (rfl)
set_option maxHeartbeats 4000000 in
set_option maxRecDepth 100000 in
theorem c_X_areSystemPages {l : Launch} {D : va_G} {ad : Nat → Nat} {ca : Nat → ClassId} {x : va_W} {S : St} {f n : Nat} (hfn : f + n ≤ 16) : CtX l D ad ca x y_X_areSystemPages b_X_areSystemPages 4 (some .boolean) 0 [.ref (ad 0), .int (nI f), .int (nI n)] S S (some (.int (b2i (sysP S f n)))) := by
  refine ev_ent [some (.ref (ad 0)), some (.int (nI f)), some (.int (nI n)), none] rfl (by decide) (Nat.le_of_ble_eq_true rfl) rfl gTT (fun p e s m args below meth c A X hr hk => ?_)
  have loop : ∀ (r k : Nat), k + r = f + n → sysP S f n = sysP S k r → EV p l e (rmd 0) s m args below meth c 0 0 (MQ below (QQ clX D A (ly_w lyX 41 ad ca S x) (some (.int (b2i (sysP S f n))))) args s 0 0 A) 4 D clX A s.heap (ly_w lyX 41 ad ca S x) 2 [some (.ref (ad 0)), some (.int (nI f)), some (.int (nI n)), some (.int (nI k))] [] := by
    intro r
    induction r with
    | zero =>
      intro k q1 q2
      refine ev_iload_n X d_X_areSystemPages_2 rfl ?_
      refine ev_iload_n X d_X_areSystemPages_3 rfl ?_
      refine ev_iload_n X d_X_areSystemPages_4 rfl ?_
      refine ev_iadd X d_X_areSystemPages_5 ?_
      refine ev_icmp_ge (tgt := 27) X d_X_areSystemPages_6 (by decide) (fun h6 => ?_) (fun h6 => ?_)
      · refine ev_iconst (v := 1) X d_X_areSystemPages_27 (by decide) ?_
        exact ev_zretL X hr hk d_X_areSystemPages_28 (by rw [q2]; rfl) (rfl)
      · exact absurd (by rw [nI_add]; exact nI_le (by omega) (by omega)) h6
    | succ r ih =>
      intro k q1 q2
      refine ev_iload_n X d_X_areSystemPages_2 rfl ?_
      refine ev_iload_n X d_X_areSystemPages_3 rfl ?_
      refine ev_iload_n X d_X_areSystemPages_4 rfl ?_
      refine ev_iadd X d_X_areSystemPages_5 ?_
      refine ev_icmp_ge (tgt := 27) X d_X_areSystemPages_6 (by decide) (fun h6 => ?_) (fun h6 => ?_)
      · exact absurd h6 (by rw [nI_add]; exact nI_ge (by omega) (by omega))
      · refine ev_aload_n X d_X_areSystemPages_9 rfl ?_
        refine ev_getR X f_X_17 lo_this rfl d_X_areSystemPages_10 ?_
        refine ev_iload_n X d_X_areSystemPages_13 rfl ?_
        refine ev_iald X li_own rfl rfl (by omega) d_X_areSystemPages_14 ?_
        refine ev_iconst (v := 1) X d_X_areSystemPages_15 (by decide) ?_
        refine ev_icmp_eq (tgt := 21) X d_X_areSystemPages_16 (by decide) (fun h16 => ?_) (fun h16 => ?_)
        · refine ev_iinc (v := nI (k + 1)) X d_X_areSystemPages_21 rfl (nI_1 k) (by decide) ?_
          refine ev_goto (tgt := 2) X d_X_areSystemPages_24 (by decide) ?_
          exact ih (k + 1) (by omega) (by rw [q2]; simp [sysP, h16])
        · refine ev_iconst (v := 0) X d_X_areSystemPages_19 (by decide) ?_
          exact ev_zretL X hr hk d_X_areSystemPages_20 (by rw [q2]; simp [sysP, b2i, h6, h16]) (rfl)
  refine ev_iload_n X d_X_areSystemPages_0 rfl ?_
  refine ev_istore_n X d_X_areSystemPages_1 (by decide) ?_
  exact loop n f rfl rfl
set_option maxHeartbeats 4000000 in
set_option maxRecDepth 100000 in
theorem c_X_leastFreeEnclave {l : Launch} {D : va_G} {ad : Nat → Nat} {ca : Nat → ClassId} {x : va_W} {S : St}   : CtX l D ad ca x y_X_leastFreeEnclave b_X_leastFreeEnclave 2 (some .int) 0 [.ref (ad 0)] S S (some (.int (lfeS S 0 4))) := by
  refine ev_ent [some (.ref (ad 0)), none] rfl (by decide) (Nat.le_of_ble_eq_true rfl) rfl gTT (fun p e s m args below meth c A X hr hk => ?_)
  have loop : ∀ (r k : Nat), k + r = 4 → lfeS S 0 4 = lfeS S k r → EV p l e (rmd 0) s m args below meth c 0 0 (MQ below (QQ clX D A (ly_w lyX 41 ad ca S x) (some (.int (lfeS S 0 4)))) args s 0 0 A) 2 D clX A s.heap (ly_w lyX 41 ad ca S x) 2 [some (.ref (ad 0)), some (.int (nI k))] [] := by
    intro r
    induction r with
    | zero =>
      intro k q1 q2
      refine ev_iload_n X d_X_leastFreeEnclave_2 rfl ?_
      refine ev_iconst (v := 4) X d_X_leastFreeEnclave_3 (by decide) ?_
      refine ev_icmp_ge (tgt := 27) X d_X_leastFreeEnclave_4 (by decide) (fun h4 => ?_) (fun h4 => ?_)
      · refine ev_iconst (v := (-1)) X d_X_leastFreeEnclave_27 (by decide) ?_
        exact ev_iretL X hr hk d_X_leastFreeEnclave_28 (by rw [q2]; rfl) (rfl)
      · exact absurd (nI_le (a := 4) (by omega) (by omega)) h4
    | succ r ih =>
      intro k q1 q2
      refine ev_iload_n X d_X_leastFreeEnclave_2 rfl ?_
      refine ev_iconst (v := 4) X d_X_leastFreeEnclave_3 (by decide) ?_
      refine ev_icmp_ge (tgt := 27) X d_X_leastFreeEnclave_4 (by decide) (fun h4 => ?_) (fun h4 => ?_)
      · exact absurd h4 (nI_ge (b := 4) (by omega) (by decide))
      · refine ev_aload_n X d_X_leastFreeEnclave_7 rfl ?_
        refine ev_getR X f_X_22 lo_this rfl d_X_leastFreeEnclave_8 ?_
        refine ev_iload_n X d_X_leastFreeEnclave_11 rfl ?_
        refine ev_aald X lr_en rfl rfl (show k < 4 by omega) d_X_leastFreeEnclave_12 ?_
        refine ev_getI X f_X_86 (lo_en (show k < 4 by omega)) rfl d_X_leastFreeEnclave_13 ?_
        refine ev_if_ne (tgt := 21) X d_X_leastFreeEnclave_16 (by decide) (fun h16 => ?_) (fun h16 => ?_)
        · refine ev_iinc (v := nI (k + 1)) X d_X_leastFreeEnclave_21 rfl (nI_1 k) (by decide) ?_
          refine ev_goto (tgt := 2) X d_X_leastFreeEnclave_24 (by decide) ?_
          exact ih (k + 1) (by omega) (by rw [q2]; simp [lfeS, h16])
        · refine ev_iload_n X d_X_leastFreeEnclave_19 rfl ?_
          exact ev_iretL X hr hk d_X_leastFreeEnclave_20 (by rw [q2]; simp [lfeS, h4, h16]) (rfl)
  refine ev_iconst (v := 0) X d_X_leastFreeEnclave_0 (by decide) ?_
  refine ev_istore_n X d_X_leastFreeEnclave_1 (by decide) ?_
  exact loop 4 0 rfl rfl
set_option maxHeartbeats 4000000 in
set_option maxRecDepth 100000 in
theorem c_X_setOwner {l : Launch} {D : va_G} {ad : Nat → Nat} {ca : Nat → ClassId} {x : va_W} {S : St} {i f n : Nat} {v : Int32} (L : LyO lyX 41 i 3 (flE i)) (hf : S i 2 = nI f) (hn : S i 3 = nI n) (hfn : f + n ≤ 16) : CtX l D ad ca x y_X_setOwner b_X_setOwner 5 none 0 [.ref (ad 0), .ref (ad i), .int v] S (fil S 2 f (f + n) v) none := by
  refine ev_ent [some (.ref (ad 0)), some (.ref (ad i)), some (.int v), none, none] rfl (by decide) (Nat.le_of_ble_eq_true rfl) rfl gTT (fun p e s m args below meth c A X hr hk => ?_)
  have loop : ∀ (r k : Nat), k + r = f + n → f ≤ k → EV p l e (rmd 0) s m args below meth c 0 0 (MQ below (QQ clX D A (ly_w lyX 41 ad ca (fil S 2 f (f + n) v) x) none) args s 0 0 A) 5 D clX A s.heap (ly_w lyX 41 ad ca (fil S 2 f k v) x) 16 [some (.ref (ad 0)), some (.ref (ad i)), some (.int v), some (.int (nI (f + n))), some (.int (nI k))] [] := by
    intro r
    induction r with
    | zero =>
      intro k q1 q2
      refine ev_iload X d_X_setOwner_16 rfl ?_
      refine ev_iload_n X d_X_setOwner_18 rfl ?_
      refine ev_icmp_ge (tgt := 36) X d_X_setOwner_19 (by decide) (fun h19 => ?_) (fun h19 => ?_)
      · exact ev_vretL X hr hk d_X_setOwner_36 (by rw [show k = f + n by omega])
      · exact absurd (nI_le (by omega) (by omega)) h19
    | succ r ih =>
      intro k q1 q2
      refine ev_iload X d_X_setOwner_16 rfl ?_
      refine ev_iload_n X d_X_setOwner_18 rfl ?_
      refine ev_icmp_ge (tgt := 36) X d_X_setOwner_19 (by decide) (fun h19 => ?_) (fun h19 => ?_)
      · exact absurd h19 (nI_ge (by omega) (by omega))
      · refine ev_aload_n X d_X_setOwner_22 rfl ?_
        refine ev_getR X f_X_17 lo_this rfl d_X_setOwner_23 ?_
        refine ev_iload X d_X_setOwner_26 rfl ?_
        refine ev_iload_n X d_X_setOwner_28 rfl ?_
        refine ev_iast X li_own rfl rfl (by omega) d_X_setOwner_29 ?_
        refine ev_iinc (v := nI (k + 1)) X d_X_setOwner_30 rfl (nI_1 k) (by decide) ?_
        refine ev_goto (tgt := 16) X d_X_setOwner_33 (by decide) ?_
        rw [fil_up (by omega)]
        exact ih (k + 1) (by omega) (by omega)
  refine ev_aload_n X d_X_setOwner_0 rfl ?_
  refine ev_getI X f_X_148 L rfl d_X_setOwner_1 ?_
  refine ev_aload_n X d_X_setOwner_4 rfl ?_
  refine ev_getI X f_X_151 L rfl d_X_setOwner_5 ?_
  refine ev_iadd X d_X_setOwner_8 ?_
  refine ev_topi (v := nI (f + n)) (by rw [hf, hn, nI_add]) ?_
  refine ev_istore_n X d_X_setOwner_9 (by decide) ?_
  refine ev_aload_n X d_X_setOwner_10 rfl ?_
  refine ev_getI X f_X_148 L rfl d_X_setOwner_11 ?_
  refine ev_topi hf ?_
  refine ev_istore X d_X_setOwner_14 (by decide) ?_
  refine ev_of (w1 := ly_w lyX 41 ad ca (fil S 2 f f v) x) (by rw [fil_nil]) rfl rfl rfl ?_
  exact loop n f rfl (by omega)
set_option maxHeartbeats 4000000 in
set_option maxRecDepth 100000 in
theorem c_X_measure {l : Launch} {D : va_G} {ad : Nat → Nat} {ca : Nat → ClassId} {x : va_W} {S : St} {i f n : Nat} (L : LyO lyX 41 i 3 (flE i)) (hf : S i 2 = nI f) (hn : S i 3 = nI n) (hfn : f + n ≤ 16) : CtX l D ad ca x y_X_measure b_X_measure 5 (some .int) 1 [.ref (ad 0), .ref (ad i)] S S (some (.int (meaS S i f n))) := by
  refine ev_ent [some (.ref (ad 0)), some (.ref (ad i)), none, none, none] rfl (by decide) (Nat.le_of_ble_eq_true rfl) rfl gTT (fun p e s m args below meth c A X hr hk => ?_)
  have loop : ∀ (r k : Nat) (u : Int32), k + r = 16 * (f + n) → meaS S i f n = mfold (S 1) r k u → EV p l e (rmd 1) s m args below meth c 0 0 (MQ below (QQ clX D A (ly_w lyX 41 ad ca S x) (some (.int (meaS S i f n)))) args s 0 0 A) 5 D clX A s.heap (ly_w lyX 41 ad ca S x) 28 [some (.ref (ad 0)), some (.ref (ad i)), some (.int u), some (.int (nI (16 * (f + n)))), some (.int (nI k))] [] := by
    intro r
    induction r with
    | zero =>
      intro k u q1 q2
      refine ev_iload X d_X_measure_28 rfl ?_
      refine ev_iload_n X d_X_measure_30 rfl ?_
      refine ev_icmp_ge (tgt := 52) X d_X_measure_31 (by decide) (fun h31 => ?_) (fun h31 => ?_)
      · refine ev_iload_n X d_X_measure_52 rfl ?_
        exact ev_iretL X hr hk d_X_measure_53 (by rw [q2, mfold_zero]) (rfl)
      · exact absurd (nI_le (by omega) (by omega)) h31
    | succ r ih =>
      intro k u q1 q2
      refine ev_iload X d_X_measure_28 rfl ?_
      refine ev_iload_n X d_X_measure_30 rfl ?_
      refine ev_icmp_ge (tgt := 52) X d_X_measure_31 (by decide) (fun h31 => ?_) (fun h31 => ?_)
      · exact absurd h31 (nI_ge (by omega) (by omega))
      · refine ev_iload_n X d_X_measure_34 rfl ?_
        refine ev_aload_n X d_X_measure_35 rfl ?_
        refine ev_getR X f_X_13 lo_this rfl d_X_measure_36 ?_
        refine ev_iload X d_X_measure_39 rfl ?_
        refine ev_iald X li_mem rfl rfl (by omega) d_X_measure_41 ?_
        refine ev_cS1 X m_X_174 c_X_mix (by decide) (by decide) d_X_measure_42 rfl rfl (Nat.le_of_ble_eq_true rfl) ?_
        refine ev_istore_n X d_X_measure_45 (by decide) ?_
        refine ev_iinc (v := nI (k + 1)) X d_X_measure_46 rfl (nI_1 k) (by decide) ?_
        refine ev_goto (tgt := 28) X d_X_measure_49 (by decide) ?_
        exact ih (k + 1) _ (by omega) (by rw [q2, mfold_succ])
  refine ev_aload_n X d_X_measure_0 rfl ?_
  refine ev_getI X f_X_151 L rfl d_X_measure_1 ?_
  refine ev_aload_n X d_X_measure_4 rfl ?_
  refine ev_getI X f_X_154 L rfl d_X_measure_5 ?_
  refine ev_aload_n X d_X_measure_8 rfl ?_
  refine ev_cV1 X m_X_171 (c_E_firstWord L) L rfl rfl (by decide) (by decide) d_X_measure_9 rfl rfl (Nat.le_of_ble_eq_true rfl) ?_
  refine ev_isub X d_X_measure_12 ?_
  refine ev_cS1 X m_X_174 c_X_mix (by decide) (by decide) d_X_measure_13 rfl rfl (Nat.le_of_ble_eq_true rfl) ?_
  refine ev_istore_n X d_X_measure_16 (by decide) ?_
  refine ev_aload_n X d_X_measure_17 rfl ?_
  refine ev_cV1 X m_X_168 (c_E_endWord L) L rfl rfl (by decide) (by decide) d_X_measure_18 rfl rfl (Nat.le_of_ble_eq_true rfl) ?_
  refine ev_topi (v := nI (16 * (f + n))) (by rw [hf, hn, nI_add, w16]) ?_
  refine ev_istore_n X d_X_measure_21 (by decide) ?_
  refine ev_aload_n X d_X_measure_22 rfl ?_
  refine ev_cV1 X m_X_171 (c_E_firstWord L) L rfl rfl (by decide) (by decide) d_X_measure_23 rfl rfl (Nat.le_of_ble_eq_true rfl) ?_
  refine ev_topi (v := nI (16 * f)) (by rw [hf, w16]) ?_
  refine ev_istore X d_X_measure_26 (by decide) ?_
  exact loop (16 * n) (16 * f) _ (by omega) (by rw [meaS])
theorem nI_m1 {k : Nat} (h : ¬ nI k = 0) : nI k - 1 = nI (k - 1) := by
  cases k with
  | zero => exact absurd rfl h
  | succ k => exact nI_pred k
theorem nI_z {k : Nat} (h : nI k = 0) (hk : k < 2 ^ 31) : k = 0 := by
  by_cases h0 : k = 0
  · exact h0
  · exact absurd h (nI_ne0 (by omega) hk)
theorem nI_nz {k : Nat} (h : ¬ nI k = 0) : ¬ k = 0 := fun q => h (by rw [q]; rfl)
theorem inr_of {z n : Int32} (h1 : ¬ z < 0) (h2 : z < n) : inr z n = true := by
  have h3 : ¬ n ≤ z := Int32.not_le.mpr h2
  simp [inr, h1, h3]
set_option maxHeartbeats 4000000 in
set_option maxRecDepth 100000 in
theorem c_X_isAllowed {l : Launch} {D : va_G} {ad : Nat → Nat} {ca : Nat → ClassId} {x : va_W} {S : St} {i : Nat} {z b : Int32} (L : LyO lyX 41 i 2 (flP i)) : CtX l D ad ca x y_X_isAllowed b_X_isAllowed 6 (some .boolean) 1 [.ref (ad 0), .ref (ad i), .int z, .int b] S S (some (.int (b2i (alw S i z b)))) := by
  refine ev_ent [some (.ref (ad 0)), some (.ref (ad i)), some (.int z), some (.int b), none, none] rfl (by decide) (Nat.le_of_ble_eq_true rfl) rfl gTT (fun p e s m args below meth c A X hr hk => ?_)
  have loop : ∀ (r k : Nat) (o : Option Value), k + r = 11 → alw S i z b = alG S i z b r k → EV p l e (rmd 1) s m args below meth c 0 0 (MQ below (QQ clX D A (ly_w lyX 41 ad ca S x) (some (.int (b2i (alw S i z b))))) args s 0 0 A) 6 D clX A s.heap (ly_w lyX 41 ad ca S x) 12 [some (.ref (ad 0)), some (.ref (ad i)), some (.int z), some (.int b), some (.int (nI k)), o] [] := by
    intro r
    induction r with
    | zero =>
      intro k o q1 q2
      refine ev_iload X d_X_isAllowed_12 rfl ?_
      refine ev_bipush (v := 11) X d_X_isAllowed_14 (by decide) ?_
      refine ev_icmp_ge (tgt := 85) X d_X_isAllowed_16 (by decide) (fun h16 => ?_) (fun h16 => ?_)
      · refine ev_iconst (v := 0) X d_X_isAllowed_85 (by decide) ?_
        exact ev_zretL X hr hk d_X_isAllowed_86 (by rw [q2]; rfl) (rfl)
      · exact absurd (nI_le (a := 11) (by omega) (by omega)) h16
    | succ r ih =>
      intro k o q1 q2
      refine ev_iload X d_X_isAllowed_12 rfl ?_
      refine ev_bipush (v := 11) X d_X_isAllowed_14 (by decide) ?_
      refine ev_icmp_ge (tgt := 85) X d_X_isAllowed_16 (by decide) (fun h16 => ?_) (fun h16 => ?_)
      · exact absurd h16 (nI_ge (b := 11) (by omega) (by decide))
      · refine ev_iload X d_X_isAllowed_19 rfl ?_
        refine ev_if_ne (tgt := 28) X d_X_isAllowed_21 (by decide) (fun h21 => ?_) (fun h21 => ?_)
        · refine ev_aload_n X d_X_isAllowed_28 rfl ?_
          refine ev_getR X f_X_133 L rfl d_X_isAllowed_29 ?_
          refine ev_iload X d_X_isAllowed_32 rfl ?_
          refine ev_iconst (v := 1) X d_X_isAllowed_34 (by decide) ?_
          refine ev_isub X d_X_isAllowed_35 ?_
          refine ev_aald X (lr_gd L) rfl (nI_m1 h21) (show k - 1 < 11 by omega) d_X_isAllowed_36 ?_
          refine ev_getI X f_X_145 (lo_gd L (show k - 1 < 11 by omega)) rfl d_X_isAllowed_37 ?_
          refine ev_topi (v := befS S i k) (by first | (rw [hk0]; rfl) | (rw [befS, if_neg (nI_nz h21)])) ?_
          refine ev_istore X d_X_isAllowed_40 (by decide) ?_
          refine ev_aload_n X d_X_isAllowed_42 rfl ?_
          refine ev_getR X f_X_133 L rfl d_X_isAllowed_43 ?_
          refine ev_iload X d_X_isAllowed_46 rfl ?_
          refine ev_aald X (lr_gd L) rfl rfl (show k < 11 by omega) d_X_isAllowed_48 ?_
          refine ev_iload_n X d_X_isAllowed_49 rfl ?_
          refine ev_iload X d_X_isAllowed_50 rfl ?_
          refine ev_cV1 X m_X_181 (c_G_matches (lo_gd L (show k < 11 by omega))) (lo_gd L (show k < 11 by omega)) rfl rfl (by decide) (by decide) d_X_isAllowed_52 rfl rfl (Nat.le_of_ble_eq_true rfl) ?_
          refine ev_if_eqB (tgt := 79) X d_X_isAllowed_55 (by decide) (fun h55 => ?_) (fun h55 => ?_)
          · refine ev_iinc (v := nI (k + 1)) X d_X_isAllowed_79 rfl (nI_1 k) (by decide) ?_
            refine ev_goto (tgt := 12) X d_X_isAllowed_82 (by decide) ?_
            exact ih (k + 1) _ (by omega) (by rw [q2, alG_f h55])
          · refine ev_aload_n X d_X_isAllowed_58 rfl ?_
            refine ev_getR X f_X_133 L rfl d_X_isAllowed_59 ?_
            refine ev_iload X d_X_isAllowed_62 rfl ?_
            refine ev_aald X (lr_gd L) rfl rfl (show k < 11 by omega) d_X_isAllowed_64 ?_
            refine ev_getI X f_X_142 (lo_gd L (show k < 11 by omega)) rfl d_X_isAllowed_65 ?_
            refine ev_iload_n X d_X_isAllowed_68 rfl ?_
            refine ev_iand X d_X_isAllowed_69 ?_
            refine ev_if_eq (tgt := 77) X d_X_isAllowed_70 (by decide) (fun h70 => ?_) (fun h70 => ?_)
            · refine ev_iconst (v := 0) X d_X_isAllowed_77 (by decide) ?_
              exact ev_zretL X hr hk d_X_isAllowed_78 (by rw [q2, alG_t h55]; first | (rw [decide_eq_true h70]; rfl) | (rw [decide_eq_false h70]; rfl)) (rfl)
            · refine ev_iconst (v := 1) X d_X_isAllowed_73 (by decide) ?_
              refine ev_goto (tgt := 78) X d_X_isAllowed_74 (by decide) ?_
              exact ev_zretL X hr hk d_X_isAllowed_78 (by rw [q2, alG_t h55]; first | (rw [decide_eq_true h70]; rfl) | (rw [decide_eq_false h70]; rfl)) (rfl)
        · have hk0 : k = 0 := nI_z h21 (by omega)
          refine ev_iconst (v := 0) X d_X_isAllowed_24 (by decide) ?_
          refine ev_goto (tgt := 40) X d_X_isAllowed_25 (by decide) ?_
          refine ev_topi (v := befS S i k) (by first | (rw [hk0]; rfl) | (rw [befS, if_neg (nI_nz h21)])) ?_
          refine ev_istore X d_X_isAllowed_40 (by decide) ?_
          refine ev_aload_n X d_X_isAllowed_42 rfl ?_
          refine ev_getR X f_X_133 L rfl d_X_isAllowed_43 ?_
          refine ev_iload X d_X_isAllowed_46 rfl ?_
          refine ev_aald X (lr_gd L) rfl rfl (show k < 11 by omega) d_X_isAllowed_48 ?_
          refine ev_iload_n X d_X_isAllowed_49 rfl ?_
          refine ev_iload X d_X_isAllowed_50 rfl ?_
          refine ev_cV1 X m_X_181 (c_G_matches (lo_gd L (show k < 11 by omega))) (lo_gd L (show k < 11 by omega)) rfl rfl (by decide) (by decide) d_X_isAllowed_52 rfl rfl (Nat.le_of_ble_eq_true rfl) ?_
          refine ev_if_eqB (tgt := 79) X d_X_isAllowed_55 (by decide) (fun h55 => ?_) (fun h55 => ?_)
          · refine ev_iinc (v := nI (k + 1)) X d_X_isAllowed_79 rfl (nI_1 k) (by decide) ?_
            refine ev_goto (tgt := 12) X d_X_isAllowed_82 (by decide) ?_
            exact ih (k + 1) _ (by omega) (by rw [q2, alG_f h55])
          · refine ev_aload_n X d_X_isAllowed_58 rfl ?_
            refine ev_getR X f_X_133 L rfl d_X_isAllowed_59 ?_
            refine ev_iload X d_X_isAllowed_62 rfl ?_
            refine ev_aald X (lr_gd L) rfl rfl (show k < 11 by omega) d_X_isAllowed_64 ?_
            refine ev_getI X f_X_142 (lo_gd L (show k < 11 by omega)) rfl d_X_isAllowed_65 ?_
            refine ev_iload_n X d_X_isAllowed_68 rfl ?_
            refine ev_iand X d_X_isAllowed_69 ?_
            refine ev_if_eq (tgt := 77) X d_X_isAllowed_70 (by decide) (fun h70 => ?_) (fun h70 => ?_)
            · refine ev_iconst (v := 0) X d_X_isAllowed_77 (by decide) ?_
              exact ev_zretL X hr hk d_X_isAllowed_78 (by rw [q2, alG_t h55]; first | (rw [decide_eq_true h70]; rfl) | (rw [decide_eq_false h70]; rfl)) (rfl)
            · refine ev_iconst (v := 1) X d_X_isAllowed_73 (by decide) ?_
              refine ev_goto (tgt := 78) X d_X_isAllowed_74 (by decide) ?_
              exact ev_zretL X hr hk d_X_isAllowed_78 (by rw [q2, alG_t h55]; first | (rw [decide_eq_true h70]; rfl) | (rw [decide_eq_false h70]; rfl)) (rfl)
  refine ev_iload_n X d_X_isAllowed_0 rfl ?_
  refine ev_cS1 X m_X_178 c_X_isAddress (by decide) (by decide) d_X_isAllowed_1 rfl rfl (Nat.le_of_ble_eq_true rfl) ?_
  refine ev_if_neB (tgt := 9) X d_X_isAllowed_4 (by decide) (fun h4 => ?_) (fun h4 => ?_)
  · refine ev_iconst (v := 0) X d_X_isAllowed_9 (by decide) ?_
    refine ev_istore X d_X_isAllowed_10 (by decide) ?_
    exact loop 11 0 _ rfl (by simp [alw, h4])
  · refine ev_iconst (v := 0) X d_X_isAllowed_7 (by decide) ?_
    exact ev_zretL X hr hk d_X_isAllowed_8 (by simp [alw, b2i, h4]) (rfl)
theorem shS_ex {z : Int32} (h : shS z = true) (h2 : ¬ z = -1) : ∃ k, k ≤ 271 ∧ z = nI k := by
  simp only [shS, Bool.and_eq_true, Bool.not_eq_true', decide_eq_false_iff_not] at h
  obtain ⟨h0, h1⟩ := h
  have a1 : ¬ z.toInt < -1 := fun q => h0 (Int32.lt_iff_toInt_lt.mpr (by simpa using q))
  have a2 : ¬ z.toInt = -1 := fun q => h2 (Int32.toInt_inj.mp (by simpa using q))
  have a3 : ¬ 271 < z.toInt := fun q => h1 (Int32.lt_iff_toInt_lt.mpr (by simpa using q))
  have h3 : ¬ z < 0 := fun q => by
    have := Int32.lt_iff_toInt_lt.mp q
    simp at this
    omega
  obtain ⟨j, hj, rfl⟩ := nI_of h3
  rw [nI_toInt hj] at a3
  exact ⟨j, by omega, rfl⟩
theorem canP_nI {k : Nat} (hk : k ≤ 271) : canP (nI k) = nI (if k < 256 then k / 16 else k - 256) := by
  unfold canP
  by_cases h : k < 256
  · rw [if_pos (show nI k < 256 from nI_lt (b := 256) h (by decide)), if_pos h]
    exact pk_div (d := 16) (by omega) (by decide) (by decide)
  · rw [if_neg (show ¬ nI k < 256 from nI_nlt (b := 256) (by omega) (by omega)), if_neg h]
    exact pk_sub (b := 256) (by omega)
theorem canP_in {z : Int32} (h : shS z = true) (h2 : ¬ z = -1) : inr (canP z) 16 = true := by
  obtain ⟨k, hk, rfl⟩ := shS_ex h h2
  rw [canP_nI hk]
  refine inr_nI (k := 16) ?_ (by decide)
  split <;> omega
set_option maxHeartbeats 4000000 in
set_option maxRecDepth 100000 in
theorem c_X_canShare {l : Launch} {D : va_G} {ad : Nat → Nat} {ca : Nat → ClassId} {x : va_W} {S : St} {z f n : Int32} (hz : shS z = true) : CtX l D ad ca x y_X_canShare b_X_canShare 6 (some .boolean) 0 [.ref (ad 0), .int z, .int f, .int n] S S (some (.int (b2i (canS S z f n)))) := by
  refine ev_ent [some (.ref (ad 0)), some (.int z), some (.int f), some (.int n), none, none] rfl (by decide) (Nat.le_of_ble_eq_true rfl) rfl gTT (fun p e s m args below meth c A X hr hk => ?_)
  refine ev_iload_n X d_X_canShare_0 rfl ?_
  refine ev_iconst (v := (-1)) X d_X_canShare_1 (by decide) ?_
  refine ev_icmp_ne (tgt := 7) X d_X_canShare_2 (by decide) (fun h2 => ?_) (fun h2 => ?_)
  · refine ev_iload_n X d_X_canShare_7 rfl ?_
    refine ev_sipush (v := 256) X d_X_canShare_8 (by decide) ?_
    refine ev_icmp_lt (tgt := 22) X d_X_canShare_11 (by decide) (fun h11 => ?_) (fun h11 => ?_)
    · refine ev_iload_n X d_X_canShare_22 rfl ?_
      refine ev_bipush (v := 16) X d_X_canShare_23 (by decide) ?_
      refine ev_idiv X d_X_canShare_25 (by decide) ?_
      refine ev_topi (v := canP z) (by simp [canP, h2, h11]) ?_
      refine ev_istore X d_X_canShare_26 (by decide) ?_
      refine ev_iload X d_X_canShare_28 rfl ?_
      refine ev_iload_n X d_X_canShare_30 rfl ?_
      refine ev_icmp_lt (tgt := 46) X d_X_canShare_31 (by decide) (fun h31 => ?_) (fun h31 => ?_)
      · refine ev_iconst (v := 0) X d_X_canShare_46 (by decide) ?_
        refine ev_istore X d_X_canShare_47 (by decide) ?_
        refine ev_aload_n X d_X_canShare_49 rfl ?_
        refine ev_getR X f_X_17 lo_this rfl d_X_canShare_50 ?_
        refine ev_iload X d_X_canShare_53 rfl ?_
        refine ev_iald X li_own rfl (inr_z (canP_in hz h2)) (inr_j (k := 16) rfl (by decide) (canP_in hz h2)) d_X_canShare_55 ?_
        refine ev_iconst (v := 1) X d_X_canShare_56 (by decide) ?_
        refine ev_icmp_ne (tgt := 69) X d_X_canShare_57 (by decide) (fun h57 => ?_) (fun h57 => ?_)
        · refine ev_iconst (v := 0) X d_X_canShare_69 (by decide) ?_
          exact ev_zretL X hr hk d_X_canShare_70 (by simp [canS, b2i, h2, h11, h31, h57]) (rfl)
        · refine ev_iload X d_X_canShare_60 rfl ?_
          refine ev_if_ne (tgt := 69) X d_X_canShare_62 (by decide) (fun h62 => ?_) (fun h62 => ?_)
          · exact absurd h62 (by decide)
          · refine ev_iconst (v := 1) X d_X_canShare_65 (by decide) ?_
            refine ev_goto (tgt := 70) X d_X_canShare_66 (by decide) ?_
            exact ev_zretL X hr hk d_X_canShare_70 (by simp [canS, b2i, h2, h11, h31, h57, h62]) (rfl)
      · refine ev_iload X d_X_canShare_34 rfl ?_
        refine ev_iload_n X d_X_canShare_36 rfl ?_
        refine ev_iload_n X d_X_canShare_37 rfl ?_
        refine ev_iadd X d_X_canShare_38 ?_
        refine ev_icmp_ge (tgt := 46) X d_X_canShare_39 (by decide) (fun h39 => ?_) (fun h39 => ?_)
        · refine ev_iconst (v := 0) X d_X_canShare_46 (by decide) ?_
          refine ev_istore X d_X_canShare_47 (by decide) ?_
          refine ev_aload_n X d_X_canShare_49 rfl ?_
          refine ev_getR X f_X_17 lo_this rfl d_X_canShare_50 ?_
          refine ev_iload X d_X_canShare_53 rfl ?_
          refine ev_iald X li_own rfl (inr_z (canP_in hz h2)) (inr_j (k := 16) rfl (by decide) (canP_in hz h2)) d_X_canShare_55 ?_
          refine ev_iconst (v := 1) X d_X_canShare_56 (by decide) ?_
          refine ev_icmp_ne (tgt := 69) X d_X_canShare_57 (by decide) (fun h57 => ?_) (fun h57 => ?_)
          · refine ev_iconst (v := 0) X d_X_canShare_69 (by decide) ?_
            exact ev_zretL X hr hk d_X_canShare_70 (by simp [canS, b2i, h2, h11, h31, h39, h57]) (rfl)
          · refine ev_iload X d_X_canShare_60 rfl ?_
            refine ev_if_ne (tgt := 69) X d_X_canShare_62 (by decide) (fun h62 => ?_) (fun h62 => ?_)
            · exact absurd h62 (by decide)
            · refine ev_iconst (v := 1) X d_X_canShare_65 (by decide) ?_
              refine ev_goto (tgt := 70) X d_X_canShare_66 (by decide) ?_
              exact ev_zretL X hr hk d_X_canShare_70 (by simp [canS, b2i, h2, h11, h31, h39, h57, h62]) (rfl)
        · refine ev_iconst (v := 1) X d_X_canShare_42 (by decide) ?_
          refine ev_goto (tgt := 47) X d_X_canShare_43 (by decide) ?_
          refine ev_istore X d_X_canShare_47 (by decide) ?_
          refine ev_aload_n X d_X_canShare_49 rfl ?_
          refine ev_getR X f_X_17 lo_this rfl d_X_canShare_50 ?_
          refine ev_iload X d_X_canShare_53 rfl ?_
          refine ev_iald X li_own rfl (inr_z (canP_in hz h2)) (inr_j (k := 16) rfl (by decide) (canP_in hz h2)) d_X_canShare_55 ?_
          refine ev_iconst (v := 1) X d_X_canShare_56 (by decide) ?_
          refine ev_icmp_ne (tgt := 69) X d_X_canShare_57 (by decide) (fun h57 => ?_) (fun h57 => ?_)
          · refine ev_iconst (v := 0) X d_X_canShare_69 (by decide) ?_
            exact ev_zretL X hr hk d_X_canShare_70 (by simp [canS, b2i, h2, h11, h31, h39, h57]) (rfl)
          · refine ev_iload X d_X_canShare_60 rfl ?_
            refine ev_if_ne (tgt := 69) X d_X_canShare_62 (by decide) (fun h62 => ?_) (fun h62 => ?_)
            · refine ev_iconst (v := 0) X d_X_canShare_69 (by decide) ?_
              exact ev_zretL X hr hk d_X_canShare_70 (by simp [canS, b2i, h2, h11, h31, h39, h57, h62]) (rfl)
            · exact absurd h62 (by decide)
    · refine ev_iload_n X d_X_canShare_14 rfl ?_
      refine ev_sipush (v := 256) X d_X_canShare_15 (by decide) ?_
      refine ev_isub X d_X_canShare_18 ?_
      refine ev_goto (tgt := 26) X d_X_canShare_19 (by decide) ?_
      refine ev_topi (v := canP z) (by simp [canP, h2, h11]) ?_
      refine ev_istore X d_X_canShare_26 (by decide) ?_
      refine ev_iload X d_X_canShare_28 rfl ?_
      refine ev_iload_n X d_X_canShare_30 rfl ?_
      refine ev_icmp_lt (tgt := 46) X d_X_canShare_31 (by decide) (fun h31 => ?_) (fun h31 => ?_)
      · refine ev_iconst (v := 0) X d_X_canShare_46 (by decide) ?_
        refine ev_istore X d_X_canShare_47 (by decide) ?_
        refine ev_aload_n X d_X_canShare_49 rfl ?_
        refine ev_getR X f_X_17 lo_this rfl d_X_canShare_50 ?_
        refine ev_iload X d_X_canShare_53 rfl ?_
        refine ev_iald X li_own rfl (inr_z (canP_in hz h2)) (inr_j (k := 16) rfl (by decide) (canP_in hz h2)) d_X_canShare_55 ?_
        refine ev_iconst (v := 1) X d_X_canShare_56 (by decide) ?_
        refine ev_icmp_ne (tgt := 69) X d_X_canShare_57 (by decide) (fun h57 => ?_) (fun h57 => ?_)
        · refine ev_iconst (v := 0) X d_X_canShare_69 (by decide) ?_
          exact ev_zretL X hr hk d_X_canShare_70 (by simp [canS, b2i, h2, h11, h31, h57]) (rfl)
        · refine ev_iload X d_X_canShare_60 rfl ?_
          refine ev_if_ne (tgt := 69) X d_X_canShare_62 (by decide) (fun h62 => ?_) (fun h62 => ?_)
          · exact absurd h62 (by decide)
          · refine ev_iconst (v := 1) X d_X_canShare_65 (by decide) ?_
            refine ev_goto (tgt := 70) X d_X_canShare_66 (by decide) ?_
            exact ev_zretL X hr hk d_X_canShare_70 (by simp [canS, b2i, h2, h11, h31, h57, h62]) (rfl)
      · refine ev_iload X d_X_canShare_34 rfl ?_
        refine ev_iload_n X d_X_canShare_36 rfl ?_
        refine ev_iload_n X d_X_canShare_37 rfl ?_
        refine ev_iadd X d_X_canShare_38 ?_
        refine ev_icmp_ge (tgt := 46) X d_X_canShare_39 (by decide) (fun h39 => ?_) (fun h39 => ?_)
        · refine ev_iconst (v := 0) X d_X_canShare_46 (by decide) ?_
          refine ev_istore X d_X_canShare_47 (by decide) ?_
          refine ev_aload_n X d_X_canShare_49 rfl ?_
          refine ev_getR X f_X_17 lo_this rfl d_X_canShare_50 ?_
          refine ev_iload X d_X_canShare_53 rfl ?_
          refine ev_iald X li_own rfl (inr_z (canP_in hz h2)) (inr_j (k := 16) rfl (by decide) (canP_in hz h2)) d_X_canShare_55 ?_
          refine ev_iconst (v := 1) X d_X_canShare_56 (by decide) ?_
          refine ev_icmp_ne (tgt := 69) X d_X_canShare_57 (by decide) (fun h57 => ?_) (fun h57 => ?_)
          · refine ev_iconst (v := 0) X d_X_canShare_69 (by decide) ?_
            exact ev_zretL X hr hk d_X_canShare_70 (by simp [canS, b2i, h2, h11, h31, h39, h57]) (rfl)
          · refine ev_iload X d_X_canShare_60 rfl ?_
            refine ev_if_ne (tgt := 69) X d_X_canShare_62 (by decide) (fun h62 => ?_) (fun h62 => ?_)
            · exact absurd h62 (by decide)
            · refine ev_iconst (v := 1) X d_X_canShare_65 (by decide) ?_
              refine ev_goto (tgt := 70) X d_X_canShare_66 (by decide) ?_
              exact ev_zretL X hr hk d_X_canShare_70 (by simp [canS, b2i, h2, h11, h31, h39, h57, h62]) (rfl)
        · refine ev_iconst (v := 1) X d_X_canShare_42 (by decide) ?_
          refine ev_goto (tgt := 47) X d_X_canShare_43 (by decide) ?_
          refine ev_istore X d_X_canShare_47 (by decide) ?_
          refine ev_aload_n X d_X_canShare_49 rfl ?_
          refine ev_getR X f_X_17 lo_this rfl d_X_canShare_50 ?_
          refine ev_iload X d_X_canShare_53 rfl ?_
          refine ev_iald X li_own rfl (inr_z (canP_in hz h2)) (inr_j (k := 16) rfl (by decide) (canP_in hz h2)) d_X_canShare_55 ?_
          refine ev_iconst (v := 1) X d_X_canShare_56 (by decide) ?_
          refine ev_icmp_ne (tgt := 69) X d_X_canShare_57 (by decide) (fun h57 => ?_) (fun h57 => ?_)
          · refine ev_iconst (v := 0) X d_X_canShare_69 (by decide) ?_
            exact ev_zretL X hr hk d_X_canShare_70 (by simp [canS, b2i, h2, h11, h31, h39, h57]) (rfl)
          · refine ev_iload X d_X_canShare_60 rfl ?_
            refine ev_if_ne (tgt := 69) X d_X_canShare_62 (by decide) (fun h62 => ?_) (fun h62 => ?_)
            · refine ev_iconst (v := 0) X d_X_canShare_69 (by decide) ?_
              exact ev_zretL X hr hk d_X_canShare_70 (by simp [canS, b2i, h2, h11, h31, h39, h57, h62]) (rfl)
            · exact absurd h62 (by decide)
  · refine ev_iconst (v := 1) X d_X_canShare_5 (by decide) ?_
    exact ev_zretL X hr hk d_X_canShare_6 (by simp [canS, b2i, h2]) (rfl)
theorem sw_out02 {z : Int32} (h1 : ¬ z = 0) (h2 : ¬ z = 1) (h3 : ¬ z = 2) : z.toInt < 0 ∨ 2 < z.toInt := by
  have a1 := lv_neT h1 (a := 0) (by decide)
  have a2 := lv_neT h2 (a := 1) (by decide)
  have a3 := lv_neT h3 (a := 2) (by decide)
  omega
def grdS (S : St) (z u v : Int32) : Int32 := if inr z 2 = true ∧ inr u 11 = true then (if v = 0 then S (13 + 14 * z.toNatClampNeg + 3 + 1 * u.toNatClampNeg) 0 else if v = 1 then S (13 + 14 * z.toNatClampNeg + 3 + 1 * u.toNatClampNeg) 1 else if v = 2 then S (13 + 14 * z.toNatClampNeg + 3 + 1 * u.toNatClampNeg) 2 else -1) else -1
set_option maxHeartbeats 4000000 in
set_option maxRecDepth 100000 in
theorem c_X_guard {l : Launch} {D : va_G} {ad : Nat → Nat} {ca : Nat → ClassId} {x : va_W} {S : St} {z u v : Int32}  : CtX l D ad ca x y_X_guard b_X_guard 5 (some .int) 1 [.ref (ad 0), .int z, .int u, .int v] S S (some (.int (grdS S z u v))) := by
  refine ev_ent [some (.ref (ad 0)), some (.int z), some (.int u), some (.int v), none] rfl (by decide) (Nat.le_of_ble_eq_true rfl) rfl gTT (fun p e s m args below meth c A X hr hk => ?_)
  refine ev_iload_n X d_X_guard_0 rfl ?_
  refine ev_cS1 X m_X_127 c_X_isProcessor (by decide) (by decide) d_X_guard_1 rfl rfl (Nat.le_of_ble_eq_true rfl) ?_
  refine ev_if_eqB (tgt := 17) X d_X_guard_4 (by decide) (fun h4 => ?_) (fun h4 => ?_)
  · refine ev_iconst (v := (-1)) X d_X_guard_17 (by decide) ?_
    exact ev_iretL X hr hk d_X_guard_18 (by first | (simp [grdS, h4]; done) | (simp [grdS, h8i]; done)) (rfl)
  · refine ev_iload_n X d_X_guard_7 rfl ?_
    refine ev_if_lt (tgt := 17) X d_X_guard_8 (by decide) (fun h8 => ?_) (fun h8 => ?_)
    · have h8i : inr u 11 = false := by simp [inr, h8]
      refine ev_iconst (v := (-1)) X d_X_guard_17 (by decide) ?_
      exact ev_iretL X hr hk d_X_guard_18 (by first | (simp [grdS, h4]; done) | (simp [grdS, h8i]; done)) (rfl)
    · refine ev_iload_n X d_X_guard_11 rfl ?_
      refine ev_bipush (v := 11) X d_X_guard_12 (by decide) ?_
      refine ev_icmp_lt (tgt := 19) X d_X_guard_14 (by decide) (fun h14 => ?_) (fun h14 => ?_)
      · refine ev_aload_n X d_X_guard_19 rfl ?_
        refine ev_getR X f_X_29 lo_this rfl d_X_guard_20 ?_
        refine ev_iload_n X d_X_guard_23 rfl ?_
        refine ev_aald X lr_pr rfl (inr_z h4) (inr_j (k := 2) rfl (by decide) h4) d_X_guard_24 ?_
        refine ev_getR X f_X_133 (lo_pr (inr_j (k := 2) rfl (by decide) h4)) rfl d_X_guard_25 ?_
        refine ev_iload_n X d_X_guard_28 rfl ?_
        refine ev_aald X (lr_gd (lo_pr (inr_j (k := 2) rfl (by decide) h4))) rfl (inr_z (inr_of h8 h14)) (inr_j (k := 11) rfl (by decide) (inr_of h8 h14)) d_X_guard_29 ?_
        refine ev_astore X d_X_guard_30 (by decide) ?_
        refine ev_iload_n X d_X_guard_32 rfl ?_
        by_cases q0 : v = 0
        · rw [q0]
          refine ev_tableIn (tgt := 60) X d_X_guard_33 (by decide) (by decide) rfl (by decide) ?_
          refine ev_aload X d_X_guard_60 rfl ?_
          refine ev_getI X f_X_137 (lo_gd (lo_pr (inr_j (k := 2) rfl (by decide) h4)) (inr_j (k := 11) rfl (by decide) (inr_of h8 h14))) rfl d_X_guard_62 ?_
          exact ev_iretL X hr hk d_X_guard_65 (by simp [grdS, h4, inr_of h8 h14, q0]) (rfl)
        · by_cases q1 : v = 1
          · rw [q1]
            refine ev_tableIn (tgt := 66) X d_X_guard_33 (by decide) (by decide) rfl (by decide) ?_
            refine ev_aload X d_X_guard_66 rfl ?_
            refine ev_getI X f_X_142 (lo_gd (lo_pr (inr_j (k := 2) rfl (by decide) h4)) (inr_j (k := 11) rfl (by decide) (inr_of h8 h14))) rfl d_X_guard_68 ?_
            exact ev_iretL X hr hk d_X_guard_71 (by simp [grdS, h4, inr_of h8 h14, q0, q1]) (rfl)
          · by_cases q2 : v = 2
            · rw [q2]
              refine ev_tableIn (tgt := 72) X d_X_guard_33 (by decide) (by decide) rfl (by decide) ?_
              refine ev_aload X d_X_guard_72 rfl ?_
              refine ev_getI X f_X_145 (lo_gd (lo_pr (inr_j (k := 2) rfl (by decide) h4)) (inr_j (k := 11) rfl (by decide) (inr_of h8 h14))) rfl d_X_guard_74 ?_
              exact ev_iretL X hr hk d_X_guard_77 (by simp [grdS, h4, inr_of h8 h14, q0, q1, q2]) (rfl)
            · refine ev_tableOut (tgt := 78) X d_X_guard_33 (sw_out02 q0 q1 q2) (by decide) ?_
              refine ev_iconst (v := (-1)) X d_X_guard_78 (by decide) ?_
              exact ev_iretL X hr hk d_X_guard_79 (by simp [grdS, h4, inr_of h8 h14, q0, q1, q2]) (rfl)
      · have h8i : inr u 11 = false := by simp [inr, Int32.not_lt.mp h14]
        refine ev_iconst (v := (-1)) X d_X_guard_17 (by decide) ?_
        exact ev_iretL X hr hk d_X_guard_18 (by first | (simp [grdS, h4]; done) | (simp [grdS, h8i]; done)) (rfl)
end
section
def PeOK (S : St) (i : Nat) : Prop := S i 2 = -1 ∨ inr (S i 2) 4 = true
theorem sG_ne {S : St} {j c : Nat} {m r a : Int32} (h : c ≠ j) : sG S j m r a c = S c := by
  unfold sG
  rw [up2_ne h, up2_ne h, up2_ne h]
theorem sB_ne {S : St} {j c : Nat} {f w r : Int32} (h : c ≠ j) : sB S j f w r c = S c := sG_ne h
theorem sEG_ne {S : St} {i lo up c : Nat} {r : Int32} (h1 : c ≠ lo) (h2 : c ≠ up) : sEG S i lo up r c = S c := by
  unfold sEG
  split
  · rw [sG_ne h2, sG_ne h1]
  · split
    · rw [sB_ne h2, sG_ne h1]
    · rw [sG_ne h2, sG_ne h1]
theorem sGe_ne {S : St} {i e c : Nat} (h : c < i + 3 ∨ i + 3 + 11 ≤ c) (he : e < 4) : sGe S i e c = S c := sEG_ne (by omega) (by omega)
theorem gLoop_ne {i c : Nat} (h : c < i + 3 ∨ i + 3 + 11 ≤ c) : ∀ (n e : Nat) (S : St), e + n ≤ 4 → gLoop i n e S c = S c
  | 0, _, _, _ => rfl
  | n + 1, e, S, he => by
    show gLoop i n (e + 1) (sGe S i e) c = S c
    rw [gLoop_ne h n (e + 1) _ (by omega), sGe_ne h (by omega)]
theorem sSh_ne {S : St} {i c : Nat} (h : c < i + 3 ∨ i + 3 + 11 ≤ c) : sSh S i c = S c := by
  unfold sSh
  split
  · exact sG_ne (by omega)
  · split
    · exact sB_ne (by omega)
    · exact sG_ne (by omega)
theorem sGs_ne {S : St} {i c : Nat} (h : c < i + 3 ∨ i + 3 + 11 ≤ c) : sGs S i c = S c := by
  unfold sGs
  rw [sB_ne (by omega), sSh_ne h, gLoop_ne h 4 0 _ (by omega), sB_ne (by omega)]
theorem gix1 (k : Nat) : 1 + 2 * nI k = nI (1 + 2 * k) := by
  rw [show (2 : Int32) = nI 2 from rfl, show (1 : Int32) = nI 1 from rfl, pk_mul, nI_add]
theorem gix2 (k : Nat) : 2 + 2 * nI k = nI (2 + 2 * k) := by
  rw [show (2 : Int32) = nI 2 from rfl, pk_mul, nI_add]
set_option maxHeartbeats 4000000 in
set_option maxRecDepth 100000 in
theorem c_X_setEnclaveGuards {l : Launch} {D : va_G} {ad : Nat → Nat} {ca : Nat → ClassId} {x : va_W} {S : St} {i lo up : Nat} {r : Int32} (L : LyO lyX 41 i 3 (flE i)) (L1 : LyO lyX 41 lo 1 flG) (L2 : LyO lyX 41 up 1 flG) : CtX l D ad ca x y_X_setEnclaveGuards b_X_setEnclaveGuards 4 none 2 [.ref (ad i), .ref (ad lo), .ref (ad up), .int r] S (sEG S i lo up r) none := by
  refine ev_ent [some (.ref (ad i)), some (.ref (ad lo)), some (.ref (ad up)), some (.int r)] rfl (by decide) (Nat.le_of_ble_eq_true rfl) rfl gTT (fun p e s m args below meth c A X hr hk => ?_)
  refine ev_aload_n X d_X_setEnclaveGuards_0 rfl ?_
  refine ev_getI X f_X_86 L rfl d_X_setEnclaveGuards_1 ?_
  refine ev_if_ne (tgt := 20) X d_X_setEnclaveGuards_4 (by decide) (fun h4 => ?_) (fun h4 => ?_)
  · refine ev_aload_n X d_X_setEnclaveGuards_20 rfl ?_
    refine ev_cV1 X m_X_198 (c_E_isBlock L) L rfl rfl (by decide) (by decide) d_X_setEnclaveGuards_21 rfl rfl (Nat.le_of_ble_eq_true rfl) ?_
    refine ev_if_eqB (tgt := 53) X d_X_setEnclaveGuards_24 (by decide) (fun h24 => ?_) (fun h24 => ?_)
    · refine ev_aload_n X d_X_setEnclaveGuards_53 rfl ?_
      refine ev_aload_n X d_X_setEnclaveGuards_54 rfl ?_
      refine ev_cV1 X m_X_171 (c_E_firstWord L) L rfl rfl (by decide) (by decide) d_X_setEnclaveGuards_55 rfl rfl (Nat.le_of_ble_eq_true rfl) ?_
      refine ev_cV0 X m_X_195 (c_G_setOff L1) L1 rfl rfl (by decide) (by decide) d_X_setEnclaveGuards_58 rfl rfl (Nat.le_of_ble_eq_true rfl) ?_
      refine ev_aload_n X d_X_setEnclaveGuards_61 rfl ?_
      refine ev_iconst (v := 1) X d_X_setEnclaveGuards_62 (by decide) ?_
      refine ev_iload_n X d_X_setEnclaveGuards_63 rfl ?_
      refine ev_aload_n X d_X_setEnclaveGuards_64 rfl ?_
      refine ev_cV1 X m_X_168 (c_E_endWord L) L rfl rfl (by decide) (by decide) d_X_setEnclaveGuards_65 rfl rfl (Nat.le_of_ble_eq_true rfl) ?_
      refine ev_cV0 X m_X_202 (c_G_setTo L2) L2 rfl rfl (by decide) (by decide) d_X_setEnclaveGuards_68 rfl rfl (Nat.le_of_ble_eq_true rfl) ?_
      exact ev_vretL X hr hk d_X_setEnclaveGuards_71 (by simp [sEG, h4, h24])
    · refine ev_aload_n X d_X_setEnclaveGuards_27 rfl ?_
      refine ev_iconst (v := 0) X d_X_setEnclaveGuards_28 (by decide) ?_
      refine ev_cV0 X m_X_195 (c_G_setOff L1) L1 rfl rfl (by decide) (by decide) d_X_setEnclaveGuards_29 rfl rfl (Nat.le_of_ble_eq_true rfl) ?_
      refine ev_aload_n X d_X_setEnclaveGuards_32 rfl ?_
      refine ev_aload_n X d_X_setEnclaveGuards_33 rfl ?_
      refine ev_cV1 X m_X_171 (c_E_firstWord L) L rfl rfl (by decide) (by decide) d_X_setEnclaveGuards_34 rfl rfl (Nat.le_of_ble_eq_true rfl) ?_
      refine ev_aload_n X d_X_setEnclaveGuards_37 rfl ?_
      refine ev_cV1 X m_X_168 (c_E_endWord L) L rfl rfl (by decide) (by decide) d_X_setEnclaveGuards_38 rfl rfl (Nat.le_of_ble_eq_true rfl) ?_
      refine ev_aload_n X d_X_setEnclaveGuards_41 rfl ?_
      refine ev_cV1 X m_X_171 (c_E_firstWord L) L rfl rfl (by decide) (by decide) d_X_setEnclaveGuards_42 rfl rfl (Nat.le_of_ble_eq_true rfl) ?_
      refine ev_isub X d_X_setEnclaveGuards_45 ?_
      refine ev_iload_n X d_X_setEnclaveGuards_46 rfl ?_
      refine ev_cV0 X m_X_184 (c_G_setBlock L2) L2 rfl rfl (by decide) (by decide) d_X_setEnclaveGuards_47 rfl rfl (Nat.le_of_ble_eq_true rfl) ?_
      refine ev_goto (tgt := 71) X d_X_setEnclaveGuards_50 (by decide) ?_
      exact ev_vretL X hr hk d_X_setEnclaveGuards_71 (by simp [sEG, h4, h24])
  · refine ev_aload_n X d_X_setEnclaveGuards_7 rfl ?_
    refine ev_iconst (v := 0) X d_X_setEnclaveGuards_8 (by decide) ?_
    refine ev_cV0 X m_X_195 (c_G_setOff L1) L1 rfl rfl (by decide) (by decide) d_X_setEnclaveGuards_9 rfl rfl (Nat.le_of_ble_eq_true rfl) ?_
    refine ev_aload_n X d_X_setEnclaveGuards_12 rfl ?_
    refine ev_iconst (v := 0) X d_X_setEnclaveGuards_13 (by decide) ?_
    refine ev_cV0 X m_X_195 (c_G_setOff L2) L2 rfl rfl (by decide) (by decide) d_X_setEnclaveGuards_14 rfl rfl (Nat.le_of_ble_eq_true rfl) ?_
    refine ev_goto (tgt := 71) X d_X_setEnclaveGuards_17 (by decide) ?_
    exact ev_vretL X hr hk d_X_setEnclaveGuards_71 (by simp [sEG, h4])
set_option maxHeartbeats 4000000 in
set_option maxRecDepth 100000 in
theorem c_X_setSharedGuard {l : Launch} {D : va_G} {ad : Nat → Nat} {ca : Nat → ClassId} {x : va_W} {S : St} {i : Nat} (L : LyO lyX 41 i 2 (flP i)) (hpe : PeOK S i) : CtX l D ad ca x y_X_setSharedGuard b_X_setSharedGuard 4 none 2 [.ref (ad 0), .ref (ad i)] S (sSh S i) none := by
  refine ev_ent [some (.ref (ad 0)), some (.ref (ad i)), none, none] rfl (by decide) (Nat.le_of_ble_eq_true rfl) rfl gTT (fun p e s m args below meth c A X hr hk => ?_)
  refine ev_aload_n X d_X_setSharedGuard_0 rfl ?_
  refine ev_getI X f_X_93 L rfl d_X_setSharedGuard_1 ?_
  refine ev_iconst (v := (-1)) X d_X_setSharedGuard_4 (by decide) ?_
  refine ev_icmp_ne (tgt := 12) X d_X_setSharedGuard_5 (by decide) (fun h5 => ?_) (fun h5 => ?_)
  · refine ev_aload_n X d_X_setSharedGuard_12 rfl ?_
    refine ev_getR X f_X_22 lo_this rfl d_X_setSharedGuard_13 ?_
    refine ev_aload_n X d_X_setSharedGuard_16 rfl ?_
    refine ev_getI X f_X_93 L rfl d_X_setSharedGuard_17 ?_
    refine ev_aald X lr_en rfl (inr_z (hpe.resolve_left h5)) (inr_j (k := 4) rfl (by decide) (hpe.resolve_left h5)) d_X_setSharedGuard_20 ?_
    refine ev_getI X f_X_157 (lo_en (inr_j (k := 4) rfl (by decide) (hpe.resolve_left h5))) rfl d_X_setSharedGuard_21 ?_
    refine ev_topi (v := shV S i) (by simp [shV, h5]) ?_
    refine ev_istore_n X d_X_setSharedGuard_24 (by decide) ?_
    refine ev_aload_n X d_X_setSharedGuard_25 rfl ?_
    refine ev_getR X f_X_133 L rfl d_X_setSharedGuard_26 ?_
    refine ev_bipush (v := 9) X d_X_setSharedGuard_29 (by decide) ?_
    refine ev_aald (j := 9) X (lr_gd L) rfl rfl (by decide) d_X_setSharedGuard_31 ?_
    refine ev_astore_n X d_X_setSharedGuard_32 (by decide) ?_
    refine ev_iload_n X d_X_setSharedGuard_33 rfl ?_
    refine ev_iconst (v := (-1)) X d_X_setSharedGuard_34 (by decide) ?_
    refine ev_icmp_ne (tgt := 46) X d_X_setSharedGuard_35 (by decide) (fun h35 => ?_) (fun h35 => ?_)
    · refine ev_iload_n X d_X_setSharedGuard_46 rfl ?_
      refine ev_sipush (v := 256) X d_X_setSharedGuard_47 (by decide) ?_
      refine ev_icmp_ge (tgt := 63) X d_X_setSharedGuard_50 (by decide) (fun h50 => ?_) (fun h50 => ?_)
      · refine ev_aload_n X d_X_setSharedGuard_63 rfl ?_
        refine ev_iload_n X d_X_setSharedGuard_64 rfl ?_
        refine ev_sipush (v := 256) X d_X_setSharedGuard_65 (by decide) ?_
        refine ev_isub X d_X_setSharedGuard_68 ?_
        refine ev_bipush (v := 16) X d_X_setSharedGuard_69 (by decide) ?_
        refine ev_imul X d_X_setSharedGuard_71 ?_
        refine ev_bipush (v := 16) X d_X_setSharedGuard_72 (by decide) ?_
        refine ev_iconst (v := 3) X d_X_setSharedGuard_74 (by decide) ?_
        refine ev_cV0 X m_X_184 (c_G_setBlock (lo_gd L (show 9 < _ by decide))) (lo_gd L (show 9 < _ by decide)) rfl rfl (by decide) (by decide) d_X_setSharedGuard_75 rfl rfl (Nat.le_of_ble_eq_true rfl) ?_
        exact ev_vretL X hr hk d_X_setSharedGuard_78 (by simp [sSh, h5, h35, h50])
      · refine ev_aload_n X d_X_setSharedGuard_53 rfl ?_
        refine ev_iconst (v := 2) X d_X_setSharedGuard_54 (by decide) ?_
        refine ev_iconst (v := 3) X d_X_setSharedGuard_55 (by decide) ?_
        refine ev_iload_n X d_X_setSharedGuard_56 rfl ?_
        refine ev_cV0 X m_X_202 (c_G_setTo (lo_gd L (show 9 < _ by decide))) (lo_gd L (show 9 < _ by decide)) rfl rfl (by decide) (by decide) d_X_setSharedGuard_57 rfl rfl (Nat.le_of_ble_eq_true rfl) ?_
        refine ev_goto (tgt := 78) X d_X_setSharedGuard_60 (by decide) ?_
        exact ev_vretL X hr hk d_X_setSharedGuard_78 (by simp [sSh, h5, h35, h50])
    · refine ev_aload_n X d_X_setSharedGuard_38 rfl ?_
      refine ev_iconst (v := 0) X d_X_setSharedGuard_39 (by decide) ?_
      refine ev_cV0 X m_X_195 (c_G_setOff (lo_gd L (show 9 < _ by decide))) (lo_gd L (show 9 < _ by decide)) rfl rfl (by decide) (by decide) d_X_setSharedGuard_40 rfl rfl (Nat.le_of_ble_eq_true rfl) ?_
      refine ev_goto (tgt := 78) X d_X_setSharedGuard_43 (by decide) ?_
      exact ev_vretL X hr hk d_X_setSharedGuard_78 (by simp [sSh, h5, h35])
  · refine ev_iconst (v := (-1)) X d_X_setSharedGuard_8 (by decide) ?_
    refine ev_goto (tgt := 24) X d_X_setSharedGuard_9 (by decide) ?_
    refine ev_topi (v := shV S i) (by simp [shV, h5]) ?_
    refine ev_istore_n X d_X_setSharedGuard_24 (by decide) ?_
    refine ev_aload_n X d_X_setSharedGuard_25 rfl ?_
    refine ev_getR X f_X_133 L rfl d_X_setSharedGuard_26 ?_
    refine ev_bipush (v := 9) X d_X_setSharedGuard_29 (by decide) ?_
    refine ev_aald (j := 9) X (lr_gd L) rfl rfl (by decide) d_X_setSharedGuard_31 ?_
    refine ev_astore_n X d_X_setSharedGuard_32 (by decide) ?_
    refine ev_iload_n X d_X_setSharedGuard_33 rfl ?_
    refine ev_iconst (v := (-1)) X d_X_setSharedGuard_34 (by decide) ?_
    refine ev_icmp_ne (tgt := 46) X d_X_setSharedGuard_35 (by decide) (fun h35 => ?_) (fun h35 => ?_)
    · refine ev_iload_n X d_X_setSharedGuard_46 rfl ?_
      refine ev_sipush (v := 256) X d_X_setSharedGuard_47 (by decide) ?_
      refine ev_icmp_ge (tgt := 63) X d_X_setSharedGuard_50 (by decide) (fun h50 => ?_) (fun h50 => ?_)
      · refine ev_aload_n X d_X_setSharedGuard_63 rfl ?_
        refine ev_iload_n X d_X_setSharedGuard_64 rfl ?_
        refine ev_sipush (v := 256) X d_X_setSharedGuard_65 (by decide) ?_
        refine ev_isub X d_X_setSharedGuard_68 ?_
        refine ev_bipush (v := 16) X d_X_setSharedGuard_69 (by decide) ?_
        refine ev_imul X d_X_setSharedGuard_71 ?_
        refine ev_bipush (v := 16) X d_X_setSharedGuard_72 (by decide) ?_
        refine ev_iconst (v := 3) X d_X_setSharedGuard_74 (by decide) ?_
        refine ev_cV0 X m_X_184 (c_G_setBlock (lo_gd L (show 9 < _ by decide))) (lo_gd L (show 9 < _ by decide)) rfl rfl (by decide) (by decide) d_X_setSharedGuard_75 rfl rfl (Nat.le_of_ble_eq_true rfl) ?_
        exact ev_vretL X hr hk d_X_setSharedGuard_78 (by simp [sSh, h5, h35, h50])
      · refine ev_aload_n X d_X_setSharedGuard_53 rfl ?_
        refine ev_iconst (v := 2) X d_X_setSharedGuard_54 (by decide) ?_
        refine ev_iconst (v := 3) X d_X_setSharedGuard_55 (by decide) ?_
        refine ev_iload_n X d_X_setSharedGuard_56 rfl ?_
        refine ev_cV0 X m_X_202 (c_G_setTo (lo_gd L (show 9 < _ by decide))) (lo_gd L (show 9 < _ by decide)) rfl rfl (by decide) (by decide) d_X_setSharedGuard_57 rfl rfl (Nat.le_of_ble_eq_true rfl) ?_
        refine ev_goto (tgt := 78) X d_X_setSharedGuard_60 (by decide) ?_
        exact ev_vretL X hr hk d_X_setSharedGuard_78 (by simp [sSh, h5, h35, h50])
    · refine ev_aload_n X d_X_setSharedGuard_38 rfl ?_
      refine ev_iconst (v := 0) X d_X_setSharedGuard_39 (by decide) ?_
      refine ev_cV0 X m_X_195 (c_G_setOff (lo_gd L (show 9 < _ by decide))) (lo_gd L (show 9 < _ by decide)) rfl rfl (by decide) (by decide) d_X_setSharedGuard_40 rfl rfl (Nat.le_of_ble_eq_true rfl) ?_
      refine ev_goto (tgt := 78) X d_X_setSharedGuard_43 (by decide) ?_
      exact ev_vretL X hr hk d_X_setSharedGuard_78 (by simp [sSh, h5, h35])
set_option maxHeartbeats 4000000 in
set_option maxRecDepth 100000 in
theorem c_X_setGuards {l : Launch} {D : va_G} {ad : Nat → Nat} {ca : Nat → ClassId} {x : va_W} {S : St} {i : Nat} (L : LyO lyX 41 i 2 (flP i)) (hpe : PeOK S i) : CtX l D ad ca x y_X_setGuards b_X_setGuards 4 none 3 [.ref (ad 0), .ref (ad i)] S (sGs S i) none := by
  refine ev_ent [some (.ref (ad 0)), some (.ref (ad i)), none, none] rfl (by decide) (Nat.le_of_ble_eq_true rfl) rfl gTT (fun p e s m args below meth c A X hr hk => ?_)
  have loop : ∀ (r k : Nat) (o : Option Value) (T : St), k + r = 4 → gLoop i 4 0 (sB S (i + 3 + 1 * 0) 0 16 0) = gLoop i r k T → T i 2 = S i 2 → EV p l e (rmd 3) s m args below meth c 0 0 (MQ below (QQ clX D A (ly_w lyX 41 ad ca (sGs S i) x) none) args s 0 0 A) 4 D clX A s.heap (ly_w lyX 41 ad ca T x) 15 [some (.ref (ad 0)), some (.ref (ad i)), some (.int (nI k)), o] [] := by
    intro r
    induction r with
    | zero =>
      intro k o T q1 q2 q3
      refine ev_iload_n X d_X_setGuards_15 rfl ?_
      refine ev_iconst (v := 4) X d_X_setGuards_16 (by decide) ?_
      refine ev_icmp_ge (tgt := 71) X d_X_setGuards_17 (by decide) (fun h17 => ?_) (fun h17 => ?_)
      · refine ev_aload_n X d_X_setGuards_71 rfl ?_
        refine ev_aload_n X d_X_setGuards_72 rfl ?_
        refine ev_cV0 X m_X_192 (c_X_setSharedGuard L (show PeOK T i by unfold PeOK; rw [q3]; exact hpe)) lo_this rfl rfl (by decide) (by decide) d_X_setGuards_73 rfl rfl (Nat.le_of_ble_eq_true rfl) ?_
        refine ev_aload_n X d_X_setGuards_76 rfl ?_
        refine ev_getI X f_X_93 L rfl d_X_setGuards_77 ?_
        refine ev_iconst (v := (-1)) X d_X_setGuards_80 (by decide) ?_
        refine ev_icmp_ne (tgt := 89) X d_X_setGuards_81 (by decide) (fun h81 => ?_) (fun h81 => ?_)
        · refine ev_iconst (v := 0) X d_X_setGuards_89 (by decide) ?_
          refine ev_topi (v := if sSh T i i 2 = -1 then 7 else 0) (by simp [h17, h81]) ?_
          refine ev_istore_n X d_X_setGuards_90 (by decide) ?_
          refine ev_aload_n X d_X_setGuards_91 rfl ?_
          refine ev_getR X f_X_133 L rfl d_X_setGuards_92 ?_
          refine ev_bipush (v := 10) X d_X_setGuards_95 (by decide) ?_
          refine ev_aald (j := 10) X (lr_gd L) rfl rfl (by decide) d_X_setGuards_97 ?_
          refine ev_iconst (v := 0) X d_X_setGuards_98 (by decide) ?_
          refine ev_sipush (v := 256) X d_X_setGuards_99 (by decide) ?_
          refine ev_iload_n X d_X_setGuards_102 rfl ?_
          refine ev_cV0 X m_X_184 (c_G_setBlock (lo_gd L (show 10 < _ by decide))) (lo_gd L (show 10 < _ by decide)) rfl rfl (by decide) (by decide) d_X_setGuards_103 rfl rfl (Nat.le_of_ble_eq_true rfl) ?_
          exact ev_vretL X hr hk d_X_setGuards_106 (by rw [sGs, q2]; rfl)
        · refine ev_bipush (v := 7) X d_X_setGuards_84 (by decide) ?_
          refine ev_goto (tgt := 90) X d_X_setGuards_86 (by decide) ?_
          refine ev_topi (v := if sSh T i i 2 = -1 then 7 else 0) (by simp [h17, h81]) ?_
          refine ev_istore_n X d_X_setGuards_90 (by decide) ?_
          refine ev_aload_n X d_X_setGuards_91 rfl ?_
          refine ev_getR X f_X_133 L rfl d_X_setGuards_92 ?_
          refine ev_bipush (v := 10) X d_X_setGuards_95 (by decide) ?_
          refine ev_aald (j := 10) X (lr_gd L) rfl rfl (by decide) d_X_setGuards_97 ?_
          refine ev_iconst (v := 0) X d_X_setGuards_98 (by decide) ?_
          refine ev_sipush (v := 256) X d_X_setGuards_99 (by decide) ?_
          refine ev_iload_n X d_X_setGuards_102 rfl ?_
          refine ev_cV0 X m_X_184 (c_G_setBlock (lo_gd L (show 10 < _ by decide))) (lo_gd L (show 10 < _ by decide)) rfl rfl (by decide) (by decide) d_X_setGuards_103 rfl rfl (Nat.le_of_ble_eq_true rfl) ?_
          exact ev_vretL X hr hk d_X_setGuards_106 (by rw [sGs, q2]; rfl)
      · exact absurd (nI_le (a := 4) (by omega) (by omega)) h17
    | succ r ih =>
      intro k o T q1 q2 q3
      refine ev_iload_n X d_X_setGuards_15 rfl ?_
      refine ev_iconst (v := 4) X d_X_setGuards_16 (by decide) ?_
      refine ev_icmp_ge (tgt := 71) X d_X_setGuards_17 (by decide) (fun h17 => ?_) (fun h17 => ?_)
      · exact absurd h17 (nI_ge (b := 4) (by omega) (by decide))
      · refine ev_aload_n X d_X_setGuards_20 rfl ?_
        refine ev_getI X f_X_93 L rfl d_X_setGuards_21 ?_
        refine ev_iload_n X d_X_setGuards_24 rfl ?_
        refine ev_icmp_ne (tgt := 33) X d_X_setGuards_25 (by decide) (fun h25 => ?_) (fun h25 => ?_)
        · refine ev_iconst (v := 0) X d_X_setGuards_33 (by decide) ?_
          refine ev_topi (v := if T i 2 = nI k then 7 else 0) (by simp [h17, h25]) ?_
          refine ev_istore_n X d_X_setGuards_34 (by decide) ?_
          refine ev_aload_n X d_X_setGuards_35 rfl ?_
          refine ev_getR X f_X_22 lo_this rfl d_X_setGuards_36 ?_
          refine ev_iload_n X d_X_setGuards_39 rfl ?_
          refine ev_aald X lr_en rfl rfl (show k < 4 by omega) d_X_setGuards_40 ?_
          refine ev_aload_n X d_X_setGuards_41 rfl ?_
          refine ev_getR X f_X_133 L rfl d_X_setGuards_42 ?_
          refine ev_iconst (v := 1) X d_X_setGuards_45 (by decide) ?_
          refine ev_iconst (v := 2) X d_X_setGuards_46 (by decide) ?_
          refine ev_iload_n X d_X_setGuards_47 rfl ?_
          refine ev_imul X d_X_setGuards_48 ?_
          refine ev_iadd X d_X_setGuards_49 ?_
          refine ev_aald X (lr_gd L) rfl (gix1 k) (show 1 + 2 * k < 11 by omega) d_X_setGuards_50 ?_
          refine ev_aload_n X d_X_setGuards_51 rfl ?_
          refine ev_getR X f_X_133 L rfl d_X_setGuards_52 ?_
          refine ev_iconst (v := 2) X d_X_setGuards_55 (by decide) ?_
          refine ev_iconst (v := 2) X d_X_setGuards_56 (by decide) ?_
          refine ev_iload_n X d_X_setGuards_57 rfl ?_
          refine ev_imul X d_X_setGuards_58 ?_
          refine ev_iadd X d_X_setGuards_59 ?_
          refine ev_aald X (lr_gd L) rfl (gix2 k) (show 2 + 2 * k < 11 by omega) d_X_setGuards_60 ?_
          refine ev_iload_n X d_X_setGuards_61 rfl ?_
          refine ev_cS0 X m_X_188 (c_X_setEnclaveGuards (lo_en (show k < 4 by omega)) (lo_gd L (show 1 + 2 * k < 11 by omega)) (lo_gd L (show 2 + 2 * k < 11 by omega))) (by decide) (by decide) d_X_setGuards_62 rfl rfl (Nat.le_of_ble_eq_true rfl) ?_
          refine ev_iinc (v := nI (k + 1)) X d_X_setGuards_65 rfl (nI_1 k) (by decide) ?_
          refine ev_goto (tgt := 15) X d_X_setGuards_68 (by decide) ?_
          exact ih (k + 1) _ (sGe T i k) (by omega) q2 (by rw [sGe_ne (by omega) (by omega)]; exact q3)
        · refine ev_bipush (v := 7) X d_X_setGuards_28 (by decide) ?_
          refine ev_goto (tgt := 34) X d_X_setGuards_30 (by decide) ?_
          refine ev_topi (v := if T i 2 = nI k then 7 else 0) (by simp [h17, h25]) ?_
          refine ev_istore_n X d_X_setGuards_34 (by decide) ?_
          refine ev_aload_n X d_X_setGuards_35 rfl ?_
          refine ev_getR X f_X_22 lo_this rfl d_X_setGuards_36 ?_
          refine ev_iload_n X d_X_setGuards_39 rfl ?_
          refine ev_aald X lr_en rfl rfl (show k < 4 by omega) d_X_setGuards_40 ?_
          refine ev_aload_n X d_X_setGuards_41 rfl ?_
          refine ev_getR X f_X_133 L rfl d_X_setGuards_42 ?_
          refine ev_iconst (v := 1) X d_X_setGuards_45 (by decide) ?_
          refine ev_iconst (v := 2) X d_X_setGuards_46 (by decide) ?_
          refine ev_iload_n X d_X_setGuards_47 rfl ?_
          refine ev_imul X d_X_setGuards_48 ?_
          refine ev_iadd X d_X_setGuards_49 ?_
          refine ev_aald X (lr_gd L) rfl (gix1 k) (show 1 + 2 * k < 11 by omega) d_X_setGuards_50 ?_
          refine ev_aload_n X d_X_setGuards_51 rfl ?_
          refine ev_getR X f_X_133 L rfl d_X_setGuards_52 ?_
          refine ev_iconst (v := 2) X d_X_setGuards_55 (by decide) ?_
          refine ev_iconst (v := 2) X d_X_setGuards_56 (by decide) ?_
          refine ev_iload_n X d_X_setGuards_57 rfl ?_
          refine ev_imul X d_X_setGuards_58 ?_
          refine ev_iadd X d_X_setGuards_59 ?_
          refine ev_aald X (lr_gd L) rfl (gix2 k) (show 2 + 2 * k < 11 by omega) d_X_setGuards_60 ?_
          refine ev_iload_n X d_X_setGuards_61 rfl ?_
          refine ev_cS0 X m_X_188 (c_X_setEnclaveGuards (lo_en (show k < 4 by omega)) (lo_gd L (show 1 + 2 * k < 11 by omega)) (lo_gd L (show 2 + 2 * k < 11 by omega))) (by decide) (by decide) d_X_setGuards_62 rfl rfl (Nat.le_of_ble_eq_true rfl) ?_
          refine ev_iinc (v := nI (k + 1)) X d_X_setGuards_65 rfl (nI_1 k) (by decide) ?_
          refine ev_goto (tgt := 15) X d_X_setGuards_68 (by decide) ?_
          exact ih (k + 1) _ (sGe T i k) (by omega) q2 (by rw [sGe_ne (by omega) (by omega)]; exact q3)
  refine ev_aload_n X d_X_setGuards_0 rfl ?_
  refine ev_getR X f_X_133 L rfl d_X_setGuards_1 ?_
  refine ev_iconst (v := 0) X d_X_setGuards_4 (by decide) ?_
  refine ev_aald (j := 0) X (lr_gd L) rfl rfl (by decide) d_X_setGuards_5 ?_
  refine ev_iconst (v := 0) X d_X_setGuards_6 (by decide) ?_
  refine ev_bipush (v := 16) X d_X_setGuards_7 (by decide) ?_
  refine ev_iconst (v := 0) X d_X_setGuards_9 (by decide) ?_
  refine ev_cV0 X m_X_184 (c_G_setBlock (lo_gd L (show 0 < _ by decide))) (lo_gd L (show 0 < _ by decide)) rfl rfl (by decide) (by decide) d_X_setGuards_10 rfl rfl (Nat.le_of_ble_eq_true rfl) ?_
  refine ev_iconst (v := 0) X d_X_setGuards_13 (by decide) ?_
  refine ev_istore_n X d_X_setGuards_14 (by decide) ?_
  exact loop 4 0 _ _ rfl rfl (by rw [sB_ne (by omega)])
set_option maxHeartbeats 4000000 in
set_option maxRecDepth 100000 in
theorem c_X_setAllGuards {l : Launch} {D : va_G} {ad : Nat → Nat} {ca : Nat → ClassId} {x : va_W} {S : St}  (h0 : PeOK S 13) (h1 : PeOK S 27) : CtX l D ad ca x y_X_setAllGuards b_X_setAllGuards 2 none 4 [.ref (ad 0)] S (sAll S) none := by
  refine ev_ent [some (.ref (ad 0)), none] rfl (by decide) (Nat.le_of_ble_eq_true rfl) rfl gTT (fun p e s m args below meth c A X hr hk => ?_)
  refine ev_iconst (v := 0) X d_X_setAllGuards_0 (by decide) ?_
  refine ev_istore_n X d_X_setAllGuards_1 (by decide) ?_
  refine ev_iload_n X d_X_setAllGuards_2 rfl ?_
  refine ev_iconst (v := 2) X d_X_setAllGuards_3 (by decide) ?_
  refine ev_icmp_ge (tgt := 23) X d_X_setAllGuards_4 (by decide) (fun h4 => ?_) (fun h4 => ?_)
  · exact absurd h4 (by decide)
  · refine ev_aload_n X d_X_setAllGuards_7 rfl ?_
    refine ev_aload_n X d_X_setAllGuards_8 rfl ?_
    refine ev_getR X f_X_29 lo_this rfl d_X_setAllGuards_9 ?_
    refine ev_iload_n X d_X_setAllGuards_12 rfl ?_
    refine ev_aald (j := 0) X lr_pr rfl rfl (by decide) d_X_setAllGuards_13 ?_
    refine ev_cV0 X m_X_96 (c_X_setGuards (lo_pr (show 0 < _ by decide)) h0) lo_this rfl rfl (by decide) (by decide) d_X_setAllGuards_14 rfl rfl (Nat.le_of_ble_eq_true rfl) ?_
    refine ev_iinc (v := 1) X d_X_setAllGuards_17 rfl (by decide) (by decide) ?_
    refine ev_goto (tgt := 2) X d_X_setAllGuards_20 (by decide) ?_
    refine ev_iload_n X d_X_setAllGuards_2 rfl ?_
    refine ev_iconst (v := 2) X d_X_setAllGuards_3 (by decide) ?_
    refine ev_icmp_ge (tgt := 23) X d_X_setAllGuards_4 (by decide) (fun h4 => ?_) (fun h4 => ?_)
    · exact absurd h4 (by decide)
    · refine ev_aload_n X d_X_setAllGuards_7 rfl ?_
      refine ev_aload_n X d_X_setAllGuards_8 rfl ?_
      refine ev_getR X f_X_29 lo_this rfl d_X_setAllGuards_9 ?_
      refine ev_iload_n X d_X_setAllGuards_12 rfl ?_
      refine ev_aald (j := 1) X lr_pr rfl rfl (by decide) d_X_setAllGuards_13 ?_
      refine ev_cV0 X m_X_96 (c_X_setGuards (lo_pr (show 1 < _ by decide)) (show PeOK (sGs S (13 + 14 * 0)) 27 by unfold PeOK; rw [sGs_ne (by omega)]; exact h1)) lo_this rfl rfl (by decide) (by decide) d_X_setAllGuards_14 rfl rfl (Nat.le_of_ble_eq_true rfl) ?_
      refine ev_iinc (v := 2) X d_X_setAllGuards_17 rfl (by decide) (by decide) ?_
      refine ev_goto (tgt := 2) X d_X_setAllGuards_20 (by decide) ?_
      refine ev_iload_n X d_X_setAllGuards_2 rfl ?_
      refine ev_iconst (v := 2) X d_X_setAllGuards_3 (by decide) ?_
      refine ev_icmp_ge (tgt := 23) X d_X_setAllGuards_4 (by decide) (fun h4 => ?_) (fun h4 => ?_)
      · exact ev_vretL X hr hk d_X_setAllGuards_23 (rfl)
      · exact absurd h4 (by decide)
set_option maxHeartbeats 4000000 in
set_option maxRecDepth 100000 in
theorem c_X_runSystem {l : Launch} {D : va_G} {ad : Nat → Nat} {ca : Nat → ClassId} {x : va_W} {S : St} {i : Nat} (L : LyO lyX 41 i 2 (flP i)) : CtX l D ad ca x y_X_runSystem b_X_runSystem 2 none 4 [.ref (ad 0), .ref (ad i)] S (sGs (up2 S i 2 (-1)) i) none := by
  refine ev_ent [some (.ref (ad 0)), some (.ref (ad i))] rfl (by decide) (Nat.le_of_ble_eq_true rfl) rfl gTT (fun p e s m args below meth c A X hr hk => ?_)
  refine ev_aload_n X d_X_runSystem_0 rfl ?_
  refine ev_iconst (v := (-1)) X d_X_runSystem_1 (by decide) ?_
  refine ev_putI X f_X_93 L rfl d_X_runSystem_2 ?_
  refine ev_aload_n X d_X_runSystem_5 rfl ?_
  refine ev_aload_n X d_X_runSystem_6 rfl ?_
  refine ev_cV0 X m_X_96 (c_X_setGuards L (Or.inl (by simp [up2_at]))) lo_this rfl rfl (by decide) (by decide) d_X_runSystem_7 rfl rfl (Nat.le_of_ble_eq_true rfl) ?_
  exact ev_vretL X hr hk d_X_runSystem_10 (rfl)
end
section
def ldF (S : St) (i j : Nat) (a z : Int32) : St := if alw S i z 1 = true then up2 S (j + 1) a.toNatClampNeg (S 1 z.toNatClampNeg) else sEnd S j 5 2
def stF (S : St) (i j : Nat) (a z : Int32) : St := if alw S i z 2 = true then up2 S 1 z.toNatClampNeg (S (j + 1) a.toNatClampNeg) else sEnd S j 5 3
def fA (v : Int32) : Int32 := v >>> ((4 : Int32) &&& 31) &&& 7
def fB (v : Int32) : Int32 := v >>> ((8 : Int32) &&& 31) &&& 7
def fI (v : Int32) : Int32 := v >>> ((16 : Int32) &&& 31)
def fO (v : Int32) : Int32 := v &&& 15
theorem and7_in (v : Int32) : inr (v &&& 7) 8 = true := by
  obtain ⟨j, hj, h⟩ := pk_andE v (m := 7) 3 (by decide)
  rw [h]
  exact inr_nI (k := 8) hj (by decide)
theorem fA_in (v : Int32) : inr (fA v) 8 = true := and7_in _
theorem fB_in (v : Int32) : inr (fB v) 8 = true := and7_in _
def rgA (S : St) (j : Nat) (v : Int32) : Int32 := S (j + 1) (fA v).toNatClampNeg
def rgB (S : St) (j : Nat) (v : Int32) : Int32 := S (j + 1) (fB v).toNatClampNeg
noncomputable def dwS (S : St) (i j : Nat) (v : Int32) : St :=
  if fO v = 0 then sEnd S j 4 (rgA S j v)
  else if fO v = 1 then up2 S (j + 1) (fA v).toNatClampNeg (rgB S j v + fI v)
  else if fO v = 2 then up2 S (j + 1) (fA v).toNatClampNeg (rgA S j v + rgB S j v)
  else if fO v = 3 then up2 S (j + 1) (fA v).toNatClampNeg (rgA S j v ^^^ rgB S j v)
  else if fO v = 4 then ldF S i j (fA v) (rgB S j v + fI v)
  else if fO v = 5 then stF S i j (fA v) (rgB S j v + fI v)
  else if fO v = 6 then S
  else if fO v = 7 then up2 S (j + 1) (fA v).toNatClampNeg (S j 7 + 1)
  else if fO v = 8 then up2 S (j + 1) (fA v).toNatClampNeg (prfS (S 0 0) (S j 6) (rgB S j v))
  else if fO v = 9 then up2 S (j + 1) (fA v).toNatClampNeg (secS (S 0 0) (S j 6))
  else if fO v = 10 then up2 S j 1 3
  else sEnd S j 5 4
def dwV (S : St) (j : Nat) (v : Int32) : Int32 :=
  if fO v = 6 then (if rgA S j v = 0 then S j 7 + 1 + fI v else S j 7 + 1) else if fO v = 7 then rgB S j v + fI v else S j 7 + 1
noncomputable def mkS (S : St) (i j : Nat) : St :=
  if alw S i (S j 7) 4 = true then (if dwS S i j (S 1 (S j 7).toNatClampNeg) j 1 = 5 then dwS S i j (S 1 (S j 7).toNatClampNeg) else up2 (dwS S i j (S 1 (S j 7).toNatClampNeg)) j 7 (dwV S j (S 1 (S j 7).toNatClampNeg))) else sEnd S j 5 1
set_option maxHeartbeats 4000000 in
set_option maxRecDepth 100000 in
theorem c_X_loadFor {l : Launch} {D : va_G} {ad : Nat → Nat} {ca : Nat → ClassId} {x : va_W} {S : St} {i j : Nat} {a z : Int32} (L : LyO lyX 41 i 2 (flP i)) (M : LyO lyX 41 j 3 (flE j)) (ha : inr a 8 = true) : CtX l D ad ca x y_X_loadFor b_X_loadFor 5 none 2 [.ref (ad 0), .ref (ad i), .ref (ad j), .int a, .int z] S (ldF S i j a z) none := by
  refine ev_ent [some (.ref (ad 0)), some (.ref (ad i)), some (.ref (ad j)), some (.int a), some (.int z)] rfl (by decide) (Nat.le_of_ble_eq_true rfl) rfl gTT (fun p e s m args below meth c A X hr hk => ?_)
  refine ev_aload_n X d_X_loadFor_0 rfl ?_
  refine ev_aload_n X d_X_loadFor_1 rfl ?_
  refine ev_iload X d_X_loadFor_2 rfl ?_
  refine ev_iconst (v := 1) X d_X_loadFor_4 (by decide) ?_
  refine ev_cV1 X m_X_43 (c_X_isAllowed L) lo_this rfl rfl (by decide) (by decide) d_X_loadFor_5 rfl rfl (Nat.le_of_ble_eq_true rfl) ?_
  refine ev_if_eqB (tgt := 27) X d_X_loadFor_8 (by decide) (fun h8 => ?_) (fun h8 => ?_)
  · refine ev_aload_n X d_X_loadFor_27 rfl ?_
    refine ev_iconst (v := 5) X d_X_loadFor_28 (by decide) ?_
    refine ev_iconst (v := 2) X d_X_loadFor_29 (by decide) ?_
    refine ev_cV0 X m_X_208 (c_E_endWith M) M rfl rfl (by decide) (by decide) d_X_loadFor_30 rfl rfl (Nat.le_of_ble_eq_true rfl) ?_
    exact ev_vretL X hr hk d_X_loadFor_33 (by simp [ldF, h8])
  · refine ev_aload_n X d_X_loadFor_11 rfl ?_
    refine ev_getR X f_X_216 M rfl d_X_loadFor_12 ?_
    refine ev_iload_n X d_X_loadFor_15 rfl ?_
    refine ev_aload_n X d_X_loadFor_16 rfl ?_
    refine ev_getR X f_X_13 lo_this rfl d_X_loadFor_17 ?_
    refine ev_iload X d_X_loadFor_20 rfl ?_
    refine ev_iald X li_mem rfl (inr_z (alw_in h8)) (inr_j (k := 256) rfl (by decide) (alw_in h8)) d_X_loadFor_22 ?_
    refine ev_iast X (li_er M) rfl (inr_z ha) (inr_j (k := 8) rfl (by decide) ha) d_X_loadFor_23 ?_
    refine ev_goto (tgt := 33) X d_X_loadFor_24 (by decide) ?_
    exact ev_vretL X hr hk d_X_loadFor_33 (by simp [ldF, h8])
set_option maxHeartbeats 4000000 in
set_option maxRecDepth 100000 in
theorem c_X_storeFor {l : Launch} {D : va_G} {ad : Nat → Nat} {ca : Nat → ClassId} {x : va_W} {S : St} {i j : Nat} {a z : Int32} (L : LyO lyX 41 i 2 (flP i)) (M : LyO lyX 41 j 3 (flE j)) (ha : inr a 8 = true) : CtX l D ad ca x y_X_storeFor b_X_storeFor 5 none 2 [.ref (ad 0), .ref (ad i), .ref (ad j), .int a, .int z] S (stF S i j a z) none := by
  refine ev_ent [some (.ref (ad 0)), some (.ref (ad i)), some (.ref (ad j)), some (.int a), some (.int z)] rfl (by decide) (Nat.le_of_ble_eq_true rfl) rfl gTT (fun p e s m args below meth c A X hr hk => ?_)
  refine ev_aload_n X d_X_storeFor_0 rfl ?_
  refine ev_aload_n X d_X_storeFor_1 rfl ?_
  refine ev_iload X d_X_storeFor_2 rfl ?_
  refine ev_iconst (v := 2) X d_X_storeFor_4 (by decide) ?_
  refine ev_cV1 X m_X_43 (c_X_isAllowed L) lo_this rfl rfl (by decide) (by decide) d_X_storeFor_5 rfl rfl (Nat.le_of_ble_eq_true rfl) ?_
  refine ev_if_eqB (tgt := 27) X d_X_storeFor_8 (by decide) (fun h8 => ?_) (fun h8 => ?_)
  · refine ev_aload_n X d_X_storeFor_27 rfl ?_
    refine ev_iconst (v := 5) X d_X_storeFor_28 (by decide) ?_
    refine ev_iconst (v := 3) X d_X_storeFor_29 (by decide) ?_
    refine ev_cV0 X m_X_208 (c_E_endWith M) M rfl rfl (by decide) (by decide) d_X_storeFor_30 rfl rfl (Nat.le_of_ble_eq_true rfl) ?_
    exact ev_vretL X hr hk d_X_storeFor_33 (by simp [stF, h8])
  · refine ev_aload_n X d_X_storeFor_11 rfl ?_
    refine ev_getR X f_X_13 lo_this rfl d_X_storeFor_12 ?_
    refine ev_iload X d_X_storeFor_15 rfl ?_
    refine ev_aload_n X d_X_storeFor_17 rfl ?_
    refine ev_getR X f_X_216 M rfl d_X_storeFor_18 ?_
    refine ev_iload_n X d_X_storeFor_21 rfl ?_
    refine ev_iald X (li_er M) rfl (inr_z ha) (inr_j (k := 8) rfl (by decide) ha) d_X_storeFor_22 ?_
    refine ev_iast X li_mem rfl (inr_z (alw_in h8)) (inr_j (k := 256) rfl (by decide) (alw_in h8)) d_X_storeFor_23 ?_
    refine ev_goto (tgt := 33) X d_X_storeFor_24 (by decide) ?_
    exact ev_vretL X hr hk d_X_storeFor_33 (by simp [stF, h8])
theorem sw_out10 {z : Int32} (h0 : ¬ z = 0) (h1 : ¬ z = 1) (h2 : ¬ z = 2) (h3 : ¬ z = 3) (h4 : ¬ z = 4) (h5 : ¬ z = 5) (h6 : ¬ z = 6) (h7 : ¬ z = 7) (h8 : ¬ z = 8) (h9 : ¬ z = 9) (h10 : ¬ z = 10) : z.toInt < 0 ∨ 10 < z.toInt := by
  have a0 := lv_neT h0 (a := 0) (by decide)
  have a1 := lv_neT h1 (a := 1) (by decide)
  have a2 := lv_neT h2 (a := 2) (by decide)
  have a3 := lv_neT h3 (a := 3) (by decide)
  have a4 := lv_neT h4 (a := 4) (by decide)
  have a5 := lv_neT h5 (a := 5) (by decide)
  have a6 := lv_neT h6 (a := 6) (by decide)
  have a7 := lv_neT h7 (a := 7) (by decide)
  have a8 := lv_neT h8 (a := 8) (by decide)
  have a9 := lv_neT h9 (a := 9) (by decide)
  have a10 := lv_neT h10 (a := 10) (by decide)
  omega
set_option maxHeartbeats 4000000 in
set_option maxRecDepth 100000 in
theorem c_X_doWord {l : Launch} {D : va_G} {ad : Nat → Nat} {ca : Nat → ClassId} {x : va_W} {S : St} {i j : Nat} {v : Int32} (L : LyO lyX 41 i 2 (flP i)) (M : LyO lyX 41 j 3 (flE j)) : CtX l D ad ca x y_X_doWord b_X_doWord 10 (some .int) 3 [.ref (ad 0), .ref (ad i), .ref (ad j), .int v] S (dwS S i j v) (some (.int (dwV S j v))) := by
  refine ev_ent [some (.ref (ad 0)), some (.ref (ad i)), some (.ref (ad j)), some (.int v), none, none, none, none, none, none] rfl (by decide) (Nat.le_of_ble_eq_true rfl) rfl gTT (fun p e s m args below meth c A X hr hk => ?_)
  refine ev_aload_n X d_X_doWord_0 rfl ?_
  refine ev_getR X f_X_216 M rfl d_X_doWord_1 ?_
  refine ev_astore X d_X_doWord_4 (by decide) ?_
  refine ev_iload_n X d_X_doWord_6 rfl ?_
  refine ev_iconst (v := 4) X d_X_doWord_7 (by decide) ?_
  refine ev_ishr X d_X_doWord_8 ?_
  refine ev_bipush (v := 7) X d_X_doWord_9 (by decide) ?_
  refine ev_iand X d_X_doWord_11 ?_
  refine ev_topi (v := fA v) rfl ?_
  refine ev_istore X d_X_doWord_12 (by decide) ?_
  refine ev_iload_n X d_X_doWord_14 rfl ?_
  refine ev_bipush (v := 8) X d_X_doWord_15 (by decide) ?_
  refine ev_ishr X d_X_doWord_17 ?_
  refine ev_bipush (v := 7) X d_X_doWord_18 (by decide) ?_
  refine ev_iand X d_X_doWord_20 ?_
  refine ev_topi (v := fB v) rfl ?_
  refine ev_istore X d_X_doWord_21 (by decide) ?_
  refine ev_iload_n X d_X_doWord_23 rfl ?_
  refine ev_bipush (v := 16) X d_X_doWord_24 (by decide) ?_
  refine ev_ishr X d_X_doWord_26 ?_
  refine ev_topi (v := fI v) rfl ?_
  refine ev_istore X d_X_doWord_27 (by decide) ?_
  refine ev_aload_n X d_X_doWord_29 rfl ?_
  refine ev_getI X f_X_205 M rfl d_X_doWord_30 ?_
  refine ev_iconst (v := 1) X d_X_doWord_33 (by decide) ?_
  refine ev_iadd X d_X_doWord_34 ?_
  refine ev_istore X d_X_doWord_35 (by decide) ?_
  refine ev_iload_n X d_X_doWord_37 rfl ?_
  refine ev_bipush (v := 15) X d_X_doWord_38 (by decide) ?_
  refine ev_iand X d_X_doWord_40 ?_
  refine ev_topi (v := fO v) rfl ?_
  by_cases q0 : fO v = 0
  · rw [q0]
    refine ev_tableIn (tgt := 100) X d_X_doWord_41 (by decide) (by decide) rfl (by decide) ?_
    refine ev_aload_n X d_X_doWord_100 rfl ?_
    refine ev_iconst (v := 4) X d_X_doWord_101 (by decide) ?_
    refine ev_aload X d_X_doWord_102 rfl ?_
    refine ev_iload X d_X_doWord_104 rfl ?_
    refine ev_iald X (li_er M) rfl (inr_z (fA_in v)) (inr_j (k := 8) rfl (by decide) (fA_in v)) d_X_doWord_106 ?_
    refine ev_cV0 X m_X_208 (c_E_endWith M) M rfl rfl (by decide) (by decide) d_X_doWord_107 rfl rfl (Nat.le_of_ble_eq_true rfl) ?_
    refine ev_iload X d_X_doWord_110 rfl ?_
    exact ev_iretL X hr hk d_X_doWord_112 (by simp [dwV, rgA, rgB, q0]) (by simp [dwS, rgA, rgB, q0])
  · by_cases q1 : fO v = 1
    · rw [q1]
      refine ev_tableIn (tgt := 113) X d_X_doWord_41 (by decide) (by decide) rfl (by decide) ?_
      refine ev_aload X d_X_doWord_113 rfl ?_
      refine ev_iload X d_X_doWord_115 rfl ?_
      refine ev_aload X d_X_doWord_117 rfl ?_
      refine ev_iload X d_X_doWord_119 rfl ?_
      refine ev_iald X (li_er M) rfl (inr_z (fB_in v)) (inr_j (k := 8) rfl (by decide) (fB_in v)) d_X_doWord_121 ?_
      refine ev_iload X d_X_doWord_122 rfl ?_
      refine ev_iadd X d_X_doWord_124 ?_
      refine ev_iast X (li_er M) rfl (inr_z (fA_in v)) (inr_j (k := 8) rfl (by decide) (fA_in v)) d_X_doWord_125 ?_
      refine ev_iload X d_X_doWord_126 rfl ?_
      exact ev_iretL X hr hk d_X_doWord_128 (by simp [dwV, rgA, rgB, q0, q1]) (by simp [dwS, rgA, rgB, q0, q1])
    · by_cases q2 : fO v = 2
      · rw [q2]
        refine ev_tableIn (tgt := 129) X d_X_doWord_41 (by decide) (by decide) rfl (by decide) ?_
        refine ev_aload X d_X_doWord_129 rfl ?_
        refine ev_iload X d_X_doWord_131 rfl ?_
        refine ev_aload X d_X_doWord_133 rfl ?_
        refine ev_iload X d_X_doWord_135 rfl ?_
        refine ev_iald X (li_er M) rfl (inr_z (fA_in v)) (inr_j (k := 8) rfl (by decide) (fA_in v)) d_X_doWord_137 ?_
        refine ev_aload X d_X_doWord_138 rfl ?_
        refine ev_iload X d_X_doWord_140 rfl ?_
        refine ev_iald X (li_er M) rfl (inr_z (fB_in v)) (inr_j (k := 8) rfl (by decide) (fB_in v)) d_X_doWord_142 ?_
        refine ev_iadd X d_X_doWord_143 ?_
        refine ev_iast X (li_er M) rfl (inr_z (fA_in v)) (inr_j (k := 8) rfl (by decide) (fA_in v)) d_X_doWord_144 ?_
        refine ev_iload X d_X_doWord_145 rfl ?_
        exact ev_iretL X hr hk d_X_doWord_147 (by simp [dwV, rgA, rgB, q0, q1, q2]) (by simp [dwS, rgA, rgB, q0, q1, q2])
      · by_cases q3 : fO v = 3
        · rw [q3]
          refine ev_tableIn (tgt := 148) X d_X_doWord_41 (by decide) (by decide) rfl (by decide) ?_
          refine ev_aload X d_X_doWord_148 rfl ?_
          refine ev_iload X d_X_doWord_150 rfl ?_
          refine ev_aload X d_X_doWord_152 rfl ?_
          refine ev_iload X d_X_doWord_154 rfl ?_
          refine ev_iald X (li_er M) rfl (inr_z (fA_in v)) (inr_j (k := 8) rfl (by decide) (fA_in v)) d_X_doWord_156 ?_
          refine ev_aload X d_X_doWord_157 rfl ?_
          refine ev_iload X d_X_doWord_159 rfl ?_
          refine ev_iald X (li_er M) rfl (inr_z (fB_in v)) (inr_j (k := 8) rfl (by decide) (fB_in v)) d_X_doWord_161 ?_
          refine ev_ixor X d_X_doWord_162 ?_
          refine ev_iast X (li_er M) rfl (inr_z (fA_in v)) (inr_j (k := 8) rfl (by decide) (fA_in v)) d_X_doWord_163 ?_
          refine ev_iload X d_X_doWord_164 rfl ?_
          exact ev_iretL X hr hk d_X_doWord_166 (by simp [dwV, rgA, rgB, q0, q1, q2, q3]) (by simp [dwS, rgA, rgB, q0, q1, q2, q3])
        · by_cases q4 : fO v = 4
          · rw [q4]
            refine ev_tableIn (tgt := 167) X d_X_doWord_41 (by decide) (by decide) rfl (by decide) ?_
            refine ev_aload_n X d_X_doWord_167 rfl ?_
            refine ev_aload_n X d_X_doWord_168 rfl ?_
            refine ev_aload_n X d_X_doWord_169 rfl ?_
            refine ev_iload X d_X_doWord_170 rfl ?_
            refine ev_aload X d_X_doWord_172 rfl ?_
            refine ev_iload X d_X_doWord_174 rfl ?_
            refine ev_iald X (li_er M) rfl (inr_z (fB_in v)) (inr_j (k := 8) rfl (by decide) (fB_in v)) d_X_doWord_176 ?_
            refine ev_iload X d_X_doWord_177 rfl ?_
            refine ev_iadd X d_X_doWord_179 ?_
            refine ev_cV0 X m_X_217 (c_X_loadFor L M (fA_in v)) lo_this rfl rfl (by decide) (by decide) d_X_doWord_180 rfl rfl (Nat.le_of_ble_eq_true rfl) ?_
            refine ev_iload X d_X_doWord_183 rfl ?_
            exact ev_iretL X hr hk d_X_doWord_185 (by simp [dwV, rgA, rgB, q0, q1, q2, q3, q4]) (by simp [dwS, rgA, rgB, q0, q1, q2, q3, q4])
          · by_cases q5 : fO v = 5
            · rw [q5]
              refine ev_tableIn (tgt := 186) X d_X_doWord_41 (by decide) (by decide) rfl (by decide) ?_
              refine ev_aload_n X d_X_doWord_186 rfl ?_
              refine ev_aload_n X d_X_doWord_187 rfl ?_
              refine ev_aload_n X d_X_doWord_188 rfl ?_
              refine ev_iload X d_X_doWord_189 rfl ?_
              refine ev_aload X d_X_doWord_191 rfl ?_
              refine ev_iload X d_X_doWord_193 rfl ?_
              refine ev_iald X (li_er M) rfl (inr_z (fB_in v)) (inr_j (k := 8) rfl (by decide) (fB_in v)) d_X_doWord_195 ?_
              refine ev_iload X d_X_doWord_196 rfl ?_
              refine ev_iadd X d_X_doWord_198 ?_
              refine ev_cV0 X m_X_221 (c_X_storeFor L M (fA_in v)) lo_this rfl rfl (by decide) (by decide) d_X_doWord_199 rfl rfl (Nat.le_of_ble_eq_true rfl) ?_
              refine ev_iload X d_X_doWord_202 rfl ?_
              exact ev_iretL X hr hk d_X_doWord_204 (by simp [dwV, rgA, rgB, q0, q1, q2, q3, q4, q5]) (by simp [dwS, rgA, rgB, q0, q1, q2, q3, q4, q5])
            · by_cases q6 : fO v = 6
              · rw [q6]
                refine ev_tableIn (tgt := 205) X d_X_doWord_41 (by decide) (by decide) rfl (by decide) ?_
                refine ev_aload X d_X_doWord_205 rfl ?_
                refine ev_iload X d_X_doWord_207 rfl ?_
                refine ev_iald X (li_er M) rfl (inr_z (fA_in v)) (inr_j (k := 8) rfl (by decide) (fA_in v)) d_X_doWord_209 ?_
                refine ev_if_ne (tgt := 221) X d_X_doWord_210 (by decide) (fun h210 => ?_) (fun h210 => ?_)
                · refine ev_iload X d_X_doWord_221 rfl ?_
                  exact ev_iretL X hr hk d_X_doWord_223 (by simp [dwV, rgA, rgB, q0, q1, q2, q3, q4, q5, q6, h210]) (by simp [dwS, rgA, rgB, q0, q1, q2, q3, q4, q5, q6])
                · refine ev_iload X d_X_doWord_213 rfl ?_
                  refine ev_iload X d_X_doWord_215 rfl ?_
                  refine ev_iadd X d_X_doWord_217 ?_
                  refine ev_goto (tgt := 223) X d_X_doWord_218 (by decide) ?_
                  exact ev_iretL X hr hk d_X_doWord_223 (by simp [dwV, rgA, rgB, q0, q1, q2, q3, q4, q5, q6, h210]) (by simp [dwS, rgA, rgB, q0, q1, q2, q3, q4, q5, q6])
              · by_cases q7 : fO v = 7
                · rw [q7]
                  refine ev_tableIn (tgt := 224) X d_X_doWord_41 (by decide) (by decide) rfl (by decide) ?_
                  refine ev_aload X d_X_doWord_224 rfl ?_
                  refine ev_iload X d_X_doWord_226 rfl ?_
                  refine ev_iald X (li_er M) rfl (inr_z (fB_in v)) (inr_j (k := 8) rfl (by decide) (fB_in v)) d_X_doWord_228 ?_
                  refine ev_iload X d_X_doWord_229 rfl ?_
                  refine ev_iadd X d_X_doWord_231 ?_
                  refine ev_istore X d_X_doWord_232 (by decide) ?_
                  refine ev_aload X d_X_doWord_234 rfl ?_
                  refine ev_iload X d_X_doWord_236 rfl ?_
                  refine ev_iload X d_X_doWord_238 rfl ?_
                  refine ev_iast X (li_er M) rfl (inr_z (fA_in v)) (inr_j (k := 8) rfl (by decide) (fA_in v)) d_X_doWord_240 ?_
                  refine ev_iload X d_X_doWord_241 rfl ?_
                  exact ev_iretL X hr hk d_X_doWord_243 (by simp [dwV, rgA, rgB, q0, q1, q2, q3, q4, q5, q6, q7]) (by simp [dwS, rgA, rgB, q0, q1, q2, q3, q4, q5, q6, q7])
                · by_cases q8 : fO v = 8
                  · rw [q8]
                    refine ev_tableIn (tgt := 244) X d_X_doWord_41 (by decide) (by decide) rfl (by decide) ?_
                    refine ev_aload X d_X_doWord_244 rfl ?_
                    refine ev_iload X d_X_doWord_246 rfl ?_
                    refine ev_aload_n X d_X_doWord_248 rfl ?_
                    refine ev_aload_n X d_X_doWord_249 rfl ?_
                    refine ev_getI X f_X_120 M rfl d_X_doWord_250 ?_
                    refine ev_aload X d_X_doWord_253 rfl ?_
                    refine ev_iload X d_X_doWord_255 rfl ?_
                    refine ev_iald X (li_er M) rfl (inr_z (fB_in v)) (inr_j (k := 8) rfl (by decide) (fB_in v)) d_X_doWord_257 ?_
                    refine ev_cV1 X m_X_123 c_X_proofOf lo_this rfl rfl (by decide) (by decide) d_X_doWord_258 rfl rfl (Nat.le_of_ble_eq_true rfl) ?_
                    refine ev_iast X (li_er M) rfl (inr_z (fA_in v)) (inr_j (k := 8) rfl (by decide) (fA_in v)) d_X_doWord_261 ?_
                    refine ev_iload X d_X_doWord_262 rfl ?_
                    exact ev_iretL X hr hk d_X_doWord_264 (by simp [dwV, rgA, rgB, q0, q1, q2, q3, q4, q5, q6, q7, q8]) (by simp [dwS, rgA, rgB, q0, q1, q2, q3, q4, q5, q6, q7, q8])
                  · by_cases q9 : fO v = 9
                    · rw [q9]
                      refine ev_tableIn (tgt := 265) X d_X_doWord_41 (by decide) (by decide) rfl (by decide) ?_
                      refine ev_aload X d_X_doWord_265 rfl ?_
                      refine ev_iload X d_X_doWord_267 rfl ?_
                      refine ev_aload_n X d_X_doWord_269 rfl ?_
                      refine ev_aload_n X d_X_doWord_270 rfl ?_
                      refine ev_getI X f_X_120 M rfl d_X_doWord_271 ?_
                      refine ev_cV1 X m_X_224 c_X_secretOf lo_this rfl rfl (by decide) (by decide) d_X_doWord_274 rfl rfl (Nat.le_of_ble_eq_true rfl) ?_
                      refine ev_iast X (li_er M) rfl (inr_z (fA_in v)) (inr_j (k := 8) rfl (by decide) (fA_in v)) d_X_doWord_277 ?_
                      refine ev_iload X d_X_doWord_278 rfl ?_
                      exact ev_iretL X hr hk d_X_doWord_280 (by simp [dwV, rgA, rgB, q0, q1, q2, q3, q4, q5, q6, q7, q8, q9]) (by simp [dwS, rgA, rgB, q0, q1, q2, q3, q4, q5, q6, q7, q8, q9])
                    · by_cases q10 : fO v = 10
                      · rw [q10]
                        refine ev_tableIn (tgt := 281) X d_X_doWord_41 (by decide) (by decide) rfl (by decide) ?_
                        refine ev_aload_n X d_X_doWord_281 rfl ?_
                        refine ev_iconst (v := 3) X d_X_doWord_282 (by decide) ?_
                        refine ev_putI X f_X_86 M rfl d_X_doWord_283 ?_
                        refine ev_iload X d_X_doWord_286 rfl ?_
                        exact ev_iretL X hr hk d_X_doWord_288 (by simp [dwV, rgA, rgB, q0, q1, q2, q3, q4, q5, q6, q7, q8, q9, q10]) (by simp [dwS, rgA, rgB, q0, q1, q2, q3, q4, q5, q6, q7, q8, q9, q10])
                      · refine ev_tableOut (tgt := 289) X d_X_doWord_41 (sw_out10 q0 q1 q2 q3 q4 q5 q6 q7 q8 q9 q10) (by decide) ?_
                        refine ev_aload_n X d_X_doWord_289 rfl ?_
                        refine ev_iconst (v := 5) X d_X_doWord_290 (by decide) ?_
                        refine ev_iconst (v := 4) X d_X_doWord_291 (by decide) ?_
                        refine ev_cV0 X m_X_208 (c_E_endWith M) M rfl rfl (by decide) (by decide) d_X_doWord_292 rfl rfl (Nat.le_of_ble_eq_true rfl) ?_
                        refine ev_iload X d_X_doWord_295 rfl ?_
                        exact ev_iretL X hr hk d_X_doWord_297 (by simp [dwV, q0, q1, q2, q3, q4, q5, q6, q7, q8, q9, q10]) (by simp [dwS, q0, q1, q2, q3, q4, q5, q6, q7, q8, q9, q10])
set_option maxHeartbeats 4000000 in
set_option maxRecDepth 100000 in
theorem c_X_makeStep {l : Launch} {D : va_G} {ad : Nat → Nat} {ca : Nat → ClassId} {x : va_W} {S : St} {i j : Nat} (L : LyO lyX 41 i 2 (flP i)) (M : LyO lyX 41 j 3 (flE j)) : CtX l D ad ca x y_X_makeStep b_X_makeStep 5 none 4 [.ref (ad 0), .ref (ad i), .ref (ad j)] S (mkS S i j) none := by
  refine ev_ent [some (.ref (ad 0)), some (.ref (ad i)), some (.ref (ad j)), none, none] rfl (by decide) (Nat.le_of_ble_eq_true rfl) rfl gTT (fun p e s m args below meth c A X hr hk => ?_)
  refine ev_aload_n X d_X_makeStep_0 rfl ?_
  refine ev_getI X f_X_205 M rfl d_X_makeStep_1 ?_
  refine ev_istore_n X d_X_makeStep_4 (by decide) ?_
  refine ev_aload_n X d_X_makeStep_5 rfl ?_
  refine ev_aload_n X d_X_makeStep_6 rfl ?_
  refine ev_iload_n X d_X_makeStep_7 rfl ?_
  refine ev_iconst (v := 4) X d_X_makeStep_8 (by decide) ?_
  refine ev_cV1 X m_X_43 (c_X_isAllowed L) lo_this rfl rfl (by decide) (by decide) d_X_makeStep_9 rfl rfl (Nat.le_of_ble_eq_true rfl) ?_
  refine ev_if_neB (tgt := 22) X d_X_makeStep_12 (by decide) (fun h12 => ?_) (fun h12 => ?_)
  · refine ev_aload_n X d_X_makeStep_22 rfl ?_
    refine ev_aload_n X d_X_makeStep_23 rfl ?_
    refine ev_aload_n X d_X_makeStep_24 rfl ?_
    refine ev_aload_n X d_X_makeStep_25 rfl ?_
    refine ev_getR X f_X_13 lo_this rfl d_X_makeStep_26 ?_
    refine ev_iload_n X d_X_makeStep_29 rfl ?_
    refine ev_iald X li_mem rfl (inr_z (alw_in h12)) (inr_j (k := 256) rfl (by decide) (alw_in h12)) d_X_makeStep_30 ?_
    refine ev_cV1 X m_X_212 (c_X_doWord L M) lo_this rfl rfl (by decide) (by decide) d_X_makeStep_31 rfl rfl (Nat.le_of_ble_eq_true rfl) ?_
    refine ev_istore X d_X_makeStep_34 (by decide) ?_
    refine ev_aload_n X d_X_makeStep_36 rfl ?_
    refine ev_getI X f_X_86 M rfl d_X_makeStep_37 ?_
    refine ev_iconst (v := 5) X d_X_makeStep_40 (by decide) ?_
    refine ev_icmp_eq (tgt := 50) X d_X_makeStep_41 (by decide) (fun h41 => ?_) (fun h41 => ?_)
    · exact ev_vretL X hr hk d_X_makeStep_50 (by simp [mkS, h12, h41])
    · refine ev_aload_n X d_X_makeStep_44 rfl ?_
      refine ev_iload X d_X_makeStep_45 rfl ?_
      refine ev_putI X f_X_205 M rfl d_X_makeStep_47 ?_
      exact ev_vretL X hr hk d_X_makeStep_50 (by simp [mkS, h12, h41])
  · refine ev_aload_n X d_X_makeStep_15 rfl ?_
    refine ev_iconst (v := 5) X d_X_makeStep_16 (by decide) ?_
    refine ev_iconst (v := 1) X d_X_makeStep_17 (by decide) ?_
    refine ev_cV0 X m_X_208 (c_E_endWith M) M rfl rfl (by decide) (by decide) d_X_makeStep_18 rfl rfl (Nat.le_of_ble_eq_true rfl) ?_
    exact ev_vretL X hr hk d_X_makeStep_21 (by simp [mkS, h12])
end
section
theorem en_ne_all : ∀ i, i < 41 → ly_eq (lyX i) (.inl (3, flE i)) = true → 4 ≤ i ∧ i < 12 := by decide +kernel
theorem en_ne {i : Nat} (L : LyO lyX 41 i 3 (flE i)) : 4 ≤ i ∧ i < 12 := en_ne_all i L.1 (ly_eq_iff.mpr L.2)
theorem PeOK.of {S T : St} {i : Nat} (h : PeOK S i) (e : T i 2 = S i 2) : PeOK T i := by
  unfold PeOK
  rw [e]
  exact h
theorem fil_ne {S : St} {c a b c' : Nat} {v : Int32} (h : c' ≠ c) : fil S c a b v c' = S c' := by
  funext j
  unfold fil
  rw [if_neg (fun q => h q.1)]
theorem arP_ex {F N : Int32} (h : arP F N = true) : ∃ f n, F = nI f ∧ N = nI n ∧ f + n ≤ 16 ∧ 1 ≤ n ∧ n ≤ 8 := by
  simp only [arP, Bool.and_eq_true, Bool.not_eq_true', decide_eq_false_iff_not] at h
  obtain ⟨h1, h2, h3, h4⟩ := h
  obtain ⟨f, hf, rfl⟩ := inr_ex (k := 16) (by decide) rfl h3
  have hN0 : ¬ N < 0 := fun q => h1 (by
    have := Int32.lt_iff_toInt_lt.mp q
    refine Int32.lt_iff_toInt_lt.mpr ?_
    have e0 : (0 : Int32).toInt = 0 := by decide
    have e1 : (1 : Int32).toInt = 1 := by decide
    rw [e0] at this
    rw [e1]
    omega)
  obtain ⟨n, hn, rfl⟩ := nI_of hN0
  have n1 : 1 ≤ n := by
    by_cases q : 1 ≤ n
    · exact q
    · exact absurd (nI_lt (a := n) (b := 1) (by omega) (by decide)) h1
  have n8 : n ≤ 8 := by
    by_cases q : n ≤ 8
    · exact q
    · exact absurd (nI_lt (a := 8) (b := n) (by omega) hn) h2
  obtain ⟨g, hg, e⟩ := inr_ex (k := 16) (by decide) rfl h4
  rw [nI_add, show (1 : Int32) = nI 1 from rfl, pk_sub (by omega), nI_eq (by omega) (by omega)] at e
  exact ⟨f, n, rfl, rfl, by omega, n1, n8⟩
theorem c_X_areSystemPages' {l : Launch} {D : va_G} {ad : Nat → Nat} {ca : Nat → ClassId} {x : va_W} {S : St} {F N : Int32} (h : arP F N = true) : CtX l D ad ca x y_X_areSystemPages b_X_areSystemPages 4 (some .boolean) 0 [.ref (ad 0), .int F, .int N] S S (some (.int (b2i (sysP S F.toNatClampNeg N.toNatClampNeg)))) := by
  obtain ⟨f, n, rfl, rfl, h1, h2, h3⟩ := arP_ex h
  rw [nI_clamp (by omega), nI_clamp (by omega)]
  exact c_X_areSystemPages h1
def mkE1 (S : St) (i : Nat) (F N en sh : Int32) : St := up2 (up2 (up2 (up2 (up2 S i 1 1) i 2 F) i 3 N) i 4 en) i 5 sh
noncomputable def mkE (S : St) (k : Nat) (F N en sh : Int32) : St :=
  sAll (fil (up2 (mkE1 S (4 + 2 * k) F N en sh) (4 + 2 * k) 6 (meaS (mkE1 S (4 + 2 * k) F N en sh) (4 + 2 * k) F.toNatClampNeg N.toNatClampNeg)) 2 F.toNatClampNeg (F.toNatClampNeg + N.toNatClampNeg) (2 + nI k))
def rmE (S : St) (j f n : Nat) : St := sAll (up2 (fil (fil S 1 (16 * f) (16 * (f + n)) 0) 2 f (f + n) 1) j 1 0)
set_option maxHeartbeats 4000000 in
set_option maxRecDepth 100000 in
theorem c_X_makeEnclave {l : Launch} {D : va_G} {ad : Nat → Nat} {ca : Nat → ClassId} {x : va_W} {S : St} {k : Nat} {F N en sh : Int32} (hk4 : k < 4) (ha : arP F N = true) (p0 : PeOK S 13) (p1 : PeOK S 27) : CtX l D ad ca x y_X_makeEnclave b_X_makeEnclave 7 none 5 [.ref (ad 0), .int (nI k), .int F, .int N, .int en, .int sh] S (mkE S k F N en sh) none := by
  refine ev_ent [some (.ref (ad 0)), some (.int (nI k)), some (.int F), some (.int N), some (.int en), some (.int sh), none] rfl (by decide) (Nat.le_of_ble_eq_true rfl) rfl gTT (fun p e s m args below meth c A X hr hk => ?_)
  obtain ⟨f, n, hF, hN, hfn, -, -⟩ := arP_ex ha
  have eF : F.toNatClampNeg = f := by rw [hF, nI_clamp (by omega)]
  have eN : N.toNatClampNeg = n := by rw [hN, nI_clamp (by omega)]
  have n13 : ¬ 13 = 4 + 2 * k := by omega
  have n27 : ¬ 27 = 4 + 2 * k := by omega
  refine ev_aload_n X d_X_makeEnclave_0 rfl ?_
  refine ev_getR X f_X_22 lo_this rfl d_X_makeEnclave_1 ?_
  refine ev_iload_n X d_X_makeEnclave_4 rfl ?_
  refine ev_aald X lr_en rfl rfl hk4 d_X_makeEnclave_5 ?_
  refine ev_astore X d_X_makeEnclave_6 (by decide) ?_
  refine ev_aload X d_X_makeEnclave_8 rfl ?_
  refine ev_iconst (v := 1) X d_X_makeEnclave_10 (by decide) ?_
  refine ev_putI X f_X_86 (lo_en hk4) rfl d_X_makeEnclave_11 ?_
  refine ev_aload X d_X_makeEnclave_14 rfl ?_
  refine ev_iload_n X d_X_makeEnclave_16 rfl ?_
  refine ev_putI X f_X_148 (lo_en hk4) rfl d_X_makeEnclave_17 ?_
  refine ev_aload X d_X_makeEnclave_20 rfl ?_
  refine ev_iload_n X d_X_makeEnclave_22 rfl ?_
  refine ev_putI X f_X_151 (lo_en hk4) rfl d_X_makeEnclave_23 ?_
  refine ev_aload X d_X_makeEnclave_26 rfl ?_
  refine ev_iload X d_X_makeEnclave_28 rfl ?_
  refine ev_putI X f_X_154 (lo_en hk4) rfl d_X_makeEnclave_30 ?_
  refine ev_aload X d_X_makeEnclave_33 rfl ?_
  refine ev_iload X d_X_makeEnclave_35 rfl ?_
  refine ev_putI X f_X_157 (lo_en hk4) rfl d_X_makeEnclave_37 ?_
  refine ev_aload X d_X_makeEnclave_40 rfl ?_
  refine ev_aload_n X d_X_makeEnclave_42 rfl ?_
  refine ev_aload X d_X_makeEnclave_43 rfl ?_
  refine ev_cV1 X m_X_160 (c_X_measure (f := f) (n := n) (lo_en hk4) (by simp [up2_at, hF]) (by simp [up2_at, hN]) hfn) lo_this rfl rfl (by decide) (by decide) d_X_makeEnclave_45 rfl rfl (Nat.le_of_ble_eq_true rfl) ?_
  refine ev_putI X f_X_120 (lo_en hk4) rfl d_X_makeEnclave_48 ?_
  refine ev_aload_n X d_X_makeEnclave_51 rfl ?_
  refine ev_aload X d_X_makeEnclave_52 rfl ?_
  refine ev_iconst (v := 2) X d_X_makeEnclave_54 (by decide) ?_
  refine ev_iload_n X d_X_makeEnclave_55 rfl ?_
  refine ev_iadd X d_X_makeEnclave_56 ?_
  refine ev_cV0 X m_X_164 (c_X_setOwner (f := f) (n := n) (lo_en hk4) (by simp [up2_at, hF]) (by simp [up2_at, hN]) hfn) lo_this rfl rfl (by decide) (by decide) d_X_makeEnclave_57 rfl rfl (Nat.le_of_ble_eq_true rfl) ?_
  refine ev_aload_n X d_X_makeEnclave_60 rfl ?_
  refine ev_cV0 X m_X_34 (c_X_setAllGuards (p0.of (by simp [fil, up2_at, n13])) (p1.of (by simp [fil, up2_at, n27]))) lo_this rfl rfl (by decide) (by decide) d_X_makeEnclave_61 rfl rfl (Nat.le_of_ble_eq_true rfl) ?_
  exact ev_vretL X hr hk d_X_makeEnclave_64 (by unfold mkE; rw [eF, eN]; rfl)
set_option maxHeartbeats 4000000 in
set_option maxRecDepth 100000 in
theorem c_X_removeEnclave {l : Launch} {D : va_G} {ad : Nat → Nat} {ca : Nat → ClassId} {x : va_W} {S : St} {i f n : Nat} (L : LyO lyX 41 i 3 (flE i)) (hf : S i 2 = nI f) (hn : S i 3 = nI n) (hfn : f + n ≤ 16) (p0 : PeOK S 13) (p1 : PeOK S 27) : CtX l D ad ca x y_X_removeEnclave b_X_removeEnclave 4 none 5 [.ref (ad 0), .ref (ad i)] S (rmE S i f n) none := by
  refine ev_ent [some (.ref (ad 0)), some (.ref (ad i)), none, none] rfl (by decide) (Nat.le_of_ble_eq_true rfl) rfl gTT (fun p e s m args below meth c A X hr hk => ?_)
  have hne := en_ne L
  have n13 : ¬ 13 = i := by omega
  have n27 : ¬ 27 = i := by omega
  have loop : ∀ (r k : Nat), k + r = 16 * (f + n) → 16 * f ≤ k → EV p l e (rmd 5) s m args below meth c 0 0 (MQ below (QQ clX D A (ly_w lyX 41 ad ca (rmE S i f n) x) none) args s 0 0 A) 4 D clX A s.heap (ly_w lyX 41 ad ca (fil S 1 (16 * f) k 0) x) 10 [some (.ref (ad 0)), some (.ref (ad i)), some (.int (nI (16 * (f + n)))), some (.int (nI k))] [] := by
    intro r
    induction r with
    | zero =>
      intro k q1 q2
      refine ev_iload_n X d_X_removeEnclave_10 rfl ?_
      refine ev_iload_n X d_X_removeEnclave_11 rfl ?_
      refine ev_icmp_ge (tgt := 28) X d_X_removeEnclave_12 (by decide) (fun h12 => ?_) (fun h12 => ?_)
      · refine ev_aload_n X d_X_removeEnclave_28 rfl ?_
        refine ev_aload_n X d_X_removeEnclave_29 rfl ?_
        refine ev_iconst (v := 1) X d_X_removeEnclave_30 (by decide) ?_
        refine ev_cV0 X m_X_164 (c_X_setOwner (f := f) (n := n) L (by rw [fil_ne (by omega)]; exact hf) (by rw [fil_ne (by omega)]; exact hn) hfn) lo_this rfl rfl (by decide) (by decide) d_X_removeEnclave_31 rfl rfl (Nat.le_of_ble_eq_true rfl) ?_
        refine ev_aload_n X d_X_removeEnclave_34 rfl ?_
        refine ev_iconst (v := 0) X d_X_removeEnclave_35 (by decide) ?_
        refine ev_putI X f_X_86 L rfl d_X_removeEnclave_36 ?_
        refine ev_aload_n X d_X_removeEnclave_39 rfl ?_
        refine ev_cV0 X m_X_34 (c_X_setAllGuards (p0.of (by simp [fil, up2_at, n13])) (p1.of (by simp [fil, up2_at, n27]))) lo_this rfl rfl (by decide) (by decide) d_X_removeEnclave_40 rfl rfl (Nat.le_of_ble_eq_true rfl) ?_
        exact ev_vretL X hr hk d_X_removeEnclave_43 (by unfold rmE; rw [show k = 16 * (f + n) by omega])
      · exact absurd (nI_le (by omega) (by omega)) h12
    | succ r ih =>
      intro k q1 q2
      refine ev_iload_n X d_X_removeEnclave_10 rfl ?_
      refine ev_iload_n X d_X_removeEnclave_11 rfl ?_
      refine ev_icmp_ge (tgt := 28) X d_X_removeEnclave_12 (by decide) (fun h12 => ?_) (fun h12 => ?_)
      · exact absurd h12 (nI_ge (by omega) (by omega))
      · refine ev_aload_n X d_X_removeEnclave_15 rfl ?_
        refine ev_getR X f_X_13 lo_this rfl d_X_removeEnclave_16 ?_
        refine ev_iload_n X d_X_removeEnclave_19 rfl ?_
        refine ev_iconst (v := 0) X d_X_removeEnclave_20 (by decide) ?_
        refine ev_iast X li_mem rfl rfl (by omega) d_X_removeEnclave_21 ?_
        refine ev_iinc (v := nI (k + 1)) X d_X_removeEnclave_22 rfl (nI_1 k) (by decide) ?_
        refine ev_goto (tgt := 10) X d_X_removeEnclave_25 (by decide) ?_
        rw [fil_up (by omega)]
        exact ih (k + 1) (by omega) (by omega)
  refine ev_aload_n X d_X_removeEnclave_0 rfl ?_
  refine ev_cV1 X m_X_168 (c_E_endWord L) L rfl rfl (by decide) (by decide) d_X_removeEnclave_1 rfl rfl (Nat.le_of_ble_eq_true rfl) ?_
  refine ev_topi (v := nI (16 * (f + n))) (by rw [hf, hn, nI_add, w16]) ?_
  refine ev_istore_n X d_X_removeEnclave_4 (by decide) ?_
  refine ev_aload_n X d_X_removeEnclave_5 rfl ?_
  refine ev_cV1 X m_X_171 (c_E_firstWord L) L rfl rfl (by decide) (by decide) d_X_removeEnclave_6 rfl rfl (Nat.le_of_ble_eq_true rfl) ?_
  refine ev_topi (v := nI (16 * f)) (by rw [hf, w16]) ?_
  refine ev_istore_n X d_X_removeEnclave_9 (by decide) ?_
  refine ev_of (w1 := ly_w lyX 41 ad ca (fil S 1 (16 * f) (16 * f) 0) x) (by rw [fil_nil]) rfl rfl rfl ?_
  exact loop (16 * n) (16 * f) (by omega) (by omega)
def vLoad (S : St) (z a : Int32) : Int64 := if busyS S z = true then 1099511627776 else if alw S (13 + 14 * z.toNatClampNeg) a 1 = true then (S 1 a.toNatClampNeg).toInt64 else 1099511627777
def sLoad (S : St) (z a : Int32) : St := if busyS S z = true then S else if alw S (13 + 14 * z.toNatClampNeg) a 1 = true then S else up2 S 0 5 (S 0 5 + 1)
def vStore (S : St) (z a : Int32) : Int32 := if busyS S z = true then -1 else if alw S (13 + 14 * z.toNatClampNeg) a 2 = true then 0 else 1
def sStore (S : St) (z a v : Int32) : St := if busyS S z = true then S else if alw S (13 + 14 * z.toNatClampNeg) a 2 = true then up2 S 1 a.toNatClampNeg v else up2 S 0 5 (S 0 5 + 1)
def vGive (S : St) (z k : Int32) : Bool := !busyS S z && inr k 8
def sGive (S : St) (z k v : Int32) : St := if busyS S z = true then S else if inr k 8 = true then up2 S (13 + 14 * z.toNatClampNeg + 1) k.toNatClampNeg v else S
def vReg (S : St) (z k : Int32) : Int64 := if busyS S z = true then 1099511627776 else if inr k 8 = true then (S (13 + 14 * z.toNatClampNeg + 1) k.toNatClampNeg).toInt64 else 1099511627776
def okC (S : St) (F N en sh : Int32) : Bool := arP F N && (onP en F N && shS sh)
def vCreate (S : St) (z F N en sh : Int32) : Int32 := if busyS S z = true then -1 else if okC S F N en sh = false then -2 else if sysP S F.toNatClampNeg N.toNatClampNeg = false then -3 else if canS S sh F N = false then -4 else if lfeS S 0 4 = -1 then -5 else lfeS S 0 4
noncomputable def sCreate (S : St) (z F N en sh : Int32) : St := if busyS S z = true then S else if okC S F N en sh = false then S else if sysP S F.toNatClampNeg N.toNatClampNeg = false then S else if canS S sh F N = false then S else if lfeS S 0 4 = -1 then S else mkE S (lfeS S 0 4).toNatClampNeg F N en sh
def vRun (S : St) (z q : Int32) : Int32 := if busyS S z = true then -1 else if thrS S q = false then -2 else if S (4 + 2 * q.toNatClampNeg) 1 = 1 then 0 else if S (4 + 2 * q.toNatClampNeg) 1 = 3 then 0 else -2
def goS (S : St) (z q : Int32) : St := sGs (up2 (up2 S (4 + 2 * q.toNatClampNeg) 1 2) (13 + 14 * z.toNatClampNeg) 2 q) (13 + 14 * z.toNatClampNeg)
def sRun (S : St) (z q v : Int32) : St := if busyS S z = true then S else if thrS S q = false then S else if S (4 + 2 * q.toNatClampNeg) 1 = 1 then goS (sStart S (4 + 2 * q.toNatClampNeg) v) z q else if S (4 + 2 * q.toNatClampNeg) 1 = 3 then goS S z q else S
noncomputable def stp (i j : Nat) : Nat → Nat → St → Nat
  | 0, k, _ => k
  | n + 1, k, S => if S j 1 = 2 then stp i j n (k + 1) (mkS S i j) else k
noncomputable def stS (i j : Nat) : Nat → St → St
  | 0, S => S
  | n + 1, S => if S j 1 = 2 then stS i j n (mkS S i j) else S
def enOf (S : St) (z : Int32) : Nat := 4 + 2 * (S (13 + 14 * z.toNatClampNeg) 2).toNatClampNeg
def okN (N : Int32) : Bool := !decide (N < 1) && decide (N ≤ 100)
noncomputable def vStep (S : St) (z N : Int32) : Int32 := if runsS S z = true ∧ okN N = true then nI (stp (13 + 14 * z.toNatClampNeg) (enOf S z) N.toNatClampNeg 0 S) else -1
def endS (S : St) (i j : Nat) : St := if S j 1 = 2 then S else sGs (up2 S i 2 (-1)) i
noncomputable def sStep (S : St) (z N : Int32) : St := if runsS S z = true ∧ okN N = true then endS (stS (13 + 14 * z.toNatClampNeg) (enOf S z) N.toNatClampNeg S) (13 + 14 * z.toNatClampNeg) (enOf S z) else S
def vInt (S : St) (z : Int32) : Int32 := if runsS S z = true then S (13 + 14 * z.toNatClampNeg) 2 else -1
def sInt (S : St) (z : Int32) : St := if runsS S z = true then sGs (up2 (up2 S (enOf S z) 1 3) (13 + 14 * z.toNatClampNeg) 2 (-1)) (13 + 14 * z.toNatClampNeg) else S
def vDes (S : St) (z q : Int32) : Int32 := if busyS S z = true then -1 else if thrS S q = false then -2 else if S (4 + 2 * q.toNatClampNeg) 1 = 2 then -3 else 0
def sDes (S : St) (z q : Int32) : St := if busyS S z = true then S else if thrS S q = false then S else if S (4 + 2 * q.toNatClampNeg) 1 = 2 then S else rmE S (4 + 2 * q.toNatClampNeg) (S (4 + 2 * q.toNatClampNeg) 2).toNatClampNeg (S (4 + 2 * q.toNatClampNeg) 3).toNatClampNeg
def vRel (S : St) (q : Int32) : Int64 := if thrS S q = false then 1099511627776 else if S (4 + 2 * q.toNatClampNeg) 1 = 4 then (S (4 + 2 * q.toNatClampNeg) 8).toInt64 else if S (4 + 2 * q.toNatClampNeg) 1 = 5 then (S (4 + 2 * q.toNatClampNeg) 8).toInt64 else 1099511627776
def vMea (S : St) (q : Int32) : Int64 := if thrS S q = true then (S (4 + 2 * q.toNatClampNeg) 6).toInt64 else 1099511627776
set_option maxHeartbeats 4000000 in
set_option maxRecDepth 100000 in
theorem c_X_load {l : Launch} {D : va_G} {ad : Nat → Nat} {ca : Nat → ClassId} {x : va_W} {S : St} {z a : Int32}  : CtX l D ad ca x y_X_load b_X_load 3 (some .long) 2 [.ref (ad 0), .int z, .int a] S (sLoad S z a) (some (.long (vLoad S z a))) := by
  refine ev_ent [some (.ref (ad 0)), some (.int z), some (.int a)] rfl (by decide) (Nat.le_of_ble_eq_true rfl) rfl gTT (fun p e s m args below meth c A X hr hk => ?_)
  refine ev_aload_n X d_X_load_0 rfl ?_
  refine ev_iload_n X d_X_load_1 rfl ?_
  refine ev_cV1 X m_X_37 c_X_isBusy lo_this rfl rfl (by decide) (by decide) d_X_load_2 rfl rfl (Nat.le_of_ble_eq_true rfl) ?_
  refine ev_if_eqB (tgt := 12) X d_X_load_5 (by decide) (fun h5 => ?_) (fun h5 => ?_)
  · refine ev_aload_n X d_X_load_12 rfl ?_
    refine ev_aload_n X d_X_load_13 rfl ?_
    refine ev_getR X f_X_29 lo_this rfl d_X_load_14 ?_
    refine ev_iload_n X d_X_load_17 rfl ?_
    refine ev_aald X lr_pr rfl (inr_z (busy_in h5)) (inr_j (k := 2) rfl (by decide) (busy_in h5)) d_X_load_18 ?_
    refine ev_iload_n X d_X_load_19 rfl ?_
    refine ev_iconst (v := 1) X d_X_load_20 (by decide) ?_
    refine ev_cV1 X m_X_43 (c_X_isAllowed (lo_pr (inr_j (k := 2) rfl (by decide) (busy_in h5)))) lo_this rfl rfl (by decide) (by decide) d_X_load_21 rfl rfl (Nat.le_of_ble_eq_true rfl) ?_
    refine ev_if_neB (tgt := 41) X d_X_load_24 (by decide) (fun h24 => ?_) (fun h24 => ?_)
    · refine ev_aload_n X d_X_load_41 rfl ?_
      refine ev_getR X f_X_13 lo_this rfl d_X_load_42 ?_
      refine ev_iload_n X d_X_load_45 rfl ?_
      refine ev_iald X li_mem rfl (inr_z (alw_in h24)) (inr_j (k := 256) rfl (by decide) (alw_in h24)) d_X_load_46 ?_
      refine ev_i2l X d_X_load_47 ?_
      exact ev_lretL X hr hk d_X_load_48 (by simp [vLoad, h5, h24]) (by simp [sLoad, h5, h24])
    · refine ev_aload_n X d_X_load_27 rfl ?_
      refine ev_dup X d_X_load_28 rfl ?_
      refine ev_getI X f_X_47 lo_this rfl d_X_load_29 ?_
      refine ev_iconst (v := 1) X d_X_load_32 (by decide) ?_
      refine ev_iadd X d_X_load_33 ?_
      refine ev_putI X f_X_47 lo_this rfl d_X_load_34 ?_
      refine ev_ldc2 X k_X_50 d_X_load_37 ?_
      exact ev_lretL X hr hk d_X_load_40 (by simp [vLoad, h5, h24]) (by simp [sLoad, h5, h24])
  · refine ev_ldc2 X k_X_41 d_X_load_8 ?_
    exact ev_lretL X hr hk d_X_load_11 (by simp [vLoad, h5]) (by simp [sLoad, h5])
set_option maxHeartbeats 4000000 in
set_option maxRecDepth 100000 in
theorem c_X_store {l : Launch} {D : va_G} {ad : Nat → Nat} {ca : Nat → ClassId} {x : va_W} {S : St} {z a v : Int32}  : CtX l D ad ca x y_X_store b_X_store 4 (some .int) 2 [.ref (ad 0), .int z, .int a, .int v] S (sStore S z a v) (some (.int (vStore S z a))) := by
  refine ev_ent [some (.ref (ad 0)), some (.int z), some (.int a), some (.int v)] rfl (by decide) (Nat.le_of_ble_eq_true rfl) rfl gTT (fun p e s m args below meth c A X hr hk => ?_)
  refine ev_aload_n X d_X_store_0 rfl ?_
  refine ev_iload_n X d_X_store_1 rfl ?_
  refine ev_cV1 X m_X_37 c_X_isBusy lo_this rfl rfl (by decide) (by decide) d_X_store_2 rfl rfl (Nat.le_of_ble_eq_true rfl) ?_
  refine ev_if_eqB (tgt := 10) X d_X_store_5 (by decide) (fun h5 => ?_) (fun h5 => ?_)
  · refine ev_aload_n X d_X_store_10 rfl ?_
    refine ev_aload_n X d_X_store_11 rfl ?_
    refine ev_getR X f_X_29 lo_this rfl d_X_store_12 ?_
    refine ev_iload_n X d_X_store_15 rfl ?_
    refine ev_aald X lr_pr rfl (inr_z (busy_in h5)) (inr_j (k := 2) rfl (by decide) (busy_in h5)) d_X_store_16 ?_
    refine ev_iload_n X d_X_store_17 rfl ?_
    refine ev_iconst (v := 2) X d_X_store_18 (by decide) ?_
    refine ev_cV1 X m_X_43 (c_X_isAllowed (lo_pr (inr_j (k := 2) rfl (by decide) (busy_in h5)))) lo_this rfl rfl (by decide) (by decide) d_X_store_19 rfl rfl (Nat.le_of_ble_eq_true rfl) ?_
    refine ev_if_neB (tgt := 37) X d_X_store_22 (by decide) (fun h22 => ?_) (fun h22 => ?_)
    · refine ev_aload_n X d_X_store_37 rfl ?_
      refine ev_getR X f_X_13 lo_this rfl d_X_store_38 ?_
      refine ev_iload_n X d_X_store_41 rfl ?_
      refine ev_iload_n X d_X_store_42 rfl ?_
      refine ev_iast X li_mem rfl (inr_z (alw_in h22)) (inr_j (k := 256) rfl (by decide) (alw_in h22)) d_X_store_43 ?_
      refine ev_iconst (v := 0) X d_X_store_44 (by decide) ?_
      exact ev_iretL X hr hk d_X_store_45 (by simp [vStore, h5, h22]) (by simp [sStore, h5, h22])
    · refine ev_aload_n X d_X_store_25 rfl ?_
      refine ev_dup X d_X_store_26 rfl ?_
      refine ev_getI X f_X_47 lo_this rfl d_X_store_27 ?_
      refine ev_iconst (v := 1) X d_X_store_30 (by decide) ?_
      refine ev_iadd X d_X_store_31 ?_
      refine ev_putI X f_X_47 lo_this rfl d_X_store_32 ?_
      refine ev_iconst (v := 1) X d_X_store_35 (by decide) ?_
      exact ev_iretL X hr hk d_X_store_36 (by simp [vStore, h5, h22]) (by simp [sStore, h5, h22])
  · refine ev_iconst (v := (-1)) X d_X_store_8 (by decide) ?_
    exact ev_iretL X hr hk d_X_store_9 (by simp [vStore, h5]) (by simp [sStore, h5])
set_option maxHeartbeats 4000000 in
set_option maxRecDepth 100000 in
theorem c_X_give {l : Launch} {D : va_G} {ad : Nat → Nat} {ca : Nat → ClassId} {x : va_W} {S : St} {z a v : Int32}  : CtX l D ad ca x y_X_give b_X_give 4 (some .boolean) 2 [.ref (ad 0), .int z, .int a, .int v] S (sGive S z a v) (some (.int (b2i (vGive S z a)))) := by
  refine ev_ent [some (.ref (ad 0)), some (.int z), some (.int a), some (.int v)] rfl (by decide) (Nat.le_of_ble_eq_true rfl) rfl gTT (fun p e s m args below meth c A X hr hk => ?_)
  refine ev_aload_n X d_X_give_0 rfl ?_
  refine ev_iload_n X d_X_give_1 rfl ?_
  refine ev_cV1 X m_X_37 c_X_isBusy lo_this rfl rfl (by decide) (by decide) d_X_give_2 rfl rfl (Nat.le_of_ble_eq_true rfl) ?_
  refine ev_if_neB (tgt := 15) X d_X_give_5 (by decide) (fun h5 => ?_) (fun h5 => ?_)
  · refine ev_iconst (v := 0) X d_X_give_15 (by decide) ?_
    exact ev_zretL X hr hk d_X_give_16 (by simp [vGive, b2i, h5]) (by simp [sGive, h5])
  · refine ev_iload_n X d_X_give_8 rfl ?_
    refine ev_cS1 X m_X_52 c_X_isRegister (by decide) (by decide) d_X_give_9 rfl rfl (Nat.le_of_ble_eq_true rfl) ?_
    refine ev_if_neB (tgt := 17) X d_X_give_12 (by decide) (fun h12 => ?_) (fun h12 => ?_)
    · refine ev_aload_n X d_X_give_17 rfl ?_
      refine ev_getR X f_X_29 lo_this rfl d_X_give_18 ?_
      refine ev_iload_n X d_X_give_21 rfl ?_
      refine ev_aald X lr_pr rfl (inr_z (busy_in h5)) (inr_j (k := 2) rfl (by decide) (busy_in h5)) d_X_give_22 ?_
      refine ev_getR X f_X_55 (lo_pr (inr_j (k := 2) rfl (by decide) (busy_in h5))) rfl d_X_give_23 ?_
      refine ev_iload_n X d_X_give_26 rfl ?_
      refine ev_iload_n X d_X_give_27 rfl ?_
      refine ev_iast X (li_rg (lo_pr (inr_j (k := 2) rfl (by decide) (busy_in h5)))) rfl (inr_z h12) (inr_j (k := 8) rfl (by decide) h12) d_X_give_28 ?_
      refine ev_iconst (v := 1) X d_X_give_29 (by decide) ?_
      exact ev_zretL X hr hk d_X_give_30 (by simp [vGive, b2i, h5, h12]) (by simp [sGive, h5, h12])
    · refine ev_iconst (v := 0) X d_X_give_15 (by decide) ?_
      exact ev_zretL X hr hk d_X_give_16 (by simp [vGive, b2i, h5, h12]) (by simp [sGive, h5, h12])
set_option maxHeartbeats 4000000 in
set_option maxRecDepth 100000 in
theorem c_X_register {l : Launch} {D : va_G} {ad : Nat → Nat} {ca : Nat → ClassId} {x : va_W} {S : St} {z a : Int32}  : CtX l D ad ca x y_X_register b_X_register 3 (some .long) 2 [.ref (ad 0), .int z, .int a] S S (some (.long (vReg S z a))) := by
  refine ev_ent [some (.ref (ad 0)), some (.int z), some (.int a)] rfl (by decide) (Nat.le_of_ble_eq_true rfl) rfl gTT (fun p e s m args below meth c A X hr hk => ?_)
  refine ev_aload_n X d_X_register_0 rfl ?_
  refine ev_iload_n X d_X_register_1 rfl ?_
  refine ev_cV1 X m_X_37 c_X_isBusy lo_this rfl rfl (by decide) (by decide) d_X_register_2 rfl rfl (Nat.le_of_ble_eq_true rfl) ?_
  refine ev_if_neB (tgt := 15) X d_X_register_5 (by decide) (fun h5 => ?_) (fun h5 => ?_)
  · refine ev_ldc2 X k_X_41 d_X_register_15 ?_
    exact ev_lretL X hr hk d_X_register_18 (by simp [vReg, h5]) (rfl)
  · refine ev_iload_n X d_X_register_8 rfl ?_
    refine ev_cS1 X m_X_52 c_X_isRegister (by decide) (by decide) d_X_register_9 rfl rfl (Nat.le_of_ble_eq_true rfl) ?_
    refine ev_if_neB (tgt := 19) X d_X_register_12 (by decide) (fun h12 => ?_) (fun h12 => ?_)
    · refine ev_aload_n X d_X_register_19 rfl ?_
      refine ev_getR X f_X_29 lo_this rfl d_X_register_20 ?_
      refine ev_iload_n X d_X_register_23 rfl ?_
      refine ev_aald X lr_pr rfl (inr_z (busy_in h5)) (inr_j (k := 2) rfl (by decide) (busy_in h5)) d_X_register_24 ?_
      refine ev_getR X f_X_55 (lo_pr (inr_j (k := 2) rfl (by decide) (busy_in h5))) rfl d_X_register_25 ?_
      refine ev_iload_n X d_X_register_28 rfl ?_
      refine ev_iald X (li_rg (lo_pr (inr_j (k := 2) rfl (by decide) (busy_in h5)))) rfl (inr_z h12) (inr_j (k := 8) rfl (by decide) h12) d_X_register_29 ?_
      refine ev_i2l X d_X_register_30 ?_
      exact ev_lretL X hr hk d_X_register_31 (by simp [vReg, h5, h12]) (rfl)
    · refine ev_ldc2 X k_X_41 d_X_register_15 ?_
      exact ev_lretL X hr hk d_X_register_18 (by simp [vReg, h5, h12]) (rfl)
set_option maxHeartbeats 4000000 in
set_option maxRecDepth 100000 in
theorem c_X_released {l : Launch} {D : va_G} {ad : Nat → Nat} {ca : Nat → ClassId} {x : va_W} {S : St} {z : Int32}  : CtX l D ad ca x y_X_released b_X_released 4 (some .long) 2 [.ref (ad 0), .int z] S S (some (.long (vRel S z))) := by
  refine ev_ent [some (.ref (ad 0)), some (.int z), none, none] rfl (by decide) (Nat.le_of_ble_eq_true rfl) rfl gTT (fun p e s m args below meth c A X hr hk => ?_)
  refine ev_aload_n X d_X_released_0 rfl ?_
  refine ev_iload_n X d_X_released_1 rfl ?_
  refine ev_cV1 X m_X_83 c_X_isThere lo_this rfl rfl (by decide) (by decide) d_X_released_2 rfl rfl (Nat.le_of_ble_eq_true rfl) ?_
  refine ev_if_neB (tgt := 12) X d_X_released_5 (by decide) (fun h5 => ?_) (fun h5 => ?_)
  · refine ev_aload_n X d_X_released_12 rfl ?_
    refine ev_getR X f_X_22 lo_this rfl d_X_released_13 ?_
    refine ev_iload_n X d_X_released_16 rfl ?_
    refine ev_aald X lr_en rfl (inr_z (thr_in h5)) (inr_j (k := 4) rfl (by decide) (thr_in h5)) d_X_released_17 ?_
    refine ev_astore_n X d_X_released_18 (by decide) ?_
    refine ev_aload_n X d_X_released_19 rfl ?_
    refine ev_getI X f_X_86 (lo_en (inr_j (k := 4) rfl (by decide) (thr_in h5))) rfl d_X_released_20 ?_
    refine ev_iconst (v := 4) X d_X_released_23 (by decide) ?_
    refine ev_icmp_eq (tgt := 35) X d_X_released_24 (by decide) (fun h24 => ?_) (fun h24 => ?_)
    · refine ev_iconst (v := 1) X d_X_released_35 (by decide) ?_
      refine ev_goto (tgt := 40) X d_X_released_36 (by decide) ?_
      refine ev_istore_n X d_X_released_40 (by decide) ?_
      refine ev_iload_n X d_X_released_41 rfl ?_
      refine ev_if_eq (tgt := 53) X d_X_released_42 (by decide) (fun h42 => ?_) (fun h42 => ?_)
      · exact absurd h42 (by decide)
      · refine ev_aload_n X d_X_released_45 rfl ?_
        refine ev_getI X f_X_117 (lo_en (inr_j (k := 4) rfl (by decide) (thr_in h5))) rfl d_X_released_46 ?_
        refine ev_i2l X d_X_released_49 ?_
        refine ev_goto (tgt := 56) X d_X_released_50 (by decide) ?_
        exact ev_lretL X hr hk d_X_released_56 (by simp [vRel, h5, h24, h42]) (rfl)
    · refine ev_aload_n X d_X_released_27 rfl ?_
      refine ev_getI X f_X_86 (lo_en (inr_j (k := 4) rfl (by decide) (thr_in h5))) rfl d_X_released_28 ?_
      refine ev_iconst (v := 5) X d_X_released_31 (by decide) ?_
      refine ev_icmp_ne (tgt := 39) X d_X_released_32 (by decide) (fun h32 => ?_) (fun h32 => ?_)
      · refine ev_iconst (v := 0) X d_X_released_39 (by decide) ?_
        refine ev_istore_n X d_X_released_40 (by decide) ?_
        refine ev_iload_n X d_X_released_41 rfl ?_
        refine ev_if_eq (tgt := 53) X d_X_released_42 (by decide) (fun h42 => ?_) (fun h42 => ?_)
        · refine ev_ldc2 X k_X_41 d_X_released_53 ?_
          exact ev_lretL X hr hk d_X_released_56 (by simp [vRel, h5, h24, h32, h42]) (rfl)
        · exact absurd h42 (by decide)
      · refine ev_iconst (v := 1) X d_X_released_35 (by decide) ?_
        refine ev_goto (tgt := 40) X d_X_released_36 (by decide) ?_
        refine ev_istore_n X d_X_released_40 (by decide) ?_
        refine ev_iload_n X d_X_released_41 rfl ?_
        refine ev_if_eq (tgt := 53) X d_X_released_42 (by decide) (fun h42 => ?_) (fun h42 => ?_)
        · exact absurd h42 (by decide)
        · refine ev_aload_n X d_X_released_45 rfl ?_
          refine ev_getI X f_X_117 (lo_en (inr_j (k := 4) rfl (by decide) (thr_in h5))) rfl d_X_released_46 ?_
          refine ev_i2l X d_X_released_49 ?_
          refine ev_goto (tgt := 56) X d_X_released_50 (by decide) ?_
          exact ev_lretL X hr hk d_X_released_56 (by simp [vRel, h5, h24, h32, h42]) (rfl)
  · refine ev_ldc2 X k_X_41 d_X_released_8 ?_
    exact ev_lretL X hr hk d_X_released_11 (by simp [vRel, h5]) (rfl)
set_option maxHeartbeats 4000000 in
set_option maxRecDepth 100000 in
theorem c_X_measurement {l : Launch} {D : va_G} {ad : Nat → Nat} {ca : Nat → ClassId} {x : va_W} {S : St} {z : Int32}  : CtX l D ad ca x y_X_measurement b_X_measurement 2 (some .long) 2 [.ref (ad 0), .int z] S S (some (.long (vMea S z))) := by
  refine ev_ent [some (.ref (ad 0)), some (.int z)] rfl (by decide) (Nat.le_of_ble_eq_true rfl) rfl gTT (fun p e s m args below meth c A X hr hk => ?_)
  refine ev_aload_n X d_X_measurement_0 rfl ?_
  refine ev_iload_n X d_X_measurement_1 rfl ?_
  refine ev_cV1 X m_X_83 c_X_isThere lo_this rfl rfl (by decide) (by decide) d_X_measurement_2 rfl rfl (Nat.le_of_ble_eq_true rfl) ?_
  refine ev_if_eqB (tgt := 21) X d_X_measurement_5 (by decide) (fun h5 => ?_) (fun h5 => ?_)
  · refine ev_ldc2 X k_X_41 d_X_measurement_21 ?_
    exact ev_lretL X hr hk d_X_measurement_24 (by simp [vMea, h5]) (rfl)
  · refine ev_aload_n X d_X_measurement_8 rfl ?_
    refine ev_getR X f_X_22 lo_this rfl d_X_measurement_9 ?_
    refine ev_iload_n X d_X_measurement_12 rfl ?_
    refine ev_aald X lr_en rfl (inr_z (thr_in h5)) (inr_j (k := 4) rfl (by decide) (thr_in h5)) d_X_measurement_13 ?_
    refine ev_getI X f_X_120 (lo_en (inr_j (k := 4) rfl (by decide) (thr_in h5))) rfl d_X_measurement_14 ?_
    refine ev_i2l X d_X_measurement_17 ?_
    refine ev_goto (tgt := 24) X d_X_measurement_18 (by decide) ?_
    exact ev_lretL X hr hk d_X_measurement_24 (by simp [vMea, h5]) (rfl)
set_option maxHeartbeats 4000000 in
set_option maxRecDepth 100000 in
theorem c_X_verify {l : Launch} {D : va_G} {ad : Nat → Nat} {ca : Nat → ClassId} {x : va_W} {S : St} {u v b : Int32}  : CtX l D ad ca x y_X_verify b_X_verify 4 (some .boolean) 2 [.ref (ad 0), .int u, .int v, .int b] S S (some (.int (b2i (decide (b = prfS (S 0 0) u v))))) := by
  refine ev_ent [some (.ref (ad 0)), some (.int u), some (.int v), some (.int b)] rfl (by decide) (Nat.le_of_ble_eq_true rfl) rfl gTT (fun p e s m args below meth c A X hr hk => ?_)
  refine ev_iload_n X d_X_verify_0 rfl ?_
  refine ev_aload_n X d_X_verify_1 rfl ?_
  refine ev_iload_n X d_X_verify_2 rfl ?_
  refine ev_iload_n X d_X_verify_3 rfl ?_
  refine ev_cV1 X m_X_123 c_X_proofOf lo_this rfl rfl (by decide) (by decide) d_X_verify_4 rfl rfl (Nat.le_of_ble_eq_true rfl) ?_
  refine ev_icmp_ne (tgt := 14) X d_X_verify_7 (by decide) (fun h7 => ?_) (fun h7 => ?_)
  · refine ev_iconst (v := 0) X d_X_verify_14 (by decide) ?_
    exact ev_zretL X hr hk d_X_verify_15 (by simp [b2i, h7]) (rfl)
  · refine ev_iconst (v := 1) X d_X_verify_10 (by decide) ?_
    refine ev_goto (tgt := 15) X d_X_verify_11 (by decide) ?_
    exact ev_zretL X hr hk d_X_verify_15 (by simp [b2i, h7]) (rfl)
end
section
theorem lfe_all (S : St) : ∀ (n e : Nat), e + n = 4 → ¬ lfeS S e n = -1 → inr (lfeS S e n) 4 = true
  | 0, e, _, h => absurd rfl h
  | n + 1, e, he, h => by
    unfold lfeS at h ⊢
    by_cases q : S (4 + 2 * e) 1 = 0
    · rw [if_pos q]
      exact inr_nI (k := 4) (by omega) (by decide)
    · rw [if_neg q] at h ⊢
      exact lfe_all S n (e + 1) (by omega) h
theorem lfe_in {S : St} (h : ¬ lfeS S 0 4 = -1) : inr (lfeS S 0 4) 4 = true := lfe_all S 4 0 rfl h
def EnOK (S : St) (j : Nat) : Prop := S j 2 = nI (S j 2).toNatClampNeg ∧ S j 3 = nI (S j 3).toNatClampNeg ∧ (S j 2).toNatClampNeg + (S j 3).toNatClampNeg ≤ 16
set_option maxHeartbeats 4000000 in
set_option maxRecDepth 100000 in
theorem c_X_create {l : Launch} {D : va_G} {ad : Nat → Nat} {ca : Nat → ClassId} {x : va_W} {S : St} {z F N en sh : Int32} (hpe : ∀ k, k < 2 → PeOK S (13 + 14 * k)) : CtX l D ad ca x y_X_create b_X_create 7 (some .int) 6 [.ref (ad 0), .int z, .int F, .int N, .int en, .int sh] S (sCreate S z F N en sh) (some (.int (vCreate S z F N en sh))) := by
  refine ev_ent [some (.ref (ad 0)), some (.int z), some (.int F), some (.int N), some (.int en), some (.int sh), none] rfl (by decide) (Nat.le_of_ble_eq_true rfl) rfl gTT (fun p e s m args below meth c A X hr hk => ?_)
  refine ev_aload_n X d_X_create_0 rfl ?_
  refine ev_iload_n X d_X_create_1 rfl ?_
  refine ev_cV1 X m_X_37 c_X_isBusy lo_this rfl rfl (by decide) (by decide) d_X_create_2 rfl rfl (Nat.le_of_ble_eq_true rfl) ?_
  refine ev_if_eqB (tgt := 10) X d_X_create_5 (by decide) (fun h5 => ?_) (fun h5 => ?_)
  · refine ev_iload_n X d_X_create_10 rfl ?_
    refine ev_iload_n X d_X_create_11 rfl ?_
    refine ev_cS1 X m_X_58 c_X_arePages (by decide) (by decide) d_X_create_12 rfl rfl (Nat.le_of_ble_eq_true rfl) ?_
    refine ev_if_eqB (tgt := 36) X d_X_create_15 (by decide) (fun h15 => ?_) (fun h15 => ?_)
    · refine ev_bipush (v := (-2)) X d_X_create_36 (by decide) ?_
      exact ev_iretL X hr hk d_X_create_38 (by simp [vCreate, okC, h5, h15]) (by simp [sCreate, okC, h5, h15])
    · refine ev_iload X d_X_create_18 rfl ?_
      refine ev_iload_n X d_X_create_20 rfl ?_
      refine ev_iload_n X d_X_create_21 rfl ?_
      refine ev_cS1 X m_X_62 c_X_isOnPages (by decide) (by decide) d_X_create_22 rfl rfl (Nat.le_of_ble_eq_true rfl) ?_
      refine ev_if_eqB (tgt := 36) X d_X_create_25 (by decide) (fun h25 => ?_) (fun h25 => ?_)
      · refine ev_bipush (v := (-2)) X d_X_create_36 (by decide) ?_
        exact ev_iretL X hr hk d_X_create_38 (by simp [vCreate, okC, h5, h15, h25]) (by simp [sCreate, okC, h5, h15, h25])
      · refine ev_iload X d_X_create_28 rfl ?_
        refine ev_cS1 X m_X_66 c_X_isShared (by decide) (by decide) d_X_create_30 rfl rfl (Nat.le_of_ble_eq_true rfl) ?_
        refine ev_if_neB (tgt := 39) X d_X_create_33 (by decide) (fun h33 => ?_) (fun h33 => ?_)
        · refine ev_aload_n X d_X_create_39 rfl ?_
          refine ev_iload_n X d_X_create_40 rfl ?_
          refine ev_iload_n X d_X_create_41 rfl ?_
          refine ev_cV1 X m_X_69 (c_X_areSystemPages' h15) lo_this rfl rfl (by decide) (by decide) d_X_create_42 rfl rfl (Nat.le_of_ble_eq_true rfl) ?_
          refine ev_if_neB (tgt := 51) X d_X_create_45 (by decide) (fun h45 => ?_) (fun h45 => ?_)
          · refine ev_aload_n X d_X_create_51 rfl ?_
            refine ev_iload X d_X_create_52 rfl ?_
            refine ev_iload_n X d_X_create_54 rfl ?_
            refine ev_iload_n X d_X_create_55 rfl ?_
            refine ev_cV1 X m_X_72 (c_X_canShare h33) lo_this rfl rfl (by decide) (by decide) d_X_create_56 rfl rfl (Nat.le_of_ble_eq_true rfl) ?_
            refine ev_if_neB (tgt := 65) X d_X_create_59 (by decide) (fun h59 => ?_) (fun h59 => ?_)
            · refine ev_aload_n X d_X_create_65 rfl ?_
              refine ev_cV1 X m_X_75 c_X_leastFreeEnclave lo_this rfl rfl (by decide) (by decide) d_X_create_66 rfl rfl (Nat.le_of_ble_eq_true rfl) ?_
              refine ev_istore X d_X_create_69 (by decide) ?_
              refine ev_iload X d_X_create_71 rfl ?_
              refine ev_iconst (v := (-1)) X d_X_create_73 (by decide) ?_
              refine ev_icmp_ne (tgt := 80) X d_X_create_74 (by decide) (fun h74 => ?_) (fun h74 => ?_)
              · refine ev_aload_n X d_X_create_80 rfl ?_
                refine ev_iload X d_X_create_81 rfl ?_
                refine ev_topi (v := nI (lfeS S 0 4).toNatClampNeg) (inr_z (lfe_in h74)) ?_
                refine ev_iload_n X d_X_create_83 rfl ?_
                refine ev_iload_n X d_X_create_84 rfl ?_
                refine ev_iload X d_X_create_85 rfl ?_
                refine ev_iload X d_X_create_87 rfl ?_
                refine ev_cV0 X m_X_79 (c_X_makeEnclave (inr_j (k := 4) rfl (by decide) (lfe_in h74)) h15 (hpe 0 (by decide)) (hpe 1 (by decide))) lo_this rfl rfl (by decide) (by decide) d_X_create_89 rfl rfl (Nat.le_of_ble_eq_true rfl) ?_
                refine ev_iload X d_X_create_92 rfl ?_
                exact ev_iretL X hr hk d_X_create_94 (by simp [vCreate, okC, h5, h15, h25, h33, h45, h59, h74]) (by simp [sCreate, okC, h5, h15, h25, h33, h45, h59, h74])
              · refine ev_bipush (v := (-5)) X d_X_create_77 (by decide) ?_
                exact ev_iretL X hr hk d_X_create_79 (by simp [vCreate, okC, h5, h15, h25, h33, h45, h59, h74]) (by simp [sCreate, okC, h5, h15, h25, h33, h45, h59, h74])
            · refine ev_bipush (v := (-4)) X d_X_create_62 (by decide) ?_
              exact ev_iretL X hr hk d_X_create_64 (by simp [vCreate, okC, h5, h15, h25, h33, h45, h59]) (by simp [sCreate, okC, h5, h15, h25, h33, h45, h59])
          · refine ev_bipush (v := (-3)) X d_X_create_48 (by decide) ?_
            exact ev_iretL X hr hk d_X_create_50 (by simp [vCreate, okC, h5, h15, h25, h33, h45]) (by simp [sCreate, okC, h5, h15, h25, h33, h45])
        · refine ev_bipush (v := (-2)) X d_X_create_36 (by decide) ?_
          exact ev_iretL X hr hk d_X_create_38 (by simp [vCreate, okC, h5, h15, h25, h33]) (by simp [sCreate, okC, h5, h15, h25, h33])
  · refine ev_iconst (v := (-1)) X d_X_create_8 (by decide) ?_
    exact ev_iretL X hr hk d_X_create_9 (by simp [vCreate, okC, h5]) (by simp [sCreate, okC, h5])
set_option maxHeartbeats 4000000 in
set_option maxRecDepth 100000 in
theorem c_X_run {l : Launch} {D : va_G} {ad : Nat → Nat} {ca : Nat → ClassId} {x : va_W} {S : St} {z q v : Int32}  : CtX l D ad ca x y_X_run b_X_run 5 (some .int) 4 [.ref (ad 0), .int z, .int q, .int v] S (sRun S z q v) (some (.int (vRun S z q))) := by
  refine ev_ent [some (.ref (ad 0)), some (.int z), some (.int q), some (.int v), none] rfl (by decide) (Nat.le_of_ble_eq_true rfl) rfl gTT (fun p e s m args below meth c A X hr hk => ?_)
  refine ev_aload_n X d_X_run_0 rfl ?_
  refine ev_iload_n X d_X_run_1 rfl ?_
  refine ev_cV1 X m_X_37 c_X_isBusy lo_this rfl rfl (by decide) (by decide) d_X_run_2 rfl rfl (Nat.le_of_ble_eq_true rfl) ?_
  refine ev_if_eqB (tgt := 10) X d_X_run_5 (by decide) (fun h5 => ?_) (fun h5 => ?_)
  · refine ev_aload_n X d_X_run_10 rfl ?_
    refine ev_iload_n X d_X_run_11 rfl ?_
    refine ev_cV1 X m_X_83 c_X_isThere lo_this rfl rfl (by decide) (by decide) d_X_run_12 rfl rfl (Nat.le_of_ble_eq_true rfl) ?_
    refine ev_if_neB (tgt := 21) X d_X_run_15 (by decide) (fun h15 => ?_) (fun h15 => ?_)
    · refine ev_aload_n X d_X_run_21 rfl ?_
      refine ev_getR X f_X_22 lo_this rfl d_X_run_22 ?_
      refine ev_iload_n X d_X_run_25 rfl ?_
      refine ev_aald X lr_en rfl (inr_z (thr_in h15)) (inr_j (k := 4) rfl (by decide) (thr_in h15)) d_X_run_26 ?_
      refine ev_astore X d_X_run_27 (by decide) ?_
      refine ev_aload X d_X_run_29 rfl ?_
      refine ev_getI X f_X_86 (lo_en (inr_j (k := 4) rfl (by decide) (thr_in h15))) rfl d_X_run_31 ?_
      refine ev_iconst (v := 1) X d_X_run_34 (by decide) ?_
      refine ev_icmp_eq (tgt := 50) X d_X_run_35 (by decide) (fun h35 => ?_) (fun h35 => ?_)
      · refine ev_aload X d_X_run_50 rfl ?_
        refine ev_getI X f_X_86 (lo_en (inr_j (k := 4) rfl (by decide) (thr_in h15))) rfl d_X_run_52 ?_
        refine ev_iconst (v := 1) X d_X_run_55 (by decide) ?_
        refine ev_icmp_ne (tgt := 65) X d_X_run_56 (by decide) (fun h56 => ?_) (fun h56 => ?_)
        · exact absurd h35 h56
        · refine ev_aload X d_X_run_59 rfl ?_
          refine ev_iload_n X d_X_run_61 rfl ?_
          refine ev_cV0 X m_X_89 (c_E_startWith (lo_en (inr_j (k := 4) rfl (by decide) (thr_in h15)))) (lo_en (inr_j (k := 4) rfl (by decide) (thr_in h15))) rfl rfl (by decide) (by decide) d_X_run_62 rfl rfl (Nat.le_of_ble_eq_true rfl) ?_
          refine ev_aload X d_X_run_65 rfl ?_
          refine ev_iconst (v := 2) X d_X_run_67 (by decide) ?_
          refine ev_putI X f_X_86 (lo_en (inr_j (k := 4) rfl (by decide) (thr_in h15))) rfl d_X_run_68 ?_
          refine ev_aload_n X d_X_run_71 rfl ?_
          refine ev_getR X f_X_29 lo_this rfl d_X_run_72 ?_
          refine ev_iload_n X d_X_run_75 rfl ?_
          refine ev_aald X lr_pr rfl (inr_z (busy_in h5)) (inr_j (k := 2) rfl (by decide) (busy_in h5)) d_X_run_76 ?_
          refine ev_iload_n X d_X_run_77 rfl ?_
          refine ev_putI X f_X_93 (lo_pr (inr_j (k := 2) rfl (by decide) (busy_in h5))) rfl d_X_run_78 ?_
          refine ev_aload_n X d_X_run_81 rfl ?_
          refine ev_aload_n X d_X_run_82 rfl ?_
          refine ev_getR X f_X_29 lo_this rfl d_X_run_83 ?_
          refine ev_iload_n X d_X_run_86 rfl ?_
          refine ev_aald X lr_pr rfl (inr_z (busy_in h5)) (inr_j (k := 2) rfl (by decide) (busy_in h5)) d_X_run_87 ?_
          refine ev_cV0 X m_X_96 (c_X_setGuards (lo_pr (inr_j (k := 2) rfl (by decide) (busy_in h5))) (Or.inr (by simp [up2_at, thr_in h15]))) lo_this rfl rfl (by decide) (by decide) d_X_run_88 rfl rfl (Nat.le_of_ble_eq_true rfl) ?_
          refine ev_iconst (v := 0) X d_X_run_91 (by decide) ?_
          exact ev_iretL X hr hk d_X_run_92 (by simp [vRun, h5, h15, h35, h56]) (by simp [sRun, goS, h5, h15, h35, h56])
      · refine ev_aload X d_X_run_38 rfl ?_
        refine ev_getI X f_X_86 (lo_en (inr_j (k := 4) rfl (by decide) (thr_in h15))) rfl d_X_run_40 ?_
        refine ev_iconst (v := 3) X d_X_run_43 (by decide) ?_
        refine ev_icmp_eq (tgt := 50) X d_X_run_44 (by decide) (fun h44 => ?_) (fun h44 => ?_)
        · refine ev_aload X d_X_run_50 rfl ?_
          refine ev_getI X f_X_86 (lo_en (inr_j (k := 4) rfl (by decide) (thr_in h15))) rfl d_X_run_52 ?_
          refine ev_iconst (v := 1) X d_X_run_55 (by decide) ?_
          refine ev_icmp_ne (tgt := 65) X d_X_run_56 (by decide) (fun h56 => ?_) (fun h56 => ?_)
          · refine ev_aload X d_X_run_65 rfl ?_
            refine ev_iconst (v := 2) X d_X_run_67 (by decide) ?_
            refine ev_putI X f_X_86 (lo_en (inr_j (k := 4) rfl (by decide) (thr_in h15))) rfl d_X_run_68 ?_
            refine ev_aload_n X d_X_run_71 rfl ?_
            refine ev_getR X f_X_29 lo_this rfl d_X_run_72 ?_
            refine ev_iload_n X d_X_run_75 rfl ?_
            refine ev_aald X lr_pr rfl (inr_z (busy_in h5)) (inr_j (k := 2) rfl (by decide) (busy_in h5)) d_X_run_76 ?_
            refine ev_iload_n X d_X_run_77 rfl ?_
            refine ev_putI X f_X_93 (lo_pr (inr_j (k := 2) rfl (by decide) (busy_in h5))) rfl d_X_run_78 ?_
            refine ev_aload_n X d_X_run_81 rfl ?_
            refine ev_aload_n X d_X_run_82 rfl ?_
            refine ev_getR X f_X_29 lo_this rfl d_X_run_83 ?_
            refine ev_iload_n X d_X_run_86 rfl ?_
            refine ev_aald X lr_pr rfl (inr_z (busy_in h5)) (inr_j (k := 2) rfl (by decide) (busy_in h5)) d_X_run_87 ?_
            refine ev_cV0 X m_X_96 (c_X_setGuards (lo_pr (inr_j (k := 2) rfl (by decide) (busy_in h5))) (Or.inr (by simp [up2_at, thr_in h15]))) lo_this rfl rfl (by decide) (by decide) d_X_run_88 rfl rfl (Nat.le_of_ble_eq_true rfl) ?_
            refine ev_iconst (v := 0) X d_X_run_91 (by decide) ?_
            exact ev_iretL X hr hk d_X_run_92 (by simp [vRun, h5, h15, h35, h44, h56]) (by simp [sRun, goS, h5, h15, h35, h44, h56])
          · exact absurd h56 h35
        · refine ev_bipush (v := (-2)) X d_X_run_47 (by decide) ?_
          exact ev_iretL X hr hk d_X_run_49 (by simp [vRun, h5, h15, h35, h44]) (by simp [sRun, goS, h5, h15, h35, h44])
    · refine ev_bipush (v := (-2)) X d_X_run_18 (by decide) ?_
      exact ev_iretL X hr hk d_X_run_20 (by simp [vRun, h5, h15]) (by simp [sRun, goS, h5, h15])
  · refine ev_iconst (v := (-1)) X d_X_run_8 (by decide) ?_
    exact ev_iretL X hr hk d_X_run_9 (by simp [vRun, h5]) (by simp [sRun, goS, h5])
theorem okN_ex {N : Int32} (h : okN N = true) : N = nI N.toNatClampNeg ∧ N.toNatClampNeg ≤ 100 := by
  simp only [okN, Bool.and_eq_true, Bool.not_eq_true', decide_eq_false_iff_not, decide_eq_true_eq] at h
  obtain ⟨h1, h2⟩ := h
  have hN0 : ¬ N < 0 := fun q => h1 (by
    have := Int32.lt_iff_toInt_lt.mp q
    refine Int32.lt_iff_toInt_lt.mpr ?_
    have e0 : (0 : Int32).toInt = 0 := by decide
    have e1 : (1 : Int32).toInt = 1 := by decide
    rw [e0] at this
    rw [e1]
    omega)
  obtain ⟨n, hn, rfl⟩ := nI_of hN0
  rw [nI_clamp hn]
  refine ⟨rfl, ?_⟩
  exact (nI_leI (b := 100) hn (by decide)).mp h2
set_option maxHeartbeats 4000000 in
set_option maxRecDepth 100000 in
theorem c_X_step {l : Launch} {D : va_G} {ad : Nat → Nat} {ca : Nat → ClassId} {x : va_W} {S : St} {z N : Int32} (hpe : ∀ k, k < 2 → PeOK S (13 + 14 * k)) : CtX l D ad ca x y_X_step b_X_step 6 (some .int) 5 [.ref (ad 0), .int z, .int N] S (sStep S z N) (some (.int (vStep S z N))) := by
  refine ev_ent [some (.ref (ad 0)), some (.int z), some (.int N), none, none, none] rfl (by decide) (Nat.le_of_ble_eq_true rfl) rfl gTT (fun p e s m args below meth c A X hr hk => ?_)
  have loop : ∀ (i j : Nat) (L : LyO lyX 41 i 2 (flP i)) (M : LyO lyX 41 j 3 (flE j)) (r k : Nat) (T : St), k + r ≤ 100 → vStep S z N = nI (stp i j r k T) → sStep S z N = endS (stS i j r T) i j → EV p l e (rmd 5) s m args below meth c 0 0 (MQ below (QQ clX D A (ly_w lyX 41 ad ca (sStep S z N) x) (some (.int (vStep S z N)))) args s 0 0 A) 6 D clX A s.heap (ly_w lyX 41 ad ca T x) 42 [some (.ref (ad 0)), some (.int z), some (.int (nI (k + r))), some (.ref (ad i)), some (.ref (ad j)), some (.int (nI k))] [] := by
    intro i j L M r
    induction r with
    | zero =>
      intro k T q1 q2 q3
      refine ev_iload X d_X_step_42 rfl ?_
      refine ev_iload_n X d_X_step_44 rfl ?_
      refine ev_icmp_ge (tgt := 70) X d_X_step_45 (by decide) (fun h45 => ?_) (fun h45 => ?_)
      · refine ev_aload X d_X_step_70 rfl ?_
        refine ev_getI X f_X_86 M rfl d_X_step_72 ?_
        refine ev_iconst (v := 2) X d_X_step_75 (by decide) ?_
        refine ev_icmp_eq (tgt := 84) X d_X_step_76 (by decide) (fun h76 => ?_) (fun h76 => ?_)
        · refine ev_iload X d_X_step_84 rfl ?_
          exact ev_iretL X hr hk d_X_step_86 (by rw [q2]; rfl) (by rw [q3]; simp [endS, stS, h76])
        · refine ev_aload_n X d_X_step_79 rfl ?_
          refine ev_aload_n X d_X_step_80 rfl ?_
          refine ev_cV0 X m_X_107 (c_X_runSystem L) lo_this rfl rfl (by decide) (by decide) d_X_step_81 rfl rfl (Nat.le_of_ble_eq_true rfl) ?_
          refine ev_iload X d_X_step_84 rfl ?_
          exact ev_iretL X hr hk d_X_step_86 (by rw [q2]; rfl) (by rw [q3]; simp [endS, stS, h76])
      · exact absurd (nI_le (by omega) (by omega)) h45
    | succ r ih =>
      intro k T q1 q2 q3
      refine ev_iload X d_X_step_42 rfl ?_
      refine ev_iload_n X d_X_step_44 rfl ?_
      refine ev_icmp_ge (tgt := 70) X d_X_step_45 (by decide) (fun h45 => ?_) (fun h45 => ?_)
      · exact absurd h45 (nI_ge (by omega) (by omega))
      · refine ev_aload X d_X_step_48 rfl ?_
        refine ev_getI X f_X_86 M rfl d_X_step_50 ?_
        refine ev_iconst (v := 2) X d_X_step_53 (by decide) ?_
        refine ev_icmp_ne (tgt := 70) X d_X_step_54 (by decide) (fun h54 => ?_) (fun h54 => ?_)
        · refine ev_aload X d_X_step_70 rfl ?_
          refine ev_getI X f_X_86 M rfl d_X_step_72 ?_
          refine ev_iconst (v := 2) X d_X_step_75 (by decide) ?_
          refine ev_icmp_eq (tgt := 84) X d_X_step_76 (by decide) (fun h76 => ?_) (fun h76 => ?_)
          · exact absurd h76 h54
          · refine ev_aload_n X d_X_step_79 rfl ?_
            refine ev_aload_n X d_X_step_80 rfl ?_
            refine ev_cV0 X m_X_107 (c_X_runSystem L) lo_this rfl rfl (by decide) (by decide) d_X_step_81 rfl rfl (Nat.le_of_ble_eq_true rfl) ?_
            refine ev_iload X d_X_step_84 rfl ?_
            exact ev_iretL X hr hk d_X_step_86 (by rw [q2]; simp [stp, h54]) (by rw [q3]; simp [endS, stS, h54])
        · refine ev_aload_n X d_X_step_57 rfl ?_
          refine ev_aload_n X d_X_step_58 rfl ?_
          refine ev_aload X d_X_step_59 rfl ?_
          refine ev_cV0 X m_X_103 (c_X_makeStep L M) lo_this rfl rfl (by decide) (by decide) d_X_step_61 rfl rfl (Nat.le_of_ble_eq_true rfl) ?_
          refine ev_iinc (v := nI (k + 1)) X d_X_step_64 rfl (nI_1 k) (by decide) ?_
          refine ev_goto (tgt := 42) X d_X_step_67 (by decide) ?_
          refine ev_of rfl rfl (lv1 := [some (.ref (ad 0)), some (.int z), some (.int (nI (k + 1 + r))), some (.ref (ad i)), some (.ref (ad j)), some (.int (nI (k + 1)))]) (by rw [show k + 1 + r = k + (r + 1) by omega]; rfl) rfl ?_
          exact ih (k + 1) (mkS T i j) (by omega) (by rw [q2]; simp [stp, h54]) (by rw [q3]; simp [stS, h54])
  refine ev_aload_n X d_X_step_0 rfl ?_
  refine ev_iload_n X d_X_step_1 rfl ?_
  refine ev_cV1 X m_X_100 c_X_runsEnclave lo_this rfl rfl (by decide) (by decide) d_X_step_2 rfl rfl (Nat.le_of_ble_eq_true rfl) ?_
  refine ev_if_eqB (tgt := 19) X d_X_step_5 (by decide) (fun h5 => ?_) (fun h5 => ?_)
  · refine ev_iconst (v := (-1)) X d_X_step_19 (by decide) ?_
    exact ev_iretL X hr hk d_X_step_20 (by simp [vStep, okN, h5]) (by simp [sStep, okN, h5])
  · refine ev_iload_n X d_X_step_8 rfl ?_
    refine ev_iconst (v := 1) X d_X_step_9 (by decide) ?_
    refine ev_icmp_lt (tgt := 19) X d_X_step_10 (by decide) (fun h10 => ?_) (fun h10 => ?_)
    · refine ev_iconst (v := (-1)) X d_X_step_19 (by decide) ?_
      exact ev_iretL X hr hk d_X_step_20 (by simp [vStep, okN, h5, h10]) (by simp [sStep, okN, h5, h10])
    · refine ev_iload_n X d_X_step_13 rfl ?_
      refine ev_bipush (v := 100) X d_X_step_14 (by decide) ?_
      refine ev_icmp_le (tgt := 21) X d_X_step_16 (by decide) (fun h16 => ?_) (fun h16 => ?_)
      · have hok : okN N = true := by simp [okN, h10, h16]
        obtain ⟨hNz, hNl⟩ := okN_ex hok
        refine ev_aload_n X d_X_step_21 rfl ?_
        refine ev_getR X f_X_29 lo_this rfl d_X_step_22 ?_
        refine ev_iload_n X d_X_step_25 rfl ?_
        refine ev_aald X lr_pr rfl (inr_z (runs_in h5)) (inr_j (k := 2) rfl (by decide) (runs_in h5)) d_X_step_26 ?_
        refine ev_astore_n X d_X_step_27 (by decide) ?_
        refine ev_aload_n X d_X_step_28 rfl ?_
        refine ev_getR X f_X_22 lo_this rfl d_X_step_29 ?_
        refine ev_aload_n X d_X_step_32 rfl ?_
        refine ev_getI X f_X_93 (lo_pr (inr_j (k := 2) rfl (by decide) (runs_in h5))) rfl d_X_step_33 ?_
        refine ev_aald X lr_en rfl (inr_z ((hpe _ (inr_j (k := 2) rfl (by decide) (runs_in h5))).resolve_left (runs_no h5))) (inr_j (k := 4) rfl (by decide) ((hpe _ (inr_j (k := 2) rfl (by decide) (runs_in h5))).resolve_left (runs_no h5))) d_X_step_36 ?_
        refine ev_astore X d_X_step_37 (by decide) ?_
        refine ev_iconst (v := 0) X d_X_step_39 (by decide) ?_
        refine ev_istore X d_X_step_40 (by decide) ?_
        refine ev_of rfl rfl (lv1 := [some (.ref (ad 0)), some (.int z), some (.int (nI (0 + N.toNatClampNeg))), some (.ref (ad (13 + 14 * z.toNatClampNeg))), some (.ref (ad (enOf S z))), some (.int (nI 0))]) (by rw [Nat.zero_add, ← hNz]; rfl) rfl ?_
        exact loop _ _ (lo_pr (inr_j (k := 2) rfl (by decide) (runs_in h5))) (lo_en (inr_j (k := 4) rfl (by decide) ((hpe _ (inr_j (k := 2) rfl (by decide) (runs_in h5))).resolve_left (runs_no h5)))) N.toNatClampNeg 0 S (by omega) (by simp [vStep, enOf, h5, hok]) (by simp [sStep, enOf, h5, hok])
      · refine ev_iconst (v := (-1)) X d_X_step_19 (by decide) ?_
        exact ev_iretL X hr hk d_X_step_20 (by simp [vStep, okN, h5, h10, h16]) (by simp [sStep, okN, h5, h10, h16])
set_option maxHeartbeats 4000000 in
set_option maxRecDepth 100000 in
theorem c_X_interrupt {l : Launch} {D : va_G} {ad : Nat → Nat} {ca : Nat → ClassId} {x : va_W} {S : St} {z : Int32} (hpe : ∀ k, k < 2 → PeOK S (13 + 14 * k)) : CtX l D ad ca x y_X_interrupt b_X_interrupt 4 (some .int) 5 [.ref (ad 0), .int z] S (sInt S z) (some (.int (vInt S z))) := by
  refine ev_ent [some (.ref (ad 0)), some (.int z), none, none] rfl (by decide) (Nat.le_of_ble_eq_true rfl) rfl gTT (fun p e s m args below meth c A X hr hk => ?_)
  refine ev_aload_n X d_X_interrupt_0 rfl ?_
  refine ev_iload_n X d_X_interrupt_1 rfl ?_
  refine ev_cV1 X m_X_100 c_X_runsEnclave lo_this rfl rfl (by decide) (by decide) d_X_interrupt_2 rfl rfl (Nat.le_of_ble_eq_true rfl) ?_
  refine ev_if_neB (tgt := 10) X d_X_interrupt_5 (by decide) (fun h5 => ?_) (fun h5 => ?_)
  · refine ev_aload_n X d_X_interrupt_10 rfl ?_
    refine ev_getR X f_X_29 lo_this rfl d_X_interrupt_11 ?_
    refine ev_iload_n X d_X_interrupt_14 rfl ?_
    refine ev_aald X lr_pr rfl (inr_z (runs_in h5)) (inr_j (k := 2) rfl (by decide) (runs_in h5)) d_X_interrupt_15 ?_
    refine ev_astore_n X d_X_interrupt_16 (by decide) ?_
    refine ev_aload_n X d_X_interrupt_17 rfl ?_
    refine ev_getI X f_X_93 (lo_pr (inr_j (k := 2) rfl (by decide) (runs_in h5))) rfl d_X_interrupt_18 ?_
    refine ev_istore_n X d_X_interrupt_21 (by decide) ?_
    refine ev_aload_n X d_X_interrupt_22 rfl ?_
    refine ev_getR X f_X_22 lo_this rfl d_X_interrupt_23 ?_
    refine ev_iload_n X d_X_interrupt_26 rfl ?_
    refine ev_aald X lr_en rfl (inr_z ((hpe _ (inr_j (k := 2) rfl (by decide) (runs_in h5))).resolve_left (runs_no h5))) (inr_j (k := 4) rfl (by decide) ((hpe _ (inr_j (k := 2) rfl (by decide) (runs_in h5))).resolve_left (runs_no h5))) d_X_interrupt_27 ?_
    refine ev_iconst (v := 3) X d_X_interrupt_28 (by decide) ?_
    refine ev_putI X f_X_86 (lo_en (inr_j (k := 4) rfl (by decide) ((hpe _ (inr_j (k := 2) rfl (by decide) (runs_in h5))).resolve_left (runs_no h5)))) rfl d_X_interrupt_29 ?_
    refine ev_aload_n X d_X_interrupt_32 rfl ?_
    refine ev_aload_n X d_X_interrupt_33 rfl ?_
    refine ev_cV0 X m_X_107 (c_X_runSystem (lo_pr (inr_j (k := 2) rfl (by decide) (runs_in h5)))) lo_this rfl rfl (by decide) (by decide) d_X_interrupt_34 rfl rfl (Nat.le_of_ble_eq_true rfl) ?_
    refine ev_iload_n X d_X_interrupt_37 rfl ?_
    exact ev_iretL X hr hk d_X_interrupt_38 (by simp [vInt, h5]) (by simp [sInt, enOf, h5])
  · refine ev_iconst (v := (-1)) X d_X_interrupt_8 (by decide) ?_
    exact ev_iretL X hr hk d_X_interrupt_9 (by simp [vInt, h5]) (by simp [sInt, enOf, h5])
set_option maxHeartbeats 4000000 in
set_option maxRecDepth 100000 in
theorem c_X_destroy {l : Launch} {D : va_G} {ad : Nat → Nat} {ca : Nat → ClassId} {x : va_W} {S : St} {z q : Int32} (hpe : ∀ k, k < 2 → PeOK S (13 + 14 * k)) (hen : ∀ k, k < 4 → ¬ S (4 + 2 * k) 1 = 0 → EnOK S (4 + 2 * k)) : CtX l D ad ca x y_X_destroy b_X_destroy 3 (some .int) 6 [.ref (ad 0), .int z, .int q] S (sDes S z q) (some (.int (vDes S z q))) := by
  refine ev_ent [some (.ref (ad 0)), some (.int z), some (.int q)] rfl (by decide) (Nat.le_of_ble_eq_true rfl) rfl gTT (fun p e s m args below meth c A X hr hk => ?_)
  refine ev_aload_n X d_X_destroy_0 rfl ?_
  refine ev_iload_n X d_X_destroy_1 rfl ?_
  refine ev_cV1 X m_X_37 c_X_isBusy lo_this rfl rfl (by decide) (by decide) d_X_destroy_2 rfl rfl (Nat.le_of_ble_eq_true rfl) ?_
  refine ev_if_eqB (tgt := 10) X d_X_destroy_5 (by decide) (fun h5 => ?_) (fun h5 => ?_)
  · refine ev_aload_n X d_X_destroy_10 rfl ?_
    refine ev_iload_n X d_X_destroy_11 rfl ?_
    refine ev_cV1 X m_X_83 c_X_isThere lo_this rfl rfl (by decide) (by decide) d_X_destroy_12 rfl rfl (Nat.le_of_ble_eq_true rfl) ?_
    refine ev_if_neB (tgt := 21) X d_X_destroy_15 (by decide) (fun h15 => ?_) (fun h15 => ?_)
    · refine ev_aload_n X d_X_destroy_21 rfl ?_
      refine ev_getR X f_X_22 lo_this rfl d_X_destroy_22 ?_
      refine ev_iload_n X d_X_destroy_25 rfl ?_
      refine ev_aald X lr_en rfl (inr_z (thr_in h15)) (inr_j (k := 4) rfl (by decide) (thr_in h15)) d_X_destroy_26 ?_
      refine ev_getI X f_X_86 (lo_en (inr_j (k := 4) rfl (by decide) (thr_in h15))) rfl d_X_destroy_27 ?_
      refine ev_iconst (v := 2) X d_X_destroy_30 (by decide) ?_
      refine ev_icmp_ne (tgt := 37) X d_X_destroy_31 (by decide) (fun h31 => ?_) (fun h31 => ?_)
      · refine ev_aload_n X d_X_destroy_37 rfl ?_
        refine ev_aload_n X d_X_destroy_38 rfl ?_
        refine ev_getR X f_X_22 lo_this rfl d_X_destroy_39 ?_
        refine ev_iload_n X d_X_destroy_42 rfl ?_
        refine ev_aald X lr_en rfl (inr_z (thr_in h15)) (inr_j (k := 4) rfl (by decide) (thr_in h15)) d_X_destroy_43 ?_
        have hE := hen _ (inr_j (k := 4) rfl (by decide) (thr_in h15)) (thr_no h15)
        refine ev_cV0 X m_X_110 (c_X_removeEnclave (lo_en (inr_j (k := 4) rfl (by decide) (thr_in h15))) hE.1 hE.2.1 hE.2.2 (hpe 0 (by decide)) (hpe 1 (by decide))) lo_this rfl rfl (by decide) (by decide) d_X_destroy_44 rfl rfl (Nat.le_of_ble_eq_true rfl) ?_
        refine ev_iconst (v := 0) X d_X_destroy_47 (by decide) ?_
        exact ev_iretL X hr hk d_X_destroy_48 (by simp [vDes, h5, h15, h31]) (by simp [sDes, h5, h15, h31])
      · refine ev_bipush (v := (-3)) X d_X_destroy_34 (by decide) ?_
        exact ev_iretL X hr hk d_X_destroy_36 (by simp [vDes, h5, h15, h31]) (by simp [sDes, h5, h15, h31])
    · refine ev_bipush (v := (-2)) X d_X_destroy_18 (by decide) ?_
      exact ev_iretL X hr hk d_X_destroy_20 (by simp [vDes, h5, h15]) (by simp [sDes, h5, h15])
  · refine ev_iconst (v := (-1)) X d_X_destroy_8 (by decide) ?_
    exact ev_iretL X hr hk d_X_destroy_9 (by simp [vDes, h5]) (by simp [sDes, h5])
end
section
theorem d_M_init_0 : decode b_M_init 0 = .ok (.aload_n 0, 1) := by decide +kernel
theorem d_M_init_1 : decode b_M_init 1 = .ok (.invokespecial 1, 3) := by decide +kernel
theorem d_M_init_4 : decode b_M_init 4 = .ok (.aload_n 0, 1) := by decide +kernel
theorem d_M_init_5 : decode b_M_init 5 = .ok (.sipush 256, 3) := by decide +kernel
theorem d_M_init_8 : decode b_M_init 8 = .ok (.newarray .int, 2) := by decide +kernel
theorem d_M_init_10 : decode b_M_init 10 = .ok (.putfield 7, 3) := by decide +kernel
theorem d_M_init_13 : decode b_M_init 13 = .ok (.aload_n 0, 1) := by decide +kernel
theorem d_M_init_14 : decode b_M_init 14 = .ok (.bipush 16, 2) := by decide +kernel
theorem d_M_init_16 : decode b_M_init 16 = .ok (.newarray .int, 2) := by decide +kernel
theorem d_M_init_18 : decode b_M_init 18 = .ok (.putfield 13, 3) := by decide +kernel
theorem d_M_init_21 : decode b_M_init 21 = .ok (.aload_n 0, 1) := by decide +kernel
theorem d_M_init_22 : decode b_M_init 22 = .ok (.bipush 16, 2) := by decide +kernel
theorem d_M_init_24 : decode b_M_init 24 = .ok (.newarray .int, 2) := by decide +kernel
theorem d_M_init_26 : decode b_M_init 26 = .ok (.putfield 16, 3) := by decide +kernel
theorem d_M_init_29 : decode b_M_init 29 = .ok (.aload_n 0, 1) := by decide +kernel
theorem d_M_init_30 : decode b_M_init 30 = .ok (.iconst 2, 1) := by decide +kernel
theorem d_M_init_31 : decode b_M_init 31 = .ok (.newarray .int, 2) := by decide +kernel
theorem d_M_init_33 : decode b_M_init 33 = .ok (.putfield 19, 3) := by decide +kernel
theorem d_M_init_36 : decode b_M_init 36 = .ok (.aload_n 0, 1) := by decide +kernel
theorem d_M_init_37 : decode b_M_init 37 = .ok (.iconst 4, 1) := by decide +kernel
theorem d_M_init_38 : decode b_M_init 38 = .ok (.newarray .int, 2) := by decide +kernel
theorem d_M_init_40 : decode b_M_init 40 = .ok (.putfield 22, 3) := by decide +kernel
theorem d_M_init_43 : decode b_M_init 43 = .ok (.aload_n 0, 1) := by decide +kernel
theorem d_M_init_44 : decode b_M_init 44 = .ok (.iconst 4, 1) := by decide +kernel
theorem d_M_init_45 : decode b_M_init 45 = .ok (.newarray .int, 2) := by decide +kernel
theorem d_M_init_47 : decode b_M_init 47 = .ok (.putfield 25, 3) := by decide +kernel
theorem d_M_init_50 : decode b_M_init 50 = .ok (.aload_n 0, 1) := by decide +kernel
theorem d_M_init_51 : decode b_M_init 51 = .ok (.iconst 4, 1) := by decide +kernel
theorem d_M_init_52 : decode b_M_init 52 = .ok (.newarray .int, 2) := by decide +kernel
theorem d_M_init_54 : decode b_M_init 54 = .ok (.putfield 28, 3) := by decide +kernel
theorem d_M_init_57 : decode b_M_init 57 = .ok (.aload_n 0, 1) := by decide +kernel
theorem d_M_init_58 : decode b_M_init 58 = .ok (.iconst 4, 1) := by decide +kernel
theorem d_M_init_59 : decode b_M_init 59 = .ok (.newarray .int, 2) := by decide +kernel
theorem d_M_init_61 : decode b_M_init 61 = .ok (.putfield 31, 3) := by decide +kernel
theorem d_M_init_64 : decode b_M_init 64 = .ok (.aload_n 0, 1) := by decide +kernel
theorem d_M_init_65 : decode b_M_init 65 = .ok (.iconst 4, 1) := by decide +kernel
theorem d_M_init_66 : decode b_M_init 66 = .ok (.newarray .int, 2) := by decide +kernel
theorem d_M_init_68 : decode b_M_init 68 = .ok (.putfield 34, 3) := by decide +kernel
theorem d_M_init_71 : decode b_M_init 71 = .ok (.aload_n 0, 1) := by decide +kernel
theorem d_M_init_72 : decode b_M_init 72 = .ok (.iconst 4, 1) := by decide +kernel
theorem d_M_init_73 : decode b_M_init 73 = .ok (.newarray .int, 2) := by decide +kernel
theorem d_M_init_75 : decode b_M_init 75 = .ok (.putfield 37, 3) := by decide +kernel
theorem d_M_init_78 : decode b_M_init 78 = .ok (.aload_n 0, 1) := by decide +kernel
theorem d_M_init_79 : decode b_M_init 79 = .ok (.iconst 4, 1) := by decide +kernel
theorem d_M_init_80 : decode b_M_init 80 = .ok (.newarray .int, 2) := by decide +kernel
theorem d_M_init_82 : decode b_M_init 82 = .ok (.putfield 40, 3) := by decide +kernel
theorem d_M_init_85 : decode b_M_init 85 = .ok (.aload_n 0, 1) := by decide +kernel
theorem d_M_init_86 : decode b_M_init 86 = .ok (.iconst 4, 1) := by decide +kernel
theorem d_M_init_87 : decode b_M_init 87 = .ok (.newarray .int, 2) := by decide +kernel
theorem d_M_init_89 : decode b_M_init 89 = .ok (.putfield 43, 3) := by decide +kernel
theorem d_M_init_92 : decode b_M_init 92 = .ok (.aload_n 0, 1) := by decide +kernel
theorem d_M_init_93 : decode b_M_init 93 = .ok (.bipush 32, 2) := by decide +kernel
theorem d_M_init_95 : decode b_M_init 95 = .ok (.newarray .int, 2) := by decide +kernel
theorem d_M_init_97 : decode b_M_init 97 = .ok (.putfield 46, 3) := by decide +kernel
theorem d_M_init_100 : decode b_M_init 100 = .ok (.aload_n 0, 1) := by decide +kernel
theorem d_M_init_101 : decode b_M_init 101 = .ok (.iload_n 1, 1) := by decide +kernel
theorem d_M_init_102 : decode b_M_init 102 = .ok (.putfield 49, 3) := by decide +kernel
theorem d_M_init_105 : decode b_M_init 105 = .ok (.iconst 0, 1) := by decide +kernel
theorem d_M_init_106 : decode b_M_init 106 = .ok (.istore_n 2, 1) := by decide +kernel
theorem d_M_init_107 : decode b_M_init 107 = .ok (.iload_n 2, 1) := by decide +kernel
theorem d_M_init_108 : decode b_M_init 108 = .ok (.bipush 16, 2) := by decide +kernel
theorem d_M_init_110 : decode b_M_init 110 = .ok (.if_icmp .ge 24, 3) := by decide +kernel
theorem d_M_init_113 : decode b_M_init 113 = .ok (.aload_n 0, 1) := by decide +kernel
theorem d_M_init_114 : decode b_M_init 114 = .ok (.getfield 13, 3) := by decide +kernel
theorem d_M_init_117 : decode b_M_init 117 = .ok (.iload_n 2, 1) := by decide +kernel
theorem d_M_init_118 : decode b_M_init 118 = .ok (.iload_n 2, 1) := by decide +kernel
theorem d_M_init_119 : decode b_M_init 119 = .ok (.ifCond .ne 7, 3) := by decide +kernel
theorem d_M_init_122 : decode b_M_init 122 = .ok (.iconst 0, 1) := by decide +kernel
theorem d_M_init_123 : decode b_M_init 123 = .ok (.goto 4, 3) := by decide +kernel
theorem d_M_init_126 : decode b_M_init 126 = .ok (.iconst 1, 1) := by decide +kernel
theorem d_M_init_127 : decode b_M_init 127 = .ok (.iastore, 1) := by decide +kernel
theorem d_M_init_128 : decode b_M_init 128 = .ok (.iinc 2 1, 3) := by decide +kernel
theorem d_M_init_131 : decode b_M_init 131 = .ok (.goto (-24), 3) := by decide +kernel
theorem d_M_init_134 : decode b_M_init 134 = .ok (.aload_n 0, 1) := by decide +kernel
theorem d_M_init_135 : decode b_M_init 135 = .ok (.getfield 19, 3) := by decide +kernel
theorem d_M_init_138 : decode b_M_init 138 = .ok (.iconst 0, 1) := by decide +kernel
theorem d_M_init_139 : decode b_M_init 139 = .ok (.iconst (-1), 1) := by decide +kernel
theorem d_M_init_140 : decode b_M_init 140 = .ok (.iastore, 1) := by decide +kernel
theorem d_M_init_141 : decode b_M_init 141 = .ok (.aload_n 0, 1) := by decide +kernel
theorem d_M_init_142 : decode b_M_init 142 = .ok (.getfield 19, 3) := by decide +kernel
theorem d_M_init_145 : decode b_M_init 145 = .ok (.iconst 1, 1) := by decide +kernel
theorem d_M_init_146 : decode b_M_init 146 = .ok (.iconst (-1), 1) := by decide +kernel
theorem d_M_init_147 : decode b_M_init 147 = .ok (.iastore, 1) := by decide +kernel
theorem d_M_init_148 : decode b_M_init 148 = .ok (.return_, 1) := by decide +kernel
theorem d_M_mix_0 : decode b_M_mix 0 = .ok (.bipush 31, 2) := by decide +kernel
theorem d_M_mix_2 : decode b_M_mix 2 = .ok (.iload_n 0, 1) := by decide +kernel
theorem d_M_mix_3 : decode b_M_mix 3 = .ok (.imul, 1) := by decide +kernel
theorem d_M_mix_4 : decode b_M_mix 4 = .ok (.iload_n 1, 1) := by decide +kernel
theorem d_M_mix_5 : decode b_M_mix 5 = .ok (.ixor, 1) := by decide +kernel
theorem d_M_mix_6 : decode b_M_mix 6 = .ok (.ldc 53, 2) := by decide +kernel
theorem d_M_mix_8 : decode b_M_mix 8 = .ok (.imul, 1) := by decide +kernel
theorem d_M_mix_9 : decode b_M_mix 9 = .ok (.istore_n 2, 1) := by decide +kernel
theorem d_M_mix_10 : decode b_M_mix 10 = .ok (.iload_n 2, 1) := by decide +kernel
theorem d_M_mix_11 : decode b_M_mix 11 = .ok (.iload_n 2, 1) := by decide +kernel
theorem d_M_mix_12 : decode b_M_mix 12 = .ok (.bipush 15, 2) := by decide +kernel
theorem d_M_mix_14 : decode b_M_mix 14 = .ok (.iushr, 1) := by decide +kernel
theorem d_M_mix_15 : decode b_M_mix 15 = .ok (.ixor, 1) := by decide +kernel
theorem d_M_mix_16 : decode b_M_mix 16 = .ok (.ireturn, 1) := by decide +kernel
theorem d_M_proof_0 : decode b_M_proof 0 = .ok (.aload_n 0, 1) := by decide +kernel
theorem d_M_proof_1 : decode b_M_proof 1 = .ok (.getfield 49, 3) := by decide +kernel
theorem d_M_proof_4 : decode b_M_proof 4 = .ok (.iconst 3, 1) := by decide +kernel
theorem d_M_proof_5 : decode b_M_proof 5 = .ok (.invokestatic 54, 3) := by decide +kernel
theorem d_M_proof_8 : decode b_M_proof 8 = .ok (.istore_n 3, 1) := by decide +kernel
theorem d_M_proof_9 : decode b_M_proof 9 = .ok (.iload_n 3, 1) := by decide +kernel
theorem d_M_proof_10 : decode b_M_proof 10 = .ok (.iload_n 1, 1) := by decide +kernel
theorem d_M_proof_11 : decode b_M_proof 11 = .ok (.invokestatic 54, 3) := by decide +kernel
theorem d_M_proof_14 : decode b_M_proof 14 = .ok (.iload_n 2, 1) := by decide +kernel
theorem d_M_proof_15 : decode b_M_proof 15 = .ok (.invokestatic 54, 3) := by decide +kernel
theorem d_M_proof_18 : decode b_M_proof 18 = .ok (.ireturn, 1) := by decide +kernel
theorem d_M_processor_0 : decode b_M_processor 0 = .ok (.iload_n 0, 1) := by decide +kernel
theorem d_M_processor_1 : decode b_M_processor 1 = .ok (.ifCond .eq 8, 3) := by decide +kernel
theorem d_M_processor_4 : decode b_M_processor 4 = .ok (.iload_n 0, 1) := by decide +kernel
theorem d_M_processor_5 : decode b_M_processor 5 = .ok (.iconst 1, 1) := by decide +kernel
theorem d_M_processor_6 : decode b_M_processor 6 = .ok (.if_icmp .ne 7, 3) := by decide +kernel
theorem d_M_processor_9 : decode b_M_processor 9 = .ok (.iconst 1, 1) := by decide +kernel
theorem d_M_processor_10 : decode b_M_processor 10 = .ok (.goto 4, 3) := by decide +kernel
theorem d_M_processor_13 : decode b_M_processor 13 = .ok (.iconst 0, 1) := by decide +kernel
theorem d_M_processor_14 : decode b_M_processor 14 = .ok (.ireturn, 1) := by decide +kernel
theorem d_M_busy_0 : decode b_M_busy 0 = .ok (.iload_n 1, 1) := by decide +kernel
theorem d_M_busy_1 : decode b_M_busy 1 = .ok (.invokestatic 58, 3) := by decide +kernel
theorem d_M_busy_4 : decode b_M_busy 4 = .ok (.ifCond .eq 12, 3) := by decide +kernel
theorem d_M_busy_7 : decode b_M_busy 7 = .ok (.aload_n 0, 1) := by decide +kernel
theorem d_M_busy_8 : decode b_M_busy 8 = .ok (.getfield 19, 3) := by decide +kernel
theorem d_M_busy_11 : decode b_M_busy 11 = .ok (.iload_n 1, 1) := by decide +kernel
theorem d_M_busy_12 : decode b_M_busy 12 = .ok (.iaload, 1) := by decide +kernel
theorem d_M_busy_13 : decode b_M_busy 13 = .ok (.ifCond .lt 7, 3) := by decide +kernel
theorem d_M_busy_16 : decode b_M_busy 16 = .ok (.iconst 1, 1) := by decide +kernel
theorem d_M_busy_17 : decode b_M_busy 17 = .ok (.goto 4, 3) := by decide +kernel
theorem d_M_busy_20 : decode b_M_busy 20 = .ok (.iconst 0, 1) := by decide +kernel
theorem d_M_busy_21 : decode b_M_busy 21 = .ok (.ireturn, 1) := by decide +kernel
theorem d_M_isShared_0 : decode b_M_isShared 0 = .ok (.aload_n 0, 1) := by decide +kernel
theorem d_M_isShared_1 : decode b_M_isShared 1 = .ok (.getfield 34, 3) := by decide +kernel
theorem d_M_isShared_4 : decode b_M_isShared 4 = .ok (.iload_n 1, 1) := by decide +kernel
theorem d_M_isShared_5 : decode b_M_isShared 5 = .ok (.iaload, 1) := by decide +kernel
theorem d_M_isShared_6 : decode b_M_isShared 6 = .ok (.istore_n 3, 1) := by decide +kernel
theorem d_M_isShared_7 : decode b_M_isShared 7 = .ok (.iload_n 3, 1) := by decide +kernel
theorem d_M_isShared_8 : decode b_M_isShared 8 = .ok (.ifCond .lt 34, 3) := by decide +kernel
theorem d_M_isShared_11 : decode b_M_isShared 11 = .ok (.iload_n 3, 1) := by decide +kernel
theorem d_M_isShared_12 : decode b_M_isShared 12 = .ok (.sipush 256, 3) := by decide +kernel
theorem d_M_isShared_15 : decode b_M_isShared 15 = .ok (.if_icmp .ge 11, 3) := by decide +kernel
theorem d_M_isShared_18 : decode b_M_isShared 18 = .ok (.iload_n 2, 1) := by decide +kernel
theorem d_M_isShared_19 : decode b_M_isShared 19 = .ok (.iload_n 3, 1) := by decide +kernel
theorem d_M_isShared_20 : decode b_M_isShared 20 = .ok (.if_icmp .ne 22, 3) := by decide +kernel
theorem d_M_isShared_23 : decode b_M_isShared 23 = .ok (.goto 15, 3) := by decide +kernel
theorem d_M_isShared_26 : decode b_M_isShared 26 = .ok (.iload_n 2, 1) := by decide +kernel
theorem d_M_isShared_27 : decode b_M_isShared 27 = .ok (.bipush 16, 2) := by decide +kernel
theorem d_M_isShared_29 : decode b_M_isShared 29 = .ok (.idiv, 1) := by decide +kernel
theorem d_M_isShared_30 : decode b_M_isShared 30 = .ok (.iload_n 3, 1) := by decide +kernel
theorem d_M_isShared_31 : decode b_M_isShared 31 = .ok (.sipush 256, 3) := by decide +kernel
theorem d_M_isShared_34 : decode b_M_isShared 34 = .ok (.isub, 1) := by decide +kernel
theorem d_M_isShared_35 : decode b_M_isShared 35 = .ok (.if_icmp .ne 7, 3) := by decide +kernel
theorem d_M_isShared_38 : decode b_M_isShared 38 = .ok (.iconst 1, 1) := by decide +kernel
theorem d_M_isShared_39 : decode b_M_isShared 39 = .ok (.goto 4, 3) := by decide +kernel
theorem d_M_isShared_42 : decode b_M_isShared 42 = .ok (.iconst 0, 1) := by decide +kernel
theorem d_M_isShared_43 : decode b_M_isShared 43 = .ok (.ireturn, 1) := by decide +kernel
theorem d_M_allowed_0 : decode b_M_allowed 0 = .ok (.iload_n 2, 1) := by decide +kernel
theorem d_M_allowed_1 : decode b_M_allowed 1 = .ok (.ifCond .lt 22, 3) := by decide +kernel
theorem d_M_allowed_4 : decode b_M_allowed 4 = .ok (.iload_n 2, 1) := by decide +kernel
theorem d_M_allowed_5 : decode b_M_allowed 5 = .ok (.sipush 255, 3) := by decide +kernel
theorem d_M_allowed_8 : decode b_M_allowed 8 = .ok (.if_icmp .gt 15, 3) := by decide +kernel
theorem d_M_allowed_11 : decode b_M_allowed 11 = .ok (.aload_n 0, 1) := by decide +kernel
theorem d_M_allowed_12 : decode b_M_allowed 12 = .ok (.getfield 13, 3) := by decide +kernel
theorem d_M_allowed_15 : decode b_M_allowed 15 = .ok (.iload_n 2, 1) := by decide +kernel
theorem d_M_allowed_16 : decode b_M_allowed 16 = .ok (.bipush 16, 2) := by decide +kernel
theorem d_M_allowed_18 : decode b_M_allowed 18 = .ok (.idiv, 1) := by decide +kernel
theorem d_M_allowed_19 : decode b_M_allowed 19 = .ok (.iaload, 1) := by decide +kernel
theorem d_M_allowed_20 : decode b_M_allowed 20 = .ok (.ifCond .ne 5, 3) := by decide +kernel
theorem d_M_allowed_23 : decode b_M_allowed 23 = .ok (.iconst 0, 1) := by decide +kernel
theorem d_M_allowed_24 : decode b_M_allowed 24 = .ok (.ireturn, 1) := by decide +kernel
theorem d_M_allowed_25 : decode b_M_allowed 25 = .ok (.aload_n 0, 1) := by decide +kernel
theorem d_M_allowed_26 : decode b_M_allowed 26 = .ok (.getfield 19, 3) := by decide +kernel
theorem d_M_allowed_29 : decode b_M_allowed 29 = .ok (.iload_n 1, 1) := by decide +kernel
theorem d_M_allowed_30 : decode b_M_allowed 30 = .ok (.iaload, 1) := by decide +kernel
theorem d_M_allowed_31 : decode b_M_allowed 31 = .ok (.istore 4, 2) := by decide +kernel
theorem d_M_allowed_33 : decode b_M_allowed 33 = .ok (.aload_n 0, 1) := by decide +kernel
theorem d_M_allowed_34 : decode b_M_allowed 34 = .ok (.getfield 13, 3) := by decide +kernel
theorem d_M_allowed_37 : decode b_M_allowed 37 = .ok (.iload_n 2, 1) := by decide +kernel
theorem d_M_allowed_38 : decode b_M_allowed 38 = .ok (.bipush 16, 2) := by decide +kernel
theorem d_M_allowed_40 : decode b_M_allowed 40 = .ok (.idiv, 1) := by decide +kernel
theorem d_M_allowed_41 : decode b_M_allowed 41 = .ok (.iaload, 1) := by decide +kernel
theorem d_M_allowed_42 : decode b_M_allowed 42 = .ok (.iconst 1, 1) := by decide +kernel
theorem d_M_allowed_43 : decode b_M_allowed 43 = .ok (.if_icmp .le 25, 3) := by decide +kernel
theorem d_M_allowed_46 : decode b_M_allowed 46 = .ok (.aload_n 0, 1) := by decide +kernel
theorem d_M_allowed_47 : decode b_M_allowed 47 = .ok (.getfield 13, 3) := by decide +kernel
theorem d_M_allowed_50 : decode b_M_allowed 50 = .ok (.iload_n 2, 1) := by decide +kernel
theorem d_M_allowed_51 : decode b_M_allowed 51 = .ok (.bipush 16, 2) := by decide +kernel
theorem d_M_allowed_53 : decode b_M_allowed 53 = .ok (.idiv, 1) := by decide +kernel
theorem d_M_allowed_54 : decode b_M_allowed 54 = .ok (.iaload, 1) := by decide +kernel
theorem d_M_allowed_55 : decode b_M_allowed 55 = .ok (.iconst 2, 1) := by decide +kernel
theorem d_M_allowed_56 : decode b_M_allowed 56 = .ok (.iload 4, 2) := by decide +kernel
theorem d_M_allowed_58 : decode b_M_allowed 58 = .ok (.iadd, 1) := by decide +kernel
theorem d_M_allowed_59 : decode b_M_allowed 59 = .ok (.if_icmp .ne 7, 3) := by decide +kernel
theorem d_M_allowed_62 : decode b_M_allowed 62 = .ok (.iconst 1, 1) := by decide +kernel
theorem d_M_allowed_63 : decode b_M_allowed 63 = .ok (.goto 4, 3) := by decide +kernel
theorem d_M_allowed_66 : decode b_M_allowed 66 = .ok (.iconst 0, 1) := by decide +kernel
theorem d_M_allowed_67 : decode b_M_allowed 67 = .ok (.ireturn, 1) := by decide +kernel
theorem d_M_allowed_68 : decode b_M_allowed 68 = .ok (.iload 4, 2) := by decide +kernel
theorem d_M_allowed_70 : decode b_M_allowed 70 = .ok (.ifCond .lt 18, 3) := by decide +kernel
theorem d_M_allowed_73 : decode b_M_allowed 73 = .ok (.aload_n 0, 1) := by decide +kernel
theorem d_M_allowed_74 : decode b_M_allowed 74 = .ok (.iload 4, 2) := by decide +kernel
theorem d_M_allowed_76 : decode b_M_allowed 76 = .ok (.iload_n 2, 1) := by decide +kernel
theorem d_M_allowed_77 : decode b_M_allowed 77 = .ok (.invokevirtual 62, 3) := by decide +kernel
theorem d_M_allowed_80 : decode b_M_allowed 80 = .ok (.ifCond .eq 12, 3) := by decide +kernel
theorem d_M_allowed_83 : decode b_M_allowed 83 = .ok (.iload_n 3, 1) := by decide +kernel
theorem d_M_allowed_84 : decode b_M_allowed 84 = .ok (.iconst 4, 1) := by decide +kernel
theorem d_M_allowed_85 : decode b_M_allowed 85 = .ok (.if_icmp .eq 7, 3) := by decide +kernel
theorem d_M_allowed_88 : decode b_M_allowed 88 = .ok (.iconst 1, 1) := by decide +kernel
theorem d_M_allowed_89 : decode b_M_allowed 89 = .ok (.goto 4, 3) := by decide +kernel
theorem d_M_allowed_92 : decode b_M_allowed 92 = .ok (.iconst 0, 1) := by decide +kernel
theorem d_M_allowed_93 : decode b_M_allowed 93 = .ok (.ireturn, 1) := by decide +kernel
theorem d_M_load_0 : decode b_M_load 0 = .ok (.aload_n 0, 1) := by decide +kernel
theorem d_M_load_1 : decode b_M_load 1 = .ok (.iload_n 1, 1) := by decide +kernel
theorem d_M_load_2 : decode b_M_load 2 = .ok (.invokevirtual 66, 3) := by decide +kernel
theorem d_M_load_5 : decode b_M_load 5 = .ok (.ifCond .eq 7, 3) := by decide +kernel
theorem d_M_load_8 : decode b_M_load 8 = .ok (.ldc2_w 69, 3) := by decide +kernel
theorem d_M_load_11 : decode b_M_load 11 = .ok (.lreturn, 1) := by decide +kernel
theorem d_M_load_12 : decode b_M_load 12 = .ok (.aload_n 0, 1) := by decide +kernel
theorem d_M_load_13 : decode b_M_load 13 = .ok (.iload_n 1, 1) := by decide +kernel
theorem d_M_load_14 : decode b_M_load 14 = .ok (.iload_n 2, 1) := by decide +kernel
theorem d_M_load_15 : decode b_M_load 15 = .ok (.iconst 1, 1) := by decide +kernel
theorem d_M_load_16 : decode b_M_load 16 = .ok (.invokevirtual 71, 3) := by decide +kernel
theorem d_M_load_19 : decode b_M_load 19 = .ok (.ifCond .ne 17, 3) := by decide +kernel
theorem d_M_load_22 : decode b_M_load 22 = .ok (.aload_n 0, 1) := by decide +kernel
theorem d_M_load_23 : decode b_M_load 23 = .ok (.dup, 1) := by decide +kernel
theorem d_M_load_24 : decode b_M_load 24 = .ok (.getfield 75, 3) := by decide +kernel
theorem d_M_load_27 : decode b_M_load 27 = .ok (.iconst 1, 1) := by decide +kernel
theorem d_M_load_28 : decode b_M_load 28 = .ok (.iadd, 1) := by decide +kernel
theorem d_M_load_29 : decode b_M_load 29 = .ok (.putfield 75, 3) := by decide +kernel
theorem d_M_load_32 : decode b_M_load 32 = .ok (.ldc2_w 78, 3) := by decide +kernel
theorem d_M_load_35 : decode b_M_load 35 = .ok (.lreturn, 1) := by decide +kernel
theorem d_M_load_36 : decode b_M_load 36 = .ok (.aload_n 0, 1) := by decide +kernel
theorem d_M_load_37 : decode b_M_load 37 = .ok (.getfield 7, 3) := by decide +kernel
theorem d_M_load_40 : decode b_M_load 40 = .ok (.iload_n 2, 1) := by decide +kernel
theorem d_M_load_41 : decode b_M_load 41 = .ok (.iaload, 1) := by decide +kernel
theorem d_M_load_42 : decode b_M_load 42 = .ok (.i2l, 1) := by decide +kernel
theorem d_M_load_43 : decode b_M_load 43 = .ok (.lreturn, 1) := by decide +kernel
theorem d_M_store_0 : decode b_M_store 0 = .ok (.aload_n 0, 1) := by decide +kernel
theorem d_M_store_1 : decode b_M_store 1 = .ok (.iload_n 1, 1) := by decide +kernel
theorem d_M_store_2 : decode b_M_store 2 = .ok (.invokevirtual 66, 3) := by decide +kernel
theorem d_M_store_5 : decode b_M_store 5 = .ok (.ifCond .eq 5, 3) := by decide +kernel
theorem d_M_store_8 : decode b_M_store 8 = .ok (.iconst (-1), 1) := by decide +kernel
theorem d_M_store_9 : decode b_M_store 9 = .ok (.ireturn, 1) := by decide +kernel
theorem d_M_store_10 : decode b_M_store 10 = .ok (.aload_n 0, 1) := by decide +kernel
theorem d_M_store_11 : decode b_M_store 11 = .ok (.iload_n 1, 1) := by decide +kernel
theorem d_M_store_12 : decode b_M_store 12 = .ok (.iload_n 2, 1) := by decide +kernel
theorem d_M_store_13 : decode b_M_store 13 = .ok (.iconst 2, 1) := by decide +kernel
theorem d_M_store_14 : decode b_M_store 14 = .ok (.invokevirtual 71, 3) := by decide +kernel
theorem d_M_store_17 : decode b_M_store 17 = .ok (.ifCond .ne 15, 3) := by decide +kernel
theorem d_M_store_20 : decode b_M_store 20 = .ok (.aload_n 0, 1) := by decide +kernel
theorem d_M_store_21 : decode b_M_store 21 = .ok (.dup, 1) := by decide +kernel
theorem d_M_store_22 : decode b_M_store 22 = .ok (.getfield 75, 3) := by decide +kernel
theorem d_M_store_25 : decode b_M_store 25 = .ok (.iconst 1, 1) := by decide +kernel
theorem d_M_store_26 : decode b_M_store 26 = .ok (.iadd, 1) := by decide +kernel
theorem d_M_store_27 : decode b_M_store 27 = .ok (.putfield 75, 3) := by decide +kernel
theorem d_M_store_30 : decode b_M_store 30 = .ok (.iconst 1, 1) := by decide +kernel
theorem d_M_store_31 : decode b_M_store 31 = .ok (.ireturn, 1) := by decide +kernel
theorem d_M_store_32 : decode b_M_store 32 = .ok (.aload_n 0, 1) := by decide +kernel
theorem d_M_store_33 : decode b_M_store 33 = .ok (.getfield 7, 3) := by decide +kernel
theorem d_M_store_36 : decode b_M_store 36 = .ok (.iload_n 2, 1) := by decide +kernel
theorem d_M_store_37 : decode b_M_store 37 = .ok (.iload_n 3, 1) := by decide +kernel
theorem d_M_store_38 : decode b_M_store 38 = .ok (.iastore, 1) := by decide +kernel
theorem d_M_store_39 : decode b_M_store 39 = .ok (.iconst 0, 1) := by decide +kernel
theorem d_M_store_40 : decode b_M_store 40 = .ok (.ireturn, 1) := by decide +kernel
theorem d_M_denied_0 : decode b_M_denied 0 = .ok (.aload_n 0, 1) := by decide +kernel
theorem d_M_denied_1 : decode b_M_denied 1 = .ok (.getfield 75, 3) := by decide +kernel
theorem d_M_denied_4 : decode b_M_denied 4 = .ok (.ireturn, 1) := by decide +kernel
theorem d_M_give_0 : decode b_M_give 0 = .ok (.aload_n 0, 1) := by decide +kernel
theorem d_M_give_1 : decode b_M_give 1 = .ok (.iload_n 1, 1) := by decide +kernel
theorem d_M_give_2 : decode b_M_give 2 = .ok (.invokevirtual 66, 3) := by decide +kernel
theorem d_M_give_5 : decode b_M_give 5 = .ok (.ifCond .ne 13, 3) := by decide +kernel
theorem d_M_give_8 : decode b_M_give 8 = .ok (.iload_n 2, 1) := by decide +kernel
theorem d_M_give_9 : decode b_M_give 9 = .ok (.ifCond .lt 9, 3) := by decide +kernel
theorem d_M_give_12 : decode b_M_give 12 = .ok (.iload_n 2, 1) := by decide +kernel
theorem d_M_give_13 : decode b_M_give 13 = .ok (.bipush 7, 2) := by decide +kernel
theorem d_M_give_15 : decode b_M_give 15 = .ok (.if_icmp .le 5, 3) := by decide +kernel
theorem d_M_give_18 : decode b_M_give 18 = .ok (.iconst 0, 1) := by decide +kernel
theorem d_M_give_19 : decode b_M_give 19 = .ok (.ireturn, 1) := by decide +kernel
theorem d_M_give_20 : decode b_M_give 20 = .ok (.aload_n 0, 1) := by decide +kernel
theorem d_M_give_21 : decode b_M_give 21 = .ok (.getfield 16, 3) := by decide +kernel
theorem d_M_give_24 : decode b_M_give 24 = .ok (.bipush 8, 2) := by decide +kernel
theorem d_M_give_26 : decode b_M_give 26 = .ok (.iload_n 1, 1) := by decide +kernel
theorem d_M_give_27 : decode b_M_give 27 = .ok (.imul, 1) := by decide +kernel
theorem d_M_give_28 : decode b_M_give 28 = .ok (.iload_n 2, 1) := by decide +kernel
theorem d_M_give_29 : decode b_M_give 29 = .ok (.iadd, 1) := by decide +kernel
theorem d_M_give_30 : decode b_M_give 30 = .ok (.iload_n 3, 1) := by decide +kernel
theorem d_M_give_31 : decode b_M_give 31 = .ok (.iastore, 1) := by decide +kernel
theorem d_M_give_32 : decode b_M_give 32 = .ok (.iconst 1, 1) := by decide +kernel
theorem d_M_give_33 : decode b_M_give 33 = .ok (.ireturn, 1) := by decide +kernel
theorem d_M_register_0 : decode b_M_register 0 = .ok (.aload_n 0, 1) := by decide +kernel
theorem d_M_register_1 : decode b_M_register 1 = .ok (.iload_n 1, 1) := by decide +kernel
theorem d_M_register_2 : decode b_M_register 2 = .ok (.invokevirtual 66, 3) := by decide +kernel
theorem d_M_register_5 : decode b_M_register 5 = .ok (.ifCond .ne 13, 3) := by decide +kernel
theorem d_M_register_8 : decode b_M_register 8 = .ok (.iload_n 2, 1) := by decide +kernel
theorem d_M_register_9 : decode b_M_register 9 = .ok (.ifCond .lt 9, 3) := by decide +kernel
theorem d_M_register_12 : decode b_M_register 12 = .ok (.iload_n 2, 1) := by decide +kernel
theorem d_M_register_13 : decode b_M_register 13 = .ok (.bipush 7, 2) := by decide +kernel
theorem d_M_register_15 : decode b_M_register 15 = .ok (.if_icmp .le 9, 3) := by decide +kernel
theorem d_M_register_18 : decode b_M_register 18 = .ok (.ldc2_w 69, 3) := by decide +kernel
theorem d_M_register_21 : decode b_M_register 21 = .ok (.goto 15, 3) := by decide +kernel
theorem d_M_register_24 : decode b_M_register 24 = .ok (.aload_n 0, 1) := by decide +kernel
theorem d_M_register_25 : decode b_M_register 25 = .ok (.getfield 16, 3) := by decide +kernel
theorem d_M_register_28 : decode b_M_register 28 = .ok (.bipush 8, 2) := by decide +kernel
theorem d_M_register_30 : decode b_M_register 30 = .ok (.iload_n 1, 1) := by decide +kernel
theorem d_M_register_31 : decode b_M_register 31 = .ok (.imul, 1) := by decide +kernel
theorem d_M_register_32 : decode b_M_register 32 = .ok (.iload_n 2, 1) := by decide +kernel
theorem d_M_register_33 : decode b_M_register 33 = .ok (.iadd, 1) := by decide +kernel
theorem d_M_register_34 : decode b_M_register 34 = .ok (.iaload, 1) := by decide +kernel
theorem d_M_register_35 : decode b_M_register 35 = .ok (.i2l, 1) := by decide +kernel
theorem d_M_register_36 : decode b_M_register 36 = .ok (.lreturn, 1) := by decide +kernel
theorem d_M_wrongRange_0 : decode b_M_wrongRange 0 = .ok (.iload_n 2, 1) := by decide +kernel
theorem d_M_wrongRange_1 : decode b_M_wrongRange 1 = .ok (.iconst 1, 1) := by decide +kernel
theorem d_M_wrongRange_2 : decode b_M_wrongRange 2 = .ok (.if_icmp .lt 27, 3) := by decide +kernel
theorem d_M_wrongRange_5 : decode b_M_wrongRange 5 = .ok (.iload_n 2, 1) := by decide +kernel
theorem d_M_wrongRange_6 : decode b_M_wrongRange 6 = .ok (.bipush 8, 2) := by decide +kernel
theorem d_M_wrongRange_8 : decode b_M_wrongRange 8 = .ok (.if_icmp .gt 21, 3) := by decide +kernel
theorem d_M_wrongRange_11 : decode b_M_wrongRange 11 = .ok (.iload_n 1, 1) := by decide +kernel
theorem d_M_wrongRange_12 : decode b_M_wrongRange 12 = .ok (.ifCond .lt 17, 3) := by decide +kernel
theorem d_M_wrongRange_15 : decode b_M_wrongRange 15 = .ok (.iload_n 1, 1) := by decide +kernel
theorem d_M_wrongRange_16 : decode b_M_wrongRange 16 = .ok (.bipush 15, 2) := by decide +kernel
theorem d_M_wrongRange_18 : decode b_M_wrongRange 18 = .ok (.if_icmp .gt 11, 3) := by decide +kernel
theorem d_M_wrongRange_21 : decode b_M_wrongRange 21 = .ok (.iload_n 1, 1) := by decide +kernel
theorem d_M_wrongRange_22 : decode b_M_wrongRange 22 = .ok (.iload_n 2, 1) := by decide +kernel
theorem d_M_wrongRange_23 : decode b_M_wrongRange 23 = .ok (.iadd, 1) := by decide +kernel
theorem d_M_wrongRange_24 : decode b_M_wrongRange 24 = .ok (.bipush 16, 2) := by decide +kernel
theorem d_M_wrongRange_26 : decode b_M_wrongRange 26 = .ok (.if_icmp .le 5, 3) := by decide +kernel
theorem d_M_wrongRange_29 : decode b_M_wrongRange 29 = .ok (.iconst 1, 1) := by decide +kernel
theorem d_M_wrongRange_30 : decode b_M_wrongRange 30 = .ok (.ireturn, 1) := by decide +kernel
theorem d_M_wrongRange_31 : decode b_M_wrongRange 31 = .ok (.iload_n 3, 1) := by decide +kernel
theorem d_M_wrongRange_32 : decode b_M_wrongRange 32 = .ok (.bipush 16, 2) := by decide +kernel
theorem d_M_wrongRange_34 : decode b_M_wrongRange 34 = .ok (.iload_n 1, 1) := by decide +kernel
theorem d_M_wrongRange_35 : decode b_M_wrongRange 35 = .ok (.imul, 1) := by decide +kernel
theorem d_M_wrongRange_36 : decode b_M_wrongRange 36 = .ok (.if_icmp .lt 27, 3) := by decide +kernel
theorem d_M_wrongRange_39 : decode b_M_wrongRange 39 = .ok (.iload_n 3, 1) := by decide +kernel
theorem d_M_wrongRange_40 : decode b_M_wrongRange 40 = .ok (.bipush 16, 2) := by decide +kernel
theorem d_M_wrongRange_42 : decode b_M_wrongRange 42 = .ok (.iload_n 1, 1) := by decide +kernel
theorem d_M_wrongRange_43 : decode b_M_wrongRange 43 = .ok (.iload_n 2, 1) := by decide +kernel
theorem d_M_wrongRange_44 : decode b_M_wrongRange 44 = .ok (.iadd, 1) := by decide +kernel
theorem d_M_wrongRange_45 : decode b_M_wrongRange 45 = .ok (.imul, 1) := by decide +kernel
theorem d_M_wrongRange_46 : decode b_M_wrongRange 46 = .ok (.if_icmp .ge 17, 3) := by decide +kernel
theorem d_M_wrongRange_49 : decode b_M_wrongRange 49 = .ok (.iload 4, 2) := by decide +kernel
theorem d_M_wrongRange_51 : decode b_M_wrongRange 51 = .ok (.iconst (-1), 1) := by decide +kernel
theorem d_M_wrongRange_52 : decode b_M_wrongRange 52 = .ok (.if_icmp .lt 11, 3) := by decide +kernel
theorem d_M_wrongRange_55 : decode b_M_wrongRange 55 = .ok (.iload 4, 2) := by decide +kernel
theorem d_M_wrongRange_57 : decode b_M_wrongRange 57 = .ok (.sipush 271, 3) := by decide +kernel
theorem d_M_wrongRange_60 : decode b_M_wrongRange 60 = .ok (.if_icmp .le 7, 3) := by decide +kernel
theorem d_M_wrongRange_63 : decode b_M_wrongRange 63 = .ok (.iconst 1, 1) := by decide +kernel
theorem d_M_wrongRange_64 : decode b_M_wrongRange 64 = .ok (.goto 4, 3) := by decide +kernel
theorem d_M_wrongRange_67 : decode b_M_wrongRange 67 = .ok (.iconst 0, 1) := by decide +kernel
theorem d_M_wrongRange_68 : decode b_M_wrongRange 68 = .ok (.ireturn, 1) := by decide +kernel
theorem d_M_measure_0 : decode b_M_measure 0 = .ok (.iload_n 2, 1) := by decide +kernel
theorem d_M_measure_1 : decode b_M_measure 1 = .ok (.iload_n 3, 1) := by decide +kernel
theorem d_M_measure_2 : decode b_M_measure 2 = .ok (.bipush 16, 2) := by decide +kernel
theorem d_M_measure_4 : decode b_M_measure 4 = .ok (.iload_n 1, 1) := by decide +kernel
theorem d_M_measure_5 : decode b_M_measure 5 = .ok (.imul, 1) := by decide +kernel
theorem d_M_measure_6 : decode b_M_measure 6 = .ok (.isub, 1) := by decide +kernel
theorem d_M_measure_7 : decode b_M_measure 7 = .ok (.invokestatic 54, 3) := by decide +kernel
theorem d_M_measure_10 : decode b_M_measure 10 = .ok (.istore 4, 2) := by decide +kernel
theorem d_M_measure_12 : decode b_M_measure 12 = .ok (.bipush 16, 2) := by decide +kernel
theorem d_M_measure_14 : decode b_M_measure 14 = .ok (.iload_n 1, 1) := by decide +kernel
theorem d_M_measure_15 : decode b_M_measure 15 = .ok (.imul, 1) := by decide +kernel
theorem d_M_measure_16 : decode b_M_measure 16 = .ok (.istore 5, 2) := by decide +kernel
theorem d_M_measure_18 : decode b_M_measure 18 = .ok (.iload 5, 2) := by decide +kernel
theorem d_M_measure_20 : decode b_M_measure 20 = .ok (.bipush 16, 2) := by decide +kernel
theorem d_M_measure_22 : decode b_M_measure 22 = .ok (.iload_n 1, 1) := by decide +kernel
theorem d_M_measure_23 : decode b_M_measure 23 = .ok (.iload_n 2, 1) := by decide +kernel
theorem d_M_measure_24 : decode b_M_measure 24 = .ok (.iadd, 1) := by decide +kernel
theorem d_M_measure_25 : decode b_M_measure 25 = .ok (.imul, 1) := by decide +kernel
theorem d_M_measure_26 : decode b_M_measure 26 = .ok (.if_icmp .ge 23, 3) := by decide +kernel
theorem d_M_measure_29 : decode b_M_measure 29 = .ok (.iload 4, 2) := by decide +kernel
theorem d_M_measure_31 : decode b_M_measure 31 = .ok (.aload_n 0, 1) := by decide +kernel
theorem d_M_measure_32 : decode b_M_measure 32 = .ok (.getfield 7, 3) := by decide +kernel
theorem d_M_measure_35 : decode b_M_measure 35 = .ok (.iload 5, 2) := by decide +kernel
theorem d_M_measure_37 : decode b_M_measure 37 = .ok (.iaload, 1) := by decide +kernel
theorem d_M_measure_38 : decode b_M_measure 38 = .ok (.invokestatic 54, 3) := by decide +kernel
theorem d_M_measure_41 : decode b_M_measure 41 = .ok (.istore 4, 2) := by decide +kernel
theorem d_M_measure_43 : decode b_M_measure 43 = .ok (.iinc 5 1, 3) := by decide +kernel
theorem d_M_measure_46 : decode b_M_measure 46 = .ok (.goto (-28), 3) := by decide +kernel
theorem d_M_measure_49 : decode b_M_measure 49 = .ok (.iload 4, 2) := by decide +kernel
theorem d_M_measure_51 : decode b_M_measure 51 = .ok (.ireturn, 1) := by decide +kernel
theorem d_M_create_0 : decode b_M_create 0 = .ok (.aload_n 0, 1) := by decide +kernel
theorem d_M_create_1 : decode b_M_create 1 = .ok (.iload_n 1, 1) := by decide +kernel
theorem d_M_create_2 : decode b_M_create 2 = .ok (.invokevirtual 66, 3) := by decide +kernel
theorem d_M_create_5 : decode b_M_create 5 = .ok (.ifCond .eq 5, 3) := by decide +kernel
theorem d_M_create_8 : decode b_M_create 8 = .ok (.iconst (-1), 1) := by decide +kernel
theorem d_M_create_9 : decode b_M_create 9 = .ok (.ireturn, 1) := by decide +kernel
theorem d_M_create_10 : decode b_M_create 10 = .ok (.aload_n 0, 1) := by decide +kernel
theorem d_M_create_11 : decode b_M_create 11 = .ok (.iload_n 2, 1) := by decide +kernel
theorem d_M_create_12 : decode b_M_create 12 = .ok (.iload_n 3, 1) := by decide +kernel
theorem d_M_create_13 : decode b_M_create 13 = .ok (.iload 4, 2) := by decide +kernel
theorem d_M_create_15 : decode b_M_create 15 = .ok (.iload 5, 2) := by decide +kernel
theorem d_M_create_17 : decode b_M_create 17 = .ok (.invokevirtual 80, 3) := by decide +kernel
theorem d_M_create_20 : decode b_M_create 20 = .ok (.ifCond .eq 6, 3) := by decide +kernel
theorem d_M_create_23 : decode b_M_create 23 = .ok (.bipush (-2), 2) := by decide +kernel
theorem d_M_create_25 : decode b_M_create 25 = .ok (.ireturn, 1) := by decide +kernel
theorem d_M_create_26 : decode b_M_create 26 = .ok (.iload_n 2, 1) := by decide +kernel
theorem d_M_create_27 : decode b_M_create 27 = .ok (.istore 6, 2) := by decide +kernel
theorem d_M_create_29 : decode b_M_create 29 = .ok (.iload 6, 2) := by decide +kernel
theorem d_M_create_31 : decode b_M_create 31 = .ok (.iload_n 2, 1) := by decide +kernel
theorem d_M_create_32 : decode b_M_create 32 = .ok (.iload_n 3, 1) := by decide +kernel
theorem d_M_create_33 : decode b_M_create 33 = .ok (.iadd, 1) := by decide +kernel
theorem d_M_create_34 : decode b_M_create 34 = .ok (.if_icmp .ge 23, 3) := by decide +kernel
theorem d_M_create_37 : decode b_M_create 37 = .ok (.aload_n 0, 1) := by decide +kernel
theorem d_M_create_38 : decode b_M_create 38 = .ok (.getfield 13, 3) := by decide +kernel
theorem d_M_create_41 : decode b_M_create 41 = .ok (.iload 6, 2) := by decide +kernel
theorem d_M_create_43 : decode b_M_create 43 = .ok (.iaload, 1) := by decide +kernel
theorem d_M_create_44 : decode b_M_create 44 = .ok (.iconst 1, 1) := by decide +kernel
theorem d_M_create_45 : decode b_M_create 45 = .ok (.if_icmp .eq 6, 3) := by decide +kernel
theorem d_M_create_48 : decode b_M_create 48 = .ok (.bipush (-3), 2) := by decide +kernel
theorem d_M_create_50 : decode b_M_create 50 = .ok (.ireturn, 1) := by decide +kernel
theorem d_M_create_51 : decode b_M_create 51 = .ok (.iinc 6 1, 3) := by decide +kernel
theorem d_M_create_54 : decode b_M_create 54 = .ok (.goto (-25), 3) := by decide +kernel
theorem d_M_create_57 : decode b_M_create 57 = .ok (.iload 5, 2) := by decide +kernel
theorem d_M_create_59 : decode b_M_create 59 = .ok (.ifCond .lt 55, 3) := by decide +kernel
theorem d_M_create_62 : decode b_M_create 62 = .ok (.iload 5, 2) := by decide +kernel
theorem d_M_create_64 : decode b_M_create 64 = .ok (.sipush 256, 3) := by decide +kernel
theorem d_M_create_67 : decode b_M_create 67 = .ok (.if_icmp .ge 11, 3) := by decide +kernel
theorem d_M_create_70 : decode b_M_create 70 = .ok (.iload 5, 2) := by decide +kernel
theorem d_M_create_72 : decode b_M_create 72 = .ok (.bipush 16, 2) := by decide +kernel
theorem d_M_create_74 : decode b_M_create 74 = .ok (.idiv, 1) := by decide +kernel
theorem d_M_create_75 : decode b_M_create 75 = .ok (.goto 9, 3) := by decide +kernel
theorem d_M_create_78 : decode b_M_create 78 = .ok (.iload 5, 2) := by decide +kernel
theorem d_M_create_80 : decode b_M_create 80 = .ok (.sipush 256, 3) := by decide +kernel
theorem d_M_create_83 : decode b_M_create 83 = .ok (.isub, 1) := by decide +kernel
theorem d_M_create_84 : decode b_M_create 84 = .ok (.istore 6, 2) := by decide +kernel
theorem d_M_create_86 : decode b_M_create 86 = .ok (.aload_n 0, 1) := by decide +kernel
theorem d_M_create_87 : decode b_M_create 87 = .ok (.getfield 13, 3) := by decide +kernel
theorem d_M_create_90 : decode b_M_create 90 = .ok (.iload 6, 2) := by decide +kernel
theorem d_M_create_92 : decode b_M_create 92 = .ok (.iaload, 1) := by decide +kernel
theorem d_M_create_93 : decode b_M_create 93 = .ok (.iconst 1, 1) := by decide +kernel
theorem d_M_create_94 : decode b_M_create 94 = .ok (.if_icmp .ne 17, 3) := by decide +kernel
theorem d_M_create_97 : decode b_M_create 97 = .ok (.iload 6, 2) := by decide +kernel
theorem d_M_create_99 : decode b_M_create 99 = .ok (.iload_n 2, 1) := by decide +kernel
theorem d_M_create_100 : decode b_M_create 100 = .ok (.if_icmp .lt 14, 3) := by decide +kernel
theorem d_M_create_103 : decode b_M_create 103 = .ok (.iload 6, 2) := by decide +kernel
theorem d_M_create_105 : decode b_M_create 105 = .ok (.iload_n 2, 1) := by decide +kernel
theorem d_M_create_106 : decode b_M_create 106 = .ok (.iload_n 3, 1) := by decide +kernel
theorem d_M_create_107 : decode b_M_create 107 = .ok (.iadd, 1) := by decide +kernel
theorem d_M_create_108 : decode b_M_create 108 = .ok (.if_icmp .ge 6, 3) := by decide +kernel
theorem d_M_create_111 : decode b_M_create 111 = .ok (.bipush (-4), 2) := by decide +kernel
theorem d_M_create_113 : decode b_M_create 113 = .ok (.ireturn, 1) := by decide +kernel
theorem d_M_create_114 : decode b_M_create 114 = .ok (.iconst 0, 1) := by decide +kernel
theorem d_M_create_115 : decode b_M_create 115 = .ok (.istore 6, 2) := by decide +kernel
theorem d_M_create_117 : decode b_M_create 117 = .ok (.iload 6, 2) := by decide +kernel
theorem d_M_create_119 : decode b_M_create 119 = .ok (.iconst 4, 1) := by decide +kernel
theorem d_M_create_120 : decode b_M_create 120 = .ok (.if_icmp .ge 19, 3) := by decide +kernel
theorem d_M_create_123 : decode b_M_create 123 = .ok (.aload_n 0, 1) := by decide +kernel
theorem d_M_create_124 : decode b_M_create 124 = .ok (.getfield 22, 3) := by decide +kernel
theorem d_M_create_127 : decode b_M_create 127 = .ok (.iload 6, 2) := by decide +kernel
theorem d_M_create_129 : decode b_M_create 129 = .ok (.iaload, 1) := by decide +kernel
theorem d_M_create_130 : decode b_M_create 130 = .ok (.ifCond .eq 9, 3) := by decide +kernel
theorem d_M_create_133 : decode b_M_create 133 = .ok (.iinc 6 1, 3) := by decide +kernel
theorem d_M_create_136 : decode b_M_create 136 = .ok (.goto (-19), 3) := by decide +kernel
theorem d_M_create_139 : decode b_M_create 139 = .ok (.iload 6, 2) := by decide +kernel
theorem d_M_create_141 : decode b_M_create 141 = .ok (.iconst 4, 1) := by decide +kernel
theorem d_M_create_142 : decode b_M_create 142 = .ok (.if_icmp .ne 6, 3) := by decide +kernel
theorem d_M_create_145 : decode b_M_create 145 = .ok (.bipush (-5), 2) := by decide +kernel
theorem d_M_create_147 : decode b_M_create 147 = .ok (.ireturn, 1) := by decide +kernel
theorem d_M_create_148 : decode b_M_create 148 = .ok (.iload_n 2, 1) := by decide +kernel
theorem d_M_create_149 : decode b_M_create 149 = .ok (.istore 7, 2) := by decide +kernel
theorem d_M_create_151 : decode b_M_create 151 = .ok (.iload 7, 2) := by decide +kernel
theorem d_M_create_153 : decode b_M_create 153 = .ok (.iload_n 2, 1) := by decide +kernel
theorem d_M_create_154 : decode b_M_create 154 = .ok (.iload_n 3, 1) := by decide +kernel
theorem d_M_create_155 : decode b_M_create 155 = .ok (.iadd, 1) := by decide +kernel
theorem d_M_create_156 : decode b_M_create 156 = .ok (.if_icmp .ge 20, 3) := by decide +kernel
theorem d_M_create_159 : decode b_M_create 159 = .ok (.aload_n 0, 1) := by decide +kernel
theorem d_M_create_160 : decode b_M_create 160 = .ok (.getfield 13, 3) := by decide +kernel
theorem d_M_create_163 : decode b_M_create 163 = .ok (.iload 7, 2) := by decide +kernel
theorem d_M_create_165 : decode b_M_create 165 = .ok (.iconst 2, 1) := by decide +kernel
theorem d_M_create_166 : decode b_M_create 166 = .ok (.iload 6, 2) := by decide +kernel
theorem d_M_create_168 : decode b_M_create 168 = .ok (.iadd, 1) := by decide +kernel
theorem d_M_create_169 : decode b_M_create 169 = .ok (.iastore, 1) := by decide +kernel
theorem d_M_create_170 : decode b_M_create 170 = .ok (.iinc 7 1, 3) := by decide +kernel
theorem d_M_create_173 : decode b_M_create 173 = .ok (.goto (-22), 3) := by decide +kernel
theorem d_M_create_176 : decode b_M_create 176 = .ok (.aload_n 0, 1) := by decide +kernel
theorem d_M_create_177 : decode b_M_create 177 = .ok (.getfield 22, 3) := by decide +kernel
theorem d_M_create_180 : decode b_M_create 180 = .ok (.iload 6, 2) := by decide +kernel
theorem d_M_create_182 : decode b_M_create 182 = .ok (.iconst 1, 1) := by decide +kernel
theorem d_M_create_183 : decode b_M_create 183 = .ok (.iastore, 1) := by decide +kernel
theorem d_M_create_184 : decode b_M_create 184 = .ok (.aload_n 0, 1) := by decide +kernel
theorem d_M_create_185 : decode b_M_create 185 = .ok (.getfield 25, 3) := by decide +kernel
theorem d_M_create_188 : decode b_M_create 188 = .ok (.iload 6, 2) := by decide +kernel
theorem d_M_create_190 : decode b_M_create 190 = .ok (.iload_n 2, 1) := by decide +kernel
theorem d_M_create_191 : decode b_M_create 191 = .ok (.iastore, 1) := by decide +kernel
theorem d_M_create_192 : decode b_M_create 192 = .ok (.aload_n 0, 1) := by decide +kernel
theorem d_M_create_193 : decode b_M_create 193 = .ok (.getfield 28, 3) := by decide +kernel
theorem d_M_create_196 : decode b_M_create 196 = .ok (.iload 6, 2) := by decide +kernel
theorem d_M_create_198 : decode b_M_create 198 = .ok (.iload_n 3, 1) := by decide +kernel
theorem d_M_create_199 : decode b_M_create 199 = .ok (.iastore, 1) := by decide +kernel
theorem d_M_create_200 : decode b_M_create 200 = .ok (.aload_n 0, 1) := by decide +kernel
theorem d_M_create_201 : decode b_M_create 201 = .ok (.getfield 31, 3) := by decide +kernel
theorem d_M_create_204 : decode b_M_create 204 = .ok (.iload 6, 2) := by decide +kernel
theorem d_M_create_206 : decode b_M_create 206 = .ok (.iload 4, 2) := by decide +kernel
theorem d_M_create_208 : decode b_M_create 208 = .ok (.iastore, 1) := by decide +kernel
theorem d_M_create_209 : decode b_M_create 209 = .ok (.aload_n 0, 1) := by decide +kernel
theorem d_M_create_210 : decode b_M_create 210 = .ok (.getfield 34, 3) := by decide +kernel
theorem d_M_create_213 : decode b_M_create 213 = .ok (.iload 6, 2) := by decide +kernel
theorem d_M_create_215 : decode b_M_create 215 = .ok (.iload 5, 2) := by decide +kernel
theorem d_M_create_217 : decode b_M_create 217 = .ok (.iastore, 1) := by decide +kernel
theorem d_M_create_218 : decode b_M_create 218 = .ok (.aload_n 0, 1) := by decide +kernel
theorem d_M_create_219 : decode b_M_create 219 = .ok (.getfield 37, 3) := by decide +kernel
theorem d_M_create_222 : decode b_M_create 222 = .ok (.iload 6, 2) := by decide +kernel
theorem d_M_create_224 : decode b_M_create 224 = .ok (.aload_n 0, 1) := by decide +kernel
theorem d_M_create_225 : decode b_M_create 225 = .ok (.iload_n 2, 1) := by decide +kernel
theorem d_M_create_226 : decode b_M_create 226 = .ok (.iload_n 3, 1) := by decide +kernel
theorem d_M_create_227 : decode b_M_create 227 = .ok (.iload 4, 2) := by decide +kernel
theorem d_M_create_229 : decode b_M_create 229 = .ok (.invokevirtual 84, 3) := by decide +kernel
theorem d_M_create_232 : decode b_M_create 232 = .ok (.iastore, 1) := by decide +kernel
theorem d_M_create_233 : decode b_M_create 233 = .ok (.iload 6, 2) := by decide +kernel
theorem d_M_create_235 : decode b_M_create 235 = .ok (.ireturn, 1) := by decide +kernel
theorem d_M_there_0 : decode b_M_there 0 = .ok (.iload_n 1, 1) := by decide +kernel
theorem d_M_there_1 : decode b_M_there 1 = .ok (.ifCond .lt 21, 3) := by decide +kernel
theorem d_M_there_4 : decode b_M_there 4 = .ok (.iload_n 1, 1) := by decide +kernel
theorem d_M_there_5 : decode b_M_there 5 = .ok (.iconst 4, 1) := by decide +kernel
theorem d_M_there_6 : decode b_M_there 6 = .ok (.if_icmp .ge 16, 3) := by decide +kernel
theorem d_M_there_9 : decode b_M_there 9 = .ok (.aload_n 0, 1) := by decide +kernel
theorem d_M_there_10 : decode b_M_there 10 = .ok (.getfield 22, 3) := by decide +kernel
theorem d_M_there_13 : decode b_M_there 13 = .ok (.iload_n 1, 1) := by decide +kernel
theorem d_M_there_14 : decode b_M_there 14 = .ok (.iaload, 1) := by decide +kernel
theorem d_M_there_15 : decode b_M_there 15 = .ok (.ifCond .eq 7, 3) := by decide +kernel
theorem d_M_there_18 : decode b_M_there 18 = .ok (.iconst 1, 1) := by decide +kernel
theorem d_M_there_19 : decode b_M_there 19 = .ok (.goto 4, 3) := by decide +kernel
theorem d_M_there_22 : decode b_M_there 22 = .ok (.iconst 0, 1) := by decide +kernel
theorem d_M_there_23 : decode b_M_there 23 = .ok (.ireturn, 1) := by decide +kernel
theorem d_M_run_0 : decode b_M_run 0 = .ok (.aload_n 0, 1) := by decide +kernel
theorem d_M_run_1 : decode b_M_run 1 = .ok (.iload_n 1, 1) := by decide +kernel
theorem d_M_run_2 : decode b_M_run 2 = .ok (.invokevirtual 66, 3) := by decide +kernel
theorem d_M_run_5 : decode b_M_run 5 = .ok (.ifCond .eq 5, 3) := by decide +kernel
theorem d_M_run_8 : decode b_M_run 8 = .ok (.iconst (-1), 1) := by decide +kernel
theorem d_M_run_9 : decode b_M_run 9 = .ok (.ireturn, 1) := by decide +kernel
theorem d_M_run_10 : decode b_M_run 10 = .ok (.aload_n 0, 1) := by decide +kernel
theorem d_M_run_11 : decode b_M_run 11 = .ok (.iload_n 2, 1) := by decide +kernel
theorem d_M_run_12 : decode b_M_run 12 = .ok (.invokevirtual 88, 3) := by decide +kernel
theorem d_M_run_15 : decode b_M_run 15 = .ok (.ifCond .eq 23, 3) := by decide +kernel
theorem d_M_run_18 : decode b_M_run 18 = .ok (.aload_n 0, 1) := by decide +kernel
theorem d_M_run_19 : decode b_M_run 19 = .ok (.getfield 22, 3) := by decide +kernel
theorem d_M_run_22 : decode b_M_run 22 = .ok (.iload_n 2, 1) := by decide +kernel
theorem d_M_run_23 : decode b_M_run 23 = .ok (.iaload, 1) := by decide +kernel
theorem d_M_run_24 : decode b_M_run 24 = .ok (.iconst 1, 1) := by decide +kernel
theorem d_M_run_25 : decode b_M_run 25 = .ok (.if_icmp .eq 16, 3) := by decide +kernel
theorem d_M_run_28 : decode b_M_run 28 = .ok (.aload_n 0, 1) := by decide +kernel
theorem d_M_run_29 : decode b_M_run 29 = .ok (.getfield 22, 3) := by decide +kernel
theorem d_M_run_32 : decode b_M_run 32 = .ok (.iload_n 2, 1) := by decide +kernel
theorem d_M_run_33 : decode b_M_run 33 = .ok (.iaload, 1) := by decide +kernel
theorem d_M_run_34 : decode b_M_run 34 = .ok (.iconst 3, 1) := by decide +kernel
theorem d_M_run_35 : decode b_M_run 35 = .ok (.if_icmp .eq 6, 3) := by decide +kernel
theorem d_M_run_38 : decode b_M_run 38 = .ok (.bipush (-2), 2) := by decide +kernel
theorem d_M_run_40 : decode b_M_run 40 = .ok (.ireturn, 1) := by decide +kernel
theorem d_M_run_41 : decode b_M_run 41 = .ok (.aload_n 0, 1) := by decide +kernel
theorem d_M_run_42 : decode b_M_run 42 = .ok (.getfield 22, 3) := by decide +kernel
theorem d_M_run_45 : decode b_M_run 45 = .ok (.iload_n 2, 1) := by decide +kernel
theorem d_M_run_46 : decode b_M_run 46 = .ok (.iaload, 1) := by decide +kernel
theorem d_M_run_47 : decode b_M_run 47 = .ok (.iconst 1, 1) := by decide +kernel
theorem d_M_run_48 : decode b_M_run 48 = .ok (.if_icmp .ne 54, 3) := by decide +kernel
theorem d_M_run_51 : decode b_M_run 51 = .ok (.iconst 0, 1) := by decide +kernel
theorem d_M_run_52 : decode b_M_run 52 = .ok (.istore 4, 2) := by decide +kernel
theorem d_M_run_54 : decode b_M_run 54 = .ok (.iload 4, 2) := by decide +kernel
theorem d_M_run_56 : decode b_M_run 56 = .ok (.bipush 8, 2) := by decide +kernel
theorem d_M_run_58 : decode b_M_run 58 = .ok (.if_icmp .ge 32, 3) := by decide +kernel
theorem d_M_run_61 : decode b_M_run 61 = .ok (.aload_n 0, 1) := by decide +kernel
theorem d_M_run_62 : decode b_M_run 62 = .ok (.getfield 46, 3) := by decide +kernel
theorem d_M_run_65 : decode b_M_run 65 = .ok (.bipush 8, 2) := by decide +kernel
theorem d_M_run_67 : decode b_M_run 67 = .ok (.iload_n 2, 1) := by decide +kernel
theorem d_M_run_68 : decode b_M_run 68 = .ok (.imul, 1) := by decide +kernel
theorem d_M_run_69 : decode b_M_run 69 = .ok (.iload 4, 2) := by decide +kernel
theorem d_M_run_71 : decode b_M_run 71 = .ok (.iadd, 1) := by decide +kernel
theorem d_M_run_72 : decode b_M_run 72 = .ok (.iload 4, 2) := by decide +kernel
theorem d_M_run_74 : decode b_M_run 74 = .ok (.iconst 1, 1) := by decide +kernel
theorem d_M_run_75 : decode b_M_run 75 = .ok (.if_icmp .ne 7, 3) := by decide +kernel
theorem d_M_run_78 : decode b_M_run 78 = .ok (.iload_n 3, 1) := by decide +kernel
theorem d_M_run_79 : decode b_M_run 79 = .ok (.goto 4, 3) := by decide +kernel
theorem d_M_run_82 : decode b_M_run 82 = .ok (.iconst 0, 1) := by decide +kernel
theorem d_M_run_83 : decode b_M_run 83 = .ok (.iastore, 1) := by decide +kernel
theorem d_M_run_84 : decode b_M_run 84 = .ok (.iinc 4 1, 3) := by decide +kernel
theorem d_M_run_87 : decode b_M_run 87 = .ok (.goto (-33), 3) := by decide +kernel
theorem d_M_run_90 : decode b_M_run 90 = .ok (.aload_n 0, 1) := by decide +kernel
theorem d_M_run_91 : decode b_M_run 91 = .ok (.getfield 43, 3) := by decide +kernel
theorem d_M_run_94 : decode b_M_run 94 = .ok (.iload_n 2, 1) := by decide +kernel
theorem d_M_run_95 : decode b_M_run 95 = .ok (.aload_n 0, 1) := by decide +kernel
theorem d_M_run_96 : decode b_M_run 96 = .ok (.getfield 31, 3) := by decide +kernel
theorem d_M_run_99 : decode b_M_run 99 = .ok (.iload_n 2, 1) := by decide +kernel
theorem d_M_run_100 : decode b_M_run 100 = .ok (.iaload, 1) := by decide +kernel
theorem d_M_run_101 : decode b_M_run 101 = .ok (.iastore, 1) := by decide +kernel
theorem d_M_run_102 : decode b_M_run 102 = .ok (.aload_n 0, 1) := by decide +kernel
theorem d_M_run_103 : decode b_M_run 103 = .ok (.getfield 22, 3) := by decide +kernel
theorem d_M_run_106 : decode b_M_run 106 = .ok (.iload_n 2, 1) := by decide +kernel
theorem d_M_run_107 : decode b_M_run 107 = .ok (.iconst 2, 1) := by decide +kernel
theorem d_M_run_108 : decode b_M_run 108 = .ok (.iastore, 1) := by decide +kernel
theorem d_M_run_109 : decode b_M_run 109 = .ok (.aload_n 0, 1) := by decide +kernel
theorem d_M_run_110 : decode b_M_run 110 = .ok (.getfield 19, 3) := by decide +kernel
theorem d_M_run_113 : decode b_M_run 113 = .ok (.iload_n 1, 1) := by decide +kernel
theorem d_M_run_114 : decode b_M_run 114 = .ok (.iload_n 2, 1) := by decide +kernel
theorem d_M_run_115 : decode b_M_run 115 = .ok (.iastore, 1) := by decide +kernel
theorem d_M_run_116 : decode b_M_run 116 = .ok (.iconst 0, 1) := by decide +kernel
theorem d_M_run_117 : decode b_M_run 117 = .ok (.ireturn, 1) := by decide +kernel
theorem d_M_leave_0 : decode b_M_leave 0 = .ok (.aload_n 0, 1) := by decide +kernel
theorem d_M_leave_1 : decode b_M_leave 1 = .ok (.getfield 22, 3) := by decide +kernel
theorem d_M_leave_4 : decode b_M_leave 4 = .ok (.aload_n 0, 1) := by decide +kernel
theorem d_M_leave_5 : decode b_M_leave 5 = .ok (.getfield 19, 3) := by decide +kernel
theorem d_M_leave_8 : decode b_M_leave 8 = .ok (.iload_n 1, 1) := by decide +kernel
theorem d_M_leave_9 : decode b_M_leave 9 = .ok (.iaload, 1) := by decide +kernel
theorem d_M_leave_10 : decode b_M_leave 10 = .ok (.iload_n 2, 1) := by decide +kernel
theorem d_M_leave_11 : decode b_M_leave 11 = .ok (.iastore, 1) := by decide +kernel
theorem d_M_leave_12 : decode b_M_leave 12 = .ok (.aload_n 0, 1) := by decide +kernel
theorem d_M_leave_13 : decode b_M_leave 13 = .ok (.getfield 19, 3) := by decide +kernel
theorem d_M_leave_16 : decode b_M_leave 16 = .ok (.iload_n 1, 1) := by decide +kernel
theorem d_M_leave_17 : decode b_M_leave 17 = .ok (.iconst (-1), 1) := by decide +kernel
theorem d_M_leave_18 : decode b_M_leave 18 = .ok (.iastore, 1) := by decide +kernel
theorem d_M_leave_19 : decode b_M_leave 19 = .ok (.return_, 1) := by decide +kernel
theorem d_M_end_0 : decode b_M_end 0 = .ok (.aload_n 0, 1) := by decide +kernel
theorem d_M_end_1 : decode b_M_end 1 = .ok (.getfield 40, 3) := by decide +kernel
theorem d_M_end_4 : decode b_M_end 4 = .ok (.aload_n 0, 1) := by decide +kernel
theorem d_M_end_5 : decode b_M_end 5 = .ok (.getfield 19, 3) := by decide +kernel
theorem d_M_end_8 : decode b_M_end 8 = .ok (.iload_n 1, 1) := by decide +kernel
theorem d_M_end_9 : decode b_M_end 9 = .ok (.iaload, 1) := by decide +kernel
theorem d_M_end_10 : decode b_M_end 10 = .ok (.iload_n 3, 1) := by decide +kernel
theorem d_M_end_11 : decode b_M_end 11 = .ok (.iastore, 1) := by decide +kernel
theorem d_M_end_12 : decode b_M_end 12 = .ok (.aload_n 0, 1) := by decide +kernel
theorem d_M_end_13 : decode b_M_end 13 = .ok (.iload_n 1, 1) := by decide +kernel
theorem d_M_end_14 : decode b_M_end 14 = .ok (.iload_n 2, 1) := by decide +kernel
theorem d_M_end_15 : decode b_M_end 15 = .ok (.invokevirtual 91, 3) := by decide +kernel
theorem d_M_end_18 : decode b_M_end 18 = .ok (.return_, 1) := by decide +kernel
theorem d_M_once_0 : decode b_M_once 0 = .ok (.aload_n 0, 1) := by decide +kernel
theorem d_M_once_1 : decode b_M_once 1 = .ok (.getfield 19, 3) := by decide +kernel
theorem d_M_once_4 : decode b_M_once 4 = .ok (.iload_n 1, 1) := by decide +kernel
theorem d_M_once_5 : decode b_M_once 5 = .ok (.iaload, 1) := by decide +kernel
theorem d_M_once_6 : decode b_M_once 6 = .ok (.istore_n 2, 1) := by decide +kernel
theorem d_M_once_7 : decode b_M_once 7 = .ok (.aload_n 0, 1) := by decide +kernel
theorem d_M_once_8 : decode b_M_once 8 = .ok (.getfield 43, 3) := by decide +kernel
theorem d_M_once_11 : decode b_M_once 11 = .ok (.iload_n 2, 1) := by decide +kernel
theorem d_M_once_12 : decode b_M_once 12 = .ok (.iaload, 1) := by decide +kernel
theorem d_M_once_13 : decode b_M_once 13 = .ok (.istore_n 3, 1) := by decide +kernel
theorem d_M_once_14 : decode b_M_once 14 = .ok (.aload_n 0, 1) := by decide +kernel
theorem d_M_once_15 : decode b_M_once 15 = .ok (.iload_n 1, 1) := by decide +kernel
theorem d_M_once_16 : decode b_M_once 16 = .ok (.iload_n 3, 1) := by decide +kernel
theorem d_M_once_17 : decode b_M_once 17 = .ok (.iconst 4, 1) := by decide +kernel
theorem d_M_once_18 : decode b_M_once 18 = .ok (.invokevirtual 71, 3) := by decide +kernel
theorem d_M_once_21 : decode b_M_once 21 = .ok (.ifCond .ne 11, 3) := by decide +kernel
theorem d_M_once_24 : decode b_M_once 24 = .ok (.aload_n 0, 1) := by decide +kernel
theorem d_M_once_25 : decode b_M_once 25 = .ok (.iload_n 1, 1) := by decide +kernel
theorem d_M_once_26 : decode b_M_once 26 = .ok (.iconst 5, 1) := by decide +kernel
theorem d_M_once_27 : decode b_M_once 27 = .ok (.iconst 1, 1) := by decide +kernel
theorem d_M_once_28 : decode b_M_once 28 = .ok (.invokevirtual 95, 3) := by decide +kernel
theorem d_M_once_31 : decode b_M_once 31 = .ok (.return_, 1) := by decide +kernel
theorem d_M_once_32 : decode b_M_once 32 = .ok (.aload_n 0, 1) := by decide +kernel
theorem d_M_once_33 : decode b_M_once 33 = .ok (.getfield 7, 3) := by decide +kernel
theorem d_M_once_36 : decode b_M_once 36 = .ok (.iload_n 3, 1) := by decide +kernel
theorem d_M_once_37 : decode b_M_once 37 = .ok (.iaload, 1) := by decide +kernel
theorem d_M_once_38 : decode b_M_once 38 = .ok (.istore 4, 2) := by decide +kernel
theorem d_M_once_40 : decode b_M_once 40 = .ok (.iload 4, 2) := by decide +kernel
theorem d_M_once_42 : decode b_M_once 42 = .ok (.bipush 15, 2) := by decide +kernel
theorem d_M_once_44 : decode b_M_once 44 = .ok (.iand, 1) := by decide +kernel
theorem d_M_once_45 : decode b_M_once 45 = .ok (.istore 5, 2) := by decide +kernel
theorem d_M_once_47 : decode b_M_once 47 = .ok (.bipush 8, 2) := by decide +kernel
theorem d_M_once_49 : decode b_M_once 49 = .ok (.iload_n 2, 1) := by decide +kernel
theorem d_M_once_50 : decode b_M_once 50 = .ok (.imul, 1) := by decide +kernel
theorem d_M_once_51 : decode b_M_once 51 = .ok (.iload 4, 2) := by decide +kernel
theorem d_M_once_53 : decode b_M_once 53 = .ok (.iconst 4, 1) := by decide +kernel
theorem d_M_once_54 : decode b_M_once 54 = .ok (.ishr, 1) := by decide +kernel
theorem d_M_once_55 : decode b_M_once 55 = .ok (.bipush 7, 2) := by decide +kernel
theorem d_M_once_57 : decode b_M_once 57 = .ok (.iand, 1) := by decide +kernel
theorem d_M_once_58 : decode b_M_once 58 = .ok (.iadd, 1) := by decide +kernel
theorem d_M_once_59 : decode b_M_once 59 = .ok (.istore 6, 2) := by decide +kernel
theorem d_M_once_61 : decode b_M_once 61 = .ok (.bipush 8, 2) := by decide +kernel
theorem d_M_once_63 : decode b_M_once 63 = .ok (.iload_n 2, 1) := by decide +kernel
theorem d_M_once_64 : decode b_M_once 64 = .ok (.imul, 1) := by decide +kernel
theorem d_M_once_65 : decode b_M_once 65 = .ok (.iload 4, 2) := by decide +kernel
theorem d_M_once_67 : decode b_M_once 67 = .ok (.bipush 8, 2) := by decide +kernel
theorem d_M_once_69 : decode b_M_once 69 = .ok (.ishr, 1) := by decide +kernel
theorem d_M_once_70 : decode b_M_once 70 = .ok (.bipush 7, 2) := by decide +kernel
theorem d_M_once_72 : decode b_M_once 72 = .ok (.iand, 1) := by decide +kernel
theorem d_M_once_73 : decode b_M_once 73 = .ok (.iadd, 1) := by decide +kernel
theorem d_M_once_74 : decode b_M_once 74 = .ok (.istore 7, 2) := by decide +kernel
theorem d_M_once_76 : decode b_M_once 76 = .ok (.iload 4, 2) := by decide +kernel
theorem d_M_once_78 : decode b_M_once 78 = .ok (.bipush 16, 2) := by decide +kernel
theorem d_M_once_80 : decode b_M_once 80 = .ok (.ishr, 1) := by decide +kernel
theorem d_M_once_81 : decode b_M_once 81 = .ok (.istore 8, 2) := by decide +kernel
theorem d_M_once_83 : decode b_M_once 83 = .ok (.aload_n 0, 1) := by decide +kernel
theorem d_M_once_84 : decode b_M_once 84 = .ok (.getfield 46, 3) := by decide +kernel
theorem d_M_once_87 : decode b_M_once 87 = .ok (.iload 7, 2) := by decide +kernel
theorem d_M_once_89 : decode b_M_once 89 = .ok (.iaload, 1) := by decide +kernel
theorem d_M_once_90 : decode b_M_once 90 = .ok (.iload 8, 2) := by decide +kernel
theorem d_M_once_92 : decode b_M_once 92 = .ok (.iadd, 1) := by decide +kernel
theorem d_M_once_93 : decode b_M_once 93 = .ok (.istore 9, 2) := by decide +kernel
theorem d_M_once_95 : decode b_M_once 95 = .ok (.iload 5, 2) := by decide +kernel
theorem d_M_once_97 : decode b_M_once 97 = .ok (.ifCond .ne 19, 3) := by decide +kernel
theorem d_M_once_100 : decode b_M_once 100 = .ok (.aload_n 0, 1) := by decide +kernel
theorem d_M_once_101 : decode b_M_once 101 = .ok (.iload_n 1, 1) := by decide +kernel
theorem d_M_once_102 : decode b_M_once 102 = .ok (.iconst 4, 1) := by decide +kernel
theorem d_M_once_103 : decode b_M_once 103 = .ok (.aload_n 0, 1) := by decide +kernel
theorem d_M_once_104 : decode b_M_once 104 = .ok (.getfield 46, 3) := by decide +kernel
theorem d_M_once_107 : decode b_M_once 107 = .ok (.iload 6, 2) := by decide +kernel
theorem d_M_once_109 : decode b_M_once 109 = .ok (.iaload, 1) := by decide +kernel
theorem d_M_once_110 : decode b_M_once 110 = .ok (.invokevirtual 95, 3) := by decide +kernel
theorem d_M_once_113 : decode b_M_once 113 = .ok (.goto 135, 3) := by decide +kernel
theorem d_M_once_116 : decode b_M_once 116 = .ok (.iload 5, 2) := by decide +kernel
theorem d_M_once_118 : decode b_M_once 118 = .ok (.bipush 10, 2) := by decide +kernel
theorem d_M_once_120 : decode b_M_once 120 = .ok (.if_icmp .le 13, 3) := by decide +kernel
theorem d_M_once_123 : decode b_M_once 123 = .ok (.aload_n 0, 1) := by decide +kernel
theorem d_M_once_124 : decode b_M_once 124 = .ok (.iload_n 1, 1) := by decide +kernel
theorem d_M_once_125 : decode b_M_once 125 = .ok (.iconst 5, 1) := by decide +kernel
theorem d_M_once_126 : decode b_M_once 126 = .ok (.iconst 4, 1) := by decide +kernel
theorem d_M_once_127 : decode b_M_once 127 = .ok (.invokevirtual 95, 3) := by decide +kernel
theorem d_M_once_130 : decode b_M_once 130 = .ok (.goto 118, 3) := by decide +kernel
theorem d_M_once_133 : decode b_M_once 133 = .ok (.iload 5, 2) := by decide +kernel
theorem d_M_once_135 : decode b_M_once 135 = .ok (.iconst 4, 1) := by decide +kernel
theorem d_M_once_136 : decode b_M_once 136 = .ok (.if_icmp .ne 24, 3) := by decide +kernel
theorem d_M_once_139 : decode b_M_once 139 = .ok (.aload_n 0, 1) := by decide +kernel
theorem d_M_once_140 : decode b_M_once 140 = .ok (.iload_n 1, 1) := by decide +kernel
theorem d_M_once_141 : decode b_M_once 141 = .ok (.iload 9, 2) := by decide +kernel
theorem d_M_once_143 : decode b_M_once 143 = .ok (.iconst 1, 1) := by decide +kernel
theorem d_M_once_144 : decode b_M_once 144 = .ok (.invokevirtual 71, 3) := by decide +kernel
theorem d_M_once_147 : decode b_M_once 147 = .ok (.ifCond .ne 13, 3) := by decide +kernel
theorem d_M_once_150 : decode b_M_once 150 = .ok (.aload_n 0, 1) := by decide +kernel
theorem d_M_once_151 : decode b_M_once 151 = .ok (.iload_n 1, 1) := by decide +kernel
theorem d_M_once_152 : decode b_M_once 152 = .ok (.iconst 5, 1) := by decide +kernel
theorem d_M_once_153 : decode b_M_once 153 = .ok (.iconst 2, 1) := by decide +kernel
theorem d_M_once_154 : decode b_M_once 154 = .ok (.invokevirtual 95, 3) := by decide +kernel
theorem d_M_once_157 : decode b_M_once 157 = .ok (.goto 91, 3) := by decide +kernel
theorem d_M_once_160 : decode b_M_once 160 = .ok (.iload 5, 2) := by decide +kernel
theorem d_M_once_162 : decode b_M_once 162 = .ok (.iconst 5, 1) := by decide +kernel
theorem d_M_once_163 : decode b_M_once 163 = .ok (.if_icmp .ne 24, 3) := by decide +kernel
theorem d_M_once_166 : decode b_M_once 166 = .ok (.aload_n 0, 1) := by decide +kernel
theorem d_M_once_167 : decode b_M_once 167 = .ok (.iload_n 1, 1) := by decide +kernel
theorem d_M_once_168 : decode b_M_once 168 = .ok (.iload 9, 2) := by decide +kernel
theorem d_M_once_170 : decode b_M_once 170 = .ok (.iconst 2, 1) := by decide +kernel
theorem d_M_once_171 : decode b_M_once 171 = .ok (.invokevirtual 71, 3) := by decide +kernel
theorem d_M_once_174 : decode b_M_once 174 = .ok (.ifCond .ne 13, 3) := by decide +kernel
theorem d_M_once_177 : decode b_M_once 177 = .ok (.aload_n 0, 1) := by decide +kernel
theorem d_M_once_178 : decode b_M_once 178 = .ok (.iload_n 1, 1) := by decide +kernel
theorem d_M_once_179 : decode b_M_once 179 = .ok (.iconst 5, 1) := by decide +kernel
theorem d_M_once_180 : decode b_M_once 180 = .ok (.iconst 3, 1) := by decide +kernel
theorem d_M_once_181 : decode b_M_once 181 = .ok (.invokevirtual 95, 3) := by decide +kernel
theorem d_M_once_184 : decode b_M_once 184 = .ok (.goto 64, 3) := by decide +kernel
theorem d_M_once_187 : decode b_M_once 187 = .ok (.aload_n 0, 1) := by decide +kernel
theorem d_M_once_188 : decode b_M_once 188 = .ok (.getfield 43, 3) := by decide +kernel
theorem d_M_once_191 : decode b_M_once 191 = .ok (.iload_n 2, 1) := by decide +kernel
theorem d_M_once_192 : decode b_M_once 192 = .ok (.iload 5, 2) := by decide +kernel
theorem d_M_once_194 : decode b_M_once 194 = .ok (.bipush 7, 2) := by decide +kernel
theorem d_M_once_196 : decode b_M_once 196 = .ok (.if_icmp .ne 8, 3) := by decide +kernel
theorem d_M_once_199 : decode b_M_once 199 = .ok (.iload 9, 2) := by decide +kernel
theorem d_M_once_201 : decode b_M_once 201 = .ok (.goto 32, 3) := by decide +kernel
theorem d_M_once_204 : decode b_M_once 204 = .ok (.iload 5, 2) := by decide +kernel
theorem d_M_once_206 : decode b_M_once 206 = .ok (.bipush 6, 2) := by decide +kernel
theorem d_M_once_208 : decode b_M_once 208 = .ok (.if_icmp .ne 22, 3) := by decide +kernel
theorem d_M_once_211 : decode b_M_once 211 = .ok (.aload_n 0, 1) := by decide +kernel
theorem d_M_once_212 : decode b_M_once 212 = .ok (.getfield 46, 3) := by decide +kernel
theorem d_M_once_215 : decode b_M_once 215 = .ok (.iload 6, 2) := by decide +kernel
theorem d_M_once_217 : decode b_M_once 217 = .ok (.iaload, 1) := by decide +kernel
theorem d_M_once_218 : decode b_M_once 218 = .ok (.ifCond .ne 12, 3) := by decide +kernel
theorem d_M_once_221 : decode b_M_once 221 = .ok (.iload_n 3, 1) := by decide +kernel
theorem d_M_once_222 : decode b_M_once 222 = .ok (.iconst 1, 1) := by decide +kernel
theorem d_M_once_223 : decode b_M_once 223 = .ok (.iadd, 1) := by decide +kernel
theorem d_M_once_224 : decode b_M_once 224 = .ok (.iload 8, 2) := by decide +kernel
theorem d_M_once_226 : decode b_M_once 226 = .ok (.iadd, 1) := by decide +kernel
theorem d_M_once_227 : decode b_M_once 227 = .ok (.goto 6, 3) := by decide +kernel
theorem d_M_once_230 : decode b_M_once 230 = .ok (.iload_n 3, 1) := by decide +kernel
theorem d_M_once_231 : decode b_M_once 231 = .ok (.iconst 1, 1) := by decide +kernel
theorem d_M_once_232 : decode b_M_once 232 = .ok (.iadd, 1) := by decide +kernel
theorem d_M_once_233 : decode b_M_once 233 = .ok (.iastore, 1) := by decide +kernel
theorem d_M_once_234 : decode b_M_once 234 = .ok (.aload_n 0, 1) := by decide +kernel
theorem d_M_once_235 : decode b_M_once 235 = .ok (.iload_n 1, 1) := by decide +kernel
theorem d_M_once_236 : decode b_M_once 236 = .ok (.iload 5, 2) := by decide +kernel
theorem d_M_once_238 : decode b_M_once 238 = .ok (.iload 6, 2) := by decide +kernel
theorem d_M_once_240 : decode b_M_once 240 = .ok (.iload 7, 2) := by decide +kernel
theorem d_M_once_242 : decode b_M_once 242 = .ok (.iload 9, 2) := by decide +kernel
theorem d_M_once_244 : decode b_M_once 244 = .ok (.iload_n 3, 1) := by decide +kernel
theorem d_M_once_245 : decode b_M_once 245 = .ok (.invokevirtual 99, 3) := by decide +kernel
theorem d_M_once_248 : decode b_M_once 248 = .ok (.return_, 1) := by decide +kernel
theorem d_M_work_0 : decode b_M_work 0 = .ok (.aload_n 0, 1) := by decide +kernel
theorem d_M_work_1 : decode b_M_work 1 = .ok (.getfield 19, 3) := by decide +kernel
theorem d_M_work_4 : decode b_M_work 4 = .ok (.iload_n 1, 1) := by decide +kernel
theorem d_M_work_5 : decode b_M_work 5 = .ok (.iaload, 1) := by decide +kernel
theorem d_M_work_6 : decode b_M_work 6 = .ok (.istore 7, 2) := by decide +kernel
theorem d_M_work_8 : decode b_M_work 8 = .ok (.iload_n 2, 1) := by decide +kernel
theorem d_M_work_9 : decode b_M_work 9 = .ok (.tableswitch 221 1 10 #[55, 66, 89, 112, 128, 221, 144, 157, 184, 212], 55) := by decide +kernel
theorem d_M_work_64 : decode b_M_work 64 = .ok (.aload_n 0, 1) := by decide +kernel
theorem d_M_work_65 : decode b_M_work 65 = .ok (.getfield 46, 3) := by decide +kernel
theorem d_M_work_68 : decode b_M_work 68 = .ok (.iload_n 3, 1) := by decide +kernel
theorem d_M_work_69 : decode b_M_work 69 = .ok (.iload 5, 2) := by decide +kernel
theorem d_M_work_71 : decode b_M_work 71 = .ok (.iastore, 1) := by decide +kernel
theorem d_M_work_72 : decode b_M_work 72 = .ok (.goto 158, 3) := by decide +kernel
theorem d_M_work_75 : decode b_M_work 75 = .ok (.aload_n 0, 1) := by decide +kernel
theorem d_M_work_76 : decode b_M_work 76 = .ok (.getfield 46, 3) := by decide +kernel
theorem d_M_work_79 : decode b_M_work 79 = .ok (.iload_n 3, 1) := by decide +kernel
theorem d_M_work_80 : decode b_M_work 80 = .ok (.aload_n 0, 1) := by decide +kernel
theorem d_M_work_81 : decode b_M_work 81 = .ok (.getfield 46, 3) := by decide +kernel
theorem d_M_work_84 : decode b_M_work 84 = .ok (.iload_n 3, 1) := by decide +kernel
theorem d_M_work_85 : decode b_M_work 85 = .ok (.iaload, 1) := by decide +kernel
theorem d_M_work_86 : decode b_M_work 86 = .ok (.aload_n 0, 1) := by decide +kernel
theorem d_M_work_87 : decode b_M_work 87 = .ok (.getfield 46, 3) := by decide +kernel
theorem d_M_work_90 : decode b_M_work 90 = .ok (.iload 4, 2) := by decide +kernel
theorem d_M_work_92 : decode b_M_work 92 = .ok (.iaload, 1) := by decide +kernel
theorem d_M_work_93 : decode b_M_work 93 = .ok (.iadd, 1) := by decide +kernel
theorem d_M_work_94 : decode b_M_work 94 = .ok (.iastore, 1) := by decide +kernel
theorem d_M_work_95 : decode b_M_work 95 = .ok (.goto 135, 3) := by decide +kernel
theorem d_M_work_98 : decode b_M_work 98 = .ok (.aload_n 0, 1) := by decide +kernel
theorem d_M_work_99 : decode b_M_work 99 = .ok (.getfield 46, 3) := by decide +kernel
theorem d_M_work_102 : decode b_M_work 102 = .ok (.iload_n 3, 1) := by decide +kernel
theorem d_M_work_103 : decode b_M_work 103 = .ok (.aload_n 0, 1) := by decide +kernel
theorem d_M_work_104 : decode b_M_work 104 = .ok (.getfield 46, 3) := by decide +kernel
theorem d_M_work_107 : decode b_M_work 107 = .ok (.iload_n 3, 1) := by decide +kernel
theorem d_M_work_108 : decode b_M_work 108 = .ok (.iaload, 1) := by decide +kernel
theorem d_M_work_109 : decode b_M_work 109 = .ok (.aload_n 0, 1) := by decide +kernel
theorem d_M_work_110 : decode b_M_work 110 = .ok (.getfield 46, 3) := by decide +kernel
theorem d_M_work_113 : decode b_M_work 113 = .ok (.iload 4, 2) := by decide +kernel
theorem d_M_work_115 : decode b_M_work 115 = .ok (.iaload, 1) := by decide +kernel
theorem d_M_work_116 : decode b_M_work 116 = .ok (.ixor, 1) := by decide +kernel
theorem d_M_work_117 : decode b_M_work 117 = .ok (.iastore, 1) := by decide +kernel
theorem d_M_work_118 : decode b_M_work 118 = .ok (.goto 112, 3) := by decide +kernel
theorem d_M_work_121 : decode b_M_work 121 = .ok (.aload_n 0, 1) := by decide +kernel
theorem d_M_work_122 : decode b_M_work 122 = .ok (.getfield 46, 3) := by decide +kernel
theorem d_M_work_125 : decode b_M_work 125 = .ok (.iload_n 3, 1) := by decide +kernel
theorem d_M_work_126 : decode b_M_work 126 = .ok (.aload_n 0, 1) := by decide +kernel
theorem d_M_work_127 : decode b_M_work 127 = .ok (.getfield 7, 3) := by decide +kernel
theorem d_M_work_130 : decode b_M_work 130 = .ok (.iload 5, 2) := by decide +kernel
theorem d_M_work_132 : decode b_M_work 132 = .ok (.iaload, 1) := by decide +kernel
theorem d_M_work_133 : decode b_M_work 133 = .ok (.iastore, 1) := by decide +kernel
theorem d_M_work_134 : decode b_M_work 134 = .ok (.goto 96, 3) := by decide +kernel
theorem d_M_work_137 : decode b_M_work 137 = .ok (.aload_n 0, 1) := by decide +kernel
theorem d_M_work_138 : decode b_M_work 138 = .ok (.getfield 7, 3) := by decide +kernel
theorem d_M_work_141 : decode b_M_work 141 = .ok (.iload 5, 2) := by decide +kernel
theorem d_M_work_143 : decode b_M_work 143 = .ok (.aload_n 0, 1) := by decide +kernel
theorem d_M_work_144 : decode b_M_work 144 = .ok (.getfield 46, 3) := by decide +kernel
theorem d_M_work_147 : decode b_M_work 147 = .ok (.iload_n 3, 1) := by decide +kernel
theorem d_M_work_148 : decode b_M_work 148 = .ok (.iaload, 1) := by decide +kernel
theorem d_M_work_149 : decode b_M_work 149 = .ok (.iastore, 1) := by decide +kernel
theorem d_M_work_150 : decode b_M_work 150 = .ok (.goto 80, 3) := by decide +kernel
theorem d_M_work_153 : decode b_M_work 153 = .ok (.aload_n 0, 1) := by decide +kernel
theorem d_M_work_154 : decode b_M_work 154 = .ok (.getfield 46, 3) := by decide +kernel
theorem d_M_work_157 : decode b_M_work 157 = .ok (.iload_n 3, 1) := by decide +kernel
theorem d_M_work_158 : decode b_M_work 158 = .ok (.iload 6, 2) := by decide +kernel
theorem d_M_work_160 : decode b_M_work 160 = .ok (.iconst 1, 1) := by decide +kernel
theorem d_M_work_161 : decode b_M_work 161 = .ok (.iadd, 1) := by decide +kernel
theorem d_M_work_162 : decode b_M_work 162 = .ok (.iastore, 1) := by decide +kernel
theorem d_M_work_163 : decode b_M_work 163 = .ok (.goto 67, 3) := by decide +kernel
theorem d_M_work_166 : decode b_M_work 166 = .ok (.aload_n 0, 1) := by decide +kernel
theorem d_M_work_167 : decode b_M_work 167 = .ok (.getfield 46, 3) := by decide +kernel
theorem d_M_work_170 : decode b_M_work 170 = .ok (.iload_n 3, 1) := by decide +kernel
theorem d_M_work_171 : decode b_M_work 171 = .ok (.aload_n 0, 1) := by decide +kernel
theorem d_M_work_172 : decode b_M_work 172 = .ok (.aload_n 0, 1) := by decide +kernel
theorem d_M_work_173 : decode b_M_work 173 = .ok (.getfield 37, 3) := by decide +kernel
theorem d_M_work_176 : decode b_M_work 176 = .ok (.iload 7, 2) := by decide +kernel
theorem d_M_work_178 : decode b_M_work 178 = .ok (.iaload, 1) := by decide +kernel
theorem d_M_work_179 : decode b_M_work 179 = .ok (.aload_n 0, 1) := by decide +kernel
theorem d_M_work_180 : decode b_M_work 180 = .ok (.getfield 46, 3) := by decide +kernel
theorem d_M_work_183 : decode b_M_work 183 = .ok (.iload 4, 2) := by decide +kernel
theorem d_M_work_185 : decode b_M_work 185 = .ok (.iaload, 1) := by decide +kernel
theorem d_M_work_186 : decode b_M_work 186 = .ok (.invokevirtual 103, 3) := by decide +kernel
theorem d_M_work_189 : decode b_M_work 189 = .ok (.iastore, 1) := by decide +kernel
theorem d_M_work_190 : decode b_M_work 190 = .ok (.goto 40, 3) := by decide +kernel
theorem d_M_work_193 : decode b_M_work 193 = .ok (.aload_n 0, 1) := by decide +kernel
theorem d_M_work_194 : decode b_M_work 194 = .ok (.getfield 46, 3) := by decide +kernel
theorem d_M_work_197 : decode b_M_work 197 = .ok (.iload_n 3, 1) := by decide +kernel
theorem d_M_work_198 : decode b_M_work 198 = .ok (.aload_n 0, 1) := by decide +kernel
theorem d_M_work_199 : decode b_M_work 199 = .ok (.getfield 49, 3) := by decide +kernel
theorem d_M_work_202 : decode b_M_work 202 = .ok (.bipush 7, 2) := by decide +kernel
theorem d_M_work_204 : decode b_M_work 204 = .ok (.invokestatic 54, 3) := by decide +kernel
theorem d_M_work_207 : decode b_M_work 207 = .ok (.aload_n 0, 1) := by decide +kernel
theorem d_M_work_208 : decode b_M_work 208 = .ok (.getfield 37, 3) := by decide +kernel
theorem d_M_work_211 : decode b_M_work 211 = .ok (.iload 7, 2) := by decide +kernel
theorem d_M_work_213 : decode b_M_work 213 = .ok (.iaload, 1) := by decide +kernel
theorem d_M_work_214 : decode b_M_work 214 = .ok (.invokestatic 54, 3) := by decide +kernel
theorem d_M_work_217 : decode b_M_work 217 = .ok (.iastore, 1) := by decide +kernel
theorem d_M_work_218 : decode b_M_work 218 = .ok (.goto 12, 3) := by decide +kernel
theorem d_M_work_221 : decode b_M_work 221 = .ok (.aload_n 0, 1) := by decide +kernel
theorem d_M_work_222 : decode b_M_work 222 = .ok (.iload_n 1, 1) := by decide +kernel
theorem d_M_work_223 : decode b_M_work 223 = .ok (.iconst 3, 1) := by decide +kernel
theorem d_M_work_224 : decode b_M_work 224 = .ok (.invokevirtual 91, 3) := by decide +kernel
theorem d_M_work_227 : decode b_M_work 227 = .ok (.goto 3, 3) := by decide +kernel
theorem d_M_work_230 : decode b_M_work 230 = .ok (.return_, 1) := by decide +kernel
theorem d_M_step_0 : decode b_M_step 0 = .ok (.iload_n 1, 1) := by decide +kernel
theorem d_M_step_1 : decode b_M_step 1 = .ok (.invokestatic 58, 3) := by decide +kernel
theorem d_M_step_4 : decode b_M_step 4 = .ok (.ifCond .eq 23, 3) := by decide +kernel
theorem d_M_step_7 : decode b_M_step 7 = .ok (.aload_n 0, 1) := by decide +kernel
theorem d_M_step_8 : decode b_M_step 8 = .ok (.getfield 19, 3) := by decide +kernel
theorem d_M_step_11 : decode b_M_step 11 = .ok (.iload_n 1, 1) := by decide +kernel
theorem d_M_step_12 : decode b_M_step 12 = .ok (.iaload, 1) := by decide +kernel
theorem d_M_step_13 : decode b_M_step 13 = .ok (.ifCond .lt 14, 3) := by decide +kernel
theorem d_M_step_16 : decode b_M_step 16 = .ok (.iload_n 2, 1) := by decide +kernel
theorem d_M_step_17 : decode b_M_step 17 = .ok (.iconst 1, 1) := by decide +kernel
theorem d_M_step_18 : decode b_M_step 18 = .ok (.if_icmp .lt 9, 3) := by decide +kernel
theorem d_M_step_21 : decode b_M_step 21 = .ok (.iload_n 2, 1) := by decide +kernel
theorem d_M_step_22 : decode b_M_step 22 = .ok (.bipush 100, 2) := by decide +kernel
theorem d_M_step_24 : decode b_M_step 24 = .ok (.if_icmp .le 5, 3) := by decide +kernel
theorem d_M_step_27 : decode b_M_step 27 = .ok (.iconst (-1), 1) := by decide +kernel
theorem d_M_step_28 : decode b_M_step 28 = .ok (.ireturn, 1) := by decide +kernel
theorem d_M_step_29 : decode b_M_step 29 = .ok (.iconst 0, 1) := by decide +kernel
theorem d_M_step_30 : decode b_M_step 30 = .ok (.istore_n 3, 1) := by decide +kernel
theorem d_M_step_31 : decode b_M_step 31 = .ok (.iload_n 3, 1) := by decide +kernel
theorem d_M_step_32 : decode b_M_step 32 = .ok (.iload_n 2, 1) := by decide +kernel
theorem d_M_step_33 : decode b_M_step 33 = .ok (.if_icmp .ge 23, 3) := by decide +kernel
theorem d_M_step_36 : decode b_M_step 36 = .ok (.aload_n 0, 1) := by decide +kernel
theorem d_M_step_37 : decode b_M_step 37 = .ok (.getfield 19, 3) := by decide +kernel
theorem d_M_step_40 : decode b_M_step 40 = .ok (.iload_n 1, 1) := by decide +kernel
theorem d_M_step_41 : decode b_M_step 41 = .ok (.iaload, 1) := by decide +kernel
theorem d_M_step_42 : decode b_M_step 42 = .ok (.ifCond .lt 14, 3) := by decide +kernel
theorem d_M_step_45 : decode b_M_step 45 = .ok (.aload_n 0, 1) := by decide +kernel
theorem d_M_step_46 : decode b_M_step 46 = .ok (.iload_n 1, 1) := by decide +kernel
theorem d_M_step_47 : decode b_M_step 47 = .ok (.invokevirtual 106, 3) := by decide +kernel
theorem d_M_step_50 : decode b_M_step 50 = .ok (.iinc 3 1, 3) := by decide +kernel
theorem d_M_step_53 : decode b_M_step 53 = .ok (.goto (-22), 3) := by decide +kernel
theorem d_M_step_56 : decode b_M_step 56 = .ok (.iload_n 3, 1) := by decide +kernel
theorem d_M_step_57 : decode b_M_step 57 = .ok (.ireturn, 1) := by decide +kernel
theorem d_M_interrupt_0 : decode b_M_interrupt 0 = .ok (.iload_n 1, 1) := by decide +kernel
theorem d_M_interrupt_1 : decode b_M_interrupt 1 = .ok (.invokestatic 58, 3) := by decide +kernel
theorem d_M_interrupt_4 : decode b_M_interrupt 4 = .ok (.ifCond .eq 12, 3) := by decide +kernel
theorem d_M_interrupt_7 : decode b_M_interrupt 7 = .ok (.aload_n 0, 1) := by decide +kernel
theorem d_M_interrupt_8 : decode b_M_interrupt 8 = .ok (.getfield 19, 3) := by decide +kernel
theorem d_M_interrupt_11 : decode b_M_interrupt 11 = .ok (.iload_n 1, 1) := by decide +kernel
theorem d_M_interrupt_12 : decode b_M_interrupt 12 = .ok (.iaload, 1) := by decide +kernel
theorem d_M_interrupt_13 : decode b_M_interrupt 13 = .ok (.ifCond .ge 5, 3) := by decide +kernel
theorem d_M_interrupt_16 : decode b_M_interrupt 16 = .ok (.iconst (-1), 1) := by decide +kernel
theorem d_M_interrupt_17 : decode b_M_interrupt 17 = .ok (.ireturn, 1) := by decide +kernel
theorem d_M_interrupt_18 : decode b_M_interrupt 18 = .ok (.aload_n 0, 1) := by decide +kernel
theorem d_M_interrupt_19 : decode b_M_interrupt 19 = .ok (.getfield 19, 3) := by decide +kernel
theorem d_M_interrupt_22 : decode b_M_interrupt 22 = .ok (.iload_n 1, 1) := by decide +kernel
theorem d_M_interrupt_23 : decode b_M_interrupt 23 = .ok (.iaload, 1) := by decide +kernel
theorem d_M_interrupt_24 : decode b_M_interrupt 24 = .ok (.istore_n 2, 1) := by decide +kernel
theorem d_M_interrupt_25 : decode b_M_interrupt 25 = .ok (.aload_n 0, 1) := by decide +kernel
theorem d_M_interrupt_26 : decode b_M_interrupt 26 = .ok (.iload_n 1, 1) := by decide +kernel
theorem d_M_interrupt_27 : decode b_M_interrupt 27 = .ok (.iconst 3, 1) := by decide +kernel
theorem d_M_interrupt_28 : decode b_M_interrupt 28 = .ok (.invokevirtual 91, 3) := by decide +kernel
theorem d_M_interrupt_31 : decode b_M_interrupt 31 = .ok (.iload_n 2, 1) := by decide +kernel
theorem d_M_interrupt_32 : decode b_M_interrupt 32 = .ok (.ireturn, 1) := by decide +kernel
theorem d_M_destroy_0 : decode b_M_destroy 0 = .ok (.aload_n 0, 1) := by decide +kernel
theorem d_M_destroy_1 : decode b_M_destroy 1 = .ok (.iload_n 1, 1) := by decide +kernel
theorem d_M_destroy_2 : decode b_M_destroy 2 = .ok (.invokevirtual 66, 3) := by decide +kernel
theorem d_M_destroy_5 : decode b_M_destroy 5 = .ok (.ifCond .eq 5, 3) := by decide +kernel
theorem d_M_destroy_8 : decode b_M_destroy 8 = .ok (.iconst (-1), 1) := by decide +kernel
theorem d_M_destroy_9 : decode b_M_destroy 9 = .ok (.ireturn, 1) := by decide +kernel
theorem d_M_destroy_10 : decode b_M_destroy 10 = .ok (.aload_n 0, 1) := by decide +kernel
theorem d_M_destroy_11 : decode b_M_destroy 11 = .ok (.iload_n 2, 1) := by decide +kernel
theorem d_M_destroy_12 : decode b_M_destroy 12 = .ok (.invokevirtual 88, 3) := by decide +kernel
theorem d_M_destroy_15 : decode b_M_destroy 15 = .ok (.ifCond .ne 6, 3) := by decide +kernel
theorem d_M_destroy_18 : decode b_M_destroy 18 = .ok (.bipush (-2), 2) := by decide +kernel
theorem d_M_destroy_20 : decode b_M_destroy 20 = .ok (.ireturn, 1) := by decide +kernel
theorem d_M_destroy_21 : decode b_M_destroy 21 = .ok (.aload_n 0, 1) := by decide +kernel
theorem d_M_destroy_22 : decode b_M_destroy 22 = .ok (.getfield 22, 3) := by decide +kernel
theorem d_M_destroy_25 : decode b_M_destroy 25 = .ok (.iload_n 2, 1) := by decide +kernel
theorem d_M_destroy_26 : decode b_M_destroy 26 = .ok (.iaload, 1) := by decide +kernel
theorem d_M_destroy_27 : decode b_M_destroy 27 = .ok (.iconst 2, 1) := by decide +kernel
theorem d_M_destroy_28 : decode b_M_destroy 28 = .ok (.if_icmp .ne 6, 3) := by decide +kernel
theorem d_M_destroy_31 : decode b_M_destroy 31 = .ok (.bipush (-3), 2) := by decide +kernel
theorem d_M_destroy_33 : decode b_M_destroy 33 = .ok (.ireturn, 1) := by decide +kernel
theorem d_M_destroy_34 : decode b_M_destroy 34 = .ok (.iconst 0, 1) := by decide +kernel
theorem d_M_destroy_35 : decode b_M_destroy 35 = .ok (.istore_n 3, 1) := by decide +kernel
theorem d_M_destroy_36 : decode b_M_destroy 36 = .ok (.iload_n 3, 1) := by decide +kernel
theorem d_M_destroy_37 : decode b_M_destroy 37 = .ok (.sipush 256, 3) := by decide +kernel
theorem d_M_destroy_40 : decode b_M_destroy 40 = .ok (.if_icmp .ge 40, 3) := by decide +kernel
theorem d_M_destroy_43 : decode b_M_destroy 43 = .ok (.aload_n 0, 1) := by decide +kernel
theorem d_M_destroy_44 : decode b_M_destroy 44 = .ok (.getfield 7, 3) := by decide +kernel
theorem d_M_destroy_47 : decode b_M_destroy 47 = .ok (.iload_n 3, 1) := by decide +kernel
theorem d_M_destroy_48 : decode b_M_destroy 48 = .ok (.aload_n 0, 1) := by decide +kernel
theorem d_M_destroy_49 : decode b_M_destroy 49 = .ok (.getfield 13, 3) := by decide +kernel
theorem d_M_destroy_52 : decode b_M_destroy 52 = .ok (.iload_n 3, 1) := by decide +kernel
theorem d_M_destroy_53 : decode b_M_destroy 53 = .ok (.bipush 16, 2) := by decide +kernel
theorem d_M_destroy_55 : decode b_M_destroy 55 = .ok (.idiv, 1) := by decide +kernel
theorem d_M_destroy_56 : decode b_M_destroy 56 = .ok (.iaload, 1) := by decide +kernel
theorem d_M_destroy_57 : decode b_M_destroy 57 = .ok (.iconst 2, 1) := by decide +kernel
theorem d_M_destroy_58 : decode b_M_destroy 58 = .ok (.iload_n 2, 1) := by decide +kernel
theorem d_M_destroy_59 : decode b_M_destroy 59 = .ok (.iadd, 1) := by decide +kernel
theorem d_M_destroy_60 : decode b_M_destroy 60 = .ok (.if_icmp .ne 7, 3) := by decide +kernel
theorem d_M_destroy_63 : decode b_M_destroy 63 = .ok (.iconst 0, 1) := by decide +kernel
theorem d_M_destroy_64 : decode b_M_destroy 64 = .ok (.goto 9, 3) := by decide +kernel
theorem d_M_destroy_67 : decode b_M_destroy 67 = .ok (.aload_n 0, 1) := by decide +kernel
theorem d_M_destroy_68 : decode b_M_destroy 68 = .ok (.getfield 7, 3) := by decide +kernel
theorem d_M_destroy_71 : decode b_M_destroy 71 = .ok (.iload_n 3, 1) := by decide +kernel
theorem d_M_destroy_72 : decode b_M_destroy 72 = .ok (.iaload, 1) := by decide +kernel
theorem d_M_destroy_73 : decode b_M_destroy 73 = .ok (.iastore, 1) := by decide +kernel
theorem d_M_destroy_74 : decode b_M_destroy 74 = .ok (.iinc 3 1, 3) := by decide +kernel
theorem d_M_destroy_77 : decode b_M_destroy 77 = .ok (.goto (-41), 3) := by decide +kernel
theorem d_M_destroy_80 : decode b_M_destroy 80 = .ok (.iconst 0, 1) := by decide +kernel
theorem d_M_destroy_81 : decode b_M_destroy 81 = .ok (.istore_n 3, 1) := by decide +kernel
theorem d_M_destroy_82 : decode b_M_destroy 82 = .ok (.iload_n 3, 1) := by decide +kernel
theorem d_M_destroy_83 : decode b_M_destroy 83 = .ok (.bipush 16, 2) := by decide +kernel
theorem d_M_destroy_85 : decode b_M_destroy 85 = .ok (.if_icmp .ge 37, 3) := by decide +kernel
theorem d_M_destroy_88 : decode b_M_destroy 88 = .ok (.aload_n 0, 1) := by decide +kernel
theorem d_M_destroy_89 : decode b_M_destroy 89 = .ok (.getfield 13, 3) := by decide +kernel
theorem d_M_destroy_92 : decode b_M_destroy 92 = .ok (.iload_n 3, 1) := by decide +kernel
theorem d_M_destroy_93 : decode b_M_destroy 93 = .ok (.aload_n 0, 1) := by decide +kernel
theorem d_M_destroy_94 : decode b_M_destroy 94 = .ok (.getfield 13, 3) := by decide +kernel
theorem d_M_destroy_97 : decode b_M_destroy 97 = .ok (.iload_n 3, 1) := by decide +kernel
theorem d_M_destroy_98 : decode b_M_destroy 98 = .ok (.iaload, 1) := by decide +kernel
theorem d_M_destroy_99 : decode b_M_destroy 99 = .ok (.iconst 2, 1) := by decide +kernel
theorem d_M_destroy_100 : decode b_M_destroy 100 = .ok (.iload_n 2, 1) := by decide +kernel
theorem d_M_destroy_101 : decode b_M_destroy 101 = .ok (.iadd, 1) := by decide +kernel
theorem d_M_destroy_102 : decode b_M_destroy 102 = .ok (.if_icmp .ne 7, 3) := by decide +kernel
theorem d_M_destroy_105 : decode b_M_destroy 105 = .ok (.iconst 1, 1) := by decide +kernel
theorem d_M_destroy_106 : decode b_M_destroy 106 = .ok (.goto 9, 3) := by decide +kernel
theorem d_M_destroy_109 : decode b_M_destroy 109 = .ok (.aload_n 0, 1) := by decide +kernel
theorem d_M_destroy_110 : decode b_M_destroy 110 = .ok (.getfield 13, 3) := by decide +kernel
theorem d_M_destroy_113 : decode b_M_destroy 113 = .ok (.iload_n 3, 1) := by decide +kernel
theorem d_M_destroy_114 : decode b_M_destroy 114 = .ok (.iaload, 1) := by decide +kernel
theorem d_M_destroy_115 : decode b_M_destroy 115 = .ok (.iastore, 1) := by decide +kernel
theorem d_M_destroy_116 : decode b_M_destroy 116 = .ok (.iinc 3 1, 3) := by decide +kernel
theorem d_M_destroy_119 : decode b_M_destroy 119 = .ok (.goto (-37), 3) := by decide +kernel
theorem d_M_destroy_122 : decode b_M_destroy 122 = .ok (.aload_n 0, 1) := by decide +kernel
theorem d_M_destroy_123 : decode b_M_destroy 123 = .ok (.getfield 22, 3) := by decide +kernel
theorem d_M_destroy_126 : decode b_M_destroy 126 = .ok (.iload_n 2, 1) := by decide +kernel
theorem d_M_destroy_127 : decode b_M_destroy 127 = .ok (.iconst 0, 1) := by decide +kernel
theorem d_M_destroy_128 : decode b_M_destroy 128 = .ok (.iastore, 1) := by decide +kernel
theorem d_M_destroy_129 : decode b_M_destroy 129 = .ok (.iconst 0, 1) := by decide +kernel
theorem d_M_destroy_130 : decode b_M_destroy 130 = .ok (.ireturn, 1) := by decide +kernel
theorem d_M_state_0 : decode b_M_state 0 = .ok (.iload_n 1, 1) := by decide +kernel
theorem d_M_state_1 : decode b_M_state 1 = .ok (.ifCond .lt 8, 3) := by decide +kernel
theorem d_M_state_4 : decode b_M_state 4 = .ok (.iload_n 1, 1) := by decide +kernel
theorem d_M_state_5 : decode b_M_state 5 = .ok (.iconst 3, 1) := by decide +kernel
theorem d_M_state_6 : decode b_M_state 6 = .ok (.if_icmp .le 7, 3) := by decide +kernel
theorem d_M_state_9 : decode b_M_state 9 = .ok (.iconst (-1), 1) := by decide +kernel
theorem d_M_state_10 : decode b_M_state 10 = .ok (.goto 9, 3) := by decide +kernel
theorem d_M_state_13 : decode b_M_state 13 = .ok (.aload_n 0, 1) := by decide +kernel
theorem d_M_state_14 : decode b_M_state 14 = .ok (.getfield 22, 3) := by decide +kernel
theorem d_M_state_17 : decode b_M_state 17 = .ok (.iload_n 1, 1) := by decide +kernel
theorem d_M_state_18 : decode b_M_state 18 = .ok (.iaload, 1) := by decide +kernel
theorem d_M_state_19 : decode b_M_state 19 = .ok (.ireturn, 1) := by decide +kernel
theorem d_M_released_0 : decode b_M_released 0 = .ok (.aload_n 0, 1) := by decide +kernel
theorem d_M_released_1 : decode b_M_released 1 = .ok (.iload_n 1, 1) := by decide +kernel
theorem d_M_released_2 : decode b_M_released 2 = .ok (.invokevirtual 88, 3) := by decide +kernel
theorem d_M_released_5 : decode b_M_released 5 = .ok (.ifCond .eq 23, 3) := by decide +kernel
theorem d_M_released_8 : decode b_M_released 8 = .ok (.aload_n 0, 1) := by decide +kernel
theorem d_M_released_9 : decode b_M_released 9 = .ok (.getfield 22, 3) := by decide +kernel
theorem d_M_released_12 : decode b_M_released 12 = .ok (.iload_n 1, 1) := by decide +kernel
theorem d_M_released_13 : decode b_M_released 13 = .ok (.iaload, 1) := by decide +kernel
theorem d_M_released_14 : decode b_M_released 14 = .ok (.iconst 4, 1) := by decide +kernel
theorem d_M_released_15 : decode b_M_released 15 = .ok (.if_icmp .lt 13, 3) := by decide +kernel
theorem d_M_released_18 : decode b_M_released 18 = .ok (.aload_n 0, 1) := by decide +kernel
theorem d_M_released_19 : decode b_M_released 19 = .ok (.getfield 40, 3) := by decide +kernel
theorem d_M_released_22 : decode b_M_released 22 = .ok (.iload_n 1, 1) := by decide +kernel
theorem d_M_released_23 : decode b_M_released 23 = .ok (.iaload, 1) := by decide +kernel
theorem d_M_released_24 : decode b_M_released 24 = .ok (.i2l, 1) := by decide +kernel
theorem d_M_released_25 : decode b_M_released 25 = .ok (.goto 6, 3) := by decide +kernel
theorem d_M_released_28 : decode b_M_released 28 = .ok (.ldc2_w 69, 3) := by decide +kernel
theorem d_M_released_31 : decode b_M_released 31 = .ok (.lreturn, 1) := by decide +kernel
theorem d_M_measurement_0 : decode b_M_measurement 0 = .ok (.aload_n 0, 1) := by decide +kernel
theorem d_M_measurement_1 : decode b_M_measurement 1 = .ok (.iload_n 1, 1) := by decide +kernel
theorem d_M_measurement_2 : decode b_M_measurement 2 = .ok (.invokevirtual 88, 3) := by decide +kernel
theorem d_M_measurement_5 : decode b_M_measurement 5 = .ok (.ifCond .eq 13, 3) := by decide +kernel
theorem d_M_measurement_8 : decode b_M_measurement 8 = .ok (.aload_n 0, 1) := by decide +kernel
theorem d_M_measurement_9 : decode b_M_measurement 9 = .ok (.getfield 37, 3) := by decide +kernel
theorem d_M_measurement_12 : decode b_M_measurement 12 = .ok (.iload_n 1, 1) := by decide +kernel
theorem d_M_measurement_13 : decode b_M_measurement 13 = .ok (.iaload, 1) := by decide +kernel
theorem d_M_measurement_14 : decode b_M_measurement 14 = .ok (.i2l, 1) := by decide +kernel
theorem d_M_measurement_15 : decode b_M_measurement 15 = .ok (.goto 6, 3) := by decide +kernel
theorem d_M_measurement_18 : decode b_M_measurement 18 = .ok (.ldc2_w 69, 3) := by decide +kernel
theorem d_M_measurement_21 : decode b_M_measurement 21 = .ok (.lreturn, 1) := by decide +kernel
theorem d_M_verify_0 : decode b_M_verify 0 = .ok (.iload_n 3, 1) := by decide +kernel
theorem d_M_verify_1 : decode b_M_verify 1 = .ok (.aload_n 0, 1) := by decide +kernel
theorem d_M_verify_2 : decode b_M_verify 2 = .ok (.iload_n 1, 1) := by decide +kernel
theorem d_M_verify_3 : decode b_M_verify 3 = .ok (.iload_n 2, 1) := by decide +kernel
theorem d_M_verify_4 : decode b_M_verify 4 = .ok (.invokevirtual 103, 3) := by decide +kernel
theorem d_M_verify_7 : decode b_M_verify 7 = .ok (.if_icmp .ne 7, 3) := by decide +kernel
theorem d_M_verify_10 : decode b_M_verify 10 = .ok (.iconst 1, 1) := by decide +kernel
theorem d_M_verify_11 : decode b_M_verify 11 = .ok (.goto 4, 3) := by decide +kernel
theorem d_M_verify_14 : decode b_M_verify 14 = .ok (.iconst 0, 1) := by decide +kernel
theorem d_M_verify_15 : decode b_M_verify 15 = .ok (.ireturn, 1) := by decide +kernel
theorem d_M_running_0 : decode b_M_running 0 = .ok (.iload_n 1, 1) := by decide +kernel
theorem d_M_running_1 : decode b_M_running 1 = .ok (.invokestatic 58, 3) := by decide +kernel
theorem d_M_running_4 : decode b_M_running 4 = .ok (.ifCond .eq 12, 3) := by decide +kernel
theorem d_M_running_7 : decode b_M_running 7 = .ok (.aload_n 0, 1) := by decide +kernel
theorem d_M_running_8 : decode b_M_running 8 = .ok (.getfield 19, 3) := by decide +kernel
theorem d_M_running_11 : decode b_M_running 11 = .ok (.iload_n 1, 1) := by decide +kernel
theorem d_M_running_12 : decode b_M_running 12 = .ok (.iaload, 1) := by decide +kernel
theorem d_M_running_13 : decode b_M_running 13 = .ok (.goto 5, 3) := by decide +kernel
theorem d_M_running_16 : decode b_M_running 16 = .ok (.bipush (-2), 2) := by decide +kernel
theorem d_M_running_18 : decode b_M_running 18 = .ok (.ireturn, 1) := by decide +kernel
theorem d_M_owner_0 : decode b_M_owner 0 = .ok (.iload_n 1, 1) := by decide +kernel
theorem d_M_owner_1 : decode b_M_owner 1 = .ok (.ifCond .lt 9, 3) := by decide +kernel
theorem d_M_owner_4 : decode b_M_owner 4 = .ok (.iload_n 1, 1) := by decide +kernel
theorem d_M_owner_5 : decode b_M_owner 5 = .ok (.bipush 15, 2) := by decide +kernel
theorem d_M_owner_7 : decode b_M_owner 7 = .ok (.if_icmp .le 7, 3) := by decide +kernel
theorem d_M_owner_10 : decode b_M_owner 10 = .ok (.iconst (-1), 1) := by decide +kernel
theorem d_M_owner_11 : decode b_M_owner 11 = .ok (.goto 9, 3) := by decide +kernel
theorem d_M_owner_14 : decode b_M_owner 14 = .ok (.aload_n 0, 1) := by decide +kernel
theorem d_M_owner_15 : decode b_M_owner 15 = .ok (.getfield 13, 3) := by decide +kernel
theorem d_M_owner_18 : decode b_M_owner 18 = .ok (.iload_n 1, 1) := by decide +kernel
theorem d_M_owner_19 : decode b_M_owner 19 = .ok (.iaload, 1) := by decide +kernel
theorem d_M_owner_20 : decode b_M_owner 20 = .ok (.ireturn, 1) := by decide +kernel
theorem d_M_shown_0 : decode b_M_shown 0 = .ok (.iload_n 0, 1) := by decide +kernel
theorem d_M_shown_1 : decode b_M_shown 1 = .ok (.ifCond .ne 7, 3) := by decide +kernel
theorem d_M_shown_4 : decode b_M_shown 4 = .ok (.iload_n 1, 1) := by decide +kernel
theorem d_M_shown_5 : decode b_M_shown 5 = .ok (.goto 13, 3) := by decide +kernel
theorem d_M_shown_8 : decode b_M_shown 8 = .ok (.iload_n 0, 1) := by decide +kernel
theorem d_M_shown_9 : decode b_M_shown 9 = .ok (.iconst 1, 1) := by decide +kernel
theorem d_M_shown_10 : decode b_M_shown 10 = .ok (.if_icmp .ne 7, 3) := by decide +kernel
theorem d_M_shown_13 : decode b_M_shown 13 = .ok (.iload_n 2, 1) := by decide +kernel
theorem d_M_shown_14 : decode b_M_shown 14 = .ok (.goto 4, 3) := by decide +kernel
theorem d_M_shown_17 : decode b_M_shown 17 = .ok (.iload_n 3, 1) := by decide +kernel
theorem d_M_shown_18 : decode b_M_shown 18 = .ok (.ireturn, 1) := by decide +kernel
theorem d_M_guard_0 : decode b_M_guard 0 = .ok (.iload_n 1, 1) := by decide +kernel
theorem d_M_guard_1 : decode b_M_guard 1 = .ok (.invokestatic 58, 3) := by decide +kernel
theorem d_M_guard_4 : decode b_M_guard 4 = .ok (.ifCond .eq 22, 3) := by decide +kernel
theorem d_M_guard_7 : decode b_M_guard 7 = .ok (.iload_n 2, 1) := by decide +kernel
theorem d_M_guard_8 : decode b_M_guard 8 = .ok (.ifCond .lt 18, 3) := by decide +kernel
theorem d_M_guard_11 : decode b_M_guard 11 = .ok (.iload_n 2, 1) := by decide +kernel
theorem d_M_guard_12 : decode b_M_guard 12 = .ok (.bipush 10, 2) := by decide +kernel
theorem d_M_guard_14 : decode b_M_guard 14 = .ok (.if_icmp .gt 12, 3) := by decide +kernel
theorem d_M_guard_17 : decode b_M_guard 17 = .ok (.iload_n 3, 1) := by decide +kernel
theorem d_M_guard_18 : decode b_M_guard 18 = .ok (.ifCond .lt 8, 3) := by decide +kernel
theorem d_M_guard_21 : decode b_M_guard 21 = .ok (.iload_n 3, 1) := by decide +kernel
theorem d_M_guard_22 : decode b_M_guard 22 = .ok (.iconst 2, 1) := by decide +kernel
theorem d_M_guard_23 : decode b_M_guard 23 = .ok (.if_icmp .le 5, 3) := by decide +kernel
theorem d_M_guard_26 : decode b_M_guard 26 = .ok (.iconst (-1), 1) := by decide +kernel
theorem d_M_guard_27 : decode b_M_guard 27 = .ok (.ireturn, 1) := by decide +kernel
theorem d_M_guard_28 : decode b_M_guard 28 = .ok (.aload_n 0, 1) := by decide +kernel
theorem d_M_guard_29 : decode b_M_guard 29 = .ok (.getfield 19, 3) := by decide +kernel
theorem d_M_guard_32 : decode b_M_guard 32 = .ok (.iload_n 1, 1) := by decide +kernel
theorem d_M_guard_33 : decode b_M_guard 33 = .ok (.iaload, 1) := by decide +kernel
theorem d_M_guard_34 : decode b_M_guard 34 = .ok (.istore 4, 2) := by decide +kernel
theorem d_M_guard_36 : decode b_M_guard 36 = .ok (.iload_n 2, 1) := by decide +kernel
theorem d_M_guard_37 : decode b_M_guard 37 = .ok (.ifCond .ne 12, 3) := by decide +kernel
theorem d_M_guard_40 : decode b_M_guard 40 = .ok (.iload_n 3, 1) := by decide +kernel
theorem d_M_guard_41 : decode b_M_guard 41 = .ok (.iconst 3, 1) := by decide +kernel
theorem d_M_guard_42 : decode b_M_guard 42 = .ok (.iconst 0, 1) := by decide +kernel
theorem d_M_guard_43 : decode b_M_guard 43 = .ok (.bipush 7, 2) := by decide +kernel
theorem d_M_guard_45 : decode b_M_guard 45 = .ok (.invokestatic 110, 3) := by decide +kernel
theorem d_M_guard_48 : decode b_M_guard 48 = .ok (.ireturn, 1) := by decide +kernel
theorem d_M_guard_49 : decode b_M_guard 49 = .ok (.iload_n 2, 1) := by decide +kernel
theorem d_M_guard_50 : decode b_M_guard 50 = .ok (.bipush 10, 2) := by decide +kernel
theorem d_M_guard_52 : decode b_M_guard 52 = .ok (.if_icmp .ne 22, 3) := by decide +kernel
theorem d_M_guard_55 : decode b_M_guard 55 = .ok (.iload_n 3, 1) := by decide +kernel
theorem d_M_guard_56 : decode b_M_guard 56 = .ok (.iconst 3, 1) := by decide +kernel
theorem d_M_guard_57 : decode b_M_guard 57 = .ok (.iload 4, 2) := by decide +kernel
theorem d_M_guard_59 : decode b_M_guard 59 = .ok (.ifCond .ge 8, 3) := by decide +kernel
theorem d_M_guard_62 : decode b_M_guard 62 = .ok (.bipush 7, 2) := by decide +kernel
theorem d_M_guard_64 : decode b_M_guard 64 = .ok (.goto 4, 3) := by decide +kernel
theorem d_M_guard_67 : decode b_M_guard 67 = .ok (.iconst 0, 1) := by decide +kernel
theorem d_M_guard_68 : decode b_M_guard 68 = .ok (.bipush 127, 2) := by decide +kernel
theorem d_M_guard_70 : decode b_M_guard 70 = .ok (.invokestatic 110, 3) := by decide +kernel
theorem d_M_guard_73 : decode b_M_guard 73 = .ok (.ireturn, 1) := by decide +kernel
theorem d_M_guard_74 : decode b_M_guard 74 = .ok (.iload_n 2, 1) := by decide +kernel
theorem d_M_guard_75 : decode b_M_guard 75 = .ok (.bipush 9, 2) := by decide +kernel
theorem d_M_guard_77 : decode b_M_guard 77 = .ok (.if_icmp .ne 68, 3) := by decide +kernel
theorem d_M_guard_80 : decode b_M_guard 80 = .ok (.iload 4, 2) := by decide +kernel
theorem d_M_guard_82 : decode b_M_guard 82 = .ok (.ifCond .ge 7, 3) := by decide +kernel
theorem d_M_guard_85 : decode b_M_guard 85 = .ok (.iconst (-1), 1) := by decide +kernel
theorem d_M_guard_86 : decode b_M_guard 86 = .ok (.goto 10, 3) := by decide +kernel
theorem d_M_guard_89 : decode b_M_guard 89 = .ok (.aload_n 0, 1) := by decide +kernel
theorem d_M_guard_90 : decode b_M_guard 90 = .ok (.getfield 34, 3) := by decide +kernel
theorem d_M_guard_93 : decode b_M_guard 93 = .ok (.iload 4, 2) := by decide +kernel
theorem d_M_guard_95 : decode b_M_guard 95 = .ok (.iaload, 1) := by decide +kernel
theorem d_M_guard_96 : decode b_M_guard 96 = .ok (.istore 5, 2) := by decide +kernel
theorem d_M_guard_98 : decode b_M_guard 98 = .ok (.iload 5, 2) := by decide +kernel
theorem d_M_guard_100 : decode b_M_guard 100 = .ok (.ifCond .ge 7, 3) := by decide +kernel
theorem d_M_guard_103 : decode b_M_guard 103 = .ok (.iconst 0, 1) := by decide +kernel
theorem d_M_guard_104 : decode b_M_guard 104 = .ok (.goto 40, 3) := by decide +kernel
theorem d_M_guard_107 : decode b_M_guard 107 = .ok (.iload 5, 2) := by decide +kernel
theorem d_M_guard_109 : decode b_M_guard 109 = .ok (.sipush 256, 3) := by decide +kernel
theorem d_M_guard_112 : decode b_M_guard 112 = .ok (.if_icmp .ge 14, 3) := by decide +kernel
theorem d_M_guard_115 : decode b_M_guard 115 = .ok (.iload_n 3, 1) := by decide +kernel
theorem d_M_guard_116 : decode b_M_guard 116 = .ok (.iconst 2, 1) := by decide +kernel
theorem d_M_guard_117 : decode b_M_guard 117 = .ok (.iconst 3, 1) := by decide +kernel
theorem d_M_guard_118 : decode b_M_guard 118 = .ok (.iload 5, 2) := by decide +kernel
theorem d_M_guard_120 : decode b_M_guard 120 = .ok (.invokestatic 110, 3) := by decide +kernel
theorem d_M_guard_123 : decode b_M_guard 123 = .ok (.goto 21, 3) := by decide +kernel
theorem d_M_guard_126 : decode b_M_guard 126 = .ok (.iload_n 3, 1) := by decide +kernel
theorem d_M_guard_127 : decode b_M_guard 127 = .ok (.iconst 3, 1) := by decide +kernel
theorem d_M_guard_128 : decode b_M_guard 128 = .ok (.iconst 3, 1) := by decide +kernel
theorem d_M_guard_129 : decode b_M_guard 129 = .ok (.bipush 16, 2) := by decide +kernel
theorem d_M_guard_131 : decode b_M_guard 131 = .ok (.iload 5, 2) := by decide +kernel
theorem d_M_guard_133 : decode b_M_guard 133 = .ok (.sipush 256, 3) := by decide +kernel
theorem d_M_guard_136 : decode b_M_guard 136 = .ok (.isub, 1) := by decide +kernel
theorem d_M_guard_137 : decode b_M_guard 137 = .ok (.imul, 1) := by decide +kernel
theorem d_M_guard_138 : decode b_M_guard 138 = .ok (.bipush 7, 2) := by decide +kernel
theorem d_M_guard_140 : decode b_M_guard 140 = .ok (.iadd, 1) := by decide +kernel
theorem d_M_guard_141 : decode b_M_guard 141 = .ok (.invokestatic 110, 3) := by decide +kernel
theorem d_M_guard_144 : decode b_M_guard 144 = .ok (.ireturn, 1) := by decide +kernel
theorem d_M_guard_145 : decode b_M_guard 145 = .ok (.iload_n 2, 1) := by decide +kernel
theorem d_M_guard_146 : decode b_M_guard 146 = .ok (.iconst 1, 1) := by decide +kernel
theorem d_M_guard_147 : decode b_M_guard 147 = .ok (.isub, 1) := by decide +kernel
theorem d_M_guard_148 : decode b_M_guard 148 = .ok (.iconst 2, 1) := by decide +kernel
theorem d_M_guard_149 : decode b_M_guard 149 = .ok (.idiv, 1) := by decide +kernel
theorem d_M_guard_150 : decode b_M_guard 150 = .ok (.istore 5, 2) := by decide +kernel
theorem d_M_guard_152 : decode b_M_guard 152 = .ok (.aload_n 0, 1) := by decide +kernel
theorem d_M_guard_153 : decode b_M_guard 153 = .ok (.getfield 22, 3) := by decide +kernel
theorem d_M_guard_156 : decode b_M_guard 156 = .ok (.iload 5, 2) := by decide +kernel
theorem d_M_guard_158 : decode b_M_guard 158 = .ok (.iaload, 1) := by decide +kernel
theorem d_M_guard_159 : decode b_M_guard 159 = .ok (.ifCond .ne 5, 3) := by decide +kernel
theorem d_M_guard_162 : decode b_M_guard 162 = .ok (.iconst 0, 1) := by decide +kernel
theorem d_M_guard_163 : decode b_M_guard 163 = .ok (.ireturn, 1) := by decide +kernel
theorem d_M_guard_164 : decode b_M_guard 164 = .ok (.aload_n 0, 1) := by decide +kernel
theorem d_M_guard_165 : decode b_M_guard 165 = .ok (.getfield 28, 3) := by decide +kernel
theorem d_M_guard_168 : decode b_M_guard 168 = .ok (.iload 5, 2) := by decide +kernel
theorem d_M_guard_170 : decode b_M_guard 170 = .ok (.iaload, 1) := by decide +kernel
theorem d_M_guard_171 : decode b_M_guard 171 = .ok (.istore 6, 2) := by decide +kernel
theorem d_M_guard_173 : decode b_M_guard 173 = .ok (.bipush 16, 2) := by decide +kernel
theorem d_M_guard_175 : decode b_M_guard 175 = .ok (.aload_n 0, 1) := by decide +kernel
theorem d_M_guard_176 : decode b_M_guard 176 = .ok (.getfield 25, 3) := by decide +kernel
theorem d_M_guard_179 : decode b_M_guard 179 = .ok (.iload 5, 2) := by decide +kernel
theorem d_M_guard_181 : decode b_M_guard 181 = .ok (.iaload, 1) := by decide +kernel
theorem d_M_guard_182 : decode b_M_guard 182 = .ok (.imul, 1) := by decide +kernel
theorem d_M_guard_183 : decode b_M_guard 183 = .ok (.istore 7, 2) := by decide +kernel
theorem d_M_guard_185 : decode b_M_guard 185 = .ok (.iload 6, 2) := by decide +kernel
theorem d_M_guard_187 : decode b_M_guard 187 = .ok (.iconst 1, 1) := by decide +kernel
theorem d_M_guard_188 : decode b_M_guard 188 = .ok (.if_icmp .eq 22, 3) := by decide +kernel
theorem d_M_guard_191 : decode b_M_guard 191 = .ok (.iload 6, 2) := by decide +kernel
theorem d_M_guard_193 : decode b_M_guard 193 = .ok (.iconst 2, 1) := by decide +kernel
theorem d_M_guard_194 : decode b_M_guard 194 = .ok (.if_icmp .eq 16, 3) := by decide +kernel
theorem d_M_guard_197 : decode b_M_guard 197 = .ok (.iload 6, 2) := by decide +kernel
theorem d_M_guard_199 : decode b_M_guard 199 = .ok (.iconst 4, 1) := by decide +kernel
theorem d_M_guard_200 : decode b_M_guard 200 = .ok (.if_icmp .eq 10, 3) := by decide +kernel
theorem d_M_guard_203 : decode b_M_guard 203 = .ok (.iload 6, 2) := by decide +kernel
theorem d_M_guard_205 : decode b_M_guard 205 = .ok (.bipush 8, 2) := by decide +kernel
theorem d_M_guard_207 : decode b_M_guard 207 = .ok (.if_icmp .ne 20, 3) := by decide +kernel
theorem d_M_guard_210 : decode b_M_guard 210 = .ok (.aload_n 0, 1) := by decide +kernel
theorem d_M_guard_211 : decode b_M_guard 211 = .ok (.getfield 25, 3) := by decide +kernel
theorem d_M_guard_214 : decode b_M_guard 214 = .ok (.iload 5, 2) := by decide +kernel
theorem d_M_guard_216 : decode b_M_guard 216 = .ok (.iaload, 1) := by decide +kernel
theorem d_M_guard_217 : decode b_M_guard 217 = .ok (.iload 6, 2) := by decide +kernel
theorem d_M_guard_219 : decode b_M_guard 219 = .ok (.irem, 1) := by decide +kernel
theorem d_M_guard_220 : decode b_M_guard 220 = .ok (.ifCond .ne 7, 3) := by decide +kernel
theorem d_M_guard_223 : decode b_M_guard 223 = .ok (.iconst 1, 1) := by decide +kernel
theorem d_M_guard_224 : decode b_M_guard 224 = .ok (.goto 4, 3) := by decide +kernel
theorem d_M_guard_227 : decode b_M_guard 227 = .ok (.iconst 0, 1) := by decide +kernel
theorem d_M_guard_228 : decode b_M_guard 228 = .ok (.istore 8, 2) := by decide +kernel
theorem d_M_guard_230 : decode b_M_guard 230 = .ok (.iload_n 2, 1) := by decide +kernel
theorem d_M_guard_231 : decode b_M_guard 231 = .ok (.iconst 2, 1) := by decide +kernel
theorem d_M_guard_232 : decode b_M_guard 232 = .ok (.irem, 1) := by decide +kernel
theorem d_M_guard_233 : decode b_M_guard 233 = .ok (.iconst 1, 1) := by decide +kernel
theorem d_M_guard_234 : decode b_M_guard 234 = .ok (.if_icmp .ne 21, 3) := by decide +kernel
theorem d_M_guard_237 : decode b_M_guard 237 = .ok (.iload_n 3, 1) := by decide +kernel
theorem d_M_guard_238 : decode b_M_guard 238 = .ok (.iconst 0, 1) := by decide +kernel
theorem d_M_guard_239 : decode b_M_guard 239 = .ok (.iconst 0, 1) := by decide +kernel
theorem d_M_guard_240 : decode b_M_guard 240 = .ok (.iload 8, 2) := by decide +kernel
theorem d_M_guard_242 : decode b_M_guard 242 = .ok (.ifCond .eq 7, 3) := by decide +kernel
theorem d_M_guard_245 : decode b_M_guard 245 = .ok (.iconst 0, 1) := by decide +kernel
theorem d_M_guard_246 : decode b_M_guard 246 = .ok (.goto 5, 3) := by decide +kernel
theorem d_M_guard_249 : decode b_M_guard 249 = .ok (.iload 7, 2) := by decide +kernel
theorem d_M_guard_251 : decode b_M_guard 251 = .ok (.invokestatic 110, 3) := by decide +kernel
theorem d_M_guard_254 : decode b_M_guard 254 = .ok (.ireturn, 1) := by decide +kernel
theorem d_M_guard_255 : decode b_M_guard 255 = .ok (.iload 5, 2) := by decide +kernel
theorem d_M_guard_257 : decode b_M_guard 257 = .ok (.iload 4, 2) := by decide +kernel
theorem d_M_guard_259 : decode b_M_guard 259 = .ok (.if_icmp .ne 8, 3) := by decide +kernel
theorem d_M_guard_262 : decode b_M_guard 262 = .ok (.bipush 7, 2) := by decide +kernel
theorem d_M_guard_264 : decode b_M_guard 264 = .ok (.goto 4, 3) := by decide +kernel
theorem d_M_guard_267 : decode b_M_guard 267 = .ok (.iconst 0, 1) := by decide +kernel
theorem d_M_guard_268 : decode b_M_guard 268 = .ok (.istore 9, 2) := by decide +kernel
theorem d_M_guard_270 : decode b_M_guard 270 = .ok (.iload 8, 2) := by decide +kernel
theorem d_M_guard_272 : decode b_M_guard 272 = .ok (.ifCond .eq 23, 3) := by decide +kernel
theorem d_M_guard_275 : decode b_M_guard 275 = .ok (.iload_n 3, 1) := by decide +kernel
theorem d_M_guard_276 : decode b_M_guard 276 = .ok (.iconst 3, 1) := by decide +kernel
theorem d_M_guard_277 : decode b_M_guard 277 = .ok (.iload 9, 2) := by decide +kernel
theorem d_M_guard_279 : decode b_M_guard 279 = .ok (.iload 7, 2) := by decide +kernel
theorem d_M_guard_281 : decode b_M_guard 281 = .ok (.bipush 8, 2) := by decide +kernel
theorem d_M_guard_283 : decode b_M_guard 283 = .ok (.iload 6, 2) := by decide +kernel
theorem d_M_guard_285 : decode b_M_guard 285 = .ok (.imul, 1) := by decide +kernel
theorem d_M_guard_286 : decode b_M_guard 286 = .ok (.iadd, 1) := by decide +kernel
theorem d_M_guard_287 : decode b_M_guard 287 = .ok (.iconst 1, 1) := by decide +kernel
theorem d_M_guard_288 : decode b_M_guard 288 = .ok (.isub, 1) := by decide +kernel
theorem d_M_guard_289 : decode b_M_guard 289 = .ok (.invokestatic 110, 3) := by decide +kernel
theorem d_M_guard_292 : decode b_M_guard 292 = .ok (.goto 18, 3) := by decide +kernel
theorem d_M_guard_295 : decode b_M_guard 295 = .ok (.iload_n 3, 1) := by decide +kernel
theorem d_M_guard_296 : decode b_M_guard 296 = .ok (.iconst 1, 1) := by decide +kernel
theorem d_M_guard_297 : decode b_M_guard 297 = .ok (.iload 9, 2) := by decide +kernel
theorem d_M_guard_299 : decode b_M_guard 299 = .ok (.iload 7, 2) := by decide +kernel
theorem d_M_guard_301 : decode b_M_guard 301 = .ok (.bipush 16, 2) := by decide +kernel
theorem d_M_guard_303 : decode b_M_guard 303 = .ok (.iload 6, 2) := by decide +kernel
theorem d_M_guard_305 : decode b_M_guard 305 = .ok (.imul, 1) := by decide +kernel
theorem d_M_guard_306 : decode b_M_guard 306 = .ok (.iadd, 1) := by decide +kernel
theorem d_M_guard_307 : decode b_M_guard 307 = .ok (.invokestatic 110, 3) := by decide +kernel
theorem d_M_guard_310 : decode b_M_guard 310 = .ok (.ireturn, 1) := by decide +kernel
end
section
def flM : List (Option Nat) := [none, some 1, some 2, some 3, some 4, none, some 5, some 6, some 7, some 8, some 9, some 10, some 11, some 12, some 13]
def lyM (i : Nat) : ly_C := if i = 0 then .inl (4, flM) else if i = 1 then .inr (.inl 256) else if i < 4 then .inr (.inl 16) else if i = 4 then .inr (.inl 2) else if i < 13 then .inr (.inl 4) else .inr (.inl 32)
theorem lo_mod : LyO lyM 14 0 4 flM := ⟨by decide, rfl⟩
theorem lm_words : LyI lyM 14 1 256 := ⟨by decide, rfl, by decide⟩
theorem lm_owners : LyI lyM 14 2 16 := ⟨by decide, rfl, by decide⟩
theorem lm_kept : LyI lyM 14 3 16 := ⟨by decide, rfl, by decide⟩
theorem lm_runs : LyI lyM 14 4 2 := ⟨by decide, rfl, by decide⟩
theorem lm_states : LyI lyM 14 5 4 := ⟨by decide, rfl, by decide⟩
theorem lm_firsts : LyI lyM 14 6 4 := ⟨by decide, rfl, by decide⟩
theorem lm_sizes : LyI lyM 14 7 4 := ⟨by decide, rfl, by decide⟩
theorem lm_entries : LyI lyM 14 8 4 := ⟨by decide, rfl, by decide⟩
theorem lm_shares : LyI lyM 14 9 4 := ⟨by decide, rfl, by decide⟩
theorem lm_measures : LyI lyM 14 10 4 := ⟨by decide, rfl, by decide⟩
theorem lm_outs : LyI lyM 14 11 4 := ⟨by decide, rfl, by decide⟩
theorem lm_counters : LyI lyM 14 12 4 := ⟨by decide, rfl, by decide⟩
theorem lm_r : LyI lyM 14 13 32 := ⟨by decide, rfl, by decide⟩
abbrev CtM (l : Launch) (D : va_G) (ad : Nat → Nat) (ca : Nat → ClassId) (x : va_W) (y : MethodName) (cc : ByteArray) (nL : Nat) (ret : Option FieldType) (d : Nat) (as : List Value) (S S' : St) (v : Option Value) : Prop := Ct l clX (tyX ca) TT D y cc nL ret (rmd d) as (ly_w lyM 14 ad ca S x) (ly_w lyM 14 ad ca S' x) v
theorem inr2_f {z : Int32} (h0 : ¬ z = 0) (h1 : ¬ z = 1) : inr z 2 = false := by
  cases h : inr z 2 with
  | false => rfl
  | true =>
    obtain ⟨j, hj, rfl⟩ := inr_ex (k := 2) (by decide) rfl h
    have : j = 0 ∨ j = 1 := by omega
    rcases this with rfl | rfl
    · exact absurd rfl h0
    · exact absurd rfl h1
theorem inr_le {z : Int32} {n : Nat} {m p : Int32} (hn : n + 1 < 2 ^ 31) (hm : nI n = m) (hp : nI (n + 1) = p) (h1 : ¬ z < 0) (h2 : z ≤ m) : inr z p = true := by
  subst hm; subst hp
  obtain ⟨j, hj, rfl⟩ := nI_of h1
  exact inr_nI (by have := (nI_leI hj (by omega)).mp h2; omega) hn
theorem inr_nle {z : Int32} {n : Nat} {m p : Int32} (hn : n + 1 < 2 ^ 31) (hm : nI n = m) (hp : nI (n + 1) = p) (h2 : ¬ z ≤ m) : inr z p = false := by
  subst hm; subst hp
  cases h : inr z (nI (n + 1)) with
  | false => rfl
  | true =>
    obtain ⟨j, hj, rfl⟩ := inr_ex hn rfl h
    exact absurd (nI_le (by omega) (by omega)) h2
theorem inr_nlt {z : Int32} {n : Nat} {m p : Int32} (hn : n + 1 < 2 ^ 31) (hm : nI n = m) (hp : nI (n + 1) = p) (h1 : ¬ z < 0) (h2 : ¬ m < z) : inr z p = true := inr_le hn hm hp h1 (Int32.not_lt.mp h2)
theorem d16_in {z : Int32} (h1 : ¬ z < 0) (h2 : ¬ 255 < z) : inr (z / 16) 16 = true := by
  obtain ⟨j, hj, rfl⟩ := inr_ex (k := 256) (by decide) rfl (inr_nlt (n := 255) (p := 256) (by decide) rfl rfl h1 h2)
  rw [show (16 : Int32) = nI 16 from rfl, pk_div (by omega) (by decide) (by decide)]
  exact inr_nI (by omega) (by decide)
def bsM (S : St) (z : Int32) : Bool := !inr z 2 || !decide (S 4 z.toNatClampNeg < 0)
theorem bsM_in {S : St} {q : Int32} (h : bsM S q = false) : inr q 2 = true := by
  simp only [bsM, Bool.or_eq_false_iff] at h
  simpa using h.1
theorem bsM_no {S : St} {q : Int32} (h : bsM S q = false) : S 4 q.toNatClampNeg < 0 := by
  simp only [bsM, Bool.or_eq_false_iff] at h
  simpa using h.2
def RuOK (S : St) (q : Nat) : Prop := S 4 q < 0 ∨ inr (S 4 q) 4 = true
def shM (S : St) (q z : Int32) : Bool := !decide (S 9 q.toNatClampNeg < 0) && (if 256 ≤ S 9 q.toNatClampNeg then decide (z / 16 = S 9 q.toNatClampNeg - 256) else decide (z = S 9 q.toNatClampNeg))
def alM (S : St) (q z b : Int32) : Bool :=
  if z < 0 then false else if 255 < z then false else if S 2 (z / 16).toNatClampNeg = 0 then false
  else if S 2 (z / 16).toNatClampNeg ≤ 1 then (if S 4 q.toNatClampNeg < 0 then true else if shM S (S 4 q.toNatClampNeg) z = true then !decide (b = 4) else false) else decide (S 2 (z / 16).toNatClampNeg = 2 + S 4 q.toNatClampNeg)
theorem alM_in {S : St} {q z b : Int32} (h : alM S q z b = true) : inr z 256 = true := by
  unfold alM at h
  by_cases h1 : z < 0
  · rw [if_pos h1] at h; cases h
  · rw [if_neg h1] at h
    by_cases h2 : 255 < z
    · rw [if_pos h2] at h; cases h
    · exact inr_nlt (n := 255) (by decide) rfl rfl h1 h2
def thM (S : St) (q : Int32) : Bool := inr q 4 && !decide (S 5 q.toNatClampNeg = 0)
theorem thM_in {S : St} {q : Int32} (h : thM S q = true) : inr q 4 = true := by
  simp only [thM, Bool.and_eq_true] at h
  exact h.1
def wrM (F N en sh : Int32) : Bool :=
  if N < 1 then true else if 8 < N then true else if F < 0 then true else if 15 < F then true else if F + N ≤ 16 then (if en < 16 * F then true else if 16 * (F + N) ≤ en then true else if sh < -1 then true else !decide (sh ≤ 271)) else true
theorem k8_in {z k : Int32} (hz : inr z 2 = true) (hk : inr k 8 = true) : 8 * z + k = nI (8 * z.toNatClampNeg + k.toNatClampNeg) ∧ 8 * z.toNatClampNeg + k.toNatClampNeg < 16 := by
  obtain ⟨a, ha, rfl⟩ := inr_ex (k := 2) (by decide) rfl hz
  obtain ⟨b, hb, rfl⟩ := inr_ex (k := 8) (by decide) rfl hk
  rw [nI_clamp (by omega), nI_clamp (by omega), show (8 : Int32) = nI 8 from rfl, pk_mul, nI_add]
  exact ⟨rfl, by omega⟩
theorem k32_in {z k : Int32} (hz : inr z 4 = true) (hk : inr k 8 = true) : 8 * z + k = nI (8 * z.toNatClampNeg + k.toNatClampNeg) ∧ 8 * z.toNatClampNeg + k.toNatClampNeg < 32 := by
  obtain ⟨a, ha, rfl⟩ := inr_ex (k := 4) (by decide) rfl hz
  obtain ⟨b, hb, rfl⟩ := inr_ex (k := 8) (by decide) rfl hk
  rw [nI_clamp (by omega), nI_clamp (by omega), show (8 : Int32) = nI 8 from rfl, pk_mul, nI_add]
  exact ⟨rfl, by omega⟩
def NONE64 : Int64 := 1099511627776
def wLoad (S : St) (z a : Int32) : Int64 := if bsM S z = true then 1099511627776 else if alM S z a 1 = true then (S 1 a.toNatClampNeg).toInt64 else 1099511627777
def tLoad (S : St) (z a : Int32) : St := if bsM S z = true then S else if alM S z a 1 = true then S else up2 S 0 5 (S 0 5 + 1)
def wStore (S : St) (z a : Int32) : Int32 := if bsM S z = true then -1 else if alM S z a 2 = true then 0 else 1
def tStore (S : St) (z a v : Int32) : St := if bsM S z = true then S else if alM S z a 2 = true then up2 S 1 a.toNatClampNeg v else up2 S 0 5 (S 0 5 + 1)
def wGive (S : St) (z k : Int32) : Bool := !bsM S z && inr k 8
def tGive (S : St) (z k v : Int32) : St := if bsM S z = true then S else if inr k 8 = true then up2 S 3 (8 * z.toNatClampNeg + k.toNatClampNeg) v else S
def wReg (S : St) (z k : Int32) : Int64 := if bsM S z = true then 1099511627776 else if inr k 8 = true then (S 3 (8 * z.toNatClampNeg + k.toNatClampNeg)).toInt64 else 1099511627776
set_option maxHeartbeats 4000000 in
set_option maxRecDepth 100000 in
theorem c_M_mix {l : Launch} {D : va_G} {ad : Nat → Nat} {ca : Nat → ClassId} {x : va_W} {S : St} {a b : Int32}  : CtM l D ad ca x y_M_mix b_M_mix 3 (some .int) 0 [.int a, .int b] S S (some (.int (mixI a b))) := by
  refine ev_ent [some (.int a), some (.int b), none] rfl (by decide) (Nat.le_of_ble_eq_true rfl) rfl gTT (fun p e s m args below meth c A X hr hk => ?_)
  refine ev_bipush (v := 31) X d_M_mix_0 (by decide) ?_
  refine ev_iload_n X d_M_mix_2 rfl ?_
  refine ev_imul X d_M_mix_3 ?_
  refine ev_iload_n X d_M_mix_4 rfl ?_
  refine ev_ixor X d_M_mix_5 ?_
  refine ev_ldc X k_M_53 d_M_mix_6 ?_
  refine ev_imul X d_M_mix_8 ?_
  refine ev_istore_n X d_M_mix_9 (by decide) ?_
  refine ev_iload_n X d_M_mix_10 rfl ?_
  refine ev_iload_n X d_M_mix_11 rfl ?_
  refine ev_bipush (v := 15) X d_M_mix_12 (by decide) ?_
  refine ev_iushr X d_M_mix_14 rfl ?_
  refine ev_ixor X d_M_mix_15 ?_
  exact ev_iretL X hr hk d_M_mix_16 (by rw [mixI_eq]; rfl) (rfl)
set_option maxHeartbeats 4000000 in
set_option maxRecDepth 100000 in
theorem c_M_processor {l : Launch} {D : va_G} {ad : Nat → Nat} {ca : Nat → ClassId} {x : va_W} {S : St} {z : Int32}  : CtM l D ad ca x y_M_processor b_M_processor 1 (some .boolean) 0 [.int z] S S (some (.int (b2i (inr z 2)))) := by
  refine ev_ent [some (.int z)] rfl (by decide) (Nat.le_of_ble_eq_true rfl) rfl gTT (fun p e s m args below meth c A X hr hk => ?_)
  refine ev_iload_n X d_M_processor_0 rfl ?_
  refine ev_if_eq (tgt := 9) X d_M_processor_1 (by decide) (fun h1 => ?_) (fun h1 => ?_)
  · refine ev_iconst (v := 1) X d_M_processor_9 (by decide) ?_
    refine ev_goto (tgt := 14) X d_M_processor_10 (by decide) ?_
    exact ev_zretL X hr hk d_M_processor_14 (by first | (rw [h1]; decide) | (rw [h6]; decide) | (rw [inr2_f h1 h6]; rfl)) (rfl)
  · refine ev_iload_n X d_M_processor_4 rfl ?_
    refine ev_iconst (v := 1) X d_M_processor_5 (by decide) ?_
    refine ev_icmp_ne (tgt := 13) X d_M_processor_6 (by decide) (fun h6 => ?_) (fun h6 => ?_)
    · refine ev_iconst (v := 0) X d_M_processor_13 (by decide) ?_
      exact ev_zretL X hr hk d_M_processor_14 (by first | (rw [h1]; decide) | (rw [h6]; decide) | (rw [inr2_f h1 h6]; rfl)) (rfl)
    · refine ev_iconst (v := 1) X d_M_processor_9 (by decide) ?_
      refine ev_goto (tgt := 14) X d_M_processor_10 (by decide) ?_
      exact ev_zretL X hr hk d_M_processor_14 (by first | (rw [h1]; decide) | (rw [h6]; decide) | (rw [inr2_f h1 h6]; rfl)) (rfl)
set_option maxHeartbeats 4000000 in
set_option maxRecDepth 100000 in
theorem c_M_isShared {l : Launch} {D : va_G} {ad : Nat → Nat} {ca : Nat → ClassId} {x : va_W} {S : St} {q z : Int32} (hq : inr q 4 = true) : CtM l D ad ca x y_M_isShared b_M_isShared 4 (some .boolean) 0 [.ref (ad 0), .int q, .int z] S S (some (.int (b2i (shM S q z)))) := by
  refine ev_ent [some (.ref (ad 0)), some (.int q), some (.int z), none] rfl (by decide) (Nat.le_of_ble_eq_true rfl) rfl gTT (fun p e s m args below meth c A X hr hk => ?_)
  refine ev_aload_n X d_M_isShared_0 rfl ?_
  refine ev_getR X f_M_34 lo_mod rfl d_M_isShared_1 ?_
  refine ev_iload_n X d_M_isShared_4 rfl ?_
  refine ev_iald X lm_shares rfl (inr_z hq) (inr_j (k := 4) rfl (by decide) hq) d_M_isShared_5 ?_
  refine ev_istore_n X d_M_isShared_6 (by decide) ?_
  refine ev_iload_n X d_M_isShared_7 rfl ?_
  refine ev_if_lt (tgt := 42) X d_M_isShared_8 (by decide) (fun h8 => ?_) (fun h8 => ?_)
  · refine ev_iconst (v := 0) X d_M_isShared_42 (by decide) ?_
    exact ev_zretL X hr hk d_M_isShared_43 (by simp [shM, b2i, h8]) (rfl)
  · refine ev_iload_n X d_M_isShared_11 rfl ?_
    refine ev_sipush (v := 256) X d_M_isShared_12 (by decide) ?_
    refine ev_icmp_ge (tgt := 26) X d_M_isShared_15 (by decide) (fun h15 => ?_) (fun h15 => ?_)
    · refine ev_iload_n X d_M_isShared_26 rfl ?_
      refine ev_bipush (v := 16) X d_M_isShared_27 (by decide) ?_
      refine ev_idiv X d_M_isShared_29 (by decide) ?_
      refine ev_iload_n X d_M_isShared_30 rfl ?_
      refine ev_sipush (v := 256) X d_M_isShared_31 (by decide) ?_
      refine ev_isub X d_M_isShared_34 ?_
      refine ev_icmp_ne (tgt := 42) X d_M_isShared_35 (by decide) (fun h35 => ?_) (fun h35 => ?_)
      · refine ev_iconst (v := 0) X d_M_isShared_42 (by decide) ?_
        exact ev_zretL X hr hk d_M_isShared_43 (by simp [shM, b2i, h8, h15, h35]) (rfl)
      · refine ev_iconst (v := 1) X d_M_isShared_38 (by decide) ?_
        refine ev_goto (tgt := 43) X d_M_isShared_39 (by decide) ?_
        exact ev_zretL X hr hk d_M_isShared_43 (by simp [shM, b2i, h8, h15, h35]) (rfl)
    · refine ev_iload_n X d_M_isShared_18 rfl ?_
      refine ev_iload_n X d_M_isShared_19 rfl ?_
      refine ev_icmp_ne (tgt := 42) X d_M_isShared_20 (by decide) (fun h20 => ?_) (fun h20 => ?_)
      · refine ev_iconst (v := 0) X d_M_isShared_42 (by decide) ?_
        exact ev_zretL X hr hk d_M_isShared_43 (by simp [shM, b2i, h8, h15, h20]) (rfl)
      · refine ev_goto (tgt := 38) X d_M_isShared_23 (by decide) ?_
        refine ev_iconst (v := 1) X d_M_isShared_38 (by decide) ?_
        refine ev_goto (tgt := 43) X d_M_isShared_39 (by decide) ?_
        exact ev_zretL X hr hk d_M_isShared_43 (by simp [shM, b2i, h8, h15, h20]) (rfl)
set_option maxHeartbeats 4000000 in
set_option maxRecDepth 100000 in
theorem c_M_there {l : Launch} {D : va_G} {ad : Nat → Nat} {ca : Nat → ClassId} {x : va_W} {S : St} {q : Int32}  : CtM l D ad ca x y_M_there b_M_there 2 (some .boolean) 0 [.ref (ad 0), .int q] S S (some (.int (b2i (thM S q)))) := by
  refine ev_ent [some (.ref (ad 0)), some (.int q)] rfl (by decide) (Nat.le_of_ble_eq_true rfl) rfl gTT (fun p e s m args below meth c A X hr hk => ?_)
  refine ev_iload_n X d_M_there_0 rfl ?_
  refine ev_if_lt (tgt := 22) X d_M_there_1 (by decide) (fun h1 => ?_) (fun h1 => ?_)
  · refine ev_iconst (v := 0) X d_M_there_22 (by decide) ?_
    exact ev_zretL X hr hk d_M_there_23 (by simp [thM, inr, b2i, h1]) (rfl)
  · refine ev_iload_n X d_M_there_4 rfl ?_
    refine ev_iconst (v := 4) X d_M_there_5 (by decide) ?_
    refine ev_icmp_ge (tgt := 22) X d_M_there_6 (by decide) (fun h6 => ?_) (fun h6 => ?_)
    · refine ev_iconst (v := 0) X d_M_there_22 (by decide) ?_
      exact ev_zretL X hr hk d_M_there_23 (by simp [thM, inr, b2i, h1, h6]) (rfl)
    · refine ev_aload_n X d_M_there_9 rfl ?_
      refine ev_getR X f_M_22 lo_mod rfl d_M_there_10 ?_
      refine ev_iload_n X d_M_there_13 rfl ?_
      refine ev_iald X lm_states rfl (inr_z (show inr q 4 = true by simp [inr, h1, h6])) (inr_j (k := 4) rfl (by decide) (show inr q 4 = true by simp [inr, h1, h6])) d_M_there_14 ?_
      refine ev_if_eq (tgt := 22) X d_M_there_15 (by decide) (fun h15 => ?_) (fun h15 => ?_)
      · refine ev_iconst (v := 0) X d_M_there_22 (by decide) ?_
        exact ev_zretL X hr hk d_M_there_23 (by simp [thM, inr, b2i, h1, h6, h15]) (rfl)
      · refine ev_iconst (v := 1) X d_M_there_18 (by decide) ?_
        refine ev_goto (tgt := 23) X d_M_there_19 (by decide) ?_
        exact ev_zretL X hr hk d_M_there_23 (by simp [thM, inr, b2i, h1, h6, h15]) (rfl)
set_option maxHeartbeats 4000000 in
set_option maxRecDepth 100000 in
theorem c_M_wrongRange {l : Launch} {D : va_G} {ad : Nat → Nat} {ca : Nat → ClassId} {x : va_W} {S : St} {F N en sh : Int32}  : CtM l D ad ca x y_M_wrongRange b_M_wrongRange 5 (some .boolean) 0 [.ref (ad 0), .int F, .int N, .int en, .int sh] S S (some (.int (b2i (wrM F N en sh)))) := by
  refine ev_ent [some (.ref (ad 0)), some (.int F), some (.int N), some (.int en), some (.int sh)] rfl (by decide) (Nat.le_of_ble_eq_true rfl) rfl gTT (fun p e s m args below meth c A X hr hk => ?_)
  refine ev_iload_n X d_M_wrongRange_0 rfl ?_
  refine ev_iconst (v := 1) X d_M_wrongRange_1 (by decide) ?_
  refine ev_icmp_lt (tgt := 29) X d_M_wrongRange_2 (by decide) (fun h2 => ?_) (fun h2 => ?_)
  · refine ev_iconst (v := 1) X d_M_wrongRange_29 (by decide) ?_
    exact ev_zretL X hr hk d_M_wrongRange_30 (by simp [wrM, b2i, h2]) (rfl)
  · refine ev_iload_n X d_M_wrongRange_5 rfl ?_
    refine ev_bipush (v := 8) X d_M_wrongRange_6 (by decide) ?_
    refine ev_icmp_gt (tgt := 29) X d_M_wrongRange_8 (by decide) (fun h8 => ?_) (fun h8 => ?_)
    · refine ev_iconst (v := 1) X d_M_wrongRange_29 (by decide) ?_
      exact ev_zretL X hr hk d_M_wrongRange_30 (by simp [wrM, b2i, h2, h8]) (rfl)
    · refine ev_iload_n X d_M_wrongRange_11 rfl ?_
      refine ev_if_lt (tgt := 29) X d_M_wrongRange_12 (by decide) (fun h12 => ?_) (fun h12 => ?_)
      · refine ev_iconst (v := 1) X d_M_wrongRange_29 (by decide) ?_
        exact ev_zretL X hr hk d_M_wrongRange_30 (by simp [wrM, b2i, h2, h8, h12]) (rfl)
      · refine ev_iload_n X d_M_wrongRange_15 rfl ?_
        refine ev_bipush (v := 15) X d_M_wrongRange_16 (by decide) ?_
        refine ev_icmp_gt (tgt := 29) X d_M_wrongRange_18 (by decide) (fun h18 => ?_) (fun h18 => ?_)
        · refine ev_iconst (v := 1) X d_M_wrongRange_29 (by decide) ?_
          exact ev_zretL X hr hk d_M_wrongRange_30 (by simp [wrM, b2i, h2, h8, h12, h18]) (rfl)
        · refine ev_iload_n X d_M_wrongRange_21 rfl ?_
          refine ev_iload_n X d_M_wrongRange_22 rfl ?_
          refine ev_iadd X d_M_wrongRange_23 ?_
          refine ev_bipush (v := 16) X d_M_wrongRange_24 (by decide) ?_
          refine ev_icmp_le (tgt := 31) X d_M_wrongRange_26 (by decide) (fun h26 => ?_) (fun h26 => ?_)
          · refine ev_iload_n X d_M_wrongRange_31 rfl ?_
            refine ev_bipush (v := 16) X d_M_wrongRange_32 (by decide) ?_
            refine ev_iload_n X d_M_wrongRange_34 rfl ?_
            refine ev_imul X d_M_wrongRange_35 ?_
            refine ev_icmp_lt (tgt := 63) X d_M_wrongRange_36 (by decide) (fun h36 => ?_) (fun h36 => ?_)
            · refine ev_iconst (v := 1) X d_M_wrongRange_63 (by decide) ?_
              refine ev_goto (tgt := 68) X d_M_wrongRange_64 (by decide) ?_
              exact ev_zretL X hr hk d_M_wrongRange_68 (by simp [wrM, b2i, h2, h8, h12, h18, h26, h36]) (rfl)
            · refine ev_iload_n X d_M_wrongRange_39 rfl ?_
              refine ev_bipush (v := 16) X d_M_wrongRange_40 (by decide) ?_
              refine ev_iload_n X d_M_wrongRange_42 rfl ?_
              refine ev_iload_n X d_M_wrongRange_43 rfl ?_
              refine ev_iadd X d_M_wrongRange_44 ?_
              refine ev_imul X d_M_wrongRange_45 ?_
              refine ev_icmp_ge (tgt := 63) X d_M_wrongRange_46 (by decide) (fun h46 => ?_) (fun h46 => ?_)
              · refine ev_iconst (v := 1) X d_M_wrongRange_63 (by decide) ?_
                refine ev_goto (tgt := 68) X d_M_wrongRange_64 (by decide) ?_
                exact ev_zretL X hr hk d_M_wrongRange_68 (by simp [wrM, b2i, h2, h8, h12, h18, h26, h36, h46]) (rfl)
              · refine ev_iload X d_M_wrongRange_49 rfl ?_
                refine ev_iconst (v := (-1)) X d_M_wrongRange_51 (by decide) ?_
                refine ev_icmp_lt (tgt := 63) X d_M_wrongRange_52 (by decide) (fun h52 => ?_) (fun h52 => ?_)
                · refine ev_iconst (v := 1) X d_M_wrongRange_63 (by decide) ?_
                  refine ev_goto (tgt := 68) X d_M_wrongRange_64 (by decide) ?_
                  exact ev_zretL X hr hk d_M_wrongRange_68 (by simp [wrM, b2i, h2, h8, h12, h18, h26, h36, h46, h52]) (rfl)
                · refine ev_iload X d_M_wrongRange_55 rfl ?_
                  refine ev_sipush (v := 271) X d_M_wrongRange_57 (by decide) ?_
                  refine ev_icmp_le (tgt := 67) X d_M_wrongRange_60 (by decide) (fun h60 => ?_) (fun h60 => ?_)
                  · refine ev_iconst (v := 0) X d_M_wrongRange_67 (by decide) ?_
                    exact ev_zretL X hr hk d_M_wrongRange_68 (by simp [wrM, b2i, h2, h8, h12, h18, h26, h36, h46, h52, h60]) (rfl)
                  · refine ev_iconst (v := 1) X d_M_wrongRange_63 (by decide) ?_
                    refine ev_goto (tgt := 68) X d_M_wrongRange_64 (by decide) ?_
                    exact ev_zretL X hr hk d_M_wrongRange_68 (by simp [wrM, b2i, h2, h8, h12, h18, h26, h36, h46, h52, h60]) (rfl)
          · refine ev_iconst (v := 1) X d_M_wrongRange_29 (by decide) ?_
            exact ev_zretL X hr hk d_M_wrongRange_30 (by simp [wrM, b2i, h2, h8, h12, h18, h26]) (rfl)
set_option maxHeartbeats 4000000 in
set_option maxRecDepth 100000 in
theorem c_M_shown {l : Launch} {D : va_G} {ad : Nat → Nat} {ca : Nat → ClassId} {x : va_W} {S : St} {q u v w : Int32}  : CtM l D ad ca x y_M_shown b_M_shown 4 (some .int) 0 [.int q, .int u, .int v, .int w] S S (some (.int (if q = 0 then u else if q = 1 then v else w))) := by
  refine ev_ent [some (.int q), some (.int u), some (.int v), some (.int w)] rfl (by decide) (Nat.le_of_ble_eq_true rfl) rfl gTT (fun p e s m args below meth c A X hr hk => ?_)
  refine ev_iload_n X d_M_shown_0 rfl ?_
  refine ev_if_ne (tgt := 8) X d_M_shown_1 (by decide) (fun h1 => ?_) (fun h1 => ?_)
  · refine ev_iload_n X d_M_shown_8 rfl ?_
    refine ev_iconst (v := 1) X d_M_shown_9 (by decide) ?_
    refine ev_icmp_ne (tgt := 17) X d_M_shown_10 (by decide) (fun h10 => ?_) (fun h10 => ?_)
    · refine ev_iload_n X d_M_shown_17 rfl ?_
      exact ev_iretL X hr hk d_M_shown_18 (by simp [h1, h10]) (rfl)
    · refine ev_iload_n X d_M_shown_13 rfl ?_
      refine ev_goto (tgt := 18) X d_M_shown_14 (by decide) ?_
      exact ev_iretL X hr hk d_M_shown_18 (by simp [h1, h10]) (rfl)
  · refine ev_iload_n X d_M_shown_4 rfl ?_
    refine ev_goto (tgt := 18) X d_M_shown_5 (by decide) ?_
    exact ev_iretL X hr hk d_M_shown_18 (by simp [h1]) (rfl)
set_option maxHeartbeats 4000000 in
set_option maxRecDepth 100000 in
theorem c_M_denied {l : Launch} {D : va_G} {ad : Nat → Nat} {ca : Nat → ClassId} {x : va_W} {S : St}   : CtM l D ad ca x y_M_denied b_M_denied 1 (some .int) 0 [.ref (ad 0)] S S (some (.int (S 0 5))) := by
  refine ev_ent [some (.ref (ad 0))] rfl (by decide) (Nat.le_of_ble_eq_true rfl) rfl gTT (fun p e s m args below meth c A X hr hk => ?_)
  refine ev_aload_n X d_M_denied_0 rfl ?_
  refine ev_getI X f_M_75 lo_mod rfl d_M_denied_1 ?_
  exact ev_iretL X hr hk d_M_denied_4 (rfl) (rfl)
set_option maxHeartbeats 4000000 in
set_option maxRecDepth 100000 in
theorem c_M_state {l : Launch} {D : va_G} {ad : Nat → Nat} {ca : Nat → ClassId} {x : va_W} {S : St} {q : Int32}  : CtM l D ad ca x y_M_state b_M_state 2 (some .int) 0 [.ref (ad 0), .int q] S S (some (.int (if inr q 4 = true then S 5 q.toNatClampNeg else -1))) := by
  refine ev_ent [some (.ref (ad 0)), some (.int q)] rfl (by decide) (Nat.le_of_ble_eq_true rfl) rfl gTT (fun p e s m args below meth c A X hr hk => ?_)
  refine ev_iload_n X d_M_state_0 rfl ?_
  refine ev_if_lt (tgt := 9) X d_M_state_1 (by decide) (fun h1 => ?_) (fun h1 => ?_)
  · have hi : inr q 4 = false := by simp [inr, h1]
    refine ev_iconst (v := (-1)) X d_M_state_9 (by decide) ?_
    refine ev_goto (tgt := 19) X d_M_state_10 (by decide) ?_
    exact ev_iretL X hr hk d_M_state_19 (by simp [hi]) (rfl)
  · refine ev_iload_n X d_M_state_4 rfl ?_
    refine ev_iconst (v := 3) X d_M_state_5 (by decide) ?_
    refine ev_icmp_le (tgt := 13) X d_M_state_6 (by decide) (fun h6 => ?_) (fun h6 => ?_)
    · have hi : inr q 4 = true := inr_le (n := 3) (by decide) rfl rfl h1 h6
      refine ev_aload_n X d_M_state_13 rfl ?_
      refine ev_getR X f_M_22 lo_mod rfl d_M_state_14 ?_
      refine ev_iload_n X d_M_state_17 rfl ?_
      refine ev_iald X lm_states rfl (inr_z hi) (inr_j (k := 4) rfl (by decide) hi) d_M_state_18 ?_
      exact ev_iretL X hr hk d_M_state_19 (by simp [hi]) (rfl)
    · have hi : inr q 4 = false := inr_nle (n := 3) (by decide) rfl rfl h6
      refine ev_iconst (v := (-1)) X d_M_state_9 (by decide) ?_
      refine ev_goto (tgt := 19) X d_M_state_10 (by decide) ?_
      exact ev_iretL X hr hk d_M_state_19 (by simp [hi]) (rfl)
set_option maxHeartbeats 4000000 in
set_option maxRecDepth 100000 in
theorem c_M_owner {l : Launch} {D : va_G} {ad : Nat → Nat} {ca : Nat → ClassId} {x : va_W} {S : St} {q : Int32}  : CtM l D ad ca x y_M_owner b_M_owner 2 (some .int) 0 [.ref (ad 0), .int q] S S (some (.int (if inr q 16 = true then S 2 q.toNatClampNeg else -1))) := by
  refine ev_ent [some (.ref (ad 0)), some (.int q)] rfl (by decide) (Nat.le_of_ble_eq_true rfl) rfl gTT (fun p e s m args below meth c A X hr hk => ?_)
  refine ev_iload_n X d_M_owner_0 rfl ?_
  refine ev_if_lt (tgt := 10) X d_M_owner_1 (by decide) (fun h1 => ?_) (fun h1 => ?_)
  · have hi : inr q 16 = false := by simp [inr, h1]
    refine ev_iconst (v := (-1)) X d_M_owner_10 (by decide) ?_
    refine ev_goto (tgt := 20) X d_M_owner_11 (by decide) ?_
    exact ev_iretL X hr hk d_M_owner_20 (by simp [hi]) (rfl)
  · refine ev_iload_n X d_M_owner_4 rfl ?_
    refine ev_bipush (v := 15) X d_M_owner_5 (by decide) ?_
    refine ev_icmp_le (tgt := 14) X d_M_owner_7 (by decide) (fun h7 => ?_) (fun h7 => ?_)
    · have hi : inr q 16 = true := inr_le (n := 15) (by decide) rfl rfl h1 h7
      refine ev_aload_n X d_M_owner_14 rfl ?_
      refine ev_getR X f_M_13 lo_mod rfl d_M_owner_15 ?_
      refine ev_iload_n X d_M_owner_18 rfl ?_
      refine ev_iald X lm_owners rfl (inr_z hi) (inr_j (k := 16) rfl (by decide) hi) d_M_owner_19 ?_
      exact ev_iretL X hr hk d_M_owner_20 (by simp [hi]) (rfl)
    · have hi : inr q 16 = false := inr_nle (n := 15) (by decide) rfl rfl h7
      refine ev_iconst (v := (-1)) X d_M_owner_10 (by decide) ?_
      refine ev_goto (tgt := 20) X d_M_owner_11 (by decide) ?_
      exact ev_iretL X hr hk d_M_owner_20 (by simp [hi]) (rfl)
set_option maxHeartbeats 4000000 in
set_option maxRecDepth 100000 in
theorem c_M_proof {l : Launch} {D : va_G} {ad : Nat → Nat} {ca : Nat → ClassId} {x : va_W} {S : St} {u v : Int32}  : CtM l D ad ca x y_M_proof b_M_proof 4 (some .int) 1 [.ref (ad 0), .int u, .int v] S S (some (.int (prfS (S 0 0) u v))) := by
  refine ev_ent [some (.ref (ad 0)), some (.int u), some (.int v), none] rfl (by decide) (Nat.le_of_ble_eq_true rfl) rfl gTT (fun p e s m args below meth c A X hr hk => ?_)
  refine ev_aload_n X d_M_proof_0 rfl ?_
  refine ev_getI X f_M_49 lo_mod rfl d_M_proof_1 ?_
  refine ev_iconst (v := 3) X d_M_proof_4 (by decide) ?_
  refine ev_cS1 X m_M_54 c_M_mix (by decide) (by decide) d_M_proof_5 rfl rfl (Nat.le_of_ble_eq_true rfl) ?_
  refine ev_istore_n X d_M_proof_8 (by decide) ?_
  refine ev_iload_n X d_M_proof_9 rfl ?_
  refine ev_iload_n X d_M_proof_10 rfl ?_
  refine ev_cS1 X m_M_54 c_M_mix (by decide) (by decide) d_M_proof_11 rfl rfl (Nat.le_of_ble_eq_true rfl) ?_
  refine ev_iload_n X d_M_proof_14 rfl ?_
  refine ev_cS1 X m_M_54 c_M_mix (by decide) (by decide) d_M_proof_15 rfl rfl (Nat.le_of_ble_eq_true rfl) ?_
  exact ev_iretL X hr hk d_M_proof_18 (rfl) (rfl)
set_option maxHeartbeats 4000000 in
set_option maxRecDepth 100000 in
theorem c_M_busy {l : Launch} {D : va_G} {ad : Nat → Nat} {ca : Nat → ClassId} {x : va_W} {S : St} {z : Int32}  : CtM l D ad ca x y_M_busy b_M_busy 2 (some .boolean) 1 [.ref (ad 0), .int z] S S (some (.int (b2i (bsM S z)))) := by
  refine ev_ent [some (.ref (ad 0)), some (.int z)] rfl (by decide) (Nat.le_of_ble_eq_true rfl) rfl gTT (fun p e s m args below meth c A X hr hk => ?_)
  refine ev_iload_n X d_M_busy_0 rfl ?_
  refine ev_cS1 X m_M_58 c_M_processor (by decide) (by decide) d_M_busy_1 rfl rfl (Nat.le_of_ble_eq_true rfl) ?_
  refine ev_if_eqB (tgt := 16) X d_M_busy_4 (by decide) (fun h4 => ?_) (fun h4 => ?_)
  · refine ev_iconst (v := 1) X d_M_busy_16 (by decide) ?_
    refine ev_goto (tgt := 21) X d_M_busy_17 (by decide) ?_
    exact ev_zretL X hr hk d_M_busy_21 (by simp [bsM, b2i, h4]) (rfl)
  · refine ev_aload_n X d_M_busy_7 rfl ?_
    refine ev_getR X f_M_19 lo_mod rfl d_M_busy_8 ?_
    refine ev_iload_n X d_M_busy_11 rfl ?_
    refine ev_iald X lm_runs rfl (inr_z h4) (inr_j (k := 2) rfl (by decide) h4) d_M_busy_12 ?_
    refine ev_if_lt (tgt := 20) X d_M_busy_13 (by decide) (fun h13 => ?_) (fun h13 => ?_)
    · refine ev_iconst (v := 0) X d_M_busy_20 (by decide) ?_
      exact ev_zretL X hr hk d_M_busy_21 (by simp [bsM, b2i, h4, h13]) (rfl)
    · refine ev_iconst (v := 1) X d_M_busy_16 (by decide) ?_
      refine ev_goto (tgt := 21) X d_M_busy_17 (by decide) ?_
      exact ev_zretL X hr hk d_M_busy_21 (by simp [bsM, b2i, h4, h13]) (rfl)
set_option maxHeartbeats 4000000 in
set_option maxRecDepth 100000 in
theorem c_M_allowed {l : Launch} {D : va_G} {ad : Nat → Nat} {ca : Nat → ClassId} {x : va_W} {S : St} {q z b : Int32} (hq : inr q 2 = true) (hru : RuOK S q.toNatClampNeg) : CtM l D ad ca x y_M_allowed b_M_allowed 5 (some .boolean) 1 [.ref (ad 0), .int q, .int z, .int b] S S (some (.int (b2i (alM S q z b)))) := by
  refine ev_ent [some (.ref (ad 0)), some (.int q), some (.int z), some (.int b), none] rfl (by decide) (Nat.le_of_ble_eq_true rfl) rfl gTT (fun p e s m args below meth c A X hr hk => ?_)
  refine ev_iload_n X d_M_allowed_0 rfl ?_
  refine ev_if_lt (tgt := 23) X d_M_allowed_1 (by decide) (fun h1 => ?_) (fun h1 => ?_)
  · refine ev_iconst (v := 0) X d_M_allowed_23 (by decide) ?_
    exact ev_zretL X hr hk d_M_allowed_24 (by simp [alM, b2i, h1]) (rfl)
  · refine ev_iload_n X d_M_allowed_4 rfl ?_
    refine ev_sipush (v := 255) X d_M_allowed_5 (by decide) ?_
    refine ev_icmp_gt (tgt := 23) X d_M_allowed_8 (by decide) (fun h8 => ?_) (fun h8 => ?_)
    · refine ev_iconst (v := 0) X d_M_allowed_23 (by decide) ?_
      exact ev_zretL X hr hk d_M_allowed_24 (by simp [alM, b2i, h1, h8]) (rfl)
    · refine ev_aload_n X d_M_allowed_11 rfl ?_
      refine ev_getR X f_M_13 lo_mod rfl d_M_allowed_12 ?_
      refine ev_iload_n X d_M_allowed_15 rfl ?_
      refine ev_bipush (v := 16) X d_M_allowed_16 (by decide) ?_
      refine ev_idiv X d_M_allowed_18 (by decide) ?_
      refine ev_iald X lm_owners rfl (inr_z (d16_in h1 h8)) (inr_j (k := 16) rfl (by decide) (d16_in h1 h8)) d_M_allowed_19 ?_
      refine ev_if_ne (tgt := 25) X d_M_allowed_20 (by decide) (fun h20 => ?_) (fun h20 => ?_)
      · refine ev_aload_n X d_M_allowed_25 rfl ?_
        refine ev_getR X f_M_19 lo_mod rfl d_M_allowed_26 ?_
        refine ev_iload_n X d_M_allowed_29 rfl ?_
        refine ev_iald X lm_runs rfl (inr_z hq) (inr_j (k := 2) rfl (by decide) hq) d_M_allowed_30 ?_
        refine ev_istore X d_M_allowed_31 (by decide) ?_
        refine ev_aload_n X d_M_allowed_33 rfl ?_
        refine ev_getR X f_M_13 lo_mod rfl d_M_allowed_34 ?_
        refine ev_iload_n X d_M_allowed_37 rfl ?_
        refine ev_bipush (v := 16) X d_M_allowed_38 (by decide) ?_
        refine ev_idiv X d_M_allowed_40 (by decide) ?_
        refine ev_iald X lm_owners rfl (inr_z (d16_in h1 h8)) (inr_j (k := 16) rfl (by decide) (d16_in h1 h8)) d_M_allowed_41 ?_
        refine ev_iconst (v := 1) X d_M_allowed_42 (by decide) ?_
        refine ev_icmp_le (tgt := 68) X d_M_allowed_43 (by decide) (fun h43 => ?_) (fun h43 => ?_)
        · refine ev_iload X d_M_allowed_68 rfl ?_
          refine ev_if_lt (tgt := 88) X d_M_allowed_70 (by decide) (fun h70 => ?_) (fun h70 => ?_)
          · refine ev_iconst (v := 1) X d_M_allowed_88 (by decide) ?_
            refine ev_goto (tgt := 93) X d_M_allowed_89 (by decide) ?_
            exact ev_zretL X hr hk d_M_allowed_93 (by simp [alM, b2i, h1, h8, h20, h43, h70]) (rfl)
          · refine ev_aload_n X d_M_allowed_73 rfl ?_
            refine ev_iload X d_M_allowed_74 rfl ?_
            refine ev_iload_n X d_M_allowed_76 rfl ?_
            refine ev_cV1 X m_M_62 (c_M_isShared (hru.resolve_left h70)) lo_mod rfl rfl (by decide) (by decide) d_M_allowed_77 rfl rfl (Nat.le_of_ble_eq_true rfl) ?_
            refine ev_if_eqB (tgt := 92) X d_M_allowed_80 (by decide) (fun h80 => ?_) (fun h80 => ?_)
            · refine ev_iconst (v := 0) X d_M_allowed_92 (by decide) ?_
              exact ev_zretL X hr hk d_M_allowed_93 (by simp [alM, b2i, h1, h8, h20, h43, h70, h80]) (rfl)
            · refine ev_iload_n X d_M_allowed_83 rfl ?_
              refine ev_iconst (v := 4) X d_M_allowed_84 (by decide) ?_
              refine ev_icmp_eq (tgt := 92) X d_M_allowed_85 (by decide) (fun h85 => ?_) (fun h85 => ?_)
              · refine ev_iconst (v := 0) X d_M_allowed_92 (by decide) ?_
                exact ev_zretL X hr hk d_M_allowed_93 (by simp [alM, b2i, h1, h8, h20, h43, h70, h80, h85]) (rfl)
              · refine ev_iconst (v := 1) X d_M_allowed_88 (by decide) ?_
                refine ev_goto (tgt := 93) X d_M_allowed_89 (by decide) ?_
                exact ev_zretL X hr hk d_M_allowed_93 (by simp [alM, b2i, h1, h8, h20, h43, h70, h80, h85]) (rfl)
        · refine ev_aload_n X d_M_allowed_46 rfl ?_
          refine ev_getR X f_M_13 lo_mod rfl d_M_allowed_47 ?_
          refine ev_iload_n X d_M_allowed_50 rfl ?_
          refine ev_bipush (v := 16) X d_M_allowed_51 (by decide) ?_
          refine ev_idiv X d_M_allowed_53 (by decide) ?_
          refine ev_iald X lm_owners rfl (inr_z (d16_in h1 h8)) (inr_j (k := 16) rfl (by decide) (d16_in h1 h8)) d_M_allowed_54 ?_
          refine ev_iconst (v := 2) X d_M_allowed_55 (by decide) ?_
          refine ev_iload X d_M_allowed_56 rfl ?_
          refine ev_iadd X d_M_allowed_58 ?_
          refine ev_icmp_ne (tgt := 66) X d_M_allowed_59 (by decide) (fun h59 => ?_) (fun h59 => ?_)
          · refine ev_iconst (v := 0) X d_M_allowed_66 (by decide) ?_
            exact ev_zretL X hr hk d_M_allowed_67 (by rw [alM, if_neg h1, if_neg h8, if_neg h20, if_neg h43]; first | (rw [decide_eq_true h59]; rfl) | (rw [decide_eq_false h59]; rfl)) (rfl)
          · refine ev_iconst (v := 1) X d_M_allowed_62 (by decide) ?_
            refine ev_goto (tgt := 67) X d_M_allowed_63 (by decide) ?_
            exact ev_zretL X hr hk d_M_allowed_67 (by rw [alM, if_neg h1, if_neg h8, if_neg h20, if_neg h43]; first | (rw [decide_eq_true h59]; rfl) | (rw [decide_eq_false h59]; rfl)) (rfl)
      · refine ev_iconst (v := 0) X d_M_allowed_23 (by decide) ?_
        exact ev_zretL X hr hk d_M_allowed_24 (by simp [alM, b2i, h1, h8, h20]) (rfl)
set_option maxHeartbeats 4000000 in
set_option maxRecDepth 100000 in
theorem c_M_running {l : Launch} {D : va_G} {ad : Nat → Nat} {ca : Nat → ClassId} {x : va_W} {S : St} {z : Int32}  : CtM l D ad ca x y_M_running b_M_running 2 (some .int) 1 [.ref (ad 0), .int z] S S (some (.int (if inr z 2 = true then S 4 z.toNatClampNeg else -2))) := by
  refine ev_ent [some (.ref (ad 0)), some (.int z)] rfl (by decide) (Nat.le_of_ble_eq_true rfl) rfl gTT (fun p e s m args below meth c A X hr hk => ?_)
  refine ev_iload_n X d_M_running_0 rfl ?_
  refine ev_cS1 X m_M_58 c_M_processor (by decide) (by decide) d_M_running_1 rfl rfl (Nat.le_of_ble_eq_true rfl) ?_
  refine ev_if_eqB (tgt := 16) X d_M_running_4 (by decide) (fun h4 => ?_) (fun h4 => ?_)
  · refine ev_bipush (v := (-2)) X d_M_running_16 (by decide) ?_
    exact ev_iretL X hr hk d_M_running_18 (by simp [h4]) (rfl)
  · refine ev_aload_n X d_M_running_7 rfl ?_
    refine ev_getR X f_M_19 lo_mod rfl d_M_running_8 ?_
    refine ev_iload_n X d_M_running_11 rfl ?_
    refine ev_iald X lm_runs rfl (inr_z h4) (inr_j (k := 2) rfl (by decide) h4) d_M_running_12 ?_
    refine ev_goto (tgt := 18) X d_M_running_13 (by decide) ?_
    exact ev_iretL X hr hk d_M_running_18 (by simp [h4]) (rfl)
end
section
set_option maxHeartbeats 4000000 in
set_option maxRecDepth 100000 in
theorem c_M_load {l : Launch} {D : va_G} {ad : Nat → Nat} {ca : Nat → ClassId} {x : va_W} {S : St} {z a : Int32}  : CtM l D ad ca x y_M_load b_M_load 3 (some .long) 2 [.ref (ad 0), .int z, .int a] S (tLoad S z a) (some (.long (wLoad S z a))) := by
  refine ev_ent [some (.ref (ad 0)), some (.int z), some (.int a)] rfl (by decide) (Nat.le_of_ble_eq_true rfl) rfl gTT (fun p e s m args below meth c A X hr hk => ?_)
  refine ev_aload_n X d_M_load_0 rfl ?_
  refine ev_iload_n X d_M_load_1 rfl ?_
  refine ev_cV1 X m_M_66 c_M_busy lo_mod rfl rfl (by decide) (by decide) d_M_load_2 rfl rfl (Nat.le_of_ble_eq_true rfl) ?_
  refine ev_if_eqB (tgt := 12) X d_M_load_5 (by decide) (fun h5 => ?_) (fun h5 => ?_)
  · refine ev_aload_n X d_M_load_12 rfl ?_
    refine ev_iload_n X d_M_load_13 rfl ?_
    refine ev_iload_n X d_M_load_14 rfl ?_
    refine ev_iconst (v := 1) X d_M_load_15 (by decide) ?_
    refine ev_cV1 X m_M_71 (c_M_allowed (bsM_in h5) (Or.inl (bsM_no h5))) lo_mod rfl rfl (by decide) (by decide) d_M_load_16 rfl rfl (Nat.le_of_ble_eq_true rfl) ?_
    refine ev_if_neB (tgt := 36) X d_M_load_19 (by decide) (fun h19 => ?_) (fun h19 => ?_)
    · refine ev_aload_n X d_M_load_36 rfl ?_
      refine ev_getR X f_M_7 lo_mod rfl d_M_load_37 ?_
      refine ev_iload_n X d_M_load_40 rfl ?_
      refine ev_iald X lm_words rfl (inr_z (alM_in h19)) (inr_j (k := 256) rfl (by decide) (alM_in h19)) d_M_load_41 ?_
      refine ev_i2l X d_M_load_42 ?_
      exact ev_lretL X hr hk d_M_load_43 (by simp [wLoad, h5, h19]) (by simp [tLoad, h5, h19])
    · refine ev_aload_n X d_M_load_22 rfl ?_
      refine ev_dup X d_M_load_23 rfl ?_
      refine ev_getI X f_M_75 lo_mod rfl d_M_load_24 ?_
      refine ev_iconst (v := 1) X d_M_load_27 (by decide) ?_
      refine ev_iadd X d_M_load_28 ?_
      refine ev_putI X f_M_75 lo_mod rfl d_M_load_29 ?_
      refine ev_ldc2 X k_M_78 d_M_load_32 ?_
      exact ev_lretL X hr hk d_M_load_35 (by simp [wLoad, h5, h19]) (by simp [tLoad, h5, h19])
  · refine ev_ldc2 X k_M_69 d_M_load_8 ?_
    exact ev_lretL X hr hk d_M_load_11 (by simp [wLoad, h5]) (by simp [tLoad, h5])
set_option maxHeartbeats 4000000 in
set_option maxRecDepth 100000 in
theorem c_M_store {l : Launch} {D : va_G} {ad : Nat → Nat} {ca : Nat → ClassId} {x : va_W} {S : St} {z a v : Int32}  : CtM l D ad ca x y_M_store b_M_store 4 (some .int) 2 [.ref (ad 0), .int z, .int a, .int v] S (tStore S z a v) (some (.int (wStore S z a))) := by
  refine ev_ent [some (.ref (ad 0)), some (.int z), some (.int a), some (.int v)] rfl (by decide) (Nat.le_of_ble_eq_true rfl) rfl gTT (fun p e s m args below meth c A X hr hk => ?_)
  refine ev_aload_n X d_M_store_0 rfl ?_
  refine ev_iload_n X d_M_store_1 rfl ?_
  refine ev_cV1 X m_M_66 c_M_busy lo_mod rfl rfl (by decide) (by decide) d_M_store_2 rfl rfl (Nat.le_of_ble_eq_true rfl) ?_
  refine ev_if_eqB (tgt := 10) X d_M_store_5 (by decide) (fun h5 => ?_) (fun h5 => ?_)
  · refine ev_aload_n X d_M_store_10 rfl ?_
    refine ev_iload_n X d_M_store_11 rfl ?_
    refine ev_iload_n X d_M_store_12 rfl ?_
    refine ev_iconst (v := 2) X d_M_store_13 (by decide) ?_
    refine ev_cV1 X m_M_71 (c_M_allowed (bsM_in h5) (Or.inl (bsM_no h5))) lo_mod rfl rfl (by decide) (by decide) d_M_store_14 rfl rfl (Nat.le_of_ble_eq_true rfl) ?_
    refine ev_if_neB (tgt := 32) X d_M_store_17 (by decide) (fun h17 => ?_) (fun h17 => ?_)
    · refine ev_aload_n X d_M_store_32 rfl ?_
      refine ev_getR X f_M_7 lo_mod rfl d_M_store_33 ?_
      refine ev_iload_n X d_M_store_36 rfl ?_
      refine ev_iload_n X d_M_store_37 rfl ?_
      refine ev_iast X lm_words rfl (inr_z (alM_in h17)) (inr_j (k := 256) rfl (by decide) (alM_in h17)) d_M_store_38 ?_
      refine ev_iconst (v := 0) X d_M_store_39 (by decide) ?_
      exact ev_iretL X hr hk d_M_store_40 (by simp [wStore, h5, h17]) (by simp [tStore, h5, h17])
    · refine ev_aload_n X d_M_store_20 rfl ?_
      refine ev_dup X d_M_store_21 rfl ?_
      refine ev_getI X f_M_75 lo_mod rfl d_M_store_22 ?_
      refine ev_iconst (v := 1) X d_M_store_25 (by decide) ?_
      refine ev_iadd X d_M_store_26 ?_
      refine ev_putI X f_M_75 lo_mod rfl d_M_store_27 ?_
      refine ev_iconst (v := 1) X d_M_store_30 (by decide) ?_
      exact ev_iretL X hr hk d_M_store_31 (by simp [wStore, h5, h17]) (by simp [tStore, h5, h17])
  · refine ev_iconst (v := (-1)) X d_M_store_8 (by decide) ?_
    exact ev_iretL X hr hk d_M_store_9 (by simp [wStore, h5]) (by simp [tStore, h5])
set_option maxHeartbeats 4000000 in
set_option maxRecDepth 100000 in
theorem c_M_give {l : Launch} {D : va_G} {ad : Nat → Nat} {ca : Nat → ClassId} {x : va_W} {S : St} {z a v : Int32}  : CtM l D ad ca x y_M_give b_M_give 4 (some .boolean) 2 [.ref (ad 0), .int z, .int a, .int v] S (tGive S z a v) (some (.int (b2i (wGive S z a)))) := by
  refine ev_ent [some (.ref (ad 0)), some (.int z), some (.int a), some (.int v)] rfl (by decide) (Nat.le_of_ble_eq_true rfl) rfl gTT (fun p e s m args below meth c A X hr hk => ?_)
  refine ev_aload_n X d_M_give_0 rfl ?_
  refine ev_iload_n X d_M_give_1 rfl ?_
  refine ev_cV1 X m_M_66 c_M_busy lo_mod rfl rfl (by decide) (by decide) d_M_give_2 rfl rfl (Nat.le_of_ble_eq_true rfl) ?_
  refine ev_if_neB (tgt := 18) X d_M_give_5 (by decide) (fun h5 => ?_) (fun h5 => ?_)
  · refine ev_iconst (v := 0) X d_M_give_18 (by decide) ?_
    exact ev_zretL X hr hk d_M_give_19 (by first | (simp [wGive, b2i, h5, hi]; done) | (simp [wGive, b2i, h5]; done)) (by first | (simp [tGive, h5, hi]; done) | (simp [tGive, h5]; done))
  · refine ev_iload_n X d_M_give_8 rfl ?_
    refine ev_if_lt (tgt := 18) X d_M_give_9 (by decide) (fun h9 => ?_) (fun h9 => ?_)
    · have hi : inr a 8 = false := by simp [inr, h9]
      refine ev_iconst (v := 0) X d_M_give_18 (by decide) ?_
      exact ev_zretL X hr hk d_M_give_19 (by first | (simp [wGive, b2i, h5, hi]; done) | (simp [wGive, b2i, h5]; done)) (by first | (simp [tGive, h5, hi]; done) | (simp [tGive, h5]; done))
    · refine ev_iload_n X d_M_give_12 rfl ?_
      refine ev_bipush (v := 7) X d_M_give_13 (by decide) ?_
      refine ev_icmp_le (tgt := 20) X d_M_give_15 (by decide) (fun h15 => ?_) (fun h15 => ?_)
      · have hi : inr a 8 = true := inr_le (n := 7) (by decide) rfl rfl h9 h15
        refine ev_aload_n X d_M_give_20 rfl ?_
        refine ev_getR X f_M_16 lo_mod rfl d_M_give_21 ?_
        refine ev_bipush (v := 8) X d_M_give_24 (by decide) ?_
        refine ev_iload_n X d_M_give_26 rfl ?_
        refine ev_imul X d_M_give_27 ?_
        refine ev_iload_n X d_M_give_28 rfl ?_
        refine ev_iadd X d_M_give_29 ?_
        refine ev_iload_n X d_M_give_30 rfl ?_
        refine ev_iast X lm_kept rfl (k8_in (bsM_in h5) hi).1 (k8_in (bsM_in h5) hi).2 d_M_give_31 ?_
        refine ev_iconst (v := 1) X d_M_give_32 (by decide) ?_
        exact ev_zretL X hr hk d_M_give_33 (by first | (simp [wGive, b2i, h5, hi]; done) | (simp [wGive, b2i, h5]; done)) (by first | (simp [tGive, h5, hi]; done) | (simp [tGive, h5]; done))
      · have hi : inr a 8 = false := inr_nle (n := 7) (by decide) rfl rfl h15
        refine ev_iconst (v := 0) X d_M_give_18 (by decide) ?_
        exact ev_zretL X hr hk d_M_give_19 (by first | (simp [wGive, b2i, h5, hi]; done) | (simp [wGive, b2i, h5]; done)) (by first | (simp [tGive, h5, hi]; done) | (simp [tGive, h5]; done))
set_option maxHeartbeats 4000000 in
set_option maxRecDepth 100000 in
theorem c_M_register {l : Launch} {D : va_G} {ad : Nat → Nat} {ca : Nat → ClassId} {x : va_W} {S : St} {z a : Int32}  : CtM l D ad ca x y_M_register b_M_register 3 (some .long) 2 [.ref (ad 0), .int z, .int a] S S (some (.long (wReg S z a))) := by
  refine ev_ent [some (.ref (ad 0)), some (.int z), some (.int a)] rfl (by decide) (Nat.le_of_ble_eq_true rfl) rfl gTT (fun p e s m args below meth c A X hr hk => ?_)
  refine ev_aload_n X d_M_register_0 rfl ?_
  refine ev_iload_n X d_M_register_1 rfl ?_
  refine ev_cV1 X m_M_66 c_M_busy lo_mod rfl rfl (by decide) (by decide) d_M_register_2 rfl rfl (Nat.le_of_ble_eq_true rfl) ?_
  refine ev_if_neB (tgt := 18) X d_M_register_5 (by decide) (fun h5 => ?_) (fun h5 => ?_)
  · refine ev_ldc2 X k_M_69 d_M_register_18 ?_
    refine ev_goto (tgt := 36) X d_M_register_21 (by decide) ?_
    exact ev_lretL X hr hk d_M_register_36 (by first | (simp [wReg, h5, hi]; done) | (simp [wReg, h5]; done)) (rfl)
  · refine ev_iload_n X d_M_register_8 rfl ?_
    refine ev_if_lt (tgt := 18) X d_M_register_9 (by decide) (fun h9 => ?_) (fun h9 => ?_)
    · have hi : inr a 8 = false := by simp [inr, h9]
      refine ev_ldc2 X k_M_69 d_M_register_18 ?_
      refine ev_goto (tgt := 36) X d_M_register_21 (by decide) ?_
      exact ev_lretL X hr hk d_M_register_36 (by first | (simp [wReg, h5, hi]; done) | (simp [wReg, h5]; done)) (rfl)
    · refine ev_iload_n X d_M_register_12 rfl ?_
      refine ev_bipush (v := 7) X d_M_register_13 (by decide) ?_
      refine ev_icmp_le (tgt := 24) X d_M_register_15 (by decide) (fun h15 => ?_) (fun h15 => ?_)
      · have hi : inr a 8 = true := inr_le (n := 7) (by decide) rfl rfl h9 h15
        refine ev_aload_n X d_M_register_24 rfl ?_
        refine ev_getR X f_M_16 lo_mod rfl d_M_register_25 ?_
        refine ev_bipush (v := 8) X d_M_register_28 (by decide) ?_
        refine ev_iload_n X d_M_register_30 rfl ?_
        refine ev_imul X d_M_register_31 ?_
        refine ev_iload_n X d_M_register_32 rfl ?_
        refine ev_iadd X d_M_register_33 ?_
        refine ev_iald X lm_kept rfl (k8_in (bsM_in h5) hi).1 (k8_in (bsM_in h5) hi).2 d_M_register_34 ?_
        refine ev_i2l X d_M_register_35 ?_
        exact ev_lretL X hr hk d_M_register_36 (by first | (simp [wReg, h5, hi]; done) | (simp [wReg, h5]; done)) (rfl)
      · have hi : inr a 8 = false := inr_nle (n := 7) (by decide) rfl rfl h15
        refine ev_ldc2 X k_M_69 d_M_register_18 ?_
        refine ev_goto (tgt := 36) X d_M_register_21 (by decide) ?_
        exact ev_lretL X hr hk d_M_register_36 (by first | (simp [wReg, h5, hi]; done) | (simp [wReg, h5]; done)) (rfl)
set_option maxHeartbeats 4000000 in
set_option maxRecDepth 100000 in
theorem c_M_verify {l : Launch} {D : va_G} {ad : Nat → Nat} {ca : Nat → ClassId} {x : va_W} {S : St} {u v b : Int32}  : CtM l D ad ca x y_M_verify b_M_verify 4 (some .boolean) 2 [.ref (ad 0), .int u, .int v, .int b] S S (some (.int (b2i (decide (b = prfS (S 0 0) u v))))) := by
  refine ev_ent [some (.ref (ad 0)), some (.int u), some (.int v), some (.int b)] rfl (by decide) (Nat.le_of_ble_eq_true rfl) rfl gTT (fun p e s m args below meth c A X hr hk => ?_)
  refine ev_iload_n X d_M_verify_0 rfl ?_
  refine ev_aload_n X d_M_verify_1 rfl ?_
  refine ev_iload_n X d_M_verify_2 rfl ?_
  refine ev_iload_n X d_M_verify_3 rfl ?_
  refine ev_cV1 X m_M_103 c_M_proof lo_mod rfl rfl (by decide) (by decide) d_M_verify_4 rfl rfl (Nat.le_of_ble_eq_true rfl) ?_
  refine ev_icmp_ne (tgt := 14) X d_M_verify_7 (by decide) (fun h7 => ?_) (fun h7 => ?_)
  · refine ev_iconst (v := 0) X d_M_verify_14 (by decide) ?_
    exact ev_zretL X hr hk d_M_verify_15 (by simp [b2i, h7]) (rfl)
  · refine ev_iconst (v := 1) X d_M_verify_10 (by decide) ?_
    refine ev_goto (tgt := 15) X d_M_verify_11 (by decide) ?_
    exact ev_zretL X hr hk d_M_verify_15 (by simp [b2i, h7]) (rfl)
def wRel (S : St) (q : Int32) : Int64 := if thM S q = true then (if S 5 q.toNatClampNeg < 4 then 1099511627776 else (S 11 q.toNatClampNeg).toInt64) else 1099511627776
def wMea (S : St) (q : Int32) : Int64 := if thM S q = true then (S 10 q.toNatClampNeg).toInt64 else 1099511627776
def lvM (S : St) (q : Nat) (t : Int32) : St := up2 (up2 S 5 (S 4 q).toNatClampNeg t) 4 q (-1)
def edM (S : St) (q : Nat) (t v : Int32) : St := lvM (up2 S 11 (S 4 q).toNatClampNeg v) q t
set_option maxHeartbeats 4000000 in
set_option maxRecDepth 100000 in
theorem c_M_released {l : Launch} {D : va_G} {ad : Nat → Nat} {ca : Nat → ClassId} {x : va_W} {S : St} {q : Int32}  : CtM l D ad ca x y_M_released b_M_released 2 (some .long) 1 [.ref (ad 0), .int q] S S (some (.long (wRel S q))) := by
  refine ev_ent [some (.ref (ad 0)), some (.int q)] rfl (by decide) (Nat.le_of_ble_eq_true rfl) rfl gTT (fun p e s m args below meth c A X hr hk => ?_)
  refine ev_aload_n X d_M_released_0 rfl ?_
  refine ev_iload_n X d_M_released_1 rfl ?_
  refine ev_cV1 X m_M_88 c_M_there lo_mod rfl rfl (by decide) (by decide) d_M_released_2 rfl rfl (Nat.le_of_ble_eq_true rfl) ?_
  refine ev_if_eqB (tgt := 28) X d_M_released_5 (by decide) (fun h5 => ?_) (fun h5 => ?_)
  · refine ev_ldc2 X k_M_69 d_M_released_28 ?_
    exact ev_lretL X hr hk d_M_released_31 (by simp [wRel, h5]) (rfl)
  · refine ev_aload_n X d_M_released_8 rfl ?_
    refine ev_getR X f_M_22 lo_mod rfl d_M_released_9 ?_
    refine ev_iload_n X d_M_released_12 rfl ?_
    refine ev_iald X lm_states rfl (inr_z (thM_in h5)) (inr_j (k := 4) rfl (by decide) (thM_in h5)) d_M_released_13 ?_
    refine ev_iconst (v := 4) X d_M_released_14 (by decide) ?_
    refine ev_icmp_lt (tgt := 28) X d_M_released_15 (by decide) (fun h15 => ?_) (fun h15 => ?_)
    · refine ev_ldc2 X k_M_69 d_M_released_28 ?_
      exact ev_lretL X hr hk d_M_released_31 (by simp [wRel, h5, h15]) (rfl)
    · refine ev_aload_n X d_M_released_18 rfl ?_
      refine ev_getR X f_M_40 lo_mod rfl d_M_released_19 ?_
      refine ev_iload_n X d_M_released_22 rfl ?_
      refine ev_iald X lm_outs rfl (inr_z (thM_in h5)) (inr_j (k := 4) rfl (by decide) (thM_in h5)) d_M_released_23 ?_
      refine ev_i2l X d_M_released_24 ?_
      refine ev_goto (tgt := 31) X d_M_released_25 (by decide) ?_
      exact ev_lretL X hr hk d_M_released_31 (by simp [wRel, h5, h15]) (rfl)
set_option maxHeartbeats 4000000 in
set_option maxRecDepth 100000 in
theorem c_M_measurement {l : Launch} {D : va_G} {ad : Nat → Nat} {ca : Nat → ClassId} {x : va_W} {S : St} {q : Int32}  : CtM l D ad ca x y_M_measurement b_M_measurement 2 (some .long) 1 [.ref (ad 0), .int q] S S (some (.long (wMea S q))) := by
  refine ev_ent [some (.ref (ad 0)), some (.int q)] rfl (by decide) (Nat.le_of_ble_eq_true rfl) rfl gTT (fun p e s m args below meth c A X hr hk => ?_)
  refine ev_aload_n X d_M_measurement_0 rfl ?_
  refine ev_iload_n X d_M_measurement_1 rfl ?_
  refine ev_cV1 X m_M_88 c_M_there lo_mod rfl rfl (by decide) (by decide) d_M_measurement_2 rfl rfl (Nat.le_of_ble_eq_true rfl) ?_
  refine ev_if_eqB (tgt := 18) X d_M_measurement_5 (by decide) (fun h5 => ?_) (fun h5 => ?_)
  · refine ev_ldc2 X k_M_69 d_M_measurement_18 ?_
    exact ev_lretL X hr hk d_M_measurement_21 (by simp [wMea, h5]) (rfl)
  · refine ev_aload_n X d_M_measurement_8 rfl ?_
    refine ev_getR X f_M_37 lo_mod rfl d_M_measurement_9 ?_
    refine ev_iload_n X d_M_measurement_12 rfl ?_
    refine ev_iald X lm_measures rfl (inr_z (thM_in h5)) (inr_j (k := 4) rfl (by decide) (thM_in h5)) d_M_measurement_13 ?_
    refine ev_i2l X d_M_measurement_14 ?_
    refine ev_goto (tgt := 21) X d_M_measurement_15 (by decide) ?_
    exact ev_lretL X hr hk d_M_measurement_21 (by simp [wMea, h5]) (rfl)
set_option maxHeartbeats 4000000 in
set_option maxRecDepth 100000 in
theorem c_M_leave {l : Launch} {D : va_G} {ad : Nat → Nat} {ca : Nat → ClassId} {x : va_W} {S : St} {q t : Int32} (hq : inr q 2 = true) (he : inr (S 4 q.toNatClampNeg) 4 = true) : CtM l D ad ca x y_M_leave b_M_leave 3 none 0 [.ref (ad 0), .int q, .int t] S (lvM S q.toNatClampNeg t) none := by
  refine ev_ent [some (.ref (ad 0)), some (.int q), some (.int t)] rfl (by decide) (Nat.le_of_ble_eq_true rfl) rfl gTT (fun p e s m args below meth c A X hr hk => ?_)
  refine ev_aload_n X d_M_leave_0 rfl ?_
  refine ev_getR X f_M_22 lo_mod rfl d_M_leave_1 ?_
  refine ev_aload_n X d_M_leave_4 rfl ?_
  refine ev_getR X f_M_19 lo_mod rfl d_M_leave_5 ?_
  refine ev_iload_n X d_M_leave_8 rfl ?_
  refine ev_iald X lm_runs rfl (inr_z hq) (inr_j (k := 2) rfl (by decide) hq) d_M_leave_9 ?_
  refine ev_iload_n X d_M_leave_10 rfl ?_
  refine ev_iast X lm_states rfl (inr_z he) (inr_j (k := 4) rfl (by decide) he) d_M_leave_11 ?_
  refine ev_aload_n X d_M_leave_12 rfl ?_
  refine ev_getR X f_M_19 lo_mod rfl d_M_leave_13 ?_
  refine ev_iload_n X d_M_leave_16 rfl ?_
  refine ev_iconst (v := (-1)) X d_M_leave_17 (by decide) ?_
  refine ev_iast X lm_runs rfl (inr_z hq) (inr_j (k := 2) rfl (by decide) hq) d_M_leave_18 ?_
  exact ev_vretL X hr hk d_M_leave_19 (rfl)
set_option maxHeartbeats 4000000 in
set_option maxRecDepth 100000 in
theorem c_M_end {l : Launch} {D : va_G} {ad : Nat → Nat} {ca : Nat → ClassId} {x : va_W} {S : St} {q t v : Int32} (hq : inr q 2 = true) (he : inr (S 4 q.toNatClampNeg) 4 = true) : CtM l D ad ca x y_M_end b_M_end 4 none 1 [.ref (ad 0), .int q, .int t, .int v] S (edM S q.toNatClampNeg t v) none := by
  refine ev_ent [some (.ref (ad 0)), some (.int q), some (.int t), some (.int v)] rfl (by decide) (Nat.le_of_ble_eq_true rfl) rfl gTT (fun p e s m args below meth c A X hr hk => ?_)
  refine ev_aload_n X d_M_end_0 rfl ?_
  refine ev_getR X f_M_40 lo_mod rfl d_M_end_1 ?_
  refine ev_aload_n X d_M_end_4 rfl ?_
  refine ev_getR X f_M_19 lo_mod rfl d_M_end_5 ?_
  refine ev_iload_n X d_M_end_8 rfl ?_
  refine ev_iald X lm_runs rfl (inr_z hq) (inr_j (k := 2) rfl (by decide) hq) d_M_end_9 ?_
  refine ev_iload_n X d_M_end_10 rfl ?_
  refine ev_iast X lm_outs rfl (inr_z he) (inr_j (k := 4) rfl (by decide) he) d_M_end_11 ?_
  refine ev_aload_n X d_M_end_12 rfl ?_
  refine ev_iload_n X d_M_end_13 rfl ?_
  refine ev_iload_n X d_M_end_14 rfl ?_
  refine ev_cV0 X m_M_91 (c_M_leave hq (by rw [up2_ne (by decide)]; exact he)) lo_mod rfl rfl (by decide) (by decide) d_M_end_15 rfl rfl (Nat.le_of_ble_eq_true rfl) ?_
  exact ev_vretL X hr hk d_M_end_18 (rfl)
set_option maxHeartbeats 4000000 in
set_option maxRecDepth 100000 in
theorem c_M_interrupt {l : Launch} {D : va_G} {ad : Nat → Nat} {ca : Nat → ClassId} {x : va_W} {S : St} {q : Int32} (hru : inr q 2 = true → RuOK S q.toNatClampNeg) : CtM l D ad ca x y_M_interrupt b_M_interrupt 3 (some .int) 1 [.ref (ad 0), .int q] S (if inr q 2 = true ∧ ¬ S 4 q.toNatClampNeg < 0 then lvM S q.toNatClampNeg 3 else S) (some (.int (if inr q 2 = true ∧ ¬ S 4 q.toNatClampNeg < 0 then S 4 q.toNatClampNeg else -1))) := by
  refine ev_ent [some (.ref (ad 0)), some (.int q), none] rfl (by decide) (Nat.le_of_ble_eq_true rfl) rfl gTT (fun p e s m args below meth c A X hr hk => ?_)
  refine ev_iload_n X d_M_interrupt_0 rfl ?_
  refine ev_cS1 X m_M_58 c_M_processor (by decide) (by decide) d_M_interrupt_1 rfl rfl (Nat.le_of_ble_eq_true rfl) ?_
  refine ev_if_eqB (tgt := 16) X d_M_interrupt_4 (by decide) (fun h4 => ?_) (fun h4 => ?_)
  · refine ev_iconst (v := (-1)) X d_M_interrupt_16 (by decide) ?_
    exact ev_iretL X hr hk d_M_interrupt_17 (by first | (simp [h4, hn]; done) | (simp [h4]; done)) (by first | (simp [h4, hn]; done) | (simp [h4]; done))
  · refine ev_aload_n X d_M_interrupt_7 rfl ?_
    refine ev_getR X f_M_19 lo_mod rfl d_M_interrupt_8 ?_
    refine ev_iload_n X d_M_interrupt_11 rfl ?_
    refine ev_iald X lm_runs rfl (inr_z h4) (inr_j (k := 2) rfl (by decide) h4) d_M_interrupt_12 ?_
    refine ev_if_ge (tgt := 18) X d_M_interrupt_13 (by decide) (fun h13 => ?_) (fun h13 => ?_)
    · have hn : ¬ S 4 q.toNatClampNeg < 0 := Int32.not_lt.mpr h13
      refine ev_aload_n X d_M_interrupt_18 rfl ?_
      refine ev_getR X f_M_19 lo_mod rfl d_M_interrupt_19 ?_
      refine ev_iload_n X d_M_interrupt_22 rfl ?_
      refine ev_iald X lm_runs rfl (inr_z h4) (inr_j (k := 2) rfl (by decide) h4) d_M_interrupt_23 ?_
      refine ev_istore_n X d_M_interrupt_24 (by decide) ?_
      refine ev_aload_n X d_M_interrupt_25 rfl ?_
      refine ev_iload_n X d_M_interrupt_26 rfl ?_
      refine ev_iconst (v := 3) X d_M_interrupt_27 (by decide) ?_
      refine ev_cV0 X m_M_91 (c_M_leave h4 ((hru h4).resolve_left hn)) lo_mod rfl rfl (by decide) (by decide) d_M_interrupt_28 rfl rfl (Nat.le_of_ble_eq_true rfl) ?_
      refine ev_iload_n X d_M_interrupt_31 rfl ?_
      exact ev_iretL X hr hk d_M_interrupt_32 (by first | (simp [h4, hn]; done) | (simp [h4]; done)) (by first | (simp [h4, hn]; done) | (simp [h4]; done))
    · have hn : S 4 q.toNatClampNeg < 0 := Int32.not_le.mp h13
      refine ev_iconst (v := (-1)) X d_M_interrupt_16 (by decide) ?_
      exact ev_iretL X hr hk d_M_interrupt_17 (by first | (simp [h4, hn]; done) | (simp [h4]; done)) (by first | (simp [h4, hn]; done) | (simp [h4]; done))
end
section
theorem w16l (a : Nat) : 16 * nI a = nI (16 * a) := by rw [show (16 : Int32) = nI 16 from rfl, pk_mul]
theorem wrM_ex {F N en sh : Int32} (h : wrM F N en sh = false) : (∃ f n, F = nI f ∧ N = nI n ∧ f + n ≤ 16 ∧ 1 ≤ n ∧ n ≤ 8) ∧ shS sh = true := by
  unfold wrM at h
  by_cases h1 : N < 1
  · simp [h1] at h
  by_cases h2 : 8 < N
  · simp [h1, h2] at h
  by_cases h3 : F < 0
  · simp [h1, h2, h3] at h
  by_cases h4 : 15 < F
  · simp [h1, h2, h3, h4] at h
  by_cases h5 : F + N ≤ 16
  · by_cases h6 : en < 16 * F
    · simp [h1, h2, h3, h4, h5, h6] at h
    by_cases h7 : 16 * (F + N) ≤ en
    · simp [h1, h2, h3, h4, h5, h6, h7] at h
    by_cases h8 : sh < -1
    · simp [h1, h2, h3, h4, h5, h6, h7, h8] at h
    by_cases h9 : sh ≤ 271
    · obtain ⟨f, hf, rfl⟩ := inr_ex (k := 16) (by decide) rfl (inr_nlt (n := 15) (p := 16) (by decide) rfl rfl h3 h4)
      have hN0 : ¬ N < 0 := fun q => h1 (by
        have := Int32.lt_iff_toInt_lt.mp q
        refine Int32.lt_iff_toInt_lt.mpr ?_
        have e0 : (0 : Int32).toInt = 0 := by decide
        have e1 : (1 : Int32).toInt = 1 := by decide
        rw [e0] at this
        rw [e1]
        omega)
      obtain ⟨n, hn, rfl⟩ := inr_ex (k := 9) (by decide) rfl (inr_nlt (n := 8) (p := 9) (by decide) rfl rfl hN0 h2)
      have n1 : 1 ≤ n := by
        by_cases q : 1 ≤ n
        · exact q
        · exact absurd (nI_lt (a := n) (b := 1) (by omega) (by decide)) h1
      rw [nI_add] at h5
      have h5' := (nI_leI (b := 16) (by omega) (by decide)).mp h5
      refine ⟨⟨f, n, rfl, rfl, h5', n1, by omega⟩, ?_⟩
      simp [shS, h8, Int32.not_lt.mpr h9]
    · simp [h1, h2, h3, h4, h5, h6, h7, h8, h9] at h
  · simp [h1, h2, h3, h4, h5] at h
theorem canP_ge {z : Int32} (h : 256 ≤ z) : canP z = z - 256 := by
  unfold canP
  rw [if_neg (Int32.not_lt.mpr h)]
theorem canP_lt {z : Int32} (h : ¬ 256 ≤ z) : canP z = z / 16 := by
  unfold canP
  rw [if_pos (Int32.not_le.mp h)]
theorem ne_m1 {z : Int32} (h : ¬ z < 0) : ¬ z = -1 := fun q => h (by rw [q]; decide)
def canM (S : St) (sh F N : Int32) : Bool := decide (sh < 0) || (decide (S 2 (canP sh).toNatClampNeg = 1) && (decide (canP sh < F) || decide (F + N ≤ canP sh)))
def lfeM (S : St) : Nat → Nat → Nat
  | e, 0 => e
  | e, n + 1 => if S 5 e = 0 then e else lfeM S (e + 1) n
theorem lfeM_le (S : St) : ∀ (n e : Nat), lfeM S e n ≤ e + n
  | 0, e => Nat.le_refl _
  | n + 1, e => by
    unfold lfeM
    split
    · omega
    · have := lfeM_le S n (e + 1)
      omega
def mkM1 (S : St) (e f n : Nat) (F N en sh : Int32) : St := up2 (up2 (up2 (up2 (up2 (fil S 2 f (f + n) (2 + nI e)) 5 e 1) 6 e F) 7 e N) 8 e en) 9 e sh
noncomputable def mkM (S : St) (e f n : Nat) (F N en sh : Int32) : St := up2 (mkM1 S e f n F N en sh) 10 e (mfold (mkM1 S e f n F N en sh 1) (16 * n) (16 * f) (mixI N (en - 16 * F)))
def wCr3 (S : St) (e : Nat) : Int32 := if e = 4 then -5 else nI e
noncomputable def tCr3 (S : St) (e f n : Nat) (F N en sh : Int32) : St := if e = 4 then S else mkM S e f n F N en sh
def wCreate (S : St) (z F N en sh : Int32) : Int32 := if bsM S z = true then -1 else if wrM F N en sh = true then -2 else if sysP S F.toNatClampNeg N.toNatClampNeg = false then -3 else if canM S sh F N = false then -4 else wCr3 S (lfeM S 0 4)
noncomputable def tCreate (S : St) (z F N en sh : Int32) : St := if bsM S z = true then S else if wrM F N en sh = true then S else if sysP S F.toNatClampNeg N.toNatClampNeg = false then S else if canM S sh F N = false then S else tCr3 S (lfeM S 0 4) F.toNatClampNeg N.toNatClampNeg F N en sh
set_option maxHeartbeats 4000000 in
set_option maxRecDepth 100000 in
theorem c_M_measure {l : Launch} {D : va_G} {ad : Nat → Nat} {ca : Nat → ClassId} {x : va_W} {S : St} {f n : Nat} {en : Int32} (hfn : f + n ≤ 16) : CtM l D ad ca x y_M_measure b_M_measure 6 (some .int) 1 [.ref (ad 0), .int (nI f), .int (nI n), .int en] S S (some (.int (mfold (S 1) (16 * n) (16 * f) (mixI (nI n) (en - 16 * nI f))))) := by
  refine ev_ent [some (.ref (ad 0)), some (.int (nI f)), some (.int (nI n)), some (.int en), none, none] rfl (by decide) (Nat.le_of_ble_eq_true rfl) rfl gTT (fun p e s m args below meth c A X hr hk => ?_)
  have loop : ∀ (r k : Nat) (u : Int32), k + r = 16 * (f + n) → mfold (S 1) (16 * n) (16 * f) (mixI (nI n) (en - 16 * nI f)) = mfold (S 1) r k u → EV p l e (rmd 1) s m args below meth c 0 0 (MQ below (QQ clX D A (ly_w lyM 14 ad ca S x) (some (.int (mfold (S 1) (16 * n) (16 * f) (mixI (nI n) (en - 16 * nI f)))))) args s 0 0 A) 6 D clX A s.heap (ly_w lyM 14 ad ca S x) 18 [some (.ref (ad 0)), some (.int (nI f)), some (.int (nI n)), some (.int en), some (.int u), some (.int (nI k))] [] := by
    intro r
    induction r with
    | zero =>
      intro k u q1 q2
      refine ev_iload X d_M_measure_18 rfl ?_
      refine ev_bipush (v := 16) X d_M_measure_20 (by decide) ?_
      refine ev_iload_n X d_M_measure_22 rfl ?_
      refine ev_iload_n X d_M_measure_23 rfl ?_
      refine ev_iadd X d_M_measure_24 ?_
      refine ev_imul X d_M_measure_25 ?_
      refine ev_icmp_ge (tgt := 49) X d_M_measure_26 (by decide) (fun h26 => ?_) (fun h26 => ?_)
      · refine ev_iload X d_M_measure_49 rfl ?_
        exact ev_iretL X hr hk d_M_measure_51 (by rw [q2, mfold_zero]) (rfl)
      · exact absurd (by rw [nI_add, w16l]; exact nI_le (by omega) (by omega)) h26
    | succ r ih =>
      intro k u q1 q2
      refine ev_iload X d_M_measure_18 rfl ?_
      refine ev_bipush (v := 16) X d_M_measure_20 (by decide) ?_
      refine ev_iload_n X d_M_measure_22 rfl ?_
      refine ev_iload_n X d_M_measure_23 rfl ?_
      refine ev_iadd X d_M_measure_24 ?_
      refine ev_imul X d_M_measure_25 ?_
      refine ev_icmp_ge (tgt := 49) X d_M_measure_26 (by decide) (fun h26 => ?_) (fun h26 => ?_)
      · exact absurd h26 (by rw [nI_add, w16l]; exact nI_ge (by omega) (by omega))
      · refine ev_iload X d_M_measure_29 rfl ?_
        refine ev_aload_n X d_M_measure_31 rfl ?_
        refine ev_getR X f_M_7 lo_mod rfl d_M_measure_32 ?_
        refine ev_iload X d_M_measure_35 rfl ?_
        refine ev_iald X lm_words rfl rfl (by omega) d_M_measure_37 ?_
        refine ev_cS1 X m_M_54 c_M_mix (by decide) (by decide) d_M_measure_38 rfl rfl (Nat.le_of_ble_eq_true rfl) ?_
        refine ev_istore X d_M_measure_41 (by decide) ?_
        refine ev_iinc (v := nI (k + 1)) X d_M_measure_43 rfl (nI_1 k) (by decide) ?_
        refine ev_goto (tgt := 18) X d_M_measure_46 (by decide) ?_
        exact ih (k + 1) _ (by omega) (by rw [q2, mfold_succ])
  refine ev_iload_n X d_M_measure_0 rfl ?_
  refine ev_iload_n X d_M_measure_1 rfl ?_
  refine ev_bipush (v := 16) X d_M_measure_2 (by decide) ?_
  refine ev_iload_n X d_M_measure_4 rfl ?_
  refine ev_imul X d_M_measure_5 ?_
  refine ev_isub X d_M_measure_6 ?_
  refine ev_cS1 X m_M_54 c_M_mix (by decide) (by decide) d_M_measure_7 rfl rfl (Nat.le_of_ble_eq_true rfl) ?_
  refine ev_istore X d_M_measure_10 (by decide) ?_
  refine ev_bipush (v := 16) X d_M_measure_12 (by decide) ?_
  refine ev_iload_n X d_M_measure_14 rfl ?_
  refine ev_imul X d_M_measure_15 ?_
  refine ev_topi (v := nI (16 * f)) (by rw [w16l]) ?_
  refine ev_istore X d_M_measure_16 (by decide) ?_
  exact loop (16 * n) (16 * f) _ (by omega) rfl
set_option maxHeartbeats 4000000 in
set_option maxRecDepth 100000 in
theorem c_M_create {l : Launch} {D : va_G} {ad : Nat → Nat} {ca : Nat → ClassId} {x : va_W} {S : St} {z F N en sh : Int32}  : CtM l D ad ca x y_M_create b_M_create 8 (some .int) 2 [.ref (ad 0), .int z, .int F, .int N, .int en, .int sh] S (tCreate S z F N en sh) (some (.int (wCreate S z F N en sh))) := by
  refine ev_ent [some (.ref (ad 0)), some (.int z), some (.int F), some (.int N), some (.int en), some (.int sh), none, none] rfl (by decide) (Nat.le_of_ble_eq_true rfl) rfl gTT (fun p e s m args below meth c A X hr hk => ?_)
  rcases Bool.eq_false_or_eq_true (wrM F N en sh) with hw | hw
  · refine ev_aload_n X d_M_create_0 rfl ?_
    refine ev_iload_n X d_M_create_1 rfl ?_
    refine ev_cV1 X m_M_66 c_M_busy lo_mod rfl rfl (by decide) (by decide) d_M_create_2 rfl rfl (Nat.le_of_ble_eq_true rfl) ?_
    refine ev_if_eqB (tgt := 10) X d_M_create_5 (by decide) (fun h5 => ?_) (fun h5 => ?_)
    · refine ev_aload_n X d_M_create_10 rfl ?_
      refine ev_iload_n X d_M_create_11 rfl ?_
      refine ev_iload_n X d_M_create_12 rfl ?_
      refine ev_iload X d_M_create_13 rfl ?_
      refine ev_iload X d_M_create_15 rfl ?_
      refine ev_cV1 X m_M_80 c_M_wrongRange lo_mod rfl rfl (by decide) (by decide) d_M_create_17 rfl rfl (Nat.le_of_ble_eq_true rfl) ?_
      refine ev_if_eqB (tgt := 26) X d_M_create_20 (by decide) (fun h20 => ?_) (fun h20 => ?_)
      · exact absurd (hw.symm.trans h20) (by decide)
      · refine ev_bipush (v := (-2)) X d_M_create_23 (by decide) ?_
        exact ev_iretL X hr hk d_M_create_25 (by simp [wCreate, h5, h20]) (by simp [tCreate, h5, h20])
    · refine ev_iconst (v := (-1)) X d_M_create_8 (by decide) ?_
      exact ev_iretL X hr hk d_M_create_9 (by simp [wCreate, h5]) (by simp [tCreate, h5])
  · obtain ⟨⟨f, n, rfl, rfl, hfn, hn1, hn8⟩, hsh⟩ := wrM_ex hw
    have ef : (nI f).toNatClampNeg = f := nI_clamp (by omega)
    have en' : (nI n).toNatClampNeg = n := nI_clamp (by omega)
    have loop3 : ∀ (e' : Nat), e' < 4 → wCreate S z (nI f) (nI n) en sh = nI e' → tCreate S z (nI f) (nI n) en sh = mkM S e' f n (nI f) (nI n) en sh → ∀ (r k : Nat), k + r = f + n → f ≤ k → EV p l e (rmd 2) s m args below meth c 0 0 (MQ below (QQ clX D A (ly_w lyM 14 ad ca (tCreate S z (nI f) (nI n) en sh) x) (some (.int (wCreate S z (nI f) (nI n) en sh)))) args s 0 0 A) 8 D clX A s.heap (ly_w lyM 14 ad ca (fil S 2 f k (2 + nI e')) x) 151 [some (.ref (ad 0)), some (.int z), some (.int (nI f)), some (.int (nI n)), some (.int en), some (.int sh), some (.int (nI e')), some (.int (nI k))] [] := by
      intro e' he4 g1 g2 r
      induction r with
      | zero =>
        intro k q1 q2
        refine ev_iload X d_M_create_151 rfl ?_
        refine ev_iload_n X d_M_create_153 rfl ?_
        refine ev_iload_n X d_M_create_154 rfl ?_
        refine ev_iadd X d_M_create_155 ?_
        refine ev_icmp_ge (tgt := 176) X d_M_create_156 (by decide) (fun h156 => ?_) (fun h156 => ?_)
        · refine ev_aload_n X d_M_create_176 rfl ?_
          refine ev_getR X f_M_22 lo_mod rfl d_M_create_177 ?_
          refine ev_iload X d_M_create_180 rfl ?_
          refine ev_iconst (v := 1) X d_M_create_182 (by decide) ?_
          refine ev_iast X lm_states rfl rfl he4 d_M_create_183 ?_
          refine ev_aload_n X d_M_create_184 rfl ?_
          refine ev_getR X f_M_25 lo_mod rfl d_M_create_185 ?_
          refine ev_iload X d_M_create_188 rfl ?_
          refine ev_iload_n X d_M_create_190 rfl ?_
          refine ev_iast X lm_firsts rfl rfl he4 d_M_create_191 ?_
          refine ev_aload_n X d_M_create_192 rfl ?_
          refine ev_getR X f_M_28 lo_mod rfl d_M_create_193 ?_
          refine ev_iload X d_M_create_196 rfl ?_
          refine ev_iload_n X d_M_create_198 rfl ?_
          refine ev_iast X lm_sizes rfl rfl he4 d_M_create_199 ?_
          refine ev_aload_n X d_M_create_200 rfl ?_
          refine ev_getR X f_M_31 lo_mod rfl d_M_create_201 ?_
          refine ev_iload X d_M_create_204 rfl ?_
          refine ev_iload X d_M_create_206 rfl ?_
          refine ev_iast X lm_entries rfl rfl he4 d_M_create_208 ?_
          refine ev_aload_n X d_M_create_209 rfl ?_
          refine ev_getR X f_M_34 lo_mod rfl d_M_create_210 ?_
          refine ev_iload X d_M_create_213 rfl ?_
          refine ev_iload X d_M_create_215 rfl ?_
          refine ev_iast X lm_shares rfl rfl he4 d_M_create_217 ?_
          refine ev_aload_n X d_M_create_218 rfl ?_
          refine ev_getR X f_M_37 lo_mod rfl d_M_create_219 ?_
          refine ev_iload X d_M_create_222 rfl ?_
          refine ev_aload_n X d_M_create_224 rfl ?_
          refine ev_iload_n X d_M_create_225 rfl ?_
          refine ev_iload_n X d_M_create_226 rfl ?_
          refine ev_iload X d_M_create_227 rfl ?_
          refine ev_cV1 X m_M_84 (c_M_measure hfn) lo_mod rfl rfl (by decide) (by decide) d_M_create_229 rfl rfl (Nat.le_of_ble_eq_true rfl) ?_
          refine ev_iast X lm_measures rfl rfl he4 d_M_create_232 ?_
          refine ev_iload X d_M_create_233 rfl ?_
          exact ev_iretL X hr hk d_M_create_235 (by rw [g1]) (by rw [g2, show k = f + n by omega]; rfl)
        · exact absurd (by rw [nI_add]; exact nI_le (by omega) (by omega)) h156
      | succ r ih =>
        intro k q1 q2
        refine ev_iload X d_M_create_151 rfl ?_
        refine ev_iload_n X d_M_create_153 rfl ?_
        refine ev_iload_n X d_M_create_154 rfl ?_
        refine ev_iadd X d_M_create_155 ?_
        refine ev_icmp_ge (tgt := 176) X d_M_create_156 (by decide) (fun h156 => ?_) (fun h156 => ?_)
        · exact absurd h156 (by rw [nI_add]; exact nI_ge (by omega) (by omega))
        · refine ev_aload_n X d_M_create_159 rfl ?_
          refine ev_getR X f_M_13 lo_mod rfl d_M_create_160 ?_
          refine ev_iload X d_M_create_163 rfl ?_
          refine ev_iconst (v := 2) X d_M_create_165 (by decide) ?_
          refine ev_iload X d_M_create_166 rfl ?_
          refine ev_iadd X d_M_create_168 ?_
          refine ev_iast X lm_owners rfl rfl (by omega) d_M_create_169 ?_
          refine ev_iinc (v := nI (k + 1)) X d_M_create_170 rfl (nI_1 k) (by decide) ?_
          refine ev_goto (tgt := 151) X d_M_create_173 (by decide) ?_
          rw [fil_up (by omega)]
          exact ih (k + 1) (by omega) (by omega)
    have loop2 : ∀ (r k : Nat), k + r = 4 → wCreate S z (nI f) (nI n) en sh = wCr3 S (lfeM S k r) → tCreate S z (nI f) (nI n) en sh = tCr3 S (lfeM S k r) f n (nI f) (nI n) en sh → EV p l e (rmd 2) s m args below meth c 0 0 (MQ below (QQ clX D A (ly_w lyM 14 ad ca (tCreate S z (nI f) (nI n) en sh) x) (some (.int (wCreate S z (nI f) (nI n) en sh)))) args s 0 0 A) 8 D clX A s.heap (ly_w lyM 14 ad ca S x) 117 [some (.ref (ad 0)), some (.int z), some (.int (nI f)), some (.int (nI n)), some (.int en), some (.int sh), some (.int (nI k)), none] [] := by
      intro r
      induction r with
      | zero =>
        intro k q1 g1 g2
        refine ev_iload X d_M_create_117 rfl ?_
        refine ev_iconst (v := 4) X d_M_create_119 (by decide) ?_
        refine ev_icmp_ge (tgt := 139) X d_M_create_120 (by decide) (fun h120 => ?_) (fun h120 => ?_)
        · refine ev_iload X d_M_create_139 rfl ?_
          refine ev_iconst (v := 4) X d_M_create_141 (by decide) ?_
          refine ev_icmp_ne (tgt := 148) X d_M_create_142 (by decide) (fun h142 => ?_) (fun h142 => ?_)
          · exact absurd (show nI k = 4 by rw [show k = 4 by omega]; rfl) h142
          · refine ev_bipush (v := (-5)) X d_M_create_145 (by decide) ?_
            exact ev_iretL X hr hk d_M_create_147 (by rw [g1, show k = 4 by omega]; rfl) (by rw [g2, show k = 4 by omega]; rfl)
        · exact absurd (nI_le (a := 4) (by omega) (by omega)) h120
      | succ r ih =>
        intro k q1 g1 g2
        refine ev_iload X d_M_create_117 rfl ?_
        refine ev_iconst (v := 4) X d_M_create_119 (by decide) ?_
        refine ev_icmp_ge (tgt := 139) X d_M_create_120 (by decide) (fun h120 => ?_) (fun h120 => ?_)
        · exact absurd h120 (nI_ge (b := 4) (by omega) (by decide))
        · refine ev_aload_n X d_M_create_123 rfl ?_
          refine ev_getR X f_M_22 lo_mod rfl d_M_create_124 ?_
          refine ev_iload X d_M_create_127 rfl ?_
          refine ev_iald X lm_states rfl rfl (show k < 4 by omega) d_M_create_129 ?_
          refine ev_if_eq (tgt := 139) X d_M_create_130 (by decide) (fun h130 => ?_) (fun h130 => ?_)
          · refine ev_iload X d_M_create_139 rfl ?_
            refine ev_iconst (v := 4) X d_M_create_141 (by decide) ?_
            refine ev_icmp_ne (tgt := 148) X d_M_create_142 (by decide) (fun h142 => ?_) (fun h142 => ?_)
            · refine ev_iload_n X d_M_create_148 rfl ?_
              refine ev_istore X d_M_create_149 (by decide) ?_
              refine ev_of (w1 := ly_w lyM 14 ad ca (fil S 2 f f (2 + nI k)) x) (by rw [fil_nil]) rfl rfl rfl ?_
              exact loop3 k (by omega) (by rw [g1]; simp [lfeM, h130, wCr3]; omega) (by rw [g2]; simp [lfeM, h130, tCr3]; omega) n f rfl (by omega)
            · exact absurd h142 (fun q => by have := (nI_eq (b := 4) (show k < 2 ^ 31 by omega) (by decide)).mp q; omega)
          · refine ev_iinc (v := nI (k + 1)) X d_M_create_133 rfl (nI_1 k) (by decide) ?_
            refine ev_goto (tgt := 117) X d_M_create_136 (by decide) ?_
            exact ih (k + 1) (by omega) (by rw [g1]; simp [lfeM, h130]) (by rw [g2]; simp [lfeM, h130])
    have loop1 : ∀ (r k : Nat), k + r = f + n → wCreate S z (nI f) (nI n) en sh = (if sysP S k r = false then -3 else if canM S sh (nI f) (nI n) = false then -4 else wCr3 S (lfeM S 0 4)) → tCreate S z (nI f) (nI n) en sh = (if sysP S k r = false then S else if canM S sh (nI f) (nI n) = false then S else tCr3 S (lfeM S 0 4) f n (nI f) (nI n) en sh) → EV p l e (rmd 2) s m args below meth c 0 0 (MQ below (QQ clX D A (ly_w lyM 14 ad ca (tCreate S z (nI f) (nI n) en sh) x) (some (.int (wCreate S z (nI f) (nI n) en sh)))) args s 0 0 A) 8 D clX A s.heap (ly_w lyM 14 ad ca S x) 29 [some (.ref (ad 0)), some (.int z), some (.int (nI f)), some (.int (nI n)), some (.int en), some (.int sh), some (.int (nI k)), none] [] := by
      intro r
      induction r with
      | zero =>
        intro k q1 g1 g2
        refine ev_iload X d_M_create_29 rfl ?_
        refine ev_iload_n X d_M_create_31 rfl ?_
        refine ev_iload_n X d_M_create_32 rfl ?_
        refine ev_iadd X d_M_create_33 ?_
        refine ev_icmp_ge (tgt := 57) X d_M_create_34 (by decide) (fun h34 => ?_) (fun h34 => ?_)
        · refine ev_iload X d_M_create_57 rfl ?_
          refine ev_if_lt (tgt := 114) X d_M_create_59 (by decide) (fun h59 => ?_) (fun h59 => ?_)
          · refine ev_iconst (v := 0) X d_M_create_114 (by decide) ?_
            refine ev_istore X d_M_create_115 (by decide) ?_
            exact loop2 4 0 rfl (by rw [g1]; simp [sysP, canM, h34, h59]) (by rw [g2]; simp [sysP, canM, h34, h59])
          · refine ev_iload X d_M_create_62 rfl ?_
            refine ev_sipush (v := 256) X d_M_create_64 (by decide) ?_
            refine ev_icmp_ge (tgt := 78) X d_M_create_67 (by decide) (fun h67 => ?_) (fun h67 => ?_)
            · refine ev_iload X d_M_create_78 rfl ?_
              refine ev_sipush (v := 256) X d_M_create_80 (by decide) ?_
              refine ev_isub X d_M_create_83 ?_
              have hcp : canP sh = _ := (by first | exact canP_ge h67 | exact canP_lt h67)
              refine ev_topi (v := canP sh) hcp.symm ?_
              refine ev_istore X d_M_create_84 (by decide) ?_
              refine ev_aload_n X d_M_create_86 rfl ?_
              refine ev_getR X f_M_13 lo_mod rfl d_M_create_87 ?_
              refine ev_iload X d_M_create_90 rfl ?_
              refine ev_iald X lm_owners rfl (inr_z (canP_in hsh (ne_m1 h59))) (inr_j (k := 16) rfl (by decide) (canP_in hsh (ne_m1 h59))) d_M_create_92 ?_
              refine ev_iconst (v := 1) X d_M_create_93 (by decide) ?_
              refine ev_icmp_ne (tgt := 111) X d_M_create_94 (by decide) (fun h94 => ?_) (fun h94 => ?_)
              · refine ev_bipush (v := (-4)) X d_M_create_111 (by decide) ?_
                exact ev_iretL X hr hk d_M_create_113 (by rw [g1]; simp [sysP, canM, h34, h59, h67, h94]) (by rw [g2]; simp [sysP, canM, h34, h59, h67, h94])
              · refine ev_iload X d_M_create_97 rfl ?_
                refine ev_iload_n X d_M_create_99 rfl ?_
                refine ev_icmp_lt (tgt := 114) X d_M_create_100 (by decide) (fun h100 => ?_) (fun h100 => ?_)
                · refine ev_iconst (v := 0) X d_M_create_114 (by decide) ?_
                  refine ev_istore X d_M_create_115 (by decide) ?_
                  exact loop2 4 0 rfl (by rw [g1]; simp [sysP, canM, h34, h59, h67, h94, h100]) (by rw [g2]; simp [sysP, canM, h34, h59, h67, h94, h100])
                · refine ev_iload X d_M_create_103 rfl ?_
                  refine ev_iload_n X d_M_create_105 rfl ?_
                  refine ev_iload_n X d_M_create_106 rfl ?_
                  refine ev_iadd X d_M_create_107 ?_
                  refine ev_icmp_ge (tgt := 114) X d_M_create_108 (by decide) (fun h108 => ?_) (fun h108 => ?_)
                  · refine ev_iconst (v := 0) X d_M_create_114 (by decide) ?_
                    refine ev_istore X d_M_create_115 (by decide) ?_
                    exact loop2 4 0 rfl (by rw [g1]; simp [sysP, canM, h34, h59, h67, h94, h100, h108]) (by rw [g2]; simp [sysP, canM, h34, h59, h67, h94, h100, h108])
                  · refine ev_bipush (v := (-4)) X d_M_create_111 (by decide) ?_
                    exact ev_iretL X hr hk d_M_create_113 (by rw [g1]; simp [sysP, canM, h34, h59, h67, h94, h100, h108]) (by rw [g2]; simp [sysP, canM, h34, h59, h67, h94, h100, h108])
            · refine ev_iload X d_M_create_70 rfl ?_
              refine ev_bipush (v := 16) X d_M_create_72 (by decide) ?_
              refine ev_idiv X d_M_create_74 (by decide) ?_
              refine ev_goto (tgt := 84) X d_M_create_75 (by decide) ?_
              have hcp : canP sh = _ := (by first | exact canP_ge h67 | exact canP_lt h67)
              refine ev_topi (v := canP sh) hcp.symm ?_
              refine ev_istore X d_M_create_84 (by decide) ?_
              refine ev_aload_n X d_M_create_86 rfl ?_
              refine ev_getR X f_M_13 lo_mod rfl d_M_create_87 ?_
              refine ev_iload X d_M_create_90 rfl ?_
              refine ev_iald X lm_owners rfl (inr_z (canP_in hsh (ne_m1 h59))) (inr_j (k := 16) rfl (by decide) (canP_in hsh (ne_m1 h59))) d_M_create_92 ?_
              refine ev_iconst (v := 1) X d_M_create_93 (by decide) ?_
              refine ev_icmp_ne (tgt := 111) X d_M_create_94 (by decide) (fun h94 => ?_) (fun h94 => ?_)
              · refine ev_bipush (v := (-4)) X d_M_create_111 (by decide) ?_
                exact ev_iretL X hr hk d_M_create_113 (by rw [g1]; simp [sysP, canM, h34, h59, h67, h94]) (by rw [g2]; simp [sysP, canM, h34, h59, h67, h94])
              · refine ev_iload X d_M_create_97 rfl ?_
                refine ev_iload_n X d_M_create_99 rfl ?_
                refine ev_icmp_lt (tgt := 114) X d_M_create_100 (by decide) (fun h100 => ?_) (fun h100 => ?_)
                · refine ev_iconst (v := 0) X d_M_create_114 (by decide) ?_
                  refine ev_istore X d_M_create_115 (by decide) ?_
                  exact loop2 4 0 rfl (by rw [g1]; simp [sysP, canM, h34, h59, h67, h94, h100]) (by rw [g2]; simp [sysP, canM, h34, h59, h67, h94, h100])
                · refine ev_iload X d_M_create_103 rfl ?_
                  refine ev_iload_n X d_M_create_105 rfl ?_
                  refine ev_iload_n X d_M_create_106 rfl ?_
                  refine ev_iadd X d_M_create_107 ?_
                  refine ev_icmp_ge (tgt := 114) X d_M_create_108 (by decide) (fun h108 => ?_) (fun h108 => ?_)
                  · refine ev_iconst (v := 0) X d_M_create_114 (by decide) ?_
                    refine ev_istore X d_M_create_115 (by decide) ?_
                    exact loop2 4 0 rfl (by rw [g1]; simp [sysP, canM, h34, h59, h67, h94, h100, h108]) (by rw [g2]; simp [sysP, canM, h34, h59, h67, h94, h100, h108])
                  · refine ev_bipush (v := (-4)) X d_M_create_111 (by decide) ?_
                    exact ev_iretL X hr hk d_M_create_113 (by rw [g1]; simp [sysP, canM, h34, h59, h67, h94, h100, h108]) (by rw [g2]; simp [sysP, canM, h34, h59, h67, h94, h100, h108])
        · exact absurd (by rw [nI_add]; exact nI_le (by omega) (by omega)) h34
      | succ r ih =>
        intro k q1 g1 g2
        refine ev_iload X d_M_create_29 rfl ?_
        refine ev_iload_n X d_M_create_31 rfl ?_
        refine ev_iload_n X d_M_create_32 rfl ?_
        refine ev_iadd X d_M_create_33 ?_
        refine ev_icmp_ge (tgt := 57) X d_M_create_34 (by decide) (fun h34 => ?_) (fun h34 => ?_)
        · exact absurd h34 (by rw [nI_add]; exact nI_ge (by omega) (by omega))
        · refine ev_aload_n X d_M_create_37 rfl ?_
          refine ev_getR X f_M_13 lo_mod rfl d_M_create_38 ?_
          refine ev_iload X d_M_create_41 rfl ?_
          refine ev_iald X lm_owners rfl rfl (by omega) d_M_create_43 ?_
          refine ev_iconst (v := 1) X d_M_create_44 (by decide) ?_
          refine ev_icmp_eq (tgt := 51) X d_M_create_45 (by decide) (fun h45 => ?_) (fun h45 => ?_)
          · refine ev_iinc (v := nI (k + 1)) X d_M_create_51 rfl (nI_1 k) (by decide) ?_
            refine ev_goto (tgt := 29) X d_M_create_54 (by decide) ?_
            exact ih (k + 1) (by omega) (by rw [g1]; simp [sysP, h45]) (by rw [g2]; simp [sysP, h45])
          · refine ev_bipush (v := (-3)) X d_M_create_48 (by decide) ?_
            exact ev_iretL X hr hk d_M_create_50 (by rw [g1]; simp [sysP, h45]) (by rw [g2]; simp [sysP, h45])
    refine ev_aload_n X d_M_create_0 rfl ?_
    refine ev_iload_n X d_M_create_1 rfl ?_
    refine ev_cV1 X m_M_66 c_M_busy lo_mod rfl rfl (by decide) (by decide) d_M_create_2 rfl rfl (Nat.le_of_ble_eq_true rfl) ?_
    refine ev_if_eqB (tgt := 10) X d_M_create_5 (by decide) (fun h5 => ?_) (fun h5 => ?_)
    · refine ev_aload_n X d_M_create_10 rfl ?_
      refine ev_iload_n X d_M_create_11 rfl ?_
      refine ev_iload_n X d_M_create_12 rfl ?_
      refine ev_iload X d_M_create_13 rfl ?_
      refine ev_iload X d_M_create_15 rfl ?_
      refine ev_cV1 X m_M_80 c_M_wrongRange lo_mod rfl rfl (by decide) (by decide) d_M_create_17 rfl rfl (Nat.le_of_ble_eq_true rfl) ?_
      refine ev_if_eqB (tgt := 26) X d_M_create_20 (by decide) (fun h20 => ?_) (fun h20 => ?_)
      · refine ev_iload_n X d_M_create_26 rfl ?_
        refine ev_istore X d_M_create_27 (by decide) ?_
        exact loop1 n f rfl (by simp [wCreate, h5, hw, ef, en']) (by simp [tCreate, h5, hw, ef, en'])
      · exact absurd (h20.symm.trans hw) (by decide)
    · refine ev_iconst (v := (-1)) X d_M_create_8 (by decide) ?_
      exact ev_iretL X hr hk d_M_create_9 (by simp [wCreate, h5]) (by simp [tCreate, h5])
end
section
def rgM (S : St) (e k : Nat) (v : Int32) : St := fun c j => if c = 13 ∧ 8 * e ≤ j ∧ j < 8 * e + k then (if j = 8 * e + 1 then v else 0) else S c j
theorem rgM_nil (S : St) (e : Nat) (v : Int32) : rgM S e 0 v = S := by
  funext c j
  unfold rgM
  rw [if_neg (by omega)]
theorem rgM_up {S : St} {e k : Nat} {v : Int32} : up2 (rgM S e k v) 13 (8 * e + k) (if k = 1 then v else 0) = rgM S e (k + 1) v := by
  funext c j
  rw [up2_at]
  unfold rgM
  by_cases h1 : c = 13 ∧ j = 8 * e + k
  · rw [if_pos h1, if_pos (show c = 13 ∧ 8 * e ≤ j ∧ j < 8 * e + (k + 1) from ⟨h1.1, by omega, by omega⟩)]
    by_cases h2 : k = 1
    · rw [if_pos h2, if_pos (show j = 8 * e + 1 by omega)]
    · rw [if_neg h2, if_neg (show ¬ j = 8 * e + 1 by omega)]
  · rw [if_neg h1]
    by_cases h2 : c = 13 ∧ 8 * e ≤ j ∧ j < 8 * e + k
    · rw [if_pos h2, if_pos (show c = 13 ∧ 8 * e ≤ j ∧ j < 8 * e + (k + 1) from ⟨h2.1, h2.2.1, by omega⟩)]
    · rw [if_neg h2, if_neg (show ¬ (c = 13 ∧ 8 * e ≤ j ∧ j < 8 * e + (k + 1)) by omega)]
theorem k32_n {q : Int32} {k : Nat} (hq : inr q 4 = true) (hk : k < 8) : 8 * q + nI k = nI (8 * q.toNatClampNeg + k) ∧ 8 * q.toNatClampNeg + k < 32 := by
  have h := k32_in hq (inr_nI (k := 8) hk (by decide))
  rw [nI_clamp (by omega)] at h
  exact h
def tGo (S : St) (z q : Int32) : St := up2 (up2 S 5 q.toNatClampNeg 2) 4 z.toNatClampNeg q
def tSt (S : St) (q v : Int32) : St := up2 (rgM S q.toNatClampNeg 8 v) 12 q.toNatClampNeg (rgM S q.toNatClampNeg 8 v 8 q.toNatClampNeg)
def wRun (S : St) (z q : Int32) : Int32 := if bsM S z = true then -1 else if thM S q = false then -2 else if S 5 q.toNatClampNeg = 1 then 0 else if S 5 q.toNatClampNeg = 3 then 0 else -2
def tRun (S : St) (z q v : Int32) : St := if bsM S z = true then S else if thM S q = false then S else if S 5 q.toNatClampNeg = 1 then tGo (tSt S q v) z q else if S 5 q.toNatClampNeg = 3 then tGo S z q else S
set_option maxHeartbeats 4000000 in
set_option maxRecDepth 100000 in
theorem c_M_run {l : Launch} {D : va_G} {ad : Nat → Nat} {ca : Nat → ClassId} {x : va_W} {S : St} {z q v : Int32}  : CtM l D ad ca x y_M_run b_M_run 5 (some .int) 2 [.ref (ad 0), .int z, .int q, .int v] S (tRun S z q v) (some (.int (wRun S z q))) := by
  refine ev_ent [some (.ref (ad 0)), some (.int z), some (.int q), some (.int v), none] rfl (by decide) (Nat.le_of_ble_eq_true rfl) rfl gTT (fun p e s m args below meth c A X hr hk => ?_)
  have loop : inr z 2 = true → inr q 4 = true → wRun S z q = 0 → tRun S z q v = tGo (tSt S q v) z q → ∀ (r k : Nat), k + r = 8 → EV p l e (rmd 2) s m args below meth c 0 0 (MQ below (QQ clX D A (ly_w lyM 14 ad ca (tRun S z q v) x) (some (.int (wRun S z q)))) args s 0 0 A) 5 D clX A s.heap (ly_w lyM 14 ad ca (rgM S q.toNatClampNeg k v) x) 54 [some (.ref (ad 0)), some (.int z), some (.int q), some (.int v), some (.int (nI k))] [] := by
    intro hz hq g1 g2 r
    induction r with
    | zero =>
      intro k q1
      refine ev_iload X d_M_run_54 rfl ?_
      refine ev_bipush (v := 8) X d_M_run_56 (by decide) ?_
      refine ev_icmp_ge (tgt := 90) X d_M_run_58 (by decide) (fun h58 => ?_) (fun h58 => ?_)
      · refine ev_aload_n X d_M_run_90 rfl ?_
        refine ev_getR X f_M_43 lo_mod rfl d_M_run_91 ?_
        refine ev_iload_n X d_M_run_94 rfl ?_
        refine ev_aload_n X d_M_run_95 rfl ?_
        refine ev_getR X f_M_31 lo_mod rfl d_M_run_96 ?_
        refine ev_iload_n X d_M_run_99 rfl ?_
        refine ev_iald X lm_entries rfl (inr_z hq) (inr_j (k := 4) rfl (by decide) hq) d_M_run_100 ?_
        refine ev_iast X lm_counters rfl (inr_z hq) (inr_j (k := 4) rfl (by decide) hq) d_M_run_101 ?_
        refine ev_aload_n X d_M_run_102 rfl ?_
        refine ev_getR X f_M_22 lo_mod rfl d_M_run_103 ?_
        refine ev_iload_n X d_M_run_106 rfl ?_
        refine ev_iconst (v := 2) X d_M_run_107 (by decide) ?_
        refine ev_iast X lm_states rfl (inr_z hq) (inr_j (k := 4) rfl (by decide) hq) d_M_run_108 ?_
        refine ev_aload_n X d_M_run_109 rfl ?_
        refine ev_getR X f_M_19 lo_mod rfl d_M_run_110 ?_
        refine ev_iload_n X d_M_run_113 rfl ?_
        refine ev_iload_n X d_M_run_114 rfl ?_
        refine ev_iast X lm_runs rfl (inr_z hz) (inr_j (k := 2) rfl (by decide) hz) d_M_run_115 ?_
        refine ev_iconst (v := 0) X d_M_run_116 (by decide) ?_
        exact ev_iretL X hr hk d_M_run_117 (by rw [g1]) (by rw [g2, show k = 8 by omega]; rfl)
      · exact absurd (nI_le (a := 8) (by omega) (by omega)) h58
    | succ r ih =>
      intro k q1
      refine ev_iload X d_M_run_54 rfl ?_
      refine ev_bipush (v := 8) X d_M_run_56 (by decide) ?_
      refine ev_icmp_ge (tgt := 90) X d_M_run_58 (by decide) (fun h58 => ?_) (fun h58 => ?_)
      · exact absurd h58 (nI_ge (b := 8) (by omega) (by decide))
      · refine ev_aload_n X d_M_run_61 rfl ?_
        refine ev_getR X f_M_46 lo_mod rfl d_M_run_62 ?_
        refine ev_bipush (v := 8) X d_M_run_65 (by decide) ?_
        refine ev_iload_n X d_M_run_67 rfl ?_
        refine ev_imul X d_M_run_68 ?_
        refine ev_iload X d_M_run_69 rfl ?_
        refine ev_iadd X d_M_run_71 ?_
        refine ev_iload X d_M_run_72 rfl ?_
        refine ev_iconst (v := 1) X d_M_run_74 (by decide) ?_
        refine ev_icmp_ne (tgt := 82) X d_M_run_75 (by decide) (fun h75 => ?_) (fun h75 => ?_)
        · have hk1 : ¬ k = 1 := fun q => h75 (by rw [q]; rfl)
          refine ev_iconst (v := 0) X d_M_run_82 (by decide) ?_
          refine ev_topi (v := if k = 1 then v else 0) (by simp [hk1]) ?_
          refine ev_iast X lm_r rfl (k32_n hq (by omega)).1 (k32_n hq (by omega)).2 d_M_run_83 ?_
          refine ev_iinc (v := nI (k + 1)) X d_M_run_84 rfl (nI_1 k) (by decide) ?_
          refine ev_goto (tgt := 54) X d_M_run_87 (by decide) ?_
          rw [rgM_up]
          exact ih (k + 1) (by omega)
        · have hk1 : k = 1 := (nI_eq (b := 1) (by omega) (by decide)).mp h75
          refine ev_iload_n X d_M_run_78 rfl ?_
          refine ev_goto (tgt := 83) X d_M_run_79 (by decide) ?_
          refine ev_topi (v := if k = 1 then v else 0) (by simp [hk1]) ?_
          refine ev_iast X lm_r rfl (k32_n hq (by omega)).1 (k32_n hq (by omega)).2 d_M_run_83 ?_
          refine ev_iinc (v := nI (k + 1)) X d_M_run_84 rfl (nI_1 k) (by decide) ?_
          refine ev_goto (tgt := 54) X d_M_run_87 (by decide) ?_
          rw [rgM_up]
          exact ih (k + 1) (by omega)
  refine ev_aload_n X d_M_run_0 rfl ?_
  refine ev_iload_n X d_M_run_1 rfl ?_
  refine ev_cV1 X m_M_66 c_M_busy lo_mod rfl rfl (by decide) (by decide) d_M_run_2 rfl rfl (Nat.le_of_ble_eq_true rfl) ?_
  refine ev_if_eqB (tgt := 10) X d_M_run_5 (by decide) (fun h5 => ?_) (fun h5 => ?_)
  · refine ev_aload_n X d_M_run_10 rfl ?_
    refine ev_iload_n X d_M_run_11 rfl ?_
    refine ev_cV1 X m_M_88 c_M_there lo_mod rfl rfl (by decide) (by decide) d_M_run_12 rfl rfl (Nat.le_of_ble_eq_true rfl) ?_
    refine ev_if_eqB (tgt := 38) X d_M_run_15 (by decide) (fun h15 => ?_) (fun h15 => ?_)
    · refine ev_bipush (v := (-2)) X d_M_run_38 (by decide) ?_
      exact ev_iretL X hr hk d_M_run_40 (by simp [wRun, h5, h15]) (by simp [tRun, tGo, h5, h15])
    · refine ev_aload_n X d_M_run_18 rfl ?_
      refine ev_getR X f_M_22 lo_mod rfl d_M_run_19 ?_
      refine ev_iload_n X d_M_run_22 rfl ?_
      refine ev_iald X lm_states rfl (inr_z (thM_in h15)) (inr_j (k := 4) rfl (by decide) (thM_in h15)) d_M_run_23 ?_
      refine ev_iconst (v := 1) X d_M_run_24 (by decide) ?_
      refine ev_icmp_eq (tgt := 41) X d_M_run_25 (by decide) (fun h25 => ?_) (fun h25 => ?_)
      · refine ev_aload_n X d_M_run_41 rfl ?_
        refine ev_getR X f_M_22 lo_mod rfl d_M_run_42 ?_
        refine ev_iload_n X d_M_run_45 rfl ?_
        refine ev_iald X lm_states rfl (inr_z (thM_in h15)) (inr_j (k := 4) rfl (by decide) (thM_in h15)) d_M_run_46 ?_
        refine ev_iconst (v := 1) X d_M_run_47 (by decide) ?_
        refine ev_icmp_ne (tgt := 102) X d_M_run_48 (by decide) (fun h48 => ?_) (fun h48 => ?_)
        · exact absurd h25 h48
        · refine ev_iconst (v := 0) X d_M_run_51 (by decide) ?_
          refine ev_istore X d_M_run_52 (by decide) ?_
          refine ev_of (w1 := ly_w lyM 14 ad ca (rgM S q.toNatClampNeg 0 v) x) (by rw [rgM_nil]) rfl rfl rfl ?_
          exact loop (bsM_in h5) (thM_in h15) (by simp [wRun, h5, h15, h25]) (by simp [tRun, h5, h15, h25]) 8 0 rfl
      · refine ev_aload_n X d_M_run_28 rfl ?_
        refine ev_getR X f_M_22 lo_mod rfl d_M_run_29 ?_
        refine ev_iload_n X d_M_run_32 rfl ?_
        refine ev_iald X lm_states rfl (inr_z (thM_in h15)) (inr_j (k := 4) rfl (by decide) (thM_in h15)) d_M_run_33 ?_
        refine ev_iconst (v := 3) X d_M_run_34 (by decide) ?_
        refine ev_icmp_eq (tgt := 41) X d_M_run_35 (by decide) (fun h35 => ?_) (fun h35 => ?_)
        · refine ev_aload_n X d_M_run_41 rfl ?_
          refine ev_getR X f_M_22 lo_mod rfl d_M_run_42 ?_
          refine ev_iload_n X d_M_run_45 rfl ?_
          refine ev_iald X lm_states rfl (inr_z (thM_in h15)) (inr_j (k := 4) rfl (by decide) (thM_in h15)) d_M_run_46 ?_
          refine ev_iconst (v := 1) X d_M_run_47 (by decide) ?_
          refine ev_icmp_ne (tgt := 102) X d_M_run_48 (by decide) (fun h48 => ?_) (fun h48 => ?_)
          · refine ev_aload_n X d_M_run_102 rfl ?_
            refine ev_getR X f_M_22 lo_mod rfl d_M_run_103 ?_
            refine ev_iload_n X d_M_run_106 rfl ?_
            refine ev_iconst (v := 2) X d_M_run_107 (by decide) ?_
            refine ev_iast X lm_states rfl (inr_z (thM_in h15)) (inr_j (k := 4) rfl (by decide) (thM_in h15)) d_M_run_108 ?_
            refine ev_aload_n X d_M_run_109 rfl ?_
            refine ev_getR X f_M_19 lo_mod rfl d_M_run_110 ?_
            refine ev_iload_n X d_M_run_113 rfl ?_
            refine ev_iload_n X d_M_run_114 rfl ?_
            refine ev_iast X lm_runs rfl (inr_z (bsM_in h5)) (inr_j (k := 2) rfl (by decide) (bsM_in h5)) d_M_run_115 ?_
            refine ev_iconst (v := 0) X d_M_run_116 (by decide) ?_
            exact ev_iretL X hr hk d_M_run_117 (by simp [wRun, h5, h15, h25, h35, h48]) (by simp [tRun, tGo, h5, h15, h25, h35, h48])
          · exact absurd h48 h25
        · refine ev_bipush (v := (-2)) X d_M_run_38 (by decide) ?_
          exact ev_iretL X hr hk d_M_run_40 (by simp [wRun, h5, h15, h25, h35]) (by simp [tRun, tGo, h5, h15, h25, h35])
  · refine ev_iconst (v := (-1)) X d_M_run_8 (by decide) ?_
    exact ev_iretL X hr hk d_M_run_9 (by simp [wRun, h5]) (by simp [tRun, tGo, h5])
noncomputable def wkM (S : St) (q o : Int32) (a b : Nat) (t h : Int32) : St :=
  if o = 1 then up2 S 13 a t else if o = 2 then up2 S 13 a (S 13 a + S 13 b) else if o = 3 then up2 S 13 a (S 13 a ^^^ S 13 b) else if o = 4 then up2 S 13 a (S 1 t.toNatClampNeg)
  else if o = 5 then up2 S 1 t.toNatClampNeg (S 13 a) else if o = 7 then up2 S 13 a (h + 1) else if o = 8 then up2 S 13 a (prfS (S 0 0) (S 10 (S 4 q.toNatClampNeg).toNatClampNeg) (S 13 b))
  else if o = 9 then up2 S 13 a (secS (S 0 0) (S 10 (S 4 q.toNatClampNeg).toNatClampNeg)) else if o = 10 then lvM S q.toNatClampNeg 3 else S
def ixA (S : St) (q v : Int32) : Nat := 8 * (S 4 q.toNatClampNeg).toNatClampNeg + (fA v).toNatClampNeg
def ixB (S : St) (q v : Int32) : Nat := 8 * (S 4 q.toNatClampNeg).toNatClampNeg + (fB v).toNatClampNeg
def atM (S : St) (q v : Int32) : Int32 := S 13 (ixB S q v) + fI v
def pcM (S : St) (q v h : Int32) : Int32 := if fO v = 7 then atM S q v else if fO v = 6 ∧ S 13 (ixA S q v) = 0 then h + 1 + fI v else h + 1
noncomputable def onW (S : St) (q v h : Int32) : St :=
  if fO v = 0 then edM S q.toNatClampNeg 4 (S 13 (ixA S q v)) else if ¬ fO v ≤ 10 then edM S q.toNatClampNeg 5 4
  else if fO v = 4 ∧ alM S q (atM S q v) 1 = false then edM S q.toNatClampNeg 5 2 else if fO v = 5 ∧ alM S q (atM S q v) 2 = false then edM S q.toNatClampNeg 5 3
  else wkM (up2 S 12 (S 4 q.toNatClampNeg).toNatClampNeg (pcM S q v h)) q (fO v) (ixA S q v) (ixB S q v) (atM S q v) h
noncomputable def onM (S : St) (q : Int32) : St :=
  if alM S q (S 12 (S 4 q.toNatClampNeg).toNatClampNeg) 4 = true then onW S q (S 1 (S 12 (S 4 q.toNatClampNeg).toNatClampNeg).toNatClampNeg) (S 12 (S 4 q.toNatClampNeg).toNatClampNeg) else edM S q.toNatClampNeg 5 1
theorem sw_out110 {z : Int32} (h1 : ¬ z = 1) (h2 : ¬ z = 2) (h3 : ¬ z = 3) (h4 : ¬ z = 4) (h5 : ¬ z = 5) (h6 : ¬ z = 6) (h7 : ¬ z = 7) (h8 : ¬ z = 8) (h9 : ¬ z = 9) (h10 : ¬ z = 10) : z.toInt < 1 ∨ 10 < z.toInt := by
  have a1 := lv_neT h1 (a := 1) (by decide)
  have a2 := lv_neT h2 (a := 2) (by decide)
  have a3 := lv_neT h3 (a := 3) (by decide)
  have a4 := lv_neT h4 (a := 4) (by decide)
  have a5 := lv_neT h5 (a := 5) (by decide)
  have a6 := lv_neT h6 (a := 6) (by decide)
  have a7 := lv_neT h7 (a := 7) (by decide)
  have a8 := lv_neT h8 (a := 8) (by decide)
  have a9 := lv_neT h9 (a := 9) (by decide)
  have a10 := lv_neT h10 (a := 10) (by decide)
  omega
set_option maxHeartbeats 4000000 in
set_option maxRecDepth 100000 in
theorem c_M_work {l : Launch} {D : va_G} {ad : Nat → Nat} {ca : Nat → ClassId} {x : va_W} {S : St} {q o t h : Int32} {a b : Nat} (hq : inr q 2 = true) (he : inr (S 4 q.toNatClampNeg) 4 = true) (ha : a < 32) (hb : b < 32) (ht : o = 4 ∨ o = 5 → inr t 256 = true) : CtM l D ad ca x y_M_work b_M_work 8 none 2 [.ref (ad 0), .int q, .int o, .int (nI a), .int (nI b), .int t, .int h] S (wkM S q o a b t h) none := by
  refine ev_ent [some (.ref (ad 0)), some (.int q), some (.int o), some (.int (nI a)), some (.int (nI b)), some (.int t), some (.int h), none] rfl (by decide) (Nat.le_of_ble_eq_true rfl) rfl gTT (fun p e s m args below meth c A X hr hk => ?_)
  refine ev_aload_n X d_M_work_0 rfl ?_
  refine ev_getR X f_M_19 lo_mod rfl d_M_work_1 ?_
  refine ev_iload_n X d_M_work_4 rfl ?_
  refine ev_iald X lm_runs rfl (inr_z hq) (inr_j (k := 2) rfl (by decide) hq) d_M_work_5 ?_
  refine ev_istore X d_M_work_6 (by decide) ?_
  refine ev_iload_n X d_M_work_8 rfl ?_
  by_cases q1 : o = 1
  · refine ev_topi (v := 1) q1 ?_
    refine ev_tableIn (tgt := 64) X d_M_work_9 (by decide) (by decide) rfl (by decide) ?_
    refine ev_aload_n X d_M_work_64 rfl ?_
    refine ev_getR X f_M_46 lo_mod rfl d_M_work_65 ?_
    refine ev_iload_n X d_M_work_68 rfl ?_
    refine ev_iload X d_M_work_69 rfl ?_
    refine ev_iast X lm_r rfl rfl ha d_M_work_71 ?_
    refine ev_goto (tgt := 230) X d_M_work_72 (by decide) ?_
    exact ev_vretL X hr hk d_M_work_230 (by simp [wkM, secS, q1])
  · by_cases q2 : o = 2
    · refine ev_topi (v := 2) q2 ?_
      refine ev_tableIn (tgt := 75) X d_M_work_9 (by decide) (by decide) rfl (by decide) ?_
      refine ev_aload_n X d_M_work_75 rfl ?_
      refine ev_getR X f_M_46 lo_mod rfl d_M_work_76 ?_
      refine ev_iload_n X d_M_work_79 rfl ?_
      refine ev_aload_n X d_M_work_80 rfl ?_
      refine ev_getR X f_M_46 lo_mod rfl d_M_work_81 ?_
      refine ev_iload_n X d_M_work_84 rfl ?_
      refine ev_iald X lm_r rfl rfl ha d_M_work_85 ?_
      refine ev_aload_n X d_M_work_86 rfl ?_
      refine ev_getR X f_M_46 lo_mod rfl d_M_work_87 ?_
      refine ev_iload X d_M_work_90 rfl ?_
      refine ev_iald X lm_r rfl rfl hb d_M_work_92 ?_
      refine ev_iadd X d_M_work_93 ?_
      refine ev_iast X lm_r rfl rfl ha d_M_work_94 ?_
      refine ev_goto (tgt := 230) X d_M_work_95 (by decide) ?_
      exact ev_vretL X hr hk d_M_work_230 (by simp [wkM, secS, q1, q2])
    · by_cases q3 : o = 3
      · refine ev_topi (v := 3) q3 ?_
        refine ev_tableIn (tgt := 98) X d_M_work_9 (by decide) (by decide) rfl (by decide) ?_
        refine ev_aload_n X d_M_work_98 rfl ?_
        refine ev_getR X f_M_46 lo_mod rfl d_M_work_99 ?_
        refine ev_iload_n X d_M_work_102 rfl ?_
        refine ev_aload_n X d_M_work_103 rfl ?_
        refine ev_getR X f_M_46 lo_mod rfl d_M_work_104 ?_
        refine ev_iload_n X d_M_work_107 rfl ?_
        refine ev_iald X lm_r rfl rfl ha d_M_work_108 ?_
        refine ev_aload_n X d_M_work_109 rfl ?_
        refine ev_getR X f_M_46 lo_mod rfl d_M_work_110 ?_
        refine ev_iload X d_M_work_113 rfl ?_
        refine ev_iald X lm_r rfl rfl hb d_M_work_115 ?_
        refine ev_ixor X d_M_work_116 ?_
        refine ev_iast X lm_r rfl rfl ha d_M_work_117 ?_
        refine ev_goto (tgt := 230) X d_M_work_118 (by decide) ?_
        exact ev_vretL X hr hk d_M_work_230 (by simp [wkM, secS, q1, q2, q3])
      · by_cases q4 : o = 4
        · refine ev_topi (v := 4) q4 ?_
          refine ev_tableIn (tgt := 121) X d_M_work_9 (by decide) (by decide) rfl (by decide) ?_
          refine ev_aload_n X d_M_work_121 rfl ?_
          refine ev_getR X f_M_46 lo_mod rfl d_M_work_122 ?_
          refine ev_iload_n X d_M_work_125 rfl ?_
          refine ev_aload_n X d_M_work_126 rfl ?_
          refine ev_getR X f_M_7 lo_mod rfl d_M_work_127 ?_
          refine ev_iload X d_M_work_130 rfl ?_
          refine ev_iald X lm_words rfl (inr_z (ht (Or.inl q4))) (inr_j (k := 256) rfl (by decide) (ht (Or.inl q4))) d_M_work_132 ?_
          refine ev_iast X lm_r rfl rfl ha d_M_work_133 ?_
          refine ev_goto (tgt := 230) X d_M_work_134 (by decide) ?_
          exact ev_vretL X hr hk d_M_work_230 (by simp [wkM, secS, q1, q2, q3, q4])
        · by_cases q5 : o = 5
          · refine ev_topi (v := 5) q5 ?_
            refine ev_tableIn (tgt := 137) X d_M_work_9 (by decide) (by decide) rfl (by decide) ?_
            refine ev_aload_n X d_M_work_137 rfl ?_
            refine ev_getR X f_M_7 lo_mod rfl d_M_work_138 ?_
            refine ev_iload X d_M_work_141 rfl ?_
            refine ev_aload_n X d_M_work_143 rfl ?_
            refine ev_getR X f_M_46 lo_mod rfl d_M_work_144 ?_
            refine ev_iload_n X d_M_work_147 rfl ?_
            refine ev_iald X lm_r rfl rfl ha d_M_work_148 ?_
            refine ev_iast X lm_words rfl (inr_z (ht (Or.inr q5))) (inr_j (k := 256) rfl (by decide) (ht (Or.inr q5))) d_M_work_149 ?_
            refine ev_goto (tgt := 230) X d_M_work_150 (by decide) ?_
            exact ev_vretL X hr hk d_M_work_230 (by simp [wkM, secS, q1, q2, q3, q4, q5])
          · by_cases q6 : o = 6
            · refine ev_topi (v := 6) q6 ?_
              refine ev_tableIn (tgt := 230) X d_M_work_9 (by decide) (by decide) rfl (by decide) ?_
              exact ev_vretL X hr hk d_M_work_230 (by simp [wkM, secS, q1, q2, q3, q4, q5, q6])
            · by_cases q7 : o = 7
              · refine ev_topi (v := 7) q7 ?_
                refine ev_tableIn (tgt := 153) X d_M_work_9 (by decide) (by decide) rfl (by decide) ?_
                refine ev_aload_n X d_M_work_153 rfl ?_
                refine ev_getR X f_M_46 lo_mod rfl d_M_work_154 ?_
                refine ev_iload_n X d_M_work_157 rfl ?_
                refine ev_iload X d_M_work_158 rfl ?_
                refine ev_iconst (v := 1) X d_M_work_160 (by decide) ?_
                refine ev_iadd X d_M_work_161 ?_
                refine ev_iast X lm_r rfl rfl ha d_M_work_162 ?_
                refine ev_goto (tgt := 230) X d_M_work_163 (by decide) ?_
                exact ev_vretL X hr hk d_M_work_230 (by simp [wkM, secS, q1, q2, q3, q4, q5, q6, q7])
              · by_cases q8 : o = 8
                · refine ev_topi (v := 8) q8 ?_
                  refine ev_tableIn (tgt := 166) X d_M_work_9 (by decide) (by decide) rfl (by decide) ?_
                  refine ev_aload_n X d_M_work_166 rfl ?_
                  refine ev_getR X f_M_46 lo_mod rfl d_M_work_167 ?_
                  refine ev_iload_n X d_M_work_170 rfl ?_
                  refine ev_aload_n X d_M_work_171 rfl ?_
                  refine ev_aload_n X d_M_work_172 rfl ?_
                  refine ev_getR X f_M_37 lo_mod rfl d_M_work_173 ?_
                  refine ev_iload X d_M_work_176 rfl ?_
                  refine ev_iald X lm_measures rfl (inr_z he) (inr_j (k := 4) rfl (by decide) he) d_M_work_178 ?_
                  refine ev_aload_n X d_M_work_179 rfl ?_
                  refine ev_getR X f_M_46 lo_mod rfl d_M_work_180 ?_
                  refine ev_iload X d_M_work_183 rfl ?_
                  refine ev_iald X lm_r rfl rfl hb d_M_work_185 ?_
                  refine ev_cV1 X m_M_103 c_M_proof lo_mod rfl rfl (by decide) (by decide) d_M_work_186 rfl rfl (Nat.le_of_ble_eq_true rfl) ?_
                  refine ev_iast X lm_r rfl rfl ha d_M_work_189 ?_
                  refine ev_goto (tgt := 230) X d_M_work_190 (by decide) ?_
                  exact ev_vretL X hr hk d_M_work_230 (by simp [wkM, secS, q1, q2, q3, q4, q5, q6, q7, q8])
                · by_cases q9 : o = 9
                  · refine ev_topi (v := 9) q9 ?_
                    refine ev_tableIn (tgt := 193) X d_M_work_9 (by decide) (by decide) rfl (by decide) ?_
                    refine ev_aload_n X d_M_work_193 rfl ?_
                    refine ev_getR X f_M_46 lo_mod rfl d_M_work_194 ?_
                    refine ev_iload_n X d_M_work_197 rfl ?_
                    refine ev_aload_n X d_M_work_198 rfl ?_
                    refine ev_getI X f_M_49 lo_mod rfl d_M_work_199 ?_
                    refine ev_bipush (v := 7) X d_M_work_202 (by decide) ?_
                    refine ev_cS1 X m_M_54 c_M_mix (by decide) (by decide) d_M_work_204 rfl rfl (Nat.le_of_ble_eq_true rfl) ?_
                    refine ev_aload_n X d_M_work_207 rfl ?_
                    refine ev_getR X f_M_37 lo_mod rfl d_M_work_208 ?_
                    refine ev_iload X d_M_work_211 rfl ?_
                    refine ev_iald X lm_measures rfl (inr_z he) (inr_j (k := 4) rfl (by decide) he) d_M_work_213 ?_
                    refine ev_cS1 X m_M_54 c_M_mix (by decide) (by decide) d_M_work_214 rfl rfl (Nat.le_of_ble_eq_true rfl) ?_
                    refine ev_iast X lm_r rfl rfl ha d_M_work_217 ?_
                    refine ev_goto (tgt := 230) X d_M_work_218 (by decide) ?_
                    exact ev_vretL X hr hk d_M_work_230 (by simp [wkM, secS, q1, q2, q3, q4, q5, q6, q7, q8, q9])
                  · by_cases q10 : o = 10
                    · refine ev_topi (v := 10) q10 ?_
                      refine ev_tableIn (tgt := 221) X d_M_work_9 (by decide) (by decide) rfl (by decide) ?_
                      refine ev_aload_n X d_M_work_221 rfl ?_
                      refine ev_iload_n X d_M_work_222 rfl ?_
                      refine ev_iconst (v := 3) X d_M_work_223 (by decide) ?_
                      refine ev_cV0 X m_M_91 (c_M_leave hq he) lo_mod rfl rfl (by decide) (by decide) d_M_work_224 rfl rfl (Nat.le_of_ble_eq_true rfl) ?_
                      refine ev_goto (tgt := 230) X d_M_work_227 (by decide) ?_
                      exact ev_vretL X hr hk d_M_work_230 (by simp [wkM, secS, q1, q2, q3, q4, q5, q6, q7, q8, q9, q10])
                    · refine ev_tableOut (tgt := 230) X d_M_work_9 (sw_out110 q1 q2 q3 q4 q5 q6 q7 q8 q9 q10) (by decide) ?_
                      exact ev_vretL X hr hk d_M_work_230 (by simp [wkM, q1, q2, q3, q4, q5, q6, q7, q8, q9, q10])
end
section
set_option maxHeartbeats 4000000 in
set_option maxRecDepth 100000 in
theorem c_M_once {l : Launch} {D : va_G} {ad : Nat → Nat} {ca : Nat → ClassId} {x : va_W} {S : St} {q : Int32} (hq : inr q 2 = true) (he : inr (S 4 q.toNatClampNeg) 4 = true) : CtM l D ad ca x y_M_once b_M_once 10 none 3 [.ref (ad 0), .int q] S (onM S q) none := by
  refine ev_ent [some (.ref (ad 0)), some (.int q), none, none, none, none, none, none, none, none] rfl (by decide) (Nat.le_of_ble_eq_true rfl) rfl gTT (fun p e s m args below meth c A X hr hk => ?_)
  refine ev_aload_n X d_M_once_0 rfl ?_
  refine ev_getR X f_M_19 lo_mod rfl d_M_once_1 ?_
  refine ev_iload_n X d_M_once_4 rfl ?_
  refine ev_iald X lm_runs rfl (inr_z hq) (inr_j (k := 2) rfl (by decide) hq) d_M_once_5 ?_
  refine ev_istore_n X d_M_once_6 (by decide) ?_
  refine ev_aload_n X d_M_once_7 rfl ?_
  refine ev_getR X f_M_43 lo_mod rfl d_M_once_8 ?_
  refine ev_iload_n X d_M_once_11 rfl ?_
  refine ev_iald X lm_counters rfl (inr_z he) (inr_j (k := 4) rfl (by decide) he) d_M_once_12 ?_
  refine ev_istore_n X d_M_once_13 (by decide) ?_
  refine ev_aload_n X d_M_once_14 rfl ?_
  refine ev_iload_n X d_M_once_15 rfl ?_
  refine ev_iload_n X d_M_once_16 rfl ?_
  refine ev_iconst (v := 4) X d_M_once_17 (by decide) ?_
  refine ev_cV1 X m_M_71 (c_M_allowed hq (Or.inr he)) lo_mod rfl rfl (by decide) (by decide) d_M_once_18 rfl rfl (Nat.le_of_ble_eq_true rfl) ?_
  refine ev_if_neB (tgt := 32) X d_M_once_21 (by decide) (fun h21 => ?_) (fun h21 => ?_)
  · refine ev_aload_n X d_M_once_32 rfl ?_
    refine ev_getR X f_M_7 lo_mod rfl d_M_once_33 ?_
    refine ev_iload_n X d_M_once_36 rfl ?_
    refine ev_iald X lm_words rfl (inr_z (alM_in h21)) (inr_j (k := 256) rfl (by decide) (alM_in h21)) d_M_once_37 ?_
    refine ev_istore X d_M_once_38 (by decide) ?_
    refine ev_iload X d_M_once_40 rfl ?_
    refine ev_bipush (v := 15) X d_M_once_42 (by decide) ?_
    refine ev_iand X d_M_once_44 ?_
    refine ev_topi (v := fO (S 1 (S 12 (S 4 q.toNatClampNeg).toNatClampNeg).toNatClampNeg)) rfl ?_
    refine ev_istore X d_M_once_45 (by decide) ?_
    refine ev_bipush (v := 8) X d_M_once_47 (by decide) ?_
    refine ev_iload_n X d_M_once_49 rfl ?_
    refine ev_imul X d_M_once_50 ?_
    refine ev_iload X d_M_once_51 rfl ?_
    refine ev_iconst (v := 4) X d_M_once_53 (by decide) ?_
    refine ev_ishr X d_M_once_54 ?_
    refine ev_bipush (v := 7) X d_M_once_55 (by decide) ?_
    refine ev_iand X d_M_once_57 ?_
    refine ev_iadd X d_M_once_58 ?_
    refine ev_topi (v := nI (ixA S q (S 1 (S 12 (S 4 q.toNatClampNeg).toNatClampNeg).toNatClampNeg))) (k32_in he (fA_in _)).1 ?_
    refine ev_istore X d_M_once_59 (by decide) ?_
    refine ev_bipush (v := 8) X d_M_once_61 (by decide) ?_
    refine ev_iload_n X d_M_once_63 rfl ?_
    refine ev_imul X d_M_once_64 ?_
    refine ev_iload X d_M_once_65 rfl ?_
    refine ev_bipush (v := 8) X d_M_once_67 (by decide) ?_
    refine ev_ishr X d_M_once_69 ?_
    refine ev_bipush (v := 7) X d_M_once_70 (by decide) ?_
    refine ev_iand X d_M_once_72 ?_
    refine ev_iadd X d_M_once_73 ?_
    refine ev_topi (v := nI (ixB S q (S 1 (S 12 (S 4 q.toNatClampNeg).toNatClampNeg).toNatClampNeg))) (k32_in he (fB_in _)).1 ?_
    refine ev_istore X d_M_once_74 (by decide) ?_
    refine ev_iload X d_M_once_76 rfl ?_
    refine ev_bipush (v := 16) X d_M_once_78 (by decide) ?_
    refine ev_ishr X d_M_once_80 ?_
    refine ev_topi (v := fI (S 1 (S 12 (S 4 q.toNatClampNeg).toNatClampNeg).toNatClampNeg)) rfl ?_
    refine ev_istore X d_M_once_81 (by decide) ?_
    refine ev_aload_n X d_M_once_83 rfl ?_
    refine ev_getR X f_M_46 lo_mod rfl d_M_once_84 ?_
    refine ev_iload X d_M_once_87 rfl ?_
    refine ev_iald X lm_r rfl rfl (k32_in he (fB_in _)).2 d_M_once_89 ?_
    refine ev_iload X d_M_once_90 rfl ?_
    refine ev_iadd X d_M_once_92 ?_
    refine ev_topi (v := atM S q (S 1 (S 12 (S 4 q.toNatClampNeg).toNatClampNeg).toNatClampNeg)) rfl ?_
    refine ev_istore X d_M_once_93 (by decide) ?_
    refine ev_iload X d_M_once_95 rfl ?_
    refine ev_if_ne (tgt := 116) X d_M_once_97 (by decide) (fun h97 => ?_) (fun h97 => ?_)
    · refine ev_iload X d_M_once_116 rfl ?_
      refine ev_bipush (v := 10) X d_M_once_118 (by decide) ?_
      refine ev_icmp_le (tgt := 133) X d_M_once_120 (by decide) (fun h120 => ?_) (fun h120 => ?_)
      · refine ev_iload X d_M_once_133 rfl ?_
        refine ev_iconst (v := 4) X d_M_once_135 (by decide) ?_
        refine ev_icmp_ne (tgt := 160) X d_M_once_136 (by decide) (fun h136 => ?_) (fun h136 => ?_)
        · refine ev_iload X d_M_once_160 rfl ?_
          refine ev_iconst (v := 5) X d_M_once_162 (by decide) ?_
          refine ev_icmp_ne (tgt := 187) X d_M_once_163 (by decide) (fun h163 => ?_) (fun h163 => ?_)
          · refine ev_aload_n X d_M_once_187 rfl ?_
            refine ev_getR X f_M_43 lo_mod rfl d_M_once_188 ?_
            refine ev_iload_n X d_M_once_191 rfl ?_
            refine ev_iload X d_M_once_192 rfl ?_
            refine ev_bipush (v := 7) X d_M_once_194 (by decide) ?_
            refine ev_icmp_ne (tgt := 204) X d_M_once_196 (by decide) (fun h196 => ?_) (fun h196 => ?_)
            · refine ev_iload X d_M_once_204 rfl ?_
              refine ev_bipush (v := 6) X d_M_once_206 (by decide) ?_
              refine ev_icmp_ne (tgt := 230) X d_M_once_208 (by decide) (fun h208 => ?_) (fun h208 => ?_)
              · refine ev_iload_n X d_M_once_230 rfl ?_
                refine ev_iconst (v := 1) X d_M_once_231 (by decide) ?_
                refine ev_iadd X d_M_once_232 ?_
                refine ev_topi (v := pcM S q (S 1 (S 12 (S 4 q.toNatClampNeg).toNatClampNeg).toNatClampNeg) (S 12 (S 4 q.toNatClampNeg).toNatClampNeg)) (by simp [pcM, h21, h97, h120, h136, h163, h196, h208]) ?_
                refine ev_iast X lm_counters rfl (inr_z he) (inr_j (k := 4) rfl (by decide) he) d_M_once_233 ?_
                refine ev_aload_n X d_M_once_234 rfl ?_
                refine ev_iload_n X d_M_once_235 rfl ?_
                refine ev_iload X d_M_once_236 rfl ?_
                refine ev_iload X d_M_once_238 rfl ?_
                refine ev_iload X d_M_once_240 rfl ?_
                refine ev_iload X d_M_once_242 rfl ?_
                refine ev_iload_n X d_M_once_244 rfl ?_
                refine ev_cV0 X m_M_99 (c_M_work hq (by rw [up2_ne (by decide)]; exact he) (k32_in he (fA_in _)).2 (k32_in he (fB_in _)).2 (by first | (intro h; rcases h with h | h <;> first | exact absurd h (by assumption) | exact alM_in h147 | exact alM_in h174))) lo_mod rfl rfl (by decide) (by decide) d_M_once_245 rfl rfl (Nat.le_of_ble_eq_true rfl) ?_
                exact ev_vretL X hr hk d_M_once_248 (by simp [onM, onW, ixA, ixB, h21, h97, h120, h136, h163, h196, h208])
              · refine ev_aload_n X d_M_once_211 rfl ?_
                refine ev_getR X f_M_46 lo_mod rfl d_M_once_212 ?_
                refine ev_iload X d_M_once_215 rfl ?_
                refine ev_iald X lm_r rfl rfl (k32_in he (fA_in _)).2 d_M_once_217 ?_
                refine ev_if_ne (tgt := 230) X d_M_once_218 (by decide) (fun h218 => ?_) (fun h218 => ?_)
                · refine ev_iload_n X d_M_once_230 rfl ?_
                  refine ev_iconst (v := 1) X d_M_once_231 (by decide) ?_
                  refine ev_iadd X d_M_once_232 ?_
                  refine ev_topi (v := pcM S q (S 1 (S 12 (S 4 q.toNatClampNeg).toNatClampNeg).toNatClampNeg) (S 12 (S 4 q.toNatClampNeg).toNatClampNeg)) (by simp [pcM, h21, h97, h120, h136, h163, h196, h208, h218]) ?_
                  refine ev_iast X lm_counters rfl (inr_z he) (inr_j (k := 4) rfl (by decide) he) d_M_once_233 ?_
                  refine ev_aload_n X d_M_once_234 rfl ?_
                  refine ev_iload_n X d_M_once_235 rfl ?_
                  refine ev_iload X d_M_once_236 rfl ?_
                  refine ev_iload X d_M_once_238 rfl ?_
                  refine ev_iload X d_M_once_240 rfl ?_
                  refine ev_iload X d_M_once_242 rfl ?_
                  refine ev_iload_n X d_M_once_244 rfl ?_
                  refine ev_cV0 X m_M_99 (c_M_work hq (by rw [up2_ne (by decide)]; exact he) (k32_in he (fA_in _)).2 (k32_in he (fB_in _)).2 (by first | (intro h; rcases h with h | h <;> first | exact absurd h (by assumption) | exact alM_in h147 | exact alM_in h174))) lo_mod rfl rfl (by decide) (by decide) d_M_once_245 rfl rfl (Nat.le_of_ble_eq_true rfl) ?_
                  exact ev_vretL X hr hk d_M_once_248 (by simp [onM, onW, ixA, ixB, h21, h97, h120, h136, h163, h196, h208, h218])
                · refine ev_iload_n X d_M_once_221 rfl ?_
                  refine ev_iconst (v := 1) X d_M_once_222 (by decide) ?_
                  refine ev_iadd X d_M_once_223 ?_
                  refine ev_iload X d_M_once_224 rfl ?_
                  refine ev_iadd X d_M_once_226 ?_
                  refine ev_goto (tgt := 233) X d_M_once_227 (by decide) ?_
                  refine ev_topi (v := pcM S q (S 1 (S 12 (S 4 q.toNatClampNeg).toNatClampNeg).toNatClampNeg) (S 12 (S 4 q.toNatClampNeg).toNatClampNeg)) (by simp [pcM, h21, h97, h120, h136, h163, h196, h208, h218]) ?_
                  refine ev_iast X lm_counters rfl (inr_z he) (inr_j (k := 4) rfl (by decide) he) d_M_once_233 ?_
                  refine ev_aload_n X d_M_once_234 rfl ?_
                  refine ev_iload_n X d_M_once_235 rfl ?_
                  refine ev_iload X d_M_once_236 rfl ?_
                  refine ev_iload X d_M_once_238 rfl ?_
                  refine ev_iload X d_M_once_240 rfl ?_
                  refine ev_iload X d_M_once_242 rfl ?_
                  refine ev_iload_n X d_M_once_244 rfl ?_
                  refine ev_cV0 X m_M_99 (c_M_work hq (by rw [up2_ne (by decide)]; exact he) (k32_in he (fA_in _)).2 (k32_in he (fB_in _)).2 (by first | (intro h; rcases h with h | h <;> first | exact absurd h (by assumption) | exact alM_in h147 | exact alM_in h174))) lo_mod rfl rfl (by decide) (by decide) d_M_once_245 rfl rfl (Nat.le_of_ble_eq_true rfl) ?_
                  exact ev_vretL X hr hk d_M_once_248 (by simp [onM, onW, ixA, ixB, h21, h97, h120, h136, h163, h196, h208, h218])
            · refine ev_iload X d_M_once_199 rfl ?_
              refine ev_goto (tgt := 233) X d_M_once_201 (by decide) ?_
              refine ev_topi (v := pcM S q (S 1 (S 12 (S 4 q.toNatClampNeg).toNatClampNeg).toNatClampNeg) (S 12 (S 4 q.toNatClampNeg).toNatClampNeg)) (by simp [pcM, h21, h97, h120, h136, h163, h196]) ?_
              refine ev_iast X lm_counters rfl (inr_z he) (inr_j (k := 4) rfl (by decide) he) d_M_once_233 ?_
              refine ev_aload_n X d_M_once_234 rfl ?_
              refine ev_iload_n X d_M_once_235 rfl ?_
              refine ev_iload X d_M_once_236 rfl ?_
              refine ev_iload X d_M_once_238 rfl ?_
              refine ev_iload X d_M_once_240 rfl ?_
              refine ev_iload X d_M_once_242 rfl ?_
              refine ev_iload_n X d_M_once_244 rfl ?_
              refine ev_cV0 X m_M_99 (c_M_work hq (by rw [up2_ne (by decide)]; exact he) (k32_in he (fA_in _)).2 (k32_in he (fB_in _)).2 (by first | (intro h; rcases h with h | h <;> first | exact absurd h (by assumption) | exact alM_in h147 | exact alM_in h174))) lo_mod rfl rfl (by decide) (by decide) d_M_once_245 rfl rfl (Nat.le_of_ble_eq_true rfl) ?_
              exact ev_vretL X hr hk d_M_once_248 (by simp [onM, onW, ixA, ixB, h21, h97, h120, h136, h163, h196])
          · refine ev_aload_n X d_M_once_166 rfl ?_
            refine ev_iload_n X d_M_once_167 rfl ?_
            refine ev_iload X d_M_once_168 rfl ?_
            refine ev_iconst (v := 2) X d_M_once_170 (by decide) ?_
            refine ev_cV1 X m_M_71 (c_M_allowed hq (Or.inr he)) lo_mod rfl rfl (by decide) (by decide) d_M_once_171 rfl rfl (Nat.le_of_ble_eq_true rfl) ?_
            refine ev_if_neB (tgt := 187) X d_M_once_174 (by decide) (fun h174 => ?_) (fun h174 => ?_)
            · refine ev_aload_n X d_M_once_187 rfl ?_
              refine ev_getR X f_M_43 lo_mod rfl d_M_once_188 ?_
              refine ev_iload_n X d_M_once_191 rfl ?_
              refine ev_iload X d_M_once_192 rfl ?_
              refine ev_bipush (v := 7) X d_M_once_194 (by decide) ?_
              refine ev_icmp_ne (tgt := 204) X d_M_once_196 (by decide) (fun h196 => ?_) (fun h196 => ?_)
              · refine ev_iload X d_M_once_204 rfl ?_
                refine ev_bipush (v := 6) X d_M_once_206 (by decide) ?_
                refine ev_icmp_ne (tgt := 230) X d_M_once_208 (by decide) (fun h208 => ?_) (fun h208 => ?_)
                · refine ev_iload_n X d_M_once_230 rfl ?_
                  refine ev_iconst (v := 1) X d_M_once_231 (by decide) ?_
                  refine ev_iadd X d_M_once_232 ?_
                  refine ev_topi (v := pcM S q (S 1 (S 12 (S 4 q.toNatClampNeg).toNatClampNeg).toNatClampNeg) (S 12 (S 4 q.toNatClampNeg).toNatClampNeg)) (by simp [pcM, h21, h97, h120, h136, h163, h174, h196, h208]) ?_
                  refine ev_iast X lm_counters rfl (inr_z he) (inr_j (k := 4) rfl (by decide) he) d_M_once_233 ?_
                  refine ev_aload_n X d_M_once_234 rfl ?_
                  refine ev_iload_n X d_M_once_235 rfl ?_
                  refine ev_iload X d_M_once_236 rfl ?_
                  refine ev_iload X d_M_once_238 rfl ?_
                  refine ev_iload X d_M_once_240 rfl ?_
                  refine ev_iload X d_M_once_242 rfl ?_
                  refine ev_iload_n X d_M_once_244 rfl ?_
                  refine ev_cV0 X m_M_99 (c_M_work hq (by rw [up2_ne (by decide)]; exact he) (k32_in he (fA_in _)).2 (k32_in he (fB_in _)).2 (by first | (intro h; rcases h with h | h <;> first | exact absurd h (by assumption) | exact alM_in h147 | exact alM_in h174))) lo_mod rfl rfl (by decide) (by decide) d_M_once_245 rfl rfl (Nat.le_of_ble_eq_true rfl) ?_
                  exact ev_vretL X hr hk d_M_once_248 (by simp [onM, onW, ixA, ixB, h21, h97, h120, h136, h163, h174, h196, h208])
                · exact absurd (h163.symm.trans h208) (by decide)
              · exact absurd (h163.symm.trans h196) (by decide)
            · refine ev_aload_n X d_M_once_177 rfl ?_
              refine ev_iload_n X d_M_once_178 rfl ?_
              refine ev_iconst (v := 5) X d_M_once_179 (by decide) ?_
              refine ev_iconst (v := 3) X d_M_once_180 (by decide) ?_
              refine ev_cV0 X m_M_95 (c_M_end hq he) lo_mod rfl rfl (by decide) (by decide) d_M_once_181 rfl rfl (Nat.le_of_ble_eq_true rfl) ?_
              refine ev_goto (tgt := 248) X d_M_once_184 (by decide) ?_
              exact ev_vretL X hr hk d_M_once_248 (by simp [onM, onW, ixA, ixB, h21, h97, h120, h136, h163, h174])
        · refine ev_aload_n X d_M_once_139 rfl ?_
          refine ev_iload_n X d_M_once_140 rfl ?_
          refine ev_iload X d_M_once_141 rfl ?_
          refine ev_iconst (v := 1) X d_M_once_143 (by decide) ?_
          refine ev_cV1 X m_M_71 (c_M_allowed hq (Or.inr he)) lo_mod rfl rfl (by decide) (by decide) d_M_once_144 rfl rfl (Nat.le_of_ble_eq_true rfl) ?_
          refine ev_if_neB (tgt := 160) X d_M_once_147 (by decide) (fun h147 => ?_) (fun h147 => ?_)
          · refine ev_iload X d_M_once_160 rfl ?_
            refine ev_iconst (v := 5) X d_M_once_162 (by decide) ?_
            refine ev_icmp_ne (tgt := 187) X d_M_once_163 (by decide) (fun h163 => ?_) (fun h163 => ?_)
            · refine ev_aload_n X d_M_once_187 rfl ?_
              refine ev_getR X f_M_43 lo_mod rfl d_M_once_188 ?_
              refine ev_iload_n X d_M_once_191 rfl ?_
              refine ev_iload X d_M_once_192 rfl ?_
              refine ev_bipush (v := 7) X d_M_once_194 (by decide) ?_
              refine ev_icmp_ne (tgt := 204) X d_M_once_196 (by decide) (fun h196 => ?_) (fun h196 => ?_)
              · refine ev_iload X d_M_once_204 rfl ?_
                refine ev_bipush (v := 6) X d_M_once_206 (by decide) ?_
                refine ev_icmp_ne (tgt := 230) X d_M_once_208 (by decide) (fun h208 => ?_) (fun h208 => ?_)
                · refine ev_iload_n X d_M_once_230 rfl ?_
                  refine ev_iconst (v := 1) X d_M_once_231 (by decide) ?_
                  refine ev_iadd X d_M_once_232 ?_
                  refine ev_topi (v := pcM S q (S 1 (S 12 (S 4 q.toNatClampNeg).toNatClampNeg).toNatClampNeg) (S 12 (S 4 q.toNatClampNeg).toNatClampNeg)) (by simp [pcM, h21, h97, h120, h136, h147, h163, h196, h208]) ?_
                  refine ev_iast X lm_counters rfl (inr_z he) (inr_j (k := 4) rfl (by decide) he) d_M_once_233 ?_
                  refine ev_aload_n X d_M_once_234 rfl ?_
                  refine ev_iload_n X d_M_once_235 rfl ?_
                  refine ev_iload X d_M_once_236 rfl ?_
                  refine ev_iload X d_M_once_238 rfl ?_
                  refine ev_iload X d_M_once_240 rfl ?_
                  refine ev_iload X d_M_once_242 rfl ?_
                  refine ev_iload_n X d_M_once_244 rfl ?_
                  refine ev_cV0 X m_M_99 (c_M_work hq (by rw [up2_ne (by decide)]; exact he) (k32_in he (fA_in _)).2 (k32_in he (fB_in _)).2 (by first | (intro h; rcases h with h | h <;> first | exact absurd h (by assumption) | exact alM_in h147 | exact alM_in h174))) lo_mod rfl rfl (by decide) (by decide) d_M_once_245 rfl rfl (Nat.le_of_ble_eq_true rfl) ?_
                  exact ev_vretL X hr hk d_M_once_248 (by simp [onM, onW, ixA, ixB, h21, h97, h120, h136, h147, h163, h196, h208])
                · exact absurd (h136.symm.trans h208) (by decide)
              · exact absurd (h136.symm.trans h196) (by decide)
            · exact absurd (h136.symm.trans h163) (by decide)
          · refine ev_aload_n X d_M_once_150 rfl ?_
            refine ev_iload_n X d_M_once_151 rfl ?_
            refine ev_iconst (v := 5) X d_M_once_152 (by decide) ?_
            refine ev_iconst (v := 2) X d_M_once_153 (by decide) ?_
            refine ev_cV0 X m_M_95 (c_M_end hq he) lo_mod rfl rfl (by decide) (by decide) d_M_once_154 rfl rfl (Nat.le_of_ble_eq_true rfl) ?_
            refine ev_goto (tgt := 248) X d_M_once_157 (by decide) ?_
            exact ev_vretL X hr hk d_M_once_248 (by simp [onM, onW, ixA, ixB, h21, h97, h120, h136, h147])
      · refine ev_aload_n X d_M_once_123 rfl ?_
        refine ev_iload_n X d_M_once_124 rfl ?_
        refine ev_iconst (v := 5) X d_M_once_125 (by decide) ?_
        refine ev_iconst (v := 4) X d_M_once_126 (by decide) ?_
        refine ev_cV0 X m_M_95 (c_M_end hq he) lo_mod rfl rfl (by decide) (by decide) d_M_once_127 rfl rfl (Nat.le_of_ble_eq_true rfl) ?_
        refine ev_goto (tgt := 248) X d_M_once_130 (by decide) ?_
        exact ev_vretL X hr hk d_M_once_248 (by simp [onM, onW, ixA, ixB, h21, h97, h120])
    · refine ev_aload_n X d_M_once_100 rfl ?_
      refine ev_iload_n X d_M_once_101 rfl ?_
      refine ev_iconst (v := 4) X d_M_once_102 (by decide) ?_
      refine ev_aload_n X d_M_once_103 rfl ?_
      refine ev_getR X f_M_46 lo_mod rfl d_M_once_104 ?_
      refine ev_iload X d_M_once_107 rfl ?_
      refine ev_iald X lm_r rfl rfl (k32_in he (fA_in _)).2 d_M_once_109 ?_
      refine ev_cV0 X m_M_95 (c_M_end hq he) lo_mod rfl rfl (by decide) (by decide) d_M_once_110 rfl rfl (Nat.le_of_ble_eq_true rfl) ?_
      refine ev_goto (tgt := 248) X d_M_once_113 (by decide) ?_
      exact ev_vretL X hr hk d_M_once_248 (by simp [onM, onW, ixA, ixB, h21, h97])
  · refine ev_aload_n X d_M_once_24 rfl ?_
    refine ev_iload_n X d_M_once_25 rfl ?_
    refine ev_iconst (v := 5) X d_M_once_26 (by decide) ?_
    refine ev_iconst (v := 1) X d_M_once_27 (by decide) ?_
    refine ev_cV0 X m_M_95 (c_M_end hq he) lo_mod rfl rfl (by decide) (by decide) d_M_once_28 rfl rfl (Nat.le_of_ble_eq_true rfl) ?_
    exact ev_vretL X hr hk d_M_once_31 (by simp [onM, onW, ixA, ixB, h21])
end
section
noncomputable def spM (q : Int32) : Nat → Nat → St → Nat
  | 0, k, _ => k
  | n + 1, k, S => if S 4 q.toNatClampNeg < 0 then k else spM q n (k + 1) (onM S q)
noncomputable def ssM (q : Int32) : Nat → St → St
  | 0, S => S
  | n + 1, S => if S 4 q.toNatClampNeg < 0 then S else ssM q n (onM S q)
def rnM (S : St) (q : Int32) : Bool := inr q 2 && !decide (S 4 q.toNatClampNeg < 0)
noncomputable def wStep (S : St) (q N : Int32) : Int32 := if rnM S q = true ∧ okN N = true then nI (spM q N.toNatClampNeg 0 S) else -1
noncomputable def tStep (S : St) (q N : Int32) : St := if rnM S q = true ∧ okN N = true then ssM q N.toNatClampNeg S else S
theorem lvM_ru {S : St} {q : Nat} {t : Int32} : RuOK (lvM S q t) q := Or.inl (by simp [lvM, up2_at])
theorem edM_ru {S : St} {q : Nat} {t v : Int32} : RuOK (edM S q t v) q := lvM_ru
theorem RuOK.of {S T : St} {q : Nat} (h : RuOK S q) (e : T 4 q = S 4 q) : RuOK T q := by
  unfold RuOK
  rw [e]
  exact h
theorem wkM_ru {S : St} {q o t h : Int32} {a b : Nat} (hr : RuOK S q.toNatClampNeg) : RuOK (wkM S q o a b t h) q.toNatClampNeg := by
  unfold wkM
  repeat' split
  all_goals first | (refine hr.of ?_; simp [up2_at]; done) | exact lvM_ru
theorem onM_ru {S : St} {q : Int32} (hr : RuOK S q.toNatClampNeg) : RuOK (onM S q) q.toNatClampNeg := by
  unfold onM
  split
  · unfold onW
    split
    · exact edM_ru
    split
    · exact edM_ru
    split
    · exact edM_ru
    split
    · exact edM_ru
    refine wkM_ru (hr.of ?_)
    simp [up2_at]
  · exact edM_ru
set_option maxHeartbeats 4000000 in
set_option maxRecDepth 100000 in
theorem c_M_step {l : Launch} {D : va_G} {ad : Nat → Nat} {ca : Nat → ClassId} {x : va_W} {S : St} {q N : Int32} (hru : inr q 2 = true → RuOK S q.toNatClampNeg) : CtM l D ad ca x y_M_step b_M_step 4 (some .int) 4 [.ref (ad 0), .int q, .int N] S (tStep S q N) (some (.int (wStep S q N))) := by
  refine ev_ent [some (.ref (ad 0)), some (.int q), some (.int N), none] rfl (by decide) (Nat.le_of_ble_eq_true rfl) rfl gTT (fun p e s m args below meth c A X hr hk => ?_)
  have loop : inr q 2 = true → ∀ (r k : Nat) (T : St), k + r ≤ 100 → wStep S q N = nI (spM q r k T) → tStep S q N = ssM q r T → RuOK T q.toNatClampNeg → EV p l e (rmd 4) s m args below meth c 0 0 (MQ below (QQ clX D A (ly_w lyM 14 ad ca (tStep S q N) x) (some (.int (wStep S q N)))) args s 0 0 A) 4 D clX A s.heap (ly_w lyM 14 ad ca T x) 31 [some (.ref (ad 0)), some (.int q), some (.int (nI (k + r))), some (.int (nI k))] [] := by
    intro hq r
    induction r with
    | zero =>
      intro k T q1 q2 q3 q4
      refine ev_iload_n X d_M_step_31 rfl ?_
      refine ev_iload_n X d_M_step_32 rfl ?_
      refine ev_icmp_ge (tgt := 56) X d_M_step_33 (by decide) (fun h33 => ?_) (fun h33 => ?_)
      · refine ev_iload_n X d_M_step_56 rfl ?_
        exact ev_iretL X hr hk d_M_step_57 (by rw [q2]; rfl) (by rw [q3]; rfl)
      · exact absurd (nI_le (by omega) (by omega)) h33
    | succ r ih =>
      intro k T q1 q2 q3 q4
      refine ev_iload_n X d_M_step_31 rfl ?_
      refine ev_iload_n X d_M_step_32 rfl ?_
      refine ev_icmp_ge (tgt := 56) X d_M_step_33 (by decide) (fun h33 => ?_) (fun h33 => ?_)
      · exact absurd h33 (nI_ge (by omega) (by omega))
      · refine ev_aload_n X d_M_step_36 rfl ?_
        refine ev_getR X f_M_19 lo_mod rfl d_M_step_37 ?_
        refine ev_iload_n X d_M_step_40 rfl ?_
        refine ev_iald X lm_runs rfl (inr_z hq) (inr_j (k := 2) rfl (by decide) hq) d_M_step_41 ?_
        refine ev_if_lt (tgt := 56) X d_M_step_42 (by decide) (fun h42 => ?_) (fun h42 => ?_)
        · refine ev_iload_n X d_M_step_56 rfl ?_
          exact ev_iretL X hr hk d_M_step_57 (by rw [q2]; simp [spM, h42]) (by rw [q3]; simp [ssM, h42])
        · refine ev_aload_n X d_M_step_45 rfl ?_
          refine ev_iload_n X d_M_step_46 rfl ?_
          refine ev_cV0 X m_M_106 (c_M_once hq (q4.resolve_left h42)) lo_mod rfl rfl (by decide) (by decide) d_M_step_47 rfl rfl (Nat.le_of_ble_eq_true rfl) ?_
          refine ev_iinc (v := nI (k + 1)) X d_M_step_50 rfl (nI_1 k) (by decide) ?_
          refine ev_goto (tgt := 31) X d_M_step_53 (by decide) ?_
          refine ev_of rfl rfl (lv1 := [some (.ref (ad 0)), some (.int q), some (.int (nI (k + 1 + r))), some (.int (nI (k + 1)))]) (by rw [show k + 1 + r = k + (r + 1) by omega]; rfl) rfl ?_
          exact ih (k + 1) (onM T q) (by omega) (by rw [q2]; simp [spM, h42]) (by rw [q3]; simp [ssM, h42]) (onM_ru q4)
  refine ev_iload_n X d_M_step_0 rfl ?_
  refine ev_cS1 X m_M_58 c_M_processor (by decide) (by decide) d_M_step_1 rfl rfl (Nat.le_of_ble_eq_true rfl) ?_
  refine ev_if_eqB (tgt := 27) X d_M_step_4 (by decide) (fun h4 => ?_) (fun h4 => ?_)
  · refine ev_iconst (v := (-1)) X d_M_step_27 (by decide) ?_
    exact ev_iretL X hr hk d_M_step_28 (by simp [wStep, rnM, okN, h4]) (by simp [tStep, rnM, okN, h4])
  · refine ev_aload_n X d_M_step_7 rfl ?_
    refine ev_getR X f_M_19 lo_mod rfl d_M_step_8 ?_
    refine ev_iload_n X d_M_step_11 rfl ?_
    refine ev_iald X lm_runs rfl (inr_z h4) (inr_j (k := 2) rfl (by decide) h4) d_M_step_12 ?_
    refine ev_if_lt (tgt := 27) X d_M_step_13 (by decide) (fun h13 => ?_) (fun h13 => ?_)
    · refine ev_iconst (v := (-1)) X d_M_step_27 (by decide) ?_
      exact ev_iretL X hr hk d_M_step_28 (by simp [wStep, rnM, okN, h4, h13]) (by simp [tStep, rnM, okN, h4, h13])
    · refine ev_iload_n X d_M_step_16 rfl ?_
      refine ev_iconst (v := 1) X d_M_step_17 (by decide) ?_
      refine ev_icmp_lt (tgt := 27) X d_M_step_18 (by decide) (fun h18 => ?_) (fun h18 => ?_)
      · refine ev_iconst (v := (-1)) X d_M_step_27 (by decide) ?_
        exact ev_iretL X hr hk d_M_step_28 (by simp [wStep, rnM, okN, h4, h13, h18]) (by simp [tStep, rnM, okN, h4, h13, h18])
      · refine ev_iload_n X d_M_step_21 rfl ?_
        refine ev_bipush (v := 100) X d_M_step_22 (by decide) ?_
        refine ev_icmp_le (tgt := 29) X d_M_step_24 (by decide) (fun h24 => ?_) (fun h24 => ?_)
        · have hok : okN N = true := by simp [okN, h18, h24]
          have hrn : rnM S q = true := by simp [rnM, h4, h13]
          obtain ⟨hNz, hNl⟩ := okN_ex hok
          refine ev_iconst (v := 0) X d_M_step_29 (by decide) ?_
          refine ev_istore_n X d_M_step_30 (by decide) ?_
          refine ev_of rfl rfl (lv1 := [some (.ref (ad 0)), some (.int q), some (.int (nI (0 + N.toNatClampNeg))), some (.int (nI 0))]) (by rw [Nat.zero_add, ← hNz]; rfl) rfl ?_
          exact loop h4 N.toNatClampNeg 0 S (by omega) (by simp [wStep, hrn, hok]) (by simp [tStep, hrn, hok]) (hru h4)
        · refine ev_iconst (v := (-1)) X d_M_step_27 (by decide) ?_
          exact ev_iretL X hr hk d_M_step_28 (by simp [wStep, rnM, okN, h4, h13, h18, h24]) (by simp [tStep, rnM, okN, h4, h13, h18, h24])
end
section
def wzM (S : St) (q : Int32) (k : Nat) : St := fun c j => if c = 1 ∧ j < k then (if S 2 (j / 16) = 2 + q then 0 else S 1 j) else S c j
def ozM (S : St) (q : Int32) (k : Nat) : St := fun c j => if c = 2 ∧ j < k then (if S 2 j = 2 + q then 1 else S 2 j) else S c j
theorem wzM_nil (S : St) (q : Int32) : wzM S q 0 = S := by
  funext c j
  unfold wzM
  rw [if_neg (by omega)]
theorem ozM_nil (S : St) (q : Int32) : ozM S q 0 = S := by
  funext c j
  unfold ozM
  rw [if_neg (by omega)]
theorem wzM_2 (S : St) (q : Int32) (k j : Nat) : wzM S q k 2 j = S 2 j := by
  unfold wzM
  rw [if_neg (by omega)]
theorem wzM_k (S : St) (q : Int32) (k : Nat) : wzM S q k 1 k = S 1 k := by
  unfold wzM
  rw [if_neg (by omega)]
theorem ozM_k (S : St) (q : Int32) (k : Nat) : ozM S q k 2 k = S 2 k := by
  unfold ozM
  rw [if_neg (by omega)]
theorem wzM_up {S : St} {q : Int32} {k : Nat} : up2 (wzM S q k) 1 k (if S 2 (k / 16) = 2 + q then 0 else S 1 k) = wzM S q (k + 1) := by
  funext c j
  rw [up2_at]
  unfold wzM
  by_cases h1 : c = 1 ∧ j = k
  · obtain ⟨rfl, rfl⟩ := h1
    rw [if_pos ⟨rfl, rfl⟩, if_pos (show 1 = 1 ∧ j < j + 1 from ⟨rfl, by omega⟩)]
  · rw [if_neg h1]
    by_cases h2 : c = 1 ∧ j < k
    · rw [if_pos h2, if_pos (show c = 1 ∧ j < k + 1 from ⟨h2.1, by omega⟩)]
    · rw [if_neg h2, if_neg (show ¬ (c = 1 ∧ j < k + 1) by omega)]
theorem ozM_up {S : St} {q : Int32} {k : Nat} : up2 (ozM S q k) 2 k (if S 2 k = 2 + q then 1 else S 2 k) = ozM S q (k + 1) := by
  funext c j
  rw [up2_at]
  unfold ozM
  by_cases h1 : c = 2 ∧ j = k
  · obtain ⟨rfl, rfl⟩ := h1
    rw [if_pos ⟨rfl, rfl⟩, if_pos (show 2 = 2 ∧ j < j + 1 from ⟨rfl, by omega⟩)]
  · rw [if_neg h1]
    by_cases h2 : c = 2 ∧ j < k
    · rw [if_pos h2, if_pos (show c = 2 ∧ j < k + 1 from ⟨h2.1, by omega⟩)]
    · rw [if_neg h2, if_neg (show ¬ (c = 2 ∧ j < k + 1) by omega)]
theorem n16 {k : Nat} (h : k < 2 ^ 31) : nI k / 16 = nI (k / 16) := pk_div (d := 16) h (by decide) (by decide)
def wDes (S : St) (z q : Int32) : Int32 := if bsM S z = true then -1 else if thM S q = false then -2 else if S 5 q.toNatClampNeg = 2 then -3 else 0
def tDes (S : St) (z q : Int32) : St := if bsM S z = true then S else if thM S q = false then S else if S 5 q.toNatClampNeg = 2 then S else up2 (ozM (wzM S q 256) q 16) 5 q.toNatClampNeg 0
set_option maxHeartbeats 4000000 in
set_option maxRecDepth 100000 in
theorem c_M_destroy {l : Launch} {D : va_G} {ad : Nat → Nat} {ca : Nat → ClassId} {x : va_W} {S : St} {z q : Int32}  : CtM l D ad ca x y_M_destroy b_M_destroy 4 (some .int) 2 [.ref (ad 0), .int z, .int q] S (tDes S z q) (some (.int (wDes S z q))) := by
  refine ev_ent [some (.ref (ad 0)), some (.int z), some (.int q), none] rfl (by decide) (Nat.le_of_ble_eq_true rfl) rfl gTT (fun p e s m args below meth c A X hr hk => ?_)
  have loop2 : inr q 4 = true → wDes S z q = 0 → tDes S z q = up2 (ozM (wzM S q 256) q 16) 5 q.toNatClampNeg 0 → ∀ (r k : Nat), k + r = 16 → EV p l e (rmd 2) s m args below meth c 0 0 (MQ below (QQ clX D A (ly_w lyM 14 ad ca (tDes S z q) x) (some (.int (wDes S z q)))) args s 0 0 A) 4 D clX A s.heap (ly_w lyM 14 ad ca (ozM (wzM S q 256) q k) x) 82 [some (.ref (ad 0)), some (.int z), some (.int q), some (.int (nI k))] [] := by
    intro hq g1 g2 r
    induction r with
    | zero =>
      intro k q1
      refine ev_iload_n X d_M_destroy_82 rfl ?_
      refine ev_bipush (v := 16) X d_M_destroy_83 (by decide) ?_
      refine ev_icmp_ge (tgt := 122) X d_M_destroy_85 (by decide) (fun h85 => ?_) (fun h85 => ?_)
      · refine ev_aload_n X d_M_destroy_122 rfl ?_
        refine ev_getR X f_M_22 lo_mod rfl d_M_destroy_123 ?_
        refine ev_iload_n X d_M_destroy_126 rfl ?_
        refine ev_iconst (v := 0) X d_M_destroy_127 (by decide) ?_
        refine ev_iast X lm_states rfl (inr_z hq) (inr_j (k := 4) rfl (by decide) hq) d_M_destroy_128 ?_
        refine ev_iconst (v := 0) X d_M_destroy_129 (by decide) ?_
        exact ev_iretL X hr hk d_M_destroy_130 (by rw [g1]) (by rw [g2, show k = 16 by omega])
      · exact absurd (nI_le (a := 16) (by omega) (by omega)) h85
    | succ r ih =>
      intro k q1
      refine ev_iload_n X d_M_destroy_82 rfl ?_
      refine ev_bipush (v := 16) X d_M_destroy_83 (by decide) ?_
      refine ev_icmp_ge (tgt := 122) X d_M_destroy_85 (by decide) (fun h85 => ?_) (fun h85 => ?_)
      · exact absurd h85 (nI_ge (b := 16) (by omega) (by decide))
      · refine ev_aload_n X d_M_destroy_88 rfl ?_
        refine ev_getR X f_M_13 lo_mod rfl d_M_destroy_89 ?_
        refine ev_iload_n X d_M_destroy_92 rfl ?_
        refine ev_aload_n X d_M_destroy_93 rfl ?_
        refine ev_getR X f_M_13 lo_mod rfl d_M_destroy_94 ?_
        refine ev_iload_n X d_M_destroy_97 rfl ?_
        refine ev_iald X lm_owners rfl rfl (by omega) d_M_destroy_98 ?_
        refine ev_iconst (v := 2) X d_M_destroy_99 (by decide) ?_
        refine ev_iload_n X d_M_destroy_100 rfl ?_
        refine ev_iadd X d_M_destroy_101 ?_
        refine ev_icmp_ne (tgt := 109) X d_M_destroy_102 (by decide) (fun h102 => ?_) (fun h102 => ?_)
        · rw [ozM_k] at h102
          refine ev_aload_n X d_M_destroy_109 rfl ?_
          refine ev_getR X f_M_13 lo_mod rfl d_M_destroy_110 ?_
          refine ev_iload_n X d_M_destroy_113 rfl ?_
          refine ev_iald X lm_owners rfl rfl (by omega) d_M_destroy_114 ?_
          refine ev_topi (v := if wzM S q 256 2 k = 2 + q then 1 else wzM S q 256 2 k) (by simp [ozM_k, h102]) ?_
          refine ev_iast X lm_owners rfl rfl (by omega) d_M_destroy_115 ?_
          refine ev_iinc (v := nI (k + 1)) X d_M_destroy_116 rfl (nI_1 k) (by decide) ?_
          refine ev_goto (tgt := 82) X d_M_destroy_119 (by decide) ?_
          rw [ozM_up]
          exact ih (k + 1) (by omega)
        · rw [ozM_k] at h102
          refine ev_iconst (v := 1) X d_M_destroy_105 (by decide) ?_
          refine ev_goto (tgt := 115) X d_M_destroy_106 (by decide) ?_
          refine ev_topi (v := if wzM S q 256 2 k = 2 + q then 1 else wzM S q 256 2 k) (by simp [ozM_k, h102]) ?_
          refine ev_iast X lm_owners rfl rfl (by omega) d_M_destroy_115 ?_
          refine ev_iinc (v := nI (k + 1)) X d_M_destroy_116 rfl (nI_1 k) (by decide) ?_
          refine ev_goto (tgt := 82) X d_M_destroy_119 (by decide) ?_
          rw [ozM_up]
          exact ih (k + 1) (by omega)
  have loop1 : inr q 4 = true → wDes S z q = 0 → tDes S z q = up2 (ozM (wzM S q 256) q 16) 5 q.toNatClampNeg 0 → ∀ (r k : Nat), k + r = 256 → EV p l e (rmd 2) s m args below meth c 0 0 (MQ below (QQ clX D A (ly_w lyM 14 ad ca (tDes S z q) x) (some (.int (wDes S z q)))) args s 0 0 A) 4 D clX A s.heap (ly_w lyM 14 ad ca (wzM S q k) x) 36 [some (.ref (ad 0)), some (.int z), some (.int q), some (.int (nI k))] [] := by
    intro hq g1 g2 r
    induction r with
    | zero =>
      intro k q1
      refine ev_iload_n X d_M_destroy_36 rfl ?_
      refine ev_sipush (v := 256) X d_M_destroy_37 (by decide) ?_
      refine ev_icmp_ge (tgt := 80) X d_M_destroy_40 (by decide) (fun h40 => ?_) (fun h40 => ?_)
      · refine ev_iconst (v := 0) X d_M_destroy_80 (by decide) ?_
        refine ev_istore_n X d_M_destroy_81 (by decide) ?_
        refine ev_of (w1 := ly_w lyM 14 ad ca (ozM (wzM S q 256) q 0) x) (by rw [ozM_nil, show k = 256 by omega]) rfl rfl rfl ?_
        exact loop2 hq g1 g2 16 0 rfl
      · exact absurd (nI_le (a := 256) (by omega) (by omega)) h40
    | succ r ih =>
      intro k q1
      refine ev_iload_n X d_M_destroy_36 rfl ?_
      refine ev_sipush (v := 256) X d_M_destroy_37 (by decide) ?_
      refine ev_icmp_ge (tgt := 80) X d_M_destroy_40 (by decide) (fun h40 => ?_) (fun h40 => ?_)
      · exact absurd h40 (nI_ge (b := 256) (by omega) (by decide))
      · refine ev_aload_n X d_M_destroy_43 rfl ?_
        refine ev_getR X f_M_7 lo_mod rfl d_M_destroy_44 ?_
        refine ev_iload_n X d_M_destroy_47 rfl ?_
        refine ev_aload_n X d_M_destroy_48 rfl ?_
        refine ev_getR X f_M_13 lo_mod rfl d_M_destroy_49 ?_
        refine ev_iload_n X d_M_destroy_52 rfl ?_
        refine ev_bipush (v := 16) X d_M_destroy_53 (by decide) ?_
        refine ev_idiv X d_M_destroy_55 (by decide) ?_
        refine ev_iald X lm_owners rfl (n16 (by omega)) (by omega) d_M_destroy_56 ?_
        refine ev_iconst (v := 2) X d_M_destroy_57 (by decide) ?_
        refine ev_iload_n X d_M_destroy_58 rfl ?_
        refine ev_iadd X d_M_destroy_59 ?_
        refine ev_icmp_ne (tgt := 67) X d_M_destroy_60 (by decide) (fun h60 => ?_) (fun h60 => ?_)
        · rw [wzM_2] at h60
          refine ev_aload_n X d_M_destroy_67 rfl ?_
          refine ev_getR X f_M_7 lo_mod rfl d_M_destroy_68 ?_
          refine ev_iload_n X d_M_destroy_71 rfl ?_
          refine ev_iald X lm_words rfl rfl (by omega) d_M_destroy_72 ?_
          refine ev_topi (v := if S 2 (k / 16) = 2 + q then 0 else S 1 k) (by simp [wzM_k, h60]) ?_
          refine ev_iast X lm_words rfl rfl (by omega) d_M_destroy_73 ?_
          refine ev_iinc (v := nI (k + 1)) X d_M_destroy_74 rfl (nI_1 k) (by decide) ?_
          refine ev_goto (tgt := 36) X d_M_destroy_77 (by decide) ?_
          rw [wzM_up]
          exact ih (k + 1) (by omega)
        · rw [wzM_2] at h60
          refine ev_iconst (v := 0) X d_M_destroy_63 (by decide) ?_
          refine ev_goto (tgt := 73) X d_M_destroy_64 (by decide) ?_
          refine ev_topi (v := if S 2 (k / 16) = 2 + q then 0 else S 1 k) (by simp [wzM_k, h60]) ?_
          refine ev_iast X lm_words rfl rfl (by omega) d_M_destroy_73 ?_
          refine ev_iinc (v := nI (k + 1)) X d_M_destroy_74 rfl (nI_1 k) (by decide) ?_
          refine ev_goto (tgt := 36) X d_M_destroy_77 (by decide) ?_
          rw [wzM_up]
          exact ih (k + 1) (by omega)
  refine ev_aload_n X d_M_destroy_0 rfl ?_
  refine ev_iload_n X d_M_destroy_1 rfl ?_
  refine ev_cV1 X m_M_66 c_M_busy lo_mod rfl rfl (by decide) (by decide) d_M_destroy_2 rfl rfl (Nat.le_of_ble_eq_true rfl) ?_
  refine ev_if_eqB (tgt := 10) X d_M_destroy_5 (by decide) (fun h5 => ?_) (fun h5 => ?_)
  · refine ev_aload_n X d_M_destroy_10 rfl ?_
    refine ev_iload_n X d_M_destroy_11 rfl ?_
    refine ev_cV1 X m_M_88 c_M_there lo_mod rfl rfl (by decide) (by decide) d_M_destroy_12 rfl rfl (Nat.le_of_ble_eq_true rfl) ?_
    refine ev_if_neB (tgt := 21) X d_M_destroy_15 (by decide) (fun h15 => ?_) (fun h15 => ?_)
    · refine ev_aload_n X d_M_destroy_21 rfl ?_
      refine ev_getR X f_M_22 lo_mod rfl d_M_destroy_22 ?_
      refine ev_iload_n X d_M_destroy_25 rfl ?_
      refine ev_iald X lm_states rfl (inr_z (thM_in h15)) (inr_j (k := 4) rfl (by decide) (thM_in h15)) d_M_destroy_26 ?_
      refine ev_iconst (v := 2) X d_M_destroy_27 (by decide) ?_
      refine ev_icmp_ne (tgt := 34) X d_M_destroy_28 (by decide) (fun h28 => ?_) (fun h28 => ?_)
      · refine ev_iconst (v := 0) X d_M_destroy_34 (by decide) ?_
        refine ev_istore_n X d_M_destroy_35 (by decide) ?_
        refine ev_of (w1 := ly_w lyM 14 ad ca (wzM S q 0) x) (by rw [wzM_nil]) rfl rfl rfl ?_
        exact loop1 (thM_in h15) (by simp [wDes, h5, h15, h28]) (by simp [tDes, h5, h15, h28]) 256 0 rfl
      · refine ev_bipush (v := (-3)) X d_M_destroy_31 (by decide) ?_
        exact ev_iretL X hr hk d_M_destroy_33 (by simp [wDes, h5, h15, h28]) (by simp [tDes, h5, h15, h28])
    · refine ev_bipush (v := (-2)) X d_M_destroy_18 (by decide) ?_
      exact ev_iretL X hr hk d_M_destroy_20 (by simp [wDes, h5, h15]) (by simp [tDes, h5, h15])
  · refine ev_iconst (v := (-1)) X d_M_destroy_8 (by decide) ?_
    exact ev_iretL X hr hk d_M_destroy_9 (by simp [wDes, h5]) (by simp [tDes, h5])
def shw (v a b c : Int32) : Int32 := if v = 0 then a else if v = 1 then b else c
def nwM (S : St) (z : Int32) : Int32 := S 4 z.toNatClampNeg
def s9M (S : St) (z : Int32) : Int32 := if nwM S z < 0 then -1 else S 9 (nwM S z).toNatClampNeg
def evM (f n : Int32) : Bool := (decide (n = 1) || (decide (n = 2) || (decide (n = 4) || decide (n = 8)))) && decide (rmI f n = 0)
def grE (S : St) (e now k v : Int32) : Int32 :=
  if S 5 e.toNatClampNeg = 0 then 0
  else if rmI k 2 = 1 then shw v 0 0 (if evM (S 6 e.toNatClampNeg) (S 7 e.toNatClampNeg) = true then 0 else 16 * S 6 e.toNatClampNeg)
  else if evM (S 6 e.toNatClampNeg) (S 7 e.toNatClampNeg) = true then shw v 3 (if e = now then 7 else 0) (16 * S 6 e.toNatClampNeg + 8 * S 7 e.toNatClampNeg - 1)
  else shw v 1 (if e = now then 7 else 0) (16 * S 6 e.toNatClampNeg + 16 * S 7 e.toNatClampNeg)
def grM (S : St) (z k v : Int32) : Int32 :=
  if inr z 2 = true ∧ inr k 11 = true ∧ inr v 3 = true then
    (if k = 0 then shw v 3 0 7 else if k = 10 then shw v 3 (if nwM S z < 0 then 7 else 0) 127
     else if k = 9 then (if s9M S z < 0 then 0 else if 256 ≤ s9M S z then shw v 3 3 (16 * (s9M S z - 256) + 7) else shw v 2 3 (s9M S z))
     else grE S ((k - 1) / 2) (nwM S z) k v) else -1
theorem evM_t {f n : Int32} (h : n = 1 ∨ n = 2 ∨ n = 4 ∨ n = 8) (hr : rmI f n = 0) : evM f n = true := by
  unfold evM
  rw [decide_eq_true hr]
  rcases h with rfl | rfl | rfl | rfl <;> rfl
theorem evM_f1 {f n : Int32} (hr : ¬ rmI f n = 0) : evM f n = false := by
  unfold evM
  rw [decide_eq_false hr, Bool.and_false]
theorem evM_f2 {f n : Int32} (h1 : ¬ n = 1) (h2 : ¬ n = 2) (h4 : ¬ n = 4) (h8 : ¬ n = 8) : evM f n = false := by
  unfold evM
  rw [decide_eq_false h1, decide_eq_false h2, decide_eq_false h4, decide_eq_false h8]
  rfl
theorem gk_in {k : Int32} (h : inr k 11 = true) (h0 : ¬ k = 0) (h9 : ¬ k = 9) (h10 : ¬ k = 10) : inr ((k - 1) / 2) 4 = true := by
  obtain ⟨j, hj, rfl⟩ := inr_ex (k := 11) (by decide) rfl h
  have a0 : j ≠ 0 := fun q => h0 (by rw [q]; rfl)
  have a9 : j ≠ 9 := fun q => h9 (by rw [q]; rfl)
  have a10 : j ≠ 10 := fun q => h10 (by rw [q]; rfl)
  rw [show (1 : Int32) = nI 1 from rfl, pk_sub (by omega), show (2 : Int32) = nI 2 from rfl, pk_div (by omega) (by decide) (by decide)]
  exact inr_nI (k := 4) (by omega) (by decide)
set_option maxHeartbeats 4000000 in
set_option maxRecDepth 100000 in
theorem c_M_guard {l : Launch} {D : va_G} {ad : Nat → Nat} {ca : Nat → ClassId} {x : va_W} {S : St} {z k v : Int32} (hru : inr z 2 = true → RuOK S z.toNatClampNeg) : CtM l D ad ca x y_M_guard b_M_guard 10 (some .int) 1 [.ref (ad 0), .int z, .int k, .int v] S S (some (.int (grM S z k v))) := by
  refine ev_ent [some (.ref (ad 0)), some (.int z), some (.int k), some (.int v), none, none, none, none, none, none] rfl (by decide) (Nat.le_of_ble_eq_true rfl) rfl gTT (fun p e s m args below meth c A X hr hk => ?_)
  have pair : inr ((k - 1) / 2) 4 = true → grM S z k v = grE S ((k - 1) / 2) (nwM S z) k v → EV p l e (rmd 1) s m args below meth c 0 0 (MQ below (QQ clX D A (ly_w lyM 14 ad ca S x) (some (.int (grM S z k v)))) args s 0 0 A) 10 D clX A s.heap (ly_w lyM 14 ad ca S x) 145 [some (.ref (ad 0)), some (.int z), some (.int k), some (.int v), some (.int (nwM S z)), none, none, none, none, none] [] := by
    intro hg gq
    refine ev_iload_n X d_M_guard_145 rfl ?_
    refine ev_iconst (v := 1) X d_M_guard_146 (by decide) ?_
    refine ev_isub X d_M_guard_147 ?_
    refine ev_iconst (v := 2) X d_M_guard_148 (by decide) ?_
    refine ev_idiv X d_M_guard_149 (by decide) ?_
    refine ev_istore X d_M_guard_150 (by decide) ?_
    refine ev_aload_n X d_M_guard_152 rfl ?_
    refine ev_getR X f_M_22 lo_mod rfl d_M_guard_153 ?_
    refine ev_iload X d_M_guard_156 rfl ?_
    refine ev_iald X lm_states rfl (inr_z hg) (inr_j (k := 4) rfl (by decide) hg) d_M_guard_158 ?_
    refine ev_if_ne (tgt := 164) X d_M_guard_159 (by decide) (fun h159 => ?_) (fun h159 => ?_)
    · have g5 : ¬ S 5 ((k - 1) / 2).toNatClampNeg = 0 := h159
      have half1 : evM (S 6 ((k - 1) / 2).toNatClampNeg) (S 7 ((k - 1) / 2).toNatClampNeg) = true → EV p l e (rmd 1) s m args below meth c 0 0 (MQ below (QQ clX D A (ly_w lyM 14 ad ca S x) (some (.int (grM S z k v)))) args s 0 0 A) 10 D clX A s.heap (ly_w lyM 14 ad ca S x) 228 [some (.ref (ad 0)), some (.int z), some (.int k), some (.int v), some (.int (nwM S z)), some (.int ((k - 1) / 2)), some (.int (S 7 ((k - 1) / 2).toNatClampNeg)), some (.int (16 * S 6 ((k - 1) / 2).toNatClampNeg)), none, none] [.int 1] := by
        intro hev
        refine ev_istore X d_M_guard_228 (by decide) ?_
        refine ev_iload_n X d_M_guard_230 rfl ?_
        refine ev_iconst (v := 2) X d_M_guard_231 (by decide) ?_
        refine ev_irem X d_M_guard_232 (by decide) ?_
        refine ev_iconst (v := 1) X d_M_guard_233 (by decide) ?_
        refine ev_icmp_ne (tgt := 255) X d_M_guard_234 (by decide) (fun h234 => ?_) (fun h234 => ?_)
        · refine ev_iload X d_M_guard_255 rfl ?_
          refine ev_iload X d_M_guard_257 rfl ?_
          refine ev_icmp_ne (tgt := 267) X d_M_guard_259 (by decide) (fun h259 => ?_) (fun h259 => ?_)
          · refine ev_iconst (v := 0) X d_M_guard_267 (by decide) ?_
            refine ev_topi (v := if (k - 1) / 2 = nwM S z then 7 else 0) (by simp [h234, h259]) ?_
            refine ev_istore X d_M_guard_268 (by decide) ?_
            refine ev_iload X d_M_guard_270 rfl ?_
            refine ev_if_eq (tgt := 295) X d_M_guard_272 (by decide) (fun h272 => ?_) (fun h272 => ?_)
            · exact absurd h272 (by decide)
            · refine ev_iload_n X d_M_guard_275 rfl ?_
              refine ev_iconst (v := 3) X d_M_guard_276 (by decide) ?_
              refine ev_iload X d_M_guard_277 rfl ?_
              refine ev_iload X d_M_guard_279 rfl ?_
              refine ev_bipush (v := 8) X d_M_guard_281 (by decide) ?_
              refine ev_iload X d_M_guard_283 rfl ?_
              refine ev_imul X d_M_guard_285 ?_
              refine ev_iadd X d_M_guard_286 ?_
              refine ev_iconst (v := 1) X d_M_guard_287 (by decide) ?_
              refine ev_isub X d_M_guard_288 ?_
              refine ev_cS1 X m_M_110 c_M_shown (by decide) (by decide) d_M_guard_289 rfl rfl (Nat.le_of_ble_eq_true rfl) ?_
              refine ev_goto (tgt := 310) X d_M_guard_292 (by decide) ?_
              exact ev_iretL X hr hk d_M_guard_310 (by rw [gq, grE, if_neg g5]; first | (rw [if_pos h234, hev]; rfl) | (rw [if_neg h234, hev]; rfl)) (rfl)
          · refine ev_bipush (v := 7) X d_M_guard_262 (by decide) ?_
            refine ev_goto (tgt := 268) X d_M_guard_264 (by decide) ?_
            refine ev_topi (v := if (k - 1) / 2 = nwM S z then 7 else 0) (by simp [h234, h259]) ?_
            refine ev_istore X d_M_guard_268 (by decide) ?_
            refine ev_iload X d_M_guard_270 rfl ?_
            refine ev_if_eq (tgt := 295) X d_M_guard_272 (by decide) (fun h272 => ?_) (fun h272 => ?_)
            · exact absurd h272 (by decide)
            · refine ev_iload_n X d_M_guard_275 rfl ?_
              refine ev_iconst (v := 3) X d_M_guard_276 (by decide) ?_
              refine ev_iload X d_M_guard_277 rfl ?_
              refine ev_iload X d_M_guard_279 rfl ?_
              refine ev_bipush (v := 8) X d_M_guard_281 (by decide) ?_
              refine ev_iload X d_M_guard_283 rfl ?_
              refine ev_imul X d_M_guard_285 ?_
              refine ev_iadd X d_M_guard_286 ?_
              refine ev_iconst (v := 1) X d_M_guard_287 (by decide) ?_
              refine ev_isub X d_M_guard_288 ?_
              refine ev_cS1 X m_M_110 c_M_shown (by decide) (by decide) d_M_guard_289 rfl rfl (Nat.le_of_ble_eq_true rfl) ?_
              refine ev_goto (tgt := 310) X d_M_guard_292 (by decide) ?_
              exact ev_iretL X hr hk d_M_guard_310 (by rw [gq, grE, if_neg g5]; first | (rw [if_pos h234, hev]; rfl) | (rw [if_neg h234, hev]; rfl)) (rfl)
        · refine ev_iload_n X d_M_guard_237 rfl ?_
          refine ev_iconst (v := 0) X d_M_guard_238 (by decide) ?_
          refine ev_iconst (v := 0) X d_M_guard_239 (by decide) ?_
          refine ev_iload X d_M_guard_240 rfl ?_
          refine ev_if_eq (tgt := 249) X d_M_guard_242 (by decide) (fun h242 => ?_) (fun h242 => ?_)
          · exact absurd h242 (by decide)
          · refine ev_iconst (v := 0) X d_M_guard_245 (by decide) ?_
            refine ev_goto (tgt := 251) X d_M_guard_246 (by decide) ?_
            refine ev_cS1 X m_M_110 c_M_shown (by decide) (by decide) d_M_guard_251 rfl rfl (Nat.le_of_ble_eq_true rfl) ?_
            exact ev_iretL X hr hk d_M_guard_254 (by rw [gq, grE, if_neg g5]; first | (rw [if_pos h234, hev]; rfl) | (rw [if_neg h234, hev]; rfl)) (rfl)
      have half0 : evM (S 6 ((k - 1) / 2).toNatClampNeg) (S 7 ((k - 1) / 2).toNatClampNeg) = false → EV p l e (rmd 1) s m args below meth c 0 0 (MQ below (QQ clX D A (ly_w lyM 14 ad ca S x) (some (.int (grM S z k v)))) args s 0 0 A) 10 D clX A s.heap (ly_w lyM 14 ad ca S x) 228 [some (.ref (ad 0)), some (.int z), some (.int k), some (.int v), some (.int (nwM S z)), some (.int ((k - 1) / 2)), some (.int (S 7 ((k - 1) / 2).toNatClampNeg)), some (.int (16 * S 6 ((k - 1) / 2).toNatClampNeg)), none, none] [.int 0] := by
        intro hev
        refine ev_istore X d_M_guard_228 (by decide) ?_
        refine ev_iload_n X d_M_guard_230 rfl ?_
        refine ev_iconst (v := 2) X d_M_guard_231 (by decide) ?_
        refine ev_irem X d_M_guard_232 (by decide) ?_
        refine ev_iconst (v := 1) X d_M_guard_233 (by decide) ?_
        refine ev_icmp_ne (tgt := 255) X d_M_guard_234 (by decide) (fun h234 => ?_) (fun h234 => ?_)
        · refine ev_iload X d_M_guard_255 rfl ?_
          refine ev_iload X d_M_guard_257 rfl ?_
          refine ev_icmp_ne (tgt := 267) X d_M_guard_259 (by decide) (fun h259 => ?_) (fun h259 => ?_)
          · refine ev_iconst (v := 0) X d_M_guard_267 (by decide) ?_
            refine ev_topi (v := if (k - 1) / 2 = nwM S z then 7 else 0) (by simp [h234, h259]) ?_
            refine ev_istore X d_M_guard_268 (by decide) ?_
            refine ev_iload X d_M_guard_270 rfl ?_
            refine ev_if_eq (tgt := 295) X d_M_guard_272 (by decide) (fun h272 => ?_) (fun h272 => ?_)
            · refine ev_iload_n X d_M_guard_295 rfl ?_
              refine ev_iconst (v := 1) X d_M_guard_296 (by decide) ?_
              refine ev_iload X d_M_guard_297 rfl ?_
              refine ev_iload X d_M_guard_299 rfl ?_
              refine ev_bipush (v := 16) X d_M_guard_301 (by decide) ?_
              refine ev_iload X d_M_guard_303 rfl ?_
              refine ev_imul X d_M_guard_305 ?_
              refine ev_iadd X d_M_guard_306 ?_
              refine ev_cS1 X m_M_110 c_M_shown (by decide) (by decide) d_M_guard_307 rfl rfl (Nat.le_of_ble_eq_true rfl) ?_
              exact ev_iretL X hr hk d_M_guard_310 (by rw [gq, grE, if_neg g5]; first | (rw [if_pos h234, hev]; rfl) | (rw [if_neg h234, hev]; rfl)) (rfl)
            · exact absurd h272 (by decide)
          · refine ev_bipush (v := 7) X d_M_guard_262 (by decide) ?_
            refine ev_goto (tgt := 268) X d_M_guard_264 (by decide) ?_
            refine ev_topi (v := if (k - 1) / 2 = nwM S z then 7 else 0) (by simp [h234, h259]) ?_
            refine ev_istore X d_M_guard_268 (by decide) ?_
            refine ev_iload X d_M_guard_270 rfl ?_
            refine ev_if_eq (tgt := 295) X d_M_guard_272 (by decide) (fun h272 => ?_) (fun h272 => ?_)
            · refine ev_iload_n X d_M_guard_295 rfl ?_
              refine ev_iconst (v := 1) X d_M_guard_296 (by decide) ?_
              refine ev_iload X d_M_guard_297 rfl ?_
              refine ev_iload X d_M_guard_299 rfl ?_
              refine ev_bipush (v := 16) X d_M_guard_301 (by decide) ?_
              refine ev_iload X d_M_guard_303 rfl ?_
              refine ev_imul X d_M_guard_305 ?_
              refine ev_iadd X d_M_guard_306 ?_
              refine ev_cS1 X m_M_110 c_M_shown (by decide) (by decide) d_M_guard_307 rfl rfl (Nat.le_of_ble_eq_true rfl) ?_
              exact ev_iretL X hr hk d_M_guard_310 (by rw [gq, grE, if_neg g5]; first | (rw [if_pos h234, hev]; rfl) | (rw [if_neg h234, hev]; rfl)) (rfl)
            · exact absurd h272 (by decide)
        · refine ev_iload_n X d_M_guard_237 rfl ?_
          refine ev_iconst (v := 0) X d_M_guard_238 (by decide) ?_
          refine ev_iconst (v := 0) X d_M_guard_239 (by decide) ?_
          refine ev_iload X d_M_guard_240 rfl ?_
          refine ev_if_eq (tgt := 249) X d_M_guard_242 (by decide) (fun h242 => ?_) (fun h242 => ?_)
          · refine ev_iload X d_M_guard_249 rfl ?_
            refine ev_cS1 X m_M_110 c_M_shown (by decide) (by decide) d_M_guard_251 rfl rfl (Nat.le_of_ble_eq_true rfl) ?_
            exact ev_iretL X hr hk d_M_guard_254 (by rw [gq, grE, if_neg g5]; first | (rw [if_pos h234, hev]; rfl) | (rw [if_neg h234, hev]; rfl)) (rfl)
          · exact absurd h242 (by decide)
      refine ev_aload_n X d_M_guard_164 rfl ?_
      refine ev_getR X f_M_28 lo_mod rfl d_M_guard_165 ?_
      refine ev_iload X d_M_guard_168 rfl ?_
      refine ev_iald X lm_sizes rfl (inr_z hg) (inr_j (k := 4) rfl (by decide) hg) d_M_guard_170 ?_
      refine ev_istore X d_M_guard_171 (by decide) ?_
      refine ev_bipush (v := 16) X d_M_guard_173 (by decide) ?_
      refine ev_aload_n X d_M_guard_175 rfl ?_
      refine ev_getR X f_M_25 lo_mod rfl d_M_guard_176 ?_
      refine ev_iload X d_M_guard_179 rfl ?_
      refine ev_iald X lm_firsts rfl (inr_z hg) (inr_j (k := 4) rfl (by decide) hg) d_M_guard_181 ?_
      refine ev_imul X d_M_guard_182 ?_
      refine ev_istore X d_M_guard_183 (by decide) ?_
      refine ev_iload X d_M_guard_185 rfl ?_
      refine ev_iconst (v := 1) X d_M_guard_187 (by decide) ?_
      refine ev_icmp_eq (tgt := 210) X d_M_guard_188 (by decide) (fun h188 => ?_) (fun h188 => ?_)
      · refine ev_aload_n X d_M_guard_210 rfl ?_
        refine ev_getR X f_M_25 lo_mod rfl d_M_guard_211 ?_
        refine ev_iload X d_M_guard_214 rfl ?_
        refine ev_iald X lm_firsts rfl (inr_z hg) (inr_j (k := 4) rfl (by decide) hg) d_M_guard_216 ?_
        refine ev_iload X d_M_guard_217 rfl ?_
        refine ev_irem X d_M_guard_219 (by first | (rw [h188]; decide) | (rw [h194]; decide) | (rw [h200]; decide) | (rw [h207]; decide)) ?_
        refine ev_if_ne (tgt := 227) X d_M_guard_220 (by decide) (fun h220 => ?_) (fun h220 => ?_)
        · refine ev_iconst (v := 0) X d_M_guard_227 (by decide) ?_
          first | exact half1 (evM_t (by first | exact Or.inl h188 | exact Or.inr (Or.inl h194) | exact Or.inr (Or.inr (Or.inl h200)) | exact Or.inr (Or.inr (Or.inr h207))) h220) | exact half0 (evM_f1 h220) | exact half0 (evM_f2 h188 h194 h200 h207)
        · refine ev_iconst (v := 1) X d_M_guard_223 (by decide) ?_
          refine ev_goto (tgt := 228) X d_M_guard_224 (by decide) ?_
          first | exact half1 (evM_t (by first | exact Or.inl h188 | exact Or.inr (Or.inl h194) | exact Or.inr (Or.inr (Or.inl h200)) | exact Or.inr (Or.inr (Or.inr h207))) h220) | exact half0 (evM_f1 h220) | exact half0 (evM_f2 h188 h194 h200 h207)
      · refine ev_iload X d_M_guard_191 rfl ?_
        refine ev_iconst (v := 2) X d_M_guard_193 (by decide) ?_
        refine ev_icmp_eq (tgt := 210) X d_M_guard_194 (by decide) (fun h194 => ?_) (fun h194 => ?_)
        · refine ev_aload_n X d_M_guard_210 rfl ?_
          refine ev_getR X f_M_25 lo_mod rfl d_M_guard_211 ?_
          refine ev_iload X d_M_guard_214 rfl ?_
          refine ev_iald X lm_firsts rfl (inr_z hg) (inr_j (k := 4) rfl (by decide) hg) d_M_guard_216 ?_
          refine ev_iload X d_M_guard_217 rfl ?_
          refine ev_irem X d_M_guard_219 (by first | (rw [h188]; decide) | (rw [h194]; decide) | (rw [h200]; decide) | (rw [h207]; decide)) ?_
          refine ev_if_ne (tgt := 227) X d_M_guard_220 (by decide) (fun h220 => ?_) (fun h220 => ?_)
          · refine ev_iconst (v := 0) X d_M_guard_227 (by decide) ?_
            first | exact half1 (evM_t (by first | exact Or.inl h188 | exact Or.inr (Or.inl h194) | exact Or.inr (Or.inr (Or.inl h200)) | exact Or.inr (Or.inr (Or.inr h207))) h220) | exact half0 (evM_f1 h220) | exact half0 (evM_f2 h188 h194 h200 h207)
          · refine ev_iconst (v := 1) X d_M_guard_223 (by decide) ?_
            refine ev_goto (tgt := 228) X d_M_guard_224 (by decide) ?_
            first | exact half1 (evM_t (by first | exact Or.inl h188 | exact Or.inr (Or.inl h194) | exact Or.inr (Or.inr (Or.inl h200)) | exact Or.inr (Or.inr (Or.inr h207))) h220) | exact half0 (evM_f1 h220) | exact half0 (evM_f2 h188 h194 h200 h207)
        · refine ev_iload X d_M_guard_197 rfl ?_
          refine ev_iconst (v := 4) X d_M_guard_199 (by decide) ?_
          refine ev_icmp_eq (tgt := 210) X d_M_guard_200 (by decide) (fun h200 => ?_) (fun h200 => ?_)
          · refine ev_aload_n X d_M_guard_210 rfl ?_
            refine ev_getR X f_M_25 lo_mod rfl d_M_guard_211 ?_
            refine ev_iload X d_M_guard_214 rfl ?_
            refine ev_iald X lm_firsts rfl (inr_z hg) (inr_j (k := 4) rfl (by decide) hg) d_M_guard_216 ?_
            refine ev_iload X d_M_guard_217 rfl ?_
            refine ev_irem X d_M_guard_219 (by first | (rw [h188]; decide) | (rw [h194]; decide) | (rw [h200]; decide) | (rw [h207]; decide)) ?_
            refine ev_if_ne (tgt := 227) X d_M_guard_220 (by decide) (fun h220 => ?_) (fun h220 => ?_)
            · refine ev_iconst (v := 0) X d_M_guard_227 (by decide) ?_
              first | exact half1 (evM_t (by first | exact Or.inl h188 | exact Or.inr (Or.inl h194) | exact Or.inr (Or.inr (Or.inl h200)) | exact Or.inr (Or.inr (Or.inr h207))) h220) | exact half0 (evM_f1 h220) | exact half0 (evM_f2 h188 h194 h200 h207)
            · refine ev_iconst (v := 1) X d_M_guard_223 (by decide) ?_
              refine ev_goto (tgt := 228) X d_M_guard_224 (by decide) ?_
              first | exact half1 (evM_t (by first | exact Or.inl h188 | exact Or.inr (Or.inl h194) | exact Or.inr (Or.inr (Or.inl h200)) | exact Or.inr (Or.inr (Or.inr h207))) h220) | exact half0 (evM_f1 h220) | exact half0 (evM_f2 h188 h194 h200 h207)
          · refine ev_iload X d_M_guard_203 rfl ?_
            refine ev_bipush (v := 8) X d_M_guard_205 (by decide) ?_
            refine ev_icmp_ne (tgt := 227) X d_M_guard_207 (by decide) (fun h207 => ?_) (fun h207 => ?_)
            · refine ev_iconst (v := 0) X d_M_guard_227 (by decide) ?_
              first | exact half1 (evM_t (by first | exact Or.inl h188 | exact Or.inr (Or.inl h194) | exact Or.inr (Or.inr (Or.inl h200)) | exact Or.inr (Or.inr (Or.inr h207))) h220) | exact half0 (evM_f1 h220) | exact half0 (evM_f2 h188 h194 h200 h207)
            · refine ev_aload_n X d_M_guard_210 rfl ?_
              refine ev_getR X f_M_25 lo_mod rfl d_M_guard_211 ?_
              refine ev_iload X d_M_guard_214 rfl ?_
              refine ev_iald X lm_firsts rfl (inr_z hg) (inr_j (k := 4) rfl (by decide) hg) d_M_guard_216 ?_
              refine ev_iload X d_M_guard_217 rfl ?_
              refine ev_irem X d_M_guard_219 (by first | (rw [h188]; decide) | (rw [h194]; decide) | (rw [h200]; decide) | (rw [h207]; decide)) ?_
              refine ev_if_ne (tgt := 227) X d_M_guard_220 (by decide) (fun h220 => ?_) (fun h220 => ?_)
              · refine ev_iconst (v := 0) X d_M_guard_227 (by decide) ?_
                first | exact half1 (evM_t (by first | exact Or.inl h188 | exact Or.inr (Or.inl h194) | exact Or.inr (Or.inr (Or.inl h200)) | exact Or.inr (Or.inr (Or.inr h207))) h220) | exact half0 (evM_f1 h220) | exact half0 (evM_f2 h188 h194 h200 h207)
              · refine ev_iconst (v := 1) X d_M_guard_223 (by decide) ?_
                refine ev_goto (tgt := 228) X d_M_guard_224 (by decide) ?_
                first | exact half1 (evM_t (by first | exact Or.inl h188 | exact Or.inr (Or.inl h194) | exact Or.inr (Or.inr (Or.inl h200)) | exact Or.inr (Or.inr (Or.inr h207))) h220) | exact half0 (evM_f1 h220) | exact half0 (evM_f2 h188 h194 h200 h207)
    · have g5 : S 5 ((k - 1) / 2).toNatClampNeg = 0 := h159
      refine ev_iconst (v := 0) X d_M_guard_162 (by decide) ?_
      exact ev_iretL X hr hk d_M_guard_163 (by rw [gq]; simp [grE, g5]) (rfl)
  refine ev_iload_n X d_M_guard_0 rfl ?_
  refine ev_cS1 X m_M_58 c_M_processor (by decide) (by decide) d_M_guard_1 rfl rfl (Nat.le_of_ble_eq_true rfl) ?_
  refine ev_if_eqB (tgt := 26) X d_M_guard_4 (by decide) (fun h4 => ?_) (fun h4 => ?_)
  · refine ev_iconst (v := (-1)) X d_M_guard_26 (by decide) ?_
    exact ev_iretL X hr hk d_M_guard_27 (by first | (simp [grM, h4]; done) | (simp [grM, hi]; done) | (simp [grM, hj]; done)) (rfl)
  · refine ev_iload_n X d_M_guard_7 rfl ?_
    refine ev_if_lt (tgt := 26) X d_M_guard_8 (by decide) (fun h8 => ?_) (fun h8 => ?_)
    · have hi : inr k 11 = false := by simp [inr, h8]
      refine ev_iconst (v := (-1)) X d_M_guard_26 (by decide) ?_
      exact ev_iretL X hr hk d_M_guard_27 (by first | (simp [grM, h4]; done) | (simp [grM, hi]; done) | (simp [grM, hj]; done)) (rfl)
    · refine ev_iload_n X d_M_guard_11 rfl ?_
      refine ev_bipush (v := 10) X d_M_guard_12 (by decide) ?_
      refine ev_icmp_gt (tgt := 26) X d_M_guard_14 (by decide) (fun h14 => ?_) (fun h14 => ?_)
      · have hi : inr k 11 = false := inr_nle (n := 10) (by decide) rfl rfl (Int32.not_le.mpr h14)
        refine ev_iconst (v := (-1)) X d_M_guard_26 (by decide) ?_
        exact ev_iretL X hr hk d_M_guard_27 (by first | (simp [grM, h4]; done) | (simp [grM, hi]; done) | (simp [grM, hj]; done)) (rfl)
      · have hi : inr k 11 = true := inr_nlt (n := 10) (by decide) rfl rfl h8 h14
        refine ev_iload_n X d_M_guard_17 rfl ?_
        refine ev_if_lt (tgt := 26) X d_M_guard_18 (by decide) (fun h18 => ?_) (fun h18 => ?_)
        · have hj : inr v 3 = false := by simp [inr, h18]
          refine ev_iconst (v := (-1)) X d_M_guard_26 (by decide) ?_
          exact ev_iretL X hr hk d_M_guard_27 (by first | (simp [grM, h4]; done) | (simp [grM, hi]; done) | (simp [grM, hj]; done)) (rfl)
        · refine ev_iload_n X d_M_guard_21 rfl ?_
          refine ev_iconst (v := 2) X d_M_guard_22 (by decide) ?_
          refine ev_icmp_le (tgt := 28) X d_M_guard_23 (by decide) (fun h23 => ?_) (fun h23 => ?_)
          · have hj : inr v 3 = true := inr_le (n := 2) (by decide) rfl rfl h18 h23
            refine ev_aload_n X d_M_guard_28 rfl ?_
            refine ev_getR X f_M_19 lo_mod rfl d_M_guard_29 ?_
            refine ev_iload_n X d_M_guard_32 rfl ?_
            refine ev_iald X lm_runs rfl (inr_z h4) (inr_j (k := 2) rfl (by decide) h4) d_M_guard_33 ?_
            refine ev_topi (v := nwM S z) rfl ?_
            refine ev_istore X d_M_guard_34 (by decide) ?_
            refine ev_iload_n X d_M_guard_36 rfl ?_
            refine ev_if_ne (tgt := 49) X d_M_guard_37 (by decide) (fun h37 => ?_) (fun h37 => ?_)
            · refine ev_iload_n X d_M_guard_49 rfl ?_
              refine ev_bipush (v := 10) X d_M_guard_50 (by decide) ?_
              refine ev_icmp_ne (tgt := 74) X d_M_guard_52 (by decide) (fun h52 => ?_) (fun h52 => ?_)
              · refine ev_iload_n X d_M_guard_74 rfl ?_
                refine ev_bipush (v := 9) X d_M_guard_75 (by decide) ?_
                refine ev_icmp_ne (tgt := 145) X d_M_guard_77 (by decide) (fun h77 => ?_) (fun h77 => ?_)
                · exact pair (gk_in hi h37 h77 h52) (by rw [grM, if_pos (show inr z 2 = true ∧ inr k 11 = true ∧ inr v 3 = true from ⟨h4, hi, hj⟩), if_neg h37, if_neg h52, if_neg h77])
                · refine ev_iload X d_M_guard_80 rfl ?_
                  refine ev_if_ge (tgt := 89) X d_M_guard_82 (by decide) (fun h82 => ?_) (fun h82 => ?_)
                  · have hn : ¬ nwM S z < 0 := Int32.not_lt.mpr h82
                    refine ev_aload_n X d_M_guard_89 rfl ?_
                    refine ev_getR X f_M_34 lo_mod rfl d_M_guard_90 ?_
                    refine ev_iload X d_M_guard_93 rfl ?_
                    refine ev_iald X lm_shares rfl (inr_z ((hru h4).resolve_left hn)) (inr_j (k := 4) rfl (by decide) ((hru h4).resolve_left hn)) d_M_guard_95 ?_
                    refine ev_topi (v := s9M S z) (by simp [s9M, hn]; try rfl) ?_
                    refine ev_istore X d_M_guard_96 (by decide) ?_
                    refine ev_iload X d_M_guard_98 rfl ?_
                    refine ev_if_ge (tgt := 107) X d_M_guard_100 (by decide) (fun h100 => ?_) (fun h100 => ?_)
                    · have hs : ¬ s9M S z < 0 := Int32.not_lt.mpr h100
                      refine ev_iload X d_M_guard_107 rfl ?_
                      refine ev_sipush (v := 256) X d_M_guard_109 (by decide) ?_
                      refine ev_icmp_ge (tgt := 126) X d_M_guard_112 (by decide) (fun h112 => ?_) (fun h112 => ?_)
                      · refine ev_iload_n X d_M_guard_126 rfl ?_
                        refine ev_iconst (v := 3) X d_M_guard_127 (by decide) ?_
                        refine ev_iconst (v := 3) X d_M_guard_128 (by decide) ?_
                        refine ev_bipush (v := 16) X d_M_guard_129 (by decide) ?_
                        refine ev_iload X d_M_guard_131 rfl ?_
                        refine ev_sipush (v := 256) X d_M_guard_133 (by decide) ?_
                        refine ev_isub X d_M_guard_136 ?_
                        refine ev_imul X d_M_guard_137 ?_
                        refine ev_bipush (v := 7) X d_M_guard_138 (by decide) ?_
                        refine ev_iadd X d_M_guard_140 ?_
                        refine ev_cS1 X m_M_110 c_M_shown (by decide) (by decide) d_M_guard_141 rfl rfl (Nat.le_of_ble_eq_true rfl) ?_
                        exact ev_iretL X hr hk d_M_guard_144 (by rw [grM, if_pos (show inr z 2 = true ∧ inr k 11 = true ∧ inr v 3 = true from ⟨h4, hi, hj⟩), if_neg h37, if_neg h52, if_pos h77]; first | (rw [if_pos hs]; done) | (rw [if_neg hs, if_pos h112]; rfl) | (rw [if_neg hs, if_neg h112]; rfl)) (rfl)
                      · refine ev_iload_n X d_M_guard_115 rfl ?_
                        refine ev_iconst (v := 2) X d_M_guard_116 (by decide) ?_
                        refine ev_iconst (v := 3) X d_M_guard_117 (by decide) ?_
                        refine ev_iload X d_M_guard_118 rfl ?_
                        refine ev_cS1 X m_M_110 c_M_shown (by decide) (by decide) d_M_guard_120 rfl rfl (Nat.le_of_ble_eq_true rfl) ?_
                        refine ev_goto (tgt := 144) X d_M_guard_123 (by decide) ?_
                        exact ev_iretL X hr hk d_M_guard_144 (by rw [grM, if_pos (show inr z 2 = true ∧ inr k 11 = true ∧ inr v 3 = true from ⟨h4, hi, hj⟩), if_neg h37, if_neg h52, if_pos h77]; first | (rw [if_pos hs]; done) | (rw [if_neg hs, if_pos h112]; rfl) | (rw [if_neg hs, if_neg h112]; rfl)) (rfl)
                    · have hs : s9M S z < 0 := Int32.not_le.mp h100
                      refine ev_iconst (v := 0) X d_M_guard_103 (by decide) ?_
                      refine ev_goto (tgt := 144) X d_M_guard_104 (by decide) ?_
                      exact ev_iretL X hr hk d_M_guard_144 (by rw [grM, if_pos (show inr z 2 = true ∧ inr k 11 = true ∧ inr v 3 = true from ⟨h4, hi, hj⟩), if_neg h37, if_neg h52, if_pos h77]; first | (rw [if_pos hs]; done) | (rw [if_neg hs, if_pos h112]; rfl) | (rw [if_neg hs, if_neg h112]; rfl)) (rfl)
                  · have hn : nwM S z < 0 := Int32.not_le.mp h82
                    refine ev_iconst (v := (-1)) X d_M_guard_85 (by decide) ?_
                    refine ev_goto (tgt := 96) X d_M_guard_86 (by decide) ?_
                    refine ev_topi (v := s9M S z) (by simp [s9M, hn]; try rfl) ?_
                    refine ev_istore X d_M_guard_96 (by decide) ?_
                    refine ev_iload X d_M_guard_98 rfl ?_
                    refine ev_if_ge (tgt := 107) X d_M_guard_100 (by decide) (fun h100 => ?_) (fun h100 => ?_)
                    · have hs : ¬ s9M S z < 0 := Int32.not_lt.mpr h100
                      refine ev_iload X d_M_guard_107 rfl ?_
                      refine ev_sipush (v := 256) X d_M_guard_109 (by decide) ?_
                      refine ev_icmp_ge (tgt := 126) X d_M_guard_112 (by decide) (fun h112 => ?_) (fun h112 => ?_)
                      · refine ev_iload_n X d_M_guard_126 rfl ?_
                        refine ev_iconst (v := 3) X d_M_guard_127 (by decide) ?_
                        refine ev_iconst (v := 3) X d_M_guard_128 (by decide) ?_
                        refine ev_bipush (v := 16) X d_M_guard_129 (by decide) ?_
                        refine ev_iload X d_M_guard_131 rfl ?_
                        refine ev_sipush (v := 256) X d_M_guard_133 (by decide) ?_
                        refine ev_isub X d_M_guard_136 ?_
                        refine ev_imul X d_M_guard_137 ?_
                        refine ev_bipush (v := 7) X d_M_guard_138 (by decide) ?_
                        refine ev_iadd X d_M_guard_140 ?_
                        refine ev_cS1 X m_M_110 c_M_shown (by decide) (by decide) d_M_guard_141 rfl rfl (Nat.le_of_ble_eq_true rfl) ?_
                        exact ev_iretL X hr hk d_M_guard_144 (by rw [grM, if_pos (show inr z 2 = true ∧ inr k 11 = true ∧ inr v 3 = true from ⟨h4, hi, hj⟩), if_neg h37, if_neg h52, if_pos h77]; first | (rw [if_pos hs]; done) | (rw [if_neg hs, if_pos h112]; rfl) | (rw [if_neg hs, if_neg h112]; rfl)) (rfl)
                      · refine ev_iload_n X d_M_guard_115 rfl ?_
                        refine ev_iconst (v := 2) X d_M_guard_116 (by decide) ?_
                        refine ev_iconst (v := 3) X d_M_guard_117 (by decide) ?_
                        refine ev_iload X d_M_guard_118 rfl ?_
                        refine ev_cS1 X m_M_110 c_M_shown (by decide) (by decide) d_M_guard_120 rfl rfl (Nat.le_of_ble_eq_true rfl) ?_
                        refine ev_goto (tgt := 144) X d_M_guard_123 (by decide) ?_
                        exact ev_iretL X hr hk d_M_guard_144 (by rw [grM, if_pos (show inr z 2 = true ∧ inr k 11 = true ∧ inr v 3 = true from ⟨h4, hi, hj⟩), if_neg h37, if_neg h52, if_pos h77]; first | (rw [if_pos hs]; done) | (rw [if_neg hs, if_pos h112]; rfl) | (rw [if_neg hs, if_neg h112]; rfl)) (rfl)
                    · have hs : s9M S z < 0 := Int32.not_le.mp h100
                      refine ev_iconst (v := 0) X d_M_guard_103 (by decide) ?_
                      refine ev_goto (tgt := 144) X d_M_guard_104 (by decide) ?_
                      exact ev_iretL X hr hk d_M_guard_144 (by rw [grM, if_pos (show inr z 2 = true ∧ inr k 11 = true ∧ inr v 3 = true from ⟨h4, hi, hj⟩), if_neg h37, if_neg h52, if_pos h77]; first | (rw [if_pos hs]; done) | (rw [if_neg hs, if_pos h112]; rfl) | (rw [if_neg hs, if_neg h112]; rfl)) (rfl)
              · refine ev_iload_n X d_M_guard_55 rfl ?_
                refine ev_iconst (v := 3) X d_M_guard_56 (by decide) ?_
                refine ev_iload X d_M_guard_57 rfl ?_
                refine ev_if_ge (tgt := 67) X d_M_guard_59 (by decide) (fun h59 => ?_) (fun h59 => ?_)
                · have hn : ¬ nwM S z < 0 := Int32.not_lt.mpr h59
                  refine ev_iconst (v := 0) X d_M_guard_67 (by decide) ?_
                  refine ev_topi (v := if nwM S z < 0 then 7 else 0) (by simp [hn]) ?_
                  refine ev_bipush (v := 127) X d_M_guard_68 (by decide) ?_
                  refine ev_cS1 X m_M_110 c_M_shown (by decide) (by decide) d_M_guard_70 rfl rfl (Nat.le_of_ble_eq_true rfl) ?_
                  exact ev_iretL X hr hk d_M_guard_73 (by rw [grM, if_pos (show inr z 2 = true ∧ inr k 11 = true ∧ inr v 3 = true from ⟨h4, hi, hj⟩), if_neg h37, if_pos h52]; rfl) (rfl)
                · have hn : nwM S z < 0 := Int32.not_le.mp h59
                  refine ev_bipush (v := 7) X d_M_guard_62 (by decide) ?_
                  refine ev_goto (tgt := 68) X d_M_guard_64 (by decide) ?_
                  refine ev_topi (v := if nwM S z < 0 then 7 else 0) (by simp [hn]) ?_
                  refine ev_bipush (v := 127) X d_M_guard_68 (by decide) ?_
                  refine ev_cS1 X m_M_110 c_M_shown (by decide) (by decide) d_M_guard_70 rfl rfl (Nat.le_of_ble_eq_true rfl) ?_
                  exact ev_iretL X hr hk d_M_guard_73 (by rw [grM, if_pos (show inr z 2 = true ∧ inr k 11 = true ∧ inr v 3 = true from ⟨h4, hi, hj⟩), if_neg h37, if_pos h52]; rfl) (rfl)
            · refine ev_iload_n X d_M_guard_40 rfl ?_
              refine ev_iconst (v := 3) X d_M_guard_41 (by decide) ?_
              refine ev_iconst (v := 0) X d_M_guard_42 (by decide) ?_
              refine ev_bipush (v := 7) X d_M_guard_43 (by decide) ?_
              refine ev_cS1 X m_M_110 c_M_shown (by decide) (by decide) d_M_guard_45 rfl rfl (Nat.le_of_ble_eq_true rfl) ?_
              exact ev_iretL X hr hk d_M_guard_48 (by rw [grM, if_pos (show inr z 2 = true ∧ inr k 11 = true ∧ inr v 3 = true from ⟨h4, hi, hj⟩), if_pos h37]; rfl) (rfl)
          · have hj : inr v 3 = false := inr_nle (n := 2) (by decide) rfl rfl h23
            refine ev_iconst (v := (-1)) X d_M_guard_26 (by decide) ?_
            exact ev_iretL X hr hk d_M_guard_27 (by first | (simp [grM, h4]; done) | (simp [grM, hi]; done) | (simp [grM, hj]; done)) (rfl)
end
section
-- ===== rows of constructors: worlds that grow =====
def rmc (d mc ms : Nat) : Room := { frames := d, cells := mc, slots := ms, locals := 32 * d }
def AOx (U : State) : Prop := va_AO R_P U ∧ va_AO R_E U ∧ va_AO R_G U
theorem AOx.moved {u U : State} (hvm : u.vm.Alike U.vm) (h : AOx u) : AOx U := ⟨h.1.moved hvm, h.2.1.moved hvm, h.2.2.moved hvm⟩
def CPC (cl : List vw_C) (tys : List (ClassId × FieldType)) (D : va_G) (as : List Value) (sz : Nat) (w : va_W) : Array Value → State → Prop := va_Pc as (fun U => U.heap.size = sz ∧ va_P D cl w U.heap ∧ va_K D cl tys U ∧ va_D (fun _ => True) w ∧ AOx U)
theorem CPC.blind {cl : List vw_C} {tys : List (ClassId × FieldType)} {D : va_G} {as : List Value} {sz : Nat} {w : va_W} : FrameBlind (CPC cl tys D as sz w) := fun a U g mk q => by
  obtain ⟨q0, q1, qP, qK, qD, qA⟩ := q
  exact ⟨q0, q1, qP, va_K.moved (u := U) (U := U.calling g mk a) (Vm.Alike.refl U.vm) qK, qD, AOx.moved (u := U) (U := U.calling g mk a) (Vm.Alike.refl U.vm) qA⟩
def QC (cl : List vw_C) (D : va_G) (A : Nat → Prop) (post : va_W → Prop) : Array Value → State → Outcome → State → Prop := fun _ st oc t => oc = .returned none ∧ (∃ w', post w' ∧ va_P D cl w' t.heap ∧ va_D A w') ∧ va_F A st t
def CtC (l : Launch) (cl : List vw_C) (tys : List (ClassId × FieldType)) (Ts : List Cond) (D : va_G) (y : MethodName) (cc : ByteArray) (nL : Nat) (rm : Room) (mc ms : Nat) (as : List Value) (w : va_W) (post : va_W → Prop) : Prop :=
  ∀ sz, Met l y (.code y cc nL none :: Ts) rm (CPC cl tys D as sz w) (QC cl D (va_A w sz) post) mc ms (va_A w sz)
section EVN
variable {p : Program} {l : Launch} {e : Env} {R : Room} {s : State} {m : MethodId} {args : Array Value} {below : List Frame} {meth : Method} {c : Code} {cells slots : Nat} {Q : State → Prop}
variable {cc : ByteArray} {nL pc : Nat} {own : String} {Ts : List Cond} {D : va_G} {cl : List vw_C} {tys : List (ClassId × FieldType)} {A : Nat → Prop} {H0 : Heap} {w : va_W} {lv : List (Option Value)} {st : List Value}
theorem ev_objInit (X : ECx p s m args c cc nL own Ts D cl tys A H0) {idx a : Nat} (h1 : Cond.methodLink own idx objectInit ∈ Ts) (h2 : Cond.instanceMethod objectInit ∈ Ts) (h3 : Cond.code objectInit ⟨#[0xb1]⟩ 1 none ∈ Ts) (d : decode cc pc = .ok (.invokespecial idx, 3)) (hf : 1 ≤ R.frames) (hl0 : (st.map fun v => v.category).sum + 12 ≤ R.locals)
    (k : EV p l e R s m args below meth c cells slots Q nL D cl A H0 w (pc + 3) lv st) : EV p l e R s m args below meth c cells slots Q nL D cl A H0 w pc lv (.ref a :: st) := fun H locs ls hP hD hS hl => by
  refine W.objInit X.1.1 X.1.2.1 X.1.2.2.2.1 (X.1.2.2.2.2 _ h1) (X.1.2.2.2.2 _ h2) (X.1.2.2.2.2 _ h3) rfl (by rw [X.1.2.2.1]; exact hl.1.1) rfl d hf ?_ ?_
  · show 2 * 0 + _ + 12 ≤ _
    omega
  · exact W.eq (g2 := F0 m (pc + 3) ls st) rfl (k H locs ls hP hD hS hl)
theorem ev_new (X : ECx p s m args c cc nL own Ts D cl tys A H0) {idx ci N : Nat} {C : String} {T : u_T} {fs : List Value} (hcl : Cond.classLink own idx C ∈ Ts) (hinst : Cond.instantiable C N ∈ Ts) (hini : Cond.initialized C ∈ Ts) (hc : cl[ci]? = some (C, T, N)) (hu : ∀ w ∈ u_ws C T N, w ∈ Ts) (ty0 : Nat → FieldType) (hty : ∀ k, k < N → parseFieldDescriptor (T k).2.2.1 = some (ty0 k)) (hfs : ∀ j, j < N → defaultValue (ty0 j) = vp_V fs j) (hcells : cells + 1 ≤ R.cells) (hslots : slots + N ≤ R.slots) (d : decode cc pc = .ok (.new idx, 3))
    (k : ∀ q : Nat, EV p l e R s m args below meth c (cells + 1) (slots + N) Q nL D cl A H0 (w ++ [(q, .inr (ci, fs))]) (pc + 3) lv (.ref q :: st)) : EV p l e R s m args below meth c cells slots Q nL D cl A H0 w pc lv st := fun H locs ls hP hD hS hl =>
  va_new X.1.1 X.1.2.1 X.1.2.2.2.2 hu ty0 hty X.1.2.2.2.1 (X.1.2.2.2.2 _ hcl) (X.1.2.2.2.2 _ hinst) (X.1.2.2.2.2 _ hini) X.2.1 hP hD hS X.2.2.1 hc hfs hcells hslots d (fun q H1 hP1 hD1 hS1 => k q H1 locs ls hP1 hD1 hS1 hl)
theorem ev_newa (X : ECx p s m args c cc nL own Ts D cl tys A H0) {c0 : ClassId} {n : Int32} {N' : Nat} (harr : Cond.arrayClass .int ∈ Ts) (ht : tys[0]? = some (c0, .int)) (hn : ¬ n < 0) (hN : n.toNatClampNeg = N') (hb : N' * componentBytes .int ≤ 536870912) (hcells : cells + 1 ≤ R.cells) (hslots : slots + N' ≤ R.slots) (d : decode cc pc = .ok (.newarray .int, 2))
    (k : ∀ q : Nat, EV p l e R s m args below meth c (cells + 1) (slots + N') Q nL D cl A H0 (w ++ [(q, .inl (c0, N', .inl (fun _ => 0)))]) (pc + 2) lv (.ref q :: st)) : EV p l e R s m args below meth c cells slots Q nL D cl A H0 w pc lv (.int n :: st) := fun H locs ls hP hD hS hl => by
  refine va_newa (atype := .int) (ty := .int) (a0 := (N', .inl (fun _ => 0))) X.1.1 X.1.2.1 (X.1.2.2.2.2 _ harr) rfl X.2.1 hP hD hS X.2.2.1 (fun cA => rfl) hn hN hb hcells hslots d (fun q cA H1 hK1 hP1 hD1 hS1 => ?_)
  have e1 : s.vm.findClass ("[" ++ (FieldType.int).toString) = some c0 := (X.2.1.2 0 _ ht).2
  have e2 : s.vm.findClass ("[" ++ (FieldType.int).toString) = some cA := (hK1.2 tys.length (cA, .int) (by rw [List.getElem?_append_right (Nat.le_refl _), Nat.sub_self]; rfl)).2
  have e3 : c0 = cA := Option.some.inj (e1.symm.trans e2)
  subst e3
  exact k q H1 locs ls hP1 hD1 hS1 hl
theorem ev_newq (X : ECx p s m args c cc nL own Ts D cl tys A H0) {c0 : ClassId} {idx t0 : Nat} {C : String} {n : Int32} {N' : Nat} (hcl : Cond.classLink own idx C ∈ Ts) (hov : va_AO C s) (ht : tys[t0]? = some (c0, .object C)) (hn : ¬ n < 0) (hN : n.toNatClampNeg = N') (hb : N' * 4 ≤ 536870912) (hcells : cells + 1 ≤ R.cells) (hslots : slots + N' ≤ R.slots) (d : decode cc pc = .ok (.anewarray idx, 3))
    (k : ∀ q : Nat, EV p l e R s m args below meth c (cells + 1) (slots + N') Q nL D cl A H0 (w ++ [(q, .inl (c0, N', .inr (.inr (.inr (.inr (fun _ => none))))))]) (pc + 3) lv (.ref q :: st)) : EV p l e R s m args below meth c cells slots Q nL D cl A H0 w pc lv (.int n :: st) := fun H locs ls hP hD hS hl => by
  refine va_newq X.1.1 X.1.2.1 X.1.2.2.2.1 (X.1.2.2.2.2 _ hcl) hov X.2.1 hP hD hS X.2.2.1 hn hN hb hcells hslots d (fun q cA H1 hK1 hP1 hD1 hS1 => ?_)
  obtain ⟨-, -, -, -, -, e1⟩ := (X.2.1.2 t0 _ ht).2
  obtain ⟨-, -, -, -, -, e2⟩ := (hK1.2 tys.length (cA, .object C) (by rw [List.getElem?_append_right (Nat.le_refl _), Nat.sub_self]; rfl)).2
  have e3 : c0 = cA := Option.some.inj (e1.symm.trans e2)
  subst e3
  exact k q H1 locs ls hP1 hD1 hS1 hl
theorem ev_putF (X : ECx p s m args c cc nL own Ts D cl tys A H0) (hin : meth.name = "<init>") {idx ci k : Nat} {ty : FieldType} (F : Fk cl Ts own idx ci k true ty) (hF : ∀ r : vw_C, cl[ci]? = some r → (r.2.1 k).1 = own) (q0 : Nat) {a : Nat} {fs : List Value} (he : w[q0]? = some (a, .inr (ci, fs))) {v : Value} (hn : narrow ty v = v) (hfit : fits ty v = true) (hl0 : k < fs.length) (d : decode cc pc = .ok (.putfield idx, 3))
    (kk : EV p l e R s m args below meth c cells slots Q nL D cl A H0 (w.set q0 (a, .inr (ci, fs.set k v))) (pc + 3) lv st) : EV p l e R s m args below meth c cells slots Q nL D cl A H0 w pc lv (v :: .ref a :: st) := fun H locs ls hP hD hS hl => by
  obtain ⟨C, T, n, t0, h1, h2, h3, h4, h5, h6, h7, h8⟩ := F
  exact va_putF X.1.1 X.1.2.1 X.1.2.2.2.2 h2 t0 h7 h8 X.1.2.2.2.1 X.2.1 hP hD hS q0 he h1 k h3 (X.1.2.2.2.2 _ h4) (fun x h => h) h5 hin (hF _ h1) h6 hn hfit hl0 d (fun H1 locs1 hP1 hD1 hS1 => kk H1 locs1 ls hP1 hD1 hS1 hl)
theorem ev_iastC (X : ECx p s m args c cc nL own Ts D cl tys A H0) {c0 : ClassId} {n j a : Nat} {f : Nat → Int32} {z v : Int32} (q0 : Nat) (he : w[q0]? = some (a, .inl (c0, n, .inl f))) (ht : tys[0]? = some (c0, .int)) (hz : z = nI j) (hj : j < n) (hn : n < 2 ^ 31) (d : decode cc pc = .ok (.iastore, 1))
    (kk : EV p l e R s m args below meth c cells slots Q nL D cl A H0 (w.set q0 (a, .inl (c0, n, .inl (upd f j v)))) (pc + 1) lv st) : EV p l e R s m args below meth c cells slots Q nL D cl A H0 w pc lv (.int v :: .int z :: .ref a :: st) := fun H locs ls hP hD hS hl => by
  subst hz
  refine va_iast X.1.1 X.1.2.1 X.2.1 hP hD hS q0 0 he ht (nI_in hj hn) d (fun H1 locs1 hP1 hD1 hS1 => ?_)
  rw [nI_clamp (Nat.lt_trans hj hn)] at hP1 hD1
  exact kk H1 locs1 ls hP1 hD1 hS1 hl
theorem ev_astq (X : ECx p s m args c cc nL own Ts D cl tys A H0) {c0 : ClassId} {n j a v : Nat} {f : Nat → Option Nat} {z : Int32} {r : vw_C} {vs : List Value} (q0 t0 qk ci : Nat) (he : w[q0]? = some (a, .inl (c0, n, .inr (.inr (.inr (.inr f)))))) (ht : tys[t0]? = some (c0, .object r.1)) (hv : w[qk]? = some (v, .inr (ci, vs))) (hc : cl[ci]? = some r) (hz : z = nI j) (hj : j < n) (hn : n < 2 ^ 31) (d : decode cc pc = .ok (.aastore, 1))
    (kk : EV p l e R s m args below meth c cells slots Q nL D cl A H0 (w.set q0 (a, .inl (c0, n, .inr (.inr (.inr (.inr (va_up f j (some v)))))))) (pc + 1) lv st) : EV p l e R s m args below meth c cells slots Q nL D cl A H0 w pc lv (.ref v :: .int z :: .ref a :: st) := fun H locs ls hP hD hS hl => by
  subst hz
  refine va_astq X.1.1 X.1.2.1 X.2.1 hP hD hS q0 t0 qk ci he ht hv hc (nI_in hj hn) d (fun H1 locs1 hP1 hD1 hS1 => ?_)
  rw [nI_clamp (Nat.lt_trans hj hn)] at hP1 hD1
  exact kk H1 locs1 ls hP1 hD1 hS1 hl
/-- two contents of a cell that say the same -/
def sm (q q' : Nat × va_E) : Prop := q = q' ∨ ∃ (a : Nat) (c0 : ClassId) (n : Nat) (f f' : Nat → Option Nat), q = (a, .inl (c0, n, .inr (.inr (.inr (.inr f))))) ∧ q' = (a, .inl (c0, n, .inr (.inr (.inr (.inr f'))))) ∧ ∀ k, k < n → f k = f' k
theorem arrV_congr {c0 : ClassId} {n : Nat} {f f' : Nat → Value} (h : ∀ k, k < n → f k = f' k) : arrV c0 n f = arrV c0 n f' := by
  unfold arrV
  congr 2
  funext j
  exact h j.val j.isLt
theorem sm.at {q q' : Nat × va_E} {H : Heap} (h : sm q q') (ha : va_at D cl q H) : va_at D cl q' H := by
  rcases h with rfl | ⟨a, c0, n, f, f', rfl, rfl, h⟩
  · exact ha
  · show H[a]? = some (vp_cell c0 (n, .inr (.inr (.inr (.inr f')))))
    rw [vp_cell_q, ← arrV_congr (f := fun j => va_rf (f j)) (fun k hk => by rw [h k hk])]
    exact ha
theorem sm.fst {q q' : Nat × va_E} (h : sm q q') : q.1 = q'.1 := by
  rcases h with rfl | ⟨a, c0, n, f, f', rfl, rfl, h⟩ <;> rfl
theorem ev_sm {w' : va_W} (hlen : w.length = w'.length) (h : ∀ (i : Nat) (q q' : Nat × va_E), w[i]? = some q → w'[i]? = some q' → sm q q') (k : EV p l e R s m args below meth c cells slots Q nL D cl A H0 w' pc lv st) : EV p l e R s m args below meth c cells slots Q nL D cl A H0 w pc lv st := fun H locs ls hP hD hS hl => by
  have key : ∀ (i : Nat) (q' : Nat × va_E), w'[i]? = some q' → ∃ q, w[i]? = some q ∧ sm q q' := by
    intro i q' hq'
    have hi : i < w.length := by rw [hlen]; exact (List.getElem?_eq_some_iff.mp hq').1
    exact ⟨w[i], List.getElem?_eq_getElem hi, h i _ _ (List.getElem?_eq_getElem hi) hq'⟩
  refine k H locs ls (fun i q' hq' => ?_) ?_ hS hl
  · obtain ⟨q, h1, h2⟩ := key i q' hq'
    exact h2.at (hP i q h1)
  · refine va_D_fst ?_ hD
    apply List.ext_getElem?
    intro i
    rw [List.getElem?_map, List.getElem?_map]
    cases hw : w'[i]? with
    | none =>
      have : w'.length ≤ i := List.getElem?_eq_none_iff.mp hw
      rw [List.getElem?_eq_none_iff.mpr (by omega)]
    | some q' =>
      obtain ⟨q, h1, h2⟩ := key i q' hw
      rw [h1]
      exact congrArg some h2.fst
theorem ev_callI (X : ECx p s m args c cc nL own Ts D cl tys A H0) (hAO : AOx s) {y : MethodName} {bytes : ByteArray} {maxL n idx d' mc ms : Nat} {a : Nat} {As st0 : List Value} {post : va_W → Prop}
    (F : MkI Ts own idx y bytes maxL n) (hc : CtC l cl tys Ts D y bytes maxL (rmc d' mc ms) mc ms (.ref a :: As) w post) (hR : d' + 1 ≤ R.frames ∧ 8 + (maxL + 11) + 32 * d' ≤ R.locals) (hcs : cells + mc ≤ R.cells ∧ slots + ms ≤ R.slots) (d : decode cc pc = .ok (.invokespecial idx, 3)) (hst : st0 = As.reverse ++ .ref a :: st) (hn : As.length = n) (hcat : (st.map fun v => v.category).sum ≤ 8)
    (k : ∀ w', post w' → EV p l e R s m args below meth c (cells + mc) (slots + ms) Q nL D cl A H0 w' (pc + 3) lv st) : EV p l e R s m args below meth c cells slots Q nL D cl A H0 w pc lv st0 := by
  intro H locs ls hP hD hS hl
  obtain ⟨⟨m1, m2, m3, m4⟩, hy1, hd⟩ := F
  obtain ⟨hx, hb, hml, hown, hts⟩ := X.1
  have hsub : ∀ q, va_A w H.size q → A q := va_A_sub hD hS X.2.2.1
  have hG : GoodIn Ts (.code y bytes maxL none :: Ts) := by
    intro z hz
    refine X.2.2.2 z ?_
    rcases List.mem_cons.mp hz with rfl | hz
    · exact m4
    · exact hz
  have hr := va_runI (p := p) (e := e) (R := R) (below := below) (meth := meth) (locs := locs) (cells := cells) (slots := slots) (b := a) (As := As) (rest := st) (g := F0 m pc ls st0) ⟨hx, hb, hml, hown, hts⟩ (hc H.size) (cwI (rm := rmc d' mc ms) n hts hG rfl rfl rfl (hts _ m3) (hts _ m1) (hts _ m2) hy1 hd hR) ⟨CPC.blind, fun U hU hW => ⟨rfl, by rw [hU], by rw [hU]; exact hP, va_K.moved hW.alike X.2.1, hD.weaken (fun _ _ _ _ => trivial), hAO.moved hW.alike⟩⟩ rfl hn hl.1.1 hst (lv_room hcat) d hcs
  intro T hT XX
  obtain ⟨v', st₀, t, T', L, h0, X', hL, e1, e2, ⟨hv, ⟨w', hp, hP1, hD1⟩, hz, hk⟩, stp⟩ := hr T hT XX
  cases hv
  rw [h0] at hz hk
  obtain ⟨t2, a1, b1⟩ := k w' hp T'.heap (locs ++ L) ls (by rw [e1]; exact hP1) (hD1.weaken (fun _ q _ h => hsub q.1 h))
    ⟨Nat.le_trans hS.1 (by rw [e1]; exact hz), fun q h1 h2 => by rw [e1, hk q (Nat.lt_of_lt_of_le h1 hS.1) (fun z => h2 (hsub q z))]; exact hS.2.1 q h1 h2, fun q hq => by
      rcases List.mem_append.mp hq with h | h
      · exact hS.2.2 q h
      · exact hsub _ (hL q h)⟩ hl T' rfl X'
  exact ⟨t2, stp t2 a1, b1⟩
theorem ev_entC {y : MethodName} {d mc ms : Nat} {as : List Value} {post : va_W → Prop} (lv0 : List (Option Value)) (hlv : as.map some ++ List.replicate (nL - as.length) none = lv0) (hy : plainName y.cls = true) (hyn : y.name = "<init>") (hn : as.length ≤ nL) (hcat : as.all (fun v => v.category == 1) = true) (hG : GoodIn Ts Ts)
    (body : ∀ (p : Program) (e : Env) (s : State) (m : MethodId) (args : Array Value) (below : List Frame) (meth : Method) (c : Code) (A : Nat → Prop), ECx p s m args c cc nL y.cls Ts D cl tys A s.heap → meth.sig.returnType = none → meth.locks = false → meth.name = "<init>" → AOx s →
      EV p l e (rmc d mc ms) s m args below meth c 0 0 (MQ below (QC cl D A post) args s mc ms A) nL D cl A s.heap w 0 lv0 []) : CtC l cl tys Ts D y cc nL (rmc d mc ms) mc ms as w post := by
  subst hlv
  intro sz
  refine Met.ofW (cc := cc) (maxL := nL) (ret := none) hy rfl ?_
  intro p e s m args below meth c s₁ B hml hv
  obtain ⟨rfl, hsz, hP, hK, hD0, hAO⟩ := hv
  subst hsz
  have hts := atoms_spec (ws := .code y cc nL none :: Ts) B.pre
  have hown : s.vm.findClass y.cls = some m.cls := findClass_of_methodNamed B.named
  have hin : meth.name = "<init>" := (name_of_methodNamed B.named B.method).1.trans hyn
  rw [lg_entry_eq]
  exact body p e s m _ below meth c _ ⟨⟨B.exec, B.bytes, hml, hown, fun w hw => hts w (List.mem_cons_of_mem _ hw)⟩, hK, fun q h => Or.inr h, hG⟩ B.returns B.notSynchronized hin hAO s.heap [] _ hP hD0.self va_S.rf (ll_entry (fun v hv => by simpa using List.all_eq_true.mp hcat v hv) hn)
theorem ev_vretC {post : va_W → Prop} (X : ECx p s m args c cc nL own Ts D cl tys A s.heap) (hr : meth.sig.returnType = none) (hk : meth.locks = false) (d : decode cc pc = .ok (.return_, 1)) (hp : post w) : EV p l e R s m args below meth c cells slots (MQ below (QC cl D A post) args s cells slots A) nL D cl A s.heap w pc lv [] := fun H locs ls hP hD hS hl =>
  W.vret X.1.1 X.1.2.1 hr (fun t ht hW => ⟨rfl, ⟨w, hp, by rw [ht]; exact hP, hD⟩, hS.F ht⟩) hS.2.2 d hk
end EVN
end
section
set_option maxRecDepth 20000 in
theorem oi_X : Cond.methodLink R_X 1 objectInit ∈ TT := tt_of 11 (by decide +kernel) (by decide +kernel)
set_option maxRecDepth 20000 in
theorem in_X : Cond.instantiable R_X 6 ∈ TT := tt_of 7 (by decide +kernel) (by decide +kernel)
set_option maxRecDepth 20000 in
theorem iz_X : Cond.initialized R_X ∈ TT := tt_of 1 (by decide +kernel) (by decide +kernel)
set_option maxRecDepth 20000 in
theorem oi_G : Cond.methodLink R_G 3 objectInit ∈ TT := tt_of 71 (by decide +kernel) (by decide +kernel)
set_option maxRecDepth 20000 in
theorem in_G : Cond.instantiable R_G 3 ∈ TT := tt_of 67 (by decide +kernel) (by decide +kernel)
set_option maxRecDepth 20000 in
theorem iz_G : Cond.initialized R_G ∈ TT := tt_of 4 (by decide +kernel) (by decide +kernel)
set_option maxRecDepth 20000 in
theorem oi_P : Cond.methodLink R_P 3 objectInit ∈ TT := tt_of 64 (by decide +kernel) (by decide +kernel)
set_option maxRecDepth 20000 in
theorem in_P : Cond.instantiable R_P 3 ∈ TT := tt_of 60 (by decide +kernel) (by decide +kernel)
set_option maxRecDepth 20000 in
theorem iz_P : Cond.initialized R_P ∈ TT := tt_of 3 (by decide +kernel) (by decide +kernel)
set_option maxRecDepth 20000 in
theorem oi_E : Cond.methodLink R_E 3 objectInit ∈ TT := tt_of 20 (by decide +kernel) (by decide +kernel)
set_option maxRecDepth 20000 in
theorem in_E : Cond.instantiable R_E 9 ∈ TT := tt_of 16 (by decide +kernel) (by decide +kernel)
set_option maxRecDepth 20000 in
theorem iz_E : Cond.initialized R_E ∈ TT := tt_of 2 (by decide +kernel) (by decide +kernel)
set_option maxRecDepth 20000 in
theorem oi_M : Cond.methodLink R_M 1 objectInit ∈ TT := tt_of 347 (by decide +kernel) (by decide +kernel)
set_option maxRecDepth 20000 in
theorem in_M : Cond.instantiable R_M 15 ∈ TT := tt_of 343 (by decide +kernel) (by decide +kernel)
set_option maxRecDepth 20000 in
theorem iz_M : Cond.initialized R_M ∈ TT := tt_of 5 (by decide +kernel) (by decide +kernel)
set_option maxRecDepth 20000 in
theorem oi_m : Cond.instanceMethod objectInit ∈ TT := tt_of 12 (by decide +kernel) (by decide +kernel)
set_option maxRecDepth 20000 in
theorem oi_c : Cond.code objectInit ⟨#[0xb1]⟩ 1 none ∈ TT := tt_of 13 rfl rfl
set_option maxRecDepth 20000 in
theorem ac_i : Cond.arrayClass .int ∈ TT := tt_of 57 (by decide +kernel) (by decide +kernel)
set_option maxRecDepth 20000 in
theorem cl_L_7 : Cond.classLink R_L 7 R_X ∈ TT := tt_of 6 (by decide +kernel) (by decide +kernel)
set_option maxRecDepth 20000 in
theorem cl_X_20 : Cond.classLink R_X 20 R_E ∈ TT := tt_of 14 (by decide +kernel) (by decide +kernel)
set_option maxRecDepth 20000 in
theorem cl_X_27 : Cond.classLink R_X 27 R_P ∈ TT := tt_of 58 (by decide +kernel) (by decide +kernel)
set_option maxRecDepth 20000 in
theorem cl_P_15 : Cond.classLink R_P 15 R_G ∈ TT := tt_of 65 (by decide +kernel) (by decide +kernel)
set_option maxRecDepth 20000 in
theorem cl_L_18 : Cond.classLink R_L 18 R_M ∈ TT := tt_of 342 (by decide +kernel) (by decide +kernel)
end
section
theorem xl_at {x L : va_W} {k : Nat} {q : Nat × va_E} (h : L[k]? = some q) : (x ++ L)[x.length + k]? = some q := by
  rw [List.getElem?_append_right (by omega), Nat.add_sub_cancel_left]
  exact h
theorem xl_set {x L : va_W} {k : Nat} {q : Nat × va_E} : (x ++ L).set (x.length + k) q = x ++ L.set k q := by
  rw [List.set_append_right _ _ (by omega), Nat.add_sub_cancel_left]
def SM : va_W → va_W → Prop
  | [], [] => True
  | a :: l, b :: l' => sm a b ∧ SM l l'
  | _, _ => False
theorem SM.nil : SM [] [] := trivial
theorem SM.cons {a b : Nat × va_E} {l l' : va_W} (h : sm a b) (t : SM l l') : SM (a :: l) (b :: l') := ⟨h, t⟩
theorem SM.rf : ∀ (l : va_W), SM l l
  | [] => trivial
  | _ :: l => ⟨Or.inl rfl, SM.rf l⟩
theorem SM.len : ∀ {l l' : va_W}, SM l l' → l.length = l'.length
  | [], [], _ => rfl
  | _ :: _, _ :: _, h => congrArg (· + 1) (SM.len h.2)
theorem SM.get : ∀ {l l' : va_W}, SM l l' → ∀ (i : Nat) (q q' : Nat × va_E), l[i]? = some q → l'[i]? = some q' → sm q q'
  | [], [], _, i, q, q', h1, _ => by simp at h1
  | a :: l, b :: l', h, 0, q, q', h1, h2 => by
    simp at h1 h2
    rw [← h1, ← h2]
    exact h.1
  | a :: l, b :: l', h, i + 1, q, q', h1, h2 => by
    simp at h1 h2
    exact SM.get h.2 i q q' h1 h2
theorem SM.app : ∀ (x : va_W) {l l' : va_W}, SM l l' → SM (x ++ l) (x ++ l')
  | [], _, _, h => h
  | _ :: x, _, _, h => ⟨Or.inl rfl, SM.app x h⟩
theorem sm.arr {a : Nat} {c0 : ClassId} {n : Nat} {f f' : Nat → Option Nat} (h : ∀ k, k < n → f k = f' k) : sm (a, .inl (c0, n, .inr (.inr (.inr (.inr f))))) (a, .inl (c0, n, .inr (.inr (.inr (.inr f'))))) := Or.inr ⟨a, c0, n, f, f', rfl, rfl, h⟩
section EVX
variable {p : Program} {l : Launch} {e : Env} {R : Room} {s : State} {m : MethodId} {args : Array Value} {below : List Frame} {meth : Method} {c : Code} {cells slots : Nat} {Q : State → Prop}
variable {cc : ByteArray} {nL pc : Nat} {own : String} {Ts : List Cond} {D : va_G} {cl : List vw_C} {tys : List (ClassId × FieldType)} {A : Nat → Prop} {H0 : Heap} {w x L : va_W} {lv : List (Option Value)} {st : List Value}
theorem ev_SM {w' : va_W} (h : SM w w') (k : EV p l e R s m args below meth c cells slots Q nL D cl A H0 w' pc lv st) : EV p l e R s m args below meth c cells slots Q nL D cl A H0 w pc lv st := ev_sm h.len h.get k
theorem ev_w {w' : va_W} (h : w = w') (k : EV p l e R s m args below meth c cells slots Q nL D cl A H0 w' pc lv st) : EV p l e R s m args below meth c cells slots Q nL D cl A H0 w pc lv st := by subst h; exact k
theorem ev_cs {cells' slots' : Nat} (h1 : cells = cells') (h2 : slots = slots') (k : EV p l e R s m args below meth c cells' slots' Q nL D cl A H0 w pc lv st) : EV p l e R s m args below meth c cells slots Q nL D cl A H0 w pc lv st := by subst h1; subst h2; exact k
theorem ex_get (X : ECx p s m args c cc nL own Ts D cl tys A H0) {idx ci k : Nat} {fin : Bool} {ty : FieldType} (F : Fk cl Ts own idx ci k fin ty) (k0 : Nat) {a : Nat} {fs : List Value} (he : L[k0]? = some (a, .inr (ci, fs))) {v : Value} (hv : fs[k]? = some v) (d : decode cc pc = .ok (.getfield idx, 3))
    (kk : EV p l e R s m args below meth c cells slots Q nL D cl A H0 (x ++ L) (pc + 3) lv (v :: st)) : EV p l e R s m args below meth c cells slots Q nL D cl A H0 (x ++ L) pc lv (.ref a :: st) := ev_get X F (x.length + k0) (xl_at he) hv d kk
theorem ex_put (X : ECx p s m args c cc nL own Ts D cl tys A H0) {idx ci k : Nat} {ty : FieldType} (F : Fk cl Ts own idx ci k false ty) (k0 : Nat) {a : Nat} {fs : List Value} (he : L[k0]? = some (a, .inr (ci, fs))) {v : Value} (hn : narrow ty v = v) (hfit : fits ty v = true) (hl0 : k < fs.length) (d : decode cc pc = .ok (.putfield idx, 3))
    (kk : EV p l e R s m args below meth c cells slots Q nL D cl A H0 (x ++ L.set k0 (a, .inr (ci, fs.set k v))) (pc + 3) lv st) : EV p l e R s m args below meth c cells slots Q nL D cl A H0 (x ++ L) pc lv (v :: .ref a :: st) := ev_put X F (x.length + k0) (xl_at he) hn hfit hl0 d (ev_w xl_set kk)
theorem ex_putF (X : ECx p s m args c cc nL own Ts D cl tys A H0) (hin : meth.name = "<init>") {idx ci k : Nat} {ty : FieldType} (F : Fk cl Ts own idx ci k true ty) (hF : ∀ r : vw_C, cl[ci]? = some r → (r.2.1 k).1 = own) (k0 : Nat) {a : Nat} {fs : List Value} (he : L[k0]? = some (a, .inr (ci, fs))) {v : Value} (hn : narrow ty v = v) (hfit : fits ty v = true) (hl0 : k < fs.length) (d : decode cc pc = .ok (.putfield idx, 3))
    (kk : EV p l e R s m args below meth c cells slots Q nL D cl A H0 (x ++ L.set k0 (a, .inr (ci, fs.set k v))) (pc + 3) lv st) : EV p l e R s m args below meth c cells slots Q nL D cl A H0 (x ++ L) pc lv (v :: .ref a :: st) := ev_putF X hin F hF (x.length + k0) (xl_at he) hn hfit hl0 d (ev_w xl_set kk)
theorem ex_iast (X : ECx p s m args c cc nL own Ts D cl tys A H0) {c0 : ClassId} {n j a : Nat} {f : Nat → Int32} {z v : Int32} (k0 : Nat) (he : L[k0]? = some (a, .inl (c0, n, .inl f))) (ht : tys[0]? = some (c0, .int)) (hz : z = nI j) (hj : j < n) (hn : n < 2 ^ 31) (d : decode cc pc = .ok (.iastore, 1))
    (kk : EV p l e R s m args below meth c cells slots Q nL D cl A H0 (x ++ L.set k0 (a, .inl (c0, n, .inl (upd f j v)))) (pc + 1) lv st) : EV p l e R s m args below meth c cells slots Q nL D cl A H0 (x ++ L) pc lv (.int v :: .int z :: .ref a :: st) := ev_iastC X (x.length + k0) (xl_at he) ht hz hj hn d (ev_w xl_set kk)
theorem ex_astq (X : ECx p s m args c cc nL own Ts D cl tys A H0) {c0 : ClassId} {n j a v : Nat} {f : Nat → Option Nat} {z : Int32} {r : vw_C} {vs : List Value} (k0 t0 k1 ci : Nat) (he : L[k0]? = some (a, .inl (c0, n, .inr (.inr (.inr (.inr f)))))) (ht : tys[t0]? = some (c0, .object r.1)) (hv : L[k1]? = some (v, .inr (ci, vs))) (hc : cl[ci]? = some r) (hz : z = nI j) (hj : j < n) (hn : n < 2 ^ 31) (d : decode cc pc = .ok (.aastore, 1))
    (kk : EV p l e R s m args below meth c cells slots Q nL D cl A H0 (x ++ L.set k0 (a, .inl (c0, n, .inr (.inr (.inr (.inr (va_up f j (some v)))))))) (pc + 1) lv st) : EV p l e R s m args below meth c cells slots Q nL D cl A H0 (x ++ L) pc lv (.ref v :: .int z :: .ref a :: st) := ev_astq X (x.length + k0) t0 (x.length + k1) ci (xl_at he) ht (xl_at hv) hc hz hj hn d (ev_w xl_set kk)
end EVX
abbrev CtCX (l : Launch) (D : va_G) (ca : Nat → ClassId) (y : MethodName) (cc : ByteArray) (nL d mc ms : Nat) (as : List Value) (w : va_W) (post : va_W → Prop) : Prop := CtC l clX (tyX ca) TT D y cc nL (rmc d mc ms) mc ms as w post
def G0 : va_E := .inr (1, [.int 0, .int 0, .int 0])
def rf (f : Nat → Option Nat) : (Nat → Int32) ⊕ (Nat → Int64) ⊕ (Nat → UInt32) ⊕ (Nat → UInt64) ⊕ (Nat → Option Nat) := .inr (.inr (.inr (.inr f)))
set_option maxHeartbeats 8000000 in
set_option maxRecDepth 100000 in
theorem c_G_init {l : Launch} {D : va_G} {ca : Nat → ClassId} {x : va_W} {h : Nat} : CtCX l D ca y_G_init b_G_init 1 1 0 0 [.ref h] (x ++ [(h, .inr (1, [.int 0, .int 0, .int 0]))]) (fun w' => w' = x ++ [(h, .inr (1, [.int 0, .int 0, .int 0]))]) := by
  refine ev_entC [some (.ref h)] rfl (by decide) rfl (Nat.le_of_ble_eq_true rfl) rfl gTT (fun p e s m args below meth c A X hr hk hin hAO => ?_)
  refine ev_aload_n X d_G_init_0 rfl ?_
  refine ev_objInit X oi_G oi_m oi_c d_G_init_1 (Nat.le_of_ble_eq_true rfl) (Nat.le_of_ble_eq_true rfl) ?_
  refine ev_aload_n X d_G_init_4 rfl ?_
  refine ev_iconst (v := 0) X d_G_init_5 (by decide) ?_
  refine ex_put X f_G_9 0 rfl rfl rfl (Nat.le_of_ble_eq_true rfl) d_G_init_6 ?_
  refine ev_aload_n X d_G_init_9 rfl ?_
  refine ev_iconst (v := 0) X d_G_init_10 (by decide) ?_
  refine ex_put X f_G_15 0 rfl rfl rfl (Nat.le_of_ble_eq_true rfl) d_G_init_11 ?_
  refine ev_aload_n X d_G_init_14 rfl ?_
  refine ev_iconst (v := 0) X d_G_init_15 (by decide) ?_
  refine ex_put X f_G_18 0 rfl rfl rfl (Nat.le_of_ble_eq_true rfl) d_G_init_16 ?_
  exact ev_vretC X hr hk d_G_init_19 rfl
def EL (ca : Nat → ClassId) (h a : Nat) : va_W := [(h, .inr (3, [.ref a, .int 0, .int 0, .int 0, .int 0, .int (-1), .int 0, .int 0, .int 0])), (a, .inl (ca 0, 8, .inl (fun _ => 0)))]
set_option maxHeartbeats 8000000 in
set_option maxRecDepth 100000 in
theorem c_E_init {l : Launch} {D : va_G} {ca : Nat → ClassId} {x : va_W} {h : Nat} : CtCX l D ca y_E_init b_E_init 1 1 1 8 [.ref h] (x ++ [(h, .inr (3, [.null, .int 0, .int 0, .int 0, .int 0, .int 0, .int 0, .int 0, .int 0]))]) (fun w' => ∃ a, w' = x ++ EL ca h a) := by
  refine ev_entC [some (.ref h)] rfl (by decide) rfl (Nat.le_of_ble_eq_true rfl) rfl gTT (fun p e s m args below meth c A X hr hk hin hAO => ?_)
  refine ev_aload_n X d_E_init_0 rfl ?_
  refine ev_objInit X oi_E oi_m oi_c d_E_init_1 (Nat.le_of_ble_eq_true rfl) (Nat.le_of_ble_eq_true rfl) ?_
  refine ev_aload_n X d_E_init_4 rfl ?_
  refine ev_bipush (v := 8) X d_E_init_5 (by decide) ?_
  refine ev_newa (N' := 8) X ac_i rfl (by decide) (by decide) (Nat.le_of_ble_eq_true rfl) (Nat.le_of_ble_eq_true rfl) (Nat.le_of_ble_eq_true rfl) d_E_init_7 (fun q => ?_)
  refine ev_w (List.append_assoc _ _ _) ?_
  refine ex_putF X hin f_E_9 (fun r h => by cases h; rfl) 0 rfl rfl rfl (Nat.le_of_ble_eq_true rfl) d_E_init_9 ?_
  refine ev_aload_n X d_E_init_12 rfl ?_
  refine ev_iconst (v := 0) X d_E_init_13 (by decide) ?_
  refine ex_put X f_E_15 0 rfl rfl rfl (Nat.le_of_ble_eq_true rfl) d_E_init_14 ?_
  refine ev_aload_n X d_E_init_17 rfl ?_
  refine ev_iconst (v := (-1)) X d_E_init_18 (by decide) ?_
  refine ex_put X f_E_19 0 rfl rfl rfl (Nat.le_of_ble_eq_true rfl) d_E_init_19 ?_
  exact ev_vretC X hr hk d_E_init_22 ⟨q, rfl⟩
def PLx (ca : Nat → ClassId) (h : Nat) (a : Nat → Nat) : va_W := [(h, .inr (2, [.ref (a 0), .ref (a 1), .int (-1)])), (a 0, .inl (ca 0, 8, .inl (fun _ => 0))), (a 1, .inl (ca 3, 11, rf (fun k => some (a (2 + k))))), (a 2, G0), (a 3, G0), (a 4, G0), (a 5, G0), (a 6, G0), (a 7, G0), (a 8, G0), (a 9, G0), (a 10, G0), (a 11, G0), (a 12, G0)]
set_option maxHeartbeats 8000000 in
set_option maxRecDepth 100000 in
theorem c_P_init {l : Launch} {D : va_G} {ca : Nat → ClassId} {x : va_W} {h : Nat} : CtCX l D ca y_P_init b_P_init 2 2 13 52 [.ref h] (x ++ [(h, .inr (2, [.null, .null, .int 0]))]) (fun w' => ∃ a, w' = x ++ PLx ca h a) := by
  refine ev_entC [some (.ref h), none] rfl (by decide) rfl (Nat.le_of_ble_eq_true rfl) rfl gTT (fun p e s m args below meth c A X hr hk hin hAO => ?_)
  refine ev_aload_n X d_P_init_0 rfl ?_
  refine ev_objInit X oi_P oi_m oi_c d_P_init_1 (Nat.le_of_ble_eq_true rfl) (Nat.le_of_ble_eq_true rfl) ?_
  refine ev_aload_n X d_P_init_4 rfl ?_
  refine ev_bipush (v := 8) X d_P_init_5 (by decide) ?_
  refine ev_newa (N' := 8) X ac_i rfl (by decide) (by decide) (Nat.le_of_ble_eq_true rfl) (Nat.le_of_ble_eq_true rfl) (Nat.le_of_ble_eq_true rfl) d_P_init_7 (fun q0 => ?_)
  refine ev_w (List.append_assoc _ _ _) ?_
  refine ex_putF X hin f_P_9 (fun r h => by cases h; rfl) 0 rfl rfl rfl (Nat.le_of_ble_eq_true rfl) d_P_init_9 ?_
  refine ev_aload_n X d_P_init_12 rfl ?_
  refine ev_bipush (v := 11) X d_P_init_13 (by decide) ?_
  refine ev_newq (N' := 11) (t0 := 3) X cl_P_15 hAO.2.2 rfl (by decide) (by decide) (Nat.le_of_ble_eq_true rfl) (Nat.le_of_ble_eq_true rfl) (Nat.le_of_ble_eq_true rfl) d_P_init_15 (fun q1 => ?_)
  refine ev_w (List.append_assoc _ _ _) ?_
  refine ex_putF X hin f_P_17 (fun r h => by cases h; rfl) 0 rfl rfl rfl (Nat.le_of_ble_eq_true rfl) d_P_init_18 ?_
  refine ev_w (w' := x ++ [(h, .inr (2, [.ref q0, .ref q1, .int 0])), (q0, .inl (ca 0, 8, .inl (fun _ => 0))), (q1, .inl (ca 3, 11, rf (fun _ => none)))]) rfl ?_
  refine ev_iconst (v := 0) X d_P_init_21 (by decide) ?_
  refine ev_istore_n X d_P_init_22 (by decide) ?_
  refine ev_iload_n X d_P_init_23 rfl ?_
  refine ev_bipush (v := 11) X d_P_init_24 (by decide) ?_
  refine ev_icmp_ge (tgt := 48) X d_P_init_26 (by decide) (fun h26 => ?_) (fun h26 => ?_)
  · exact absurd h26 (by decide)
  refine ev_aload_n X d_P_init_29 rfl ?_
  refine ex_get X f_P_17 0 rfl rfl d_P_init_30 ?_
  refine ev_iload_n X d_P_init_33 rfl ?_
  refine ev_new (ci := 1) (fs := [.int 0, .int 0, .int 0]) X cl_P_15 in_G iz_G rfl u_G t_G t_G_ok (by decide) (Nat.le_of_ble_eq_true rfl) (Nat.le_of_ble_eq_true rfl) d_P_init_34 (fun g0 => ?_)
  refine ev_dup X d_P_init_37 rfl ?_
  refine ev_callI X hAO m_P_21 c_G_init (by decide) (by decide) d_P_init_38 rfl rfl (Nat.le_of_ble_eq_true rfl) (fun w' hw' => ?_)
  subst hw'
  refine ev_w (w' := x ++ [(h, .inr (2, [.ref q0, .ref q1, .int 0])), (q0, .inl (ca 0, 8, .inl (fun _ => 0))), (q1, .inl (ca 3, 11, rf (fun _ => none))), (g0, G0)]) (List.append_assoc _ _ _) ?_
  refine ex_astq (j := 0) X 2 3 3 1 rfl rfl rfl rfl rfl (by decide) (by decide) d_P_init_41 ?_
  refine ev_w (w' := x ++ [(h, .inr (2, [.ref q0, .ref q1, .int 0])), (q0, .inl (ca 0, 8, .inl (fun _ => 0))), (q1, .inl (ca 3, 11, rf (va_up (fun _ => none) 0 (some g0)))), (g0, G0)]) rfl ?_
  refine ev_iinc (v := 1) X d_P_init_42 rfl (by decide) (by decide) ?_
  refine ev_goto (tgt := 23) X d_P_init_45 (by decide) ?_
  refine ev_iload_n X d_P_init_23 rfl ?_
  refine ev_bipush (v := 11) X d_P_init_24 (by decide) ?_
  refine ev_icmp_ge (tgt := 48) X d_P_init_26 (by decide) (fun h26 => ?_) (fun h26 => ?_)
  · exact absurd h26 (by decide)
  refine ev_aload_n X d_P_init_29 rfl ?_
  refine ex_get X f_P_17 0 rfl rfl d_P_init_30 ?_
  refine ev_iload_n X d_P_init_33 rfl ?_
  refine ev_new (ci := 1) (fs := [.int 0, .int 0, .int 0]) X cl_P_15 in_G iz_G rfl u_G t_G t_G_ok (by decide) (Nat.le_of_ble_eq_true rfl) (Nat.le_of_ble_eq_true rfl) d_P_init_34 (fun g1 => ?_)
  refine ev_dup X d_P_init_37 rfl ?_
  refine ev_callI X hAO m_P_21 c_G_init (by decide) (by decide) d_P_init_38 rfl rfl (Nat.le_of_ble_eq_true rfl) (fun w' hw' => ?_)
  subst hw'
  refine ev_w (w' := x ++ [(h, .inr (2, [.ref q0, .ref q1, .int 0])), (q0, .inl (ca 0, 8, .inl (fun _ => 0))), (q1, .inl (ca 3, 11, rf (va_up (fun _ => none) 0 (some g0)))), (g0, G0), (g1, G0)]) (List.append_assoc _ _ _) ?_
  refine ex_astq (j := 1) X 2 3 4 1 rfl rfl rfl rfl rfl (by decide) (by decide) d_P_init_41 ?_
  refine ev_w (w' := x ++ [(h, .inr (2, [.ref q0, .ref q1, .int 0])), (q0, .inl (ca 0, 8, .inl (fun _ => 0))), (q1, .inl (ca 3, 11, rf (va_up (va_up (fun _ => none) 0 (some g0)) 1 (some g1)))), (g0, G0), (g1, G0)]) rfl ?_
  refine ev_iinc (v := 2) X d_P_init_42 rfl (by decide) (by decide) ?_
  refine ev_goto (tgt := 23) X d_P_init_45 (by decide) ?_
  refine ev_iload_n X d_P_init_23 rfl ?_
  refine ev_bipush (v := 11) X d_P_init_24 (by decide) ?_
  refine ev_icmp_ge (tgt := 48) X d_P_init_26 (by decide) (fun h26 => ?_) (fun h26 => ?_)
  · exact absurd h26 (by decide)
  refine ev_aload_n X d_P_init_29 rfl ?_
  refine ex_get X f_P_17 0 rfl rfl d_P_init_30 ?_
  refine ev_iload_n X d_P_init_33 rfl ?_
  refine ev_new (ci := 1) (fs := [.int 0, .int 0, .int 0]) X cl_P_15 in_G iz_G rfl u_G t_G t_G_ok (by decide) (Nat.le_of_ble_eq_true rfl) (Nat.le_of_ble_eq_true rfl) d_P_init_34 (fun g2 => ?_)
  refine ev_dup X d_P_init_37 rfl ?_
  refine ev_callI X hAO m_P_21 c_G_init (by decide) (by decide) d_P_init_38 rfl rfl (Nat.le_of_ble_eq_true rfl) (fun w' hw' => ?_)
  subst hw'
  refine ev_w (w' := x ++ [(h, .inr (2, [.ref q0, .ref q1, .int 0])), (q0, .inl (ca 0, 8, .inl (fun _ => 0))), (q1, .inl (ca 3, 11, rf (va_up (va_up (fun _ => none) 0 (some g0)) 1 (some g1)))), (g0, G0), (g1, G0), (g2, G0)]) (List.append_assoc _ _ _) ?_
  refine ex_astq (j := 2) X 2 3 5 1 rfl rfl rfl rfl rfl (by decide) (by decide) d_P_init_41 ?_
  refine ev_w (w' := x ++ [(h, .inr (2, [.ref q0, .ref q1, .int 0])), (q0, .inl (ca 0, 8, .inl (fun _ => 0))), (q1, .inl (ca 3, 11, rf (va_up (va_up (va_up (fun _ => none) 0 (some g0)) 1 (some g1)) 2 (some g2)))), (g0, G0), (g1, G0), (g2, G0)]) rfl ?_
  refine ev_iinc (v := 3) X d_P_init_42 rfl (by decide) (by decide) ?_
  refine ev_goto (tgt := 23) X d_P_init_45 (by decide) ?_
  refine ev_iload_n X d_P_init_23 rfl ?_
  refine ev_bipush (v := 11) X d_P_init_24 (by decide) ?_
  refine ev_icmp_ge (tgt := 48) X d_P_init_26 (by decide) (fun h26 => ?_) (fun h26 => ?_)
  · exact absurd h26 (by decide)
  refine ev_aload_n X d_P_init_29 rfl ?_
  refine ex_get X f_P_17 0 rfl rfl d_P_init_30 ?_
  refine ev_iload_n X d_P_init_33 rfl ?_
  refine ev_new (ci := 1) (fs := [.int 0, .int 0, .int 0]) X cl_P_15 in_G iz_G rfl u_G t_G t_G_ok (by decide) (Nat.le_of_ble_eq_true rfl) (Nat.le_of_ble_eq_true rfl) d_P_init_34 (fun g3 => ?_)
  refine ev_dup X d_P_init_37 rfl ?_
  refine ev_callI X hAO m_P_21 c_G_init (by decide) (by decide) d_P_init_38 rfl rfl (Nat.le_of_ble_eq_true rfl) (fun w' hw' => ?_)
  subst hw'
  refine ev_w (w' := x ++ [(h, .inr (2, [.ref q0, .ref q1, .int 0])), (q0, .inl (ca 0, 8, .inl (fun _ => 0))), (q1, .inl (ca 3, 11, rf (va_up (va_up (va_up (fun _ => none) 0 (some g0)) 1 (some g1)) 2 (some g2)))), (g0, G0), (g1, G0), (g2, G0), (g3, G0)]) (List.append_assoc _ _ _) ?_
  refine ex_astq (j := 3) X 2 3 6 1 rfl rfl rfl rfl rfl (by decide) (by decide) d_P_init_41 ?_
  refine ev_w (w' := x ++ [(h, .inr (2, [.ref q0, .ref q1, .int 0])), (q0, .inl (ca 0, 8, .inl (fun _ => 0))), (q1, .inl (ca 3, 11, rf (va_up (va_up (va_up (va_up (fun _ => none) 0 (some g0)) 1 (some g1)) 2 (some g2)) 3 (some g3)))), (g0, G0), (g1, G0), (g2, G0), (g3, G0)]) rfl ?_
  refine ev_iinc (v := 4) X d_P_init_42 rfl (by decide) (by decide) ?_
  refine ev_goto (tgt := 23) X d_P_init_45 (by decide) ?_
  refine ev_iload_n X d_P_init_23 rfl ?_
  refine ev_bipush (v := 11) X d_P_init_24 (by decide) ?_
  refine ev_icmp_ge (tgt := 48) X d_P_init_26 (by decide) (fun h26 => ?_) (fun h26 => ?_)
  · exact absurd h26 (by decide)
  refine ev_aload_n X d_P_init_29 rfl ?_
  refine ex_get X f_P_17 0 rfl rfl d_P_init_30 ?_
  refine ev_iload_n X d_P_init_33 rfl ?_
  refine ev_new (ci := 1) (fs := [.int 0, .int 0, .int 0]) X cl_P_15 in_G iz_G rfl u_G t_G t_G_ok (by decide) (Nat.le_of_ble_eq_true rfl) (Nat.le_of_ble_eq_true rfl) d_P_init_34 (fun g4 => ?_)
  refine ev_dup X d_P_init_37 rfl ?_
  refine ev_callI X hAO m_P_21 c_G_init (by decide) (by decide) d_P_init_38 rfl rfl (Nat.le_of_ble_eq_true rfl) (fun w' hw' => ?_)
  subst hw'
  refine ev_w (w' := x ++ [(h, .inr (2, [.ref q0, .ref q1, .int 0])), (q0, .inl (ca 0, 8, .inl (fun _ => 0))), (q1, .inl (ca 3, 11, rf (va_up (va_up (va_up (va_up (fun _ => none) 0 (some g0)) 1 (some g1)) 2 (some g2)) 3 (some g3)))), (g0, G0), (g1, G0), (g2, G0), (g3, G0), (g4, G0)]) (List.append_assoc _ _ _) ?_
  refine ex_astq (j := 4) X 2 3 7 1 rfl rfl rfl rfl rfl (by decide) (by decide) d_P_init_41 ?_
  refine ev_w (w' := x ++ [(h, .inr (2, [.ref q0, .ref q1, .int 0])), (q0, .inl (ca 0, 8, .inl (fun _ => 0))), (q1, .inl (ca 3, 11, rf (va_up (va_up (va_up (va_up (va_up (fun _ => none) 0 (some g0)) 1 (some g1)) 2 (some g2)) 3 (some g3)) 4 (some g4)))), (g0, G0), (g1, G0), (g2, G0), (g3, G0), (g4, G0)]) rfl ?_
  refine ev_iinc (v := 5) X d_P_init_42 rfl (by decide) (by decide) ?_
  refine ev_goto (tgt := 23) X d_P_init_45 (by decide) ?_
  refine ev_iload_n X d_P_init_23 rfl ?_
  refine ev_bipush (v := 11) X d_P_init_24 (by decide) ?_
  refine ev_icmp_ge (tgt := 48) X d_P_init_26 (by decide) (fun h26 => ?_) (fun h26 => ?_)
  · exact absurd h26 (by decide)
  refine ev_aload_n X d_P_init_29 rfl ?_
  refine ex_get X f_P_17 0 rfl rfl d_P_init_30 ?_
  refine ev_iload_n X d_P_init_33 rfl ?_
  refine ev_new (ci := 1) (fs := [.int 0, .int 0, .int 0]) X cl_P_15 in_G iz_G rfl u_G t_G t_G_ok (by decide) (Nat.le_of_ble_eq_true rfl) (Nat.le_of_ble_eq_true rfl) d_P_init_34 (fun g5 => ?_)
  refine ev_dup X d_P_init_37 rfl ?_
  refine ev_callI X hAO m_P_21 c_G_init (by decide) (by decide) d_P_init_38 rfl rfl (Nat.le_of_ble_eq_true rfl) (fun w' hw' => ?_)
  subst hw'
  refine ev_w (w' := x ++ [(h, .inr (2, [.ref q0, .ref q1, .int 0])), (q0, .inl (ca 0, 8, .inl (fun _ => 0))), (q1, .inl (ca 3, 11, rf (va_up (va_up (va_up (va_up (va_up (fun _ => none) 0 (some g0)) 1 (some g1)) 2 (some g2)) 3 (some g3)) 4 (some g4)))), (g0, G0), (g1, G0), (g2, G0), (g3, G0), (g4, G0), (g5, G0)]) (List.append_assoc _ _ _) ?_
  refine ex_astq (j := 5) X 2 3 8 1 rfl rfl rfl rfl rfl (by decide) (by decide) d_P_init_41 ?_
  refine ev_w (w' := x ++ [(h, .inr (2, [.ref q0, .ref q1, .int 0])), (q0, .inl (ca 0, 8, .inl (fun _ => 0))), (q1, .inl (ca 3, 11, rf (va_up (va_up (va_up (va_up (va_up (va_up (fun _ => none) 0 (some g0)) 1 (some g1)) 2 (some g2)) 3 (some g3)) 4 (some g4)) 5 (some g5)))), (g0, G0), (g1, G0), (g2, G0), (g3, G0), (g4, G0), (g5, G0)]) rfl ?_
  refine ev_iinc (v := 6) X d_P_init_42 rfl (by decide) (by decide) ?_
  refine ev_goto (tgt := 23) X d_P_init_45 (by decide) ?_
  refine ev_iload_n X d_P_init_23 rfl ?_
  refine ev_bipush (v := 11) X d_P_init_24 (by decide) ?_
  refine ev_icmp_ge (tgt := 48) X d_P_init_26 (by decide) (fun h26 => ?_) (fun h26 => ?_)
  · exact absurd h26 (by decide)
  refine ev_aload_n X d_P_init_29 rfl ?_
  refine ex_get X f_P_17 0 rfl rfl d_P_init_30 ?_
  refine ev_iload_n X d_P_init_33 rfl ?_
  refine ev_new (ci := 1) (fs := [.int 0, .int 0, .int 0]) X cl_P_15 in_G iz_G rfl u_G t_G t_G_ok (by decide) (Nat.le_of_ble_eq_true rfl) (Nat.le_of_ble_eq_true rfl) d_P_init_34 (fun g6 => ?_)
  refine ev_dup X d_P_init_37 rfl ?_
  refine ev_callI X hAO m_P_21 c_G_init (by decide) (by decide) d_P_init_38 rfl rfl (Nat.le_of_ble_eq_true rfl) (fun w' hw' => ?_)
  subst hw'
  refine ev_w (w' := x ++ [(h, .inr (2, [.ref q0, .ref q1, .int 0])), (q0, .inl (ca 0, 8, .inl (fun _ => 0))), (q1, .inl (ca 3, 11, rf (va_up (va_up (va_up (va_up (va_up (va_up (fun _ => none) 0 (some g0)) 1 (some g1)) 2 (some g2)) 3 (some g3)) 4 (some g4)) 5 (some g5)))), (g0, G0), (g1, G0), (g2, G0), (g3, G0), (g4, G0), (g5, G0), (g6, G0)]) (List.append_assoc _ _ _) ?_
  refine ex_astq (j := 6) X 2 3 9 1 rfl rfl rfl rfl rfl (by decide) (by decide) d_P_init_41 ?_
  refine ev_w (w' := x ++ [(h, .inr (2, [.ref q0, .ref q1, .int 0])), (q0, .inl (ca 0, 8, .inl (fun _ => 0))), (q1, .inl (ca 3, 11, rf (va_up (va_up (va_up (va_up (va_up (va_up (va_up (fun _ => none) 0 (some g0)) 1 (some g1)) 2 (some g2)) 3 (some g3)) 4 (some g4)) 5 (some g5)) 6 (some g6)))), (g0, G0), (g1, G0), (g2, G0), (g3, G0), (g4, G0), (g5, G0), (g6, G0)]) rfl ?_
  refine ev_iinc (v := 7) X d_P_init_42 rfl (by decide) (by decide) ?_
  refine ev_goto (tgt := 23) X d_P_init_45 (by decide) ?_
  refine ev_iload_n X d_P_init_23 rfl ?_
  refine ev_bipush (v := 11) X d_P_init_24 (by decide) ?_
  refine ev_icmp_ge (tgt := 48) X d_P_init_26 (by decide) (fun h26 => ?_) (fun h26 => ?_)
  · exact absurd h26 (by decide)
  refine ev_aload_n X d_P_init_29 rfl ?_
  refine ex_get X f_P_17 0 rfl rfl d_P_init_30 ?_
  refine ev_iload_n X d_P_init_33 rfl ?_
  refine ev_new (ci := 1) (fs := [.int 0, .int 0, .int 0]) X cl_P_15 in_G iz_G rfl u_G t_G t_G_ok (by decide) (Nat.le_of_ble_eq_true rfl) (Nat.le_of_ble_eq_true rfl) d_P_init_34 (fun g7 => ?_)
  refine ev_dup X d_P_init_37 rfl ?_
  refine ev_callI X hAO m_P_21 c_G_init (by decide) (by decide) d_P_init_38 rfl rfl (Nat.le_of_ble_eq_true rfl) (fun w' hw' => ?_)
  subst hw'
  refine ev_w (w' := x ++ [(h, .inr (2, [.ref q0, .ref q1, .int 0])), (q0, .inl (ca 0, 8, .inl (fun _ => 0))), (q1, .inl (ca 3, 11, rf (va_up (va_up (va_up (va_up (va_up (va_up (va_up (fun _ => none) 0 (some g0)) 1 (some g1)) 2 (some g2)) 3 (some g3)) 4 (some g4)) 5 (some g5)) 6 (some g6)))), (g0, G0), (g1, G0), (g2, G0), (g3, G0), (g4, G0), (g5, G0), (g6, G0), (g7, G0)]) (List.append_assoc _ _ _) ?_
  refine ex_astq (j := 7) X 2 3 10 1 rfl rfl rfl rfl rfl (by decide) (by decide) d_P_init_41 ?_
  refine ev_w (w' := x ++ [(h, .inr (2, [.ref q0, .ref q1, .int 0])), (q0, .inl (ca 0, 8, .inl (fun _ => 0))), (q1, .inl (ca 3, 11, rf (va_up (va_up (va_up (va_up (va_up (va_up (va_up (va_up (fun _ => none) 0 (some g0)) 1 (some g1)) 2 (some g2)) 3 (some g3)) 4 (some g4)) 5 (some g5)) 6 (some g6)) 7 (some g7)))), (g0, G0), (g1, G0), (g2, G0), (g3, G0), (g4, G0), (g5, G0), (g6, G0), (g7, G0)]) rfl ?_
  refine ev_iinc (v := 8) X d_P_init_42 rfl (by decide) (by decide) ?_
  refine ev_goto (tgt := 23) X d_P_init_45 (by decide) ?_
  refine ev_iload_n X d_P_init_23 rfl ?_
  refine ev_bipush (v := 11) X d_P_init_24 (by decide) ?_
  refine ev_icmp_ge (tgt := 48) X d_P_init_26 (by decide) (fun h26 => ?_) (fun h26 => ?_)
  · exact absurd h26 (by decide)
  refine ev_aload_n X d_P_init_29 rfl ?_
  refine ex_get X f_P_17 0 rfl rfl d_P_init_30 ?_
  refine ev_iload_n X d_P_init_33 rfl ?_
  refine ev_new (ci := 1) (fs := [.int 0, .int 0, .int 0]) X cl_P_15 in_G iz_G rfl u_G t_G t_G_ok (by decide) (Nat.le_of_ble_eq_true rfl) (Nat.le_of_ble_eq_true rfl) d_P_init_34 (fun g8 => ?_)
  refine ev_dup X d_P_init_37 rfl ?_
  refine ev_callI X hAO m_P_21 c_G_init (by decide) (by decide) d_P_init_38 rfl rfl (Nat.le_of_ble_eq_true rfl) (fun w' hw' => ?_)
  subst hw'
  refine ev_w (w' := x ++ [(h, .inr (2, [.ref q0, .ref q1, .int 0])), (q0, .inl (ca 0, 8, .inl (fun _ => 0))), (q1, .inl (ca 3, 11, rf (va_up (va_up (va_up (va_up (va_up (va_up (va_up (va_up (fun _ => none) 0 (some g0)) 1 (some g1)) 2 (some g2)) 3 (some g3)) 4 (some g4)) 5 (some g5)) 6 (some g6)) 7 (some g7)))), (g0, G0), (g1, G0), (g2, G0), (g3, G0), (g4, G0), (g5, G0), (g6, G0), (g7, G0), (g8, G0)]) (List.append_assoc _ _ _) ?_
  refine ex_astq (j := 8) X 2 3 11 1 rfl rfl rfl rfl rfl (by decide) (by decide) d_P_init_41 ?_
  refine ev_w (w' := x ++ [(h, .inr (2, [.ref q0, .ref q1, .int 0])), (q0, .inl (ca 0, 8, .inl (fun _ => 0))), (q1, .inl (ca 3, 11, rf (va_up (va_up (va_up (va_up (va_up (va_up (va_up (va_up (va_up (fun _ => none) 0 (some g0)) 1 (some g1)) 2 (some g2)) 3 (some g3)) 4 (some g4)) 5 (some g5)) 6 (some g6)) 7 (some g7)) 8 (some g8)))), (g0, G0), (g1, G0), (g2, G0), (g3, G0), (g4, G0), (g5, G0), (g6, G0), (g7, G0), (g8, G0)]) rfl ?_
  refine ev_iinc (v := 9) X d_P_init_42 rfl (by decide) (by decide) ?_
  refine ev_goto (tgt := 23) X d_P_init_45 (by decide) ?_
  refine ev_iload_n X d_P_init_23 rfl ?_
  refine ev_bipush (v := 11) X d_P_init_24 (by decide) ?_
  refine ev_icmp_ge (tgt := 48) X d_P_init_26 (by decide) (fun h26 => ?_) (fun h26 => ?_)
  · exact absurd h26 (by decide)
  refine ev_aload_n X d_P_init_29 rfl ?_
  refine ex_get X f_P_17 0 rfl rfl d_P_init_30 ?_
  refine ev_iload_n X d_P_init_33 rfl ?_
  refine ev_new (ci := 1) (fs := [.int 0, .int 0, .int 0]) X cl_P_15 in_G iz_G rfl u_G t_G t_G_ok (by decide) (Nat.le_of_ble_eq_true rfl) (Nat.le_of_ble_eq_true rfl) d_P_init_34 (fun g9 => ?_)
  refine ev_dup X d_P_init_37 rfl ?_
  refine ev_callI X hAO m_P_21 c_G_init (by decide) (by decide) d_P_init_38 rfl rfl (Nat.le_of_ble_eq_true rfl) (fun w' hw' => ?_)
  subst hw'
  refine ev_w (w' := x ++ [(h, .inr (2, [.ref q0, .ref q1, .int 0])), (q0, .inl (ca 0, 8, .inl (fun _ => 0))), (q1, .inl (ca 3, 11, rf (va_up (va_up (va_up (va_up (va_up (va_up (va_up (va_up (va_up (fun _ => none) 0 (some g0)) 1 (some g1)) 2 (some g2)) 3 (some g3)) 4 (some g4)) 5 (some g5)) 6 (some g6)) 7 (some g7)) 8 (some g8)))), (g0, G0), (g1, G0), (g2, G0), (g3, G0), (g4, G0), (g5, G0), (g6, G0), (g7, G0), (g8, G0), (g9, G0)]) (List.append_assoc _ _ _) ?_
  refine ex_astq (j := 9) X 2 3 12 1 rfl rfl rfl rfl rfl (by decide) (by decide) d_P_init_41 ?_
  refine ev_w (w' := x ++ [(h, .inr (2, [.ref q0, .ref q1, .int 0])), (q0, .inl (ca 0, 8, .inl (fun _ => 0))), (q1, .inl (ca 3, 11, rf (va_up (va_up (va_up (va_up (va_up (va_up (va_up (va_up (va_up (va_up (fun _ => none) 0 (some g0)) 1 (some g1)) 2 (some g2)) 3 (some g3)) 4 (some g4)) 5 (some g5)) 6 (some g6)) 7 (some g7)) 8 (some g8)) 9 (some g9)))), (g0, G0), (g1, G0), (g2, G0), (g3, G0), (g4, G0), (g5, G0), (g6, G0), (g7, G0), (g8, G0), (g9, G0)]) rfl ?_
  refine ev_iinc (v := 10) X d_P_init_42 rfl (by decide) (by decide) ?_
  refine ev_goto (tgt := 23) X d_P_init_45 (by decide) ?_
  refine ev_iload_n X d_P_init_23 rfl ?_
  refine ev_bipush (v := 11) X d_P_init_24 (by decide) ?_
  refine ev_icmp_ge (tgt := 48) X d_P_init_26 (by decide) (fun h26 => ?_) (fun h26 => ?_)
  · exact absurd h26 (by decide)
  refine ev_aload_n X d_P_init_29 rfl ?_
  refine ex_get X f_P_17 0 rfl rfl d_P_init_30 ?_
  refine ev_iload_n X d_P_init_33 rfl ?_
  refine ev_new (ci := 1) (fs := [.int 0, .int 0, .int 0]) X cl_P_15 in_G iz_G rfl u_G t_G t_G_ok (by decide) (Nat.le_of_ble_eq_true rfl) (Nat.le_of_ble_eq_true rfl) d_P_init_34 (fun g10 => ?_)
  refine ev_dup X d_P_init_37 rfl ?_
  refine ev_callI X hAO m_P_21 c_G_init (by decide) (by decide) d_P_init_38 rfl rfl (Nat.le_of_ble_eq_true rfl) (fun w' hw' => ?_)
  subst hw'
  refine ev_w (w' := x ++ [(h, .inr (2, [.ref q0, .ref q1, .int 0])), (q0, .inl (ca 0, 8, .inl (fun _ => 0))), (q1, .inl (ca 3, 11, rf (va_up (va_up (va_up (va_up (va_up (va_up (va_up (va_up (va_up (va_up (fun _ => none) 0 (some g0)) 1 (some g1)) 2 (some g2)) 3 (some g3)) 4 (some g4)) 5 (some g5)) 6 (some g6)) 7 (some g7)) 8 (some g8)) 9 (some g9)))), (g0, G0), (g1, G0), (g2, G0), (g3, G0), (g4, G0), (g5, G0), (g6, G0), (g7, G0), (g8, G0), (g9, G0), (g10, G0)]) (List.append_assoc _ _ _) ?_
  refine ex_astq (j := 10) X 2 3 13 1 rfl rfl rfl rfl rfl (by decide) (by decide) d_P_init_41 ?_
  refine ev_w (w' := x ++ [(h, .inr (2, [.ref q0, .ref q1, .int 0])), (q0, .inl (ca 0, 8, .inl (fun _ => 0))), (q1, .inl (ca 3, 11, rf (va_up (va_up (va_up (va_up (va_up (va_up (va_up (va_up (va_up (va_up (va_up (fun _ => none) 0 (some g0)) 1 (some g1)) 2 (some g2)) 3 (some g3)) 4 (some g4)) 5 (some g5)) 6 (some g6)) 7 (some g7)) 8 (some g8)) 9 (some g9)) 10 (some g10)))), (g0, G0), (g1, G0), (g2, G0), (g3, G0), (g4, G0), (g5, G0), (g6, G0), (g7, G0), (g8, G0), (g9, G0), (g10, G0)]) rfl ?_
  refine ev_iinc (v := 11) X d_P_init_42 rfl (by decide) (by decide) ?_
  refine ev_goto (tgt := 23) X d_P_init_45 (by decide) ?_
  refine ev_iload_n X d_P_init_23 rfl ?_
  refine ev_bipush (v := 11) X d_P_init_24 (by decide) ?_
  refine ev_icmp_ge (tgt := 48) X d_P_init_26 (by decide) (fun h26 => ?_) (fun h26 => ?_)
  · refine ev_aload_n X d_P_init_48 rfl ?_
    refine ev_iconst (v := (-1)) X d_P_init_49 (by decide) ?_
    refine ex_put X f_P_22 0 rfl rfl rfl (Nat.le_of_ble_eq_true rfl) d_P_init_50 ?_
    refine ev_SM (w' := x ++ PLx ca h (fun i => ([q0, q1, g0, g1, g2, g3, g4, g5, g6, g7, g8, g9, g10] : List Nat).getD i 0)) (SM.app x ?_) ?_
    · refine SM.cons (Or.inl rfl) (SM.cons (Or.inl rfl) (SM.cons (sm.arr ?_) (SM.rf _)))
      intro k hk
      have hk : k = 0 ∨ k = 1 ∨ k = 2 ∨ k = 3 ∨ k = 4 ∨ k = 5 ∨ k = 6 ∨ k = 7 ∨ k = 8 ∨ k = 9 ∨ k = 10 := by omega
      rcases hk with rfl | rfl | rfl | rfl | rfl | rfl | rfl | rfl | rfl | rfl | rfl <;> rfl
    · exact ev_vretC X hr hk d_P_init_53 ⟨_, rfl⟩
  · exact absurd h26 (by decide)
end
section
def ownF (k : Nat) : Nat → Int32 := fun j => if 1 ≤ j ∧ j < k then 1 else 0
theorem ownF_1 : upd (fun _ => 0) 0 0 = ownF 1 := by
  funext j
  unfold upd ownF
  rw [if_neg (show ¬ (1 ≤ j ∧ j < 1) by omega)]
  split <;> rfl
theorem ownF_0 : (fun _ => 0) = ownF 0 := by
  funext j
  unfold ownF
  rw [if_neg (show ¬ (1 ≤ j ∧ j < 0) by omega)]
theorem ownF_up {k : Nat} {v : Int32} (h : (1 ≤ k ∧ v = 1) ∨ (k = 0 ∧ v = 0)) : upd (ownF k) k v = ownF (k + 1) := by
  funext j
  unfold upd ownF
  by_cases hj : j = k
  · rw [if_pos hj]
    rcases h with ⟨h1, h2⟩ | ⟨h1, h2⟩
    · rw [if_pos (show 1 ≤ j ∧ j < k + 1 by omega), h2]
    · rw [if_neg (show ¬ (1 ≤ j ∧ j < k + 1) by omega), h2]
  · rw [if_neg hj]
    by_cases h2 : 1 ≤ j ∧ j < k
    · rw [if_pos h2, if_pos (show 1 ≤ j ∧ j < k + 1 by omega)]
    · rw [if_neg h2, if_neg (show ¬ (1 ≤ j ∧ j < k + 1) by omega)]
def S0 (key : Int32) : St := fun c => if c = 0 then (fun j => if j = 0 then key else 0) else if c = 2 then ownF 16 else if c = 4 then (fun j => if j = 5 then -1 else 0) else if c = 6 then (fun j => if j = 5 then -1 else 0) else if c = 8 then (fun j => if j = 5 then -1 else 0) else if c = 10 then (fun j => if j = 5 then -1 else 0) else if c = 13 then (fun j => if j = 2 then -1 else 0) else if c = 27 then (fun j => if j = 2 then -1 else 0) else (fun _ => 0)
def M0 (key : Int32) : St := fun c => if c = 0 then (fun j => if j = 0 then key else 0) else if c = 2 then ownF 16 else if c = 4 then upd (upd (fun _ => 0) 0 (-1)) 1 (-1) else (fun _ => 0)
def adX (h q1 q2 q3 e0 r0 e1 r1 e2 r2 e3 r3 q12 p0 : Nat) (a0 : Nat → Nat) (p1 : Nat) (a1 : Nat → Nat) : Nat → Nat := fun i => if i = 0 then h else if i = 1 then q1 else if i = 2 then q2 else if i = 3 then q3 else if i = 4 then e0 else if i = 5 then r0 else if i = 6 then e1 else if i = 7 then r1 else if i = 8 then e2 else if i = 9 then r2 else if i = 10 then e3 else if i = 11 then r3 else if i = 12 then q12 else if i = 13 then p0 else if i < 27 then a0 (i - 14) else if i = 27 then p1 else a1 (i - 28)
set_option maxHeartbeats 16000000 in
set_option maxRecDepth 100000 in
theorem c_X_init {l : Launch} {D : va_G} {ca : Nat → ClassId} {h : Nat} {key : Int32} : CtCX l D ca y_X_init b_X_init 3 5 40 456 [.ref h, .int key] [(h, .inr (0, [.int 0, .null, .null, .null, .null, .int 0]))] (fun w' => ∃ ad : Nat → Nat, ad 0 = h ∧ w' = ly_w lyX 41 ad ca (sAll (S0 key)) []) := by
  refine ev_entC [some (.ref h), some (.int key), none] rfl (by decide) rfl (Nat.le_of_ble_eq_true rfl) rfl gTT (fun p e s m args below meth c A X hr hk hin hAO => ?_)
  refine ev_aload_n X d_X_init_0 rfl ?_
  refine ev_objInit X oi_X oi_m oi_c d_X_init_1 (Nat.le_of_ble_eq_true rfl) (Nat.le_of_ble_eq_true rfl) ?_
  refine ev_aload_n X d_X_init_4 rfl ?_
  refine ev_iload_n X d_X_init_5 rfl ?_
  refine ev_putF X hin f_X_7 (fun r h => by cases h; rfl) 0 rfl rfl rfl (Nat.le_of_ble_eq_true rfl) d_X_init_6 ?_
  refine ev_aload_n X d_X_init_9 rfl ?_
  refine ev_sipush (v := 256) X d_X_init_10 (by decide) ?_
  refine ev_newa (N' := 256) X ac_i rfl (by decide) (by decide) (Nat.le_of_ble_eq_true rfl) (Nat.le_of_ble_eq_true rfl) (Nat.le_of_ble_eq_true rfl) d_X_init_13 (fun q1 => ?_)
  refine ev_putF X hin f_X_13 (fun r h => by cases h; rfl) 0 rfl rfl rfl (Nat.le_of_ble_eq_true rfl) d_X_init_15 ?_
  refine ev_aload_n X d_X_init_18 rfl ?_
  refine ev_bipush (v := 16) X d_X_init_19 (by decide) ?_
  refine ev_newa (N' := 16) X ac_i rfl (by decide) (by decide) (Nat.le_of_ble_eq_true rfl) (Nat.le_of_ble_eq_true rfl) (Nat.le_of_ble_eq_true rfl) d_X_init_21 (fun q2 => ?_)
  refine ev_putF X hin f_X_17 (fun r h => by cases h; rfl) 0 rfl rfl rfl (Nat.le_of_ble_eq_true rfl) d_X_init_23 ?_
  refine ev_aload_n X d_X_init_26 rfl ?_
  refine ev_get X f_X_17 0 rfl rfl d_X_init_27 ?_
  refine ev_iconst (v := 0) X d_X_init_30 (by decide) ?_
  refine ev_iconst (v := 0) X d_X_init_31 (by decide) ?_
  refine ev_iastC (j := 0) X 2 rfl rfl rfl (by decide) (by decide) d_X_init_32 ?_
  refine ev_w (w' := [(h, .inr (0, [.int key, .ref q1, .ref q2, .null, .null, .int 0])), (q1, .inl (ca 0, 256, .inl (fun _ => 0))), (q2, .inl (ca 0, 16, .inl (ownF 1)))]) (by rw [← ownF_1]; rfl) ?_
  refine ev_cs (cells' := 2) (slots' := 272) rfl rfl ?_
  refine ev_iconst (v := 1) X d_X_init_33 (by decide) ?_
  refine ev_istore_n X d_X_init_34 (by decide) ?_
  have loop : EV p l e (rmc 5 40 456) s m args below meth c 2 272 (MQ below (QC clX D A (fun w' => ∃ ad : Nat → Nat, ad 0 = h ∧ w' = ly_w lyX 41 ad ca (sAll (S0 key)) [])) args s 40 456 A) 3 D clX A s.heap [(h, .inr (0, [.int key, .ref q1, .ref q2, .null, .null, .int 0])), (q1, .inl (ca 0, 256, .inl (fun _ => 0))), (q2, .inl (ca 0, 16, .inl (ownF 16)))] 54 [some (.ref h), some (.int key), some (.int (nI 16))] [] → ∀ (r k : Nat), k + r = 16 → 1 ≤ k → EV p l e (rmc 5 40 456) s m args below meth c 2 272 (MQ below (QC clX D A (fun w' => ∃ ad : Nat → Nat, ad 0 = h ∧ w' = ly_w lyX 41 ad ca (sAll (S0 key)) [])) args s 40 456 A) 3 D clX A s.heap [(h, .inr (0, [.int key, .ref q1, .ref q2, .null, .null, .int 0])), (q1, .inl (ca 0, 256, .inl (fun _ => 0))), (q2, .inl (ca 0, 16, .inl (ownF k)))] 35 [some (.ref h), some (.int key), some (.int (nI k))] [] := by
    intro go r
    induction r with
    | zero =>
      intro k q1' q2'
      have e16 : k = 16 := by omega
      subst e16
      refine ev_iload_n X d_X_init_35 rfl ?_
      refine ev_bipush (v := 16) X d_X_init_36 (by decide) ?_
      refine ev_icmp_ge (tgt := 54) X d_X_init_38 (by decide) (fun h38 => ?_) (fun h38 => ?_)
      · exact go
      · exact absurd (by decide) h38
    | succ r ih =>
      intro k q1' q2'
      refine ev_iload_n X d_X_init_35 rfl ?_
      refine ev_bipush (v := 16) X d_X_init_36 (by decide) ?_
      refine ev_icmp_ge (tgt := 54) X d_X_init_38 (by decide) (fun h38 => ?_) (fun h38 => ?_)
      · exact absurd h38 (nI_ge (b := 16) (by omega) (by decide))
      · refine ev_aload_n X d_X_init_41 rfl ?_
        refine ev_get X f_X_17 0 rfl rfl d_X_init_42 ?_
        refine ev_iload_n X d_X_init_45 rfl ?_
        refine ev_iconst (v := 1) X d_X_init_46 (by decide) ?_
        refine ev_iastC (j := k) X 2 rfl rfl rfl (by omega) (by decide) d_X_init_47 ?_
        refine ev_w (w' := [(h, .inr (0, [.int key, .ref q1, .ref q2, .null, .null, .int 0])), (q1, .inl (ca 0, 256, .inl (fun _ => 0))), (q2, .inl (ca 0, 16, .inl (ownF (k + 1))))]) (by rw [← ownF_up (v := 1) (Or.inl ⟨q2', rfl⟩)]; rfl) ?_
        refine ev_iinc (v := nI (k + 1)) X d_X_init_48 rfl (nI_1 k) (by decide) ?_
        refine ev_goto (tgt := 35) X d_X_init_51 (by decide) ?_
        exact ih (k + 1) (by omega) (by omega)
  refine loop ?_ 15 1 rfl (by decide)
  refine ev_aload_n X d_X_init_54 rfl ?_
  refine ev_iconst (v := 4) X d_X_init_55 (by decide) ?_
  refine ev_newq (N' := 4) (t0 := 2) X cl_X_20 hAO.2.1 rfl (by decide) (by decide) (Nat.le_of_ble_eq_true rfl) (Nat.le_of_ble_eq_true rfl) (Nat.le_of_ble_eq_true rfl) d_X_init_56 (fun q3 => ?_)
  refine ev_putF X hin f_X_22 (fun r h => by cases h; rfl) 0 rfl rfl rfl (Nat.le_of_ble_eq_true rfl) d_X_init_59 ?_
  refine ev_w (w' := [(h, .inr (0, [.int key, .ref q1, .ref q2, .null, .ref q3, .int 0])), (q1, .inl (ca 0, 256, .inl (fun _ => 0))), (q2, .inl (ca 0, 16, .inl (ownF 16))), (q3, .inl (ca 2, 4, rf (fun _ => none)))]) rfl ?_
  refine ev_cs (cells' := 3) (slots' := 276) rfl rfl ?_
  refine ev_iconst (v := 0) X d_X_init_62 (by decide) ?_
  refine ev_istore_n X d_X_init_63 (by decide) ?_
  refine ev_iload_n X d_X_init_64 rfl ?_
  refine ev_iconst (v := 4) X d_X_init_65 (by decide) ?_
  refine ev_icmp_ge (tgt := 88) X d_X_init_66 (by decide) (fun h66 => ?_) (fun h66 => ?_)
  · exact absurd h66 (by decide)
  refine ev_aload_n X d_X_init_69 rfl ?_
  refine ev_get X f_X_22 0 rfl rfl d_X_init_70 ?_
  refine ev_iload_n X d_X_init_73 rfl ?_
  refine ev_new (ci := 3) (fs := [.null, .int 0, .int 0, .int 0, .int 0, .int 0, .int 0, .int 0, .int 0]) X cl_X_20 in_E iz_E rfl u_E t_E t_E_ok (by decide) (Nat.le_of_ble_eq_true rfl) (Nat.le_of_ble_eq_true rfl) d_X_init_74 (fun e0 => ?_)
  refine ev_dup X d_X_init_77 rfl ?_
  refine ev_callI X hAO m_X_26 c_E_init (by decide) (by decide) d_X_init_78 rfl rfl (Nat.le_of_ble_eq_true rfl) (fun w' hw' => ?_)
  obtain ⟨r0, rfl⟩ := hw'
  refine ev_w (w' := [(h, .inr (0, [.int key, .ref q1, .ref q2, .null, .ref q3, .int 0])), (q1, .inl (ca 0, 256, .inl (fun _ => 0))), (q2, .inl (ca 0, 16, .inl (ownF 16))), (q3, .inl (ca 2, 4, rf (fun _ => none))), (e0, .inr (3, [.ref r0, .int 0, .int 0, .int 0, .int 0, .int (-1), .int 0, .int 0, .int 0])), (r0, .inl (ca 0, 8, .inl (fun _ => 0)))]) rfl ?_
  refine ev_cs (cells' := 5) (slots' := 293) rfl rfl ?_
  refine ev_astq (j := 0) X 3 2 4 3 rfl rfl rfl rfl rfl (by decide) (by decide) d_X_init_81 ?_
  refine ev_w (w' := [(h, .inr (0, [.int key, .ref q1, .ref q2, .null, .ref q3, .int 0])), (q1, .inl (ca 0, 256, .inl (fun _ => 0))), (q2, .inl (ca 0, 16, .inl (ownF 16))), (q3, .inl (ca 2, 4, rf (va_up (fun _ => none) 0 (some e0)))), (e0, .inr (3, [.ref r0, .int 0, .int 0, .int 0, .int 0, .int (-1), .int 0, .int 0, .int 0])), (r0, .inl (ca 0, 8, .inl (fun _ => 0)))]) rfl ?_
  refine ev_iinc (v := 1) X d_X_init_82 rfl (by decide) (by decide) ?_
  refine ev_goto (tgt := 64) X d_X_init_85 (by decide) ?_
  refine ev_iload_n X d_X_init_64 rfl ?_
  refine ev_iconst (v := 4) X d_X_init_65 (by decide) ?_
  refine ev_icmp_ge (tgt := 88) X d_X_init_66 (by decide) (fun h66 => ?_) (fun h66 => ?_)
  · exact absurd h66 (by decide)
  refine ev_aload_n X d_X_init_69 rfl ?_
  refine ev_get X f_X_22 0 rfl rfl d_X_init_70 ?_
  refine ev_iload_n X d_X_init_73 rfl ?_
  refine ev_new (ci := 3) (fs := [.null, .int 0, .int 0, .int 0, .int 0, .int 0, .int 0, .int 0, .int 0]) X cl_X_20 in_E iz_E rfl u_E t_E t_E_ok (by decide) (Nat.le_of_ble_eq_true rfl) (Nat.le_of_ble_eq_true rfl) d_X_init_74 (fun e1 => ?_)
  refine ev_dup X d_X_init_77 rfl ?_
  refine ev_callI X hAO m_X_26 c_E_init (by decide) (by decide) d_X_init_78 rfl rfl (Nat.le_of_ble_eq_true rfl) (fun w' hw' => ?_)
  obtain ⟨r1, rfl⟩ := hw'
  refine ev_w (w' := [(h, .inr (0, [.int key, .ref q1, .ref q2, .null, .ref q3, .int 0])), (q1, .inl (ca 0, 256, .inl (fun _ => 0))), (q2, .inl (ca 0, 16, .inl (ownF 16))), (q3, .inl (ca 2, 4, rf (va_up (fun _ => none) 0 (some e0)))), (e0, .inr (3, [.ref r0, .int 0, .int 0, .int 0, .int 0, .int (-1), .int 0, .int 0, .int 0])), (r0, .inl (ca 0, 8, .inl (fun _ => 0))), (e1, .inr (3, [.ref r1, .int 0, .int 0, .int 0, .int 0, .int (-1), .int 0, .int 0, .int 0])), (r1, .inl (ca 0, 8, .inl (fun _ => 0)))]) rfl ?_
  refine ev_cs (cells' := 7) (slots' := 310) rfl rfl ?_
  refine ev_astq (j := 1) X 3 2 6 3 rfl rfl rfl rfl rfl (by decide) (by decide) d_X_init_81 ?_
  refine ev_w (w' := [(h, .inr (0, [.int key, .ref q1, .ref q2, .null, .ref q3, .int 0])), (q1, .inl (ca 0, 256, .inl (fun _ => 0))), (q2, .inl (ca 0, 16, .inl (ownF 16))), (q3, .inl (ca 2, 4, rf (va_up (va_up (fun _ => none) 0 (some e0)) 1 (some e1)))), (e0, .inr (3, [.ref r0, .int 0, .int 0, .int 0, .int 0, .int (-1), .int 0, .int 0, .int 0])), (r0, .inl (ca 0, 8, .inl (fun _ => 0))), (e1, .inr (3, [.ref r1, .int 0, .int 0, .int 0, .int 0, .int (-1), .int 0, .int 0, .int 0])), (r1, .inl (ca 0, 8, .inl (fun _ => 0)))]) rfl ?_
  refine ev_iinc (v := 2) X d_X_init_82 rfl (by decide) (by decide) ?_
  refine ev_goto (tgt := 64) X d_X_init_85 (by decide) ?_
  refine ev_iload_n X d_X_init_64 rfl ?_
  refine ev_iconst (v := 4) X d_X_init_65 (by decide) ?_
  refine ev_icmp_ge (tgt := 88) X d_X_init_66 (by decide) (fun h66 => ?_) (fun h66 => ?_)
  · exact absurd h66 (by decide)
  refine ev_aload_n X d_X_init_69 rfl ?_
  refine ev_get X f_X_22 0 rfl rfl d_X_init_70 ?_
  refine ev_iload_n X d_X_init_73 rfl ?_
  refine ev_new (ci := 3) (fs := [.null, .int 0, .int 0, .int 0, .int 0, .int 0, .int 0, .int 0, .int 0]) X cl_X_20 in_E iz_E rfl u_E t_E t_E_ok (by decide) (Nat.le_of_ble_eq_true rfl) (Nat.le_of_ble_eq_true rfl) d_X_init_74 (fun e2 => ?_)
  refine ev_dup X d_X_init_77 rfl ?_
  refine ev_callI X hAO m_X_26 c_E_init (by decide) (by decide) d_X_init_78 rfl rfl (Nat.le_of_ble_eq_true rfl) (fun w' hw' => ?_)
  obtain ⟨r2, rfl⟩ := hw'
  refine ev_w (w' := [(h, .inr (0, [.int key, .ref q1, .ref q2, .null, .ref q3, .int 0])), (q1, .inl (ca 0, 256, .inl (fun _ => 0))), (q2, .inl (ca 0, 16, .inl (ownF 16))), (q3, .inl (ca 2, 4, rf (va_up (va_up (fun _ => none) 0 (some e0)) 1 (some e1)))), (e0, .inr (3, [.ref r0, .int 0, .int 0, .int 0, .int 0, .int (-1), .int 0, .int 0, .int 0])), (r0, .inl (ca 0, 8, .inl (fun _ => 0))), (e1, .inr (3, [.ref r1, .int 0, .int 0, .int 0, .int 0, .int (-1), .int 0, .int 0, .int 0])), (r1, .inl (ca 0, 8, .inl (fun _ => 0))), (e2, .inr (3, [.ref r2, .int 0, .int 0, .int 0, .int 0, .int (-1), .int 0, .int 0, .int 0])), (r2, .inl (ca 0, 8, .inl (fun _ => 0)))]) rfl ?_
  refine ev_cs (cells' := 9) (slots' := 327) rfl rfl ?_
  refine ev_astq (j := 2) X 3 2 8 3 rfl rfl rfl rfl rfl (by decide) (by decide) d_X_init_81 ?_
  refine ev_w (w' := [(h, .inr (0, [.int key, .ref q1, .ref q2, .null, .ref q3, .int 0])), (q1, .inl (ca 0, 256, .inl (fun _ => 0))), (q2, .inl (ca 0, 16, .inl (ownF 16))), (q3, .inl (ca 2, 4, rf (va_up (va_up (va_up (fun _ => none) 0 (some e0)) 1 (some e1)) 2 (some e2)))), (e0, .inr (3, [.ref r0, .int 0, .int 0, .int 0, .int 0, .int (-1), .int 0, .int 0, .int 0])), (r0, .inl (ca 0, 8, .inl (fun _ => 0))), (e1, .inr (3, [.ref r1, .int 0, .int 0, .int 0, .int 0, .int (-1), .int 0, .int 0, .int 0])), (r1, .inl (ca 0, 8, .inl (fun _ => 0))), (e2, .inr (3, [.ref r2, .int 0, .int 0, .int 0, .int 0, .int (-1), .int 0, .int 0, .int 0])), (r2, .inl (ca 0, 8, .inl (fun _ => 0)))]) rfl ?_
  refine ev_iinc (v := 3) X d_X_init_82 rfl (by decide) (by decide) ?_
  refine ev_goto (tgt := 64) X d_X_init_85 (by decide) ?_
  refine ev_iload_n X d_X_init_64 rfl ?_
  refine ev_iconst (v := 4) X d_X_init_65 (by decide) ?_
  refine ev_icmp_ge (tgt := 88) X d_X_init_66 (by decide) (fun h66 => ?_) (fun h66 => ?_)
  · exact absurd h66 (by decide)
  refine ev_aload_n X d_X_init_69 rfl ?_
  refine ev_get X f_X_22 0 rfl rfl d_X_init_70 ?_
  refine ev_iload_n X d_X_init_73 rfl ?_
  refine ev_new (ci := 3) (fs := [.null, .int 0, .int 0, .int 0, .int 0, .int 0, .int 0, .int 0, .int 0]) X cl_X_20 in_E iz_E rfl u_E t_E t_E_ok (by decide) (Nat.le_of_ble_eq_true rfl) (Nat.le_of_ble_eq_true rfl) d_X_init_74 (fun e3 => ?_)
  refine ev_dup X d_X_init_77 rfl ?_
  refine ev_callI X hAO m_X_26 c_E_init (by decide) (by decide) d_X_init_78 rfl rfl (Nat.le_of_ble_eq_true rfl) (fun w' hw' => ?_)
  obtain ⟨r3, rfl⟩ := hw'
  refine ev_w (w' := [(h, .inr (0, [.int key, .ref q1, .ref q2, .null, .ref q3, .int 0])), (q1, .inl (ca 0, 256, .inl (fun _ => 0))), (q2, .inl (ca 0, 16, .inl (ownF 16))), (q3, .inl (ca 2, 4, rf (va_up (va_up (va_up (fun _ => none) 0 (some e0)) 1 (some e1)) 2 (some e2)))), (e0, .inr (3, [.ref r0, .int 0, .int 0, .int 0, .int 0, .int (-1), .int 0, .int 0, .int 0])), (r0, .inl (ca 0, 8, .inl (fun _ => 0))), (e1, .inr (3, [.ref r1, .int 0, .int 0, .int 0, .int 0, .int (-1), .int 0, .int 0, .int 0])), (r1, .inl (ca 0, 8, .inl (fun _ => 0))), (e2, .inr (3, [.ref r2, .int 0, .int 0, .int 0, .int 0, .int (-1), .int 0, .int 0, .int 0])), (r2, .inl (ca 0, 8, .inl (fun _ => 0))), (e3, .inr (3, [.ref r3, .int 0, .int 0, .int 0, .int 0, .int (-1), .int 0, .int 0, .int 0])), (r3, .inl (ca 0, 8, .inl (fun _ => 0)))]) rfl ?_
  refine ev_cs (cells' := 11) (slots' := 344) rfl rfl ?_
  refine ev_astq (j := 3) X 3 2 10 3 rfl rfl rfl rfl rfl (by decide) (by decide) d_X_init_81 ?_
  refine ev_w (w' := [(h, .inr (0, [.int key, .ref q1, .ref q2, .null, .ref q3, .int 0])), (q1, .inl (ca 0, 256, .inl (fun _ => 0))), (q2, .inl (ca 0, 16, .inl (ownF 16))), (q3, .inl (ca 2, 4, rf (va_up (va_up (va_up (va_up (fun _ => none) 0 (some e0)) 1 (some e1)) 2 (some e2)) 3 (some e3)))), (e0, .inr (3, [.ref r0, .int 0, .int 0, .int 0, .int 0, .int (-1), .int 0, .int 0, .int 0])), (r0, .inl (ca 0, 8, .inl (fun _ => 0))), (e1, .inr (3, [.ref r1, .int 0, .int 0, .int 0, .int 0, .int (-1), .int 0, .int 0, .int 0])), (r1, .inl (ca 0, 8, .inl (fun _ => 0))), (e2, .inr (3, [.ref r2, .int 0, .int 0, .int 0, .int 0, .int (-1), .int 0, .int 0, .int 0])), (r2, .inl (ca 0, 8, .inl (fun _ => 0))), (e3, .inr (3, [.ref r3, .int 0, .int 0, .int 0, .int 0, .int (-1), .int 0, .int 0, .int 0])), (r3, .inl (ca 0, 8, .inl (fun _ => 0)))]) rfl ?_
  refine ev_iinc (v := 4) X d_X_init_82 rfl (by decide) (by decide) ?_
  refine ev_goto (tgt := 64) X d_X_init_85 (by decide) ?_
  refine ev_iload_n X d_X_init_64 rfl ?_
  refine ev_iconst (v := 4) X d_X_init_65 (by decide) ?_
  refine ev_icmp_ge (tgt := 88) X d_X_init_66 (by decide) (fun h66 => ?_) (fun h66 => ?_)
  rotate_left
  · exact absurd h66 (by decide)
  refine ev_aload_n X d_X_init_88 rfl ?_
  refine ev_iconst (v := 2) X d_X_init_89 (by decide) ?_
  refine ev_newq (N' := 2) (t0 := 1) X cl_X_27 hAO.1 rfl (by decide) (by decide) (Nat.le_of_ble_eq_true rfl) (Nat.le_of_ble_eq_true rfl) (Nat.le_of_ble_eq_true rfl) d_X_init_90 (fun q12 => ?_)
  refine ev_putF X hin f_X_29 (fun r h => by cases h; rfl) 0 rfl rfl rfl (Nat.le_of_ble_eq_true rfl) d_X_init_93 ?_
  refine ev_w (w' := [(h, .inr (0, [.int key, .ref q1, .ref q2, .ref q12, .ref q3, .int 0])), (q1, .inl (ca 0, 256, .inl (fun _ => 0))), (q2, .inl (ca 0, 16, .inl (ownF 16))), (q3, .inl (ca 2, 4, rf (va_up (va_up (va_up (va_up (fun _ => none) 0 (some e0)) 1 (some e1)) 2 (some e2)) 3 (some e3)))), (e0, .inr (3, [.ref r0, .int 0, .int 0, .int 0, .int 0, .int (-1), .int 0, .int 0, .int 0])), (r0, .inl (ca 0, 8, .inl (fun _ => 0))), (e1, .inr (3, [.ref r1, .int 0, .int 0, .int 0, .int 0, .int (-1), .int 0, .int 0, .int 0])), (r1, .inl (ca 0, 8, .inl (fun _ => 0))), (e2, .inr (3, [.ref r2, .int 0, .int 0, .int 0, .int 0, .int (-1), .int 0, .int 0, .int 0])), (r2, .inl (ca 0, 8, .inl (fun _ => 0))), (e3, .inr (3, [.ref r3, .int 0, .int 0, .int 0, .int 0, .int (-1), .int 0, .int 0, .int 0])), (r3, .inl (ca 0, 8, .inl (fun _ => 0))), (q12, .inl (ca 1, 2, rf (fun _ => none)))]) rfl ?_
  refine ev_cs (cells' := 12) (slots' := 346) rfl rfl ?_
  refine ev_iconst (v := 0) X d_X_init_96 (by decide) ?_
  refine ev_istore_n X d_X_init_97 (by decide) ?_
  refine ev_iload_n X d_X_init_98 rfl ?_
  refine ev_iconst (v := 2) X d_X_init_99 (by decide) ?_
  refine ev_icmp_ge (tgt := 122) X d_X_init_100 (by decide) (fun h100 => ?_) (fun h100 => ?_)
  · exact absurd h100 (by decide)
  refine ev_aload_n X d_X_init_103 rfl ?_
  refine ev_get X f_X_29 0 rfl rfl d_X_init_104 ?_
  refine ev_iload_n X d_X_init_107 rfl ?_
  refine ev_new (ci := 2) (fs := [.null, .null, .int 0]) X cl_X_27 in_P iz_P rfl u_P t_P t_P_ok (by decide) (Nat.le_of_ble_eq_true rfl) (Nat.le_of_ble_eq_true rfl) d_X_init_108 (fun p0 => ?_)
  refine ev_dup X d_X_init_111 rfl ?_
  refine ev_callI X hAO m_X_33 c_P_init (by decide) (by decide) d_X_init_112 rfl rfl (Nat.le_of_ble_eq_true rfl) (fun w' hw' => ?_)
  obtain ⟨a0, rfl⟩ := hw'
  refine ev_w (w' := [(h, .inr (0, [.int key, .ref q1, .ref q2, .ref q12, .ref q3, .int 0])), (q1, .inl (ca 0, 256, .inl (fun _ => 0))), (q2, .inl (ca 0, 16, .inl (ownF 16))), (q3, .inl (ca 2, 4, rf (va_up (va_up (va_up (va_up (fun _ => none) 0 (some e0)) 1 (some e1)) 2 (some e2)) 3 (some e3)))), (e0, .inr (3, [.ref r0, .int 0, .int 0, .int 0, .int 0, .int (-1), .int 0, .int 0, .int 0])), (r0, .inl (ca 0, 8, .inl (fun _ => 0))), (e1, .inr (3, [.ref r1, .int 0, .int 0, .int 0, .int 0, .int (-1), .int 0, .int 0, .int 0])), (r1, .inl (ca 0, 8, .inl (fun _ => 0))), (e2, .inr (3, [.ref r2, .int 0, .int 0, .int 0, .int 0, .int (-1), .int 0, .int 0, .int 0])), (r2, .inl (ca 0, 8, .inl (fun _ => 0))), (e3, .inr (3, [.ref r3, .int 0, .int 0, .int 0, .int 0, .int (-1), .int 0, .int 0, .int 0])), (r3, .inl (ca 0, 8, .inl (fun _ => 0))), (q12, .inl (ca 1, 2, rf (fun _ => none))), (p0, .inr (2, [.ref (a0 0), .ref (a0 1), .int (-1)])), (a0 0, .inl (ca 0, 8, .inl (fun _ => 0))), (a0 1, .inl (ca 3, 11, rf (fun k => some (a0 (2 + k))))), (a0 2, G0), (a0 3, G0), (a0 4, G0), (a0 5, G0), (a0 6, G0), (a0 7, G0), (a0 8, G0), (a0 9, G0), (a0 10, G0), (a0 11, G0), (a0 12, G0)]) rfl ?_
  refine ev_cs (cells' := 26) (slots' := 401) rfl rfl ?_
  refine ev_astq (j := 0) X 12 1 13 2 rfl rfl rfl rfl rfl (by decide) (by decide) d_X_init_115 ?_
  refine ev_w (w' := [(h, .inr (0, [.int key, .ref q1, .ref q2, .ref q12, .ref q3, .int 0])), (q1, .inl (ca 0, 256, .inl (fun _ => 0))), (q2, .inl (ca 0, 16, .inl (ownF 16))), (q3, .inl (ca 2, 4, rf (va_up (va_up (va_up (va_up (fun _ => none) 0 (some e0)) 1 (some e1)) 2 (some e2)) 3 (some e3)))), (e0, .inr (3, [.ref r0, .int 0, .int 0, .int 0, .int 0, .int (-1), .int 0, .int 0, .int 0])), (r0, .inl (ca 0, 8, .inl (fun _ => 0))), (e1, .inr (3, [.ref r1, .int 0, .int 0, .int 0, .int 0, .int (-1), .int 0, .int 0, .int 0])), (r1, .inl (ca 0, 8, .inl (fun _ => 0))), (e2, .inr (3, [.ref r2, .int 0, .int 0, .int 0, .int 0, .int (-1), .int 0, .int 0, .int 0])), (r2, .inl (ca 0, 8, .inl (fun _ => 0))), (e3, .inr (3, [.ref r3, .int 0, .int 0, .int 0, .int 0, .int (-1), .int 0, .int 0, .int 0])), (r3, .inl (ca 0, 8, .inl (fun _ => 0))), (q12, .inl (ca 1, 2, rf (va_up (fun _ => none) 0 (some p0)))), (p0, .inr (2, [.ref (a0 0), .ref (a0 1), .int (-1)])), (a0 0, .inl (ca 0, 8, .inl (fun _ => 0))), (a0 1, .inl (ca 3, 11, rf (fun k => some (a0 (2 + k))))), (a0 2, G0), (a0 3, G0), (a0 4, G0), (a0 5, G0), (a0 6, G0), (a0 7, G0), (a0 8, G0), (a0 9, G0), (a0 10, G0), (a0 11, G0), (a0 12, G0)]) rfl ?_
  refine ev_iinc (v := 1) X d_X_init_116 rfl (by decide) (by decide) ?_
  refine ev_goto (tgt := 98) X d_X_init_119 (by decide) ?_
  refine ev_iload_n X d_X_init_98 rfl ?_
  refine ev_iconst (v := 2) X d_X_init_99 (by decide) ?_
  refine ev_icmp_ge (tgt := 122) X d_X_init_100 (by decide) (fun h100 => ?_) (fun h100 => ?_)
  · exact absurd h100 (by decide)
  refine ev_aload_n X d_X_init_103 rfl ?_
  refine ev_get X f_X_29 0 rfl rfl d_X_init_104 ?_
  refine ev_iload_n X d_X_init_107 rfl ?_
  refine ev_new (ci := 2) (fs := [.null, .null, .int 0]) X cl_X_27 in_P iz_P rfl u_P t_P t_P_ok (by decide) (Nat.le_of_ble_eq_true rfl) (Nat.le_of_ble_eq_true rfl) d_X_init_108 (fun p1 => ?_)
  refine ev_dup X d_X_init_111 rfl ?_
  refine ev_callI X hAO m_X_33 c_P_init (by decide) (by decide) d_X_init_112 rfl rfl (Nat.le_of_ble_eq_true rfl) (fun w' hw' => ?_)
  obtain ⟨a1, rfl⟩ := hw'
  refine ev_w (w' := [(h, .inr (0, [.int key, .ref q1, .ref q2, .ref q12, .ref q3, .int 0])), (q1, .inl (ca 0, 256, .inl (fun _ => 0))), (q2, .inl (ca 0, 16, .inl (ownF 16))), (q3, .inl (ca 2, 4, rf (va_up (va_up (va_up (va_up (fun _ => none) 0 (some e0)) 1 (some e1)) 2 (some e2)) 3 (some e3)))), (e0, .inr (3, [.ref r0, .int 0, .int 0, .int 0, .int 0, .int (-1), .int 0, .int 0, .int 0])), (r0, .inl (ca 0, 8, .inl (fun _ => 0))), (e1, .inr (3, [.ref r1, .int 0, .int 0, .int 0, .int 0, .int (-1), .int 0, .int 0, .int 0])), (r1, .inl (ca 0, 8, .inl (fun _ => 0))), (e2, .inr (3, [.ref r2, .int 0, .int 0, .int 0, .int 0, .int (-1), .int 0, .int 0, .int 0])), (r2, .inl (ca 0, 8, .inl (fun _ => 0))), (e3, .inr (3, [.ref r3, .int 0, .int 0, .int 0, .int 0, .int (-1), .int 0, .int 0, .int 0])), (r3, .inl (ca 0, 8, .inl (fun _ => 0))), (q12, .inl (ca 1, 2, rf (va_up (fun _ => none) 0 (some p0)))), (p0, .inr (2, [.ref (a0 0), .ref (a0 1), .int (-1)])), (a0 0, .inl (ca 0, 8, .inl (fun _ => 0))), (a0 1, .inl (ca 3, 11, rf (fun k => some (a0 (2 + k))))), (a0 2, G0), (a0 3, G0), (a0 4, G0), (a0 5, G0), (a0 6, G0), (a0 7, G0), (a0 8, G0), (a0 9, G0), (a0 10, G0), (a0 11, G0), (a0 12, G0), (p1, .inr (2, [.ref (a1 0), .ref (a1 1), .int (-1)])), (a1 0, .inl (ca 0, 8, .inl (fun _ => 0))), (a1 1, .inl (ca 3, 11, rf (fun k => some (a1 (2 + k))))), (a1 2, G0), (a1 3, G0), (a1 4, G0), (a1 5, G0), (a1 6, G0), (a1 7, G0), (a1 8, G0), (a1 9, G0), (a1 10, G0), (a1 11, G0), (a1 12, G0)]) rfl ?_
  refine ev_cs (cells' := 40) (slots' := 456) rfl rfl ?_
  refine ev_astq (j := 1) X 12 1 27 2 rfl rfl rfl rfl rfl (by decide) (by decide) d_X_init_115 ?_
  refine ev_w (w' := [(h, .inr (0, [.int key, .ref q1, .ref q2, .ref q12, .ref q3, .int 0])), (q1, .inl (ca 0, 256, .inl (fun _ => 0))), (q2, .inl (ca 0, 16, .inl (ownF 16))), (q3, .inl (ca 2, 4, rf (va_up (va_up (va_up (va_up (fun _ => none) 0 (some e0)) 1 (some e1)) 2 (some e2)) 3 (some e3)))), (e0, .inr (3, [.ref r0, .int 0, .int 0, .int 0, .int 0, .int (-1), .int 0, .int 0, .int 0])), (r0, .inl (ca 0, 8, .inl (fun _ => 0))), (e1, .inr (3, [.ref r1, .int 0, .int 0, .int 0, .int 0, .int (-1), .int 0, .int 0, .int 0])), (r1, .inl (ca 0, 8, .inl (fun _ => 0))), (e2, .inr (3, [.ref r2, .int 0, .int 0, .int 0, .int 0, .int (-1), .int 0, .int 0, .int 0])), (r2, .inl (ca 0, 8, .inl (fun _ => 0))), (e3, .inr (3, [.ref r3, .int 0, .int 0, .int 0, .int 0, .int (-1), .int 0, .int 0, .int 0])), (r3, .inl (ca 0, 8, .inl (fun _ => 0))), (q12, .inl (ca 1, 2, rf (va_up (va_up (fun _ => none) 0 (some p0)) 1 (some p1)))), (p0, .inr (2, [.ref (a0 0), .ref (a0 1), .int (-1)])), (a0 0, .inl (ca 0, 8, .inl (fun _ => 0))), (a0 1, .inl (ca 3, 11, rf (fun k => some (a0 (2 + k))))), (a0 2, G0), (a0 3, G0), (a0 4, G0), (a0 5, G0), (a0 6, G0), (a0 7, G0), (a0 8, G0), (a0 9, G0), (a0 10, G0), (a0 11, G0), (a0 12, G0), (p1, .inr (2, [.ref (a1 0), .ref (a1 1), .int (-1)])), (a1 0, .inl (ca 0, 8, .inl (fun _ => 0))), (a1 1, .inl (ca 3, 11, rf (fun k => some (a1 (2 + k))))), (a1 2, G0), (a1 3, G0), (a1 4, G0), (a1 5, G0), (a1 6, G0), (a1 7, G0), (a1 8, G0), (a1 9, G0), (a1 10, G0), (a1 11, G0), (a1 12, G0)]) rfl ?_
  refine ev_iinc (v := 2) X d_X_init_116 rfl (by decide) (by decide) ?_
  refine ev_goto (tgt := 98) X d_X_init_119 (by decide) ?_
  refine ev_iload_n X d_X_init_98 rfl ?_
  refine ev_iconst (v := 2) X d_X_init_99 (by decide) ?_
  refine ev_icmp_ge (tgt := 122) X d_X_init_100 (by decide) (fun h100 => ?_) (fun h100 => ?_)
  rotate_left
  · exact absurd h100 (by decide)
  refine ev_SM (w' := ly_w lyX 41 (adX h q1 q2 q3 e0 r0 e1 r1 e2 r2 e3 r3 q12 p0 a0 p1 a1) ca (S0 key) []) ?_ ?_
  · refine SM.cons (Or.inl rfl) ?_
    refine SM.cons (Or.inl rfl) ?_
    refine SM.cons (Or.inl rfl) ?_
    refine SM.cons (sm.arr (n := 4) ?_) ?_
    · intro k hk
      have hk : k = 0 ∨ k = 1 ∨ k = 2 ∨ k = 3 := by omega
      rcases hk with rfl | rfl | rfl | rfl <;> rfl
    refine SM.cons (Or.inl rfl) ?_
    refine SM.cons (Or.inl rfl) ?_
    refine SM.cons (Or.inl rfl) ?_
    refine SM.cons (Or.inl rfl) ?_
    refine SM.cons (Or.inl rfl) ?_
    refine SM.cons (Or.inl rfl) ?_
    refine SM.cons (Or.inl rfl) ?_
    refine SM.cons (Or.inl rfl) ?_
    refine SM.cons (sm.arr (n := 2) ?_) ?_
    · intro k hk
      have hk : k = 0 ∨ k = 1 := by omega
      rcases hk with rfl | rfl <;> rfl
    refine SM.cons (Or.inl rfl) ?_
    refine SM.cons (Or.inl rfl) ?_
    refine SM.cons (sm.arr (n := 11) ?_) ?_
    · intro k hk
      have hk : k = 0 ∨ k = 1 ∨ k = 2 ∨ k = 3 ∨ k = 4 ∨ k = 5 ∨ k = 6 ∨ k = 7 ∨ k = 8 ∨ k = 9 ∨ k = 10 := by omega
      rcases hk with rfl | rfl | rfl | rfl | rfl | rfl | rfl | rfl | rfl | rfl | rfl <;> rfl
    refine SM.cons (Or.inl rfl) ?_
    refine SM.cons (Or.inl rfl) ?_
    refine SM.cons (Or.inl rfl) ?_
    refine SM.cons (Or.inl rfl) ?_
    refine SM.cons (Or.inl rfl) ?_
    refine SM.cons (Or.inl rfl) ?_
    refine SM.cons (Or.inl rfl) ?_
    refine SM.cons (Or.inl rfl) ?_
    refine SM.cons (Or.inl rfl) ?_
    refine SM.cons (Or.inl rfl) ?_
    refine SM.cons (Or.inl rfl) ?_
    refine SM.cons (Or.inl rfl) ?_
    refine SM.cons (Or.inl rfl) ?_
    refine SM.cons (sm.arr (n := 11) ?_) ?_
    · intro k hk
      have hk : k = 0 ∨ k = 1 ∨ k = 2 ∨ k = 3 ∨ k = 4 ∨ k = 5 ∨ k = 6 ∨ k = 7 ∨ k = 8 ∨ k = 9 ∨ k = 10 := by omega
      rcases hk with rfl | rfl | rfl | rfl | rfl | rfl | rfl | rfl | rfl | rfl | rfl <;> rfl
    refine SM.cons (Or.inl rfl) ?_
    refine SM.cons (Or.inl rfl) ?_
    refine SM.cons (Or.inl rfl) ?_
    refine SM.cons (Or.inl rfl) ?_
    refine SM.cons (Or.inl rfl) ?_
    refine SM.cons (Or.inl rfl) ?_
    refine SM.cons (Or.inl rfl) ?_
    refine SM.cons (Or.inl rfl) ?_
    refine SM.cons (Or.inl rfl) ?_
    refine SM.cons (Or.inl rfl) ?_
    refine SM.cons (Or.inl rfl) ?_
    exact SM.nil
  refine ev_aload_n X d_X_init_122 rfl ?_
  refine ev_cV0 X m_X_34 (c_X_setAllGuards (Or.inl rfl) (Or.inl rfl)) lo_this rfl rfl (by decide) (by decide) d_X_init_123 rfl rfl (Nat.le_of_ble_eq_true rfl) ?_
  exact ev_vretC X hr hk d_X_init_126 ⟨_, rfl, rfl⟩
end
section
def adM (h q1 q2 q3 q4 q5 q6 q7 q8 q9 q10 q11 q12 q13 : Nat) : Nat → Nat := fun i => if i = 0 then h else if i = 1 then q1 else if i = 2 then q2 else if i = 3 then q3 else if i = 4 then q4 else if i = 5 then q5 else if i = 6 then q6 else if i = 7 then q7 else if i = 8 then q8 else if i = 9 then q9 else if i = 10 then q10 else if i = 11 then q11 else if i = 12 then q12 else q13
set_option maxHeartbeats 16000000 in
set_option maxRecDepth 100000 in
theorem c_M_init {l : Launch} {D : va_G} {ca : Nat → ClassId} {x : va_W} {h : Nat} {key : Int32} : CtCX l D ca y_M_init b_M_init 3 1 13 354 [.ref h, .int key] (x ++ [(h, .inr (4, [.int 0, .null, .null, .null, .null, .int 0, .null, .null, .null, .null, .null, .null, .null, .null, .null]))]) (fun w' => ∃ ad : Nat → Nat, ad 0 = h ∧ w' = x ++ ly_w lyM 14 ad ca (M0 key) []) := by
  refine ev_entC [some (.ref h), some (.int key), none] rfl (by decide) rfl (Nat.le_of_ble_eq_true rfl) rfl gTT (fun p e s m args below meth c A X hr hk hin hAO => ?_)
  refine ev_aload_n X d_M_init_0 rfl ?_
  refine ev_objInit X oi_M oi_m oi_c d_M_init_1 (Nat.le_of_ble_eq_true rfl) (Nat.le_of_ble_eq_true rfl) ?_
  refine ev_aload_n X d_M_init_4 rfl ?_
  refine ev_sipush (v := 256) X d_M_init_5 (by decide) ?_
  refine ev_newa (N' := 256) X ac_i rfl (by decide) (by decide) (Nat.le_of_ble_eq_true rfl) (Nat.le_of_ble_eq_true rfl) (Nat.le_of_ble_eq_true rfl) d_M_init_8 (fun q1 => ?_)
  refine ev_w (List.append_assoc _ _ _) ?_
  refine ex_putF X hin f_M_7 (fun r h => by cases h; rfl) 0 rfl rfl rfl (Nat.le_of_ble_eq_true rfl) d_M_init_10 ?_
  refine ev_w (w' := x ++ [(h, .inr (4, [.int 0, .ref q1, .null, .null, .null, .int 0, .null, .null, .null, .null, .null, .null, .null, .null, .null])), (q1, .inl (ca 0, 256, .inl (fun _ => 0)))]) rfl ?_
  refine ev_cs (cells' := 1) (slots' := 256) rfl rfl ?_
  refine ev_aload_n X d_M_init_13 rfl ?_
  refine ev_bipush (v := 16) X d_M_init_14 (by decide) ?_
  refine ev_newa (N' := 16) X ac_i rfl (by decide) (by decide) (Nat.le_of_ble_eq_true rfl) (Nat.le_of_ble_eq_true rfl) (Nat.le_of_ble_eq_true rfl) d_M_init_16 (fun q2 => ?_)
  refine ev_w (List.append_assoc _ _ _) ?_
  refine ex_putF X hin f_M_13 (fun r h => by cases h; rfl) 0 rfl rfl rfl (Nat.le_of_ble_eq_true rfl) d_M_init_18 ?_
  refine ev_w (w' := x ++ [(h, .inr (4, [.int 0, .ref q1, .ref q2, .null, .null, .int 0, .null, .null, .null, .null, .null, .null, .null, .null, .null])), (q1, .inl (ca 0, 256, .inl (fun _ => 0))), (q2, .inl (ca 0, 16, .inl (fun _ => 0)))]) rfl ?_
  refine ev_cs (cells' := 2) (slots' := 272) rfl rfl ?_
  refine ev_aload_n X d_M_init_21 rfl ?_
  refine ev_bipush (v := 16) X d_M_init_22 (by decide) ?_
  refine ev_newa (N' := 16) X ac_i rfl (by decide) (by decide) (Nat.le_of_ble_eq_true rfl) (Nat.le_of_ble_eq_true rfl) (Nat.le_of_ble_eq_true rfl) d_M_init_24 (fun q3 => ?_)
  refine ev_w (List.append_assoc _ _ _) ?_
  refine ex_putF X hin f_M_16 (fun r h => by cases h; rfl) 0 rfl rfl rfl (Nat.le_of_ble_eq_true rfl) d_M_init_26 ?_
  refine ev_w (w' := x ++ [(h, .inr (4, [.int 0, .ref q1, .ref q2, .ref q3, .null, .int 0, .null, .null, .null, .null, .null, .null, .null, .null, .null])), (q1, .inl (ca 0, 256, .inl (fun _ => 0))), (q2, .inl (ca 0, 16, .inl (fun _ => 0))), (q3, .inl (ca 0, 16, .inl (fun _ => 0)))]) rfl ?_
  refine ev_cs (cells' := 3) (slots' := 288) rfl rfl ?_
  refine ev_aload_n X d_M_init_29 rfl ?_
  refine ev_iconst (v := 2) X d_M_init_30 (by decide) ?_
  refine ev_newa (N' := 2) X ac_i rfl (by decide) (by decide) (Nat.le_of_ble_eq_true rfl) (Nat.le_of_ble_eq_true rfl) (Nat.le_of_ble_eq_true rfl) d_M_init_31 (fun q4 => ?_)
  refine ev_w (List.append_assoc _ _ _) ?_
  refine ex_putF X hin f_M_19 (fun r h => by cases h; rfl) 0 rfl rfl rfl (Nat.le_of_ble_eq_true rfl) d_M_init_33 ?_
  refine ev_w (w' := x ++ [(h, .inr (4, [.int 0, .ref q1, .ref q2, .ref q3, .ref q4, .int 0, .null, .null, .null, .null, .null, .null, .null, .null, .null])), (q1, .inl (ca 0, 256, .inl (fun _ => 0))), (q2, .inl (ca 0, 16, .inl (fun _ => 0))), (q3, .inl (ca 0, 16, .inl (fun _ => 0))), (q4, .inl (ca 0, 2, .inl (fun _ => 0)))]) rfl ?_
  refine ev_cs (cells' := 4) (slots' := 290) rfl rfl ?_
  refine ev_aload_n X d_M_init_36 rfl ?_
  refine ev_iconst (v := 4) X d_M_init_37 (by decide) ?_
  refine ev_newa (N' := 4) X ac_i rfl (by decide) (by decide) (Nat.le_of_ble_eq_true rfl) (Nat.le_of_ble_eq_true rfl) (Nat.le_of_ble_eq_true rfl) d_M_init_38 (fun q5 => ?_)
  refine ev_w (List.append_assoc _ _ _) ?_
  refine ex_putF X hin f_M_22 (fun r h => by cases h; rfl) 0 rfl rfl rfl (Nat.le_of_ble_eq_true rfl) d_M_init_40 ?_
  refine ev_w (w' := x ++ [(h, .inr (4, [.int 0, .ref q1, .ref q2, .ref q3, .ref q4, .int 0, .ref q5, .null, .null, .null, .null, .null, .null, .null, .null])), (q1, .inl (ca 0, 256, .inl (fun _ => 0))), (q2, .inl (ca 0, 16, .inl (fun _ => 0))), (q3, .inl (ca 0, 16, .inl (fun _ => 0))), (q4, .inl (ca 0, 2, .inl (fun _ => 0))), (q5, .inl (ca 0, 4, .inl (fun _ => 0)))]) rfl ?_
  refine ev_cs (cells' := 5) (slots' := 294) rfl rfl ?_
  refine ev_aload_n X d_M_init_43 rfl ?_
  refine ev_iconst (v := 4) X d_M_init_44 (by decide) ?_
  refine ev_newa (N' := 4) X ac_i rfl (by decide) (by decide) (Nat.le_of_ble_eq_true rfl) (Nat.le_of_ble_eq_true rfl) (Nat.le_of_ble_eq_true rfl) d_M_init_45 (fun q6 => ?_)
  refine ev_w (List.append_assoc _ _ _) ?_
  refine ex_putF X hin f_M_25 (fun r h => by cases h; rfl) 0 rfl rfl rfl (Nat.le_of_ble_eq_true rfl) d_M_init_47 ?_
  refine ev_w (w' := x ++ [(h, .inr (4, [.int 0, .ref q1, .ref q2, .ref q3, .ref q4, .int 0, .ref q5, .ref q6, .null, .null, .null, .null, .null, .null, .null])), (q1, .inl (ca 0, 256, .inl (fun _ => 0))), (q2, .inl (ca 0, 16, .inl (fun _ => 0))), (q3, .inl (ca 0, 16, .inl (fun _ => 0))), (q4, .inl (ca 0, 2, .inl (fun _ => 0))), (q5, .inl (ca 0, 4, .inl (fun _ => 0))), (q6, .inl (ca 0, 4, .inl (fun _ => 0)))]) rfl ?_
  refine ev_cs (cells' := 6) (slots' := 298) rfl rfl ?_
  refine ev_aload_n X d_M_init_50 rfl ?_
  refine ev_iconst (v := 4) X d_M_init_51 (by decide) ?_
  refine ev_newa (N' := 4) X ac_i rfl (by decide) (by decide) (Nat.le_of_ble_eq_true rfl) (Nat.le_of_ble_eq_true rfl) (Nat.le_of_ble_eq_true rfl) d_M_init_52 (fun q7 => ?_)
  refine ev_w (List.append_assoc _ _ _) ?_
  refine ex_putF X hin f_M_28 (fun r h => by cases h; rfl) 0 rfl rfl rfl (Nat.le_of_ble_eq_true rfl) d_M_init_54 ?_
  refine ev_w (w' := x ++ [(h, .inr (4, [.int 0, .ref q1, .ref q2, .ref q3, .ref q4, .int 0, .ref q5, .ref q6, .ref q7, .null, .null, .null, .null, .null, .null])), (q1, .inl (ca 0, 256, .inl (fun _ => 0))), (q2, .inl (ca 0, 16, .inl (fun _ => 0))), (q3, .inl (ca 0, 16, .inl (fun _ => 0))), (q4, .inl (ca 0, 2, .inl (fun _ => 0))), (q5, .inl (ca 0, 4, .inl (fun _ => 0))), (q6, .inl (ca 0, 4, .inl (fun _ => 0))), (q7, .inl (ca 0, 4, .inl (fun _ => 0)))]) rfl ?_
  refine ev_cs (cells' := 7) (slots' := 302) rfl rfl ?_
  refine ev_aload_n X d_M_init_57 rfl ?_
  refine ev_iconst (v := 4) X d_M_init_58 (by decide) ?_
  refine ev_newa (N' := 4) X ac_i rfl (by decide) (by decide) (Nat.le_of_ble_eq_true rfl) (Nat.le_of_ble_eq_true rfl) (Nat.le_of_ble_eq_true rfl) d_M_init_59 (fun q8 => ?_)
  refine ev_w (List.append_assoc _ _ _) ?_
  refine ex_putF X hin f_M_31 (fun r h => by cases h; rfl) 0 rfl rfl rfl (Nat.le_of_ble_eq_true rfl) d_M_init_61 ?_
  refine ev_w (w' := x ++ [(h, .inr (4, [.int 0, .ref q1, .ref q2, .ref q3, .ref q4, .int 0, .ref q5, .ref q6, .ref q7, .ref q8, .null, .null, .null, .null, .null])), (q1, .inl (ca 0, 256, .inl (fun _ => 0))), (q2, .inl (ca 0, 16, .inl (fun _ => 0))), (q3, .inl (ca 0, 16, .inl (fun _ => 0))), (q4, .inl (ca 0, 2, .inl (fun _ => 0))), (q5, .inl (ca 0, 4, .inl (fun _ => 0))), (q6, .inl (ca 0, 4, .inl (fun _ => 0))), (q7, .inl (ca 0, 4, .inl (fun _ => 0))), (q8, .inl (ca 0, 4, .inl (fun _ => 0)))]) rfl ?_
  refine ev_cs (cells' := 8) (slots' := 306) rfl rfl ?_
  refine ev_aload_n X d_M_init_64 rfl ?_
  refine ev_iconst (v := 4) X d_M_init_65 (by decide) ?_
  refine ev_newa (N' := 4) X ac_i rfl (by decide) (by decide) (Nat.le_of_ble_eq_true rfl) (Nat.le_of_ble_eq_true rfl) (Nat.le_of_ble_eq_true rfl) d_M_init_66 (fun q9 => ?_)
  refine ev_w (List.append_assoc _ _ _) ?_
  refine ex_putF X hin f_M_34 (fun r h => by cases h; rfl) 0 rfl rfl rfl (Nat.le_of_ble_eq_true rfl) d_M_init_68 ?_
  refine ev_w (w' := x ++ [(h, .inr (4, [.int 0, .ref q1, .ref q2, .ref q3, .ref q4, .int 0, .ref q5, .ref q6, .ref q7, .ref q8, .ref q9, .null, .null, .null, .null])), (q1, .inl (ca 0, 256, .inl (fun _ => 0))), (q2, .inl (ca 0, 16, .inl (fun _ => 0))), (q3, .inl (ca 0, 16, .inl (fun _ => 0))), (q4, .inl (ca 0, 2, .inl (fun _ => 0))), (q5, .inl (ca 0, 4, .inl (fun _ => 0))), (q6, .inl (ca 0, 4, .inl (fun _ => 0))), (q7, .inl (ca 0, 4, .inl (fun _ => 0))), (q8, .inl (ca 0, 4, .inl (fun _ => 0))), (q9, .inl (ca 0, 4, .inl (fun _ => 0)))]) rfl ?_
  refine ev_cs (cells' := 9) (slots' := 310) rfl rfl ?_
  refine ev_aload_n X d_M_init_71 rfl ?_
  refine ev_iconst (v := 4) X d_M_init_72 (by decide) ?_
  refine ev_newa (N' := 4) X ac_i rfl (by decide) (by decide) (Nat.le_of_ble_eq_true rfl) (Nat.le_of_ble_eq_true rfl) (Nat.le_of_ble_eq_true rfl) d_M_init_73 (fun q10 => ?_)
  refine ev_w (List.append_assoc _ _ _) ?_
  refine ex_putF X hin f_M_37 (fun r h => by cases h; rfl) 0 rfl rfl rfl (Nat.le_of_ble_eq_true rfl) d_M_init_75 ?_
  refine ev_w (w' := x ++ [(h, .inr (4, [.int 0, .ref q1, .ref q2, .ref q3, .ref q4, .int 0, .ref q5, .ref q6, .ref q7, .ref q8, .ref q9, .ref q10, .null, .null, .null])), (q1, .inl (ca 0, 256, .inl (fun _ => 0))), (q2, .inl (ca 0, 16, .inl (fun _ => 0))), (q3, .inl (ca 0, 16, .inl (fun _ => 0))), (q4, .inl (ca 0, 2, .inl (fun _ => 0))), (q5, .inl (ca 0, 4, .inl (fun _ => 0))), (q6, .inl (ca 0, 4, .inl (fun _ => 0))), (q7, .inl (ca 0, 4, .inl (fun _ => 0))), (q8, .inl (ca 0, 4, .inl (fun _ => 0))), (q9, .inl (ca 0, 4, .inl (fun _ => 0))), (q10, .inl (ca 0, 4, .inl (fun _ => 0)))]) rfl ?_
  refine ev_cs (cells' := 10) (slots' := 314) rfl rfl ?_
  refine ev_aload_n X d_M_init_78 rfl ?_
  refine ev_iconst (v := 4) X d_M_init_79 (by decide) ?_
  refine ev_newa (N' := 4) X ac_i rfl (by decide) (by decide) (Nat.le_of_ble_eq_true rfl) (Nat.le_of_ble_eq_true rfl) (Nat.le_of_ble_eq_true rfl) d_M_init_80 (fun q11 => ?_)
  refine ev_w (List.append_assoc _ _ _) ?_
  refine ex_putF X hin f_M_40 (fun r h => by cases h; rfl) 0 rfl rfl rfl (Nat.le_of_ble_eq_true rfl) d_M_init_82 ?_
  refine ev_w (w' := x ++ [(h, .inr (4, [.int 0, .ref q1, .ref q2, .ref q3, .ref q4, .int 0, .ref q5, .ref q6, .ref q7, .ref q8, .ref q9, .ref q10, .ref q11, .null, .null])), (q1, .inl (ca 0, 256, .inl (fun _ => 0))), (q2, .inl (ca 0, 16, .inl (fun _ => 0))), (q3, .inl (ca 0, 16, .inl (fun _ => 0))), (q4, .inl (ca 0, 2, .inl (fun _ => 0))), (q5, .inl (ca 0, 4, .inl (fun _ => 0))), (q6, .inl (ca 0, 4, .inl (fun _ => 0))), (q7, .inl (ca 0, 4, .inl (fun _ => 0))), (q8, .inl (ca 0, 4, .inl (fun _ => 0))), (q9, .inl (ca 0, 4, .inl (fun _ => 0))), (q10, .inl (ca 0, 4, .inl (fun _ => 0))), (q11, .inl (ca 0, 4, .inl (fun _ => 0)))]) rfl ?_
  refine ev_cs (cells' := 11) (slots' := 318) rfl rfl ?_
  refine ev_aload_n X d_M_init_85 rfl ?_
  refine ev_iconst (v := 4) X d_M_init_86 (by decide) ?_
  refine ev_newa (N' := 4) X ac_i rfl (by decide) (by decide) (Nat.le_of_ble_eq_true rfl) (Nat.le_of_ble_eq_true rfl) (Nat.le_of_ble_eq_true rfl) d_M_init_87 (fun q12 => ?_)
  refine ev_w (List.append_assoc _ _ _) ?_
  refine ex_putF X hin f_M_43 (fun r h => by cases h; rfl) 0 rfl rfl rfl (Nat.le_of_ble_eq_true rfl) d_M_init_89 ?_
  refine ev_w (w' := x ++ [(h, .inr (4, [.int 0, .ref q1, .ref q2, .ref q3, .ref q4, .int 0, .ref q5, .ref q6, .ref q7, .ref q8, .ref q9, .ref q10, .ref q11, .ref q12, .null])), (q1, .inl (ca 0, 256, .inl (fun _ => 0))), (q2, .inl (ca 0, 16, .inl (fun _ => 0))), (q3, .inl (ca 0, 16, .inl (fun _ => 0))), (q4, .inl (ca 0, 2, .inl (fun _ => 0))), (q5, .inl (ca 0, 4, .inl (fun _ => 0))), (q6, .inl (ca 0, 4, .inl (fun _ => 0))), (q7, .inl (ca 0, 4, .inl (fun _ => 0))), (q8, .inl (ca 0, 4, .inl (fun _ => 0))), (q9, .inl (ca 0, 4, .inl (fun _ => 0))), (q10, .inl (ca 0, 4, .inl (fun _ => 0))), (q11, .inl (ca 0, 4, .inl (fun _ => 0))), (q12, .inl (ca 0, 4, .inl (fun _ => 0)))]) rfl ?_
  refine ev_cs (cells' := 12) (slots' := 322) rfl rfl ?_
  refine ev_aload_n X d_M_init_92 rfl ?_
  refine ev_bipush (v := 32) X d_M_init_93 (by decide) ?_
  refine ev_newa (N' := 32) X ac_i rfl (by decide) (by decide) (Nat.le_of_ble_eq_true rfl) (Nat.le_of_ble_eq_true rfl) (Nat.le_of_ble_eq_true rfl) d_M_init_95 (fun q13 => ?_)
  refine ev_w (List.append_assoc _ _ _) ?_
  refine ex_putF X hin f_M_46 (fun r h => by cases h; rfl) 0 rfl rfl rfl (Nat.le_of_ble_eq_true rfl) d_M_init_97 ?_
  refine ev_w (w' := x ++ [(h, .inr (4, [.int 0, .ref q1, .ref q2, .ref q3, .ref q4, .int 0, .ref q5, .ref q6, .ref q7, .ref q8, .ref q9, .ref q10, .ref q11, .ref q12, .ref q13])), (q1, .inl (ca 0, 256, .inl (fun _ => 0))), (q2, .inl (ca 0, 16, .inl (fun _ => 0))), (q3, .inl (ca 0, 16, .inl (fun _ => 0))), (q4, .inl (ca 0, 2, .inl (fun _ => 0))), (q5, .inl (ca 0, 4, .inl (fun _ => 0))), (q6, .inl (ca 0, 4, .inl (fun _ => 0))), (q7, .inl (ca 0, 4, .inl (fun _ => 0))), (q8, .inl (ca 0, 4, .inl (fun _ => 0))), (q9, .inl (ca 0, 4, .inl (fun _ => 0))), (q10, .inl (ca 0, 4, .inl (fun _ => 0))), (q11, .inl (ca 0, 4, .inl (fun _ => 0))), (q12, .inl (ca 0, 4, .inl (fun _ => 0))), (q13, .inl (ca 0, 32, .inl (fun _ => 0)))]) rfl ?_
  refine ev_cs (cells' := 13) (slots' := 354) rfl rfl ?_
  refine ev_aload_n X d_M_init_100 rfl ?_
  refine ev_iload_n X d_M_init_101 rfl ?_
  refine ex_putF X hin f_M_49 (fun r h => by cases h; rfl) 0 rfl rfl rfl (Nat.le_of_ble_eq_true rfl) d_M_init_102 ?_
  refine ev_w (w' := x ++ [(h, .inr (4, [.int key, .ref q1, .ref q2, .ref q3, .ref q4, .int 0, .ref q5, .ref q6, .ref q7, .ref q8, .ref q9, .ref q10, .ref q11, .ref q12, .ref q13])), (q1, .inl (ca 0, 256, .inl (fun _ => 0))), (q2, .inl (ca 0, 16, .inl (ownF 0))), (q3, .inl (ca 0, 16, .inl (fun _ => 0))), (q4, .inl (ca 0, 2, .inl (fun _ => 0))), (q5, .inl (ca 0, 4, .inl (fun _ => 0))), (q6, .inl (ca 0, 4, .inl (fun _ => 0))), (q7, .inl (ca 0, 4, .inl (fun _ => 0))), (q8, .inl (ca 0, 4, .inl (fun _ => 0))), (q9, .inl (ca 0, 4, .inl (fun _ => 0))), (q10, .inl (ca 0, 4, .inl (fun _ => 0))), (q11, .inl (ca 0, 4, .inl (fun _ => 0))), (q12, .inl (ca 0, 4, .inl (fun _ => 0))), (q13, .inl (ca 0, 32, .inl (fun _ => 0)))]) (by rw [← ownF_0]; rfl) ?_
  refine ev_iconst (v := 0) X d_M_init_105 (by decide) ?_
  refine ev_istore_n X d_M_init_106 (by decide) ?_
  have loop : EV p l e (rmc 1 13 354) s m args below meth c 13 354 (MQ below (QC clX D A (fun w' => ∃ ad : Nat → Nat, ad 0 = h ∧ w' = x ++ ly_w lyM 14 ad ca (M0 key) [])) args s 13 354 A) 3 D clX A s.heap (x ++ [(h, .inr (4, [.int key, .ref q1, .ref q2, .ref q3, .ref q4, .int 0, .ref q5, .ref q6, .ref q7, .ref q8, .ref q9, .ref q10, .ref q11, .ref q12, .ref q13])), (q1, .inl (ca 0, 256, .inl (fun _ => 0))), (q2, .inl (ca 0, 16, .inl (ownF 16))), (q3, .inl (ca 0, 16, .inl (fun _ => 0))), (q4, .inl (ca 0, 2, .inl (fun _ => 0))), (q5, .inl (ca 0, 4, .inl (fun _ => 0))), (q6, .inl (ca 0, 4, .inl (fun _ => 0))), (q7, .inl (ca 0, 4, .inl (fun _ => 0))), (q8, .inl (ca 0, 4, .inl (fun _ => 0))), (q9, .inl (ca 0, 4, .inl (fun _ => 0))), (q10, .inl (ca 0, 4, .inl (fun _ => 0))), (q11, .inl (ca 0, 4, .inl (fun _ => 0))), (q12, .inl (ca 0, 4, .inl (fun _ => 0))), (q13, .inl (ca 0, 32, .inl (fun _ => 0)))]) 134 [some (.ref h), some (.int key), some (.int (nI 16))] [] → ∀ (r k : Nat), k + r = 16 → EV p l e (rmc 1 13 354) s m args below meth c 13 354 (MQ below (QC clX D A (fun w' => ∃ ad : Nat → Nat, ad 0 = h ∧ w' = x ++ ly_w lyM 14 ad ca (M0 key) [])) args s 13 354 A) 3 D clX A s.heap (x ++ [(h, .inr (4, [.int key, .ref q1, .ref q2, .ref q3, .ref q4, .int 0, .ref q5, .ref q6, .ref q7, .ref q8, .ref q9, .ref q10, .ref q11, .ref q12, .ref q13])), (q1, .inl (ca 0, 256, .inl (fun _ => 0))), (q2, .inl (ca 0, 16, .inl (ownF k))), (q3, .inl (ca 0, 16, .inl (fun _ => 0))), (q4, .inl (ca 0, 2, .inl (fun _ => 0))), (q5, .inl (ca 0, 4, .inl (fun _ => 0))), (q6, .inl (ca 0, 4, .inl (fun _ => 0))), (q7, .inl (ca 0, 4, .inl (fun _ => 0))), (q8, .inl (ca 0, 4, .inl (fun _ => 0))), (q9, .inl (ca 0, 4, .inl (fun _ => 0))), (q10, .inl (ca 0, 4, .inl (fun _ => 0))), (q11, .inl (ca 0, 4, .inl (fun _ => 0))), (q12, .inl (ca 0, 4, .inl (fun _ => 0))), (q13, .inl (ca 0, 32, .inl (fun _ => 0)))]) 107 [some (.ref h), some (.int key), some (.int (nI k))] [] := by
    intro go r
    induction r with
    | zero =>
      intro k q1'
      have e16 : k = 16 := by omega
      subst e16
      refine ev_iload_n X d_M_init_107 rfl ?_
      refine ev_bipush (v := 16) X d_M_init_108 (by decide) ?_
      refine ev_icmp_ge (tgt := 134) X d_M_init_110 (by decide) (fun h38 => ?_) (fun h38 => ?_)
      · exact go
      · exact absurd (by decide) h38
    | succ r ih =>
      intro k q1'
      refine ev_iload_n X d_M_init_107 rfl ?_
      refine ev_bipush (v := 16) X d_M_init_108 (by decide) ?_
      refine ev_icmp_ge (tgt := 134) X d_M_init_110 (by decide) (fun h38 => ?_) (fun h38 => ?_)
      · exact absurd h38 (nI_ge (b := 16) (by omega) (by decide))
      · refine ev_aload_n X d_M_init_113 rfl ?_
        refine ex_get X f_M_13 0 rfl rfl d_M_init_114 ?_
        refine ev_iload_n X d_M_init_117 rfl ?_
        refine ev_iload_n X d_M_init_118 rfl ?_
        have nx : ∀ v : Int32, ((1 ≤ k ∧ v = 1) ∨ (k = 0 ∧ v = 0)) → EV p l e (rmc 1 13 354) s m args below meth c 13 354 (MQ below (QC clX D A (fun w' => ∃ ad : Nat → Nat, ad 0 = h ∧ w' = x ++ ly_w lyM 14 ad ca (M0 key) [])) args s 13 354 A) 3 D clX A s.heap (x ++ [(h, .inr (4, [.int key, .ref q1, .ref q2, .ref q3, .ref q4, .int 0, .ref q5, .ref q6, .ref q7, .ref q8, .ref q9, .ref q10, .ref q11, .ref q12, .ref q13])), (q1, .inl (ca 0, 256, .inl (fun _ => 0))), (q2, .inl (ca 0, 16, .inl (ownF k))), (q3, .inl (ca 0, 16, .inl (fun _ => 0))), (q4, .inl (ca 0, 2, .inl (fun _ => 0))), (q5, .inl (ca 0, 4, .inl (fun _ => 0))), (q6, .inl (ca 0, 4, .inl (fun _ => 0))), (q7, .inl (ca 0, 4, .inl (fun _ => 0))), (q8, .inl (ca 0, 4, .inl (fun _ => 0))), (q9, .inl (ca 0, 4, .inl (fun _ => 0))), (q10, .inl (ca 0, 4, .inl (fun _ => 0))), (q11, .inl (ca 0, 4, .inl (fun _ => 0))), (q12, .inl (ca 0, 4, .inl (fun _ => 0))), (q13, .inl (ca 0, 32, .inl (fun _ => 0)))]) 127 [some (.ref h), some (.int key), some (.int (nI k))] [.int v, .int (nI k), .ref q2] := by
          intro v hv
          refine ex_iast (j := k) X 2 rfl rfl rfl (by omega) (by decide) d_M_init_127 ?_
          refine ev_w (w' := x ++ [(h, .inr (4, [.int key, .ref q1, .ref q2, .ref q3, .ref q4, .int 0, .ref q5, .ref q6, .ref q7, .ref q8, .ref q9, .ref q10, .ref q11, .ref q12, .ref q13])), (q1, .inl (ca 0, 256, .inl (fun _ => 0))), (q2, .inl (ca 0, 16, .inl (ownF (k + 1)))), (q3, .inl (ca 0, 16, .inl (fun _ => 0))), (q4, .inl (ca 0, 2, .inl (fun _ => 0))), (q5, .inl (ca 0, 4, .inl (fun _ => 0))), (q6, .inl (ca 0, 4, .inl (fun _ => 0))), (q7, .inl (ca 0, 4, .inl (fun _ => 0))), (q8, .inl (ca 0, 4, .inl (fun _ => 0))), (q9, .inl (ca 0, 4, .inl (fun _ => 0))), (q10, .inl (ca 0, 4, .inl (fun _ => 0))), (q11, .inl (ca 0, 4, .inl (fun _ => 0))), (q12, .inl (ca 0, 4, .inl (fun _ => 0))), (q13, .inl (ca 0, 32, .inl (fun _ => 0)))]) (by rw [← ownF_up hv]; rfl) ?_
          refine ev_iinc (v := nI (k + 1)) X d_M_init_128 rfl (nI_1 k) (by decide) ?_
          refine ev_goto (tgt := 107) X d_M_init_131 (by decide) ?_
          exact ih (k + 1) (by omega)
        refine ev_if_ne (tgt := 126) X d_M_init_119 (by decide) (fun h119 => ?_) (fun h119 => ?_)
        · refine ev_iconst (v := 1) X d_M_init_126 (by decide) ?_
          exact nx 1 (Or.inl ⟨by have := nI_nz h119; omega, rfl⟩)
        · refine ev_iconst (v := 0) X d_M_init_122 (by decide) ?_
          refine ev_goto (tgt := 127) X d_M_init_123 (by decide) ?_
          exact nx 0 (Or.inr ⟨nI_z h119 (by omega), rfl⟩)
  refine loop ?_ 16 0 rfl
  refine ev_aload_n X d_M_init_134 rfl ?_
  refine ex_get X f_M_19 0 rfl rfl d_M_init_135 ?_
  refine ev_iconst (v := 0) X d_M_init_138 (by decide) ?_
  refine ev_iconst (v := (-1)) X d_M_init_139 (by decide) ?_
  refine ex_iast (j := 0) X 4 rfl rfl rfl (by decide) (by decide) d_M_init_140 ?_
  refine ev_aload_n X d_M_init_141 rfl ?_
  refine ex_get X f_M_19 0 rfl rfl d_M_init_142 ?_
  refine ev_iconst (v := 1) X d_M_init_145 (by decide) ?_
  refine ev_iconst (v := (-1)) X d_M_init_146 (by decide) ?_
  refine ex_iast (j := 1) X 4 rfl rfl rfl (by decide) (by decide) d_M_init_147 ?_
  refine ev_w (w' := x ++ ly_w lyM 14 (adM h q1 q2 q3 q4 q5 q6 q7 q8 q9 q10 q11 q12 q13) ca (M0 key) []) rfl ?_
  exact ev_vretC X hr hk d_M_init_148 ⟨_, rfl, rfl⟩
end
section
-- ===== the guards as a function of the rest =====
def tri (j : Nat) (a b c : Int32) : Int32 := if j = 0 then a else if j = 1 then b else c
theorem sG_at {S : St} {i j : Nat} {m r a : Int32} (hj : j < 3) : sG S i m r a i j = tri j m r a := by
  unfold sG tri
  rw [up2_at, up2_at, up2_at]
  have : j = 0 ∨ j = 1 ∨ j = 2 := by omega
  rcases this with rfl | rfl | rfl <;> simp
theorem sB_at {S : St} {i j : Nat} {f w r : Int32} (hj : j < 3) : sB S i f w r i j = tri j 3 r (f + w / 2 - 1) := sG_at hj
/-- the lower and the upper guard of an enclave, from its state, first page, pages -/
def gLo (t f n : Int32) (j : Nat) : Int32 := if t = 0 then 0 else if blkS f n = true then 0 else tri j 0 0 (f * 16)
def gUp (t f n r : Int32) (j : Nat) : Int32 := if t = 0 then 0 else if blkS f n = true then tri j 3 r (f * 16 + ((f + n) * 16 - f * 16) / 2 - 1) else tri j 1 r ((f + n) * 16)
def gSh (v : Int32) (j : Nat) : Int32 := if v = -1 then 0 else if 256 ≤ v then tri j 3 3 ((v - 256) * 16 + 16 / 2 - 1) else tri j 2 3 v
theorem tri0 (j : Nat) : tri j 0 0 0 = 0 := by
  unfold tri
  split
  · rfl
  · split <;> rfl
theorem sEG_lo {S : St} {i lo up j : Nat} {r : Int32} (h : lo ≠ up) (hj : j < 3) : sEG S i lo up r lo j = gLo (S i 1) (S i 2) (S i 3) j := by
  unfold sEG gLo
  split
  · rw [sG_ne h, sG_at hj, tri0]
  · split
    · rw [sB_ne h, sG_at hj, tri0]
    · rw [sG_ne h, sG_at hj]
theorem sEG_up {S : St} {i lo up j : Nat} {r : Int32} (h1 : i ≠ lo) (hj : j < 3) : sEG S i lo up r up j = gUp (S i 1) (S i 2) (S i 3) r j := by
  unfold sEG gUp
  split
  · rw [sG_at hj, tri0]
  · split
    · rw [sB_at hj, sG_ne h1]
    · rw [sG_at hj, sG_ne h1]
theorem gLoop4 (i : Nat) (S : St) : gLoop i 4 0 S = sGe (sGe (sGe (sGe S i 0) i 1) i 2) i 3 := rfl
/-- a guard by its place, of the processor whose cell is i -/
def gsp (S : St) (i k j : Nat) : Int32 :=
  if k = 0 then tri j 3 0 7 else if k = 10 then tri j 3 (if S i 2 = -1 then 7 else 0) 127 else if k = 9 then gSh (shV S i) j
  else if k % 2 = 1 then gLo (S (4 + 2 * ((k - 1) / 2)) 1) (S (4 + 2 * ((k - 1) / 2)) 2) (S (4 + 2 * ((k - 1) / 2)) 3) j
  else gUp (S (4 + 2 * ((k - 1) / 2)) 1) (S (4 + 2 * ((k - 1) / 2)) 2) (S (4 + 2 * ((k - 1) / 2)) 3) (if S i 2 = nI ((k - 1) / 2) then 7 else 0) j
theorem sGe_lo {T : St} {i e j : Nat} (hi : 13 ≤ i) (he : e < 4) (hj : j < 3) : sGe T i e (i + 3 + 1 * (1 + 2 * e)) j = gLo (T (4 + 2 * e) 1) (T (4 + 2 * e) 2) (T (4 + 2 * e) 3) j := sEG_lo (by omega) hj
theorem sGe_up {T : St} {i e j : Nat} (hi : 13 ≤ i) (he : e < 4) (hj : j < 3) : sGe T i e (i + 3 + 1 * (2 + 2 * e)) j = gUp (T (4 + 2 * e) 1) (T (4 + 2 * e) 2) (T (4 + 2 * e) 3) (if T i 2 = nI e then 7 else 0) j := sEG_up (by omega) hj
theorem sGe_oth {T : St} {i e c : Nat} (h1 : c ≠ i + 3 + 1 * (1 + 2 * e)) (h2 : c ≠ i + 3 + 1 * (2 + 2 * e)) : sGe T i e c = T c := sEG_ne h1 h2
/-- a chain of them, read at a guard -/
theorem gch_lo {S : St} {i j : Nat} (hi : 13 ≤ i) (hj : j < 3) : ∀ e, e < 4 → gLoop i 4 0 S (i + 3 + 1 * (1 + 2 * e)) j = gLo (S (4 + 2 * e) 1) (S (4 + 2 * e) 2) (S (4 + 2 * e) 3) j := by
  intro e he
  have h : e = 0 ∨ e = 1 ∨ e = 2 ∨ e = 3 := by omega
  rw [gLoop4]
  rcases h with rfl | rfl | rfl | rfl
  · rw [sGe_oth (by omega) (by omega), sGe_oth (by omega) (by omega), sGe_oth (by omega) (by omega), sGe_lo hi (by omega) hj]
  · rw [sGe_oth (by omega) (by omega), sGe_oth (by omega) (by omega), sGe_lo hi (by omega) hj, sGe_oth (c := 4 + 2 * 1) (by omega) (by omega)]
  · rw [sGe_oth (by omega) (by omega), sGe_lo hi (by omega) hj, sGe_oth (c := 4 + 2 * 2) (by omega) (by omega), sGe_oth (c := 4 + 2 * 2) (by omega) (by omega)]
  · rw [sGe_lo hi (by omega) hj, sGe_oth (c := 4 + 2 * 3) (by omega) (by omega), sGe_oth (c := 4 + 2 * 3) (by omega) (by omega), sGe_oth (c := 4 + 2 * 3) (by omega) (by omega)]
theorem gch_up {S : St} {i j : Nat} (hi : 13 ≤ i) (hj : j < 3) : ∀ e, e < 4 → gLoop i 4 0 S (i + 3 + 1 * (2 + 2 * e)) j = gUp (S (4 + 2 * e) 1) (S (4 + 2 * e) 2) (S (4 + 2 * e) 3) (if S i 2 = nI e then 7 else 0) j := by
  intro e he
  have h : e = 0 ∨ e = 1 ∨ e = 2 ∨ e = 3 := by omega
  rw [gLoop4]
  rcases h with rfl | rfl | rfl | rfl
  · rw [sGe_oth (by omega) (by omega), sGe_oth (by omega) (by omega), sGe_oth (by omega) (by omega), sGe_up hi (by omega) hj]
  · rw [sGe_oth (by omega) (by omega), sGe_oth (by omega) (by omega), sGe_up hi (by omega) hj, sGe_oth (c := 4 + 2 * 1) (by omega) (by omega), sGe_oth (c := i) (by omega) (by omega)]
  · rw [sGe_oth (by omega) (by omega), sGe_up hi (by omega) hj, sGe_oth (c := 4 + 2 * 2) (by omega) (by omega), sGe_oth (c := 4 + 2 * 2) (by omega) (by omega), sGe_oth (c := i) (by omega) (by omega), sGe_oth (c := i) (by omega) (by omega)]
  · rw [sGe_up hi (by omega) hj, sGe_oth (c := 4 + 2 * 3) (by omega) (by omega), sGe_oth (c := 4 + 2 * 3) (by omega) (by omega), sGe_oth (c := 4 + 2 * 3) (by omega) (by omega), sGe_oth (c := i) (by omega) (by omega), sGe_oth (c := i) (by omega) (by omega), sGe_oth (c := i) (by omega) (by omega)]
theorem gch_0 {S : St} {i : Nat} : gLoop i 4 0 S (i + 3 + 1 * 0) = S (i + 3 + 1 * 0) := by
  rw [gLoop4, sGe_oth (by omega) (by omega), sGe_oth (by omega) (by omega), sGe_oth (by omega) (by omega), sGe_oth (by omega) (by omega)]
theorem sSh_9 {S : St} {i j : Nat} (hj : j < 3) : sSh S i (i + 3 + 1 * 9) j = gSh (shV S i) j := by
  unfold sSh gSh
  split
  · rw [sG_at hj, tri0]
  · split
    · rw [sB_at hj]
    · rw [sG_at hj]
theorem sSh_oth {S : St} {i c : Nat} (h : c ≠ i + 3 + 1 * 9) : sSh S i c = S c := by
  unfold sSh
  split
  · exact sG_ne h
  · split
    · exact sB_ne h
    · exact sG_ne h
theorem e7 : (0 : Int32) + 16 / 2 - 1 = 7 := by decide
theorem e127 : (0 : Int32) + 256 / 2 - 1 = 127 := by decide
theorem shV_congr {S T : St} {i : Nat} (h1 : T i 2 = S i 2) (h2 : ∀ e, e < 4 → T (4 + 2 * e) 5 = S (4 + 2 * e) 5) (hp : PeOK S i) : shV T i = shV S i := by
  unfold shV
  rw [h1]
  by_cases h : S i 2 = -1
  · rw [if_pos h, if_pos h]
  · rw [if_neg h, if_neg h]
    exact h2 _ (inr_j (k := 4) rfl (by decide) (hp.resolve_left h))
/-- after sGs the guards are what gsp says of the rest -/
theorem sGs_gsp {S : St} {i : Nat} (hi : 13 ≤ i) (hp : PeOK S i) : ∀ k, k < 11 → ∀ j, j < 3 → sGs S i (i + 3 + 1 * k) j = gsp S i k j := by
  intro k hk j hj
  have hA : ∀ c, c < i + 3 → gLoop i 4 0 (sB S (i + 3 + 1 * 0) 0 16 0) c = S c := fun c hc => by
    rw [gLoop_ne (Or.inl hc) 4 0 _ (by omega), sB_ne (by omega)]
  have hB : ∀ c, c < i + 3 → sB S (i + 3 + 1 * 0) 0 16 0 c = S c := fun c hc => sB_ne (by omega)
  unfold sGs gsp
  by_cases h10 : k = 10
  · subst h10
    rw [sB_at hj, e127, sSh_oth (c := i) (by omega), hA i (by omega)]
    simp
  · rw [sB_ne (by omega)]
    by_cases h9 : k = 9
    · subst h9
      rw [sSh_9 hj, shV_congr (S := S) (by rw [hA i (by omega)]) (fun e he => by rw [hA _ (by omega)]) hp]
      simp
    · rw [sSh_oth (by omega)]
      by_cases h0 : k = 0
      · subst h0
        rw [gch_0, sB_at hj, e7]
        simp
      · rw [if_neg h0, if_neg h10, if_neg h9]
        by_cases hm : k % 2 = 1
        · rw [if_pos hm]
          have hk2 : k = 1 + 2 * ((k - 1) / 2) := by omega
          have := gch_lo (S := sB S (i + 3 + 1 * 0) 0 16 0) hi hj ((k - 1) / 2) (by omega)
          rw [← hk2] at this
          rw [this, hB _ (by omega)]
        · rw [if_neg hm]
          have hk2 : k = 2 + 2 * ((k - 1) / 2) := by omega
          have := gch_up (S := sB S (i + 3 + 1 * 0) 0 16 0) hi hj ((k - 1) / 2) (by omega)
          rw [← hk2] at this
          rw [this, hB _ (by omega), hB i (by omega)]
end
section
-- ===== finite facts about guards =====
theorem gm0 (a z b : Int32) : gmS 0 a z b = false := by
  unfold gmS
  rw [if_neg (by decide), if_neg (by decide), if_neg (by decide)]
theorem gm3 (a z b b' : Int32) : gmS 3 a z b = gmS 3 a z b' := by
  have h1 : ¬ (3 : Int32) = 1 := by decide
  have h2 : ¬ (3 : Int32) = 2 := by decide
  simp [gmS, h1, h2]
theorem gm2 (a z b : Int32) : gmS 2 a z b = decide (z = a) := by
  unfold gmS
  rw [if_neg (by decide), if_pos rfl]
theorem gm1 (a z b : Int32) : gmS 1 a z b = (!decide (z < b) && !decide (a ≤ z)) := by
  unfold gmS
  rw [if_pos rfl]
theorem all_of {n : Nat} {P : Nat → Bool} (h : (List.range n).all P = true) : ∀ k, k < n → P k = true := fun k hk => List.all_eq_true.mp h k (List.mem_range.mpr hk)
def bAd (f n : Int32) : Int32 := f * 16 + ((f + n) * 16 - f * 16) / 2 - 1
def blkT (f n : Nat) : Bool := !blkS (nI f) (nI n) || (decide (n = 0) || (decide (16 < f + n) || (List.range 256).all fun x => gmS 3 (bAd (nI f) (nI n)) (nI x) 0 == (decide (16 * f ≤ x) && decide (x < 16 * (f + n)))))
theorem blk_all : ((List.range 16).all fun f => (List.range 9).all fun n => blkT f n) = true := by decide +kernel
theorem blk_gm {f n x : Nat} (hf : f < 16) (hn1 : 1 ≤ n) (hn : n < 9) (hfn : f + n ≤ 16) (hx : x < 256) (hb : blkS (nI f) (nI n) = true) (b : Int32) : gmS 3 (bAd (nI f) (nI n)) (nI x) b = (decide (16 * f ≤ x) && decide (x < 16 * (f + n))) := by
  rw [gm3 _ _ _ 0]
  have h := all_of (all_of blk_all f hf) n hn
  unfold blkT at h
  rw [hb, decide_eq_false (show ¬ n = 0 by omega), decide_eq_false (show ¬ 16 < f + n by omega)] at h
  simp only [Bool.not_true, Bool.false_or] at h
  exact beq_iff_eq.mp (all_of h x hx)
theorem g0_all : ((List.range 256).all fun x => gmS 3 7 (nI x) 0 == decide (x < 16)) = true := by decide +kernel
theorem g0_gm {x : Nat} (hx : x < 256) (b : Int32) : gmS 3 7 (nI x) b = decide (x < 16) := by
  rw [gm3 _ _ _ 0]
  exact beq_iff_eq.mp (all_of g0_all x hx)
theorem g10_all : ((List.range 256).all fun x => gmS 3 127 (nI x) 0) = true := by decide +kernel
theorem g10_gm {x : Nat} (hx : x < 256) (b : Int32) : gmS 3 127 (nI x) b = true := by
  rw [gm3 _ _ _ 0]
  exact all_of g10_all x hx
def shAd (v : Int32) : Int32 := (v - 256) * 16 + 16 / 2 - 1
theorem gsh_all : ((List.range 16).all fun t => (List.range 256).all fun x => gmS 3 (shAd (nI (256 + t))) (nI x) 0 == decide (x / 16 = t)) = true := by decide +kernel
theorem gsh_gm {t x : Nat} (ht : t < 16) (hx : x < 256) (b : Int32) : gmS 3 (shAd (nI (256 + t))) (nI x) b = decide (x / 16 = t) := by
  rw [gm3 _ _ _ 0]
  exact beq_iff_eq.mp (all_of (all_of gsh_all t ht) x hx)
theorem rng_gm {f n x : Nat} (hfn : f + n ≤ 16) (hx : x < 256) : gmS 1 ((nI f + nI n) * 16) (nI x) (nI f * 16) = (decide (16 * f ≤ x) && decide (x < 16 * (f + n))) := by
  rw [gm1, nI_add, w16, w16]
  have h1 : (!decide (nI x < nI (16 * f))) = decide (16 * f ≤ x) := by
    by_cases h : 16 * f ≤ x
    · rw [decide_eq_true h, decide_eq_false (nI_nlt h (by omega))]; rfl
    · rw [decide_eq_false h, decide_eq_true (nI_lt (by omega) (by omega))]; rfl
  have h2 : (!decide (nI (16 * (f + n)) ≤ nI x)) = decide (x < 16 * (f + n)) := by
    by_cases h : x < 16 * (f + n)
    · rw [decide_eq_true h, decide_eq_false (nI_ge h (by omega))]; rfl
    · rw [decide_eq_false h, decide_eq_true (nI_le (by omega) (by omega))]; rfl
  rw [h1, h2]
/-- the pair of an enclave's guards matches just its words -/
def inE (t : Int32) (f n x : Nat) : Bool := !decide (t = 0) && (decide (16 * f ≤ x) && decide (x < 16 * (f + n)))
theorem up_gm {t : Int32} {f n x : Nat} {r : Int32} (hf : f < 16) (hn1 : 1 ≤ n) (hn : n < 9) (hfn : f + n ≤ 16) (hx : x < 256) : gmS (gUp t (nI f) (nI n) r 0) (gUp t (nI f) (nI n) r 2) (nI x) (gLo t (nI f) (nI n) 2) = inE t f n x := by
  unfold gUp gLo inE
  by_cases ht : t = 0
  · rw [if_pos ht, if_pos ht, if_pos ht, gm0, decide_eq_true ht]; rfl
  · rw [if_neg ht, if_neg ht, if_neg ht, decide_eq_false ht]
    by_cases hb : blkS (nI f) (nI n) = true
    · rw [if_pos hb, if_pos hb, if_pos hb]
      exact (blk_gm hf hn1 hn hfn hx hb 0).trans rfl
    · rw [if_neg hb, if_neg hb, if_neg hb]
      exact (rng_gm hfn hx).trans rfl
theorem up_gm0 {t f n r z b : Int32} (ht : t = 0) : gmS (gUp t f n r 0) (gUp t f n r 2) z b = false := by
  unfold gUp
  rw [if_pos ht, if_pos ht, gm0]
theorem lo_gm {t f n z b : Int32} : gmS (gLo t f n 0) (gLo t f n 2) z b = false := by
  unfold gLo
  by_cases ht : t = 0
  · rw [if_pos ht, if_pos ht, gm0]
  · rw [if_neg ht, if_neg ht]
    by_cases hb : blkS f n = true
    · rw [if_pos hb, if_pos hb, gm0]
    · rw [if_neg hb, if_neg hb]
      exact gm0 _ _ _
theorem up_r {t f n r : Int32} (ht : ¬ t = 0) : gUp t f n r 1 = r := by
  unfold gUp
  rw [if_neg ht]
  split <;> rfl
/-- the shared guard -/
def shX (v : Int32) (x : Nat) : Bool := !decide (v < 0) && (if 256 ≤ v then decide (nI x / 16 = v - 256) else decide (nI x = v))
theorem sh_gm {v : Int32} {x : Nat} {b : Int32} (hv : shS v = true) (hx : x < 256) : gmS (gSh v 0) (gSh v 2) (nI x) b = shX v x := by
  unfold gSh shX
  by_cases h1 : v = -1
  · rw [if_pos h1, if_pos h1, gm0, h1]
    rfl
  · obtain ⟨k, hk, rfl⟩ := shS_ex hv h1
    rw [if_neg h1, if_neg h1, decide_eq_false (nI_pos (by omega))]
    by_cases h2 : k < 256
    · have h3 : ¬ (256 : Int32) ≤ nI k := nI_ge (b := 256) h2 (by decide)
      rw [if_neg h3, if_neg h3, if_neg h3]
      exact (gm2 _ _ _).trans rfl
    · have h3 : (256 : Int32) ≤ nI k := nI_le (a := 256) (by omega) (by omega)
      rw [if_pos h3, if_pos h3, if_pos h3]
      have hk2 : k = 256 + (k - 256) := by omega
      have := gsh_gm (t := k - 256) (x := x) (by omega) hx b
      rw [← hk2] at this
      refine this.trans ?_
      have e1 : nI x / 16 = nI (x / 16) := n16 (by omega)
      have e2 : nI k - 256 = nI (k - 256) := pk_sub (b := 256) (by omega)
      rw [e1, e2]
      simp only [Bool.not_false, Bool.true_and]
      by_cases h4 : x / 16 = k - 256
      · rw [decide_eq_true h4, decide_eq_true (by rw [h4])]
      · rw [decide_eq_false h4, decide_eq_false (fun q => h4 ((nI_eq (by omega) (by omega)).mp q))]
theorem sh_r {v : Int32} (h : ¬ v = -1) : gSh v 1 = 3 := by
  unfold gSh
  rw [if_neg h]
  split <;> rfl
theorem shX_m1 (x : Nat) : shX (-1) x = false := rfl
end
section
-- ===== the relation between the class's ints and the reference's =====
def fE (S : St) (e : Nat) : Nat := (S (4 + 2 * e) 2).toNatClampNeg
def nE (S : St) (e : Nat) : Nat := (S (4 + 2 * e) 3).toNatClampNeg
def EnI (S : St) (e : Nat) : Prop := S (4 + 2 * e) 2 = nI (fE S e) ∧ S (4 + 2 * e) 3 = nI (nE S e) ∧ 1 ≤ nE S e ∧ nE S e < 9 ∧ fE S e + nE S e ≤ 16 ∧ shS (S (4 + 2 * e) 5) = true
/-- processors: what runs on them -/
def InvP (S : St) : Prop := (∀ p, p < 2 → S (13 + 14 * p) 2 = -1 ∨ ∃ e, e < 4 ∧ S (13 + 14 * p) 2 = nI e ∧ S (4 + 2 * e) 1 = 2) ∧ (S 13 2 = S 27 2 → S 13 2 = -1)
/-- enclaves -/
def InvE (S : St) : Prop := (∀ e, e < 4 → ¬ S (4 + 2 * e) 1 = 0 → EnI S e) ∧ (∀ e, e < 4 → ∃ t, t < 6 ∧ S (4 + 2 * e) 1 = nI t)
/-- owners -/
def InvO (S : St) : Prop := S 2 0 = 0 ∧ (∀ g, 1 ≤ g → g < 16 → S 2 g = 1 ∨ ∃ e, e < 4 ∧ S 2 g = nI (2 + e)) ∧ (∀ e, e < 4 → ∀ g, g < 16 → (S 2 g = nI (2 + e) ↔ (¬ S (4 + 2 * e) 1 = 0 ∧ fE S e ≤ g ∧ g < fE S e + nE S e)))
/-- guards -/
def InvG (S : St) : Prop := ∀ p, p < 2 → ∀ k, k < 11 → ∀ j, j < 3 → S (13 + 14 * p + 3 + 1 * k) j = gsp S (13 + 14 * p) k j
def REn (S M : St) (e : Nat) : Prop := S (4 + 2 * e) 1 = M 5 e ∧ (¬ M 5 e = 0 → S (4 + 2 * e) 2 = M 6 e ∧ S (4 + 2 * e) 3 = M 7 e ∧ S (4 + 2 * e) 4 = M 8 e ∧ S (4 + 2 * e) 5 = M 9 e ∧ S (4 + 2 * e) 6 = M 10 e) ∧ S (4 + 2 * e) 8 = M 11 e ∧
  (M 5 e = 2 ∨ M 5 e = 3 → S (4 + 2 * e) 7 = M 12 e ∧ ∀ k, k < 8 → S (4 + 2 * e + 1) k = M 13 (8 * e + k))
def RelD (S M : St) : Prop := S 0 0 = M 0 0 ∧ S 0 5 = M 0 5 ∧ (∀ a, a < 256 → S 1 a = M 1 a) ∧ (∀ g, g < 16 → S 2 g = M 2 g) ∧ (∀ p, p < 2 → ∀ k, k < 8 → S (13 + 14 * p + 1) k = M 3 (8 * p + k)) ∧ (∀ e, e < 4 → REn S M e)
def Rel (S M : St) : Prop := RelD S M ∧ (∀ p, p < 2 → S (13 + 14 * p) 2 = M 4 p) ∧ InvP S ∧ InvE S ∧ InvO S ∧ InvG S
theorem InvP.ok {S : St} (h : InvP S) : ∀ k, k < 2 → PeOK S (13 + 14 * k) := by
  intro k hk
  rcases h.1 k hk with h1 | ⟨e, he, h1, -⟩
  · exact Or.inl h1
  · exact Or.inr (by rw [h1]; exact inr_nI (k := 4) he (by decide))
theorem InvE.ok {S : St} (h : InvE S) : ∀ k, k < 4 → ¬ S (4 + 2 * k) 1 = 0 → EnOK S (4 + 2 * k) := by
  intro k hk h0
  obtain ⟨h1, h2, -, -, h3, -⟩ := h.1 k hk h0
  exact ⟨h1, h2, h3⟩
-- ===== may an access be made: both say the same =====
theorem pair_gm {S : St} {e x : Nat} {r : Int32} (hI : InvE S) (he : e < 4) (hx : x < 256) : gmS (gUp (S (4 + 2 * e) 1) (S (4 + 2 * e) 2) (S (4 + 2 * e) 3) r 0) (gUp (S (4 + 2 * e) 1) (S (4 + 2 * e) 2) (S (4 + 2 * e) 3) r 2) (nI x) (gLo (S (4 + 2 * e) 1) (S (4 + 2 * e) 2) (S (4 + 2 * e) 3) 2) = inE (S (4 + 2 * e) 1) (fE S e) (nE S e) x := by
  by_cases h0 : S (4 + 2 * e) 1 = 0
  · rw [up_gm0 h0]
    unfold inE
    rw [decide_eq_true h0]
    rfl
  · obtain ⟨h1, h2, h3, h4, h5, h6⟩ := hI.1 e he h0
    have := up_gm (t := S (4 + 2 * e) 1) (f := fE S e) (n := nE S e) (x := x) (r := r) (by omega) h3 h4 h5 hx
    rw [← h1, ← h2] at this
    exact this
theorem inE_own {S : St} {e x : Nat} (hO : InvO S) (he : e < 4) (hx : x < 256) : inE (S (4 + 2 * e) 1) (fE S e) (nE S e) x = decide (S 2 (x / 16) = nI (2 + e)) := by
  have h := hO.2.2 e he (x / 16) (by omega)
  unfold inE
  by_cases h1 : S 2 (x / 16) = nI (2 + e)
  · obtain ⟨a, b, c⟩ := h.mp h1
    rw [decide_eq_true h1, decide_eq_false a, decide_eq_true (show 16 * fE S e ≤ x by omega), decide_eq_true (show x < 16 * (fE S e + nE S e) by omega)]
    rfl
  · rw [decide_eq_false h1]
    by_cases h2 : S (4 + 2 * e) 1 = 0
    · rw [decide_eq_true h2]; rfl
    · by_cases h3 : 16 * fE S e ≤ x
      · by_cases h4 : x < 16 * (fE S e + nE S e)
        · exact absurd (h.mpr ⟨h2, by omega, by omega⟩) h1
        · rw [decide_eq_false h4, Bool.and_false, Bool.and_false]
      · rw [decide_eq_false h3, Bool.false_and, Bool.and_false]
def rtS (S : St) (i e : Nat) (r : Int32) : Bool := !decide ((if S i 2 = nI e then (7 : Int32) else 0) &&& r = 0)
def alX (S : St) (i x : Nat) (r : Int32) : Bool :=
  if x < 16 then !decide ((0 : Int32) &&& r = 0) else if S 2 (x / 16) = nI 2 then rtS S i 0 r else if S 2 (x / 16) = nI 3 then rtS S i 1 r else if S 2 (x / 16) = nI 4 then rtS S i 2 r else if S 2 (x / 16) = nI 5 then rtS S i 3 r
  else if shX (shV S i) x = true then !decide ((3 : Int32) &&& r = 0) else !decide ((if S i 2 = -1 then (7 : Int32) else 0) &&& r = 0)
theorem al_step {S : St} {i n k : Nat} {z r : Int32} {g : Bool} {v : Int32} (hg : gmS (S (i + 3 + 1 * k) 0) (S (i + 3 + 1 * k) 2) z (befS S i k) = g) (hv : g = true → S (i + 3 + 1 * k) 1 = v) : alG S i z r (n + 1) k = if g = true then !decide (v &&& r = 0) else alG S i z r n (k + 1) := by
  cases g with
  | true => rw [alG_t hg, hv rfl, if_pos rfl]
  | false => rw [alG_f hg, if_neg (by decide)]
theorem shS_shV {S : St} {p : Nat} (hP : InvP S) (hE : InvE S) (hp : p < 2) : shS (shV S (13 + 14 * p)) = true := by
  unfold shV
  rcases hP.1 p hp with h | ⟨e, he, h, h2⟩
  · rw [if_pos h]; decide
  · rw [h, if_neg (fun q => by have := congrArg Int32.toInt q; rw [nI_toInt (by omega)] at this; have e1 : (-1 : Int32).toInt = -1 := by decide
                               rw [e1] at this; omega), nI_clamp (by omega)]
    exact (hE.1 e he (by rw [h2]; decide)).2.2.2.2.2
theorem alw_alX {S : St} {p x : Nat} {r : Int32} (hP : InvP S) (hE : InvE S) (hO : InvO S) (hG : InvG S) (hp : p < 2) (hx : x < 256) : alw S (13 + 14 * p) (nI x) r = alX S (13 + 14 * p) x r := by
  have G := hG p hp
  have g2 : ∀ e, e < 4 → ∀ j, j < 3 → S (13 + 14 * p + 3 + 1 * (1 + 2 * e)) j = gLo (S (4 + 2 * e) 1) (S (4 + 2 * e) 2) (S (4 + 2 * e) 3) j := by
    intro e he j hj
    rw [G (1 + 2 * e) (by omega) j hj]
    unfold gsp
    rw [if_neg (by omega), if_neg (by omega), if_neg (by omega), if_pos (by omega), show (1 + 2 * e - 1) / 2 = e by omega]
  have g3 : ∀ e, e < 4 → ∀ j, j < 3 → S (13 + 14 * p + 3 + 1 * (2 + 2 * e)) j = gUp (S (4 + 2 * e) 1) (S (4 + 2 * e) 2) (S (4 + 2 * e) 3) (if S (13 + 14 * p) 2 = nI e then 7 else 0) j := by
    intro e he j hj
    rw [G (2 + 2 * e) (by omega) j hj]
    unfold gsp
    rw [if_neg (by omega), if_neg (by omega), if_neg (by omega), if_neg (by omega), show (2 + 2 * e - 1) / 2 = e by omega]
  have lo : ∀ e, e < 4 → ∀ n, alG S (13 + 14 * p) (nI x) r (n + 1) (1 + 2 * e) = alG S (13 + 14 * p) (nI x) r n (2 + 2 * e) := by
    intro e he n
    rw [alG_f (by rw [g2 e he 0 (by decide), g2 e he 2 (by decide)]; exact lo_gm), show 1 + 2 * e + 1 = 2 + 2 * e by omega]
  have up : ∀ e, e < 4 → ∀ n, alG S (13 + 14 * p) (nI x) r (n + 1) (2 + 2 * e) = if S 2 (x / 16) = nI (2 + e) then rtS S (13 + 14 * p) e r else alG S (13 + 14 * p) (nI x) r n (3 + 2 * e) := by
    intro e he n
    have hb : befS S (13 + 14 * p) (2 + 2 * e) = gLo (S (4 + 2 * e) 1) (S (4 + 2 * e) 2) (S (4 + 2 * e) 3) 2 := by
      unfold befS
      rw [if_neg (by omega), show 2 + 2 * e - 1 = 1 + 2 * e by omega, g2 e he 2 (by decide)]
    have hgm : gmS (S (13 + 14 * p + 3 + 1 * (2 + 2 * e)) 0) (S (13 + 14 * p + 3 + 1 * (2 + 2 * e)) 2) (nI x) (befS S (13 + 14 * p) (2 + 2 * e)) = decide (S 2 (x / 16) = nI (2 + e)) := by
      rw [hb, g3 e he 0 (by decide), g3 e he 2 (by decide), pair_gm hE he hx, inE_own hO he hx]
    rw [al_step (v := if S (13 + 14 * p) 2 = nI e then 7 else 0) hgm (fun q => ?_), show 2 + 2 * e + 1 = 3 + 2 * e by omega]
    · by_cases h : S 2 (x / 16) = nI (2 + e)
      · rw [if_pos h, if_pos (decide_eq_true h)]
        rfl
      · rw [if_neg h, if_neg (by rw [decide_eq_false h]; decide)]
    · rw [g3 e he 1 (by decide)]
      exact up_r ((hO.2.2 e he (x / 16) (by omega)).mp (of_decide_eq_true q)).1
  have s0 : alG S (13 + 14 * p) (nI x) r 11 0 = if x < 16 then !decide ((0 : Int32) &&& r = 0) else alG S (13 + 14 * p) (nI x) r 10 1 := by
    rw [al_step (g := decide (x < 16)) (v := 0) (by rw [G 0 (by decide) 0 (by decide), G 0 (by decide) 2 (by decide)]; exact g0_gm hx _) (fun _ => by rw [G 0 (by decide) 1 (by decide)]; rfl)]
    by_cases h : x < 16
    · rw [if_pos h, if_pos (decide_eq_true h)]
    · rw [if_neg h, if_neg (by rw [decide_eq_false h]; decide)]
  have s9 : alG S (13 + 14 * p) (nI x) r 2 9 = if shX (shV S (13 + 14 * p)) x = true then !decide ((3 : Int32) &&& r = 0) else alG S (13 + 14 * p) (nI x) r 1 10 := by
    refine al_step (v := 3) ?_ (fun q => ?_)
    · rw [G 9 (by decide) 0 (by decide), G 9 (by decide) 2 (by decide)]
      exact sh_gm (shS_shV hP hE hp) hx
    · rw [G 9 (by decide) 1 (by decide)]
      exact sh_r (fun h => by rw [h, shX_m1] at q; cases q)
  have s10 : alG S (13 + 14 * p) (nI x) r 1 10 = !decide ((if S (13 + 14 * p) 2 = -1 then (7 : Int32) else 0) &&& r = 0) := by
    rw [al_step (g := true) (v := if S (13 + 14 * p) 2 = -1 then 7 else 0) (by rw [G 10 (by decide) 0 (by decide), G 10 (by decide) 2 (by decide)]; exact g10_gm hx _) (fun _ => by rw [G 10 (by decide) 1 (by decide)]; rfl), if_pos rfl]
  unfold alw alX
  rw [show inr (nI x) 256 = true from inr_nI (k := 256) hx (by decide), Bool.true_and, s0]
  by_cases h : x < 16
  · rw [if_pos h, if_pos h]
  · rw [if_neg h, if_neg h, lo 0 (by decide), up 0 (by decide), lo 1 (by decide), up 1 (by decide), lo 2 (by decide), up 2 (by decide), lo 3 (by decide), up 3 (by decide), s9, s10]

theorem m1_ne {k : Nat} (h : k < 2 ^ 31) : ¬ nI k = -1 := fun q => by
  have := congrArg Int32.toInt q
  rw [nI_toInt h] at this
  have e1 : (-1 : Int32).toInt = -1 := by decide
  rw [e1] at this
  omega
theorem rt_eq {S : St} {i e : Nat} {r : Int32} (hr : r = 1 ∨ r = 2 ∨ r = 4) : rtS S i e r = decide (S i 2 = nI e) := by
  unfold rtS
  by_cases h : S i 2 = nI e
  · rw [if_pos h, decide_eq_true h]
    rcases hr with rfl | rfl | rfl <;> decide
  · rw [if_neg h, decide_eq_false h]
    rcases hr with rfl | rfl | rfl <;> decide
/-- what the reference says, of an address x < 256 -/
theorem alM_x {M : St} {p x : Nat} {r : Int32} (hp : p < 2) (hx : x < 256) : alM M (nI p) (nI x) r =
    if M 2 (x / 16) = 0 then false else if M 2 (x / 16) ≤ 1 then (if M 4 p < 0 then true else if shX (M 9 (M 4 p).toNatClampNeg) x = true then !decide (r = 4) else false) else decide (M 2 (x / 16) = 2 + M 4 p) := by
  unfold alM
  have h1 : ¬ nI x < 0 := nI_pos (by omega)
  have h2 : ¬ (255 : Int32) < nI x := nI_nlt (a := 255) (by omega) (by decide)
  rw [if_neg h1, if_neg h2, n16 (by omega), nI_clamp (by omega), nI_clamp (by omega)]
  rfl
theorem alw_eq {S M : St} {p : Nat} {z r : Int32} (hR : Rel S M) (hp : p < 2) (hr : r = 1 ∨ r = 2 ∨ r = 4) : alw S (13 + 14 * p) z r = alM M (nI p) z r := by
  obtain ⟨⟨-, -, -, hown, -, hen⟩, hrun, hP, hE, hO, hG⟩ := hR
  rcases pk_ix z (show 256 < 2 ^ 31 by decide) with h | h | ⟨x, hx, rfl⟩
  · rw [show alM M (nI p) z r = false by unfold alM; rw [if_pos h]]
    unfold alw inr
    rw [decide_eq_true h]
    rfl
  · have h' : ¬ z < 0 := fun q => by
      have a := Int32.lt_iff_toInt_lt.mp q
      have b := Int32.le_iff_toInt_le.mp h
      rw [nI_toInt (by decide)] at b
      have e0 : (0 : Int32).toInt = 0 := by decide
      rw [e0] at a
      omega
    have h2 : (255 : Int32) < z := by
      refine Int32.lt_iff_toInt_lt.mpr ?_
      have b := Int32.le_iff_toInt_le.mp h
      rw [nI_toInt (by decide)] at b
      have e0 : (255 : Int32).toInt = 255 := by decide
      rw [e0]
      omega
    rw [show alM M (nI p) z r = false by unfold alM; rw [if_neg h', if_pos h2]]
    unfold alw inr
    rw [show decide ((256 : Int32) ≤ z) = true from decide_eq_true h, Bool.not_true, Bool.and_false, Bool.false_and]
  · rw [alw_alX hP hE hO hG hp hx, alM_x hp hx, ← hown _ (show x / 16 < 16 by omega), ← hrun p hp]
    unfold alX
    by_cases h16 : x < 16
    · rw [if_pos h16, show x / 16 = 0 by omega, hO.1, if_pos rfl]
      rcases hr with rfl | rfl | rfl <;> decide
    · rw [if_neg h16]
      rcases hO.2.1 (x / 16) (by omega) (by omega) with h1 | ⟨e, he, h1⟩
      · rw [h1, if_neg (show ¬ (1 : Int32) = nI 2 by decide), if_neg (show ¬ (1 : Int32) = nI 3 by decide), if_neg (show ¬ (1 : Int32) = nI 4 by decide), if_neg (show ¬ (1 : Int32) = nI 5 by decide), if_neg (show ¬ (1 : Int32) = 0 by decide), if_pos (show (1 : Int32) ≤ 1 by decide)]
        rcases hP.1 p hp with h2 | ⟨e, he, h2, h3⟩
        · have h4 : shV S (13 + 14 * p) = -1 := by unfold shV; rw [if_pos h2]
          rw [h4, shX_m1, h2, if_neg (show ¬ false = true by decide), if_pos (show (-1 : Int32) = -1 from rfl), if_pos (show (-1 : Int32) < 0 by decide)]
          rcases hr with rfl | rfl | rfl <;> decide
        · have hne := m1_ne (k := e) (by omega)
          have h4 : shV S (13 + 14 * p) = S (4 + 2 * e) 5 := by unfold shV; rw [h2, if_neg hne, nI_clamp (by omega)]
          obtain ⟨r1, r2, -, -⟩ := hen e he
          have r3 := (r2 (by rw [← r1, h3]; decide)).2.2.2.1
          rw [h4, h2, if_neg hne, if_neg (nI_pos (by omega)), nI_clamp (by omega), ← r3]
          by_cases h5 : shX (S (4 + 2 * e) 5) x = true
          · rw [if_pos h5, if_pos h5]
            rcases hr with rfl | rfl | rfl <;> decide
          · rw [if_neg h5, if_neg h5]
            rcases hr with rfl | rfl | rfl <;> decide
      · have k0 : ¬ nI (2 + e) = 0 := nI_ne0 (by omega) (by omega)
        have k1 : ¬ nI (2 + e) ≤ 1 := nI_ge (a := 1) (by omega) (by omega)
        rw [h1, if_neg k0, if_neg k1]
        have key : rtS S (13 + 14 * p) e r = decide (nI (2 + e) = 2 + S (13 + 14 * p) 2) := by
          rw [rt_eq hr]
          rcases hP.1 p hp with h2 | ⟨e', he', h2, h3⟩
          · rw [h2, decide_eq_false (fun q => m1_ne (k := e) (by omega) q.symm)]
            have : e = 0 ∨ e = 1 ∨ e = 2 ∨ e = 3 := by omega
            rcases this with rfl | rfl | rfl | rfl <;> decide
          · rw [h2, show (2 : Int32) = nI 2 from rfl, nI_add]
            by_cases h5 : e' = e
            · rw [h5, decide_eq_true rfl, decide_eq_true rfl]
            · rw [decide_eq_false (fun q => h5 ((nI_eq (by omega) (by omega)).mp q)), decide_eq_false (fun q => h5 (by have := (nI_eq (by omega) (by omega)).mp q; omega))]
        rw [← key]
        have : e = 0 ∨ e = 1 ∨ e = 2 ∨ e = 3 := by omega
        rcases this with rfl | rfl | rfl | rfl
        · rw [if_pos rfl]
        · rw [if_neg (by decide), if_pos rfl]
        · rw [if_neg (by decide), if_neg (by decide), if_pos rfl]
        · rw [if_neg (by decide), if_neg (by decide), if_neg (by decide), if_pos rfl]
end
section
-- ===== what the invariants look at =====
def Inv4 (S : St) : Prop := InvP S ∧ InvE S ∧ InvO S ∧ InvG S
def Same (S T : St) : Prop := (∀ g, T 2 g = S 2 g) ∧ (∀ e, e < 4 → ∀ j, j = 1 ∨ j = 2 ∨ j = 3 ∨ j = 5 → T (4 + 2 * e) j = S (4 + 2 * e) j) ∧ (∀ p, p < 2 → T (13 + 14 * p) 2 = S (13 + 14 * p) 2) ∧ (∀ p, p < 2 → ∀ k, k < 11 → ∀ j, T (13 + 14 * p + 3 + 1 * k) j = S (13 + 14 * p + 3 + 1 * k) j)
theorem gsp_congr {S T : St} {i : Nat} (hP : PeOK S i) (h1 : T i 2 = S i 2) (h2 : ∀ e, e < 4 → ∀ j, j = 1 ∨ j = 2 ∨ j = 3 ∨ j = 5 → T (4 + 2 * e) j = S (4 + 2 * e) j) : ∀ k, k < 11 → ∀ j, gsp T i k j = gsp S i k j := by
  intro k hk j
  unfold gsp
  rw [h1]
  by_cases h0 : k = 0
  · rw [if_pos h0, if_pos h0]
  by_cases h10 : k = 10
  · rw [if_neg h0, if_pos h10, if_neg h0, if_pos h10]
  by_cases h9 : k = 9
  · rw [if_neg h0, if_neg h10, if_pos h9, if_neg h0, if_neg h10, if_pos h9, shV_congr (S := S) h1 (fun e he => h2 e he 5 (by simp)) hP]
  rw [if_neg h0, if_neg h10, if_neg h9, if_neg h0, if_neg h10, if_neg h9]
  have he : (k - 1) / 2 < 4 := by omega
  rw [h2 _ he 1 (by simp), h2 _ he 2 (by simp), h2 _ he 3 (by simp)]
theorem Inv4.same {S T : St} (hI : Inv4 S) (h : Same S T) : Inv4 T := by
  obtain ⟨hP, hE, hO, hG⟩ := hI
  obtain ⟨h1, h2, h3, h4⟩ := h
  have hf : ∀ e, e < 4 → fE T e = fE S e := fun e he => by unfold fE; rw [h2 e he 2 (by simp)]
  have hn : ∀ e, e < 4 → nE T e = nE S e := fun e he => by unfold nE; rw [h2 e he 3 (by simp)]
  refine ⟨⟨fun p hp => ?_, ?_⟩, ⟨fun e he h0 => ?_, fun e he => ?_⟩, ⟨?_, fun g hg1 hg => ?_, fun e he g hg => ?_⟩, fun p hp k hk j hj => ?_⟩
  · rw [h3 p hp]
    rcases hP.1 p hp with q | ⟨e, he, q1, q2⟩
    · exact Or.inl q
    · exact Or.inr ⟨e, he, q1, by rw [h2 e he 1 (by simp)]; exact q2⟩
  · have a := h3 0 (by decide)
    have b := h3 1 (by decide)
    intro q
    rw [show (13 : Nat) = 13 + 14 * 0 from rfl, a] at q ⊢
    rw [show (27 : Nat) = 13 + 14 * 1 from rfl, b] at q
    exact hP.2 q
  · rw [h2 e he 1 (by simp)] at h0
    obtain ⟨a, b, c, d, f, g⟩ := hE.1 e he h0
    unfold EnI
    rw [hf e he, hn e he, h2 e he 2 (by simp), h2 e he 3 (by simp), h2 e he 5 (by simp)]
    exact ⟨a, b, c, d, f, g⟩
  · rw [h2 e he 1 (by simp)]
    exact hE.2 e he
  · rw [h1]; exact hO.1
  · rw [h1]; exact hO.2.1 g hg1 hg
  · rw [h1, h2 e he 1 (by simp), hf e he, hn e he]
    exact hO.2.2 e he g hg
  · rw [h4 p hp k hk, hG p hp k hk j hj, gsp_congr (hP.ok p hp) (h3 p hp) h2 k hk]
theorem Same.c {S : St} {c j : Nat} {v : Int32} (h1 : c ≠ 2) (h2 : ∀ e, e < 4 → c ≠ 4 + 2 * e) (h3 : ∀ p, p < 2 → c ≠ 13 + 14 * p) (h4 : ∀ p, p < 2 → ∀ k, k < 11 → c ≠ 13 + 14 * p + 3 + 1 * k) : Same S (up2 S c j v) :=
  ⟨fun g => by rw [up2_ne (Ne.symm h1)], fun e he j _ => by rw [up2_ne (Ne.symm (h2 e he))], fun p hp => by rw [up2_ne (Ne.symm (h3 p hp))], fun p hp k hk j => by rw [up2_ne (Ne.symm (h4 p hp k hk))]⟩
theorem Same.e {S : St} {e j : Nat} {v : Int32} (he : e < 4) (h : j = 4 ∨ j = 6 ∨ j = 7 ∨ j = 8) : Same S (up2 S (4 + 2 * e) j v) := by
  refine ⟨fun g => by rw [up2_ne (by omega)], fun e' he' j' h' => ?_, fun p hp => by rw [up2_ne (by omega)], fun p hp k hk j => by rw [up2_ne (by omega)]⟩
  rw [up2_at, if_neg (by omega)]
theorem Same.tr {S T U : St} (h1 : Same S T) (h2 : Same T U) : Same S U :=
  ⟨fun g => (h2.1 g).trans (h1.1 g), fun e he j hj => (h2.2.1 e he j hj).trans (h1.2.1 e he j hj), fun p hp => (h2.2.2.1 p hp).trans (h1.2.2.1 p hp), fun p hp k hk j => (h2.2.2.2 p hp k hk j).trans (h1.2.2.2 p hp k hk j)⟩
theorem REn.of {S M S' M' : St} {e : Nat} (h : REn S M e) (hS : ∀ j, S' (4 + 2 * e) j = S (4 + 2 * e) j) (hS2 : ∀ k, k < 8 → S' (4 + 2 * e + 1) k = S (4 + 2 * e + 1) k) (hM : ∀ c, 5 ≤ c → c ≤ 12 → M' c e = M c e) (hM2 : ∀ k, k < 8 → M' 13 (8 * e + k) = M 13 (8 * e + k)) : REn S' M' e := by
  obtain ⟨a, b, c, d⟩ := h
  refine ⟨by rw [hS, hM 5 (by decide) (by decide)]; exact a, fun q => ?_, by rw [hS, hM 11 (by decide) (by decide)]; exact c, fun q => ?_⟩
  · rw [hM 5 (by decide) (by decide)] at q
    rw [hS, hS, hS, hS, hS, hM 6 (by decide) (by decide), hM 7 (by decide) (by decide), hM 8 (by decide) (by decide), hM 9 (by decide) (by decide), hM 10 (by decide) (by decide)]
    exact b q
  · rw [hM 5 (by decide) (by decide)] at q
    obtain ⟨d1, d2⟩ := d q
    exact ⟨by rw [hS, hM 12 (by decide) (by decide)]; exact d1, fun k hk => by rw [hS2 k hk, hM2 k hk]; exact d2 k hk⟩
theorem REn.up {S M : St} {e c j d i : Nat} {v w : Int32} (h : REn S M e) (h1 : c ≠ 4 + 2 * e) (h2 : c ≠ 4 + 2 * e + 1) (h3 : d < 5) : REn (up2 S c j v) (up2 M d i w) e :=
  h.of (fun j => by rw [up2_ne (Ne.symm h1)]) (fun k _ => by rw [up2_ne (Ne.symm h2)]) (fun c h5 _ => by rw [up2_ne (by omega)]) (fun k _ => by rw [up2_ne (by omega)])
theorem Rel.inv {S M : St} (h : Rel S M) : Inv4 S := h.2.2
-- ===== the calls that change no enclave =====
section
variable {S M : St}
theorem pe_lt (hR : Rel S M) {p : Nat} (hp : p < 2) : S (13 + 14 * p) 2 = -1 ↔ M 4 p < 0 := by
  rw [← hR.2.1 p hp]
  rcases hR.2.2.1.1 p hp with h | ⟨e, he, h, -⟩
  · rw [h]
    exact ⟨fun _ => by decide, fun _ => rfl⟩
  · rw [h]
    exact ⟨fun q => absurd q (m1_ne (by omega)), fun q => absurd q (nI_pos (by omega))⟩
theorem busy_eq (hR : Rel S M) (z : Int32) : busyS S z = bsM M z := by
  unfold busyS bsM
  cases h : inr z 2 with
  | false => rfl
  | true =>
    have hp := inr_j (k := 2) rfl (by decide) h
    by_cases q : S (13 + 14 * z.toNatClampNeg) 2 = -1
    · rw [decide_eq_true q, decide_eq_true ((pe_lt hR hp).mp q)]
    · rw [decide_eq_false q, decide_eq_false (fun w => q ((pe_lt hR hp).mpr w))]
theorem runs_eq (hR : Rel S M) (z : Int32) : runsS S z = rnM M z := by
  unfold runsS rnM
  cases h : inr z 2 with
  | false => rfl
  | true =>
    have hp := inr_j (k := 2) rfl (by decide) h
    by_cases q : S (13 + 14 * z.toNatClampNeg) 2 = -1
    · rw [decide_eq_true q, decide_eq_true ((pe_lt hR hp).mp q)]
    · rw [decide_eq_false q, decide_eq_false (fun w => q ((pe_lt hR hp).mpr w))]
theorem thr_eq (hR : Rel S M) (q : Int32) : thrS S q = thM M q := by
  unfold thrS thM
  cases h : inr q 4 with
  | false => rfl
  | true => rw [(hR.1.2.2.2.2.2 _ (inr_j (k := 4) rfl (by decide) h)).1]
theorem bs_p {z : Int32} (h : bsM M z = false) : ∃ p, p < 2 ∧ z = nI p := inr_ex (k := 2) (by decide) rfl (bsM_in h)
theorem Rel.denied (hR : Rel S M) : Rel (up2 S 0 5 (S 0 5 + 1)) (up2 M 0 5 (M 0 5 + 1)) := by
  obtain ⟨⟨a1, a2, a3, a4, a5, a6⟩, b, hI⟩ := hR
  refine ⟨⟨?_, ?_, fun a ha => ?_, fun g hg => ?_, fun p hp k hk => ?_, fun e he => ?_⟩, fun p hp => ?_, Inv4.same hI (Same.c (by omega) (by omega) (by omega) (by omega))⟩
  · rw [up2_at, up2_at]; simpa using a1
  · rw [up2_at, up2_at, a2]
  · rw [up2_ne (by omega), up2_ne (by omega)]; exact a3 a ha
  · rw [up2_ne (by omega), up2_ne (by omega)]; exact a4 g hg
  · rw [up2_ne (by omega), up2_ne (by omega)]; exact a5 p hp k hk
  · exact (a6 e he).up (by omega) (by omega) (by omega)
  · rw [up2_ne (by omega), up2_ne (by omega)]; exact b p hp
theorem Rel.mem (hR : Rel S M) (a : Nat) (v : Int32) : Rel (up2 S 1 a v) (up2 M 1 a v) := by
  obtain ⟨⟨a1, a2, a3, a4, a5, a6⟩, b, hI⟩ := hR
  refine ⟨⟨?_, ?_, fun a' ha => ?_, fun g hg => ?_, fun p hp k hk => ?_, fun e he => ?_⟩, fun p hp => ?_, Inv4.same hI (Same.c (by omega) (by omega) (by omega) (by omega))⟩
  · rw [up2_ne (by omega), up2_ne (by omega)]; exact a1
  · rw [up2_ne (by omega), up2_ne (by omega)]; exact a2
  · rw [up2_at, up2_at]
    by_cases h : a' = a
    · simp [h]
    · simp [h]; exact a3 a' ha
  · rw [up2_ne (by omega), up2_ne (by omega)]; exact a4 g hg
  · rw [up2_ne (by omega), up2_ne (by omega)]; exact a5 p hp k hk
  · exact (a6 e he).up (by omega) (by omega) (by omega)
  · rw [up2_ne (by omega), up2_ne (by omega)]; exact b p hp
theorem Rel.reg (hR : Rel S M) {p k : Nat} (hp : p < 2) (hk : k < 8) (v : Int32) : Rel (up2 S (13 + 14 * p + 1) k v) (up2 M 3 (8 * p + k) v) := by
  obtain ⟨⟨a1, a2, a3, a4, a5, a6⟩, b, hI⟩ := hR
  refine ⟨⟨?_, ?_, fun a' ha => ?_, fun g hg => ?_, fun p' hp' k' hk' => ?_, fun e he => ?_⟩, fun p' hp' => ?_, Inv4.same hI (Same.c (by omega) (by omega) (by omega) (by omega))⟩
  · rw [up2_ne (by omega), up2_ne (by omega)]; exact a1
  · rw [up2_ne (by omega), up2_ne (by omega)]; exact a2
  · rw [up2_ne (by omega), up2_ne (by omega)]; exact a3 a' ha
  · rw [up2_ne (by omega), up2_ne (by omega)]; exact a4 g hg
  · rw [up2_at, up2_at]
    by_cases h : p' = p ∧ k' = k
    · rw [if_pos (by omega), if_pos (by omega)]
    · rw [if_neg (by omega), if_neg (by omega)]; exact a5 p' hp' k' hk'
  · exact (a6 e he).up (by omega) (by omega) (by omega)
  · rw [up2_ne (by omega), up2_ne (by omega)]; exact b p' hp'
theorem R_load (hR : Rel S M) (z a : Int32) : vLoad S z a = wLoad M z a ∧ Rel (sLoad S z a) (tLoad M z a) := by
  unfold vLoad wLoad sLoad tLoad
  rw [busy_eq hR]
  by_cases h : bsM M z = true
  · rw [if_pos h, if_pos h, if_pos h, if_pos h]; exact ⟨rfl, hR⟩
  · rw [if_neg h, if_neg h, if_neg h, if_neg h]
    obtain ⟨p, hp, rfl⟩ := bs_p (by simpa using h)
    rw [nI_clamp (by omega), alw_eq hR hp (Or.inl rfl)]
    by_cases h2 : alM M (nI p) a 1 = true
    · rw [if_pos h2, if_pos h2, if_pos h2, if_pos h2]
      exact ⟨by rw [hR.1.2.2.1 _ (inr_j (k := 256) rfl (by decide) (alM_in h2))], hR⟩
    · rw [if_neg h2, if_neg h2, if_neg h2, if_neg h2]
      exact ⟨rfl, hR.denied⟩
theorem R_store (hR : Rel S M) (z a v : Int32) : vStore S z a = wStore M z a ∧ Rel (sStore S z a v) (tStore M z a v) := by
  unfold vStore wStore sStore tStore
  rw [busy_eq hR]
  by_cases h : bsM M z = true
  · rw [if_pos h, if_pos h, if_pos h, if_pos h]; exact ⟨rfl, hR⟩
  · rw [if_neg h, if_neg h, if_neg h, if_neg h]
    obtain ⟨p, hp, rfl⟩ := bs_p (by simpa using h)
    rw [nI_clamp (by omega), alw_eq hR hp (Or.inr (Or.inl rfl))]
    by_cases h2 : alM M (nI p) a 2 = true
    · rw [if_pos h2, if_pos h2, if_pos h2]
      exact ⟨rfl, hR.mem _ _⟩
    · rw [if_neg h2, if_neg h2, if_neg h2]
      exact ⟨rfl, hR.denied⟩
theorem R_give (hR : Rel S M) (z k v : Int32) : vGive S z k = wGive M z k ∧ Rel (sGive S z k v) (tGive M z k v) := by
  unfold vGive wGive sGive tGive
  rw [busy_eq hR]
  by_cases h : bsM M z = true
  · rw [if_pos h, if_pos h]; exact ⟨rfl, hR⟩
  · rw [if_neg h, if_neg h]
    obtain ⟨p, hp, rfl⟩ := bs_p (by simpa using h)
    refine ⟨rfl, ?_⟩
    by_cases h2 : inr k 8 = true
    · rw [if_pos h2, if_pos h2, nI_clamp (by omega)]
      exact hR.reg hp (inr_j (k := 8) rfl (by decide) h2) v
    · rw [if_neg h2, if_neg h2]; exact hR
theorem R_reg (hR : Rel S M) (z k : Int32) : vReg S z k = wReg M z k := by
  unfold vReg wReg
  rw [busy_eq hR]
  by_cases h : bsM M z = true
  · rw [if_pos h, if_pos h]
  · rw [if_neg h, if_neg h]
    obtain ⟨p, hp, rfl⟩ := bs_p (by simpa using h)
    by_cases h2 : inr k 8 = true
    · rw [if_pos h2, if_pos h2, nI_clamp (by omega), hR.1.2.2.2.2.1 p hp _ (inr_j (k := 8) rfl (by decide) h2)]
    · rw [if_neg h2, if_neg h2]
theorem R_state (hR : Rel S M) (q : Int32) : (if inr q 4 = true then S (4 + 2 * q.toNatClampNeg) 1 else -1) = (if inr q 4 = true then M 5 q.toNatClampNeg else -1) := by
  by_cases h : inr q 4 = true
  · rw [if_pos h, if_pos h]; exact (hR.1.2.2.2.2.2 _ (inr_j (k := 4) rfl (by decide) h)).1
  · rw [if_neg h, if_neg h]
theorem R_own (hR : Rel S M) (q : Int32) : (if inr q 16 = true then S 2 q.toNatClampNeg else -1) = (if inr q 16 = true then M 2 q.toNatClampNeg else -1) := by
  by_cases h : inr q 16 = true
  · rw [if_pos h, if_pos h]; exact hR.1.2.2.2.1 _ (inr_j (k := 16) rfl (by decide) h)
  · rw [if_neg h, if_neg h]
theorem R_run (hR : Rel S M) (q : Int32) : (if inr q 2 = true then S (13 + 14 * q.toNatClampNeg) 2 else -2) = (if inr q 2 = true then M 4 q.toNatClampNeg else -2) := by
  by_cases h : inr q 2 = true
  · rw [if_pos h, if_pos h]; exact hR.2.1 _ (inr_j (k := 2) rfl (by decide) h)
  · rw [if_neg h, if_neg h]
theorem R_mea (hR : Rel S M) (q : Int32) : vMea S q = wMea M q := by
  unfold vMea wMea
  rw [thr_eq hR]
  by_cases h : thM M q = true
  · rw [if_pos h, if_pos h]
    have he := inr_j (k := 4) rfl (by decide) (thM_in h)
    rw [((hR.1.2.2.2.2.2 _ he).2.1 (by unfold thM at h; rw [Bool.and_eq_true] at h; simpa using h.2)).2.2.2.2]
  · rw [if_neg h, if_neg h]
theorem R_rel (hR : Rel S M) (q : Int32) : vRel S q = wRel M q := by
  unfold vRel wRel
  rw [thr_eq hR]
  by_cases h : thM M q = true
  · have he := inr_j (k := 4) rfl (by decide) (thM_in h)
    obtain ⟨r1, -, r3, -⟩ := hR.1.2.2.2.2.2 _ he
    rw [if_neg (show ¬ thM M q = false by rw [h]; decide), if_pos h, r3]
    obtain ⟨t, ht, h2⟩ := hR.2.2.2.1.2 _ he
    rw [h2] at r1 ⊢
    rw [← r1]
    have : t = 0 ∨ t = 1 ∨ t = 2 ∨ t = 3 ∨ t = 4 ∨ t = 5 := by omega
    rcases this with rfl | rfl | rfl | rfl | rfl | rfl <;> rfl
  · rw [if_pos (show thM M q = false by simpa using h), if_neg h]
end
end
section
-- ===== guard: the guards that are asked for =====
theorem shw_tri {j : Nat} {a b c : Int32} (hj : j < 3) : shw (nI j) a b c = tri j a b c := by
  have : j = 0 ∨ j = 1 ∨ j = 2 := by omega
  rcases this with rfl | rfl | rfl <;> rfl
def evT (f n : Nat) : Bool := decide (n = 0) || ((evM (nI f) (nI n) == blkS (nI f) (nI n)) && ((bAd (nI f) (nI n) == 16 * nI f + 8 * nI n - 1) && ((nI f + nI n) * 16 == 16 * nI f + 16 * nI n)))
theorem ev_all : ((List.range 16).all fun f => (List.range 9).all fun n => evT f n) = true := by decide +kernel
theorem ev_f {f n : Nat} (hf : f < 16) (hn1 : 1 ≤ n) (hn : n < 9) : evM (nI f) (nI n) = blkS (nI f) (nI n) ∧ bAd (nI f) (nI n) = 16 * nI f + 8 * nI n - 1 ∧ (nI f + nI n) * 16 = 16 * nI f + 16 * nI n := by
  have h := all_of (all_of ev_all f hf) n hn
  unfold evT at h
  rw [decide_eq_false (show ¬ n = 0 by omega), Bool.false_or, Bool.and_eq_true, Bool.and_eq_true] at h
  exact ⟨beq_iff_eq.mp h.1, beq_iff_eq.mp h.2.1, beq_iff_eq.mp h.2.2⟩
theorem sh7 : ((List.range 16).all fun t => (nI (256 + t) - 256) * 16 + 16 / 2 - 1 == 16 * (nI (256 + t) - 256) + 7) = true := by decide +kernel
theorem kh {k : Nat} (h1 : 1 ≤ k) (hk : k < 11) : (nI k - 1) / 2 = nI ((k - 1) / 2) := by
  rw [show (1 : Int32) = nI 1 from rfl, pk_sub h1, show (2 : Int32) = nI 2 from rfl, pk_div (by omega) (by decide) (by decide)]
theorem kr {k : Nat} (hk : k < 11) : rmI (nI k) 2 = nI (k % 2) := by
  unfold rmI
  rw [show (2 : Int32) = nI 2 from rfl]
  exact pk_rem (by omega) (by decide) (by decide)
theorem s9_eq {S M : St} (hR : Rel S M) {p : Nat} (hp : p < 2) : s9M M (nI p) = shV S (13 + 14 * p) := by
  unfold s9M nwM shV
  rw [nI_clamp (by omega), ← hR.2.1 p hp]
  rcases hR.2.2.1.1 p hp with h | ⟨e, he, h, h2⟩
  · rw [h, if_pos (show (-1 : Int32) < 0 by decide), if_pos rfl]
  · rw [h, if_neg (nI_pos (by omega)), if_neg (m1_ne (by omega)), nI_clamp (by omega)]
    obtain ⟨r1, r2, -, -⟩ := hR.1.2.2.2.2.2 e he
    exact (r2 (by rw [← r1, h2]; decide)).2.2.2.1.symm
theorem R_guard {S M : St} (hR : Rel S M) (z u v : Int32) : grdS S z u v = grM M z u v := by
  unfold grdS grM
  by_cases hz : inr z 2 = true
  · by_cases hu : inr u 11 = true
    · rw [if_pos (show inr z 2 = true ∧ inr u 11 = true from ⟨hz, hu⟩)]
      by_cases hv : inr v 3 = true
      · rw [if_pos (show inr z 2 = true ∧ inr u 11 = true ∧ inr v 3 = true from ⟨hz, hu, hv⟩)]
        obtain ⟨p, hp, rfl⟩ := inr_ex (k := 2) (by decide) rfl hz
        obtain ⟨k, hk, rfl⟩ := inr_ex (k := 11) (by decide) rfl hu
        obtain ⟨j, hj, rfl⟩ := inr_ex (k := 3) (by decide) rfl hv
        have G := hR.2.2.2.2.2 p hp k hk j hj
        rw [nI_clamp (by omega), nI_clamp (by omega)]
        have e1 : (if nI j = 0 then S (13 + 14 * p + 3 + 1 * k) 0 else if nI j = 1 then S (13 + 14 * p + 3 + 1 * k) 1 else if nI j = 2 then S (13 + 14 * p + 3 + 1 * k) 2 else -1) = S (13 + 14 * p + 3 + 1 * k) j := by
          have : j = 0 ∨ j = 1 ∨ j = 2 := by omega
          rcases this with rfl | rfl | rfl <;> rfl
        rw [e1, G, s9_eq hR hp]
        unfold gsp
        by_cases h0 : k = 0
        · rw [if_pos h0, h0, if_pos (show nI 0 = 0 from rfl), shw_tri hj]
        · rw [if_neg h0, if_neg (nI_ne0 (by omega) (by omega))]
          by_cases h10 : k = 10
          · rw [if_pos h10, h10, if_pos (show nI 10 = 10 from rfl), shw_tri hj]
            unfold nwM
            rw [nI_clamp (by omega)]
            by_cases q : S (13 + 14 * p) 2 = -1
            · rw [if_pos q, if_pos ((pe_lt hR hp).mp q)]
            · rw [if_neg q, if_neg (fun w => q ((pe_lt hR hp).mpr w))]
          · rw [if_neg h10, if_neg (show ¬ nI k = 10 from fun q => h10 ((nI_eq (b := 10) (by omega) (by decide)).mp q))]
            by_cases h9 : k = 9
            · rw [if_pos h9, h9, if_pos (show nI 9 = 9 from rfl)]
              have hs := shS_shV hR.2.2.1 hR.2.2.2.1 hp
              generalize shV S (13 + 14 * p) = w at hs ⊢
              unfold gSh
              by_cases h1 : w = -1
              · rw [if_pos h1, h1]; rfl
              · obtain ⟨t, ht, rfl⟩ := shS_ex hs h1
                rw [if_neg h1, if_neg (nI_pos (by omega))]
                by_cases h2 : (256 : Int32) ≤ nI t
                · rw [if_pos h2, if_pos h2, shw_tri hj]
                  have h3 : 256 ≤ t := (nI_leI (a := 256) (by decide) (by omega)).mp h2
                  have h4 := beq_iff_eq.mp (all_of sh7 (t - 256) (by omega))
                  rw [show 256 + (t - 256) = t by omega] at h4
                  rw [h4]
                · rw [if_neg h2, if_neg h2, shw_tri hj]
            · rw [if_neg h9, if_neg (show ¬ nI k = 9 from fun q => h9 ((nI_eq (b := 9) (by omega) (by decide)).mp q)), kh (by omega) hk]
              generalize he' : (k - 1) / 2 = e
              have he : e < 4 := by omega
              unfold grE
              rw [nI_clamp (by omega), kr hk]
              obtain ⟨r1, r2, -, -⟩ := hR.1.2.2.2.2.2 e he
              by_cases h5 : M 5 e = 0
              · rw [if_pos h5]
                unfold gLo gUp
                rw [r1, if_pos h5, if_pos h5]
                split <;> rfl
              · rw [if_neg h5]
                obtain ⟨r3, r4, -, -, -⟩ := r2 h5
                obtain ⟨i1, i2, i3, i4, i5, -⟩ := hR.2.2.2.1.1 e he (by rw [r1]; exact h5)
                obtain ⟨v1, v2, v3⟩ := ev_f (f := fE S e) (n := nE S e) (by omega) i3 i4
                rw [← i1, ← i2] at v1 v2 v3
                rw [← r3, ← r4, v1]
                unfold gLo gUp
                rw [r1, if_neg h5, if_neg h5]
                by_cases hm : k % 2 = 1
                · rw [if_pos hm, hm, if_pos (show nI 1 = 1 from rfl), shw_tri hj]
                  by_cases hb : blkS (S (4 + 2 * e) 2) (S (4 + 2 * e) 3) = true
                  · rw [if_pos hb, if_pos hb, tri0]
                  · rw [if_neg hb, if_neg hb, i1, w16, w16l]
                · have hm0 : k % 2 = 0 := by omega
                  rw [if_neg hm, hm0, if_neg (show ¬ nI 0 = 1 by decide)]
                  have hr : (if S (13 + 14 * p) 2 = nI e then (7 : Int32) else 0) = (if nI e = nwM M (nI p) then 7 else 0) := by
                    unfold nwM
                    rw [nI_clamp (by omega), ← hR.2.1 p hp]
                    by_cases q : S (13 + 14 * p) 2 = nI e
                    · rw [if_pos q, if_pos q.symm]
                    · rw [if_neg q, if_neg (fun w => q w.symm)]
                  by_cases hb : blkS (S (4 + 2 * e) 2) (S (4 + 2 * e) 3) = true
                  · rw [if_pos hb, if_pos hb, shw_tri hj, hr, ← v2]
                    rfl
                  · rw [if_neg hb, if_neg hb, shw_tri hj, hr, v3]
      · rw [if_neg (show ¬ (inr z 2 = true ∧ inr u 11 = true ∧ inr v 3 = true) from fun q => hv q.2.2)]
        have hn : ∀ n, n < 3 → ¬ v = nI n := fun n hn q => hv (by rw [q]; exact inr_nI (k := 3) hn (by decide))
        rw [if_neg (show ¬ v = 0 from hn 0 (by decide)), if_neg (show ¬ v = 1 from hn 1 (by decide)), if_neg (show ¬ v = 2 from hn 2 (by decide))]
    · rw [if_neg (show ¬ (inr z 2 = true ∧ inr u 11 = true) from fun q => hu q.2), if_neg (show ¬ (inr z 2 = true ∧ inr u 11 = true ∧ inr v 3 = true) from fun q => hu q.2.1)]
  · rw [if_neg (show ¬ (inr z 2 = true ∧ inr u 11 = true) from fun q => hz q.1), if_neg (show ¬ (inr z 2 = true ∧ inr u 11 = true ∧ inr v 3 = true) from fun q => hz q.1)]
end
section
-- ===== setting guards gives the invariant back =====
def GO (S : St) (p : Nat) : Prop := ∀ k, k < 11 → ∀ j, j < 3 → S (13 + 14 * p + 3 + 1 * k) j = gsp S (13 + 14 * p) k j
def PR (S M : St) : Prop := RelD S M ∧ (∀ p, p < 2 → S (13 + 14 * p) 2 = M 4 p) ∧ InvP S ∧ InvE S ∧ InvO S
theorem Rel.pr {S M : St} (h : Rel S M) : PR S M := ⟨h.1, h.2.1, h.2.2.1, h.2.2.2.1, h.2.2.2.2.1⟩
theorem Rel.go {S M : St} (h : Rel S M) : ∀ p, p < 2 → GO S p := h.2.2.2.2.2
theorem PR.rel {S M : St} (h : PR S M) (hg : ∀ p, p < 2 → GO S p) : Rel S M := ⟨h.1, h.2.1, h.2.2.1, h.2.2.2.1, h.2.2.2.2, hg⟩
theorem gLo_z {t t' f n : Int32} {j : Nat} (h : t = 0 ↔ t' = 0) : gLo t f n j = gLo t' f n j := by
  unfold gLo
  by_cases q : t' = 0
  · rw [if_pos q, if_pos (h.mpr q)]
  · rw [if_neg q, if_neg (fun w => q (h.mp w))]
theorem gUp_z {t t' f n r : Int32} {j : Nat} (h : t = 0 ↔ t' = 0) : gUp t f n r j = gUp t' f n r j := by
  unfold gUp
  by_cases q : t' = 0
  · rw [if_pos q, if_pos (h.mpr q)]
  · rw [if_neg q, if_neg (fun w => q (h.mp w))]
theorem gsp_cg {S T : St} {i : Nat} (hP : PeOK S i) (h1 : T i 2 = S i 2) (hz : ∀ e, e < 4 → (T (4 + 2 * e) 1 = 0 ↔ S (4 + 2 * e) 1 = 0)) (h2 : ∀ e, e < 4 → ∀ j, j = 2 ∨ j = 3 ∨ j = 5 → T (4 + 2 * e) j = S (4 + 2 * e) j) : ∀ k, k < 11 → ∀ j, gsp T i k j = gsp S i k j := by
  intro k hk j
  unfold gsp
  rw [h1]
  by_cases h0 : k = 0
  · rw [if_pos h0, if_pos h0]
  by_cases h10 : k = 10
  · rw [if_neg h0, if_pos h10, if_neg h0, if_pos h10]
  by_cases h9 : k = 9
  · rw [if_neg h0, if_neg h10, if_pos h9, if_neg h0, if_neg h10, if_pos h9, shV_congr (S := S) h1 (fun e he => h2 e he 5 (by simp)) hP]
  rw [if_neg h0, if_neg h10, if_neg h9, if_neg h0, if_neg h10, if_neg h9]
  have he : (k - 1) / 2 < 4 := by omega
  rw [h2 _ he 2 (by simp), h2 _ he 3 (by simp), gLo_z (hz _ he), gUp_z (hz _ he)]
theorem GO.tr {S T : St} {p : Nat} (h : GO S p) (hP : PeOK S (13 + 14 * p)) (hg : ∀ k, k < 11 → ∀ j, j < 3 → T (13 + 14 * p + 3 + 1 * k) j = S (13 + 14 * p + 3 + 1 * k) j) (h1 : T (13 + 14 * p) 2 = S (13 + 14 * p) 2) (hz : ∀ e, e < 4 → (T (4 + 2 * e) 1 = 0 ↔ S (4 + 2 * e) 1 = 0)) (h2 : ∀ e, e < 4 → ∀ j, j = 2 ∨ j = 3 ∨ j = 5 → T (4 + 2 * e) j = S (4 + 2 * e) j) : GO T p := by
  intro k hk j hj
  rw [hg k hk j hj, h k hk j hj, gsp_cg hP h1 hz h2 k hk j]
theorem InvP.cg {S T : St} (hP : InvP S) (h3 : ∀ p, p < 2 → T (13 + 14 * p) 2 = S (13 + 14 * p) 2) (h2 : ∀ e, e < 4 → T (4 + 2 * e) 1 = S (4 + 2 * e) 1) : InvP T := by
  refine ⟨fun p hp => ?_, ?_⟩
  · rw [h3 p hp]
    rcases hP.1 p hp with q | ⟨e, he, q1, q2⟩
    · exact Or.inl q
    · exact Or.inr ⟨e, he, q1, by rw [h2 e he]; exact q2⟩
  · have a := h3 0 (by decide)
    have b := h3 1 (by decide)
    intro q
    rw [show (13 : Nat) = 13 + 14 * 0 from rfl, a] at q ⊢
    rw [show (27 : Nat) = 13 + 14 * 1 from rfl, b] at q
    exact hP.2 q
theorem InvE.cg {S T : St} (hE : InvE S) (hz : ∀ e, e < 4 → (T (4 + 2 * e) 1 = 0 ↔ S (4 + 2 * e) 1 = 0)) (ht : ∀ e, e < 4 → ∃ t, t < 6 ∧ T (4 + 2 * e) 1 = nI t) (h2 : ∀ e, e < 4 → ∀ j, j = 2 ∨ j = 3 ∨ j = 5 → T (4 + 2 * e) j = S (4 + 2 * e) j) : InvE T := by
  refine ⟨fun e he h0 => ?_, ht⟩
  obtain ⟨a, b, c, d, f, g⟩ := hE.1 e he (fun q => h0 ((hz e he).mpr q))
  unfold EnI fE nE
  rw [h2 e he 2 (by simp), h2 e he 3 (by simp), h2 e he 5 (by simp)]
  exact ⟨a, b, c, d, f, g⟩
theorem InvO.cg {S T : St} (hO : InvO S) (h1 : ∀ g, g < 16 → T 2 g = S 2 g) (hz : ∀ e, e < 4 → (T (4 + 2 * e) 1 = 0 ↔ S (4 + 2 * e) 1 = 0)) (h2 : ∀ e, e < 4 → ∀ j, j = 2 ∨ j = 3 ∨ j = 5 → T (4 + 2 * e) j = S (4 + 2 * e) j) : InvO T := by
  refine ⟨by rw [h1 0 (by decide)]; exact hO.1, fun g hg1 hg => by rw [h1 g hg]; exact hO.2.1 g hg1 hg, fun e he g hg => ?_⟩
  unfold fE nE
  rw [h1 g hg, h2 e he 2 (by simp), h2 e he 3 (by simp), hO.2.2 e he g hg]
  unfold fE nE
  constructor
  · rintro ⟨a, b⟩
    exact ⟨fun q => a ((hz e he).mp q), b⟩
  · rintro ⟨a, b⟩
    exact ⟨fun q => a ((hz e he).mpr q), b⟩
theorem REn.cg {S T M : St} {e : Nat} (h : REn S M e) (hS : T (4 + 2 * e) = S (4 + 2 * e)) (hS2 : T (4 + 2 * e + 1) = S (4 + 2 * e + 1)) : REn T M e := by
  unfold REn
  rw [hS, hS2]
  exact h
theorem PR.set {T M : St} {p : Nat} (hp : p < 2) (h : PR T M) : PR (sGs T (13 + 14 * p)) M ∧ GO (sGs T (13 + 14 * p)) p ∧ ∀ p', p' < 2 → p' ≠ p → GO T p' → GO (sGs T (13 + 14 * p)) p' := by
  obtain ⟨⟨a1, a2, a3, a4, a5, a6⟩, b, hP, hE, hO⟩ := h
  have hne : ∀ c, c < 13 + 14 * p + 3 ∨ 13 + 14 * p + 3 + 11 ≤ c → sGs T (13 + 14 * p) c = T c := fun c hc => sGs_ne hc
  have e2 : ∀ e, e < 4 → sGs T (13 + 14 * p) (4 + 2 * e) = T (4 + 2 * e) := fun e he => hne _ (by omega)
  have e3 : ∀ p', p' < 2 → sGs T (13 + 14 * p) (13 + 14 * p') 2 = T (13 + 14 * p') 2 := fun p' hp' => by rw [hne _ (by omega)]
  have hgc : ∀ p', p' < 2 → ∀ k, k < 11 → ∀ j, gsp (sGs T (13 + 14 * p)) (13 + 14 * p') k j = gsp T (13 + 14 * p') k j := fun p' hp' => gsp_congr (hP.ok p' hp') (e3 p' hp') (fun e he j _ => by rw [e2 e he])
  refine ⟨⟨⟨by rw [hne 0 (by omega)]; exact a1, by rw [hne 0 (by omega)]; exact a2, fun a ha => by rw [hne 1 (by omega)]; exact a3 a ha, fun g hg => by rw [hne 2 (by omega)]; exact a4 g hg, fun p' hp' k hk => by rw [hne _ (by omega)]; exact a5 p' hp' k hk, fun e he => (a6 e he).cg (e2 e he) (hne _ (by omega))⟩, fun p' hp' => by rw [e3 p' hp']; exact b p' hp', hP.cg e3 (fun e he => by rw [e2 e he]), hE.cg (fun e he => by rw [e2 e he]) (fun e he => by rw [e2 e he]; exact hE.2 e he) (fun e he j _ => by rw [e2 e he]), hO.cg (fun g _ => by rw [hne 2 (by omega)]) (fun e he => by rw [e2 e he]) (fun e he j _ => by rw [e2 e he])⟩, ?_, ?_⟩
  · intro k hk j hj
    rw [sGs_gsp (by omega) (hP.ok p hp) k hk j hj, hgc p hp k hk j]
  · intro p' hp' hne' hg k hk j hj
    rw [hne _ (by omega), hg k hk j hj, hgc p' hp' k hk j]
theorem PR.one {T M : St} {p : Nat} (hp : p < 2) (h : PR T M) (hg : ∀ p', p' < 2 → p' ≠ p → GO T p') : Rel (sGs T (13 + 14 * p)) M := by
  obtain ⟨h1, h2, h3⟩ := h.set hp
  refine h1.rel (fun p' hp' => ?_)
  by_cases q : p' = p
  · rw [q]; exact h2
  · exact h3 p' hp' q (hg p' hp' q)
theorem PR.all {T M : St} (h : PR T M) : Rel (sAll T) M := by
  obtain ⟨h1, h2, -⟩ := h.set (p := 0) (by decide)
  refine PR.one (p := 1) (by decide) h1 (fun p' hp' hq => ?_)
  rw [show p' = 0 by omega]
  exact h2
-- ===== run =====
theorem sStart_at {S : St} {i c j : Nat} {v : Int32} : sStart S i v c j = if c = i ∧ j = 7 then S i 4 else if c = i + 1 ∧ j < 8 then (if j = 1 then v else 0) else S c j := by
  unfold sStart
  rw [up2_at]
  by_cases h1 : c = i ∧ j = 7
  · rw [if_pos h1, if_pos h1, up2_at, if_neg (by omega)]
    unfold fil
    rw [if_neg (by omega)]
  · rw [if_neg h1, if_neg h1, up2_at]
    by_cases h2 : c = i + 1 ∧ j = 1
    · rw [if_pos h2, if_pos (show c = i + 1 ∧ j < 8 by omega), if_pos h2.2]
    · rw [if_neg h2]
      unfold fil
      by_cases h3 : c = i + 1 ∧ j < 8
      · rw [if_pos (show c = i + 1 ∧ 0 ≤ j ∧ j < 8 by omega), if_pos h3, if_neg (show ¬ j = 1 by omega)]
      · rw [if_neg (show ¬ (c = i + 1 ∧ 0 ≤ j ∧ j < 8) by omega), if_neg h3]
theorem tSt_at {M : St} {e c j : Nat} {v : Int32} (he : e < 4) : tSt M (nI e) v c j = if c = 12 ∧ j = e then M 8 e else if c = 13 ∧ 8 * e ≤ j ∧ j < 8 * e + 8 then (if j = 8 * e + 1 then v else 0) else M c j := by
  unfold tSt
  rw [nI_clamp (by omega), up2_at]
  by_cases h1 : c = 12 ∧ j = e
  · rw [if_pos h1, if_pos h1]
    unfold rgM
    rw [if_neg (by omega)]
  · rw [if_neg h1, if_neg h1]
    rfl
/-- the enclave e is put on the processor p -/
theorem go_rel {S M : St} {p e : Nat} {t : Int32} (hp : p < 2) (he : e < 4) (h : PR S M) (hg : ∀ p', p' < 2 → GO S p') (ht : S (4 + 2 * e) 1 = t) (ht2 : t = 1 ∨ t = 3) (hfree : S (13 + 14 * p) 2 = -1) (hpc : S (4 + 2 * e) 7 = M 12 e) (hrg : ∀ k, k < 8 → S (4 + 2 * e + 1) k = M 13 (8 * e + k)) : Rel (goS S (nI p) (nI e)) (tGo M (nI p) (nI e)) := by
  unfold goS tGo
  rw [nI_clamp (by omega), nI_clamp (by omega)]
  obtain ⟨⟨a1, a2, a3, a4, a5, a6⟩, b, hP, hE, hO⟩ := h
  have ht0 : ¬ S (4 + 2 * e) 1 = 0 := by rw [ht]; rcases ht2 with rfl | rfl <;> decide
  have ht2' : ¬ S (4 + 2 * e) 1 = 2 := by rw [ht]; rcases ht2 with rfl | rfl <;> decide
  have hcell : ∀ c j, ¬ (c = 4 + 2 * e ∧ j = 1) → ¬ (c = 13 + 14 * p ∧ j = 2) → up2 (up2 S (4 + 2 * e) 1 2) (13 + 14 * p) 2 (nI e) c j = S c j := fun c j q1 q2 => by rw [up2_at, if_neg q2, up2_at, if_neg q1]
  have hst : up2 (up2 S (4 + 2 * e) 1 2) (13 + 14 * p) 2 (nI e) (4 + 2 * e) 1 = 2 := by rw [up2_at, if_neg (by omega), up2_at, if_pos ⟨rfl, rfl⟩]
  have hpe : up2 (up2 S (4 + 2 * e) 1 2) (13 + 14 * p) 2 (nI e) (13 + 14 * p) 2 = nI e := by rw [up2_at, if_pos ⟨rfl, rfl⟩]
  have hz : ∀ e', e' < 4 → (up2 (up2 S (4 + 2 * e) 1 2) (13 + 14 * p) 2 (nI e) (4 + 2 * e') 1 = 0 ↔ S (4 + 2 * e') 1 = 0) := by
    intro e' he'
    by_cases q : e' = e
    · rw [q, hst]
      exact ⟨fun w => absurd w (by decide), fun w => absurd w ht0⟩
    · rw [hcell _ _ (by omega) (by omega)]
  have h2 : ∀ e', e' < 4 → ∀ j, j = 2 ∨ j = 3 ∨ j = 5 → up2 (up2 S (4 + 2 * e) 1 2) (13 + 14 * p) 2 (nI e) (4 + 2 * e') j = S (4 + 2 * e') j := fun e' he' j hj => hcell _ _ (by omega) (by omega)
  have hother : ∀ p', p' < 2 → p' ≠ p → ∀ e', e' < 4 → S (13 + 14 * p') 2 = nI e' → S (4 + 2 * e') 1 = 2 → e' ≠ e := fun p' _ _ e' _ _ q2 q => ht2' (by rw [← q]; exact q2)
  refine PR.one hp ⟨⟨?_, ?_, fun a ha => ?_, fun g hg => ?_, fun p' hp' k hk => ?_, fun e' he' => ?_⟩, fun p' hp' => ?_, ⟨fun p' hp' => ?_, ?_⟩, hE.cg hz (fun e' he' => ?_) h2, hO.cg (fun g _ => ?_) hz h2⟩ (fun p' hp' hq => (hg p' hp').tr (hP.ok p' hp') (fun k hk j hj => ?_) ?_ hz h2)
  · rw [hcell _ _ (by omega) (by omega), up2_ne (by omega), up2_ne (by omega)]; exact a1
  · rw [hcell _ _ (by omega) (by omega), up2_ne (by omega), up2_ne (by omega)]; exact a2
  · rw [hcell _ _ (by omega) (by omega), up2_ne (by omega), up2_ne (by omega)]; exact a3 a ha
  · rw [hcell _ _ (by omega) (by omega), up2_ne (by omega), up2_ne (by omega)]; exact a4 g hg
  · rw [hcell _ _ (by omega) (by omega), up2_ne (by omega), up2_ne (by omega)]; exact a5 p' hp' k hk
  · by_cases q : e' = e
    · subst q
      obtain ⟨r1, r2, r3, r4⟩ := a6 e' he'
      have m5 : up2 (up2 M 5 e' 2) 4 p (nI e') 5 e' = 2 := by rw [up2_ne (by omega), up2_at, if_pos ⟨rfl, rfl⟩]
      have mo : ∀ c, c ≠ 4 → c ≠ 5 → up2 (up2 M 5 e' 2) 4 p (nI e') c = M c := fun c q1 q2 => by rw [up2_ne q1, up2_ne q2]
      refine ⟨by rw [hst, m5], fun _ => ?_, ?_, fun _ => ⟨?_, fun k hk => ?_⟩⟩
      · rw [hcell _ _ (by omega) (by omega), hcell _ _ (by omega) (by omega), hcell _ _ (by omega) (by omega), hcell _ _ (by omega) (by omega), hcell _ _ (by omega) (by omega), mo 6 (by decide) (by decide), mo 7 (by decide) (by decide), mo 8 (by decide) (by decide), mo 9 (by decide) (by decide), mo 10 (by decide) (by decide)]
        exact r2 (by rw [← r1]; exact ht0)
      · rw [hcell _ _ (by omega) (by omega), mo 11 (by decide) (by decide)]; exact r3
      · rw [hcell _ _ (by omega) (by omega), mo 12 (by decide) (by decide)]; exact hpc
      · rw [hcell _ _ (by omega) (by omega), mo 13 (by decide) (by decide)]; exact hrg k hk
    · refine (a6 e' he').of (fun j => hcell _ _ (by omega) (by omega)) (fun k _ => hcell _ _ (by omega) (by omega)) (fun c h5 h12 => ?_) (fun k _ => ?_)
      · rw [up2_ne (by omega), up2_at, if_neg (by omega)]
      · rw [up2_ne (by omega), up2_ne (by omega)]
  · by_cases q : p' = p
    · rw [q, hpe, up2_at, if_pos ⟨rfl, rfl⟩]
    · rw [hcell _ _ (by omega) (by omega), up2_at, if_neg (by omega), up2_ne (by omega)]; exact b p' hp'
  · by_cases q : p' = p
    · rw [q, hpe]
      exact Or.inr ⟨e, he, rfl, hst⟩
    · rw [hcell _ _ (by omega) (by omega)]
      rcases hP.1 p' hp' with w | ⟨e', he', w1, w2⟩
      · exact Or.inl w
      · exact Or.inr ⟨e', he', w1, by rw [hcell _ _ (by have := hother p' hp' q e' he' w1 w2; omega) (by omega)]; exact w2⟩
  · intro q
    have hp01 : p = 0 ∨ p = 1 := by omega
    rcases hp01 with rfl | rfl
    · rw [show (13 : Nat) = 13 + 14 * 0 from rfl, hpe, hcell 27 2 (by omega) (by omega)] at q
      rcases hP.1 1 (by decide) with w | ⟨e', he', w1, w2⟩
      · rw [show (27 : Nat) = 13 + 14 * 1 from rfl, w] at q
        exact absurd q (m1_ne (by omega))
      · rw [show (27 : Nat) = 13 + 14 * 1 from rfl, w1] at q
        exact absurd ((nI_eq (by omega) (by omega)).mp q).symm (hother 1 (by decide) (by decide) e' he' w1 w2)
    · rw [show (27 : Nat) = 13 + 14 * 1 from rfl, hpe, hcell 13 2 (by omega) (by omega)] at q
      rcases hP.1 0 (by decide) with w | ⟨e', he', w1, w2⟩
      · rw [hcell 13 2 (by omega) (by omega)]; exact w
      · rw [show (13 : Nat) = 13 + 14 * 0 from rfl, w1] at q
        exact absurd ((nI_eq (by omega) (by omega)).mp q) (hother 0 (by decide) (by decide) e' he' w1 w2)
  · by_cases q : e' = e
    · rw [q, hst]; exact ⟨2, by decide, rfl⟩
    · rw [hcell _ _ (by omega) (by omega)]; exact hE.2 e' he'
  · exact hcell _ _ (by omega) (by omega)
  · exact hcell _ _ (by omega) (by omega)
  · exact hcell _ _ (by omega) (by omega)
end
section
theorem ten_at {M : St} {e c j : Nat} {v : Int32} (he : e < 4) (h1 : ¬ (c = 12 ∧ j = e)) (h2 : ¬ (c = 13 ∧ 8 * e ≤ j ∧ j < 8 * e + 8)) : tSt M (nI e) v c j = M c j := by
  rw [tSt_at he, if_neg h1, if_neg h2]
theorem sst_at {S : St} {i c j : Nat} {v : Int32} (h1 : ¬ (c = i ∧ j = 7)) (h2 : ¬ (c = i + 1 ∧ j < 8)) : sStart S i v c j = S c j := by
  rw [sStart_at, if_neg h1, if_neg h2]
theorem start_pr {S M : St} {e : Nat} {v : Int32} (he : e < 4) (hR : Rel S M) (h1 : S (4 + 2 * e) 1 = 1) : PR (sStart S (4 + 2 * e) v) (tSt M (nI e) v) ∧ ∀ p', p' < 2 → GO (sStart S (4 + 2 * e) v) p' := by
  obtain ⟨⟨a1, a2, a3, a4, a5, a6⟩, b, hP, hE, hO, hG⟩ := hR
  have h2 : ∀ e', e' < 4 → ∀ j, j ≠ 7 → sStart S (4 + 2 * e) v (4 + 2 * e') j = S (4 + 2 * e') j := fun e' he' j hj => sst_at (by omega) (by omega)
  have hz : ∀ e', e' < 4 → (sStart S (4 + 2 * e) v (4 + 2 * e') 1 = 0 ↔ S (4 + 2 * e') 1 = 0) := fun e' he' => by rw [h2 e' he' 1 (by decide)]
  have h3 : ∀ e', e' < 4 → ∀ j, j = 2 ∨ j = 3 ∨ j = 5 → sStart S (4 + 2 * e) v (4 + 2 * e') j = S (4 + 2 * e') j := fun e' he' j hj => h2 e' he' j (by omega)
  refine ⟨⟨⟨?_, ?_, fun a ha => ?_, fun g hg => ?_, fun p' hp' k hk => ?_, fun e' he' => ?_⟩, fun p' hp' => ?_, hP.cg (fun p' hp' => sst_at (by omega) (by omega)) (fun e' he' => h2 e' he' 1 (by decide)), hE.cg hz (fun e' he' => by rw [h2 e' he' 1 (by decide)]; exact hE.2 e' he') h3, hO.cg (fun g _ => sst_at (by omega) (by omega)) hz h3⟩, fun p' hp' => GO.tr (hG p' hp') (hP.ok p' hp') (fun k hk j hj => sst_at (by omega) (by omega)) (sst_at (by omega) (by omega)) hz h3⟩
  · rw [sst_at (by omega) (by omega), ten_at he (by omega) (by omega)]; exact a1
  · rw [sst_at (by omega) (by omega), ten_at he (by omega) (by omega)]; exact a2
  · rw [sst_at (by omega) (by omega), ten_at he (by omega) (by omega)]; exact a3 a ha
  · rw [sst_at (by omega) (by omega), ten_at he (by omega) (by omega)]; exact a4 g hg
  · rw [sst_at (by omega) (by omega), ten_at he (by omega) (by omega)]; exact a5 p' hp' k hk
  · by_cases q : e' = e
    · subst q
      obtain ⟨r1, r2, r3, r4⟩ := a6 e' he'
      have m5 : M 5 e' = 1 := by rw [← r1, h1]
      refine ⟨by rw [sst_at (by omega) (by omega), ten_at he (by omega) (by omega)]; exact r1, fun _ => ?_, by rw [sst_at (by omega) (by omega), ten_at he (by omega) (by omega)]; exact r3, fun w => ?_⟩
      · rw [sst_at (by omega) (by omega), sst_at (by omega) (by omega), sst_at (by omega) (by omega), sst_at (by omega) (by omega), sst_at (by omega) (by omega), ten_at he (by omega) (by omega), ten_at he (by omega) (by omega), ten_at he (by omega) (by omega), ten_at he (by omega) (by omega), ten_at he (by omega) (by omega)]
        exact r2 (by rw [m5]; decide)
      · rw [ten_at he (by omega) (by omega), m5] at w
        rcases w with w | w <;> exact absurd w (by decide)
    · refine (a6 e' he').of (fun j => sst_at (by omega) (by omega)) (fun k hk => sst_at (by omega) (by omega)) (fun c h5 h12 => ten_at he (by omega) (by omega)) (fun k hk => ten_at he (by omega) (by omega))
  · rw [sst_at (by omega) (by omega), ten_at he (by omega) (by omega)]; exact b p' hp'
theorem R_Run {S M : St} (hR : Rel S M) (z q v : Int32) : vRun S z q = wRun M z q ∧ Rel (sRun S z q v) (tRun M z q v) := by
  unfold vRun wRun sRun tRun
  rw [busy_eq hR, thr_eq hR]
  by_cases h : bsM M z = true
  · rw [if_pos h, if_pos h, if_pos h, if_pos h]; exact ⟨rfl, hR⟩
  · have hb : bsM M z = false := by simpa using h
    rw [if_neg h, if_neg h, if_neg h, if_neg h]
    have hfree : S (13 + 14 * z.toNatClampNeg) 2 = -1 := busy_no (by rw [busy_eq hR]; exact hb)
    obtain ⟨p, hp, rfl⟩ := bs_p hb
    rw [nI_clamp (by omega)] at hfree
    by_cases h2 : thM M q = false
    · rw [if_pos h2, if_pos h2, if_pos h2, if_pos h2]; exact ⟨rfl, hR⟩
    · rw [if_neg h2, if_neg h2, if_neg h2, if_neg h2]
      obtain ⟨e, he, rfl⟩ := inr_ex (k := 4) (by decide) rfl (thM_in (show thM M q = true by simpa using h2))
      rw [nI_clamp (by omega)]
      obtain ⟨r1, r2, r3, r4⟩ := hR.1.2.2.2.2.2 e he
      by_cases h3 : M 5 e = 1
      · have h3' : S (4 + 2 * e) 1 = 1 := r1.trans h3
        rw [if_pos h3, if_pos h3, if_pos h3', if_pos h3']
        refine ⟨rfl, ?_⟩
        obtain ⟨s1, s2⟩ := start_pr (v := v) he hR h3'
        refine go_rel (t := 1) hp he s1 s2 (by rw [sst_at (by omega) (by omega)]; exact h3') (Or.inl rfl) (by rw [sst_at (by omega) (by omega)]; exact hfree) ?_ (fun k hk => ?_)
        · rw [sStart_at, if_pos ⟨rfl, rfl⟩, tSt_at he, if_pos ⟨rfl, rfl⟩]
          exact (r2 (by rw [h3]; decide)).2.2.1
        · have e1 : sStart S (4 + 2 * e) v (4 + 2 * e + 1) k = if k = 1 then v else 0 := by rw [sStart_at, if_neg (by omega), if_pos ⟨rfl, hk⟩]
          have e2 : tSt M (nI e) v 13 (8 * e + k) = if 8 * e + k = 8 * e + 1 then v else 0 := by rw [tSt_at he, if_neg (by omega), if_pos ⟨rfl, by omega, by omega⟩]
          rw [e1, e2]
          by_cases hk1 : k = 1
          · rw [if_pos hk1, if_pos (by omega)]
          · rw [if_neg hk1, if_neg (by omega)]
      · have h3' : ¬ S (4 + 2 * e) 1 = 1 := fun w => h3 (r1.symm.trans w)
        rw [if_neg h3, if_neg h3, if_neg h3', if_neg h3']
        by_cases h4 : M 5 e = 3
        · have h4' : S (4 + 2 * e) 1 = 3 := r1.trans h4
          rw [if_pos h4, if_pos h4, if_pos h4', if_pos h4']
          obtain ⟨r5, r6⟩ := r4 (Or.inr h4)
          exact ⟨rfl, go_rel (t := 3) hp he hR.pr hR.go h4' (Or.inr rfl) hfree r5 r6⟩
        · have h4' : ¬ S (4 + 2 * e) 1 = 3 := fun w => h4 (r1.symm.trans w)
          rw [if_neg h4, if_neg h4, if_neg h4', if_neg h4']
          exact ⟨rfl, hR⟩
-- ===== an enclave leaves its processor =====
theorem leave_rel {S M S1 M1 : St} {p e t : Nat} (hp : p < 2) (he : e < 4) (hR : Rel S M) (hpe : S (13 + 14 * p) 2 = nI e) (hst : S (4 + 2 * e) 1 = 2) (ht : t = 3 ∨ t = 4 ∨ t = 5)
    (hS1 : ∀ c j, ¬ (c = 4 + 2 * e ∧ (j = 1 ∨ j = 7 ∨ j = 8)) → S1 c j = S c j) (hM1 : ∀ c j, ¬ (c = 5 ∧ j = e) → ¬ (c = 11 ∧ j = e) → ¬ (c = 12 ∧ j = e) → ¬ (c = 4 ∧ j = p) → M1 c j = M c j)
    (h1 : S1 (4 + 2 * e) 1 = nI t) (h2 : M1 5 e = nI t) (h3 : M1 4 p = -1) (h4 : S1 (4 + 2 * e) 8 = M1 11 e) (h5 : t = 3 → S1 (4 + 2 * e) 7 = M1 12 e) : Rel (sGs (up2 S1 (13 + 14 * p) 2 (-1)) (13 + 14 * p)) M1 := by
  obtain ⟨⟨a1, a2, a3, a4, a5, a6⟩, b, hP, hE, hO, hG⟩ := hR
  have hcell : ∀ c j, ¬ (c = 4 + 2 * e ∧ (j = 1 ∨ j = 7 ∨ j = 8)) → ¬ (c = 13 + 14 * p ∧ j = 2) → up2 S1 (13 + 14 * p) 2 (-1) c j = S c j := fun c j q1 q2 => by rw [up2_at, if_neg q2]; exact hS1 c j q1
  have he1 : ∀ j, up2 S1 (13 + 14 * p) 2 (-1) (4 + 2 * e) j = S1 (4 + 2 * e) j := fun j => by rw [up2_at, if_neg (by omega)]
  have hpe' : up2 S1 (13 + 14 * p) 2 (-1) (13 + 14 * p) 2 = -1 := by rw [up2_at, if_pos ⟨rfl, rfl⟩]
  have ht0 : ¬ nI t = 0 := nI_ne0 (by omega) (by omega)
  have hz : ∀ e', e' < 4 → (up2 S1 (13 + 14 * p) 2 (-1) (4 + 2 * e') 1 = 0 ↔ S (4 + 2 * e') 1 = 0) := by
    intro e' he'
    by_cases q : e' = e
    · rw [q, he1, h1, hst]
      exact ⟨fun w => absurd w ht0, fun w => absurd w (by decide)⟩
    · rw [hcell _ _ (by omega) (by omega)]
  have g2 : ∀ e', e' < 4 → ∀ j, j = 2 ∨ j = 3 ∨ j = 5 → up2 S1 (13 + 14 * p) 2 (-1) (4 + 2 * e') j = S (4 + 2 * e') j := fun e' he' j hj => hcell _ _ (by omega) (by omega)
  have hother : ∀ p', p' < 2 → p' ≠ p → ∀ e', e' < 4 → S (13 + 14 * p') 2 = nI e' → e' ≠ e := by
    intro p' hp' hq e' he' w1 q
    rw [q, ← hpe] at w1
    have := hP.2
    have hp01 : (p = 0 ∧ p' = 1) ∨ (p = 1 ∧ p' = 0) := by omega
    rcases hp01 with ⟨rfl, rfl⟩ | ⟨rfl, rfl⟩
    · have w := this w1.symm
      rw [show (13 : Nat) = 13 + 14 * 0 from rfl, hpe] at w
      exact absurd w (m1_ne (by omega))
    · have w := this w1
      rw [show (13 : Nat) = 13 + 14 * 0 from rfl, w1, hpe] at w
      exact absurd w (m1_ne (by omega))
  refine PR.one hp ⟨⟨?_, ?_, fun a ha => ?_, fun g hg => ?_, fun p' hp' k hk => ?_, fun e' he' => ?_⟩, fun p' hp' => ?_, ⟨fun p' hp' => ?_, ?_⟩, hE.cg hz (fun e' he' => ?_) g2, hO.cg (fun g _ => ?_) hz g2⟩ (fun p' hp' hq => GO.tr (hG p' hp') (hP.ok p' hp') (fun k hk j hj => ?_) ?_ hz g2)
  · rw [hcell _ _ (by omega) (by omega), hM1 _ _ (by omega) (by omega) (by omega) (by omega)]; exact a1
  · rw [hcell _ _ (by omega) (by omega), hM1 _ _ (by omega) (by omega) (by omega) (by omega)]; exact a2
  · rw [hcell _ _ (by omega) (by omega), hM1 _ _ (by omega) (by omega) (by omega) (by omega)]; exact a3 a ha
  · rw [hcell _ _ (by omega) (by omega), hM1 _ _ (by omega) (by omega) (by omega) (by omega)]; exact a4 g hg
  · rw [hcell _ _ (by omega) (by omega), hM1 _ _ (by omega) (by omega) (by omega) (by omega)]; exact a5 p' hp' k hk
  · by_cases q : e' = e
    · subst q
      obtain ⟨r1, r2, r3, r4⟩ := a6 e' he'
      have m2 : M 5 e' = 2 := by rw [← r1, hst]
      refine ⟨by rw [he1, h1, h2], fun _ => ?_, by rw [he1]; exact h4, fun w => ?_⟩
      · rw [hcell _ _ (by omega) (by omega), hcell _ _ (by omega) (by omega), hcell _ _ (by omega) (by omega), hcell _ _ (by omega) (by omega), hcell _ _ (by omega) (by omega), hM1 _ _ (by omega) (by omega) (by omega) (by omega), hM1 _ _ (by omega) (by omega) (by omega) (by omega), hM1 _ _ (by omega) (by omega) (by omega) (by omega), hM1 _ _ (by omega) (by omega) (by omega) (by omega), hM1 _ _ (by omega) (by omega) (by omega) (by omega)]
        exact r2 (by rw [m2]; decide)
      · rw [h2] at w
        have t3 : t = 3 := by
          rcases ht with rfl | rfl | rfl
          · rfl
          · rcases w with w | w <;> exact absurd w (by decide)
          · rcases w with w | w <;> exact absurd w (by decide)
        obtain ⟨-, r6⟩ := r4 (Or.inl m2)
        refine ⟨by rw [he1]; exact h5 t3, fun k hk => ?_⟩
        rw [hcell _ _ (by omega) (by omega), hM1 _ _ (by omega) (by omega) (by omega) (by omega)]
        exact r6 k hk
    · exact (a6 e' he').of (fun j => hcell _ _ (by omega) (by omega)) (fun k _ => hcell _ _ (by omega) (by omega)) (fun c h5 h12 => hM1 _ _ (by omega) (by omega) (by omega) (by omega)) (fun k _ => hM1 _ _ (by omega) (by omega) (by omega) (by omega))
  · by_cases q : p' = p
    · rw [q, hpe', h3]
    · rw [hcell _ _ (by omega) (by omega), hM1 _ _ (by omega) (by omega) (by omega) (by omega)]; exact b p' hp'
  · by_cases q : p' = p
    · rw [q, hpe']; exact Or.inl rfl
    · rw [hcell _ _ (by omega) (by omega)]
      rcases hP.1 p' hp' with w | ⟨e', he', w1, w2⟩
      · exact Or.inl w
      · exact Or.inr ⟨e', he', w1, by rw [hcell _ _ (by have := hother p' hp' q e' he' w1; omega) (by omega)]; exact w2⟩
  · intro q
    have hp01 : p = 0 ∨ p = 1 := by omega
    rcases hp01 with rfl | rfl
    · exact hpe'
    · rw [q]; exact hpe'
  · by_cases q : e' = e
    · rw [q, he1, h1]; exact ⟨t, by omega, rfl⟩
    · rw [hcell _ _ (by omega) (by omega)]; exact hE.2 e' he'
  · exact hcell _ _ (by omega) (by omega)
  · exact hcell _ _ (by omega) (by omega)
  · exact hcell _ _ (by omega) (by omega)
theorem lvM_at {M : St} {p e c j : Nat} {t : Int32} (h4 : M 4 p = nI e) (he : e < 4) : lvM M p t c j = if c = 4 ∧ j = p then -1 else if c = 5 ∧ j = e then t else M c j := by
  unfold lvM
  rw [up2_at, up2_at, h4, nI_clamp (by omega)]
theorem run_ex {S M : St} (hR : Rel S M) {z : Int32} (h : rnM M z = true) : ∃ p e, p < 2 ∧ z = nI p ∧ e < 4 ∧ S (13 + 14 * p) 2 = nI e ∧ S (4 + 2 * e) 1 = 2 ∧ M 4 p = nI e := by
  unfold rnM at h
  rw [Bool.and_eq_true] at h
  obtain ⟨p, hp, rfl⟩ := inr_ex (k := 2) (by decide) rfl h.1
  have h2 := h.2
  rw [nI_clamp (by omega)] at h2
  rcases hR.2.2.1.1 p hp with w | ⟨e, he, w1, w2⟩
  · rw [decide_eq_true ((pe_lt hR hp).mp w)] at h2
    cases h2
  · exact ⟨p, e, hp, rfl, he, w1, w2, by rw [← hR.2.1 p hp]; exact w1⟩
theorem R_int {S M : St} (hR : Rel S M) (z : Int32) : vInt S z = (if inr z 2 = true ∧ ¬ M 4 z.toNatClampNeg < 0 then M 4 z.toNatClampNeg else -1) ∧ Rel (sInt S z) (if inr z 2 = true ∧ ¬ M 4 z.toNatClampNeg < 0 then lvM M z.toNatClampNeg 3 else M) := by
  have hc : (inr z 2 = true ∧ ¬ M 4 z.toNatClampNeg < 0) ↔ rnM M z = true := by
    unfold rnM
    rw [Bool.and_eq_true]
    simp
  unfold vInt sInt
  rw [runs_eq hR]
  by_cases h : rnM M z = true
  · rw [if_pos h, if_pos h, if_pos (hc.mpr h), if_pos (hc.mpr h)]
    obtain ⟨p, e, hp, rfl, he, h1, h2, h3⟩ := run_ex hR h
    unfold enOf
    rw [nI_clamp (by omega), h1, nI_clamp (by omega), h3]
    refine ⟨rfl, ?_⟩
    refine leave_rel (t := 3) hp he hR h1 h2 (Or.inl rfl) (fun c j q => by rw [up2_at, if_neg (by omega)]) (fun c j q1 q2 q3 q4 => by rw [lvM_at h3 he, if_neg q4, if_neg q1]) (by rw [up2_at, if_pos ⟨rfl, rfl⟩]; rfl) (by rw [lvM_at h3 he, if_neg (by omega), if_pos ⟨rfl, rfl⟩]; rfl) (by rw [lvM_at h3 he, if_pos ⟨rfl, rfl⟩]) ?_ (fun _ => ?_)
    · rw [up2_at, if_neg (by omega), lvM_at h3 he, if_neg (by omega), if_neg (by omega)]
      exact (hR.1.2.2.2.2.2 e he).2.2.1
    · rw [up2_at, if_neg (by omega), lvM_at h3 he, if_neg (by omega), if_neg (by omega)]
      obtain ⟨r1, -, -, r4⟩ := hR.1.2.2.2.2.2 e he
      exact (r4 (Or.inl (by rw [← r1]; exact h2))).1
  · rw [if_neg h, if_neg h, if_neg (fun q => h (hc.mp q)), if_neg (fun q => h (hc.mp q))]
    exact ⟨rfl, hR⟩
end
section
-- ===== step =====
theorem up2_comm {S : St} {c c' j j' : Nat} {v v' : Int32} (h : c ≠ c') : up2 (up2 S c j v) c' j' v' = up2 (up2 S c' j' v') c j v := by
  funext a b
  rw [up2_at, up2_at, up2_at, up2_at]
  by_cases h1 : a = c' ∧ b = j'
  · rw [if_pos h1, if_neg (show ¬ (a = c ∧ b = j) by omega), if_pos h1]
  · rw [if_neg h1, if_neg h1]
theorem Rel.pc {S M : St} (hR : Rel S M) {e : Nat} (he : e < 4) (v : Int32) : Rel (up2 S (4 + 2 * e) 7 v) (up2 M 12 e v) := by
  obtain ⟨⟨a1, a2, a3, a4, a5, a6⟩, b, hI⟩ := hR
  refine ⟨⟨?_, ?_, fun a ha => ?_, fun g hg => ?_, fun p hp k hk => ?_, fun e' he' => ?_⟩, fun p hp => ?_, Inv4.same hI (Same.e he (by omega))⟩
  · rw [up2_ne (by omega), up2_ne (by omega)]; exact a1
  · rw [up2_ne (by omega), up2_ne (by omega)]; exact a2
  · rw [up2_ne (by omega), up2_ne (by omega)]; exact a3 a ha
  · rw [up2_ne (by omega), up2_ne (by omega)]; exact a4 g hg
  · rw [up2_ne (by omega), up2_ne (by omega)]; exact a5 p hp k hk
  · obtain ⟨r1, r2, r3, r4⟩ := a6 e' he'
    refine ⟨by rw [up2_at, if_neg (by omega), up2_ne (by omega)]; exact r1, fun q => ?_, by rw [up2_at, if_neg (by omega), up2_ne (by omega)]; exact r3, fun q => ?_⟩
    · rw [up2_ne (by omega)] at q
      have hS : ∀ j, j ≠ 7 → up2 S (4 + 2 * e) 7 v (4 + 2 * e') j = S (4 + 2 * e') j := fun j hj => by rw [up2_at, if_neg (by omega)]
      have hM : ∀ c, c ≠ 12 → up2 M 12 e v c = M c := fun c hc => up2_ne hc
      rw [hS 2 (by decide), hS 3 (by decide), hS 4 (by decide), hS 5 (by decide), hS 6 (by decide), hM 6 (by decide), hM 7 (by decide), hM 8 (by decide), hM 9 (by decide), hM 10 (by decide)]
      exact r2 q
    · rw [up2_ne (by omega)] at q
      obtain ⟨d1, d2⟩ := r4 q
      refine ⟨?_, fun k hk => by rw [up2_ne (by omega), up2_ne (by omega)]; exact d2 k hk⟩
      rw [up2_at, up2_at]
      by_cases w : e' = e
      · rw [if_pos (by omega), if_pos (by omega)]
      · rw [if_neg (by omega), if_neg (by omega)]; exact d1
  · rw [up2_ne (by omega), up2_ne (by omega)]; exact b p hp
theorem Rel.ereg {S M : St} (hR : Rel S M) {e k : Nat} (he : e < 4) (hk : k < 8) (v : Int32) : Rel (up2 S (4 + 2 * e + 1) k v) (up2 M 13 (8 * e + k) v) := by
  obtain ⟨⟨a1, a2, a3, a4, a5, a6⟩, b, hI⟩ := hR
  refine ⟨⟨?_, ?_, fun a ha => ?_, fun g hg => ?_, fun p hp k hk => ?_, fun e' he' => ?_⟩, fun p hp => ?_, Inv4.same hI (Same.c (by omega) (by omega) (by omega) (by omega))⟩
  · rw [up2_ne (by omega), up2_ne (by omega)]; exact a1
  · rw [up2_ne (by omega), up2_ne (by omega)]; exact a2
  · rw [up2_ne (by omega), up2_ne (by omega)]; exact a3 a ha
  · rw [up2_ne (by omega), up2_ne (by omega)]; exact a4 g hg
  · rw [up2_ne (by omega), up2_ne (by omega)]; exact a5 p hp k hk
  · obtain ⟨r1, r2, r3, r4⟩ := a6 e' he'
    unfold REn
    rw [up2_ne (show 4 + 2 * e' ≠ 4 + 2 * e + 1 by omega), up2_ne (show 5 ≠ 13 by omega), up2_ne (show 6 ≠ 13 by omega), up2_ne (show 7 ≠ 13 by omega), up2_ne (show 8 ≠ 13 by omega), up2_ne (show 9 ≠ 13 by omega), up2_ne (show 10 ≠ 13 by omega), up2_ne (show 11 ≠ 13 by omega), up2_ne (show 12 ≠ 13 by omega)]
    refine ⟨r1, r2, r3, fun q => ⟨(r4 q).1, fun k' hk' => ?_⟩⟩
    rw [up2_at, up2_at]
    by_cases w : e' = e ∧ k' = k
    · rw [if_pos (by omega), if_pos (by omega)]
    · rw [if_neg (by omega), if_neg (by omega)]; exact (r4 q).2 k' hk'
  · rw [up2_ne (by omega), up2_ne (by omega)]; exact b p hp
theorem edM_at {M : St} {p e c j : Nat} {t v : Int32} (h4 : M 4 p = nI e) (he : e < 4) : edM M p t v c j = if c = 4 ∧ j = p then -1 else if c = 5 ∧ j = e then t else if c = 11 ∧ j = e then v else M c j := by
  unfold edM
  rw [lvM_at (e := e) (by rw [up2_ne (by omega)]; exact h4) he, up2_at, h4, nI_clamp (by omega)]
/-- behind a step: it goes on, or the enclave has left (the class has yet to say so) -/
def Res (p e : Nat) (S M : St) : Prop := (Rel S M ∧ S (13 + 14 * p) 2 = nI e ∧ S (4 + 2 * e) 1 = 2 ∧ M 4 p = nI e) ∨ (¬ S (4 + 2 * e) 1 = 2 ∧ M 4 p < 0 ∧ Rel (sGs (up2 S (13 + 14 * p) 2 (-1)) (13 + 14 * p)) M)
section
variable {S M : St} {p e : Nat}
theorem res_end (hp : p < 2) (he : e < 4) (hR : Rel S M) (h1 : S (13 + 14 * p) 2 = nI e) (h2 : S (4 + 2 * e) 1 = 2) (h3 : M 4 p = nI e) {S1 : St} {t : Nat} {v : Int32} (ht : t = 4 ∨ t = 5) (hS1 : ∀ c j, ¬ (c = 4 + 2 * e ∧ (j = 1 ∨ j = 7 ∨ j = 8)) → S1 c j = S c j) (h4 : S1 (4 + 2 * e) 1 = nI t) (h5 : S1 (4 + 2 * e) 8 = v) : Res p e S1 (edM M p (nI t) v) := by
  refine Or.inr ⟨by rw [h4]; rcases ht with rfl | rfl <;> decide, by rw [edM_at h3 he, if_pos ⟨rfl, rfl⟩]; decide, ?_⟩
  refine leave_rel (t := t) hp he hR h1 h2 (Or.inr ht) hS1 (fun c j q1 q2 q3 q4 => by rw [edM_at h3 he, if_neg q4, if_neg q1, if_neg q2]) h4 (by rw [edM_at h3 he, if_neg (by omega), if_pos ⟨rfl, rfl⟩]) (by rw [edM_at h3 he, if_pos ⟨rfl, rfl⟩]) (by rw [edM_at h3 he, if_neg (by omega), if_neg (by omega), if_pos ⟨rfl, rfl⟩]; exact h5) (fun q => by omega)
theorem sEnd_at {j c k : Nat} {t v : Int32} : sEnd S j t v c k = if c = j ∧ k = 8 then v else if c = j ∧ k = 1 then t else S c k := by
  unfold sEnd
  rw [up2_at, up2_at]
theorem res_fault (hp : p < 2) (he : e < 4) (hR : Rel S M) (h1 : S (13 + 14 * p) 2 = nI e) (h2 : S (4 + 2 * e) 1 = 2) (h3 : M 4 p = nI e) (v : Int32) : Res p e (sEnd S (4 + 2 * e) 5 v) (edM M p 5 v) :=
  res_end (t := 5) hp he hR h1 h2 h3 (Or.inr rfl) (fun c j q => by rw [sEnd_at, if_neg (by omega), if_neg (by omega)]) (by rw [sEnd_at, if_neg (by omega), if_pos ⟨rfl, rfl⟩]; rfl) (by rw [sEnd_at, if_pos ⟨rfl, rfl⟩])
theorem res_reg (hp : p < 2) (he : e < 4) (hR : Rel S M) (h1 : S (13 + 14 * p) 2 = nI e) (h2 : S (4 + 2 * e) 1 = 2) (h3 : M 4 p = nI e) {k : Nat} (hk : k < 8) (v n : Int32) : Res p e (up2 (up2 S (4 + 2 * e + 1) k v) (4 + 2 * e) 7 n) (up2 (up2 M 12 e n) 13 (8 * e + k) v) := by
  refine Or.inl ⟨by rw [up2_comm (c := 12) (by decide)]; exact (hR.ereg he hk v).pc he n, ?_, ?_, ?_⟩
  · rw [up2_ne (by omega), up2_ne (by omega)]; exact h1
  · rw [up2_at, if_neg (by omega), up2_ne (by omega)]; exact h2
  · rw [up2_ne (by omega), up2_ne (by omega)]; exact h3
theorem res_mem (hp : p < 2) (he : e < 4) (hR : Rel S M) (h1 : S (13 + 14 * p) 2 = nI e) (h2 : S (4 + 2 * e) 1 = 2) (h3 : M 4 p = nI e) (a : Nat) (v n : Int32) : Res p e (up2 (up2 S 1 a v) (4 + 2 * e) 7 n) (up2 (up2 M 12 e n) 1 a v) := by
  refine Or.inl ⟨by rw [up2_comm (c := 12) (by decide)]; exact (hR.mem a v).pc he n, ?_, ?_, ?_⟩
  · rw [up2_ne (by omega), up2_ne (by omega)]; exact h1
  · rw [up2_at, if_neg (by omega), up2_ne (by omega)]; exact h2
  · rw [up2_ne (by omega), up2_ne (by omega)]; exact h3
theorem fO_ex (v : Int32) : ∃ o, o < 16 ∧ fO v = nI o := by
  unfold fO
  obtain ⟨j, hj, h⟩ := pk_andE v (m := 15) 4 (by decide)
  exact ⟨j, hj, h⟩
/-- a word is done alike -/
theorem word_res (hp : p < 2) (he : e < 4) (hR : Rel S M) (h1 : S (13 + 14 * p) 2 = nI e) (h2 : S (4 + 2 * e) 1 = 2) (h3 : M 4 p = nI e) (w : Int32) : Res p e (if dwS S (13 + 14 * p) (4 + 2 * e) w (4 + 2 * e) 1 = 5 then dwS S (13 + 14 * p) (4 + 2 * e) w else up2 (dwS S (13 + 14 * p) (4 + 2 * e) w) (4 + 2 * e) 7 (dwV S (4 + 2 * e) w)) (onW M (nI p) w (S (4 + 2 * e) 7)) := by
  obtain ⟨r1, r2, r3, r4⟩ := hR.1.2.2.2.2.2 e he
  have m2 : M 5 e = 2 := by rw [← r1]; exact h2
  obtain ⟨r5, r6⟩ := r4 (Or.inl m2)
  have r7 := (r2 (by rw [m2]; decide)).2.2.2.2
  have hA := inr_j (k := 8) rfl (by decide) (fA_in w)
  have hB := inr_j (k := 8) rfl (by decide) (fB_in w)
  have xA : ixA M (nI p) w = 8 * e + (fA w).toNatClampNeg := by unfold ixA; rw [nI_clamp (by omega), h3, nI_clamp (by omega)]
  have xB : ixB M (nI p) w = 8 * e + (fB w).toNatClampNeg := by unfold ixB; rw [nI_clamp (by omega), h3, nI_clamp (by omega)]
  have vA : rgA S (4 + 2 * e) w = M 13 (8 * e + (fA w).toNatClampNeg) := by unfold rgA; exact r6 _ hA
  have vB : rgB S (4 + 2 * e) w = M 13 (8 * e + (fB w).toNatClampNeg) := by unfold rgB; exact r6 _ hB
  have xT : atM M (nI p) w = rgB S (4 + 2 * e) w + fI w := by unfold atM; rw [xB, vB]
  have c3 : (nI p).toNatClampNeg = p := nI_clamp (by omega)
  have c4 : (nI e).toNatClampNeg = e := nI_clamp (by omega)
  have k0 : M 0 0 = S 0 0 := hR.1.1.symm
  obtain ⟨o, ho, hop⟩ := fO_ex w
  have ho' : o = 0 ∨ o = 1 ∨ o = 2 ∨ o = 3 ∨ o = 4 ∨ o = 5 ∨ o = 6 ∨ o = 7 ∨ o = 8 ∨ o = 9 ∨ o = 10 ∨ 10 < o := by omega
  unfold onW pcM
  rw [xA, xB, xT, c3, h3, c4]
  rcases ho' with rfl | rfl | rfl | rfl | rfl | rfl | rfl | rfl | rfl | rfl | rfl | hbig
  · have f0 : fO w = 0 := hop
    have hd : dwS S (13 + 14 * p) (4 + 2 * e) w = sEnd S (4 + 2 * e) 4 (rgA S (4 + 2 * e) w) := by simp [dwS, f0]
    rw [hd, if_neg (show ¬ sEnd S (4 + 2 * e) 4 (rgA S (4 + 2 * e) w) (4 + 2 * e) 1 = 5 by rw [sEnd_at, if_neg (by omega), if_pos ⟨rfl, rfl⟩]; decide), if_pos f0]
    refine res_end (t := 4) hp he hR h1 h2 h3 (Or.inl rfl) (fun c j q => ?_) ?_ ?_
    · rw [up2_at, if_neg (by omega), sEnd_at, if_neg (by omega), if_neg (by omega)]
    · rw [up2_at, if_neg (by omega), sEnd_at, if_neg (by omega), if_pos ⟨rfl, rfl⟩]; rfl
    · rw [up2_at, if_neg (by omega), sEnd_at, if_pos ⟨rfl, rfl⟩, vA]
  · have f0 : fO w = 1 := hop
    have hd : dwS S (13 + 14 * p) (4 + 2 * e) w = up2 S (4 + 2 * e + 1) (fA w).toNatClampNeg (rgB S (4 + 2 * e) w + fI w) := by simp [dwS, f0]
    have hv : dwV S (4 + 2 * e) w = S (4 + 2 * e) 7 + 1 := by simp [dwV, f0]
    rw [hd, hv, if_neg (show ¬ up2 S (4 + 2 * e + 1) (fA w).toNatClampNeg (rgB S (4 + 2 * e) w + fI w) (4 + 2 * e) 1 = 5 by rw [up2_ne (by omega), h2]; decide)]
    simp only [f0]
    exact res_reg hp he hR h1 h2 h3 hA _ _
  · have f0 : fO w = 2 := hop
    have hd : dwS S (13 + 14 * p) (4 + 2 * e) w = up2 S (4 + 2 * e + 1) (fA w).toNatClampNeg (rgA S (4 + 2 * e) w + rgB S (4 + 2 * e) w) := by simp [dwS, f0]
    have hv : dwV S (4 + 2 * e) w = S (4 + 2 * e) 7 + 1 := by simp [dwV, f0]
    rw [hd, hv, if_neg (show ¬ up2 S (4 + 2 * e + 1) (fA w).toNatClampNeg (rgA S (4 + 2 * e) w + rgB S (4 + 2 * e) w) (4 + 2 * e) 1 = 5 by rw [up2_ne (by omega), h2]; decide)]
    simp only [f0]
    have hw : wkM (up2 M 12 e (S (4 + 2 * e) 7 + 1)) (nI p) 2 (8 * e + (fA w).toNatClampNeg) (8 * e + (fB w).toNatClampNeg) (rgB S (4 + 2 * e) w + fI w) (S (4 + 2 * e) 7) = up2 (up2 M 12 e (S (4 + 2 * e) 7 + 1)) 13 (8 * e + (fA w).toNatClampNeg) (rgA S (4 + 2 * e) w + rgB S (4 + 2 * e) w) := by
      unfold wkM
      rw [if_neg (by decide), if_pos rfl, up2_ne (show 13 ≠ 12 by decide), vA, vB]
    exact hw ▸ res_reg hp he hR h1 h2 h3 hA _ _
  · have f0 : fO w = 3 := hop
    have hd : dwS S (13 + 14 * p) (4 + 2 * e) w = up2 S (4 + 2 * e + 1) (fA w).toNatClampNeg (rgA S (4 + 2 * e) w ^^^ rgB S (4 + 2 * e) w) := by simp [dwS, f0]
    have hv : dwV S (4 + 2 * e) w = S (4 + 2 * e) 7 + 1 := by simp [dwV, f0]
    rw [hd, hv, if_neg (show ¬ up2 S (4 + 2 * e + 1) (fA w).toNatClampNeg (rgA S (4 + 2 * e) w ^^^ rgB S (4 + 2 * e) w) (4 + 2 * e) 1 = 5 by rw [up2_ne (by omega), h2]; decide)]
    simp only [f0]
    have hw : wkM (up2 M 12 e (S (4 + 2 * e) 7 + 1)) (nI p) 3 (8 * e + (fA w).toNatClampNeg) (8 * e + (fB w).toNatClampNeg) (rgB S (4 + 2 * e) w + fI w) (S (4 + 2 * e) 7) = up2 (up2 M 12 e (S (4 + 2 * e) 7 + 1)) 13 (8 * e + (fA w).toNatClampNeg) (rgA S (4 + 2 * e) w ^^^ rgB S (4 + 2 * e) w) := by
      unfold wkM
      rw [if_neg (by decide), if_neg (by decide), if_pos rfl, up2_ne (show 13 ≠ 12 by decide), vA, vB]
    exact hw ▸ res_reg hp he hR h1 h2 h3 hA _ _
  · have f0 : fO w = 4 := hop
    have hv : dwV S (4 + 2 * e) w = S (4 + 2 * e) 7 + 1 := by simp [dwV, f0]
    by_cases ha : alM M (nI p) (rgB S (4 + 2 * e) w + fI w) 1 = true
    · have hd : dwS S (13 + 14 * p) (4 + 2 * e) w = up2 S (4 + 2 * e + 1) (fA w).toNatClampNeg (S 1 (rgB S (4 + 2 * e) w + fI w).toNatClampNeg) := by
        have : alw S (13 + 14 * p) (rgB S (4 + 2 * e) w + fI w) 1 = true := by rw [alw_eq hR hp (Or.inl rfl)]; exact ha
        simp [dwS, f0, ldF, this]
      rw [hd, hv, if_neg (show ¬ up2 S (4 + 2 * e + 1) (fA w).toNatClampNeg (S 1 (rgB S (4 + 2 * e) w + fI w).toNatClampNeg) (4 + 2 * e) 1 = 5 by rw [up2_ne (by omega), h2]; decide)]
      simp only [f0, ha]
      have hw : wkM (up2 M 12 e (S (4 + 2 * e) 7 + 1)) (nI p) 4 (8 * e + (fA w).toNatClampNeg) (8 * e + (fB w).toNatClampNeg) (rgB S (4 + 2 * e) w + fI w) (S (4 + 2 * e) 7) = up2 (up2 M 12 e (S (4 + 2 * e) 7 + 1)) 13 (8 * e + (fA w).toNatClampNeg) (S 1 (rgB S (4 + 2 * e) w + fI w).toNatClampNeg) := by
        unfold wkM
        rw [if_neg (by decide), if_neg (by decide), if_neg (by decide), if_pos rfl, up2_ne (show 1 ≠ 12 by decide), hR.1.2.2.1 _ (inr_j (k := 256) rfl (by decide) (alM_in ha))]
      exact hw ▸ res_reg hp he hR h1 h2 h3 hA _ _
    · have ha' : alM M (nI p) (rgB S (4 + 2 * e) w + fI w) 1 = false := by simpa using ha
      have hd : dwS S (13 + 14 * p) (4 + 2 * e) w = sEnd S (4 + 2 * e) 5 2 := by
        have : alw S (13 + 14 * p) (rgB S (4 + 2 * e) w + fI w) 1 = false := by rw [alw_eq hR hp (Or.inl rfl)]; exact ha'
        simp [dwS, f0, ldF, this]
      rw [hd, if_pos (show sEnd S (4 + 2 * e) 5 2 (4 + 2 * e) 1 = 5 by rw [sEnd_at, if_neg (by omega), if_pos ⟨rfl, rfl⟩])]
      simp only [f0, ha']
      exact res_fault hp he hR h1 h2 h3 2
  · have f0 : fO w = 5 := hop
    have hv : dwV S (4 + 2 * e) w = S (4 + 2 * e) 7 + 1 := by simp [dwV, f0]
    by_cases ha : alM M (nI p) (rgB S (4 + 2 * e) w + fI w) 2 = true
    · have hd : dwS S (13 + 14 * p) (4 + 2 * e) w = up2 S 1 (rgB S (4 + 2 * e) w + fI w).toNatClampNeg (rgA S (4 + 2 * e) w) := by
        have : alw S (13 + 14 * p) (rgB S (4 + 2 * e) w + fI w) 2 = true := by rw [alw_eq hR hp (Or.inr (Or.inl rfl))]; exact ha
        simp [dwS, f0, stF, this, rgA]
      rw [hd, hv, if_neg (show ¬ up2 S 1 (rgB S (4 + 2 * e) w + fI w).toNatClampNeg (rgA S (4 + 2 * e) w) (4 + 2 * e) 1 = 5 by rw [up2_ne (by omega), h2]; decide)]
      simp only [f0, ha]
      have hw : wkM (up2 M 12 e (S (4 + 2 * e) 7 + 1)) (nI p) 5 (8 * e + (fA w).toNatClampNeg) (8 * e + (fB w).toNatClampNeg) (rgB S (4 + 2 * e) w + fI w) (S (4 + 2 * e) 7) = up2 (up2 M 12 e (S (4 + 2 * e) 7 + 1)) 1 (rgB S (4 + 2 * e) w + fI w).toNatClampNeg (rgA S (4 + 2 * e) w) := by
        unfold wkM
        rw [if_neg (by decide), if_neg (by decide), if_neg (by decide), if_neg (by decide), if_pos rfl, up2_ne (show 13 ≠ 12 by decide), vA]
      exact hw ▸ res_mem hp he hR h1 h2 h3 _ _ _
    · have ha' : alM M (nI p) (rgB S (4 + 2 * e) w + fI w) 2 = false := by simpa using ha
      have hd : dwS S (13 + 14 * p) (4 + 2 * e) w = sEnd S (4 + 2 * e) 5 3 := by
        have : alw S (13 + 14 * p) (rgB S (4 + 2 * e) w + fI w) 2 = false := by rw [alw_eq hR hp (Or.inr (Or.inl rfl))]; exact ha'
        simp [dwS, f0, stF, this]
      rw [hd, if_pos (show sEnd S (4 + 2 * e) 5 3 (4 + 2 * e) 1 = 5 by rw [sEnd_at, if_neg (by omega), if_pos ⟨rfl, rfl⟩])]
      simp only [f0, ha']
      exact res_fault hp he hR h1 h2 h3 3
  · have f0 : fO w = 6 := hop
    have hd : dwS S (13 + 14 * p) (4 + 2 * e) w = S := by simp [dwS, f0]
    have hv : dwV S (4 + 2 * e) w = if M 13 (8 * e + (fA w).toNatClampNeg) = 0 then S (4 + 2 * e) 7 + 1 + fI w else S (4 + 2 * e) 7 + 1 := by simp [dwV, f0, vA]
    rw [hd, hv, if_neg (show ¬ S (4 + 2 * e) 1 = 5 by rw [h2]; decide)]
    simp only [f0]
    have hw : ∀ n, wkM (up2 M 12 e n) (nI p) 6 (8 * e + (fA w).toNatClampNeg) (8 * e + (fB w).toNatClampNeg) (rgB S (4 + 2 * e) w + fI w) (S (4 + 2 * e) 7) = up2 M 12 e n := by
      intro n
      unfold wkM
      rw [if_neg (by decide), if_neg (by decide), if_neg (by decide), if_neg (by decide), if_neg (by decide), if_neg (by decide), if_neg (by decide), if_neg (by decide), if_neg (by decide)]
    have hres : ∀ n, Res p e (up2 S (4 + 2 * e) 7 n) (up2 M 12 e n) := fun n => Or.inl ⟨hR.pc he n, by rw [up2_ne (by omega)]; exact h1, by rw [up2_at, if_neg (by omega)]; exact h2, by rw [up2_ne (by omega)]; exact h3⟩
    have hw2 := hw (if M 13 (8 * e + (fA w).toNatClampNeg) = 0 then S (4 + 2 * e) 7 + 1 + fI w else S (4 + 2 * e) 7 + 1)
    have hr2 := hres (if M 13 (8 * e + (fA w).toNatClampNeg) = 0 then S (4 + 2 * e) 7 + 1 + fI w else S (4 + 2 * e) 7 + 1)
    rw [← hw2] at hr2
    simpa using hr2
  · have f0 : fO w = 7 := hop
    have hd : dwS S (13 + 14 * p) (4 + 2 * e) w = up2 S (4 + 2 * e + 1) (fA w).toNatClampNeg (S (4 + 2 * e) 7 + 1) := by simp [dwS, f0]
    have hv : dwV S (4 + 2 * e) w = rgB S (4 + 2 * e) w + fI w := by simp [dwV, f0]
    rw [hd, hv, if_neg (show ¬ up2 S (4 + 2 * e + 1) (fA w).toNatClampNeg (S (4 + 2 * e) 7 + 1) (4 + 2 * e) 1 = 5 by rw [up2_ne (by omega), h2]; decide)]
    simp only [f0]
    exact res_reg hp he hR h1 h2 h3 hA _ _
  · have f0 : fO w = 8 := hop
    have hd : dwS S (13 + 14 * p) (4 + 2 * e) w = up2 S (4 + 2 * e + 1) (fA w).toNatClampNeg (prfS (S 0 0) (S (4 + 2 * e) 6) (rgB S (4 + 2 * e) w)) := by simp [dwS, f0]
    have hv : dwV S (4 + 2 * e) w = S (4 + 2 * e) 7 + 1 := by simp [dwV, f0]
    rw [hd, hv, if_neg (show ¬ up2 S (4 + 2 * e + 1) (fA w).toNatClampNeg (prfS (S 0 0) (S (4 + 2 * e) 6) (rgB S (4 + 2 * e) w)) (4 + 2 * e) 1 = 5 by rw [up2_ne (by omega), h2]; decide)]
    simp only [f0]
    have hw : wkM (up2 M 12 e (S (4 + 2 * e) 7 + 1)) (nI p) 8 (8 * e + (fA w).toNatClampNeg) (8 * e + (fB w).toNatClampNeg) (rgB S (4 + 2 * e) w + fI w) (S (4 + 2 * e) 7) = up2 (up2 M 12 e (S (4 + 2 * e) 7 + 1)) 13 (8 * e + (fA w).toNatClampNeg) (prfS (S 0 0) (S (4 + 2 * e) 6) (rgB S (4 + 2 * e) w)) := by
      unfold wkM
      rw [if_neg (by decide), if_neg (by decide), if_neg (by decide), if_neg (by decide), if_neg (by decide), if_neg (by decide), if_pos rfl, up2_ne (show 13 ≠ 12 by decide), up2_ne (show 0 ≠ 12 by decide), up2_ne (show 10 ≠ 12 by decide), up2_ne (show 4 ≠ 12 by decide), c3, h3, c4, k0, ← r7, vB]
    exact hw ▸ res_reg hp he hR h1 h2 h3 hA _ _
  · have f0 : fO w = 9 := hop
    have hd : dwS S (13 + 14 * p) (4 + 2 * e) w = up2 S (4 + 2 * e + 1) (fA w).toNatClampNeg (secS (S 0 0) (S (4 + 2 * e) 6)) := by simp [dwS, f0]
    have hv : dwV S (4 + 2 * e) w = S (4 + 2 * e) 7 + 1 := by simp [dwV, f0]
    rw [hd, hv, if_neg (show ¬ up2 S (4 + 2 * e + 1) (fA w).toNatClampNeg (secS (S 0 0) (S (4 + 2 * e) 6)) (4 + 2 * e) 1 = 5 by rw [up2_ne (by omega), h2]; decide)]
    simp only [f0]
    have hw : wkM (up2 M 12 e (S (4 + 2 * e) 7 + 1)) (nI p) 9 (8 * e + (fA w).toNatClampNeg) (8 * e + (fB w).toNatClampNeg) (rgB S (4 + 2 * e) w + fI w) (S (4 + 2 * e) 7) = up2 (up2 M 12 e (S (4 + 2 * e) 7 + 1)) 13 (8 * e + (fA w).toNatClampNeg) (secS (S 0 0) (S (4 + 2 * e) 6)) := by
      unfold wkM
      rw [if_neg (by decide), if_neg (by decide), if_neg (by decide), if_neg (by decide), if_neg (by decide), if_neg (by decide), if_neg (by decide), if_pos rfl, up2_ne (show 0 ≠ 12 by decide), up2_ne (show 10 ≠ 12 by decide), up2_ne (show 4 ≠ 12 by decide), c3, h3, c4, k0, ← r7]
    exact hw ▸ res_reg hp he hR h1 h2 h3 hA _ _
  · have f0 : fO w = 10 := hop
    have hd : dwS S (13 + 14 * p) (4 + 2 * e) w = up2 S (4 + 2 * e) 1 3 := by simp [dwS, f0]
    have hv : dwV S (4 + 2 * e) w = S (4 + 2 * e) 7 + 1 := by simp [dwV, f0]
    rw [hd, hv, if_neg (show ¬ up2 S (4 + 2 * e) 1 3 (4 + 2 * e) 1 = 5 by rw [up2_at, if_pos ⟨rfl, rfl⟩]; decide)]
    simp only [f0]
    have hw : wkM (up2 M 12 e (S (4 + 2 * e) 7 + 1)) (nI p) 10 (8 * e + (fA w).toNatClampNeg) (8 * e + (fB w).toNatClampNeg) (rgB S (4 + 2 * e) w + fI w) (S (4 + 2 * e) 7) = lvM (up2 M 12 e (S (4 + 2 * e) 7 + 1)) p 3 := by
      unfold wkM
      rw [if_neg (by decide), if_neg (by decide), if_neg (by decide), if_neg (by decide), if_neg (by decide), if_neg (by decide), if_neg (by decide), if_neg (by decide), if_pos rfl, c3]
    have h3' : up2 M 12 e (S (4 + 2 * e) 7 + 1) 4 p = nI e := by rw [up2_ne (by decide)]; exact h3
    have hres : Res p e (up2 (up2 S (4 + 2 * e) 1 3) (4 + 2 * e) 7 (S (4 + 2 * e) 7 + 1)) (lvM (up2 M 12 e (S (4 + 2 * e) 7 + 1)) p 3) := by
      refine Or.inr ⟨?_, ?_, ?_⟩
      · rw [up2_at, if_neg (by omega), up2_at, if_pos ⟨rfl, rfl⟩]; decide
      · rw [lvM_at h3' he, if_pos ⟨rfl, rfl⟩]; decide
      · refine leave_rel (t := 3) hp he hR h1 h2 (Or.inl rfl) (fun c j q => ?_) (fun c j q1 q2 q3 q4 => ?_) ?_ ?_ ?_ ?_ (fun _ => ?_)
        · rw [up2_at, if_neg (by omega), up2_at, if_neg (by omega)]
        · rw [lvM_at h3' he, if_neg q4, if_neg q1, up2_at, if_neg q3]
        · rw [up2_at, if_neg (by omega), up2_at, if_pos ⟨rfl, rfl⟩]; rfl
        · rw [lvM_at h3' he, if_neg (by omega), if_pos ⟨rfl, rfl⟩]; rfl
        · rw [lvM_at h3' he, if_pos ⟨rfl, rfl⟩]
        · rw [up2_at, if_neg (by omega), up2_at, if_neg (by omega), lvM_at h3' he, if_neg (by omega), if_neg (by omega), up2_ne (by omega)]; exact r3
        · rw [up2_at, if_pos ⟨rfl, rfl⟩, lvM_at h3' he, if_neg (by omega), if_neg (by omega), up2_at, if_pos ⟨rfl, rfl⟩]
    exact hw ▸ hres
  · have hne : ∀ k, k ≤ 10 → ¬ fO w = nI k := fun k hk q => by
      rw [hop] at q
      have := (nI_eq (by omega) (by omega)).mp q
      omega
    have hbig' : ¬ fO w ≤ 10 := by rw [hop]; exact nI_ge (a := 10) hbig (by omega)
    have hd : dwS S (13 + 14 * p) (4 + 2 * e) w = sEnd S (4 + 2 * e) 5 4 := by
      unfold dwS
      rw [if_neg (show ¬ fO w = 0 from hne 0 (by decide)), if_neg (show ¬ fO w = 1 from hne 1 (by decide)), if_neg (show ¬ fO w = 2 from hne 2 (by decide)), if_neg (show ¬ fO w = 3 from hne 3 (by decide)), if_neg (show ¬ fO w = 4 from hne 4 (by decide)), if_neg (show ¬ fO w = 5 from hne 5 (by decide)), if_neg (show ¬ fO w = 6 from hne 6 (by decide)), if_neg (show ¬ fO w = 7 from hne 7 (by decide)), if_neg (show ¬ fO w = 8 from hne 8 (by decide)), if_neg (show ¬ fO w = 9 from hne 9 (by decide)), if_neg (show ¬ fO w = 10 from hne 10 (by decide))]
    rw [hd, if_pos (show sEnd S (4 + 2 * e) 5 4 (4 + 2 * e) 1 = 5 by rw [sEnd_at, if_neg (by omega), if_pos ⟨rfl, rfl⟩]), if_neg (show ¬ fO w = 0 from hne 0 (by decide)), if_pos hbig']
    exact res_fault hp he hR h1 h2 h3 4
end
end
section
theorem once_res {S M : St} {p e : Nat} (hp : p < 2) (he : e < 4) (hR : Rel S M) (h1 : S (13 + 14 * p) 2 = nI e) (h2 : S (4 + 2 * e) 1 = 2) (h3 : M 4 p = nI e) : Res p e (mkS S (13 + 14 * p) (4 + 2 * e)) (onM M (nI p)) := by
  obtain ⟨r1, -, -, r4⟩ := hR.1.2.2.2.2.2 e he
  have r5 := (r4 (Or.inl (by rw [← r1]; exact h2))).1
  unfold mkS onM
  rw [nI_clamp (show p < 2 ^ 31 by omega), h3, nI_clamp (show e < 2 ^ 31 by omega), ← r5, alw_eq hR hp (Or.inr (Or.inr rfl))]
  by_cases h : alM M (nI p) (S (4 + 2 * e) 7) 4 = true
  · rw [if_pos h, if_pos h, ← hR.1.2.2.1 _ (inr_j (k := 256) rfl (by decide) (alM_in h))]
    exact word_res hp he hR h1 h2 h3 _
  · rw [if_neg h, if_neg h]
    exact res_fault hp he hR h1 h2 h3 1
theorem steps_res {p e : Nat} (hp : p < 2) (he : e < 4) : ∀ (n k : Nat) (S M : St), Res p e S M → stp (13 + 14 * p) (4 + 2 * e) n k S = spM (nI p) n k M ∧ Rel (endS (stS (13 + 14 * p) (4 + 2 * e) n S) (13 + 14 * p) (4 + 2 * e)) (ssM (nI p) n M)
  | 0, k, S, M, h => by
    unfold stp spM stS ssM endS
    refine ⟨rfl, ?_⟩
    rcases h with ⟨a, -, c, -⟩ | ⟨a, -, c⟩
    · rw [if_pos c]; exact a
    · rw [if_neg a]; exact c
  | n + 1, k, S, M, h => by
    unfold stp spM stS ssM
    rw [nI_clamp (show p < 2 ^ 31 by omega)]
    rcases h with ⟨a, b, c, d⟩ | ⟨a, b, c⟩
    · have hn : ¬ M 4 p < 0 := by rw [d]; exact nI_pos (by omega)
      rw [if_pos c, if_pos c, if_neg hn, if_neg hn]
      exact steps_res hp he n (k + 1) _ _ (once_res hp he a b c d)
    · rw [if_neg a, if_neg a, if_pos b, if_pos b]
      refine ⟨rfl, ?_⟩
      unfold endS
      rw [if_neg a]
      exact c
theorem R_step {S M : St} (hR : Rel S M) (z N : Int32) : vStep S z N = wStep M z N ∧ Rel (sStep S z N) (tStep M z N) := by
  unfold vStep wStep sStep tStep
  rw [runs_eq hR]
  by_cases h : rnM M z = true ∧ okN N = true
  · rw [if_pos h, if_pos h, if_pos h, if_pos h]
    obtain ⟨p, e, hp, rfl, he, h1, h2, h3⟩ := run_ex hR h.1
    unfold enOf
    rw [nI_clamp (show p < 2 ^ 31 by omega), h1, nI_clamp (show e < 2 ^ 31 by omega)]
    obtain ⟨a, b⟩ := steps_res hp he N.toNatClampNeg 0 S M (Or.inl ⟨hR, h1, h2, h3⟩)
    exact ⟨by rw [a], b⟩
  · rw [if_neg h, if_neg h, if_neg h, if_neg h]
    exact ⟨rfl, hR⟩
end
section
-- ===== create =====
theorem sh_le {z : Int32} : (!decide (z ≤ 271)) = decide (271 < z) := by
  by_cases h : z ≤ 271
  · rw [decide_eq_true h, decide_eq_false (Int32.not_lt.mpr h)]; rfl
  · rw [decide_eq_false h, decide_eq_true (Int32.not_le.mp h)]; rfl
theorem wr_ok (S : St) (F N en sh : Int32) : wrM F N en sh = !okC S F N en sh := by
  unfold wrM okC arP
  by_cases h1 : N < 1
  · rw [if_pos h1, decide_eq_true h1]; rfl
  rw [if_neg h1, decide_eq_false h1]
  by_cases h2 : 8 < N
  · rw [if_pos h2, decide_eq_true h2]; rfl
  rw [if_neg h2, decide_eq_false h2]
  by_cases h3 : F < 0
  · rw [if_pos h3, show inr F 16 = false by unfold inr; rw [decide_eq_true h3]; rfl]; rfl
  rw [if_neg h3]
  by_cases h4 : 15 < F
  · rw [if_pos h4, show inr F 16 = false from inr_nle (n := 15) (by decide) rfl rfl (Int32.not_le.mpr h4)]; rfl
  rw [if_neg h4]
  have hF := inr_nlt (n := 15) (p := 16) (by decide) rfl rfl h3 h4
  rw [hF]
  obtain ⟨f, hf, rfl⟩ := inr_ex (k := 16) (by decide) rfl hF
  have hN0 : ¬ N < 0 := fun q => h1 (by
    have := Int32.lt_iff_toInt_lt.mp q
    refine Int32.lt_iff_toInt_lt.mpr ?_
    have e0 : (0 : Int32).toInt = 0 := by decide
    have e1 : (1 : Int32).toInt = 1 := by decide
    rw [e0] at this
    rw [e1]
    omega)
  obtain ⟨n, hn, rfl⟩ := inr_ex (k := 9) (by decide) rfl (inr_nlt (n := 8) (p := 9) (by decide) rfl rfl hN0 h2)
  have n1 : 1 ≤ n := by
    by_cases q : 1 ≤ n
    · exact q
    · exact absurd (nI_lt (a := n) (b := 1) (by omega) (by decide)) h1
  have e1 : nI f + nI n - 1 = nI (f + n - 1) := by rw [nI_add, show (1 : Int32) = nI 1 from rfl, pk_sub (by omega)]
  rw [e1, nI_add]
  by_cases h5 : f + n ≤ 16
  · have h5' : nI (f + n) ≤ 16 := nI_le (b := 16) h5 (by decide)
    rw [if_pos h5', show inr (nI (f + n - 1)) 16 = true from inr_nI (k := 16) (by omega) (by decide)]
    unfold onP shS
    rw [nI_add, w16, w16, w16l, w16l]
    by_cases h6 : en < nI (16 * f)
    · rw [if_pos h6, decide_eq_true h6]; rfl
    rw [if_neg h6, decide_eq_false h6]
    by_cases h7 : nI (16 * (f + n)) ≤ en
    · rw [if_pos h7, decide_eq_true h7]; rfl
    rw [if_neg h7, decide_eq_false h7]
    by_cases h8 : sh < -1
    · rw [if_pos h8, decide_eq_true h8]; rfl
    rw [if_neg h8, decide_eq_false h8, sh_le]
    cases decide (271 < sh) <;> rfl
  · have h5' : ¬ nI (f + n) ≤ 16 := nI_ge (a := 16) (by omega) (by omega)
    have h6 : inr (nI (f + n - 1)) 16 = false := by
      cases q : inr (nI (f + n - 1)) 16 with
      | false => rfl
      | true =>
        obtain ⟨g, hg, w⟩ := inr_ex (k := 16) (by decide) rfl q
        have := (nI_eq (by omega) (by omega)).mp w
        omega
    rw [if_neg h5', h6]
    rfl
theorem sys_eq {S M : St} (h : ∀ g, g < 16 → S 2 g = M 2 g) : ∀ (n f : Nat), f + n ≤ 16 → sysP S f n = sysP M f n
  | 0, f, _ => rfl
  | n + 1, f, hn => by
    unfold sysP
    rw [h f (by omega), sys_eq h n (f + 1) (by omega)]
theorem sys_at {S : St} : ∀ (n f : Nat), sysP S f n = true → ∀ g, f ≤ g → g < f + n → S 2 g = 1
  | 0, f, _, g, h1, h2 => by omega
  | n + 1, f, h, g, h1, h2 => by
    unfold sysP at h
    rw [Bool.and_eq_true] at h
    by_cases q : g = f
    · rw [q]; exact of_decide_eq_true h.1
    · exact sys_at n (f + 1) h.2 g (by omega) (by omega)
theorem can_eq {S M : St} (h : ∀ g, g < 16 → S 2 g = M 2 g) {sh : Int32} (hs : shS sh = true) (F N : Int32) : canS S sh F N = canM M sh F N := by
  unfold canS canM
  by_cases h1 : sh = -1
  · rw [decide_eq_true h1, decide_eq_true (show sh < 0 by rw [h1]; decide), Bool.true_or, Bool.true_or]
  · have h2 : ¬ sh < 0 := by
      obtain ⟨k, hk, rfl⟩ := shS_ex hs h1
      exact nI_pos (by omega)
    rw [decide_eq_false h1, decide_eq_false h2, h _ (inr_j (k := 16) rfl (by decide) (canP_in hs h1))]
    cases decide (canP sh < F) <;> cases decide (F + N ≤ canP sh) <;> rfl
theorem lfe_eq {S M : St} (h : ∀ e, e < 4 → S (4 + 2 * e) 1 = M 5 e) : ∀ (n e : Nat), e + n = 4 → lfeS S e n = if lfeM M e n = 4 then -1 else nI (lfeM M e n)
  | 0, e, he => by
    unfold lfeS lfeM
    rw [if_pos (by omega)]
  | n + 1, e, he => by
    unfold lfeS lfeM
    rw [h e (by omega)]
    by_cases q : M 5 e = 0
    · rw [if_pos q, if_pos q, if_neg (by omega)]
    · rw [if_neg q, if_neg q]
      exact lfe_eq h n (e + 1) (by omega)
theorem lfeM_0 {M : St} : ∀ (n e : Nat), e + n = 4 → ¬ lfeM M e n = 4 → M 5 (lfeM M e n) = 0 ∧ lfeM M e n < 4
  | 0, e, he, h => by unfold lfeM at h; omega
  | n + 1, e, he, h => by
    unfold lfeM at h ⊢
    by_cases q : M 5 e = 0
    · rw [if_pos q] at h ⊢; exact ⟨q, by omega⟩
    · rw [if_neg q] at h ⊢
      exact lfeM_0 n (e + 1) (by omega) h
theorem mfold_eq {f g : Nat → Int32} : ∀ (n a : Nat) (m : Int32), (∀ x, a ≤ x → x < a + n → f x = g x) → mfold f n a m = mfold g n a m
  | 0, a, m, _ => by rw [mfold_zero, mfold_zero]
  | n + 1, a, m, h => by
    rw [mfold_succ, mfold_succ, h a (by omega) (by omega)]
    exact mfold_eq n (a + 1) _ (fun x h1 h2 => h x (by omega) (by omega))
theorem mkE1_at {S : St} {i c j : Nat} {F N en sh : Int32} : mkE1 S i F N en sh c j = if c = i ∧ j = 5 then sh else if c = i ∧ j = 4 then en else if c = i ∧ j = 3 then N else if c = i ∧ j = 2 then F else if c = i ∧ j = 1 then 1 else S c j := by
  unfold mkE1
  rw [up2_at, up2_at, up2_at, up2_at, up2_at]
theorem mkM1_at {M : St} {k f n c j : Nat} {F N en sh : Int32} : mkM1 M k f n F N en sh c j = if c = 9 ∧ j = k then sh else if c = 8 ∧ j = k then en else if c = 7 ∧ j = k then N else if c = 6 ∧ j = k then F else if c = 5 ∧ j = k then 1 else if c = 2 ∧ f ≤ j ∧ j < f + n then 2 + nI k else M c j := by
  unfold mkM1
  rw [up2_at, up2_at, up2_at, up2_at, up2_at]
  rfl
/-- the state before the guards are set -/
noncomputable def mkT (S : St) (k f n : Nat) (F N en sh : Int32) : St := fil (up2 (mkE1 S (4 + 2 * k) F N en sh) (4 + 2 * k) 6 (meaS (mkE1 S (4 + 2 * k) F N en sh) (4 + 2 * k) f n)) 2 f (f + n) (2 + nI k)
theorem mkT_at {S : St} {k f n c j : Nat} {F N en sh : Int32} : mkT S k f n F N en sh c j = if c = 2 ∧ f ≤ j ∧ j < f + n then 2 + nI k else if c = 4 + 2 * k ∧ j = 6 then meaS (mkE1 S (4 + 2 * k) F N en sh) (4 + 2 * k) f n else mkE1 S (4 + 2 * k) F N en sh c j := by
  unfold mkT fil
  rw [up2_at]
theorem mkT_oth {S : St} {k f n c j : Nat} {F N en sh : Int32} (h1 : ¬ (c = 2 ∧ f ≤ j ∧ j < f + n)) (h2 : ¬ (c = 4 + 2 * k ∧ 1 ≤ j ∧ j ≤ 6)) : mkT S k f n F N en sh c j = S c j := by
  rw [mkT_at, if_neg h1, if_neg (by omega), mkE1_at, if_neg (by omega), if_neg (by omega), if_neg (by omega), if_neg (by omega), if_neg (by omega)]
theorem mkM_at {M : St} {k f n c j : Nat} {F N en sh : Int32} : mkM M k f n F N en sh c j = if c = 10 ∧ j = k then mfold (mkM1 M k f n F N en sh 1) (16 * n) (16 * f) (mixI N (en - 16 * F)) else mkM1 M k f n F N en sh c j := by
  unfold mkM
  rw [up2_at]
theorem mkM_oth {M : St} {k f n c j : Nat} {F N en sh : Int32} (h1 : ¬ (c = 2 ∧ f ≤ j ∧ j < f + n)) (h2 : ¬ (5 ≤ c ∧ c ≤ 10 ∧ j = k)) : mkM M k f n F N en sh c j = M c j := by
  rw [mkM_at, if_neg (by omega), mkM1_at, if_neg (by omega), if_neg (by omega), if_neg (by omega), if_neg (by omega), if_neg (by omega), if_neg h1]
theorem create_rel {S M : St} {k f n : Nat} {en sh : Int32} (hR : Rel S M) (hk : k < 4) (h0 : M 5 k = 0) (hn1 : 1 ≤ n) (hn : n < 9) (hfn : f + n ≤ 16) (hs : shS sh = true) (hsys : sysP S f n = true) : Rel (sAll (mkT S k f n (nI f) (nI n) en sh)) (mkM M k f n (nI f) (nI n) en sh) := by
  obtain ⟨⟨a1, a2, a3, a4, a5, a6⟩, b, hP, hE, hO, -⟩ := hR
  have hk0 : S (4 + 2 * k) 1 = 0 := by rw [(a6 k hk).1]; exact h0
  have hone := sys_at n f hsys
  have hf1 : 1 ≤ f := by
    by_cases q : 1 ≤ f
    · exact q
    · have := hone 0 (by omega) (by omega)
      rw [hO.1] at this
      exact absurd this (by decide)
  have e2k : 2 + nI k = nI (2 + k) := by rw [show (2 : Int32) = nI 2 from rfl, nI_add]
  have t1 : mkT S k f n (nI f) (nI n) en sh (4 + 2 * k) 1 = 1 := by
    rw [mkT_at, if_neg (by omega), if_neg (by omega), mkE1_at, if_neg (by omega), if_neg (by omega), if_neg (by omega), if_neg (by omega), if_pos ⟨rfl, rfl⟩]
  have t2 : mkT S k f n (nI f) (nI n) en sh (4 + 2 * k) 2 = nI f := by
    rw [mkT_at, if_neg (by omega), if_neg (by omega), mkE1_at, if_neg (by omega), if_neg (by omega), if_neg (by omega), if_pos ⟨rfl, rfl⟩]
  have t3 : mkT S k f n (nI f) (nI n) en sh (4 + 2 * k) 3 = nI n := by
    rw [mkT_at, if_neg (by omega), if_neg (by omega), mkE1_at, if_neg (by omega), if_neg (by omega), if_pos ⟨rfl, rfl⟩]
  have t4 : mkT S k f n (nI f) (nI n) en sh (4 + 2 * k) 4 = en := by
    rw [mkT_at, if_neg (by omega), if_neg (by omega), mkE1_at, if_neg (by omega), if_pos ⟨rfl, rfl⟩]
  have t5 : mkT S k f n (nI f) (nI n) en sh (4 + 2 * k) 5 = sh := by
    rw [mkT_at, if_neg (by omega), if_neg (by omega), mkE1_at, if_pos ⟨rfl, rfl⟩]
  have t6 : mkT S k f n (nI f) (nI n) en sh (4 + 2 * k) 6 = mfold (M 1) (16 * n) (16 * f) (mixI (nI n) (en - 16 * nI f)) := by
    rw [mkT_at, if_neg (by omega), if_pos ⟨rfl, rfl⟩]
    unfold meaS
    rw [show mkE1 S (4 + 2 * k) (nI f) (nI n) en sh (4 + 2 * k) 3 = nI n by rw [mkE1_at, if_neg (by omega), if_neg (by omega), if_pos ⟨rfl, rfl⟩], show mkE1 S (4 + 2 * k) (nI f) (nI n) en sh (4 + 2 * k) 4 = en by rw [mkE1_at, if_neg (by omega), if_pos ⟨rfl, rfl⟩], show mkE1 S (4 + 2 * k) (nI f) (nI n) en sh (4 + 2 * k) 2 = nI f by rw [mkE1_at, if_neg (by omega), if_neg (by omega), if_neg (by omega), if_pos ⟨rfl, rfl⟩], w16, w16l]
    refine mfold_eq _ _ _ (fun x h1 h2 => ?_)
    rw [mkE1_at, if_neg (by omega), if_neg (by omega), if_neg (by omega), if_neg (by omega), if_neg (by omega)]
    exact a3 x (by omega)
  have m5 : mkM M k f n (nI f) (nI n) en sh 5 k = 1 := by
    rw [mkM_at, if_neg (by omega), mkM1_at, if_neg (by omega), if_neg (by omega), if_neg (by omega), if_neg (by omega), if_pos ⟨rfl, rfl⟩]
  have m6 : mkM M k f n (nI f) (nI n) en sh 6 k = nI f := by
    rw [mkM_at, if_neg (by omega), mkM1_at, if_neg (by omega), if_neg (by omega), if_neg (by omega), if_pos ⟨rfl, rfl⟩]
  have m7 : mkM M k f n (nI f) (nI n) en sh 7 k = nI n := by
    rw [mkM_at, if_neg (by omega), mkM1_at, if_neg (by omega), if_neg (by omega), if_pos ⟨rfl, rfl⟩]
  have m8 : mkM M k f n (nI f) (nI n) en sh 8 k = en := by
    rw [mkM_at, if_neg (by omega), mkM1_at, if_neg (by omega), if_pos ⟨rfl, rfl⟩]
  have m9 : mkM M k f n (nI f) (nI n) en sh 9 k = sh := by
    rw [mkM_at, if_neg (by omega), mkM1_at, if_pos ⟨rfl, rfl⟩]
  have m10 : mkM M k f n (nI f) (nI n) en sh 10 k = mfold (M 1) (16 * n) (16 * f) (mixI (nI n) (en - 16 * nI f)) := by
    rw [mkM_at, if_pos ⟨rfl, rfl⟩]
    refine mfold_eq _ _ _ (fun x h1 h2 => ?_)
    rw [mkM1_at, if_neg (by omega), if_neg (by omega), if_neg (by omega), if_neg (by omega), if_neg (by omega), if_neg (by omega)]
  have tf : fE (mkT S k f n (nI f) (nI n) en sh) k = f := by unfold fE; rw [t2, nI_clamp (by omega)]
  have tn : nE (mkT S k f n (nI f) (nI n) en sh) k = n := by unfold nE; rw [t3, nI_clamp (by omega)]
  have to : ∀ e, e < 4 → e ≠ k → ∀ j, mkT S k f n (nI f) (nI n) en sh (4 + 2 * e) j = S (4 + 2 * e) j := fun e he q j => mkT_oth (by omega) (by omega)
  have g2 : ∀ g, f ≤ g → g < f + n → mkT S k f n (nI f) (nI n) en sh 2 g = nI (2 + k) := fun g h1 h2 => by rw [mkT_at, if_pos ⟨rfl, h1, h2⟩]; exact e2k
  have g3 : ∀ g, ¬ (f ≤ g ∧ g < f + n) → mkT S k f n (nI f) (nI n) en sh 2 g = S 2 g := fun g h => mkT_oth (by omega) (by omega)
  refine PR.all ⟨⟨?_, ?_, fun a ha => ?_, fun g hg => ?_, fun p' hp' k' hk' => ?_, fun e he => ?_⟩, fun p' hp' => ?_, ⟨fun p' hp' => ?_, ?_⟩, ⟨fun e he q => ?_, fun e he => ?_⟩, ⟨?_, fun g hg1 hg => ?_, fun e he g hg => ?_⟩⟩
  · rw [mkT_oth (by omega) (by omega), mkM_oth (by omega) (by omega)]; exact a1
  · rw [mkT_oth (by omega) (by omega), mkM_oth (by omega) (by omega)]; exact a2
  · rw [mkT_oth (by omega) (by omega), mkM_oth (by omega) (by omega)]; exact a3 a ha
  · by_cases q : f ≤ g ∧ g < f + n
    · rw [g2 g q.1 q.2, mkM_at, if_neg (by omega), mkM1_at, if_neg (by omega), if_neg (by omega), if_neg (by omega), if_neg (by omega), if_neg (by omega), if_pos ⟨rfl, q.1, q.2⟩, e2k]
    · rw [g3 g q, mkM_oth (by omega) (by omega)]; exact a4 g hg
  · rw [mkT_oth (by omega) (by omega), mkM_oth (by omega) (by omega)]; exact a5 p' hp' k' hk'
  · by_cases q : e = k
    · subst q
      refine ⟨by rw [t1, m5], fun _ => ⟨by rw [t2, m6], by rw [t3, m7], by rw [t4, m8], by rw [t5, m9], by rw [t6, m10]⟩, by rw [mkT_oth (by omega) (by omega), mkM_oth (by omega) (by omega)]; exact (a6 e he).2.2.1, fun w => ?_⟩
      rw [m5] at w
      rcases w with w | w <;> exact absurd w (by decide)
    · exact (a6 e he).of (fun j => to e he q j) (fun k' hk' => mkT_oth (by omega) (by omega)) (fun c h5 h12 => mkM_oth (by omega) (by omega)) (fun k' hk' => mkM_oth (by omega) (by omega))
  · rw [mkT_oth (by omega) (by omega), mkM_oth (by omega) (by omega)]; exact b p' hp'
  · rw [mkT_oth (by omega) (by omega)]
    rcases hP.1 p' hp' with w | ⟨e, he, w1, w2⟩
    · exact Or.inl w
    · have hek : e ≠ k := fun q => by rw [q, hk0] at w2; exact absurd w2 (by decide)
      exact Or.inr ⟨e, he, w1, by rw [to e he hek]; exact w2⟩
  · rw [mkT_oth (by omega) (by omega), mkT_oth (by omega) (by omega)]; exact hP.2
  · by_cases w : e = k
    · subst w
      refine ⟨by rw [t2, tf], by rw [t3, tn], by rw [tn]; exact hn1, by rw [tn]; exact hn, by rw [tf, tn]; exact hfn, by rw [t5]; exact hs⟩
    · rw [to e he w] at q
      obtain ⟨i1, i2, i3, i4, i5, i6⟩ := hE.1 e he q
      unfold EnI fE nE
      rw [to e he w, to e he w, to e he w]
      exact ⟨i1, i2, i3, i4, i5, i6⟩
  · by_cases w : e = k
    · subst w; rw [t1]; exact ⟨1, by decide, rfl⟩
    · rw [to e he w]; exact hE.2 e he
  · rw [g3 0 (by omega)]; exact hO.1
  · by_cases q : f ≤ g ∧ g < f + n
    · exact Or.inr ⟨k, hk, g2 g q.1 q.2⟩
    · rw [g3 g q]; exact hO.2.1 g hg1 hg
  · by_cases w : e = k
    · subst w
      rw [tf, tn, t1]
      by_cases q : f ≤ g ∧ g < f + n
      · rw [g2 g q.1 q.2]
        exact ⟨fun _ => ⟨by decide, q⟩, fun _ => rfl⟩
      · rw [g3 g q]
        exact ⟨fun v => absurd hk0 ((hO.2.2 e he g hg).mp v).1, fun v => absurd v.2 q⟩
    · unfold fE nE
      rw [to e he w, to e he w, to e he w]
      by_cases q : f ≤ g ∧ g < f + n
      · rw [g2 g q.1 q.2]
        have hS := hone g q.1 q.2
        refine ⟨fun v => absurd ((nI_eq (by omega) (by omega)).mp v) (by omega), fun v => ?_⟩
        have := (hO.2.2 e he g hg).mpr v
        rw [hS] at this
        exact absurd ((nI_eq (a := 1) (by decide) (by omega)).mp this) (by omega)
      · rw [g3 g q]; exact hO.2.2 e he g hg
theorem R_create {S M : St} (hR : Rel S M) (z F N en sh : Int32) : vCreate S z F N en sh = wCreate M z F N en sh ∧ Rel (sCreate S z F N en sh) (tCreate M z F N en sh) := by
  unfold vCreate wCreate sCreate tCreate
  rw [busy_eq hR, wr_ok S]
  by_cases h : bsM M z = true
  · rw [if_pos h, if_pos h, if_pos h, if_pos h]; exact ⟨rfl, hR⟩
  rw [if_neg h, if_neg h, if_neg h, if_neg h]
  by_cases h2 : okC S F N en sh = false
  · have h2' : (!okC S F N en sh) = true := by rw [h2]; rfl
    rw [if_pos h2, if_pos h2, if_pos h2', if_pos h2']; exact ⟨rfl, hR⟩
  have h2' : ¬ (!okC S F N en sh) = true := by simpa using h2
  rw [if_neg h2, if_neg h2, if_neg h2', if_neg h2']
  have hok : okC S F N en sh = true := by simpa using h2
  unfold okC at hok
  rw [Bool.and_eq_true, Bool.and_eq_true] at hok
  obtain ⟨f, n, rfl, rfl, hfn, n1, n8⟩ := arP_ex hok.1
  rw [nI_clamp (by omega), nI_clamp (by omega), sys_eq hR.1.2.2.2.1 n f hfn, can_eq hR.1.2.2.2.1 hok.2.2]
  by_cases h3 : sysP M f n = false
  · rw [if_pos h3, if_pos h3, if_pos h3, if_pos h3]; exact ⟨rfl, hR⟩
  rw [if_neg h3, if_neg h3, if_neg h3, if_neg h3]
  by_cases h4 : canM M sh (nI f) (nI n) = false
  · rw [if_pos h4, if_pos h4, if_pos h4, if_pos h4]; exact ⟨rfl, hR⟩
  rw [if_neg h4, if_neg h4, if_neg h4, if_neg h4, lfe_eq (fun e he => (hR.1.2.2.2.2.2 e he).1) 4 0 rfl]
  unfold wCr3 tCr3
  by_cases h5 : lfeM M 0 4 = 4
  · rw [if_pos h5, if_pos h5, if_pos h5, if_pos rfl, if_pos rfl]; exact ⟨rfl, hR⟩
  · obtain ⟨k0, k4⟩ := lfeM_0 4 0 rfl h5
    have hne := m1_ne (k := lfeM M 0 4) (by omega)
    rw [if_neg h5, if_neg h5, if_neg h5, if_neg hne, if_neg hne, nI_clamp (by omega)]
    refine ⟨rfl, ?_⟩
    unfold mkE
    rw [nI_clamp (by omega), nI_clamp (by omega)]
    exact create_rel hR k4 k0 n1 (by omega) hfn hok.2.2 (by rw [sys_eq hR.1.2.2.2.1 n f hfn]; simpa using h3)
end
section
-- ===== destroy =====
def rmT (S : St) (k f n : Nat) : St := up2 (fil (fil S 1 (16 * f) (16 * (f + n)) 0) 2 f (f + n) 1) (4 + 2 * k) 1 0
theorem rmT_at {S : St} {k f n c j : Nat} : rmT S k f n c j = if c = 4 + 2 * k ∧ j = 1 then 0 else if c = 2 ∧ f ≤ j ∧ j < f + n then 1 else if c = 1 ∧ 16 * f ≤ j ∧ j < 16 * (f + n) then 0 else S c j := by
  unfold rmT
  rw [up2_at]
  rfl
theorem rmT_oth {S : St} {k f n c j : Nat} (h1 : ¬ (c = 4 + 2 * k ∧ j = 1)) (h2 : ¬ (c = 2 ∧ f ≤ j ∧ j < f + n)) (h3 : ¬ (c = 1 ∧ 16 * f ≤ j ∧ j < 16 * (f + n))) : rmT S k f n c j = S c j := by
  rw [rmT_at, if_neg h1, if_neg h2, if_neg h3]
theorem tD_at {M : St} {k c j : Nat} (hk : k < 4) : up2 (ozM (wzM M (nI k) 256) (nI k) 16) 5 k 0 c j = if c = 5 ∧ j = k then 0 else if c = 2 ∧ j < 16 then (if M 2 j = nI (2 + k) then 1 else M 2 j) else if c = 1 ∧ j < 256 then (if M 2 (j / 16) = nI (2 + k) then 0 else M 1 j) else M c j := by
  have e2k : 2 + nI k = nI (2 + k) := by rw [show (2 : Int32) = nI 2 from rfl, nI_add]
  rw [up2_at]
  by_cases h : c = 5 ∧ j = k
  · rw [if_pos h, if_pos h]
  · rw [if_neg h, if_neg h]
    unfold ozM
    rw [e2k, wzM_2]
    by_cases h2 : c = 2 ∧ j < 16
    · rw [if_pos h2, if_pos h2]
    · rw [if_neg h2, if_neg h2]
      unfold wzM
      rw [e2k]
theorem destroy_rel {S M : St} {k : Nat} (hR : Rel S M) (hk : k < 4) (h0 : ¬ M 5 k = 0) (h2 : ¬ M 5 k = 2) : Rel (sAll (rmT S k (fE S k) (nE S k))) (up2 (ozM (wzM M (nI k) 256) (nI k) 16) 5 k 0) := by
  obtain ⟨⟨a1, a2, a3, a4, a5, a6⟩, b, hP, hE, hO, -⟩ := hR
  have hk0 : ¬ S (4 + 2 * k) 1 = 0 := by rw [(a6 k hk).1]; exact h0
  have hk2 : ¬ S (4 + 2 * k) 1 = 2 := by rw [(a6 k hk).1]; exact h2
  obtain ⟨i1, i2, i3, i4, i5, i6⟩ := hE.1 k hk hk0
  have hon : ∀ g, g < 16 → (S 2 g = nI (2 + k) ↔ fE S k ≤ g ∧ g < fE S k + nE S k) := fun g hg => by
    rw [hO.2.2 k hk g hg]
    exact ⟨fun w => w.2, fun w => ⟨hk0, w⟩⟩
  have hf1 : 1 ≤ fE S k := by
    by_cases q : 1 ≤ fE S k
    · exact q
    · have := (hon 0 (by decide)).mpr (by omega)
      rw [hO.1] at this
      exact absurd this.symm (nI_ne0 (by omega) (by omega))
  generalize hfe : fE S k = f at *
  generalize hne : nE S k = n at *
  have t1 : rmT S k f n (4 + 2 * k) 1 = 0 := by rw [rmT_at, if_pos ⟨rfl, rfl⟩]
  have to : ∀ e, e < 4 → ∀ j, ¬ (e = k ∧ j = 1) → rmT S k f n (4 + 2 * e) j = S (4 + 2 * e) j := fun e he j q => rmT_oth (by omega) (by omega) (by omega)
  have g2 : ∀ g, f ≤ g → g < f + n → rmT S k f n 2 g = 1 := fun g q1 q2 => by rw [rmT_at, if_neg (by omega), if_pos ⟨rfl, q1, q2⟩]
  have g3 : ∀ g, ¬ (f ≤ g ∧ g < f + n) → rmT S k f n 2 g = S 2 g := fun g q => rmT_oth (by omega) (by omega) (by omega)
  have n1 : ∀ e, e < 4 → ¬ (1 : Int32) = nI (2 + e) := fun e he q => by
    have := (nI_eq (a := 1) (by decide) (by omega)).mp q
    omega
  refine PR.all ⟨⟨?_, ?_, fun a ha => ?_, fun g hg => ?_, fun p' hp' k' hk' => ?_, fun e he => ?_⟩, fun p' hp' => ?_, ⟨fun p' hp' => ?_, ?_⟩, ⟨fun e he q => ?_, fun e he => ?_⟩, ⟨?_, fun g hg1 hg => ?_, fun e he g hg => ?_⟩⟩
  · rw [rmT_oth (by omega) (by omega) (by omega), tD_at hk, if_neg (by omega), if_neg (by omega), if_neg (by omega)]; exact a1
  · rw [rmT_oth (by omega) (by omega) (by omega), tD_at hk, if_neg (by omega), if_neg (by omega), if_neg (by omega)]; exact a2
  · rw [tD_at hk, if_neg (by omega), if_neg (by omega), if_pos ⟨rfl, ha⟩, ← a4 _ (show a / 16 < 16 by omega)]
    by_cases q : S 2 (a / 16) = nI (2 + k)
    · have := (hon _ (by omega)).mp q
      rw [if_pos q, rmT_at, if_neg (by omega), if_neg (by omega), if_pos ⟨rfl, by omega, by omega⟩]
    · have hq : ¬ (16 * f ≤ a ∧ a < 16 * (f + n)) := fun w => q ((hon _ (by omega)).mpr (by omega))
      rw [if_neg q, rmT_oth (by omega) (by omega) (by omega)]
      exact a3 a ha
  · rw [tD_at hk, if_neg (by omega), if_pos ⟨rfl, hg⟩, ← a4 g hg]
    by_cases q : S 2 g = nI (2 + k)
    · have := (hon g hg).mp q
      rw [if_pos q, g2 g this.1 this.2]
    · rw [if_neg q, g3 g (fun w => q ((hon g hg).mpr w))]
  · rw [rmT_oth (by omega) (by omega) (by omega), tD_at hk, if_neg (by omega), if_neg (by omega), if_neg (by omega)]; exact a5 p' hp' k' hk'
  · have hM : ∀ c j, ¬ (c = 5 ∧ j = k) → c ≠ 2 → c ≠ 1 → up2 (ozM (wzM M (nI k) 256) (nI k) 16) 5 k 0 c j = M c j := fun c j q1 q2 q3 => by rw [tD_at hk, if_neg q1, if_neg (by omega), if_neg (by omega)]
    by_cases q : e = k
    · subst q
      have m5 : up2 (ozM (wzM M (nI e) 256) (nI e) 16) 5 e 0 5 e = 0 := by rw [tD_at hk, if_pos ⟨rfl, rfl⟩]
      refine ⟨by rw [t1, m5], fun w => absurd m5 w, by rw [to e he 8 (by omega), hM 11 e (by omega) (by decide) (by decide)]; exact (a6 e he).2.2.1, fun w => ?_⟩
      rw [m5] at w
      rcases w with w | w <;> exact absurd w (by decide)
    · exact (a6 e he).of (fun j => to e he j (by omega)) (fun k' hk' => rmT_oth (by omega) (by omega) (by omega)) (fun c h5 h12 => hM c e (by omega) (by omega) (by omega)) (fun k' hk' => hM 13 _ (by omega) (by decide) (by decide))
  · rw [rmT_oth (by omega) (by omega) (by omega), tD_at hk, if_neg (by omega), if_neg (by omega), if_neg (by omega)]; exact b p' hp'
  · rw [rmT_oth (by omega) (by omega) (by omega)]
    rcases hP.1 p' hp' with w | ⟨e, he, w1, w2⟩
    · exact Or.inl w
    · have hek : e ≠ k := fun q => by rw [q] at w2; exact hk2 w2
      exact Or.inr ⟨e, he, w1, by rw [to e he 1 (by omega)]; exact w2⟩
  · rw [rmT_oth (by omega) (by omega) (by omega), rmT_oth (by omega) (by omega) (by omega)]; exact hP.2
  · by_cases w : e = k
    · subst w; exact absurd t1 q
    · rw [to e he 1 (by omega)] at q
      obtain ⟨j1, j2, j3, j4, j5, j6⟩ := hE.1 e he q
      unfold EnI fE nE
      rw [to e he 2 (by omega), to e he 3 (by omega), to e he 5 (by omega)]
      exact ⟨j1, j2, j3, j4, j5, j6⟩
  · by_cases w : e = k
    · subst w; rw [t1]; exact ⟨0, by decide, rfl⟩
    · rw [to e he 1 (by omega)]; exact hE.2 e he
  · rw [g3 0 (by omega)]; exact hO.1
  · by_cases q : f ≤ g ∧ g < f + n
    · exact Or.inl (g2 g q.1 q.2)
    · rw [g3 g q]; exact hO.2.1 g hg1 hg
  · by_cases w : e = k
    · subst w
      rw [t1]
      by_cases q : f ≤ g ∧ g < f + n
      · rw [g2 g q.1 q.2]
        exact ⟨fun v => absurd v (n1 e he), fun v => absurd rfl v.1⟩
      · rw [g3 g q]
        exact ⟨fun v => absurd ((hon g hg).mp v) q, fun v => absurd rfl v.1⟩
    · unfold fE nE
      rw [to e he 1 (by omega), to e he 2 (by omega), to e he 3 (by omega)]
      by_cases q : f ≤ g ∧ g < f + n
      · rw [g2 g q.1 q.2]
        refine ⟨fun v => absurd v (n1 e he), fun v => ?_⟩
        have v1 := (hO.2.2 e he g hg).mpr v
        have v2 := (hon g hg).mpr q
        rw [v2] at v1
        exact absurd ((nI_eq (by omega) (by omega)).mp v1) (by omega)
      · rw [g3 g q]; exact hO.2.2 e he g hg
theorem R_des {S M : St} (hR : Rel S M) (z q : Int32) : vDes S z q = wDes M z q ∧ Rel (sDes S z q) (tDes M z q) := by
  unfold vDes wDes sDes tDes
  rw [busy_eq hR, thr_eq hR]
  by_cases h : bsM M z = true
  · rw [if_pos h, if_pos h, if_pos h, if_pos h]; exact ⟨rfl, hR⟩
  rw [if_neg h, if_neg h, if_neg h, if_neg h]
  by_cases h2 : thM M q = false
  · rw [if_pos h2, if_pos h2, if_pos h2, if_pos h2]; exact ⟨rfl, hR⟩
  rw [if_neg h2, if_neg h2, if_neg h2, if_neg h2]
  have hth : thM M q = true := by simpa using h2
  obtain ⟨k, hk, rfl⟩ := inr_ex (k := 4) (by decide) rfl (thM_in hth)
  rw [nI_clamp (by omega), (hR.1.2.2.2.2.2 k hk).1]
  by_cases h3 : M 5 k = 2
  · rw [if_pos h3, if_pos h3, if_pos h3]; exact ⟨rfl, hR⟩
  · rw [if_neg h3, if_neg h3, if_neg h3]
    refine ⟨rfl, ?_⟩
    have h0 : ¬ M 5 k = 0 := by
      unfold thM at hth
      rw [Bool.and_eq_true, nI_clamp (by omega)] at hth
      simpa using hth.2
    exact destroy_rel hR hk h0 h3
-- ===== the start =====
theorem R_start (key : Int32) : Rel (sAll (S0 key)) (M0 key) := by
  have hen : ∀ e, e < 4 → ∀ j, S0 key (4 + 2 * e) j = if j = 5 then -1 else 0 := by
    intro e he j
    have : e = 0 ∨ e = 1 ∨ e = 2 ∨ e = 3 := by omega
    rcases this with rfl | rfl | rfl | rfl <;> rfl
  have hpe : ∀ p, p < 2 → S0 key (13 + 14 * p) 2 = -1 := by
    intro p hp
    have : p = 0 ∨ p = 1 := by omega
    rcases this with rfl | rfl <;> rfl
  have how : ∀ g, S0 key 2 g = if 1 ≤ g ∧ g < 16 then 1 else 0 := fun g => rfl
  have h1 : ∀ e, e < 4 → S0 key (4 + 2 * e) 1 = 0 := fun e he => by rw [hen e he, if_neg (by decide)]
  refine PR.all ⟨⟨rfl, rfl, fun a ha => rfl, fun g hg => rfl, fun p hp k hk => ?_, fun e he => ?_⟩, fun p hp => ?_, ⟨fun p hp => Or.inl (hpe p hp), fun _ => rfl⟩, ⟨fun e he q => absurd (h1 e he) q, fun e he => ⟨0, by decide, h1 e he⟩⟩, ⟨rfl, fun g hg1 hg => Or.inl ?_, fun e he g hg => ?_⟩⟩
  · have : p = 0 ∨ p = 1 := by omega
    rcases this with rfl | rfl <;> rfl
  · refine ⟨by rw [h1 e he]; rfl, fun w => absurd rfl w, by rw [hen e he, if_neg (by decide)]; rfl, fun w => ?_⟩
    have m5 : M0 key 5 e = 0 := rfl
    rw [m5] at w
    rcases w with w | w <;> exact absurd w (by decide)
  · rw [hpe p hp]
    have : p = 0 ∨ p = 1 := by omega
    rcases this with rfl | rfl <;> rfl
  · rw [how, if_pos ⟨hg1, hg⟩]
  · rw [h1 e he, how]
    refine ⟨fun w => ?_, fun w => absurd rfl w.1⟩
    split at w
    · have := (nI_eq (a := 1) (by decide) (by omega)).mp w
      omega
    · exact absurd w.symm (nI_ne0 (by omega) (by omega))
end
