-- ===== PART A: goes FIRST, ahead of the names: the tables' words, and 'selects' of the private methods out of them =====
/-- a private method of a class that the tables say can be made, by its rows of tables_1 -/
def lw_okq (q : MethodName × Nat) : Prop := (q.1.cls ≠ "java/lang/invoke/MethodHandle" ∧ q.1.cls ≠ "java/lang/invoke/VarHandle") ∧ Cond.instantiable q.1.cls q.2 ∈ tables_1 ∧ Cond.privateMethod q.1 ∈ tables_1 ∧ Cond.instanceMethod q.1 ∈ tables_1
theorem lw_p0 : lw_okq (⟨"FlowKernel", "isThere", "(I)Z"⟩, 3) := ⟨⟨by decide +kernel, by decide +kernel⟩, List.mem_of_getElem? (i := 10) (by decide +kernel), List.mem_of_getElem? (i := 205) (by decide +kernel), List.mem_of_getElem? (i := 206) (by decide +kernel)⟩
theorem lw_p1 : lw_okq (⟨"FlowKernel", "fileAt", "(I)LFlowKernel$StoredFile;"⟩, 3) := ⟨⟨by decide +kernel, by decide +kernel⟩, List.mem_of_getElem? (i := 10) (by decide +kernel), List.mem_of_getElem? (i := 244) (by decide +kernel), List.mem_of_getElem? (i := 245) (by decide +kernel)⟩
theorem lw_p2 : lw_okq (⟨"FlowKernel", "isFileCell", "(II)Z"⟩, 3) := ⟨⟨by decide +kernel, by decide +kernel⟩, List.mem_of_getElem? (i := 10) (by decide +kernel), List.mem_of_getElem? (i := 252) (by decide +kernel), List.mem_of_getElem? (i := 253) (by decide +kernel)⟩
theorem lw_p3 : lw_okq (⟨"FlowKernel", "step", "(LFlowKernel$Slot;)V"⟩, 3) := ⟨⟨by decide +kernel, by decide +kernel⟩, List.mem_of_getElem? (i := 10) (by decide +kernel), List.mem_of_getElem? (i := 275) (by decide +kernel), List.mem_of_getElem? (i := 276) (by decide +kernel)⟩
theorem lw_p4 : lw_okq (⟨"FlowKernel", "systemCall", "(LFlowKernel$Slot;I)V"⟩, 3) := ⟨⟨by decide +kernel, by decide +kernel⟩, List.mem_of_getElem? (i := 10) (by decide +kernel), List.mem_of_getElem? (i := 286) (by decide +kernel), List.mem_of_getElem? (i := 287) (by decide +kernel)⟩
theorem lw_p5 : lw_okq (⟨"FlowKernel", "readList", "(LFlowKernel$Slot;I)Z"⟩, 3) := ⟨⟨by decide +kernel, by decide +kernel⟩, List.mem_of_getElem? (i := 10) (by decide +kernel), List.mem_of_getElem? (i := 290) (by decide +kernel), List.mem_of_getElem? (i := 291) (by decide +kernel)⟩
theorem lw_p6 : lw_okq (⟨"FlowKernel", "send", "(LFlowKernel$Slot;III)I"⟩, 3) := ⟨⟨by decide +kernel, by decide +kernel⟩, List.mem_of_getElem? (i := 10) (by decide +kernel), List.mem_of_getElem? (i := 323) (by decide +kernel), List.mem_of_getElem? (i := 324) (by decide +kernel)⟩
theorem lw_p7 : lw_okq (⟨"FlowKernel", "pass", "(LFlowKernel$Slot;III)I"⟩, 3) := ⟨⟨by decide +kernel, by decide +kernel⟩, List.mem_of_getElem? (i := 10) (by decide +kernel), List.mem_of_getElem? (i := 332) (by decide +kernel), List.mem_of_getElem? (i := 333) (by decide +kernel)⟩
theorem lw_p8 : lw_okq (⟨"FlowKernel", "read", "(LFlowKernel$Slot;II)I"⟩, 3) := ⟨⟨by decide +kernel, by decide +kernel⟩, List.mem_of_getElem? (i := 10) (by decide +kernel), List.mem_of_getElem? (i := 353) (by decide +kernel), List.mem_of_getElem? (i := 354) (by decide +kernel)⟩
theorem lw_p9 : lw_okq (⟨"FlowKernel", "write", "(LFlowKernel$Slot;III)I"⟩, 3) := ⟨⟨by decide +kernel, by decide +kernel⟩, List.mem_of_getElem? (i := 10) (by decide +kernel), List.mem_of_getElem? (i := 357) (by decide +kernel), List.mem_of_getElem? (i := 358) (by decide +kernel)⟩
theorem lw_p10 : lw_okq (⟨"FlowKernel", "spawn", "(LFlowKernel$Slot;III)I"⟩, 3) := ⟨⟨by decide +kernel, by decide +kernel⟩, List.mem_of_getElem? (i := 10) (by decide +kernel), List.mem_of_getElem? (i := 361) (by decide +kernel), List.mem_of_getElem? (i := 362) (by decide +kernel)⟩
theorem lw_p11 : lw_okq (⟨"FlowKernel", "isOutput", "(II)Z"⟩, 3) := ⟨⟨by decide +kernel, by decide +kernel⟩, List.mem_of_getElem? (i := 10) (by decide +kernel), List.mem_of_getElem? (i := 409) (by decide +kernel), List.mem_of_getElem? (i := 410) (by decide +kernel)⟩
theorem lw_p12 : lw_okq (⟨"FlowKernelModel", "isThere", "(I)Z"⟩, 18) := ⟨⟨by decide +kernel, by decide +kernel⟩, List.mem_of_getElem? (i := 429) (by decide +kernel), List.mem_of_getElem? (i := 514) (by decide +kernel), List.mem_of_getElem? (i := 515) (by decide +kernel)⟩
theorem lw_p13 : lw_okq (⟨"FlowKernelModel", "setTag", "(IIZ)I"⟩, 18) := ⟨⟨by decide +kernel, by decide +kernel⟩, List.mem_of_getElem? (i := 429) (by decide +kernel), List.mem_of_getElem? (i := 518) (by decide +kernel), List.mem_of_getElem? (i := 519) (by decide +kernel)⟩
theorem lw_p14 : lw_okq (⟨"FlowKernelModel", "many", "(I)I"⟩, 18) := ⟨⟨by decide +kernel, by decide +kernel⟩, List.mem_of_getElem? (i := 429) (by decide +kernel), List.mem_of_getElem? (i := 522) (by decide +kernel), List.mem_of_getElem? (i := 523) (by decide +kernel)⟩
theorem lw_p15 : lw_okq (⟨"FlowKernelModel", "at", "(III)I"⟩, 18) := ⟨⟨by decide +kernel, by decide +kernel⟩, List.mem_of_getElem? (i := 429) (by decide +kernel), List.mem_of_getElem? (i := 530) (by decide +kernel), List.mem_of_getElem? (i := 531) (by decide +kernel)⟩
def lw_privs_1 : List (MethodName × Nat) := [(⟨"FlowKernel", "isThere", "(I)Z"⟩, 3), (⟨"FlowKernel", "fileAt", "(I)LFlowKernel$StoredFile;"⟩, 3), (⟨"FlowKernel", "isFileCell", "(II)Z"⟩, 3), (⟨"FlowKernel", "step", "(LFlowKernel$Slot;)V"⟩, 3), (⟨"FlowKernel", "systemCall", "(LFlowKernel$Slot;I)V"⟩, 3), (⟨"FlowKernel", "readList", "(LFlowKernel$Slot;I)Z"⟩, 3), (⟨"FlowKernel", "send", "(LFlowKernel$Slot;III)I"⟩, 3), (⟨"FlowKernel", "pass", "(LFlowKernel$Slot;III)I"⟩, 3), (⟨"FlowKernel", "read", "(LFlowKernel$Slot;II)I"⟩, 3), (⟨"FlowKernel", "write", "(LFlowKernel$Slot;III)I"⟩, 3), (⟨"FlowKernel", "spawn", "(LFlowKernel$Slot;III)I"⟩, 3), (⟨"FlowKernel", "isOutput", "(II)Z"⟩, 3), (⟨"FlowKernelModel", "isThere", "(I)Z"⟩, 18), (⟨"FlowKernelModel", "setTag", "(IIZ)I"⟩, 18), (⟨"FlowKernelModel", "many", "(I)I"⟩, 18), (⟨"FlowKernelModel", "at", "(III)I"⟩, 18)]
theorem lw_r1 : ∀ q ∈ lw_privs_1, lw_okq q := List.forall_mem_cons.mpr ⟨lw_p0, List.forall_mem_cons.mpr ⟨lw_p1, List.forall_mem_cons.mpr ⟨lw_p2, List.forall_mem_cons.mpr ⟨lw_p3, List.forall_mem_cons.mpr ⟨lw_p4, List.forall_mem_cons.mpr ⟨lw_p5, List.forall_mem_cons.mpr ⟨lw_p6, List.forall_mem_cons.mpr ⟨lw_p7, List.forall_mem_cons.mpr ⟨lw_p8, List.forall_mem_cons.mpr ⟨lw_p9, List.forall_mem_cons.mpr ⟨lw_p10, List.forall_mem_cons.mpr ⟨lw_p11, List.forall_mem_cons.mpr ⟨lw_p12, List.forall_mem_cons.mpr ⟨lw_p13, List.forall_mem_cons.mpr ⟨lw_p14, List.forall_mem_cons.mpr ⟨lw_p15, fun _ h => absurd h List.not_mem_nil⟩⟩⟩⟩⟩⟩⟩⟩⟩⟩⟩⟩⟩⟩⟩⟩
theorem lw_p16 : lw_okq (⟨"FlowKernelModel", "capabilities", "(II)I"⟩, 18) := ⟨⟨by decide +kernel, by decide +kernel⟩, List.mem_of_getElem? (i := 429) (by decide +kernel), List.mem_of_getElem? (i := 534) (by decide +kernel), List.mem_of_getElem? (i := 535) (by decide +kernel)⟩
theorem lw_p17 : lw_okq (⟨"FlowKernelModel", "isContent", "(II)Z"⟩, 18) := ⟨⟨by decide +kernel, by decide +kernel⟩, List.mem_of_getElem? (i := 429) (by decide +kernel), List.mem_of_getElem? (i := 546) (by decide +kernel), List.mem_of_getElem? (i := 547) (by decide +kernel)⟩
theorem lw_p18 : lw_okq (⟨"FlowKernelModel", "comes", "(IIII)V"⟩, 18) := ⟨⟨by decide +kernel, by decide +kernel⟩, List.mem_of_getElem? (i := 429) (by decide +kernel), List.mem_of_getElem? (i := 554) (by decide +kernel), List.mem_of_getElem? (i := 555) (by decide +kernel)⟩
theorem lw_p19 : lw_okq (⟨"FlowKernelModel", "copyLabel", "(II)V"⟩, 18) := ⟨⟨by decide +kernel, by decide +kernel⟩, List.mem_of_getElem? (i := 429) (by decide +kernel), List.mem_of_getElem? (i := 558) (by decide +kernel), List.mem_of_getElem? (i := 559) (by decide +kernel)⟩
theorem lw_p20 : lw_okq (⟨"FlowKernelModel", "turn", "(I)V"⟩, 18) := ⟨⟨by decide +kernel, by decide +kernel⟩, List.mem_of_getElem? (i := 429) (by decide +kernel), List.mem_of_getElem? (i := 566) (by decide +kernel), List.mem_of_getElem? (i := 567) (by decide +kernel)⟩
theorem lw_p21 : lw_okq (⟨"FlowKernelModel", "traps", "(II)V"⟩, 18) := ⟨⟨by decide +kernel, by decide +kernel⟩, List.mem_of_getElem? (i := 429) (by decide +kernel), List.mem_of_getElem? (i := 573) (by decide +kernel), List.mem_of_getElem? (i := 574) (by decide +kernel)⟩
theorem lw_p22 : lw_okq (⟨"FlowKernelModel", "call", "(II)V"⟩, 18) := ⟨⟨by decide +kernel, by decide +kernel⟩, List.mem_of_getElem? (i := 429) (by decide +kernel), List.mem_of_getElem? (i := 577) (by decide +kernel), List.mem_of_getElem? (i := 578) (by decide +kernel)⟩
theorem lw_p23 : lw_okq (⟨"FlowKernelModel", "newTag", "(I)I"⟩, 18) := ⟨⟨by decide +kernel, by decide +kernel⟩, List.mem_of_getElem? (i := 429) (by decide +kernel), List.mem_of_getElem? (i := 581) (by decide +kernel), List.mem_of_getElem? (i := 582) (by decide +kernel)⟩
theorem lw_p24 : lw_okq (⟨"FlowKernelModel", "lists", "(II)Z"⟩, 18) := ⟨⟨by decide +kernel, by decide +kernel⟩, List.mem_of_getElem? (i := 429) (by decide +kernel), List.mem_of_getElem? (i := 585) (by decide +kernel), List.mem_of_getElem? (i := 586) (by decide +kernel)⟩
theorem lw_p25 : lw_okq (⟨"FlowKernelModel", "changes", "(I)I"⟩, 18) := ⟨⟨by decide +kernel, by decide +kernel⟩, List.mem_of_getElem? (i := 429) (by decide +kernel), List.mem_of_getElem? (i := 590) (by decide +kernel), List.mem_of_getElem? (i := 591) (by decide +kernel)⟩
theorem lw_p26 : lw_okq (⟨"FlowKernelModel", "drops", "(III)I"⟩, 18) := ⟨⟨by decide +kernel, by decide +kernel⟩, List.mem_of_getElem? (i := 429) (by decide +kernel), List.mem_of_getElem? (i := 594) (by decide +kernel), List.mem_of_getElem? (i := 595) (by decide +kernel)⟩
theorem lw_p27 : lw_okq (⟨"FlowKernelModel", "sends", "(IIII)V"⟩, 18) := ⟨⟨by decide +kernel, by decide +kernel⟩, List.mem_of_getElem? (i := 429) (by decide +kernel), List.mem_of_getElem? (i := 598) (by decide +kernel), List.mem_of_getElem? (i := 599) (by decide +kernel)⟩
theorem lw_p28 : lw_okq (⟨"FlowKernelModel", "isInLabel", "(II)Z"⟩, 18) := ⟨⟨by decide +kernel, by decide +kernel⟩, List.mem_of_getElem? (i := 429) (by decide +kernel), List.mem_of_getElem? (i := 602) (by decide +kernel), List.mem_of_getElem? (i := 603) (by decide +kernel)⟩
theorem lw_p29 : lw_okq (⟨"FlowKernelModel", "passes", "(IIII)I"⟩, 18) := ⟨⟨by decide +kernel, by decide +kernel⟩, List.mem_of_getElem? (i := 429) (by decide +kernel), List.mem_of_getElem? (i := 606) (by decide +kernel), List.mem_of_getElem? (i := 607) (by decide +kernel)⟩
theorem lw_p30 : lw_okq (⟨"FlowKernelModel", "receives", "(I)I"⟩, 18) := ⟨⟨by decide +kernel, by decide +kernel⟩, List.mem_of_getElem? (i := 429) (by decide +kernel), List.mem_of_getElem? (i := 610) (by decide +kernel), List.mem_of_getElem? (i := 611) (by decide +kernel)⟩
theorem lw_p31 : lw_okq (⟨"FlowKernelModel", "dropFirst", "(I)V"⟩, 18) := ⟨⟨by decide +kernel, by decide +kernel⟩, List.mem_of_getElem? (i := 429) (by decide +kernel), List.mem_of_getElem? (i := 614) (by decide +kernel), List.mem_of_getElem? (i := 615) (by decide +kernel)⟩
def lw_privs_2 : List (MethodName × Nat) := [(⟨"FlowKernelModel", "capabilities", "(II)I"⟩, 18), (⟨"FlowKernelModel", "isContent", "(II)Z"⟩, 18), (⟨"FlowKernelModel", "comes", "(IIII)V"⟩, 18), (⟨"FlowKernelModel", "copyLabel", "(II)V"⟩, 18), (⟨"FlowKernelModel", "turn", "(I)V"⟩, 18), (⟨"FlowKernelModel", "traps", "(II)V"⟩, 18), (⟨"FlowKernelModel", "call", "(II)V"⟩, 18), (⟨"FlowKernelModel", "newTag", "(I)I"⟩, 18), (⟨"FlowKernelModel", "lists", "(II)Z"⟩, 18), (⟨"FlowKernelModel", "changes", "(I)I"⟩, 18), (⟨"FlowKernelModel", "drops", "(III)I"⟩, 18), (⟨"FlowKernelModel", "sends", "(IIII)V"⟩, 18), (⟨"FlowKernelModel", "isInLabel", "(II)Z"⟩, 18), (⟨"FlowKernelModel", "passes", "(IIII)I"⟩, 18), (⟨"FlowKernelModel", "receives", "(I)I"⟩, 18), (⟨"FlowKernelModel", "dropFirst", "(I)V"⟩, 18)]
theorem lw_r2 : ∀ q ∈ lw_privs_2, lw_okq q := List.forall_mem_cons.mpr ⟨lw_p16, List.forall_mem_cons.mpr ⟨lw_p17, List.forall_mem_cons.mpr ⟨lw_p18, List.forall_mem_cons.mpr ⟨lw_p19, List.forall_mem_cons.mpr ⟨lw_p20, List.forall_mem_cons.mpr ⟨lw_p21, List.forall_mem_cons.mpr ⟨lw_p22, List.forall_mem_cons.mpr ⟨lw_p23, List.forall_mem_cons.mpr ⟨lw_p24, List.forall_mem_cons.mpr ⟨lw_p25, List.forall_mem_cons.mpr ⟨lw_p26, List.forall_mem_cons.mpr ⟨lw_p27, List.forall_mem_cons.mpr ⟨lw_p28, List.forall_mem_cons.mpr ⟨lw_p29, List.forall_mem_cons.mpr ⟨lw_p30, List.forall_mem_cons.mpr ⟨lw_p31, fun _ h => absurd h List.not_mem_nil⟩⟩⟩⟩⟩⟩⟩⟩⟩⟩⟩⟩⟩⟩⟩⟩
theorem lw_p32 : lw_okq (⟨"FlowKernelModel", "creates", "(I)I"⟩, 18) := ⟨⟨by decide +kernel, by decide +kernel⟩, List.mem_of_getElem? (i := 429) (by decide +kernel), List.mem_of_getElem? (i := 618) (by decide +kernel), List.mem_of_getElem? (i := 619) (by decide +kernel)⟩
theorem lw_p33 : lw_okq (⟨"FlowKernelModel", "reads", "(III)I"⟩, 18) := ⟨⟨by decide +kernel, by decide +kernel⟩, List.mem_of_getElem? (i := 429) (by decide +kernel), List.mem_of_getElem? (i := 622) (by decide +kernel), List.mem_of_getElem? (i := 623) (by decide +kernel)⟩
theorem lw_p34 : lw_okq (⟨"FlowKernelModel", "spawns", "(IIII)I"⟩, 18) := ⟨⟨by decide +kernel, by decide +kernel⟩, List.mem_of_getElem? (i := 429) (by decide +kernel), List.mem_of_getElem? (i := 626) (by decide +kernel), List.mem_of_getElem? (i := 627) (by decide +kernel)⟩
theorem lw_p35 : lw_okq (⟨"FlowKernelModel", "puts", "(II)V"⟩, 18) := ⟨⟨by decide +kernel, by decide +kernel⟩, List.mem_of_getElem? (i := 429) (by decide +kernel), List.mem_of_getElem? (i := 630) (by decide +kernel), List.mem_of_getElem? (i := 631) (by decide +kernel)⟩
theorem lw_p36 : lw_okq (⟨"FlowKernelModel", "works", "(III)V"⟩, 18) := ⟨⟨by decide +kernel, by decide +kernel⟩, List.mem_of_getElem? (i := 429) (by decide +kernel), List.mem_of_getElem? (i := 634) (by decide +kernel), List.mem_of_getElem? (i := 635) (by decide +kernel)⟩
theorem lw_p37 : lw_okq (⟨"FlowKernelModel", "isOutput", "(II)Z"⟩, 18) := ⟨⟨by decide +kernel, by decide +kernel⟩, List.mem_of_getElem? (i := 429) (by decide +kernel), List.mem_of_getElem? (i := 654) (by decide +kernel), List.mem_of_getElem? (i := 655) (by decide +kernel)⟩
def lw_privs_3 : List (MethodName × Nat) := [(⟨"FlowKernelModel", "creates", "(I)I"⟩, 18), (⟨"FlowKernelModel", "reads", "(III)I"⟩, 18), (⟨"FlowKernelModel", "spawns", "(IIII)I"⟩, 18), (⟨"FlowKernelModel", "puts", "(II)V"⟩, 18), (⟨"FlowKernelModel", "works", "(III)V"⟩, 18), (⟨"FlowKernelModel", "isOutput", "(II)Z"⟩, 18)]
theorem lw_r3 : ∀ q ∈ lw_privs_3, lw_okq q := List.forall_mem_cons.mpr ⟨lw_p32, List.forall_mem_cons.mpr ⟨lw_p33, List.forall_mem_cons.mpr ⟨lw_p34, List.forall_mem_cons.mpr ⟨lw_p35, List.forall_mem_cons.mpr ⟨lw_p36, List.forall_mem_cons.mpr ⟨lw_p37, fun _ h => absurd h List.not_mem_nil⟩⟩⟩⟩⟩⟩
def lw_privs : List (MethodName × Nat) := lw_privs_1 ++ (lw_privs_2 ++ (lw_privs_3))
def lw_tbl : List Cond := k2_sels lw_privs ++ tables_1
theorem lw_privs_ok : ∀ q ∈ lw_privs, lw_okq q := by
  show ∀ q ∈ lw_privs_1 ++ (lw_privs_2 ++ (lw_privs_3)), lw_okq q
  exact List.forall_mem_append.mpr ⟨lw_r1, List.forall_mem_append.mpr ⟨lw_r2, lw_r3⟩⟩
def RX0 : String := "FlowKernel$Message"
def TX0 : u_T := fun k => match k with
  | 0 => ("FlowKernel$Message", "label", "LFlowKernel$TagSet;", true)
  | 1 => ("FlowKernel$Message", "from", "I", false)
  | 2 => ("FlowKernel$Message", "value", "I", false)
  | _ => ("FlowKernel$Message", "kind", "I", false)
def tyX0 : Nat → FieldType := fun k => match k with
  | 0 => .object "FlowKernel$TagSet"
  | 1 => .int
  | 2 => .int
  | _ => .int
theorem nmX0 : ∀ a, a < 4 → ∀ b, b < 4 → a ≠ b → (TX0 a).2.1 ≠ (TX0 b).2.1 := by decide +kernel
theorem tyX0_ok : ∀ k, k < 4 → parseFieldDescriptor (TX0 k).2.2.1 = some (tyX0 k) := by decide +kernel
abbrev cX0_init : ByteArray := prog_2_method_1_code
def yX0_init : MethodName := ⟨RX0, "<init>", "()V"⟩
def RX1 : String := "FlowKernel$Queue"
def TX1 : u_T := fun k => match k with
  | 0 => ("FlowKernel$Queue", "ring", "[LFlowKernel$Message;", true)
  | 1 => ("FlowKernel$Queue", "first", "I", false)
  | _ => ("FlowKernel$Queue", "size", "I", false)
def tyX1 : Nat → FieldType := fun k => match k with
  | 0 => .array (.object "FlowKernel$Message")
  | 1 => .int
  | _ => .int
theorem nmX1 : ∀ a, a < 3 → ∀ b, b < 3 → a ≠ b → (TX1 a).2.1 ≠ (TX1 b).2.1 := by decide +kernel
theorem tyX1_ok : ∀ k, k < 3 → parseFieldDescriptor (TX1 k).2.2.1 = some (tyX1 k) := by decide +kernel
abbrev cX1_init : ByteArray := prog_3_method_1_code
def yX1_init : MethodName := ⟨RX1, "<init>", "()V"⟩
abbrev cX1_put : ByteArray := prog_3_method_2_code
def yX1_put : MethodName := ⟨RX1, "put", "(LFlowKernel$Slot;II)Z"⟩
abbrev cX1_take : ByteArray := prog_3_method_3_code
def yX1_take : MethodName := ⟨RX1, "take", "(LFlowKernel$TagSet;)LFlowKernel$Message;"⟩
def RX2 : String := "FlowKernel$Slot"
def TX2 : u_T := fun k => match k with
  | 0 => ("FlowKernel$Slot", "number", "I", true)
  | 1 => ("FlowKernel$Slot", "memory", "[I", true)
  | 2 => ("FlowKernel$Slot", "a", "I", false)
  | 3 => ("FlowKernel$Slot", "place", "I", false)
  | 4 => ("FlowKernel$Slot", "state", "I", false)
  | 5 => ("FlowKernel$Slot", "trap", "I", false)
  | 6 => ("FlowKernel$Slot", "counter", "I", false)
  | 7 => ("FlowKernel$Slot", "label", "LFlowKernel$TagSet;", true)
  | 8 => ("FlowKernel$Slot", "plus", "LFlowKernel$TagSet;", true)
  | 9 => ("FlowKernel$Slot", "minus", "LFlowKernel$TagSet;", true)
  | 10 => ("FlowKernel$Slot", "queue", "LFlowKernel$Queue;", true)
  | 11 => ("FlowKernel$Slot", "files", "[LFlowKernel$StoredFile;", true)
  | 12 => ("FlowKernel$Slot", "outputs", "[I", true)
  | 13 => ("FlowKernel$Slot", "outputLabelSizes", "[I", true)
  | _ => ("FlowKernel$Slot", "outputCount", "I", false)
def tyX2 : Nat → FieldType := fun k => match k with
  | 0 => .int
  | 1 => .array .int
  | 2 => .int
  | 3 => .int
  | 4 => .int
  | 5 => .int
  | 6 => .int
  | 7 => .object "FlowKernel$TagSet"
  | 8 => .object "FlowKernel$TagSet"
  | 9 => .object "FlowKernel$TagSet"
  | 10 => .object "FlowKernel$Queue"
  | 11 => .array (.object "FlowKernel$StoredFile")
  | 12 => .array .int
  | 13 => .array .int
  | _ => .int
theorem nmX2 : ∀ a, a < 15 → ∀ b, b < 15 → a ≠ b → (TX2 a).2.1 ≠ (TX2 b).2.1 := by decide +kernel
theorem tyX2_ok : ∀ k, k < 15 → parseFieldDescriptor (TX2 k).2.2.1 = some (tyX2 k) := by decide +kernel
abbrev cX2_init : ByteArray := prog_4_method_1_code
def yX2_init : MethodName := ⟨RX2, "<init>", "(I)V"⟩
abbrev cX2_stopBy : ByteArray := prog_4_method_2_code
def yX2_stopBy : MethodName := ⟨RX2, "stopBy", "(I)V"⟩
abbrev cX2_capabilities : ByteArray := prog_4_method_3_code
def yX2_capabilities : MethodName := ⟨RX2, "capabilities", "(I)LFlowKernel$TagSet;"⟩
abbrev cX2_countFiles : ByteArray := prog_4_method_4_code
def yX2_countFiles : MethodName := ⟨RX2, "countFiles", "()I"⟩
abbrev cX2_newTag : ByteArray := prog_4_method_5_code
def yX2_newTag : MethodName := ⟨RX2, "newTag", "()I"⟩
abbrev cX2_relabel : ByteArray := prog_4_method_6_code
def yX2_relabel : MethodName := ⟨RX2, "relabel", "(LFlowKernel$TagSet;)I"⟩
abbrev cX2_dropCapability : ByteArray := prog_4_method_7_code
def yX2_dropCapability : MethodName := ⟨RX2, "dropCapability", "(II)I"⟩
abbrev cX2_receive : ByteArray := prog_4_method_8_code
def yX2_receive : MethodName := ⟨RX2, "receive", "()I"⟩
abbrev cX2_createFile : ByteArray := prog_4_method_9_code
def yX2_createFile : MethodName := ⟨RX2, "createFile", "(LFlowKernel$TagSet;)I"⟩
abbrev cX2_addOutput : ByteArray := prog_4_method_10_code
def yX2_addOutput : MethodName := ⟨RX2, "addOutput", "(I)I"⟩
def RX3 : String := "FlowKernel$StoredFile"
def TX3 : u_T := fun k => match k with
  | 0 => ("FlowKernel$StoredFile", "label", "LFlowKernel$TagSet;", true)
  | 1 => ("FlowKernel$StoredFile", "cells", "[I", true)
  | _ => ("FlowKernel$StoredFile", "there", "Z", false)
def tyX3 : Nat → FieldType := fun k => match k with
  | 0 => .object "FlowKernel$TagSet"
  | 1 => .array .int
  | _ => .boolean
theorem nmX3 : ∀ a, a < 3 → ∀ b, b < 3 → a ≠ b → (TX3 a).2.1 ≠ (TX3 b).2.1 := by decide +kernel
theorem tyX3_ok : ∀ k, k < 3 → parseFieldDescriptor (TX3 k).2.2.1 = some (tyX3 k) := by decide +kernel
abbrev cX3_init : ByteArray := prog_5_method_1_code
def yX3_init : MethodName := ⟨RX3, "<init>", "()V"⟩
def RX4 : String := "FlowKernel$TagSet"
def TX4 : u_T := fun k => match k with
  | 0 => ("FlowKernel$TagSet", "words", "[I", true)
  | _ => ("FlowKernel$TagSet", "size", "I", false)
def tyX4 : Nat → FieldType := fun k => match k with
  | 0 => .array .int
  | _ => .int
theorem nmX4 : ∀ a, a < 2 → ∀ b, b < 2 → a ≠ b → (TX4 a).2.1 ≠ (TX4 b).2.1 := by decide +kernel
theorem tyX4_ok : ∀ k, k < 2 → parseFieldDescriptor (TX4 k).2.2.1 = some (tyX4 k) := by decide +kernel
abbrev cX4_init : ByteArray := prog_6_method_1_code
def yX4_init : MethodName := ⟨RX4, "<init>", "()V"⟩
abbrev cX4_has : ByteArray := prog_6_method_2_code
def yX4_has : MethodName := ⟨RX4, "has", "(I)Z"⟩
abbrev cX4_add : ByteArray := prog_6_method_3_code
def yX4_add : MethodName := ⟨RX4, "add", "(I)V"⟩
abbrev cX4_remove : ByteArray := prog_6_method_4_code
def yX4_remove : MethodName := ⟨RX4, "remove", "(I)V"⟩
abbrev cX4_change : ByteArray := prog_6_method_5_code
def yX4_change : MethodName := ⟨RX4, "change", "(IZI)I"⟩
abbrev cX4_clear : ByteArray := prog_6_method_6_code
def yX4_clear : MethodName := ⟨RX4, "clear", "()V"⟩
abbrev cX4_copy : ByteArray := prog_6_method_7_code
def yX4_copy : MethodName := ⟨RX4, "copy", "(LFlowKernel$TagSet;)V"⟩
abbrev cX4_isIn : ByteArray := prog_6_method_8_code
def yX4_isIn : MethodName := ⟨RX4, "isIn", "(LFlowKernel$TagSet;)Z"⟩
abbrev cX4_isInEither : ByteArray := prog_6_method_9_code
def yX4_isInEither : MethodName := ⟨RX4, "isInEither", "(LFlowKernel$TagSet;LFlowKernel$TagSet;)Z"⟩
abbrev cX4_tagAt : ByteArray := prog_6_method_10_code
def yX4_tagAt : MethodName := ⟨RX4, "tagAt", "(I)I"⟩
def RX5 : String := "FlowKernel"
def TX5 : u_T := fun k => match k with
  | 0 => ("FlowKernel", "slots", "[LFlowKernel$Slot;", true)
  | 1 => ("FlowKernel", "listed", "LFlowKernel$TagSet;", true)
  | _ => ("FlowKernel", "turns", "I", false)
def tyX5 : Nat → FieldType := fun k => match k with
  | 0 => .array (.object "FlowKernel$Slot")
  | 1 => .object "FlowKernel$TagSet"
  | _ => .int
theorem nmX5 : ∀ a, a < 3 → ∀ b, b < 3 → a ≠ b → (TX5 a).2.1 ≠ (TX5 b).2.1 := by decide +kernel
theorem tyX5_ok : ∀ k, k < 3 → parseFieldDescriptor (TX5 k).2.2.1 = some (tyX5 k) := by decide +kernel
abbrev cX5_init : ByteArray := prog_1_method_1_code
def yX5_init : MethodName := ⟨RX5, "<init>", "()V"⟩
abbrev cX5_poke : ByteArray := prog_1_method_2_code
def yX5_poke : MethodName := ⟨RX5, "poke", "(IIIII)I"⟩
abbrev cX5_start : ByteArray := prog_1_method_3_code
def yX5_start : MethodName := ⟨RX5, "start", "(I)I"⟩
abbrev cX5_counter : ByteArray := prog_1_method_4_code
def yX5_counter : MethodName := ⟨RX5, "counter", "(II)I"⟩
abbrev cX5_tag : ByteArray := prog_1_method_5_code
def yX5_tag : MethodName := ⟨RX5, "tag", "(IIZ)I"⟩
abbrev cX5_capability : ByteArray := prog_1_method_6_code
def yX5_capability : MethodName := ⟨RX5, "capability", "(IIIZ)I"⟩
abbrev cX5_file : ByteArray := prog_1_method_7_code
def yX5_file : MethodName := ⟨RX5, "file", "(II)I"⟩
abbrev cX5_fill : ByteArray := prog_1_method_8_code
def yX5_fill : MethodName := ⟨RX5, "fill", "(III)I"⟩
abbrev cX5_post : ByteArray := prog_1_method_9_code
def yX5_post : MethodName := ⟨RX5, "post", "(III)I"⟩
abbrev cX5_run : ByteArray := prog_1_method_10_code
def yX5_run : MethodName := ⟨RX5, "run", "(I)I"⟩
abbrev cX5_cell : ByteArray := prog_1_method_11_code
def yX5_cell : MethodName := ⟨RX5, "cell", "(II)I"⟩
abbrev cX5_slot : ByteArray := prog_1_method_12_code
def yX5_slot : MethodName := ⟨RX5, "slot", "(II)I"⟩
abbrev cX5_label : ByteArray := prog_1_method_13_code
def yX5_label : MethodName := ⟨RX5, "label", "(II)I"⟩
abbrev cX5_output : ByteArray := prog_1_method_14_code
def yX5_output : MethodName := ⟨RX5, "output", "(II)I"⟩
abbrev cX5_outputTags : ByteArray := prog_1_method_15_code
def yX5_outputTags : MethodName := ⟨RX5, "outputTags", "(II)I"⟩
abbrev cX5_content : ByteArray := prog_1_method_16_code
def yX5_content : MethodName := ⟨RX5, "content", "(II)I"⟩
abbrev cX5_fileTags : ByteArray := prog_1_method_17_code
def yX5_fileTags : MethodName := ⟨RX5, "fileTags", "(I)I"⟩
abbrev cX5_mayFlow : ByteArray := prog_1_method_18_code
def yX5_mayFlow : MethodName := ⟨RX5, "mayFlow", "(II)Z"⟩
abbrev cX5_isSlot : ByteArray := prog_1_method_19_code
def yX5_isSlot : MethodName := ⟨RX5, "isSlot", "(I)Z"⟩
abbrev cX5_isPlace : ByteArray := prog_1_method_20_code
def yX5_isPlace : MethodName := ⟨RX5, "isPlace", "(I)Z"⟩
abbrev cX5_isTag : ByteArray := prog_1_method_21_code
def yX5_isTag : MethodName := ⟨RX5, "isTag", "(I)Z"⟩
abbrev cX5_isFile : ByteArray := prog_1_method_22_code
def yX5_isFile : MethodName := ⟨RX5, "isFile", "(I)Z"⟩
abbrev cX5_isThere : ByteArray := prog_1_method_23_code
def yX5_isThere : MethodName := ⟨RX5, "isThere", "(I)Z"⟩
abbrev cX5_fileAt : ByteArray := prog_1_method_24_code
def yX5_fileAt : MethodName := ⟨RX5, "fileAt", "(I)LFlowKernel$StoredFile;"⟩
abbrev cX5_isFileCell : ByteArray := prog_1_method_25_code
def yX5_isFileCell : MethodName := ⟨RX5, "isFileCell", "(II)Z"⟩
abbrev cX5_isOutput : ByteArray := prog_1_method_26_code
def yX5_isOutput : MethodName := ⟨RX5, "isOutput", "(II)Z"⟩
abbrev cX5_step : ByteArray := prog_1_method_27_code
def yX5_step : MethodName := ⟨RX5, "step", "(LFlowKernel$Slot;)V"⟩
abbrev cX5_wantsCell : ByteArray := prog_1_method_28_code
def yX5_wantsCell : MethodName := ⟨RX5, "wantsCell", "(I)Z"⟩
abbrev cX5_plainInstruction : ByteArray := prog_1_method_29_code
def yX5_plainInstruction : MethodName := ⟨RX5, "plainInstruction", "(LFlowKernel$Slot;II)V"⟩
abbrev cX5_cellInstruction : ByteArray := prog_1_method_30_code
def yX5_cellInstruction : MethodName := ⟨RX5, "cellInstruction", "(LFlowKernel$Slot;II)V"⟩
abbrev cX5_indirectInstruction : ByteArray := prog_1_method_31_code
def yX5_indirectInstruction : MethodName := ⟨RX5, "indirectInstruction", "(LFlowKernel$Slot;II)V"⟩
abbrev cX5_divideInstruction : ByteArray := prog_1_method_32_code
def yX5_divideInstruction : MethodName := ⟨RX5, "divideInstruction", "(LFlowKernel$Slot;II)V"⟩
abbrev cX5_systemCall : ByteArray := prog_1_method_33_code
def yX5_systemCall : MethodName := ⟨RX5, "systemCall", "(LFlowKernel$Slot;I)V"⟩
abbrev cX5_readList : ByteArray := prog_1_method_34_code
def yX5_readList : MethodName := ⟨RX5, "readList", "(LFlowKernel$Slot;I)Z"⟩
abbrev cX5_send : ByteArray := prog_1_method_35_code
def yX5_send : MethodName := ⟨RX5, "send", "(LFlowKernel$Slot;III)I"⟩
abbrev cX5_pass : ByteArray := prog_1_method_36_code
def yX5_pass : MethodName := ⟨RX5, "pass", "(LFlowKernel$Slot;III)I"⟩
abbrev cX5_kindOf : ByteArray := prog_1_method_37_code
def yX5_kindOf : MethodName := ⟨RX5, "kindOf", "(I)I"⟩
abbrev cX5_read : ByteArray := prog_1_method_38_code
def yX5_read : MethodName := ⟨RX5, "read", "(LFlowKernel$Slot;II)I"⟩
abbrev cX5_write : ByteArray := prog_1_method_39_code
def yX5_write : MethodName := ⟨RX5, "write", "(LFlowKernel$Slot;III)I"⟩
abbrev cX5_spawn : ByteArray := prog_1_method_40_code
def yX5_spawn : MethodName := ⟨RX5, "spawn", "(LFlowKernel$Slot;III)I"⟩
def RX6 : String := "FlowKernelModel"
def TX6 : u_T := fun k => match k with
  | 0 => ("FlowKernelModel", "memory", "[I", true)
  | 1 => ("FlowKernelModel", "a", "[I", true)
  | 2 => ("FlowKernelModel", "place", "[I", true)
  | 3 => ("FlowKernelModel", "state", "[I", true)
  | 4 => ("FlowKernelModel", "trap", "[I", true)
  | 5 => ("FlowKernelModel", "counter", "[I", true)
  | 6 => ("FlowKernelModel", "labels", "[Z", true)
  | 7 => ("FlowKernelModel", "capable", "[Z", true)
  | 8 => ("FlowKernelModel", "isFile", "[Z", true)
  | 9 => ("FlowKernelModel", "contents", "[I", true)
  | 10 => ("FlowKernelModel", "waits", "[I", true)
  | 11 => ("FlowKernelModel", "values", "[I", true)
  | 12 => ("FlowKernelModel", "senders", "[I", true)
  | 13 => ("FlowKernelModel", "kinds", "[I", true)
  | 14 => ("FlowKernelModel", "outs", "[I", true)
  | 15 => ("FlowKernelModel", "outputs", "[I", true)
  | 16 => ("FlowKernelModel", "outputTags", "[I", true)
  | _ => ("FlowKernelModel", "turns", "I", false)
def tyX6 : Nat → FieldType := fun k => match k with
  | 0 => .array .int
  | 1 => .array .int
  | 2 => .array .int
  | 3 => .array .int
  | 4 => .array .int
  | 5 => .array .int
  | 6 => .array .boolean
  | 7 => .array .boolean
  | 8 => .array .boolean
  | 9 => .array .int
  | 10 => .array .int
  | 11 => .array .int
  | 12 => .array .int
  | 13 => .array .int
  | 14 => .array .int
  | 15 => .array .int
  | 16 => .array .int
  | _ => .int
theorem nmX6 : ∀ a, a < 18 → ∀ b, b < 18 → a ≠ b → (TX6 a).2.1 ≠ (TX6 b).2.1 := by decide +kernel
theorem tyX6_ok : ∀ k, k < 18 → parseFieldDescriptor (TX6 k).2.2.1 = some (tyX6 k) := by decide +kernel
abbrev cX6_init : ByteArray := prog_8_method_1_code
def yX6_init : MethodName := ⟨RX6, "<init>", "()V"⟩
abbrev cX6_isIn : ByteArray := prog_8_method_2_code
def yX6_isIn : MethodName := ⟨RX6, "isIn", "(III)Z"⟩
abbrev cX6_isSlot : ByteArray := prog_8_method_3_code
def yX6_isSlot : MethodName := ⟨RX6, "isSlot", "(I)Z"⟩
abbrev cX6_isCell : ByteArray := prog_8_method_4_code
def yX6_isCell : MethodName := ⟨RX6, "isCell", "(I)Z"⟩
abbrev cX6_isThere : ByteArray := prog_8_method_5_code
def yX6_isThere : MethodName := ⟨RX6, "isThere", "(I)Z"⟩
abbrev cX6_many : ByteArray := prog_8_method_6_code
def yX6_many : MethodName := ⟨RX6, "many", "(I)I"⟩
abbrev cX6_isInLabel : ByteArray := prog_8_method_7_code
def yX6_isInLabel : MethodName := ⟨RX6, "isInLabel", "(II)Z"⟩
abbrev cX6_copyLabel : ByteArray := prog_8_method_8_code
def yX6_copyLabel : MethodName := ⟨RX6, "copyLabel", "(II)V"⟩
abbrev cX6_at : ByteArray := prog_8_method_9_code
def yX6_at : MethodName := ⟨RX6, "at", "(III)I"⟩
abbrev cX6_capabilities : ByteArray := prog_8_method_10_code
def yX6_capabilities : MethodName := ⟨RX6, "capabilities", "(II)I"⟩
abbrev cX6_comes : ByteArray := prog_8_method_11_code
def yX6_comes : MethodName := ⟨RX6, "comes", "(IIII)V"⟩
abbrev cX6_sends : ByteArray := prog_8_method_12_code
def yX6_sends : MethodName := ⟨RX6, "sends", "(IIII)V"⟩
abbrev cX6_dropFirst : ByteArray := prog_8_method_13_code
def yX6_dropFirst : MethodName := ⟨RX6, "dropFirst", "(I)V"⟩
abbrev cX6_traps : ByteArray := prog_8_method_14_code
def yX6_traps : MethodName := ⟨RX6, "traps", "(II)V"⟩
abbrev cX6_turn : ByteArray := prog_8_method_15_code
def yX6_turn : MethodName := ⟨RX6, "turn", "(I)V"⟩
abbrev cX6_works : ByteArray := prog_8_method_16_code
def yX6_works : MethodName := ⟨RX6, "works", "(III)V"⟩
abbrev cX6_lists : ByteArray := prog_8_method_17_code
def yX6_lists : MethodName := ⟨RX6, "lists", "(II)Z"⟩
abbrev cX6_call : ByteArray := prog_8_method_18_code
def yX6_call : MethodName := ⟨RX6, "call", "(II)V"⟩
abbrev cX6_newTag : ByteArray := prog_8_method_19_code
def yX6_newTag : MethodName := ⟨RX6, "newTag", "(I)I"⟩
abbrev cX6_changes : ByteArray := prog_8_method_20_code
def yX6_changes : MethodName := ⟨RX6, "changes", "(I)I"⟩
abbrev cX6_drops : ByteArray := prog_8_method_21_code
def yX6_drops : MethodName := ⟨RX6, "drops", "(III)I"⟩
abbrev cX6_passes : ByteArray := prog_8_method_22_code
def yX6_passes : MethodName := ⟨RX6, "passes", "(IIII)I"⟩
abbrev cX6_receives : ByteArray := prog_8_method_23_code
def yX6_receives : MethodName := ⟨RX6, "receives", "(I)I"⟩
abbrev cX6_creates : ByteArray := prog_8_method_24_code
def yX6_creates : MethodName := ⟨RX6, "creates", "(I)I"⟩
abbrev cX6_reads : ByteArray := prog_8_method_25_code
def yX6_reads : MethodName := ⟨RX6, "reads", "(III)I"⟩
abbrev cX6_spawns : ByteArray := prog_8_method_26_code
def yX6_spawns : MethodName := ⟨RX6, "spawns", "(IIII)I"⟩
abbrev cX6_puts : ByteArray := prog_8_method_27_code
def yX6_puts : MethodName := ⟨RX6, "puts", "(II)V"⟩
abbrev cX6_poke : ByteArray := prog_8_method_28_code
def yX6_poke : MethodName := ⟨RX6, "poke", "(IIIII)I"⟩
abbrev cX6_start : ByteArray := prog_8_method_29_code
def yX6_start : MethodName := ⟨RX6, "start", "(I)I"⟩
abbrev cX6_counter : ByteArray := prog_8_method_30_code
def yX6_counter : MethodName := ⟨RX6, "counter", "(II)I"⟩
abbrev cX6_setTag : ByteArray := prog_8_method_31_code
def yX6_setTag : MethodName := ⟨RX6, "setTag", "(IIZ)I"⟩
abbrev cX6_tag : ByteArray := prog_8_method_32_code
def yX6_tag : MethodName := ⟨RX6, "tag", "(IIZ)I"⟩
abbrev cX6_capability : ByteArray := prog_8_method_33_code
def yX6_capability : MethodName := ⟨RX6, "capability", "(IIIZ)I"⟩
abbrev cX6_file : ByteArray := prog_8_method_34_code
def yX6_file : MethodName := ⟨RX6, "file", "(II)I"⟩
abbrev cX6_isContent : ByteArray := prog_8_method_35_code
def yX6_isContent : MethodName := ⟨RX6, "isContent", "(II)Z"⟩
abbrev cX6_fill : ByteArray := prog_8_method_36_code
def yX6_fill : MethodName := ⟨RX6, "fill", "(III)I"⟩
abbrev cX6_post : ByteArray := prog_8_method_37_code
def yX6_post : MethodName := ⟨RX6, "post", "(III)I"⟩
abbrev cX6_run : ByteArray := prog_8_method_38_code
def yX6_run : MethodName := ⟨RX6, "run", "(I)I"⟩
abbrev cX6_cell : ByteArray := prog_8_method_39_code
def yX6_cell : MethodName := ⟨RX6, "cell", "(II)I"⟩
abbrev cX6_slot : ByteArray := prog_8_method_40_code
def yX6_slot : MethodName := ⟨RX6, "slot", "(II)I"⟩
abbrev cX6_label : ByteArray := prog_8_method_41_code
def yX6_label : MethodName := ⟨RX6, "label", "(II)I"⟩
abbrev cX6_isOutput : ByteArray := prog_8_method_42_code
def yX6_isOutput : MethodName := ⟨RX6, "isOutput", "(II)Z"⟩
abbrev cX6_output : ByteArray := prog_8_method_43_code
def yX6_output : MethodName := ⟨RX6, "output", "(II)I"⟩
abbrev cX6_outputTags : ByteArray := prog_8_method_44_code
def yX6_outputTags : MethodName := ⟨RX6, "outputTags", "(II)I"⟩
abbrev cX6_content : ByteArray := prog_8_method_45_code
def yX6_content : MethodName := ⟨RX6, "content", "(II)I"⟩
abbrev cX6_fileTags : ByteArray := prog_8_method_46_code
def yX6_fileTags : MethodName := ⟨RX6, "fileTags", "(I)I"⟩
abbrev cX6_mayFlow : ByteArray := prog_8_method_47_code
def yX6_mayFlow : MethodName := ⟨RX6, "mayFlow", "(II)Z"⟩
def RJ9 : String := "java/lang/Math"
def TJ9 : u_T := fun k => match k with
  | _ => ("", "", "", false)
def tyJ9 : Nat → FieldType := fun k => match k with
  | _ => .int
theorem nmJ9 : ∀ a, a < 0 → ∀ b, b < 0 → a ≠ b → (TJ9 a).2.1 ≠ (TJ9 b).2.1 := by decide +kernel
theorem tyJ9_ok : ∀ k, k < 0 → parseFieldDescriptor (TJ9 k).2.2.1 = some (tyJ9 k) := by decide +kernel
abbrev cJ9_floorMod_7cf53 : ByteArray := prog_9_method_50_code
def yJ9_floorMod_7cf53 : MethodName := ⟨RJ9, "floorMod", "(II)I"⟩
def RL : String := "FlowKernelLaw"
abbrev cL_law : ByteArray := code
def yL_law : MethodName := ⟨RL, "law", "([I)Z"⟩
