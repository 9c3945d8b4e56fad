section
-- ===== PART A: goes FIRST, ahead of the names: the tables' words, and 'selects' of the private methods out of them =====
/-- a private method of a class that the tables say can be made, by its rows of tables_1 -/
def lw_okq (q : MethodName × Nat) : Prop := (q.1.cls ≠ "java/lang/invoke/MethodHandle" ∧ q.1.cls ≠ "java/lang/invoke/VarHandle") ∧ Cond.instantiable q.1.cls q.2 ∈ tables_1 ∧ Cond.privateMethod q.1 ∈ tables_1 ∧ Cond.instanceMethod q.1 ∈ tables_1
theorem lw_p0 : lw_okq (⟨"FlowKernel", "isThere", "(I)Z"⟩, 3) := ⟨⟨by decide +kernel, by decide +kernel⟩, List.mem_of_getElem? (i := 10) (by decide +kernel), List.mem_of_getElem? (i := 205) (by decide +kernel), List.mem_of_getElem? (i := 206) (by decide +kernel)⟩
theorem lw_p1 : lw_okq (⟨"FlowKernel", "fileAt", "(I)LFlowKernel$StoredFile;"⟩, 3) := ⟨⟨by decide +kernel, by decide +kernel⟩, List.mem_of_getElem? (i := 10) (by decide +kernel), List.mem_of_getElem? (i := 244) (by decide +kernel), List.mem_of_getElem? (i := 245) (by decide +kernel)⟩
theorem lw_p2 : lw_okq (⟨"FlowKernel", "isFileCell", "(II)Z"⟩, 3) := ⟨⟨by decide +kernel, by decide +kernel⟩, List.mem_of_getElem? (i := 10) (by decide +kernel), List.mem_of_getElem? (i := 252) (by decide +kernel), List.mem_of_getElem? (i := 253) (by decide +kernel)⟩
theorem lw_p3 : lw_okq (⟨"FlowKernel", "step", "(LFlowKernel$Slot;)V"⟩, 3) := ⟨⟨by decide +kernel, by decide +kernel⟩, List.mem_of_getElem? (i := 10) (by decide +kernel), List.mem_of_getElem? (i := 275) (by decide +kernel), List.mem_of_getElem? (i := 276) (by decide +kernel)⟩
theorem lw_p4 : lw_okq (⟨"FlowKernel", "systemCall", "(LFlowKernel$Slot;I)V"⟩, 3) := ⟨⟨by decide +kernel, by decide +kernel⟩, List.mem_of_getElem? (i := 10) (by decide +kernel), List.mem_of_getElem? (i := 286) (by decide +kernel), List.mem_of_getElem? (i := 287) (by decide +kernel)⟩
theorem lw_p5 : lw_okq (⟨"FlowKernel", "readList", "(LFlowKernel$Slot;I)Z"⟩, 3) := ⟨⟨by decide +kernel, by decide +kernel⟩, List.mem_of_getElem? (i := 10) (by decide +kernel), List.mem_of_getElem? (i := 290) (by decide +kernel), List.mem_of_getElem? (i := 291) (by decide +kernel)⟩
theorem lw_p6 : lw_okq (⟨"FlowKernel", "send", "(LFlowKernel$Slot;III)I"⟩, 3) := ⟨⟨by decide +kernel, by decide +kernel⟩, List.mem_of_getElem? (i := 10) (by decide +kernel), List.mem_of_getElem? (i := 323) (by decide +kernel), List.mem_of_getElem? (i := 324) (by decide +kernel)⟩
theorem lw_p7 : lw_okq (⟨"FlowKernel", "pass", "(LFlowKernel$Slot;III)I"⟩, 3) := ⟨⟨by decide +kernel, by decide +kernel⟩, List.mem_of_getElem? (i := 10) (by decide +kernel), List.mem_of_getElem? (i := 332) (by decide +kernel), List.mem_of_getElem? (i := 333) (by decide +kernel)⟩
theorem lw_p8 : lw_okq (⟨"FlowKernel", "read", "(LFlowKernel$Slot;II)I"⟩, 3) := ⟨⟨by decide +kernel, by decide +kernel⟩, List.mem_of_getElem? (i := 10) (by decide +kernel), List.mem_of_getElem? (i := 353) (by decide +kernel), List.mem_of_getElem? (i := 354) (by decide +kernel)⟩
theorem lw_p9 : lw_okq (⟨"FlowKernel", "write", "(LFlowKernel$Slot;III)I"⟩, 3) := ⟨⟨by decide +kernel, by decide +kernel⟩, List.mem_of_getElem? (i := 10) (by decide +kernel), List.mem_of_getElem? (i := 357) (by decide +kernel), List.mem_of_getElem? (i := 358) (by decide +kernel)⟩
theorem lw_p10 : lw_okq (⟨"FlowKernel", "spawn", "(LFlowKernel$Slot;III)I"⟩, 3) := ⟨⟨by decide +kernel, by decide +kernel⟩, List.mem_of_getElem? (i := 10) (by decide +kernel), List.mem_of_getElem? (i := 361) (by decide +kernel), List.mem_of_getElem? (i := 362) (by decide +kernel)⟩
theorem lw_p11 : lw_okq (⟨"FlowKernel", "isOutput", "(II)Z"⟩, 3) := ⟨⟨by decide +kernel, by decide +kernel⟩, List.mem_of_getElem? (i := 10) (by decide +kernel), List.mem_of_getElem? (i := 409) (by decide +kernel), List.mem_of_getElem? (i := 410) (by decide +kernel)⟩
theorem lw_p12 : lw_okq (⟨"FlowKernelModel", "isThere", "(I)Z"⟩, 18) := ⟨⟨by decide +kernel, by decide +kernel⟩, List.mem_of_getElem? (i := 429) (by decide +kernel), List.mem_of_getElem? (i := 514) (by decide +kernel), List.mem_of_getElem? (i := 515) (by decide +kernel)⟩
theorem lw_p13 : lw_okq (⟨"FlowKernelModel", "setTag", "(IIZ)I"⟩, 18) := ⟨⟨by decide +kernel, by decide +kernel⟩, List.mem_of_getElem? (i := 429) (by decide +kernel), List.mem_of_getElem? (i := 518) (by decide +kernel), List.mem_of_getElem? (i := 519) (by decide +kernel)⟩
theorem lw_p14 : lw_okq (⟨"FlowKernelModel", "many", "(I)I"⟩, 18) := ⟨⟨by decide +kernel, by decide +kernel⟩, List.mem_of_getElem? (i := 429) (by decide +kernel), List.mem_of_getElem? (i := 522) (by decide +kernel), List.mem_of_getElem? (i := 523) (by decide +kernel)⟩
theorem lw_p15 : lw_okq (⟨"FlowKernelModel", "at", "(III)I"⟩, 18) := ⟨⟨by decide +kernel, by decide +kernel⟩, List.mem_of_getElem? (i := 429) (by decide +kernel), List.mem_of_getElem? (i := 530) (by decide +kernel), List.mem_of_getElem? (i := 531) (by decide +kernel)⟩
def lw_privs_1 : List (MethodName × Nat) := [(⟨"FlowKernel", "isThere", "(I)Z"⟩, 3), (⟨"FlowKernel", "fileAt", "(I)LFlowKernel$StoredFile;"⟩, 3), (⟨"FlowKernel", "isFileCell", "(II)Z"⟩, 3), (⟨"FlowKernel", "step", "(LFlowKernel$Slot;)V"⟩, 3), (⟨"FlowKernel", "systemCall", "(LFlowKernel$Slot;I)V"⟩, 3), (⟨"FlowKernel", "readList", "(LFlowKernel$Slot;I)Z"⟩, 3), (⟨"FlowKernel", "send", "(LFlowKernel$Slot;III)I"⟩, 3), (⟨"FlowKernel", "pass", "(LFlowKernel$Slot;III)I"⟩, 3), (⟨"FlowKernel", "read", "(LFlowKernel$Slot;II)I"⟩, 3), (⟨"FlowKernel", "write", "(LFlowKernel$Slot;III)I"⟩, 3), (⟨"FlowKernel", "spawn", "(LFlowKernel$Slot;III)I"⟩, 3), (⟨"FlowKernel", "isOutput", "(II)Z"⟩, 3), (⟨"FlowKernelModel", "isThere", "(I)Z"⟩, 18), (⟨"FlowKernelModel", "setTag", "(IIZ)I"⟩, 18), (⟨"FlowKernelModel", "many", "(I)I"⟩, 18), (⟨"FlowKernelModel", "at", "(III)I"⟩, 18)]
theorem lw_r1 : ∀ q ∈ lw_privs_1, lw_okq q := List.forall_mem_cons.mpr ⟨lw_p0, List.forall_mem_cons.mpr ⟨lw_p1, List.forall_mem_cons.mpr ⟨lw_p2, List.forall_mem_cons.mpr ⟨lw_p3, List.forall_mem_cons.mpr ⟨lw_p4, List.forall_mem_cons.mpr ⟨lw_p5, List.forall_mem_cons.mpr ⟨lw_p6, List.forall_mem_cons.mpr ⟨lw_p7, List.forall_mem_cons.mpr ⟨lw_p8, List.forall_mem_cons.mpr ⟨lw_p9, List.forall_mem_cons.mpr ⟨lw_p10, List.forall_mem_cons.mpr ⟨lw_p11, List.forall_mem_cons.mpr ⟨lw_p12, List.forall_mem_cons.mpr ⟨lw_p13, List.forall_mem_cons.mpr ⟨lw_p14, List.forall_mem_cons.mpr ⟨lw_p15, fun _ h => absurd h List.not_mem_nil⟩⟩⟩⟩⟩⟩⟩⟩⟩⟩⟩⟩⟩⟩⟩⟩
theorem lw_p16 : lw_okq (⟨"FlowKernelModel", "capabilities", "(II)I"⟩, 18) := ⟨⟨by decide +kernel, by decide +kernel⟩, List.mem_of_getElem? (i := 429) (by decide +kernel), List.mem_of_getElem? (i := 534) (by decide +kernel), List.mem_of_getElem? (i := 535) (by decide +kernel)⟩
theorem lw_p17 : lw_okq (⟨"FlowKernelModel", "isContent", "(II)Z"⟩, 18) := ⟨⟨by decide +kernel, by decide +kernel⟩, List.mem_of_getElem? (i := 429) (by decide +kernel), List.mem_of_getElem? (i := 546) (by decide +kernel), List.mem_of_getElem? (i := 547) (by decide +kernel)⟩
theorem lw_p18 : lw_okq (⟨"FlowKernelModel", "comes", "(IIII)V"⟩, 18) := ⟨⟨by decide +kernel, by decide +kernel⟩, List.mem_of_getElem? (i := 429) (by decide +kernel), List.mem_of_getElem? (i := 554) (by decide +kernel), List.mem_of_getElem? (i := 555) (by decide +kernel)⟩
theorem lw_p19 : lw_okq (⟨"FlowKernelModel", "copyLabel", "(II)V"⟩, 18) := ⟨⟨by decide +kernel, by decide +kernel⟩, List.mem_of_getElem? (i := 429) (by decide +kernel), List.mem_of_getElem? (i := 558) (by decide +kernel), List.mem_of_getElem? (i := 559) (by decide +kernel)⟩
theorem lw_p20 : lw_okq (⟨"FlowKernelModel", "turn", "(I)V"⟩, 18) := ⟨⟨by decide +kernel, by decide +kernel⟩, List.mem_of_getElem? (i := 429) (by decide +kernel), List.mem_of_getElem? (i := 566) (by decide +kernel), List.mem_of_getElem? (i := 567) (by decide +kernel)⟩
theorem lw_p21 : lw_okq (⟨"FlowKernelModel", "traps", "(II)V"⟩, 18) := ⟨⟨by decide +kernel, by decide +kernel⟩, List.mem_of_getElem? (i := 429) (by decide +kernel), List.mem_of_getElem? (i := 573) (by decide +kernel), List.mem_of_getElem? (i := 574) (by decide +kernel)⟩
theorem lw_p22 : lw_okq (⟨"FlowKernelModel", "call", "(II)V"⟩, 18) := ⟨⟨by decide +kernel, by decide +kernel⟩, List.mem_of_getElem? (i := 429) (by decide +kernel), List.mem_of_getElem? (i := 577) (by decide +kernel), List.mem_of_getElem? (i := 578) (by decide +kernel)⟩
theorem lw_p23 : lw_okq (⟨"FlowKernelModel", "newTag", "(I)I"⟩, 18) := ⟨⟨by decide +kernel, by decide +kernel⟩, List.mem_of_getElem? (i := 429) (by decide +kernel), List.mem_of_getElem? (i := 581) (by decide +kernel), List.mem_of_getElem? (i := 582) (by decide +kernel)⟩
theorem lw_p24 : lw_okq (⟨"FlowKernelModel", "lists", "(II)Z"⟩, 18) := ⟨⟨by decide +kernel, by decide +kernel⟩, List.mem_of_getElem? (i := 429) (by decide +kernel), List.mem_of_getElem? (i := 585) (by decide +kernel), List.mem_of_getElem? (i := 586) (by decide +kernel)⟩
theorem lw_p25 : lw_okq (⟨"FlowKernelModel", "changes", "(I)I"⟩, 18) := ⟨⟨by decide +kernel, by decide +kernel⟩, List.mem_of_getElem? (i := 429) (by decide +kernel), List.mem_of_getElem? (i := 590) (by decide +kernel), List.mem_of_getElem? (i := 591) (by decide +kernel)⟩
theorem lw_p26 : lw_okq (⟨"FlowKernelModel", "drops", "(III)I"⟩, 18) := ⟨⟨by decide +kernel, by decide +kernel⟩, List.mem_of_getElem? (i := 429) (by decide +kernel), List.mem_of_getElem? (i := 594) (by decide +kernel), List.mem_of_getElem? (i := 595) (by decide +kernel)⟩
theorem lw_p27 : lw_okq (⟨"FlowKernelModel", "sends", "(IIII)V"⟩, 18) := ⟨⟨by decide +kernel, by decide +kernel⟩, List.mem_of_getElem? (i := 429) (by decide +kernel), List.mem_of_getElem? (i := 598) (by decide +kernel), List.mem_of_getElem? (i := 599) (by decide +kernel)⟩
theorem lw_p28 : lw_okq (⟨"FlowKernelModel", "isInLabel", "(II)Z"⟩, 18) := ⟨⟨by decide +kernel, by decide +kernel⟩, List.mem_of_getElem? (i := 429) (by decide +kernel), List.mem_of_getElem? (i := 602) (by decide +kernel), List.mem_of_getElem? (i := 603) (by decide +kernel)⟩
theorem lw_p29 : lw_okq (⟨"FlowKernelModel", "passes", "(IIII)I"⟩, 18) := ⟨⟨by decide +kernel, by decide +kernel⟩, List.mem_of_getElem? (i := 429) (by decide +kernel), List.mem_of_getElem? (i := 606) (by decide +kernel), List.mem_of_getElem? (i := 607) (by decide +kernel)⟩
theorem lw_p30 : lw_okq (⟨"FlowKernelModel", "receives", "(I)I"⟩, 18) := ⟨⟨by decide +kernel, by decide +kernel⟩, List.mem_of_getElem? (i := 429) (by decide +kernel), List.mem_of_getElem? (i := 610) (by decide +kernel), List.mem_of_getElem? (i := 611) (by decide +kernel)⟩
theorem lw_p31 : lw_okq (⟨"FlowKernelModel", "dropFirst", "(I)V"⟩, 18) := ⟨⟨by decide +kernel, by decide +kernel⟩, List.mem_of_getElem? (i := 429) (by decide +kernel), List.mem_of_getElem? (i := 614) (by decide +kernel), List.mem_of_getElem? (i := 615) (by decide +kernel)⟩
def lw_privs_2 : List (MethodName × Nat) := [(⟨"FlowKernelModel", "capabilities", "(II)I"⟩, 18), (⟨"FlowKernelModel", "isContent", "(II)Z"⟩, 18), (⟨"FlowKernelModel", "comes", "(IIII)V"⟩, 18), (⟨"FlowKernelModel", "copyLabel", "(II)V"⟩, 18), (⟨"FlowKernelModel", "turn", "(I)V"⟩, 18), (⟨"FlowKernelModel", "traps", "(II)V"⟩, 18), (⟨"FlowKernelModel", "call", "(II)V"⟩, 18), (⟨"FlowKernelModel", "newTag", "(I)I"⟩, 18), (⟨"FlowKernelModel", "lists", "(II)Z"⟩, 18), (⟨"FlowKernelModel", "changes", "(I)I"⟩, 18), (⟨"FlowKernelModel", "drops", "(III)I"⟩, 18), (⟨"FlowKernelModel", "sends", "(IIII)V"⟩, 18), (⟨"FlowKernelModel", "isInLabel", "(II)Z"⟩, 18), (⟨"FlowKernelModel", "passes", "(IIII)I"⟩, 18), (⟨"FlowKernelModel", "receives", "(I)I"⟩, 18), (⟨"FlowKernelModel", "dropFirst", "(I)V"⟩, 18)]
theorem lw_r2 : ∀ q ∈ lw_privs_2, lw_okq q := List.forall_mem_cons.mpr ⟨lw_p16, List.forall_mem_cons.mpr ⟨lw_p17, List.forall_mem_cons.mpr ⟨lw_p18, List.forall_mem_cons.mpr ⟨lw_p19, List.forall_mem_cons.mpr ⟨lw_p20, List.forall_mem_cons.mpr ⟨lw_p21, List.forall_mem_cons.mpr ⟨lw_p22, List.forall_mem_cons.mpr ⟨lw_p23, List.forall_mem_cons.mpr ⟨lw_p24, List.forall_mem_cons.mpr ⟨lw_p25, List.forall_mem_cons.mpr ⟨lw_p26, List.forall_mem_cons.mpr ⟨lw_p27, List.forall_mem_cons.mpr ⟨lw_p28, List.forall_mem_cons.mpr ⟨lw_p29, List.forall_mem_cons.mpr ⟨lw_p30, List.forall_mem_cons.mpr ⟨lw_p31, fun _ h => absurd h List.not_mem_nil⟩⟩⟩⟩⟩⟩⟩⟩⟩⟩⟩⟩⟩⟩⟩⟩
theorem lw_p32 : lw_okq (⟨"FlowKernelModel", "creates", "(I)I"⟩, 18) := ⟨⟨by decide +kernel, by decide +kernel⟩, List.mem_of_getElem? (i := 429) (by decide +kernel), List.mem_of_getElem? (i := 618) (by decide +kernel), List.mem_of_getElem? (i := 619) (by decide +kernel)⟩
theorem lw_p33 : lw_okq (⟨"FlowKernelModel", "reads", "(III)I"⟩, 18) := ⟨⟨by decide +kernel, by decide +kernel⟩, List.mem_of_getElem? (i := 429) (by decide +kernel), List.mem_of_getElem? (i := 622) (by decide +kernel), List.mem_of_getElem? (i := 623) (by decide +kernel)⟩
theorem lw_p34 : lw_okq (⟨"FlowKernelModel", "spawns", "(IIII)I"⟩, 18) := ⟨⟨by decide +kernel, by decide +kernel⟩, List.mem_of_getElem? (i := 429) (by decide +kernel), List.mem_of_getElem? (i := 626) (by decide +kernel), List.mem_of_getElem? (i := 627) (by decide +kernel)⟩
theorem lw_p35 : lw_okq (⟨"FlowKernelModel", "puts", "(II)V"⟩, 18) := ⟨⟨by decide +kernel, by decide +kernel⟩, List.mem_of_getElem? (i := 429) (by decide +kernel), List.mem_of_getElem? (i := 630) (by decide +kernel), List.mem_of_getElem? (i := 631) (by decide +kernel)⟩
theorem lw_p36 : lw_okq (⟨"FlowKernelModel", "works", "(III)V"⟩, 18) := ⟨⟨by decide +kernel, by decide +kernel⟩, List.mem_of_getElem? (i := 429) (by decide +kernel), List.mem_of_getElem? (i := 634) (by decide +kernel), List.mem_of_getElem? (i := 635) (by decide +kernel)⟩
theorem lw_p37 : lw_okq (⟨"FlowKernelModel", "isOutput", "(II)Z"⟩, 18) := ⟨⟨by decide +kernel, by decide +kernel⟩, List.mem_of_getElem? (i := 429) (by decide +kernel), List.mem_of_getElem? (i := 654) (by decide +kernel), List.mem_of_getElem? (i := 655) (by decide +kernel)⟩
def lw_privs_3 : List (MethodName × Nat) := [(⟨"FlowKernelModel", "creates", "(I)I"⟩, 18), (⟨"FlowKernelModel", "reads", "(III)I"⟩, 18), (⟨"FlowKernelModel", "spawns", "(IIII)I"⟩, 18), (⟨"FlowKernelModel", "puts", "(II)V"⟩, 18), (⟨"FlowKernelModel", "works", "(III)V"⟩, 18), (⟨"FlowKernelModel", "isOutput", "(II)Z"⟩, 18)]
theorem lw_r3 : ∀ q ∈ lw_privs_3, lw_okq q := List.forall_mem_cons.mpr ⟨lw_p32, List.forall_mem_cons.mpr ⟨lw_p33, List.forall_mem_cons.mpr ⟨lw_p34, List.forall_mem_cons.mpr ⟨lw_p35, List.forall_mem_cons.mpr ⟨lw_p36, List.forall_mem_cons.mpr ⟨lw_p37, fun _ h => absurd h List.not_mem_nil⟩⟩⟩⟩⟩⟩
def lw_privs : List (MethodName × Nat) := lw_privs_1 ++ (lw_privs_2 ++ (lw_privs_3))
def lw_tbl : List Cond := k2_sels lw_privs ++ tables_1
theorem lw_privs_ok : ∀ q ∈ lw_privs, lw_okq q := by
  show ∀ q ∈ lw_privs_1 ++ (lw_privs_2 ++ (lw_privs_3)), lw_okq q
  exact List.forall_mem_append.mpr ⟨lw_r1, List.forall_mem_append.mpr ⟨lw_r2, lw_r3⟩⟩
def RX0 : String := "FlowKernel$Message"
def TX0 : u_T := fun k => match k with
  | 0 => ("FlowKernel$Message", "label", "LFlowKernel$TagSet;", true)
  | 1 => ("FlowKernel$Message", "from", "I", false)
  | 2 => ("FlowKernel$Message", "value", "I", false)
  | _ => ("FlowKernel$Message", "kind", "I", false)
def tyX0 : Nat → FieldType := fun k => match k with
  | 0 => .object "FlowKernel$TagSet"
  | 1 => .int
  | 2 => .int
  | _ => .int
theorem nmX0 : ∀ a, a < 4 → ∀ b, b < 4 → a ≠ b → (TX0 a).2.1 ≠ (TX0 b).2.1 := by decide +kernel
theorem tyX0_ok : ∀ k, k < 4 → parseFieldDescriptor (TX0 k).2.2.1 = some (tyX0 k) := by decide +kernel
abbrev cX0_init : ByteArray := prog_2_method_1_code
def yX0_init : MethodName := ⟨RX0, "<init>", "()V"⟩
def RX1 : String := "FlowKernel$Queue"
def TX1 : u_T := fun k => match k with
  | 0 => ("FlowKernel$Queue", "ring", "[LFlowKernel$Message;", true)
  | 1 => ("FlowKernel$Queue", "first", "I", false)
  | _ => ("FlowKernel$Queue", "size", "I", false)
def tyX1 : Nat → FieldType := fun k => match k with
  | 0 => .array (.object "FlowKernel$Message")
  | 1 => .int
  | _ => .int
theorem nmX1 : ∀ a, a < 3 → ∀ b, b < 3 → a ≠ b → (TX1 a).2.1 ≠ (TX1 b).2.1 := by decide +kernel
theorem tyX1_ok : ∀ k, k < 3 → parseFieldDescriptor (TX1 k).2.2.1 = some (tyX1 k) := by decide +kernel
abbrev cX1_init : ByteArray := prog_3_method_1_code
def yX1_init : MethodName := ⟨RX1, "<init>", "()V"⟩
abbrev cX1_put : ByteArray := prog_3_method_2_code
def yX1_put : MethodName := ⟨RX1, "put", "(LFlowKernel$Slot;II)Z"⟩
abbrev cX1_take : ByteArray := prog_3_method_3_code
def yX1_take : MethodName := ⟨RX1, "take", "(LFlowKernel$TagSet;)LFlowKernel$Message;"⟩
def RX2 : String := "FlowKernel$Slot"
def TX2 : u_T := fun k => match k with
  | 0 => ("FlowKernel$Slot", "number", "I", true)
  | 1 => ("FlowKernel$Slot", "memory", "[I", true)
  | 2 => ("FlowKernel$Slot", "a", "I", false)
  | 3 => ("FlowKernel$Slot", "place", "I", false)
  | 4 => ("FlowKernel$Slot", "state", "I", false)
  | 5 => ("FlowKernel$Slot", "trap", "I", false)
  | 6 => ("FlowKernel$Slot", "counter", "I", false)
  | 7 => ("FlowKernel$Slot", "label", "LFlowKernel$TagSet;", true)
  | 8 => ("FlowKernel$Slot", "plus", "LFlowKernel$TagSet;", true)
  | 9 => ("FlowKernel$Slot", "minus", "LFlowKernel$TagSet;", true)
  | 10 => ("FlowKernel$Slot", "queue", "LFlowKernel$Queue;", true)
  | 11 => ("FlowKernel$Slot", "files", "[LFlowKernel$StoredFile;", true)
  | 12 => ("FlowKernel$Slot", "outputs", "[I", true)
  | 13 => ("FlowKernel$Slot", "outputLabelSizes", "[I", true)
  | _ => ("FlowKernel$Slot", "outputCount", "I", false)
def tyX2 : Nat → FieldType := fun k => match k with
  | 0 => .int
  | 1 => .array .int
  | 2 => .int
  | 3 => .int
  | 4 => .int
  | 5 => .int
  | 6 => .int
  | 7 => .object "FlowKernel$TagSet"
  | 8 => .object "FlowKernel$TagSet"
  | 9 => .object "FlowKernel$TagSet"
  | 10 => .object "FlowKernel$Queue"
  | 11 => .array (.object "FlowKernel$StoredFile")
  | 12 => .array .int
  | 13 => .array .int
  | _ => .int
theorem nmX2 : ∀ a, a < 15 → ∀ b, b < 15 → a ≠ b → (TX2 a).2.1 ≠ (TX2 b).2.1 := by decide +kernel
theorem tyX2_ok : ∀ k, k < 15 → parseFieldDescriptor (TX2 k).2.2.1 = some (tyX2 k) := by decide +kernel
abbrev cX2_init : ByteArray := prog_4_method_1_code
def yX2_init : MethodName := ⟨RX2, "<init>", "(I)V"⟩
abbrev cX2_stopBy : ByteArray := prog_4_method_2_code
def yX2_stopBy : MethodName := ⟨RX2, "stopBy", "(I)V"⟩
abbrev cX2_capabilities : ByteArray := prog_4_method_3_code
def yX2_capabilities : MethodName := ⟨RX2, "capabilities", "(I)LFlowKernel$TagSet;"⟩
abbrev cX2_countFiles : ByteArray := prog_4_method_4_code
def yX2_countFiles : MethodName := ⟨RX2, "countFiles", "()I"⟩
abbrev cX2_newTag : ByteArray := prog_4_method_5_code
def yX2_newTag : MethodName := ⟨RX2, "newTag", "()I"⟩
abbrev cX2_relabel : ByteArray := prog_4_method_6_code
def yX2_relabel : MethodName := ⟨RX2, "relabel", "(LFlowKernel$TagSet;)I"⟩
abbrev cX2_dropCapability : ByteArray := prog_4_method_7_code
def yX2_dropCapability : MethodName := ⟨RX2, "dropCapability", "(II)I"⟩
abbrev cX2_receive : ByteArray := prog_4_method_8_code
def yX2_receive : MethodName := ⟨RX2, "receive", "()I"⟩
abbrev cX2_createFile : ByteArray := prog_4_method_9_code
def yX2_createFile : MethodName := ⟨RX2, "createFile", "(LFlowKernel$TagSet;)I"⟩
abbrev cX2_addOutput : ByteArray := prog_4_method_10_code
def yX2_addOutput : MethodName := ⟨RX2, "addOutput", "(I)I"⟩
def RX3 : String := "FlowKernel$StoredFile"
def TX3 : u_T := fun k => match k with
  | 0 => ("FlowKernel$StoredFile", "label", "LFlowKernel$TagSet;", true)
  | 1 => ("FlowKernel$StoredFile", "cells", "[I", true)
  | _ => ("FlowKernel$StoredFile", "there", "Z", false)
def tyX3 : Nat → FieldType := fun k => match k with
  | 0 => .object "FlowKernel$TagSet"
  | 1 => .array .int
  | _ => .boolean
theorem nmX3 : ∀ a, a < 3 → ∀ b, b < 3 → a ≠ b → (TX3 a).2.1 ≠ (TX3 b).2.1 := by decide +kernel
theorem tyX3_ok : ∀ k, k < 3 → parseFieldDescriptor (TX3 k).2.2.1 = some (tyX3 k) := by decide +kernel
abbrev cX3_init : ByteArray := prog_5_method_1_code
def yX3_init : MethodName := ⟨RX3, "<init>", "()V"⟩
def RX4 : String := "FlowKernel$TagSet"
def TX4 : u_T := fun k => match k with
  | 0 => ("FlowKernel$TagSet", "words", "[I", true)
  | _ => ("FlowKernel$TagSet", "size", "I", false)
def tyX4 : Nat → FieldType := fun k => match k with
  | 0 => .array .int
  | _ => .int
theorem nmX4 : ∀ a, a < 2 → ∀ b, b < 2 → a ≠ b → (TX4 a).2.1 ≠ (TX4 b).2.1 := by decide +kernel
theorem tyX4_ok : ∀ k, k < 2 → parseFieldDescriptor (TX4 k).2.2.1 = some (tyX4 k) := by decide +kernel
abbrev cX4_init : ByteArray := prog_6_method_1_code
def yX4_init : MethodName := ⟨RX4, "<init>", "()V"⟩
abbrev cX4_has : ByteArray := prog_6_method_2_code
def yX4_has : MethodName := ⟨RX4, "has", "(I)Z"⟩
abbrev cX4_add : ByteArray := prog_6_method_3_code
def yX4_add : MethodName := ⟨RX4, "add", "(I)V"⟩
abbrev cX4_remove : ByteArray := prog_6_method_4_code
def yX4_remove : MethodName := ⟨RX4, "remove", "(I)V"⟩
abbrev cX4_change : ByteArray := prog_6_method_5_code
def yX4_change : MethodName := ⟨RX4, "change", "(IZI)I"⟩
abbrev cX4_clear : ByteArray := prog_6_method_6_code
def yX4_clear : MethodName := ⟨RX4, "clear", "()V"⟩
abbrev cX4_copy : ByteArray := prog_6_method_7_code
def yX4_copy : MethodName := ⟨RX4, "copy", "(LFlowKernel$TagSet;)V"⟩
abbrev cX4_isIn : ByteArray := prog_6_method_8_code
def yX4_isIn : MethodName := ⟨RX4, "isIn", "(LFlowKernel$TagSet;)Z"⟩
abbrev cX4_isInEither : ByteArray := prog_6_method_9_code
def yX4_isInEither : MethodName := ⟨RX4, "isInEither", "(LFlowKernel$TagSet;LFlowKernel$TagSet;)Z"⟩
abbrev cX4_tagAt : ByteArray := prog_6_method_10_code
def yX4_tagAt : MethodName := ⟨RX4, "tagAt", "(I)I"⟩
def RX5 : String := "FlowKernel"
def TX5 : u_T := fun k => match k with
  | 0 => ("FlowKernel", "slots", "[LFlowKernel$Slot;", true)
  | 1 => ("FlowKernel", "listed", "LFlowKernel$TagSet;", true)
  | _ => ("FlowKernel", "turns", "I", false)
def tyX5 : Nat → FieldType := fun k => match k with
  | 0 => .array (.object "FlowKernel$Slot")
  | 1 => .object "FlowKernel$TagSet"
  | _ => .int
theorem nmX5 : ∀ a, a < 3 → ∀ b, b < 3 → a ≠ b → (TX5 a).2.1 ≠ (TX5 b).2.1 := by decide +kernel
theorem tyX5_ok : ∀ k, k < 3 → parseFieldDescriptor (TX5 k).2.2.1 = some (tyX5 k) := by decide +kernel
abbrev cX5_init : ByteArray := prog_1_method_1_code
def yX5_init : MethodName := ⟨RX5, "<init>", "()V"⟩
abbrev cX5_poke : ByteArray := prog_1_method_2_code
def yX5_poke : MethodName := ⟨RX5, "poke", "(IIIII)I"⟩
abbrev cX5_start : ByteArray := prog_1_method_3_code
def yX5_start : MethodName := ⟨RX5, "start", "(I)I"⟩
abbrev cX5_counter : ByteArray := prog_1_method_4_code
def yX5_counter : MethodName := ⟨RX5, "counter", "(II)I"⟩
abbrev cX5_tag : ByteArray := prog_1_method_5_code
def yX5_tag : MethodName := ⟨RX5, "tag", "(IIZ)I"⟩
abbrev cX5_capability : ByteArray := prog_1_method_6_code
def yX5_capability : MethodName := ⟨RX5, "capability", "(IIIZ)I"⟩
abbrev cX5_file : ByteArray := prog_1_method_7_code
def yX5_file : MethodName := ⟨RX5, "file", "(II)I"⟩
abbrev cX5_fill : ByteArray := prog_1_method_8_code
def yX5_fill : MethodName := ⟨RX5, "fill", "(III)I"⟩
abbrev cX5_post : ByteArray := prog_1_method_9_code
def yX5_post : MethodName := ⟨RX5, "post", "(III)I"⟩
abbrev cX5_run : ByteArray := prog_1_method_10_code
def yX5_run : MethodName := ⟨RX5, "run", "(I)I"⟩
abbrev cX5_cell : ByteArray := prog_1_method_11_code
def yX5_cell : MethodName := ⟨RX5, "cell", "(II)I"⟩
abbrev cX5_slot : ByteArray := prog_1_method_12_code
def yX5_slot : MethodName := ⟨RX5, "slot", "(II)I"⟩
abbrev cX5_label : ByteArray := prog_1_method_13_code
def yX5_label : MethodName := ⟨RX5, "label", "(II)I"⟩
abbrev cX5_output : ByteArray := prog_1_method_14_code
def yX5_output : MethodName := ⟨RX5, "output", "(II)I"⟩
abbrev cX5_outputTags : ByteArray := prog_1_method_15_code
def yX5_outputTags : MethodName := ⟨RX5, "outputTags", "(II)I"⟩
abbrev cX5_content : ByteArray := prog_1_method_16_code
def yX5_content : MethodName := ⟨RX5, "content", "(II)I"⟩
abbrev cX5_fileTags : ByteArray := prog_1_method_17_code
def yX5_fileTags : MethodName := ⟨RX5, "fileTags", "(I)I"⟩
abbrev cX5_mayFlow : ByteArray := prog_1_method_18_code
def yX5_mayFlow : MethodName := ⟨RX5, "mayFlow", "(II)Z"⟩
abbrev cX5_isSlot : ByteArray := prog_1_method_19_code
def yX5_isSlot : MethodName := ⟨RX5, "isSlot", "(I)Z"⟩
abbrev cX5_isPlace : ByteArray := prog_1_method_20_code
def yX5_isPlace : MethodName := ⟨RX5, "isPlace", "(I)Z"⟩
abbrev cX5_isTag : ByteArray := prog_1_method_21_code
def yX5_isTag : MethodName := ⟨RX5, "isTag", "(I)Z"⟩
abbrev cX5_isFile : ByteArray := prog_1_method_22_code
def yX5_isFile : MethodName := ⟨RX5, "isFile", "(I)Z"⟩
abbrev cX5_isThere : ByteArray := prog_1_method_23_code
def yX5_isThere : MethodName := ⟨RX5, "isThere", "(I)Z"⟩
abbrev cX5_fileAt : ByteArray := prog_1_method_24_code
def yX5_fileAt : MethodName := ⟨RX5, "fileAt", "(I)LFlowKernel$StoredFile;"⟩
abbrev cX5_isFileCell : ByteArray := prog_1_method_25_code
def yX5_isFileCell : MethodName := ⟨RX5, "isFileCell", "(II)Z"⟩
abbrev cX5_isOutput : ByteArray := prog_1_method_26_code
def yX5_isOutput : MethodName := ⟨RX5, "isOutput", "(II)Z"⟩
abbrev cX5_step : ByteArray := prog_1_method_27_code
def yX5_step : MethodName := ⟨RX5, "step", "(LFlowKernel$Slot;)V"⟩
abbrev cX5_wantsCell : ByteArray := prog_1_method_28_code
def yX5_wantsCell : MethodName := ⟨RX5, "wantsCell", "(I)Z"⟩
abbrev cX5_plainInstruction : ByteArray := prog_1_method_29_code
def yX5_plainInstruction : MethodName := ⟨RX5, "plainInstruction", "(LFlowKernel$Slot;II)V"⟩
abbrev cX5_cellInstruction : ByteArray := prog_1_method_30_code
def yX5_cellInstruction : MethodName := ⟨RX5, "cellInstruction", "(LFlowKernel$Slot;II)V"⟩
abbrev cX5_indirectInstruction : ByteArray := prog_1_method_31_code
def yX5_indirectInstruction : MethodName := ⟨RX5, "indirectInstruction", "(LFlowKernel$Slot;II)V"⟩
abbrev cX5_divideInstruction : ByteArray := prog_1_method_32_code
def yX5_divideInstruction : MethodName := ⟨RX5, "divideInstruction", "(LFlowKernel$Slot;II)V"⟩
abbrev cX5_systemCall : ByteArray := prog_1_method_33_code
def yX5_systemCall : MethodName := ⟨RX5, "systemCall", "(LFlowKernel$Slot;I)V"⟩
abbrev cX5_readList : ByteArray := prog_1_method_34_code
def yX5_readList : MethodName := ⟨RX5, "readList", "(LFlowKernel$Slot;I)Z"⟩
abbrev cX5_send : ByteArray := prog_1_method_35_code
def yX5_send : MethodName := ⟨RX5, "send", "(LFlowKernel$Slot;III)I"⟩
abbrev cX5_pass : ByteArray := prog_1_method_36_code
def yX5_pass : MethodName := ⟨RX5, "pass", "(LFlowKernel$Slot;III)I"⟩
abbrev cX5_kindOf : ByteArray := prog_1_method_37_code
def yX5_kindOf : MethodName := ⟨RX5, "kindOf", "(I)I"⟩
abbrev cX5_read : ByteArray := prog_1_method_38_code
def yX5_read : MethodName := ⟨RX5, "read", "(LFlowKernel$Slot;II)I"⟩
abbrev cX5_write : ByteArray := prog_1_method_39_code
def yX5_write : MethodName := ⟨RX5, "write", "(LFlowKernel$Slot;III)I"⟩
abbrev cX5_spawn : ByteArray := prog_1_method_40_code
def yX5_spawn : MethodName := ⟨RX5, "spawn", "(LFlowKernel$Slot;III)I"⟩
def RX6 : String := "FlowKernelModel"
def TX6 : u_T := fun k => match k with
  | 0 => ("FlowKernelModel", "memory", "[I", true)
  | 1 => ("FlowKernelModel", "a", "[I", true)
  | 2 => ("FlowKernelModel", "place", "[I", true)
  | 3 => ("FlowKernelModel", "state", "[I", true)
  | 4 => ("FlowKernelModel", "trap", "[I", true)
  | 5 => ("FlowKernelModel", "counter", "[I", true)
  | 6 => ("FlowKernelModel", "labels", "[Z", true)
  | 7 => ("FlowKernelModel", "capable", "[Z", true)
  | 8 => ("FlowKernelModel", "isFile", "[Z", true)
  | 9 => ("FlowKernelModel", "contents", "[I", true)
  | 10 => ("FlowKernelModel", "waits", "[I", true)
  | 11 => ("FlowKernelModel", "values", "[I", true)
  | 12 => ("FlowKernelModel", "senders", "[I", true)
  | 13 => ("FlowKernelModel", "kinds", "[I", true)
  | 14 => ("FlowKernelModel", "outs", "[I", true)
  | 15 => ("FlowKernelModel", "outputs", "[I", true)
  | 16 => ("FlowKernelModel", "outputTags", "[I", true)
  | _ => ("FlowKernelModel", "turns", "I", false)
def tyX6 : Nat → FieldType := fun k => match k with
  | 0 => .array .int
  | 1 => .array .int
  | 2 => .array .int
  | 3 => .array .int
  | 4 => .array .int
  | 5 => .array .int
  | 6 => .array .boolean
  | 7 => .array .boolean
  | 8 => .array .boolean
  | 9 => .array .int
  | 10 => .array .int
  | 11 => .array .int
  | 12 => .array .int
  | 13 => .array .int
  | 14 => .array .int
  | 15 => .array .int
  | 16 => .array .int
  | _ => .int
theorem nmX6 : ∀ a, a < 18 → ∀ b, b < 18 → a ≠ b → (TX6 a).2.1 ≠ (TX6 b).2.1 := by decide +kernel
theorem tyX6_ok : ∀ k, k < 18 → parseFieldDescriptor (TX6 k).2.2.1 = some (tyX6 k) := by decide +kernel
abbrev cX6_init : ByteArray := prog_8_method_1_code
def yX6_init : MethodName := ⟨RX6, "<init>", "()V"⟩
abbrev cX6_isIn : ByteArray := prog_8_method_2_code
def yX6_isIn : MethodName := ⟨RX6, "isIn", "(III)Z"⟩
abbrev cX6_isSlot : ByteArray := prog_8_method_3_code
def yX6_isSlot : MethodName := ⟨RX6, "isSlot", "(I)Z"⟩
abbrev cX6_isCell : ByteArray := prog_8_method_4_code
def yX6_isCell : MethodName := ⟨RX6, "isCell", "(I)Z"⟩
abbrev cX6_isThere : ByteArray := prog_8_method_5_code
def yX6_isThere : MethodName := ⟨RX6, "isThere", "(I)Z"⟩
abbrev cX6_many : ByteArray := prog_8_method_6_code
def yX6_many : MethodName := ⟨RX6, "many", "(I)I"⟩
abbrev cX6_isInLabel : ByteArray := prog_8_method_7_code
def yX6_isInLabel : MethodName := ⟨RX6, "isInLabel", "(II)Z"⟩
abbrev cX6_copyLabel : ByteArray := prog_8_method_8_code
def yX6_copyLabel : MethodName := ⟨RX6, "copyLabel", "(II)V"⟩
abbrev cX6_at : ByteArray := prog_8_method_9_code
def yX6_at : MethodName := ⟨RX6, "at", "(III)I"⟩
abbrev cX6_capabilities : ByteArray := prog_8_method_10_code
def yX6_capabilities : MethodName := ⟨RX6, "capabilities", "(II)I"⟩
abbrev cX6_comes : ByteArray := prog_8_method_11_code
def yX6_comes : MethodName := ⟨RX6, "comes", "(IIII)V"⟩
abbrev cX6_sends : ByteArray := prog_8_method_12_code
def yX6_sends : MethodName := ⟨RX6, "sends", "(IIII)V"⟩
abbrev cX6_dropFirst : ByteArray := prog_8_method_13_code
def yX6_dropFirst : MethodName := ⟨RX6, "dropFirst", "(I)V"⟩
abbrev cX6_traps : ByteArray := prog_8_method_14_code
def yX6_traps : MethodName := ⟨RX6, "traps", "(II)V"⟩
abbrev cX6_turn : ByteArray := prog_8_method_15_code
def yX6_turn : MethodName := ⟨RX6, "turn", "(I)V"⟩
abbrev cX6_works : ByteArray := prog_8_method_16_code
def yX6_works : MethodName := ⟨RX6, "works", "(III)V"⟩
abbrev cX6_lists : ByteArray := prog_8_method_17_code
def yX6_lists : MethodName := ⟨RX6, "lists", "(II)Z"⟩
abbrev cX6_call : ByteArray := prog_8_method_18_code
def yX6_call : MethodName := ⟨RX6, "call", "(II)V"⟩
abbrev cX6_newTag : ByteArray := prog_8_method_19_code
def yX6_newTag : MethodName := ⟨RX6, "newTag", "(I)I"⟩
abbrev cX6_changes : ByteArray := prog_8_method_20_code
def yX6_changes : MethodName := ⟨RX6, "changes", "(I)I"⟩
abbrev cX6_drops : ByteArray := prog_8_method_21_code
def yX6_drops : MethodName := ⟨RX6, "drops", "(III)I"⟩
abbrev cX6_passes : ByteArray := prog_8_method_22_code
def yX6_passes : MethodName := ⟨RX6, "passes", "(IIII)I"⟩
abbrev cX6_receives : ByteArray := prog_8_method_23_code
def yX6_receives : MethodName := ⟨RX6, "receives", "(I)I"⟩
abbrev cX6_creates : ByteArray := prog_8_method_24_code
def yX6_creates : MethodName := ⟨RX6, "creates", "(I)I"⟩
abbrev cX6_reads : ByteArray := prog_8_method_25_code
def yX6_reads : MethodName := ⟨RX6, "reads", "(III)I"⟩
abbrev cX6_spawns : ByteArray := prog_8_method_26_code
def yX6_spawns : MethodName := ⟨RX6, "spawns", "(IIII)I"⟩
abbrev cX6_puts : ByteArray := prog_8_method_27_code
def yX6_puts : MethodName := ⟨RX6, "puts", "(II)V"⟩
abbrev cX6_poke : ByteArray := prog_8_method_28_code
def yX6_poke : MethodName := ⟨RX6, "poke", "(IIIII)I"⟩
abbrev cX6_start : ByteArray := prog_8_method_29_code
def yX6_start : MethodName := ⟨RX6, "start", "(I)I"⟩
abbrev cX6_counter : ByteArray := prog_8_method_30_code
def yX6_counter : MethodName := ⟨RX6, "counter", "(II)I"⟩
abbrev cX6_setTag : ByteArray := prog_8_method_31_code
def yX6_setTag : MethodName := ⟨RX6, "setTag", "(IIZ)I"⟩
abbrev cX6_tag : ByteArray := prog_8_method_32_code
def yX6_tag : MethodName := ⟨RX6, "tag", "(IIZ)I"⟩
abbrev cX6_capability : ByteArray := prog_8_method_33_code
def yX6_capability : MethodName := ⟨RX6, "capability", "(IIIZ)I"⟩
abbrev cX6_file : ByteArray := prog_8_method_34_code
def yX6_file : MethodName := ⟨RX6, "file", "(II)I"⟩
abbrev cX6_isContent : ByteArray := prog_8_method_35_code
def yX6_isContent : MethodName := ⟨RX6, "isContent", "(II)Z"⟩
abbrev cX6_fill : ByteArray := prog_8_method_36_code
def yX6_fill : MethodName := ⟨RX6, "fill", "(III)I"⟩
abbrev cX6_post : ByteArray := prog_8_method_37_code
def yX6_post : MethodName := ⟨RX6, "post", "(III)I"⟩
abbrev cX6_run : ByteArray := prog_8_method_38_code
def yX6_run : MethodName := ⟨RX6, "run", "(I)I"⟩
abbrev cX6_cell : ByteArray := prog_8_method_39_code
def yX6_cell : MethodName := ⟨RX6, "cell", "(II)I"⟩
abbrev cX6_slot : ByteArray := prog_8_method_40_code
def yX6_slot : MethodName := ⟨RX6, "slot", "(II)I"⟩
abbrev cX6_label : ByteArray := prog_8_method_41_code
def yX6_label : MethodName := ⟨RX6, "label", "(II)I"⟩
abbrev cX6_isOutput : ByteArray := prog_8_method_42_code
def yX6_isOutput : MethodName := ⟨RX6, "isOutput", "(II)Z"⟩
abbrev cX6_output : ByteArray := prog_8_method_43_code
def yX6_output : MethodName := ⟨RX6, "output", "(II)I"⟩
abbrev cX6_outputTags : ByteArray := prog_8_method_44_code
def yX6_outputTags : MethodName := ⟨RX6, "outputTags", "(II)I"⟩
abbrev cX6_content : ByteArray := prog_8_method_45_code
def yX6_content : MethodName := ⟨RX6, "content", "(II)I"⟩
abbrev cX6_fileTags : ByteArray := prog_8_method_46_code
def yX6_fileTags : MethodName := ⟨RX6, "fileTags", "(I)I"⟩
abbrev cX6_mayFlow : ByteArray := prog_8_method_47_code
def yX6_mayFlow : MethodName := ⟨RX6, "mayFlow", "(II)Z"⟩
def RJ9 : String := "java/lang/Math"
def TJ9 : u_T := fun k => match k with
  | _ => ("", "", "", false)
def tyJ9 : Nat → FieldType := fun k => match k with
  | _ => .int
theorem nmJ9 : ∀ a, a < 0 → ∀ b, b < 0 → a ≠ b → (TJ9 a).2.1 ≠ (TJ9 b).2.1 := by decide +kernel
theorem tyJ9_ok : ∀ k, k < 0 → parseFieldDescriptor (TJ9 k).2.2.1 = some (tyJ9 k) := by decide +kernel
abbrev cJ9_floorMod_7cf53 : ByteArray := prog_9_method_50_code
def yJ9_floorMod_7cf53 : MethodName := ⟨RJ9, "floorMod", "(II)I"⟩
def RL : String := "FlowKernelLaw"
abbrev cL_law : ByteArray := code
def yL_law : MethodName := ⟨RL, "law", "([I)Z"⟩
end
section
theorem dX0_init_0 : decode cX0_init 0 = .ok (.aload_n 0, 1) := by decide +kernel
theorem dX0_init_1 : decode cX0_init 1 = .ok (.invokespecial 3, 3) := by decide +kernel
theorem dX0_init_4 : decode cX0_init 4 = .ok (.aload_n 0, 1) := by decide +kernel
theorem dX0_init_5 : decode cX0_init 5 = .ok (.new 9, 3) := by decide +kernel
theorem dX0_init_8 : decode cX0_init 8 = .ok (.dup, 1) := by decide +kernel
theorem dX0_init_9 : decode cX0_init 9 = .ok (.invokespecial 11, 3) := by decide +kernel
theorem dX0_init_12 : decode cX0_init 12 = .ok (.putfield 12, 3) := by decide +kernel
theorem dX0_init_15 : decode cX0_init 15 = .ok (.aload_n 0, 1) := by decide +kernel
theorem dX0_init_16 : decode cX0_init 16 = .ok (.iconst 0, 1) := by decide +kernel
theorem dX0_init_17 : decode cX0_init 17 = .ok (.putfield 18, 3) := by decide +kernel
theorem dX0_init_20 : decode cX0_init 20 = .ok (.aload_n 0, 1) := by decide +kernel
theorem dX0_init_21 : decode cX0_init 21 = .ok (.iconst 0, 1) := by decide +kernel
theorem dX0_init_22 : decode cX0_init 22 = .ok (.putfield 22, 3) := by decide +kernel
theorem dX0_init_25 : decode cX0_init 25 = .ok (.aload_n 0, 1) := by decide +kernel
theorem dX0_init_26 : decode cX0_init 26 = .ok (.iconst (-1), 1) := by decide +kernel
theorem dX0_init_27 : decode cX0_init 27 = .ok (.putfield 25, 3) := by decide +kernel
theorem dX0_init_30 : decode cX0_init 30 = .ok (.return_, 1) := by decide +kernel
theorem dX1_init_0 : decode cX1_init 0 = .ok (.aload_n 0, 1) := by decide +kernel
theorem dX1_init_1 : decode cX1_init 1 = .ok (.invokespecial 3, 3) := by decide +kernel
theorem dX1_init_4 : decode cX1_init 4 = .ok (.aload_n 0, 1) := by decide +kernel
theorem dX1_init_5 : decode cX1_init 5 = .ok (.bipush 8, 2) := by decide +kernel
theorem dX1_init_7 : decode cX1_init 7 = .ok (.anewarray 9, 3) := by decide +kernel
theorem dX1_init_10 : decode cX1_init 10 = .ok (.putfield 11, 3) := by decide +kernel
theorem dX1_init_13 : decode cX1_init 13 = .ok (.aload_n 0, 1) := by decide +kernel
theorem dX1_init_14 : decode cX1_init 14 = .ok (.iconst 0, 1) := by decide +kernel
theorem dX1_init_15 : decode cX1_init 15 = .ok (.putfield 17, 3) := by decide +kernel
theorem dX1_init_18 : decode cX1_init 18 = .ok (.aload_n 0, 1) := by decide +kernel
theorem dX1_init_19 : decode cX1_init 19 = .ok (.iconst 0, 1) := by decide +kernel
theorem dX1_init_20 : decode cX1_init 20 = .ok (.putfield 21, 3) := by decide +kernel
theorem dX1_init_23 : decode cX1_init 23 = .ok (.iconst 0, 1) := by decide +kernel
theorem dX1_init_24 : decode cX1_init 24 = .ok (.istore_n 1, 1) := by decide +kernel
theorem dX1_init_25 : decode cX1_init 25 = .ok (.iload_n 1, 1) := by decide +kernel
theorem dX1_init_26 : decode cX1_init 26 = .ok (.bipush 8, 2) := by decide +kernel
theorem dX1_init_28 : decode cX1_init 28 = .ok (.if_icmp .ge 22, 3) := by decide +kernel
theorem dX1_init_31 : decode cX1_init 31 = .ok (.aload_n 0, 1) := by decide +kernel
theorem dX1_init_32 : decode cX1_init 32 = .ok (.getfield 11, 3) := by decide +kernel
theorem dX1_init_35 : decode cX1_init 35 = .ok (.iload_n 1, 1) := by decide +kernel
theorem dX1_init_36 : decode cX1_init 36 = .ok (.new 9, 3) := by decide +kernel
theorem dX1_init_39 : decode cX1_init 39 = .ok (.dup, 1) := by decide +kernel
theorem dX1_init_40 : decode cX1_init 40 = .ok (.invokespecial 24, 3) := by decide +kernel
theorem dX1_init_43 : decode cX1_init 43 = .ok (.aastore, 1) := by decide +kernel
theorem dX1_init_44 : decode cX1_init 44 = .ok (.iinc 1 1, 3) := by decide +kernel
theorem dX1_init_47 : decode cX1_init 47 = .ok (.goto (-22), 3) := by decide +kernel
theorem dX1_init_50 : decode cX1_init 50 = .ok (.return_, 1) := by decide +kernel
theorem dX1_put_0 : decode cX1_put 0 = .ok (.aload_n 0, 1) := by decide +kernel
theorem dX1_put_1 : decode cX1_put 1 = .ok (.getfield 21, 3) := by decide +kernel
theorem dX1_put_4 : decode cX1_put 4 = .ok (.bipush 8, 2) := by decide +kernel
theorem dX1_put_6 : decode cX1_put 6 = .ok (.if_icmp .lt 5, 3) := by decide +kernel
theorem dX1_put_9 : decode cX1_put 9 = .ok (.iconst 0, 1) := by decide +kernel
theorem dX1_put_10 : decode cX1_put 10 = .ok (.ireturn, 1) := by decide +kernel
theorem dX1_put_11 : decode cX1_put 11 = .ok (.aload_n 0, 1) := by decide +kernel
theorem dX1_put_12 : decode cX1_put 12 = .ok (.getfield 11, 3) := by decide +kernel
theorem dX1_put_15 : decode cX1_put 15 = .ok (.aload_n 0, 1) := by decide +kernel
theorem dX1_put_16 : decode cX1_put 16 = .ok (.getfield 17, 3) := by decide +kernel
theorem dX1_put_19 : decode cX1_put 19 = .ok (.aload_n 0, 1) := by decide +kernel
theorem dX1_put_20 : decode cX1_put 20 = .ok (.getfield 21, 3) := by decide +kernel
theorem dX1_put_23 : decode cX1_put 23 = .ok (.iadd, 1) := by decide +kernel
theorem dX1_put_24 : decode cX1_put 24 = .ok (.bipush 8, 2) := by decide +kernel
theorem dX1_put_26 : decode cX1_put 26 = .ok (.irem, 1) := by decide +kernel
theorem dX1_put_27 : decode cX1_put 27 = .ok (.aaload, 1) := by decide +kernel
theorem dX1_put_28 : decode cX1_put 28 = .ok (.astore 4, 2) := by decide +kernel
theorem dX1_put_30 : decode cX1_put 30 = .ok (.aload 4, 2) := by decide +kernel
theorem dX1_put_32 : decode cX1_put 32 = .ok (.getfield 25, 3) := by decide +kernel
theorem dX1_put_35 : decode cX1_put 35 = .ok (.aload_n 1, 1) := by decide +kernel
theorem dX1_put_36 : decode cX1_put 36 = .ok (.getfield 29, 3) := by decide +kernel
theorem dX1_put_39 : decode cX1_put 39 = .ok (.invokevirtual 32, 3) := by decide +kernel
theorem dX1_put_42 : decode cX1_put 42 = .ok (.aload 4, 2) := by decide +kernel
theorem dX1_put_44 : decode cX1_put 44 = .ok (.aload_n 1, 1) := by decide +kernel
theorem dX1_put_45 : decode cX1_put 45 = .ok (.getfield 38, 3) := by decide +kernel
theorem dX1_put_48 : decode cX1_put 48 = .ok (.putfield 41, 3) := by decide +kernel
theorem dX1_put_51 : decode cX1_put 51 = .ok (.aload 4, 2) := by decide +kernel
theorem dX1_put_53 : decode cX1_put 53 = .ok (.iload_n 2, 1) := by decide +kernel
theorem dX1_put_54 : decode cX1_put 54 = .ok (.putfield 44, 3) := by decide +kernel
theorem dX1_put_57 : decode cX1_put 57 = .ok (.aload 4, 2) := by decide +kernel
theorem dX1_put_59 : decode cX1_put 59 = .ok (.iload_n 3, 1) := by decide +kernel
theorem dX1_put_60 : decode cX1_put 60 = .ok (.putfield 47, 3) := by decide +kernel
theorem dX1_put_63 : decode cX1_put 63 = .ok (.aload_n 0, 1) := by decide +kernel
theorem dX1_put_64 : decode cX1_put 64 = .ok (.dup, 1) := by decide +kernel
theorem dX1_put_65 : decode cX1_put 65 = .ok (.getfield 21, 3) := by decide +kernel
theorem dX1_put_68 : decode cX1_put 68 = .ok (.iconst 1, 1) := by decide +kernel
theorem dX1_put_69 : decode cX1_put 69 = .ok (.iadd, 1) := by decide +kernel
theorem dX1_put_70 : decode cX1_put 70 = .ok (.putfield 21, 3) := by decide +kernel
theorem dX1_put_73 : decode cX1_put 73 = .ok (.iconst 1, 1) := by decide +kernel
theorem dX1_put_74 : decode cX1_put 74 = .ok (.ireturn, 1) := by decide +kernel
theorem dX1_take_0 : decode cX1_take 0 = .ok (.aload_n 0, 1) := by decide +kernel
theorem dX1_take_1 : decode cX1_take 1 = .ok (.getfield 21, 3) := by decide +kernel
theorem dX1_take_4 : decode cX1_take 4 = .ok (.istore_n 2, 1) := by decide +kernel
theorem dX1_take_5 : decode cX1_take 5 = .ok (.iload_n 2, 1) := by decide +kernel
theorem dX1_take_6 : decode cX1_take 6 = .ok (.ifCond .le 55, 3) := by decide +kernel
theorem dX1_take_9 : decode cX1_take 9 = .ok (.aload_n 0, 1) := by decide +kernel
theorem dX1_take_10 : decode cX1_take 10 = .ok (.getfield 11, 3) := by decide +kernel
theorem dX1_take_13 : decode cX1_take 13 = .ok (.aload_n 0, 1) := by decide +kernel
theorem dX1_take_14 : decode cX1_take 14 = .ok (.getfield 17, 3) := by decide +kernel
theorem dX1_take_17 : decode cX1_take 17 = .ok (.aaload, 1) := by decide +kernel
theorem dX1_take_18 : decode cX1_take 18 = .ok (.astore_n 3, 1) := by decide +kernel
theorem dX1_take_19 : decode cX1_take 19 = .ok (.aload_n 0, 1) := by decide +kernel
theorem dX1_take_20 : decode cX1_take 20 = .ok (.aload_n 0, 1) := by decide +kernel
theorem dX1_take_21 : decode cX1_take 21 = .ok (.getfield 17, 3) := by decide +kernel
theorem dX1_take_24 : decode cX1_take 24 = .ok (.iconst 1, 1) := by decide +kernel
theorem dX1_take_25 : decode cX1_take 25 = .ok (.iadd, 1) := by decide +kernel
theorem dX1_take_26 : decode cX1_take 26 = .ok (.bipush 8, 2) := by decide +kernel
theorem dX1_take_28 : decode cX1_take 28 = .ok (.irem, 1) := by decide +kernel
theorem dX1_take_29 : decode cX1_take 29 = .ok (.putfield 17, 3) := by decide +kernel
theorem dX1_take_32 : decode cX1_take 32 = .ok (.aload_n 0, 1) := by decide +kernel
theorem dX1_take_33 : decode cX1_take 33 = .ok (.dup, 1) := by decide +kernel
theorem dX1_take_34 : decode cX1_take 34 = .ok (.getfield 21, 3) := by decide +kernel
theorem dX1_take_37 : decode cX1_take 37 = .ok (.iconst 1, 1) := by decide +kernel
theorem dX1_take_38 : decode cX1_take 38 = .ok (.isub, 1) := by decide +kernel
theorem dX1_take_39 : decode cX1_take 39 = .ok (.putfield 21, 3) := by decide +kernel
theorem dX1_take_42 : decode cX1_take 42 = .ok (.aload_n 3, 1) := by decide +kernel
theorem dX1_take_43 : decode cX1_take 43 = .ok (.getfield 25, 3) := by decide +kernel
theorem dX1_take_46 : decode cX1_take 46 = .ok (.aload_n 1, 1) := by decide +kernel
theorem dX1_take_47 : decode cX1_take 47 = .ok (.invokevirtual 50, 3) := by decide +kernel
theorem dX1_take_50 : decode cX1_take 50 = .ok (.ifCond .eq 5, 3) := by decide +kernel
theorem dX1_take_53 : decode cX1_take 53 = .ok (.aload_n 3, 1) := by decide +kernel
theorem dX1_take_54 : decode cX1_take 54 = .ok (.areturn, 1) := by decide +kernel
theorem dX1_take_55 : decode cX1_take 55 = .ok (.iinc 2 (-1), 3) := by decide +kernel
theorem dX1_take_58 : decode cX1_take 58 = .ok (.goto (-53), 3) := by decide +kernel
theorem dX1_take_61 : decode cX1_take 61 = .ok (.aconst_null, 1) := by decide +kernel
theorem dX1_take_62 : decode cX1_take 62 = .ok (.areturn, 1) := by decide +kernel
theorem dX2_init_0 : decode cX2_init 0 = .ok (.aload_n 0, 1) := by decide +kernel
theorem dX2_init_1 : decode cX2_init 1 = .ok (.invokespecial 3, 3) := by decide +kernel
theorem dX2_init_4 : decode cX2_init 4 = .ok (.aload_n 0, 1) := by decide +kernel
theorem dX2_init_5 : decode cX2_init 5 = .ok (.sipush 128, 3) := by decide +kernel
theorem dX2_init_8 : decode cX2_init 8 = .ok (.newarray .int, 2) := by decide +kernel
theorem dX2_init_10 : decode cX2_init 10 = .ok (.putfield 9, 3) := by decide +kernel
theorem dX2_init_13 : decode cX2_init 13 = .ok (.aload_n 0, 1) := by decide +kernel
theorem dX2_init_14 : decode cX2_init 14 = .ok (.iconst 0, 1) := by decide +kernel
theorem dX2_init_15 : decode cX2_init 15 = .ok (.putfield 15, 3) := by decide +kernel
theorem dX2_init_18 : decode cX2_init 18 = .ok (.aload_n 0, 1) := by decide +kernel
theorem dX2_init_19 : decode cX2_init 19 = .ok (.iconst 0, 1) := by decide +kernel
theorem dX2_init_20 : decode cX2_init 20 = .ok (.putfield 19, 3) := by decide +kernel
theorem dX2_init_23 : decode cX2_init 23 = .ok (.aload_n 0, 1) := by decide +kernel
theorem dX2_init_24 : decode cX2_init 24 = .ok (.iconst 0, 1) := by decide +kernel
theorem dX2_init_25 : decode cX2_init 25 = .ok (.putfield 22, 3) := by decide +kernel
theorem dX2_init_28 : decode cX2_init 28 = .ok (.aload_n 0, 1) := by decide +kernel
theorem dX2_init_29 : decode cX2_init 29 = .ok (.iconst 0, 1) := by decide +kernel
theorem dX2_init_30 : decode cX2_init 30 = .ok (.putfield 25, 3) := by decide +kernel
theorem dX2_init_33 : decode cX2_init 33 = .ok (.aload_n 0, 1) := by decide +kernel
theorem dX2_init_34 : decode cX2_init 34 = .ok (.iconst 0, 1) := by decide +kernel
theorem dX2_init_35 : decode cX2_init 35 = .ok (.putfield 28, 3) := by decide +kernel
theorem dX2_init_38 : decode cX2_init 38 = .ok (.aload_n 0, 1) := by decide +kernel
theorem dX2_init_39 : decode cX2_init 39 = .ok (.new 31, 3) := by decide +kernel
theorem dX2_init_42 : decode cX2_init 42 = .ok (.dup, 1) := by decide +kernel
theorem dX2_init_43 : decode cX2_init 43 = .ok (.invokespecial 33, 3) := by decide +kernel
theorem dX2_init_46 : decode cX2_init 46 = .ok (.putfield 34, 3) := by decide +kernel
theorem dX2_init_49 : decode cX2_init 49 = .ok (.aload_n 0, 1) := by decide +kernel
theorem dX2_init_50 : decode cX2_init 50 = .ok (.new 31, 3) := by decide +kernel
theorem dX2_init_53 : decode cX2_init 53 = .ok (.dup, 1) := by decide +kernel
theorem dX2_init_54 : decode cX2_init 54 = .ok (.invokespecial 33, 3) := by decide +kernel
theorem dX2_init_57 : decode cX2_init 57 = .ok (.putfield 38, 3) := by decide +kernel
theorem dX2_init_60 : decode cX2_init 60 = .ok (.aload_n 0, 1) := by decide +kernel
theorem dX2_init_61 : decode cX2_init 61 = .ok (.new 31, 3) := by decide +kernel
theorem dX2_init_64 : decode cX2_init 64 = .ok (.dup, 1) := by decide +kernel
theorem dX2_init_65 : decode cX2_init 65 = .ok (.invokespecial 33, 3) := by decide +kernel
theorem dX2_init_68 : decode cX2_init 68 = .ok (.putfield 41, 3) := by decide +kernel
theorem dX2_init_71 : decode cX2_init 71 = .ok (.aload_n 0, 1) := by decide +kernel
theorem dX2_init_72 : decode cX2_init 72 = .ok (.new 44, 3) := by decide +kernel
theorem dX2_init_75 : decode cX2_init 75 = .ok (.dup, 1) := by decide +kernel
theorem dX2_init_76 : decode cX2_init 76 = .ok (.invokespecial 46, 3) := by decide +kernel
theorem dX2_init_79 : decode cX2_init 79 = .ok (.putfield 47, 3) := by decide +kernel
theorem dX2_init_82 : decode cX2_init 82 = .ok (.aload_n 0, 1) := by decide +kernel
theorem dX2_init_83 : decode cX2_init 83 = .ok (.bipush 8, 2) := by decide +kernel
theorem dX2_init_85 : decode cX2_init 85 = .ok (.anewarray 51, 3) := by decide +kernel
theorem dX2_init_88 : decode cX2_init 88 = .ok (.putfield 53, 3) := by decide +kernel
theorem dX2_init_91 : decode cX2_init 91 = .ok (.aload_n 0, 1) := by decide +kernel
theorem dX2_init_92 : decode cX2_init 92 = .ok (.bipush 64, 2) := by decide +kernel
theorem dX2_init_94 : decode cX2_init 94 = .ok (.newarray .int, 2) := by decide +kernel
theorem dX2_init_96 : decode cX2_init 96 = .ok (.putfield 57, 3) := by decide +kernel
theorem dX2_init_99 : decode cX2_init 99 = .ok (.aload_n 0, 1) := by decide +kernel
theorem dX2_init_100 : decode cX2_init 100 = .ok (.bipush 64, 2) := by decide +kernel
theorem dX2_init_102 : decode cX2_init 102 = .ok (.newarray .int, 2) := by decide +kernel
theorem dX2_init_104 : decode cX2_init 104 = .ok (.putfield 60, 3) := by decide +kernel
theorem dX2_init_107 : decode cX2_init 107 = .ok (.aload_n 0, 1) := by decide +kernel
theorem dX2_init_108 : decode cX2_init 108 = .ok (.iconst 0, 1) := by decide +kernel
theorem dX2_init_109 : decode cX2_init 109 = .ok (.putfield 63, 3) := by decide +kernel
theorem dX2_init_112 : decode cX2_init 112 = .ok (.aload_n 0, 1) := by decide +kernel
theorem dX2_init_113 : decode cX2_init 113 = .ok (.iload_n 1, 1) := by decide +kernel
theorem dX2_init_114 : decode cX2_init 114 = .ok (.putfield 66, 3) := by decide +kernel
theorem dX2_init_117 : decode cX2_init 117 = .ok (.iconst 0, 1) := by decide +kernel
theorem dX2_init_118 : decode cX2_init 118 = .ok (.istore_n 2, 1) := by decide +kernel
theorem dX2_init_119 : decode cX2_init 119 = .ok (.iload_n 2, 1) := by decide +kernel
theorem dX2_init_120 : decode cX2_init 120 = .ok (.bipush 8, 2) := by decide +kernel
theorem dX2_init_122 : decode cX2_init 122 = .ok (.if_icmp .ge 22, 3) := by decide +kernel
theorem dX2_init_125 : decode cX2_init 125 = .ok (.aload_n 0, 1) := by decide +kernel
theorem dX2_init_126 : decode cX2_init 126 = .ok (.getfield 53, 3) := by decide +kernel
theorem dX2_init_129 : decode cX2_init 129 = .ok (.iload_n 2, 1) := by decide +kernel
theorem dX2_init_130 : decode cX2_init 130 = .ok (.new 51, 3) := by decide +kernel
theorem dX2_init_133 : decode cX2_init 133 = .ok (.dup, 1) := by decide +kernel
theorem dX2_init_134 : decode cX2_init 134 = .ok (.invokespecial 69, 3) := by decide +kernel
theorem dX2_init_137 : decode cX2_init 137 = .ok (.aastore, 1) := by decide +kernel
theorem dX2_init_138 : decode cX2_init 138 = .ok (.iinc 2 1, 3) := by decide +kernel
theorem dX2_init_141 : decode cX2_init 141 = .ok (.goto (-22), 3) := by decide +kernel
theorem dX2_init_144 : decode cX2_init 144 = .ok (.return_, 1) := by decide +kernel
theorem dX2_stopBy_0 : decode cX2_stopBy 0 = .ok (.aload_n 0, 1) := by decide +kernel
theorem dX2_stopBy_1 : decode cX2_stopBy 1 = .ok (.iconst 3, 1) := by decide +kernel
theorem dX2_stopBy_2 : decode cX2_stopBy 2 = .ok (.putfield 22, 3) := by decide +kernel
theorem dX2_stopBy_5 : decode cX2_stopBy 5 = .ok (.aload_n 0, 1) := by decide +kernel
theorem dX2_stopBy_6 : decode cX2_stopBy 6 = .ok (.iload_n 1, 1) := by decide +kernel
theorem dX2_stopBy_7 : decode cX2_stopBy 7 = .ok (.putfield 25, 3) := by decide +kernel
theorem dX2_stopBy_10 : decode cX2_stopBy 10 = .ok (.return_, 1) := by decide +kernel
theorem dX2_capabilities_0 : decode cX2_capabilities 0 = .ok (.iload_n 1, 1) := by decide +kernel
theorem dX2_capabilities_1 : decode cX2_capabilities 1 = .ok (.ifCond .ne 10, 3) := by decide +kernel
theorem dX2_capabilities_4 : decode cX2_capabilities 4 = .ok (.aload_n 0, 1) := by decide +kernel
theorem dX2_capabilities_5 : decode cX2_capabilities 5 = .ok (.getfield 38, 3) := by decide +kernel
theorem dX2_capabilities_8 : decode cX2_capabilities 8 = .ok (.goto 7, 3) := by decide +kernel
theorem dX2_capabilities_11 : decode cX2_capabilities 11 = .ok (.aload_n 0, 1) := by decide +kernel
theorem dX2_capabilities_12 : decode cX2_capabilities 12 = .ok (.getfield 41, 3) := by decide +kernel
theorem dX2_capabilities_15 : decode cX2_capabilities 15 = .ok (.areturn, 1) := by decide +kernel
theorem dX2_countFiles_0 : decode cX2_countFiles 0 = .ok (.iconst 0, 1) := by decide +kernel
theorem dX2_countFiles_1 : decode cX2_countFiles 1 = .ok (.istore_n 1, 1) := by decide +kernel
theorem dX2_countFiles_2 : decode cX2_countFiles 2 = .ok (.iconst 0, 1) := by decide +kernel
theorem dX2_countFiles_3 : decode cX2_countFiles 3 = .ok (.istore_n 2, 1) := by decide +kernel
theorem dX2_countFiles_4 : decode cX2_countFiles 4 = .ok (.iload_n 2, 1) := by decide +kernel
theorem dX2_countFiles_5 : decode cX2_countFiles 5 = .ok (.bipush 8, 2) := by decide +kernel
theorem dX2_countFiles_7 : decode cX2_countFiles 7 = .ok (.if_icmp .ge 24, 3) := by decide +kernel
theorem dX2_countFiles_10 : decode cX2_countFiles 10 = .ok (.aload_n 0, 1) := by decide +kernel
theorem dX2_countFiles_11 : decode cX2_countFiles 11 = .ok (.getfield 53, 3) := by decide +kernel
theorem dX2_countFiles_14 : decode cX2_countFiles 14 = .ok (.iload_n 2, 1) := by decide +kernel
theorem dX2_countFiles_15 : decode cX2_countFiles 15 = .ok (.aaload, 1) := by decide +kernel
theorem dX2_countFiles_16 : decode cX2_countFiles 16 = .ok (.getfield 70, 3) := by decide +kernel
theorem dX2_countFiles_19 : decode cX2_countFiles 19 = .ok (.ifCond .eq 6, 3) := by decide +kernel
theorem dX2_countFiles_22 : decode cX2_countFiles 22 = .ok (.iinc 1 1, 3) := by decide +kernel
theorem dX2_countFiles_25 : decode cX2_countFiles 25 = .ok (.iinc 2 1, 3) := by decide +kernel
theorem dX2_countFiles_28 : decode cX2_countFiles 28 = .ok (.goto (-24), 3) := by decide +kernel
theorem dX2_countFiles_31 : decode cX2_countFiles 31 = .ok (.iload_n 1, 1) := by decide +kernel
theorem dX2_countFiles_32 : decode cX2_countFiles 32 = .ok (.ireturn, 1) := by decide +kernel
theorem dX2_newTag_0 : decode cX2_newTag 0 = .ok (.aload_n 0, 1) := by decide +kernel
theorem dX2_newTag_1 : decode cX2_newTag 1 = .ok (.getfield 28, 3) := by decide +kernel
theorem dX2_newTag_4 : decode cX2_newTag 4 = .ok (.bipush 32, 2) := by decide +kernel
theorem dX2_newTag_6 : decode cX2_newTag 6 = .ok (.if_icmp .ge 27, 3) := by decide +kernel
theorem dX2_newTag_9 : decode cX2_newTag 9 = .ok (.aload_n 0, 1) := by decide +kernel
theorem dX2_newTag_10 : decode cX2_newTag 10 = .ok (.getfield 38, 3) := by decide +kernel
theorem dX2_newTag_13 : decode cX2_newTag 13 = .ok (.getfield 74, 3) := by decide +kernel
theorem dX2_newTag_16 : decode cX2_newTag 16 = .ok (.bipush 40, 2) := by decide +kernel
theorem dX2_newTag_18 : decode cX2_newTag 18 = .ok (.if_icmp .ge 15, 3) := by decide +kernel
theorem dX2_newTag_21 : decode cX2_newTag 21 = .ok (.aload_n 0, 1) := by decide +kernel
theorem dX2_newTag_22 : decode cX2_newTag 22 = .ok (.getfield 41, 3) := by decide +kernel
theorem dX2_newTag_25 : decode cX2_newTag 25 = .ok (.getfield 74, 3) := by decide +kernel
theorem dX2_newTag_28 : decode cX2_newTag 28 = .ok (.bipush 40, 2) := by decide +kernel
theorem dX2_newTag_30 : decode cX2_newTag 30 = .ok (.if_icmp .lt 5, 3) := by decide +kernel
theorem dX2_newTag_33 : decode cX2_newTag 33 = .ok (.iconst (-1), 1) := by decide +kernel
theorem dX2_newTag_34 : decode cX2_newTag 34 = .ok (.ireturn, 1) := by decide +kernel
theorem dX2_newTag_35 : decode cX2_newTag 35 = .ok (.bipush 32, 2) := by decide +kernel
theorem dX2_newTag_37 : decode cX2_newTag 37 = .ok (.aload_n 0, 1) := by decide +kernel
theorem dX2_newTag_38 : decode cX2_newTag 38 = .ok (.getfield 66, 3) := by decide +kernel
theorem dX2_newTag_41 : decode cX2_newTag 41 = .ok (.imul, 1) := by decide +kernel
theorem dX2_newTag_42 : decode cX2_newTag 42 = .ok (.aload_n 0, 1) := by decide +kernel
theorem dX2_newTag_43 : decode cX2_newTag 43 = .ok (.getfield 28, 3) := by decide +kernel
theorem dX2_newTag_46 : decode cX2_newTag 46 = .ok (.iadd, 1) := by decide +kernel
theorem dX2_newTag_47 : decode cX2_newTag 47 = .ok (.istore_n 1, 1) := by decide +kernel
theorem dX2_newTag_48 : decode cX2_newTag 48 = .ok (.aload_n 0, 1) := by decide +kernel
theorem dX2_newTag_49 : decode cX2_newTag 49 = .ok (.dup, 1) := by decide +kernel
theorem dX2_newTag_50 : decode cX2_newTag 50 = .ok (.getfield 28, 3) := by decide +kernel
theorem dX2_newTag_53 : decode cX2_newTag 53 = .ok (.iconst 1, 1) := by decide +kernel
theorem dX2_newTag_54 : decode cX2_newTag 54 = .ok (.iadd, 1) := by decide +kernel
theorem dX2_newTag_55 : decode cX2_newTag 55 = .ok (.putfield 28, 3) := by decide +kernel
theorem dX2_newTag_58 : decode cX2_newTag 58 = .ok (.aload_n 0, 1) := by decide +kernel
theorem dX2_newTag_59 : decode cX2_newTag 59 = .ok (.getfield 38, 3) := by decide +kernel
theorem dX2_newTag_62 : decode cX2_newTag 62 = .ok (.iload_n 1, 1) := by decide +kernel
theorem dX2_newTag_63 : decode cX2_newTag 63 = .ok (.invokevirtual 77, 3) := by decide +kernel
theorem dX2_newTag_66 : decode cX2_newTag 66 = .ok (.aload_n 0, 1) := by decide +kernel
theorem dX2_newTag_67 : decode cX2_newTag 67 = .ok (.getfield 41, 3) := by decide +kernel
theorem dX2_newTag_70 : decode cX2_newTag 70 = .ok (.iload_n 1, 1) := by decide +kernel
theorem dX2_newTag_71 : decode cX2_newTag 71 = .ok (.invokevirtual 77, 3) := by decide +kernel
theorem dX2_newTag_74 : decode cX2_newTag 74 = .ok (.iload_n 1, 1) := by decide +kernel
theorem dX2_newTag_75 : decode cX2_newTag 75 = .ok (.ireturn, 1) := by decide +kernel
theorem dX2_relabel_0 : decode cX2_relabel 0 = .ok (.aload_n 1, 1) := by decide +kernel
theorem dX2_relabel_1 : decode cX2_relabel 1 = .ok (.aload_n 0, 1) := by decide +kernel
theorem dX2_relabel_2 : decode cX2_relabel 2 = .ok (.getfield 34, 3) := by decide +kernel
theorem dX2_relabel_5 : decode cX2_relabel 5 = .ok (.aload_n 0, 1) := by decide +kernel
theorem dX2_relabel_6 : decode cX2_relabel 6 = .ok (.getfield 38, 3) := by decide +kernel
theorem dX2_relabel_9 : decode cX2_relabel 9 = .ok (.invokevirtual 81, 3) := by decide +kernel
theorem dX2_relabel_12 : decode cX2_relabel 12 = .ok (.ifCond .eq 18, 3) := by decide +kernel
theorem dX2_relabel_15 : decode cX2_relabel 15 = .ok (.aload_n 0, 1) := by decide +kernel
theorem dX2_relabel_16 : decode cX2_relabel 16 = .ok (.getfield 34, 3) := by decide +kernel
theorem dX2_relabel_19 : decode cX2_relabel 19 = .ok (.aload_n 1, 1) := by decide +kernel
theorem dX2_relabel_20 : decode cX2_relabel 20 = .ok (.aload_n 0, 1) := by decide +kernel
theorem dX2_relabel_21 : decode cX2_relabel 21 = .ok (.getfield 41, 3) := by decide +kernel
theorem dX2_relabel_24 : decode cX2_relabel 24 = .ok (.invokevirtual 81, 3) := by decide +kernel
theorem dX2_relabel_27 : decode cX2_relabel 27 = .ok (.ifCond .ne 5, 3) := by decide +kernel
theorem dX2_relabel_30 : decode cX2_relabel 30 = .ok (.iconst 0, 1) := by decide +kernel
theorem dX2_relabel_31 : decode cX2_relabel 31 = .ok (.ireturn, 1) := by decide +kernel
theorem dX2_relabel_32 : decode cX2_relabel 32 = .ok (.aload_n 0, 1) := by decide +kernel
theorem dX2_relabel_33 : decode cX2_relabel 33 = .ok (.getfield 34, 3) := by decide +kernel
theorem dX2_relabel_36 : decode cX2_relabel 36 = .ok (.aload_n 1, 1) := by decide +kernel
theorem dX2_relabel_37 : decode cX2_relabel 37 = .ok (.invokevirtual 85, 3) := by decide +kernel
theorem dX2_relabel_40 : decode cX2_relabel 40 = .ok (.iconst 1, 1) := by decide +kernel
theorem dX2_relabel_41 : decode cX2_relabel 41 = .ok (.ireturn, 1) := by decide +kernel
theorem dX2_dropCapability_0 : decode cX2_dropCapability 0 = .ok (.aload_n 0, 1) := by decide +kernel
theorem dX2_dropCapability_1 : decode cX2_dropCapability 1 = .ok (.iload_n 1, 1) := by decide +kernel
theorem dX2_dropCapability_2 : decode cX2_dropCapability 2 = .ok (.invokestatic 89, 3) := by decide +kernel
theorem dX2_dropCapability_5 : decode cX2_dropCapability 5 = .ok (.invokevirtual 93, 3) := by decide +kernel
theorem dX2_dropCapability_8 : decode cX2_dropCapability 8 = .ok (.astore_n 3, 1) := by decide +kernel
theorem dX2_dropCapability_9 : decode cX2_dropCapability 9 = .ok (.aload_n 3, 1) := by decide +kernel
theorem dX2_dropCapability_10 : decode cX2_dropCapability 10 = .ok (.iload_n 2, 1) := by decide +kernel
theorem dX2_dropCapability_11 : decode cX2_dropCapability 11 = .ok (.invokevirtual 97, 3) := by decide +kernel
theorem dX2_dropCapability_14 : decode cX2_dropCapability 14 = .ok (.ifCond .ne 5, 3) := by decide +kernel
theorem dX2_dropCapability_17 : decode cX2_dropCapability 17 = .ok (.iconst 0, 1) := by decide +kernel
theorem dX2_dropCapability_18 : decode cX2_dropCapability 18 = .ok (.ireturn, 1) := by decide +kernel
theorem dX2_dropCapability_19 : decode cX2_dropCapability 19 = .ok (.aload_n 3, 1) := by decide +kernel
theorem dX2_dropCapability_20 : decode cX2_dropCapability 20 = .ok (.iload_n 2, 1) := by decide +kernel
theorem dX2_dropCapability_21 : decode cX2_dropCapability 21 = .ok (.invokevirtual 101, 3) := by decide +kernel
theorem dX2_dropCapability_24 : decode cX2_dropCapability 24 = .ok (.iconst 1, 1) := by decide +kernel
theorem dX2_dropCapability_25 : decode cX2_dropCapability 25 = .ok (.ireturn, 1) := by decide +kernel
theorem dX2_receive_0 : decode cX2_receive 0 = .ok (.aload_n 0, 1) := by decide +kernel
theorem dX2_receive_1 : decode cX2_receive 1 = .ok (.getfield 47, 3) := by decide +kernel
theorem dX2_receive_4 : decode cX2_receive 4 = .ok (.aload_n 0, 1) := by decide +kernel
theorem dX2_receive_5 : decode cX2_receive 5 = .ok (.getfield 34, 3) := by decide +kernel
theorem dX2_receive_8 : decode cX2_receive 8 = .ok (.invokevirtual 104, 3) := by decide +kernel
theorem dX2_receive_11 : decode cX2_receive 11 = .ok (.astore_n 1, 1) := by decide +kernel
theorem dX2_receive_12 : decode cX2_receive 12 = .ok (.aload_n 1, 1) := by decide +kernel
theorem dX2_receive_13 : decode cX2_receive 13 = .ok (.ifnonnull 5, 3) := by decide +kernel
theorem dX2_receive_16 : decode cX2_receive 16 = .ok (.iconst 0, 1) := by decide +kernel
theorem dX2_receive_17 : decode cX2_receive 17 = .ok (.ireturn, 1) := by decide +kernel
theorem dX2_receive_18 : decode cX2_receive 18 = .ok (.aload_n 0, 1) := by decide +kernel
theorem dX2_receive_19 : decode cX2_receive 19 = .ok (.getfield 9, 3) := by decide +kernel
theorem dX2_receive_22 : decode cX2_receive 22 = .ok (.bipush 120, 2) := by decide +kernel
theorem dX2_receive_24 : decode cX2_receive 24 = .ok (.aload_n 1, 1) := by decide +kernel
theorem dX2_receive_25 : decode cX2_receive 25 = .ok (.getfield 108, 3) := by decide +kernel
theorem dX2_receive_28 : decode cX2_receive 28 = .ok (.iastore, 1) := by decide +kernel
theorem dX2_receive_29 : decode cX2_receive 29 = .ok (.aload_n 0, 1) := by decide +kernel
theorem dX2_receive_30 : decode cX2_receive 30 = .ok (.getfield 9, 3) := by decide +kernel
theorem dX2_receive_33 : decode cX2_receive 33 = .ok (.bipush 121, 2) := by decide +kernel
theorem dX2_receive_35 : decode cX2_receive 35 = .ok (.aload_n 1, 1) := by decide +kernel
theorem dX2_receive_36 : decode cX2_receive 36 = .ok (.getfield 113, 3) := by decide +kernel
theorem dX2_receive_39 : decode cX2_receive 39 = .ok (.iastore, 1) := by decide +kernel
theorem dX2_receive_40 : decode cX2_receive 40 = .ok (.aload_n 1, 1) := by decide +kernel
theorem dX2_receive_41 : decode cX2_receive 41 = .ok (.getfield 116, 3) := by decide +kernel
theorem dX2_receive_44 : decode cX2_receive 44 = .ok (.iconst (-1), 1) := by decide +kernel
theorem dX2_receive_45 : decode cX2_receive 45 = .ok (.if_icmp .ne 5, 3) := by decide +kernel
theorem dX2_receive_48 : decode cX2_receive 48 = .ok (.iconst 1, 1) := by decide +kernel
theorem dX2_receive_49 : decode cX2_receive 49 = .ok (.ireturn, 1) := by decide +kernel
theorem dX2_receive_50 : decode cX2_receive 50 = .ok (.aload_n 0, 1) := by decide +kernel
theorem dX2_receive_51 : decode cX2_receive 51 = .ok (.aload_n 1, 1) := by decide +kernel
theorem dX2_receive_52 : decode cX2_receive 52 = .ok (.getfield 116, 3) := by decide +kernel
theorem dX2_receive_55 : decode cX2_receive 55 = .ok (.invokevirtual 93, 3) := by decide +kernel
theorem dX2_receive_58 : decode cX2_receive 58 = .ok (.aload_n 1, 1) := by decide +kernel
theorem dX2_receive_59 : decode cX2_receive 59 = .ok (.getfield 108, 3) := by decide +kernel
theorem dX2_receive_62 : decode cX2_receive 62 = .ok (.iconst 1, 1) := by decide +kernel
theorem dX2_receive_63 : decode cX2_receive 63 = .ok (.bipush 40, 2) := by decide +kernel
theorem dX2_receive_65 : decode cX2_receive 65 = .ok (.invokevirtual 119, 3) := by decide +kernel
theorem dX2_receive_68 : decode cX2_receive 68 = .ok (.pop, 1) := by decide +kernel
theorem dX2_receive_69 : decode cX2_receive 69 = .ok (.iconst 2, 1) := by decide +kernel
theorem dX2_receive_70 : decode cX2_receive 70 = .ok (.ireturn, 1) := by decide +kernel
theorem dX2_createFile_0 : decode cX2_createFile 0 = .ok (.aload_n 0, 1) := by decide +kernel
theorem dX2_createFile_1 : decode cX2_createFile 1 = .ok (.getfield 34, 3) := by decide +kernel
theorem dX2_createFile_4 : decode cX2_createFile 4 = .ok (.aload_n 1, 1) := by decide +kernel
theorem dX2_createFile_5 : decode cX2_createFile 5 = .ok (.invokevirtual 123, 3) := by decide +kernel
theorem dX2_createFile_8 : decode cX2_createFile 8 = .ok (.ifCond .ne 5, 3) := by decide +kernel
theorem dX2_createFile_11 : decode cX2_createFile 11 = .ok (.iconst (-1), 1) := by decide +kernel
theorem dX2_createFile_12 : decode cX2_createFile 12 = .ok (.ireturn, 1) := by decide +kernel
theorem dX2_createFile_13 : decode cX2_createFile 13 = .ok (.iconst 0, 1) := by decide +kernel
theorem dX2_createFile_14 : decode cX2_createFile 14 = .ok (.istore_n 2, 1) := by decide +kernel
theorem dX2_createFile_15 : decode cX2_createFile 15 = .ok (.iload_n 2, 1) := by decide +kernel
theorem dX2_createFile_16 : decode cX2_createFile 16 = .ok (.bipush 8, 2) := by decide +kernel
theorem dX2_createFile_18 : decode cX2_createFile 18 = .ok (.if_icmp .ge 54, 3) := by decide +kernel
theorem dX2_createFile_21 : decode cX2_createFile 21 = .ok (.aload_n 0, 1) := by decide +kernel
theorem dX2_createFile_22 : decode cX2_createFile 22 = .ok (.getfield 53, 3) := by decide +kernel
theorem dX2_createFile_25 : decode cX2_createFile 25 = .ok (.iload_n 2, 1) := by decide +kernel
theorem dX2_createFile_26 : decode cX2_createFile 26 = .ok (.aaload, 1) := by decide +kernel
theorem dX2_createFile_27 : decode cX2_createFile 27 = .ok (.getfield 70, 3) := by decide +kernel
theorem dX2_createFile_30 : decode cX2_createFile 30 = .ok (.ifCond .ne 36, 3) := by decide +kernel
theorem dX2_createFile_33 : decode cX2_createFile 33 = .ok (.aload_n 0, 1) := by decide +kernel
theorem dX2_createFile_34 : decode cX2_createFile 34 = .ok (.getfield 53, 3) := by decide +kernel
theorem dX2_createFile_37 : decode cX2_createFile 37 = .ok (.iload_n 2, 1) := by decide +kernel
theorem dX2_createFile_38 : decode cX2_createFile 38 = .ok (.aaload, 1) := by decide +kernel
theorem dX2_createFile_39 : decode cX2_createFile 39 = .ok (.iconst 1, 1) := by decide +kernel
theorem dX2_createFile_40 : decode cX2_createFile 40 = .ok (.putfield 70, 3) := by decide +kernel
theorem dX2_createFile_43 : decode cX2_createFile 43 = .ok (.aload_n 0, 1) := by decide +kernel
theorem dX2_createFile_44 : decode cX2_createFile 44 = .ok (.getfield 53, 3) := by decide +kernel
theorem dX2_createFile_47 : decode cX2_createFile 47 = .ok (.iload_n 2, 1) := by decide +kernel
theorem dX2_createFile_48 : decode cX2_createFile 48 = .ok (.aaload, 1) := by decide +kernel
theorem dX2_createFile_49 : decode cX2_createFile 49 = .ok (.getfield 127, 3) := by decide +kernel
theorem dX2_createFile_52 : decode cX2_createFile 52 = .ok (.aload_n 1, 1) := by decide +kernel
theorem dX2_createFile_53 : decode cX2_createFile 53 = .ok (.invokevirtual 85, 3) := by decide +kernel
theorem dX2_createFile_56 : decode cX2_createFile 56 = .ok (.bipush 8, 2) := by decide +kernel
theorem dX2_createFile_58 : decode cX2_createFile 58 = .ok (.aload_n 0, 1) := by decide +kernel
theorem dX2_createFile_59 : decode cX2_createFile 59 = .ok (.getfield 66, 3) := by decide +kernel
theorem dX2_createFile_62 : decode cX2_createFile 62 = .ok (.imul, 1) := by decide +kernel
theorem dX2_createFile_63 : decode cX2_createFile 63 = .ok (.iload_n 2, 1) := by decide +kernel
theorem dX2_createFile_64 : decode cX2_createFile 64 = .ok (.iadd, 1) := by decide +kernel
theorem dX2_createFile_65 : decode cX2_createFile 65 = .ok (.ireturn, 1) := by decide +kernel
theorem dX2_createFile_66 : decode cX2_createFile 66 = .ok (.iinc 2 1, 3) := by decide +kernel
theorem dX2_createFile_69 : decode cX2_createFile 69 = .ok (.goto (-54), 3) := by decide +kernel
theorem dX2_createFile_72 : decode cX2_createFile 72 = .ok (.iconst (-1), 1) := by decide +kernel
theorem dX2_createFile_73 : decode cX2_createFile 73 = .ok (.ireturn, 1) := by decide +kernel
theorem dX2_addOutput_0 : decode cX2_addOutput 0 = .ok (.aload_n 0, 1) := by decide +kernel
theorem dX2_addOutput_1 : decode cX2_addOutput 1 = .ok (.getfield 63, 3) := by decide +kernel
theorem dX2_addOutput_4 : decode cX2_addOutput 4 = .ok (.bipush 64, 2) := by decide +kernel
theorem dX2_addOutput_6 : decode cX2_addOutput 6 = .ok (.if_icmp .ge 39, 3) := by decide +kernel
theorem dX2_addOutput_9 : decode cX2_addOutput 9 = .ok (.aload_n 0, 1) := by decide +kernel
theorem dX2_addOutput_10 : decode cX2_addOutput 10 = .ok (.getfield 57, 3) := by decide +kernel
theorem dX2_addOutput_13 : decode cX2_addOutput 13 = .ok (.aload_n 0, 1) := by decide +kernel
theorem dX2_addOutput_14 : decode cX2_addOutput 14 = .ok (.getfield 63, 3) := by decide +kernel
theorem dX2_addOutput_17 : decode cX2_addOutput 17 = .ok (.iload_n 1, 1) := by decide +kernel
theorem dX2_addOutput_18 : decode cX2_addOutput 18 = .ok (.iastore, 1) := by decide +kernel
theorem dX2_addOutput_19 : decode cX2_addOutput 19 = .ok (.aload_n 0, 1) := by decide +kernel
theorem dX2_addOutput_20 : decode cX2_addOutput 20 = .ok (.getfield 60, 3) := by decide +kernel
theorem dX2_addOutput_23 : decode cX2_addOutput 23 = .ok (.aload_n 0, 1) := by decide +kernel
theorem dX2_addOutput_24 : decode cX2_addOutput 24 = .ok (.getfield 63, 3) := by decide +kernel
theorem dX2_addOutput_27 : decode cX2_addOutput 27 = .ok (.aload_n 0, 1) := by decide +kernel
theorem dX2_addOutput_28 : decode cX2_addOutput 28 = .ok (.getfield 34, 3) := by decide +kernel
theorem dX2_addOutput_31 : decode cX2_addOutput 31 = .ok (.getfield 74, 3) := by decide +kernel
theorem dX2_addOutput_34 : decode cX2_addOutput 34 = .ok (.iastore, 1) := by decide +kernel
theorem dX2_addOutput_35 : decode cX2_addOutput 35 = .ok (.aload_n 0, 1) := by decide +kernel
theorem dX2_addOutput_36 : decode cX2_addOutput 36 = .ok (.dup, 1) := by decide +kernel
theorem dX2_addOutput_37 : decode cX2_addOutput 37 = .ok (.getfield 63, 3) := by decide +kernel
theorem dX2_addOutput_40 : decode cX2_addOutput 40 = .ok (.iconst 1, 1) := by decide +kernel
theorem dX2_addOutput_41 : decode cX2_addOutput 41 = .ok (.iadd, 1) := by decide +kernel
theorem dX2_addOutput_42 : decode cX2_addOutput 42 = .ok (.putfield 63, 3) := by decide +kernel
theorem dX2_addOutput_45 : decode cX2_addOutput 45 = .ok (.iconst 1, 1) := by decide +kernel
theorem dX2_addOutput_46 : decode cX2_addOutput 46 = .ok (.ireturn, 1) := by decide +kernel
theorem dX3_init_0 : decode cX3_init 0 = .ok (.aload_n 0, 1) := by decide +kernel
theorem dX3_init_1 : decode cX3_init 1 = .ok (.invokespecial 3, 3) := by decide +kernel
theorem dX3_init_4 : decode cX3_init 4 = .ok (.aload_n 0, 1) := by decide +kernel
theorem dX3_init_5 : decode cX3_init 5 = .ok (.new 9, 3) := by decide +kernel
theorem dX3_init_8 : decode cX3_init 8 = .ok (.dup, 1) := by decide +kernel
theorem dX3_init_9 : decode cX3_init 9 = .ok (.invokespecial 11, 3) := by decide +kernel
theorem dX3_init_12 : decode cX3_init 12 = .ok (.putfield 12, 3) := by decide +kernel
theorem dX3_init_15 : decode cX3_init 15 = .ok (.aload_n 0, 1) := by decide +kernel
theorem dX3_init_16 : decode cX3_init 16 = .ok (.bipush 8, 2) := by decide +kernel
theorem dX3_init_18 : decode cX3_init 18 = .ok (.newarray .int, 2) := by decide +kernel
theorem dX3_init_20 : decode cX3_init 20 = .ok (.putfield 18, 3) := by decide +kernel
theorem dX3_init_23 : decode cX3_init 23 = .ok (.aload_n 0, 1) := by decide +kernel
theorem dX3_init_24 : decode cX3_init 24 = .ok (.iconst 0, 1) := by decide +kernel
theorem dX3_init_25 : decode cX3_init 25 = .ok (.putfield 22, 3) := by decide +kernel
theorem dX3_init_28 : decode cX3_init 28 = .ok (.return_, 1) := by decide +kernel
theorem dX4_init_0 : decode cX4_init 0 = .ok (.aload_n 0, 1) := by decide +kernel
theorem dX4_init_1 : decode cX4_init 1 = .ok (.invokespecial 3, 3) := by decide +kernel
theorem dX4_init_4 : decode cX4_init 4 = .ok (.aload_n 0, 1) := by decide +kernel
theorem dX4_init_5 : decode cX4_init 5 = .ok (.bipush 8, 2) := by decide +kernel
theorem dX4_init_7 : decode cX4_init 7 = .ok (.newarray .int, 2) := by decide +kernel
theorem dX4_init_9 : decode cX4_init 9 = .ok (.putfield 9, 3) := by decide +kernel
theorem dX4_init_12 : decode cX4_init 12 = .ok (.aload_n 0, 1) := by decide +kernel
theorem dX4_init_13 : decode cX4_init 13 = .ok (.iconst 0, 1) := by decide +kernel
theorem dX4_init_14 : decode cX4_init 14 = .ok (.putfield 15, 3) := by decide +kernel
theorem dX4_init_17 : decode cX4_init 17 = .ok (.return_, 1) := by decide +kernel
theorem dX4_has_0 : decode cX4_has 0 = .ok (.iload_n 1, 1) := by decide +kernel
theorem dX4_has_1 : decode cX4_has 1 = .ok (.ifCond .lt 32, 3) := by decide +kernel
theorem dX4_has_4 : decode cX4_has 4 = .ok (.iload_n 1, 1) := by decide +kernel
theorem dX4_has_5 : decode cX4_has 5 = .ok (.sipush 256, 3) := by decide +kernel
theorem dX4_has_8 : decode cX4_has 8 = .ok (.if_icmp .ge 25, 3) := by decide +kernel
theorem dX4_has_11 : decode cX4_has 11 = .ok (.aload_n 0, 1) := by decide +kernel
theorem dX4_has_12 : decode cX4_has 12 = .ok (.getfield 9, 3) := by decide +kernel
theorem dX4_has_15 : decode cX4_has 15 = .ok (.iload_n 1, 1) := by decide +kernel
theorem dX4_has_16 : decode cX4_has 16 = .ok (.iconst 5, 1) := by decide +kernel
theorem dX4_has_17 : decode cX4_has 17 = .ok (.ishr, 1) := by decide +kernel
theorem dX4_has_18 : decode cX4_has 18 = .ok (.iaload, 1) := by decide +kernel
theorem dX4_has_19 : decode cX4_has 19 = .ok (.iconst 1, 1) := by decide +kernel
theorem dX4_has_20 : decode cX4_has 20 = .ok (.iload_n 1, 1) := by decide +kernel
theorem dX4_has_21 : decode cX4_has 21 = .ok (.bipush 31, 2) := by decide +kernel
theorem dX4_has_23 : decode cX4_has 23 = .ok (.iand, 1) := by decide +kernel
theorem dX4_has_24 : decode cX4_has 24 = .ok (.ishl, 1) := by decide +kernel
theorem dX4_has_25 : decode cX4_has 25 = .ok (.iand, 1) := by decide +kernel
theorem dX4_has_26 : decode cX4_has 26 = .ok (.ifCond .eq 7, 3) := by decide +kernel
theorem dX4_has_29 : decode cX4_has 29 = .ok (.iconst 1, 1) := by decide +kernel
theorem dX4_has_30 : decode cX4_has 30 = .ok (.goto 4, 3) := by decide +kernel
theorem dX4_has_33 : decode cX4_has 33 = .ok (.iconst 0, 1) := by decide +kernel
theorem dX4_has_34 : decode cX4_has 34 = .ok (.ireturn, 1) := by decide +kernel
theorem dX4_add_0 : decode cX4_add 0 = .ok (.iload_n 1, 1) := by decide +kernel
theorem dX4_add_1 : decode cX4_add 1 = .ok (.invokestatic 19, 3) := by decide +kernel
theorem dX4_add_4 : decode cX4_add 4 = .ok (.ifCond .eq 38, 3) := by decide +kernel
theorem dX4_add_7 : decode cX4_add 7 = .ok (.aload_n 0, 1) := by decide +kernel
theorem dX4_add_8 : decode cX4_add 8 = .ok (.iload_n 1, 1) := by decide +kernel
theorem dX4_add_9 : decode cX4_add 9 = .ok (.invokevirtual 23, 3) := by decide +kernel
theorem dX4_add_12 : decode cX4_add 12 = .ok (.ifCond .ne 30, 3) := by decide +kernel
theorem dX4_add_15 : decode cX4_add 15 = .ok (.aload_n 0, 1) := by decide +kernel
theorem dX4_add_16 : decode cX4_add 16 = .ok (.getfield 9, 3) := by decide +kernel
theorem dX4_add_19 : decode cX4_add 19 = .ok (.iload_n 1, 1) := by decide +kernel
theorem dX4_add_20 : decode cX4_add 20 = .ok (.iconst 5, 1) := by decide +kernel
theorem dX4_add_21 : decode cX4_add 21 = .ok (.ishr, 1) := by decide +kernel
theorem dX4_add_22 : decode cX4_add 22 = .ok (.dup2, 1) := by decide +kernel
theorem dX4_add_23 : decode cX4_add 23 = .ok (.iaload, 1) := by decide +kernel
theorem dX4_add_24 : decode cX4_add 24 = .ok (.iconst 1, 1) := by decide +kernel
theorem dX4_add_25 : decode cX4_add 25 = .ok (.iload_n 1, 1) := by decide +kernel
theorem dX4_add_26 : decode cX4_add 26 = .ok (.bipush 31, 2) := by decide +kernel
theorem dX4_add_28 : decode cX4_add 28 = .ok (.iand, 1) := by decide +kernel
theorem dX4_add_29 : decode cX4_add 29 = .ok (.ishl, 1) := by decide +kernel
theorem dX4_add_30 : decode cX4_add 30 = .ok (.ior, 1) := by decide +kernel
theorem dX4_add_31 : decode cX4_add 31 = .ok (.iastore, 1) := by decide +kernel
theorem dX4_add_32 : decode cX4_add 32 = .ok (.aload_n 0, 1) := by decide +kernel
theorem dX4_add_33 : decode cX4_add 33 = .ok (.dup, 1) := by decide +kernel
theorem dX4_add_34 : decode cX4_add 34 = .ok (.getfield 15, 3) := by decide +kernel
theorem dX4_add_37 : decode cX4_add 37 = .ok (.iconst 1, 1) := by decide +kernel
theorem dX4_add_38 : decode cX4_add 38 = .ok (.iadd, 1) := by decide +kernel
theorem dX4_add_39 : decode cX4_add 39 = .ok (.putfield 15, 3) := by decide +kernel
theorem dX4_add_42 : decode cX4_add 42 = .ok (.return_, 1) := by decide +kernel
theorem dX4_remove_0 : decode cX4_remove 0 = .ok (.aload_n 0, 1) := by decide +kernel
theorem dX4_remove_1 : decode cX4_remove 1 = .ok (.iload_n 1, 1) := by decide +kernel
theorem dX4_remove_2 : decode cX4_remove 2 = .ok (.invokevirtual 23, 3) := by decide +kernel
theorem dX4_remove_5 : decode cX4_remove 5 = .ok (.ifCond .eq 32, 3) := by decide +kernel
theorem dX4_remove_8 : decode cX4_remove 8 = .ok (.aload_n 0, 1) := by decide +kernel
theorem dX4_remove_9 : decode cX4_remove 9 = .ok (.getfield 9, 3) := by decide +kernel
theorem dX4_remove_12 : decode cX4_remove 12 = .ok (.iload_n 1, 1) := by decide +kernel
theorem dX4_remove_13 : decode cX4_remove 13 = .ok (.iconst 5, 1) := by decide +kernel
theorem dX4_remove_14 : decode cX4_remove 14 = .ok (.ishr, 1) := by decide +kernel
theorem dX4_remove_15 : decode cX4_remove 15 = .ok (.dup2, 1) := by decide +kernel
theorem dX4_remove_16 : decode cX4_remove 16 = .ok (.iaload, 1) := by decide +kernel
theorem dX4_remove_17 : decode cX4_remove 17 = .ok (.iconst 1, 1) := by decide +kernel
theorem dX4_remove_18 : decode cX4_remove 18 = .ok (.iload_n 1, 1) := by decide +kernel
theorem dX4_remove_19 : decode cX4_remove 19 = .ok (.bipush 31, 2) := by decide +kernel
theorem dX4_remove_21 : decode cX4_remove 21 = .ok (.iand, 1) := by decide +kernel
theorem dX4_remove_22 : decode cX4_remove 22 = .ok (.ishl, 1) := by decide +kernel
theorem dX4_remove_23 : decode cX4_remove 23 = .ok (.iconst (-1), 1) := by decide +kernel
theorem dX4_remove_24 : decode cX4_remove 24 = .ok (.ixor, 1) := by decide +kernel
theorem dX4_remove_25 : decode cX4_remove 25 = .ok (.iand, 1) := by decide +kernel
theorem dX4_remove_26 : decode cX4_remove 26 = .ok (.iastore, 1) := by decide +kernel
theorem dX4_remove_27 : decode cX4_remove 27 = .ok (.aload_n 0, 1) := by decide +kernel
theorem dX4_remove_28 : decode cX4_remove 28 = .ok (.dup, 1) := by decide +kernel
theorem dX4_remove_29 : decode cX4_remove 29 = .ok (.getfield 15, 3) := by decide +kernel
theorem dX4_remove_32 : decode cX4_remove 32 = .ok (.iconst 1, 1) := by decide +kernel
theorem dX4_remove_33 : decode cX4_remove 33 = .ok (.isub, 1) := by decide +kernel
theorem dX4_remove_34 : decode cX4_remove 34 = .ok (.putfield 15, 3) := by decide +kernel
theorem dX4_remove_37 : decode cX4_remove 37 = .ok (.return_, 1) := by decide +kernel
theorem dX4_change_0 : decode cX4_change 0 = .ok (.iload_n 2, 1) := by decide +kernel
theorem dX4_change_1 : decode cX4_change 1 = .ok (.ifCond .ne 11, 3) := by decide +kernel
theorem dX4_change_4 : decode cX4_change 4 = .ok (.aload_n 0, 1) := by decide +kernel
theorem dX4_change_5 : decode cX4_change 5 = .ok (.iload_n 1, 1) := by decide +kernel
theorem dX4_change_6 : decode cX4_change 6 = .ok (.invokevirtual 26, 3) := by decide +kernel
theorem dX4_change_9 : decode cX4_change 9 = .ok (.goto 26, 3) := by decide +kernel
theorem dX4_change_12 : decode cX4_change 12 = .ok (.aload_n 0, 1) := by decide +kernel
theorem dX4_change_13 : decode cX4_change 13 = .ok (.iload_n 1, 1) := by decide +kernel
theorem dX4_change_14 : decode cX4_change 14 = .ok (.invokevirtual 23, 3) := by decide +kernel
theorem dX4_change_17 : decode cX4_change 17 = .ok (.ifCond .ne 18, 3) := by decide +kernel
theorem dX4_change_20 : decode cX4_change 20 = .ok (.aload_n 0, 1) := by decide +kernel
theorem dX4_change_21 : decode cX4_change 21 = .ok (.getfield 15, 3) := by decide +kernel
theorem dX4_change_24 : decode cX4_change 24 = .ok (.iload_n 3, 1) := by decide +kernel
theorem dX4_change_25 : decode cX4_change 25 = .ok (.if_icmp .lt 5, 3) := by decide +kernel
theorem dX4_change_28 : decode cX4_change 28 = .ok (.iconst (-1), 1) := by decide +kernel
theorem dX4_change_29 : decode cX4_change 29 = .ok (.ireturn, 1) := by decide +kernel
theorem dX4_change_30 : decode cX4_change 30 = .ok (.aload_n 0, 1) := by decide +kernel
theorem dX4_change_31 : decode cX4_change 31 = .ok (.iload_n 1, 1) := by decide +kernel
theorem dX4_change_32 : decode cX4_change 32 = .ok (.invokevirtual 30, 3) := by decide +kernel
theorem dX4_change_35 : decode cX4_change 35 = .ok (.aload_n 0, 1) := by decide +kernel
theorem dX4_change_36 : decode cX4_change 36 = .ok (.getfield 15, 3) := by decide +kernel
theorem dX4_change_39 : decode cX4_change 39 = .ok (.ireturn, 1) := by decide +kernel
theorem dX4_clear_0 : decode cX4_clear 0 = .ok (.iconst 0, 1) := by decide +kernel
theorem dX4_clear_1 : decode cX4_clear 1 = .ok (.istore_n 1, 1) := by decide +kernel
theorem dX4_clear_2 : decode cX4_clear 2 = .ok (.iload_n 1, 1) := by decide +kernel
theorem dX4_clear_3 : decode cX4_clear 3 = .ok (.bipush 8, 2) := by decide +kernel
theorem dX4_clear_5 : decode cX4_clear 5 = .ok (.if_icmp .ge 16, 3) := by decide +kernel
theorem dX4_clear_8 : decode cX4_clear 8 = .ok (.aload_n 0, 1) := by decide +kernel
theorem dX4_clear_9 : decode cX4_clear 9 = .ok (.getfield 9, 3) := by decide +kernel
theorem dX4_clear_12 : decode cX4_clear 12 = .ok (.iload_n 1, 1) := by decide +kernel
theorem dX4_clear_13 : decode cX4_clear 13 = .ok (.iconst 0, 1) := by decide +kernel
theorem dX4_clear_14 : decode cX4_clear 14 = .ok (.iastore, 1) := by decide +kernel
theorem dX4_clear_15 : decode cX4_clear 15 = .ok (.iinc 1 1, 3) := by decide +kernel
theorem dX4_clear_18 : decode cX4_clear 18 = .ok (.goto (-16), 3) := by decide +kernel
theorem dX4_clear_21 : decode cX4_clear 21 = .ok (.aload_n 0, 1) := by decide +kernel
theorem dX4_clear_22 : decode cX4_clear 22 = .ok (.iconst 0, 1) := by decide +kernel
theorem dX4_clear_23 : decode cX4_clear 23 = .ok (.putfield 15, 3) := by decide +kernel
theorem dX4_clear_26 : decode cX4_clear 26 = .ok (.return_, 1) := by decide +kernel
theorem dX4_copy_0 : decode cX4_copy 0 = .ok (.iconst 0, 1) := by decide +kernel
theorem dX4_copy_1 : decode cX4_copy 1 = .ok (.istore_n 2, 1) := by decide +kernel
theorem dX4_copy_2 : decode cX4_copy 2 = .ok (.iload_n 2, 1) := by decide +kernel
theorem dX4_copy_3 : decode cX4_copy 3 = .ok (.bipush 8, 2) := by decide +kernel
theorem dX4_copy_5 : decode cX4_copy 5 = .ok (.if_icmp .ge 21, 3) := by decide +kernel
theorem dX4_copy_8 : decode cX4_copy 8 = .ok (.aload_n 0, 1) := by decide +kernel
theorem dX4_copy_9 : decode cX4_copy 9 = .ok (.getfield 9, 3) := by decide +kernel
theorem dX4_copy_12 : decode cX4_copy 12 = .ok (.iload_n 2, 1) := by decide +kernel
theorem dX4_copy_13 : decode cX4_copy 13 = .ok (.aload_n 1, 1) := by decide +kernel
theorem dX4_copy_14 : decode cX4_copy 14 = .ok (.getfield 9, 3) := by decide +kernel
theorem dX4_copy_17 : decode cX4_copy 17 = .ok (.iload_n 2, 1) := by decide +kernel
theorem dX4_copy_18 : decode cX4_copy 18 = .ok (.iaload, 1) := by decide +kernel
theorem dX4_copy_19 : decode cX4_copy 19 = .ok (.iastore, 1) := by decide +kernel
theorem dX4_copy_20 : decode cX4_copy 20 = .ok (.iinc 2 1, 3) := by decide +kernel
theorem dX4_copy_23 : decode cX4_copy 23 = .ok (.goto (-21), 3) := by decide +kernel
theorem dX4_copy_26 : decode cX4_copy 26 = .ok (.aload_n 0, 1) := by decide +kernel
theorem dX4_copy_27 : decode cX4_copy 27 = .ok (.aload_n 1, 1) := by decide +kernel
theorem dX4_copy_28 : decode cX4_copy 28 = .ok (.getfield 15, 3) := by decide +kernel
theorem dX4_copy_31 : decode cX4_copy 31 = .ok (.putfield 15, 3) := by decide +kernel
theorem dX4_copy_34 : decode cX4_copy 34 = .ok (.return_, 1) := by decide +kernel
theorem dX4_isIn_0 : decode cX4_isIn 0 = .ok (.aload_n 0, 1) := by decide +kernel
theorem dX4_isIn_1 : decode cX4_isIn 1 = .ok (.aload_n 1, 1) := by decide +kernel
theorem dX4_isIn_2 : decode cX4_isIn 2 = .ok (.aload_n 1, 1) := by decide +kernel
theorem dX4_isIn_3 : decode cX4_isIn 3 = .ok (.invokevirtual 33, 3) := by decide +kernel
theorem dX4_isIn_6 : decode cX4_isIn 6 = .ok (.ireturn, 1) := by decide +kernel
theorem dX4_isInEither_0 : decode cX4_isInEither 0 = .ok (.iconst 0, 1) := by decide +kernel
theorem dX4_isInEither_1 : decode cX4_isInEither 1 = .ok (.istore_n 3, 1) := by decide +kernel
theorem dX4_isInEither_2 : decode cX4_isInEither 2 = .ok (.iload_n 3, 1) := by decide +kernel
theorem dX4_isInEither_3 : decode cX4_isInEither 3 = .ok (.bipush 8, 2) := by decide +kernel
theorem dX4_isInEither_5 : decode cX4_isInEither 5 = .ok (.if_icmp .ge 36, 3) := by decide +kernel
theorem dX4_isInEither_8 : decode cX4_isInEither 8 = .ok (.aload_n 0, 1) := by decide +kernel
theorem dX4_isInEither_9 : decode cX4_isInEither 9 = .ok (.getfield 9, 3) := by decide +kernel
theorem dX4_isInEither_12 : decode cX4_isInEither 12 = .ok (.iload_n 3, 1) := by decide +kernel
theorem dX4_isInEither_13 : decode cX4_isInEither 13 = .ok (.iaload, 1) := by decide +kernel
theorem dX4_isInEither_14 : decode cX4_isInEither 14 = .ok (.aload_n 1, 1) := by decide +kernel
theorem dX4_isInEither_15 : decode cX4_isInEither 15 = .ok (.getfield 9, 3) := by decide +kernel
theorem dX4_isInEither_18 : decode cX4_isInEither 18 = .ok (.iload_n 3, 1) := by decide +kernel
theorem dX4_isInEither_19 : decode cX4_isInEither 19 = .ok (.iaload, 1) := by decide +kernel
theorem dX4_isInEither_20 : decode cX4_isInEither 20 = .ok (.aload_n 2, 1) := by decide +kernel
theorem dX4_isInEither_21 : decode cX4_isInEither 21 = .ok (.getfield 9, 3) := by decide +kernel
theorem dX4_isInEither_24 : decode cX4_isInEither 24 = .ok (.iload_n 3, 1) := by decide +kernel
theorem dX4_isInEither_25 : decode cX4_isInEither 25 = .ok (.iaload, 1) := by decide +kernel
theorem dX4_isInEither_26 : decode cX4_isInEither 26 = .ok (.ior, 1) := by decide +kernel
theorem dX4_isInEither_27 : decode cX4_isInEither 27 = .ok (.iconst (-1), 1) := by decide +kernel
theorem dX4_isInEither_28 : decode cX4_isInEither 28 = .ok (.ixor, 1) := by decide +kernel
theorem dX4_isInEither_29 : decode cX4_isInEither 29 = .ok (.iand, 1) := by decide +kernel
theorem dX4_isInEither_30 : decode cX4_isInEither 30 = .ok (.ifCond .eq 5, 3) := by decide +kernel
theorem dX4_isInEither_33 : decode cX4_isInEither 33 = .ok (.iconst 0, 1) := by decide +kernel
theorem dX4_isInEither_34 : decode cX4_isInEither 34 = .ok (.ireturn, 1) := by decide +kernel
theorem dX4_isInEither_35 : decode cX4_isInEither 35 = .ok (.iinc 3 1, 3) := by decide +kernel
theorem dX4_isInEither_38 : decode cX4_isInEither 38 = .ok (.goto (-36), 3) := by decide +kernel
theorem dX4_isInEither_41 : decode cX4_isInEither 41 = .ok (.iconst 1, 1) := by decide +kernel
theorem dX4_isInEither_42 : decode cX4_isInEither 42 = .ok (.ireturn, 1) := by decide +kernel
theorem dX4_tagAt_0 : decode cX4_tagAt 0 = .ok (.iload_n 1, 1) := by decide +kernel
theorem dX4_tagAt_1 : decode cX4_tagAt 1 = .ok (.ifCond .lt 11, 3) := by decide +kernel
theorem dX4_tagAt_4 : decode cX4_tagAt 4 = .ok (.iload_n 1, 1) := by decide +kernel
theorem dX4_tagAt_5 : decode cX4_tagAt 5 = .ok (.aload_n 0, 1) := by decide +kernel
theorem dX4_tagAt_6 : decode cX4_tagAt 6 = .ok (.getfield 15, 3) := by decide +kernel
theorem dX4_tagAt_9 : decode cX4_tagAt 9 = .ok (.if_icmp .lt 5, 3) := by decide +kernel
theorem dX4_tagAt_12 : decode cX4_tagAt 12 = .ok (.iconst (-1), 1) := by decide +kernel
theorem dX4_tagAt_13 : decode cX4_tagAt 13 = .ok (.ireturn, 1) := by decide +kernel
theorem dX4_tagAt_14 : decode cX4_tagAt 14 = .ok (.iconst 0, 1) := by decide +kernel
theorem dX4_tagAt_15 : decode cX4_tagAt 15 = .ok (.istore_n 2, 1) := by decide +kernel
theorem dX4_tagAt_16 : decode cX4_tagAt 16 = .ok (.iconst 0, 1) := by decide +kernel
theorem dX4_tagAt_17 : decode cX4_tagAt 17 = .ok (.istore_n 3, 1) := by decide +kernel
theorem dX4_tagAt_18 : decode cX4_tagAt 18 = .ok (.iload_n 3, 1) := by decide +kernel
theorem dX4_tagAt_19 : decode cX4_tagAt 19 = .ok (.sipush 256, 3) := by decide +kernel
theorem dX4_tagAt_22 : decode cX4_tagAt 22 = .ok (.if_icmp .ge 27, 3) := by decide +kernel
theorem dX4_tagAt_25 : decode cX4_tagAt 25 = .ok (.aload_n 0, 1) := by decide +kernel
theorem dX4_tagAt_26 : decode cX4_tagAt 26 = .ok (.iload_n 3, 1) := by decide +kernel
theorem dX4_tagAt_27 : decode cX4_tagAt 27 = .ok (.invokevirtual 23, 3) := by decide +kernel
theorem dX4_tagAt_30 : decode cX4_tagAt 30 = .ok (.ifCond .eq 13, 3) := by decide +kernel
theorem dX4_tagAt_33 : decode cX4_tagAt 33 = .ok (.iload_n 2, 1) := by decide +kernel
theorem dX4_tagAt_34 : decode cX4_tagAt 34 = .ok (.iload_n 1, 1) := by decide +kernel
theorem dX4_tagAt_35 : decode cX4_tagAt 35 = .ok (.if_icmp .ne 5, 3) := by decide +kernel
theorem dX4_tagAt_38 : decode cX4_tagAt 38 = .ok (.iload_n 3, 1) := by decide +kernel
theorem dX4_tagAt_39 : decode cX4_tagAt 39 = .ok (.ireturn, 1) := by decide +kernel
theorem dX4_tagAt_40 : decode cX4_tagAt 40 = .ok (.iinc 2 1, 3) := by decide +kernel
theorem dX4_tagAt_43 : decode cX4_tagAt 43 = .ok (.iinc 3 1, 3) := by decide +kernel
theorem dX4_tagAt_46 : decode cX4_tagAt 46 = .ok (.goto (-28), 3) := by decide +kernel
theorem dX4_tagAt_49 : decode cX4_tagAt 49 = .ok (.iconst (-1), 1) := by decide +kernel
theorem dX4_tagAt_50 : decode cX4_tagAt 50 = .ok (.ireturn, 1) := by decide +kernel
theorem dX5_init_0 : decode cX5_init 0 = .ok (.aload_n 0, 1) := by decide +kernel
theorem dX5_init_1 : decode cX5_init 1 = .ok (.invokespecial 1, 3) := by decide +kernel
theorem dX5_init_4 : decode cX5_init 4 = .ok (.aload_n 0, 1) := by decide +kernel
theorem dX5_init_5 : decode cX5_init 5 = .ok (.bipush 8, 2) := by decide +kernel
theorem dX5_init_7 : decode cX5_init 7 = .ok (.anewarray 9, 3) := by decide +kernel
theorem dX5_init_10 : decode cX5_init 10 = .ok (.putfield 11, 3) := by decide +kernel
theorem dX5_init_13 : decode cX5_init 13 = .ok (.iconst 0, 1) := by decide +kernel
theorem dX5_init_14 : decode cX5_init 14 = .ok (.istore_n 1, 1) := by decide +kernel
theorem dX5_init_15 : decode cX5_init 15 = .ok (.iload_n 1, 1) := by decide +kernel
theorem dX5_init_16 : decode cX5_init 16 = .ok (.bipush 8, 2) := by decide +kernel
theorem dX5_init_18 : decode cX5_init 18 = .ok (.if_icmp .ge 23, 3) := by decide +kernel
theorem dX5_init_21 : decode cX5_init 21 = .ok (.aload_n 0, 1) := by decide +kernel
theorem dX5_init_22 : decode cX5_init 22 = .ok (.getfield 11, 3) := by decide +kernel
theorem dX5_init_25 : decode cX5_init 25 = .ok (.iload_n 1, 1) := by decide +kernel
theorem dX5_init_26 : decode cX5_init 26 = .ok (.new 9, 3) := by decide +kernel
theorem dX5_init_29 : decode cX5_init 29 = .ok (.dup, 1) := by decide +kernel
theorem dX5_init_30 : decode cX5_init 30 = .ok (.iload_n 1, 1) := by decide +kernel
theorem dX5_init_31 : decode cX5_init 31 = .ok (.invokespecial 15, 3) := by decide +kernel
theorem dX5_init_34 : decode cX5_init 34 = .ok (.aastore, 1) := by decide +kernel
theorem dX5_init_35 : decode cX5_init 35 = .ok (.iinc 1 1, 3) := by decide +kernel
theorem dX5_init_38 : decode cX5_init 38 = .ok (.goto (-23), 3) := by decide +kernel
theorem dX5_init_41 : decode cX5_init 41 = .ok (.aload_n 0, 1) := by decide +kernel
theorem dX5_init_42 : decode cX5_init 42 = .ok (.new 18, 3) := by decide +kernel
theorem dX5_init_45 : decode cX5_init 45 = .ok (.dup, 1) := by decide +kernel
theorem dX5_init_46 : decode cX5_init 46 = .ok (.invokespecial 20, 3) := by decide +kernel
theorem dX5_init_49 : decode cX5_init 49 = .ok (.putfield 21, 3) := by decide +kernel
theorem dX5_init_52 : decode cX5_init 52 = .ok (.aload_n 0, 1) := by decide +kernel
theorem dX5_init_53 : decode cX5_init 53 = .ok (.iconst 0, 1) := by decide +kernel
theorem dX5_init_54 : decode cX5_init 54 = .ok (.putfield 25, 3) := by decide +kernel
theorem dX5_init_57 : decode cX5_init 57 = .ok (.return_, 1) := by decide +kernel
theorem dX5_poke_0 : decode cX5_poke 0 = .ok (.iload_n 1, 1) := by decide +kernel
theorem dX5_poke_1 : decode cX5_poke 1 = .ok (.invokestatic 29, 3) := by decide +kernel
theorem dX5_poke_4 : decode cX5_poke 4 = .ok (.ifCond .eq 13, 3) := by decide +kernel
theorem dX5_poke_7 : decode cX5_poke 7 = .ok (.iload_n 2, 1) := by decide +kernel
theorem dX5_poke_8 : decode cX5_poke 8 = .ok (.ifCond .lt 9, 3) := by decide +kernel
theorem dX5_poke_11 : decode cX5_poke 11 = .ok (.iload_n 2, 1) := by decide +kernel
theorem dX5_poke_12 : decode cX5_poke 12 = .ok (.bipush 125, 2) := by decide +kernel
theorem dX5_poke_14 : decode cX5_poke 14 = .ok (.if_icmp .le 5, 3) := by decide +kernel
theorem dX5_poke_17 : decode cX5_poke 17 = .ok (.iconst (-1), 1) := by decide +kernel
theorem dX5_poke_18 : decode cX5_poke 18 = .ok (.ireturn, 1) := by decide +kernel
theorem dX5_poke_19 : decode cX5_poke 19 = .ok (.aload_n 0, 1) := by decide +kernel
theorem dX5_poke_20 : decode cX5_poke 20 = .ok (.getfield 11, 3) := by decide +kernel
theorem dX5_poke_23 : decode cX5_poke 23 = .ok (.iload_n 1, 1) := by decide +kernel
theorem dX5_poke_24 : decode cX5_poke 24 = .ok (.aaload, 1) := by decide +kernel
theorem dX5_poke_25 : decode cX5_poke 25 = .ok (.getfield 33, 3) := by decide +kernel
theorem dX5_poke_28 : decode cX5_poke 28 = .ok (.astore 6, 2) := by decide +kernel
theorem dX5_poke_30 : decode cX5_poke 30 = .ok (.aload 6, 2) := by decide +kernel
theorem dX5_poke_32 : decode cX5_poke 32 = .ok (.iload_n 2, 1) := by decide +kernel
theorem dX5_poke_33 : decode cX5_poke 33 = .ok (.iload_n 3, 1) := by decide +kernel
theorem dX5_poke_34 : decode cX5_poke 34 = .ok (.iastore, 1) := by decide +kernel
theorem dX5_poke_35 : decode cX5_poke 35 = .ok (.aload 6, 2) := by decide +kernel
theorem dX5_poke_37 : decode cX5_poke 37 = .ok (.iload_n 2, 1) := by decide +kernel
theorem dX5_poke_38 : decode cX5_poke 38 = .ok (.iconst 1, 1) := by decide +kernel
theorem dX5_poke_39 : decode cX5_poke 39 = .ok (.iadd, 1) := by decide +kernel
theorem dX5_poke_40 : decode cX5_poke 40 = .ok (.iload 4, 2) := by decide +kernel
theorem dX5_poke_42 : decode cX5_poke 42 = .ok (.iastore, 1) := by decide +kernel
theorem dX5_poke_43 : decode cX5_poke 43 = .ok (.aload 6, 2) := by decide +kernel
theorem dX5_poke_45 : decode cX5_poke 45 = .ok (.iload_n 2, 1) := by decide +kernel
theorem dX5_poke_46 : decode cX5_poke 46 = .ok (.iconst 2, 1) := by decide +kernel
theorem dX5_poke_47 : decode cX5_poke 47 = .ok (.iadd, 1) := by decide +kernel
theorem dX5_poke_48 : decode cX5_poke 48 = .ok (.iload 5, 2) := by decide +kernel
theorem dX5_poke_50 : decode cX5_poke 50 = .ok (.iastore, 1) := by decide +kernel
theorem dX5_poke_51 : decode cX5_poke 51 = .ok (.iconst 1, 1) := by decide +kernel
theorem dX5_poke_52 : decode cX5_poke 52 = .ok (.ireturn, 1) := by decide +kernel
theorem dX5_start_0 : decode cX5_start 0 = .ok (.iload_n 1, 1) := by decide +kernel
theorem dX5_start_1 : decode cX5_start 1 = .ok (.invokestatic 29, 3) := by decide +kernel
theorem dX5_start_4 : decode cX5_start 4 = .ok (.ifCond .eq 15, 3) := by decide +kernel
theorem dX5_start_7 : decode cX5_start 7 = .ok (.aload_n 0, 1) := by decide +kernel
theorem dX5_start_8 : decode cX5_start 8 = .ok (.getfield 11, 3) := by decide +kernel
theorem dX5_start_11 : decode cX5_start 11 = .ok (.iload_n 1, 1) := by decide +kernel
theorem dX5_start_12 : decode cX5_start 12 = .ok (.aaload, 1) := by decide +kernel
theorem dX5_start_13 : decode cX5_start 13 = .ok (.getfield 37, 3) := by decide +kernel
theorem dX5_start_16 : decode cX5_start 16 = .ok (.ifCond .eq 5, 3) := by decide +kernel
theorem dX5_start_19 : decode cX5_start 19 = .ok (.iconst (-1), 1) := by decide +kernel
theorem dX5_start_20 : decode cX5_start 20 = .ok (.ireturn, 1) := by decide +kernel
theorem dX5_start_21 : decode cX5_start 21 = .ok (.aload_n 0, 1) := by decide +kernel
theorem dX5_start_22 : decode cX5_start 22 = .ok (.getfield 11, 3) := by decide +kernel
theorem dX5_start_25 : decode cX5_start 25 = .ok (.iload_n 1, 1) := by decide +kernel
theorem dX5_start_26 : decode cX5_start 26 = .ok (.aaload, 1) := by decide +kernel
theorem dX5_start_27 : decode cX5_start 27 = .ok (.iconst 1, 1) := by decide +kernel
theorem dX5_start_28 : decode cX5_start 28 = .ok (.putfield 37, 3) := by decide +kernel
theorem dX5_start_31 : decode cX5_start 31 = .ok (.iconst 1, 1) := by decide +kernel
theorem dX5_start_32 : decode cX5_start 32 = .ok (.ireturn, 1) := by decide +kernel
theorem dX5_counter_0 : decode cX5_counter 0 = .ok (.iload_n 1, 1) := by decide +kernel
theorem dX5_counter_1 : decode cX5_counter 1 = .ok (.invokestatic 29, 3) := by decide +kernel
theorem dX5_counter_4 : decode cX5_counter 4 = .ok (.ifCond .eq 13, 3) := by decide +kernel
theorem dX5_counter_7 : decode cX5_counter 7 = .ok (.iload_n 2, 1) := by decide +kernel
theorem dX5_counter_8 : decode cX5_counter 8 = .ok (.ifCond .lt 9, 3) := by decide +kernel
theorem dX5_counter_11 : decode cX5_counter 11 = .ok (.iload_n 2, 1) := by decide +kernel
theorem dX5_counter_12 : decode cX5_counter 12 = .ok (.bipush 32, 2) := by decide +kernel
theorem dX5_counter_14 : decode cX5_counter 14 = .ok (.if_icmp .le 5, 3) := by decide +kernel
theorem dX5_counter_17 : decode cX5_counter 17 = .ok (.iconst (-1), 1) := by decide +kernel
theorem dX5_counter_18 : decode cX5_counter 18 = .ok (.ireturn, 1) := by decide +kernel
theorem dX5_counter_19 : decode cX5_counter 19 = .ok (.aload_n 0, 1) := by decide +kernel
theorem dX5_counter_20 : decode cX5_counter 20 = .ok (.getfield 11, 3) := by decide +kernel
theorem dX5_counter_23 : decode cX5_counter 23 = .ok (.iload_n 1, 1) := by decide +kernel
theorem dX5_counter_24 : decode cX5_counter 24 = .ok (.aaload, 1) := by decide +kernel
theorem dX5_counter_25 : decode cX5_counter 25 = .ok (.getfield 40, 3) := by decide +kernel
theorem dX5_counter_28 : decode cX5_counter 28 = .ok (.istore_n 3, 1) := by decide +kernel
theorem dX5_counter_29 : decode cX5_counter 29 = .ok (.iload_n 2, 1) := by decide +kernel
theorem dX5_counter_30 : decode cX5_counter 30 = .ok (.iload_n 3, 1) := by decide +kernel
theorem dX5_counter_31 : decode cX5_counter 31 = .ok (.if_icmp .ge 6, 3) := by decide +kernel
theorem dX5_counter_34 : decode cX5_counter 34 = .ok (.bipush (-2), 2) := by decide +kernel
theorem dX5_counter_36 : decode cX5_counter 36 = .ok (.ireturn, 1) := by decide +kernel
theorem dX5_counter_37 : decode cX5_counter 37 = .ok (.aload_n 0, 1) := by decide +kernel
theorem dX5_counter_38 : decode cX5_counter 38 = .ok (.getfield 11, 3) := by decide +kernel
theorem dX5_counter_41 : decode cX5_counter 41 = .ok (.iload_n 1, 1) := by decide +kernel
theorem dX5_counter_42 : decode cX5_counter 42 = .ok (.aaload, 1) := by decide +kernel
theorem dX5_counter_43 : decode cX5_counter 43 = .ok (.iload_n 2, 1) := by decide +kernel
theorem dX5_counter_44 : decode cX5_counter 44 = .ok (.putfield 40, 3) := by decide +kernel
theorem dX5_counter_47 : decode cX5_counter 47 = .ok (.iload_n 3, 1) := by decide +kernel
theorem dX5_counter_48 : decode cX5_counter 48 = .ok (.ireturn, 1) := by decide +kernel
theorem dX5_tag_0 : decode cX5_tag 0 = .ok (.iload_n 1, 1) := by decide +kernel
theorem dX5_tag_1 : decode cX5_tag 1 = .ok (.invokestatic 29, 3) := by decide +kernel
theorem dX5_tag_4 : decode cX5_tag 4 = .ok (.ifCond .eq 11, 3) := by decide +kernel
theorem dX5_tag_7 : decode cX5_tag 7 = .ok (.aload_n 0, 1) := by decide +kernel
theorem dX5_tag_8 : decode cX5_tag 8 = .ok (.iload_n 2, 1) := by decide +kernel
theorem dX5_tag_9 : decode cX5_tag 9 = .ok (.invokevirtual 43, 3) := by decide +kernel
theorem dX5_tag_12 : decode cX5_tag 12 = .ok (.ifCond .ne 5, 3) := by decide +kernel
theorem dX5_tag_15 : decode cX5_tag 15 = .ok (.iconst (-1), 1) := by decide +kernel
theorem dX5_tag_16 : decode cX5_tag 16 = .ok (.ireturn, 1) := by decide +kernel
theorem dX5_tag_17 : decode cX5_tag 17 = .ok (.aload_n 0, 1) := by decide +kernel
theorem dX5_tag_18 : decode cX5_tag 18 = .ok (.getfield 11, 3) := by decide +kernel
theorem dX5_tag_21 : decode cX5_tag 21 = .ok (.iload_n 1, 1) := by decide +kernel
theorem dX5_tag_22 : decode cX5_tag 22 = .ok (.aaload, 1) := by decide +kernel
theorem dX5_tag_23 : decode cX5_tag 23 = .ok (.getfield 46, 3) := by decide +kernel
theorem dX5_tag_26 : decode cX5_tag 26 = .ok (.iload_n 2, 1) := by decide +kernel
theorem dX5_tag_27 : decode cX5_tag 27 = .ok (.iload_n 3, 1) := by decide +kernel
theorem dX5_tag_28 : decode cX5_tag 28 = .ok (.bipush 16, 2) := by decide +kernel
theorem dX5_tag_30 : decode cX5_tag 30 = .ok (.invokevirtual 49, 3) := by decide +kernel
theorem dX5_tag_33 : decode cX5_tag 33 = .ok (.ireturn, 1) := by decide +kernel
theorem dX5_capability_0 : decode cX5_capability 0 = .ok (.iload_n 1, 1) := by decide +kernel
theorem dX5_capability_1 : decode cX5_capability 1 = .ok (.invokestatic 29, 3) := by decide +kernel
theorem dX5_capability_4 : decode cX5_capability 4 = .ok (.ifCond .eq 20, 3) := by decide +kernel
theorem dX5_capability_7 : decode cX5_capability 7 = .ok (.iload_n 2, 1) := by decide +kernel
theorem dX5_capability_8 : decode cX5_capability 8 = .ok (.ifCond .eq 8, 3) := by decide +kernel
theorem dX5_capability_11 : decode cX5_capability 11 = .ok (.iload_n 2, 1) := by decide +kernel
theorem dX5_capability_12 : decode cX5_capability 12 = .ok (.iconst 1, 1) := by decide +kernel
theorem dX5_capability_13 : decode cX5_capability 13 = .ok (.if_icmp .ne 11, 3) := by decide +kernel
theorem dX5_capability_16 : decode cX5_capability 16 = .ok (.aload_n 0, 1) := by decide +kernel
theorem dX5_capability_17 : decode cX5_capability 17 = .ok (.iload_n 3, 1) := by decide +kernel
theorem dX5_capability_18 : decode cX5_capability 18 = .ok (.invokevirtual 43, 3) := by decide +kernel
theorem dX5_capability_21 : decode cX5_capability 21 = .ok (.ifCond .ne 5, 3) := by decide +kernel
theorem dX5_capability_24 : decode cX5_capability 24 = .ok (.iconst (-1), 1) := by decide +kernel
theorem dX5_capability_25 : decode cX5_capability 25 = .ok (.ireturn, 1) := by decide +kernel
theorem dX5_capability_26 : decode cX5_capability 26 = .ok (.aload_n 0, 1) := by decide +kernel
theorem dX5_capability_27 : decode cX5_capability 27 = .ok (.getfield 11, 3) := by decide +kernel
theorem dX5_capability_30 : decode cX5_capability 30 = .ok (.iload_n 1, 1) := by decide +kernel
theorem dX5_capability_31 : decode cX5_capability 31 = .ok (.aaload, 1) := by decide +kernel
theorem dX5_capability_32 : decode cX5_capability 32 = .ok (.iload_n 2, 1) := by decide +kernel
theorem dX5_capability_33 : decode cX5_capability 33 = .ok (.invokevirtual 53, 3) := by decide +kernel
theorem dX5_capability_36 : decode cX5_capability 36 = .ok (.iload_n 3, 1) := by decide +kernel
theorem dX5_capability_37 : decode cX5_capability 37 = .ok (.iload 4, 2) := by decide +kernel
theorem dX5_capability_39 : decode cX5_capability 39 = .ok (.bipush 40, 2) := by decide +kernel
theorem dX5_capability_41 : decode cX5_capability 41 = .ok (.invokevirtual 49, 3) := by decide +kernel
theorem dX5_capability_44 : decode cX5_capability 44 = .ok (.ireturn, 1) := by decide +kernel
theorem dX5_file_0 : decode cX5_file 0 = .ok (.iload_n 1, 1) := by decide +kernel
theorem dX5_file_1 : decode cX5_file 1 = .ok (.invokestatic 57, 3) := by decide +kernel
theorem dX5_file_4 : decode cX5_file 4 = .ok (.ifCond .eq 15, 3) := by decide +kernel
theorem dX5_file_7 : decode cX5_file 7 = .ok (.iload_n 2, 1) := by decide +kernel
theorem dX5_file_8 : decode cX5_file 8 = .ok (.ifCond .lt 13, 3) := by decide +kernel
theorem dX5_file_11 : decode cX5_file 11 = .ok (.aload_n 0, 1) := by decide +kernel
theorem dX5_file_12 : decode cX5_file 12 = .ok (.iload_n 2, 1) := by decide +kernel
theorem dX5_file_13 : decode cX5_file 13 = .ok (.invokevirtual 43, 3) := by decide +kernel
theorem dX5_file_16 : decode cX5_file 16 = .ok (.ifCond .ne 5, 3) := by decide +kernel
theorem dX5_file_19 : decode cX5_file 19 = .ok (.iconst (-1), 1) := by decide +kernel
theorem dX5_file_20 : decode cX5_file 20 = .ok (.ireturn, 1) := by decide +kernel
theorem dX5_file_21 : decode cX5_file 21 = .ok (.aload_n 0, 1) := by decide +kernel
theorem dX5_file_22 : decode cX5_file 22 = .ok (.iload_n 1, 1) := by decide +kernel
theorem dX5_file_23 : decode cX5_file 23 = .ok (.invokevirtual 60, 3) := by decide +kernel
theorem dX5_file_26 : decode cX5_file 26 = .ok (.astore_n 3, 1) := by decide +kernel
theorem dX5_file_27 : decode cX5_file 27 = .ok (.aload_n 3, 1) := by decide +kernel
theorem dX5_file_28 : decode cX5_file 28 = .ok (.iconst 1, 1) := by decide +kernel
theorem dX5_file_29 : decode cX5_file 29 = .ok (.putfield 64, 3) := by decide +kernel
theorem dX5_file_32 : decode cX5_file 32 = .ok (.iload_n 2, 1) := by decide +kernel
theorem dX5_file_33 : decode cX5_file 33 = .ok (.ifCond .ge 11, 3) := by decide +kernel
theorem dX5_file_36 : decode cX5_file 36 = .ok (.aload_n 3, 1) := by decide +kernel
theorem dX5_file_37 : decode cX5_file 37 = .ok (.getfield 70, 3) := by decide +kernel
theorem dX5_file_40 : decode cX5_file 40 = .ok (.getfield 71, 3) := by decide +kernel
theorem dX5_file_43 : decode cX5_file 43 = .ok (.ireturn, 1) := by decide +kernel
theorem dX5_file_44 : decode cX5_file 44 = .ok (.aload_n 3, 1) := by decide +kernel
theorem dX5_file_45 : decode cX5_file 45 = .ok (.getfield 70, 3) := by decide +kernel
theorem dX5_file_48 : decode cX5_file 48 = .ok (.iload_n 2, 1) := by decide +kernel
theorem dX5_file_49 : decode cX5_file 49 = .ok (.iconst 1, 1) := by decide +kernel
theorem dX5_file_50 : decode cX5_file 50 = .ok (.bipush 16, 2) := by decide +kernel
theorem dX5_file_52 : decode cX5_file 52 = .ok (.invokevirtual 49, 3) := by decide +kernel
theorem dX5_file_55 : decode cX5_file 55 = .ok (.ireturn, 1) := by decide +kernel
theorem dX5_fill_0 : decode cX5_fill 0 = .ok (.aload_n 0, 1) := by decide +kernel
theorem dX5_fill_1 : decode cX5_fill 1 = .ok (.iload_n 1, 1) := by decide +kernel
theorem dX5_fill_2 : decode cX5_fill 2 = .ok (.iload_n 2, 1) := by decide +kernel
theorem dX5_fill_3 : decode cX5_fill 3 = .ok (.invokevirtual 74, 3) := by decide +kernel
theorem dX5_fill_6 : decode cX5_fill 6 = .ok (.ifCond .ne 5, 3) := by decide +kernel
theorem dX5_fill_9 : decode cX5_fill 9 = .ok (.iconst 0, 1) := by decide +kernel
theorem dX5_fill_10 : decode cX5_fill 10 = .ok (.ireturn, 1) := by decide +kernel
theorem dX5_fill_11 : decode cX5_fill 11 = .ok (.aload_n 0, 1) := by decide +kernel
theorem dX5_fill_12 : decode cX5_fill 12 = .ok (.iload_n 1, 1) := by decide +kernel
theorem dX5_fill_13 : decode cX5_fill 13 = .ok (.invokevirtual 60, 3) := by decide +kernel
theorem dX5_fill_16 : decode cX5_fill 16 = .ok (.getfield 78, 3) := by decide +kernel
theorem dX5_fill_19 : decode cX5_fill 19 = .ok (.astore 4, 2) := by decide +kernel
theorem dX5_fill_21 : decode cX5_fill 21 = .ok (.aload 4, 2) := by decide +kernel
theorem dX5_fill_23 : decode cX5_fill 23 = .ok (.iload_n 2, 1) := by decide +kernel
theorem dX5_fill_24 : decode cX5_fill 24 = .ok (.iaload, 1) := by decide +kernel
theorem dX5_fill_25 : decode cX5_fill 25 = .ok (.istore 5, 2) := by decide +kernel
theorem dX5_fill_27 : decode cX5_fill 27 = .ok (.aload 4, 2) := by decide +kernel
theorem dX5_fill_29 : decode cX5_fill 29 = .ok (.iload_n 2, 1) := by decide +kernel
theorem dX5_fill_30 : decode cX5_fill 30 = .ok (.iload_n 3, 1) := by decide +kernel
theorem dX5_fill_31 : decode cX5_fill 31 = .ok (.iastore, 1) := by decide +kernel
theorem dX5_fill_32 : decode cX5_fill 32 = .ok (.iload 5, 2) := by decide +kernel
theorem dX5_fill_34 : decode cX5_fill 34 = .ok (.ireturn, 1) := by decide +kernel
theorem dX5_post_0 : decode cX5_post 0 = .ok (.iload_n 1, 1) := by decide +kernel
theorem dX5_post_1 : decode cX5_post 1 = .ok (.invokestatic 29, 3) := by decide +kernel
theorem dX5_post_4 : decode cX5_post 4 = .ok (.ifCond .eq 10, 3) := by decide +kernel
theorem dX5_post_7 : decode cX5_post 7 = .ok (.iload_n 2, 1) := by decide +kernel
theorem dX5_post_8 : decode cX5_post 8 = .ok (.invokestatic 29, 3) := by decide +kernel
theorem dX5_post_11 : decode cX5_post 11 = .ok (.ifCond .ne 5, 3) := by decide +kernel
theorem dX5_post_14 : decode cX5_post 14 = .ok (.iconst (-1), 1) := by decide +kernel
theorem dX5_post_15 : decode cX5_post 15 = .ok (.ireturn, 1) := by decide +kernel
theorem dX5_post_16 : decode cX5_post 16 = .ok (.aload_n 0, 1) := by decide +kernel
theorem dX5_post_17 : decode cX5_post 17 = .ok (.getfield 11, 3) := by decide +kernel
theorem dX5_post_20 : decode cX5_post 20 = .ok (.iload_n 2, 1) := by decide +kernel
theorem dX5_post_21 : decode cX5_post 21 = .ok (.aaload, 1) := by decide +kernel
theorem dX5_post_22 : decode cX5_post 22 = .ok (.getfield 81, 3) := by decide +kernel
theorem dX5_post_25 : decode cX5_post 25 = .ok (.astore 4, 2) := by decide +kernel
theorem dX5_post_27 : decode cX5_post 27 = .ok (.aload 4, 2) := by decide +kernel
theorem dX5_post_29 : decode cX5_post 29 = .ok (.aload_n 0, 1) := by decide +kernel
theorem dX5_post_30 : decode cX5_post 30 = .ok (.getfield 11, 3) := by decide +kernel
theorem dX5_post_33 : decode cX5_post 33 = .ok (.iload_n 1, 1) := by decide +kernel
theorem dX5_post_34 : decode cX5_post 34 = .ok (.aaload, 1) := by decide +kernel
theorem dX5_post_35 : decode cX5_post 35 = .ok (.iload_n 3, 1) := by decide +kernel
theorem dX5_post_36 : decode cX5_post 36 = .ok (.iconst (-1), 1) := by decide +kernel
theorem dX5_post_37 : decode cX5_post 37 = .ok (.invokevirtual 85, 3) := by decide +kernel
theorem dX5_post_40 : decode cX5_post 40 = .ok (.ifCond .ne 5, 3) := by decide +kernel
theorem dX5_post_43 : decode cX5_post 43 = .ok (.iconst (-1), 1) := by decide +kernel
theorem dX5_post_44 : decode cX5_post 44 = .ok (.ireturn, 1) := by decide +kernel
theorem dX5_post_45 : decode cX5_post 45 = .ok (.aload 4, 2) := by decide +kernel
theorem dX5_post_47 : decode cX5_post 47 = .ok (.getfield 91, 3) := by decide +kernel
theorem dX5_post_50 : decode cX5_post 50 = .ok (.ireturn, 1) := by decide +kernel
theorem dX5_run_0 : decode cX5_run 0 = .ok (.iload_n 1, 1) := by decide +kernel
theorem dX5_run_1 : decode cX5_run 1 = .ok (.ifCond .lt 10, 3) := by decide +kernel
theorem dX5_run_4 : decode cX5_run 4 = .ok (.iload_n 1, 1) := by decide +kernel
theorem dX5_run_5 : decode cX5_run 5 = .ok (.sipush 5000, 3) := by decide +kernel
theorem dX5_run_8 : decode cX5_run 8 = .ok (.if_icmp .le 5, 3) := by decide +kernel
theorem dX5_run_11 : decode cX5_run 11 = .ok (.iconst (-1), 1) := by decide +kernel
theorem dX5_run_12 : decode cX5_run 12 = .ok (.ireturn, 1) := by decide +kernel
theorem dX5_run_13 : decode cX5_run 13 = .ok (.iconst 0, 1) := by decide +kernel
theorem dX5_run_14 : decode cX5_run 14 = .ok (.istore_n 2, 1) := by decide +kernel
theorem dX5_run_15 : decode cX5_run 15 = .ok (.iload_n 2, 1) := by decide +kernel
theorem dX5_run_16 : decode cX5_run 16 = .ok (.iload_n 1, 1) := by decide +kernel
theorem dX5_run_17 : decode cX5_run 17 = .ok (.if_icmp .ge 47, 3) := by decide +kernel
theorem dX5_run_20 : decode cX5_run 20 = .ok (.aload_n 0, 1) := by decide +kernel
theorem dX5_run_21 : decode cX5_run 21 = .ok (.getfield 11, 3) := by decide +kernel
theorem dX5_run_24 : decode cX5_run 24 = .ok (.aload_n 0, 1) := by decide +kernel
theorem dX5_run_25 : decode cX5_run 25 = .ok (.getfield 25, 3) := by decide +kernel
theorem dX5_run_28 : decode cX5_run 28 = .ok (.bipush 8, 2) := by decide +kernel
theorem dX5_run_30 : decode cX5_run 30 = .ok (.invokestatic 92, 3) := by decide +kernel
theorem dX5_run_33 : decode cX5_run 33 = .ok (.aaload, 1) := by decide +kernel
theorem dX5_run_34 : decode cX5_run 34 = .ok (.astore_n 3, 1) := by decide +kernel
theorem dX5_run_35 : decode cX5_run 35 = .ok (.aload_n 0, 1) := by decide +kernel
theorem dX5_run_36 : decode cX5_run 36 = .ok (.dup, 1) := by decide +kernel
theorem dX5_run_37 : decode cX5_run 37 = .ok (.getfield 25, 3) := by decide +kernel
theorem dX5_run_40 : decode cX5_run 40 = .ok (.iconst 1, 1) := by decide +kernel
theorem dX5_run_41 : decode cX5_run 41 = .ok (.iadd, 1) := by decide +kernel
theorem dX5_run_42 : decode cX5_run 42 = .ok (.putfield 25, 3) := by decide +kernel
theorem dX5_run_45 : decode cX5_run 45 = .ok (.aload_n 3, 1) := by decide +kernel
theorem dX5_run_46 : decode cX5_run 46 = .ok (.getfield 37, 3) := by decide +kernel
theorem dX5_run_49 : decode cX5_run 49 = .ok (.iconst 1, 1) := by decide +kernel
theorem dX5_run_50 : decode cX5_run 50 = .ok (.if_icmp .ne 8, 3) := by decide +kernel
theorem dX5_run_53 : decode cX5_run 53 = .ok (.aload_n 0, 1) := by decide +kernel
theorem dX5_run_54 : decode cX5_run 54 = .ok (.aload_n 3, 1) := by decide +kernel
theorem dX5_run_55 : decode cX5_run 55 = .ok (.invokevirtual 98, 3) := by decide +kernel
theorem dX5_run_58 : decode cX5_run 58 = .ok (.iinc 2 1, 3) := by decide +kernel
theorem dX5_run_61 : decode cX5_run 61 = .ok (.goto (-46), 3) := by decide +kernel
theorem dX5_run_64 : decode cX5_run 64 = .ok (.aload_n 0, 1) := by decide +kernel
theorem dX5_run_65 : decode cX5_run 65 = .ok (.getfield 25, 3) := by decide +kernel
theorem dX5_run_68 : decode cX5_run 68 = .ok (.ireturn, 1) := by decide +kernel
theorem dX5_cell_0 : decode cX5_cell 0 = .ok (.iload_n 1, 1) := by decide +kernel
theorem dX5_cell_1 : decode cX5_cell 1 = .ok (.invokestatic 29, 3) := by decide +kernel
theorem dX5_cell_4 : decode cX5_cell 4 = .ok (.ifCond .eq 24, 3) := by decide +kernel
theorem dX5_cell_7 : decode cX5_cell 7 = .ok (.iload_n 2, 1) := by decide +kernel
theorem dX5_cell_8 : decode cX5_cell 8 = .ok (.invokestatic 102, 3) := by decide +kernel
theorem dX5_cell_11 : decode cX5_cell 11 = .ok (.ifCond .eq 17, 3) := by decide +kernel
theorem dX5_cell_14 : decode cX5_cell 14 = .ok (.aload_n 0, 1) := by decide +kernel
theorem dX5_cell_15 : decode cX5_cell 15 = .ok (.getfield 11, 3) := by decide +kernel
theorem dX5_cell_18 : decode cX5_cell 18 = .ok (.iload_n 1, 1) := by decide +kernel
theorem dX5_cell_19 : decode cX5_cell 19 = .ok (.aaload, 1) := by decide +kernel
theorem dX5_cell_20 : decode cX5_cell 20 = .ok (.getfield 33, 3) := by decide +kernel
theorem dX5_cell_23 : decode cX5_cell 23 = .ok (.iload_n 2, 1) := by decide +kernel
theorem dX5_cell_24 : decode cX5_cell 24 = .ok (.iaload, 1) := by decide +kernel
theorem dX5_cell_25 : decode cX5_cell 25 = .ok (.goto 4, 3) := by decide +kernel
theorem dX5_cell_28 : decode cX5_cell 28 = .ok (.iconst 0, 1) := by decide +kernel
theorem dX5_cell_29 : decode cX5_cell 29 = .ok (.ireturn, 1) := by decide +kernel
theorem dX5_slot_0 : decode cX5_slot 0 = .ok (.iload_n 1, 1) := by decide +kernel
theorem dX5_slot_1 : decode cX5_slot 1 = .ok (.invokestatic 29, 3) := by decide +kernel
theorem dX5_slot_4 : decode cX5_slot 4 = .ok (.ifCond .ne 5, 3) := by decide +kernel
theorem dX5_slot_7 : decode cX5_slot 7 = .ok (.iconst (-1), 1) := by decide +kernel
theorem dX5_slot_8 : decode cX5_slot 8 = .ok (.ireturn, 1) := by decide +kernel
theorem dX5_slot_9 : decode cX5_slot 9 = .ok (.aload_n 0, 1) := by decide +kernel
theorem dX5_slot_10 : decode cX5_slot 10 = .ok (.getfield 11, 3) := by decide +kernel
theorem dX5_slot_13 : decode cX5_slot 13 = .ok (.iload_n 1, 1) := by decide +kernel
theorem dX5_slot_14 : decode cX5_slot 14 = .ok (.aaload, 1) := by decide +kernel
theorem dX5_slot_15 : decode cX5_slot 15 = .ok (.astore_n 3, 1) := by decide +kernel
theorem dX5_slot_16 : decode cX5_slot 16 = .ok (.iload_n 2, 1) := by decide +kernel
theorem dX5_slot_17 : decode cX5_slot 17 = .ok (.tableswitch 126 0 10 #[59, 64, 69, 74, 79, 87, 92, 100, 108, 116, 121], 59) := by decide +kernel
theorem dX5_slot_76 : decode cX5_slot 76 = .ok (.aload_n 3, 1) := by decide +kernel
theorem dX5_slot_77 : decode cX5_slot 77 = .ok (.getfield 37, 3) := by decide +kernel
theorem dX5_slot_80 : decode cX5_slot 80 = .ok (.ireturn, 1) := by decide +kernel
theorem dX5_slot_81 : decode cX5_slot 81 = .ok (.aload_n 3, 1) := by decide +kernel
theorem dX5_slot_82 : decode cX5_slot 82 = .ok (.getfield 105, 3) := by decide +kernel
theorem dX5_slot_85 : decode cX5_slot 85 = .ok (.ireturn, 1) := by decide +kernel
theorem dX5_slot_86 : decode cX5_slot 86 = .ok (.aload_n 3, 1) := by decide +kernel
theorem dX5_slot_87 : decode cX5_slot 87 = .ok (.getfield 108, 3) := by decide +kernel
theorem dX5_slot_90 : decode cX5_slot 90 = .ok (.ireturn, 1) := by decide +kernel
theorem dX5_slot_91 : decode cX5_slot 91 = .ok (.aload_n 3, 1) := by decide +kernel
theorem dX5_slot_92 : decode cX5_slot 92 = .ok (.getfield 111, 3) := by decide +kernel
theorem dX5_slot_95 : decode cX5_slot 95 = .ok (.ireturn, 1) := by decide +kernel
theorem dX5_slot_96 : decode cX5_slot 96 = .ok (.aload_n 3, 1) := by decide +kernel
theorem dX5_slot_97 : decode cX5_slot 97 = .ok (.getfield 46, 3) := by decide +kernel
theorem dX5_slot_100 : decode cX5_slot 100 = .ok (.getfield 71, 3) := by decide +kernel
theorem dX5_slot_103 : decode cX5_slot 103 = .ok (.ireturn, 1) := by decide +kernel
theorem dX5_slot_104 : decode cX5_slot 104 = .ok (.aload_n 3, 1) := by decide +kernel
theorem dX5_slot_105 : decode cX5_slot 105 = .ok (.getfield 40, 3) := by decide +kernel
theorem dX5_slot_108 : decode cX5_slot 108 = .ok (.ireturn, 1) := by decide +kernel
theorem dX5_slot_109 : decode cX5_slot 109 = .ok (.aload_n 3, 1) := by decide +kernel
theorem dX5_slot_110 : decode cX5_slot 110 = .ok (.getfield 114, 3) := by decide +kernel
theorem dX5_slot_113 : decode cX5_slot 113 = .ok (.getfield 71, 3) := by decide +kernel
theorem dX5_slot_116 : decode cX5_slot 116 = .ok (.ireturn, 1) := by decide +kernel
theorem dX5_slot_117 : decode cX5_slot 117 = .ok (.aload_n 3, 1) := by decide +kernel
theorem dX5_slot_118 : decode cX5_slot 118 = .ok (.getfield 117, 3) := by decide +kernel
theorem dX5_slot_121 : decode cX5_slot 121 = .ok (.getfield 71, 3) := by decide +kernel
theorem dX5_slot_124 : decode cX5_slot 124 = .ok (.ireturn, 1) := by decide +kernel
theorem dX5_slot_125 : decode cX5_slot 125 = .ok (.aload_n 3, 1) := by decide +kernel
theorem dX5_slot_126 : decode cX5_slot 126 = .ok (.getfield 81, 3) := by decide +kernel
theorem dX5_slot_129 : decode cX5_slot 129 = .ok (.getfield 91, 3) := by decide +kernel
theorem dX5_slot_132 : decode cX5_slot 132 = .ok (.ireturn, 1) := by decide +kernel
theorem dX5_slot_133 : decode cX5_slot 133 = .ok (.aload_n 3, 1) := by decide +kernel
theorem dX5_slot_134 : decode cX5_slot 134 = .ok (.invokevirtual 120, 3) := by decide +kernel
theorem dX5_slot_137 : decode cX5_slot 137 = .ok (.ireturn, 1) := by decide +kernel
theorem dX5_slot_138 : decode cX5_slot 138 = .ok (.aload_n 3, 1) := by decide +kernel
theorem dX5_slot_139 : decode cX5_slot 139 = .ok (.getfield 124, 3) := by decide +kernel
theorem dX5_slot_142 : decode cX5_slot 142 = .ok (.ireturn, 1) := by decide +kernel
theorem dX5_slot_143 : decode cX5_slot 143 = .ok (.iconst (-1), 1) := by decide +kernel
theorem dX5_slot_144 : decode cX5_slot 144 = .ok (.ireturn, 1) := by decide +kernel
theorem dX5_label_0 : decode cX5_label 0 = .ok (.iload_n 1, 1) := by decide +kernel
theorem dX5_label_1 : decode cX5_label 1 = .ok (.invokestatic 29, 3) := by decide +kernel
theorem dX5_label_4 : decode cX5_label 4 = .ok (.ifCond .eq 19, 3) := by decide +kernel
theorem dX5_label_7 : decode cX5_label 7 = .ok (.aload_n 0, 1) := by decide +kernel
theorem dX5_label_8 : decode cX5_label 8 = .ok (.getfield 11, 3) := by decide +kernel
theorem dX5_label_11 : decode cX5_label 11 = .ok (.iload_n 1, 1) := by decide +kernel
theorem dX5_label_12 : decode cX5_label 12 = .ok (.aaload, 1) := by decide +kernel
theorem dX5_label_13 : decode cX5_label 13 = .ok (.getfield 46, 3) := by decide +kernel
theorem dX5_label_16 : decode cX5_label 16 = .ok (.iload_n 2, 1) := by decide +kernel
theorem dX5_label_17 : decode cX5_label 17 = .ok (.invokevirtual 127, 3) := by decide +kernel
theorem dX5_label_20 : decode cX5_label 20 = .ok (.goto 4, 3) := by decide +kernel
theorem dX5_label_23 : decode cX5_label 23 = .ok (.iconst (-1), 1) := by decide +kernel
theorem dX5_label_24 : decode cX5_label 24 = .ok (.ireturn, 1) := by decide +kernel
theorem dX5_output_0 : decode cX5_output 0 = .ok (.aload_n 0, 1) := by decide +kernel
theorem dX5_output_1 : decode cX5_output 1 = .ok (.iload_n 1, 1) := by decide +kernel
theorem dX5_output_2 : decode cX5_output 2 = .ok (.iload_n 2, 1) := by decide +kernel
theorem dX5_output_3 : decode cX5_output 3 = .ok (.invokevirtual 131, 3) := by decide +kernel
theorem dX5_output_6 : decode cX5_output 6 = .ok (.ifCond .eq 17, 3) := by decide +kernel
theorem dX5_output_9 : decode cX5_output 9 = .ok (.aload_n 0, 1) := by decide +kernel
theorem dX5_output_10 : decode cX5_output 10 = .ok (.getfield 11, 3) := by decide +kernel
theorem dX5_output_13 : decode cX5_output 13 = .ok (.iload_n 1, 1) := by decide +kernel
theorem dX5_output_14 : decode cX5_output 14 = .ok (.aaload, 1) := by decide +kernel
theorem dX5_output_15 : decode cX5_output 15 = .ok (.getfield 134, 3) := by decide +kernel
theorem dX5_output_18 : decode cX5_output 18 = .ok (.iload_n 2, 1) := by decide +kernel
theorem dX5_output_19 : decode cX5_output 19 = .ok (.iaload, 1) := by decide +kernel
theorem dX5_output_20 : decode cX5_output 20 = .ok (.goto 4, 3) := by decide +kernel
theorem dX5_output_23 : decode cX5_output 23 = .ok (.iconst 0, 1) := by decide +kernel
theorem dX5_output_24 : decode cX5_output 24 = .ok (.ireturn, 1) := by decide +kernel
theorem dX5_outputTags_0 : decode cX5_outputTags 0 = .ok (.aload_n 0, 1) := by decide +kernel
theorem dX5_outputTags_1 : decode cX5_outputTags 1 = .ok (.iload_n 1, 1) := by decide +kernel
theorem dX5_outputTags_2 : decode cX5_outputTags 2 = .ok (.iload_n 2, 1) := by decide +kernel
theorem dX5_outputTags_3 : decode cX5_outputTags 3 = .ok (.invokevirtual 131, 3) := by decide +kernel
theorem dX5_outputTags_6 : decode cX5_outputTags 6 = .ok (.ifCond .eq 17, 3) := by decide +kernel
theorem dX5_outputTags_9 : decode cX5_outputTags 9 = .ok (.aload_n 0, 1) := by decide +kernel
theorem dX5_outputTags_10 : decode cX5_outputTags 10 = .ok (.getfield 11, 3) := by decide +kernel
theorem dX5_outputTags_13 : decode cX5_outputTags 13 = .ok (.iload_n 1, 1) := by decide +kernel
theorem dX5_outputTags_14 : decode cX5_outputTags 14 = .ok (.aaload, 1) := by decide +kernel
theorem dX5_outputTags_15 : decode cX5_outputTags 15 = .ok (.getfield 137, 3) := by decide +kernel
theorem dX5_outputTags_18 : decode cX5_outputTags 18 = .ok (.iload_n 2, 1) := by decide +kernel
theorem dX5_outputTags_19 : decode cX5_outputTags 19 = .ok (.iaload, 1) := by decide +kernel
theorem dX5_outputTags_20 : decode cX5_outputTags 20 = .ok (.goto 4, 3) := by decide +kernel
theorem dX5_outputTags_23 : decode cX5_outputTags 23 = .ok (.iconst (-1), 1) := by decide +kernel
theorem dX5_outputTags_24 : decode cX5_outputTags 24 = .ok (.ireturn, 1) := by decide +kernel
theorem dX5_content_0 : decode cX5_content 0 = .ok (.aload_n 0, 1) := by decide +kernel
theorem dX5_content_1 : decode cX5_content 1 = .ok (.iload_n 1, 1) := by decide +kernel
theorem dX5_content_2 : decode cX5_content 2 = .ok (.iload_n 2, 1) := by decide +kernel
theorem dX5_content_3 : decode cX5_content 3 = .ok (.invokevirtual 74, 3) := by decide +kernel
theorem dX5_content_6 : decode cX5_content 6 = .ok (.ifCond .eq 16, 3) := by decide +kernel
theorem dX5_content_9 : decode cX5_content 9 = .ok (.aload_n 0, 1) := by decide +kernel
theorem dX5_content_10 : decode cX5_content 10 = .ok (.iload_n 1, 1) := by decide +kernel
theorem dX5_content_11 : decode cX5_content 11 = .ok (.invokevirtual 60, 3) := by decide +kernel
theorem dX5_content_14 : decode cX5_content 14 = .ok (.getfield 78, 3) := by decide +kernel
theorem dX5_content_17 : decode cX5_content 17 = .ok (.iload_n 2, 1) := by decide +kernel
theorem dX5_content_18 : decode cX5_content 18 = .ok (.iaload, 1) := by decide +kernel
theorem dX5_content_19 : decode cX5_content 19 = .ok (.goto 4, 3) := by decide +kernel
theorem dX5_content_22 : decode cX5_content 22 = .ok (.iconst 0, 1) := by decide +kernel
theorem dX5_content_23 : decode cX5_content 23 = .ok (.ireturn, 1) := by decide +kernel
theorem dX5_fileTags_0 : decode cX5_fileTags 0 = .ok (.iload_n 1, 1) := by decide +kernel
theorem dX5_fileTags_1 : decode cX5_fileTags 1 = .ok (.invokestatic 57, 3) := by decide +kernel
theorem dX5_fileTags_4 : decode cX5_fileTags 4 = .ok (.ifCond .eq 28, 3) := by decide +kernel
theorem dX5_fileTags_7 : decode cX5_fileTags 7 = .ok (.aload_n 0, 1) := by decide +kernel
theorem dX5_fileTags_8 : decode cX5_fileTags 8 = .ok (.iload_n 1, 1) := by decide +kernel
theorem dX5_fileTags_9 : decode cX5_fileTags 9 = .ok (.invokevirtual 60, 3) := by decide +kernel
theorem dX5_fileTags_12 : decode cX5_fileTags 12 = .ok (.getfield 64, 3) := by decide +kernel
theorem dX5_fileTags_15 : decode cX5_fileTags 15 = .ok (.ifCond .eq 17, 3) := by decide +kernel
theorem dX5_fileTags_18 : decode cX5_fileTags 18 = .ok (.aload_n 0, 1) := by decide +kernel
theorem dX5_fileTags_19 : decode cX5_fileTags 19 = .ok (.iload_n 1, 1) := by decide +kernel
theorem dX5_fileTags_20 : decode cX5_fileTags 20 = .ok (.invokevirtual 60, 3) := by decide +kernel
theorem dX5_fileTags_23 : decode cX5_fileTags 23 = .ok (.getfield 70, 3) := by decide +kernel
theorem dX5_fileTags_26 : decode cX5_fileTags 26 = .ok (.getfield 71, 3) := by decide +kernel
theorem dX5_fileTags_29 : decode cX5_fileTags 29 = .ok (.goto 4, 3) := by decide +kernel
theorem dX5_fileTags_32 : decode cX5_fileTags 32 = .ok (.iconst (-1), 1) := by decide +kernel
theorem dX5_fileTags_33 : decode cX5_fileTags 33 = .ok (.ireturn, 1) := by decide +kernel
theorem dX5_mayFlow_0 : decode cX5_mayFlow 0 = .ok (.iload_n 1, 1) := by decide +kernel
theorem dX5_mayFlow_1 : decode cX5_mayFlow 1 = .ok (.invokestatic 29, 3) := by decide +kernel
theorem dX5_mayFlow_4 : decode cX5_mayFlow 4 = .ok (.ifCond .eq 38, 3) := by decide +kernel
theorem dX5_mayFlow_7 : decode cX5_mayFlow 7 = .ok (.iload_n 2, 1) := by decide +kernel
theorem dX5_mayFlow_8 : decode cX5_mayFlow 8 = .ok (.invokestatic 29, 3) := by decide +kernel
theorem dX5_mayFlow_11 : decode cX5_mayFlow 11 = .ok (.ifCond .eq 31, 3) := by decide +kernel
theorem dX5_mayFlow_14 : decode cX5_mayFlow 14 = .ok (.aload_n 0, 1) := by decide +kernel
theorem dX5_mayFlow_15 : decode cX5_mayFlow 15 = .ok (.getfield 11, 3) := by decide +kernel
theorem dX5_mayFlow_18 : decode cX5_mayFlow 18 = .ok (.iload_n 1, 1) := by decide +kernel
theorem dX5_mayFlow_19 : decode cX5_mayFlow 19 = .ok (.aaload, 1) := by decide +kernel
theorem dX5_mayFlow_20 : decode cX5_mayFlow 20 = .ok (.getfield 46, 3) := by decide +kernel
theorem dX5_mayFlow_23 : decode cX5_mayFlow 23 = .ok (.aload_n 0, 1) := by decide +kernel
theorem dX5_mayFlow_24 : decode cX5_mayFlow 24 = .ok (.getfield 11, 3) := by decide +kernel
theorem dX5_mayFlow_27 : decode cX5_mayFlow 27 = .ok (.iload_n 2, 1) := by decide +kernel
theorem dX5_mayFlow_28 : decode cX5_mayFlow 28 = .ok (.aaload, 1) := by decide +kernel
theorem dX5_mayFlow_29 : decode cX5_mayFlow 29 = .ok (.getfield 46, 3) := by decide +kernel
theorem dX5_mayFlow_32 : decode cX5_mayFlow 32 = .ok (.invokevirtual 140, 3) := by decide +kernel
theorem dX5_mayFlow_35 : decode cX5_mayFlow 35 = .ok (.ifCond .eq 7, 3) := by decide +kernel
theorem dX5_mayFlow_38 : decode cX5_mayFlow 38 = .ok (.iconst 1, 1) := by decide +kernel
theorem dX5_mayFlow_39 : decode cX5_mayFlow 39 = .ok (.goto 4, 3) := by decide +kernel
theorem dX5_mayFlow_42 : decode cX5_mayFlow 42 = .ok (.iconst 0, 1) := by decide +kernel
theorem dX5_mayFlow_43 : decode cX5_mayFlow 43 = .ok (.ireturn, 1) := by decide +kernel
theorem dX5_isSlot_0 : decode cX5_isSlot 0 = .ok (.iload_n 0, 1) := by decide +kernel
theorem dX5_isSlot_1 : decode cX5_isSlot 1 = .ok (.ifCond .lt 13, 3) := by decide +kernel
theorem dX5_isSlot_4 : decode cX5_isSlot 4 = .ok (.iload_n 0, 1) := by decide +kernel
theorem dX5_isSlot_5 : decode cX5_isSlot 5 = .ok (.bipush 8, 2) := by decide +kernel
theorem dX5_isSlot_7 : decode cX5_isSlot 7 = .ok (.if_icmp .ge 7, 3) := by decide +kernel
theorem dX5_isSlot_10 : decode cX5_isSlot 10 = .ok (.iconst 1, 1) := by decide +kernel
theorem dX5_isSlot_11 : decode cX5_isSlot 11 = .ok (.goto 4, 3) := by decide +kernel
theorem dX5_isSlot_14 : decode cX5_isSlot 14 = .ok (.iconst 0, 1) := by decide +kernel
theorem dX5_isSlot_15 : decode cX5_isSlot 15 = .ok (.ireturn, 1) := by decide +kernel
theorem dX5_isPlace_0 : decode cX5_isPlace 0 = .ok (.iload_n 0, 1) := by decide +kernel
theorem dX5_isPlace_1 : decode cX5_isPlace 1 = .ok (.ifCond .lt 14, 3) := by decide +kernel
theorem dX5_isPlace_4 : decode cX5_isPlace 4 = .ok (.iload_n 0, 1) := by decide +kernel
theorem dX5_isPlace_5 : decode cX5_isPlace 5 = .ok (.sipush 128, 3) := by decide +kernel
theorem dX5_isPlace_8 : decode cX5_isPlace 8 = .ok (.if_icmp .ge 7, 3) := by decide +kernel
theorem dX5_isPlace_11 : decode cX5_isPlace 11 = .ok (.iconst 1, 1) := by decide +kernel
theorem dX5_isPlace_12 : decode cX5_isPlace 12 = .ok (.goto 4, 3) := by decide +kernel
theorem dX5_isPlace_15 : decode cX5_isPlace 15 = .ok (.iconst 0, 1) := by decide +kernel
theorem dX5_isPlace_16 : decode cX5_isPlace 16 = .ok (.ireturn, 1) := by decide +kernel
theorem dX5_isTag_0 : decode cX5_isTag 0 = .ok (.iload_n 0, 1) := by decide +kernel
theorem dX5_isTag_1 : decode cX5_isTag 1 = .ok (.ifCond .lt 14, 3) := by decide +kernel
theorem dX5_isTag_4 : decode cX5_isTag 4 = .ok (.iload_n 0, 1) := by decide +kernel
theorem dX5_isTag_5 : decode cX5_isTag 5 = .ok (.sipush 256, 3) := by decide +kernel
theorem dX5_isTag_8 : decode cX5_isTag 8 = .ok (.if_icmp .ge 7, 3) := by decide +kernel
theorem dX5_isTag_11 : decode cX5_isTag 11 = .ok (.iconst 1, 1) := by decide +kernel
theorem dX5_isTag_12 : decode cX5_isTag 12 = .ok (.goto 4, 3) := by decide +kernel
theorem dX5_isTag_15 : decode cX5_isTag 15 = .ok (.iconst 0, 1) := by decide +kernel
theorem dX5_isTag_16 : decode cX5_isTag 16 = .ok (.ireturn, 1) := by decide +kernel
theorem dX5_isFile_0 : decode cX5_isFile 0 = .ok (.iload_n 0, 1) := by decide +kernel
theorem dX5_isFile_1 : decode cX5_isFile 1 = .ok (.ifCond .lt 13, 3) := by decide +kernel
theorem dX5_isFile_4 : decode cX5_isFile 4 = .ok (.iload_n 0, 1) := by decide +kernel
theorem dX5_isFile_5 : decode cX5_isFile 5 = .ok (.bipush 64, 2) := by decide +kernel
theorem dX5_isFile_7 : decode cX5_isFile 7 = .ok (.if_icmp .ge 7, 3) := by decide +kernel
theorem dX5_isFile_10 : decode cX5_isFile 10 = .ok (.iconst 1, 1) := by decide +kernel
theorem dX5_isFile_11 : decode cX5_isFile 11 = .ok (.goto 4, 3) := by decide +kernel
theorem dX5_isFile_14 : decode cX5_isFile 14 = .ok (.iconst 0, 1) := by decide +kernel
theorem dX5_isFile_15 : decode cX5_isFile 15 = .ok (.ireturn, 1) := by decide +kernel
theorem dX5_isThere_0 : decode cX5_isThere 0 = .ok (.iload_n 1, 1) := by decide +kernel
theorem dX5_isThere_1 : decode cX5_isThere 1 = .ok (.invokestatic 144, 3) := by decide +kernel
theorem dX5_isThere_4 : decode cX5_isThere 4 = .ok (.ifCond .eq 26, 3) := by decide +kernel
theorem dX5_isThere_7 : decode cX5_isThere 7 = .ok (.iload_n 1, 1) := by decide +kernel
theorem dX5_isThere_8 : decode cX5_isThere 8 = .ok (.bipush 32, 2) := by decide +kernel
theorem dX5_isThere_10 : decode cX5_isThere 10 = .ok (.irem, 1) := by decide +kernel
theorem dX5_isThere_11 : decode cX5_isThere 11 = .ok (.aload_n 0, 1) := by decide +kernel
theorem dX5_isThere_12 : decode cX5_isThere 12 = .ok (.getfield 11, 3) := by decide +kernel
theorem dX5_isThere_15 : decode cX5_isThere 15 = .ok (.iload_n 1, 1) := by decide +kernel
theorem dX5_isThere_16 : decode cX5_isThere 16 = .ok (.bipush 32, 2) := by decide +kernel
theorem dX5_isThere_18 : decode cX5_isThere 18 = .ok (.idiv, 1) := by decide +kernel
theorem dX5_isThere_19 : decode cX5_isThere 19 = .ok (.aaload, 1) := by decide +kernel
theorem dX5_isThere_20 : decode cX5_isThere 20 = .ok (.getfield 40, 3) := by decide +kernel
theorem dX5_isThere_23 : decode cX5_isThere 23 = .ok (.if_icmp .ge 7, 3) := by decide +kernel
theorem dX5_isThere_26 : decode cX5_isThere 26 = .ok (.iconst 1, 1) := by decide +kernel
theorem dX5_isThere_27 : decode cX5_isThere 27 = .ok (.goto 4, 3) := by decide +kernel
theorem dX5_isThere_30 : decode cX5_isThere 30 = .ok (.iconst 0, 1) := by decide +kernel
theorem dX5_isThere_31 : decode cX5_isThere 31 = .ok (.ireturn, 1) := by decide +kernel
theorem dX5_fileAt_0 : decode cX5_fileAt 0 = .ok (.aload_n 0, 1) := by decide +kernel
theorem dX5_fileAt_1 : decode cX5_fileAt 1 = .ok (.getfield 11, 3) := by decide +kernel
theorem dX5_fileAt_4 : decode cX5_fileAt 4 = .ok (.iload_n 1, 1) := by decide +kernel
theorem dX5_fileAt_5 : decode cX5_fileAt 5 = .ok (.bipush 8, 2) := by decide +kernel
theorem dX5_fileAt_7 : decode cX5_fileAt 7 = .ok (.idiv, 1) := by decide +kernel
theorem dX5_fileAt_8 : decode cX5_fileAt 8 = .ok (.aaload, 1) := by decide +kernel
theorem dX5_fileAt_9 : decode cX5_fileAt 9 = .ok (.getfield 147, 3) := by decide +kernel
theorem dX5_fileAt_12 : decode cX5_fileAt 12 = .ok (.iload_n 1, 1) := by decide +kernel
theorem dX5_fileAt_13 : decode cX5_fileAt 13 = .ok (.bipush 8, 2) := by decide +kernel
theorem dX5_fileAt_15 : decode cX5_fileAt 15 = .ok (.irem, 1) := by decide +kernel
theorem dX5_fileAt_16 : decode cX5_fileAt 16 = .ok (.aaload, 1) := by decide +kernel
theorem dX5_fileAt_17 : decode cX5_fileAt 17 = .ok (.areturn, 1) := by decide +kernel
theorem dX5_isFileCell_0 : decode cX5_isFileCell 0 = .ok (.iload_n 1, 1) := by decide +kernel
theorem dX5_isFileCell_1 : decode cX5_isFileCell 1 = .ok (.invokestatic 57, 3) := by decide +kernel
theorem dX5_isFileCell_4 : decode cX5_isFileCell 4 = .ok (.ifCond .eq 28, 3) := by decide +kernel
theorem dX5_isFileCell_7 : decode cX5_isFileCell 7 = .ok (.iload_n 2, 1) := by decide +kernel
theorem dX5_isFileCell_8 : decode cX5_isFileCell 8 = .ok (.ifCond .lt 24, 3) := by decide +kernel
theorem dX5_isFileCell_11 : decode cX5_isFileCell 11 = .ok (.iload_n 2, 1) := by decide +kernel
theorem dX5_isFileCell_12 : decode cX5_isFileCell 12 = .ok (.bipush 8, 2) := by decide +kernel
theorem dX5_isFileCell_14 : decode cX5_isFileCell 14 = .ok (.if_icmp .ge 18, 3) := by decide +kernel
theorem dX5_isFileCell_17 : decode cX5_isFileCell 17 = .ok (.aload_n 0, 1) := by decide +kernel
theorem dX5_isFileCell_18 : decode cX5_isFileCell 18 = .ok (.iload_n 1, 1) := by decide +kernel
theorem dX5_isFileCell_19 : decode cX5_isFileCell 19 = .ok (.invokevirtual 60, 3) := by decide +kernel
theorem dX5_isFileCell_22 : decode cX5_isFileCell 22 = .ok (.getfield 64, 3) := by decide +kernel
theorem dX5_isFileCell_25 : decode cX5_isFileCell 25 = .ok (.ifCond .eq 7, 3) := by decide +kernel
theorem dX5_isFileCell_28 : decode cX5_isFileCell 28 = .ok (.iconst 1, 1) := by decide +kernel
theorem dX5_isFileCell_29 : decode cX5_isFileCell 29 = .ok (.goto 4, 3) := by decide +kernel
theorem dX5_isFileCell_32 : decode cX5_isFileCell 32 = .ok (.iconst 0, 1) := by decide +kernel
theorem dX5_isFileCell_33 : decode cX5_isFileCell 33 = .ok (.ireturn, 1) := by decide +kernel
theorem dX5_isOutput_0 : decode cX5_isOutput 0 = .ok (.iload_n 1, 1) := by decide +kernel
theorem dX5_isOutput_1 : decode cX5_isOutput 1 = .ok (.invokestatic 29, 3) := by decide +kernel
theorem dX5_isOutput_4 : decode cX5_isOutput 4 = .ok (.ifCond .eq 24, 3) := by decide +kernel
theorem dX5_isOutput_7 : decode cX5_isOutput 7 = .ok (.iload_n 2, 1) := by decide +kernel
theorem dX5_isOutput_8 : decode cX5_isOutput 8 = .ok (.ifCond .lt 20, 3) := by decide +kernel
theorem dX5_isOutput_11 : decode cX5_isOutput 11 = .ok (.iload_n 2, 1) := by decide +kernel
theorem dX5_isOutput_12 : decode cX5_isOutput 12 = .ok (.aload_n 0, 1) := by decide +kernel
theorem dX5_isOutput_13 : decode cX5_isOutput 13 = .ok (.getfield 11, 3) := by decide +kernel
theorem dX5_isOutput_16 : decode cX5_isOutput 16 = .ok (.iload_n 1, 1) := by decide +kernel
theorem dX5_isOutput_17 : decode cX5_isOutput 17 = .ok (.aaload, 1) := by decide +kernel
theorem dX5_isOutput_18 : decode cX5_isOutput 18 = .ok (.getfield 124, 3) := by decide +kernel
theorem dX5_isOutput_21 : decode cX5_isOutput 21 = .ok (.if_icmp .ge 7, 3) := by decide +kernel
theorem dX5_isOutput_24 : decode cX5_isOutput 24 = .ok (.iconst 1, 1) := by decide +kernel
theorem dX5_isOutput_25 : decode cX5_isOutput 25 = .ok (.goto 4, 3) := by decide +kernel
theorem dX5_isOutput_28 : decode cX5_isOutput 28 = .ok (.iconst 0, 1) := by decide +kernel
theorem dX5_isOutput_29 : decode cX5_isOutput 29 = .ok (.ireturn, 1) := by decide +kernel
theorem dX5_step_0 : decode cX5_step 0 = .ok (.aload_n 1, 1) := by decide +kernel
theorem dX5_step_1 : decode cX5_step 1 = .ok (.getfield 111, 3) := by decide +kernel
theorem dX5_step_4 : decode cX5_step 4 = .ok (.invokestatic 102, 3) := by decide +kernel
theorem dX5_step_7 : decode cX5_step 7 = .ok (.ifCond .ne 9, 3) := by decide +kernel
theorem dX5_step_10 : decode cX5_step 10 = .ok (.aload_n 1, 1) := by decide +kernel
theorem dX5_step_11 : decode cX5_step 11 = .ok (.iconst 2, 1) := by decide +kernel
theorem dX5_step_12 : decode cX5_step 12 = .ok (.invokevirtual 151, 3) := by decide +kernel
theorem dX5_step_15 : decode cX5_step 15 = .ok (.return_, 1) := by decide +kernel
theorem dX5_step_16 : decode cX5_step 16 = .ok (.aload_n 1, 1) := by decide +kernel
theorem dX5_step_17 : decode cX5_step 17 = .ok (.getfield 33, 3) := by decide +kernel
theorem dX5_step_20 : decode cX5_step 20 = .ok (.aload_n 1, 1) := by decide +kernel
theorem dX5_step_21 : decode cX5_step 21 = .ok (.getfield 111, 3) := by decide +kernel
theorem dX5_step_24 : decode cX5_step 24 = .ok (.iaload, 1) := by decide +kernel
theorem dX5_step_25 : decode cX5_step 25 = .ok (.istore_n 2, 1) := by decide +kernel
theorem dX5_step_26 : decode cX5_step 26 = .ok (.iload_n 2, 1) := by decide +kernel
theorem dX5_step_27 : decode cX5_step 27 = .ok (.bipush 31, 2) := by decide +kernel
theorem dX5_step_29 : decode cX5_step 29 = .ok (.iand, 1) := by decide +kernel
theorem dX5_step_30 : decode cX5_step 30 = .ok (.istore_n 3, 1) := by decide +kernel
theorem dX5_step_31 : decode cX5_step 31 = .ok (.iload_n 2, 1) := by decide +kernel
theorem dX5_step_32 : decode cX5_step 32 = .ok (.iconst 5, 1) := by decide +kernel
theorem dX5_step_33 : decode cX5_step 33 = .ok (.ishr, 1) := by decide +kernel
theorem dX5_step_34 : decode cX5_step 34 = .ok (.istore 4, 2) := by decide +kernel
theorem dX5_step_36 : decode cX5_step 36 = .ok (.aload_n 1, 1) := by decide +kernel
theorem dX5_step_37 : decode cX5_step 37 = .ok (.dup, 1) := by decide +kernel
theorem dX5_step_38 : decode cX5_step 38 = .ok (.getfield 111, 3) := by decide +kernel
theorem dX5_step_41 : decode cX5_step 41 = .ok (.iconst 1, 1) := by decide +kernel
theorem dX5_step_42 : decode cX5_step 42 = .ok (.iadd, 1) := by decide +kernel
theorem dX5_step_43 : decode cX5_step 43 = .ok (.putfield 111, 3) := by decide +kernel
theorem dX5_step_46 : decode cX5_step 46 = .ok (.iload_n 3, 1) := by decide +kernel
theorem dX5_step_47 : decode cX5_step 47 = .ok (.bipush 16, 2) := by decide +kernel
theorem dX5_step_49 : decode cX5_step 49 = .ok (.if_icmp .ne 13, 3) := by decide +kernel
theorem dX5_step_52 : decode cX5_step 52 = .ok (.aload_n 0, 1) := by decide +kernel
theorem dX5_step_53 : decode cX5_step 53 = .ok (.aload_n 1, 1) := by decide +kernel
theorem dX5_step_54 : decode cX5_step 54 = .ok (.iload 4, 2) := by decide +kernel
theorem dX5_step_56 : decode cX5_step 56 = .ok (.invokevirtual 154, 3) := by decide +kernel
theorem dX5_step_59 : decode cX5_step 59 = .ok (.goto 43, 3) := by decide +kernel
theorem dX5_step_62 : decode cX5_step 62 = .ok (.iload_n 3, 1) := by decide +kernel
theorem dX5_step_63 : decode cX5_step 63 = .ok (.invokestatic 158, 3) := by decide +kernel
theorem dX5_step_66 : decode cX5_step 66 = .ok (.ifCond .ne 13, 3) := by decide +kernel
theorem dX5_step_69 : decode cX5_step 69 = .ok (.aload_n 1, 1) := by decide +kernel
theorem dX5_step_70 : decode cX5_step 70 = .ok (.iload_n 3, 1) := by decide +kernel
theorem dX5_step_71 : decode cX5_step 71 = .ok (.iload 4, 2) := by decide +kernel
theorem dX5_step_73 : decode cX5_step 73 = .ok (.invokestatic 161, 3) := by decide +kernel
theorem dX5_step_76 : decode cX5_step 76 = .ok (.goto 26, 3) := by decide +kernel
theorem dX5_step_79 : decode cX5_step 79 = .ok (.iload 4, 2) := by decide +kernel
theorem dX5_step_81 : decode cX5_step 81 = .ok (.invokestatic 102, 3) := by decide +kernel
theorem dX5_step_84 : decode cX5_step 84 = .ok (.ifCond .eq 13, 3) := by decide +kernel
theorem dX5_step_87 : decode cX5_step 87 = .ok (.aload_n 1, 1) := by decide +kernel
theorem dX5_step_88 : decode cX5_step 88 = .ok (.iload_n 3, 1) := by decide +kernel
theorem dX5_step_89 : decode cX5_step 89 = .ok (.iload 4, 2) := by decide +kernel
theorem dX5_step_91 : decode cX5_step 91 = .ok (.invokestatic 165, 3) := by decide +kernel
theorem dX5_step_94 : decode cX5_step 94 = .ok (.goto 8, 3) := by decide +kernel
theorem dX5_step_97 : decode cX5_step 97 = .ok (.aload_n 1, 1) := by decide +kernel
theorem dX5_step_98 : decode cX5_step 98 = .ok (.iconst 2, 1) := by decide +kernel
theorem dX5_step_99 : decode cX5_step 99 = .ok (.invokevirtual 151, 3) := by decide +kernel
theorem dX5_step_102 : decode cX5_step 102 = .ok (.return_, 1) := by decide +kernel
theorem dX5_wantsCell_0 : decode cX5_wantsCell 0 = .ok (.iload_n 0, 1) := by decide +kernel
theorem dX5_wantsCell_1 : decode cX5_wantsCell 1 = .ok (.iconst 1, 1) := by decide +kernel
theorem dX5_wantsCell_2 : decode cX5_wantsCell 2 = .ok (.if_icmp .eq 19, 3) := by decide +kernel
theorem dX5_wantsCell_5 : decode cX5_wantsCell 5 = .ok (.iload_n 0, 1) := by decide +kernel
theorem dX5_wantsCell_6 : decode cX5_wantsCell 6 = .ok (.iconst 2, 1) := by decide +kernel
theorem dX5_wantsCell_7 : decode cX5_wantsCell 7 = .ok (.if_icmp .eq 14, 3) := by decide +kernel
theorem dX5_wantsCell_10 : decode cX5_wantsCell 10 = .ok (.iload_n 0, 1) := by decide +kernel
theorem dX5_wantsCell_11 : decode cX5_wantsCell 11 = .ok (.iconst 4, 1) := by decide +kernel
theorem dX5_wantsCell_12 : decode cX5_wantsCell 12 = .ok (.if_icmp .lt 13, 3) := by decide +kernel
theorem dX5_wantsCell_15 : decode cX5_wantsCell 15 = .ok (.iload_n 0, 1) := by decide +kernel
theorem dX5_wantsCell_16 : decode cX5_wantsCell 16 = .ok (.bipush 12, 2) := by decide +kernel
theorem dX5_wantsCell_18 : decode cX5_wantsCell 18 = .ok (.if_icmp .gt 7, 3) := by decide +kernel
theorem dX5_wantsCell_21 : decode cX5_wantsCell 21 = .ok (.iconst 1, 1) := by decide +kernel
theorem dX5_wantsCell_22 : decode cX5_wantsCell 22 = .ok (.goto 4, 3) := by decide +kernel
theorem dX5_wantsCell_25 : decode cX5_wantsCell 25 = .ok (.iconst 0, 1) := by decide +kernel
theorem dX5_wantsCell_26 : decode cX5_wantsCell 26 = .ok (.ireturn, 1) := by decide +kernel
theorem dX5_plainInstruction_0 : decode cX5_plainInstruction 0 = .ok (.iload_n 1, 1) := by decide +kernel
theorem dX5_plainInstruction_1 : decode cX5_plainInstruction 1 = .ok (.lookupswitch 105 #[(0, 51), (3, 59), (13, 67), (14, 75), (15, 90)], 51) := by decide +kernel
theorem dX5_plainInstruction_52 : decode cX5_plainInstruction 52 = .ok (.aload_n 0, 1) := by decide +kernel
theorem dX5_plainInstruction_53 : decode cX5_plainInstruction 53 = .ok (.iconst 2, 1) := by decide +kernel
theorem dX5_plainInstruction_54 : decode cX5_plainInstruction 54 = .ok (.putfield 37, 3) := by decide +kernel
theorem dX5_plainInstruction_57 : decode cX5_plainInstruction 57 = .ok (.goto 54, 3) := by decide +kernel
theorem dX5_plainInstruction_60 : decode cX5_plainInstruction 60 = .ok (.aload_n 0, 1) := by decide +kernel
theorem dX5_plainInstruction_61 : decode cX5_plainInstruction 61 = .ok (.iload_n 2, 1) := by decide +kernel
theorem dX5_plainInstruction_62 : decode cX5_plainInstruction 62 = .ok (.putfield 108, 3) := by decide +kernel
theorem dX5_plainInstruction_65 : decode cX5_plainInstruction 65 = .ok (.goto 46, 3) := by decide +kernel
theorem dX5_plainInstruction_68 : decode cX5_plainInstruction 68 = .ok (.aload_n 0, 1) := by decide +kernel
theorem dX5_plainInstruction_69 : decode cX5_plainInstruction 69 = .ok (.iload_n 2, 1) := by decide +kernel
theorem dX5_plainInstruction_70 : decode cX5_plainInstruction 70 = .ok (.putfield 111, 3) := by decide +kernel
theorem dX5_plainInstruction_73 : decode cX5_plainInstruction 73 = .ok (.goto 38, 3) := by decide +kernel
theorem dX5_plainInstruction_76 : decode cX5_plainInstruction 76 = .ok (.aload_n 0, 1) := by decide +kernel
theorem dX5_plainInstruction_77 : decode cX5_plainInstruction 77 = .ok (.getfield 108, 3) := by decide +kernel
theorem dX5_plainInstruction_80 : decode cX5_plainInstruction 80 = .ok (.ifCond .ne 31, 3) := by decide +kernel
theorem dX5_plainInstruction_83 : decode cX5_plainInstruction 83 = .ok (.aload_n 0, 1) := by decide +kernel
theorem dX5_plainInstruction_84 : decode cX5_plainInstruction 84 = .ok (.iload_n 2, 1) := by decide +kernel
theorem dX5_plainInstruction_85 : decode cX5_plainInstruction 85 = .ok (.putfield 111, 3) := by decide +kernel
theorem dX5_plainInstruction_88 : decode cX5_plainInstruction 88 = .ok (.goto 23, 3) := by decide +kernel
theorem dX5_plainInstruction_91 : decode cX5_plainInstruction 91 = .ok (.aload_n 0, 1) := by decide +kernel
theorem dX5_plainInstruction_92 : decode cX5_plainInstruction 92 = .ok (.getfield 108, 3) := by decide +kernel
theorem dX5_plainInstruction_95 : decode cX5_plainInstruction 95 = .ok (.ifCond .ge 16, 3) := by decide +kernel
theorem dX5_plainInstruction_98 : decode cX5_plainInstruction 98 = .ok (.aload_n 0, 1) := by decide +kernel
theorem dX5_plainInstruction_99 : decode cX5_plainInstruction 99 = .ok (.iload_n 2, 1) := by decide +kernel
theorem dX5_plainInstruction_100 : decode cX5_plainInstruction 100 = .ok (.putfield 111, 3) := by decide +kernel
theorem dX5_plainInstruction_103 : decode cX5_plainInstruction 103 = .ok (.goto 8, 3) := by decide +kernel
theorem dX5_plainInstruction_106 : decode cX5_plainInstruction 106 = .ok (.aload_n 0, 1) := by decide +kernel
theorem dX5_plainInstruction_107 : decode cX5_plainInstruction 107 = .ok (.iconst 1, 1) := by decide +kernel
theorem dX5_plainInstruction_108 : decode cX5_plainInstruction 108 = .ok (.invokevirtual 151, 3) := by decide +kernel
theorem dX5_plainInstruction_111 : decode cX5_plainInstruction 111 = .ok (.return_, 1) := by decide +kernel
theorem dX5_cellInstruction_0 : decode cX5_cellInstruction 0 = .ok (.aload_n 0, 1) := by decide +kernel
theorem dX5_cellInstruction_1 : decode cX5_cellInstruction 1 = .ok (.getfield 33, 3) := by decide +kernel
theorem dX5_cellInstruction_4 : decode cX5_cellInstruction 4 = .ok (.iload_n 2, 1) := by decide +kernel
theorem dX5_cellInstruction_5 : decode cX5_cellInstruction 5 = .ok (.iaload, 1) := by decide +kernel
theorem dX5_cellInstruction_6 : decode cX5_cellInstruction 6 = .ok (.istore_n 3, 1) := by decide +kernel
theorem dX5_cellInstruction_7 : decode cX5_cellInstruction 7 = .ok (.iload_n 1, 1) := by decide +kernel
theorem dX5_cellInstruction_8 : decode cX5_cellInstruction 8 = .ok (.tableswitch 168 1 12 #[64, 72, 168, 85, 85, 94, 107, 120, 133, 133, 142, 155], 64) := by decide +kernel
theorem dX5_cellInstruction_72 : decode cX5_cellInstruction 72 = .ok (.aload_n 0, 1) := by decide +kernel
theorem dX5_cellInstruction_73 : decode cX5_cellInstruction 73 = .ok (.iload_n 3, 1) := by decide +kernel
theorem dX5_cellInstruction_74 : decode cX5_cellInstruction 74 = .ok (.putfield 108, 3) := by decide +kernel
theorem dX5_cellInstruction_77 : decode cX5_cellInstruction 77 = .ok (.goto 104, 3) := by decide +kernel
theorem dX5_cellInstruction_80 : decode cX5_cellInstruction 80 = .ok (.aload_n 0, 1) := by decide +kernel
theorem dX5_cellInstruction_81 : decode cX5_cellInstruction 81 = .ok (.getfield 33, 3) := by decide +kernel
theorem dX5_cellInstruction_84 : decode cX5_cellInstruction 84 = .ok (.iload_n 2, 1) := by decide +kernel
theorem dX5_cellInstruction_85 : decode cX5_cellInstruction 85 = .ok (.aload_n 0, 1) := by decide +kernel
theorem dX5_cellInstruction_86 : decode cX5_cellInstruction 86 = .ok (.getfield 108, 3) := by decide +kernel
theorem dX5_cellInstruction_89 : decode cX5_cellInstruction 89 = .ok (.iastore, 1) := by decide +kernel
theorem dX5_cellInstruction_90 : decode cX5_cellInstruction 90 = .ok (.goto 91, 3) := by decide +kernel
theorem dX5_cellInstruction_93 : decode cX5_cellInstruction 93 = .ok (.aload_n 0, 1) := by decide +kernel
theorem dX5_cellInstruction_94 : decode cX5_cellInstruction 94 = .ok (.iload_n 1, 1) := by decide +kernel
theorem dX5_cellInstruction_95 : decode cX5_cellInstruction 95 = .ok (.iload_n 3, 1) := by decide +kernel
theorem dX5_cellInstruction_96 : decode cX5_cellInstruction 96 = .ok (.invokestatic 168, 3) := by decide +kernel
theorem dX5_cellInstruction_99 : decode cX5_cellInstruction 99 = .ok (.goto 82, 3) := by decide +kernel
theorem dX5_cellInstruction_102 : decode cX5_cellInstruction 102 = .ok (.aload_n 0, 1) := by decide +kernel
theorem dX5_cellInstruction_103 : decode cX5_cellInstruction 103 = .ok (.aload_n 0, 1) := by decide +kernel
theorem dX5_cellInstruction_104 : decode cX5_cellInstruction 104 = .ok (.getfield 108, 3) := by decide +kernel
theorem dX5_cellInstruction_107 : decode cX5_cellInstruction 107 = .ok (.iload_n 3, 1) := by decide +kernel
theorem dX5_cellInstruction_108 : decode cX5_cellInstruction 108 = .ok (.iadd, 1) := by decide +kernel
theorem dX5_cellInstruction_109 : decode cX5_cellInstruction 109 = .ok (.putfield 108, 3) := by decide +kernel
theorem dX5_cellInstruction_112 : decode cX5_cellInstruction 112 = .ok (.goto 69, 3) := by decide +kernel
theorem dX5_cellInstruction_115 : decode cX5_cellInstruction 115 = .ok (.aload_n 0, 1) := by decide +kernel
theorem dX5_cellInstruction_116 : decode cX5_cellInstruction 116 = .ok (.aload_n 0, 1) := by decide +kernel
theorem dX5_cellInstruction_117 : decode cX5_cellInstruction 117 = .ok (.getfield 108, 3) := by decide +kernel
theorem dX5_cellInstruction_120 : decode cX5_cellInstruction 120 = .ok (.iload_n 3, 1) := by decide +kernel
theorem dX5_cellInstruction_121 : decode cX5_cellInstruction 121 = .ok (.isub, 1) := by decide +kernel
theorem dX5_cellInstruction_122 : decode cX5_cellInstruction 122 = .ok (.putfield 108, 3) := by decide +kernel
theorem dX5_cellInstruction_125 : decode cX5_cellInstruction 125 = .ok (.goto 56, 3) := by decide +kernel
theorem dX5_cellInstruction_128 : decode cX5_cellInstruction 128 = .ok (.aload_n 0, 1) := by decide +kernel
theorem dX5_cellInstruction_129 : decode cX5_cellInstruction 129 = .ok (.aload_n 0, 1) := by decide +kernel
theorem dX5_cellInstruction_130 : decode cX5_cellInstruction 130 = .ok (.getfield 108, 3) := by decide +kernel
theorem dX5_cellInstruction_133 : decode cX5_cellInstruction 133 = .ok (.iload_n 3, 1) := by decide +kernel
theorem dX5_cellInstruction_134 : decode cX5_cellInstruction 134 = .ok (.imul, 1) := by decide +kernel
theorem dX5_cellInstruction_135 : decode cX5_cellInstruction 135 = .ok (.putfield 108, 3) := by decide +kernel
theorem dX5_cellInstruction_138 : decode cX5_cellInstruction 138 = .ok (.goto 43, 3) := by decide +kernel
theorem dX5_cellInstruction_141 : decode cX5_cellInstruction 141 = .ok (.aload_n 0, 1) := by decide +kernel
theorem dX5_cellInstruction_142 : decode cX5_cellInstruction 142 = .ok (.iload_n 1, 1) := by decide +kernel
theorem dX5_cellInstruction_143 : decode cX5_cellInstruction 143 = .ok (.iload_n 3, 1) := by decide +kernel
theorem dX5_cellInstruction_144 : decode cX5_cellInstruction 144 = .ok (.invokestatic 171, 3) := by decide +kernel
theorem dX5_cellInstruction_147 : decode cX5_cellInstruction 147 = .ok (.goto 34, 3) := by decide +kernel
theorem dX5_cellInstruction_150 : decode cX5_cellInstruction 150 = .ok (.aload_n 0, 1) := by decide +kernel
theorem dX5_cellInstruction_151 : decode cX5_cellInstruction 151 = .ok (.aload_n 0, 1) := by decide +kernel
theorem dX5_cellInstruction_152 : decode cX5_cellInstruction 152 = .ok (.getfield 108, 3) := by decide +kernel
theorem dX5_cellInstruction_155 : decode cX5_cellInstruction 155 = .ok (.iload_n 3, 1) := by decide +kernel
theorem dX5_cellInstruction_156 : decode cX5_cellInstruction 156 = .ok (.iand, 1) := by decide +kernel
theorem dX5_cellInstruction_157 : decode cX5_cellInstruction 157 = .ok (.putfield 108, 3) := by decide +kernel
theorem dX5_cellInstruction_160 : decode cX5_cellInstruction 160 = .ok (.goto 21, 3) := by decide +kernel
theorem dX5_cellInstruction_163 : decode cX5_cellInstruction 163 = .ok (.aload_n 0, 1) := by decide +kernel
theorem dX5_cellInstruction_164 : decode cX5_cellInstruction 164 = .ok (.aload_n 0, 1) := by decide +kernel
theorem dX5_cellInstruction_165 : decode cX5_cellInstruction 165 = .ok (.getfield 108, 3) := by decide +kernel
theorem dX5_cellInstruction_168 : decode cX5_cellInstruction 168 = .ok (.iload_n 3, 1) := by decide +kernel
theorem dX5_cellInstruction_169 : decode cX5_cellInstruction 169 = .ok (.ixor, 1) := by decide +kernel
theorem dX5_cellInstruction_170 : decode cX5_cellInstruction 170 = .ok (.putfield 108, 3) := by decide +kernel
theorem dX5_cellInstruction_173 : decode cX5_cellInstruction 173 = .ok (.goto 8, 3) := by decide +kernel
theorem dX5_cellInstruction_176 : decode cX5_cellInstruction 176 = .ok (.aload_n 0, 1) := by decide +kernel
theorem dX5_cellInstruction_177 : decode cX5_cellInstruction 177 = .ok (.iconst 1, 1) := by decide +kernel
theorem dX5_cellInstruction_178 : decode cX5_cellInstruction 178 = .ok (.invokevirtual 151, 3) := by decide +kernel
theorem dX5_cellInstruction_181 : decode cX5_cellInstruction 181 = .ok (.return_, 1) := by decide +kernel
theorem dX5_indirectInstruction_0 : decode cX5_indirectInstruction 0 = .ok (.iload_n 2, 1) := by decide +kernel
theorem dX5_indirectInstruction_1 : decode cX5_indirectInstruction 1 = .ok (.invokestatic 102, 3) := by decide +kernel
theorem dX5_indirectInstruction_4 : decode cX5_indirectInstruction 4 = .ok (.ifCond .ne 11, 3) := by decide +kernel
theorem dX5_indirectInstruction_7 : decode cX5_indirectInstruction 7 = .ok (.aload_n 0, 1) := by decide +kernel
theorem dX5_indirectInstruction_8 : decode cX5_indirectInstruction 8 = .ok (.iconst 2, 1) := by decide +kernel
theorem dX5_indirectInstruction_9 : decode cX5_indirectInstruction 9 = .ok (.invokevirtual 151, 3) := by decide +kernel
theorem dX5_indirectInstruction_12 : decode cX5_indirectInstruction 12 = .ok (.goto 31, 3) := by decide +kernel
theorem dX5_indirectInstruction_15 : decode cX5_indirectInstruction 15 = .ok (.iload_n 1, 1) := by decide +kernel
theorem dX5_indirectInstruction_16 : decode cX5_indirectInstruction 16 = .ok (.iconst 4, 1) := by decide +kernel
theorem dX5_indirectInstruction_17 : decode cX5_indirectInstruction 17 = .ok (.if_icmp .ne 16, 3) := by decide +kernel
theorem dX5_indirectInstruction_20 : decode cX5_indirectInstruction 20 = .ok (.aload_n 0, 1) := by decide +kernel
theorem dX5_indirectInstruction_21 : decode cX5_indirectInstruction 21 = .ok (.aload_n 0, 1) := by decide +kernel
theorem dX5_indirectInstruction_22 : decode cX5_indirectInstruction 22 = .ok (.getfield 33, 3) := by decide +kernel
theorem dX5_indirectInstruction_25 : decode cX5_indirectInstruction 25 = .ok (.iload_n 2, 1) := by decide +kernel
theorem dX5_indirectInstruction_26 : decode cX5_indirectInstruction 26 = .ok (.iaload, 1) := by decide +kernel
theorem dX5_indirectInstruction_27 : decode cX5_indirectInstruction 27 = .ok (.putfield 108, 3) := by decide +kernel
theorem dX5_indirectInstruction_30 : decode cX5_indirectInstruction 30 = .ok (.goto 13, 3) := by decide +kernel
theorem dX5_indirectInstruction_33 : decode cX5_indirectInstruction 33 = .ok (.aload_n 0, 1) := by decide +kernel
theorem dX5_indirectInstruction_34 : decode cX5_indirectInstruction 34 = .ok (.getfield 33, 3) := by decide +kernel
theorem dX5_indirectInstruction_37 : decode cX5_indirectInstruction 37 = .ok (.iload_n 2, 1) := by decide +kernel
theorem dX5_indirectInstruction_38 : decode cX5_indirectInstruction 38 = .ok (.aload_n 0, 1) := by decide +kernel
theorem dX5_indirectInstruction_39 : decode cX5_indirectInstruction 39 = .ok (.getfield 108, 3) := by decide +kernel
theorem dX5_indirectInstruction_42 : decode cX5_indirectInstruction 42 = .ok (.iastore, 1) := by decide +kernel
theorem dX5_indirectInstruction_43 : decode cX5_indirectInstruction 43 = .ok (.return_, 1) := by decide +kernel
theorem dX5_divideInstruction_0 : decode cX5_divideInstruction 0 = .ok (.iload_n 2, 1) := by decide +kernel
theorem dX5_divideInstruction_1 : decode cX5_divideInstruction 1 = .ok (.ifCond .ne 11, 3) := by decide +kernel
theorem dX5_divideInstruction_4 : decode cX5_divideInstruction 4 = .ok (.aload_n 0, 1) := by decide +kernel
theorem dX5_divideInstruction_5 : decode cX5_divideInstruction 5 = .ok (.iconst 3, 1) := by decide +kernel
theorem dX5_divideInstruction_6 : decode cX5_divideInstruction 6 = .ok (.invokevirtual 151, 3) := by decide +kernel
theorem dX5_divideInstruction_9 : decode cX5_divideInstruction 9 = .ok (.goto 32, 3) := by decide +kernel
theorem dX5_divideInstruction_12 : decode cX5_divideInstruction 12 = .ok (.iload_n 1, 1) := by decide +kernel
theorem dX5_divideInstruction_13 : decode cX5_divideInstruction 13 = .ok (.bipush 9, 2) := by decide +kernel
theorem dX5_divideInstruction_15 : decode cX5_divideInstruction 15 = .ok (.if_icmp .ne 16, 3) := by decide +kernel
theorem dX5_divideInstruction_18 : decode cX5_divideInstruction 18 = .ok (.aload_n 0, 1) := by decide +kernel
theorem dX5_divideInstruction_19 : decode cX5_divideInstruction 19 = .ok (.aload_n 0, 1) := by decide +kernel
theorem dX5_divideInstruction_20 : decode cX5_divideInstruction 20 = .ok (.getfield 108, 3) := by decide +kernel
theorem dX5_divideInstruction_23 : decode cX5_divideInstruction 23 = .ok (.iload_n 2, 1) := by decide +kernel
theorem dX5_divideInstruction_24 : decode cX5_divideInstruction 24 = .ok (.idiv, 1) := by decide +kernel
theorem dX5_divideInstruction_25 : decode cX5_divideInstruction 25 = .ok (.putfield 108, 3) := by decide +kernel
theorem dX5_divideInstruction_28 : decode cX5_divideInstruction 28 = .ok (.goto 13, 3) := by decide +kernel
theorem dX5_divideInstruction_31 : decode cX5_divideInstruction 31 = .ok (.aload_n 0, 1) := by decide +kernel
theorem dX5_divideInstruction_32 : decode cX5_divideInstruction 32 = .ok (.aload_n 0, 1) := by decide +kernel
theorem dX5_divideInstruction_33 : decode cX5_divideInstruction 33 = .ok (.getfield 108, 3) := by decide +kernel
theorem dX5_divideInstruction_36 : decode cX5_divideInstruction 36 = .ok (.iload_n 2, 1) := by decide +kernel
theorem dX5_divideInstruction_37 : decode cX5_divideInstruction 37 = .ok (.irem, 1) := by decide +kernel
theorem dX5_divideInstruction_38 : decode cX5_divideInstruction 38 = .ok (.putfield 108, 3) := by decide +kernel
theorem dX5_divideInstruction_41 : decode cX5_divideInstruction 41 = .ok (.return_, 1) := by decide +kernel
theorem dX5_systemCall_0 : decode cX5_systemCall 0 = .ok (.aload_n 1, 1) := by decide +kernel
theorem dX5_systemCall_1 : decode cX5_systemCall 1 = .ok (.getfield 33, 3) := by decide +kernel
theorem dX5_systemCall_4 : decode cX5_systemCall 4 = .ok (.bipush 120, 2) := by decide +kernel
theorem dX5_systemCall_6 : decode cX5_systemCall 6 = .ok (.iaload, 1) := by decide +kernel
theorem dX5_systemCall_7 : decode cX5_systemCall 7 = .ok (.istore_n 3, 1) := by decide +kernel
theorem dX5_systemCall_8 : decode cX5_systemCall 8 = .ok (.aload_n 1, 1) := by decide +kernel
theorem dX5_systemCall_9 : decode cX5_systemCall 9 = .ok (.getfield 33, 3) := by decide +kernel
theorem dX5_systemCall_12 : decode cX5_systemCall 12 = .ok (.bipush 121, 2) := by decide +kernel
theorem dX5_systemCall_14 : decode cX5_systemCall 14 = .ok (.iaload, 1) := by decide +kernel
theorem dX5_systemCall_15 : decode cX5_systemCall 15 = .ok (.istore 4, 2) := by decide +kernel
theorem dX5_systemCall_17 : decode cX5_systemCall 17 = .ok (.aload_n 1, 1) := by decide +kernel
theorem dX5_systemCall_18 : decode cX5_systemCall 18 = .ok (.getfield 33, 3) := by decide +kernel
theorem dX5_systemCall_21 : decode cX5_systemCall 21 = .ok (.bipush 122, 2) := by decide +kernel
theorem dX5_systemCall_23 : decode cX5_systemCall 23 = .ok (.iaload, 1) := by decide +kernel
theorem dX5_systemCall_24 : decode cX5_systemCall 24 = .ok (.istore 5, 2) := by decide +kernel
theorem dX5_systemCall_26 : decode cX5_systemCall 26 = .ok (.iload_n 2, 1) := by decide +kernel
theorem dX5_systemCall_27 : decode cX5_systemCall 27 = .ok (.iconst 1, 1) := by decide +kernel
theorem dX5_systemCall_28 : decode cX5_systemCall 28 = .ok (.if_icmp .eq 9, 3) := by decide +kernel
theorem dX5_systemCall_31 : decode cX5_systemCall 31 = .ok (.iload_n 2, 1) := by decide +kernel
theorem dX5_systemCall_32 : decode cX5_systemCall 32 = .ok (.bipush 6, 2) := by decide +kernel
theorem dX5_systemCall_34 : decode cX5_systemCall 34 = .ok (.if_icmp .ne 18, 3) := by decide +kernel
theorem dX5_systemCall_37 : decode cX5_systemCall 37 = .ok (.aload_n 0, 1) := by decide +kernel
theorem dX5_systemCall_38 : decode cX5_systemCall 38 = .ok (.aload_n 1, 1) := by decide +kernel
theorem dX5_systemCall_39 : decode cX5_systemCall 39 = .ok (.iload_n 3, 1) := by decide +kernel
theorem dX5_systemCall_40 : decode cX5_systemCall 40 = .ok (.invokevirtual 174, 3) := by decide +kernel
theorem dX5_systemCall_43 : decode cX5_systemCall 43 = .ok (.ifCond .ne 9, 3) := by decide +kernel
theorem dX5_systemCall_46 : decode cX5_systemCall 46 = .ok (.aload_n 1, 1) := by decide +kernel
theorem dX5_systemCall_47 : decode cX5_systemCall 47 = .ok (.iconst 2, 1) := by decide +kernel
theorem dX5_systemCall_48 : decode cX5_systemCall 48 = .ok (.invokevirtual 151, 3) := by decide +kernel
theorem dX5_systemCall_51 : decode cX5_systemCall 51 = .ok (.return_, 1) := by decide +kernel
theorem dX5_systemCall_52 : decode cX5_systemCall 52 = .ok (.iload_n 2, 1) := by decide +kernel
theorem dX5_systemCall_53 : decode cX5_systemCall 53 = .ok (.tableswitch 237 0 11 #[63, 74, 89, 103, 119, 136, 147, 162, 177, 194, 211, 223], 63) := by decide +kernel
theorem dX5_systemCall_116 : decode cX5_systemCall 116 = .ok (.aload_n 1, 1) := by decide +kernel
theorem dX5_systemCall_117 : decode cX5_systemCall 117 = .ok (.aload_n 1, 1) := by decide +kernel
theorem dX5_systemCall_118 : decode cX5_systemCall 118 = .ok (.invokevirtual 178, 3) := by decide +kernel
theorem dX5_systemCall_121 : decode cX5_systemCall 121 = .ok (.putfield 108, 3) := by decide +kernel
theorem dX5_systemCall_124 : decode cX5_systemCall 124 = .ok (.goto 171, 3) := by decide +kernel
theorem dX5_systemCall_127 : decode cX5_systemCall 127 = .ok (.aload_n 1, 1) := by decide +kernel
theorem dX5_systemCall_128 : decode cX5_systemCall 128 = .ok (.aload_n 1, 1) := by decide +kernel
theorem dX5_systemCall_129 : decode cX5_systemCall 129 = .ok (.aload_n 0, 1) := by decide +kernel
theorem dX5_systemCall_130 : decode cX5_systemCall 130 = .ok (.getfield 21, 3) := by decide +kernel
theorem dX5_systemCall_133 : decode cX5_systemCall 133 = .ok (.invokevirtual 181, 3) := by decide +kernel
theorem dX5_systemCall_136 : decode cX5_systemCall 136 = .ok (.putfield 108, 3) := by decide +kernel
theorem dX5_systemCall_139 : decode cX5_systemCall 139 = .ok (.goto 156, 3) := by decide +kernel
theorem dX5_systemCall_142 : decode cX5_systemCall 142 = .ok (.aload_n 1, 1) := by decide +kernel
theorem dX5_systemCall_143 : decode cX5_systemCall 143 = .ok (.aload_n 1, 1) := by decide +kernel
theorem dX5_systemCall_144 : decode cX5_systemCall 144 = .ok (.iload 4, 2) := by decide +kernel
theorem dX5_systemCall_146 : decode cX5_systemCall 146 = .ok (.iload_n 3, 1) := by decide +kernel
theorem dX5_systemCall_147 : decode cX5_systemCall 147 = .ok (.invokevirtual 185, 3) := by decide +kernel
theorem dX5_systemCall_150 : decode cX5_systemCall 150 = .ok (.putfield 108, 3) := by decide +kernel
theorem dX5_systemCall_153 : decode cX5_systemCall 153 = .ok (.goto 142, 3) := by decide +kernel
theorem dX5_systemCall_156 : decode cX5_systemCall 156 = .ok (.aload_n 1, 1) := by decide +kernel
theorem dX5_systemCall_157 : decode cX5_systemCall 157 = .ok (.aload_n 0, 1) := by decide +kernel
theorem dX5_systemCall_158 : decode cX5_systemCall 158 = .ok (.aload_n 1, 1) := by decide +kernel
theorem dX5_systemCall_159 : decode cX5_systemCall 159 = .ok (.iload_n 3, 1) := by decide +kernel
theorem dX5_systemCall_160 : decode cX5_systemCall 160 = .ok (.iload 4, 2) := by decide +kernel
theorem dX5_systemCall_162 : decode cX5_systemCall 162 = .ok (.iconst (-1), 1) := by decide +kernel
theorem dX5_systemCall_163 : decode cX5_systemCall 163 = .ok (.invokevirtual 188, 3) := by decide +kernel
theorem dX5_systemCall_166 : decode cX5_systemCall 166 = .ok (.putfield 108, 3) := by decide +kernel
theorem dX5_systemCall_169 : decode cX5_systemCall 169 = .ok (.goto 126, 3) := by decide +kernel
theorem dX5_systemCall_172 : decode cX5_systemCall 172 = .ok (.aload_n 1, 1) := by decide +kernel
theorem dX5_systemCall_173 : decode cX5_systemCall 173 = .ok (.aload_n 0, 1) := by decide +kernel
theorem dX5_systemCall_174 : decode cX5_systemCall 174 = .ok (.aload_n 1, 1) := by decide +kernel
theorem dX5_systemCall_175 : decode cX5_systemCall 175 = .ok (.iload_n 3, 1) := by decide +kernel
theorem dX5_systemCall_176 : decode cX5_systemCall 176 = .ok (.iload 4, 2) := by decide +kernel
theorem dX5_systemCall_178 : decode cX5_systemCall 178 = .ok (.iload 5, 2) := by decide +kernel
theorem dX5_systemCall_180 : decode cX5_systemCall 180 = .ok (.invokevirtual 192, 3) := by decide +kernel
theorem dX5_systemCall_183 : decode cX5_systemCall 183 = .ok (.putfield 108, 3) := by decide +kernel
theorem dX5_systemCall_186 : decode cX5_systemCall 186 = .ok (.goto 109, 3) := by decide +kernel
theorem dX5_systemCall_189 : decode cX5_systemCall 189 = .ok (.aload_n 1, 1) := by decide +kernel
theorem dX5_systemCall_190 : decode cX5_systemCall 190 = .ok (.aload_n 1, 1) := by decide +kernel
theorem dX5_systemCall_191 : decode cX5_systemCall 191 = .ok (.invokevirtual 195, 3) := by decide +kernel
theorem dX5_systemCall_194 : decode cX5_systemCall 194 = .ok (.putfield 108, 3) := by decide +kernel
theorem dX5_systemCall_197 : decode cX5_systemCall 197 = .ok (.goto 98, 3) := by decide +kernel
theorem dX5_systemCall_200 : decode cX5_systemCall 200 = .ok (.aload_n 1, 1) := by decide +kernel
theorem dX5_systemCall_201 : decode cX5_systemCall 201 = .ok (.aload_n 1, 1) := by decide +kernel
theorem dX5_systemCall_202 : decode cX5_systemCall 202 = .ok (.aload_n 0, 1) := by decide +kernel
theorem dX5_systemCall_203 : decode cX5_systemCall 203 = .ok (.getfield 21, 3) := by decide +kernel
theorem dX5_systemCall_206 : decode cX5_systemCall 206 = .ok (.invokevirtual 198, 3) := by decide +kernel
theorem dX5_systemCall_209 : decode cX5_systemCall 209 = .ok (.putfield 108, 3) := by decide +kernel
theorem dX5_systemCall_212 : decode cX5_systemCall 212 = .ok (.goto 83, 3) := by decide +kernel
theorem dX5_systemCall_215 : decode cX5_systemCall 215 = .ok (.aload_n 1, 1) := by decide +kernel
theorem dX5_systemCall_216 : decode cX5_systemCall 216 = .ok (.aload_n 0, 1) := by decide +kernel
theorem dX5_systemCall_217 : decode cX5_systemCall 217 = .ok (.aload_n 1, 1) := by decide +kernel
theorem dX5_systemCall_218 : decode cX5_systemCall 218 = .ok (.iload_n 3, 1) := by decide +kernel
theorem dX5_systemCall_219 : decode cX5_systemCall 219 = .ok (.iload 4, 2) := by decide +kernel
theorem dX5_systemCall_221 : decode cX5_systemCall 221 = .ok (.invokevirtual 201, 3) := by decide +kernel
theorem dX5_systemCall_224 : decode cX5_systemCall 224 = .ok (.putfield 108, 3) := by decide +kernel
theorem dX5_systemCall_227 : decode cX5_systemCall 227 = .ok (.goto 68, 3) := by decide +kernel
theorem dX5_systemCall_230 : decode cX5_systemCall 230 = .ok (.aload_n 1, 1) := by decide +kernel
theorem dX5_systemCall_231 : decode cX5_systemCall 231 = .ok (.aload_n 0, 1) := by decide +kernel
theorem dX5_systemCall_232 : decode cX5_systemCall 232 = .ok (.aload_n 1, 1) := by decide +kernel
theorem dX5_systemCall_233 : decode cX5_systemCall 233 = .ok (.iload_n 3, 1) := by decide +kernel
theorem dX5_systemCall_234 : decode cX5_systemCall 234 = .ok (.iload 4, 2) := by decide +kernel
theorem dX5_systemCall_236 : decode cX5_systemCall 236 = .ok (.iload 5, 2) := by decide +kernel
theorem dX5_systemCall_238 : decode cX5_systemCall 238 = .ok (.invokevirtual 205, 3) := by decide +kernel
theorem dX5_systemCall_241 : decode cX5_systemCall 241 = .ok (.putfield 108, 3) := by decide +kernel
theorem dX5_systemCall_244 : decode cX5_systemCall 244 = .ok (.goto 51, 3) := by decide +kernel
theorem dX5_systemCall_247 : decode cX5_systemCall 247 = .ok (.aload_n 1, 1) := by decide +kernel
theorem dX5_systemCall_248 : decode cX5_systemCall 248 = .ok (.aload_n 0, 1) := by decide +kernel
theorem dX5_systemCall_249 : decode cX5_systemCall 249 = .ok (.aload_n 1, 1) := by decide +kernel
theorem dX5_systemCall_250 : decode cX5_systemCall 250 = .ok (.iload_n 3, 1) := by decide +kernel
theorem dX5_systemCall_251 : decode cX5_systemCall 251 = .ok (.iload 4, 2) := by decide +kernel
theorem dX5_systemCall_253 : decode cX5_systemCall 253 = .ok (.iload 5, 2) := by decide +kernel
theorem dX5_systemCall_255 : decode cX5_systemCall 255 = .ok (.invokevirtual 208, 3) := by decide +kernel
theorem dX5_systemCall_258 : decode cX5_systemCall 258 = .ok (.putfield 108, 3) := by decide +kernel
theorem dX5_systemCall_261 : decode cX5_systemCall 261 = .ok (.goto 34, 3) := by decide +kernel
theorem dX5_systemCall_264 : decode cX5_systemCall 264 = .ok (.aload_n 1, 1) := by decide +kernel
theorem dX5_systemCall_265 : decode cX5_systemCall 265 = .ok (.aload_n 1, 1) := by decide +kernel
theorem dX5_systemCall_266 : decode cX5_systemCall 266 = .ok (.iload_n 3, 1) := by decide +kernel
theorem dX5_systemCall_267 : decode cX5_systemCall 267 = .ok (.invokevirtual 211, 3) := by decide +kernel
theorem dX5_systemCall_270 : decode cX5_systemCall 270 = .ok (.putfield 108, 3) := by decide +kernel
theorem dX5_systemCall_273 : decode cX5_systemCall 273 = .ok (.goto 22, 3) := by decide +kernel
theorem dX5_systemCall_276 : decode cX5_systemCall 276 = .ok (.aload_n 1, 1) := by decide +kernel
theorem dX5_systemCall_277 : decode cX5_systemCall 277 = .ok (.aload_n 1, 1) := by decide +kernel
theorem dX5_systemCall_278 : decode cX5_systemCall 278 = .ok (.getfield 46, 3) := by decide +kernel
theorem dX5_systemCall_281 : decode cX5_systemCall 281 = .ok (.getfield 71, 3) := by decide +kernel
theorem dX5_systemCall_284 : decode cX5_systemCall 284 = .ok (.putfield 108, 3) := by decide +kernel
theorem dX5_systemCall_287 : decode cX5_systemCall 287 = .ok (.goto 8, 3) := by decide +kernel
theorem dX5_systemCall_290 : decode cX5_systemCall 290 = .ok (.aload_n 1, 1) := by decide +kernel
theorem dX5_systemCall_291 : decode cX5_systemCall 291 = .ok (.iconst 1, 1) := by decide +kernel
theorem dX5_systemCall_292 : decode cX5_systemCall 292 = .ok (.invokevirtual 151, 3) := by decide +kernel
theorem dX5_systemCall_295 : decode cX5_systemCall 295 = .ok (.return_, 1) := by decide +kernel
theorem dX5_readList_0 : decode cX5_readList 0 = .ok (.iload_n 2, 1) := by decide +kernel
theorem dX5_readList_1 : decode cX5_readList 1 = .ok (.invokestatic 102, 3) := by decide +kernel
theorem dX5_readList_4 : decode cX5_readList 4 = .ok (.ifCond .ne 5, 3) := by decide +kernel
theorem dX5_readList_7 : decode cX5_readList 7 = .ok (.iconst 0, 1) := by decide +kernel
theorem dX5_readList_8 : decode cX5_readList 8 = .ok (.ireturn, 1) := by decide +kernel
theorem dX5_readList_9 : decode cX5_readList 9 = .ok (.aload_n 1, 1) := by decide +kernel
theorem dX5_readList_10 : decode cX5_readList 10 = .ok (.getfield 33, 3) := by decide +kernel
theorem dX5_readList_13 : decode cX5_readList 13 = .ok (.iload_n 2, 1) := by decide +kernel
theorem dX5_readList_14 : decode cX5_readList 14 = .ok (.iaload, 1) := by decide +kernel
theorem dX5_readList_15 : decode cX5_readList 15 = .ok (.istore_n 3, 1) := by decide +kernel
theorem dX5_readList_16 : decode cX5_readList 16 = .ok (.iload_n 3, 1) := by decide +kernel
theorem dX5_readList_17 : decode cX5_readList 17 = .ok (.ifCond .lt 18, 3) := by decide +kernel
theorem dX5_readList_20 : decode cX5_readList 20 = .ok (.iload_n 3, 1) := by decide +kernel
theorem dX5_readList_21 : decode cX5_readList 21 = .ok (.bipush 16, 2) := by decide +kernel
theorem dX5_readList_23 : decode cX5_readList 23 = .ok (.if_icmp .gt 12, 3) := by decide +kernel
theorem dX5_readList_26 : decode cX5_readList 26 = .ok (.iload_n 2, 1) := by decide +kernel
theorem dX5_readList_27 : decode cX5_readList 27 = .ok (.iload_n 3, 1) := by decide +kernel
theorem dX5_readList_28 : decode cX5_readList 28 = .ok (.iadd, 1) := by decide +kernel
theorem dX5_readList_29 : decode cX5_readList 29 = .ok (.sipush 128, 3) := by decide +kernel
theorem dX5_readList_32 : decode cX5_readList 32 = .ok (.if_icmp .lt 5, 3) := by decide +kernel
theorem dX5_readList_35 : decode cX5_readList 35 = .ok (.iconst 0, 1) := by decide +kernel
theorem dX5_readList_36 : decode cX5_readList 36 = .ok (.ireturn, 1) := by decide +kernel
theorem dX5_readList_37 : decode cX5_readList 37 = .ok (.aload_n 0, 1) := by decide +kernel
theorem dX5_readList_38 : decode cX5_readList 38 = .ok (.getfield 21, 3) := by decide +kernel
theorem dX5_readList_41 : decode cX5_readList 41 = .ok (.invokevirtual 214, 3) := by decide +kernel
theorem dX5_readList_44 : decode cX5_readList 44 = .ok (.iconst 1, 1) := by decide +kernel
theorem dX5_readList_45 : decode cX5_readList 45 = .ok (.istore 4, 2) := by decide +kernel
theorem dX5_readList_47 : decode cX5_readList 47 = .ok (.iload 4, 2) := by decide +kernel
theorem dX5_readList_49 : decode cX5_readList 49 = .ok (.iload_n 3, 1) := by decide +kernel
theorem dX5_readList_50 : decode cX5_readList 50 = .ok (.if_icmp .gt 25, 3) := by decide +kernel
theorem dX5_readList_53 : decode cX5_readList 53 = .ok (.aload_n 0, 1) := by decide +kernel
theorem dX5_readList_54 : decode cX5_readList 54 = .ok (.getfield 21, 3) := by decide +kernel
theorem dX5_readList_57 : decode cX5_readList 57 = .ok (.aload_n 1, 1) := by decide +kernel
theorem dX5_readList_58 : decode cX5_readList 58 = .ok (.getfield 33, 3) := by decide +kernel
theorem dX5_readList_61 : decode cX5_readList 61 = .ok (.iload_n 2, 1) := by decide +kernel
theorem dX5_readList_62 : decode cX5_readList 62 = .ok (.iload 4, 2) := by decide +kernel
theorem dX5_readList_64 : decode cX5_readList 64 = .ok (.iadd, 1) := by decide +kernel
theorem dX5_readList_65 : decode cX5_readList 65 = .ok (.iaload, 1) := by decide +kernel
theorem dX5_readList_66 : decode cX5_readList 66 = .ok (.invokevirtual 217, 3) := by decide +kernel
theorem dX5_readList_69 : decode cX5_readList 69 = .ok (.iinc 4 1, 3) := by decide +kernel
theorem dX5_readList_72 : decode cX5_readList 72 = .ok (.goto (-25), 3) := by decide +kernel
theorem dX5_readList_75 : decode cX5_readList 75 = .ok (.iconst 1, 1) := by decide +kernel
theorem dX5_readList_76 : decode cX5_readList 76 = .ok (.ireturn, 1) := by decide +kernel
theorem dX5_send_0 : decode cX5_send 0 = .ok (.iload_n 2, 1) := by decide +kernel
theorem dX5_send_1 : decode cX5_send 1 = .ok (.invokestatic 29, 3) := by decide +kernel
theorem dX5_send_4 : decode cX5_send 4 = .ok (.ifCond .eq 39, 3) := by decide +kernel
theorem dX5_send_7 : decode cX5_send 7 = .ok (.aload_n 1, 1) := by decide +kernel
theorem dX5_send_8 : decode cX5_send 8 = .ok (.getfield 46, 3) := by decide +kernel
theorem dX5_send_11 : decode cX5_send 11 = .ok (.aload_n 0, 1) := by decide +kernel
theorem dX5_send_12 : decode cX5_send 12 = .ok (.getfield 11, 3) := by decide +kernel
theorem dX5_send_15 : decode cX5_send 15 = .ok (.iload_n 2, 1) := by decide +kernel
theorem dX5_send_16 : decode cX5_send 16 = .ok (.aaload, 1) := by decide +kernel
theorem dX5_send_17 : decode cX5_send 17 = .ok (.getfield 46, 3) := by decide +kernel
theorem dX5_send_20 : decode cX5_send 20 = .ok (.invokevirtual 140, 3) := by decide +kernel
theorem dX5_send_23 : decode cX5_send 23 = .ok (.ifCond .eq 20, 3) := by decide +kernel
theorem dX5_send_26 : decode cX5_send 26 = .ok (.aload_n 0, 1) := by decide +kernel
theorem dX5_send_27 : decode cX5_send 27 = .ok (.getfield 11, 3) := by decide +kernel
theorem dX5_send_30 : decode cX5_send 30 = .ok (.iload_n 2, 1) := by decide +kernel
theorem dX5_send_31 : decode cX5_send 31 = .ok (.aaload, 1) := by decide +kernel
theorem dX5_send_32 : decode cX5_send 32 = .ok (.getfield 81, 3) := by decide +kernel
theorem dX5_send_35 : decode cX5_send 35 = .ok (.aload_n 1, 1) := by decide +kernel
theorem dX5_send_36 : decode cX5_send 36 = .ok (.iload_n 3, 1) := by decide +kernel
theorem dX5_send_37 : decode cX5_send 37 = .ok (.iload 4, 2) := by decide +kernel
theorem dX5_send_39 : decode cX5_send 39 = .ok (.invokevirtual 85, 3) := by decide +kernel
theorem dX5_send_42 : decode cX5_send 42 = .ok (.pop, 1) := by decide +kernel
theorem dX5_send_43 : decode cX5_send 43 = .ok (.iconst 1, 1) := by decide +kernel
theorem dX5_send_44 : decode cX5_send 44 = .ok (.ireturn, 1) := by decide +kernel
theorem dX5_pass_0 : decode cX5_pass 0 = .ok (.iload 4, 2) := by decide +kernel
theorem dX5_pass_2 : decode cX5_pass 2 = .ok (.invokestatic 220, 3) := by decide +kernel
theorem dX5_pass_5 : decode cX5_pass 5 = .ok (.istore 5, 2) := by decide +kernel
theorem dX5_pass_7 : decode cX5_pass 7 = .ok (.aload_n 1, 1) := by decide +kernel
theorem dX5_pass_8 : decode cX5_pass 8 = .ok (.iload 5, 2) := by decide +kernel
theorem dX5_pass_10 : decode cX5_pass 10 = .ok (.invokevirtual 53, 3) := by decide +kernel
theorem dX5_pass_13 : decode cX5_pass 13 = .ok (.iload_n 3, 1) := by decide +kernel
theorem dX5_pass_14 : decode cX5_pass 14 = .ok (.invokevirtual 223, 3) := by decide +kernel
theorem dX5_pass_17 : decode cX5_pass 17 = .ok (.ifCond .ne 5, 3) := by decide +kernel
theorem dX5_pass_20 : decode cX5_pass 20 = .ok (.iconst 0, 1) := by decide +kernel
theorem dX5_pass_21 : decode cX5_pass 21 = .ok (.ireturn, 1) := by decide +kernel
theorem dX5_pass_22 : decode cX5_pass 22 = .ok (.aload_n 0, 1) := by decide +kernel
theorem dX5_pass_23 : decode cX5_pass 23 = .ok (.aload_n 1, 1) := by decide +kernel
theorem dX5_pass_24 : decode cX5_pass 24 = .ok (.iload_n 2, 1) := by decide +kernel
theorem dX5_pass_25 : decode cX5_pass 25 = .ok (.iload_n 3, 1) := by decide +kernel
theorem dX5_pass_26 : decode cX5_pass 26 = .ok (.iload 5, 2) := by decide +kernel
theorem dX5_pass_28 : decode cX5_pass 28 = .ok (.invokevirtual 188, 3) := by decide +kernel
theorem dX5_pass_31 : decode cX5_pass 31 = .ok (.ireturn, 1) := by decide +kernel
theorem dX5_kindOf_0 : decode cX5_kindOf 0 = .ok (.iload_n 0, 1) := by decide +kernel
theorem dX5_kindOf_1 : decode cX5_kindOf 1 = .ok (.ifCond .ne 7, 3) := by decide +kernel
theorem dX5_kindOf_4 : decode cX5_kindOf 4 = .ok (.iconst 0, 1) := by decide +kernel
theorem dX5_kindOf_5 : decode cX5_kindOf 5 = .ok (.goto 4, 3) := by decide +kernel
theorem dX5_kindOf_8 : decode cX5_kindOf 8 = .ok (.iconst 1, 1) := by decide +kernel
theorem dX5_kindOf_9 : decode cX5_kindOf 9 = .ok (.ireturn, 1) := by decide +kernel
theorem dX5_read_0 : decode cX5_read 0 = .ok (.aload_n 0, 1) := by decide +kernel
theorem dX5_read_1 : decode cX5_read 1 = .ok (.iload_n 2, 1) := by decide +kernel
theorem dX5_read_2 : decode cX5_read 2 = .ok (.iload_n 3, 1) := by decide +kernel
theorem dX5_read_3 : decode cX5_read 3 = .ok (.invokevirtual 74, 3) := by decide +kernel
theorem dX5_read_6 : decode cX5_read 6 = .ok (.ifCond .eq 21, 3) := by decide +kernel
theorem dX5_read_9 : decode cX5_read 9 = .ok (.aload_n 0, 1) := by decide +kernel
theorem dX5_read_10 : decode cX5_read 10 = .ok (.iload_n 2, 1) := by decide +kernel
theorem dX5_read_11 : decode cX5_read 11 = .ok (.invokevirtual 60, 3) := by decide +kernel
theorem dX5_read_14 : decode cX5_read 14 = .ok (.getfield 70, 3) := by decide +kernel
theorem dX5_read_17 : decode cX5_read 17 = .ok (.aload_n 1, 1) := by decide +kernel
theorem dX5_read_18 : decode cX5_read 18 = .ok (.getfield 46, 3) := by decide +kernel
theorem dX5_read_21 : decode cX5_read 21 = .ok (.invokevirtual 140, 3) := by decide +kernel
theorem dX5_read_24 : decode cX5_read 24 = .ok (.ifCond .ne 5, 3) := by decide +kernel
theorem dX5_read_27 : decode cX5_read 27 = .ok (.iconst 0, 1) := by decide +kernel
theorem dX5_read_28 : decode cX5_read 28 = .ok (.ireturn, 1) := by decide +kernel
theorem dX5_read_29 : decode cX5_read 29 = .ok (.aload_n 1, 1) := by decide +kernel
theorem dX5_read_30 : decode cX5_read 30 = .ok (.getfield 33, 3) := by decide +kernel
theorem dX5_read_33 : decode cX5_read 33 = .ok (.bipush 120, 2) := by decide +kernel
theorem dX5_read_35 : decode cX5_read 35 = .ok (.aload_n 0, 1) := by decide +kernel
theorem dX5_read_36 : decode cX5_read 36 = .ok (.iload_n 2, 1) := by decide +kernel
theorem dX5_read_37 : decode cX5_read 37 = .ok (.invokevirtual 60, 3) := by decide +kernel
theorem dX5_read_40 : decode cX5_read 40 = .ok (.getfield 78, 3) := by decide +kernel
theorem dX5_read_43 : decode cX5_read 43 = .ok (.iload_n 3, 1) := by decide +kernel
theorem dX5_read_44 : decode cX5_read 44 = .ok (.iaload, 1) := by decide +kernel
theorem dX5_read_45 : decode cX5_read 45 = .ok (.iastore, 1) := by decide +kernel
theorem dX5_read_46 : decode cX5_read 46 = .ok (.iconst 1, 1) := by decide +kernel
theorem dX5_read_47 : decode cX5_read 47 = .ok (.ireturn, 1) := by decide +kernel
theorem dX5_write_0 : decode cX5_write 0 = .ok (.aload_n 0, 1) := by decide +kernel
theorem dX5_write_1 : decode cX5_write 1 = .ok (.iload_n 2, 1) := by decide +kernel
theorem dX5_write_2 : decode cX5_write 2 = .ok (.iload_n 3, 1) := by decide +kernel
theorem dX5_write_3 : decode cX5_write 3 = .ok (.invokevirtual 74, 3) := by decide +kernel
theorem dX5_write_6 : decode cX5_write 6 = .ok (.ifCond .eq 33, 3) := by decide +kernel
theorem dX5_write_9 : decode cX5_write 9 = .ok (.aload_n 1, 1) := by decide +kernel
theorem dX5_write_10 : decode cX5_write 10 = .ok (.getfield 46, 3) := by decide +kernel
theorem dX5_write_13 : decode cX5_write 13 = .ok (.aload_n 0, 1) := by decide +kernel
theorem dX5_write_14 : decode cX5_write 14 = .ok (.iload_n 2, 1) := by decide +kernel
theorem dX5_write_15 : decode cX5_write 15 = .ok (.invokevirtual 60, 3) := by decide +kernel
theorem dX5_write_18 : decode cX5_write 18 = .ok (.getfield 70, 3) := by decide +kernel
theorem dX5_write_21 : decode cX5_write 21 = .ok (.invokevirtual 140, 3) := by decide +kernel
theorem dX5_write_24 : decode cX5_write 24 = .ok (.ifCond .eq 15, 3) := by decide +kernel
theorem dX5_write_27 : decode cX5_write 27 = .ok (.aload_n 0, 1) := by decide +kernel
theorem dX5_write_28 : decode cX5_write 28 = .ok (.iload_n 2, 1) := by decide +kernel
theorem dX5_write_29 : decode cX5_write 29 = .ok (.invokevirtual 60, 3) := by decide +kernel
theorem dX5_write_32 : decode cX5_write 32 = .ok (.getfield 78, 3) := by decide +kernel
theorem dX5_write_35 : decode cX5_write 35 = .ok (.iload_n 3, 1) := by decide +kernel
theorem dX5_write_36 : decode cX5_write 36 = .ok (.iload 4, 2) := by decide +kernel
theorem dX5_write_38 : decode cX5_write 38 = .ok (.iastore, 1) := by decide +kernel
theorem dX5_write_39 : decode cX5_write 39 = .ok (.iconst 1, 1) := by decide +kernel
theorem dX5_write_40 : decode cX5_write 40 = .ok (.ireturn, 1) := by decide +kernel
theorem dX5_spawn_0 : decode cX5_spawn 0 = .ok (.iload_n 2, 1) := by decide +kernel
theorem dX5_spawn_1 : decode cX5_spawn 1 = .ok (.invokestatic 29, 3) := by decide +kernel
theorem dX5_spawn_4 : decode cX5_spawn 4 = .ok (.ifCond .eq 19, 3) := by decide +kernel
theorem dX5_spawn_7 : decode cX5_spawn 7 = .ok (.iload_n 2, 1) := by decide +kernel
theorem dX5_spawn_8 : decode cX5_spawn 8 = .ok (.ifCond .eq 15, 3) := by decide +kernel
theorem dX5_spawn_11 : decode cX5_spawn 11 = .ok (.iload_n 2, 1) := by decide +kernel
theorem dX5_spawn_12 : decode cX5_spawn 12 = .ok (.iconst 1, 1) := by decide +kernel
theorem dX5_spawn_13 : decode cX5_spawn 13 = .ok (.isub, 1) := by decide +kernel
theorem dX5_spawn_14 : decode cX5_spawn 14 = .ok (.iconst 2, 1) := by decide +kernel
theorem dX5_spawn_15 : decode cX5_spawn 15 = .ok (.idiv, 1) := by decide +kernel
theorem dX5_spawn_16 : decode cX5_spawn 16 = .ok (.aload_n 1, 1) := by decide +kernel
theorem dX5_spawn_17 : decode cX5_spawn 17 = .ok (.getfield 226, 3) := by decide +kernel
theorem dX5_spawn_20 : decode cX5_spawn 20 = .ok (.if_icmp .eq 5, 3) := by decide +kernel
theorem dX5_spawn_23 : decode cX5_spawn 23 = .ok (.iconst 0, 1) := by decide +kernel
theorem dX5_spawn_24 : decode cX5_spawn 24 = .ok (.ireturn, 1) := by decide +kernel
theorem dX5_spawn_25 : decode cX5_spawn 25 = .ok (.iload 4, 2) := by decide +kernel
theorem dX5_spawn_27 : decode cX5_spawn 27 = .ok (.iconst 1, 1) := by decide +kernel
theorem dX5_spawn_28 : decode cX5_spawn 28 = .ok (.if_icmp .lt 25, 3) := by decide +kernel
theorem dX5_spawn_31 : decode cX5_spawn 31 = .ok (.iload 4, 2) := by decide +kernel
theorem dX5_spawn_33 : decode cX5_spawn 33 = .ok (.sipush 128, 3) := by decide +kernel
theorem dX5_spawn_36 : decode cX5_spawn 36 = .ok (.if_icmp .gt 17, 3) := by decide +kernel
theorem dX5_spawn_39 : decode cX5_spawn 39 = .ok (.iload_n 3, 1) := by decide +kernel
theorem dX5_spawn_40 : decode cX5_spawn 40 = .ok (.ifCond .lt 13, 3) := by decide +kernel
theorem dX5_spawn_43 : decode cX5_spawn 43 = .ok (.iload_n 3, 1) := by decide +kernel
theorem dX5_spawn_44 : decode cX5_spawn 44 = .ok (.sipush 128, 3) := by decide +kernel
theorem dX5_spawn_47 : decode cX5_spawn 47 = .ok (.iload 4, 2) := by decide +kernel
theorem dX5_spawn_49 : decode cX5_spawn 49 = .ok (.isub, 1) := by decide +kernel
theorem dX5_spawn_50 : decode cX5_spawn 50 = .ok (.if_icmp .le 5, 3) := by decide +kernel
theorem dX5_spawn_53 : decode cX5_spawn 53 = .ok (.iconst 0, 1) := by decide +kernel
theorem dX5_spawn_54 : decode cX5_spawn 54 = .ok (.ireturn, 1) := by decide +kernel
theorem dX5_spawn_55 : decode cX5_spawn 55 = .ok (.aload_n 0, 1) := by decide +kernel
theorem dX5_spawn_56 : decode cX5_spawn 56 = .ok (.getfield 11, 3) := by decide +kernel
theorem dX5_spawn_59 : decode cX5_spawn 59 = .ok (.iload_n 2, 1) := by decide +kernel
theorem dX5_spawn_60 : decode cX5_spawn 60 = .ok (.aaload, 1) := by decide +kernel
theorem dX5_spawn_61 : decode cX5_spawn 61 = .ok (.astore 5, 2) := by decide +kernel
theorem dX5_spawn_63 : decode cX5_spawn 63 = .ok (.aload 5, 2) := by decide +kernel
theorem dX5_spawn_65 : decode cX5_spawn 65 = .ok (.getfield 37, 3) := by decide +kernel
theorem dX5_spawn_68 : decode cX5_spawn 68 = .ok (.ifCond .ne 18, 3) := by decide +kernel
theorem dX5_spawn_71 : decode cX5_spawn 71 = .ok (.aload 5, 2) := by decide +kernel
theorem dX5_spawn_73 : decode cX5_spawn 73 = .ok (.getfield 46, 3) := by decide +kernel
theorem dX5_spawn_76 : decode cX5_spawn 76 = .ok (.aload_n 1, 1) := by decide +kernel
theorem dX5_spawn_77 : decode cX5_spawn 77 = .ok (.getfield 46, 3) := by decide +kernel
theorem dX5_spawn_80 : decode cX5_spawn 80 = .ok (.invokevirtual 140, 3) := by decide +kernel
theorem dX5_spawn_83 : decode cX5_spawn 83 = .ok (.ifCond .ne 5, 3) := by decide +kernel
theorem dX5_spawn_86 : decode cX5_spawn 86 = .ok (.iconst 0, 1) := by decide +kernel
theorem dX5_spawn_87 : decode cX5_spawn 87 = .ok (.ireturn, 1) := by decide +kernel
theorem dX5_spawn_88 : decode cX5_spawn 88 = .ok (.iconst 0, 1) := by decide +kernel
theorem dX5_spawn_89 : decode cX5_spawn 89 = .ok (.istore 6, 2) := by decide +kernel
theorem dX5_spawn_91 : decode cX5_spawn 91 = .ok (.iload 6, 2) := by decide +kernel
theorem dX5_spawn_93 : decode cX5_spawn 93 = .ok (.iload 4, 2) := by decide +kernel
theorem dX5_spawn_95 : decode cX5_spawn 95 = .ok (.if_icmp .ge 26, 3) := by decide +kernel
theorem dX5_spawn_98 : decode cX5_spawn 98 = .ok (.aload 5, 2) := by decide +kernel
theorem dX5_spawn_100 : decode cX5_spawn 100 = .ok (.getfield 33, 3) := by decide +kernel
theorem dX5_spawn_103 : decode cX5_spawn 103 = .ok (.iload 6, 2) := by decide +kernel
theorem dX5_spawn_105 : decode cX5_spawn 105 = .ok (.aload_n 1, 1) := by decide +kernel
theorem dX5_spawn_106 : decode cX5_spawn 106 = .ok (.getfield 33, 3) := by decide +kernel
theorem dX5_spawn_109 : decode cX5_spawn 109 = .ok (.iload_n 3, 1) := by decide +kernel
theorem dX5_spawn_110 : decode cX5_spawn 110 = .ok (.iload 6, 2) := by decide +kernel
theorem dX5_spawn_112 : decode cX5_spawn 112 = .ok (.iadd, 1) := by decide +kernel
theorem dX5_spawn_113 : decode cX5_spawn 113 = .ok (.iaload, 1) := by decide +kernel
theorem dX5_spawn_114 : decode cX5_spawn 114 = .ok (.iastore, 1) := by decide +kernel
theorem dX5_spawn_115 : decode cX5_spawn 115 = .ok (.iinc 6 1, 3) := by decide +kernel
theorem dX5_spawn_118 : decode cX5_spawn 118 = .ok (.goto (-27), 3) := by decide +kernel
theorem dX5_spawn_121 : decode cX5_spawn 121 = .ok (.aload 5, 2) := by decide +kernel
theorem dX5_spawn_123 : decode cX5_spawn 123 = .ok (.getfield 46, 3) := by decide +kernel
theorem dX5_spawn_126 : decode cX5_spawn 126 = .ok (.aload_n 1, 1) := by decide +kernel
theorem dX5_spawn_127 : decode cX5_spawn 127 = .ok (.getfield 46, 3) := by decide +kernel
theorem dX5_spawn_130 : decode cX5_spawn 130 = .ok (.invokevirtual 229, 3) := by decide +kernel
theorem dX5_spawn_133 : decode cX5_spawn 133 = .ok (.aload 5, 2) := by decide +kernel
theorem dX5_spawn_135 : decode cX5_spawn 135 = .ok (.iconst 1, 1) := by decide +kernel
theorem dX5_spawn_136 : decode cX5_spawn 136 = .ok (.putfield 37, 3) := by decide +kernel
theorem dX5_spawn_139 : decode cX5_spawn 139 = .ok (.iconst 1, 1) := by decide +kernel
theorem dX5_spawn_140 : decode cX5_spawn 140 = .ok (.ireturn, 1) := by decide +kernel
theorem dJ9_floorMod_7cf53_0 : decode cJ9_floorMod_7cf53 0 = .ok (.iload_n 0, 1) := by decide +kernel
theorem dJ9_floorMod_7cf53_1 : decode cJ9_floorMod_7cf53 1 = .ok (.iload_n 1, 1) := by decide +kernel
theorem dJ9_floorMod_7cf53_2 : decode cJ9_floorMod_7cf53 2 = .ok (.irem, 1) := by decide +kernel
theorem dJ9_floorMod_7cf53_3 : decode cJ9_floorMod_7cf53 3 = .ok (.istore_n 2, 1) := by decide +kernel
theorem dJ9_floorMod_7cf53_4 : decode cJ9_floorMod_7cf53 4 = .ok (.iload_n 0, 1) := by decide +kernel
theorem dJ9_floorMod_7cf53_5 : decode cJ9_floorMod_7cf53 5 = .ok (.iload_n 1, 1) := by decide +kernel
theorem dJ9_floorMod_7cf53_6 : decode cJ9_floorMod_7cf53 6 = .ok (.ixor, 1) := by decide +kernel
theorem dJ9_floorMod_7cf53_7 : decode cJ9_floorMod_7cf53 7 = .ok (.ifCond .ge 11, 3) := by decide +kernel
theorem dJ9_floorMod_7cf53_10 : decode cJ9_floorMod_7cf53 10 = .ok (.iload_n 2, 1) := by decide +kernel
theorem dJ9_floorMod_7cf53_11 : decode cJ9_floorMod_7cf53 11 = .ok (.ifCond .eq 7, 3) := by decide +kernel
theorem dJ9_floorMod_7cf53_14 : decode cJ9_floorMod_7cf53 14 = .ok (.iload_n 2, 1) := by decide +kernel
theorem dJ9_floorMod_7cf53_15 : decode cJ9_floorMod_7cf53 15 = .ok (.iload_n 1, 1) := by decide +kernel
theorem dJ9_floorMod_7cf53_16 : decode cJ9_floorMod_7cf53 16 = .ok (.iadd, 1) := by decide +kernel
theorem dJ9_floorMod_7cf53_17 : decode cJ9_floorMod_7cf53 17 = .ok (.ireturn, 1) := by decide +kernel
theorem dJ9_floorMod_7cf53_18 : decode cJ9_floorMod_7cf53 18 = .ok (.iload_n 2, 1) := by decide +kernel
theorem dJ9_floorMod_7cf53_19 : decode cJ9_floorMod_7cf53 19 = .ok (.ireturn, 1) := by decide +kernel
end
section
theorem dX6_init_0 : decode cX6_init 0 = .ok (.aload_n 0, 1) := by decide +kernel
theorem dX6_init_1 : decode cX6_init 1 = .ok (.invokespecial 3, 3) := by decide +kernel
theorem dX6_init_4 : decode cX6_init 4 = .ok (.aload_n 0, 1) := by decide +kernel
theorem dX6_init_5 : decode cX6_init 5 = .ok (.sipush 1024, 3) := by decide +kernel
theorem dX6_init_8 : decode cX6_init 8 = .ok (.newarray .int, 2) := by decide +kernel
theorem dX6_init_10 : decode cX6_init 10 = .ok (.putfield 9, 3) := by decide +kernel
theorem dX6_init_13 : decode cX6_init 13 = .ok (.aload_n 0, 1) := by decide +kernel
theorem dX6_init_14 : decode cX6_init 14 = .ok (.bipush 8, 2) := by decide +kernel
theorem dX6_init_16 : decode cX6_init 16 = .ok (.newarray .int, 2) := by decide +kernel
theorem dX6_init_18 : decode cX6_init 18 = .ok (.putfield 13, 3) := by decide +kernel
theorem dX6_init_21 : decode cX6_init 21 = .ok (.aload_n 0, 1) := by decide +kernel
theorem dX6_init_22 : decode cX6_init 22 = .ok (.bipush 8, 2) := by decide +kernel
theorem dX6_init_24 : decode cX6_init 24 = .ok (.newarray .int, 2) := by decide +kernel
theorem dX6_init_26 : decode cX6_init 26 = .ok (.putfield 16, 3) := by decide +kernel
theorem dX6_init_29 : decode cX6_init 29 = .ok (.aload_n 0, 1) := by decide +kernel
theorem dX6_init_30 : decode cX6_init 30 = .ok (.bipush 8, 2) := by decide +kernel
theorem dX6_init_32 : decode cX6_init 32 = .ok (.newarray .int, 2) := by decide +kernel
theorem dX6_init_34 : decode cX6_init 34 = .ok (.putfield 19, 3) := by decide +kernel
theorem dX6_init_37 : decode cX6_init 37 = .ok (.aload_n 0, 1) := by decide +kernel
theorem dX6_init_38 : decode cX6_init 38 = .ok (.bipush 8, 2) := by decide +kernel
theorem dX6_init_40 : decode cX6_init 40 = .ok (.newarray .int, 2) := by decide +kernel
theorem dX6_init_42 : decode cX6_init 42 = .ok (.putfield 22, 3) := by decide +kernel
theorem dX6_init_45 : decode cX6_init 45 = .ok (.aload_n 0, 1) := by decide +kernel
theorem dX6_init_46 : decode cX6_init 46 = .ok (.bipush 8, 2) := by decide +kernel
theorem dX6_init_48 : decode cX6_init 48 = .ok (.newarray .int, 2) := by decide +kernel
theorem dX6_init_50 : decode cX6_init 50 = .ok (.putfield 25, 3) := by decide +kernel
theorem dX6_init_53 : decode cX6_init 53 = .ok (.aload_n 0, 1) := by decide +kernel
theorem dX6_init_54 : decode cX6_init 54 = .ok (.ldc 28, 2) := by decide +kernel
theorem dX6_init_56 : decode cX6_init 56 = .ok (.newarray .boolean, 2) := by decide +kernel
theorem dX6_init_58 : decode cX6_init 58 = .ok (.putfield 29, 3) := by decide +kernel
theorem dX6_init_61 : decode cX6_init 61 = .ok (.aload_n 0, 1) := by decide +kernel
theorem dX6_init_62 : decode cX6_init 62 = .ok (.sipush 4096, 3) := by decide +kernel
theorem dX6_init_65 : decode cX6_init 65 = .ok (.newarray .boolean, 2) := by decide +kernel
theorem dX6_init_67 : decode cX6_init 67 = .ok (.putfield 33, 3) := by decide +kernel
theorem dX6_init_70 : decode cX6_init 70 = .ok (.aload_n 0, 1) := by decide +kernel
theorem dX6_init_71 : decode cX6_init 71 = .ok (.bipush 64, 2) := by decide +kernel
theorem dX6_init_73 : decode cX6_init 73 = .ok (.newarray .boolean, 2) := by decide +kernel
theorem dX6_init_75 : decode cX6_init 75 = .ok (.putfield 36, 3) := by decide +kernel
theorem dX6_init_78 : decode cX6_init 78 = .ok (.aload_n 0, 1) := by decide +kernel
theorem dX6_init_79 : decode cX6_init 79 = .ok (.sipush 512, 3) := by decide +kernel
theorem dX6_init_82 : decode cX6_init 82 = .ok (.newarray .int, 2) := by decide +kernel
theorem dX6_init_84 : decode cX6_init 84 = .ok (.putfield 39, 3) := by decide +kernel
theorem dX6_init_87 : decode cX6_init 87 = .ok (.aload_n 0, 1) := by decide +kernel
theorem dX6_init_88 : decode cX6_init 88 = .ok (.bipush 8, 2) := by decide +kernel
theorem dX6_init_90 : decode cX6_init 90 = .ok (.newarray .int, 2) := by decide +kernel
theorem dX6_init_92 : decode cX6_init 92 = .ok (.putfield 42, 3) := by decide +kernel
theorem dX6_init_95 : decode cX6_init 95 = .ok (.aload_n 0, 1) := by decide +kernel
theorem dX6_init_96 : decode cX6_init 96 = .ok (.bipush 64, 2) := by decide +kernel
theorem dX6_init_98 : decode cX6_init 98 = .ok (.newarray .int, 2) := by decide +kernel
theorem dX6_init_100 : decode cX6_init 100 = .ok (.putfield 45, 3) := by decide +kernel
theorem dX6_init_103 : decode cX6_init 103 = .ok (.aload_n 0, 1) := by decide +kernel
theorem dX6_init_104 : decode cX6_init 104 = .ok (.bipush 64, 2) := by decide +kernel
theorem dX6_init_106 : decode cX6_init 106 = .ok (.newarray .int, 2) := by decide +kernel
theorem dX6_init_108 : decode cX6_init 108 = .ok (.putfield 48, 3) := by decide +kernel
theorem dX6_init_111 : decode cX6_init 111 = .ok (.aload_n 0, 1) := by decide +kernel
theorem dX6_init_112 : decode cX6_init 112 = .ok (.bipush 64, 2) := by decide +kernel
theorem dX6_init_114 : decode cX6_init 114 = .ok (.newarray .int, 2) := by decide +kernel
theorem dX6_init_116 : decode cX6_init 116 = .ok (.putfield 51, 3) := by decide +kernel
theorem dX6_init_119 : decode cX6_init 119 = .ok (.aload_n 0, 1) := by decide +kernel
theorem dX6_init_120 : decode cX6_init 120 = .ok (.bipush 8, 2) := by decide +kernel
theorem dX6_init_122 : decode cX6_init 122 = .ok (.newarray .int, 2) := by decide +kernel
theorem dX6_init_124 : decode cX6_init 124 = .ok (.putfield 54, 3) := by decide +kernel
theorem dX6_init_127 : decode cX6_init 127 = .ok (.aload_n 0, 1) := by decide +kernel
theorem dX6_init_128 : decode cX6_init 128 = .ok (.sipush 512, 3) := by decide +kernel
theorem dX6_init_131 : decode cX6_init 131 = .ok (.newarray .int, 2) := by decide +kernel
theorem dX6_init_133 : decode cX6_init 133 = .ok (.putfield 57, 3) := by decide +kernel
theorem dX6_init_136 : decode cX6_init 136 = .ok (.aload_n 0, 1) := by decide +kernel
theorem dX6_init_137 : decode cX6_init 137 = .ok (.sipush 512, 3) := by decide +kernel
theorem dX6_init_140 : decode cX6_init 140 = .ok (.newarray .int, 2) := by decide +kernel
theorem dX6_init_142 : decode cX6_init 142 = .ok (.putfield 60, 3) := by decide +kernel
theorem dX6_init_145 : decode cX6_init 145 = .ok (.return_, 1) := by decide +kernel
theorem dX6_isIn_0 : decode cX6_isIn 0 = .ok (.iload_n 0, 1) := by decide +kernel
theorem dX6_isIn_1 : decode cX6_isIn 1 = .ok (.iload_n 1, 1) := by decide +kernel
theorem dX6_isIn_2 : decode cX6_isIn 2 = .ok (.if_icmp .lt 12, 3) := by decide +kernel
theorem dX6_isIn_5 : decode cX6_isIn 5 = .ok (.iload_n 0, 1) := by decide +kernel
theorem dX6_isIn_6 : decode cX6_isIn 6 = .ok (.iload_n 2, 1) := by decide +kernel
theorem dX6_isIn_7 : decode cX6_isIn 7 = .ok (.if_icmp .gt 7, 3) := by decide +kernel
theorem dX6_isIn_10 : decode cX6_isIn 10 = .ok (.iconst 1, 1) := by decide +kernel
theorem dX6_isIn_11 : decode cX6_isIn 11 = .ok (.goto 4, 3) := by decide +kernel
theorem dX6_isIn_14 : decode cX6_isIn 14 = .ok (.iconst 0, 1) := by decide +kernel
theorem dX6_isIn_15 : decode cX6_isIn 15 = .ok (.ireturn, 1) := by decide +kernel
theorem dX6_isSlot_0 : decode cX6_isSlot 0 = .ok (.iload_n 0, 1) := by decide +kernel
theorem dX6_isSlot_1 : decode cX6_isSlot 1 = .ok (.iconst 0, 1) := by decide +kernel
theorem dX6_isSlot_2 : decode cX6_isSlot 2 = .ok (.bipush 7, 2) := by decide +kernel
theorem dX6_isSlot_4 : decode cX6_isSlot 4 = .ok (.invokestatic 63, 3) := by decide +kernel
theorem dX6_isSlot_7 : decode cX6_isSlot 7 = .ok (.ireturn, 1) := by decide +kernel
theorem dX6_isCell_0 : decode cX6_isCell 0 = .ok (.iload_n 0, 1) := by decide +kernel
theorem dX6_isCell_1 : decode cX6_isCell 1 = .ok (.iconst 0, 1) := by decide +kernel
theorem dX6_isCell_2 : decode cX6_isCell 2 = .ok (.bipush 127, 2) := by decide +kernel
theorem dX6_isCell_4 : decode cX6_isCell 4 = .ok (.invokestatic 63, 3) := by decide +kernel
theorem dX6_isCell_7 : decode cX6_isCell 7 = .ok (.ireturn, 1) := by decide +kernel
theorem dX6_isThere_0 : decode cX6_isThere 0 = .ok (.iload_n 1, 1) := by decide +kernel
theorem dX6_isThere_1 : decode cX6_isThere 1 = .ok (.iconst 0, 1) := by decide +kernel
theorem dX6_isThere_2 : decode cX6_isThere 2 = .ok (.sipush 255, 3) := by decide +kernel
theorem dX6_isThere_5 : decode cX6_isThere 5 = .ok (.invokestatic 63, 3) := by decide +kernel
theorem dX6_isThere_8 : decode cX6_isThere 8 = .ok (.ifCond .eq 23, 3) := by decide +kernel
theorem dX6_isThere_11 : decode cX6_isThere 11 = .ok (.iload_n 1, 1) := by decide +kernel
theorem dX6_isThere_12 : decode cX6_isThere 12 = .ok (.bipush 32, 2) := by decide +kernel
theorem dX6_isThere_14 : decode cX6_isThere 14 = .ok (.irem, 1) := by decide +kernel
theorem dX6_isThere_15 : decode cX6_isThere 15 = .ok (.aload_n 0, 1) := by decide +kernel
theorem dX6_isThere_16 : decode cX6_isThere 16 = .ok (.getfield 25, 3) := by decide +kernel
theorem dX6_isThere_19 : decode cX6_isThere 19 = .ok (.iload_n 1, 1) := by decide +kernel
theorem dX6_isThere_20 : decode cX6_isThere 20 = .ok (.bipush 32, 2) := by decide +kernel
theorem dX6_isThere_22 : decode cX6_isThere 22 = .ok (.idiv, 1) := by decide +kernel
theorem dX6_isThere_23 : decode cX6_isThere 23 = .ok (.iaload, 1) := by decide +kernel
theorem dX6_isThere_24 : decode cX6_isThere 24 = .ok (.if_icmp .ge 7, 3) := by decide +kernel
theorem dX6_isThere_27 : decode cX6_isThere 27 = .ok (.iconst 1, 1) := by decide +kernel
theorem dX6_isThere_28 : decode cX6_isThere 28 = .ok (.goto 4, 3) := by decide +kernel
theorem dX6_isThere_31 : decode cX6_isThere 31 = .ok (.iconst 0, 1) := by decide +kernel
theorem dX6_isThere_32 : decode cX6_isThere 32 = .ok (.ireturn, 1) := by decide +kernel
theorem dX6_many_0 : decode cX6_many 0 = .ok (.iconst 0, 1) := by decide +kernel
theorem dX6_many_1 : decode cX6_many 1 = .ok (.istore_n 2, 1) := by decide +kernel
theorem dX6_many_2 : decode cX6_many 2 = .ok (.iconst 0, 1) := by decide +kernel
theorem dX6_many_3 : decode cX6_many 3 = .ok (.istore_n 3, 1) := by decide +kernel
theorem dX6_many_4 : decode cX6_many 4 = .ok (.iload_n 3, 1) := by decide +kernel
theorem dX6_many_5 : decode cX6_many 5 = .ok (.sipush 256, 3) := by decide +kernel
theorem dX6_many_8 : decode cX6_many 8 = .ok (.if_icmp .ge 32, 3) := by decide +kernel
theorem dX6_many_11 : decode cX6_many 11 = .ok (.iload_n 2, 1) := by decide +kernel
theorem dX6_many_12 : decode cX6_many 12 = .ok (.aload_n 0, 1) := by decide +kernel
theorem dX6_many_13 : decode cX6_many 13 = .ok (.getfield 29, 3) := by decide +kernel
theorem dX6_many_16 : decode cX6_many 16 = .ok (.sipush 256, 3) := by decide +kernel
theorem dX6_many_19 : decode cX6_many 19 = .ok (.iload_n 1, 1) := by decide +kernel
theorem dX6_many_20 : decode cX6_many 20 = .ok (.imul, 1) := by decide +kernel
theorem dX6_many_21 : decode cX6_many 21 = .ok (.iload_n 3, 1) := by decide +kernel
theorem dX6_many_22 : decode cX6_many 22 = .ok (.iadd, 1) := by decide +kernel
theorem dX6_many_23 : decode cX6_many 23 = .ok (.baload, 1) := by decide +kernel
theorem dX6_many_24 : decode cX6_many 24 = .ok (.ifCond .eq 7, 3) := by decide +kernel
theorem dX6_many_27 : decode cX6_many 27 = .ok (.iconst 1, 1) := by decide +kernel
theorem dX6_many_28 : decode cX6_many 28 = .ok (.goto 4, 3) := by decide +kernel
theorem dX6_many_31 : decode cX6_many 31 = .ok (.iconst 0, 1) := by decide +kernel
theorem dX6_many_32 : decode cX6_many 32 = .ok (.iadd, 1) := by decide +kernel
theorem dX6_many_33 : decode cX6_many 33 = .ok (.istore_n 2, 1) := by decide +kernel
theorem dX6_many_34 : decode cX6_many 34 = .ok (.iinc 3 1, 3) := by decide +kernel
theorem dX6_many_37 : decode cX6_many 37 = .ok (.goto (-33), 3) := by decide +kernel
theorem dX6_many_40 : decode cX6_many 40 = .ok (.iload_n 2, 1) := by decide +kernel
theorem dX6_many_41 : decode cX6_many 41 = .ok (.ireturn, 1) := by decide +kernel
theorem dX6_isInLabel_0 : decode cX6_isInLabel 0 = .ok (.iconst 1, 1) := by decide +kernel
theorem dX6_isInLabel_1 : decode cX6_isInLabel 1 = .ok (.istore_n 3, 1) := by decide +kernel
theorem dX6_isInLabel_2 : decode cX6_isInLabel 2 = .ok (.iconst 0, 1) := by decide +kernel
theorem dX6_isInLabel_3 : decode cX6_isInLabel 3 = .ok (.istore 4, 2) := by decide +kernel
theorem dX6_isInLabel_5 : decode cX6_isInLabel 5 = .ok (.iload 4, 2) := by decide +kernel
theorem dX6_isInLabel_7 : decode cX6_isInLabel 7 = .ok (.sipush 256, 3) := by decide +kernel
theorem dX6_isInLabel_10 : decode cX6_isInLabel 10 = .ok (.if_icmp .ge 51, 3) := by decide +kernel
theorem dX6_isInLabel_13 : decode cX6_isInLabel 13 = .ok (.iload_n 3, 1) := by decide +kernel
theorem dX6_isInLabel_14 : decode cX6_isInLabel 14 = .ok (.ifCond .eq 39, 3) := by decide +kernel
theorem dX6_isInLabel_17 : decode cX6_isInLabel 17 = .ok (.aload_n 0, 1) := by decide +kernel
theorem dX6_isInLabel_18 : decode cX6_isInLabel 18 = .ok (.getfield 29, 3) := by decide +kernel
theorem dX6_isInLabel_21 : decode cX6_isInLabel 21 = .ok (.sipush 256, 3) := by decide +kernel
theorem dX6_isInLabel_24 : decode cX6_isInLabel 24 = .ok (.iload_n 1, 1) := by decide +kernel
theorem dX6_isInLabel_25 : decode cX6_isInLabel 25 = .ok (.imul, 1) := by decide +kernel
theorem dX6_isInLabel_26 : decode cX6_isInLabel 26 = .ok (.iload 4, 2) := by decide +kernel
theorem dX6_isInLabel_28 : decode cX6_isInLabel 28 = .ok (.iadd, 1) := by decide +kernel
theorem dX6_isInLabel_29 : decode cX6_isInLabel 29 = .ok (.baload, 1) := by decide +kernel
theorem dX6_isInLabel_30 : decode cX6_isInLabel 30 = .ok (.ifCond .eq 19, 3) := by decide +kernel
theorem dX6_isInLabel_33 : decode cX6_isInLabel 33 = .ok (.aload_n 0, 1) := by decide +kernel
theorem dX6_isInLabel_34 : decode cX6_isInLabel 34 = .ok (.getfield 29, 3) := by decide +kernel
theorem dX6_isInLabel_37 : decode cX6_isInLabel 37 = .ok (.sipush 256, 3) := by decide +kernel
theorem dX6_isInLabel_40 : decode cX6_isInLabel 40 = .ok (.iload_n 2, 1) := by decide +kernel
theorem dX6_isInLabel_41 : decode cX6_isInLabel 41 = .ok (.imul, 1) := by decide +kernel
theorem dX6_isInLabel_42 : decode cX6_isInLabel 42 = .ok (.iload 4, 2) := by decide +kernel
theorem dX6_isInLabel_44 : decode cX6_isInLabel 44 = .ok (.iadd, 1) := by decide +kernel
theorem dX6_isInLabel_45 : decode cX6_isInLabel 45 = .ok (.baload, 1) := by decide +kernel
theorem dX6_isInLabel_46 : decode cX6_isInLabel 46 = .ok (.ifCond .eq 7, 3) := by decide +kernel
theorem dX6_isInLabel_49 : decode cX6_isInLabel 49 = .ok (.iconst 1, 1) := by decide +kernel
theorem dX6_isInLabel_50 : decode cX6_isInLabel 50 = .ok (.goto 4, 3) := by decide +kernel
theorem dX6_isInLabel_53 : decode cX6_isInLabel 53 = .ok (.iconst 0, 1) := by decide +kernel
theorem dX6_isInLabel_54 : decode cX6_isInLabel 54 = .ok (.istore_n 3, 1) := by decide +kernel
theorem dX6_isInLabel_55 : decode cX6_isInLabel 55 = .ok (.iinc 4 1, 3) := by decide +kernel
theorem dX6_isInLabel_58 : decode cX6_isInLabel 58 = .ok (.goto (-53), 3) := by decide +kernel
theorem dX6_isInLabel_61 : decode cX6_isInLabel 61 = .ok (.iload_n 3, 1) := by decide +kernel
theorem dX6_isInLabel_62 : decode cX6_isInLabel 62 = .ok (.ireturn, 1) := by decide +kernel
theorem dX6_copyLabel_0 : decode cX6_copyLabel 0 = .ok (.iconst 0, 1) := by decide +kernel
theorem dX6_copyLabel_1 : decode cX6_copyLabel 1 = .ok (.istore_n 3, 1) := by decide +kernel
theorem dX6_copyLabel_2 : decode cX6_copyLabel 2 = .ok (.iload_n 3, 1) := by decide +kernel
theorem dX6_copyLabel_3 : decode cX6_copyLabel 3 = .ok (.sipush 256, 3) := by decide +kernel
theorem dX6_copyLabel_6 : decode cX6_copyLabel 6 = .ok (.if_icmp .ge 33, 3) := by decide +kernel
theorem dX6_copyLabel_9 : decode cX6_copyLabel 9 = .ok (.aload_n 0, 1) := by decide +kernel
theorem dX6_copyLabel_10 : decode cX6_copyLabel 10 = .ok (.getfield 29, 3) := by decide +kernel
theorem dX6_copyLabel_13 : decode cX6_copyLabel 13 = .ok (.sipush 256, 3) := by decide +kernel
theorem dX6_copyLabel_16 : decode cX6_copyLabel 16 = .ok (.iload_n 2, 1) := by decide +kernel
theorem dX6_copyLabel_17 : decode cX6_copyLabel 17 = .ok (.imul, 1) := by decide +kernel
theorem dX6_copyLabel_18 : decode cX6_copyLabel 18 = .ok (.iload_n 3, 1) := by decide +kernel
theorem dX6_copyLabel_19 : decode cX6_copyLabel 19 = .ok (.iadd, 1) := by decide +kernel
theorem dX6_copyLabel_20 : decode cX6_copyLabel 20 = .ok (.aload_n 0, 1) := by decide +kernel
theorem dX6_copyLabel_21 : decode cX6_copyLabel 21 = .ok (.getfield 29, 3) := by decide +kernel
theorem dX6_copyLabel_24 : decode cX6_copyLabel 24 = .ok (.sipush 256, 3) := by decide +kernel
theorem dX6_copyLabel_27 : decode cX6_copyLabel 27 = .ok (.iload_n 1, 1) := by decide +kernel
theorem dX6_copyLabel_28 : decode cX6_copyLabel 28 = .ok (.imul, 1) := by decide +kernel
theorem dX6_copyLabel_29 : decode cX6_copyLabel 29 = .ok (.iload_n 3, 1) := by decide +kernel
theorem dX6_copyLabel_30 : decode cX6_copyLabel 30 = .ok (.iadd, 1) := by decide +kernel
theorem dX6_copyLabel_31 : decode cX6_copyLabel 31 = .ok (.baload, 1) := by decide +kernel
theorem dX6_copyLabel_32 : decode cX6_copyLabel 32 = .ok (.bastore, 1) := by decide +kernel
theorem dX6_copyLabel_33 : decode cX6_copyLabel 33 = .ok (.iinc 3 1, 3) := by decide +kernel
theorem dX6_copyLabel_36 : decode cX6_copyLabel 36 = .ok (.goto (-34), 3) := by decide +kernel
theorem dX6_copyLabel_39 : decode cX6_copyLabel 39 = .ok (.return_, 1) := by decide +kernel
theorem dX6_at_0 : decode cX6_at 0 = .ok (.sipush 256, 3) := by decide +kernel
theorem dX6_at_3 : decode cX6_at 3 = .ok (.bipush 8, 2) := by decide +kernel
theorem dX6_at_5 : decode cX6_at 5 = .ok (.iload_n 2, 1) := by decide +kernel
theorem dX6_at_6 : decode cX6_at 6 = .ok (.imul, 1) := by decide +kernel
theorem dX6_at_7 : decode cX6_at 7 = .ok (.iload_n 1, 1) := by decide +kernel
theorem dX6_at_8 : decode cX6_at 8 = .ok (.iadd, 1) := by decide +kernel
theorem dX6_at_9 : decode cX6_at 9 = .ok (.imul, 1) := by decide +kernel
theorem dX6_at_10 : decode cX6_at 10 = .ok (.iload_n 3, 1) := by decide +kernel
theorem dX6_at_11 : decode cX6_at 11 = .ok (.iadd, 1) := by decide +kernel
theorem dX6_at_12 : decode cX6_at 12 = .ok (.ireturn, 1) := by decide +kernel
theorem dX6_capabilities_0 : decode cX6_capabilities 0 = .ok (.iconst 0, 1) := by decide +kernel
theorem dX6_capabilities_1 : decode cX6_capabilities 1 = .ok (.istore_n 3, 1) := by decide +kernel
theorem dX6_capabilities_2 : decode cX6_capabilities 2 = .ok (.iconst 0, 1) := by decide +kernel
theorem dX6_capabilities_3 : decode cX6_capabilities 3 = .ok (.istore 4, 2) := by decide +kernel
theorem dX6_capabilities_5 : decode cX6_capabilities 5 = .ok (.iload 4, 2) := by decide +kernel
theorem dX6_capabilities_7 : decode cX6_capabilities 7 = .ok (.sipush 256, 3) := by decide +kernel
theorem dX6_capabilities_10 : decode cX6_capabilities 10 = .ok (.if_icmp .ge 33, 3) := by decide +kernel
theorem dX6_capabilities_13 : decode cX6_capabilities 13 = .ok (.iload_n 3, 1) := by decide +kernel
theorem dX6_capabilities_14 : decode cX6_capabilities 14 = .ok (.aload_n 0, 1) := by decide +kernel
theorem dX6_capabilities_15 : decode cX6_capabilities 15 = .ok (.getfield 33, 3) := by decide +kernel
theorem dX6_capabilities_18 : decode cX6_capabilities 18 = .ok (.aload_n 0, 1) := by decide +kernel
theorem dX6_capabilities_19 : decode cX6_capabilities 19 = .ok (.iload_n 1, 1) := by decide +kernel
theorem dX6_capabilities_20 : decode cX6_capabilities 20 = .ok (.iload_n 2, 1) := by decide +kernel
theorem dX6_capabilities_21 : decode cX6_capabilities 21 = .ok (.iload 4, 2) := by decide +kernel
theorem dX6_capabilities_23 : decode cX6_capabilities 23 = .ok (.invokevirtual 67, 3) := by decide +kernel
theorem dX6_capabilities_26 : decode cX6_capabilities 26 = .ok (.baload, 1) := by decide +kernel
theorem dX6_capabilities_27 : decode cX6_capabilities 27 = .ok (.ifCond .eq 7, 3) := by decide +kernel
theorem dX6_capabilities_30 : decode cX6_capabilities 30 = .ok (.iconst 1, 1) := by decide +kernel
theorem dX6_capabilities_31 : decode cX6_capabilities 31 = .ok (.goto 4, 3) := by decide +kernel
theorem dX6_capabilities_34 : decode cX6_capabilities 34 = .ok (.iconst 0, 1) := by decide +kernel
theorem dX6_capabilities_35 : decode cX6_capabilities 35 = .ok (.iadd, 1) := by decide +kernel
theorem dX6_capabilities_36 : decode cX6_capabilities 36 = .ok (.istore_n 3, 1) := by decide +kernel
theorem dX6_capabilities_37 : decode cX6_capabilities 37 = .ok (.iinc 4 1, 3) := by decide +kernel
theorem dX6_capabilities_40 : decode cX6_capabilities 40 = .ok (.goto (-35), 3) := by decide +kernel
theorem dX6_capabilities_43 : decode cX6_capabilities 43 = .ok (.iload_n 3, 1) := by decide +kernel
theorem dX6_capabilities_44 : decode cX6_capabilities 44 = .ok (.ireturn, 1) := by decide +kernel
theorem dX6_comes_0 : decode cX6_comes 0 = .ok (.bipush 8, 2) := by decide +kernel
theorem dX6_comes_2 : decode cX6_comes 2 = .ok (.iload_n 2, 1) := by decide +kernel
theorem dX6_comes_3 : decode cX6_comes 3 = .ok (.imul, 1) := by decide +kernel
theorem dX6_comes_4 : decode cX6_comes 4 = .ok (.aload_n 0, 1) := by decide +kernel
theorem dX6_comes_5 : decode cX6_comes 5 = .ok (.getfield 42, 3) := by decide +kernel
theorem dX6_comes_8 : decode cX6_comes 8 = .ok (.iload_n 2, 1) := by decide +kernel
theorem dX6_comes_9 : decode cX6_comes 9 = .ok (.iaload, 1) := by decide +kernel
theorem dX6_comes_10 : decode cX6_comes 10 = .ok (.iadd, 1) := by decide +kernel
theorem dX6_comes_11 : decode cX6_comes 11 = .ok (.istore 5, 2) := by decide +kernel
theorem dX6_comes_13 : decode cX6_comes 13 = .ok (.aload_n 0, 1) := by decide +kernel
theorem dX6_comes_14 : decode cX6_comes 14 = .ok (.iload_n 1, 1) := by decide +kernel
theorem dX6_comes_15 : decode cX6_comes 15 = .ok (.bipush 72, 2) := by decide +kernel
theorem dX6_comes_17 : decode cX6_comes 17 = .ok (.iload 5, 2) := by decide +kernel
theorem dX6_comes_19 : decode cX6_comes 19 = .ok (.iadd, 1) := by decide +kernel
theorem dX6_comes_20 : decode cX6_comes 20 = .ok (.invokevirtual 71, 3) := by decide +kernel
theorem dX6_comes_23 : decode cX6_comes 23 = .ok (.aload_n 0, 1) := by decide +kernel
theorem dX6_comes_24 : decode cX6_comes 24 = .ok (.getfield 45, 3) := by decide +kernel
theorem dX6_comes_27 : decode cX6_comes 27 = .ok (.iload 5, 2) := by decide +kernel
theorem dX6_comes_29 : decode cX6_comes 29 = .ok (.iload_n 3, 1) := by decide +kernel
theorem dX6_comes_30 : decode cX6_comes 30 = .ok (.iastore, 1) := by decide +kernel
theorem dX6_comes_31 : decode cX6_comes 31 = .ok (.aload_n 0, 1) := by decide +kernel
theorem dX6_comes_32 : decode cX6_comes 32 = .ok (.getfield 48, 3) := by decide +kernel
theorem dX6_comes_35 : decode cX6_comes 35 = .ok (.iload 5, 2) := by decide +kernel
theorem dX6_comes_37 : decode cX6_comes 37 = .ok (.iload_n 1, 1) := by decide +kernel
theorem dX6_comes_38 : decode cX6_comes 38 = .ok (.iastore, 1) := by decide +kernel
theorem dX6_comes_39 : decode cX6_comes 39 = .ok (.aload_n 0, 1) := by decide +kernel
theorem dX6_comes_40 : decode cX6_comes 40 = .ok (.getfield 51, 3) := by decide +kernel
theorem dX6_comes_43 : decode cX6_comes 43 = .ok (.iload 5, 2) := by decide +kernel
theorem dX6_comes_45 : decode cX6_comes 45 = .ok (.iload 4, 2) := by decide +kernel
theorem dX6_comes_47 : decode cX6_comes 47 = .ok (.iastore, 1) := by decide +kernel
theorem dX6_comes_48 : decode cX6_comes 48 = .ok (.aload_n 0, 1) := by decide +kernel
theorem dX6_comes_49 : decode cX6_comes 49 = .ok (.getfield 42, 3) := by decide +kernel
theorem dX6_comes_52 : decode cX6_comes 52 = .ok (.iload_n 2, 1) := by decide +kernel
theorem dX6_comes_53 : decode cX6_comes 53 = .ok (.dup2, 1) := by decide +kernel
theorem dX6_comes_54 : decode cX6_comes 54 = .ok (.iaload, 1) := by decide +kernel
theorem dX6_comes_55 : decode cX6_comes 55 = .ok (.iconst 1, 1) := by decide +kernel
theorem dX6_comes_56 : decode cX6_comes 56 = .ok (.iadd, 1) := by decide +kernel
theorem dX6_comes_57 : decode cX6_comes 57 = .ok (.iastore, 1) := by decide +kernel
theorem dX6_comes_58 : decode cX6_comes 58 = .ok (.return_, 1) := by decide +kernel
theorem dX6_sends_0 : decode cX6_sends 0 = .ok (.iload_n 2, 1) := by decide +kernel
theorem dX6_sends_1 : decode cX6_sends 1 = .ok (.invokestatic 75, 3) := by decide +kernel
theorem dX6_sends_4 : decode cX6_sends 4 = .ok (.ifCond .eq 32, 3) := by decide +kernel
theorem dX6_sends_7 : decode cX6_sends 7 = .ok (.aload_n 0, 1) := by decide +kernel
theorem dX6_sends_8 : decode cX6_sends 8 = .ok (.getfield 42, 3) := by decide +kernel
theorem dX6_sends_11 : decode cX6_sends 11 = .ok (.iload_n 2, 1) := by decide +kernel
theorem dX6_sends_12 : decode cX6_sends 12 = .ok (.iaload, 1) := by decide +kernel
theorem dX6_sends_13 : decode cX6_sends 13 = .ok (.bipush 8, 2) := by decide +kernel
theorem dX6_sends_15 : decode cX6_sends 15 = .ok (.if_icmp .ge 21, 3) := by decide +kernel
theorem dX6_sends_18 : decode cX6_sends 18 = .ok (.aload_n 0, 1) := by decide +kernel
theorem dX6_sends_19 : decode cX6_sends 19 = .ok (.iload_n 1, 1) := by decide +kernel
theorem dX6_sends_20 : decode cX6_sends 20 = .ok (.iload_n 2, 1) := by decide +kernel
theorem dX6_sends_21 : decode cX6_sends 21 = .ok (.invokevirtual 79, 3) := by decide +kernel
theorem dX6_sends_24 : decode cX6_sends 24 = .ok (.ifCond .eq 12, 3) := by decide +kernel
theorem dX6_sends_27 : decode cX6_sends 27 = .ok (.aload_n 0, 1) := by decide +kernel
theorem dX6_sends_28 : decode cX6_sends 28 = .ok (.iload_n 1, 1) := by decide +kernel
theorem dX6_sends_29 : decode cX6_sends 29 = .ok (.iload_n 2, 1) := by decide +kernel
theorem dX6_sends_30 : decode cX6_sends 30 = .ok (.iload_n 3, 1) := by decide +kernel
theorem dX6_sends_31 : decode cX6_sends 31 = .ok (.iload 4, 2) := by decide +kernel
theorem dX6_sends_33 : decode cX6_sends 33 = .ok (.invokevirtual 83, 3) := by decide +kernel
theorem dX6_sends_36 : decode cX6_sends 36 = .ok (.return_, 1) := by decide +kernel
theorem dX6_dropFirst_0 : decode cX6_dropFirst 0 = .ok (.aload_n 0, 1) := by decide +kernel
theorem dX6_dropFirst_1 : decode cX6_dropFirst 1 = .ok (.getfield 42, 3) := by decide +kernel
theorem dX6_dropFirst_4 : decode cX6_dropFirst 4 = .ok (.iload_n 1, 1) := by decide +kernel
theorem dX6_dropFirst_5 : decode cX6_dropFirst 5 = .ok (.dup2, 1) := by decide +kernel
theorem dX6_dropFirst_6 : decode cX6_dropFirst 6 = .ok (.iaload, 1) := by decide +kernel
theorem dX6_dropFirst_7 : decode cX6_dropFirst 7 = .ok (.iconst 1, 1) := by decide +kernel
theorem dX6_dropFirst_8 : decode cX6_dropFirst 8 = .ok (.isub, 1) := by decide +kernel
theorem dX6_dropFirst_9 : decode cX6_dropFirst 9 = .ok (.iastore, 1) := by decide +kernel
theorem dX6_dropFirst_10 : decode cX6_dropFirst 10 = .ok (.bipush 8, 2) := by decide +kernel
theorem dX6_dropFirst_12 : decode cX6_dropFirst 12 = .ok (.iload_n 1, 1) := by decide +kernel
theorem dX6_dropFirst_13 : decode cX6_dropFirst 13 = .ok (.imul, 1) := by decide +kernel
theorem dX6_dropFirst_14 : decode cX6_dropFirst 14 = .ok (.istore_n 2, 1) := by decide +kernel
theorem dX6_dropFirst_15 : decode cX6_dropFirst 15 = .ok (.iload_n 2, 1) := by decide +kernel
theorem dX6_dropFirst_16 : decode cX6_dropFirst 16 = .ok (.bipush 8, 2) := by decide +kernel
theorem dX6_dropFirst_18 : decode cX6_dropFirst 18 = .ok (.iload_n 1, 1) := by decide +kernel
theorem dX6_dropFirst_19 : decode cX6_dropFirst 19 = .ok (.imul, 1) := by decide +kernel
theorem dX6_dropFirst_20 : decode cX6_dropFirst 20 = .ok (.aload_n 0, 1) := by decide +kernel
theorem dX6_dropFirst_21 : decode cX6_dropFirst 21 = .ok (.getfield 42, 3) := by decide +kernel
theorem dX6_dropFirst_24 : decode cX6_dropFirst 24 = .ok (.iload_n 1, 1) := by decide +kernel
theorem dX6_dropFirst_25 : decode cX6_dropFirst 25 = .ok (.iaload, 1) := by decide +kernel
theorem dX6_dropFirst_26 : decode cX6_dropFirst 26 = .ok (.iadd, 1) := by decide +kernel
theorem dX6_dropFirst_27 : decode cX6_dropFirst 27 = .ok (.if_icmp .ge 65, 3) := by decide +kernel
theorem dX6_dropFirst_30 : decode cX6_dropFirst 30 = .ok (.aload_n 0, 1) := by decide +kernel
theorem dX6_dropFirst_31 : decode cX6_dropFirst 31 = .ok (.bipush 72, 2) := by decide +kernel
theorem dX6_dropFirst_33 : decode cX6_dropFirst 33 = .ok (.iload_n 2, 1) := by decide +kernel
theorem dX6_dropFirst_34 : decode cX6_dropFirst 34 = .ok (.iadd, 1) := by decide +kernel
theorem dX6_dropFirst_35 : decode cX6_dropFirst 35 = .ok (.iconst 1, 1) := by decide +kernel
theorem dX6_dropFirst_36 : decode cX6_dropFirst 36 = .ok (.iadd, 1) := by decide +kernel
theorem dX6_dropFirst_37 : decode cX6_dropFirst 37 = .ok (.bipush 72, 2) := by decide +kernel
theorem dX6_dropFirst_39 : decode cX6_dropFirst 39 = .ok (.iload_n 2, 1) := by decide +kernel
theorem dX6_dropFirst_40 : decode cX6_dropFirst 40 = .ok (.iadd, 1) := by decide +kernel
theorem dX6_dropFirst_41 : decode cX6_dropFirst 41 = .ok (.invokevirtual 71, 3) := by decide +kernel
theorem dX6_dropFirst_44 : decode cX6_dropFirst 44 = .ok (.aload_n 0, 1) := by decide +kernel
theorem dX6_dropFirst_45 : decode cX6_dropFirst 45 = .ok (.getfield 45, 3) := by decide +kernel
theorem dX6_dropFirst_48 : decode cX6_dropFirst 48 = .ok (.iload_n 2, 1) := by decide +kernel
theorem dX6_dropFirst_49 : decode cX6_dropFirst 49 = .ok (.aload_n 0, 1) := by decide +kernel
theorem dX6_dropFirst_50 : decode cX6_dropFirst 50 = .ok (.getfield 45, 3) := by decide +kernel
theorem dX6_dropFirst_53 : decode cX6_dropFirst 53 = .ok (.iload_n 2, 1) := by decide +kernel
theorem dX6_dropFirst_54 : decode cX6_dropFirst 54 = .ok (.iconst 1, 1) := by decide +kernel
theorem dX6_dropFirst_55 : decode cX6_dropFirst 55 = .ok (.iadd, 1) := by decide +kernel
theorem dX6_dropFirst_56 : decode cX6_dropFirst 56 = .ok (.iaload, 1) := by decide +kernel
theorem dX6_dropFirst_57 : decode cX6_dropFirst 57 = .ok (.iastore, 1) := by decide +kernel
theorem dX6_dropFirst_58 : decode cX6_dropFirst 58 = .ok (.aload_n 0, 1) := by decide +kernel
theorem dX6_dropFirst_59 : decode cX6_dropFirst 59 = .ok (.getfield 48, 3) := by decide +kernel
theorem dX6_dropFirst_62 : decode cX6_dropFirst 62 = .ok (.iload_n 2, 1) := by decide +kernel
theorem dX6_dropFirst_63 : decode cX6_dropFirst 63 = .ok (.aload_n 0, 1) := by decide +kernel
theorem dX6_dropFirst_64 : decode cX6_dropFirst 64 = .ok (.getfield 48, 3) := by decide +kernel
theorem dX6_dropFirst_67 : decode cX6_dropFirst 67 = .ok (.iload_n 2, 1) := by decide +kernel
theorem dX6_dropFirst_68 : decode cX6_dropFirst 68 = .ok (.iconst 1, 1) := by decide +kernel
theorem dX6_dropFirst_69 : decode cX6_dropFirst 69 = .ok (.iadd, 1) := by decide +kernel
theorem dX6_dropFirst_70 : decode cX6_dropFirst 70 = .ok (.iaload, 1) := by decide +kernel
theorem dX6_dropFirst_71 : decode cX6_dropFirst 71 = .ok (.iastore, 1) := by decide +kernel
theorem dX6_dropFirst_72 : decode cX6_dropFirst 72 = .ok (.aload_n 0, 1) := by decide +kernel
theorem dX6_dropFirst_73 : decode cX6_dropFirst 73 = .ok (.getfield 51, 3) := by decide +kernel
theorem dX6_dropFirst_76 : decode cX6_dropFirst 76 = .ok (.iload_n 2, 1) := by decide +kernel
theorem dX6_dropFirst_77 : decode cX6_dropFirst 77 = .ok (.aload_n 0, 1) := by decide +kernel
theorem dX6_dropFirst_78 : decode cX6_dropFirst 78 = .ok (.getfield 51, 3) := by decide +kernel
theorem dX6_dropFirst_81 : decode cX6_dropFirst 81 = .ok (.iload_n 2, 1) := by decide +kernel
theorem dX6_dropFirst_82 : decode cX6_dropFirst 82 = .ok (.iconst 1, 1) := by decide +kernel
theorem dX6_dropFirst_83 : decode cX6_dropFirst 83 = .ok (.iadd, 1) := by decide +kernel
theorem dX6_dropFirst_84 : decode cX6_dropFirst 84 = .ok (.iaload, 1) := by decide +kernel
theorem dX6_dropFirst_85 : decode cX6_dropFirst 85 = .ok (.iastore, 1) := by decide +kernel
theorem dX6_dropFirst_86 : decode cX6_dropFirst 86 = .ok (.iinc 2 1, 3) := by decide +kernel
theorem dX6_dropFirst_89 : decode cX6_dropFirst 89 = .ok (.goto (-74), 3) := by decide +kernel
theorem dX6_dropFirst_92 : decode cX6_dropFirst 92 = .ok (.return_, 1) := by decide +kernel
theorem dX6_traps_0 : decode cX6_traps 0 = .ok (.aload_n 0, 1) := by decide +kernel
theorem dX6_traps_1 : decode cX6_traps 1 = .ok (.getfield 19, 3) := by decide +kernel
theorem dX6_traps_4 : decode cX6_traps 4 = .ok (.iload_n 1, 1) := by decide +kernel
theorem dX6_traps_5 : decode cX6_traps 5 = .ok (.iconst 3, 1) := by decide +kernel
theorem dX6_traps_6 : decode cX6_traps 6 = .ok (.iastore, 1) := by decide +kernel
theorem dX6_traps_7 : decode cX6_traps 7 = .ok (.aload_n 0, 1) := by decide +kernel
theorem dX6_traps_8 : decode cX6_traps 8 = .ok (.getfield 22, 3) := by decide +kernel
theorem dX6_traps_11 : decode cX6_traps 11 = .ok (.iload_n 1, 1) := by decide +kernel
theorem dX6_traps_12 : decode cX6_traps 12 = .ok (.iload_n 2, 1) := by decide +kernel
theorem dX6_traps_13 : decode cX6_traps 13 = .ok (.iastore, 1) := by decide +kernel
theorem dX6_traps_14 : decode cX6_traps 14 = .ok (.return_, 1) := by decide +kernel
theorem dX6_turn_0 : decode cX6_turn 0 = .ok (.aload_n 0, 1) := by decide +kernel
theorem dX6_turn_1 : decode cX6_turn 1 = .ok (.getfield 19, 3) := by decide +kernel
theorem dX6_turn_4 : decode cX6_turn 4 = .ok (.iload_n 1, 1) := by decide +kernel
theorem dX6_turn_5 : decode cX6_turn 5 = .ok (.iaload, 1) := by decide +kernel
theorem dX6_turn_6 : decode cX6_turn 6 = .ok (.iconst 1, 1) := by decide +kernel
theorem dX6_turn_7 : decode cX6_turn 7 = .ok (.if_icmp .eq 4, 3) := by decide +kernel
theorem dX6_turn_10 : decode cX6_turn 10 = .ok (.return_, 1) := by decide +kernel
theorem dX6_turn_11 : decode cX6_turn 11 = .ok (.aload_n 0, 1) := by decide +kernel
theorem dX6_turn_12 : decode cX6_turn 12 = .ok (.getfield 16, 3) := by decide +kernel
theorem dX6_turn_15 : decode cX6_turn 15 = .ok (.iload_n 1, 1) := by decide +kernel
theorem dX6_turn_16 : decode cX6_turn 16 = .ok (.iaload, 1) := by decide +kernel
theorem dX6_turn_17 : decode cX6_turn 17 = .ok (.invokestatic 87, 3) := by decide +kernel
theorem dX6_turn_20 : decode cX6_turn 20 = .ok (.ifCond .ne 10, 3) := by decide +kernel
theorem dX6_turn_23 : decode cX6_turn 23 = .ok (.aload_n 0, 1) := by decide +kernel
theorem dX6_turn_24 : decode cX6_turn 24 = .ok (.iload_n 1, 1) := by decide +kernel
theorem dX6_turn_25 : decode cX6_turn 25 = .ok (.iconst 2, 1) := by decide +kernel
theorem dX6_turn_26 : decode cX6_turn 26 = .ok (.invokevirtual 90, 3) := by decide +kernel
theorem dX6_turn_29 : decode cX6_turn 29 = .ok (.return_, 1) := by decide +kernel
theorem dX6_turn_30 : decode cX6_turn 30 = .ok (.aload_n 0, 1) := by decide +kernel
theorem dX6_turn_31 : decode cX6_turn 31 = .ok (.getfield 9, 3) := by decide +kernel
theorem dX6_turn_34 : decode cX6_turn 34 = .ok (.sipush 128, 3) := by decide +kernel
theorem dX6_turn_37 : decode cX6_turn 37 = .ok (.iload_n 1, 1) := by decide +kernel
theorem dX6_turn_38 : decode cX6_turn 38 = .ok (.imul, 1) := by decide +kernel
theorem dX6_turn_39 : decode cX6_turn 39 = .ok (.aload_n 0, 1) := by decide +kernel
theorem dX6_turn_40 : decode cX6_turn 40 = .ok (.getfield 16, 3) := by decide +kernel
theorem dX6_turn_43 : decode cX6_turn 43 = .ok (.iload_n 1, 1) := by decide +kernel
theorem dX6_turn_44 : decode cX6_turn 44 = .ok (.iaload, 1) := by decide +kernel
theorem dX6_turn_45 : decode cX6_turn 45 = .ok (.iadd, 1) := by decide +kernel
theorem dX6_turn_46 : decode cX6_turn 46 = .ok (.iaload, 1) := by decide +kernel
theorem dX6_turn_47 : decode cX6_turn 47 = .ok (.istore_n 2, 1) := by decide +kernel
theorem dX6_turn_48 : decode cX6_turn 48 = .ok (.iload_n 2, 1) := by decide +kernel
theorem dX6_turn_49 : decode cX6_turn 49 = .ok (.bipush 32, 2) := by decide +kernel
theorem dX6_turn_51 : decode cX6_turn 51 = .ok (.irem, 1) := by decide +kernel
theorem dX6_turn_52 : decode cX6_turn 52 = .ok (.bipush 32, 2) := by decide +kernel
theorem dX6_turn_54 : decode cX6_turn 54 = .ok (.iadd, 1) := by decide +kernel
theorem dX6_turn_55 : decode cX6_turn 55 = .ok (.bipush 32, 2) := by decide +kernel
theorem dX6_turn_57 : decode cX6_turn 57 = .ok (.irem, 1) := by decide +kernel
theorem dX6_turn_58 : decode cX6_turn 58 = .ok (.istore_n 3, 1) := by decide +kernel
theorem dX6_turn_59 : decode cX6_turn 59 = .ok (.iload_n 2, 1) := by decide +kernel
theorem dX6_turn_60 : decode cX6_turn 60 = .ok (.iconst 5, 1) := by decide +kernel
theorem dX6_turn_61 : decode cX6_turn 61 = .ok (.ishr, 1) := by decide +kernel
theorem dX6_turn_62 : decode cX6_turn 62 = .ok (.istore 4, 2) := by decide +kernel
theorem dX6_turn_64 : decode cX6_turn 64 = .ok (.aload_n 0, 1) := by decide +kernel
theorem dX6_turn_65 : decode cX6_turn 65 = .ok (.getfield 16, 3) := by decide +kernel
theorem dX6_turn_68 : decode cX6_turn 68 = .ok (.iload_n 1, 1) := by decide +kernel
theorem dX6_turn_69 : decode cX6_turn 69 = .ok (.dup2, 1) := by decide +kernel
theorem dX6_turn_70 : decode cX6_turn 70 = .ok (.iaload, 1) := by decide +kernel
theorem dX6_turn_71 : decode cX6_turn 71 = .ok (.iconst 1, 1) := by decide +kernel
theorem dX6_turn_72 : decode cX6_turn 72 = .ok (.iadd, 1) := by decide +kernel
theorem dX6_turn_73 : decode cX6_turn 73 = .ok (.iastore, 1) := by decide +kernel
theorem dX6_turn_74 : decode cX6_turn 74 = .ok (.iload_n 3, 1) := by decide +kernel
theorem dX6_turn_75 : decode cX6_turn 75 = .ok (.ifCond .ne 13, 3) := by decide +kernel
theorem dX6_turn_78 : decode cX6_turn 78 = .ok (.aload_n 0, 1) := by decide +kernel
theorem dX6_turn_79 : decode cX6_turn 79 = .ok (.getfield 19, 3) := by decide +kernel
theorem dX6_turn_82 : decode cX6_turn 82 = .ok (.iload_n 1, 1) := by decide +kernel
theorem dX6_turn_83 : decode cX6_turn 83 = .ok (.iconst 2, 1) := by decide +kernel
theorem dX6_turn_84 : decode cX6_turn 84 = .ok (.iastore, 1) := by decide +kernel
theorem dX6_turn_85 : decode cX6_turn 85 = .ok (.goto 140, 3) := by decide +kernel
theorem dX6_turn_88 : decode cX6_turn 88 = .ok (.iload_n 3, 1) := by decide +kernel
theorem dX6_turn_89 : decode cX6_turn 89 = .ok (.iconst 3, 1) := by decide +kernel
theorem dX6_turn_90 : decode cX6_turn 90 = .ok (.if_icmp .ne 14, 3) := by decide +kernel
theorem dX6_turn_93 : decode cX6_turn 93 = .ok (.aload_n 0, 1) := by decide +kernel
theorem dX6_turn_94 : decode cX6_turn 94 = .ok (.getfield 13, 3) := by decide +kernel
theorem dX6_turn_97 : decode cX6_turn 97 = .ok (.iload_n 1, 1) := by decide +kernel
theorem dX6_turn_98 : decode cX6_turn 98 = .ok (.iload 4, 2) := by decide +kernel
theorem dX6_turn_100 : decode cX6_turn 100 = .ok (.iastore, 1) := by decide +kernel
theorem dX6_turn_101 : decode cX6_turn 101 = .ok (.goto 124, 3) := by decide +kernel
theorem dX6_turn_104 : decode cX6_turn 104 = .ok (.iload_n 3, 1) := by decide +kernel
theorem dX6_turn_105 : decode cX6_turn 105 = .ok (.bipush 13, 2) := by decide +kernel
theorem dX6_turn_107 : decode cX6_turn 107 = .ok (.if_icmp .lt 56, 3) := by decide +kernel
theorem dX6_turn_110 : decode cX6_turn 110 = .ok (.iload_n 3, 1) := by decide +kernel
theorem dX6_turn_111 : decode cX6_turn 111 = .ok (.bipush 15, 2) := by decide +kernel
theorem dX6_turn_113 : decode cX6_turn 113 = .ok (.if_icmp .gt 50, 3) := by decide +kernel
theorem dX6_turn_116 : decode cX6_turn 116 = .ok (.iload_n 3, 1) := by decide +kernel
theorem dX6_turn_117 : decode cX6_turn 117 = .ok (.bipush 13, 2) := by decide +kernel
theorem dX6_turn_119 : decode cX6_turn 119 = .ok (.if_icmp .eq 33, 3) := by decide +kernel
theorem dX6_turn_122 : decode cX6_turn 122 = .ok (.iload_n 3, 1) := by decide +kernel
theorem dX6_turn_123 : decode cX6_turn 123 = .ok (.bipush 14, 2) := by decide +kernel
theorem dX6_turn_125 : decode cX6_turn 125 = .ok (.if_icmp .ne 12, 3) := by decide +kernel
theorem dX6_turn_128 : decode cX6_turn 128 = .ok (.aload_n 0, 1) := by decide +kernel
theorem dX6_turn_129 : decode cX6_turn 129 = .ok (.getfield 13, 3) := by decide +kernel
theorem dX6_turn_132 : decode cX6_turn 132 = .ok (.iload_n 1, 1) := by decide +kernel
theorem dX6_turn_133 : decode cX6_turn 133 = .ok (.iaload, 1) := by decide +kernel
theorem dX6_turn_134 : decode cX6_turn 134 = .ok (.ifCond .eq 18, 3) := by decide +kernel
theorem dX6_turn_137 : decode cX6_turn 137 = .ok (.iload_n 3, 1) := by decide +kernel
theorem dX6_turn_138 : decode cX6_turn 138 = .ok (.bipush 15, 2) := by decide +kernel
theorem dX6_turn_140 : decode cX6_turn 140 = .ok (.if_icmp .ne 85, 3) := by decide +kernel
theorem dX6_turn_143 : decode cX6_turn 143 = .ok (.aload_n 0, 1) := by decide +kernel
theorem dX6_turn_144 : decode cX6_turn 144 = .ok (.getfield 13, 3) := by decide +kernel
theorem dX6_turn_147 : decode cX6_turn 147 = .ok (.iload_n 1, 1) := by decide +kernel
theorem dX6_turn_148 : decode cX6_turn 148 = .ok (.iaload, 1) := by decide +kernel
theorem dX6_turn_149 : decode cX6_turn 149 = .ok (.ifCond .ge 76, 3) := by decide +kernel
theorem dX6_turn_152 : decode cX6_turn 152 = .ok (.aload_n 0, 1) := by decide +kernel
theorem dX6_turn_153 : decode cX6_turn 153 = .ok (.getfield 16, 3) := by decide +kernel
theorem dX6_turn_156 : decode cX6_turn 156 = .ok (.iload_n 1, 1) := by decide +kernel
theorem dX6_turn_157 : decode cX6_turn 157 = .ok (.iload 4, 2) := by decide +kernel
theorem dX6_turn_159 : decode cX6_turn 159 = .ok (.iastore, 1) := by decide +kernel
theorem dX6_turn_160 : decode cX6_turn 160 = .ok (.goto 65, 3) := by decide +kernel
theorem dX6_turn_163 : decode cX6_turn 163 = .ok (.iload_n 3, 1) := by decide +kernel
theorem dX6_turn_164 : decode cX6_turn 164 = .ok (.bipush 16, 2) := by decide +kernel
theorem dX6_turn_166 : decode cX6_turn 166 = .ok (.if_icmp .ne 13, 3) := by decide +kernel
theorem dX6_turn_169 : decode cX6_turn 169 = .ok (.aload_n 0, 1) := by decide +kernel
theorem dX6_turn_170 : decode cX6_turn 170 = .ok (.iload_n 1, 1) := by decide +kernel
theorem dX6_turn_171 : decode cX6_turn 171 = .ok (.iload 4, 2) := by decide +kernel
theorem dX6_turn_173 : decode cX6_turn 173 = .ok (.invokevirtual 93, 3) := by decide +kernel
theorem dX6_turn_176 : decode cX6_turn 176 = .ok (.goto 49, 3) := by decide +kernel
theorem dX6_turn_179 : decode cX6_turn 179 = .ok (.iload_n 3, 1) := by decide +kernel
theorem dX6_turn_180 : decode cX6_turn 180 = .ok (.bipush 16, 2) := by decide +kernel
theorem dX6_turn_182 : decode cX6_turn 182 = .ok (.if_icmp .le 12, 3) := by decide +kernel
theorem dX6_turn_185 : decode cX6_turn 185 = .ok (.aload_n 0, 1) := by decide +kernel
theorem dX6_turn_186 : decode cX6_turn 186 = .ok (.iload_n 1, 1) := by decide +kernel
theorem dX6_turn_187 : decode cX6_turn 187 = .ok (.iconst 1, 1) := by decide +kernel
theorem dX6_turn_188 : decode cX6_turn 188 = .ok (.invokevirtual 90, 3) := by decide +kernel
theorem dX6_turn_191 : decode cX6_turn 191 = .ok (.goto 34, 3) := by decide +kernel
theorem dX6_turn_194 : decode cX6_turn 194 = .ok (.iload 4, 2) := by decide +kernel
theorem dX6_turn_196 : decode cX6_turn 196 = .ok (.invokestatic 87, 3) := by decide +kernel
theorem dX6_turn_199 : decode cX6_turn 199 = .ok (.ifCond .ne 12, 3) := by decide +kernel
theorem dX6_turn_202 : decode cX6_turn 202 = .ok (.aload_n 0, 1) := by decide +kernel
theorem dX6_turn_203 : decode cX6_turn 203 = .ok (.iload_n 1, 1) := by decide +kernel
theorem dX6_turn_204 : decode cX6_turn 204 = .ok (.iconst 2, 1) := by decide +kernel
theorem dX6_turn_205 : decode cX6_turn 205 = .ok (.invokevirtual 90, 3) := by decide +kernel
theorem dX6_turn_208 : decode cX6_turn 208 = .ok (.goto 17, 3) := by decide +kernel
theorem dX6_turn_211 : decode cX6_turn 211 = .ok (.aload_n 0, 1) := by decide +kernel
theorem dX6_turn_212 : decode cX6_turn 212 = .ok (.iload_n 1, 1) := by decide +kernel
theorem dX6_turn_213 : decode cX6_turn 213 = .ok (.iload_n 3, 1) := by decide +kernel
theorem dX6_turn_214 : decode cX6_turn 214 = .ok (.sipush 128, 3) := by decide +kernel
theorem dX6_turn_217 : decode cX6_turn 217 = .ok (.iload_n 1, 1) := by decide +kernel
theorem dX6_turn_218 : decode cX6_turn 218 = .ok (.imul, 1) := by decide +kernel
theorem dX6_turn_219 : decode cX6_turn 219 = .ok (.iload 4, 2) := by decide +kernel
theorem dX6_turn_221 : decode cX6_turn 221 = .ok (.iadd, 1) := by decide +kernel
theorem dX6_turn_222 : decode cX6_turn 222 = .ok (.invokevirtual 96, 3) := by decide +kernel
theorem dX6_turn_225 : decode cX6_turn 225 = .ok (.return_, 1) := by decide +kernel
theorem dX6_works_0 : decode cX6_works 0 = .ok (.aload_n 0, 1) := by decide +kernel
theorem dX6_works_1 : decode cX6_works 1 = .ok (.getfield 9, 3) := by decide +kernel
theorem dX6_works_4 : decode cX6_works 4 = .ok (.iload_n 3, 1) := by decide +kernel
theorem dX6_works_5 : decode cX6_works 5 = .ok (.iaload, 1) := by decide +kernel
theorem dX6_works_6 : decode cX6_works 6 = .ok (.istore 4, 2) := by decide +kernel
theorem dX6_works_8 : decode cX6_works 8 = .ok (.iload_n 2, 1) := by decide +kernel
theorem dX6_works_9 : decode cX6_works 9 = .ok (.iconst 4, 1) := by decide +kernel
theorem dX6_works_10 : decode cX6_works 10 = .ok (.if_icmp .eq 8, 3) := by decide +kernel
theorem dX6_works_13 : decode cX6_works 13 = .ok (.iload_n 2, 1) := by decide +kernel
theorem dX6_works_14 : decode cX6_works 14 = .ok (.iconst 5, 1) := by decide +kernel
theorem dX6_works_15 : decode cX6_works 15 = .ok (.if_icmp .ne 18, 3) := by decide +kernel
theorem dX6_works_18 : decode cX6_works 18 = .ok (.iload 4, 2) := by decide +kernel
theorem dX6_works_20 : decode cX6_works 20 = .ok (.invokestatic 87, 3) := by decide +kernel
theorem dX6_works_23 : decode cX6_works 23 = .ok (.ifCond .ne 10, 3) := by decide +kernel
theorem dX6_works_26 : decode cX6_works 26 = .ok (.aload_n 0, 1) := by decide +kernel
theorem dX6_works_27 : decode cX6_works 27 = .ok (.iload_n 1, 1) := by decide +kernel
theorem dX6_works_28 : decode cX6_works 28 = .ok (.iconst 2, 1) := by decide +kernel
theorem dX6_works_29 : decode cX6_works 29 = .ok (.invokevirtual 90, 3) := by decide +kernel
theorem dX6_works_32 : decode cX6_works 32 = .ok (.return_, 1) := by decide +kernel
theorem dX6_works_33 : decode cX6_works 33 = .ok (.iload_n 2, 1) := by decide +kernel
theorem dX6_works_34 : decode cX6_works 34 = .ok (.bipush 9, 2) := by decide +kernel
theorem dX6_works_36 : decode cX6_works 36 = .ok (.if_icmp .eq 9, 3) := by decide +kernel
theorem dX6_works_39 : decode cX6_works 39 = .ok (.iload_n 2, 1) := by decide +kernel
theorem dX6_works_40 : decode cX6_works 40 = .ok (.bipush 10, 2) := by decide +kernel
theorem dX6_works_42 : decode cX6_works 42 = .ok (.if_icmp .ne 15, 3) := by decide +kernel
theorem dX6_works_45 : decode cX6_works 45 = .ok (.iload 4, 2) := by decide +kernel
theorem dX6_works_47 : decode cX6_works 47 = .ok (.ifCond .ne 10, 3) := by decide +kernel
theorem dX6_works_50 : decode cX6_works 50 = .ok (.aload_n 0, 1) := by decide +kernel
theorem dX6_works_51 : decode cX6_works 51 = .ok (.iload_n 1, 1) := by decide +kernel
theorem dX6_works_52 : decode cX6_works 52 = .ok (.iconst 3, 1) := by decide +kernel
theorem dX6_works_53 : decode cX6_works 53 = .ok (.invokevirtual 90, 3) := by decide +kernel
theorem dX6_works_56 : decode cX6_works 56 = .ok (.return_, 1) := by decide +kernel
theorem dX6_works_57 : decode cX6_works 57 = .ok (.iload_n 2, 1) := by decide +kernel
theorem dX6_works_58 : decode cX6_works 58 = .ok (.tableswitch 212 1 11 #[58, 69, 212, 84, 106, 128, 142, 156, 170, 184, 198], 58) := by decide +kernel
theorem dX6_works_116 : decode cX6_works 116 = .ok (.aload_n 0, 1) := by decide +kernel
theorem dX6_works_117 : decode cX6_works 117 = .ok (.getfield 13, 3) := by decide +kernel
theorem dX6_works_120 : decode cX6_works 120 = .ok (.iload_n 1, 1) := by decide +kernel
theorem dX6_works_121 : decode cX6_works 121 = .ok (.iload 4, 2) := by decide +kernel
theorem dX6_works_123 : decode cX6_works 123 = .ok (.iastore, 1) := by decide +kernel
theorem dX6_works_124 : decode cX6_works 124 = .ok (.goto 157, 3) := by decide +kernel
theorem dX6_works_127 : decode cX6_works 127 = .ok (.aload_n 0, 1) := by decide +kernel
theorem dX6_works_128 : decode cX6_works 128 = .ok (.getfield 9, 3) := by decide +kernel
theorem dX6_works_131 : decode cX6_works 131 = .ok (.iload_n 3, 1) := by decide +kernel
theorem dX6_works_132 : decode cX6_works 132 = .ok (.aload_n 0, 1) := by decide +kernel
theorem dX6_works_133 : decode cX6_works 133 = .ok (.getfield 13, 3) := by decide +kernel
theorem dX6_works_136 : decode cX6_works 136 = .ok (.iload_n 1, 1) := by decide +kernel
theorem dX6_works_137 : decode cX6_works 137 = .ok (.iaload, 1) := by decide +kernel
theorem dX6_works_138 : decode cX6_works 138 = .ok (.iastore, 1) := by decide +kernel
theorem dX6_works_139 : decode cX6_works 139 = .ok (.goto 142, 3) := by decide +kernel
theorem dX6_works_142 : decode cX6_works 142 = .ok (.aload_n 0, 1) := by decide +kernel
theorem dX6_works_143 : decode cX6_works 143 = .ok (.getfield 13, 3) := by decide +kernel
theorem dX6_works_146 : decode cX6_works 146 = .ok (.iload_n 1, 1) := by decide +kernel
theorem dX6_works_147 : decode cX6_works 147 = .ok (.aload_n 0, 1) := by decide +kernel
theorem dX6_works_148 : decode cX6_works 148 = .ok (.getfield 9, 3) := by decide +kernel
theorem dX6_works_151 : decode cX6_works 151 = .ok (.sipush 128, 3) := by decide +kernel
theorem dX6_works_154 : decode cX6_works 154 = .ok (.iload_n 1, 1) := by decide +kernel
theorem dX6_works_155 : decode cX6_works 155 = .ok (.imul, 1) := by decide +kernel
theorem dX6_works_156 : decode cX6_works 156 = .ok (.iload 4, 2) := by decide +kernel
theorem dX6_works_158 : decode cX6_works 158 = .ok (.iadd, 1) := by decide +kernel
theorem dX6_works_159 : decode cX6_works 159 = .ok (.iaload, 1) := by decide +kernel
theorem dX6_works_160 : decode cX6_works 160 = .ok (.iastore, 1) := by decide +kernel
theorem dX6_works_161 : decode cX6_works 161 = .ok (.goto 120, 3) := by decide +kernel
theorem dX6_works_164 : decode cX6_works 164 = .ok (.aload_n 0, 1) := by decide +kernel
theorem dX6_works_165 : decode cX6_works 165 = .ok (.getfield 9, 3) := by decide +kernel
theorem dX6_works_168 : decode cX6_works 168 = .ok (.sipush 128, 3) := by decide +kernel
theorem dX6_works_171 : decode cX6_works 171 = .ok (.iload_n 1, 1) := by decide +kernel
theorem dX6_works_172 : decode cX6_works 172 = .ok (.imul, 1) := by decide +kernel
theorem dX6_works_173 : decode cX6_works 173 = .ok (.iload 4, 2) := by decide +kernel
theorem dX6_works_175 : decode cX6_works 175 = .ok (.iadd, 1) := by decide +kernel
theorem dX6_works_176 : decode cX6_works 176 = .ok (.aload_n 0, 1) := by decide +kernel
theorem dX6_works_177 : decode cX6_works 177 = .ok (.getfield 13, 3) := by decide +kernel
theorem dX6_works_180 : decode cX6_works 180 = .ok (.iload_n 1, 1) := by decide +kernel
theorem dX6_works_181 : decode cX6_works 181 = .ok (.iaload, 1) := by decide +kernel
theorem dX6_works_182 : decode cX6_works 182 = .ok (.iastore, 1) := by decide +kernel
theorem dX6_works_183 : decode cX6_works 183 = .ok (.goto 98, 3) := by decide +kernel
theorem dX6_works_186 : decode cX6_works 186 = .ok (.aload_n 0, 1) := by decide +kernel
theorem dX6_works_187 : decode cX6_works 187 = .ok (.getfield 13, 3) := by decide +kernel
theorem dX6_works_190 : decode cX6_works 190 = .ok (.iload_n 1, 1) := by decide +kernel
theorem dX6_works_191 : decode cX6_works 191 = .ok (.dup2, 1) := by decide +kernel
theorem dX6_works_192 : decode cX6_works 192 = .ok (.iaload, 1) := by decide +kernel
theorem dX6_works_193 : decode cX6_works 193 = .ok (.iload 4, 2) := by decide +kernel
theorem dX6_works_195 : decode cX6_works 195 = .ok (.iadd, 1) := by decide +kernel
theorem dX6_works_196 : decode cX6_works 196 = .ok (.iastore, 1) := by decide +kernel
theorem dX6_works_197 : decode cX6_works 197 = .ok (.goto 84, 3) := by decide +kernel
theorem dX6_works_200 : decode cX6_works 200 = .ok (.aload_n 0, 1) := by decide +kernel
theorem dX6_works_201 : decode cX6_works 201 = .ok (.getfield 13, 3) := by decide +kernel
theorem dX6_works_204 : decode cX6_works 204 = .ok (.iload_n 1, 1) := by decide +kernel
theorem dX6_works_205 : decode cX6_works 205 = .ok (.dup2, 1) := by decide +kernel
theorem dX6_works_206 : decode cX6_works 206 = .ok (.iaload, 1) := by decide +kernel
theorem dX6_works_207 : decode cX6_works 207 = .ok (.iload 4, 2) := by decide +kernel
theorem dX6_works_209 : decode cX6_works 209 = .ok (.isub, 1) := by decide +kernel
theorem dX6_works_210 : decode cX6_works 210 = .ok (.iastore, 1) := by decide +kernel
theorem dX6_works_211 : decode cX6_works 211 = .ok (.goto 70, 3) := by decide +kernel
theorem dX6_works_214 : decode cX6_works 214 = .ok (.aload_n 0, 1) := by decide +kernel
theorem dX6_works_215 : decode cX6_works 215 = .ok (.getfield 13, 3) := by decide +kernel
theorem dX6_works_218 : decode cX6_works 218 = .ok (.iload_n 1, 1) := by decide +kernel
theorem dX6_works_219 : decode cX6_works 219 = .ok (.dup2, 1) := by decide +kernel
theorem dX6_works_220 : decode cX6_works 220 = .ok (.iaload, 1) := by decide +kernel
theorem dX6_works_221 : decode cX6_works 221 = .ok (.iload 4, 2) := by decide +kernel
theorem dX6_works_223 : decode cX6_works 223 = .ok (.imul, 1) := by decide +kernel
theorem dX6_works_224 : decode cX6_works 224 = .ok (.iastore, 1) := by decide +kernel
theorem dX6_works_225 : decode cX6_works 225 = .ok (.goto 56, 3) := by decide +kernel
theorem dX6_works_228 : decode cX6_works 228 = .ok (.aload_n 0, 1) := by decide +kernel
theorem dX6_works_229 : decode cX6_works 229 = .ok (.getfield 13, 3) := by decide +kernel
theorem dX6_works_232 : decode cX6_works 232 = .ok (.iload_n 1, 1) := by decide +kernel
theorem dX6_works_233 : decode cX6_works 233 = .ok (.dup2, 1) := by decide +kernel
theorem dX6_works_234 : decode cX6_works 234 = .ok (.iaload, 1) := by decide +kernel
theorem dX6_works_235 : decode cX6_works 235 = .ok (.iload 4, 2) := by decide +kernel
theorem dX6_works_237 : decode cX6_works 237 = .ok (.idiv, 1) := by decide +kernel
theorem dX6_works_238 : decode cX6_works 238 = .ok (.iastore, 1) := by decide +kernel
theorem dX6_works_239 : decode cX6_works 239 = .ok (.goto 42, 3) := by decide +kernel
theorem dX6_works_242 : decode cX6_works 242 = .ok (.aload_n 0, 1) := by decide +kernel
theorem dX6_works_243 : decode cX6_works 243 = .ok (.getfield 13, 3) := by decide +kernel
theorem dX6_works_246 : decode cX6_works 246 = .ok (.iload_n 1, 1) := by decide +kernel
theorem dX6_works_247 : decode cX6_works 247 = .ok (.dup2, 1) := by decide +kernel
theorem dX6_works_248 : decode cX6_works 248 = .ok (.iaload, 1) := by decide +kernel
theorem dX6_works_249 : decode cX6_works 249 = .ok (.iload 4, 2) := by decide +kernel
theorem dX6_works_251 : decode cX6_works 251 = .ok (.irem, 1) := by decide +kernel
theorem dX6_works_252 : decode cX6_works 252 = .ok (.iastore, 1) := by decide +kernel
theorem dX6_works_253 : decode cX6_works 253 = .ok (.goto 28, 3) := by decide +kernel
theorem dX6_works_256 : decode cX6_works 256 = .ok (.aload_n 0, 1) := by decide +kernel
theorem dX6_works_257 : decode cX6_works 257 = .ok (.getfield 13, 3) := by decide +kernel
theorem dX6_works_260 : decode cX6_works 260 = .ok (.iload_n 1, 1) := by decide +kernel
theorem dX6_works_261 : decode cX6_works 261 = .ok (.dup2, 1) := by decide +kernel
theorem dX6_works_262 : decode cX6_works 262 = .ok (.iaload, 1) := by decide +kernel
theorem dX6_works_263 : decode cX6_works 263 = .ok (.iload 4, 2) := by decide +kernel
theorem dX6_works_265 : decode cX6_works 265 = .ok (.iand, 1) := by decide +kernel
theorem dX6_works_266 : decode cX6_works 266 = .ok (.iastore, 1) := by decide +kernel
theorem dX6_works_267 : decode cX6_works 267 = .ok (.goto 14, 3) := by decide +kernel
theorem dX6_works_270 : decode cX6_works 270 = .ok (.aload_n 0, 1) := by decide +kernel
theorem dX6_works_271 : decode cX6_works 271 = .ok (.getfield 13, 3) := by decide +kernel
theorem dX6_works_274 : decode cX6_works 274 = .ok (.iload_n 1, 1) := by decide +kernel
theorem dX6_works_275 : decode cX6_works 275 = .ok (.dup2, 1) := by decide +kernel
theorem dX6_works_276 : decode cX6_works 276 = .ok (.iaload, 1) := by decide +kernel
theorem dX6_works_277 : decode cX6_works 277 = .ok (.iload 4, 2) := by decide +kernel
theorem dX6_works_279 : decode cX6_works 279 = .ok (.ixor, 1) := by decide +kernel
theorem dX6_works_280 : decode cX6_works 280 = .ok (.iastore, 1) := by decide +kernel
theorem dX6_works_281 : decode cX6_works 281 = .ok (.return_, 1) := by decide +kernel
theorem dX6_lists_0 : decode cX6_lists 0 = .ok (.iload_n 2, 1) := by decide +kernel
theorem dX6_lists_1 : decode cX6_lists 1 = .ok (.invokestatic 87, 3) := by decide +kernel
theorem dX6_lists_4 : decode cX6_lists 4 = .ok (.ifCond .eq 18, 3) := by decide +kernel
theorem dX6_lists_7 : decode cX6_lists 7 = .ok (.aload_n 0, 1) := by decide +kernel
theorem dX6_lists_8 : decode cX6_lists 8 = .ok (.getfield 9, 3) := by decide +kernel
theorem dX6_lists_11 : decode cX6_lists 11 = .ok (.sipush 128, 3) := by decide +kernel
theorem dX6_lists_14 : decode cX6_lists 14 = .ok (.iload_n 1, 1) := by decide +kernel
theorem dX6_lists_15 : decode cX6_lists 15 = .ok (.imul, 1) := by decide +kernel
theorem dX6_lists_16 : decode cX6_lists 16 = .ok (.iload_n 2, 1) := by decide +kernel
theorem dX6_lists_17 : decode cX6_lists 17 = .ok (.iadd, 1) := by decide +kernel
theorem dX6_lists_18 : decode cX6_lists 18 = .ok (.iaload, 1) := by decide +kernel
theorem dX6_lists_19 : decode cX6_lists 19 = .ok (.goto 4, 3) := by decide +kernel
theorem dX6_lists_22 : decode cX6_lists 22 = .ok (.iconst (-1), 1) := by decide +kernel
theorem dX6_lists_23 : decode cX6_lists 23 = .ok (.istore_n 3, 1) := by decide +kernel
theorem dX6_lists_24 : decode cX6_lists 24 = .ok (.iload_n 3, 1) := by decide +kernel
theorem dX6_lists_25 : decode cX6_lists 25 = .ok (.iconst 0, 1) := by decide +kernel
theorem dX6_lists_26 : decode cX6_lists 26 = .ok (.bipush 16, 2) := by decide +kernel
theorem dX6_lists_28 : decode cX6_lists 28 = .ok (.invokestatic 63, 3) := by decide +kernel
theorem dX6_lists_31 : decode cX6_lists 31 = .ok (.ifCond .eq 16, 3) := by decide +kernel
theorem dX6_lists_34 : decode cX6_lists 34 = .ok (.iload_n 2, 1) := by decide +kernel
theorem dX6_lists_35 : decode cX6_lists 35 = .ok (.iload_n 3, 1) := by decide +kernel
theorem dX6_lists_36 : decode cX6_lists 36 = .ok (.iadd, 1) := by decide +kernel
theorem dX6_lists_37 : decode cX6_lists 37 = .ok (.invokestatic 87, 3) := by decide +kernel
theorem dX6_lists_40 : decode cX6_lists 40 = .ok (.ifCond .eq 7, 3) := by decide +kernel
theorem dX6_lists_43 : decode cX6_lists 43 = .ok (.iconst 1, 1) := by decide +kernel
theorem dX6_lists_44 : decode cX6_lists 44 = .ok (.goto 4, 3) := by decide +kernel
theorem dX6_lists_47 : decode cX6_lists 47 = .ok (.iconst 0, 1) := by decide +kernel
theorem dX6_lists_48 : decode cX6_lists 48 = .ok (.istore 4, 2) := by decide +kernel
theorem dX6_lists_50 : decode cX6_lists 50 = .ok (.iconst 0, 1) := by decide +kernel
theorem dX6_lists_51 : decode cX6_lists 51 = .ok (.istore 5, 2) := by decide +kernel
theorem dX6_lists_53 : decode cX6_lists 53 = .ok (.iload 5, 2) := by decide +kernel
theorem dX6_lists_55 : decode cX6_lists 55 = .ok (.sipush 256, 3) := by decide +kernel
theorem dX6_lists_58 : decode cX6_lists 58 = .ok (.if_icmp .ge 20, 3) := by decide +kernel
theorem dX6_lists_61 : decode cX6_lists 61 = .ok (.aload_n 0, 1) := by decide +kernel
theorem dX6_lists_62 : decode cX6_lists 62 = .ok (.getfield 29, 3) := by decide +kernel
theorem dX6_lists_65 : decode cX6_lists 65 = .ok (.ldc 100, 2) := by decide +kernel
theorem dX6_lists_67 : decode cX6_lists 67 = .ok (.iload 5, 2) := by decide +kernel
theorem dX6_lists_69 : decode cX6_lists 69 = .ok (.iadd, 1) := by decide +kernel
theorem dX6_lists_70 : decode cX6_lists 70 = .ok (.iconst 0, 1) := by decide +kernel
theorem dX6_lists_71 : decode cX6_lists 71 = .ok (.bastore, 1) := by decide +kernel
theorem dX6_lists_72 : decode cX6_lists 72 = .ok (.iinc 5 1, 3) := by decide +kernel
theorem dX6_lists_75 : decode cX6_lists 75 = .ok (.goto (-22), 3) := by decide +kernel
theorem dX6_lists_78 : decode cX6_lists 78 = .ok (.iconst 1, 1) := by decide +kernel
theorem dX6_lists_79 : decode cX6_lists 79 = .ok (.istore 5, 2) := by decide +kernel
theorem dX6_lists_81 : decode cX6_lists 81 = .ok (.iload 5, 2) := by decide +kernel
theorem dX6_lists_83 : decode cX6_lists 83 = .ok (.iload_n 3, 1) := by decide +kernel
theorem dX6_lists_84 : decode cX6_lists 84 = .ok (.if_icmp .gt 54, 3) := by decide +kernel
theorem dX6_lists_87 : decode cX6_lists 87 = .ok (.iload 4, 2) := by decide +kernel
theorem dX6_lists_89 : decode cX6_lists 89 = .ok (.ifCond .eq 49, 3) := by decide +kernel
theorem dX6_lists_92 : decode cX6_lists 92 = .ok (.aload_n 0, 1) := by decide +kernel
theorem dX6_lists_93 : decode cX6_lists 93 = .ok (.getfield 9, 3) := by decide +kernel
theorem dX6_lists_96 : decode cX6_lists 96 = .ok (.sipush 128, 3) := by decide +kernel
theorem dX6_lists_99 : decode cX6_lists 99 = .ok (.iload_n 1, 1) := by decide +kernel
theorem dX6_lists_100 : decode cX6_lists 100 = .ok (.imul, 1) := by decide +kernel
theorem dX6_lists_101 : decode cX6_lists 101 = .ok (.iload_n 2, 1) := by decide +kernel
theorem dX6_lists_102 : decode cX6_lists 102 = .ok (.iadd, 1) := by decide +kernel
theorem dX6_lists_103 : decode cX6_lists 103 = .ok (.iload 5, 2) := by decide +kernel
theorem dX6_lists_105 : decode cX6_lists 105 = .ok (.iadd, 1) := by decide +kernel
theorem dX6_lists_106 : decode cX6_lists 106 = .ok (.iaload, 1) := by decide +kernel
theorem dX6_lists_107 : decode cX6_lists 107 = .ok (.istore 6, 2) := by decide +kernel
theorem dX6_lists_109 : decode cX6_lists 109 = .ok (.iload 6, 2) := by decide +kernel
theorem dX6_lists_111 : decode cX6_lists 111 = .ok (.iconst 0, 1) := by decide +kernel
theorem dX6_lists_112 : decode cX6_lists 112 = .ok (.sipush 255, 3) := by decide +kernel
theorem dX6_lists_115 : decode cX6_lists 115 = .ok (.invokestatic 63, 3) := by decide +kernel
theorem dX6_lists_118 : decode cX6_lists 118 = .ok (.ifCond .eq 14, 3) := by decide +kernel
theorem dX6_lists_121 : decode cX6_lists 121 = .ok (.aload_n 0, 1) := by decide +kernel
theorem dX6_lists_122 : decode cX6_lists 122 = .ok (.getfield 29, 3) := by decide +kernel
theorem dX6_lists_125 : decode cX6_lists 125 = .ok (.ldc 100, 2) := by decide +kernel
theorem dX6_lists_127 : decode cX6_lists 127 = .ok (.iload 6, 2) := by decide +kernel
theorem dX6_lists_129 : decode cX6_lists 129 = .ok (.iadd, 1) := by decide +kernel
theorem dX6_lists_130 : decode cX6_lists 130 = .ok (.iconst 1, 1) := by decide +kernel
theorem dX6_lists_131 : decode cX6_lists 131 = .ok (.bastore, 1) := by decide +kernel
theorem dX6_lists_132 : decode cX6_lists 132 = .ok (.iinc 5 1, 3) := by decide +kernel
theorem dX6_lists_135 : decode cX6_lists 135 = .ok (.goto (-54), 3) := by decide +kernel
theorem dX6_lists_138 : decode cX6_lists 138 = .ok (.iload 4, 2) := by decide +kernel
theorem dX6_lists_140 : decode cX6_lists 140 = .ok (.ifCond .ne 9, 3) := by decide +kernel
theorem dX6_lists_143 : decode cX6_lists 143 = .ok (.aload_n 0, 1) := by decide +kernel
theorem dX6_lists_144 : decode cX6_lists 144 = .ok (.iload_n 1, 1) := by decide +kernel
theorem dX6_lists_145 : decode cX6_lists 145 = .ok (.iconst 2, 1) := by decide +kernel
theorem dX6_lists_146 : decode cX6_lists 146 = .ok (.invokevirtual 90, 3) := by decide +kernel
theorem dX6_lists_149 : decode cX6_lists 149 = .ok (.iload 4, 2) := by decide +kernel
theorem dX6_lists_151 : decode cX6_lists 151 = .ok (.ireturn, 1) := by decide +kernel
theorem dX6_call_0 : decode cX6_call 0 = .ok (.aload_n 0, 1) := by decide +kernel
theorem dX6_call_1 : decode cX6_call 1 = .ok (.getfield 9, 3) := by decide +kernel
theorem dX6_call_4 : decode cX6_call 4 = .ok (.sipush 128, 3) := by decide +kernel
theorem dX6_call_7 : decode cX6_call 7 = .ok (.iload_n 1, 1) := by decide +kernel
theorem dX6_call_8 : decode cX6_call 8 = .ok (.imul, 1) := by decide +kernel
theorem dX6_call_9 : decode cX6_call 9 = .ok (.bipush 120, 2) := by decide +kernel
theorem dX6_call_11 : decode cX6_call 11 = .ok (.iadd, 1) := by decide +kernel
theorem dX6_call_12 : decode cX6_call 12 = .ok (.iaload, 1) := by decide +kernel
theorem dX6_call_13 : decode cX6_call 13 = .ok (.istore_n 3, 1) := by decide +kernel
theorem dX6_call_14 : decode cX6_call 14 = .ok (.aload_n 0, 1) := by decide +kernel
theorem dX6_call_15 : decode cX6_call 15 = .ok (.getfield 9, 3) := by decide +kernel
theorem dX6_call_18 : decode cX6_call 18 = .ok (.sipush 128, 3) := by decide +kernel
theorem dX6_call_21 : decode cX6_call 21 = .ok (.iload_n 1, 1) := by decide +kernel
theorem dX6_call_22 : decode cX6_call 22 = .ok (.imul, 1) := by decide +kernel
theorem dX6_call_23 : decode cX6_call 23 = .ok (.bipush 121, 2) := by decide +kernel
theorem dX6_call_25 : decode cX6_call 25 = .ok (.iadd, 1) := by decide +kernel
theorem dX6_call_26 : decode cX6_call 26 = .ok (.iaload, 1) := by decide +kernel
theorem dX6_call_27 : decode cX6_call 27 = .ok (.istore 4, 2) := by decide +kernel
theorem dX6_call_29 : decode cX6_call 29 = .ok (.aload_n 0, 1) := by decide +kernel
theorem dX6_call_30 : decode cX6_call 30 = .ok (.getfield 9, 3) := by decide +kernel
theorem dX6_call_33 : decode cX6_call 33 = .ok (.sipush 128, 3) := by decide +kernel
theorem dX6_call_36 : decode cX6_call 36 = .ok (.iload_n 1, 1) := by decide +kernel
theorem dX6_call_37 : decode cX6_call 37 = .ok (.imul, 1) := by decide +kernel
theorem dX6_call_38 : decode cX6_call 38 = .ok (.bipush 122, 2) := by decide +kernel
theorem dX6_call_40 : decode cX6_call 40 = .ok (.iadd, 1) := by decide +kernel
theorem dX6_call_41 : decode cX6_call 41 = .ok (.iaload, 1) := by decide +kernel
theorem dX6_call_42 : decode cX6_call 42 = .ok (.istore 5, 2) := by decide +kernel
theorem dX6_call_44 : decode cX6_call 44 = .ok (.iload_n 2, 1) := by decide +kernel
theorem dX6_call_45 : decode cX6_call 45 = .ok (.tableswitch 340 0 11 #[63, 77, 100, 125, 144, 171, 185, 208, 225, 291, 310, 326], 63) := by decide +kernel
theorem dX6_call_108 : decode cX6_call 108 = .ok (.aload_n 0, 1) := by decide +kernel
theorem dX6_call_109 : decode cX6_call 109 = .ok (.getfield 13, 3) := by decide +kernel
theorem dX6_call_112 : decode cX6_call 112 = .ok (.iload_n 1, 1) := by decide +kernel
theorem dX6_call_113 : decode cX6_call 113 = .ok (.aload_n 0, 1) := by decide +kernel
theorem dX6_call_114 : decode cX6_call 114 = .ok (.iload_n 1, 1) := by decide +kernel
theorem dX6_call_115 : decode cX6_call 115 = .ok (.invokevirtual 101, 3) := by decide +kernel
theorem dX6_call_118 : decode cX6_call 118 = .ok (.iastore, 1) := by decide +kernel
theorem dX6_call_119 : decode cX6_call 119 = .ok (.goto 272, 3) := by decide +kernel
theorem dX6_call_122 : decode cX6_call 122 = .ok (.aload_n 0, 1) := by decide +kernel
theorem dX6_call_123 : decode cX6_call 123 = .ok (.iload_n 1, 1) := by decide +kernel
theorem dX6_call_124 : decode cX6_call 124 = .ok (.iload_n 3, 1) := by decide +kernel
theorem dX6_call_125 : decode cX6_call 125 = .ok (.invokevirtual 105, 3) := by decide +kernel
theorem dX6_call_128 : decode cX6_call 128 = .ok (.ifCond .eq 263, 3) := by decide +kernel
theorem dX6_call_131 : decode cX6_call 131 = .ok (.aload_n 0, 1) := by decide +kernel
theorem dX6_call_132 : decode cX6_call 132 = .ok (.getfield 13, 3) := by decide +kernel
theorem dX6_call_135 : decode cX6_call 135 = .ok (.iload_n 1, 1) := by decide +kernel
theorem dX6_call_136 : decode cX6_call 136 = .ok (.aload_n 0, 1) := by decide +kernel
theorem dX6_call_137 : decode cX6_call 137 = .ok (.iload_n 1, 1) := by decide +kernel
theorem dX6_call_138 : decode cX6_call 138 = .ok (.invokevirtual 108, 3) := by decide +kernel
theorem dX6_call_141 : decode cX6_call 141 = .ok (.iastore, 1) := by decide +kernel
theorem dX6_call_142 : decode cX6_call 142 = .ok (.goto 249, 3) := by decide +kernel
theorem dX6_call_145 : decode cX6_call 145 = .ok (.aload_n 0, 1) := by decide +kernel
theorem dX6_call_146 : decode cX6_call 146 = .ok (.getfield 13, 3) := by decide +kernel
theorem dX6_call_149 : decode cX6_call 149 = .ok (.iload_n 1, 1) := by decide +kernel
theorem dX6_call_150 : decode cX6_call 150 = .ok (.aload_n 0, 1) := by decide +kernel
theorem dX6_call_151 : decode cX6_call 151 = .ok (.iload_n 1, 1) := by decide +kernel
theorem dX6_call_152 : decode cX6_call 152 = .ok (.iload_n 3, 1) := by decide +kernel
theorem dX6_call_153 : decode cX6_call 153 = .ok (.iload 4, 2) := by decide +kernel
theorem dX6_call_155 : decode cX6_call 155 = .ok (.ifCond .ne 7, 3) := by decide +kernel
theorem dX6_call_158 : decode cX6_call 158 = .ok (.iconst 0, 1) := by decide +kernel
theorem dX6_call_159 : decode cX6_call 159 = .ok (.goto 4, 3) := by decide +kernel
theorem dX6_call_162 : decode cX6_call 162 = .ok (.iconst 1, 1) := by decide +kernel
theorem dX6_call_163 : decode cX6_call 163 = .ok (.invokevirtual 111, 3) := by decide +kernel
theorem dX6_call_166 : decode cX6_call 166 = .ok (.iastore, 1) := by decide +kernel
theorem dX6_call_167 : decode cX6_call 167 = .ok (.goto 224, 3) := by decide +kernel
theorem dX6_call_170 : decode cX6_call 170 = .ok (.aload_n 0, 1) := by decide +kernel
theorem dX6_call_171 : decode cX6_call 171 = .ok (.iload_n 1, 1) := by decide +kernel
theorem dX6_call_172 : decode cX6_call 172 = .ok (.iload_n 3, 1) := by decide +kernel
theorem dX6_call_173 : decode cX6_call 173 = .ok (.iload 4, 2) := by decide +kernel
theorem dX6_call_175 : decode cX6_call 175 = .ok (.iconst (-1), 1) := by decide +kernel
theorem dX6_call_176 : decode cX6_call 176 = .ok (.invokevirtual 114, 3) := by decide +kernel
theorem dX6_call_179 : decode cX6_call 179 = .ok (.aload_n 0, 1) := by decide +kernel
theorem dX6_call_180 : decode cX6_call 180 = .ok (.getfield 13, 3) := by decide +kernel
theorem dX6_call_183 : decode cX6_call 183 = .ok (.iload_n 1, 1) := by decide +kernel
theorem dX6_call_184 : decode cX6_call 184 = .ok (.iconst 1, 1) := by decide +kernel
theorem dX6_call_185 : decode cX6_call 185 = .ok (.iastore, 1) := by decide +kernel
theorem dX6_call_186 : decode cX6_call 186 = .ok (.goto 205, 3) := by decide +kernel
theorem dX6_call_189 : decode cX6_call 189 = .ok (.aload_n 0, 1) := by decide +kernel
theorem dX6_call_190 : decode cX6_call 190 = .ok (.getfield 13, 3) := by decide +kernel
theorem dX6_call_193 : decode cX6_call 193 = .ok (.iload_n 1, 1) := by decide +kernel
theorem dX6_call_194 : decode cX6_call 194 = .ok (.aload_n 0, 1) := by decide +kernel
theorem dX6_call_195 : decode cX6_call 195 = .ok (.iload_n 1, 1) := by decide +kernel
theorem dX6_call_196 : decode cX6_call 196 = .ok (.iload_n 3, 1) := by decide +kernel
theorem dX6_call_197 : decode cX6_call 197 = .ok (.iload 4, 2) := by decide +kernel
theorem dX6_call_199 : decode cX6_call 199 = .ok (.iload 5, 2) := by decide +kernel
theorem dX6_call_201 : decode cX6_call 201 = .ok (.ifCond .ne 7, 3) := by decide +kernel
theorem dX6_call_204 : decode cX6_call 204 = .ok (.iconst 0, 1) := by decide +kernel
theorem dX6_call_205 : decode cX6_call 205 = .ok (.goto 4, 3) := by decide +kernel
theorem dX6_call_208 : decode cX6_call 208 = .ok (.iconst 1, 1) := by decide +kernel
theorem dX6_call_209 : decode cX6_call 209 = .ok (.invokevirtual 117, 3) := by decide +kernel
theorem dX6_call_212 : decode cX6_call 212 = .ok (.iastore, 1) := by decide +kernel
theorem dX6_call_213 : decode cX6_call 213 = .ok (.goto 178, 3) := by decide +kernel
theorem dX6_call_216 : decode cX6_call 216 = .ok (.aload_n 0, 1) := by decide +kernel
theorem dX6_call_217 : decode cX6_call 217 = .ok (.getfield 13, 3) := by decide +kernel
theorem dX6_call_220 : decode cX6_call 220 = .ok (.iload_n 1, 1) := by decide +kernel
theorem dX6_call_221 : decode cX6_call 221 = .ok (.aload_n 0, 1) := by decide +kernel
theorem dX6_call_222 : decode cX6_call 222 = .ok (.iload_n 1, 1) := by decide +kernel
theorem dX6_call_223 : decode cX6_call 223 = .ok (.invokevirtual 121, 3) := by decide +kernel
theorem dX6_call_226 : decode cX6_call 226 = .ok (.iastore, 1) := by decide +kernel
theorem dX6_call_227 : decode cX6_call 227 = .ok (.goto 164, 3) := by decide +kernel
theorem dX6_call_230 : decode cX6_call 230 = .ok (.aload_n 0, 1) := by decide +kernel
theorem dX6_call_231 : decode cX6_call 231 = .ok (.iload_n 1, 1) := by decide +kernel
theorem dX6_call_232 : decode cX6_call 232 = .ok (.iload_n 3, 1) := by decide +kernel
theorem dX6_call_233 : decode cX6_call 233 = .ok (.invokevirtual 105, 3) := by decide +kernel
theorem dX6_call_236 : decode cX6_call 236 = .ok (.ifCond .eq 155, 3) := by decide +kernel
theorem dX6_call_239 : decode cX6_call 239 = .ok (.aload_n 0, 1) := by decide +kernel
theorem dX6_call_240 : decode cX6_call 240 = .ok (.getfield 13, 3) := by decide +kernel
theorem dX6_call_243 : decode cX6_call 243 = .ok (.iload_n 1, 1) := by decide +kernel
theorem dX6_call_244 : decode cX6_call 244 = .ok (.aload_n 0, 1) := by decide +kernel
theorem dX6_call_245 : decode cX6_call 245 = .ok (.iload_n 1, 1) := by decide +kernel
theorem dX6_call_246 : decode cX6_call 246 = .ok (.invokevirtual 124, 3) := by decide +kernel
theorem dX6_call_249 : decode cX6_call 249 = .ok (.iastore, 1) := by decide +kernel
theorem dX6_call_250 : decode cX6_call 250 = .ok (.goto 141, 3) := by decide +kernel
theorem dX6_call_253 : decode cX6_call 253 = .ok (.aload_n 0, 1) := by decide +kernel
theorem dX6_call_254 : decode cX6_call 254 = .ok (.getfield 13, 3) := by decide +kernel
theorem dX6_call_257 : decode cX6_call 257 = .ok (.iload_n 1, 1) := by decide +kernel
theorem dX6_call_258 : decode cX6_call 258 = .ok (.aload_n 0, 1) := by decide +kernel
theorem dX6_call_259 : decode cX6_call 259 = .ok (.iload_n 1, 1) := by decide +kernel
theorem dX6_call_260 : decode cX6_call 260 = .ok (.iload_n 3, 1) := by decide +kernel
theorem dX6_call_261 : decode cX6_call 261 = .ok (.iload 4, 2) := by decide +kernel
theorem dX6_call_263 : decode cX6_call 263 = .ok (.invokevirtual 127, 3) := by decide +kernel
theorem dX6_call_266 : decode cX6_call 266 = .ok (.iastore, 1) := by decide +kernel
theorem dX6_call_267 : decode cX6_call 267 = .ok (.goto 124, 3) := by decide +kernel
theorem dX6_call_270 : decode cX6_call 270 = .ok (.iload_n 3, 1) := by decide +kernel
theorem dX6_call_271 : decode cX6_call 271 = .ok (.iconst 0, 1) := by decide +kernel
theorem dX6_call_272 : decode cX6_call 272 = .ok (.bipush 63, 2) := by decide +kernel
theorem dX6_call_274 : decode cX6_call 274 = .ok (.invokestatic 63, 3) := by decide +kernel
theorem dX6_call_277 : decode cX6_call 277 = .ok (.ifCond .eq 49, 3) := by decide +kernel
theorem dX6_call_280 : decode cX6_call 280 = .ok (.aload_n 0, 1) := by decide +kernel
theorem dX6_call_281 : decode cX6_call 281 = .ok (.getfield 36, 3) := by decide +kernel
theorem dX6_call_284 : decode cX6_call 284 = .ok (.iload_n 3, 1) := by decide +kernel
theorem dX6_call_285 : decode cX6_call 285 = .ok (.baload, 1) := by decide +kernel
theorem dX6_call_286 : decode cX6_call 286 = .ok (.ifCond .eq 40, 3) := by decide +kernel
theorem dX6_call_289 : decode cX6_call 289 = .ok (.iload 4, 2) := by decide +kernel
theorem dX6_call_291 : decode cX6_call 291 = .ok (.iconst 0, 1) := by decide +kernel
theorem dX6_call_292 : decode cX6_call 292 = .ok (.bipush 7, 2) := by decide +kernel
theorem dX6_call_294 : decode cX6_call 294 = .ok (.invokestatic 63, 3) := by decide +kernel
theorem dX6_call_297 : decode cX6_call 297 = .ok (.ifCond .eq 29, 3) := by decide +kernel
theorem dX6_call_300 : decode cX6_call 300 = .ok (.aload_n 0, 1) := by decide +kernel
theorem dX6_call_301 : decode cX6_call 301 = .ok (.iload_n 1, 1) := by decide +kernel
theorem dX6_call_302 : decode cX6_call 302 = .ok (.bipush 8, 2) := by decide +kernel
theorem dX6_call_304 : decode cX6_call 304 = .ok (.iload_n 3, 1) := by decide +kernel
theorem dX6_call_305 : decode cX6_call 305 = .ok (.iadd, 1) := by decide +kernel
theorem dX6_call_306 : decode cX6_call 306 = .ok (.invokevirtual 79, 3) := by decide +kernel
theorem dX6_call_309 : decode cX6_call 309 = .ok (.ifCond .eq 17, 3) := by decide +kernel
theorem dX6_call_312 : decode cX6_call 312 = .ok (.aload_n 0, 1) := by decide +kernel
theorem dX6_call_313 : decode cX6_call 313 = .ok (.getfield 39, 3) := by decide +kernel
theorem dX6_call_316 : decode cX6_call 316 = .ok (.bipush 8, 2) := by decide +kernel
theorem dX6_call_318 : decode cX6_call 318 = .ok (.iload_n 3, 1) := by decide +kernel
theorem dX6_call_319 : decode cX6_call 319 = .ok (.imul, 1) := by decide +kernel
theorem dX6_call_320 : decode cX6_call 320 = .ok (.iload 4, 2) := by decide +kernel
theorem dX6_call_322 : decode cX6_call 322 = .ok (.iadd, 1) := by decide +kernel
theorem dX6_call_323 : decode cX6_call 323 = .ok (.iload 5, 2) := by decide +kernel
theorem dX6_call_325 : decode cX6_call 325 = .ok (.iastore, 1) := by decide +kernel
theorem dX6_call_326 : decode cX6_call 326 = .ok (.aload_n 0, 1) := by decide +kernel
theorem dX6_call_327 : decode cX6_call 327 = .ok (.getfield 13, 3) := by decide +kernel
theorem dX6_call_330 : decode cX6_call 330 = .ok (.iload_n 1, 1) := by decide +kernel
theorem dX6_call_331 : decode cX6_call 331 = .ok (.iconst 1, 1) := by decide +kernel
theorem dX6_call_332 : decode cX6_call 332 = .ok (.iastore, 1) := by decide +kernel
theorem dX6_call_333 : decode cX6_call 333 = .ok (.goto 58, 3) := by decide +kernel
theorem dX6_call_336 : decode cX6_call 336 = .ok (.aload_n 0, 1) := by decide +kernel
theorem dX6_call_337 : decode cX6_call 337 = .ok (.getfield 13, 3) := by decide +kernel
theorem dX6_call_340 : decode cX6_call 340 = .ok (.iload_n 1, 1) := by decide +kernel
theorem dX6_call_341 : decode cX6_call 341 = .ok (.aload_n 0, 1) := by decide +kernel
theorem dX6_call_342 : decode cX6_call 342 = .ok (.iload_n 1, 1) := by decide +kernel
theorem dX6_call_343 : decode cX6_call 343 = .ok (.iload_n 3, 1) := by decide +kernel
theorem dX6_call_344 : decode cX6_call 344 = .ok (.iload 4, 2) := by decide +kernel
theorem dX6_call_346 : decode cX6_call 346 = .ok (.iload 5, 2) := by decide +kernel
theorem dX6_call_348 : decode cX6_call 348 = .ok (.invokevirtual 130, 3) := by decide +kernel
theorem dX6_call_351 : decode cX6_call 351 = .ok (.iastore, 1) := by decide +kernel
theorem dX6_call_352 : decode cX6_call 352 = .ok (.goto 39, 3) := by decide +kernel
theorem dX6_call_355 : decode cX6_call 355 = .ok (.aload_n 0, 1) := by decide +kernel
theorem dX6_call_356 : decode cX6_call 356 = .ok (.iload_n 1, 1) := by decide +kernel
theorem dX6_call_357 : decode cX6_call 357 = .ok (.iload_n 3, 1) := by decide +kernel
theorem dX6_call_358 : decode cX6_call 358 = .ok (.invokevirtual 133, 3) := by decide +kernel
theorem dX6_call_361 : decode cX6_call 361 = .ok (.aload_n 0, 1) := by decide +kernel
theorem dX6_call_362 : decode cX6_call 362 = .ok (.getfield 13, 3) := by decide +kernel
theorem dX6_call_365 : decode cX6_call 365 = .ok (.iload_n 1, 1) := by decide +kernel
theorem dX6_call_366 : decode cX6_call 366 = .ok (.iconst 1, 1) := by decide +kernel
theorem dX6_call_367 : decode cX6_call 367 = .ok (.iastore, 1) := by decide +kernel
theorem dX6_call_368 : decode cX6_call 368 = .ok (.goto 23, 3) := by decide +kernel
theorem dX6_call_371 : decode cX6_call 371 = .ok (.aload_n 0, 1) := by decide +kernel
theorem dX6_call_372 : decode cX6_call 372 = .ok (.getfield 13, 3) := by decide +kernel
theorem dX6_call_375 : decode cX6_call 375 = .ok (.iload_n 1, 1) := by decide +kernel
theorem dX6_call_376 : decode cX6_call 376 = .ok (.aload_n 0, 1) := by decide +kernel
theorem dX6_call_377 : decode cX6_call 377 = .ok (.iload_n 1, 1) := by decide +kernel
theorem dX6_call_378 : decode cX6_call 378 = .ok (.invokevirtual 136, 3) := by decide +kernel
theorem dX6_call_381 : decode cX6_call 381 = .ok (.iastore, 1) := by decide +kernel
theorem dX6_call_382 : decode cX6_call 382 = .ok (.goto 9, 3) := by decide +kernel
theorem dX6_call_385 : decode cX6_call 385 = .ok (.aload_n 0, 1) := by decide +kernel
theorem dX6_call_386 : decode cX6_call 386 = .ok (.iload_n 1, 1) := by decide +kernel
theorem dX6_call_387 : decode cX6_call 387 = .ok (.iconst 1, 1) := by decide +kernel
theorem dX6_call_388 : decode cX6_call 388 = .ok (.invokevirtual 90, 3) := by decide +kernel
theorem dX6_call_391 : decode cX6_call 391 = .ok (.return_, 1) := by decide +kernel
theorem dX6_newTag_0 : decode cX6_newTag 0 = .ok (.aload_n 0, 1) := by decide +kernel
theorem dX6_newTag_1 : decode cX6_newTag 1 = .ok (.getfield 25, 3) := by decide +kernel
theorem dX6_newTag_4 : decode cX6_newTag 4 = .ok (.iload_n 1, 1) := by decide +kernel
theorem dX6_newTag_5 : decode cX6_newTag 5 = .ok (.iaload, 1) := by decide +kernel
theorem dX6_newTag_6 : decode cX6_newTag 6 = .ok (.bipush 32, 2) := by decide +kernel
theorem dX6_newTag_8 : decode cX6_newTag 8 = .ok (.if_icmp .eq 25, 3) := by decide +kernel
theorem dX6_newTag_11 : decode cX6_newTag 11 = .ok (.aload_n 0, 1) := by decide +kernel
theorem dX6_newTag_12 : decode cX6_newTag 12 = .ok (.iload_n 1, 1) := by decide +kernel
theorem dX6_newTag_13 : decode cX6_newTag 13 = .ok (.iconst 0, 1) := by decide +kernel
theorem dX6_newTag_14 : decode cX6_newTag 14 = .ok (.invokevirtual 139, 3) := by decide +kernel
theorem dX6_newTag_17 : decode cX6_newTag 17 = .ok (.bipush 40, 2) := by decide +kernel
theorem dX6_newTag_19 : decode cX6_newTag 19 = .ok (.if_icmp .ge 14, 3) := by decide +kernel
theorem dX6_newTag_22 : decode cX6_newTag 22 = .ok (.aload_n 0, 1) := by decide +kernel
theorem dX6_newTag_23 : decode cX6_newTag 23 = .ok (.iload_n 1, 1) := by decide +kernel
theorem dX6_newTag_24 : decode cX6_newTag 24 = .ok (.iconst 1, 1) := by decide +kernel
theorem dX6_newTag_25 : decode cX6_newTag 25 = .ok (.invokevirtual 139, 3) := by decide +kernel
theorem dX6_newTag_28 : decode cX6_newTag 28 = .ok (.bipush 40, 2) := by decide +kernel
theorem dX6_newTag_30 : decode cX6_newTag 30 = .ok (.if_icmp .lt 5, 3) := by decide +kernel
theorem dX6_newTag_33 : decode cX6_newTag 33 = .ok (.iconst (-1), 1) := by decide +kernel
theorem dX6_newTag_34 : decode cX6_newTag 34 = .ok (.ireturn, 1) := by decide +kernel
theorem dX6_newTag_35 : decode cX6_newTag 35 = .ok (.bipush 32, 2) := by decide +kernel
theorem dX6_newTag_37 : decode cX6_newTag 37 = .ok (.iload_n 1, 1) := by decide +kernel
theorem dX6_newTag_38 : decode cX6_newTag 38 = .ok (.imul, 1) := by decide +kernel
theorem dX6_newTag_39 : decode cX6_newTag 39 = .ok (.aload_n 0, 1) := by decide +kernel
theorem dX6_newTag_40 : decode cX6_newTag 40 = .ok (.getfield 25, 3) := by decide +kernel
theorem dX6_newTag_43 : decode cX6_newTag 43 = .ok (.iload_n 1, 1) := by decide +kernel
theorem dX6_newTag_44 : decode cX6_newTag 44 = .ok (.iaload, 1) := by decide +kernel
theorem dX6_newTag_45 : decode cX6_newTag 45 = .ok (.iadd, 1) := by decide +kernel
theorem dX6_newTag_46 : decode cX6_newTag 46 = .ok (.istore_n 2, 1) := by decide +kernel
theorem dX6_newTag_47 : decode cX6_newTag 47 = .ok (.aload_n 0, 1) := by decide +kernel
theorem dX6_newTag_48 : decode cX6_newTag 48 = .ok (.getfield 25, 3) := by decide +kernel
theorem dX6_newTag_51 : decode cX6_newTag 51 = .ok (.iload_n 1, 1) := by decide +kernel
theorem dX6_newTag_52 : decode cX6_newTag 52 = .ok (.dup2, 1) := by decide +kernel
theorem dX6_newTag_53 : decode cX6_newTag 53 = .ok (.iaload, 1) := by decide +kernel
theorem dX6_newTag_54 : decode cX6_newTag 54 = .ok (.iconst 1, 1) := by decide +kernel
theorem dX6_newTag_55 : decode cX6_newTag 55 = .ok (.iadd, 1) := by decide +kernel
theorem dX6_newTag_56 : decode cX6_newTag 56 = .ok (.iastore, 1) := by decide +kernel
theorem dX6_newTag_57 : decode cX6_newTag 57 = .ok (.aload_n 0, 1) := by decide +kernel
theorem dX6_newTag_58 : decode cX6_newTag 58 = .ok (.getfield 33, 3) := by decide +kernel
theorem dX6_newTag_61 : decode cX6_newTag 61 = .ok (.aload_n 0, 1) := by decide +kernel
theorem dX6_newTag_62 : decode cX6_newTag 62 = .ok (.iload_n 1, 1) := by decide +kernel
theorem dX6_newTag_63 : decode cX6_newTag 63 = .ok (.iconst 0, 1) := by decide +kernel
theorem dX6_newTag_64 : decode cX6_newTag 64 = .ok (.iload_n 2, 1) := by decide +kernel
theorem dX6_newTag_65 : decode cX6_newTag 65 = .ok (.invokevirtual 67, 3) := by decide +kernel
theorem dX6_newTag_68 : decode cX6_newTag 68 = .ok (.iconst 1, 1) := by decide +kernel
theorem dX6_newTag_69 : decode cX6_newTag 69 = .ok (.bastore, 1) := by decide +kernel
theorem dX6_newTag_70 : decode cX6_newTag 70 = .ok (.aload_n 0, 1) := by decide +kernel
theorem dX6_newTag_71 : decode cX6_newTag 71 = .ok (.getfield 33, 3) := by decide +kernel
theorem dX6_newTag_74 : decode cX6_newTag 74 = .ok (.aload_n 0, 1) := by decide +kernel
theorem dX6_newTag_75 : decode cX6_newTag 75 = .ok (.iload_n 1, 1) := by decide +kernel
theorem dX6_newTag_76 : decode cX6_newTag 76 = .ok (.iconst 1, 1) := by decide +kernel
theorem dX6_newTag_77 : decode cX6_newTag 77 = .ok (.iload_n 2, 1) := by decide +kernel
theorem dX6_newTag_78 : decode cX6_newTag 78 = .ok (.invokevirtual 67, 3) := by decide +kernel
theorem dX6_newTag_81 : decode cX6_newTag 81 = .ok (.iconst 1, 1) := by decide +kernel
theorem dX6_newTag_82 : decode cX6_newTag 82 = .ok (.bastore, 1) := by decide +kernel
theorem dX6_newTag_83 : decode cX6_newTag 83 = .ok (.iload_n 2, 1) := by decide +kernel
theorem dX6_newTag_84 : decode cX6_newTag 84 = .ok (.ireturn, 1) := by decide +kernel
theorem dX6_changes_0 : decode cX6_changes 0 = .ok (.iconst 0, 1) := by decide +kernel
theorem dX6_changes_1 : decode cX6_changes 1 = .ok (.istore_n 2, 1) := by decide +kernel
theorem dX6_changes_2 : decode cX6_changes 2 = .ok (.iload_n 2, 1) := by decide +kernel
theorem dX6_changes_3 : decode cX6_changes 3 = .ok (.sipush 256, 3) := by decide +kernel
theorem dX6_changes_6 : decode cX6_changes 6 = .ok (.if_icmp .ge 65, 3) := by decide +kernel
theorem dX6_changes_9 : decode cX6_changes 9 = .ok (.aload_n 0, 1) := by decide +kernel
theorem dX6_changes_10 : decode cX6_changes 10 = .ok (.getfield 29, 3) := by decide +kernel
theorem dX6_changes_13 : decode cX6_changes 13 = .ok (.sipush 256, 3) := by decide +kernel
theorem dX6_changes_16 : decode cX6_changes 16 = .ok (.iload_n 1, 1) := by decide +kernel
theorem dX6_changes_17 : decode cX6_changes 17 = .ok (.imul, 1) := by decide +kernel
theorem dX6_changes_18 : decode cX6_changes 18 = .ok (.iload_n 2, 1) := by decide +kernel
theorem dX6_changes_19 : decode cX6_changes 19 = .ok (.iadd, 1) := by decide +kernel
theorem dX6_changes_20 : decode cX6_changes 20 = .ok (.baload, 1) := by decide +kernel
theorem dX6_changes_21 : decode cX6_changes 21 = .ok (.istore_n 3, 1) := by decide +kernel
theorem dX6_changes_22 : decode cX6_changes 22 = .ok (.aload_n 0, 1) := by decide +kernel
theorem dX6_changes_23 : decode cX6_changes 23 = .ok (.getfield 29, 3) := by decide +kernel
theorem dX6_changes_26 : decode cX6_changes 26 = .ok (.ldc 100, 2) := by decide +kernel
theorem dX6_changes_28 : decode cX6_changes 28 = .ok (.iload_n 2, 1) := by decide +kernel
theorem dX6_changes_29 : decode cX6_changes 29 = .ok (.iadd, 1) := by decide +kernel
theorem dX6_changes_30 : decode cX6_changes 30 = .ok (.baload, 1) := by decide +kernel
theorem dX6_changes_31 : decode cX6_changes 31 = .ok (.istore 4, 2) := by decide +kernel
theorem dX6_changes_33 : decode cX6_changes 33 = .ok (.iload_n 3, 1) := by decide +kernel
theorem dX6_changes_34 : decode cX6_changes 34 = .ok (.iload 4, 2) := by decide +kernel
theorem dX6_changes_36 : decode cX6_changes 36 = .ok (.if_icmp .eq 29, 3) := by decide +kernel
theorem dX6_changes_39 : decode cX6_changes 39 = .ok (.aload_n 0, 1) := by decide +kernel
theorem dX6_changes_40 : decode cX6_changes 40 = .ok (.getfield 33, 3) := by decide +kernel
theorem dX6_changes_43 : decode cX6_changes 43 = .ok (.aload_n 0, 1) := by decide +kernel
theorem dX6_changes_44 : decode cX6_changes 44 = .ok (.iload_n 1, 1) := by decide +kernel
theorem dX6_changes_45 : decode cX6_changes 45 = .ok (.iload 4, 2) := by decide +kernel
theorem dX6_changes_47 : decode cX6_changes 47 = .ok (.ifCond .eq 7, 3) := by decide +kernel
theorem dX6_changes_50 : decode cX6_changes 50 = .ok (.iconst 0, 1) := by decide +kernel
theorem dX6_changes_51 : decode cX6_changes 51 = .ok (.goto 4, 3) := by decide +kernel
theorem dX6_changes_54 : decode cX6_changes 54 = .ok (.iconst 1, 1) := by decide +kernel
theorem dX6_changes_55 : decode cX6_changes 55 = .ok (.iload_n 2, 1) := by decide +kernel
theorem dX6_changes_56 : decode cX6_changes 56 = .ok (.invokevirtual 67, 3) := by decide +kernel
theorem dX6_changes_59 : decode cX6_changes 59 = .ok (.baload, 1) := by decide +kernel
theorem dX6_changes_60 : decode cX6_changes 60 = .ok (.ifCond .ne 5, 3) := by decide +kernel
theorem dX6_changes_63 : decode cX6_changes 63 = .ok (.iconst 0, 1) := by decide +kernel
theorem dX6_changes_64 : decode cX6_changes 64 = .ok (.ireturn, 1) := by decide +kernel
theorem dX6_changes_65 : decode cX6_changes 65 = .ok (.iinc 2 1, 3) := by decide +kernel
theorem dX6_changes_68 : decode cX6_changes 68 = .ok (.goto (-66), 3) := by decide +kernel
theorem dX6_changes_71 : decode cX6_changes 71 = .ok (.aload_n 0, 1) := by decide +kernel
theorem dX6_changes_72 : decode cX6_changes 72 = .ok (.sipush 136, 3) := by decide +kernel
theorem dX6_changes_75 : decode cX6_changes 75 = .ok (.iload_n 1, 1) := by decide +kernel
theorem dX6_changes_76 : decode cX6_changes 76 = .ok (.invokevirtual 71, 3) := by decide +kernel
theorem dX6_changes_79 : decode cX6_changes 79 = .ok (.iconst 1, 1) := by decide +kernel
theorem dX6_changes_80 : decode cX6_changes 80 = .ok (.ireturn, 1) := by decide +kernel
theorem dX6_drops_0 : decode cX6_drops 0 = .ok (.iload_n 2, 1) := by decide +kernel
theorem dX6_drops_1 : decode cX6_drops 1 = .ok (.iconst 0, 1) := by decide +kernel
theorem dX6_drops_2 : decode cX6_drops 2 = .ok (.sipush 255, 3) := by decide +kernel
theorem dX6_drops_5 : decode cX6_drops 5 = .ok (.invokestatic 63, 3) := by decide +kernel
theorem dX6_drops_8 : decode cX6_drops 8 = .ok (.ifCond .eq 18, 3) := by decide +kernel
theorem dX6_drops_11 : decode cX6_drops 11 = .ok (.aload_n 0, 1) := by decide +kernel
theorem dX6_drops_12 : decode cX6_drops 12 = .ok (.getfield 33, 3) := by decide +kernel
theorem dX6_drops_15 : decode cX6_drops 15 = .ok (.aload_n 0, 1) := by decide +kernel
theorem dX6_drops_16 : decode cX6_drops 16 = .ok (.iload_n 1, 1) := by decide +kernel
theorem dX6_drops_17 : decode cX6_drops 17 = .ok (.iload_n 3, 1) := by decide +kernel
theorem dX6_drops_18 : decode cX6_drops 18 = .ok (.iload_n 2, 1) := by decide +kernel
theorem dX6_drops_19 : decode cX6_drops 19 = .ok (.invokevirtual 67, 3) := by decide +kernel
theorem dX6_drops_22 : decode cX6_drops 22 = .ok (.baload, 1) := by decide +kernel
theorem dX6_drops_23 : decode cX6_drops 23 = .ok (.ifCond .ne 5, 3) := by decide +kernel
theorem dX6_drops_26 : decode cX6_drops 26 = .ok (.iconst 0, 1) := by decide +kernel
theorem dX6_drops_27 : decode cX6_drops 27 = .ok (.ireturn, 1) := by decide +kernel
theorem dX6_drops_28 : decode cX6_drops 28 = .ok (.aload_n 0, 1) := by decide +kernel
theorem dX6_drops_29 : decode cX6_drops 29 = .ok (.getfield 33, 3) := by decide +kernel
theorem dX6_drops_32 : decode cX6_drops 32 = .ok (.aload_n 0, 1) := by decide +kernel
theorem dX6_drops_33 : decode cX6_drops 33 = .ok (.iload_n 1, 1) := by decide +kernel
theorem dX6_drops_34 : decode cX6_drops 34 = .ok (.iload_n 3, 1) := by decide +kernel
theorem dX6_drops_35 : decode cX6_drops 35 = .ok (.iload_n 2, 1) := by decide +kernel
theorem dX6_drops_36 : decode cX6_drops 36 = .ok (.invokevirtual 67, 3) := by decide +kernel
theorem dX6_drops_39 : decode cX6_drops 39 = .ok (.iconst 0, 1) := by decide +kernel
theorem dX6_drops_40 : decode cX6_drops 40 = .ok (.bastore, 1) := by decide +kernel
theorem dX6_drops_41 : decode cX6_drops 41 = .ok (.iconst 1, 1) := by decide +kernel
theorem dX6_drops_42 : decode cX6_drops 42 = .ok (.ireturn, 1) := by decide +kernel
theorem dX6_passes_0 : decode cX6_passes 0 = .ok (.iload_n 3, 1) := by decide +kernel
theorem dX6_passes_1 : decode cX6_passes 1 = .ok (.iconst 0, 1) := by decide +kernel
theorem dX6_passes_2 : decode cX6_passes 2 = .ok (.sipush 255, 3) := by decide +kernel
theorem dX6_passes_5 : decode cX6_passes 5 = .ok (.invokestatic 63, 3) := by decide +kernel
theorem dX6_passes_8 : decode cX6_passes 8 = .ok (.ifCond .eq 19, 3) := by decide +kernel
theorem dX6_passes_11 : decode cX6_passes 11 = .ok (.aload_n 0, 1) := by decide +kernel
theorem dX6_passes_12 : decode cX6_passes 12 = .ok (.getfield 33, 3) := by decide +kernel
theorem dX6_passes_15 : decode cX6_passes 15 = .ok (.aload_n 0, 1) := by decide +kernel
theorem dX6_passes_16 : decode cX6_passes 16 = .ok (.iload_n 1, 1) := by decide +kernel
theorem dX6_passes_17 : decode cX6_passes 17 = .ok (.iload 4, 2) := by decide +kernel
theorem dX6_passes_19 : decode cX6_passes 19 = .ok (.iload_n 3, 1) := by decide +kernel
theorem dX6_passes_20 : decode cX6_passes 20 = .ok (.invokevirtual 67, 3) := by decide +kernel
theorem dX6_passes_23 : decode cX6_passes 23 = .ok (.baload, 1) := by decide +kernel
theorem dX6_passes_24 : decode cX6_passes 24 = .ok (.ifCond .ne 5, 3) := by decide +kernel
theorem dX6_passes_27 : decode cX6_passes 27 = .ok (.iconst 0, 1) := by decide +kernel
theorem dX6_passes_28 : decode cX6_passes 28 = .ok (.ireturn, 1) := by decide +kernel
theorem dX6_passes_29 : decode cX6_passes 29 = .ok (.aload_n 0, 1) := by decide +kernel
theorem dX6_passes_30 : decode cX6_passes 30 = .ok (.iload_n 1, 1) := by decide +kernel
theorem dX6_passes_31 : decode cX6_passes 31 = .ok (.iload_n 2, 1) := by decide +kernel
theorem dX6_passes_32 : decode cX6_passes 32 = .ok (.iload_n 3, 1) := by decide +kernel
theorem dX6_passes_33 : decode cX6_passes 33 = .ok (.iload 4, 2) := by decide +kernel
theorem dX6_passes_35 : decode cX6_passes 35 = .ok (.invokevirtual 114, 3) := by decide +kernel
theorem dX6_passes_38 : decode cX6_passes 38 = .ok (.iconst 1, 1) := by decide +kernel
theorem dX6_passes_39 : decode cX6_passes 39 = .ok (.ireturn, 1) := by decide +kernel
theorem dX6_receives_0 : decode cX6_receives 0 = .ok (.aload_n 0, 1) := by decide +kernel
theorem dX6_receives_1 : decode cX6_receives 1 = .ok (.getfield 42, 3) := by decide +kernel
theorem dX6_receives_4 : decode cX6_receives 4 = .ok (.iload_n 1, 1) := by decide +kernel
theorem dX6_receives_5 : decode cX6_receives 5 = .ok (.iaload, 1) := by decide +kernel
theorem dX6_receives_6 : decode cX6_receives 6 = .ok (.ifCond .le 26, 3) := by decide +kernel
theorem dX6_receives_9 : decode cX6_receives 9 = .ok (.aload_n 0, 1) := by decide +kernel
theorem dX6_receives_10 : decode cX6_receives 10 = .ok (.bipush 72, 2) := by decide +kernel
theorem dX6_receives_12 : decode cX6_receives 12 = .ok (.bipush 8, 2) := by decide +kernel
theorem dX6_receives_14 : decode cX6_receives 14 = .ok (.iload_n 1, 1) := by decide +kernel
theorem dX6_receives_15 : decode cX6_receives 15 = .ok (.imul, 1) := by decide +kernel
theorem dX6_receives_16 : decode cX6_receives 16 = .ok (.iadd, 1) := by decide +kernel
theorem dX6_receives_17 : decode cX6_receives 17 = .ok (.iload_n 1, 1) := by decide +kernel
theorem dX6_receives_18 : decode cX6_receives 18 = .ok (.invokevirtual 79, 3) := by decide +kernel
theorem dX6_receives_21 : decode cX6_receives 21 = .ok (.ifCond .ne 11, 3) := by decide +kernel
theorem dX6_receives_24 : decode cX6_receives 24 = .ok (.aload_n 0, 1) := by decide +kernel
theorem dX6_receives_25 : decode cX6_receives 25 = .ok (.iload_n 1, 1) := by decide +kernel
theorem dX6_receives_26 : decode cX6_receives 26 = .ok (.invokevirtual 143, 3) := by decide +kernel
theorem dX6_receives_29 : decode cX6_receives 29 = .ok (.goto (-29), 3) := by decide +kernel
theorem dX6_receives_32 : decode cX6_receives 32 = .ok (.aload_n 0, 1) := by decide +kernel
theorem dX6_receives_33 : decode cX6_receives 33 = .ok (.getfield 42, 3) := by decide +kernel
theorem dX6_receives_36 : decode cX6_receives 36 = .ok (.iload_n 1, 1) := by decide +kernel
theorem dX6_receives_37 : decode cX6_receives 37 = .ok (.iaload, 1) := by decide +kernel
theorem dX6_receives_38 : decode cX6_receives 38 = .ok (.ifCond .ne 5, 3) := by decide +kernel
theorem dX6_receives_41 : decode cX6_receives 41 = .ok (.iconst 0, 1) := by decide +kernel
theorem dX6_receives_42 : decode cX6_receives 42 = .ok (.ireturn, 1) := by decide +kernel
theorem dX6_receives_43 : decode cX6_receives 43 = .ok (.aload_n 0, 1) := by decide +kernel
theorem dX6_receives_44 : decode cX6_receives 44 = .ok (.getfield 45, 3) := by decide +kernel
theorem dX6_receives_47 : decode cX6_receives 47 = .ok (.bipush 8, 2) := by decide +kernel
theorem dX6_receives_49 : decode cX6_receives 49 = .ok (.iload_n 1, 1) := by decide +kernel
theorem dX6_receives_50 : decode cX6_receives 50 = .ok (.imul, 1) := by decide +kernel
theorem dX6_receives_51 : decode cX6_receives 51 = .ok (.iaload, 1) := by decide +kernel
theorem dX6_receives_52 : decode cX6_receives 52 = .ok (.istore_n 2, 1) := by decide +kernel
theorem dX6_receives_53 : decode cX6_receives 53 = .ok (.aload_n 0, 1) := by decide +kernel
theorem dX6_receives_54 : decode cX6_receives 54 = .ok (.getfield 51, 3) := by decide +kernel
theorem dX6_receives_57 : decode cX6_receives 57 = .ok (.bipush 8, 2) := by decide +kernel
theorem dX6_receives_59 : decode cX6_receives 59 = .ok (.iload_n 1, 1) := by decide +kernel
theorem dX6_receives_60 : decode cX6_receives 60 = .ok (.imul, 1) := by decide +kernel
theorem dX6_receives_61 : decode cX6_receives 61 = .ok (.iaload, 1) := by decide +kernel
theorem dX6_receives_62 : decode cX6_receives 62 = .ok (.istore_n 3, 1) := by decide +kernel
theorem dX6_receives_63 : decode cX6_receives 63 = .ok (.aload_n 0, 1) := by decide +kernel
theorem dX6_receives_64 : decode cX6_receives 64 = .ok (.getfield 9, 3) := by decide +kernel
theorem dX6_receives_67 : decode cX6_receives 67 = .ok (.sipush 128, 3) := by decide +kernel
theorem dX6_receives_70 : decode cX6_receives 70 = .ok (.iload_n 1, 1) := by decide +kernel
theorem dX6_receives_71 : decode cX6_receives 71 = .ok (.imul, 1) := by decide +kernel
theorem dX6_receives_72 : decode cX6_receives 72 = .ok (.bipush 120, 2) := by decide +kernel
theorem dX6_receives_74 : decode cX6_receives 74 = .ok (.iadd, 1) := by decide +kernel
theorem dX6_receives_75 : decode cX6_receives 75 = .ok (.iload_n 2, 1) := by decide +kernel
theorem dX6_receives_76 : decode cX6_receives 76 = .ok (.iastore, 1) := by decide +kernel
theorem dX6_receives_77 : decode cX6_receives 77 = .ok (.aload_n 0, 1) := by decide +kernel
theorem dX6_receives_78 : decode cX6_receives 78 = .ok (.getfield 9, 3) := by decide +kernel
theorem dX6_receives_81 : decode cX6_receives 81 = .ok (.sipush 128, 3) := by decide +kernel
theorem dX6_receives_84 : decode cX6_receives 84 = .ok (.iload_n 1, 1) := by decide +kernel
theorem dX6_receives_85 : decode cX6_receives 85 = .ok (.imul, 1) := by decide +kernel
theorem dX6_receives_86 : decode cX6_receives 86 = .ok (.bipush 121, 2) := by decide +kernel
theorem dX6_receives_88 : decode cX6_receives 88 = .ok (.iadd, 1) := by decide +kernel
theorem dX6_receives_89 : decode cX6_receives 89 = .ok (.aload_n 0, 1) := by decide +kernel
theorem dX6_receives_90 : decode cX6_receives 90 = .ok (.getfield 48, 3) := by decide +kernel
theorem dX6_receives_93 : decode cX6_receives 93 = .ok (.bipush 8, 2) := by decide +kernel
theorem dX6_receives_95 : decode cX6_receives 95 = .ok (.iload_n 1, 1) := by decide +kernel
theorem dX6_receives_96 : decode cX6_receives 96 = .ok (.imul, 1) := by decide +kernel
theorem dX6_receives_97 : decode cX6_receives 97 = .ok (.iaload, 1) := by decide +kernel
theorem dX6_receives_98 : decode cX6_receives 98 = .ok (.iastore, 1) := by decide +kernel
theorem dX6_receives_99 : decode cX6_receives 99 = .ok (.aload_n 0, 1) := by decide +kernel
theorem dX6_receives_100 : decode cX6_receives 100 = .ok (.iload_n 1, 1) := by decide +kernel
theorem dX6_receives_101 : decode cX6_receives 101 = .ok (.invokevirtual 143, 3) := by decide +kernel
theorem dX6_receives_104 : decode cX6_receives 104 = .ok (.iload_n 3, 1) := by decide +kernel
theorem dX6_receives_105 : decode cX6_receives 105 = .ok (.ifCond .ge 5, 3) := by decide +kernel
theorem dX6_receives_108 : decode cX6_receives 108 = .ok (.iconst 1, 1) := by decide +kernel
theorem dX6_receives_109 : decode cX6_receives 109 = .ok (.ireturn, 1) := by decide +kernel
theorem dX6_receives_110 : decode cX6_receives 110 = .ok (.aload_n 0, 1) := by decide +kernel
theorem dX6_receives_111 : decode cX6_receives 111 = .ok (.iload_n 1, 1) := by decide +kernel
theorem dX6_receives_112 : decode cX6_receives 112 = .ok (.iload_n 3, 1) := by decide +kernel
theorem dX6_receives_113 : decode cX6_receives 113 = .ok (.invokevirtual 139, 3) := by decide +kernel
theorem dX6_receives_116 : decode cX6_receives 116 = .ok (.bipush 40, 2) := by decide +kernel
theorem dX6_receives_118 : decode cX6_receives 118 = .ok (.if_icmp .ge 16, 3) := by decide +kernel
theorem dX6_receives_121 : decode cX6_receives 121 = .ok (.aload_n 0, 1) := by decide +kernel
theorem dX6_receives_122 : decode cX6_receives 122 = .ok (.getfield 33, 3) := by decide +kernel
theorem dX6_receives_125 : decode cX6_receives 125 = .ok (.aload_n 0, 1) := by decide +kernel
theorem dX6_receives_126 : decode cX6_receives 126 = .ok (.iload_n 1, 1) := by decide +kernel
theorem dX6_receives_127 : decode cX6_receives 127 = .ok (.iload_n 3, 1) := by decide +kernel
theorem dX6_receives_128 : decode cX6_receives 128 = .ok (.iload_n 2, 1) := by decide +kernel
theorem dX6_receives_129 : decode cX6_receives 129 = .ok (.invokevirtual 67, 3) := by decide +kernel
theorem dX6_receives_132 : decode cX6_receives 132 = .ok (.iconst 1, 1) := by decide +kernel
theorem dX6_receives_133 : decode cX6_receives 133 = .ok (.bastore, 1) := by decide +kernel
theorem dX6_receives_134 : decode cX6_receives 134 = .ok (.iconst 2, 1) := by decide +kernel
theorem dX6_receives_135 : decode cX6_receives 135 = .ok (.ireturn, 1) := by decide +kernel
theorem dX6_creates_0 : decode cX6_creates 0 = .ok (.iconst 0, 1) := by decide +kernel
theorem dX6_creates_1 : decode cX6_creates 1 = .ok (.istore_n 2, 1) := by decide +kernel
theorem dX6_creates_2 : decode cX6_creates 2 = .ok (.iload_n 2, 1) := by decide +kernel
theorem dX6_creates_3 : decode cX6_creates 3 = .ok (.bipush 8, 2) := by decide +kernel
theorem dX6_creates_5 : decode cX6_creates 5 = .ok (.if_icmp .ge 23, 3) := by decide +kernel
theorem dX6_creates_8 : decode cX6_creates 8 = .ok (.aload_n 0, 1) := by decide +kernel
theorem dX6_creates_9 : decode cX6_creates 9 = .ok (.getfield 36, 3) := by decide +kernel
theorem dX6_creates_12 : decode cX6_creates 12 = .ok (.bipush 8, 2) := by decide +kernel
theorem dX6_creates_14 : decode cX6_creates 14 = .ok (.iload_n 1, 1) := by decide +kernel
theorem dX6_creates_15 : decode cX6_creates 15 = .ok (.imul, 1) := by decide +kernel
theorem dX6_creates_16 : decode cX6_creates 16 = .ok (.iload_n 2, 1) := by decide +kernel
theorem dX6_creates_17 : decode cX6_creates 17 = .ok (.iadd, 1) := by decide +kernel
theorem dX6_creates_18 : decode cX6_creates 18 = .ok (.baload, 1) := by decide +kernel
theorem dX6_creates_19 : decode cX6_creates 19 = .ok (.ifCond .eq 9, 3) := by decide +kernel
theorem dX6_creates_22 : decode cX6_creates 22 = .ok (.iinc 2 1, 3) := by decide +kernel
theorem dX6_creates_25 : decode cX6_creates 25 = .ok (.goto (-23), 3) := by decide +kernel
theorem dX6_creates_28 : decode cX6_creates 28 = .ok (.iload_n 2, 1) := by decide +kernel
theorem dX6_creates_29 : decode cX6_creates 29 = .ok (.bipush 8, 2) := by decide +kernel
theorem dX6_creates_31 : decode cX6_creates 31 = .ok (.if_icmp .eq 14, 3) := by decide +kernel
theorem dX6_creates_34 : decode cX6_creates 34 = .ok (.aload_n 0, 1) := by decide +kernel
theorem dX6_creates_35 : decode cX6_creates 35 = .ok (.iload_n 1, 1) := by decide +kernel
theorem dX6_creates_36 : decode cX6_creates 36 = .ok (.sipush 136, 3) := by decide +kernel
theorem dX6_creates_39 : decode cX6_creates 39 = .ok (.invokevirtual 79, 3) := by decide +kernel
theorem dX6_creates_42 : decode cX6_creates 42 = .ok (.ifCond .ne 5, 3) := by decide +kernel
theorem dX6_creates_45 : decode cX6_creates 45 = .ok (.iconst (-1), 1) := by decide +kernel
theorem dX6_creates_46 : decode cX6_creates 46 = .ok (.ireturn, 1) := by decide +kernel
theorem dX6_creates_47 : decode cX6_creates 47 = .ok (.bipush 8, 2) := by decide +kernel
theorem dX6_creates_49 : decode cX6_creates 49 = .ok (.iload_n 1, 1) := by decide +kernel
theorem dX6_creates_50 : decode cX6_creates 50 = .ok (.imul, 1) := by decide +kernel
theorem dX6_creates_51 : decode cX6_creates 51 = .ok (.iload_n 2, 1) := by decide +kernel
theorem dX6_creates_52 : decode cX6_creates 52 = .ok (.iadd, 1) := by decide +kernel
theorem dX6_creates_53 : decode cX6_creates 53 = .ok (.istore_n 3, 1) := by decide +kernel
theorem dX6_creates_54 : decode cX6_creates 54 = .ok (.aload_n 0, 1) := by decide +kernel
theorem dX6_creates_55 : decode cX6_creates 55 = .ok (.getfield 36, 3) := by decide +kernel
theorem dX6_creates_58 : decode cX6_creates 58 = .ok (.iload_n 3, 1) := by decide +kernel
theorem dX6_creates_59 : decode cX6_creates 59 = .ok (.iconst 1, 1) := by decide +kernel
theorem dX6_creates_60 : decode cX6_creates 60 = .ok (.bastore, 1) := by decide +kernel
theorem dX6_creates_61 : decode cX6_creates 61 = .ok (.aload_n 0, 1) := by decide +kernel
theorem dX6_creates_62 : decode cX6_creates 62 = .ok (.sipush 136, 3) := by decide +kernel
theorem dX6_creates_65 : decode cX6_creates 65 = .ok (.bipush 8, 2) := by decide +kernel
theorem dX6_creates_67 : decode cX6_creates 67 = .ok (.iload_n 3, 1) := by decide +kernel
theorem dX6_creates_68 : decode cX6_creates 68 = .ok (.iadd, 1) := by decide +kernel
theorem dX6_creates_69 : decode cX6_creates 69 = .ok (.invokevirtual 71, 3) := by decide +kernel
theorem dX6_creates_72 : decode cX6_creates 72 = .ok (.iconst 0, 1) := by decide +kernel
theorem dX6_creates_73 : decode cX6_creates 73 = .ok (.istore 4, 2) := by decide +kernel
theorem dX6_creates_75 : decode cX6_creates 75 = .ok (.iload 4, 2) := by decide +kernel
theorem dX6_creates_77 : decode cX6_creates 77 = .ok (.bipush 8, 2) := by decide +kernel
theorem dX6_creates_79 : decode cX6_creates 79 = .ok (.if_icmp .ge 22, 3) := by decide +kernel
theorem dX6_creates_82 : decode cX6_creates 82 = .ok (.aload_n 0, 1) := by decide +kernel
theorem dX6_creates_83 : decode cX6_creates 83 = .ok (.getfield 39, 3) := by decide +kernel
theorem dX6_creates_86 : decode cX6_creates 86 = .ok (.bipush 8, 2) := by decide +kernel
theorem dX6_creates_88 : decode cX6_creates 88 = .ok (.iload_n 3, 1) := by decide +kernel
theorem dX6_creates_89 : decode cX6_creates 89 = .ok (.imul, 1) := by decide +kernel
theorem dX6_creates_90 : decode cX6_creates 90 = .ok (.iload 4, 2) := by decide +kernel
theorem dX6_creates_92 : decode cX6_creates 92 = .ok (.iadd, 1) := by decide +kernel
theorem dX6_creates_93 : decode cX6_creates 93 = .ok (.iconst 0, 1) := by decide +kernel
theorem dX6_creates_94 : decode cX6_creates 94 = .ok (.iastore, 1) := by decide +kernel
theorem dX6_creates_95 : decode cX6_creates 95 = .ok (.iinc 4 1, 3) := by decide +kernel
theorem dX6_creates_98 : decode cX6_creates 98 = .ok (.goto (-23), 3) := by decide +kernel
theorem dX6_creates_101 : decode cX6_creates 101 = .ok (.iload_n 3, 1) := by decide +kernel
theorem dX6_creates_102 : decode cX6_creates 102 = .ok (.ireturn, 1) := by decide +kernel
theorem dX6_reads_0 : decode cX6_reads 0 = .ok (.iload_n 2, 1) := by decide +kernel
theorem dX6_reads_1 : decode cX6_reads 1 = .ok (.iconst 0, 1) := by decide +kernel
theorem dX6_reads_2 : decode cX6_reads 2 = .ok (.bipush 63, 2) := by decide +kernel
theorem dX6_reads_4 : decode cX6_reads 4 = .ok (.invokestatic 63, 3) := by decide +kernel
theorem dX6_reads_7 : decode cX6_reads 7 = .ok (.ifCond .eq 34, 3) := by decide +kernel
theorem dX6_reads_10 : decode cX6_reads 10 = .ok (.aload_n 0, 1) := by decide +kernel
theorem dX6_reads_11 : decode cX6_reads 11 = .ok (.getfield 36, 3) := by decide +kernel
theorem dX6_reads_14 : decode cX6_reads 14 = .ok (.iload_n 2, 1) := by decide +kernel
theorem dX6_reads_15 : decode cX6_reads 15 = .ok (.baload, 1) := by decide +kernel
theorem dX6_reads_16 : decode cX6_reads 16 = .ok (.ifCond .eq 25, 3) := by decide +kernel
theorem dX6_reads_19 : decode cX6_reads 19 = .ok (.iload_n 3, 1) := by decide +kernel
theorem dX6_reads_20 : decode cX6_reads 20 = .ok (.iconst 0, 1) := by decide +kernel
theorem dX6_reads_21 : decode cX6_reads 21 = .ok (.bipush 7, 2) := by decide +kernel
theorem dX6_reads_23 : decode cX6_reads 23 = .ok (.invokestatic 63, 3) := by decide +kernel
theorem dX6_reads_26 : decode cX6_reads 26 = .ok (.ifCond .eq 15, 3) := by decide +kernel
theorem dX6_reads_29 : decode cX6_reads 29 = .ok (.aload_n 0, 1) := by decide +kernel
theorem dX6_reads_30 : decode cX6_reads 30 = .ok (.bipush 8, 2) := by decide +kernel
theorem dX6_reads_32 : decode cX6_reads 32 = .ok (.iload_n 2, 1) := by decide +kernel
theorem dX6_reads_33 : decode cX6_reads 33 = .ok (.iadd, 1) := by decide +kernel
theorem dX6_reads_34 : decode cX6_reads 34 = .ok (.iload_n 1, 1) := by decide +kernel
theorem dX6_reads_35 : decode cX6_reads 35 = .ok (.invokevirtual 79, 3) := by decide +kernel
theorem dX6_reads_38 : decode cX6_reads 38 = .ok (.ifCond .ne 5, 3) := by decide +kernel
theorem dX6_reads_41 : decode cX6_reads 41 = .ok (.iconst 0, 1) := by decide +kernel
theorem dX6_reads_42 : decode cX6_reads 42 = .ok (.ireturn, 1) := by decide +kernel
theorem dX6_reads_43 : decode cX6_reads 43 = .ok (.aload_n 0, 1) := by decide +kernel
theorem dX6_reads_44 : decode cX6_reads 44 = .ok (.getfield 9, 3) := by decide +kernel
theorem dX6_reads_47 : decode cX6_reads 47 = .ok (.sipush 128, 3) := by decide +kernel
theorem dX6_reads_50 : decode cX6_reads 50 = .ok (.iload_n 1, 1) := by decide +kernel
theorem dX6_reads_51 : decode cX6_reads 51 = .ok (.imul, 1) := by decide +kernel
theorem dX6_reads_52 : decode cX6_reads 52 = .ok (.bipush 120, 2) := by decide +kernel
theorem dX6_reads_54 : decode cX6_reads 54 = .ok (.iadd, 1) := by decide +kernel
theorem dX6_reads_55 : decode cX6_reads 55 = .ok (.aload_n 0, 1) := by decide +kernel
theorem dX6_reads_56 : decode cX6_reads 56 = .ok (.getfield 39, 3) := by decide +kernel
theorem dX6_reads_59 : decode cX6_reads 59 = .ok (.bipush 8, 2) := by decide +kernel
theorem dX6_reads_61 : decode cX6_reads 61 = .ok (.iload_n 2, 1) := by decide +kernel
theorem dX6_reads_62 : decode cX6_reads 62 = .ok (.imul, 1) := by decide +kernel
theorem dX6_reads_63 : decode cX6_reads 63 = .ok (.iload_n 3, 1) := by decide +kernel
theorem dX6_reads_64 : decode cX6_reads 64 = .ok (.iadd, 1) := by decide +kernel
theorem dX6_reads_65 : decode cX6_reads 65 = .ok (.iaload, 1) := by decide +kernel
theorem dX6_reads_66 : decode cX6_reads 66 = .ok (.iastore, 1) := by decide +kernel
theorem dX6_reads_67 : decode cX6_reads 67 = .ok (.iconst 1, 1) := by decide +kernel
theorem dX6_reads_68 : decode cX6_reads 68 = .ok (.ireturn, 1) := by decide +kernel
theorem dX6_spawns_0 : decode cX6_spawns 0 = .ok (.iload_n 2, 1) := by decide +kernel
theorem dX6_spawns_1 : decode cX6_spawns 1 = .ok (.iconst 1, 1) := by decide +kernel
theorem dX6_spawns_2 : decode cX6_spawns 2 = .ok (.bipush 7, 2) := by decide +kernel
theorem dX6_spawns_4 : decode cX6_spawns 4 = .ok (.invokestatic 63, 3) := by decide +kernel
theorem dX6_spawns_7 : decode cX6_spawns 7 = .ok (.ifCond .eq 34, 3) := by decide +kernel
theorem dX6_spawns_10 : decode cX6_spawns 10 = .ok (.iload_n 2, 1) := by decide +kernel
theorem dX6_spawns_11 : decode cX6_spawns 11 = .ok (.iconst 1, 1) := by decide +kernel
theorem dX6_spawns_12 : decode cX6_spawns 12 = .ok (.isub, 1) := by decide +kernel
theorem dX6_spawns_13 : decode cX6_spawns 13 = .ok (.iconst 2, 1) := by decide +kernel
theorem dX6_spawns_14 : decode cX6_spawns 14 = .ok (.idiv, 1) := by decide +kernel
theorem dX6_spawns_15 : decode cX6_spawns 15 = .ok (.iload_n 1, 1) := by decide +kernel
theorem dX6_spawns_16 : decode cX6_spawns 16 = .ok (.if_icmp .ne 25, 3) := by decide +kernel
theorem dX6_spawns_19 : decode cX6_spawns 19 = .ok (.aload_n 0, 1) := by decide +kernel
theorem dX6_spawns_20 : decode cX6_spawns 20 = .ok (.getfield 19, 3) := by decide +kernel
theorem dX6_spawns_23 : decode cX6_spawns 23 = .ok (.iload_n 2, 1) := by decide +kernel
theorem dX6_spawns_24 : decode cX6_spawns 24 = .ok (.iaload, 1) := by decide +kernel
theorem dX6_spawns_25 : decode cX6_spawns 25 = .ok (.ifCond .ne 16, 3) := by decide +kernel
theorem dX6_spawns_28 : decode cX6_spawns 28 = .ok (.aload_n 0, 1) := by decide +kernel
theorem dX6_spawns_29 : decode cX6_spawns 29 = .ok (.iload_n 2, 1) := by decide +kernel
theorem dX6_spawns_30 : decode cX6_spawns 30 = .ok (.iload_n 1, 1) := by decide +kernel
theorem dX6_spawns_31 : decode cX6_spawns 31 = .ok (.invokevirtual 79, 3) := by decide +kernel
theorem dX6_spawns_34 : decode cX6_spawns 34 = .ok (.ifCond .eq 7, 3) := by decide +kernel
theorem dX6_spawns_37 : decode cX6_spawns 37 = .ok (.iconst 1, 1) := by decide +kernel
theorem dX6_spawns_38 : decode cX6_spawns 38 = .ok (.goto 4, 3) := by decide +kernel
theorem dX6_spawns_41 : decode cX6_spawns 41 = .ok (.iconst 0, 1) := by decide +kernel
theorem dX6_spawns_42 : decode cX6_spawns 42 = .ok (.istore 5, 2) := by decide +kernel
theorem dX6_spawns_44 : decode cX6_spawns 44 = .ok (.iload 5, 2) := by decide +kernel
theorem dX6_spawns_46 : decode cX6_spawns 46 = .ok (.ifCond .eq 29, 3) := by decide +kernel
theorem dX6_spawns_49 : decode cX6_spawns 49 = .ok (.iload 4, 2) := by decide +kernel
theorem dX6_spawns_51 : decode cX6_spawns 51 = .ok (.iconst 1, 1) := by decide +kernel
theorem dX6_spawns_52 : decode cX6_spawns 52 = .ok (.sipush 128, 3) := by decide +kernel
theorem dX6_spawns_55 : decode cX6_spawns 55 = .ok (.invokestatic 63, 3) := by decide +kernel
theorem dX6_spawns_58 : decode cX6_spawns 58 = .ok (.ifCond .eq 17, 3) := by decide +kernel
theorem dX6_spawns_61 : decode cX6_spawns 61 = .ok (.iload_n 3, 1) := by decide +kernel
theorem dX6_spawns_62 : decode cX6_spawns 62 = .ok (.iconst 0, 1) := by decide +kernel
theorem dX6_spawns_63 : decode cX6_spawns 63 = .ok (.sipush 128, 3) := by decide +kernel
theorem dX6_spawns_66 : decode cX6_spawns 66 = .ok (.iload 4, 2) := by decide +kernel
theorem dX6_spawns_68 : decode cX6_spawns 68 = .ok (.isub, 1) := by decide +kernel
theorem dX6_spawns_69 : decode cX6_spawns 69 = .ok (.invokestatic 63, 3) := by decide +kernel
theorem dX6_spawns_72 : decode cX6_spawns 72 = .ok (.ifCond .ne 5, 3) := by decide +kernel
theorem dX6_spawns_75 : decode cX6_spawns 75 = .ok (.iconst 0, 1) := by decide +kernel
theorem dX6_spawns_76 : decode cX6_spawns 76 = .ok (.ireturn, 1) := by decide +kernel
theorem dX6_spawns_77 : decode cX6_spawns 77 = .ok (.iconst 0, 1) := by decide +kernel
theorem dX6_spawns_78 : decode cX6_spawns 78 = .ok (.istore 6, 2) := by decide +kernel
theorem dX6_spawns_80 : decode cX6_spawns 80 = .ok (.iload 6, 2) := by decide +kernel
theorem dX6_spawns_82 : decode cX6_spawns 82 = .ok (.iload 4, 2) := by decide +kernel
theorem dX6_spawns_84 : decode cX6_spawns 84 = .ok (.if_icmp .ge 37, 3) := by decide +kernel
theorem dX6_spawns_87 : decode cX6_spawns 87 = .ok (.aload_n 0, 1) := by decide +kernel
theorem dX6_spawns_88 : decode cX6_spawns 88 = .ok (.getfield 9, 3) := by decide +kernel
theorem dX6_spawns_91 : decode cX6_spawns 91 = .ok (.sipush 128, 3) := by decide +kernel
theorem dX6_spawns_94 : decode cX6_spawns 94 = .ok (.iload_n 2, 1) := by decide +kernel
theorem dX6_spawns_95 : decode cX6_spawns 95 = .ok (.imul, 1) := by decide +kernel
theorem dX6_spawns_96 : decode cX6_spawns 96 = .ok (.iload 6, 2) := by decide +kernel
theorem dX6_spawns_98 : decode cX6_spawns 98 = .ok (.iadd, 1) := by decide +kernel
theorem dX6_spawns_99 : decode cX6_spawns 99 = .ok (.aload_n 0, 1) := by decide +kernel
theorem dX6_spawns_100 : decode cX6_spawns 100 = .ok (.getfield 9, 3) := by decide +kernel
theorem dX6_spawns_103 : decode cX6_spawns 103 = .ok (.sipush 128, 3) := by decide +kernel
theorem dX6_spawns_106 : decode cX6_spawns 106 = .ok (.iload_n 1, 1) := by decide +kernel
theorem dX6_spawns_107 : decode cX6_spawns 107 = .ok (.imul, 1) := by decide +kernel
theorem dX6_spawns_108 : decode cX6_spawns 108 = .ok (.iload_n 3, 1) := by decide +kernel
theorem dX6_spawns_109 : decode cX6_spawns 109 = .ok (.iadd, 1) := by decide +kernel
theorem dX6_spawns_110 : decode cX6_spawns 110 = .ok (.iload 6, 2) := by decide +kernel
theorem dX6_spawns_112 : decode cX6_spawns 112 = .ok (.iadd, 1) := by decide +kernel
theorem dX6_spawns_113 : decode cX6_spawns 113 = .ok (.iaload, 1) := by decide +kernel
theorem dX6_spawns_114 : decode cX6_spawns 114 = .ok (.iastore, 1) := by decide +kernel
theorem dX6_spawns_115 : decode cX6_spawns 115 = .ok (.iinc 6 1, 3) := by decide +kernel
theorem dX6_spawns_118 : decode cX6_spawns 118 = .ok (.goto (-38), 3) := by decide +kernel
theorem dX6_spawns_121 : decode cX6_spawns 121 = .ok (.aload_n 0, 1) := by decide +kernel
theorem dX6_spawns_122 : decode cX6_spawns 122 = .ok (.getfield 19, 3) := by decide +kernel
theorem dX6_spawns_125 : decode cX6_spawns 125 = .ok (.iload_n 2, 1) := by decide +kernel
theorem dX6_spawns_126 : decode cX6_spawns 126 = .ok (.iconst 1, 1) := by decide +kernel
theorem dX6_spawns_127 : decode cX6_spawns 127 = .ok (.iastore, 1) := by decide +kernel
theorem dX6_spawns_128 : decode cX6_spawns 128 = .ok (.aload_n 0, 1) := by decide +kernel
theorem dX6_spawns_129 : decode cX6_spawns 129 = .ok (.iload_n 1, 1) := by decide +kernel
theorem dX6_spawns_130 : decode cX6_spawns 130 = .ok (.iload_n 2, 1) := by decide +kernel
theorem dX6_spawns_131 : decode cX6_spawns 131 = .ok (.invokevirtual 71, 3) := by decide +kernel
theorem dX6_spawns_134 : decode cX6_spawns 134 = .ok (.iconst 1, 1) := by decide +kernel
theorem dX6_spawns_135 : decode cX6_spawns 135 = .ok (.ireturn, 1) := by decide +kernel
theorem dX6_puts_0 : decode cX6_puts 0 = .ok (.aload_n 0, 1) := by decide +kernel
theorem dX6_puts_1 : decode cX6_puts 1 = .ok (.getfield 54, 3) := by decide +kernel
theorem dX6_puts_4 : decode cX6_puts 4 = .ok (.iload_n 1, 1) := by decide +kernel
theorem dX6_puts_5 : decode cX6_puts 5 = .ok (.iaload, 1) := by decide +kernel
theorem dX6_puts_6 : decode cX6_puts 6 = .ok (.bipush 64, 2) := by decide +kernel
theorem dX6_puts_8 : decode cX6_puts 8 = .ok (.if_icmp .ne 4, 3) := by decide +kernel
theorem dX6_puts_11 : decode cX6_puts 11 = .ok (.return_, 1) := by decide +kernel
theorem dX6_puts_12 : decode cX6_puts 12 = .ok (.aload_n 0, 1) := by decide +kernel
theorem dX6_puts_13 : decode cX6_puts 13 = .ok (.getfield 57, 3) := by decide +kernel
theorem dX6_puts_16 : decode cX6_puts 16 = .ok (.bipush 64, 2) := by decide +kernel
theorem dX6_puts_18 : decode cX6_puts 18 = .ok (.iload_n 1, 1) := by decide +kernel
theorem dX6_puts_19 : decode cX6_puts 19 = .ok (.imul, 1) := by decide +kernel
theorem dX6_puts_20 : decode cX6_puts 20 = .ok (.aload_n 0, 1) := by decide +kernel
theorem dX6_puts_21 : decode cX6_puts 21 = .ok (.getfield 54, 3) := by decide +kernel
theorem dX6_puts_24 : decode cX6_puts 24 = .ok (.iload_n 1, 1) := by decide +kernel
theorem dX6_puts_25 : decode cX6_puts 25 = .ok (.iaload, 1) := by decide +kernel
theorem dX6_puts_26 : decode cX6_puts 26 = .ok (.iadd, 1) := by decide +kernel
theorem dX6_puts_27 : decode cX6_puts 27 = .ok (.iload_n 2, 1) := by decide +kernel
theorem dX6_puts_28 : decode cX6_puts 28 = .ok (.iastore, 1) := by decide +kernel
theorem dX6_puts_29 : decode cX6_puts 29 = .ok (.aload_n 0, 1) := by decide +kernel
theorem dX6_puts_30 : decode cX6_puts 30 = .ok (.getfield 60, 3) := by decide +kernel
theorem dX6_puts_33 : decode cX6_puts 33 = .ok (.bipush 64, 2) := by decide +kernel
theorem dX6_puts_35 : decode cX6_puts 35 = .ok (.iload_n 1, 1) := by decide +kernel
theorem dX6_puts_36 : decode cX6_puts 36 = .ok (.imul, 1) := by decide +kernel
theorem dX6_puts_37 : decode cX6_puts 37 = .ok (.aload_n 0, 1) := by decide +kernel
theorem dX6_puts_38 : decode cX6_puts 38 = .ok (.getfield 54, 3) := by decide +kernel
theorem dX6_puts_41 : decode cX6_puts 41 = .ok (.iload_n 1, 1) := by decide +kernel
theorem dX6_puts_42 : decode cX6_puts 42 = .ok (.iaload, 1) := by decide +kernel
theorem dX6_puts_43 : decode cX6_puts 43 = .ok (.iadd, 1) := by decide +kernel
theorem dX6_puts_44 : decode cX6_puts 44 = .ok (.aload_n 0, 1) := by decide +kernel
theorem dX6_puts_45 : decode cX6_puts 45 = .ok (.iload_n 1, 1) := by decide +kernel
theorem dX6_puts_46 : decode cX6_puts 46 = .ok (.invokevirtual 136, 3) := by decide +kernel
theorem dX6_puts_49 : decode cX6_puts 49 = .ok (.iastore, 1) := by decide +kernel
theorem dX6_puts_50 : decode cX6_puts 50 = .ok (.aload_n 0, 1) := by decide +kernel
theorem dX6_puts_51 : decode cX6_puts 51 = .ok (.getfield 54, 3) := by decide +kernel
theorem dX6_puts_54 : decode cX6_puts 54 = .ok (.iload_n 1, 1) := by decide +kernel
theorem dX6_puts_55 : decode cX6_puts 55 = .ok (.dup2, 1) := by decide +kernel
theorem dX6_puts_56 : decode cX6_puts 56 = .ok (.iaload, 1) := by decide +kernel
theorem dX6_puts_57 : decode cX6_puts 57 = .ok (.iconst 1, 1) := by decide +kernel
theorem dX6_puts_58 : decode cX6_puts 58 = .ok (.iadd, 1) := by decide +kernel
theorem dX6_puts_59 : decode cX6_puts 59 = .ok (.iastore, 1) := by decide +kernel
theorem dX6_puts_60 : decode cX6_puts 60 = .ok (.return_, 1) := by decide +kernel
theorem dX6_poke_0 : decode cX6_poke 0 = .ok (.iload_n 1, 1) := by decide +kernel
theorem dX6_poke_1 : decode cX6_poke 1 = .ok (.invokestatic 75, 3) := by decide +kernel
theorem dX6_poke_4 : decode cX6_poke 4 = .ok (.ifCond .eq 13, 3) := by decide +kernel
theorem dX6_poke_7 : decode cX6_poke 7 = .ok (.iload_n 2, 1) := by decide +kernel
theorem dX6_poke_8 : decode cX6_poke 8 = .ok (.iconst 0, 1) := by decide +kernel
theorem dX6_poke_9 : decode cX6_poke 9 = .ok (.bipush 125, 2) := by decide +kernel
theorem dX6_poke_11 : decode cX6_poke 11 = .ok (.invokestatic 63, 3) := by decide +kernel
theorem dX6_poke_14 : decode cX6_poke 14 = .ok (.ifCond .ne 5, 3) := by decide +kernel
theorem dX6_poke_17 : decode cX6_poke 17 = .ok (.iconst (-1), 1) := by decide +kernel
theorem dX6_poke_18 : decode cX6_poke 18 = .ok (.ireturn, 1) := by decide +kernel
theorem dX6_poke_19 : decode cX6_poke 19 = .ok (.aload_n 0, 1) := by decide +kernel
theorem dX6_poke_20 : decode cX6_poke 20 = .ok (.getfield 9, 3) := by decide +kernel
theorem dX6_poke_23 : decode cX6_poke 23 = .ok (.sipush 128, 3) := by decide +kernel
theorem dX6_poke_26 : decode cX6_poke 26 = .ok (.iload_n 1, 1) := by decide +kernel
theorem dX6_poke_27 : decode cX6_poke 27 = .ok (.imul, 1) := by decide +kernel
theorem dX6_poke_28 : decode cX6_poke 28 = .ok (.iload_n 2, 1) := by decide +kernel
theorem dX6_poke_29 : decode cX6_poke 29 = .ok (.iadd, 1) := by decide +kernel
theorem dX6_poke_30 : decode cX6_poke 30 = .ok (.iload_n 3, 1) := by decide +kernel
theorem dX6_poke_31 : decode cX6_poke 31 = .ok (.iastore, 1) := by decide +kernel
theorem dX6_poke_32 : decode cX6_poke 32 = .ok (.aload_n 0, 1) := by decide +kernel
theorem dX6_poke_33 : decode cX6_poke 33 = .ok (.getfield 9, 3) := by decide +kernel
theorem dX6_poke_36 : decode cX6_poke 36 = .ok (.sipush 128, 3) := by decide +kernel
theorem dX6_poke_39 : decode cX6_poke 39 = .ok (.iload_n 1, 1) := by decide +kernel
theorem dX6_poke_40 : decode cX6_poke 40 = .ok (.imul, 1) := by decide +kernel
theorem dX6_poke_41 : decode cX6_poke 41 = .ok (.iload_n 2, 1) := by decide +kernel
theorem dX6_poke_42 : decode cX6_poke 42 = .ok (.iadd, 1) := by decide +kernel
theorem dX6_poke_43 : decode cX6_poke 43 = .ok (.iconst 1, 1) := by decide +kernel
theorem dX6_poke_44 : decode cX6_poke 44 = .ok (.iadd, 1) := by decide +kernel
theorem dX6_poke_45 : decode cX6_poke 45 = .ok (.iload 4, 2) := by decide +kernel
theorem dX6_poke_47 : decode cX6_poke 47 = .ok (.iastore, 1) := by decide +kernel
theorem dX6_poke_48 : decode cX6_poke 48 = .ok (.aload_n 0, 1) := by decide +kernel
theorem dX6_poke_49 : decode cX6_poke 49 = .ok (.getfield 9, 3) := by decide +kernel
theorem dX6_poke_52 : decode cX6_poke 52 = .ok (.sipush 128, 3) := by decide +kernel
theorem dX6_poke_55 : decode cX6_poke 55 = .ok (.iload_n 1, 1) := by decide +kernel
theorem dX6_poke_56 : decode cX6_poke 56 = .ok (.imul, 1) := by decide +kernel
theorem dX6_poke_57 : decode cX6_poke 57 = .ok (.iload_n 2, 1) := by decide +kernel
theorem dX6_poke_58 : decode cX6_poke 58 = .ok (.iadd, 1) := by decide +kernel
theorem dX6_poke_59 : decode cX6_poke 59 = .ok (.iconst 2, 1) := by decide +kernel
theorem dX6_poke_60 : decode cX6_poke 60 = .ok (.iadd, 1) := by decide +kernel
theorem dX6_poke_61 : decode cX6_poke 61 = .ok (.iload 5, 2) := by decide +kernel
theorem dX6_poke_63 : decode cX6_poke 63 = .ok (.iastore, 1) := by decide +kernel
theorem dX6_poke_64 : decode cX6_poke 64 = .ok (.iconst 1, 1) := by decide +kernel
theorem dX6_poke_65 : decode cX6_poke 65 = .ok (.ireturn, 1) := by decide +kernel
theorem dX6_start_0 : decode cX6_start 0 = .ok (.iload_n 1, 1) := by decide +kernel
theorem dX6_start_1 : decode cX6_start 1 = .ok (.invokestatic 75, 3) := by decide +kernel
theorem dX6_start_4 : decode cX6_start 4 = .ok (.ifCond .eq 12, 3) := by decide +kernel
theorem dX6_start_7 : decode cX6_start 7 = .ok (.aload_n 0, 1) := by decide +kernel
theorem dX6_start_8 : decode cX6_start 8 = .ok (.getfield 19, 3) := by decide +kernel
theorem dX6_start_11 : decode cX6_start 11 = .ok (.iload_n 1, 1) := by decide +kernel
theorem dX6_start_12 : decode cX6_start 12 = .ok (.iaload, 1) := by decide +kernel
theorem dX6_start_13 : decode cX6_start 13 = .ok (.ifCond .eq 5, 3) := by decide +kernel
theorem dX6_start_16 : decode cX6_start 16 = .ok (.iconst (-1), 1) := by decide +kernel
theorem dX6_start_17 : decode cX6_start 17 = .ok (.ireturn, 1) := by decide +kernel
theorem dX6_start_18 : decode cX6_start 18 = .ok (.aload_n 0, 1) := by decide +kernel
theorem dX6_start_19 : decode cX6_start 19 = .ok (.getfield 19, 3) := by decide +kernel
theorem dX6_start_22 : decode cX6_start 22 = .ok (.iload_n 1, 1) := by decide +kernel
theorem dX6_start_23 : decode cX6_start 23 = .ok (.iconst 1, 1) := by decide +kernel
theorem dX6_start_24 : decode cX6_start 24 = .ok (.iastore, 1) := by decide +kernel
theorem dX6_start_25 : decode cX6_start 25 = .ok (.iconst 1, 1) := by decide +kernel
theorem dX6_start_26 : decode cX6_start 26 = .ok (.ireturn, 1) := by decide +kernel
theorem dX6_counter_0 : decode cX6_counter 0 = .ok (.iload_n 1, 1) := by decide +kernel
theorem dX6_counter_1 : decode cX6_counter 1 = .ok (.invokestatic 75, 3) := by decide +kernel
theorem dX6_counter_4 : decode cX6_counter 4 = .ok (.ifCond .eq 13, 3) := by decide +kernel
theorem dX6_counter_7 : decode cX6_counter 7 = .ok (.iload_n 2, 1) := by decide +kernel
theorem dX6_counter_8 : decode cX6_counter 8 = .ok (.iconst 0, 1) := by decide +kernel
theorem dX6_counter_9 : decode cX6_counter 9 = .ok (.bipush 32, 2) := by decide +kernel
theorem dX6_counter_11 : decode cX6_counter 11 = .ok (.invokestatic 63, 3) := by decide +kernel
theorem dX6_counter_14 : decode cX6_counter 14 = .ok (.ifCond .ne 5, 3) := by decide +kernel
theorem dX6_counter_17 : decode cX6_counter 17 = .ok (.iconst (-1), 1) := by decide +kernel
theorem dX6_counter_18 : decode cX6_counter 18 = .ok (.ireturn, 1) := by decide +kernel
theorem dX6_counter_19 : decode cX6_counter 19 = .ok (.aload_n 0, 1) := by decide +kernel
theorem dX6_counter_20 : decode cX6_counter 20 = .ok (.getfield 25, 3) := by decide +kernel
theorem dX6_counter_23 : decode cX6_counter 23 = .ok (.iload_n 1, 1) := by decide +kernel
theorem dX6_counter_24 : decode cX6_counter 24 = .ok (.iaload, 1) := by decide +kernel
theorem dX6_counter_25 : decode cX6_counter 25 = .ok (.istore_n 3, 1) := by decide +kernel
theorem dX6_counter_26 : decode cX6_counter 26 = .ok (.iload_n 2, 1) := by decide +kernel
theorem dX6_counter_27 : decode cX6_counter 27 = .ok (.iload_n 3, 1) := by decide +kernel
theorem dX6_counter_28 : decode cX6_counter 28 = .ok (.if_icmp .ge 6, 3) := by decide +kernel
theorem dX6_counter_31 : decode cX6_counter 31 = .ok (.bipush (-2), 2) := by decide +kernel
theorem dX6_counter_33 : decode cX6_counter 33 = .ok (.ireturn, 1) := by decide +kernel
theorem dX6_counter_34 : decode cX6_counter 34 = .ok (.aload_n 0, 1) := by decide +kernel
theorem dX6_counter_35 : decode cX6_counter 35 = .ok (.getfield 25, 3) := by decide +kernel
theorem dX6_counter_38 : decode cX6_counter 38 = .ok (.iload_n 1, 1) := by decide +kernel
theorem dX6_counter_39 : decode cX6_counter 39 = .ok (.iload_n 2, 1) := by decide +kernel
theorem dX6_counter_40 : decode cX6_counter 40 = .ok (.iastore, 1) := by decide +kernel
theorem dX6_counter_41 : decode cX6_counter 41 = .ok (.iload_n 3, 1) := by decide +kernel
theorem dX6_counter_42 : decode cX6_counter 42 = .ok (.ireturn, 1) := by decide +kernel
theorem dX6_setTag_0 : decode cX6_setTag 0 = .ok (.iload_n 3, 1) := by decide +kernel
theorem dX6_setTag_1 : decode cX6_setTag 1 = .ok (.ifCond .eq 30, 3) := by decide +kernel
theorem dX6_setTag_4 : decode cX6_setTag 4 = .ok (.aload_n 0, 1) := by decide +kernel
theorem dX6_setTag_5 : decode cX6_setTag 5 = .ok (.getfield 29, 3) := by decide +kernel
theorem dX6_setTag_8 : decode cX6_setTag 8 = .ok (.sipush 256, 3) := by decide +kernel
theorem dX6_setTag_11 : decode cX6_setTag 11 = .ok (.iload_n 1, 1) := by decide +kernel
theorem dX6_setTag_12 : decode cX6_setTag 12 = .ok (.imul, 1) := by decide +kernel
theorem dX6_setTag_13 : decode cX6_setTag 13 = .ok (.iload_n 2, 1) := by decide +kernel
theorem dX6_setTag_14 : decode cX6_setTag 14 = .ok (.iadd, 1) := by decide +kernel
theorem dX6_setTag_15 : decode cX6_setTag 15 = .ok (.baload, 1) := by decide +kernel
theorem dX6_setTag_16 : decode cX6_setTag 16 = .ok (.ifCond .ne 15, 3) := by decide +kernel
theorem dX6_setTag_19 : decode cX6_setTag 19 = .ok (.aload_n 0, 1) := by decide +kernel
theorem dX6_setTag_20 : decode cX6_setTag 20 = .ok (.iload_n 1, 1) := by decide +kernel
theorem dX6_setTag_21 : decode cX6_setTag 21 = .ok (.invokevirtual 136, 3) := by decide +kernel
theorem dX6_setTag_24 : decode cX6_setTag 24 = .ok (.bipush 16, 2) := by decide +kernel
theorem dX6_setTag_26 : decode cX6_setTag 26 = .ok (.if_icmp .ne 5, 3) := by decide +kernel
theorem dX6_setTag_29 : decode cX6_setTag 29 = .ok (.iconst (-1), 1) := by decide +kernel
theorem dX6_setTag_30 : decode cX6_setTag 30 = .ok (.ireturn, 1) := by decide +kernel
theorem dX6_setTag_31 : decode cX6_setTag 31 = .ok (.aload_n 0, 1) := by decide +kernel
theorem dX6_setTag_32 : decode cX6_setTag 32 = .ok (.getfield 29, 3) := by decide +kernel
theorem dX6_setTag_35 : decode cX6_setTag 35 = .ok (.sipush 256, 3) := by decide +kernel
theorem dX6_setTag_38 : decode cX6_setTag 38 = .ok (.iload_n 1, 1) := by decide +kernel
theorem dX6_setTag_39 : decode cX6_setTag 39 = .ok (.imul, 1) := by decide +kernel
theorem dX6_setTag_40 : decode cX6_setTag 40 = .ok (.iload_n 2, 1) := by decide +kernel
theorem dX6_setTag_41 : decode cX6_setTag 41 = .ok (.iadd, 1) := by decide +kernel
theorem dX6_setTag_42 : decode cX6_setTag 42 = .ok (.iload_n 3, 1) := by decide +kernel
theorem dX6_setTag_43 : decode cX6_setTag 43 = .ok (.bastore, 1) := by decide +kernel
theorem dX6_setTag_44 : decode cX6_setTag 44 = .ok (.aload_n 0, 1) := by decide +kernel
theorem dX6_setTag_45 : decode cX6_setTag 45 = .ok (.iload_n 1, 1) := by decide +kernel
theorem dX6_setTag_46 : decode cX6_setTag 46 = .ok (.invokevirtual 136, 3) := by decide +kernel
theorem dX6_setTag_49 : decode cX6_setTag 49 = .ok (.ireturn, 1) := by decide +kernel
theorem dX6_tag_0 : decode cX6_tag 0 = .ok (.iload_n 1, 1) := by decide +kernel
theorem dX6_tag_1 : decode cX6_tag 1 = .ok (.invokestatic 75, 3) := by decide +kernel
theorem dX6_tag_4 : decode cX6_tag 4 = .ok (.ifCond .eq 21, 3) := by decide +kernel
theorem dX6_tag_7 : decode cX6_tag 7 = .ok (.aload_n 0, 1) := by decide +kernel
theorem dX6_tag_8 : decode cX6_tag 8 = .ok (.iload_n 2, 1) := by decide +kernel
theorem dX6_tag_9 : decode cX6_tag 9 = .ok (.invokevirtual 147, 3) := by decide +kernel
theorem dX6_tag_12 : decode cX6_tag 12 = .ok (.ifCond .eq 13, 3) := by decide +kernel
theorem dX6_tag_15 : decode cX6_tag 15 = .ok (.aload_n 0, 1) := by decide +kernel
theorem dX6_tag_16 : decode cX6_tag 16 = .ok (.iload_n 1, 1) := by decide +kernel
theorem dX6_tag_17 : decode cX6_tag 17 = .ok (.iload_n 2, 1) := by decide +kernel
theorem dX6_tag_18 : decode cX6_tag 18 = .ok (.iload_n 3, 1) := by decide +kernel
theorem dX6_tag_19 : decode cX6_tag 19 = .ok (.invokevirtual 150, 3) := by decide +kernel
theorem dX6_tag_22 : decode cX6_tag 22 = .ok (.goto 4, 3) := by decide +kernel
theorem dX6_tag_25 : decode cX6_tag 25 = .ok (.iconst (-1), 1) := by decide +kernel
theorem dX6_tag_26 : decode cX6_tag 26 = .ok (.ireturn, 1) := by decide +kernel
theorem dX6_capability_0 : decode cX6_capability 0 = .ok (.iload_n 1, 1) := by decide +kernel
theorem dX6_capability_1 : decode cX6_capability 1 = .ok (.invokestatic 75, 3) := by decide +kernel
theorem dX6_capability_4 : decode cX6_capability 4 = .ok (.ifCond .eq 20, 3) := by decide +kernel
theorem dX6_capability_7 : decode cX6_capability 7 = .ok (.iload_n 2, 1) := by decide +kernel
theorem dX6_capability_8 : decode cX6_capability 8 = .ok (.iconst 0, 1) := by decide +kernel
theorem dX6_capability_9 : decode cX6_capability 9 = .ok (.iconst 1, 1) := by decide +kernel
theorem dX6_capability_10 : decode cX6_capability 10 = .ok (.invokestatic 63, 3) := by decide +kernel
theorem dX6_capability_13 : decode cX6_capability 13 = .ok (.ifCond .eq 11, 3) := by decide +kernel
theorem dX6_capability_16 : decode cX6_capability 16 = .ok (.aload_n 0, 1) := by decide +kernel
theorem dX6_capability_17 : decode cX6_capability 17 = .ok (.iload_n 3, 1) := by decide +kernel
theorem dX6_capability_18 : decode cX6_capability 18 = .ok (.invokevirtual 147, 3) := by decide +kernel
theorem dX6_capability_21 : decode cX6_capability 21 = .ok (.ifCond .ne 5, 3) := by decide +kernel
theorem dX6_capability_24 : decode cX6_capability 24 = .ok (.iconst (-1), 1) := by decide +kernel
theorem dX6_capability_25 : decode cX6_capability 25 = .ok (.ireturn, 1) := by decide +kernel
theorem dX6_capability_26 : decode cX6_capability 26 = .ok (.aload_n 0, 1) := by decide +kernel
theorem dX6_capability_27 : decode cX6_capability 27 = .ok (.iload_n 1, 1) := by decide +kernel
theorem dX6_capability_28 : decode cX6_capability 28 = .ok (.iload_n 2, 1) := by decide +kernel
theorem dX6_capability_29 : decode cX6_capability 29 = .ok (.iload_n 3, 1) := by decide +kernel
theorem dX6_capability_30 : decode cX6_capability 30 = .ok (.invokevirtual 67, 3) := by decide +kernel
theorem dX6_capability_33 : decode cX6_capability 33 = .ok (.istore 5, 2) := by decide +kernel
theorem dX6_capability_35 : decode cX6_capability 35 = .ok (.iload 4, 2) := by decide +kernel
theorem dX6_capability_37 : decode cX6_capability 37 = .ok (.ifCond .eq 26, 3) := by decide +kernel
theorem dX6_capability_40 : decode cX6_capability 40 = .ok (.aload_n 0, 1) := by decide +kernel
theorem dX6_capability_41 : decode cX6_capability 41 = .ok (.getfield 33, 3) := by decide +kernel
theorem dX6_capability_44 : decode cX6_capability 44 = .ok (.iload 5, 2) := by decide +kernel
theorem dX6_capability_46 : decode cX6_capability 46 = .ok (.baload, 1) := by decide +kernel
theorem dX6_capability_47 : decode cX6_capability 47 = .ok (.ifCond .ne 16, 3) := by decide +kernel
theorem dX6_capability_50 : decode cX6_capability 50 = .ok (.aload_n 0, 1) := by decide +kernel
theorem dX6_capability_51 : decode cX6_capability 51 = .ok (.iload_n 1, 1) := by decide +kernel
theorem dX6_capability_52 : decode cX6_capability 52 = .ok (.iload_n 2, 1) := by decide +kernel
theorem dX6_capability_53 : decode cX6_capability 53 = .ok (.invokevirtual 139, 3) := by decide +kernel
theorem dX6_capability_56 : decode cX6_capability 56 = .ok (.bipush 40, 2) := by decide +kernel
theorem dX6_capability_58 : decode cX6_capability 58 = .ok (.if_icmp .ne 5, 3) := by decide +kernel
theorem dX6_capability_61 : decode cX6_capability 61 = .ok (.iconst (-1), 1) := by decide +kernel
theorem dX6_capability_62 : decode cX6_capability 62 = .ok (.ireturn, 1) := by decide +kernel
theorem dX6_capability_63 : decode cX6_capability 63 = .ok (.aload_n 0, 1) := by decide +kernel
theorem dX6_capability_64 : decode cX6_capability 64 = .ok (.getfield 33, 3) := by decide +kernel
theorem dX6_capability_67 : decode cX6_capability 67 = .ok (.iload 5, 2) := by decide +kernel
theorem dX6_capability_69 : decode cX6_capability 69 = .ok (.iload 4, 2) := by decide +kernel
theorem dX6_capability_71 : decode cX6_capability 71 = .ok (.bastore, 1) := by decide +kernel
theorem dX6_capability_72 : decode cX6_capability 72 = .ok (.aload_n 0, 1) := by decide +kernel
theorem dX6_capability_73 : decode cX6_capability 73 = .ok (.iload_n 1, 1) := by decide +kernel
theorem dX6_capability_74 : decode cX6_capability 74 = .ok (.iload_n 2, 1) := by decide +kernel
theorem dX6_capability_75 : decode cX6_capability 75 = .ok (.invokevirtual 139, 3) := by decide +kernel
theorem dX6_capability_78 : decode cX6_capability 78 = .ok (.ireturn, 1) := by decide +kernel
theorem dX6_file_0 : decode cX6_file 0 = .ok (.iload_n 1, 1) := by decide +kernel
theorem dX6_file_1 : decode cX6_file 1 = .ok (.iconst 0, 1) := by decide +kernel
theorem dX6_file_2 : decode cX6_file 2 = .ok (.bipush 63, 2) := by decide +kernel
theorem dX6_file_4 : decode cX6_file 4 = .ok (.invokestatic 63, 3) := by decide +kernel
theorem dX6_file_7 : decode cX6_file 7 = .ok (.ifCond .eq 15, 3) := by decide +kernel
theorem dX6_file_10 : decode cX6_file 10 = .ok (.iload_n 2, 1) := by decide +kernel
theorem dX6_file_11 : decode cX6_file 11 = .ok (.ifCond .lt 13, 3) := by decide +kernel
theorem dX6_file_14 : decode cX6_file 14 = .ok (.aload_n 0, 1) := by decide +kernel
theorem dX6_file_15 : decode cX6_file 15 = .ok (.iload_n 2, 1) := by decide +kernel
theorem dX6_file_16 : decode cX6_file 16 = .ok (.invokevirtual 147, 3) := by decide +kernel
theorem dX6_file_19 : decode cX6_file 19 = .ok (.ifCond .ne 5, 3) := by decide +kernel
theorem dX6_file_22 : decode cX6_file 22 = .ok (.iconst (-1), 1) := by decide +kernel
theorem dX6_file_23 : decode cX6_file 23 = .ok (.ireturn, 1) := by decide +kernel
theorem dX6_file_24 : decode cX6_file 24 = .ok (.aload_n 0, 1) := by decide +kernel
theorem dX6_file_25 : decode cX6_file 25 = .ok (.getfield 36, 3) := by decide +kernel
theorem dX6_file_28 : decode cX6_file 28 = .ok (.iload_n 1, 1) := by decide +kernel
theorem dX6_file_29 : decode cX6_file 29 = .ok (.baload, 1) := by decide +kernel
theorem dX6_file_30 : decode cX6_file 30 = .ok (.ifCond .ne 67, 3) := by decide +kernel
theorem dX6_file_33 : decode cX6_file 33 = .ok (.aload_n 0, 1) := by decide +kernel
theorem dX6_file_34 : decode cX6_file 34 = .ok (.getfield 36, 3) := by decide +kernel
theorem dX6_file_37 : decode cX6_file 37 = .ok (.iload_n 1, 1) := by decide +kernel
theorem dX6_file_38 : decode cX6_file 38 = .ok (.iconst 1, 1) := by decide +kernel
theorem dX6_file_39 : decode cX6_file 39 = .ok (.bastore, 1) := by decide +kernel
theorem dX6_file_40 : decode cX6_file 40 = .ok (.iconst 0, 1) := by decide +kernel
theorem dX6_file_41 : decode cX6_file 41 = .ok (.istore_n 3, 1) := by decide +kernel
theorem dX6_file_42 : decode cX6_file 42 = .ok (.iload_n 3, 1) := by decide +kernel
theorem dX6_file_43 : decode cX6_file 43 = .ok (.sipush 256, 3) := by decide +kernel
theorem dX6_file_46 : decode cX6_file 46 = .ok (.if_icmp .ge 25, 3) := by decide +kernel
theorem dX6_file_49 : decode cX6_file 49 = .ok (.aload_n 0, 1) := by decide +kernel
theorem dX6_file_50 : decode cX6_file 50 = .ok (.getfield 29, 3) := by decide +kernel
theorem dX6_file_53 : decode cX6_file 53 = .ok (.sipush 256, 3) := by decide +kernel
theorem dX6_file_56 : decode cX6_file 56 = .ok (.bipush 8, 2) := by decide +kernel
theorem dX6_file_58 : decode cX6_file 58 = .ok (.iload_n 1, 1) := by decide +kernel
theorem dX6_file_59 : decode cX6_file 59 = .ok (.iadd, 1) := by decide +kernel
theorem dX6_file_60 : decode cX6_file 60 = .ok (.imul, 1) := by decide +kernel
theorem dX6_file_61 : decode cX6_file 61 = .ok (.iload_n 3, 1) := by decide +kernel
theorem dX6_file_62 : decode cX6_file 62 = .ok (.iadd, 1) := by decide +kernel
theorem dX6_file_63 : decode cX6_file 63 = .ok (.iconst 0, 1) := by decide +kernel
theorem dX6_file_64 : decode cX6_file 64 = .ok (.bastore, 1) := by decide +kernel
theorem dX6_file_65 : decode cX6_file 65 = .ok (.iinc 3 1, 3) := by decide +kernel
theorem dX6_file_68 : decode cX6_file 68 = .ok (.goto (-26), 3) := by decide +kernel
theorem dX6_file_71 : decode cX6_file 71 = .ok (.iconst 0, 1) := by decide +kernel
theorem dX6_file_72 : decode cX6_file 72 = .ok (.istore_n 3, 1) := by decide +kernel
theorem dX6_file_73 : decode cX6_file 73 = .ok (.iload_n 3, 1) := by decide +kernel
theorem dX6_file_74 : decode cX6_file 74 = .ok (.bipush 8, 2) := by decide +kernel
theorem dX6_file_76 : decode cX6_file 76 = .ok (.if_icmp .ge 21, 3) := by decide +kernel
theorem dX6_file_79 : decode cX6_file 79 = .ok (.aload_n 0, 1) := by decide +kernel
theorem dX6_file_80 : decode cX6_file 80 = .ok (.getfield 39, 3) := by decide +kernel
theorem dX6_file_83 : decode cX6_file 83 = .ok (.bipush 8, 2) := by decide +kernel
theorem dX6_file_85 : decode cX6_file 85 = .ok (.iload_n 1, 1) := by decide +kernel
theorem dX6_file_86 : decode cX6_file 86 = .ok (.imul, 1) := by decide +kernel
theorem dX6_file_87 : decode cX6_file 87 = .ok (.iload_n 3, 1) := by decide +kernel
theorem dX6_file_88 : decode cX6_file 88 = .ok (.iadd, 1) := by decide +kernel
theorem dX6_file_89 : decode cX6_file 89 = .ok (.iconst 0, 1) := by decide +kernel
theorem dX6_file_90 : decode cX6_file 90 = .ok (.iastore, 1) := by decide +kernel
theorem dX6_file_91 : decode cX6_file 91 = .ok (.iinc 3 1, 3) := by decide +kernel
theorem dX6_file_94 : decode cX6_file 94 = .ok (.goto (-21), 3) := by decide +kernel
theorem dX6_file_97 : decode cX6_file 97 = .ok (.iload_n 2, 1) := by decide +kernel
theorem dX6_file_98 : decode cX6_file 98 = .ok (.ifCond .ge 14, 3) := by decide +kernel
theorem dX6_file_101 : decode cX6_file 101 = .ok (.aload_n 0, 1) := by decide +kernel
theorem dX6_file_102 : decode cX6_file 102 = .ok (.bipush 8, 2) := by decide +kernel
theorem dX6_file_104 : decode cX6_file 104 = .ok (.iload_n 1, 1) := by decide +kernel
theorem dX6_file_105 : decode cX6_file 105 = .ok (.iadd, 1) := by decide +kernel
theorem dX6_file_106 : decode cX6_file 106 = .ok (.invokevirtual 136, 3) := by decide +kernel
theorem dX6_file_109 : decode cX6_file 109 = .ok (.goto 13, 3) := by decide +kernel
theorem dX6_file_112 : decode cX6_file 112 = .ok (.aload_n 0, 1) := by decide +kernel
theorem dX6_file_113 : decode cX6_file 113 = .ok (.bipush 8, 2) := by decide +kernel
theorem dX6_file_115 : decode cX6_file 115 = .ok (.iload_n 1, 1) := by decide +kernel
theorem dX6_file_116 : decode cX6_file 116 = .ok (.iadd, 1) := by decide +kernel
theorem dX6_file_117 : decode cX6_file 117 = .ok (.iload_n 2, 1) := by decide +kernel
theorem dX6_file_118 : decode cX6_file 118 = .ok (.iconst 1, 1) := by decide +kernel
theorem dX6_file_119 : decode cX6_file 119 = .ok (.invokevirtual 150, 3) := by decide +kernel
theorem dX6_file_122 : decode cX6_file 122 = .ok (.ireturn, 1) := by decide +kernel
theorem dX6_isContent_0 : decode cX6_isContent 0 = .ok (.iload_n 1, 1) := by decide +kernel
theorem dX6_isContent_1 : decode cX6_isContent 1 = .ok (.iconst 0, 1) := by decide +kernel
theorem dX6_isContent_2 : decode cX6_isContent 2 = .ok (.bipush 63, 2) := by decide +kernel
theorem dX6_isContent_4 : decode cX6_isContent 4 = .ok (.invokestatic 63, 3) := by decide +kernel
theorem dX6_isContent_7 : decode cX6_isContent 7 = .ok (.ifCond .eq 26, 3) := by decide +kernel
theorem dX6_isContent_10 : decode cX6_isContent 10 = .ok (.aload_n 0, 1) := by decide +kernel
theorem dX6_isContent_11 : decode cX6_isContent 11 = .ok (.getfield 36, 3) := by decide +kernel
theorem dX6_isContent_14 : decode cX6_isContent 14 = .ok (.iload_n 1, 1) := by decide +kernel
theorem dX6_isContent_15 : decode cX6_isContent 15 = .ok (.baload, 1) := by decide +kernel
theorem dX6_isContent_16 : decode cX6_isContent 16 = .ok (.ifCond .eq 17, 3) := by decide +kernel
theorem dX6_isContent_19 : decode cX6_isContent 19 = .ok (.iload_n 2, 1) := by decide +kernel
theorem dX6_isContent_20 : decode cX6_isContent 20 = .ok (.iconst 0, 1) := by decide +kernel
theorem dX6_isContent_21 : decode cX6_isContent 21 = .ok (.bipush 7, 2) := by decide +kernel
theorem dX6_isContent_23 : decode cX6_isContent 23 = .ok (.invokestatic 63, 3) := by decide +kernel
theorem dX6_isContent_26 : decode cX6_isContent 26 = .ok (.ifCond .eq 7, 3) := by decide +kernel
theorem dX6_isContent_29 : decode cX6_isContent 29 = .ok (.iconst 1, 1) := by decide +kernel
theorem dX6_isContent_30 : decode cX6_isContent 30 = .ok (.goto 4, 3) := by decide +kernel
theorem dX6_isContent_33 : decode cX6_isContent 33 = .ok (.iconst 0, 1) := by decide +kernel
theorem dX6_isContent_34 : decode cX6_isContent 34 = .ok (.ireturn, 1) := by decide +kernel
theorem dX6_fill_0 : decode cX6_fill 0 = .ok (.aload_n 0, 1) := by decide +kernel
theorem dX6_fill_1 : decode cX6_fill 1 = .ok (.iload_n 1, 1) := by decide +kernel
theorem dX6_fill_2 : decode cX6_fill 2 = .ok (.iload_n 2, 1) := by decide +kernel
theorem dX6_fill_3 : decode cX6_fill 3 = .ok (.invokevirtual 154, 3) := by decide +kernel
theorem dX6_fill_6 : decode cX6_fill 6 = .ok (.ifCond .ne 5, 3) := by decide +kernel
theorem dX6_fill_9 : decode cX6_fill 9 = .ok (.iconst 0, 1) := by decide +kernel
theorem dX6_fill_10 : decode cX6_fill 10 = .ok (.ireturn, 1) := by decide +kernel
theorem dX6_fill_11 : decode cX6_fill 11 = .ok (.aload_n 0, 1) := by decide +kernel
theorem dX6_fill_12 : decode cX6_fill 12 = .ok (.getfield 39, 3) := by decide +kernel
theorem dX6_fill_15 : decode cX6_fill 15 = .ok (.bipush 8, 2) := by decide +kernel
theorem dX6_fill_17 : decode cX6_fill 17 = .ok (.iload_n 1, 1) := by decide +kernel
theorem dX6_fill_18 : decode cX6_fill 18 = .ok (.imul, 1) := by decide +kernel
theorem dX6_fill_19 : decode cX6_fill 19 = .ok (.iload_n 2, 1) := by decide +kernel
theorem dX6_fill_20 : decode cX6_fill 20 = .ok (.iadd, 1) := by decide +kernel
theorem dX6_fill_21 : decode cX6_fill 21 = .ok (.iaload, 1) := by decide +kernel
theorem dX6_fill_22 : decode cX6_fill 22 = .ok (.istore 4, 2) := by decide +kernel
theorem dX6_fill_24 : decode cX6_fill 24 = .ok (.aload_n 0, 1) := by decide +kernel
theorem dX6_fill_25 : decode cX6_fill 25 = .ok (.getfield 39, 3) := by decide +kernel
theorem dX6_fill_28 : decode cX6_fill 28 = .ok (.bipush 8, 2) := by decide +kernel
theorem dX6_fill_30 : decode cX6_fill 30 = .ok (.iload_n 1, 1) := by decide +kernel
theorem dX6_fill_31 : decode cX6_fill 31 = .ok (.imul, 1) := by decide +kernel
theorem dX6_fill_32 : decode cX6_fill 32 = .ok (.iload_n 2, 1) := by decide +kernel
theorem dX6_fill_33 : decode cX6_fill 33 = .ok (.iadd, 1) := by decide +kernel
theorem dX6_fill_34 : decode cX6_fill 34 = .ok (.iload_n 3, 1) := by decide +kernel
theorem dX6_fill_35 : decode cX6_fill 35 = .ok (.iastore, 1) := by decide +kernel
theorem dX6_fill_36 : decode cX6_fill 36 = .ok (.iload 4, 2) := by decide +kernel
theorem dX6_fill_38 : decode cX6_fill 38 = .ok (.ireturn, 1) := by decide +kernel
theorem dX6_post_0 : decode cX6_post 0 = .ok (.iload_n 1, 1) := by decide +kernel
theorem dX6_post_1 : decode cX6_post 1 = .ok (.invokestatic 75, 3) := by decide +kernel
theorem dX6_post_4 : decode cX6_post 4 = .ok (.ifCond .eq 21, 3) := by decide +kernel
theorem dX6_post_7 : decode cX6_post 7 = .ok (.iload_n 2, 1) := by decide +kernel
theorem dX6_post_8 : decode cX6_post 8 = .ok (.invokestatic 75, 3) := by decide +kernel
theorem dX6_post_11 : decode cX6_post 11 = .ok (.ifCond .eq 14, 3) := by decide +kernel
theorem dX6_post_14 : decode cX6_post 14 = .ok (.aload_n 0, 1) := by decide +kernel
theorem dX6_post_15 : decode cX6_post 15 = .ok (.getfield 42, 3) := by decide +kernel
theorem dX6_post_18 : decode cX6_post 18 = .ok (.iload_n 2, 1) := by decide +kernel
theorem dX6_post_19 : decode cX6_post 19 = .ok (.iaload, 1) := by decide +kernel
theorem dX6_post_20 : decode cX6_post 20 = .ok (.bipush 8, 2) := by decide +kernel
theorem dX6_post_22 : decode cX6_post 22 = .ok (.if_icmp .ne 5, 3) := by decide +kernel
theorem dX6_post_25 : decode cX6_post 25 = .ok (.iconst (-1), 1) := by decide +kernel
theorem dX6_post_26 : decode cX6_post 26 = .ok (.ireturn, 1) := by decide +kernel
theorem dX6_post_27 : decode cX6_post 27 = .ok (.aload_n 0, 1) := by decide +kernel
theorem dX6_post_28 : decode cX6_post 28 = .ok (.iload_n 1, 1) := by decide +kernel
theorem dX6_post_29 : decode cX6_post 29 = .ok (.iload_n 2, 1) := by decide +kernel
theorem dX6_post_30 : decode cX6_post 30 = .ok (.iload_n 3, 1) := by decide +kernel
theorem dX6_post_31 : decode cX6_post 31 = .ok (.iconst (-1), 1) := by decide +kernel
theorem dX6_post_32 : decode cX6_post 32 = .ok (.invokevirtual 83, 3) := by decide +kernel
theorem dX6_post_35 : decode cX6_post 35 = .ok (.aload_n 0, 1) := by decide +kernel
theorem dX6_post_36 : decode cX6_post 36 = .ok (.getfield 42, 3) := by decide +kernel
theorem dX6_post_39 : decode cX6_post 39 = .ok (.iload_n 2, 1) := by decide +kernel
theorem dX6_post_40 : decode cX6_post 40 = .ok (.iaload, 1) := by decide +kernel
theorem dX6_post_41 : decode cX6_post 41 = .ok (.ireturn, 1) := by decide +kernel
theorem dX6_run_0 : decode cX6_run 0 = .ok (.iload_n 1, 1) := by decide +kernel
theorem dX6_run_1 : decode cX6_run 1 = .ok (.iconst 0, 1) := by decide +kernel
theorem dX6_run_2 : decode cX6_run 2 = .ok (.sipush 5000, 3) := by decide +kernel
theorem dX6_run_5 : decode cX6_run 5 = .ok (.invokestatic 63, 3) := by decide +kernel
theorem dX6_run_8 : decode cX6_run 8 = .ok (.ifCond .ne 5, 3) := by decide +kernel
theorem dX6_run_11 : decode cX6_run 11 = .ok (.iconst (-1), 1) := by decide +kernel
theorem dX6_run_12 : decode cX6_run 12 = .ok (.ireturn, 1) := by decide +kernel
theorem dX6_run_13 : decode cX6_run 13 = .ok (.iconst 0, 1) := by decide +kernel
theorem dX6_run_14 : decode cX6_run 14 = .ok (.istore_n 2, 1) := by decide +kernel
theorem dX6_run_15 : decode cX6_run 15 = .ok (.iload_n 2, 1) := by decide +kernel
theorem dX6_run_16 : decode cX6_run 16 = .ok (.iload_n 1, 1) := by decide +kernel
theorem dX6_run_17 : decode cX6_run 17 = .ok (.if_icmp .ge 30, 3) := by decide +kernel
theorem dX6_run_20 : decode cX6_run 20 = .ok (.aload_n 0, 1) := by decide +kernel
theorem dX6_run_21 : decode cX6_run 21 = .ok (.aload_n 0, 1) := by decide +kernel
theorem dX6_run_22 : decode cX6_run 22 = .ok (.getfield 157, 3) := by decide +kernel
theorem dX6_run_25 : decode cX6_run 25 = .ok (.bipush 8, 2) := by decide +kernel
theorem dX6_run_27 : decode cX6_run 27 = .ok (.irem, 1) := by decide +kernel
theorem dX6_run_28 : decode cX6_run 28 = .ok (.invokevirtual 161, 3) := by decide +kernel
theorem dX6_run_31 : decode cX6_run 31 = .ok (.aload_n 0, 1) := by decide +kernel
theorem dX6_run_32 : decode cX6_run 32 = .ok (.dup, 1) := by decide +kernel
theorem dX6_run_33 : decode cX6_run 33 = .ok (.getfield 157, 3) := by decide +kernel
theorem dX6_run_36 : decode cX6_run 36 = .ok (.iconst 1, 1) := by decide +kernel
theorem dX6_run_37 : decode cX6_run 37 = .ok (.iadd, 1) := by decide +kernel
theorem dX6_run_38 : decode cX6_run 38 = .ok (.putfield 157, 3) := by decide +kernel
theorem dX6_run_41 : decode cX6_run 41 = .ok (.iinc 2 1, 3) := by decide +kernel
theorem dX6_run_44 : decode cX6_run 44 = .ok (.goto (-29), 3) := by decide +kernel
theorem dX6_run_47 : decode cX6_run 47 = .ok (.aload_n 0, 1) := by decide +kernel
theorem dX6_run_48 : decode cX6_run 48 = .ok (.getfield 157, 3) := by decide +kernel
theorem dX6_run_51 : decode cX6_run 51 = .ok (.ireturn, 1) := by decide +kernel
theorem dX6_cell_0 : decode cX6_cell 0 = .ok (.iload_n 1, 1) := by decide +kernel
theorem dX6_cell_1 : decode cX6_cell 1 = .ok (.invokestatic 75, 3) := by decide +kernel
theorem dX6_cell_4 : decode cX6_cell 4 = .ok (.ifCond .eq 25, 3) := by decide +kernel
theorem dX6_cell_7 : decode cX6_cell 7 = .ok (.iload_n 2, 1) := by decide +kernel
theorem dX6_cell_8 : decode cX6_cell 8 = .ok (.invokestatic 87, 3) := by decide +kernel
theorem dX6_cell_11 : decode cX6_cell 11 = .ok (.ifCond .eq 18, 3) := by decide +kernel
theorem dX6_cell_14 : decode cX6_cell 14 = .ok (.aload_n 0, 1) := by decide +kernel
theorem dX6_cell_15 : decode cX6_cell 15 = .ok (.getfield 9, 3) := by decide +kernel
theorem dX6_cell_18 : decode cX6_cell 18 = .ok (.sipush 128, 3) := by decide +kernel
theorem dX6_cell_21 : decode cX6_cell 21 = .ok (.iload_n 1, 1) := by decide +kernel
theorem dX6_cell_22 : decode cX6_cell 22 = .ok (.imul, 1) := by decide +kernel
theorem dX6_cell_23 : decode cX6_cell 23 = .ok (.iload_n 2, 1) := by decide +kernel
theorem dX6_cell_24 : decode cX6_cell 24 = .ok (.iadd, 1) := by decide +kernel
theorem dX6_cell_25 : decode cX6_cell 25 = .ok (.iaload, 1) := by decide +kernel
theorem dX6_cell_26 : decode cX6_cell 26 = .ok (.goto 4, 3) := by decide +kernel
theorem dX6_cell_29 : decode cX6_cell 29 = .ok (.iconst 0, 1) := by decide +kernel
theorem dX6_cell_30 : decode cX6_cell 30 = .ok (.ireturn, 1) := by decide +kernel
theorem dX6_slot_0 : decode cX6_slot 0 = .ok (.iload_n 1, 1) := by decide +kernel
theorem dX6_slot_1 : decode cX6_slot 1 = .ok (.invokestatic 75, 3) := by decide +kernel
theorem dX6_slot_4 : decode cX6_slot 4 = .ok (.ifCond .ne 5, 3) := by decide +kernel
theorem dX6_slot_7 : decode cX6_slot 7 = .ok (.iconst (-1), 1) := by decide +kernel
theorem dX6_slot_8 : decode cX6_slot 8 = .ok (.ireturn, 1) := by decide +kernel
theorem dX6_slot_9 : decode cX6_slot 9 = .ok (.iload_n 2, 1) := by decide +kernel
theorem dX6_slot_10 : decode cX6_slot 10 = .ok (.tableswitch 173 0 10 #[58, 65, 72, 79, 86, 92, 99, 106, 113, 120, 166], 58) := by decide +kernel
theorem dX6_slot_68 : decode cX6_slot 68 = .ok (.aload_n 0, 1) := by decide +kernel
theorem dX6_slot_69 : decode cX6_slot 69 = .ok (.getfield 19, 3) := by decide +kernel
theorem dX6_slot_72 : decode cX6_slot 72 = .ok (.iload_n 1, 1) := by decide +kernel
theorem dX6_slot_73 : decode cX6_slot 73 = .ok (.iaload, 1) := by decide +kernel
theorem dX6_slot_74 : decode cX6_slot 74 = .ok (.ireturn, 1) := by decide +kernel
theorem dX6_slot_75 : decode cX6_slot 75 = .ok (.aload_n 0, 1) := by decide +kernel
theorem dX6_slot_76 : decode cX6_slot 76 = .ok (.getfield 22, 3) := by decide +kernel
theorem dX6_slot_79 : decode cX6_slot 79 = .ok (.iload_n 1, 1) := by decide +kernel
theorem dX6_slot_80 : decode cX6_slot 80 = .ok (.iaload, 1) := by decide +kernel
theorem dX6_slot_81 : decode cX6_slot 81 = .ok (.ireturn, 1) := by decide +kernel
theorem dX6_slot_82 : decode cX6_slot 82 = .ok (.aload_n 0, 1) := by decide +kernel
theorem dX6_slot_83 : decode cX6_slot 83 = .ok (.getfield 13, 3) := by decide +kernel
theorem dX6_slot_86 : decode cX6_slot 86 = .ok (.iload_n 1, 1) := by decide +kernel
theorem dX6_slot_87 : decode cX6_slot 87 = .ok (.iaload, 1) := by decide +kernel
theorem dX6_slot_88 : decode cX6_slot 88 = .ok (.ireturn, 1) := by decide +kernel
theorem dX6_slot_89 : decode cX6_slot 89 = .ok (.aload_n 0, 1) := by decide +kernel
theorem dX6_slot_90 : decode cX6_slot 90 = .ok (.getfield 16, 3) := by decide +kernel
theorem dX6_slot_93 : decode cX6_slot 93 = .ok (.iload_n 1, 1) := by decide +kernel
theorem dX6_slot_94 : decode cX6_slot 94 = .ok (.iaload, 1) := by decide +kernel
theorem dX6_slot_95 : decode cX6_slot 95 = .ok (.ireturn, 1) := by decide +kernel
theorem dX6_slot_96 : decode cX6_slot 96 = .ok (.aload_n 0, 1) := by decide +kernel
theorem dX6_slot_97 : decode cX6_slot 97 = .ok (.iload_n 1, 1) := by decide +kernel
theorem dX6_slot_98 : decode cX6_slot 98 = .ok (.invokevirtual 136, 3) := by decide +kernel
theorem dX6_slot_101 : decode cX6_slot 101 = .ok (.ireturn, 1) := by decide +kernel
theorem dX6_slot_102 : decode cX6_slot 102 = .ok (.aload_n 0, 1) := by decide +kernel
theorem dX6_slot_103 : decode cX6_slot 103 = .ok (.getfield 25, 3) := by decide +kernel
theorem dX6_slot_106 : decode cX6_slot 106 = .ok (.iload_n 1, 1) := by decide +kernel
theorem dX6_slot_107 : decode cX6_slot 107 = .ok (.iaload, 1) := by decide +kernel
theorem dX6_slot_108 : decode cX6_slot 108 = .ok (.ireturn, 1) := by decide +kernel
theorem dX6_slot_109 : decode cX6_slot 109 = .ok (.aload_n 0, 1) := by decide +kernel
theorem dX6_slot_110 : decode cX6_slot 110 = .ok (.iload_n 1, 1) := by decide +kernel
theorem dX6_slot_111 : decode cX6_slot 111 = .ok (.iconst 0, 1) := by decide +kernel
theorem dX6_slot_112 : decode cX6_slot 112 = .ok (.invokevirtual 139, 3) := by decide +kernel
theorem dX6_slot_115 : decode cX6_slot 115 = .ok (.ireturn, 1) := by decide +kernel
theorem dX6_slot_116 : decode cX6_slot 116 = .ok (.aload_n 0, 1) := by decide +kernel
theorem dX6_slot_117 : decode cX6_slot 117 = .ok (.iload_n 1, 1) := by decide +kernel
theorem dX6_slot_118 : decode cX6_slot 118 = .ok (.iconst 1, 1) := by decide +kernel
theorem dX6_slot_119 : decode cX6_slot 119 = .ok (.invokevirtual 139, 3) := by decide +kernel
theorem dX6_slot_122 : decode cX6_slot 122 = .ok (.ireturn, 1) := by decide +kernel
theorem dX6_slot_123 : decode cX6_slot 123 = .ok (.aload_n 0, 1) := by decide +kernel
theorem dX6_slot_124 : decode cX6_slot 124 = .ok (.getfield 42, 3) := by decide +kernel
theorem dX6_slot_127 : decode cX6_slot 127 = .ok (.iload_n 1, 1) := by decide +kernel
theorem dX6_slot_128 : decode cX6_slot 128 = .ok (.iaload, 1) := by decide +kernel
theorem dX6_slot_129 : decode cX6_slot 129 = .ok (.ireturn, 1) := by decide +kernel
theorem dX6_slot_130 : decode cX6_slot 130 = .ok (.iconst 0, 1) := by decide +kernel
theorem dX6_slot_131 : decode cX6_slot 131 = .ok (.istore_n 3, 1) := by decide +kernel
theorem dX6_slot_132 : decode cX6_slot 132 = .ok (.bipush 8, 2) := by decide +kernel
theorem dX6_slot_134 : decode cX6_slot 134 = .ok (.iload_n 1, 1) := by decide +kernel
theorem dX6_slot_135 : decode cX6_slot 135 = .ok (.imul, 1) := by decide +kernel
theorem dX6_slot_136 : decode cX6_slot 136 = .ok (.istore 4, 2) := by decide +kernel
theorem dX6_slot_138 : decode cX6_slot 138 = .ok (.iload 4, 2) := by decide +kernel
theorem dX6_slot_140 : decode cX6_slot 140 = .ok (.bipush 8, 2) := by decide +kernel
theorem dX6_slot_142 : decode cX6_slot 142 = .ok (.iload_n 1, 1) := by decide +kernel
theorem dX6_slot_143 : decode cX6_slot 143 = .ok (.imul, 1) := by decide +kernel
theorem dX6_slot_144 : decode cX6_slot 144 = .ok (.bipush 8, 2) := by decide +kernel
theorem dX6_slot_146 : decode cX6_slot 146 = .ok (.iadd, 1) := by decide +kernel
theorem dX6_slot_147 : decode cX6_slot 147 = .ok (.if_icmp .ge 27, 3) := by decide +kernel
theorem dX6_slot_150 : decode cX6_slot 150 = .ok (.iload_n 3, 1) := by decide +kernel
theorem dX6_slot_151 : decode cX6_slot 151 = .ok (.aload_n 0, 1) := by decide +kernel
theorem dX6_slot_152 : decode cX6_slot 152 = .ok (.getfield 36, 3) := by decide +kernel
theorem dX6_slot_155 : decode cX6_slot 155 = .ok (.iload 4, 2) := by decide +kernel
theorem dX6_slot_157 : decode cX6_slot 157 = .ok (.baload, 1) := by decide +kernel
theorem dX6_slot_158 : decode cX6_slot 158 = .ok (.ifCond .eq 7, 3) := by decide +kernel
theorem dX6_slot_161 : decode cX6_slot 161 = .ok (.iconst 1, 1) := by decide +kernel
theorem dX6_slot_162 : decode cX6_slot 162 = .ok (.goto 4, 3) := by decide +kernel
theorem dX6_slot_165 : decode cX6_slot 165 = .ok (.iconst 0, 1) := by decide +kernel
theorem dX6_slot_166 : decode cX6_slot 166 = .ok (.iadd, 1) := by decide +kernel
theorem dX6_slot_167 : decode cX6_slot 167 = .ok (.istore_n 3, 1) := by decide +kernel
theorem dX6_slot_168 : decode cX6_slot 168 = .ok (.iinc 4 1, 3) := by decide +kernel
theorem dX6_slot_171 : decode cX6_slot 171 = .ok (.goto (-33), 3) := by decide +kernel
theorem dX6_slot_174 : decode cX6_slot 174 = .ok (.iload_n 3, 1) := by decide +kernel
theorem dX6_slot_175 : decode cX6_slot 175 = .ok (.ireturn, 1) := by decide +kernel
theorem dX6_slot_176 : decode cX6_slot 176 = .ok (.aload_n 0, 1) := by decide +kernel
theorem dX6_slot_177 : decode cX6_slot 177 = .ok (.getfield 54, 3) := by decide +kernel
theorem dX6_slot_180 : decode cX6_slot 180 = .ok (.iload_n 1, 1) := by decide +kernel
theorem dX6_slot_181 : decode cX6_slot 181 = .ok (.iaload, 1) := by decide +kernel
theorem dX6_slot_182 : decode cX6_slot 182 = .ok (.ireturn, 1) := by decide +kernel
theorem dX6_slot_183 : decode cX6_slot 183 = .ok (.iconst (-1), 1) := by decide +kernel
theorem dX6_slot_184 : decode cX6_slot 184 = .ok (.ireturn, 1) := by decide +kernel
theorem dX6_label_0 : decode cX6_label 0 = .ok (.iconst 0, 1) := by decide +kernel
theorem dX6_label_1 : decode cX6_label 1 = .ok (.istore_n 3, 1) := by decide +kernel
theorem dX6_label_2 : decode cX6_label 2 = .ok (.iconst 0, 1) := by decide +kernel
theorem dX6_label_3 : decode cX6_label 3 = .ok (.istore 4, 2) := by decide +kernel
theorem dX6_label_5 : decode cX6_label 5 = .ok (.iload 4, 2) := by decide +kernel
theorem dX6_label_7 : decode cX6_label 7 = .ok (.sipush 256, 3) := by decide +kernel
theorem dX6_label_10 : decode cX6_label 10 = .ok (.if_icmp .ge 46, 3) := by decide +kernel
theorem dX6_label_13 : decode cX6_label 13 = .ok (.iload_n 1, 1) := by decide +kernel
theorem dX6_label_14 : decode cX6_label 14 = .ok (.invokestatic 75, 3) := by decide +kernel
theorem dX6_label_17 : decode cX6_label 17 = .ok (.ifCond .eq 39, 3) := by decide +kernel
theorem dX6_label_20 : decode cX6_label 20 = .ok (.aload_n 0, 1) := by decide +kernel
theorem dX6_label_21 : decode cX6_label 21 = .ok (.getfield 29, 3) := by decide +kernel
theorem dX6_label_24 : decode cX6_label 24 = .ok (.sipush 256, 3) := by decide +kernel
theorem dX6_label_27 : decode cX6_label 27 = .ok (.iload_n 1, 1) := by decide +kernel
theorem dX6_label_28 : decode cX6_label 28 = .ok (.imul, 1) := by decide +kernel
theorem dX6_label_29 : decode cX6_label 29 = .ok (.iload 4, 2) := by decide +kernel
theorem dX6_label_31 : decode cX6_label 31 = .ok (.iadd, 1) := by decide +kernel
theorem dX6_label_32 : decode cX6_label 32 = .ok (.baload, 1) := by decide +kernel
theorem dX6_label_33 : decode cX6_label 33 = .ok (.ifCond .ne 6, 3) := by decide +kernel
theorem dX6_label_36 : decode cX6_label 36 = .ok (.goto 14, 3) := by decide +kernel
theorem dX6_label_39 : decode cX6_label 39 = .ok (.iload_n 3, 1) := by decide +kernel
theorem dX6_label_40 : decode cX6_label 40 = .ok (.iload_n 2, 1) := by decide +kernel
theorem dX6_label_41 : decode cX6_label 41 = .ok (.if_icmp .ne 6, 3) := by decide +kernel
theorem dX6_label_44 : decode cX6_label 44 = .ok (.iload 4, 2) := by decide +kernel
theorem dX6_label_46 : decode cX6_label 46 = .ok (.ireturn, 1) := by decide +kernel
theorem dX6_label_47 : decode cX6_label 47 = .ok (.iinc 3 1, 3) := by decide +kernel
theorem dX6_label_50 : decode cX6_label 50 = .ok (.iinc 4 1, 3) := by decide +kernel
theorem dX6_label_53 : decode cX6_label 53 = .ok (.goto (-48), 3) := by decide +kernel
theorem dX6_label_56 : decode cX6_label 56 = .ok (.iconst (-1), 1) := by decide +kernel
theorem dX6_label_57 : decode cX6_label 57 = .ok (.ireturn, 1) := by decide +kernel
theorem dX6_isOutput_0 : decode cX6_isOutput 0 = .ok (.iload_n 1, 1) := by decide +kernel
theorem dX6_isOutput_1 : decode cX6_isOutput 1 = .ok (.invokestatic 75, 3) := by decide +kernel
theorem dX6_isOutput_4 : decode cX6_isOutput 4 = .ok (.ifCond .eq 23, 3) := by decide +kernel
theorem dX6_isOutput_7 : decode cX6_isOutput 7 = .ok (.iload_n 2, 1) := by decide +kernel
theorem dX6_isOutput_8 : decode cX6_isOutput 8 = .ok (.iconst 0, 1) := by decide +kernel
theorem dX6_isOutput_9 : decode cX6_isOutput 9 = .ok (.aload_n 0, 1) := by decide +kernel
theorem dX6_isOutput_10 : decode cX6_isOutput 10 = .ok (.getfield 54, 3) := by decide +kernel
theorem dX6_isOutput_13 : decode cX6_isOutput 13 = .ok (.iload_n 1, 1) := by decide +kernel
theorem dX6_isOutput_14 : decode cX6_isOutput 14 = .ok (.iaload, 1) := by decide +kernel
theorem dX6_isOutput_15 : decode cX6_isOutput 15 = .ok (.iconst 1, 1) := by decide +kernel
theorem dX6_isOutput_16 : decode cX6_isOutput 16 = .ok (.isub, 1) := by decide +kernel
theorem dX6_isOutput_17 : decode cX6_isOutput 17 = .ok (.invokestatic 63, 3) := by decide +kernel
theorem dX6_isOutput_20 : decode cX6_isOutput 20 = .ok (.ifCond .eq 7, 3) := by decide +kernel
theorem dX6_isOutput_23 : decode cX6_isOutput 23 = .ok (.iconst 1, 1) := by decide +kernel
theorem dX6_isOutput_24 : decode cX6_isOutput 24 = .ok (.goto 4, 3) := by decide +kernel
theorem dX6_isOutput_27 : decode cX6_isOutput 27 = .ok (.iconst 0, 1) := by decide +kernel
theorem dX6_isOutput_28 : decode cX6_isOutput 28 = .ok (.ireturn, 1) := by decide +kernel
theorem dX6_output_0 : decode cX6_output 0 = .ok (.aload_n 0, 1) := by decide +kernel
theorem dX6_output_1 : decode cX6_output 1 = .ok (.iload_n 1, 1) := by decide +kernel
theorem dX6_output_2 : decode cX6_output 2 = .ok (.iload_n 2, 1) := by decide +kernel
theorem dX6_output_3 : decode cX6_output 3 = .ok (.invokevirtual 164, 3) := by decide +kernel
theorem dX6_output_6 : decode cX6_output 6 = .ok (.ifCond .eq 17, 3) := by decide +kernel
theorem dX6_output_9 : decode cX6_output 9 = .ok (.aload_n 0, 1) := by decide +kernel
theorem dX6_output_10 : decode cX6_output 10 = .ok (.getfield 57, 3) := by decide +kernel
theorem dX6_output_13 : decode cX6_output 13 = .ok (.bipush 64, 2) := by decide +kernel
theorem dX6_output_15 : decode cX6_output 15 = .ok (.iload_n 1, 1) := by decide +kernel
theorem dX6_output_16 : decode cX6_output 16 = .ok (.imul, 1) := by decide +kernel
theorem dX6_output_17 : decode cX6_output 17 = .ok (.iload_n 2, 1) := by decide +kernel
theorem dX6_output_18 : decode cX6_output 18 = .ok (.iadd, 1) := by decide +kernel
theorem dX6_output_19 : decode cX6_output 19 = .ok (.iaload, 1) := by decide +kernel
theorem dX6_output_20 : decode cX6_output 20 = .ok (.goto 4, 3) := by decide +kernel
theorem dX6_output_23 : decode cX6_output 23 = .ok (.iconst 0, 1) := by decide +kernel
theorem dX6_output_24 : decode cX6_output 24 = .ok (.ireturn, 1) := by decide +kernel
theorem dX6_outputTags_0 : decode cX6_outputTags 0 = .ok (.aload_n 0, 1) := by decide +kernel
theorem dX6_outputTags_1 : decode cX6_outputTags 1 = .ok (.iload_n 1, 1) := by decide +kernel
theorem dX6_outputTags_2 : decode cX6_outputTags 2 = .ok (.iload_n 2, 1) := by decide +kernel
theorem dX6_outputTags_3 : decode cX6_outputTags 3 = .ok (.invokevirtual 164, 3) := by decide +kernel
theorem dX6_outputTags_6 : decode cX6_outputTags 6 = .ok (.ifCond .eq 17, 3) := by decide +kernel
theorem dX6_outputTags_9 : decode cX6_outputTags 9 = .ok (.aload_n 0, 1) := by decide +kernel
theorem dX6_outputTags_10 : decode cX6_outputTags 10 = .ok (.getfield 60, 3) := by decide +kernel
theorem dX6_outputTags_13 : decode cX6_outputTags 13 = .ok (.bipush 64, 2) := by decide +kernel
theorem dX6_outputTags_15 : decode cX6_outputTags 15 = .ok (.iload_n 1, 1) := by decide +kernel
theorem dX6_outputTags_16 : decode cX6_outputTags 16 = .ok (.imul, 1) := by decide +kernel
theorem dX6_outputTags_17 : decode cX6_outputTags 17 = .ok (.iload_n 2, 1) := by decide +kernel
theorem dX6_outputTags_18 : decode cX6_outputTags 18 = .ok (.iadd, 1) := by decide +kernel
theorem dX6_outputTags_19 : decode cX6_outputTags 19 = .ok (.iaload, 1) := by decide +kernel
theorem dX6_outputTags_20 : decode cX6_outputTags 20 = .ok (.goto 4, 3) := by decide +kernel
theorem dX6_outputTags_23 : decode cX6_outputTags 23 = .ok (.iconst (-1), 1) := by decide +kernel
theorem dX6_outputTags_24 : decode cX6_outputTags 24 = .ok (.ireturn, 1) := by decide +kernel
theorem dX6_content_0 : decode cX6_content 0 = .ok (.aload_n 0, 1) := by decide +kernel
theorem dX6_content_1 : decode cX6_content 1 = .ok (.iload_n 1, 1) := by decide +kernel
theorem dX6_content_2 : decode cX6_content 2 = .ok (.iload_n 2, 1) := by decide +kernel
theorem dX6_content_3 : decode cX6_content 3 = .ok (.invokevirtual 154, 3) := by decide +kernel
theorem dX6_content_6 : decode cX6_content 6 = .ok (.ifCond .eq 17, 3) := by decide +kernel
theorem dX6_content_9 : decode cX6_content 9 = .ok (.aload_n 0, 1) := by decide +kernel
theorem dX6_content_10 : decode cX6_content 10 = .ok (.getfield 39, 3) := by decide +kernel
theorem dX6_content_13 : decode cX6_content 13 = .ok (.bipush 8, 2) := by decide +kernel
theorem dX6_content_15 : decode cX6_content 15 = .ok (.iload_n 1, 1) := by decide +kernel
theorem dX6_content_16 : decode cX6_content 16 = .ok (.imul, 1) := by decide +kernel
theorem dX6_content_17 : decode cX6_content 17 = .ok (.iload_n 2, 1) := by decide +kernel
theorem dX6_content_18 : decode cX6_content 18 = .ok (.iadd, 1) := by decide +kernel
theorem dX6_content_19 : decode cX6_content 19 = .ok (.iaload, 1) := by decide +kernel
theorem dX6_content_20 : decode cX6_content 20 = .ok (.goto 4, 3) := by decide +kernel
theorem dX6_content_23 : decode cX6_content 23 = .ok (.iconst 0, 1) := by decide +kernel
theorem dX6_content_24 : decode cX6_content 24 = .ok (.ireturn, 1) := by decide +kernel
theorem dX6_fileTags_0 : decode cX6_fileTags 0 = .ok (.iload_n 1, 1) := by decide +kernel
theorem dX6_fileTags_1 : decode cX6_fileTags 1 = .ok (.iconst 0, 1) := by decide +kernel
theorem dX6_fileTags_2 : decode cX6_fileTags 2 = .ok (.bipush 63, 2) := by decide +kernel
theorem dX6_fileTags_4 : decode cX6_fileTags 4 = .ok (.invokestatic 63, 3) := by decide +kernel
theorem dX6_fileTags_7 : decode cX6_fileTags 7 = .ok (.ifCond .eq 23, 3) := by decide +kernel
theorem dX6_fileTags_10 : decode cX6_fileTags 10 = .ok (.aload_n 0, 1) := by decide +kernel
theorem dX6_fileTags_11 : decode cX6_fileTags 11 = .ok (.getfield 36, 3) := by decide +kernel
theorem dX6_fileTags_14 : decode cX6_fileTags 14 = .ok (.iload_n 1, 1) := by decide +kernel
theorem dX6_fileTags_15 : decode cX6_fileTags 15 = .ok (.baload, 1) := by decide +kernel
theorem dX6_fileTags_16 : decode cX6_fileTags 16 = .ok (.ifCond .eq 14, 3) := by decide +kernel
theorem dX6_fileTags_19 : decode cX6_fileTags 19 = .ok (.aload_n 0, 1) := by decide +kernel
theorem dX6_fileTags_20 : decode cX6_fileTags 20 = .ok (.bipush 8, 2) := by decide +kernel
theorem dX6_fileTags_22 : decode cX6_fileTags 22 = .ok (.iload_n 1, 1) := by decide +kernel
theorem dX6_fileTags_23 : decode cX6_fileTags 23 = .ok (.iadd, 1) := by decide +kernel
theorem dX6_fileTags_24 : decode cX6_fileTags 24 = .ok (.invokevirtual 136, 3) := by decide +kernel
theorem dX6_fileTags_27 : decode cX6_fileTags 27 = .ok (.goto 4, 3) := by decide +kernel
theorem dX6_fileTags_30 : decode cX6_fileTags 30 = .ok (.iconst (-1), 1) := by decide +kernel
theorem dX6_fileTags_31 : decode cX6_fileTags 31 = .ok (.ireturn, 1) := by decide +kernel
theorem dX6_mayFlow_0 : decode cX6_mayFlow 0 = .ok (.iload_n 1, 1) := by decide +kernel
theorem dX6_mayFlow_1 : decode cX6_mayFlow 1 = .ok (.invokestatic 75, 3) := by decide +kernel
theorem dX6_mayFlow_4 : decode cX6_mayFlow 4 = .ok (.ifCond .eq 23, 3) := by decide +kernel
theorem dX6_mayFlow_7 : decode cX6_mayFlow 7 = .ok (.iload_n 2, 1) := by decide +kernel
theorem dX6_mayFlow_8 : decode cX6_mayFlow 8 = .ok (.invokestatic 75, 3) := by decide +kernel
theorem dX6_mayFlow_11 : decode cX6_mayFlow 11 = .ok (.ifCond .eq 16, 3) := by decide +kernel
theorem dX6_mayFlow_14 : decode cX6_mayFlow 14 = .ok (.aload_n 0, 1) := by decide +kernel
theorem dX6_mayFlow_15 : decode cX6_mayFlow 15 = .ok (.iload_n 1, 1) := by decide +kernel
theorem dX6_mayFlow_16 : decode cX6_mayFlow 16 = .ok (.iload_n 2, 1) := by decide +kernel
theorem dX6_mayFlow_17 : decode cX6_mayFlow 17 = .ok (.invokevirtual 79, 3) := by decide +kernel
theorem dX6_mayFlow_20 : decode cX6_mayFlow 20 = .ok (.ifCond .eq 7, 3) := by decide +kernel
theorem dX6_mayFlow_23 : decode cX6_mayFlow 23 = .ok (.iconst 1, 1) := by decide +kernel
theorem dX6_mayFlow_24 : decode cX6_mayFlow 24 = .ok (.goto 4, 3) := by decide +kernel
theorem dX6_mayFlow_27 : decode cX6_mayFlow 27 = .ok (.iconst 0, 1) := by decide +kernel
theorem dX6_mayFlow_28 : decode cX6_mayFlow 28 = .ok (.ireturn, 1) := by decide +kernel
end
section
theorem dL_law_0 : decode cL_law 0 = .ok (.new 7, 3) := by decide +kernel
theorem dL_law_3 : decode cL_law 3 = .ok (.dup, 1) := by decide +kernel
theorem dL_law_4 : decode cL_law 4 = .ok (.invokespecial 9, 3) := by decide +kernel
theorem dL_law_7 : decode cL_law 7 = .ok (.astore_n 1, 1) := by decide +kernel
theorem dL_law_8 : decode cL_law 8 = .ok (.new 10, 3) := by decide +kernel
theorem dL_law_11 : decode cL_law 11 = .ok (.dup, 1) := by decide +kernel
theorem dL_law_12 : decode cL_law 12 = .ok (.invokespecial 12, 3) := by decide +kernel
theorem dL_law_15 : decode cL_law 15 = .ok (.astore_n 2, 1) := by decide +kernel
theorem dL_law_16 : decode cL_law 16 = .ok (.iconst 0, 1) := by decide +kernel
theorem dL_law_17 : decode cL_law 17 = .ok (.istore_n 3, 1) := by decide +kernel
theorem dL_law_18 : decode cL_law 18 = .ok (.iload_n 3, 1) := by decide +kernel
theorem dL_law_19 : decode cL_law 19 = .ok (.aload_n 0, 1) := by decide +kernel
theorem dL_law_20 : decode cL_law 20 = .ok (.arraylength, 1) := by decide +kernel
theorem dL_law_21 : decode cL_law 21 = .ok (.bipush 6, 2) := by decide +kernel
theorem dL_law_23 : decode cL_law 23 = .ok (.isub, 1) := by decide +kernel
theorem dL_law_24 : decode cL_law 24 = .ok (.if_icmp .gt 741, 3) := by decide +kernel
theorem dL_law_27 : decode cL_law 27 = .ok (.aload_n 0, 1) := by decide +kernel
theorem dL_law_28 : decode cL_law 28 = .ok (.iload_n 3, 1) := by decide +kernel
theorem dL_law_29 : decode cL_law 29 = .ok (.iaload, 1) := by decide +kernel
theorem dL_law_30 : decode cL_law 30 = .ok (.bipush 31, 2) := by decide +kernel
theorem dL_law_32 : decode cL_law 32 = .ok (.iand, 1) := by decide +kernel
theorem dL_law_33 : decode cL_law 33 = .ok (.tableswitch 726 0 16 #[83, 146, 169, 202, 261, 330, 363, 406, 449, 472, 505, 538, 571, 604, 637, 670, 693], 83) := by decide +kernel
theorem dL_law_116 : decode cL_law 116 = .ok (.aload_n 1, 1) := by decide +kernel
theorem dL_law_117 : decode cL_law 117 = .ok (.aload_n 0, 1) := by decide +kernel
theorem dL_law_118 : decode cL_law 118 = .ok (.iload_n 3, 1) := by decide +kernel
theorem dL_law_119 : decode cL_law 119 = .ok (.iconst 1, 1) := by decide +kernel
theorem dL_law_120 : decode cL_law 120 = .ok (.iadd, 1) := by decide +kernel
theorem dL_law_121 : decode cL_law 121 = .ok (.iaload, 1) := by decide +kernel
theorem dL_law_122 : decode cL_law 122 = .ok (.aload_n 0, 1) := by decide +kernel
theorem dL_law_123 : decode cL_law 123 = .ok (.iload_n 3, 1) := by decide +kernel
theorem dL_law_124 : decode cL_law 124 = .ok (.iconst 2, 1) := by decide +kernel
theorem dL_law_125 : decode cL_law 125 = .ok (.iadd, 1) := by decide +kernel
theorem dL_law_126 : decode cL_law 126 = .ok (.iaload, 1) := by decide +kernel
theorem dL_law_127 : decode cL_law 127 = .ok (.aload_n 0, 1) := by decide +kernel
theorem dL_law_128 : decode cL_law 128 = .ok (.iload_n 3, 1) := by decide +kernel
theorem dL_law_129 : decode cL_law 129 = .ok (.iconst 3, 1) := by decide +kernel
theorem dL_law_130 : decode cL_law 130 = .ok (.iadd, 1) := by decide +kernel
theorem dL_law_131 : decode cL_law 131 = .ok (.iaload, 1) := by decide +kernel
theorem dL_law_132 : decode cL_law 132 = .ok (.aload_n 0, 1) := by decide +kernel
theorem dL_law_133 : decode cL_law 133 = .ok (.iload_n 3, 1) := by decide +kernel
theorem dL_law_134 : decode cL_law 134 = .ok (.iconst 4, 1) := by decide +kernel
theorem dL_law_135 : decode cL_law 135 = .ok (.iadd, 1) := by decide +kernel
theorem dL_law_136 : decode cL_law 136 = .ok (.iaload, 1) := by decide +kernel
theorem dL_law_137 : decode cL_law 137 = .ok (.aload_n 0, 1) := by decide +kernel
theorem dL_law_138 : decode cL_law 138 = .ok (.iload_n 3, 1) := by decide +kernel
theorem dL_law_139 : decode cL_law 139 = .ok (.iconst 5, 1) := by decide +kernel
theorem dL_law_140 : decode cL_law 140 = .ok (.iadd, 1) := by decide +kernel
theorem dL_law_141 : decode cL_law 141 = .ok (.iaload, 1) := by decide +kernel
theorem dL_law_142 : decode cL_law 142 = .ok (.invokevirtual 13, 3) := by decide +kernel
theorem dL_law_145 : decode cL_law 145 = .ok (.aload_n 2, 1) := by decide +kernel
theorem dL_law_146 : decode cL_law 146 = .ok (.aload_n 0, 1) := by decide +kernel
theorem dL_law_147 : decode cL_law 147 = .ok (.iload_n 3, 1) := by decide +kernel
theorem dL_law_148 : decode cL_law 148 = .ok (.iconst 1, 1) := by decide +kernel
theorem dL_law_149 : decode cL_law 149 = .ok (.iadd, 1) := by decide +kernel
theorem dL_law_150 : decode cL_law 150 = .ok (.iaload, 1) := by decide +kernel
theorem dL_law_151 : decode cL_law 151 = .ok (.aload_n 0, 1) := by decide +kernel
theorem dL_law_152 : decode cL_law 152 = .ok (.iload_n 3, 1) := by decide +kernel
theorem dL_law_153 : decode cL_law 153 = .ok (.iconst 2, 1) := by decide +kernel
theorem dL_law_154 : decode cL_law 154 = .ok (.iadd, 1) := by decide +kernel
theorem dL_law_155 : decode cL_law 155 = .ok (.iaload, 1) := by decide +kernel
theorem dL_law_156 : decode cL_law 156 = .ok (.aload_n 0, 1) := by decide +kernel
theorem dL_law_157 : decode cL_law 157 = .ok (.iload_n 3, 1) := by decide +kernel
theorem dL_law_158 : decode cL_law 158 = .ok (.iconst 3, 1) := by decide +kernel
theorem dL_law_159 : decode cL_law 159 = .ok (.iadd, 1) := by decide +kernel
theorem dL_law_160 : decode cL_law 160 = .ok (.iaload, 1) := by decide +kernel
theorem dL_law_161 : decode cL_law 161 = .ok (.aload_n 0, 1) := by decide +kernel
theorem dL_law_162 : decode cL_law 162 = .ok (.iload_n 3, 1) := by decide +kernel
theorem dL_law_163 : decode cL_law 163 = .ok (.iconst 4, 1) := by decide +kernel
theorem dL_law_164 : decode cL_law 164 = .ok (.iadd, 1) := by decide +kernel
theorem dL_law_165 : decode cL_law 165 = .ok (.iaload, 1) := by decide +kernel
theorem dL_law_166 : decode cL_law 166 = .ok (.aload_n 0, 1) := by decide +kernel
theorem dL_law_167 : decode cL_law 167 = .ok (.iload_n 3, 1) := by decide +kernel
theorem dL_law_168 : decode cL_law 168 = .ok (.iconst 5, 1) := by decide +kernel
theorem dL_law_169 : decode cL_law 169 = .ok (.iadd, 1) := by decide +kernel
theorem dL_law_170 : decode cL_law 170 = .ok (.iaload, 1) := by decide +kernel
theorem dL_law_171 : decode cL_law 171 = .ok (.invokevirtual 17, 3) := by decide +kernel
theorem dL_law_174 : decode cL_law 174 = .ok (.if_icmp .eq 585, 3) := by decide +kernel
theorem dL_law_177 : decode cL_law 177 = .ok (.iconst 0, 1) := by decide +kernel
theorem dL_law_178 : decode cL_law 178 = .ok (.ireturn, 1) := by decide +kernel
theorem dL_law_179 : decode cL_law 179 = .ok (.aload_n 1, 1) := by decide +kernel
theorem dL_law_180 : decode cL_law 180 = .ok (.aload_n 0, 1) := by decide +kernel
theorem dL_law_181 : decode cL_law 181 = .ok (.iload_n 3, 1) := by decide +kernel
theorem dL_law_182 : decode cL_law 182 = .ok (.iconst 1, 1) := by decide +kernel
theorem dL_law_183 : decode cL_law 183 = .ok (.iadd, 1) := by decide +kernel
theorem dL_law_184 : decode cL_law 184 = .ok (.iaload, 1) := by decide +kernel
theorem dL_law_185 : decode cL_law 185 = .ok (.invokevirtual 18, 3) := by decide +kernel
theorem dL_law_188 : decode cL_law 188 = .ok (.aload_n 2, 1) := by decide +kernel
theorem dL_law_189 : decode cL_law 189 = .ok (.aload_n 0, 1) := by decide +kernel
theorem dL_law_190 : decode cL_law 190 = .ok (.iload_n 3, 1) := by decide +kernel
theorem dL_law_191 : decode cL_law 191 = .ok (.iconst 1, 1) := by decide +kernel
theorem dL_law_192 : decode cL_law 192 = .ok (.iadd, 1) := by decide +kernel
theorem dL_law_193 : decode cL_law 193 = .ok (.iaload, 1) := by decide +kernel
theorem dL_law_194 : decode cL_law 194 = .ok (.invokevirtual 22, 3) := by decide +kernel
theorem dL_law_197 : decode cL_law 197 = .ok (.if_icmp .eq 562, 3) := by decide +kernel
theorem dL_law_200 : decode cL_law 200 = .ok (.iconst 0, 1) := by decide +kernel
theorem dL_law_201 : decode cL_law 201 = .ok (.ireturn, 1) := by decide +kernel
theorem dL_law_202 : decode cL_law 202 = .ok (.aload_n 1, 1) := by decide +kernel
theorem dL_law_203 : decode cL_law 203 = .ok (.aload_n 0, 1) := by decide +kernel
theorem dL_law_204 : decode cL_law 204 = .ok (.iload_n 3, 1) := by decide +kernel
theorem dL_law_205 : decode cL_law 205 = .ok (.iconst 1, 1) := by decide +kernel
theorem dL_law_206 : decode cL_law 206 = .ok (.iadd, 1) := by decide +kernel
theorem dL_law_207 : decode cL_law 207 = .ok (.iaload, 1) := by decide +kernel
theorem dL_law_208 : decode cL_law 208 = .ok (.aload_n 0, 1) := by decide +kernel
theorem dL_law_209 : decode cL_law 209 = .ok (.iload_n 3, 1) := by decide +kernel
theorem dL_law_210 : decode cL_law 210 = .ok (.iconst 2, 1) := by decide +kernel
theorem dL_law_211 : decode cL_law 211 = .ok (.iadd, 1) := by decide +kernel
theorem dL_law_212 : decode cL_law 212 = .ok (.iaload, 1) := by decide +kernel
theorem dL_law_213 : decode cL_law 213 = .ok (.invokevirtual 23, 3) := by decide +kernel
theorem dL_law_216 : decode cL_law 216 = .ok (.aload_n 2, 1) := by decide +kernel
theorem dL_law_217 : decode cL_law 217 = .ok (.aload_n 0, 1) := by decide +kernel
theorem dL_law_218 : decode cL_law 218 = .ok (.iload_n 3, 1) := by decide +kernel
theorem dL_law_219 : decode cL_law 219 = .ok (.iconst 1, 1) := by decide +kernel
theorem dL_law_220 : decode cL_law 220 = .ok (.iadd, 1) := by decide +kernel
theorem dL_law_221 : decode cL_law 221 = .ok (.iaload, 1) := by decide +kernel
theorem dL_law_222 : decode cL_law 222 = .ok (.aload_n 0, 1) := by decide +kernel
theorem dL_law_223 : decode cL_law 223 = .ok (.iload_n 3, 1) := by decide +kernel
theorem dL_law_224 : decode cL_law 224 = .ok (.iconst 2, 1) := by decide +kernel
theorem dL_law_225 : decode cL_law 225 = .ok (.iadd, 1) := by decide +kernel
theorem dL_law_226 : decode cL_law 226 = .ok (.iaload, 1) := by decide +kernel
theorem dL_law_227 : decode cL_law 227 = .ok (.invokevirtual 27, 3) := by decide +kernel
theorem dL_law_230 : decode cL_law 230 = .ok (.if_icmp .eq 529, 3) := by decide +kernel
theorem dL_law_233 : decode cL_law 233 = .ok (.iconst 0, 1) := by decide +kernel
theorem dL_law_234 : decode cL_law 234 = .ok (.ireturn, 1) := by decide +kernel
theorem dL_law_235 : decode cL_law 235 = .ok (.aload_n 1, 1) := by decide +kernel
theorem dL_law_236 : decode cL_law 236 = .ok (.aload_n 0, 1) := by decide +kernel
theorem dL_law_237 : decode cL_law 237 = .ok (.iload_n 3, 1) := by decide +kernel
theorem dL_law_238 : decode cL_law 238 = .ok (.iconst 1, 1) := by decide +kernel
theorem dL_law_239 : decode cL_law 239 = .ok (.iadd, 1) := by decide +kernel
theorem dL_law_240 : decode cL_law 240 = .ok (.iaload, 1) := by decide +kernel
theorem dL_law_241 : decode cL_law 241 = .ok (.aload_n 0, 1) := by decide +kernel
theorem dL_law_242 : decode cL_law 242 = .ok (.iload_n 3, 1) := by decide +kernel
theorem dL_law_243 : decode cL_law 243 = .ok (.iconst 2, 1) := by decide +kernel
theorem dL_law_244 : decode cL_law 244 = .ok (.iadd, 1) := by decide +kernel
theorem dL_law_245 : decode cL_law 245 = .ok (.iaload, 1) := by decide +kernel
theorem dL_law_246 : decode cL_law 246 = .ok (.aload_n 0, 1) := by decide +kernel
theorem dL_law_247 : decode cL_law 247 = .ok (.iload_n 3, 1) := by decide +kernel
theorem dL_law_248 : decode cL_law 248 = .ok (.iconst 3, 1) := by decide +kernel
theorem dL_law_249 : decode cL_law 249 = .ok (.iadd, 1) := by decide +kernel
theorem dL_law_250 : decode cL_law 250 = .ok (.iaload, 1) := by decide +kernel
theorem dL_law_251 : decode cL_law 251 = .ok (.ifCond .eq 7, 3) := by decide +kernel
theorem dL_law_254 : decode cL_law 254 = .ok (.iconst 1, 1) := by decide +kernel
theorem dL_law_255 : decode cL_law 255 = .ok (.goto 4, 3) := by decide +kernel
theorem dL_law_258 : decode cL_law 258 = .ok (.iconst 0, 1) := by decide +kernel
theorem dL_law_259 : decode cL_law 259 = .ok (.invokevirtual 28, 3) := by decide +kernel
theorem dL_law_262 : decode cL_law 262 = .ok (.aload_n 2, 1) := by decide +kernel
theorem dL_law_263 : decode cL_law 263 = .ok (.aload_n 0, 1) := by decide +kernel
theorem dL_law_264 : decode cL_law 264 = .ok (.iload_n 3, 1) := by decide +kernel
theorem dL_law_265 : decode cL_law 265 = .ok (.iconst 1, 1) := by decide +kernel
theorem dL_law_266 : decode cL_law 266 = .ok (.iadd, 1) := by decide +kernel
theorem dL_law_267 : decode cL_law 267 = .ok (.iaload, 1) := by decide +kernel
theorem dL_law_268 : decode cL_law 268 = .ok (.aload_n 0, 1) := by decide +kernel
theorem dL_law_269 : decode cL_law 269 = .ok (.iload_n 3, 1) := by decide +kernel
theorem dL_law_270 : decode cL_law 270 = .ok (.iconst 2, 1) := by decide +kernel
theorem dL_law_271 : decode cL_law 271 = .ok (.iadd, 1) := by decide +kernel
theorem dL_law_272 : decode cL_law 272 = .ok (.iaload, 1) := by decide +kernel
theorem dL_law_273 : decode cL_law 273 = .ok (.aload_n 0, 1) := by decide +kernel
theorem dL_law_274 : decode cL_law 274 = .ok (.iload_n 3, 1) := by decide +kernel
theorem dL_law_275 : decode cL_law 275 = .ok (.iconst 3, 1) := by decide +kernel
theorem dL_law_276 : decode cL_law 276 = .ok (.iadd, 1) := by decide +kernel
theorem dL_law_277 : decode cL_law 277 = .ok (.iaload, 1) := by decide +kernel
theorem dL_law_278 : decode cL_law 278 = .ok (.ifCond .eq 7, 3) := by decide +kernel
theorem dL_law_281 : decode cL_law 281 = .ok (.iconst 1, 1) := by decide +kernel
theorem dL_law_282 : decode cL_law 282 = .ok (.goto 4, 3) := by decide +kernel
theorem dL_law_285 : decode cL_law 285 = .ok (.iconst 0, 1) := by decide +kernel
theorem dL_law_286 : decode cL_law 286 = .ok (.invokevirtual 32, 3) := by decide +kernel
theorem dL_law_289 : decode cL_law 289 = .ok (.if_icmp .eq 470, 3) := by decide +kernel
theorem dL_law_292 : decode cL_law 292 = .ok (.iconst 0, 1) := by decide +kernel
theorem dL_law_293 : decode cL_law 293 = .ok (.ireturn, 1) := by decide +kernel
theorem dL_law_294 : decode cL_law 294 = .ok (.aload_n 1, 1) := by decide +kernel
theorem dL_law_295 : decode cL_law 295 = .ok (.aload_n 0, 1) := by decide +kernel
theorem dL_law_296 : decode cL_law 296 = .ok (.iload_n 3, 1) := by decide +kernel
theorem dL_law_297 : decode cL_law 297 = .ok (.iconst 1, 1) := by decide +kernel
theorem dL_law_298 : decode cL_law 298 = .ok (.iadd, 1) := by decide +kernel
theorem dL_law_299 : decode cL_law 299 = .ok (.iaload, 1) := by decide +kernel
theorem dL_law_300 : decode cL_law 300 = .ok (.aload_n 0, 1) := by decide +kernel
theorem dL_law_301 : decode cL_law 301 = .ok (.iload_n 3, 1) := by decide +kernel
theorem dL_law_302 : decode cL_law 302 = .ok (.iconst 2, 1) := by decide +kernel
theorem dL_law_303 : decode cL_law 303 = .ok (.iadd, 1) := by decide +kernel
theorem dL_law_304 : decode cL_law 304 = .ok (.iaload, 1) := by decide +kernel
theorem dL_law_305 : decode cL_law 305 = .ok (.aload_n 0, 1) := by decide +kernel
theorem dL_law_306 : decode cL_law 306 = .ok (.iload_n 3, 1) := by decide +kernel
theorem dL_law_307 : decode cL_law 307 = .ok (.iconst 3, 1) := by decide +kernel
theorem dL_law_308 : decode cL_law 308 = .ok (.iadd, 1) := by decide +kernel
theorem dL_law_309 : decode cL_law 309 = .ok (.iaload, 1) := by decide +kernel
theorem dL_law_310 : decode cL_law 310 = .ok (.aload_n 0, 1) := by decide +kernel
theorem dL_law_311 : decode cL_law 311 = .ok (.iload_n 3, 1) := by decide +kernel
theorem dL_law_312 : decode cL_law 312 = .ok (.iconst 4, 1) := by decide +kernel
theorem dL_law_313 : decode cL_law 313 = .ok (.iadd, 1) := by decide +kernel
theorem dL_law_314 : decode cL_law 314 = .ok (.iaload, 1) := by decide +kernel
theorem dL_law_315 : decode cL_law 315 = .ok (.ifCond .eq 7, 3) := by decide +kernel
theorem dL_law_318 : decode cL_law 318 = .ok (.iconst 1, 1) := by decide +kernel
theorem dL_law_319 : decode cL_law 319 = .ok (.goto 4, 3) := by decide +kernel
theorem dL_law_322 : decode cL_law 322 = .ok (.iconst 0, 1) := by decide +kernel
theorem dL_law_323 : decode cL_law 323 = .ok (.invokevirtual 33, 3) := by decide +kernel
theorem dL_law_326 : decode cL_law 326 = .ok (.aload_n 2, 1) := by decide +kernel
theorem dL_law_327 : decode cL_law 327 = .ok (.aload_n 0, 1) := by decide +kernel
theorem dL_law_328 : decode cL_law 328 = .ok (.iload_n 3, 1) := by decide +kernel
theorem dL_law_329 : decode cL_law 329 = .ok (.iconst 1, 1) := by decide +kernel
theorem dL_law_330 : decode cL_law 330 = .ok (.iadd, 1) := by decide +kernel
theorem dL_law_331 : decode cL_law 331 = .ok (.iaload, 1) := by decide +kernel
theorem dL_law_332 : decode cL_law 332 = .ok (.aload_n 0, 1) := by decide +kernel
theorem dL_law_333 : decode cL_law 333 = .ok (.iload_n 3, 1) := by decide +kernel
theorem dL_law_334 : decode cL_law 334 = .ok (.iconst 2, 1) := by decide +kernel
theorem dL_law_335 : decode cL_law 335 = .ok (.iadd, 1) := by decide +kernel
theorem dL_law_336 : decode cL_law 336 = .ok (.iaload, 1) := by decide +kernel
theorem dL_law_337 : decode cL_law 337 = .ok (.aload_n 0, 1) := by decide +kernel
theorem dL_law_338 : decode cL_law 338 = .ok (.iload_n 3, 1) := by decide +kernel
theorem dL_law_339 : decode cL_law 339 = .ok (.iconst 3, 1) := by decide +kernel
theorem dL_law_340 : decode cL_law 340 = .ok (.iadd, 1) := by decide +kernel
theorem dL_law_341 : decode cL_law 341 = .ok (.iaload, 1) := by decide +kernel
theorem dL_law_342 : decode cL_law 342 = .ok (.aload_n 0, 1) := by decide +kernel
theorem dL_law_343 : decode cL_law 343 = .ok (.iload_n 3, 1) := by decide +kernel
theorem dL_law_344 : decode cL_law 344 = .ok (.iconst 4, 1) := by decide +kernel
theorem dL_law_345 : decode cL_law 345 = .ok (.iadd, 1) := by decide +kernel
theorem dL_law_346 : decode cL_law 346 = .ok (.iaload, 1) := by decide +kernel
theorem dL_law_347 : decode cL_law 347 = .ok (.ifCond .eq 7, 3) := by decide +kernel
theorem dL_law_350 : decode cL_law 350 = .ok (.iconst 1, 1) := by decide +kernel
theorem dL_law_351 : decode cL_law 351 = .ok (.goto 4, 3) := by decide +kernel
theorem dL_law_354 : decode cL_law 354 = .ok (.iconst 0, 1) := by decide +kernel
theorem dL_law_355 : decode cL_law 355 = .ok (.invokevirtual 37, 3) := by decide +kernel
theorem dL_law_358 : decode cL_law 358 = .ok (.if_icmp .eq 401, 3) := by decide +kernel
theorem dL_law_361 : decode cL_law 361 = .ok (.iconst 0, 1) := by decide +kernel
theorem dL_law_362 : decode cL_law 362 = .ok (.ireturn, 1) := by decide +kernel
theorem dL_law_363 : decode cL_law 363 = .ok (.aload_n 1, 1) := by decide +kernel
theorem dL_law_364 : decode cL_law 364 = .ok (.aload_n 0, 1) := by decide +kernel
theorem dL_law_365 : decode cL_law 365 = .ok (.iload_n 3, 1) := by decide +kernel
theorem dL_law_366 : decode cL_law 366 = .ok (.iconst 1, 1) := by decide +kernel
theorem dL_law_367 : decode cL_law 367 = .ok (.iadd, 1) := by decide +kernel
theorem dL_law_368 : decode cL_law 368 = .ok (.iaload, 1) := by decide +kernel
theorem dL_law_369 : decode cL_law 369 = .ok (.aload_n 0, 1) := by decide +kernel
theorem dL_law_370 : decode cL_law 370 = .ok (.iload_n 3, 1) := by decide +kernel
theorem dL_law_371 : decode cL_law 371 = .ok (.iconst 2, 1) := by decide +kernel
theorem dL_law_372 : decode cL_law 372 = .ok (.iadd, 1) := by decide +kernel
theorem dL_law_373 : decode cL_law 373 = .ok (.iaload, 1) := by decide +kernel
theorem dL_law_374 : decode cL_law 374 = .ok (.invokevirtual 38, 3) := by decide +kernel
theorem dL_law_377 : decode cL_law 377 = .ok (.aload_n 2, 1) := by decide +kernel
theorem dL_law_378 : decode cL_law 378 = .ok (.aload_n 0, 1) := by decide +kernel
theorem dL_law_379 : decode cL_law 379 = .ok (.iload_n 3, 1) := by decide +kernel
theorem dL_law_380 : decode cL_law 380 = .ok (.iconst 1, 1) := by decide +kernel
theorem dL_law_381 : decode cL_law 381 = .ok (.iadd, 1) := by decide +kernel
theorem dL_law_382 : decode cL_law 382 = .ok (.iaload, 1) := by decide +kernel
theorem dL_law_383 : decode cL_law 383 = .ok (.aload_n 0, 1) := by decide +kernel
theorem dL_law_384 : decode cL_law 384 = .ok (.iload_n 3, 1) := by decide +kernel
theorem dL_law_385 : decode cL_law 385 = .ok (.iconst 2, 1) := by decide +kernel
theorem dL_law_386 : decode cL_law 386 = .ok (.iadd, 1) := by decide +kernel
theorem dL_law_387 : decode cL_law 387 = .ok (.iaload, 1) := by decide +kernel
theorem dL_law_388 : decode cL_law 388 = .ok (.invokevirtual 41, 3) := by decide +kernel
theorem dL_law_391 : decode cL_law 391 = .ok (.if_icmp .eq 368, 3) := by decide +kernel
theorem dL_law_394 : decode cL_law 394 = .ok (.iconst 0, 1) := by decide +kernel
theorem dL_law_395 : decode cL_law 395 = .ok (.ireturn, 1) := by decide +kernel
theorem dL_law_396 : decode cL_law 396 = .ok (.aload_n 1, 1) := by decide +kernel
theorem dL_law_397 : decode cL_law 397 = .ok (.aload_n 0, 1) := by decide +kernel
theorem dL_law_398 : decode cL_law 398 = .ok (.iload_n 3, 1) := by decide +kernel
theorem dL_law_399 : decode cL_law 399 = .ok (.iconst 1, 1) := by decide +kernel
theorem dL_law_400 : decode cL_law 400 = .ok (.iadd, 1) := by decide +kernel
theorem dL_law_401 : decode cL_law 401 = .ok (.iaload, 1) := by decide +kernel
theorem dL_law_402 : decode cL_law 402 = .ok (.aload_n 0, 1) := by decide +kernel
theorem dL_law_403 : decode cL_law 403 = .ok (.iload_n 3, 1) := by decide +kernel
theorem dL_law_404 : decode cL_law 404 = .ok (.iconst 2, 1) := by decide +kernel
theorem dL_law_405 : decode cL_law 405 = .ok (.iadd, 1) := by decide +kernel
theorem dL_law_406 : decode cL_law 406 = .ok (.iaload, 1) := by decide +kernel
theorem dL_law_407 : decode cL_law 407 = .ok (.aload_n 0, 1) := by decide +kernel
theorem dL_law_408 : decode cL_law 408 = .ok (.iload_n 3, 1) := by decide +kernel
theorem dL_law_409 : decode cL_law 409 = .ok (.iconst 3, 1) := by decide +kernel
theorem dL_law_410 : decode cL_law 410 = .ok (.iadd, 1) := by decide +kernel
theorem dL_law_411 : decode cL_law 411 = .ok (.iaload, 1) := by decide +kernel
theorem dL_law_412 : decode cL_law 412 = .ok (.invokevirtual 42, 3) := by decide +kernel
theorem dL_law_415 : decode cL_law 415 = .ok (.aload_n 2, 1) := by decide +kernel
theorem dL_law_416 : decode cL_law 416 = .ok (.aload_n 0, 1) := by decide +kernel
theorem dL_law_417 : decode cL_law 417 = .ok (.iload_n 3, 1) := by decide +kernel
theorem dL_law_418 : decode cL_law 418 = .ok (.iconst 1, 1) := by decide +kernel
theorem dL_law_419 : decode cL_law 419 = .ok (.iadd, 1) := by decide +kernel
theorem dL_law_420 : decode cL_law 420 = .ok (.iaload, 1) := by decide +kernel
theorem dL_law_421 : decode cL_law 421 = .ok (.aload_n 0, 1) := by decide +kernel
theorem dL_law_422 : decode cL_law 422 = .ok (.iload_n 3, 1) := by decide +kernel
theorem dL_law_423 : decode cL_law 423 = .ok (.iconst 2, 1) := by decide +kernel
theorem dL_law_424 : decode cL_law 424 = .ok (.iadd, 1) := by decide +kernel
theorem dL_law_425 : decode cL_law 425 = .ok (.iaload, 1) := by decide +kernel
theorem dL_law_426 : decode cL_law 426 = .ok (.aload_n 0, 1) := by decide +kernel
theorem dL_law_427 : decode cL_law 427 = .ok (.iload_n 3, 1) := by decide +kernel
theorem dL_law_428 : decode cL_law 428 = .ok (.iconst 3, 1) := by decide +kernel
theorem dL_law_429 : decode cL_law 429 = .ok (.iadd, 1) := by decide +kernel
theorem dL_law_430 : decode cL_law 430 = .ok (.iaload, 1) := by decide +kernel
theorem dL_law_431 : decode cL_law 431 = .ok (.invokevirtual 46, 3) := by decide +kernel
theorem dL_law_434 : decode cL_law 434 = .ok (.if_icmp .eq 325, 3) := by decide +kernel
theorem dL_law_437 : decode cL_law 437 = .ok (.iconst 0, 1) := by decide +kernel
theorem dL_law_438 : decode cL_law 438 = .ok (.ireturn, 1) := by decide +kernel
theorem dL_law_439 : decode cL_law 439 = .ok (.aload_n 1, 1) := by decide +kernel
theorem dL_law_440 : decode cL_law 440 = .ok (.aload_n 0, 1) := by decide +kernel
theorem dL_law_441 : decode cL_law 441 = .ok (.iload_n 3, 1) := by decide +kernel
theorem dL_law_442 : decode cL_law 442 = .ok (.iconst 1, 1) := by decide +kernel
theorem dL_law_443 : decode cL_law 443 = .ok (.iadd, 1) := by decide +kernel
theorem dL_law_444 : decode cL_law 444 = .ok (.iaload, 1) := by decide +kernel
theorem dL_law_445 : decode cL_law 445 = .ok (.aload_n 0, 1) := by decide +kernel
theorem dL_law_446 : decode cL_law 446 = .ok (.iload_n 3, 1) := by decide +kernel
theorem dL_law_447 : decode cL_law 447 = .ok (.iconst 2, 1) := by decide +kernel
theorem dL_law_448 : decode cL_law 448 = .ok (.iadd, 1) := by decide +kernel
theorem dL_law_449 : decode cL_law 449 = .ok (.iaload, 1) := by decide +kernel
theorem dL_law_450 : decode cL_law 450 = .ok (.aload_n 0, 1) := by decide +kernel
theorem dL_law_451 : decode cL_law 451 = .ok (.iload_n 3, 1) := by decide +kernel
theorem dL_law_452 : decode cL_law 452 = .ok (.iconst 3, 1) := by decide +kernel
theorem dL_law_453 : decode cL_law 453 = .ok (.iadd, 1) := by decide +kernel
theorem dL_law_454 : decode cL_law 454 = .ok (.iaload, 1) := by decide +kernel
theorem dL_law_455 : decode cL_law 455 = .ok (.invokevirtual 47, 3) := by decide +kernel
theorem dL_law_458 : decode cL_law 458 = .ok (.aload_n 2, 1) := by decide +kernel
theorem dL_law_459 : decode cL_law 459 = .ok (.aload_n 0, 1) := by decide +kernel
theorem dL_law_460 : decode cL_law 460 = .ok (.iload_n 3, 1) := by decide +kernel
theorem dL_law_461 : decode cL_law 461 = .ok (.iconst 1, 1) := by decide +kernel
theorem dL_law_462 : decode cL_law 462 = .ok (.iadd, 1) := by decide +kernel
theorem dL_law_463 : decode cL_law 463 = .ok (.iaload, 1) := by decide +kernel
theorem dL_law_464 : decode cL_law 464 = .ok (.aload_n 0, 1) := by decide +kernel
theorem dL_law_465 : decode cL_law 465 = .ok (.iload_n 3, 1) := by decide +kernel
theorem dL_law_466 : decode cL_law 466 = .ok (.iconst 2, 1) := by decide +kernel
theorem dL_law_467 : decode cL_law 467 = .ok (.iadd, 1) := by decide +kernel
theorem dL_law_468 : decode cL_law 468 = .ok (.iaload, 1) := by decide +kernel
theorem dL_law_469 : decode cL_law 469 = .ok (.aload_n 0, 1) := by decide +kernel
theorem dL_law_470 : decode cL_law 470 = .ok (.iload_n 3, 1) := by decide +kernel
theorem dL_law_471 : decode cL_law 471 = .ok (.iconst 3, 1) := by decide +kernel
theorem dL_law_472 : decode cL_law 472 = .ok (.iadd, 1) := by decide +kernel
theorem dL_law_473 : decode cL_law 473 = .ok (.iaload, 1) := by decide +kernel
theorem dL_law_474 : decode cL_law 474 = .ok (.invokevirtual 50, 3) := by decide +kernel
theorem dL_law_477 : decode cL_law 477 = .ok (.if_icmp .eq 282, 3) := by decide +kernel
theorem dL_law_480 : decode cL_law 480 = .ok (.iconst 0, 1) := by decide +kernel
theorem dL_law_481 : decode cL_law 481 = .ok (.ireturn, 1) := by decide +kernel
theorem dL_law_482 : decode cL_law 482 = .ok (.aload_n 1, 1) := by decide +kernel
theorem dL_law_483 : decode cL_law 483 = .ok (.aload_n 0, 1) := by decide +kernel
theorem dL_law_484 : decode cL_law 484 = .ok (.iload_n 3, 1) := by decide +kernel
theorem dL_law_485 : decode cL_law 485 = .ok (.iconst 1, 1) := by decide +kernel
theorem dL_law_486 : decode cL_law 486 = .ok (.iadd, 1) := by decide +kernel
theorem dL_law_487 : decode cL_law 487 = .ok (.iaload, 1) := by decide +kernel
theorem dL_law_488 : decode cL_law 488 = .ok (.invokevirtual 51, 3) := by decide +kernel
theorem dL_law_491 : decode cL_law 491 = .ok (.aload_n 2, 1) := by decide +kernel
theorem dL_law_492 : decode cL_law 492 = .ok (.aload_n 0, 1) := by decide +kernel
theorem dL_law_493 : decode cL_law 493 = .ok (.iload_n 3, 1) := by decide +kernel
theorem dL_law_494 : decode cL_law 494 = .ok (.iconst 1, 1) := by decide +kernel
theorem dL_law_495 : decode cL_law 495 = .ok (.iadd, 1) := by decide +kernel
theorem dL_law_496 : decode cL_law 496 = .ok (.iaload, 1) := by decide +kernel
theorem dL_law_497 : decode cL_law 497 = .ok (.invokevirtual 54, 3) := by decide +kernel
theorem dL_law_500 : decode cL_law 500 = .ok (.if_icmp .eq 259, 3) := by decide +kernel
theorem dL_law_503 : decode cL_law 503 = .ok (.iconst 0, 1) := by decide +kernel
theorem dL_law_504 : decode cL_law 504 = .ok (.ireturn, 1) := by decide +kernel
theorem dL_law_505 : decode cL_law 505 = .ok (.aload_n 1, 1) := by decide +kernel
theorem dL_law_506 : decode cL_law 506 = .ok (.aload_n 0, 1) := by decide +kernel
theorem dL_law_507 : decode cL_law 507 = .ok (.iload_n 3, 1) := by decide +kernel
theorem dL_law_508 : decode cL_law 508 = .ok (.iconst 1, 1) := by decide +kernel
theorem dL_law_509 : decode cL_law 509 = .ok (.iadd, 1) := by decide +kernel
theorem dL_law_510 : decode cL_law 510 = .ok (.iaload, 1) := by decide +kernel
theorem dL_law_511 : decode cL_law 511 = .ok (.aload_n 0, 1) := by decide +kernel
theorem dL_law_512 : decode cL_law 512 = .ok (.iload_n 3, 1) := by decide +kernel
theorem dL_law_513 : decode cL_law 513 = .ok (.iconst 2, 1) := by decide +kernel
theorem dL_law_514 : decode cL_law 514 = .ok (.iadd, 1) := by decide +kernel
theorem dL_law_515 : decode cL_law 515 = .ok (.iaload, 1) := by decide +kernel
theorem dL_law_516 : decode cL_law 516 = .ok (.invokevirtual 55, 3) := by decide +kernel
theorem dL_law_519 : decode cL_law 519 = .ok (.aload_n 2, 1) := by decide +kernel
theorem dL_law_520 : decode cL_law 520 = .ok (.aload_n 0, 1) := by decide +kernel
theorem dL_law_521 : decode cL_law 521 = .ok (.iload_n 3, 1) := by decide +kernel
theorem dL_law_522 : decode cL_law 522 = .ok (.iconst 1, 1) := by decide +kernel
theorem dL_law_523 : decode cL_law 523 = .ok (.iadd, 1) := by decide +kernel
theorem dL_law_524 : decode cL_law 524 = .ok (.iaload, 1) := by decide +kernel
theorem dL_law_525 : decode cL_law 525 = .ok (.aload_n 0, 1) := by decide +kernel
theorem dL_law_526 : decode cL_law 526 = .ok (.iload_n 3, 1) := by decide +kernel
theorem dL_law_527 : decode cL_law 527 = .ok (.iconst 2, 1) := by decide +kernel
theorem dL_law_528 : decode cL_law 528 = .ok (.iadd, 1) := by decide +kernel
theorem dL_law_529 : decode cL_law 529 = .ok (.iaload, 1) := by decide +kernel
theorem dL_law_530 : decode cL_law 530 = .ok (.invokevirtual 58, 3) := by decide +kernel
theorem dL_law_533 : decode cL_law 533 = .ok (.if_icmp .eq 226, 3) := by decide +kernel
theorem dL_law_536 : decode cL_law 536 = .ok (.iconst 0, 1) := by decide +kernel
theorem dL_law_537 : decode cL_law 537 = .ok (.ireturn, 1) := by decide +kernel
theorem dL_law_538 : decode cL_law 538 = .ok (.aload_n 1, 1) := by decide +kernel
theorem dL_law_539 : decode cL_law 539 = .ok (.aload_n 0, 1) := by decide +kernel
theorem dL_law_540 : decode cL_law 540 = .ok (.iload_n 3, 1) := by decide +kernel
theorem dL_law_541 : decode cL_law 541 = .ok (.iconst 1, 1) := by decide +kernel
theorem dL_law_542 : decode cL_law 542 = .ok (.iadd, 1) := by decide +kernel
theorem dL_law_543 : decode cL_law 543 = .ok (.iaload, 1) := by decide +kernel
theorem dL_law_544 : decode cL_law 544 = .ok (.aload_n 0, 1) := by decide +kernel
theorem dL_law_545 : decode cL_law 545 = .ok (.iload_n 3, 1) := by decide +kernel
theorem dL_law_546 : decode cL_law 546 = .ok (.iconst 2, 1) := by decide +kernel
theorem dL_law_547 : decode cL_law 547 = .ok (.iadd, 1) := by decide +kernel
theorem dL_law_548 : decode cL_law 548 = .ok (.iaload, 1) := by decide +kernel
theorem dL_law_549 : decode cL_law 549 = .ok (.invokevirtual 59, 3) := by decide +kernel
theorem dL_law_552 : decode cL_law 552 = .ok (.aload_n 2, 1) := by decide +kernel
theorem dL_law_553 : decode cL_law 553 = .ok (.aload_n 0, 1) := by decide +kernel
theorem dL_law_554 : decode cL_law 554 = .ok (.iload_n 3, 1) := by decide +kernel
theorem dL_law_555 : decode cL_law 555 = .ok (.iconst 1, 1) := by decide +kernel
theorem dL_law_556 : decode cL_law 556 = .ok (.iadd, 1) := by decide +kernel
theorem dL_law_557 : decode cL_law 557 = .ok (.iaload, 1) := by decide +kernel
theorem dL_law_558 : decode cL_law 558 = .ok (.aload_n 0, 1) := by decide +kernel
theorem dL_law_559 : decode cL_law 559 = .ok (.iload_n 3, 1) := by decide +kernel
theorem dL_law_560 : decode cL_law 560 = .ok (.iconst 2, 1) := by decide +kernel
theorem dL_law_561 : decode cL_law 561 = .ok (.iadd, 1) := by decide +kernel
theorem dL_law_562 : decode cL_law 562 = .ok (.iaload, 1) := by decide +kernel
theorem dL_law_563 : decode cL_law 563 = .ok (.invokevirtual 62, 3) := by decide +kernel
theorem dL_law_566 : decode cL_law 566 = .ok (.if_icmp .eq 193, 3) := by decide +kernel
theorem dL_law_569 : decode cL_law 569 = .ok (.iconst 0, 1) := by decide +kernel
theorem dL_law_570 : decode cL_law 570 = .ok (.ireturn, 1) := by decide +kernel
theorem dL_law_571 : decode cL_law 571 = .ok (.aload_n 1, 1) := by decide +kernel
theorem dL_law_572 : decode cL_law 572 = .ok (.aload_n 0, 1) := by decide +kernel
theorem dL_law_573 : decode cL_law 573 = .ok (.iload_n 3, 1) := by decide +kernel
theorem dL_law_574 : decode cL_law 574 = .ok (.iconst 1, 1) := by decide +kernel
theorem dL_law_575 : decode cL_law 575 = .ok (.iadd, 1) := by decide +kernel
theorem dL_law_576 : decode cL_law 576 = .ok (.iaload, 1) := by decide +kernel
theorem dL_law_577 : decode cL_law 577 = .ok (.aload_n 0, 1) := by decide +kernel
theorem dL_law_578 : decode cL_law 578 = .ok (.iload_n 3, 1) := by decide +kernel
theorem dL_law_579 : decode cL_law 579 = .ok (.iconst 2, 1) := by decide +kernel
theorem dL_law_580 : decode cL_law 580 = .ok (.iadd, 1) := by decide +kernel
theorem dL_law_581 : decode cL_law 581 = .ok (.iaload, 1) := by decide +kernel
theorem dL_law_582 : decode cL_law 582 = .ok (.invokevirtual 63, 3) := by decide +kernel
theorem dL_law_585 : decode cL_law 585 = .ok (.aload_n 2, 1) := by decide +kernel
theorem dL_law_586 : decode cL_law 586 = .ok (.aload_n 0, 1) := by decide +kernel
theorem dL_law_587 : decode cL_law 587 = .ok (.iload_n 3, 1) := by decide +kernel
theorem dL_law_588 : decode cL_law 588 = .ok (.iconst 1, 1) := by decide +kernel
theorem dL_law_589 : decode cL_law 589 = .ok (.iadd, 1) := by decide +kernel
theorem dL_law_590 : decode cL_law 590 = .ok (.iaload, 1) := by decide +kernel
theorem dL_law_591 : decode cL_law 591 = .ok (.aload_n 0, 1) := by decide +kernel
theorem dL_law_592 : decode cL_law 592 = .ok (.iload_n 3, 1) := by decide +kernel
theorem dL_law_593 : decode cL_law 593 = .ok (.iconst 2, 1) := by decide +kernel
theorem dL_law_594 : decode cL_law 594 = .ok (.iadd, 1) := by decide +kernel
theorem dL_law_595 : decode cL_law 595 = .ok (.iaload, 1) := by decide +kernel
theorem dL_law_596 : decode cL_law 596 = .ok (.invokevirtual 66, 3) := by decide +kernel
theorem dL_law_599 : decode cL_law 599 = .ok (.if_icmp .eq 160, 3) := by decide +kernel
theorem dL_law_602 : decode cL_law 602 = .ok (.iconst 0, 1) := by decide +kernel
theorem dL_law_603 : decode cL_law 603 = .ok (.ireturn, 1) := by decide +kernel
theorem dL_law_604 : decode cL_law 604 = .ok (.aload_n 1, 1) := by decide +kernel
theorem dL_law_605 : decode cL_law 605 = .ok (.aload_n 0, 1) := by decide +kernel
theorem dL_law_606 : decode cL_law 606 = .ok (.iload_n 3, 1) := by decide +kernel
theorem dL_law_607 : decode cL_law 607 = .ok (.iconst 1, 1) := by decide +kernel
theorem dL_law_608 : decode cL_law 608 = .ok (.iadd, 1) := by decide +kernel
theorem dL_law_609 : decode cL_law 609 = .ok (.iaload, 1) := by decide +kernel
theorem dL_law_610 : decode cL_law 610 = .ok (.aload_n 0, 1) := by decide +kernel
theorem dL_law_611 : decode cL_law 611 = .ok (.iload_n 3, 1) := by decide +kernel
theorem dL_law_612 : decode cL_law 612 = .ok (.iconst 2, 1) := by decide +kernel
theorem dL_law_613 : decode cL_law 613 = .ok (.iadd, 1) := by decide +kernel
theorem dL_law_614 : decode cL_law 614 = .ok (.iaload, 1) := by decide +kernel
theorem dL_law_615 : decode cL_law 615 = .ok (.invokevirtual 67, 3) := by decide +kernel
theorem dL_law_618 : decode cL_law 618 = .ok (.aload_n 2, 1) := by decide +kernel
theorem dL_law_619 : decode cL_law 619 = .ok (.aload_n 0, 1) := by decide +kernel
theorem dL_law_620 : decode cL_law 620 = .ok (.iload_n 3, 1) := by decide +kernel
theorem dL_law_621 : decode cL_law 621 = .ok (.iconst 1, 1) := by decide +kernel
theorem dL_law_622 : decode cL_law 622 = .ok (.iadd, 1) := by decide +kernel
theorem dL_law_623 : decode cL_law 623 = .ok (.iaload, 1) := by decide +kernel
theorem dL_law_624 : decode cL_law 624 = .ok (.aload_n 0, 1) := by decide +kernel
theorem dL_law_625 : decode cL_law 625 = .ok (.iload_n 3, 1) := by decide +kernel
theorem dL_law_626 : decode cL_law 626 = .ok (.iconst 2, 1) := by decide +kernel
theorem dL_law_627 : decode cL_law 627 = .ok (.iadd, 1) := by decide +kernel
theorem dL_law_628 : decode cL_law 628 = .ok (.iaload, 1) := by decide +kernel
theorem dL_law_629 : decode cL_law 629 = .ok (.invokevirtual 70, 3) := by decide +kernel
theorem dL_law_632 : decode cL_law 632 = .ok (.if_icmp .eq 127, 3) := by decide +kernel
theorem dL_law_635 : decode cL_law 635 = .ok (.iconst 0, 1) := by decide +kernel
theorem dL_law_636 : decode cL_law 636 = .ok (.ireturn, 1) := by decide +kernel
theorem dL_law_637 : decode cL_law 637 = .ok (.aload_n 1, 1) := by decide +kernel
theorem dL_law_638 : decode cL_law 638 = .ok (.aload_n 0, 1) := by decide +kernel
theorem dL_law_639 : decode cL_law 639 = .ok (.iload_n 3, 1) := by decide +kernel
theorem dL_law_640 : decode cL_law 640 = .ok (.iconst 1, 1) := by decide +kernel
theorem dL_law_641 : decode cL_law 641 = .ok (.iadd, 1) := by decide +kernel
theorem dL_law_642 : decode cL_law 642 = .ok (.iaload, 1) := by decide +kernel
theorem dL_law_643 : decode cL_law 643 = .ok (.aload_n 0, 1) := by decide +kernel
theorem dL_law_644 : decode cL_law 644 = .ok (.iload_n 3, 1) := by decide +kernel
theorem dL_law_645 : decode cL_law 645 = .ok (.iconst 2, 1) := by decide +kernel
theorem dL_law_646 : decode cL_law 646 = .ok (.iadd, 1) := by decide +kernel
theorem dL_law_647 : decode cL_law 647 = .ok (.iaload, 1) := by decide +kernel
theorem dL_law_648 : decode cL_law 648 = .ok (.invokevirtual 71, 3) := by decide +kernel
theorem dL_law_651 : decode cL_law 651 = .ok (.aload_n 2, 1) := by decide +kernel
theorem dL_law_652 : decode cL_law 652 = .ok (.aload_n 0, 1) := by decide +kernel
theorem dL_law_653 : decode cL_law 653 = .ok (.iload_n 3, 1) := by decide +kernel
theorem dL_law_654 : decode cL_law 654 = .ok (.iconst 1, 1) := by decide +kernel
theorem dL_law_655 : decode cL_law 655 = .ok (.iadd, 1) := by decide +kernel
theorem dL_law_656 : decode cL_law 656 = .ok (.iaload, 1) := by decide +kernel
theorem dL_law_657 : decode cL_law 657 = .ok (.aload_n 0, 1) := by decide +kernel
theorem dL_law_658 : decode cL_law 658 = .ok (.iload_n 3, 1) := by decide +kernel
theorem dL_law_659 : decode cL_law 659 = .ok (.iconst 2, 1) := by decide +kernel
theorem dL_law_660 : decode cL_law 660 = .ok (.iadd, 1) := by decide +kernel
theorem dL_law_661 : decode cL_law 661 = .ok (.iaload, 1) := by decide +kernel
theorem dL_law_662 : decode cL_law 662 = .ok (.invokevirtual 74, 3) := by decide +kernel
theorem dL_law_665 : decode cL_law 665 = .ok (.if_icmp .eq 94, 3) := by decide +kernel
theorem dL_law_668 : decode cL_law 668 = .ok (.iconst 0, 1) := by decide +kernel
theorem dL_law_669 : decode cL_law 669 = .ok (.ireturn, 1) := by decide +kernel
theorem dL_law_670 : decode cL_law 670 = .ok (.aload_n 1, 1) := by decide +kernel
theorem dL_law_671 : decode cL_law 671 = .ok (.aload_n 0, 1) := by decide +kernel
theorem dL_law_672 : decode cL_law 672 = .ok (.iload_n 3, 1) := by decide +kernel
theorem dL_law_673 : decode cL_law 673 = .ok (.iconst 1, 1) := by decide +kernel
theorem dL_law_674 : decode cL_law 674 = .ok (.iadd, 1) := by decide +kernel
theorem dL_law_675 : decode cL_law 675 = .ok (.iaload, 1) := by decide +kernel
theorem dL_law_676 : decode cL_law 676 = .ok (.aload_n 0, 1) := by decide +kernel
theorem dL_law_677 : decode cL_law 677 = .ok (.iload_n 3, 1) := by decide +kernel
theorem dL_law_678 : decode cL_law 678 = .ok (.iconst 2, 1) := by decide +kernel
theorem dL_law_679 : decode cL_law 679 = .ok (.iadd, 1) := by decide +kernel
theorem dL_law_680 : decode cL_law 680 = .ok (.iaload, 1) := by decide +kernel
theorem dL_law_681 : decode cL_law 681 = .ok (.invokevirtual 75, 3) := by decide +kernel
theorem dL_law_684 : decode cL_law 684 = .ok (.aload_n 2, 1) := by decide +kernel
theorem dL_law_685 : decode cL_law 685 = .ok (.aload_n 0, 1) := by decide +kernel
theorem dL_law_686 : decode cL_law 686 = .ok (.iload_n 3, 1) := by decide +kernel
theorem dL_law_687 : decode cL_law 687 = .ok (.iconst 1, 1) := by decide +kernel
theorem dL_law_688 : decode cL_law 688 = .ok (.iadd, 1) := by decide +kernel
theorem dL_law_689 : decode cL_law 689 = .ok (.iaload, 1) := by decide +kernel
theorem dL_law_690 : decode cL_law 690 = .ok (.aload_n 0, 1) := by decide +kernel
theorem dL_law_691 : decode cL_law 691 = .ok (.iload_n 3, 1) := by decide +kernel
theorem dL_law_692 : decode cL_law 692 = .ok (.iconst 2, 1) := by decide +kernel
theorem dL_law_693 : decode cL_law 693 = .ok (.iadd, 1) := by decide +kernel
theorem dL_law_694 : decode cL_law 694 = .ok (.iaload, 1) := by decide +kernel
theorem dL_law_695 : decode cL_law 695 = .ok (.invokevirtual 78, 3) := by decide +kernel
theorem dL_law_698 : decode cL_law 698 = .ok (.if_icmp .eq 61, 3) := by decide +kernel
theorem dL_law_701 : decode cL_law 701 = .ok (.iconst 0, 1) := by decide +kernel
theorem dL_law_702 : decode cL_law 702 = .ok (.ireturn, 1) := by decide +kernel
theorem dL_law_703 : decode cL_law 703 = .ok (.aload_n 1, 1) := by decide +kernel
theorem dL_law_704 : decode cL_law 704 = .ok (.aload_n 0, 1) := by decide +kernel
theorem dL_law_705 : decode cL_law 705 = .ok (.iload_n 3, 1) := by decide +kernel
theorem dL_law_706 : decode cL_law 706 = .ok (.iconst 1, 1) := by decide +kernel
theorem dL_law_707 : decode cL_law 707 = .ok (.iadd, 1) := by decide +kernel
theorem dL_law_708 : decode cL_law 708 = .ok (.iaload, 1) := by decide +kernel
theorem dL_law_709 : decode cL_law 709 = .ok (.invokevirtual 79, 3) := by decide +kernel
theorem dL_law_712 : decode cL_law 712 = .ok (.aload_n 2, 1) := by decide +kernel
theorem dL_law_713 : decode cL_law 713 = .ok (.aload_n 0, 1) := by decide +kernel
theorem dL_law_714 : decode cL_law 714 = .ok (.iload_n 3, 1) := by decide +kernel
theorem dL_law_715 : decode cL_law 715 = .ok (.iconst 1, 1) := by decide +kernel
theorem dL_law_716 : decode cL_law 716 = .ok (.iadd, 1) := by decide +kernel
theorem dL_law_717 : decode cL_law 717 = .ok (.iaload, 1) := by decide +kernel
theorem dL_law_718 : decode cL_law 718 = .ok (.invokevirtual 82, 3) := by decide +kernel
theorem dL_law_721 : decode cL_law 721 = .ok (.if_icmp .eq 38, 3) := by decide +kernel
theorem dL_law_724 : decode cL_law 724 = .ok (.iconst 0, 1) := by decide +kernel
theorem dL_law_725 : decode cL_law 725 = .ok (.ireturn, 1) := by decide +kernel
theorem dL_law_726 : decode cL_law 726 = .ok (.aload_n 1, 1) := by decide +kernel
theorem dL_law_727 : decode cL_law 727 = .ok (.aload_n 0, 1) := by decide +kernel
theorem dL_law_728 : decode cL_law 728 = .ok (.iload_n 3, 1) := by decide +kernel
theorem dL_law_729 : decode cL_law 729 = .ok (.iconst 1, 1) := by decide +kernel
theorem dL_law_730 : decode cL_law 730 = .ok (.iadd, 1) := by decide +kernel
theorem dL_law_731 : decode cL_law 731 = .ok (.iaload, 1) := by decide +kernel
theorem dL_law_732 : decode cL_law 732 = .ok (.aload_n 0, 1) := by decide +kernel
theorem dL_law_733 : decode cL_law 733 = .ok (.iload_n 3, 1) := by decide +kernel
theorem dL_law_734 : decode cL_law 734 = .ok (.iconst 2, 1) := by decide +kernel
theorem dL_law_735 : decode cL_law 735 = .ok (.iadd, 1) := by decide +kernel
theorem dL_law_736 : decode cL_law 736 = .ok (.iaload, 1) := by decide +kernel
theorem dL_law_737 : decode cL_law 737 = .ok (.invokevirtual 83, 3) := by decide +kernel
theorem dL_law_740 : decode cL_law 740 = .ok (.aload_n 2, 1) := by decide +kernel
theorem dL_law_741 : decode cL_law 741 = .ok (.aload_n 0, 1) := by decide +kernel
theorem dL_law_742 : decode cL_law 742 = .ok (.iload_n 3, 1) := by decide +kernel
theorem dL_law_743 : decode cL_law 743 = .ok (.iconst 1, 1) := by decide +kernel
theorem dL_law_744 : decode cL_law 744 = .ok (.iadd, 1) := by decide +kernel
theorem dL_law_745 : decode cL_law 745 = .ok (.iaload, 1) := by decide +kernel
theorem dL_law_746 : decode cL_law 746 = .ok (.aload_n 0, 1) := by decide +kernel
theorem dL_law_747 : decode cL_law 747 = .ok (.iload_n 3, 1) := by decide +kernel
theorem dL_law_748 : decode cL_law 748 = .ok (.iconst 2, 1) := by decide +kernel
theorem dL_law_749 : decode cL_law 749 = .ok (.iadd, 1) := by decide +kernel
theorem dL_law_750 : decode cL_law 750 = .ok (.iaload, 1) := by decide +kernel
theorem dL_law_751 : decode cL_law 751 = .ok (.invokevirtual 87, 3) := by decide +kernel
theorem dL_law_754 : decode cL_law 754 = .ok (.if_icmp .eq 5, 3) := by decide +kernel
theorem dL_law_757 : decode cL_law 757 = .ok (.iconst 0, 1) := by decide +kernel
theorem dL_law_758 : decode cL_law 758 = .ok (.ireturn, 1) := by decide +kernel
theorem dL_law_759 : decode cL_law 759 = .ok (.iinc 3 6, 3) := by decide +kernel
theorem dL_law_762 : decode cL_law 762 = .ok (.goto (-744), 3) := by decide +kernel
theorem dL_law_765 : decode cL_law 765 = .ok (.iconst 1, 1) := by decide +kernel
theorem dL_law_766 : decode cL_law 766 = .ok (.ireturn, 1) := by decide +kernel
end
section
/-! VALUES, ADDRESSES, CELLS of the running system. An address is (kind, i, j); where it lies is 'lay'. -/
abbrev AD : Type := Nat × Nat × Nat
abbrev AV : Type := Int32 ⊕ Option AD
abbrev DT : Type := AD → Nat → Int32
abbrev SH : Type := (Nat × List (Option AV)) ⊕ ((Nat × Nat) ⊕ (Nat × Nat × (Nat → AD)))
abbrev EK : Type := Launch × va_G × (Nat → ClassId) × Nat × Nat × Nat × (Nat → Int32)
abbrev MT : Type := MethodName × ByteArray × Nat × Option FieldType
abbrev rI (x : Int32) : AV := Sum.inl x
abbrev rR (a : AD) : AV := Sum.inr (some a)
abbrev rN : AV := Sum.inr none
abbrev ek_l (K : EK) : Launch := K.1
abbrev ek_D (K : EK) : va_G := K.2.1
abbrev ek_c (K : EK) : Nat → ClassId := K.2.2.1
abbrev ek_b (K : EK) : Nat := K.2.2.2.1
abbrev ek_o (K : EK) : Nat := K.2.2.2.2.1
abbrev ek_L (K : EK) : Nat := K.2.2.2.2.2.1
abbrev ek_x (K : EK) : Nat → Int32 := K.2.2.2.2.2.2
def lay : AD → Nat
  | (0, _, _) => 0
  | (1, _, _) => 1
  | (2, i, _) => 2 + 69 * i
  | (3, i, _) => 3 + 69 * i
  | (4, i, j) => if i = 8 then 554 else if j < 3 then 4 + 69 * i + 2 * j else if j < 11 then 13 + 69 * i + 3 * (j - 3) else 40 + 69 * i + 4 * (j - 11)
  | (5, i, j) => if i = 8 then 555 else if j < 3 then 5 + 69 * i + 2 * j else if j < 11 then 14 + 69 * i + 3 * (j - 3) else 41 + 69 * i + 4 * (j - 11)
  | (6, i, _) => 10 + 69 * i
  | (7, i, _) => 11 + 69 * i
  | (8, i, j) => 12 + 69 * i + 3 * j
  | (9, i, _) => 36 + 69 * i
  | (10, i, _) => 37 + 69 * i
  | (11, i, _) => 38 + 69 * i
  | (12, i, j) => 39 + 69 * i + 4 * j
  | (13, i, j) => 42 + 69 * i + 4 * j
  | (14, _, _) => 556
  | (15, j, _) => 557 + j
  | _ => 0
def mty (j : Nat) : Nat := if j = 6 then 1 else if j = 7 then 1 else if j = 8 then 1 else 0
def mln (j : Nat) : Nat := if j = 0 then 1024 else if j = 6 then 35072 else if j = 7 then 4096 else if j = 8 then 64 else if j = 9 then 512 else if j = 11 then 64 else if j = 12 then 64 else if j = 13 then 64 else if j = 15 then 512 else if j = 16 then 512 else 8
def sk : AD → SH
  | (0, _, _) => .inl (5, [some (rR (1, 0, 0)), some (rR (4, 8, 0)), none])
  | (1, _, _) => .inr (.inr (2, 8, fun i => (2, i, 0)))
  | (2, i, _) => .inl (2, [some (rI (nI i)), some (rR (3, i, 0)), none, none, none, none, none, some (rR (4, i, 0)), some (rR (4, i, 1)), some (rR (4, i, 2)), some (rR (6, i, 0)), some (rR (9, i, 0)), some (rR (10, i, 0)), some (rR (11, i, 0)), none])
  | (3, _, _) => .inr (.inl (0, 128))
  | (4, i, j) => .inl (4, [some (rR (5, i, j)), none])
  | (5, _, _) => .inr (.inl (0, 8))
  | (6, i, _) => .inl (1, [some (rR (7, i, 0)), none, none])
  | (7, i, _) => .inr (.inr (3, 8, fun j => (8, i, j)))
  | (8, i, j) => .inl (0, [some (rR (4, i, 3 + j)), none, none, none])
  | (9, i, _) => .inr (.inr (4, 8, fun j => (12, i, j)))
  | (10, _, _) => .inr (.inl (0, 64))
  | (11, _, _) => .inr (.inl (0, 64))
  | (12, i, j) => .inl (3, [some (rR (4, i, 11 + j)), some (rR (13, i, j)), none])
  | (13, _, _) => .inr (.inl (0, 8))
  | (14, _, _) => .inl (6, [some (rR (15, 0, 0)), some (rR (15, 1, 0)), some (rR (15, 2, 0)), some (rR (15, 3, 0)), some (rR (15, 4, 0)), some (rR (15, 5, 0)), some (rR (15, 6, 0)), some (rR (15, 7, 0)), some (rR (15, 8, 0)), some (rR (15, 9, 0)), some (rR (15, 10, 0)), some (rR (15, 11, 0)), some (rR (15, 12, 0)), some (rR (15, 13, 0)), some (rR (15, 14, 0)), some (rR (15, 15, 0)), some (rR (15, 16, 0)), none])
  | (15, j, _) => .inr (.inl (mty j, mln j))
  | _ => .inr (.inl (0, 0))
def slotA (i : Nat) : List AD := [(2, i, 0), (3, i, 0), (4, i, 0), (5, i, 0), (4, i, 1), (5, i, 1), (4, i, 2), (5, i, 2), (6, i, 0), (7, i, 0)] ++ ((List.range 8).flatMap (fun j => [(8, i, j), (4, i, 3 + j), (5, i, 3 + j)]) ++ ([(9, i, 0), (10, i, 0), (11, i, 0)] ++ (List.range 8).flatMap (fun j => [(12, i, j), (4, i, 11 + j), (5, i, 11 + j), (13, i, j)])))
def allA : List AD := [(0, 0, 0), (1, 0, 0)] ++ ((List.range 8).flatMap slotA ++ ([(4, 8, 0), (5, 8, 0), (14, 0, 0)] ++ (List.range 17).map (fun j => (15, j, 0))))
def okA (a : AD) : Prop := allA[lay a]? = some a
theorem allA_lay : ∀ i, i < 574 → (allA[i]?).map lay = some i := by decide +kernel
theorem allA_not16 : ∀ i, i < 574 → (allA[i]?).map (fun a => a.1 == 16) = some false := by decide +kernel
theorem allA_len : allA.length = 574 := by decide +kernel
theorem allA_ix {i : Nat} {a : AD} (h : allA[i]? = some a) : lay a = i ∧ a.1 ≠ 16 := by
  have hl : i < 574 := by rw [← allA_len]; exact (List.getElem?_eq_some_iff.mp h).1
  have h1 := allA_lay i hl
  have h2 := allA_not16 i hl
  rw [h] at h1 h2
  refine ⟨Option.some.inj h1, fun hh => ?_⟩
  simp [hh] at h2
def adr (K : EK) (a : AD) : Nat := if a.1 = 16 then ek_b K else ek_o K + lay a
def tv (K : EK) : AV → Value
  | .inl x => .int x
  | .inr none => .null
  | .inr (some a) => .ref (adr K a)
theorem tv_cat (K : EK) (v : AV) : (tv K v).category = 1 := by
  rcases v with x | _ | a <;> rfl
def fld (K : EK) : List (Option AV) → Nat → (Nat → Int32) → List Value
  | [], _, _ => []
  | o :: r, k, f => (match o with | some v => tv K v | none => .int (f k)) :: fld K r (k + 1) f
theorem fld_len (K : EK) : ∀ (fs : List (Option AV)) (k : Nat) (f : Nat → Int32), (fld K fs k f).length = fs.length
  | [], _, _ => rfl
  | _ :: r, k, f => by simp [fld, fld_len K r (k + 1) f]
theorem fld_at (K : EK) : ∀ (fs : List (Option AV)) (k j : Nat) (f : Nat → Int32) (o : Option AV), fs[j]? = some o → (fld K fs k f)[j]? = some (match o with | some v => tv K v | none => .int (f (k + j)))
  | [], _, _, _, _, h => by simp at h
  | a :: r, k, 0, f, o, h => by
    simp at h
    subst h
    rfl
  | a :: r, k, j + 1, f, o, h => by
    have h' : r[j]? = some o := by simpa using h
    have := fld_at K r (k + 1) j f o h'
    simp only [fld, List.getElem?_cons_succ]
    rw [this]
    cases o with
    | some v => rfl
    | none => simp [Nat.add_assoc, Nat.add_comm 1 j]
theorem fld_set (K : EK) : ∀ (fs : List (Option AV)) (k j : Nat) (f : Nat → Int32) (x : Int32), fs[j]? = some none → (fld K fs k f).set j (.int x) = fld K fs k (upd f (k + j) x)
  | [], _, _, _, _, h => by simp at h
  | a :: r, k, 0, f, x, h => by
    simp at h
    subst h
    simp only [fld, List.set_cons_zero]
    have h1 : upd f (k + 0) x k = x := by simp [upd]
    rw [h1]
    congr 1
    have key : ∀ (q : List (Option AV)) (n : Nat), k < n → fld K q n f = fld K q n (upd f (k + 0) x) := by
      intro q
      induction q with
      | nil => intro n _; rfl
      | cons o q ih =>
        intro n hn
        simp only [fld]
        rw [ih (n + 1) (by omega)]
        cases o with
        | some v => rfl
        | none =>
          have : upd f (k + 0) x n = f n := by simp [upd]; omega
          rw [this]
    exact key r (k + 1) (by omega)
  | a :: r, k, j + 1, f, x, h => by
    have h' : r[j]? = some none := by simpa using h
    have := fld_set K r (k + 1) j f x h'
    simp only [fld, List.set_cons_succ]
    rw [this, show k + 1 + j = k + (j + 1) by omega]
    congr 1
    cases a with
    | some v => rfl
    | none =>
      have : upd f (k + (j + 1)) x k = f k := by simp [upd]
      rw [this]
def te (K : EK) (h : SH) (f : Nat → Int32) : va_E := match h with
  | .inl o => .inr (o.1, fld K o.2 0 f)
  | .inr (.inl t) => .inl (ek_c K t.1, t.2, .inl f)
  | .inr (.inr t) => .inl (ek_c K t.1, t.2.1, .inr (.inr (.inr (.inr (fun j => some (adr K (t.2.2 j)))))))
def wl (K : EK) (D : DT) : va_W := allA.map (fun a => (adr K a, te K (sk a) (D a)))
def cls7 : List vw_C := [(RX0, TX0, 4), (RX1, TX1, 3), (RX2, TX2, 15), (RX3, TX3, 3), (RX4, TX4, 2), (RX5, TX5, 3), (RX6, TX6, 18)]
def tyl (K : EK) : List (ClassId × FieldType) := [(ek_c K 0, .int), (ek_c K 1, .boolean), (ek_c K 2, .object "FlowKernel$Slot"), (ek_c K 3, .object "FlowKernel$Message"), (ek_c K 4, .object "FlowKernel$StoredFile")]
def HD (K : EK) (D : DT) (H : Heap) : Prop := va_P (ek_D K) cls7 (wl K D) H
def AA (K : EK) : Nat → Prop := fun q => ek_o K ≤ q
theorem wl_at {K : EK} {D : DT} {a : AD} (h : okA a) : (wl K D)[lay a]? = some (adr K a, te K (sk a) (D a)) := by
  simp only [wl, List.getElem?_map]
  rw [show allA[lay a]? = some a from h]
  rfl
theorem wl_D (K : EK) (D : DT) : va_D (AA K) (wl K D) := by
  have key : ∀ (i : Nat) (q : Nat × va_E), (wl K D)[i]? = some q → q.1 = ek_o K + i := by
    intro i q h
    simp only [wl, List.getElem?_map] at h
    cases ha : allA[i]? with
    | none => rw [ha] at h; simp at h
    | some a =>
      rw [ha] at h
      obtain ⟨h1, h2⟩ := allA_ix ha
      cases h
      show (if a.1 = 16 then _ else _) = _
      rw [if_neg h2, h1]
  refine ⟨fun i j x y hi hj hxy => ?_, fun i q h => ?_⟩
  · have := key i x hi
    have := key j y hj
    omega
  · show ek_o K ≤ q.1
    rw [key i q h]
    omega
def up (D : DT) (a : AD) (k : Nat) (x : Int32) : DT := fun a' => if a' = a then upd (D a) k x else D a'
theorem HD_up {K : EK} {D : DT} {a : AD} {k : Nat} {x : Int32} {H : Heap} {e : va_E} (h : okA a) (he : e = te K (sk a) (upd (D a) k x)) (hp : va_P (ek_D K) cls7 ((wl K D).set (lay a) (adr K a, e)) H) : HD K (up D a k x) H := by
  intro i q hq
  simp only [wl, List.getElem?_map] at hq
  cases ha : allA[i]? with
  | none => rw [ha] at hq; simp at hq
  | some a' =>
    rw [ha] at hq
    cases hq
    obtain ⟨h1, h2⟩ := allA_ix ha
    have hl : lay a < (wl K D).length := (List.getElem?_eq_some_iff.mp (wl_at (K := K) (D := D) h)).1
    by_cases hh : a' = a
    · subst hh
      have := hp (lay a') (adr K a', e) (by rw [List.getElem?_set_self hl])
      rw [he] at this
      simpa [up] using this
    · have hne : i ≠ lay a := by
        intro e1
        subst e1
        rw [show allA[lay a]? = some a from h] at ha
        exact hh (Option.some.inj ha).symm
      have := hp i (adr K a', te K (sk a') (D a')) (by
        rw [List.getElem?_set_ne (Ne.symm hne)]
        simp only [wl, List.getElem?_map, ha, Option.map_some])
      simpa [up, hh] using this
/-! THE TABLES' WORDS -/
def tbg : List Cond := lw_tbl.filter goodWord
def isNest : Cond → Bool
  | .fieldLinkNest .. => true
  | .methodLinkNest .. => true
  | _ => false
def nst : List Cond := lw_tbl.filter isNest
theorem tbg_in {w : Cond} (h : w ∈ lw_tbl) (hg : goodWord w = true) : w ∈ tbg := List.mem_filter.mpr ⟨h, hg⟩
theorem nst_in {w : Cond} (h : w ∈ lw_tbl) (hg : isNest w = true) : w ∈ nst := List.mem_filter.mpr ⟨h, hg⟩
theorem nst_warm {w : Cond} (h : w ∈ nst) {s U : State} (hW : s.WarmedH U.vm) (hZ : va_Nw w s) : va_Nw w U := by
  have h1 := (List.mem_filter.mp h).2
  cases w <;> first | exact va_Nw.warmF hW hZ | exact va_Nw.warmM hW hZ | exact absurd h1 (by decide) | cases h1
theorem nst_same {w : Cond} (h : w ∈ nst) {u U : State} (hv : u.vm = U.vm) (hZ : va_Nw w u) : va_Nw w U := by
  have h1 := (List.mem_filter.mp h).2
  cases w <;> first | exact va_Nw.same rfl hv hZ | cases h1
theorem nst_use {w : Cond} (h : w ∈ nst) {A : Array Value} {U : State} (hZ : va_Nw w U) : w.before A U = true := by
  have h1 := (List.mem_filter.mp h).2
  cases w <;> first | exact va_Nw.use rfl hZ | cases h1
end
section
/-! THE JUDGEMENT. lok: the frame's locals hold what is known of them. RC: what stands still while a method runs. RD: from here the method comes to a return with Q. CT: a method's contract. -/
def lok (K : EK) (la : Array Slot) (n : Nat) (ls : List (Option AV)) : Prop := la.size = n ∧ lv_wf la ∧ ∀ (i : Nat) (v : AV), ls[i]? = some (some v) → la[i]? = some (.val (tv K v))
def prs (K : EK) (ls : List (Option AV)) : List (Nat × Value) := (List.range ls.length).filterMap (fun i => (ls[i]?).bind (fun o => o.map (fun v => (i, tv K v))))
theorem prs_mem {K : EK} {ls : List (Option AV)} {q : Nat × Value} : q ∈ prs K ls ↔ ∃ v, ls[q.1]? = some (some v) ∧ q.2 = tv K v := by
  simp only [prs, List.mem_filterMap, List.mem_range]
  constructor
  · rintro ⟨i, hi, h⟩
    cases h1 : ls[i]? with
    | none => rw [h1] at h; cases h
    | some o =>
      rw [h1] at h
      cases o with
      | none => cases h
      | some v => cases h; exact ⟨v, h1, rfl⟩
  · rintro ⟨v, h1, h2⟩
    refine ⟨q.1, (List.getElem?_eq_some_iff.mp h1).1, ?_⟩
    rw [h1]
    simp [← h2]
theorem lok_has {K : EK} {la : Array Slot} {n : Nat} {ls : List (Option AV)} (h : lok K la n ls) : lv_has la n (prs K ls) := by
  refine ⟨h.1, h.2.1, fun q hq => ?_⟩
  obtain ⟨v, h1, h2⟩ := prs_mem.mp hq
  rw [h2]
  exact h.2.2 q.1 v h1
theorem lok_set {K : EK} {la : Array Slot} {n i : Nat} {ls : List (Option AV)} {v : AV} (h : lv_has la n ((i, tv K v) :: (prs K ls).filter (fun q => !(q.1 == i) && !(q.1 + 1 == i && q.2.category == 2)))) : lok K la n (ls.set i (some v)) := by
  refine ⟨h.1, h.2.1, fun j w hw => ?_⟩
  by_cases hj : j = i
  · subst hj
    have hl : j < ls.length := by
      have := (List.getElem?_eq_some_iff.mp hw).1
      simpa using this
    rw [List.getElem?_set_self hl] at hw
    cases hw
    exact h.2.2 (j, tv K v) List.mem_cons_self
  · rw [List.getElem?_set_ne (Ne.symm hj)] at hw
    refine h.2.2 (j, tv K w) (List.mem_cons_of_mem _ (List.mem_filter.mpr ⟨prs_mem.mpr ⟨w, hw, rfl⟩, ?_⟩))
    simp [hj, tv_cat]
def RC (K : EK) (mt : MT) (d : Nat) (p : Program) (R : Room) (s : State) (m : MethodId) (args : Array Value) (c : Code) (cells slots : Nat) : Prop :=
  p.tables.exec = Jvm.exec ∧ c.code = mt.2.1 ∧ c.maxLocals = mt.2.2.1 ∧ s.vm.findClass mt.1.cls = some m.cls ∧ (∀ w ∈ tbg, w.before args s = true) ∧ (∀ w ∈ nst, va_Nw w s) ∧ va_K (ek_D K) cls7 (tyl K) s ∧ va_X (ek_b K) (ek_L K) (ek_x K) s s.heap ∧ ek_b K < ek_o K ∧ ek_o K ≤ s.heap.size ∧ d ≤ R.frames ∧ 26 * d ≤ R.locals ∧ cells ≤ R.cells ∧ slots ≤ R.slots
def rtn (mt : MT) (pc : Nat) (r : Option AV) : Prop := match r with
  | none => mt.2.2.2 = none ∧ decode mt.2.1 pc = .ok (.return_, 1)
  | some (.inl v) => (∃ ty, mt.2.2.2 = some ty ∧ narrow ty (.int v) = .int v) ∧ decode mt.2.1 pc = .ok (.ireturn, 1)
  | some (.inr _) => (∃ n, mt.2.2.2 = some (.object n)) ∧ decode mt.2.1 pc = .ok (.areturn, 1)
def RD (K : EK) (mt : MT) (d : Nat) (pc : Nat) (ls : List (Option AV)) (st : List AV) (D : DT) (Q : Option AV → DT → Prop) : Prop :=
  ∀ (p : Program) (e : Env) (R : Room) (s : State) (m : MethodId) (args : Array Value) (below : List Frame) (meth : Method) (c : Code) (H : Heap) (locs : List Loc) (cells slots : Nat) (la : Array Slot) (Z : State → Prop),
    RC K mt d p R s m args c cells slots → HD K D H → va_S (AA K) s.heap H locs → lok K la mt.2.2.1 ls →
    (∀ (r : Option AV) (D' : DT) (H' : Heap) (locs' : List Loc) (pc' : Nat) (la' : Array Slot), HD K D' H' → va_S (AA K) s.heap H' locs' → Q r D' → rtn mt pc' r → W p (ek_l K) e R s m args below meth c H' locs' cells slots Z (F0 m pc' la' (r.toList.map (tv K)))) →
    W p (ek_l K) e R s m args below meth c H locs cells slots Z (F0 m pc la (st.map (tv K)))
section RDR
variable {K : EK} {mt : MT} {d pc : Nat} {ls : List (Option AV)} {st : List AV} {D : DT} {Q : Option AV → DT → Prop}
theorem RD.mono {Q' : Option AV → DT → Prop} (h : RD K mt d pc ls st D Q) (hq : ∀ r D', Q r D' → Q' r D') : RD K mt d pc ls st D Q' := fun p e R s m args below meth c H locs cells slots la Z hC hH hS hl hf => h p e R s m args below meth c H locs cells slots la Z hC hH hS hl (fun r D' H' locs' pc' la' a1 a2 a3 a4 => hf r D' H' locs' pc' la' a1 a2 (hq r D' a3) a4)
theorem RD.iconst {n : Int} {v : Int32} (hd : decode mt.2.1 pc = .ok (.iconst n, 1)) (hv : Int32.ofInt n = v) (k : RD K mt d (pc + 1) ls (rI v :: st) D Q) : RD K mt d pc ls st D Q := fun p e R s m args below meth c H locs cells slots la Z hC hH hS hl hf => lv_iconst hC.1 hC.2.1 hd hv (k p e R s m args below meth c H locs cells slots la Z hC hH hS hl hf)
theorem RD.bipush {n : Int} {v : Int32} (hd : decode mt.2.1 pc = .ok (.bipush n, 2)) (hv : (Int8.ofInt n).toInt32 = v) (k : RD K mt d (pc + 2) ls (rI v :: st) D Q) : RD K mt d pc ls st D Q := fun p e R s m args below meth c H locs cells slots la Z hC hH hS hl hf => lv_bipush hC.1 hC.2.1 hd hv (k p e R s m args below meth c H locs cells slots la Z hC hH hS hl hf)
theorem RD.sipush {n : Int} {v : Int32} (hd : decode mt.2.1 pc = .ok (.sipush n, 3)) (hv : (Int16.ofInt n).toInt32 = v) (k : RD K mt d (pc + 3) ls (rI v :: st) D Q) : RD K mt d pc ls st D Q := fun p e R s m args below meth c H locs cells slots la Z hC hH hS hl hf => lv_sipush hC.1 hC.2.1 hd hv (k p e R s m args below meth c H locs cells slots la Z hC hH hS hl hf)
theorem RD.ldc {n : Nat} {v : Int32} (hd : decode mt.2.1 pc = .ok (.ldc n, 2)) (hw : Cond.constant mt.1.cls n v ∈ tbg) (k : RD K mt d (pc + 2) ls (rI v :: st) D Q) : RD K mt d pc ls st D Q := fun p e R s m args below meth c H locs cells slots la Z hC hH hS hl hf => lv_ldc hC.1 hC.2.1 hC.2.2.2.1 (hC.2.2.2.2.1 _ hw) hd (k p e R s m args below meth c H locs cells slots la Z hC hH hS hl hf)
theorem RD.null (hd : decode mt.2.1 pc = .ok (.aconst_null, 1)) (k : RD K mt d (pc + 1) ls (rN :: st) D Q) : RD K mt d pc ls st D Q := fun p e R s m args below meth c H locs cells slots la Z hC hH hS hl hf => lv_null hC.1 hC.2.1 hd (k p e R s m args below meth c H locs cells slots la Z hC hH hS hl hf)
theorem RD.iload_n {i : Fin 4} {x : Int32} (hd : decode mt.2.1 pc = .ok (.iload_n i, 1)) (hx : ls[(i : Nat)]? = some (some (rI x))) (k : RD K mt d (pc + 1) ls (rI x :: st) D Q) : RD K mt d pc ls st D Q := fun p e R s m args below meth c H locs cells slots la Z hC hH hS hl hf => lv_iload_n hC.1 hC.2.1 hd rfl (hl.2.2 _ _ hx) (k p e R s m args below meth c H locs cells slots la Z hC hH hS hl hf)
theorem RD.iload {i : Nat} {x : Int32} (hd : decode mt.2.1 pc = .ok (.iload i, 2)) (hx : ls[i]? = some (some (rI x))) (k : RD K mt d (pc + 2) ls (rI x :: st) D Q) : RD K mt d pc ls st D Q := fun p e R s m args below meth c H locs cells slots la Z hC hH hS hl hf => lv_iload hC.1 hC.2.1 hd (hl.2.2 _ _ hx) (k p e R s m args below meth c H locs cells slots la Z hC hH hS hl hf)
theorem RD.aload_n {i : Fin 4} {o : Option AD} (hd : decode mt.2.1 pc = .ok (.aload_n i, 1)) (hx : ls[(i : Nat)]? = some (some (.inr o))) (k : RD K mt d (pc + 1) ls (.inr o :: st) D Q) : RD K mt d pc ls st D Q := fun p e R s m args below meth c H locs cells slots la Z hC hH hS hl hf => by
  cases o with
  | some a => exact lv_aload_n hC.1 hC.2.1 hd rfl (hl.2.2 _ _ hx) (k p e R s m args below meth c H locs cells slots la Z hC hH hS hl hf)
  | none => exact lv_aload_nN hC.1 hC.2.1 hd rfl (hl.2.2 _ _ hx) (k p e R s m args below meth c H locs cells slots la Z hC hH hS hl hf)
theorem RD.aload {i : Nat} {o : Option AD} (hd : decode mt.2.1 pc = .ok (.aload i, 2)) (hx : ls[i]? = some (some (.inr o))) (k : RD K mt d (pc + 2) ls (.inr o :: st) D Q) : RD K mt d pc ls st D Q := fun p e R s m args below meth c H locs cells slots la Z hC hH hS hl hf => by
  cases o with
  | some a => exact lv_aload hC.1 hC.2.1 hd (hl.2.2 _ _ hx) (k p e R s m args below meth c H locs cells slots la Z hC hH hS hl hf)
  | none => exact lv_aloadN hC.1 hC.2.1 hd (hl.2.2 _ _ hx) (k p e R s m args below meth c H locs cells slots la Z hC hH hS hl hf)
theorem RD.istore_n {i : Fin 4} {x : Int32} {ls' : List (Option AV)} (hd : decode mt.2.1 pc = .ok (.istore_n i, 1)) (hn : (i : Nat) < mt.2.2.1) (hs : ls.set i (some (rI x)) = ls') (k : RD K mt d (pc + 1) ls' st D Q) : RD K mt d pc ls (rI x :: st) D Q := fun p e R s m args below meth c H locs cells slots la Z hC hH hS hl hf => lv_istore_n hC.1 hC.2.1 hd rfl (lok_has hl) hn rfl (fun la' h => k p e R s m args below meth c H locs cells slots la' Z hC hH hS (by rw [← hs]; exact lok_set (v := rI x) h) hf)
theorem RD.istore {i : Nat} {x : Int32} {ls' : List (Option AV)} (hd : decode mt.2.1 pc = .ok (.istore i, 2)) (hn : i < mt.2.2.1) (hs : ls.set i (some (rI x)) = ls') (k : RD K mt d (pc + 2) ls' st D Q) : RD K mt d pc ls (rI x :: st) D Q := fun p e R s m args below meth c H locs cells slots la Z hC hH hS hl hf => lv_istore hC.1 hC.2.1 hd (lok_has hl) hn rfl (fun la' h => k p e R s m args below meth c H locs cells slots la' Z hC hH hS (by rw [← hs]; exact lok_set (v := rI x) h) hf)
theorem RD.astore_n {i : Fin 4} {o : Option AD} {ls' : List (Option AV)} (hd : decode mt.2.1 pc = .ok (.astore_n i, 1)) (hn : (i : Nat) < mt.2.2.1) (hs : ls.set i (some (.inr o)) = ls') (k : RD K mt d (pc + 1) ls' st D Q) : RD K mt d pc ls (.inr o :: st) D Q := fun p e R s m args below meth c H locs cells slots la Z hC hH hS hl hf => by
  cases o with
  | some a => exact lv_astore_n hC.1 hC.2.1 hd rfl (lok_has hl) hn rfl (fun la' h => k p e R s m args below meth c H locs cells slots la' Z hC hH hS (by rw [← hs]; exact lok_set (v := rR a) h) hf)
  | none => exact lv_astore_nN hC.1 hC.2.1 hd rfl (lok_has hl) hn rfl (fun la' h => k p e R s m args below meth c H locs cells slots la' Z hC hH hS (by rw [← hs]; exact lok_set (v := rN) h) hf)
theorem RD.astore {i : Nat} {o : Option AD} {ls' : List (Option AV)} (hd : decode mt.2.1 pc = .ok (.astore i, 2)) (hn : i < mt.2.2.1) (hs : ls.set i (some (.inr o)) = ls') (k : RD K mt d (pc + 2) ls' st D Q) : RD K mt d pc ls (.inr o :: st) D Q := fun p e R s m args below meth c H locs cells slots la Z hC hH hS hl hf => by
  cases o with
  | some a => exact lv_astore hC.1 hC.2.1 hd (lok_has hl) hn rfl (fun la' h => k p e R s m args below meth c H locs cells slots la' Z hC hH hS (by rw [← hs]; exact lok_set (v := rR a) h) hf)
  | none => exact lv_astoreN hC.1 hC.2.1 hd (lok_has hl) hn rfl (fun la' h => k p e R s m args below meth c H locs cells slots la' Z hC hH hS (by rw [← hs]; exact lok_set (v := rN) h) hf)
theorem RD.iinc {i : Nat} {n : Int} {x v : Int32} {ls' : List (Option AV)} (hd : decode mt.2.1 pc = .ok (.iinc i n, 3)) (hx : ls[i]? = some (some (rI x))) (hv : x + Int32.ofInt n = v) (hn : i < mt.2.2.1) (hs : ls.set i (some (rI v)) = ls') (k : RD K mt d (pc + 3) ls' st D Q) : RD K mt d pc ls st D Q := fun p e R s m args below meth c H locs cells slots la Z hC hH hS hl hf => by
  obtain ⟨j, hj⟩ := List.getElem?_of_mem (prs_mem (K := K) (q := (i, tv K (rI x))).mpr ⟨rI x, hx, rfl⟩)
  exact lv_iinc hC.1 hC.2.1 hd (lok_has hl) hj hv hn rfl (fun la' h => k p e R s m args below meth c H locs cells slots la' Z hC hH hS (by rw [← hs]; exact lok_set (v := rI v) h) hf)
theorem RD.iadd {x y : Int32} (hd : decode mt.2.1 pc = .ok (.iadd, 1)) (k : RD K mt d (pc + 1) ls (rI (x + y) :: st) D Q) : RD K mt d pc ls (rI y :: rI x :: st) D Q := fun p e R s m args below meth c H locs cells slots la Z hC hH hS hl hf => lv_iadd hC.1 hC.2.1 hd (k p e R s m args below meth c H locs cells slots la Z hC hH hS hl hf)
theorem RD.isub {x y : Int32} (hd : decode mt.2.1 pc = .ok (.isub, 1)) (k : RD K mt d (pc + 1) ls (rI (x - y) :: st) D Q) : RD K mt d pc ls (rI y :: rI x :: st) D Q := fun p e R s m args below meth c H locs cells slots la Z hC hH hS hl hf => lv_isub hC.1 hC.2.1 hd (k p e R s m args below meth c H locs cells slots la Z hC hH hS hl hf)
theorem RD.imul {x y : Int32} (hd : decode mt.2.1 pc = .ok (.imul, 1)) (k : RD K mt d (pc + 1) ls (rI (x * y) :: st) D Q) : RD K mt d pc ls (rI y :: rI x :: st) D Q := fun p e R s m args below meth c H locs cells slots la Z hC hH hS hl hf => lv_imul hC.1 hC.2.1 hd (k p e R s m args below meth c H locs cells slots la Z hC hH hS hl hf)
theorem RD.idiv {x y : Int32} (hd : decode mt.2.1 pc = .ok (.idiv, 1)) (hne : ¬ y = 0) (k : RD K mt d (pc + 1) ls (rI (x / y) :: st) D Q) : RD K mt d pc ls (rI y :: rI x :: st) D Q := fun p e R s m args below meth c H locs cells slots la Z hC hH hS hl hf => lv_idiv hC.1 hC.2.1 hd hne (k p e R s m args below meth c H locs cells slots la Z hC hH hS hl hf)
theorem RD.irem {x y : Int32} (hd : decode mt.2.1 pc = .ok (.irem, 1)) (hne : ¬ y = 0) (k : RD K mt d (pc + 1) ls (rI (x - x / y * y) :: st) D Q) : RD K mt d pc ls (rI y :: rI x :: st) D Q := fun p e R s m args below meth c H locs cells slots la Z hC hH hS hl hf => lv_irem hC.1 hC.2.1 hd hne (k p e R s m args below meth c H locs cells slots la Z hC hH hS hl hf)
theorem RD.iand {x y : Int32} (hd : decode mt.2.1 pc = .ok (.iand, 1)) (k : RD K mt d (pc + 1) ls (rI (x &&& y) :: st) D Q) : RD K mt d pc ls (rI y :: rI x :: st) D Q := fun p e R s m args below meth c H locs cells slots la Z hC hH hS hl hf => lv_iand hC.1 hC.2.1 hd (k p e R s m args below meth c H locs cells slots la Z hC hH hS hl hf)
theorem RD.ior {x y : Int32} (hd : decode mt.2.1 pc = .ok (.ior, 1)) (k : RD K mt d (pc + 1) ls (rI (x ||| y) :: st) D Q) : RD K mt d pc ls (rI y :: rI x :: st) D Q := fun p e R s m args below meth c H locs cells slots la Z hC hH hS hl hf => lv_ior hC.1 hC.2.1 hd (k p e R s m args below meth c H locs cells slots la Z hC hH hS hl hf)
theorem RD.ixor {x y : Int32} (hd : decode mt.2.1 pc = .ok (.ixor, 1)) (k : RD K mt d (pc + 1) ls (rI (x ^^^ y) :: st) D Q) : RD K mt d pc ls (rI y :: rI x :: st) D Q := fun p e R s m args below meth c H locs cells slots la Z hC hH hS hl hf => lv_ixor hC.1 hC.2.1 hd (k p e R s m args below meth c H locs cells slots la Z hC hH hS hl hf)
theorem RD.ishl {x y : Int32} (hd : decode mt.2.1 pc = .ok (.ishl, 1)) (k : RD K mt d (pc + 1) ls (rI (x <<< (y &&& 31)) :: st) D Q) : RD K mt d pc ls (rI y :: rI x :: st) D Q := fun p e R s m args below meth c H locs cells slots la Z hC hH hS hl hf => lv_ishl hC.1 hC.2.1 hd (k p e R s m args below meth c H locs cells slots la Z hC hH hS hl hf)
theorem RD.ishr {x y : Int32} (hd : decode mt.2.1 pc = .ok (.ishr, 1)) (k : RD K mt d (pc + 1) ls (rI (x >>> (y &&& 31)) :: st) D Q) : RD K mt d pc ls (rI y :: rI x :: st) D Q := fun p e R s m args below meth c H locs cells slots la Z hC hH hS hl hf => lv_ishr hC.1 hC.2.1 hd (k p e R s m args below meth c H locs cells slots la Z hC hH hS hl hf)
theorem RD.dup {v : AV} (hd : decode mt.2.1 pc = .ok (.dup, 1)) (k : RD K mt d (pc + 1) ls (v :: v :: st) D Q) : RD K mt d pc ls (v :: st) D Q := fun p e R s m args below meth c H locs cells slots la Z hC hH hS hl hf => lv_dup hC.1 hC.2.1 hd (tv_cat K v) (k p e R s m args below meth c H locs cells slots la Z hC hH hS hl hf)
theorem RD.pop {v : AV} (hd : decode mt.2.1 pc = .ok (.pop, 1)) (k : RD K mt d (pc + 1) ls st D Q) : RD K mt d pc ls (v :: st) D Q := fun p e R s m args below meth c H locs cells slots la Z hC hH hS hl hf => lv_pop hC.1 hC.2.1 hd (tv_cat K v) (k p e R s m args below meth c H locs cells slots la Z hC hH hS hl hf)
theorem RD.dup2 {v w : AV} (hd : decode mt.2.1 pc = .ok (.dup2, 1)) (k : RD K mt d (pc + 1) ls (v :: w :: v :: w :: st) D Q) : RD K mt d pc ls (v :: w :: st) D Q := fun p e R s m args below meth c H locs cells slots la Z hC hH hS hl hf => lv_dup2_11 hC.1 hC.2.1 hd (tv_cat K v) (tv_cat K w) (k p e R s m args below meth c H locs cells slots la Z hC hH hS hl hf)
theorem RD.goto {off : Int} (tgt : Nat) (hd : decode mt.2.1 pc = .ok (.goto off, 3)) (ht : (pc : Int) + off = (tgt : Int)) (k : RD K mt d tgt ls st D Q) : RD K mt d pc ls st D Q := fun p e R s m args below meth c H locs cells slots la Z hC hH hS hl hf => lv_goto hC.1 hC.2.1 hd ht (k p e R s m args below meth c H locs cells slots la Z hC hH hS hl hf)
theorem RD.if_eq {x : Int32} {off : Int} (tgt : Nat) (hd : decode mt.2.1 pc = .ok (.ifCond .eq off, 3)) (ht : (pc : Int) + off = (tgt : Int)) (kt : x = 0 → RD K mt d tgt ls st D Q) (kf : ¬ x = 0 → RD K mt d (pc + 3) ls st D Q) : RD K mt d pc ls (rI x :: st) D Q := fun p e R s m args below meth c H locs cells slots la Z hC hH hS hl hf => lv_if_eq hC.1 hC.2.1 hd ht (fun h => kt h p e R s m args below meth c H locs cells slots la Z hC hH hS hl hf) (fun h => kf h p e R s m args below meth c H locs cells slots la Z hC hH hS hl hf)
theorem RD.if_ne {x : Int32} {off : Int} (tgt : Nat) (hd : decode mt.2.1 pc = .ok (.ifCond .ne off, 3)) (ht : (pc : Int) + off = (tgt : Int)) (kt : ¬ x = 0 → RD K mt d tgt ls st D Q) (kf : x = 0 → RD K mt d (pc + 3) ls st D Q) : RD K mt d pc ls (rI x :: st) D Q := fun p e R s m args below meth c H locs cells slots la Z hC hH hS hl hf => lv_if_ne hC.1 hC.2.1 hd ht (fun h => kt h p e R s m args below meth c H locs cells slots la Z hC hH hS hl hf) (fun h => kf h p e R s m args below meth c H locs cells slots la Z hC hH hS hl hf)
theorem RD.if_lt {x : Int32} {off : Int} (tgt : Nat) (hd : decode mt.2.1 pc = .ok (.ifCond .lt off, 3)) (ht : (pc : Int) + off = (tgt : Int)) (kt : x < 0 → RD K mt d tgt ls st D Q) (kf : ¬ x < 0 → RD K mt d (pc + 3) ls st D Q) : RD K mt d pc ls (rI x :: st) D Q := fun p e R s m args below meth c H locs cells slots la Z hC hH hS hl hf => lv_if_lt hC.1 hC.2.1 hd ht (fun h => kt h p e R s m args below meth c H locs cells slots la Z hC hH hS hl hf) (fun h => kf h p e R s m args below meth c H locs cells slots la Z hC hH hS hl hf)
theorem RD.if_ge {x : Int32} {off : Int} (tgt : Nat) (hd : decode mt.2.1 pc = .ok (.ifCond .ge off, 3)) (ht : (pc : Int) + off = (tgt : Int)) (kt : 0 ≤ x → RD K mt d tgt ls st D Q) (kf : ¬ 0 ≤ x → RD K mt d (pc + 3) ls st D Q) : RD K mt d pc ls (rI x :: st) D Q := fun p e R s m args below meth c H locs cells slots la Z hC hH hS hl hf => lv_if_ge hC.1 hC.2.1 hd ht (fun h => kt h p e R s m args below meth c H locs cells slots la Z hC hH hS hl hf) (fun h => kf h p e R s m args below meth c H locs cells slots la Z hC hH hS hl hf)
theorem RD.if_gt {x : Int32} {off : Int} (tgt : Nat) (hd : decode mt.2.1 pc = .ok (.ifCond .gt off, 3)) (ht : (pc : Int) + off = (tgt : Int)) (kt : 0 < x → RD K mt d tgt ls st D Q) (kf : ¬ 0 < x → RD K mt d (pc + 3) ls st D Q) : RD K mt d pc ls (rI x :: st) D Q := fun p e R s m args below meth c H locs cells slots la Z hC hH hS hl hf => lv_if_gt hC.1 hC.2.1 hd ht (fun h => kt h p e R s m args below meth c H locs cells slots la Z hC hH hS hl hf) (fun h => kf h p e R s m args below meth c H locs cells slots la Z hC hH hS hl hf)
theorem RD.if_le {x : Int32} {off : Int} (tgt : Nat) (hd : decode mt.2.1 pc = .ok (.ifCond .le off, 3)) (ht : (pc : Int) + off = (tgt : Int)) (kt : x ≤ 0 → RD K mt d tgt ls st D Q) (kf : ¬ x ≤ 0 → RD K mt d (pc + 3) ls st D Q) : RD K mt d pc ls (rI x :: st) D Q := fun p e R s m args below meth c H locs cells slots la Z hC hH hS hl hf => lv_if_le hC.1 hC.2.1 hd ht (fun h => kt h p e R s m args below meth c H locs cells slots la Z hC hH hS hl hf) (fun h => kf h p e R s m args below meth c H locs cells slots la Z hC hH hS hl hf)
theorem RD.icmp_eq {x y : Int32} {off : Int} (tgt : Nat) (hd : decode mt.2.1 pc = .ok (.if_icmp .eq off, 3)) (ht : (pc : Int) + off = (tgt : Int)) (kt : x = y → RD K mt d tgt ls st D Q) (kf : ¬ x = y → RD K mt d (pc + 3) ls st D Q) : RD K mt d pc ls (rI y :: rI x :: st) D Q := fun p e R s m args below meth c H locs cells slots la Z hC hH hS hl hf => lv_icmp_eq hC.1 hC.2.1 hd ht (fun h => kt h p e R s m args below meth c H locs cells slots la Z hC hH hS hl hf) (fun h => kf h p e R s m args below meth c H locs cells slots la Z hC hH hS hl hf)
theorem RD.icmp_ne {x y : Int32} {off : Int} (tgt : Nat) (hd : decode mt.2.1 pc = .ok (.if_icmp .ne off, 3)) (ht : (pc : Int) + off = (tgt : Int)) (kt : ¬ x = y → RD K mt d tgt ls st D Q) (kf : x = y → RD K mt d (pc + 3) ls st D Q) : RD K mt d pc ls (rI y :: rI x :: st) D Q := fun p e R s m args below meth c H locs cells slots la Z hC hH hS hl hf => lv_icmp_ne hC.1 hC.2.1 hd ht (fun h => kt h p e R s m args below meth c H locs cells slots la Z hC hH hS hl hf) (fun h => kf h p e R s m args below meth c H locs cells slots la Z hC hH hS hl hf)
theorem RD.icmp_lt {x y : Int32} {off : Int} (tgt : Nat) (hd : decode mt.2.1 pc = .ok (.if_icmp .lt off, 3)) (ht : (pc : Int) + off = (tgt : Int)) (kt : x < y → RD K mt d tgt ls st D Q) (kf : ¬ x < y → RD K mt d (pc + 3) ls st D Q) : RD K mt d pc ls (rI y :: rI x :: st) D Q := fun p e R s m args below meth c H locs cells slots la Z hC hH hS hl hf => lv_icmp_lt hC.1 hC.2.1 hd ht (fun h => kt h p e R s m args below meth c H locs cells slots la Z hC hH hS hl hf) (fun h => kf h p e R s m args below meth c H locs cells slots la Z hC hH hS hl hf)
theorem RD.icmp_ge {x y : Int32} {off : Int} (tgt : Nat) (hd : decode mt.2.1 pc = .ok (.if_icmp .ge off, 3)) (ht : (pc : Int) + off = (tgt : Int)) (kt : y ≤ x → RD K mt d tgt ls st D Q) (kf : ¬ y ≤ x → RD K mt d (pc + 3) ls st D Q) : RD K mt d pc ls (rI y :: rI x :: st) D Q := fun p e R s m args below meth c H locs cells slots la Z hC hH hS hl hf => lv_icmp_ge hC.1 hC.2.1 hd ht (fun h => kt h p e R s m args below meth c H locs cells slots la Z hC hH hS hl hf) (fun h => kf h p e R s m args below meth c H locs cells slots la Z hC hH hS hl hf)
theorem RD.icmp_gt {x y : Int32} {off : Int} (tgt : Nat) (hd : decode mt.2.1 pc = .ok (.if_icmp .gt off, 3)) (ht : (pc : Int) + off = (tgt : Int)) (kt : y < x → RD K mt d tgt ls st D Q) (kf : ¬ y < x → RD K mt d (pc + 3) ls st D Q) : RD K mt d pc ls (rI y :: rI x :: st) D Q := fun p e R s m args below meth c H locs cells slots la Z hC hH hS hl hf => lv_icmp_gt hC.1 hC.2.1 hd ht (fun h => kt h p e R s m args below meth c H locs cells slots la Z hC hH hS hl hf) (fun h => kf h p e R s m args below meth c H locs cells slots la Z hC hH hS hl hf)
theorem RD.icmp_le {x y : Int32} {off : Int} (tgt : Nat) (hd : decode mt.2.1 pc = .ok (.if_icmp .le off, 3)) (ht : (pc : Int) + off = (tgt : Int)) (kt : x ≤ y → RD K mt d tgt ls st D Q) (kf : ¬ x ≤ y → RD K mt d (pc + 3) ls st D Q) : RD K mt d pc ls (rI y :: rI x :: st) D Q := fun p e R s m args below meth c H locs cells slots la Z hC hH hS hl hf => lv_icmp_le hC.1 hC.2.1 hd ht (fun h => kt h p e R s m args below meth c H locs cells slots la Z hC hH hS hl hf) (fun h => kf h p e R s m args below meth c H locs cells slots la Z hC hH hS hl hf)
theorem RD.ifnonnull {o : Option AD} {off : Int} (tgt : Nat) (hd : decode mt.2.1 pc = .ok (.ifnonnull off, 3)) (ht : (pc : Int) + off = (tgt : Int)) (kt : ∀ a, o = some a → RD K mt d tgt ls st D Q) (kf : o = none → RD K mt d (pc + 3) ls st D Q) : RD K mt d pc ls (.inr o :: st) D Q := fun p e R s m args below meth c H locs cells slots la Z hC hH hS hl hf => by
  cases o with
  | some a => exact lv_ifnonnull hC.1 hC.2.1 hd ht (kt a rfl p e R s m args below meth c H locs cells slots la Z hC hH hS hl hf)
  | none => exact lv_ifnonnullN hC.1 hC.2.1 hd (kf rfl p e R s m args below meth c H locs cells slots la Z hC hH hS hl hf)
theorem RD.tableOut {dflt lo hi : Int} {offs : Array Int} {len : Nat} {x : Int32} (tgt : Nat) (hd : decode mt.2.1 pc = .ok (.tableswitch dflt lo hi offs, len)) (h : x.toInt < lo ∨ hi < x.toInt) (ht : (pc : Int) + dflt = (tgt : Int)) (k : RD K mt d tgt ls st D Q) : RD K mt d pc ls (rI x :: st) D Q := fun p e R s m args below meth c H locs cells slots la Z hC hH hS hl hf => lv_tableOut hC.1 hC.2.1 hd h ht (k p e R s m args below meth c H locs cells slots la Z hC hH hS hl hf)
theorem RD.tableIn {dflt lo hi : Int} {offs : Array Int} {len : Nat} {x : Int32} {off : Int} (tgt : Nat) (hd : decode mt.2.1 pc = .ok (.tableswitch dflt lo hi offs, len)) (h1 : ¬ x.toInt < lo) (h2 : ¬ hi < x.toInt) (ho : offs[(x.toInt - lo).toNat]? = some off) (ht : (pc : Int) + off = (tgt : Int)) (k : RD K mt d tgt ls st D Q) : RD K mt d pc ls (rI x :: st) D Q := fun p e R s m args below meth c H locs cells slots la Z hC hH hS hl hf => lv_tableIn hC.1 hC.2.1 hd h1 h2 ho ht (k p e R s m args below meth c H locs cells slots la Z hC hH hS hl hf)
theorem RD.lookup {dflt : Int} {ps : Array (Int × Int)} {len : Nat} {x : Int32} {off : Int} (tgt : Nat) (hd : decode mt.2.1 pc = .ok (.lookupswitch dflt ps, len)) (hp : (ps.toList.zip (ps.toList.drop 1)).all (fun (a, next) => a.1 < next.1) = true) (ho : Op.lookupswitch.offset ps.toList dflt x.toInt = off) (ht : (pc : Int) + off = (tgt : Int)) (k : RD K mt d tgt ls st D Q) : RD K mt d pc ls (rI x :: st) D Q := fun p e R s m args below meth c H locs cells slots la Z hC hH hS hl hf => lv_lookup hC.1 hC.2.1 hd hp ho ht (k p e R s m args below meth c H locs cells slots la Z hC hH hS hl hf)
theorem RD.ret (hd : rtn mt pc none) (hq : Q none D) : RD K mt d pc ls [] D Q := fun p e R s m args below meth c H locs cells slots la Z hC hH hS hl hf => hf none D H locs pc la hH hS hq hd
theorem RD.ireturn {v : Int32} {ty : FieldType} (hd : decode mt.2.1 pc = .ok (.ireturn, 1)) (ht : mt.2.2.2 = some ty) (hn : narrow ty (.int v) = .int v) (hq : Q (some (rI v)) D) : RD K mt d pc ls [rI v] D Q := fun p e R s m args below meth c H locs cells slots la Z hC hH hS hl hf => hf (some (rI v)) D H locs pc la hH hS hq ⟨⟨ty, ht, hn⟩, hd⟩
theorem RD.areturn {o : Option AD} {n : String} (hd : decode mt.2.1 pc = .ok (.areturn, 1)) (ht : mt.2.2.2 = some (.object n)) (hq : Q (some (.inr o)) D) : RD K mt d pc ls [.inr o] D Q := fun p e R s m args below meth c H locs cells slots la Z hC hH hS hl hf => hf (some (.inr o)) D H locs pc la hH hS hq ⟨⟨n, ht⟩, hd⟩
end RDR
end
section
/-! FIELDS, ARRAYS -/
/-- a link of a field: own class and pool number to (class number, place); by an own link, or a nest mate's -/
def FLK (own : String) (idx ci k : Nat) : Prop := ∃ (C : String) (T : u_T) (N : Nat) (ty : Nat → FieldType), cls7[ci]? = some (C, T, N) ∧ k < N ∧ (∀ w ∈ u_ws C T N, w ∈ tbg) ∧ (∀ k, k < N → parseFieldDescriptor (T k).2.2.1 = some (ty k)) ∧ (∀ a, a < N → ∀ b, b < N → a ≠ b → (T a).2.1 ≠ (T b).2.1) ∧
  (Cond.fieldLink own idx (T k).1 (T k).2.1 (T k).2.2.1 ∈ tbg ∨ ∃ host, Cond.fieldLinkNest own idx (T k).1 (T k).2.1 (T k).2.2.1 host ∈ nst)
/-- the same of a field that is not final, of type ty -/
def FLP (own : String) (idx ci k : Nat) (ty : FieldType) : Prop := ∃ (C : String) (T : u_T) (N : Nat) (tyf : Nat → FieldType), cls7[ci]? = some (C, T, N) ∧ k < N ∧ (∀ w ∈ u_ws C T N, w ∈ tbg) ∧ (∀ k, k < N → parseFieldDescriptor (T k).2.2.1 = some (tyf k)) ∧ (∀ a, a < N → ∀ b, b < N → a ≠ b → (T a).2.1 ≠ (T b).2.1) ∧ (T k).2.2.2 = false ∧ parseFieldDescriptor (T k).2.2.1 = some ty ∧
  (Cond.fieldLink own idx (T k).1 (T k).2.1 (T k).2.2.1 ∈ tbg ∨ ∃ host, Cond.fieldLinkNest own idx (T k).1 (T k).2.1 (T k).2.2.1 host ∈ nst)
theorem adr_ok {K : EK} {a : AD} (h : okA a) : adr K a = ek_o K + lay a := by
  have := (allA_ix h).2
  simp [adr, this]
theorem te_obj {K : EK} {a : AD} {ci : Nat} {fs : List (Option AV)} {f : Nat → Int32} (h : sk a = .inl (ci, fs)) : te K (sk a) f = .inr (ci, fld K fs 0 f) := by rw [h]; rfl
theorem te_ints {K : EK} {a : AD} {t n : Nat} {f : Nat → Int32} (h : sk a = .inr (.inl (t, n))) : te K (sk a) f = .inl (ek_c K t, n, .inl f) := by rw [h]; rfl
theorem te_refs {K : EK} {a : AD} {t n : Nat} {g : Nat → AD} {f : Nat → Int32} (h : sk a = .inr (.inr (t, n, g))) : te K (sk a) f = .inl (ek_c K t, n, .inr (.inr (.inr (.inr (fun j => some (adr K (g j))))))) := by rw [h]; rfl
section RDH
variable {K : EK} {mt : MT} {d pc : Nat} {ls : List (Option AV)} {st : List AV} {D : DT} {Q : Option AV → DT → Prop} {a : AD}
theorem RD.getI {idx ci k : Nat} {fs : List (Option AV)} (hd : decode mt.2.1 pc = .ok (.getfield idx, 3)) (hF : FLK mt.1.cls idx ci k) (ha : okA a) (hs : sk a = .inl (ci, fs)) (ho : fs[k]? = some (none))
    (kk : RD K mt d (pc + 3) ls (rI (D a k) :: st) D Q) : RD K mt d pc ls (rR a :: st) D Q := by
  intro p e R s m args below meth c H locs cells slots la Z hC hH hS hl hf
  obtain ⟨C, T, N, ty, hc, hk, hin, hty, hnm, hlk⟩ := hF
  have he : (wl K D)[lay a]? = some (adr K a, .inr (ci, fld K fs 0 (D a))) := by rw [wl_at ha, te_obj hs]
  have hv : (fld K fs 0 (D a))[k]? = some (.int (D a k)) := by
    have := fld_at K fs 0 k (D a) _ ho
    rw [Nat.zero_add] at this
    exact this
  rcases hlk with h | ⟨host, h⟩
  · exact va_get (D := ek_D K) (tys := tyl K) hC.1 hC.2.1 hC.2.2.2.2.1 hin hC.2.2.2.1 hC.2.2.2.2.2.2.1 hH (lay a) he hc k hk (hC.2.2.2.2.1 _ h) (fun _ z => z) hv hd (kk p e R s m args below meth c H locs cells slots la Z hC hH hS hl hf)
  · exact va_getN (D := ek_D K) (tys := tyl K) hC.1 hC.2.1 hC.2.2.2.2.1 hin hC.2.2.2.1 hC.2.2.2.2.2.2.1 hH (lay a) he hc k hk (nst_use h (hC.2.2.2.2.2.1 _ h)) (fun _ z => z) hv hd (kk p e R s m args below meth c H locs cells slots la Z hC hH hS hl hf)
theorem RD.getR {idx ci k : Nat} {fs : List (Option AV)} {v : AV} (hd : decode mt.2.1 pc = .ok (.getfield idx, 3)) (hF : FLK mt.1.cls idx ci k) (ha : okA a) (hs : sk a = .inl (ci, fs)) (ho : fs[k]? = some (some v))
    (kk : RD K mt d (pc + 3) ls (v :: st) D Q) : RD K mt d pc ls (rR a :: st) D Q := by
  intro p e R s m args below meth c H locs cells slots la Z hC hH hS hl hf
  obtain ⟨C, T, N, ty, hc, hk, hin, hty, hnm, hlk⟩ := hF
  have he : (wl K D)[lay a]? = some (adr K a, .inr (ci, fld K fs 0 (D a))) := by rw [wl_at ha, te_obj hs]
  have hv : (fld K fs 0 (D a))[k]? = some (tv K v) := by
    have := fld_at K fs 0 k (D a) _ ho
    rw [Nat.zero_add] at this
    exact this
  rcases hlk with h | ⟨host, h⟩
  · exact va_get (D := ek_D K) (tys := tyl K) hC.1 hC.2.1 hC.2.2.2.2.1 hin hC.2.2.2.1 hC.2.2.2.2.2.2.1 hH (lay a) he hc k hk (hC.2.2.2.2.1 _ h) (fun _ z => z) hv hd (kk p e R s m args below meth c H locs cells slots la Z hC hH hS hl hf)
  · exact va_getN (D := ek_D K) (tys := tyl K) hC.1 hC.2.1 hC.2.2.2.2.1 hin hC.2.2.2.1 hC.2.2.2.2.2.2.1 hH (lay a) he hc k hk (nst_use h (hC.2.2.2.2.2.1 _ h)) (fun _ z => z) hv hd (kk p e R s m args below meth c H locs cells slots la Z hC hH hS hl hf)
theorem RD.putf {idx ci k : Nat} {fs : List (Option AV)} {x : Int32} {ty : FieldType} (hd : decode mt.2.1 pc = .ok (.putfield idx, 3)) (hF : FLP mt.1.cls idx ci k ty) (ha : okA a) (hs : sk a = .inl (ci, fs)) (ho : fs[k]? = some none) (hn : narrow ty (.int x) = .int x) (hfit : fits ty (.int x) = true)
    (kk : RD K mt d (pc + 3) ls st (up D a k x) Q) : RD K mt d pc ls (rI x :: rR a :: st) D Q := by
  intro p e R s m args below meth c H locs cells slots la Z hC hH hS hl hf
  obtain ⟨C, T, N, tyf, hc, hk, hin, hty, hnm, hfin, hpd, hlk⟩ := hF
  have he : (wl K D)[lay a]? = some (adr K a, .inr (ci, fld K fs 0 (D a))) := by rw [wl_at ha, te_obj hs]
  have hlen : k < (fld K fs 0 (D a)).length := by rw [fld_len]; exact (List.getElem?_eq_some_iff.mp ho).1
  have hset : (.inr (ci, (fld K fs 0 (D a)).set k (.int x)) : va_E) = te K (sk a) (upd (D a) k x) := by
    rw [te_obj hs, fld_set K fs 0 k (D a) x ho, Nat.zero_add]
  rcases hlk with h | ⟨host, h⟩
  · exact va_put (D := ek_D K) (tys := tyl K) hC.1 hC.2.1 hC.2.2.2.2.1 hin tyf hty hnm hC.2.2.2.1 hC.2.2.2.2.2.2.1 hH (wl_D K D) hS (lay a) he hc k hk (hC.2.2.2.2.1 _ h) (fun _ z => z) hfin hpd hn hfit hlen hd (fun H1 locs1 hP _ hS1 => kk p e R s m args below meth c H1 locs1 cells slots la Z hC (HD_up ha hset hP) hS1 hl hf)
  · exact va_putN (D := ek_D K) (tys := tyl K) hC.1 hC.2.1 hC.2.2.2.2.1 hin tyf hty hnm hC.2.2.2.1 hC.2.2.2.2.2.2.1 hH (wl_D K D) hS (lay a) he hc k hk (nst_use h (hC.2.2.2.2.2.1 _ h)) (fun _ z => z) hfin hpd hn hfit hlen hd (fun H1 locs1 hP _ hS1 => kk p e R s m args below meth c H1 locs1 cells slots la Z hC (HD_up ha hset hP) hS1 hl hf)
theorem RD.iald {n : Nat} {i : Int32} (j : Nat) (hd : decode mt.2.1 pc = .ok (.iaload, 1)) (ha : okA a) (hs : sk a = .inr (.inl (0, n))) (hi : i = nI j) (hj : j < n) (hn : n < 2 ^ 31)
    (kk : RD K mt d (pc + 1) ls (rI (D a j) :: st) D Q) : RD K mt d pc ls (rI i :: rR a :: st) D Q := by
  intro p e R s m args below meth c H locs cells slots la Z hC hH hS hl hf
  have he : (wl K D)[lay a]? = some (adr K a, .inl (ek_c K 0, n, .inl (D a))) := by rw [wl_at ha, te_ints hs]
  subst hi
  refine va_iald (D := ek_D K) (tys := tyl K) hC.1 hC.2.1 hC.2.2.2.2.2.2.1 hH (lay a) 0 he rfl (vp_in_nI hj hn) hd ?_
  rw [nI_clamp (by omega)]
  exact kk p e R s m args below meth c H locs cells slots la Z hC hH hS hl hf
theorem RD.zald {n : Nat} {i : Int32} (j : Nat) (hd : decode mt.2.1 pc = .ok (.baload, 1)) (ha : okA a) (hs : sk a = .inr (.inl (1, n))) (hi : i = nI j) (hj : j < n) (hn : n < 2 ^ 31)
    (kk : RD K mt d (pc + 1) ls (rI (D a j) :: st) D Q) : RD K mt d pc ls (rI i :: rR a :: st) D Q := by
  intro p e R s m args below meth c H locs cells slots la Z hC hH hS hl hf
  have he : (wl K D)[lay a]? = some (adr K a, .inl (ek_c K 1, n, .inl (D a))) := by rw [wl_at ha, te_ints hs]
  subst hi
  refine va_zald (D := ek_D K) (tys := tyl K) hC.1 hC.2.1 hC.2.2.2.2.2.2.1 hH (lay a) 1 he rfl (vp_in_nI hj hn) hd ?_
  rw [nI_clamp (by omega)]
  exact kk p e R s m args below meth c H locs cells slots la Z hC hH hS hl hf
theorem RD.iast {n : Nat} {i x : Int32} (j : Nat) (hd : decode mt.2.1 pc = .ok (.iastore, 1)) (ha : okA a) (hs : sk a = .inr (.inl (0, n))) (hi : i = nI j) (hj : j < n) (hn : n < 2 ^ 31)
    (kk : RD K mt d (pc + 1) ls st (up D a j x) Q) : RD K mt d pc ls (rI x :: rI i :: rR a :: st) D Q := by
  intro p e R s m args below meth c H locs cells slots la Z hC hH hS hl hf
  have he : (wl K D)[lay a]? = some (adr K a, .inl (ek_c K 0, n, .inl (D a))) := by rw [wl_at ha, te_ints hs]
  subst hi
  refine va_iast (D := ek_D K) (tys := tyl K) hC.1 hC.2.1 hC.2.2.2.2.2.2.1 hH (wl_D K D) hS (lay a) 0 he rfl (vp_in_nI hj hn) hd (fun H1 locs1 hP _ hS1 => ?_)
  rw [nI_clamp (by omega)] at hP
  exact kk p e R s m args below meth c H1 locs1 cells slots la Z hC (HD_up ha (by rw [te_ints hs]) hP) hS1 hl hf
theorem RD.zast {n : Nat} {i x : Int32} (j : Nat) (hd : decode mt.2.1 pc = .ok (.bastore, 1)) (ha : okA a) (hs : sk a = .inr (.inl (1, n))) (hi : i = nI j) (hj : j < n) (hn : n < 2 ^ 31) (hx : vp_nar .boolean x = x)
    (kk : RD K mt d (pc + 1) ls st (up D a j x) Q) : RD K mt d pc ls (rI x :: rI i :: rR a :: st) D Q := by
  intro p e R s m args below meth c H locs cells slots la Z hC hH hS hl hf
  have he : (wl K D)[lay a]? = some (adr K a, .inl (ek_c K 1, n, .inl (D a))) := by rw [wl_at ha, te_ints hs]
  subst hi
  refine va_zast (D := ek_D K) (tys := tyl K) hC.1 hC.2.1 hC.2.2.2.2.2.2.1 hH (wl_D K D) hS (lay a) 1 he rfl (vp_in_nI hj hn) hd (fun H1 locs1 hP _ hS1 => ?_)
  rw [nI_clamp (by omega), hx] at hP
  exact kk p e R s m args below meth c H1 locs1 cells slots la Z hC (HD_up ha (by rw [te_ints hs]) hP) hS1 hl hf
theorem RD.aald {n t : Nat} {g : Nat → AD} {C : String} {i : Int32} (j : Nat) (hd : decode mt.2.1 pc = .ok (.aaload, 1)) (ha : okA a) (hs : sk a = .inr (.inr (t, n, g))) (ht : (tyl K)[t]? = some (ek_c K t, .object C)) (hi : i = nI j) (hj : j < n) (hn : n < 2 ^ 31)
    (kk : RD K mt d (pc + 1) ls (rR (g j) :: st) D Q) : RD K mt d pc ls (rI i :: rR a :: st) D Q := by
  intro p e R s m args below meth c H locs cells slots la Z hC hH hS hl hf
  have he : (wl K D)[lay a]? = some (adr K a, .inl (ek_c K t, n, .inr (.inr (.inr (.inr (fun j => some (adr K (g j)))))))) := by rw [wl_at ha, te_refs hs]
  subst hi
  refine va_aldq (D := ek_D K) (tys := tyl K) hC.1 hC.2.1 hC.2.2.2.2.2.2.1 hH (lay a) t he ht (vp_in_nI hj hn) hd ?_
  rw [nI_clamp (by omega)]
  exact kk p e R s m args below meth c H locs cells slots la Z hC hH hS hl hf
theorem RD.sald {i : Int32} (j : Nat) (hd : decode mt.2.1 pc = .ok (.iaload, 1)) (hi : i = nI j) (hj : j < ek_L K) (hn : ek_L K < 2 ^ 31)
    (kk : RD K mt d (pc + 1) ls (rI (ek_x K j) :: st) D Q) : RD K mt d pc ls (rI i :: rR (16, 0, 0) :: st) D Q := by
  intro p e R s m args below meth c H locs cells slots la Z hC hH hS hl hf
  subst hi
  refine va_sld (b := ek_b K) (A := AA K) hC.1 hC.2.1 hC.2.2.2.2.2.2.2.1 (Nat.lt_of_lt_of_le hC.2.2.2.2.2.2.2.2.1 hC.2.2.2.2.2.2.2.2.2.1) (Nat.not_le.mpr hC.2.2.2.2.2.2.2.2.1) hS (vp_in_nI hj hn) hd ?_
  rw [nI_clamp (by omega)]
  exact kk p e R s m args below meth c H locs cells slots la Z hC hH hS hl hf
theorem RD.slen (hd : decode mt.2.1 pc = .ok (.arraylength, 1)) (kk : RD K mt d (pc + 1) ls (rI (nI (ek_L K)) :: st) D Q) : RD K mt d pc ls (rR (16, 0, 0) :: st) D Q := by
  intro p e R s m args below meth c H locs cells slots la Z hC hH hS hl hf
  exact va_slen (b := ek_b K) (A := AA K) hC.1 hC.2.1 hC.2.2.2.2.2.2.2.1 (Nat.lt_of_lt_of_le hC.2.2.2.2.2.2.2.2.1 hC.2.2.2.2.2.2.2.2.2.1) (Nat.not_le.mpr hC.2.2.2.2.2.2.2.2.1) hS hd (kk p e R s m args below meth c H locs cells slots la Z hC hH hS hl hf)
end RDH
/-! CALLS -/
def PH (K : EK) (D : DT) (U : State) : Prop := HD K D U.heap ∧ va_K (ek_D K) cls7 (tyl K) U ∧ (∀ w ∈ nst, va_Nw w U) ∧ va_X (ek_b K) (ek_L K) (ek_x K) U U.heap ∧ ek_b K < ek_o K ∧ ek_o K ≤ U.heap.size
def QH (K : EK) (Q : Option AV → DT → Prop) : Array Value → State → Outcome → State → Prop := fun _ st oc t => (∃ (r : Option AV) (D' : DT), oc = .returned (r.map (tv K)) ∧ Q r D' ∧ HD K D' t.heap) ∧ va_F (AA K) st t
def rmd (d : Nat) : Room := { frames := d, cells := 0, slots := 0, locals := 26 * d }
def mws (mt : MT) : List Cond := .code mt.1 mt.2.1 mt.2.2.1 mt.2.2.2 :: tbg
def CT (K : EK) (mt : MT) (d : Nat) (av : List AV) (D : DT) (Q : Option AV → DT → Prop) : Prop := Met (ek_l K) mt.1 (mws mt) (rmd d) (va_Pc (av.map (tv K)) (PH K D)) (QH K Q) 0 0 (AA K)
theorem PH_blind (K : EK) (D : DT) (av : List Value) : FrameBlind (va_Pc av (PH K D)) := by
  intro a U g mk h
  obtain ⟨h0, h1, h2, h3, h4, h5, h6⟩ := h
  exact ⟨h0, h1, va_K.moved (u := U) (U := U.calling g mk a) (Vm.Alike.refl U.vm) h2, fun w hw => nst_same hw (u := U) (U := U.calling g mk a) rfl (h3 w hw), va_X.moved (u := U) (U := U.calling g mk a) (Vm.Alike.refl U.vm) h4, h5, h6⟩
theorem PH_of {K : EK} {mt : MT} {d : Nat} {p : Program} {R : Room} {s : State} {m : MethodId} {args : Array Value} {c : Code} {cells slots : Nat} {D : DT} {H : Heap} {locs : List Loc} (hC : RC K mt d p R s m args c cells slots) (hH : HD K D H) (hS : va_S (AA K) s.heap H locs) (U : State) (hU : U.heap = H) (hW : s.WarmedH U.vm) : PH K D U := by
  obtain ⟨-, -, -, -, -, hN, hK, hX, hb, ho, -⟩ := hC
  refine ⟨by rw [hU]; exact hH, va_K.moved hW.alike hK, fun w hw => nst_warm hw hW (hN w hw), ?_, hb, ?_⟩
  · rw [hU]
    exact (hX.kept (hS.2.1 _ (Nat.lt_of_lt_of_le hb ho) (Nat.not_le.mpr hb))).moved hW.alike
  · rw [hU]
    exact Nat.le_trans ho hS.1
theorem CT.mono {K : EK} {mt : MT} {d : Nat} {av : List AV} {D : DT} {Q Q' : Option AV → DT → Prop} (h : CT K mt d av D Q) (hq : ∀ r D', Q r D' → Q' r D') : CT K mt d av D Q' := by
  intro p e ha hc hk s m args below hf hfit hP hT
  obtain ⟨k, o, h1, h2, h3, h4, h5⟩ := h p e ha hc hk s m args below hf hfit hP hT
  obtain ⟨⟨r, D', a1, a2, a3⟩, a4⟩ := h4
  exact ⟨k, o, h1, h2, h3, ⟨⟨r, D', a1, hq r D' a2, a3⟩, a4⟩, h5⟩
theorem CT.of {K : EK} {mt : MT} {d : Nat} {av : List AV} {D : DT} {Q : Option AV → DT → Prop} (hy : plainName mt.1.cls = true) (hl : av.length ≤ mt.2.2.1)
    (h : RD K mt d 0 (av.map some ++ List.replicate (mt.2.2.1 - av.length) none) [] D Q) : CT K mt d av D Q := by
  refine Met.ofW (cc := mt.2.1) (maxL := mt.2.2.1) (ret := mt.2.2.2) hy rfl ?_
  intro p e s m args below meth c s₁ B hml hv
  obtain ⟨rfl, hH, hK, hN, hX, hb, ho⟩ := hv
  have hts : ∀ w ∈ mws mt, w.before (av.map (tv K)).toArray s = true := atoms_spec (ws := mws mt) B.pre
  have hcat : ∀ (q : List AV), lg_sl (q.map (tv K)) = q.map (fun v => Slot.val (tv K v)) := by
    intro q
    induction q with
    | nil => rfl
    | cons v q ih =>
      rcases v with x | _ | a <;> simp [lg_sl, tv, Value.category] at ih ⊢ <;> exact ih
  have hlen : (lg_sl (av.map (tv K))).length ≤ mt.2.2.1 := by rw [hcat]; simpa using hl
  rw [lg_entry_eq]
  have hent := lv_entry (av.map (tv K)) (n := mt.2.2.1) hlen
  refine h p e (headSpec (mws mt) (rmd d)).room s m _ below meth c s.heap [] 0 0 _ _ ⟨B.exec, B.bytes, hml, findClass_of_methodNamed B.named, fun w hw => hts w (List.mem_cons_of_mem _ hw), hN, hK, hX, hb, ho, Nat.le_refl d, Nat.le_refl (26 * d), Nat.le_refl _, Nat.le_refl _⟩ hH va_S.rf ⟨hent.1, hent.2.1, fun i v hi => ?_⟩ ?_
  · by_cases hi2 : i < av.length
    · rw [List.getElem?_append_left (by simpa using hi2), List.getElem?_map] at hi
      have h1 : av[i]? = some v := by
        cases hq : av[i]? with
        | none => rw [hq] at hi; cases hi
        | some w => rw [hq] at hi; cases hi; rfl
      rw [List.getElem?_toArray, hcat, List.getElem?_append_left (by simpa using hi2), List.getElem?_map, h1]
      rfl
    · rw [List.getElem?_append_right (by simpa using hi2)] at hi
      simp [List.getElem?_replicate] at hi
  · intro r D' H' locs' pc' la' hH' hS' hq hr
    have hq' : ∀ t : State, t.heap = H' → s.WarmedH t.vm → QH K Q (av.map (tv K)).toArray s (.returned (r.map (tv K))) t := fun t ht _ => ⟨⟨r, D', rfl, hq, by rw [ht]; exact hH'⟩, hS'.F ht⟩
    rcases r with _ | v | o
    · exact W.vret B.exec B.bytes (B.returns.trans hr.1) hq' hS'.2.2 hr.2 B.notSynchronized
    · obtain ⟨⟨ty, h1, h2⟩, h3⟩ := hr
      exact W.zret B.exec B.bytes (B.returns.trans h1) h2 hq' hS'.2.2 h3 B.notSynchronized
    · obtain ⟨⟨n, h1⟩, h3⟩ := hr
      refine W.aret (v := tv K (.inr o)) B.exec B.bytes (B.returns.trans h1) (Or.inl ⟨n, rfl⟩) ?_ hq' hS'.2.2 h3 B.notSynchronized
      cases o with
      | none => exact Or.inl rfl
      | some a => exact Or.inr ⟨_, rfl⟩
end
section
theorem tbg_good : GoodIn tbg tbg := fun w hw => ⟨hw, good_of_word (List.mem_filter.mp hw).2⟩
theorem mws_good {cm : MT} (hc : Cond.code cm.1 cm.2.1 cm.2.2.1 cm.2.2.2 ∈ tbg) : GoodIn tbg (mws cm) := fun w hw => by
  rcases List.mem_cons.mp hw with h | h
  · subst h; exact tbg_good _ hc
  · exact tbg_good _ h
def VLK (own : String) (idx : Nat) (cm : MT) (n : Nat) : Prop := Cond.methodLink own idx cm.1 ∈ tbg ∧ Cond.instanceMethod cm.1 ∈ tbg ∧ Cond.selects cm.1.cls cm.1 cm.1 ∈ tbg ∧ Cond.initialized cm.1.cls ∈ tbg ∧ Cond.code cm.1 cm.2.1 cm.2.2.1 cm.2.2.2 ∈ tbg ∧ (cm.1.cls ≠ "java/lang/invoke/MethodHandle" ∧ cm.1.cls ≠ "java/lang/invoke/VarHandle" ∧ (parseMethodDescriptor cm.1.desc).map (fun d => d.parameters.length) = some n) ∧ cm.2.2.1 ≤ 7
def SLK (own : String) (idx : Nat) (cm : MT) (n : Nat) : Prop := (Cond.methodLink own idx cm.1 ∈ tbg ∨ ∃ host, Cond.methodLinkNest own idx cm.1 host ∈ nst) ∧ Cond.static cm.1 ∈ tbg ∧ Cond.initialized cm.1.cls ∈ tbg ∧ Cond.code cm.1 cm.2.1 cm.2.2.1 cm.2.2.2 ∈ tbg ∧ (cm.1.cls ≠ "java/lang/invoke/MethodHandle" ∧ cm.1.cls ≠ "java/lang/invoke/VarHandle" ∧ (parseMethodDescriptor cm.1.desc).map (fun d => d.parameters.length) = some n) ∧ cm.2.2.1 ≤ 7
theorem tv_sum (K : EK) (st : List AV) : ((st.map (tv K)).map fun v => v.category).sum = st.length := by
  induction st with
  | nil => rfl
  | cons v q ih => simp only [List.map_cons, List.sum_cons, List.length_cons, tv_cat, ih]; omega
theorem QH_call {K : EK} {p : Program} {e : Env} {R : Room} {s : State} {m : MethodId} {args : Array Value} {below : List Frame} {meth : Method} {c : Code} {H : Heap} {locs : List Loc} {cells slots pc : Nat} {la : Array Slot} {st0 rest : List Value} {av : Array Value} {Q' : Option AV → DT → Prop} {Z : State → Prop}
    (hr : va_Run p (ek_l K) e R s m args below meth c H locs cells slots 0 0 (F0 m pc la st0) rest (QH K Q' av) (AA K)) (hS : va_S (AA K) s.heap H locs)
    (kk : ∀ (r : Option AV) (D' : DT) (H1 : Heap) (locs1 : List Loc), Q' r D' → HD K D' H1 → va_S (AA K) s.heap H1 locs1 → W p (ek_l K) e R s m args below meth c H1 locs1 cells slots Z (F0 m (pc + 3) la ((r.map (tv K)).toList ++ rest))) : W p (ek_l K) e R s m args below meth c H locs cells slots Z (F0 m pc la st0) := by
  intro T hT X
  obtain ⟨v, st₀, t, T', L, h0, X', hL, e1, e2, ⟨⟨r, D', hv, hq, hH'⟩, hz, hk⟩, st⟩ := hr T hT X
  cases hv
  rw [h0] at hz hk
  obtain ⟨t2, a1, b1⟩ := kk r D' T'.heap (locs ++ L) hq (by rw [e1]; exact hH')
    ⟨Nat.le_trans hS.1 (by rw [e1]; exact hz), fun q h1 h2 => by rw [e1, hk q (Nat.lt_of_lt_of_le h1 hS.1) h2]; exact hS.2.1 q h1 h2, fun q hq => by
      rcases List.mem_append.mp hq with h | h
      · exact hS.2.2 q h
      · exact hL q h⟩ T' rfl X'
  exact ⟨t2, st t2 a1, b1⟩
section RDC
variable {K : EK} {mt : MT} {d pc : Nat} {ls : List (Option AV)} {st : List AV} {D : DT} {Q Q' : Option AV → DT → Prop} {a : AD}
theorem RD.callV {idx ci : Nat} {fs : List (Option AV)} {cm : MT} {T : u_T} {N : Nat} (As : List AV) (hd : decode mt.2.1 pc = .ok (.invokevirtual idx, 3)) (hL : VLK mt.1.cls idx cm As.length) (hci : cls7[ci]? = some (cm.1.cls, T, N)) (ha : okA a) (hs : sk a = .inl (ci, fs)) (hct : CT K cm d (rR a :: As) D Q') (hst : st.length ≤ 8)
    (kk : ∀ r D', Q' r D' → RD K mt (d + 1) (pc + 3) ls (r.toList ++ st) D' Q) : RD K mt (d + 1) pc ls (As.reverse ++ rR a :: st) D Q := by
  intro p e R s m args below meth c H locs cells slots la Z hC hH hS hl hf
  obtain ⟨h1, h2, h3, h4, h5, h6, h7⟩ := hL
  have he : (wl K D)[lay a]? = some (adr K a, .inr (ci, fld K fs 0 (D a))) := by rw [wl_at ha, te_obj hs]
  have hfr : d + 1 ≤ R.frames := hC.2.2.2.2.2.2.2.2.2.2.1
  have hlo : 26 * (d + 1) ≤ R.locals := hC.2.2.2.2.2.2.2.2.2.2.2.1
  have hG : GoodIn tbg (wsV mt.1.cls idx cm.1.cls cm.1 (mws cm)) := by
    refine fun w hw => ?_
    unfold wsV at hw
    rcases List.mem_append.mp hw with h | h
    · simp only [List.mem_cons, List.not_mem_nil, or_false] at h
      rcases h with rfl | rfl | rfl | rfl
      · exact tbg_good _ h1
      · exact tbg_good _ h2
      · exact tbg_good _ h3
      · exact tbg_good _ h4
    · exact mws_good h5 w h
  refine QH_call (rest := st.map (tv K)) (va_runV (As := As.map (tv K)) (b := adr K a) (C := cm.1.cls) ⟨hC.1, hC.2.1, hC.2.2.1, hC.2.2.2.1, hC.2.2.2.2.1⟩ hct (cwV As.length hC.2.2.2.2.1 hG rfl rfl rfl ⟨rfl, h6⟩ ⟨hfr, by show 8 + (cm.2.2.1 + 11) + 26 * d ≤ R.locals; omega⟩) ⟨PH_blind K D _, va_recv hC.2.2.2.2.2.2.1 hH hci he, fun U hU hW => ⟨rfl, PH_of hC hH hS U hU hW⟩⟩ rfl (by simp) hl.1 (by simp [List.map_reverse, tv]) (lv_room (by rw [tv_sum]; exact hst)) hd ⟨hC.2.2.2.2.2.2.2.2.2.2.2.2.1, hC.2.2.2.2.2.2.2.2.2.2.2.2.2⟩) hS ?_
  intro r D' H1 locs1 hq hH1 hS1
  have := kk r D' hq p e R s m args below meth c H1 locs1 cells slots la Z hC hH1 hS1 hl hf
  cases r with
  | none => exact this
  | some v => exact this
theorem RD.callS {idx : Nat} {cm : MT} (As : List AV) (hd : decode mt.2.1 pc = .ok (.invokestatic idx, 3)) (hL : SLK mt.1.cls idx cm As.length) (hct : CT K cm d As D Q') (hst : st.length ≤ 8)
    (kk : ∀ r D', Q' r D' → RD K mt (d + 1) (pc + 3) ls (r.toList ++ st) D' Q) : RD K mt (d + 1) pc ls (As.reverse ++ st) D Q := by
  intro p e R s m args below meth c H locs cells slots la Z hC hH hS hl hf
  obtain ⟨h1, h2, h4, h5, h6, h7⟩ := hL
  have hfr : d + 1 ≤ R.frames := hC.2.2.2.2.2.2.2.2.2.2.1
  have hlo : 26 * (d + 1) ≤ R.locals := hC.2.2.2.2.2.2.2.2.2.2.2.1
  have hro : 8 + (cm.2.2.1 + 11) + 26 * d ≤ R.locals := by omega
  have fin : ∀ (r : Option AV) (D' : DT) (H1 : Heap) (locs1 : List Loc), Q' r D' → HD K D' H1 → va_S (AA K) s.heap H1 locs1 → W p (ek_l K) e R s m args below meth c H1 locs1 cells slots Z (F0 m (pc + 3) la ((r.map (tv K)).toList ++ st.map (tv K))) := by
    intro r D' H1 locs1 hq hH1 hS1
    have := kk r D' hq p e R s m args below meth c H1 locs1 cells slots la Z hC hH1 hS1 hl hf
    cases r with
    | none => exact this
    | some v => exact this
  rcases h1 with h1 | ⟨host, h1⟩
  · exact QH_call (rest := st.map (tv K)) (va_runS (As := As.map (tv K)) ⟨hC.1, hC.2.1, hC.2.2.1, hC.2.2.2.1, hC.2.2.2.2.1⟩ hct ⟨callB_of As.length hC.2.2.2.2.1 (mws_good h5) rfl rfl rfl (hC.2.2.2.2.1 _ h4) (hC.2.2.2.2.1 _ h1) h6 ⟨hfr, hro⟩, hC.2.2.2.2.1 _ h2⟩ ⟨PH_blind K D _, fun U hU hW => ⟨rfl, PH_of hC hH hS U hU hW⟩⟩ rfl (by simp) hl.1 (by simp [List.map_reverse]) (lv_room (by rw [tv_sum]; exact hst)) hd ⟨hC.2.2.2.2.2.2.2.2.2.2.2.2.1, hC.2.2.2.2.2.2.2.2.2.2.2.2.2⟩) hS fin
  · exact QH_call (rest := st.map (tv K)) (va_runSN (As := As.map (tv K)) ⟨hC.1, hC.2.1, hC.2.2.1, hC.2.2.2.1, hC.2.2.2.2.1⟩ hct ⟨va_cnB As.length hC.2.2.2.2.1 (mws_good h5) rfl rfl rfl (hC.2.2.2.2.2.1 _ h1) (hC.2.2.2.2.1 _ h4) h6 ⟨hfr, hro⟩, hC.2.2.2.2.1 _ h2, trivial⟩ ⟨PH_blind K D _, fun U hU hW => ⟨rfl, PH_of hC hH hS U hU hW⟩⟩ rfl (by simp) hl.1 (by simp [List.map_reverse]) (lv_room (by rw [tv_sum]; exact hst)) hd ⟨hC.2.2.2.2.2.2.2.2.2.2.2.2.1, hC.2.2.2.2.2.2.2.2.2.2.2.2.2⟩) hS fin
theorem RD.callV0 {idx ci : Nat} {fs : List (Option AV)} {cm : MT} {T : u_T} {N : Nat} (hd : decode mt.2.1 pc = .ok (.invokevirtual idx, 3)) (hL : VLK mt.1.cls idx cm 0) (hci : cls7[ci]? = some (cm.1.cls, T, N)) (ha : okA a) (hs : sk a = .inl (ci, fs)) (hct : CT K cm d [rR a] D Q') (hst : st.length ≤ 8)
    (kk : ∀ r D', Q' r D' → RD K mt (d + 1) (pc + 3) ls (r.toList ++ st) D' Q) : RD K mt (d + 1) pc ls (rR a :: st) D Q := RD.callV [] hd hL hci ha hs hct hst kk
theorem RD.callV1 {idx ci : Nat} {fs : List (Option AV)} {cm : MT} {T : u_T} {N : Nat} {x1 : AV} (hd : decode mt.2.1 pc = .ok (.invokevirtual idx, 3)) (hL : VLK mt.1.cls idx cm 1) (hci : cls7[ci]? = some (cm.1.cls, T, N)) (ha : okA a) (hs : sk a = .inl (ci, fs)) (hct : CT K cm d [rR a, x1] D Q') (hst : st.length ≤ 8)
    (kk : ∀ r D', Q' r D' → RD K mt (d + 1) (pc + 3) ls (r.toList ++ st) D' Q) : RD K mt (d + 1) pc ls (x1 :: rR a :: st) D Q := RD.callV [x1] hd hL hci ha hs hct hst kk
theorem RD.callV2 {idx ci : Nat} {fs : List (Option AV)} {cm : MT} {T : u_T} {N : Nat} {x1 x2 : AV} (hd : decode mt.2.1 pc = .ok (.invokevirtual idx, 3)) (hL : VLK mt.1.cls idx cm 2) (hci : cls7[ci]? = some (cm.1.cls, T, N)) (ha : okA a) (hs : sk a = .inl (ci, fs)) (hct : CT K cm d [rR a, x1, x2] D Q') (hst : st.length ≤ 8)
    (kk : ∀ r D', Q' r D' → RD K mt (d + 1) (pc + 3) ls (r.toList ++ st) D' Q) : RD K mt (d + 1) pc ls (x2 :: x1 :: rR a :: st) D Q := RD.callV [x1, x2] hd hL hci ha hs hct hst kk
theorem RD.callV3 {idx ci : Nat} {fs : List (Option AV)} {cm : MT} {T : u_T} {N : Nat} {x1 x2 x3 : AV} (hd : decode mt.2.1 pc = .ok (.invokevirtual idx, 3)) (hL : VLK mt.1.cls idx cm 3) (hci : cls7[ci]? = some (cm.1.cls, T, N)) (ha : okA a) (hs : sk a = .inl (ci, fs)) (hct : CT K cm d [rR a, x1, x2, x3] D Q') (hst : st.length ≤ 8)
    (kk : ∀ r D', Q' r D' → RD K mt (d + 1) (pc + 3) ls (r.toList ++ st) D' Q) : RD K mt (d + 1) pc ls (x3 :: x2 :: x1 :: rR a :: st) D Q := RD.callV [x1, x2, x3] hd hL hci ha hs hct hst kk
theorem RD.callV4 {idx ci : Nat} {fs : List (Option AV)} {cm : MT} {T : u_T} {N : Nat} {x1 x2 x3 x4 : AV} (hd : decode mt.2.1 pc = .ok (.invokevirtual idx, 3)) (hL : VLK mt.1.cls idx cm 4) (hci : cls7[ci]? = some (cm.1.cls, T, N)) (ha : okA a) (hs : sk a = .inl (ci, fs)) (hct : CT K cm d [rR a, x1, x2, x3, x4] D Q') (hst : st.length ≤ 8)
    (kk : ∀ r D', Q' r D' → RD K mt (d + 1) (pc + 3) ls (r.toList ++ st) D' Q) : RD K mt (d + 1) pc ls (x4 :: x3 :: x2 :: x1 :: rR a :: st) D Q := RD.callV [x1, x2, x3, x4] hd hL hci ha hs hct hst kk
theorem RD.callV5 {idx ci : Nat} {fs : List (Option AV)} {cm : MT} {T : u_T} {N : Nat} {x1 x2 x3 x4 x5 : AV} (hd : decode mt.2.1 pc = .ok (.invokevirtual idx, 3)) (hL : VLK mt.1.cls idx cm 5) (hci : cls7[ci]? = some (cm.1.cls, T, N)) (ha : okA a) (hs : sk a = .inl (ci, fs)) (hct : CT K cm d [rR a, x1, x2, x3, x4, x5] D Q') (hst : st.length ≤ 8)
    (kk : ∀ r D', Q' r D' → RD K mt (d + 1) (pc + 3) ls (r.toList ++ st) D' Q) : RD K mt (d + 1) pc ls (x5 :: x4 :: x3 :: x2 :: x1 :: rR a :: st) D Q := RD.callV [x1, x2, x3, x4, x5] hd hL hci ha hs hct hst kk
theorem RD.callS1 {idx : Nat} {cm : MT} {x1 : AV} (hd : decode mt.2.1 pc = .ok (.invokestatic idx, 3)) (hL : SLK mt.1.cls idx cm 1) (hct : CT K cm d [x1] D Q') (hst : st.length ≤ 8)
    (kk : ∀ r D', Q' r D' → RD K mt (d + 1) (pc + 3) ls (r.toList ++ st) D' Q) : RD K mt (d + 1) pc ls (x1 :: st) D Q := RD.callS [x1] hd hL hct hst kk
theorem RD.callS2 {idx : Nat} {cm : MT} {x1 x2 : AV} (hd : decode mt.2.1 pc = .ok (.invokestatic idx, 3)) (hL : SLK mt.1.cls idx cm 2) (hct : CT K cm d [x1, x2] D Q') (hst : st.length ≤ 8)
    (kk : ∀ r D', Q' r D' → RD K mt (d + 1) (pc + 3) ls (r.toList ++ st) D' Q) : RD K mt (d + 1) pc ls (x2 :: x1 :: st) D Q := RD.callS [x1, x2] hd hL hct hst kk
theorem RD.callS3 {idx : Nat} {cm : MT} {x1 x2 x3 : AV} (hd : decode mt.2.1 pc = .ok (.invokestatic idx, 3)) (hL : SLK mt.1.cls idx cm 3) (hct : CT K cm d [x1, x2, x3] D Q') (hst : st.length ≤ 8)
    (kk : ∀ r D', Q' r D' → RD K mt (d + 1) (pc + 3) ls (r.toList ++ st) D' Q) : RD K mt (d + 1) pc ls (x3 :: x2 :: x1 :: st) D Q := RD.callS [x1, x2, x3] hd hL hct hst kk
end RDC
end
section
theorem uwX0 : ∀ w ∈ u_ws RX0 TX0 4, w ∈ tbg := by decide +kernel
theorem uwX1 : ∀ w ∈ u_ws RX1 TX1 3, w ∈ tbg := by decide +kernel
theorem uwX2 : ∀ w ∈ u_ws RX2 TX2 15, w ∈ tbg := by decide +kernel
theorem uwX3 : ∀ w ∈ u_ws RX3 TX3 3, w ∈ tbg := by decide +kernel
theorem uwX4 : ∀ w ∈ u_ws RX4 TX4 2, w ∈ tbg := by decide +kernel
theorem uwX5 : ∀ w ∈ u_ws RX5 TX5 3, w ∈ tbg := by decide +kernel
theorem uwX6 : ∀ w ∈ u_ws RX6 TX6 18, w ∈ tbg := by decide +kernel
abbrev mX0_init : MT := (yX0_init, cX0_init, 1, none)
theorem cdX0_init : Cond.code mX0_init.1 mX0_init.2.1 mX0_init.2.2.1 mX0_init.2.2.2 ∈ tbg := tbg_in (List.mem_of_getElem? (i := 89) (by decide +kernel)) (by decide +kernel)
abbrev mX1_init : MT := (yX1_init, cX1_init, 2, none)
theorem cdX1_init : Cond.code mX1_init.1 mX1_init.2.1 mX1_init.2.2.1 mX1_init.2.2.2 ∈ tbg := tbg_in (List.mem_of_getElem? (i := 82) (by decide +kernel)) (by decide +kernel)
abbrev mX1_put : MT := (yX1_put, cX1_put, 5, some .boolean)
theorem cdX1_put : Cond.code mX1_put.1 mX1_put.2.1 mX1_put.2.2.1 mX1_put.2.2.2 ∈ tbg := tbg_in (List.mem_of_getElem? (i := 300) (by decide +kernel)) (by decide +kernel)
abbrev mX1_take : MT := (yX1_take, cX1_take, 4, some (.object "FlowKernel$Message"))
theorem cdX1_take : Cond.code mX1_take.1 mX1_take.2.1 mX1_take.2.2.1 mX1_take.2.2.2 ∈ tbg := tbg_in (List.mem_of_getElem? (i := 382) (by decide +kernel)) (by decide +kernel)
abbrev mX2_init : MT := (yX2_init, cX2_init, 3, none)
theorem cdX2_init : Cond.code mX2_init.1 mX2_init.2.1 mX2_init.2.2.1 mX2_init.2.2.2 ∈ tbg := tbg_in (List.mem_of_getElem? (i := 60) (by decide +kernel)) (by decide +kernel)
abbrev mX2_stopBy : MT := (yX2_stopBy, cX2_stopBy, 2, none)
theorem cdX2_stopBy : Cond.code mX2_stopBy.1 mX2_stopBy.2.1 mX2_stopBy.2.2.1 mX2_stopBy.2.2.2 ∈ tbg := tbg_in (List.mem_of_getElem? (i := 322) (by decide +kernel)) (by decide +kernel)
abbrev mX2_capabilities : MT := (yX2_capabilities, cX2_capabilities, 2, some (.object "FlowKernel$TagSet"))
theorem cdX2_capabilities : Cond.code mX2_capabilities.1 mX2_capabilities.2.1 mX2_capabilities.2.2.1 mX2_capabilities.2.2.2 ∈ tbg := tbg_in (List.mem_of_getElem? (i := 273) (by decide +kernel)) (by decide +kernel)
abbrev mX2_countFiles : MT := (yX2_countFiles, cX2_countFiles, 3, some .int)
theorem cdX2_countFiles : Cond.code mX2_countFiles.1 mX2_countFiles.2.1 mX2_countFiles.2.2.1 mX2_countFiles.2.2.2 ∈ tbg := tbg_in (List.mem_of_getElem? (i := 433) (by decide +kernel)) (by decide +kernel)
abbrev mX2_newTag : MT := (yX2_newTag, cX2_newTag, 2, some .int)
theorem cdX2_newTag : Cond.code mX2_newTag.1 mX2_newTag.2.1 mX2_newTag.2.2.1 mX2_newTag.2.2.2 ∈ tbg := tbg_in (List.mem_of_getElem? (i := 339) (by decide +kernel)) (by decide +kernel)
abbrev mX2_relabel : MT := (yX2_relabel, cX2_relabel, 2, some .int)
theorem cdX2_relabel : Cond.code mX2_relabel.1 mX2_relabel.2.1 mX2_relabel.2.2.1 mX2_relabel.2.2.2 ∈ tbg := tbg_in (List.mem_of_getElem? (i := 344) (by decide +kernel)) (by decide +kernel)
abbrev mX2_dropCapability : MT := (yX2_dropCapability, cX2_dropCapability, 4, some .int)
theorem cdX2_dropCapability : Cond.code mX2_dropCapability.1 mX2_dropCapability.2.1 mX2_dropCapability.2.2.1 mX2_dropCapability.2.2.2 ∈ tbg := tbg_in (List.mem_of_getElem? (i := 353) (by decide +kernel)) (by decide +kernel)
abbrev mX2_receive : MT := (yX2_receive, cX2_receive, 2, some .int)
theorem cdX2_receive : Cond.code mX2_receive.1 mX2_receive.2.1 mX2_receive.2.2.1 mX2_receive.2.2.2 ∈ tbg := tbg_in (List.mem_of_getElem? (i := 378) (by decide +kernel)) (by decide +kernel)
abbrev mX2_createFile : MT := (yX2_createFile, cX2_createFile, 3, some .int)
theorem cdX2_createFile : Cond.code mX2_createFile.1 mX2_createFile.2.1 mX2_createFile.2.2.1 mX2_createFile.2.2.2 ∈ tbg := tbg_in (List.mem_of_getElem? (i := 388) (by decide +kernel)) (by decide +kernel)
abbrev mX2_addOutput : MT := (yX2_addOutput, cX2_addOutput, 2, some .int)
theorem cdX2_addOutput : Cond.code mX2_addOutput.1 mX2_addOutput.2.1 mX2_addOutput.2.2.1 mX2_addOutput.2.2.2 ∈ tbg := tbg_in (List.mem_of_getElem? (i := 406) (by decide +kernel)) (by decide +kernel)
abbrev mX3_init : MT := (yX3_init, cX3_init, 1, none)
theorem cdX3_init : Cond.code mX3_init.1 mX3_init.2.1 mX3_init.2.2.1 mX3_init.2.2.2 ∈ tbg := tbg_in (List.mem_of_getElem? (i := 129) (by decide +kernel)) (by decide +kernel)
abbrev mX4_init : MT := (yX4_init, cX4_init, 1, none)
theorem cdX4_init : Cond.code mX4_init.1 mX4_init.2.1 mX4_init.2.2.1 mX4_init.2.2.2 ∈ tbg := tbg_in (List.mem_of_getElem? (i := 66) (by decide +kernel)) (by decide +kernel)
abbrev mX4_has : MT := (yX4_has, cX4_has, 2, some .boolean)
theorem cdX4_has : Cond.code mX4_has.1 mX4_has.2.1 mX4_has.2.2.1 mX4_has.2.2.2 ∈ tbg := tbg_in (List.mem_of_getElem? (i := 260) (by decide +kernel)) (by decide +kernel)
abbrev mX4_add : MT := (yX4_add, cX4_add, 2, none)
theorem cdX4_add : Cond.code mX4_add.1 mX4_add.2.1 mX4_add.2.2.1 mX4_add.2.2.2 ∈ tbg := tbg_in (List.mem_of_getElem? (i := 264) (by decide +kernel)) (by decide +kernel)
abbrev mX4_remove : MT := (yX4_remove, cX4_remove, 2, none)
theorem cdX4_remove : Cond.code mX4_remove.1 mX4_remove.2.1 mX4_remove.2.2.1 mX4_remove.2.2.2 ∈ tbg := tbg_in (List.mem_of_getElem? (i := 256) (by decide +kernel)) (by decide +kernel)
abbrev mX4_change : MT := (yX4_change, cX4_change, 4, some .int)
theorem cdX4_change : Cond.code mX4_change.1 mX4_change.2.1 mX4_change.2.2.1 mX4_change.2.2.2 ∈ tbg := tbg_in (List.mem_of_getElem? (i := 252) (by decide +kernel)) (by decide +kernel)
abbrev mX4_clear : MT := (yX4_clear, cX4_clear, 2, none)
theorem cdX4_clear : Cond.code mX4_clear.1 mX4_clear.2.1 mX4_clear.2.2.1 mX4_clear.2.2.2 ∈ tbg := tbg_in (List.mem_of_getElem? (i := 334) (by decide +kernel)) (by decide +kernel)
abbrev mX4_copy : MT := (yX4_copy, cX4_copy, 3, none)
theorem cdX4_copy : Cond.code mX4_copy.1 mX4_copy.2.1 mX4_copy.2.2.1 mX4_copy.2.2.2 ∈ tbg := tbg_in (List.mem_of_getElem? (i := 304) (by decide +kernel)) (by decide +kernel)
abbrev mX4_isIn : MT := (yX4_isIn, cX4_isIn, 2, some .boolean)
theorem cdX4_isIn : Cond.code mX4_isIn.1 mX4_isIn.2.1 mX4_isIn.2.2.1 mX4_isIn.2.2.2 ∈ tbg := tbg_in (List.mem_of_getElem? (i := 367) (by decide +kernel)) (by decide +kernel)
abbrev mX4_isInEither : MT := (yX4_isInEither, cX4_isInEither, 4, some .boolean)
theorem cdX4_isInEither : Cond.code mX4_isInEither.1 mX4_isInEither.2.1 mX4_isInEither.2.2.1 mX4_isInEither.2.2.2 ∈ tbg := tbg_in (List.mem_of_getElem? (i := 348) (by decide +kernel)) (by decide +kernel)
abbrev mX4_tagAt : MT := (yX4_tagAt, cX4_tagAt, 4, some .int)
theorem cdX4_tagAt : Cond.code mX4_tagAt.1 mX4_tagAt.2.1 mX4_tagAt.2.2.1 mX4_tagAt.2.2.2 ∈ tbg := tbg_in (List.mem_of_getElem? (i := 441) (by decide +kernel)) (by decide +kernel)
abbrev mX5_init : MT := (yX5_init, cX5_init, 2, none)
theorem cdX5_init : Cond.code mX5_init.1 mX5_init.2.1 mX5_init.2.2.1 mX5_init.2.2.2 ∈ tbg := tbg_in (List.mem_of_getElem? (i := 51) (by decide +kernel)) (by decide +kernel)
abbrev mX5_poke : MT := (yX5_poke, cX5_poke, 7, some .int)
theorem cdX5_poke : Cond.code mX5_poke.1 mX5_poke.2.1 mX5_poke.2.2.1 mX5_poke.2.2.2 ∈ tbg := tbg_in (List.mem_of_getElem? (i := 226) (by decide +kernel)) (by decide +kernel)
abbrev mX5_start : MT := (yX5_start, cX5_start, 2, some .int)
theorem cdX5_start : Cond.code mX5_start.1 mX5_start.2.1 mX5_start.2.2.1 mX5_start.2.2.2 ∈ tbg := tbg_in (List.mem_of_getElem? (i := 233) (by decide +kernel)) (by decide +kernel)
abbrev mX5_counter : MT := (yX5_counter, cX5_counter, 4, some .int)
theorem cdX5_counter : Cond.code mX5_counter.1 mX5_counter.2.1 mX5_counter.2.2.1 mX5_counter.2.2.2 ∈ tbg := tbg_in (List.mem_of_getElem? (i := 237) (by decide +kernel)) (by decide +kernel)
abbrev mX5_tag : MT := (yX5_tag, cX5_tag, 4, some .int)
theorem cdX5_tag : Cond.code mX5_tag.1 mX5_tag.2.1 mX5_tag.2.2.1 mX5_tag.2.2.2 ∈ tbg := tbg_in (List.mem_of_getElem? (i := 241) (by decide +kernel)) (by decide +kernel)
abbrev mX5_capability : MT := (yX5_capability, cX5_capability, 5, some .int)
theorem cdX5_capability : Cond.code mX5_capability.1 mX5_capability.2.1 mX5_capability.2.2.1 mX5_capability.2.2.2 ∈ tbg := tbg_in (List.mem_of_getElem? (i := 269) (by decide +kernel)) (by decide +kernel)
abbrev mX5_file : MT := (yX5_file, cX5_file, 4, some .int)
theorem cdX5_file : Cond.code mX5_file.1 mX5_file.2.1 mX5_file.2.2.1 mX5_file.2.2.2 ∈ tbg := tbg_in (List.mem_of_getElem? (i := 277) (by decide +kernel)) (by decide +kernel)
abbrev mX5_fill : MT := (yX5_fill, cX5_fill, 6, some .int)
theorem cdX5_fill : Cond.code mX5_fill.1 mX5_fill.2.1 mX5_fill.2.2.1 mX5_fill.2.2.2 ∈ tbg := tbg_in (List.mem_of_getElem? (i := 288) (by decide +kernel)) (by decide +kernel)
abbrev mX5_post : MT := (yX5_post, cX5_post, 5, some .int)
theorem cdX5_post : Cond.code mX5_post.1 mX5_post.2.1 mX5_post.2.2.1 mX5_post.2.2.2 ∈ tbg := tbg_in (List.mem_of_getElem? (i := 296) (by decide +kernel)) (by decide +kernel)
abbrev mX5_run : MT := (yX5_run, cX5_run, 4, some .int)
theorem cdX5_run : Cond.code mX5_run.1 mX5_run.2.1 mX5_run.2.2.1 mX5_run.2.2.2 ∈ tbg := tbg_in (List.mem_of_getElem? (i := 308) (by decide +kernel)) (by decide +kernel)
abbrev mX5_cell : MT := (yX5_cell, cX5_cell, 3, some .int)
theorem cdX5_cell : Cond.code mX5_cell.1 mX5_cell.2.1 mX5_cell.2.2.1 mX5_cell.2.2.2 ∈ tbg := tbg_in (List.mem_of_getElem? (i := 425) (by decide +kernel)) (by decide +kernel)
abbrev mX5_slot : MT := (yX5_slot, cX5_slot, 4, some .int)
theorem cdX5_slot : Cond.code mX5_slot.1 mX5_slot.2.1 mX5_slot.2.2.1 mX5_slot.2.2.2 ∈ tbg := tbg_in (List.mem_of_getElem? (i := 429) (by decide +kernel)) (by decide +kernel)
abbrev mX5_label : MT := (yX5_label, cX5_label, 3, some .int)
theorem cdX5_label : Cond.code mX5_label.1 mX5_label.2.1 mX5_label.2.2.1 mX5_label.2.2.2 ∈ tbg := tbg_in (List.mem_of_getElem? (i := 437) (by decide +kernel)) (by decide +kernel)
abbrev mX5_output : MT := (yX5_output, cX5_output, 3, some .int)
theorem cdX5_output : Cond.code mX5_output.1 mX5_output.2.1 mX5_output.2.2.1 mX5_output.2.2.2 ∈ tbg := tbg_in (List.mem_of_getElem? (i := 445) (by decide +kernel)) (by decide +kernel)
abbrev mX5_outputTags : MT := (yX5_outputTags, cX5_outputTags, 3, some .int)
theorem cdX5_outputTags : Cond.code mX5_outputTags.1 mX5_outputTags.2.1 mX5_outputTags.2.2.1 mX5_outputTags.2.2.2 ∈ tbg := tbg_in (List.mem_of_getElem? (i := 453) (by decide +kernel)) (by decide +kernel)
abbrev mX5_content : MT := (yX5_content, cX5_content, 3, some .int)
theorem cdX5_content : Cond.code mX5_content.1 mX5_content.2.1 mX5_content.2.2.1 mX5_content.2.2.2 ∈ tbg := tbg_in (List.mem_of_getElem? (i := 457) (by decide +kernel)) (by decide +kernel)
abbrev mX5_fileTags : MT := (yX5_fileTags, cX5_fileTags, 2, some .int)
theorem cdX5_fileTags : Cond.code mX5_fileTags.1 mX5_fileTags.2.1 mX5_fileTags.2.2.1 mX5_fileTags.2.2.2 ∈ tbg := tbg_in (List.mem_of_getElem? (i := 461) (by decide +kernel)) (by decide +kernel)
abbrev mX5_mayFlow : MT := (yX5_mayFlow, cX5_mayFlow, 3, some .boolean)
theorem cdX5_mayFlow : Cond.code mX5_mayFlow.1 mX5_mayFlow.2.1 mX5_mayFlow.2.2.1 mX5_mayFlow.2.2.2 ∈ tbg := tbg_in (List.mem_of_getElem? (i := 465) (by decide +kernel)) (by decide +kernel)
abbrev mX5_isSlot : MT := (yX5_isSlot, cX5_isSlot, 1, some .boolean)
theorem cdX5_isSlot : Cond.code mX5_isSlot.1 mX5_isSlot.2.1 mX5_isSlot.2.2.1 mX5_isSlot.2.2.2 ∈ tbg := tbg_in (List.mem_of_getElem? (i := 229) (by decide +kernel)) (by decide +kernel)
abbrev mX5_isPlace : MT := (yX5_isPlace, cX5_isPlace, 1, some .boolean)
theorem cdX5_isPlace : Cond.code mX5_isPlace.1 mX5_isPlace.2.1 mX5_isPlace.2.2.1 mX5_isPlace.2.2.2 ∈ tbg := tbg_in (List.mem_of_getElem? (i := 318) (by decide +kernel)) (by decide +kernel)
abbrev mX5_isTag : MT := (yX5_isTag, cX5_isTag, 1, some .boolean)
theorem cdX5_isTag : Cond.code mX5_isTag.1 mX5_isTag.2.1 mX5_isTag.2.2.1 mX5_isTag.2.2.2 ∈ tbg := tbg_in (List.mem_of_getElem? (i := 248) (by decide +kernel)) (by decide +kernel)
abbrev mX5_isFile : MT := (yX5_isFile, cX5_isFile, 1, some .boolean)
theorem cdX5_isFile : Cond.code mX5_isFile.1 mX5_isFile.2.1 mX5_isFile.2.2.1 mX5_isFile.2.2.2 ∈ tbg := tbg_in (List.mem_of_getElem? (i := 280) (by decide +kernel)) (by decide +kernel)
abbrev mX5_isThere : MT := (yX5_isThere, cX5_isThere, 2, some .boolean)
theorem cdX5_isThere : Cond.code mX5_isThere.1 mX5_isThere.2.1 mX5_isThere.2.2.1 mX5_isThere.2.2.2 ∈ tbg := tbg_in (List.mem_of_getElem? (i := 245) (by decide +kernel)) (by decide +kernel)
abbrev mX5_fileAt : MT := (yX5_fileAt, cX5_fileAt, 2, some (.object "FlowKernel$StoredFile"))
theorem cdX5_fileAt : Cond.code mX5_fileAt.1 mX5_fileAt.2.1 mX5_fileAt.2.2.1 mX5_fileAt.2.2.2 ∈ tbg := tbg_in (List.mem_of_getElem? (i := 284) (by decide +kernel)) (by decide +kernel)
abbrev mX5_isFileCell : MT := (yX5_isFileCell, cX5_isFileCell, 3, some .boolean)
theorem cdX5_isFileCell : Cond.code mX5_isFileCell.1 mX5_isFileCell.2.1 mX5_isFileCell.2.2.1 mX5_isFileCell.2.2.2 ∈ tbg := tbg_in (List.mem_of_getElem? (i := 292) (by decide +kernel)) (by decide +kernel)
abbrev mX5_isOutput : MT := (yX5_isOutput, cX5_isOutput, 3, some .boolean)
theorem cdX5_isOutput : Cond.code mX5_isOutput.1 mX5_isOutput.2.1 mX5_isOutput.2.2.1 mX5_isOutput.2.2.2 ∈ tbg := tbg_in (List.mem_of_getElem? (i := 449) (by decide +kernel)) (by decide +kernel)
abbrev mX5_step : MT := (yX5_step, cX5_step, 5, none)
theorem cdX5_step : Cond.code mX5_step.1 mX5_step.2.1 mX5_step.2.2.1 mX5_step.2.2.2 ∈ tbg := tbg_in (List.mem_of_getElem? (i := 315) (by decide +kernel)) (by decide +kernel)
abbrev mX5_wantsCell : MT := (yX5_wantsCell, cX5_wantsCell, 1, some .boolean)
theorem cdX5_wantsCell : Cond.code mX5_wantsCell.1 mX5_wantsCell.2.1 mX5_wantsCell.2.2.1 mX5_wantsCell.2.2.2 ∈ tbg := tbg_in (List.mem_of_getElem? (i := 409) (by decide +kernel)) (by decide +kernel)
abbrev mX5_plainInstruction : MT := (yX5_plainInstruction, cX5_plainInstruction, 3, none)
theorem cdX5_plainInstruction : Cond.code mX5_plainInstruction.1 mX5_plainInstruction.2.1 mX5_plainInstruction.2.2.1 mX5_plainInstruction.2.2.2 ∈ tbg := tbg_in (List.mem_of_getElem? (i := 412) (by decide +kernel)) (by decide +kernel)
abbrev mX5_cellInstruction : MT := (yX5_cellInstruction, cX5_cellInstruction, 4, none)
theorem cdX5_cellInstruction : Cond.code mX5_cellInstruction.1 mX5_cellInstruction.2.1 mX5_cellInstruction.2.2.1 mX5_cellInstruction.2.2.2 ∈ tbg := tbg_in (List.mem_of_getElem? (i := 415) (by decide +kernel)) (by decide +kernel)
abbrev mX5_indirectInstruction : MT := (yX5_indirectInstruction, cX5_indirectInstruction, 3, none)
theorem cdX5_indirectInstruction : Cond.code mX5_indirectInstruction.1 mX5_indirectInstruction.2.1 mX5_indirectInstruction.2.2.1 mX5_indirectInstruction.2.2.2 ∈ tbg := tbg_in (List.mem_of_getElem? (i := 418) (by decide +kernel)) (by decide +kernel)
abbrev mX5_divideInstruction : MT := (yX5_divideInstruction, cX5_divideInstruction, 3, none)
theorem cdX5_divideInstruction : Cond.code mX5_divideInstruction.1 mX5_divideInstruction.2.1 mX5_divideInstruction.2.2.1 mX5_divideInstruction.2.2.2 ∈ tbg := tbg_in (List.mem_of_getElem? (i := 421) (by decide +kernel)) (by decide +kernel)
abbrev mX5_systemCall : MT := (yX5_systemCall, cX5_systemCall, 6, none)
theorem cdX5_systemCall : Cond.code mX5_systemCall.1 mX5_systemCall.2.1 mX5_systemCall.2.2.1 mX5_systemCall.2.2.2 ∈ tbg := tbg_in (List.mem_of_getElem? (i := 326) (by decide +kernel)) (by decide +kernel)
abbrev mX5_readList : MT := (yX5_readList, cX5_readList, 5, some .boolean)
theorem cdX5_readList : Cond.code mX5_readList.1 mX5_readList.2.1 mX5_readList.2.2.1 mX5_readList.2.2.2 ∈ tbg := tbg_in (List.mem_of_getElem? (i := 330) (by decide +kernel)) (by decide +kernel)
abbrev mX5_send : MT := (yX5_send, cX5_send, 5, some .int)
theorem cdX5_send : Cond.code mX5_send.1 mX5_send.2.1 mX5_send.2.2.1 mX5_send.2.2.2 ∈ tbg := tbg_in (List.mem_of_getElem? (i := 363) (by decide +kernel)) (by decide +kernel)
abbrev mX5_pass : MT := (yX5_pass, cX5_pass, 6, some .int)
theorem cdX5_pass : Cond.code mX5_pass.1 mX5_pass.2.1 mX5_pass.2.2.1 mX5_pass.2.2.2 ∈ tbg := tbg_in (List.mem_of_getElem? (i := 372) (by decide +kernel)) (by decide +kernel)
abbrev mX5_kindOf : MT := (yX5_kindOf, cX5_kindOf, 1, some .int)
theorem cdX5_kindOf : Cond.code mX5_kindOf.1 mX5_kindOf.2.1 mX5_kindOf.2.2.1 mX5_kindOf.2.2.2 ∈ tbg := tbg_in (List.mem_of_getElem? (i := 356) (by decide +kernel)) (by decide +kernel)
abbrev mX5_read : MT := (yX5_read, cX5_read, 4, some .int)
theorem cdX5_read : Cond.code mX5_read.1 mX5_read.2.1 mX5_read.2.2.1 mX5_read.2.2.2 ∈ tbg := tbg_in (List.mem_of_getElem? (i := 393) (by decide +kernel)) (by decide +kernel)
abbrev mX5_write : MT := (yX5_write, cX5_write, 5, some .int)
theorem cdX5_write : Cond.code mX5_write.1 mX5_write.2.1 mX5_write.2.2.1 mX5_write.2.2.2 ∈ tbg := tbg_in (List.mem_of_getElem? (i := 397) (by decide +kernel)) (by decide +kernel)
abbrev mX5_spawn : MT := (yX5_spawn, cX5_spawn, 7, some .int)
theorem cdX5_spawn : Cond.code mX5_spawn.1 mX5_spawn.2.1 mX5_spawn.2.2.1 mX5_spawn.2.2.2 ∈ tbg := tbg_in (List.mem_of_getElem? (i := 401) (by decide +kernel)) (by decide +kernel)
abbrev mX6_init : MT := (yX6_init, cX6_init, 1, none)
theorem cdX6_init : Cond.code mX6_init.1 mX6_init.2.1 mX6_init.2.2.1 mX6_init.2.2.2 ∈ tbg := tbg_in (List.mem_of_getElem? (i := 470) (by decide +kernel)) (by decide +kernel)
abbrev mX6_isIn : MT := (yX6_isIn, cX6_isIn, 3, some .boolean)
theorem cdX6_isIn : Cond.code mX6_isIn.1 mX6_isIn.2.1 mX6_isIn.2.2.1 mX6_isIn.2.2.2 ∈ tbg := tbg_in (List.mem_of_getElem? (i := 538) (by decide +kernel)) (by decide +kernel)
abbrev mX6_isSlot : MT := (yX6_isSlot, cX6_isSlot, 1, some .boolean)
theorem cdX6_isSlot : Cond.code mX6_isSlot.1 mX6_isSlot.2.1 mX6_isSlot.2.2.1 mX6_isSlot.2.2.2 ∈ tbg := tbg_in (List.mem_of_getElem? (i := 535) (by decide +kernel)) (by decide +kernel)
abbrev mX6_isCell : MT := (yX6_isCell, cX6_isCell, 1, some .boolean)
theorem cdX6_isCell : Cond.code mX6_isCell.1 mX6_isCell.2.1 mX6_isCell.2.2.1 mX6_isCell.2.2.2 ∈ tbg := tbg_in (List.mem_of_getElem? (i := 609) (by decide +kernel)) (by decide +kernel)
abbrev mX6_isThere : MT := (yX6_isThere, cX6_isThere, 2, some .boolean)
theorem cdX6_isThere : Cond.code mX6_isThere.1 mX6_isThere.2.1 mX6_isThere.2.2.1 mX6_isThere.2.2.2 ∈ tbg := tbg_in (List.mem_of_getElem? (i := 554) (by decide +kernel)) (by decide +kernel)
abbrev mX6_many : MT := (yX6_many, cX6_many, 4, some .int)
theorem cdX6_many : Cond.code mX6_many.1 mX6_many.2.1 mX6_many.2.2.1 mX6_many.2.2.2 ∈ tbg := tbg_in (List.mem_of_getElem? (i := 562) (by decide +kernel)) (by decide +kernel)
abbrev mX6_isInLabel : MT := (yX6_isInLabel, cX6_isInLabel, 5, some .boolean)
theorem cdX6_isInLabel : Cond.code mX6_isInLabel.1 mX6_isInLabel.2.1 mX6_isInLabel.2.2.1 mX6_isInLabel.2.2.2 ∈ tbg := tbg_in (List.mem_of_getElem? (i := 642) (by decide +kernel)) (by decide +kernel)
abbrev mX6_copyLabel : MT := (yX6_copyLabel, cX6_copyLabel, 4, none)
theorem cdX6_copyLabel : Cond.code mX6_copyLabel.1 mX6_copyLabel.2.1 mX6_copyLabel.2.2.1 mX6_copyLabel.2.2.2 ∈ tbg := tbg_in (List.mem_of_getElem? (i := 598) (by decide +kernel)) (by decide +kernel)
abbrev mX6_at : MT := (yX6_at, cX6_at, 4, some .int)
theorem cdX6_at : Cond.code mX6_at.1 mX6_at.2.1 mX6_at.2.2.1 mX6_at.2.2.2 ∈ tbg := tbg_in (List.mem_of_getElem? (i := 570) (by decide +kernel)) (by decide +kernel)
abbrev mX6_capabilities : MT := (yX6_capabilities, cX6_capabilities, 5, some .int)
theorem cdX6_capabilities : Cond.code mX6_capabilities.1 mX6_capabilities.2.1 mX6_capabilities.2.2.1 mX6_capabilities.2.2.2 ∈ tbg := tbg_in (List.mem_of_getElem? (i := 574) (by decide +kernel)) (by decide +kernel)
abbrev mX6_comes : MT := (yX6_comes, cX6_comes, 6, none)
theorem cdX6_comes : Cond.code mX6_comes.1 mX6_comes.2.1 mX6_comes.2.2.1 mX6_comes.2.2.2 ∈ tbg := tbg_in (List.mem_of_getElem? (i := 594) (by decide +kernel)) (by decide +kernel)
abbrev mX6_sends : MT := (yX6_sends, cX6_sends, 5, none)
theorem cdX6_sends : Cond.code mX6_sends.1 mX6_sends.2.1 mX6_sends.2.2.1 mX6_sends.2.2.2 ∈ tbg := tbg_in (List.mem_of_getElem? (i := 638) (by decide +kernel)) (by decide +kernel)
abbrev mX6_dropFirst : MT := (yX6_dropFirst, cX6_dropFirst, 3, none)
theorem cdX6_dropFirst : Cond.code mX6_dropFirst.1 mX6_dropFirst.2.1 mX6_dropFirst.2.2.1 mX6_dropFirst.2.2.2 ∈ tbg := tbg_in (List.mem_of_getElem? (i := 654) (by decide +kernel)) (by decide +kernel)
abbrev mX6_traps : MT := (yX6_traps, cX6_traps, 3, none)
theorem cdX6_traps : Cond.code mX6_traps.1 mX6_traps.2.1 mX6_traps.2.2.1 mX6_traps.2.2.2 ∈ tbg := tbg_in (List.mem_of_getElem? (i := 613) (by decide +kernel)) (by decide +kernel)
abbrev mX6_turn : MT := (yX6_turn, cX6_turn, 5, none)
theorem cdX6_turn : Cond.code mX6_turn.1 mX6_turn.2.1 mX6_turn.2.2.1 mX6_turn.2.2.2 ∈ tbg := tbg_in (List.mem_of_getElem? (i := 606) (by decide +kernel)) (by decide +kernel)
abbrev mX6_works : MT := (yX6_works, cX6_works, 5, none)
theorem cdX6_works : Cond.code mX6_works.1 mX6_works.2.1 mX6_works.2.2.1 mX6_works.2.2.2 ∈ tbg := tbg_in (List.mem_of_getElem? (i := 674) (by decide +kernel)) (by decide +kernel)
abbrev mX6_lists : MT := (yX6_lists, cX6_lists, 7, some .boolean)
theorem cdX6_lists : Cond.code mX6_lists.1 mX6_lists.2.1 mX6_lists.2.2.1 mX6_lists.2.2.2 ∈ tbg := tbg_in (List.mem_of_getElem? (i := 625) (by decide +kernel)) (by decide +kernel)
abbrev mX6_call : MT := (yX6_call, cX6_call, 6, none)
theorem cdX6_call : Cond.code mX6_call.1 mX6_call.2.1 mX6_call.2.2.1 mX6_call.2.2.2 ∈ tbg := tbg_in (List.mem_of_getElem? (i := 617) (by decide +kernel)) (by decide +kernel)
abbrev mX6_newTag : MT := (yX6_newTag, cX6_newTag, 3, some .int)
theorem cdX6_newTag : Cond.code mX6_newTag.1 mX6_newTag.2.1 mX6_newTag.2.2.1 mX6_newTag.2.2.2 ∈ tbg := tbg_in (List.mem_of_getElem? (i := 621) (by decide +kernel)) (by decide +kernel)
abbrev mX6_changes : MT := (yX6_changes, cX6_changes, 5, some .int)
theorem cdX6_changes : Cond.code mX6_changes.1 mX6_changes.2.1 mX6_changes.2.2.1 mX6_changes.2.2.2 ∈ tbg := tbg_in (List.mem_of_getElem? (i := 630) (by decide +kernel)) (by decide +kernel)
abbrev mX6_drops : MT := (yX6_drops, cX6_drops, 4, some .int)
theorem cdX6_drops : Cond.code mX6_drops.1 mX6_drops.2.1 mX6_drops.2.2.1 mX6_drops.2.2.2 ∈ tbg := tbg_in (List.mem_of_getElem? (i := 634) (by decide +kernel)) (by decide +kernel)
abbrev mX6_passes : MT := (yX6_passes, cX6_passes, 5, some .int)
theorem cdX6_passes : Cond.code mX6_passes.1 mX6_passes.2.1 mX6_passes.2.2.1 mX6_passes.2.2.2 ∈ tbg := tbg_in (List.mem_of_getElem? (i := 646) (by decide +kernel)) (by decide +kernel)
abbrev mX6_receives : MT := (yX6_receives, cX6_receives, 4, some .int)
theorem cdX6_receives : Cond.code mX6_receives.1 mX6_receives.2.1 mX6_receives.2.2.1 mX6_receives.2.2.2 ∈ tbg := tbg_in (List.mem_of_getElem? (i := 650) (by decide +kernel)) (by decide +kernel)
abbrev mX6_creates : MT := (yX6_creates, cX6_creates, 5, some .int)
theorem cdX6_creates : Cond.code mX6_creates.1 mX6_creates.2.1 mX6_creates.2.2.1 mX6_creates.2.2.2 ∈ tbg := tbg_in (List.mem_of_getElem? (i := 658) (by decide +kernel)) (by decide +kernel)
abbrev mX6_reads : MT := (yX6_reads, cX6_reads, 4, some .int)
theorem cdX6_reads : Cond.code mX6_reads.1 mX6_reads.2.1 mX6_reads.2.2.1 mX6_reads.2.2.2 ∈ tbg := tbg_in (List.mem_of_getElem? (i := 662) (by decide +kernel)) (by decide +kernel)
abbrev mX6_spawns : MT := (yX6_spawns, cX6_spawns, 7, some .int)
theorem cdX6_spawns : Cond.code mX6_spawns.1 mX6_spawns.2.1 mX6_spawns.2.2.1 mX6_spawns.2.2.2 ∈ tbg := tbg_in (List.mem_of_getElem? (i := 666) (by decide +kernel)) (by decide +kernel)
abbrev mX6_puts : MT := (yX6_puts, cX6_puts, 3, none)
theorem cdX6_puts : Cond.code mX6_puts.1 mX6_puts.2.1 mX6_puts.2.2.1 mX6_puts.2.2.2 ∈ tbg := tbg_in (List.mem_of_getElem? (i := 670) (by decide +kernel)) (by decide +kernel)
abbrev mX6_poke : MT := (yX6_poke, cX6_poke, 6, some .int)
theorem cdX6_poke : Cond.code mX6_poke.1 mX6_poke.2.1 mX6_poke.2.2.1 mX6_poke.2.2.2 ∈ tbg := tbg_in (List.mem_of_getElem? (i := 532) (by decide +kernel)) (by decide +kernel)
abbrev mX6_start : MT := (yX6_start, cX6_start, 2, some .int)
theorem cdX6_start : Cond.code mX6_start.1 mX6_start.2.1 mX6_start.2.2.1 mX6_start.2.2.2 ∈ tbg := tbg_in (List.mem_of_getElem? (i := 542) (by decide +kernel)) (by decide +kernel)
abbrev mX6_counter : MT := (yX6_counter, cX6_counter, 4, some .int)
theorem cdX6_counter : Cond.code mX6_counter.1 mX6_counter.2.1 mX6_counter.2.2.1 mX6_counter.2.2.2 ∈ tbg := tbg_in (List.mem_of_getElem? (i := 546) (by decide +kernel)) (by decide +kernel)
abbrev mX6_setTag : MT := (yX6_setTag, cX6_setTag, 4, some .int)
theorem cdX6_setTag : Cond.code mX6_setTag.1 mX6_setTag.2.1 mX6_setTag.2.2.1 mX6_setTag.2.2.2 ∈ tbg := tbg_in (List.mem_of_getElem? (i := 558) (by decide +kernel)) (by decide +kernel)
abbrev mX6_tag : MT := (yX6_tag, cX6_tag, 4, some .int)
theorem cdX6_tag : Cond.code mX6_tag.1 mX6_tag.2.1 mX6_tag.2.2.1 mX6_tag.2.2.2 ∈ tbg := tbg_in (List.mem_of_getElem? (i := 550) (by decide +kernel)) (by decide +kernel)
abbrev mX6_capability : MT := (yX6_capability, cX6_capability, 6, some .int)
theorem cdX6_capability : Cond.code mX6_capability.1 mX6_capability.2.1 mX6_capability.2.2.1 mX6_capability.2.2.2 ∈ tbg := tbg_in (List.mem_of_getElem? (i := 566) (by decide +kernel)) (by decide +kernel)
abbrev mX6_file : MT := (yX6_file, cX6_file, 4, some .int)
theorem cdX6_file : Cond.code mX6_file.1 mX6_file.2.1 mX6_file.2.2.1 mX6_file.2.2.2 ∈ tbg := tbg_in (List.mem_of_getElem? (i := 578) (by decide +kernel)) (by decide +kernel)
abbrev mX6_isContent : MT := (yX6_isContent, cX6_isContent, 3, some .boolean)
theorem cdX6_isContent : Cond.code mX6_isContent.1 mX6_isContent.2.1 mX6_isContent.2.2.1 mX6_isContent.2.2.2 ∈ tbg := tbg_in (List.mem_of_getElem? (i := 586) (by decide +kernel)) (by decide +kernel)
abbrev mX6_fill : MT := (yX6_fill, cX6_fill, 5, some .int)
theorem cdX6_fill : Cond.code mX6_fill.1 mX6_fill.2.1 mX6_fill.2.2.1 mX6_fill.2.2.2 ∈ tbg := tbg_in (List.mem_of_getElem? (i := 582) (by decide +kernel)) (by decide +kernel)
abbrev mX6_post : MT := (yX6_post, cX6_post, 4, some .int)
theorem cdX6_post : Cond.code mX6_post.1 mX6_post.2.1 mX6_post.2.2.1 mX6_post.2.2.2 ∈ tbg := tbg_in (List.mem_of_getElem? (i := 590) (by decide +kernel)) (by decide +kernel)
abbrev mX6_run : MT := (yX6_run, cX6_run, 3, some .int)
theorem cdX6_run : Cond.code mX6_run.1 mX6_run.2.1 mX6_run.2.2.1 mX6_run.2.2.2 ∈ tbg := tbg_in (List.mem_of_getElem? (i := 602) (by decide +kernel)) (by decide +kernel)
abbrev mX6_cell : MT := (yX6_cell, cX6_cell, 3, some .int)
theorem cdX6_cell : Cond.code mX6_cell.1 mX6_cell.2.1 mX6_cell.2.2.1 mX6_cell.2.2.2 ∈ tbg := tbg_in (List.mem_of_getElem? (i := 678) (by decide +kernel)) (by decide +kernel)
abbrev mX6_slot : MT := (yX6_slot, cX6_slot, 5, some .int)
theorem cdX6_slot : Cond.code mX6_slot.1 mX6_slot.2.1 mX6_slot.2.2.1 mX6_slot.2.2.2 ∈ tbg := tbg_in (List.mem_of_getElem? (i := 682) (by decide +kernel)) (by decide +kernel)
abbrev mX6_label : MT := (yX6_label, cX6_label, 5, some .int)
theorem cdX6_label : Cond.code mX6_label.1 mX6_label.2.1 mX6_label.2.2.1 mX6_label.2.2.2 ∈ tbg := tbg_in (List.mem_of_getElem? (i := 686) (by decide +kernel)) (by decide +kernel)
abbrev mX6_isOutput : MT := (yX6_isOutput, cX6_isOutput, 3, some .boolean)
theorem cdX6_isOutput : Cond.code mX6_isOutput.1 mX6_isOutput.2.1 mX6_isOutput.2.2.1 mX6_isOutput.2.2.2 ∈ tbg := tbg_in (List.mem_of_getElem? (i := 694) (by decide +kernel)) (by decide +kernel)
abbrev mX6_output : MT := (yX6_output, cX6_output, 3, some .int)
theorem cdX6_output : Cond.code mX6_output.1 mX6_output.2.1 mX6_output.2.2.1 mX6_output.2.2.2 ∈ tbg := tbg_in (List.mem_of_getElem? (i := 690) (by decide +kernel)) (by decide +kernel)
abbrev mX6_outputTags : MT := (yX6_outputTags, cX6_outputTags, 3, some .int)
theorem cdX6_outputTags : Cond.code mX6_outputTags.1 mX6_outputTags.2.1 mX6_outputTags.2.2.1 mX6_outputTags.2.2.2 ∈ tbg := tbg_in (List.mem_of_getElem? (i := 698) (by decide +kernel)) (by decide +kernel)
abbrev mX6_content : MT := (yX6_content, cX6_content, 3, some .int)
theorem cdX6_content : Cond.code mX6_content.1 mX6_content.2.1 mX6_content.2.2.1 mX6_content.2.2.2 ∈ tbg := tbg_in (List.mem_of_getElem? (i := 702) (by decide +kernel)) (by decide +kernel)
abbrev mX6_fileTags : MT := (yX6_fileTags, cX6_fileTags, 2, some .int)
theorem cdX6_fileTags : Cond.code mX6_fileTags.1 mX6_fileTags.2.1 mX6_fileTags.2.2.1 mX6_fileTags.2.2.2 ∈ tbg := tbg_in (List.mem_of_getElem? (i := 706) (by decide +kernel)) (by decide +kernel)
abbrev mX6_mayFlow : MT := (yX6_mayFlow, cX6_mayFlow, 3, some .boolean)
theorem cdX6_mayFlow : Cond.code mX6_mayFlow.1 mX6_mayFlow.2.1 mX6_mayFlow.2.2.1 mX6_mayFlow.2.2.2 ∈ tbg := tbg_in (List.mem_of_getElem? (i := 710) (by decide +kernel)) (by decide +kernel)
abbrev mJ9_floorMod_7cf53 : MT := (yJ9_floorMod_7cf53, cJ9_floorMod_7cf53, 3, some .int)
theorem cdJ9_floorMod_7cf53 : Cond.code mJ9_floorMod_7cf53.1 mJ9_floorMod_7cf53.2.1 mJ9_floorMod_7cf53.2.2.1 mJ9_floorMod_7cf53.2.2.2 ∈ tbg := tbg_in (List.mem_of_getElem? (i := 311) (by decide +kernel)) (by decide +kernel)
abbrev mL_law : MT := (yL_law, cL_law, 4, some .boolean)
theorem inX0 : Cond.initialized RX0 ∈ tbg := tbg_in (List.mem_of_getElem? (i := 43) (by decide +kernel)) (by decide +kernel)
theorem inX1 : Cond.initialized RX1 ∈ tbg := tbg_in (List.mem_of_getElem? (i := 42) (by decide +kernel)) (by decide +kernel)
theorem inX2 : Cond.initialized RX2 ∈ tbg := tbg_in (List.mem_of_getElem? (i := 40) (by decide +kernel)) (by decide +kernel)
theorem inX3 : Cond.initialized RX3 ∈ tbg := tbg_in (List.mem_of_getElem? (i := 44) (by decide +kernel)) (by decide +kernel)
theorem inX4 : Cond.initialized RX4 ∈ tbg := tbg_in (List.mem_of_getElem? (i := 41) (by decide +kernel)) (by decide +kernel)
theorem inX5 : Cond.initialized RX5 ∈ tbg := tbg_in (List.mem_of_getElem? (i := 39) (by decide +kernel)) (by decide +kernel)
theorem inX6 : Cond.initialized RX6 ∈ tbg := tbg_in (List.mem_of_getElem? (i := 45) (by decide +kernel)) (by decide +kernel)
theorem inJ9 : Cond.initialized RJ9 ∈ tbg := tbg_in (List.mem_of_getElem? (i := 46) (by decide +kernel)) (by decide +kernel)
theorem inL : Cond.initialized RL ∈ tbg := tbg_in (List.mem_of_getElem? (i := 38) (by decide +kernel)) (by decide +kernel)
theorem flX4_9 : FLK RX4 9 4 0 := ⟨_, _, _, tyX4, rfl, by decide, uwX4, tyX4_ok, nmX4, Or.inl (tbg_in (List.mem_of_getElem? (i := 68) (by decide +kernel)) (by decide +kernel))⟩
theorem flX4_15 : FLK RX4 15 4 1 := ⟨_, _, _, tyX4, rfl, by decide, uwX4, tyX4_ok, nmX4, Or.inl (tbg_in (List.mem_of_getElem? (i := 69) (by decide +kernel)) (by decide +kernel))⟩
theorem fpX4_15 : FLP RX4 15 4 1 .int := ⟨_, _, _, tyX4, rfl, by decide, uwX4, tyX4_ok, nmX4, rfl, by decide +kernel, Or.inl (tbg_in (List.mem_of_getElem? (i := 69) (by decide +kernel)) (by decide +kernel))⟩
theorem flX2_74 : FLK RX2 74 4 1 := ⟨_, _, _, tyX4, rfl, by decide, uwX4, tyX4_ok, nmX4, Or.inr ⟨"FlowKernel", nst_in (List.mem_of_getElem? (i := 70) (by decide +kernel)) (by decide +kernel)⟩⟩
theorem fpX2_74 : FLP RX2 74 4 1 .int := ⟨_, _, _, tyX4, rfl, by decide, uwX4, tyX4_ok, nmX4, rfl, by decide +kernel, Or.inr ⟨"FlowKernel", nst_in (List.mem_of_getElem? (i := 70) (by decide +kernel)) (by decide +kernel)⟩⟩
theorem flX5_71 : FLK RX5 71 4 1 := ⟨_, _, _, tyX4, rfl, by decide, uwX4, tyX4_ok, nmX4, Or.inr ⟨"FlowKernel", nst_in (List.mem_of_getElem? (i := 71) (by decide +kernel)) (by decide +kernel)⟩⟩
theorem fpX5_71 : FLP RX5 71 4 1 .int := ⟨_, _, _, tyX4, rfl, by decide, uwX4, tyX4_ok, nmX4, rfl, by decide +kernel, Or.inr ⟨"FlowKernel", nst_in (List.mem_of_getElem? (i := 71) (by decide +kernel)) (by decide +kernel)⟩⟩
theorem flX0_12 : FLK RX0 12 0 0 := ⟨_, _, _, tyX0, rfl, by decide, uwX0, tyX0_ok, nmX0, Or.inl (tbg_in (List.mem_of_getElem? (i := 93) (by decide +kernel)) (by decide +kernel))⟩
theorem flX1_25 : FLK RX1 25 0 0 := ⟨_, _, _, tyX0, rfl, by decide, uwX0, tyX0_ok, nmX0, Or.inr ⟨"FlowKernel", nst_in (List.mem_of_getElem? (i := 94) (by decide +kernel)) (by decide +kernel)⟩⟩
theorem flX0_18 : FLK RX0 18 0 1 := ⟨_, _, _, tyX0, rfl, by decide, uwX0, tyX0_ok, nmX0, Or.inl (tbg_in (List.mem_of_getElem? (i := 95) (by decide +kernel)) (by decide +kernel))⟩
theorem fpX0_18 : FLP RX0 18 0 1 .int := ⟨_, _, _, tyX0, rfl, by decide, uwX0, tyX0_ok, nmX0, rfl, by decide +kernel, Or.inl (tbg_in (List.mem_of_getElem? (i := 95) (by decide +kernel)) (by decide +kernel))⟩
theorem flX1_41 : FLK RX1 41 0 1 := ⟨_, _, _, tyX0, rfl, by decide, uwX0, tyX0_ok, nmX0, Or.inr ⟨"FlowKernel", nst_in (List.mem_of_getElem? (i := 96) (by decide +kernel)) (by decide +kernel)⟩⟩
theorem fpX1_41 : FLP RX1 41 0 1 .int := ⟨_, _, _, tyX0, rfl, by decide, uwX0, tyX0_ok, nmX0, rfl, by decide +kernel, Or.inr ⟨"FlowKernel", nst_in (List.mem_of_getElem? (i := 96) (by decide +kernel)) (by decide +kernel)⟩⟩
theorem flX2_113 : FLK RX2 113 0 1 := ⟨_, _, _, tyX0, rfl, by decide, uwX0, tyX0_ok, nmX0, Or.inr ⟨"FlowKernel", nst_in (List.mem_of_getElem? (i := 97) (by decide +kernel)) (by decide +kernel)⟩⟩
theorem fpX2_113 : FLP RX2 113 0 1 .int := ⟨_, _, _, tyX0, rfl, by decide, uwX0, tyX0_ok, nmX0, rfl, by decide +kernel, Or.inr ⟨"FlowKernel", nst_in (List.mem_of_getElem? (i := 97) (by decide +kernel)) (by decide +kernel)⟩⟩
theorem flX0_22 : FLK RX0 22 0 2 := ⟨_, _, _, tyX0, rfl, by decide, uwX0, tyX0_ok, nmX0, Or.inl (tbg_in (List.mem_of_getElem? (i := 98) (by decide +kernel)) (by decide +kernel))⟩
theorem fpX0_22 : FLP RX0 22 0 2 .int := ⟨_, _, _, tyX0, rfl, by decide, uwX0, tyX0_ok, nmX0, rfl, by decide +kernel, Or.inl (tbg_in (List.mem_of_getElem? (i := 98) (by decide +kernel)) (by decide +kernel))⟩
theorem flX1_44 : FLK RX1 44 0 2 := ⟨_, _, _, tyX0, rfl, by decide, uwX0, tyX0_ok, nmX0, Or.inr ⟨"FlowKernel", nst_in (List.mem_of_getElem? (i := 99) (by decide +kernel)) (by decide +kernel)⟩⟩
theorem fpX1_44 : FLP RX1 44 0 2 .int := ⟨_, _, _, tyX0, rfl, by decide, uwX0, tyX0_ok, nmX0, rfl, by decide +kernel, Or.inr ⟨"FlowKernel", nst_in (List.mem_of_getElem? (i := 99) (by decide +kernel)) (by decide +kernel)⟩⟩
theorem flX2_108 : FLK RX2 108 0 2 := ⟨_, _, _, tyX0, rfl, by decide, uwX0, tyX0_ok, nmX0, Or.inr ⟨"FlowKernel", nst_in (List.mem_of_getElem? (i := 100) (by decide +kernel)) (by decide +kernel)⟩⟩
theorem fpX2_108 : FLP RX2 108 0 2 .int := ⟨_, _, _, tyX0, rfl, by decide, uwX0, tyX0_ok, nmX0, rfl, by decide +kernel, Or.inr ⟨"FlowKernel", nst_in (List.mem_of_getElem? (i := 100) (by decide +kernel)) (by decide +kernel)⟩⟩
theorem flX0_25 : FLK RX0 25 0 3 := ⟨_, _, _, tyX0, rfl, by decide, uwX0, tyX0_ok, nmX0, Or.inl (tbg_in (List.mem_of_getElem? (i := 101) (by decide +kernel)) (by decide +kernel))⟩
theorem fpX0_25 : FLP RX0 25 0 3 .int := ⟨_, _, _, tyX0, rfl, by decide, uwX0, tyX0_ok, nmX0, rfl, by decide +kernel, Or.inl (tbg_in (List.mem_of_getElem? (i := 101) (by decide +kernel)) (by decide +kernel))⟩
theorem flX1_47 : FLK RX1 47 0 3 := ⟨_, _, _, tyX0, rfl, by decide, uwX0, tyX0_ok, nmX0, Or.inr ⟨"FlowKernel", nst_in (List.mem_of_getElem? (i := 102) (by decide +kernel)) (by decide +kernel)⟩⟩
theorem fpX1_47 : FLP RX1 47 0 3 .int := ⟨_, _, _, tyX0, rfl, by decide, uwX0, tyX0_ok, nmX0, rfl, by decide +kernel, Or.inr ⟨"FlowKernel", nst_in (List.mem_of_getElem? (i := 102) (by decide +kernel)) (by decide +kernel)⟩⟩
theorem flX2_116 : FLK RX2 116 0 3 := ⟨_, _, _, tyX0, rfl, by decide, uwX0, tyX0_ok, nmX0, Or.inr ⟨"FlowKernel", nst_in (List.mem_of_getElem? (i := 103) (by decide +kernel)) (by decide +kernel)⟩⟩
theorem fpX2_116 : FLP RX2 116 0 3 .int := ⟨_, _, _, tyX0, rfl, by decide, uwX0, tyX0_ok, nmX0, rfl, by decide +kernel, Or.inr ⟨"FlowKernel", nst_in (List.mem_of_getElem? (i := 103) (by decide +kernel)) (by decide +kernel)⟩⟩
theorem flX1_11 : FLK RX1 11 1 0 := ⟨_, _, _, tyX1, rfl, by decide, uwX1, tyX1_ok, nmX1, Or.inl (tbg_in (List.mem_of_getElem? (i := 113) (by decide +kernel)) (by decide +kernel))⟩
theorem flX1_17 : FLK RX1 17 1 1 := ⟨_, _, _, tyX1, rfl, by decide, uwX1, tyX1_ok, nmX1, Or.inl (tbg_in (List.mem_of_getElem? (i := 114) (by decide +kernel)) (by decide +kernel))⟩
theorem fpX1_17 : FLP RX1 17 1 1 .int := ⟨_, _, _, tyX1, rfl, by decide, uwX1, tyX1_ok, nmX1, rfl, by decide +kernel, Or.inl (tbg_in (List.mem_of_getElem? (i := 114) (by decide +kernel)) (by decide +kernel))⟩
theorem flX1_21 : FLK RX1 21 1 2 := ⟨_, _, _, tyX1, rfl, by decide, uwX1, tyX1_ok, nmX1, Or.inl (tbg_in (List.mem_of_getElem? (i := 115) (by decide +kernel)) (by decide +kernel))⟩
theorem fpX1_21 : FLP RX1 21 1 2 .int := ⟨_, _, _, tyX1, rfl, by decide, uwX1, tyX1_ok, nmX1, rfl, by decide +kernel, Or.inl (tbg_in (List.mem_of_getElem? (i := 115) (by decide +kernel)) (by decide +kernel))⟩
theorem flX5_91 : FLK RX5 91 1 2 := ⟨_, _, _, tyX1, rfl, by decide, uwX1, tyX1_ok, nmX1, Or.inr ⟨"FlowKernel", nst_in (List.mem_of_getElem? (i := 116) (by decide +kernel)) (by decide +kernel)⟩⟩
theorem fpX5_91 : FLP RX5 91 1 2 .int := ⟨_, _, _, tyX1, rfl, by decide, uwX1, tyX1_ok, nmX1, rfl, by decide +kernel, Or.inr ⟨"FlowKernel", nst_in (List.mem_of_getElem? (i := 116) (by decide +kernel)) (by decide +kernel)⟩⟩
theorem flX3_12 : FLK RX3 12 3 0 := ⟨_, _, _, tyX3, rfl, by decide, uwX3, tyX3_ok, nmX3, Or.inl (tbg_in (List.mem_of_getElem? (i := 133) (by decide +kernel)) (by decide +kernel))⟩
theorem flX5_70 : FLK RX5 70 3 0 := ⟨_, _, _, tyX3, rfl, by decide, uwX3, tyX3_ok, nmX3, Or.inr ⟨"FlowKernel", nst_in (List.mem_of_getElem? (i := 134) (by decide +kernel)) (by decide +kernel)⟩⟩
theorem flX2_127 : FLK RX2 127 3 0 := ⟨_, _, _, tyX3, rfl, by decide, uwX3, tyX3_ok, nmX3, Or.inr ⟨"FlowKernel", nst_in (List.mem_of_getElem? (i := 135) (by decide +kernel)) (by decide +kernel)⟩⟩
theorem flX3_18 : FLK RX3 18 3 1 := ⟨_, _, _, tyX3, rfl, by decide, uwX3, tyX3_ok, nmX3, Or.inl (tbg_in (List.mem_of_getElem? (i := 136) (by decide +kernel)) (by decide +kernel))⟩
theorem flX5_78 : FLK RX5 78 3 1 := ⟨_, _, _, tyX3, rfl, by decide, uwX3, tyX3_ok, nmX3, Or.inr ⟨"FlowKernel", nst_in (List.mem_of_getElem? (i := 137) (by decide +kernel)) (by decide +kernel)⟩⟩
theorem flX3_22 : FLK RX3 22 3 2 := ⟨_, _, _, tyX3, rfl, by decide, uwX3, tyX3_ok, nmX3, Or.inl (tbg_in (List.mem_of_getElem? (i := 138) (by decide +kernel)) (by decide +kernel))⟩
theorem fpX3_22 : FLP RX3 22 3 2 .boolean := ⟨_, _, _, tyX3, rfl, by decide, uwX3, tyX3_ok, nmX3, rfl, by decide +kernel, Or.inl (tbg_in (List.mem_of_getElem? (i := 138) (by decide +kernel)) (by decide +kernel))⟩
theorem flX2_70 : FLK RX2 70 3 2 := ⟨_, _, _, tyX3, rfl, by decide, uwX3, tyX3_ok, nmX3, Or.inr ⟨"FlowKernel", nst_in (List.mem_of_getElem? (i := 139) (by decide +kernel)) (by decide +kernel)⟩⟩
theorem fpX2_70 : FLP RX2 70 3 2 .boolean := ⟨_, _, _, tyX3, rfl, by decide, uwX3, tyX3_ok, nmX3, rfl, by decide +kernel, Or.inr ⟨"FlowKernel", nst_in (List.mem_of_getElem? (i := 139) (by decide +kernel)) (by decide +kernel)⟩⟩
theorem flX5_64 : FLK RX5 64 3 2 := ⟨_, _, _, tyX3, rfl, by decide, uwX3, tyX3_ok, nmX3, Or.inr ⟨"FlowKernel", nst_in (List.mem_of_getElem? (i := 140) (by decide +kernel)) (by decide +kernel)⟩⟩
theorem fpX5_64 : FLP RX5 64 3 2 .boolean := ⟨_, _, _, tyX3, rfl, by decide, uwX3, tyX3_ok, nmX3, rfl, by decide +kernel, Or.inr ⟨"FlowKernel", nst_in (List.mem_of_getElem? (i := 140) (by decide +kernel)) (by decide +kernel)⟩⟩
theorem flX2_66 : FLK RX2 66 2 0 := ⟨_, _, _, tyX2, rfl, by decide, uwX2, tyX2_ok, nmX2, Or.inl (tbg_in (List.mem_of_getElem? (i := 148) (by decide +kernel)) (by decide +kernel))⟩
theorem flX1_38 : FLK RX1 38 2 0 := ⟨_, _, _, tyX2, rfl, by decide, uwX2, tyX2_ok, nmX2, Or.inr ⟨"FlowKernel", nst_in (List.mem_of_getElem? (i := 149) (by decide +kernel)) (by decide +kernel)⟩⟩
theorem flX5_226 : FLK RX5 226 2 0 := ⟨_, _, _, tyX2, rfl, by decide, uwX2, tyX2_ok, nmX2, Or.inr ⟨"FlowKernel", nst_in (List.mem_of_getElem? (i := 150) (by decide +kernel)) (by decide +kernel)⟩⟩
theorem flX2_9 : FLK RX2 9 2 1 := ⟨_, _, _, tyX2, rfl, by decide, uwX2, tyX2_ok, nmX2, Or.inl (tbg_in (List.mem_of_getElem? (i := 151) (by decide +kernel)) (by decide +kernel))⟩
theorem flX5_33 : FLK RX5 33 2 1 := ⟨_, _, _, tyX2, rfl, by decide, uwX2, tyX2_ok, nmX2, Or.inr ⟨"FlowKernel", nst_in (List.mem_of_getElem? (i := 152) (by decide +kernel)) (by decide +kernel)⟩⟩
theorem flX2_15 : FLK RX2 15 2 2 := ⟨_, _, _, tyX2, rfl, by decide, uwX2, tyX2_ok, nmX2, Or.inl (tbg_in (List.mem_of_getElem? (i := 153) (by decide +kernel)) (by decide +kernel))⟩
theorem fpX2_15 : FLP RX2 15 2 2 .int := ⟨_, _, _, tyX2, rfl, by decide, uwX2, tyX2_ok, nmX2, rfl, by decide +kernel, Or.inl (tbg_in (List.mem_of_getElem? (i := 153) (by decide +kernel)) (by decide +kernel))⟩
theorem flX5_108 : FLK RX5 108 2 2 := ⟨_, _, _, tyX2, rfl, by decide, uwX2, tyX2_ok, nmX2, Or.inr ⟨"FlowKernel", nst_in (List.mem_of_getElem? (i := 154) (by decide +kernel)) (by decide +kernel)⟩⟩
theorem fpX5_108 : FLP RX5 108 2 2 .int := ⟨_, _, _, tyX2, rfl, by decide, uwX2, tyX2_ok, nmX2, rfl, by decide +kernel, Or.inr ⟨"FlowKernel", nst_in (List.mem_of_getElem? (i := 154) (by decide +kernel)) (by decide +kernel)⟩⟩
theorem flX2_19 : FLK RX2 19 2 3 := ⟨_, _, _, tyX2, rfl, by decide, uwX2, tyX2_ok, nmX2, Or.inl (tbg_in (List.mem_of_getElem? (i := 155) (by decide +kernel)) (by decide +kernel))⟩
theorem fpX2_19 : FLP RX2 19 2 3 .int := ⟨_, _, _, tyX2, rfl, by decide, uwX2, tyX2_ok, nmX2, rfl, by decide +kernel, Or.inl (tbg_in (List.mem_of_getElem? (i := 155) (by decide +kernel)) (by decide +kernel))⟩
theorem flX5_111 : FLK RX5 111 2 3 := ⟨_, _, _, tyX2, rfl, by decide, uwX2, tyX2_ok, nmX2, Or.inr ⟨"FlowKernel", nst_in (List.mem_of_getElem? (i := 156) (by decide +kernel)) (by decide +kernel)⟩⟩
theorem fpX5_111 : FLP RX5 111 2 3 .int := ⟨_, _, _, tyX2, rfl, by decide, uwX2, tyX2_ok, nmX2, rfl, by decide +kernel, Or.inr ⟨"FlowKernel", nst_in (List.mem_of_getElem? (i := 156) (by decide +kernel)) (by decide +kernel)⟩⟩
theorem flX2_22 : FLK RX2 22 2 4 := ⟨_, _, _, tyX2, rfl, by decide, uwX2, tyX2_ok, nmX2, Or.inl (tbg_in (List.mem_of_getElem? (i := 157) (by decide +kernel)) (by decide +kernel))⟩
theorem fpX2_22 : FLP RX2 22 2 4 .int := ⟨_, _, _, tyX2, rfl, by decide, uwX2, tyX2_ok, nmX2, rfl, by decide +kernel, Or.inl (tbg_in (List.mem_of_getElem? (i := 157) (by decide +kernel)) (by decide +kernel))⟩
theorem flX5_37 : FLK RX5 37 2 4 := ⟨_, _, _, tyX2, rfl, by decide, uwX2, tyX2_ok, nmX2, Or.inr ⟨"FlowKernel", nst_in (List.mem_of_getElem? (i := 158) (by decide +kernel)) (by decide +kernel)⟩⟩
theorem fpX5_37 : FLP RX5 37 2 4 .int := ⟨_, _, _, tyX2, rfl, by decide, uwX2, tyX2_ok, nmX2, rfl, by decide +kernel, Or.inr ⟨"FlowKernel", nst_in (List.mem_of_getElem? (i := 158) (by decide +kernel)) (by decide +kernel)⟩⟩
theorem flX2_25 : FLK RX2 25 2 5 := ⟨_, _, _, tyX2, rfl, by decide, uwX2, tyX2_ok, nmX2, Or.inl (tbg_in (List.mem_of_getElem? (i := 159) (by decide +kernel)) (by decide +kernel))⟩
theorem fpX2_25 : FLP RX2 25 2 5 .int := ⟨_, _, _, tyX2, rfl, by decide, uwX2, tyX2_ok, nmX2, rfl, by decide +kernel, Or.inl (tbg_in (List.mem_of_getElem? (i := 159) (by decide +kernel)) (by decide +kernel))⟩
theorem flX5_105 : FLK RX5 105 2 5 := ⟨_, _, _, tyX2, rfl, by decide, uwX2, tyX2_ok, nmX2, Or.inr ⟨"FlowKernel", nst_in (List.mem_of_getElem? (i := 160) (by decide +kernel)) (by decide +kernel)⟩⟩
theorem fpX5_105 : FLP RX5 105 2 5 .int := ⟨_, _, _, tyX2, rfl, by decide, uwX2, tyX2_ok, nmX2, rfl, by decide +kernel, Or.inr ⟨"FlowKernel", nst_in (List.mem_of_getElem? (i := 160) (by decide +kernel)) (by decide +kernel)⟩⟩
theorem flX2_28 : FLK RX2 28 2 6 := ⟨_, _, _, tyX2, rfl, by decide, uwX2, tyX2_ok, nmX2, Or.inl (tbg_in (List.mem_of_getElem? (i := 161) (by decide +kernel)) (by decide +kernel))⟩
theorem fpX2_28 : FLP RX2 28 2 6 .int := ⟨_, _, _, tyX2, rfl, by decide, uwX2, tyX2_ok, nmX2, rfl, by decide +kernel, Or.inl (tbg_in (List.mem_of_getElem? (i := 161) (by decide +kernel)) (by decide +kernel))⟩
theorem flX5_40 : FLK RX5 40 2 6 := ⟨_, _, _, tyX2, rfl, by decide, uwX2, tyX2_ok, nmX2, Or.inr ⟨"FlowKernel", nst_in (List.mem_of_getElem? (i := 162) (by decide +kernel)) (by decide +kernel)⟩⟩
theorem fpX5_40 : FLP RX5 40 2 6 .int := ⟨_, _, _, tyX2, rfl, by decide, uwX2, tyX2_ok, nmX2, rfl, by decide +kernel, Or.inr ⟨"FlowKernel", nst_in (List.mem_of_getElem? (i := 162) (by decide +kernel)) (by decide +kernel)⟩⟩
theorem flX2_34 : FLK RX2 34 2 7 := ⟨_, _, _, tyX2, rfl, by decide, uwX2, tyX2_ok, nmX2, Or.inl (tbg_in (List.mem_of_getElem? (i := 163) (by decide +kernel)) (by decide +kernel))⟩
theorem flX1_29 : FLK RX1 29 2 7 := ⟨_, _, _, tyX2, rfl, by decide, uwX2, tyX2_ok, nmX2, Or.inr ⟨"FlowKernel", nst_in (List.mem_of_getElem? (i := 164) (by decide +kernel)) (by decide +kernel)⟩⟩
theorem flX5_46 : FLK RX5 46 2 7 := ⟨_, _, _, tyX2, rfl, by decide, uwX2, tyX2_ok, nmX2, Or.inr ⟨"FlowKernel", nst_in (List.mem_of_getElem? (i := 165) (by decide +kernel)) (by decide +kernel)⟩⟩
theorem flX2_38 : FLK RX2 38 2 8 := ⟨_, _, _, tyX2, rfl, by decide, uwX2, tyX2_ok, nmX2, Or.inl (tbg_in (List.mem_of_getElem? (i := 166) (by decide +kernel)) (by decide +kernel))⟩
theorem flX5_114 : FLK RX5 114 2 8 := ⟨_, _, _, tyX2, rfl, by decide, uwX2, tyX2_ok, nmX2, Or.inr ⟨"FlowKernel", nst_in (List.mem_of_getElem? (i := 167) (by decide +kernel)) (by decide +kernel)⟩⟩
theorem flX2_41 : FLK RX2 41 2 9 := ⟨_, _, _, tyX2, rfl, by decide, uwX2, tyX2_ok, nmX2, Or.inl (tbg_in (List.mem_of_getElem? (i := 168) (by decide +kernel)) (by decide +kernel))⟩
theorem flX5_117 : FLK RX5 117 2 9 := ⟨_, _, _, tyX2, rfl, by decide, uwX2, tyX2_ok, nmX2, Or.inr ⟨"FlowKernel", nst_in (List.mem_of_getElem? (i := 169) (by decide +kernel)) (by decide +kernel)⟩⟩
theorem flX2_47 : FLK RX2 47 2 10 := ⟨_, _, _, tyX2, rfl, by decide, uwX2, tyX2_ok, nmX2, Or.inl (tbg_in (List.mem_of_getElem? (i := 170) (by decide +kernel)) (by decide +kernel))⟩
theorem flX5_81 : FLK RX5 81 2 10 := ⟨_, _, _, tyX2, rfl, by decide, uwX2, tyX2_ok, nmX2, Or.inr ⟨"FlowKernel", nst_in (List.mem_of_getElem? (i := 171) (by decide +kernel)) (by decide +kernel)⟩⟩
theorem flX2_53 : FLK RX2 53 2 11 := ⟨_, _, _, tyX2, rfl, by decide, uwX2, tyX2_ok, nmX2, Or.inl (tbg_in (List.mem_of_getElem? (i := 172) (by decide +kernel)) (by decide +kernel))⟩
theorem flX5_147 : FLK RX5 147 2 11 := ⟨_, _, _, tyX2, rfl, by decide, uwX2, tyX2_ok, nmX2, Or.inr ⟨"FlowKernel", nst_in (List.mem_of_getElem? (i := 173) (by decide +kernel)) (by decide +kernel)⟩⟩
theorem flX2_57 : FLK RX2 57 2 12 := ⟨_, _, _, tyX2, rfl, by decide, uwX2, tyX2_ok, nmX2, Or.inl (tbg_in (List.mem_of_getElem? (i := 174) (by decide +kernel)) (by decide +kernel))⟩
theorem flX5_134 : FLK RX5 134 2 12 := ⟨_, _, _, tyX2, rfl, by decide, uwX2, tyX2_ok, nmX2, Or.inr ⟨"FlowKernel", nst_in (List.mem_of_getElem? (i := 175) (by decide +kernel)) (by decide +kernel)⟩⟩
theorem flX2_60 : FLK RX2 60 2 13 := ⟨_, _, _, tyX2, rfl, by decide, uwX2, tyX2_ok, nmX2, Or.inl (tbg_in (List.mem_of_getElem? (i := 176) (by decide +kernel)) (by decide +kernel))⟩
theorem flX5_137 : FLK RX5 137 2 13 := ⟨_, _, _, tyX2, rfl, by decide, uwX2, tyX2_ok, nmX2, Or.inr ⟨"FlowKernel", nst_in (List.mem_of_getElem? (i := 177) (by decide +kernel)) (by decide +kernel)⟩⟩
theorem flX2_63 : FLK RX2 63 2 14 := ⟨_, _, _, tyX2, rfl, by decide, uwX2, tyX2_ok, nmX2, Or.inl (tbg_in (List.mem_of_getElem? (i := 178) (by decide +kernel)) (by decide +kernel))⟩
theorem fpX2_63 : FLP RX2 63 2 14 .int := ⟨_, _, _, tyX2, rfl, by decide, uwX2, tyX2_ok, nmX2, rfl, by decide +kernel, Or.inl (tbg_in (List.mem_of_getElem? (i := 178) (by decide +kernel)) (by decide +kernel))⟩
theorem flX5_124 : FLK RX5 124 2 14 := ⟨_, _, _, tyX2, rfl, by decide, uwX2, tyX2_ok, nmX2, Or.inr ⟨"FlowKernel", nst_in (List.mem_of_getElem? (i := 179) (by decide +kernel)) (by decide +kernel)⟩⟩
theorem fpX5_124 : FLP RX5 124 2 14 .int := ⟨_, _, _, tyX2, rfl, by decide, uwX2, tyX2_ok, nmX2, rfl, by decide +kernel, Or.inr ⟨"FlowKernel", nst_in (List.mem_of_getElem? (i := 179) (by decide +kernel)) (by decide +kernel)⟩⟩
theorem flX5_11 : FLK RX5 11 5 0 := ⟨_, _, _, tyX5, rfl, by decide, uwX5, tyX5_ok, nmX5, Or.inl (tbg_in (List.mem_of_getElem? (i := 213) (by decide +kernel)) (by decide +kernel))⟩
theorem flX5_21 : FLK RX5 21 5 1 := ⟨_, _, _, tyX5, rfl, by decide, uwX5, tyX5_ok, nmX5, Or.inl (tbg_in (List.mem_of_getElem? (i := 214) (by decide +kernel)) (by decide +kernel))⟩
theorem flX5_25 : FLK RX5 25 5 2 := ⟨_, _, _, tyX5, rfl, by decide, uwX5, tyX5_ok, nmX5, Or.inl (tbg_in (List.mem_of_getElem? (i := 215) (by decide +kernel)) (by decide +kernel))⟩
theorem fpX5_25 : FLP RX5 25 5 2 .int := ⟨_, _, _, tyX5, rfl, by decide, uwX5, tyX5_ok, nmX5, rfl, by decide +kernel, Or.inl (tbg_in (List.mem_of_getElem? (i := 215) (by decide +kernel)) (by decide +kernel))⟩
theorem flX6_9 : FLK RX6 9 6 0 := ⟨_, _, _, tyX6, rfl, by decide, uwX6, tyX6_ok, nmX6, Or.inl (tbg_in (List.mem_of_getElem? (i := 473) (by decide +kernel)) (by decide +kernel))⟩
theorem flX6_13 : FLK RX6 13 6 1 := ⟨_, _, _, tyX6, rfl, by decide, uwX6, tyX6_ok, nmX6, Or.inl (tbg_in (List.mem_of_getElem? (i := 474) (by decide +kernel)) (by decide +kernel))⟩
theorem flX6_16 : FLK RX6 16 6 2 := ⟨_, _, _, tyX6, rfl, by decide, uwX6, tyX6_ok, nmX6, Or.inl (tbg_in (List.mem_of_getElem? (i := 475) (by decide +kernel)) (by decide +kernel))⟩
theorem flX6_19 : FLK RX6 19 6 3 := ⟨_, _, _, tyX6, rfl, by decide, uwX6, tyX6_ok, nmX6, Or.inl (tbg_in (List.mem_of_getElem? (i := 476) (by decide +kernel)) (by decide +kernel))⟩
theorem flX6_22 : FLK RX6 22 6 4 := ⟨_, _, _, tyX6, rfl, by decide, uwX6, tyX6_ok, nmX6, Or.inl (tbg_in (List.mem_of_getElem? (i := 477) (by decide +kernel)) (by decide +kernel))⟩
theorem flX6_25 : FLK RX6 25 6 5 := ⟨_, _, _, tyX6, rfl, by decide, uwX6, tyX6_ok, nmX6, Or.inl (tbg_in (List.mem_of_getElem? (i := 478) (by decide +kernel)) (by decide +kernel))⟩
theorem flX6_29 : FLK RX6 29 6 6 := ⟨_, _, _, tyX6, rfl, by decide, uwX6, tyX6_ok, nmX6, Or.inl (tbg_in (List.mem_of_getElem? (i := 479) (by decide +kernel)) (by decide +kernel))⟩
theorem flX6_33 : FLK RX6 33 6 7 := ⟨_, _, _, tyX6, rfl, by decide, uwX6, tyX6_ok, nmX6, Or.inl (tbg_in (List.mem_of_getElem? (i := 480) (by decide +kernel)) (by decide +kernel))⟩
theorem flX6_36 : FLK RX6 36 6 8 := ⟨_, _, _, tyX6, rfl, by decide, uwX6, tyX6_ok, nmX6, Or.inl (tbg_in (List.mem_of_getElem? (i := 481) (by decide +kernel)) (by decide +kernel))⟩
theorem flX6_39 : FLK RX6 39 6 9 := ⟨_, _, _, tyX6, rfl, by decide, uwX6, tyX6_ok, nmX6, Or.inl (tbg_in (List.mem_of_getElem? (i := 482) (by decide +kernel)) (by decide +kernel))⟩
theorem flX6_42 : FLK RX6 42 6 10 := ⟨_, _, _, tyX6, rfl, by decide, uwX6, tyX6_ok, nmX6, Or.inl (tbg_in (List.mem_of_getElem? (i := 483) (by decide +kernel)) (by decide +kernel))⟩
theorem flX6_45 : FLK RX6 45 6 11 := ⟨_, _, _, tyX6, rfl, by decide, uwX6, tyX6_ok, nmX6, Or.inl (tbg_in (List.mem_of_getElem? (i := 484) (by decide +kernel)) (by decide +kernel))⟩
theorem flX6_48 : FLK RX6 48 6 12 := ⟨_, _, _, tyX6, rfl, by decide, uwX6, tyX6_ok, nmX6, Or.inl (tbg_in (List.mem_of_getElem? (i := 485) (by decide +kernel)) (by decide +kernel))⟩
theorem flX6_51 : FLK RX6 51 6 13 := ⟨_, _, _, tyX6, rfl, by decide, uwX6, tyX6_ok, nmX6, Or.inl (tbg_in (List.mem_of_getElem? (i := 486) (by decide +kernel)) (by decide +kernel))⟩
theorem flX6_54 : FLK RX6 54 6 14 := ⟨_, _, _, tyX6, rfl, by decide, uwX6, tyX6_ok, nmX6, Or.inl (tbg_in (List.mem_of_getElem? (i := 487) (by decide +kernel)) (by decide +kernel))⟩
theorem flX6_57 : FLK RX6 57 6 15 := ⟨_, _, _, tyX6, rfl, by decide, uwX6, tyX6_ok, nmX6, Or.inl (tbg_in (List.mem_of_getElem? (i := 488) (by decide +kernel)) (by decide +kernel))⟩
theorem flX6_60 : FLK RX6 60 6 16 := ⟨_, _, _, tyX6, rfl, by decide, uwX6, tyX6_ok, nmX6, Or.inl (tbg_in (List.mem_of_getElem? (i := 489) (by decide +kernel)) (by decide +kernel))⟩
theorem flX6_157 : FLK RX6 157 6 17 := ⟨_, _, _, tyX6, rfl, by decide, uwX6, tyX6_ok, nmX6, Or.inl (tbg_in (List.mem_of_getElem? (i := 490) (by decide +kernel)) (by decide +kernel))⟩
theorem fpX6_157 : FLP RX6 157 6 17 .int := ⟨_, _, _, tyX6, rfl, by decide, uwX6, tyX6_ok, nmX6, rfl, by decide +kernel, Or.inl (tbg_in (List.mem_of_getElem? (i := 490) (by decide +kernel)) (by decide +kernel))⟩
theorem mlL_13 : VLK RL 13 mX5_poke 5 := ⟨tbg_in (List.mem_of_getElem? (i := 223) (by decide +kernel)) (by decide +kernel), tbg_in (List.mem_of_getElem? (i := 224) (by decide +kernel)) (by decide +kernel), tbg_in (List.mem_of_getElem? (i := 225) (by decide +kernel)) (by decide +kernel), inX5, cdX5_poke, ⟨by decide, by decide, by decide +kernel⟩, by decide⟩
theorem mlX5_29 : SLK RX5 29 mX5_isSlot 1 := ⟨Or.inl (tbg_in (List.mem_of_getElem? (i := 227) (by decide +kernel)) (by decide +kernel)), tbg_in (List.mem_of_getElem? (i := 228) (by decide +kernel)) (by decide +kernel), inX5, cdX5_isSlot, ⟨by decide, by decide, by decide +kernel⟩, by decide⟩
theorem mlL_18 : VLK RL 18 mX5_start 1 := ⟨tbg_in (List.mem_of_getElem? (i := 230) (by decide +kernel)) (by decide +kernel), tbg_in (List.mem_of_getElem? (i := 231) (by decide +kernel)) (by decide +kernel), tbg_in (List.mem_of_getElem? (i := 232) (by decide +kernel)) (by decide +kernel), inX5, cdX5_start, ⟨by decide, by decide, by decide +kernel⟩, by decide⟩
theorem mlL_23 : VLK RL 23 mX5_counter 2 := ⟨tbg_in (List.mem_of_getElem? (i := 234) (by decide +kernel)) (by decide +kernel), tbg_in (List.mem_of_getElem? (i := 235) (by decide +kernel)) (by decide +kernel), tbg_in (List.mem_of_getElem? (i := 236) (by decide +kernel)) (by decide +kernel), inX5, cdX5_counter, ⟨by decide, by decide, by decide +kernel⟩, by decide⟩
theorem mlL_28 : VLK RL 28 mX5_tag 3 := ⟨tbg_in (List.mem_of_getElem? (i := 238) (by decide +kernel)) (by decide +kernel), tbg_in (List.mem_of_getElem? (i := 239) (by decide +kernel)) (by decide +kernel), tbg_in (List.mem_of_getElem? (i := 240) (by decide +kernel)) (by decide +kernel), inX5, cdX5_tag, ⟨by decide, by decide, by decide +kernel⟩, by decide⟩
theorem mlX5_43 : VLK RX5 43 mX5_isThere 1 := ⟨tbg_in (List.mem_of_getElem? (i := 242) (by decide +kernel)) (by decide +kernel), tbg_in (List.mem_of_getElem? (i := 244) (by decide +kernel)) (by decide +kernel), tbg_in (List.mem_of_getElem? (i := 0) (by decide +kernel)) (by decide +kernel), inX5, cdX5_isThere, ⟨by decide, by decide, by decide +kernel⟩, by decide⟩
theorem mlX5_144 : SLK RX5 144 mX5_isTag 1 := ⟨Or.inl (tbg_in (List.mem_of_getElem? (i := 246) (by decide +kernel)) (by decide +kernel)), tbg_in (List.mem_of_getElem? (i := 247) (by decide +kernel)) (by decide +kernel), inX5, cdX5_isTag, ⟨by decide, by decide, by decide +kernel⟩, by decide⟩
theorem mlX5_49 : VLK RX5 49 mX4_change 3 := ⟨tbg_in (List.mem_of_getElem? (i := 249) (by decide +kernel)) (by decide +kernel), tbg_in (List.mem_of_getElem? (i := 250) (by decide +kernel)) (by decide +kernel), tbg_in (List.mem_of_getElem? (i := 251) (by decide +kernel)) (by decide +kernel), inX4, cdX4_change, ⟨by decide, by decide, by decide +kernel⟩, by decide⟩
theorem mlX4_26 : VLK RX4 26 mX4_remove 1 := ⟨tbg_in (List.mem_of_getElem? (i := 253) (by decide +kernel)) (by decide +kernel), tbg_in (List.mem_of_getElem? (i := 254) (by decide +kernel)) (by decide +kernel), tbg_in (List.mem_of_getElem? (i := 255) (by decide +kernel)) (by decide +kernel), inX4, cdX4_remove, ⟨by decide, by decide, by decide +kernel⟩, by decide⟩
theorem mlX4_23 : VLK RX4 23 mX4_has 1 := ⟨tbg_in (List.mem_of_getElem? (i := 257) (by decide +kernel)) (by decide +kernel), tbg_in (List.mem_of_getElem? (i := 258) (by decide +kernel)) (by decide +kernel), tbg_in (List.mem_of_getElem? (i := 259) (by decide +kernel)) (by decide +kernel), inX4, cdX4_has, ⟨by decide, by decide, by decide +kernel⟩, by decide⟩
theorem mlX4_30 : VLK RX4 30 mX4_add 1 := ⟨tbg_in (List.mem_of_getElem? (i := 261) (by decide +kernel)) (by decide +kernel), tbg_in (List.mem_of_getElem? (i := 262) (by decide +kernel)) (by decide +kernel), tbg_in (List.mem_of_getElem? (i := 263) (by decide +kernel)) (by decide +kernel), inX4, cdX4_add, ⟨by decide, by decide, by decide +kernel⟩, by decide⟩
theorem mlX4_19 : SLK RX4 19 mX5_isTag 1 := ⟨Or.inr ⟨"FlowKernel", nst_in (List.mem_of_getElem? (i := 265) (by decide +kernel)) (by decide +kernel)⟩, tbg_in (List.mem_of_getElem? (i := 247) (by decide +kernel)) (by decide +kernel), inX5, cdX5_isTag, ⟨by decide, by decide, by decide +kernel⟩, by decide⟩
theorem mlL_33 : VLK RL 33 mX5_capability 4 := ⟨tbg_in (List.mem_of_getElem? (i := 266) (by decide +kernel)) (by decide +kernel), tbg_in (List.mem_of_getElem? (i := 267) (by decide +kernel)) (by decide +kernel), tbg_in (List.mem_of_getElem? (i := 268) (by decide +kernel)) (by decide +kernel), inX5, cdX5_capability, ⟨by decide, by decide, by decide +kernel⟩, by decide⟩
theorem mlX5_53 : VLK RX5 53 mX2_capabilities 1 := ⟨tbg_in (List.mem_of_getElem? (i := 270) (by decide +kernel)) (by decide +kernel), tbg_in (List.mem_of_getElem? (i := 271) (by decide +kernel)) (by decide +kernel), tbg_in (List.mem_of_getElem? (i := 272) (by decide +kernel)) (by decide +kernel), inX2, cdX2_capabilities, ⟨by decide, by decide, by decide +kernel⟩, by decide⟩
theorem mlL_38 : VLK RL 38 mX5_file 2 := ⟨tbg_in (List.mem_of_getElem? (i := 274) (by decide +kernel)) (by decide +kernel), tbg_in (List.mem_of_getElem? (i := 275) (by decide +kernel)) (by decide +kernel), tbg_in (List.mem_of_getElem? (i := 276) (by decide +kernel)) (by decide +kernel), inX5, cdX5_file, ⟨by decide, by decide, by decide +kernel⟩, by decide⟩
theorem mlX5_57 : SLK RX5 57 mX5_isFile 1 := ⟨Or.inl (tbg_in (List.mem_of_getElem? (i := 278) (by decide +kernel)) (by decide +kernel)), tbg_in (List.mem_of_getElem? (i := 279) (by decide +kernel)) (by decide +kernel), inX5, cdX5_isFile, ⟨by decide, by decide, by decide +kernel⟩, by decide⟩
theorem mlX5_60 : VLK RX5 60 mX5_fileAt 1 := ⟨tbg_in (List.mem_of_getElem? (i := 281) (by decide +kernel)) (by decide +kernel), tbg_in (List.mem_of_getElem? (i := 283) (by decide +kernel)) (by decide +kernel), tbg_in (List.mem_of_getElem? (i := 1) (by decide +kernel)) (by decide +kernel), inX5, cdX5_fileAt, ⟨by decide, by decide, by decide +kernel⟩, by decide⟩
theorem mlL_42 : VLK RL 42 mX5_fill 3 := ⟨tbg_in (List.mem_of_getElem? (i := 285) (by decide +kernel)) (by decide +kernel), tbg_in (List.mem_of_getElem? (i := 286) (by decide +kernel)) (by decide +kernel), tbg_in (List.mem_of_getElem? (i := 287) (by decide +kernel)) (by decide +kernel), inX5, cdX5_fill, ⟨by decide, by decide, by decide +kernel⟩, by decide⟩
theorem mlX5_74 : VLK RX5 74 mX5_isFileCell 2 := ⟨tbg_in (List.mem_of_getElem? (i := 289) (by decide +kernel)) (by decide +kernel), tbg_in (List.mem_of_getElem? (i := 291) (by decide +kernel)) (by decide +kernel), tbg_in (List.mem_of_getElem? (i := 2) (by decide +kernel)) (by decide +kernel), inX5, cdX5_isFileCell, ⟨by decide, by decide, by decide +kernel⟩, by decide⟩
theorem mlL_47 : VLK RL 47 mX5_post 3 := ⟨tbg_in (List.mem_of_getElem? (i := 293) (by decide +kernel)) (by decide +kernel), tbg_in (List.mem_of_getElem? (i := 294) (by decide +kernel)) (by decide +kernel), tbg_in (List.mem_of_getElem? (i := 295) (by decide +kernel)) (by decide +kernel), inX5, cdX5_post, ⟨by decide, by decide, by decide +kernel⟩, by decide⟩
theorem mlX5_85 : VLK RX5 85 mX1_put 3 := ⟨tbg_in (List.mem_of_getElem? (i := 297) (by decide +kernel)) (by decide +kernel), tbg_in (List.mem_of_getElem? (i := 298) (by decide +kernel)) (by decide +kernel), tbg_in (List.mem_of_getElem? (i := 299) (by decide +kernel)) (by decide +kernel), inX1, cdX1_put, ⟨by decide, by decide, by decide +kernel⟩, by decide⟩
theorem mlX1_32 : VLK RX1 32 mX4_copy 1 := ⟨tbg_in (List.mem_of_getElem? (i := 301) (by decide +kernel)) (by decide +kernel), tbg_in (List.mem_of_getElem? (i := 302) (by decide +kernel)) (by decide +kernel), tbg_in (List.mem_of_getElem? (i := 303) (by decide +kernel)) (by decide +kernel), inX4, cdX4_copy, ⟨by decide, by decide, by decide +kernel⟩, by decide⟩
theorem mlL_51 : VLK RL 51 mX5_run 1 := ⟨tbg_in (List.mem_of_getElem? (i := 305) (by decide +kernel)) (by decide +kernel), tbg_in (List.mem_of_getElem? (i := 306) (by decide +kernel)) (by decide +kernel), tbg_in (List.mem_of_getElem? (i := 307) (by decide +kernel)) (by decide +kernel), inX5, cdX5_run, ⟨by decide, by decide, by decide +kernel⟩, by decide⟩
theorem mlX5_92 : SLK RX5 92 mJ9_floorMod_7cf53 2 := ⟨Or.inl (tbg_in (List.mem_of_getElem? (i := 309) (by decide +kernel)) (by decide +kernel)), tbg_in (List.mem_of_getElem? (i := 310) (by decide +kernel)) (by decide +kernel), inJ9, cdJ9_floorMod_7cf53, ⟨by decide, by decide, by decide +kernel⟩, by decide⟩
theorem mlX5_98 : VLK RX5 98 mX5_step 1 := ⟨tbg_in (List.mem_of_getElem? (i := 312) (by decide +kernel)) (by decide +kernel), tbg_in (List.mem_of_getElem? (i := 314) (by decide +kernel)) (by decide +kernel), tbg_in (List.mem_of_getElem? (i := 3) (by decide +kernel)) (by decide +kernel), inX5, cdX5_step, ⟨by decide, by decide, by decide +kernel⟩, by decide⟩
theorem mlX5_102 : SLK RX5 102 mX5_isPlace 1 := ⟨Or.inl (tbg_in (List.mem_of_getElem? (i := 316) (by decide +kernel)) (by decide +kernel)), tbg_in (List.mem_of_getElem? (i := 317) (by decide +kernel)) (by decide +kernel), inX5, cdX5_isPlace, ⟨by decide, by decide, by decide +kernel⟩, by decide⟩
theorem mlX5_151 : VLK RX5 151 mX2_stopBy 1 := ⟨tbg_in (List.mem_of_getElem? (i := 319) (by decide +kernel)) (by decide +kernel), tbg_in (List.mem_of_getElem? (i := 320) (by decide +kernel)) (by decide +kernel), tbg_in (List.mem_of_getElem? (i := 321) (by decide +kernel)) (by decide +kernel), inX2, cdX2_stopBy, ⟨by decide, by decide, by decide +kernel⟩, by decide⟩
theorem mlX5_154 : VLK RX5 154 mX5_systemCall 2 := ⟨tbg_in (List.mem_of_getElem? (i := 323) (by decide +kernel)) (by decide +kernel), tbg_in (List.mem_of_getElem? (i := 325) (by decide +kernel)) (by decide +kernel), tbg_in (List.mem_of_getElem? (i := 4) (by decide +kernel)) (by decide +kernel), inX5, cdX5_systemCall, ⟨by decide, by decide, by decide +kernel⟩, by decide⟩
theorem mlX5_174 : VLK RX5 174 mX5_readList 2 := ⟨tbg_in (List.mem_of_getElem? (i := 327) (by decide +kernel)) (by decide +kernel), tbg_in (List.mem_of_getElem? (i := 329) (by decide +kernel)) (by decide +kernel), tbg_in (List.mem_of_getElem? (i := 5) (by decide +kernel)) (by decide +kernel), inX5, cdX5_readList, ⟨by decide, by decide, by decide +kernel⟩, by decide⟩
theorem mlX5_214 : VLK RX5 214 mX4_clear 0 := ⟨tbg_in (List.mem_of_getElem? (i := 331) (by decide +kernel)) (by decide +kernel), tbg_in (List.mem_of_getElem? (i := 332) (by decide +kernel)) (by decide +kernel), tbg_in (List.mem_of_getElem? (i := 333) (by decide +kernel)) (by decide +kernel), inX4, cdX4_clear, ⟨by decide, by decide, by decide +kernel⟩, by decide⟩
theorem mlX5_217 : VLK RX5 217 mX4_add 1 := ⟨tbg_in (List.mem_of_getElem? (i := 335) (by decide +kernel)) (by decide +kernel), tbg_in (List.mem_of_getElem? (i := 262) (by decide +kernel)) (by decide +kernel), tbg_in (List.mem_of_getElem? (i := 263) (by decide +kernel)) (by decide +kernel), inX4, cdX4_add, ⟨by decide, by decide, by decide +kernel⟩, by decide⟩
theorem mlX5_178 : VLK RX5 178 mX2_newTag 0 := ⟨tbg_in (List.mem_of_getElem? (i := 336) (by decide +kernel)) (by decide +kernel), tbg_in (List.mem_of_getElem? (i := 337) (by decide +kernel)) (by decide +kernel), tbg_in (List.mem_of_getElem? (i := 338) (by decide +kernel)) (by decide +kernel), inX2, cdX2_newTag, ⟨by decide, by decide, by decide +kernel⟩, by decide⟩
theorem mlX2_77 : VLK RX2 77 mX4_add 1 := ⟨tbg_in (List.mem_of_getElem? (i := 340) (by decide +kernel)) (by decide +kernel), tbg_in (List.mem_of_getElem? (i := 262) (by decide +kernel)) (by decide +kernel), tbg_in (List.mem_of_getElem? (i := 263) (by decide +kernel)) (by decide +kernel), inX4, cdX4_add, ⟨by decide, by decide, by decide +kernel⟩, by decide⟩
theorem mlX5_181 : VLK RX5 181 mX2_relabel 1 := ⟨tbg_in (List.mem_of_getElem? (i := 341) (by decide +kernel)) (by decide +kernel), tbg_in (List.mem_of_getElem? (i := 342) (by decide +kernel)) (by decide +kernel), tbg_in (List.mem_of_getElem? (i := 343) (by decide +kernel)) (by decide +kernel), inX2, cdX2_relabel, ⟨by decide, by decide, by decide +kernel⟩, by decide⟩
theorem mlX2_81 : VLK RX2 81 mX4_isInEither 2 := ⟨tbg_in (List.mem_of_getElem? (i := 345) (by decide +kernel)) (by decide +kernel), tbg_in (List.mem_of_getElem? (i := 346) (by decide +kernel)) (by decide +kernel), tbg_in (List.mem_of_getElem? (i := 347) (by decide +kernel)) (by decide +kernel), inX4, cdX4_isInEither, ⟨by decide, by decide, by decide +kernel⟩, by decide⟩
theorem mlX2_85 : VLK RX2 85 mX4_copy 1 := ⟨tbg_in (List.mem_of_getElem? (i := 349) (by decide +kernel)) (by decide +kernel), tbg_in (List.mem_of_getElem? (i := 302) (by decide +kernel)) (by decide +kernel), tbg_in (List.mem_of_getElem? (i := 303) (by decide +kernel)) (by decide +kernel), inX4, cdX4_copy, ⟨by decide, by decide, by decide +kernel⟩, by decide⟩
theorem mlX5_185 : VLK RX5 185 mX2_dropCapability 2 := ⟨tbg_in (List.mem_of_getElem? (i := 350) (by decide +kernel)) (by decide +kernel), tbg_in (List.mem_of_getElem? (i := 351) (by decide +kernel)) (by decide +kernel), tbg_in (List.mem_of_getElem? (i := 352) (by decide +kernel)) (by decide +kernel), inX2, cdX2_dropCapability, ⟨by decide, by decide, by decide +kernel⟩, by decide⟩
theorem mlX2_89 : SLK RX2 89 mX5_kindOf 1 := ⟨Or.inr ⟨"FlowKernel", nst_in (List.mem_of_getElem? (i := 354) (by decide +kernel)) (by decide +kernel)⟩, tbg_in (List.mem_of_getElem? (i := 355) (by decide +kernel)) (by decide +kernel), inX5, cdX5_kindOf, ⟨by decide, by decide, by decide +kernel⟩, by decide⟩
theorem mlX2_93 : VLK RX2 93 mX2_capabilities 1 := ⟨tbg_in (List.mem_of_getElem? (i := 357) (by decide +kernel)) (by decide +kernel), tbg_in (List.mem_of_getElem? (i := 271) (by decide +kernel)) (by decide +kernel), tbg_in (List.mem_of_getElem? (i := 272) (by decide +kernel)) (by decide +kernel), inX2, cdX2_capabilities, ⟨by decide, by decide, by decide +kernel⟩, by decide⟩
theorem mlX2_97 : VLK RX2 97 mX4_has 1 := ⟨tbg_in (List.mem_of_getElem? (i := 358) (by decide +kernel)) (by decide +kernel), tbg_in (List.mem_of_getElem? (i := 258) (by decide +kernel)) (by decide +kernel), tbg_in (List.mem_of_getElem? (i := 259) (by decide +kernel)) (by decide +kernel), inX4, cdX4_has, ⟨by decide, by decide, by decide +kernel⟩, by decide⟩
theorem mlX2_101 : VLK RX2 101 mX4_remove 1 := ⟨tbg_in (List.mem_of_getElem? (i := 359) (by decide +kernel)) (by decide +kernel), tbg_in (List.mem_of_getElem? (i := 254) (by decide +kernel)) (by decide +kernel), tbg_in (List.mem_of_getElem? (i := 255) (by decide +kernel)) (by decide +kernel), inX4, cdX4_remove, ⟨by decide, by decide, by decide +kernel⟩, by decide⟩
theorem mlX5_188 : VLK RX5 188 mX5_send 4 := ⟨tbg_in (List.mem_of_getElem? (i := 360) (by decide +kernel)) (by decide +kernel), tbg_in (List.mem_of_getElem? (i := 362) (by decide +kernel)) (by decide +kernel), tbg_in (List.mem_of_getElem? (i := 6) (by decide +kernel)) (by decide +kernel), inX5, cdX5_send, ⟨by decide, by decide, by decide +kernel⟩, by decide⟩
theorem mlX5_140 : VLK RX5 140 mX4_isIn 1 := ⟨tbg_in (List.mem_of_getElem? (i := 364) (by decide +kernel)) (by decide +kernel), tbg_in (List.mem_of_getElem? (i := 365) (by decide +kernel)) (by decide +kernel), tbg_in (List.mem_of_getElem? (i := 366) (by decide +kernel)) (by decide +kernel), inX4, cdX4_isIn, ⟨by decide, by decide, by decide +kernel⟩, by decide⟩
theorem mlX4_33 : VLK RX4 33 mX4_isInEither 2 := ⟨tbg_in (List.mem_of_getElem? (i := 368) (by decide +kernel)) (by decide +kernel), tbg_in (List.mem_of_getElem? (i := 346) (by decide +kernel)) (by decide +kernel), tbg_in (List.mem_of_getElem? (i := 347) (by decide +kernel)) (by decide +kernel), inX4, cdX4_isInEither, ⟨by decide, by decide, by decide +kernel⟩, by decide⟩
theorem mlX5_192 : VLK RX5 192 mX5_pass 4 := ⟨tbg_in (List.mem_of_getElem? (i := 369) (by decide +kernel)) (by decide +kernel), tbg_in (List.mem_of_getElem? (i := 371) (by decide +kernel)) (by decide +kernel), tbg_in (List.mem_of_getElem? (i := 7) (by decide +kernel)) (by decide +kernel), inX5, cdX5_pass, ⟨by decide, by decide, by decide +kernel⟩, by decide⟩
theorem mlX5_220 : SLK RX5 220 mX5_kindOf 1 := ⟨Or.inl (tbg_in (List.mem_of_getElem? (i := 373) (by decide +kernel)) (by decide +kernel)), tbg_in (List.mem_of_getElem? (i := 355) (by decide +kernel)) (by decide +kernel), inX5, cdX5_kindOf, ⟨by decide, by decide, by decide +kernel⟩, by decide⟩
theorem mlX5_223 : VLK RX5 223 mX4_has 1 := ⟨tbg_in (List.mem_of_getElem? (i := 374) (by decide +kernel)) (by decide +kernel), tbg_in (List.mem_of_getElem? (i := 258) (by decide +kernel)) (by decide +kernel), tbg_in (List.mem_of_getElem? (i := 259) (by decide +kernel)) (by decide +kernel), inX4, cdX4_has, ⟨by decide, by decide, by decide +kernel⟩, by decide⟩
theorem mlX5_195 : VLK RX5 195 mX2_receive 0 := ⟨tbg_in (List.mem_of_getElem? (i := 375) (by decide +kernel)) (by decide +kernel), tbg_in (List.mem_of_getElem? (i := 376) (by decide +kernel)) (by decide +kernel), tbg_in (List.mem_of_getElem? (i := 377) (by decide +kernel)) (by decide +kernel), inX2, cdX2_receive, ⟨by decide, by decide, by decide +kernel⟩, by decide⟩
theorem mlX2_104 : VLK RX2 104 mX1_take 1 := ⟨tbg_in (List.mem_of_getElem? (i := 379) (by decide +kernel)) (by decide +kernel), tbg_in (List.mem_of_getElem? (i := 380) (by decide +kernel)) (by decide +kernel), tbg_in (List.mem_of_getElem? (i := 381) (by decide +kernel)) (by decide +kernel), inX1, cdX1_take, ⟨by decide, by decide, by decide +kernel⟩, by decide⟩
theorem mlX1_50 : VLK RX1 50 mX4_isIn 1 := ⟨tbg_in (List.mem_of_getElem? (i := 383) (by decide +kernel)) (by decide +kernel), tbg_in (List.mem_of_getElem? (i := 365) (by decide +kernel)) (by decide +kernel), tbg_in (List.mem_of_getElem? (i := 366) (by decide +kernel)) (by decide +kernel), inX4, cdX4_isIn, ⟨by decide, by decide, by decide +kernel⟩, by decide⟩
theorem mlX2_119 : VLK RX2 119 mX4_change 3 := ⟨tbg_in (List.mem_of_getElem? (i := 384) (by decide +kernel)) (by decide +kernel), tbg_in (List.mem_of_getElem? (i := 250) (by decide +kernel)) (by decide +kernel), tbg_in (List.mem_of_getElem? (i := 251) (by decide +kernel)) (by decide +kernel), inX4, cdX4_change, ⟨by decide, by decide, by decide +kernel⟩, by decide⟩
theorem mlX5_198 : VLK RX5 198 mX2_createFile 1 := ⟨tbg_in (List.mem_of_getElem? (i := 385) (by decide +kernel)) (by decide +kernel), tbg_in (List.mem_of_getElem? (i := 386) (by decide +kernel)) (by decide +kernel), tbg_in (List.mem_of_getElem? (i := 387) (by decide +kernel)) (by decide +kernel), inX2, cdX2_createFile, ⟨by decide, by decide, by decide +kernel⟩, by decide⟩
theorem mlX2_123 : VLK RX2 123 mX4_isIn 1 := ⟨tbg_in (List.mem_of_getElem? (i := 389) (by decide +kernel)) (by decide +kernel), tbg_in (List.mem_of_getElem? (i := 365) (by decide +kernel)) (by decide +kernel), tbg_in (List.mem_of_getElem? (i := 366) (by decide +kernel)) (by decide +kernel), inX4, cdX4_isIn, ⟨by decide, by decide, by decide +kernel⟩, by decide⟩
theorem mlX5_201 : VLK RX5 201 mX5_read 3 := ⟨tbg_in (List.mem_of_getElem? (i := 390) (by decide +kernel)) (by decide +kernel), tbg_in (List.mem_of_getElem? (i := 392) (by decide +kernel)) (by decide +kernel), tbg_in (List.mem_of_getElem? (i := 8) (by decide +kernel)) (by decide +kernel), inX5, cdX5_read, ⟨by decide, by decide, by decide +kernel⟩, by decide⟩
theorem mlX5_205 : VLK RX5 205 mX5_write 4 := ⟨tbg_in (List.mem_of_getElem? (i := 394) (by decide +kernel)) (by decide +kernel), tbg_in (List.mem_of_getElem? (i := 396) (by decide +kernel)) (by decide +kernel), tbg_in (List.mem_of_getElem? (i := 9) (by decide +kernel)) (by decide +kernel), inX5, cdX5_write, ⟨by decide, by decide, by decide +kernel⟩, by decide⟩
theorem mlX5_208 : VLK RX5 208 mX5_spawn 4 := ⟨tbg_in (List.mem_of_getElem? (i := 398) (by decide +kernel)) (by decide +kernel), tbg_in (List.mem_of_getElem? (i := 400) (by decide +kernel)) (by decide +kernel), tbg_in (List.mem_of_getElem? (i := 10) (by decide +kernel)) (by decide +kernel), inX5, cdX5_spawn, ⟨by decide, by decide, by decide +kernel⟩, by decide⟩
theorem mlX5_229 : VLK RX5 229 mX4_copy 1 := ⟨tbg_in (List.mem_of_getElem? (i := 402) (by decide +kernel)) (by decide +kernel), tbg_in (List.mem_of_getElem? (i := 302) (by decide +kernel)) (by decide +kernel), tbg_in (List.mem_of_getElem? (i := 303) (by decide +kernel)) (by decide +kernel), inX4, cdX4_copy, ⟨by decide, by decide, by decide +kernel⟩, by decide⟩
theorem mlX5_211 : VLK RX5 211 mX2_addOutput 1 := ⟨tbg_in (List.mem_of_getElem? (i := 403) (by decide +kernel)) (by decide +kernel), tbg_in (List.mem_of_getElem? (i := 404) (by decide +kernel)) (by decide +kernel), tbg_in (List.mem_of_getElem? (i := 405) (by decide +kernel)) (by decide +kernel), inX2, cdX2_addOutput, ⟨by decide, by decide, by decide +kernel⟩, by decide⟩
theorem mlX5_158 : SLK RX5 158 mX5_wantsCell 1 := ⟨Or.inl (tbg_in (List.mem_of_getElem? (i := 407) (by decide +kernel)) (by decide +kernel)), tbg_in (List.mem_of_getElem? (i := 408) (by decide +kernel)) (by decide +kernel), inX5, cdX5_wantsCell, ⟨by decide, by decide, by decide +kernel⟩, by decide⟩
theorem mlX5_161 : SLK RX5 161 mX5_plainInstruction 3 := ⟨Or.inl (tbg_in (List.mem_of_getElem? (i := 410) (by decide +kernel)) (by decide +kernel)), tbg_in (List.mem_of_getElem? (i := 411) (by decide +kernel)) (by decide +kernel), inX5, cdX5_plainInstruction, ⟨by decide, by decide, by decide +kernel⟩, by decide⟩
theorem mlX5_165 : SLK RX5 165 mX5_cellInstruction 3 := ⟨Or.inl (tbg_in (List.mem_of_getElem? (i := 413) (by decide +kernel)) (by decide +kernel)), tbg_in (List.mem_of_getElem? (i := 414) (by decide +kernel)) (by decide +kernel), inX5, cdX5_cellInstruction, ⟨by decide, by decide, by decide +kernel⟩, by decide⟩
theorem mlX5_168 : SLK RX5 168 mX5_indirectInstruction 3 := ⟨Or.inl (tbg_in (List.mem_of_getElem? (i := 416) (by decide +kernel)) (by decide +kernel)), tbg_in (List.mem_of_getElem? (i := 417) (by decide +kernel)) (by decide +kernel), inX5, cdX5_indirectInstruction, ⟨by decide, by decide, by decide +kernel⟩, by decide⟩
theorem mlX5_171 : SLK RX5 171 mX5_divideInstruction 3 := ⟨Or.inl (tbg_in (List.mem_of_getElem? (i := 419) (by decide +kernel)) (by decide +kernel)), tbg_in (List.mem_of_getElem? (i := 420) (by decide +kernel)) (by decide +kernel), inX5, cdX5_divideInstruction, ⟨by decide, by decide, by decide +kernel⟩, by decide⟩
theorem mlL_55 : VLK RL 55 mX5_cell 2 := ⟨tbg_in (List.mem_of_getElem? (i := 422) (by decide +kernel)) (by decide +kernel), tbg_in (List.mem_of_getElem? (i := 423) (by decide +kernel)) (by decide +kernel), tbg_in (List.mem_of_getElem? (i := 424) (by decide +kernel)) (by decide +kernel), inX5, cdX5_cell, ⟨by decide, by decide, by decide +kernel⟩, by decide⟩
theorem mlL_59 : VLK RL 59 mX5_slot 2 := ⟨tbg_in (List.mem_of_getElem? (i := 426) (by decide +kernel)) (by decide +kernel), tbg_in (List.mem_of_getElem? (i := 427) (by decide +kernel)) (by decide +kernel), tbg_in (List.mem_of_getElem? (i := 428) (by decide +kernel)) (by decide +kernel), inX5, cdX5_slot, ⟨by decide, by decide, by decide +kernel⟩, by decide⟩
theorem mlX5_120 : VLK RX5 120 mX2_countFiles 0 := ⟨tbg_in (List.mem_of_getElem? (i := 430) (by decide +kernel)) (by decide +kernel), tbg_in (List.mem_of_getElem? (i := 431) (by decide +kernel)) (by decide +kernel), tbg_in (List.mem_of_getElem? (i := 432) (by decide +kernel)) (by decide +kernel), inX2, cdX2_countFiles, ⟨by decide, by decide, by decide +kernel⟩, by decide⟩
theorem mlL_63 : VLK RL 63 mX5_label 2 := ⟨tbg_in (List.mem_of_getElem? (i := 434) (by decide +kernel)) (by decide +kernel), tbg_in (List.mem_of_getElem? (i := 435) (by decide +kernel)) (by decide +kernel), tbg_in (List.mem_of_getElem? (i := 436) (by decide +kernel)) (by decide +kernel), inX5, cdX5_label, ⟨by decide, by decide, by decide +kernel⟩, by decide⟩
theorem mlX5_127 : VLK RX5 127 mX4_tagAt 1 := ⟨tbg_in (List.mem_of_getElem? (i := 438) (by decide +kernel)) (by decide +kernel), tbg_in (List.mem_of_getElem? (i := 439) (by decide +kernel)) (by decide +kernel), tbg_in (List.mem_of_getElem? (i := 440) (by decide +kernel)) (by decide +kernel), inX4, cdX4_tagAt, ⟨by decide, by decide, by decide +kernel⟩, by decide⟩
theorem mlL_67 : VLK RL 67 mX5_output 2 := ⟨tbg_in (List.mem_of_getElem? (i := 442) (by decide +kernel)) (by decide +kernel), tbg_in (List.mem_of_getElem? (i := 443) (by decide +kernel)) (by decide +kernel), tbg_in (List.mem_of_getElem? (i := 444) (by decide +kernel)) (by decide +kernel), inX5, cdX5_output, ⟨by decide, by decide, by decide +kernel⟩, by decide⟩
theorem mlX5_131 : VLK RX5 131 mX5_isOutput 2 := ⟨tbg_in (List.mem_of_getElem? (i := 446) (by decide +kernel)) (by decide +kernel), tbg_in (List.mem_of_getElem? (i := 448) (by decide +kernel)) (by decide +kernel), tbg_in (List.mem_of_getElem? (i := 11) (by decide +kernel)) (by decide +kernel), inX5, cdX5_isOutput, ⟨by decide, by decide, by decide +kernel⟩, by decide⟩
theorem mlL_71 : VLK RL 71 mX5_outputTags 2 := ⟨tbg_in (List.mem_of_getElem? (i := 450) (by decide +kernel)) (by decide +kernel), tbg_in (List.mem_of_getElem? (i := 451) (by decide +kernel)) (by decide +kernel), tbg_in (List.mem_of_getElem? (i := 452) (by decide +kernel)) (by decide +kernel), inX5, cdX5_outputTags, ⟨by decide, by decide, by decide +kernel⟩, by decide⟩
theorem mlL_75 : VLK RL 75 mX5_content 2 := ⟨tbg_in (List.mem_of_getElem? (i := 454) (by decide +kernel)) (by decide +kernel), tbg_in (List.mem_of_getElem? (i := 455) (by decide +kernel)) (by decide +kernel), tbg_in (List.mem_of_getElem? (i := 456) (by decide +kernel)) (by decide +kernel), inX5, cdX5_content, ⟨by decide, by decide, by decide +kernel⟩, by decide⟩
theorem mlL_79 : VLK RL 79 mX5_fileTags 1 := ⟨tbg_in (List.mem_of_getElem? (i := 458) (by decide +kernel)) (by decide +kernel), tbg_in (List.mem_of_getElem? (i := 459) (by decide +kernel)) (by decide +kernel), tbg_in (List.mem_of_getElem? (i := 460) (by decide +kernel)) (by decide +kernel), inX5, cdX5_fileTags, ⟨by decide, by decide, by decide +kernel⟩, by decide⟩
theorem mlL_83 : VLK RL 83 mX5_mayFlow 2 := ⟨tbg_in (List.mem_of_getElem? (i := 462) (by decide +kernel)) (by decide +kernel), tbg_in (List.mem_of_getElem? (i := 463) (by decide +kernel)) (by decide +kernel), tbg_in (List.mem_of_getElem? (i := 464) (by decide +kernel)) (by decide +kernel), inX5, cdX5_mayFlow, ⟨by decide, by decide, by decide +kernel⟩, by decide⟩
theorem mlL_17 : VLK RL 17 mX6_poke 5 := ⟨tbg_in (List.mem_of_getElem? (i := 529) (by decide +kernel)) (by decide +kernel), tbg_in (List.mem_of_getElem? (i := 530) (by decide +kernel)) (by decide +kernel), tbg_in (List.mem_of_getElem? (i := 531) (by decide +kernel)) (by decide +kernel), inX6, cdX6_poke, ⟨by decide, by decide, by decide +kernel⟩, by decide⟩
theorem mlX6_75 : SLK RX6 75 mX6_isSlot 1 := ⟨Or.inl (tbg_in (List.mem_of_getElem? (i := 533) (by decide +kernel)) (by decide +kernel)), tbg_in (List.mem_of_getElem? (i := 534) (by decide +kernel)) (by decide +kernel), inX6, cdX6_isSlot, ⟨by decide, by decide, by decide +kernel⟩, by decide⟩
theorem mlX6_63 : SLK RX6 63 mX6_isIn 3 := ⟨Or.inl (tbg_in (List.mem_of_getElem? (i := 536) (by decide +kernel)) (by decide +kernel)), tbg_in (List.mem_of_getElem? (i := 537) (by decide +kernel)) (by decide +kernel), inX6, cdX6_isIn, ⟨by decide, by decide, by decide +kernel⟩, by decide⟩
theorem mlL_22 : VLK RL 22 mX6_start 1 := ⟨tbg_in (List.mem_of_getElem? (i := 539) (by decide +kernel)) (by decide +kernel), tbg_in (List.mem_of_getElem? (i := 540) (by decide +kernel)) (by decide +kernel), tbg_in (List.mem_of_getElem? (i := 541) (by decide +kernel)) (by decide +kernel), inX6, cdX6_start, ⟨by decide, by decide, by decide +kernel⟩, by decide⟩
theorem mlL_27 : VLK RL 27 mX6_counter 2 := ⟨tbg_in (List.mem_of_getElem? (i := 543) (by decide +kernel)) (by decide +kernel), tbg_in (List.mem_of_getElem? (i := 544) (by decide +kernel)) (by decide +kernel), tbg_in (List.mem_of_getElem? (i := 545) (by decide +kernel)) (by decide +kernel), inX6, cdX6_counter, ⟨by decide, by decide, by decide +kernel⟩, by decide⟩
theorem mlL_32 : VLK RL 32 mX6_tag 3 := ⟨tbg_in (List.mem_of_getElem? (i := 547) (by decide +kernel)) (by decide +kernel), tbg_in (List.mem_of_getElem? (i := 548) (by decide +kernel)) (by decide +kernel), tbg_in (List.mem_of_getElem? (i := 549) (by decide +kernel)) (by decide +kernel), inX6, cdX6_tag, ⟨by decide, by decide, by decide +kernel⟩, by decide⟩
theorem mlX6_147 : VLK RX6 147 mX6_isThere 1 := ⟨tbg_in (List.mem_of_getElem? (i := 551) (by decide +kernel)) (by decide +kernel), tbg_in (List.mem_of_getElem? (i := 553) (by decide +kernel)) (by decide +kernel), tbg_in (List.mem_of_getElem? (i := 12) (by decide +kernel)) (by decide +kernel), inX6, cdX6_isThere, ⟨by decide, by decide, by decide +kernel⟩, by decide⟩
theorem mlX6_150 : VLK RX6 150 mX6_setTag 3 := ⟨tbg_in (List.mem_of_getElem? (i := 555) (by decide +kernel)) (by decide +kernel), tbg_in (List.mem_of_getElem? (i := 557) (by decide +kernel)) (by decide +kernel), tbg_in (List.mem_of_getElem? (i := 13) (by decide +kernel)) (by decide +kernel), inX6, cdX6_setTag, ⟨by decide, by decide, by decide +kernel⟩, by decide⟩
theorem mlX6_136 : VLK RX6 136 mX6_many 1 := ⟨tbg_in (List.mem_of_getElem? (i := 559) (by decide +kernel)) (by decide +kernel), tbg_in (List.mem_of_getElem? (i := 561) (by decide +kernel)) (by decide +kernel), tbg_in (List.mem_of_getElem? (i := 14) (by decide +kernel)) (by decide +kernel), inX6, cdX6_many, ⟨by decide, by decide, by decide +kernel⟩, by decide⟩
theorem mlL_37 : VLK RL 37 mX6_capability 4 := ⟨tbg_in (List.mem_of_getElem? (i := 563) (by decide +kernel)) (by decide +kernel), tbg_in (List.mem_of_getElem? (i := 564) (by decide +kernel)) (by decide +kernel), tbg_in (List.mem_of_getElem? (i := 565) (by decide +kernel)) (by decide +kernel), inX6, cdX6_capability, ⟨by decide, by decide, by decide +kernel⟩, by decide⟩
theorem mlX6_67 : VLK RX6 67 mX6_at 3 := ⟨tbg_in (List.mem_of_getElem? (i := 567) (by decide +kernel)) (by decide +kernel), tbg_in (List.mem_of_getElem? (i := 569) (by decide +kernel)) (by decide +kernel), tbg_in (List.mem_of_getElem? (i := 15) (by decide +kernel)) (by decide +kernel), inX6, cdX6_at, ⟨by decide, by decide, by decide +kernel⟩, by decide⟩
theorem mlX6_139 : VLK RX6 139 mX6_capabilities 2 := ⟨tbg_in (List.mem_of_getElem? (i := 571) (by decide +kernel)) (by decide +kernel), tbg_in (List.mem_of_getElem? (i := 573) (by decide +kernel)) (by decide +kernel), tbg_in (List.mem_of_getElem? (i := 16) (by decide +kernel)) (by decide +kernel), inX6, cdX6_capabilities, ⟨by decide, by decide, by decide +kernel⟩, by decide⟩
theorem mlL_41 : VLK RL 41 mX6_file 2 := ⟨tbg_in (List.mem_of_getElem? (i := 575) (by decide +kernel)) (by decide +kernel), tbg_in (List.mem_of_getElem? (i := 576) (by decide +kernel)) (by decide +kernel), tbg_in (List.mem_of_getElem? (i := 577) (by decide +kernel)) (by decide +kernel), inX6, cdX6_file, ⟨by decide, by decide, by decide +kernel⟩, by decide⟩
theorem mlL_46 : VLK RL 46 mX6_fill 3 := ⟨tbg_in (List.mem_of_getElem? (i := 579) (by decide +kernel)) (by decide +kernel), tbg_in (List.mem_of_getElem? (i := 580) (by decide +kernel)) (by decide +kernel), tbg_in (List.mem_of_getElem? (i := 581) (by decide +kernel)) (by decide +kernel), inX6, cdX6_fill, ⟨by decide, by decide, by decide +kernel⟩, by decide⟩
theorem mlX6_154 : VLK RX6 154 mX6_isContent 2 := ⟨tbg_in (List.mem_of_getElem? (i := 583) (by decide +kernel)) (by decide +kernel), tbg_in (List.mem_of_getElem? (i := 585) (by decide +kernel)) (by decide +kernel), tbg_in (List.mem_of_getElem? (i := 17) (by decide +kernel)) (by decide +kernel), inX6, cdX6_isContent, ⟨by decide, by decide, by decide +kernel⟩, by decide⟩
theorem mlL_50 : VLK RL 50 mX6_post 3 := ⟨tbg_in (List.mem_of_getElem? (i := 587) (by decide +kernel)) (by decide +kernel), tbg_in (List.mem_of_getElem? (i := 588) (by decide +kernel)) (by decide +kernel), tbg_in (List.mem_of_getElem? (i := 589) (by decide +kernel)) (by decide +kernel), inX6, cdX6_post, ⟨by decide, by decide, by decide +kernel⟩, by decide⟩
theorem mlX6_83 : VLK RX6 83 mX6_comes 4 := ⟨tbg_in (List.mem_of_getElem? (i := 591) (by decide +kernel)) (by decide +kernel), tbg_in (List.mem_of_getElem? (i := 593) (by decide +kernel)) (by decide +kernel), tbg_in (List.mem_of_getElem? (i := 18) (by decide +kernel)) (by decide +kernel), inX6, cdX6_comes, ⟨by decide, by decide, by decide +kernel⟩, by decide⟩
theorem mlX6_71 : VLK RX6 71 mX6_copyLabel 2 := ⟨tbg_in (List.mem_of_getElem? (i := 595) (by decide +kernel)) (by decide +kernel), tbg_in (List.mem_of_getElem? (i := 597) (by decide +kernel)) (by decide +kernel), tbg_in (List.mem_of_getElem? (i := 19) (by decide +kernel)) (by decide +kernel), inX6, cdX6_copyLabel, ⟨by decide, by decide, by decide +kernel⟩, by decide⟩
theorem mlL_54 : VLK RL 54 mX6_run 1 := ⟨tbg_in (List.mem_of_getElem? (i := 599) (by decide +kernel)) (by decide +kernel), tbg_in (List.mem_of_getElem? (i := 600) (by decide +kernel)) (by decide +kernel), tbg_in (List.mem_of_getElem? (i := 601) (by decide +kernel)) (by decide +kernel), inX6, cdX6_run, ⟨by decide, by decide, by decide +kernel⟩, by decide⟩
theorem mlX6_161 : VLK RX6 161 mX6_turn 1 := ⟨tbg_in (List.mem_of_getElem? (i := 603) (by decide +kernel)) (by decide +kernel), tbg_in (List.mem_of_getElem? (i := 605) (by decide +kernel)) (by decide +kernel), tbg_in (List.mem_of_getElem? (i := 20) (by decide +kernel)) (by decide +kernel), inX6, cdX6_turn, ⟨by decide, by decide, by decide +kernel⟩, by decide⟩
theorem mlX6_87 : SLK RX6 87 mX6_isCell 1 := ⟨Or.inl (tbg_in (List.mem_of_getElem? (i := 607) (by decide +kernel)) (by decide +kernel)), tbg_in (List.mem_of_getElem? (i := 608) (by decide +kernel)) (by decide +kernel), inX6, cdX6_isCell, ⟨by decide, by decide, by decide +kernel⟩, by decide⟩
theorem mlX6_90 : VLK RX6 90 mX6_traps 2 := ⟨tbg_in (List.mem_of_getElem? (i := 610) (by decide +kernel)) (by decide +kernel), tbg_in (List.mem_of_getElem? (i := 612) (by decide +kernel)) (by decide +kernel), tbg_in (List.mem_of_getElem? (i := 21) (by decide +kernel)) (by decide +kernel), inX6, cdX6_traps, ⟨by decide, by decide, by decide +kernel⟩, by decide⟩
theorem mlX6_93 : VLK RX6 93 mX6_call 2 := ⟨tbg_in (List.mem_of_getElem? (i := 614) (by decide +kernel)) (by decide +kernel), tbg_in (List.mem_of_getElem? (i := 616) (by decide +kernel)) (by decide +kernel), tbg_in (List.mem_of_getElem? (i := 22) (by decide +kernel)) (by decide +kernel), inX6, cdX6_call, ⟨by decide, by decide, by decide +kernel⟩, by decide⟩
theorem mlX6_101 : VLK RX6 101 mX6_newTag 1 := ⟨tbg_in (List.mem_of_getElem? (i := 618) (by decide +kernel)) (by decide +kernel), tbg_in (List.mem_of_getElem? (i := 620) (by decide +kernel)) (by decide +kernel), tbg_in (List.mem_of_getElem? (i := 23) (by decide +kernel)) (by decide +kernel), inX6, cdX6_newTag, ⟨by decide, by decide, by decide +kernel⟩, by decide⟩
theorem mlX6_105 : VLK RX6 105 mX6_lists 2 := ⟨tbg_in (List.mem_of_getElem? (i := 622) (by decide +kernel)) (by decide +kernel), tbg_in (List.mem_of_getElem? (i := 624) (by decide +kernel)) (by decide +kernel), tbg_in (List.mem_of_getElem? (i := 24) (by decide +kernel)) (by decide +kernel), inX6, cdX6_lists, ⟨by decide, by decide, by decide +kernel⟩, by decide⟩
theorem mlX6_108 : VLK RX6 108 mX6_changes 1 := ⟨tbg_in (List.mem_of_getElem? (i := 627) (by decide +kernel)) (by decide +kernel), tbg_in (List.mem_of_getElem? (i := 629) (by decide +kernel)) (by decide +kernel), tbg_in (List.mem_of_getElem? (i := 25) (by decide +kernel)) (by decide +kernel), inX6, cdX6_changes, ⟨by decide, by decide, by decide +kernel⟩, by decide⟩
theorem mlX6_111 : VLK RX6 111 mX6_drops 3 := ⟨tbg_in (List.mem_of_getElem? (i := 631) (by decide +kernel)) (by decide +kernel), tbg_in (List.mem_of_getElem? (i := 633) (by decide +kernel)) (by decide +kernel), tbg_in (List.mem_of_getElem? (i := 26) (by decide +kernel)) (by decide +kernel), inX6, cdX6_drops, ⟨by decide, by decide, by decide +kernel⟩, by decide⟩
theorem mlX6_114 : VLK RX6 114 mX6_sends 4 := ⟨tbg_in (List.mem_of_getElem? (i := 635) (by decide +kernel)) (by decide +kernel), tbg_in (List.mem_of_getElem? (i := 637) (by decide +kernel)) (by decide +kernel), tbg_in (List.mem_of_getElem? (i := 27) (by decide +kernel)) (by decide +kernel), inX6, cdX6_sends, ⟨by decide, by decide, by decide +kernel⟩, by decide⟩
theorem mlX6_79 : VLK RX6 79 mX6_isInLabel 2 := ⟨tbg_in (List.mem_of_getElem? (i := 639) (by decide +kernel)) (by decide +kernel), tbg_in (List.mem_of_getElem? (i := 641) (by decide +kernel)) (by decide +kernel), tbg_in (List.mem_of_getElem? (i := 28) (by decide +kernel)) (by decide +kernel), inX6, cdX6_isInLabel, ⟨by decide, by decide, by decide +kernel⟩, by decide⟩
theorem mlX6_117 : VLK RX6 117 mX6_passes 4 := ⟨tbg_in (List.mem_of_getElem? (i := 643) (by decide +kernel)) (by decide +kernel), tbg_in (List.mem_of_getElem? (i := 645) (by decide +kernel)) (by decide +kernel), tbg_in (List.mem_of_getElem? (i := 29) (by decide +kernel)) (by decide +kernel), inX6, cdX6_passes, ⟨by decide, by decide, by decide +kernel⟩, by decide⟩
theorem mlX6_121 : VLK RX6 121 mX6_receives 1 := ⟨tbg_in (List.mem_of_getElem? (i := 647) (by decide +kernel)) (by decide +kernel), tbg_in (List.mem_of_getElem? (i := 649) (by decide +kernel)) (by decide +kernel), tbg_in (List.mem_of_getElem? (i := 30) (by decide +kernel)) (by decide +kernel), inX6, cdX6_receives, ⟨by decide, by decide, by decide +kernel⟩, by decide⟩
theorem mlX6_143 : VLK RX6 143 mX6_dropFirst 1 := ⟨tbg_in (List.mem_of_getElem? (i := 651) (by decide +kernel)) (by decide +kernel), tbg_in (List.mem_of_getElem? (i := 653) (by decide +kernel)) (by decide +kernel), tbg_in (List.mem_of_getElem? (i := 31) (by decide +kernel)) (by decide +kernel), inX6, cdX6_dropFirst, ⟨by decide, by decide, by decide +kernel⟩, by decide⟩
theorem mlX6_124 : VLK RX6 124 mX6_creates 1 := ⟨tbg_in (List.mem_of_getElem? (i := 655) (by decide +kernel)) (by decide +kernel), tbg_in (List.mem_of_getElem? (i := 657) (by decide +kernel)) (by decide +kernel), tbg_in (List.mem_of_getElem? (i := 32) (by decide +kernel)) (by decide +kernel), inX6, cdX6_creates, ⟨by decide, by decide, by decide +kernel⟩, by decide⟩
theorem mlX6_127 : VLK RX6 127 mX6_reads 3 := ⟨tbg_in (List.mem_of_getElem? (i := 659) (by decide +kernel)) (by decide +kernel), tbg_in (List.mem_of_getElem? (i := 661) (by decide +kernel)) (by decide +kernel), tbg_in (List.mem_of_getElem? (i := 33) (by decide +kernel)) (by decide +kernel), inX6, cdX6_reads, ⟨by decide, by decide, by decide +kernel⟩, by decide⟩
theorem mlX6_130 : VLK RX6 130 mX6_spawns 4 := ⟨tbg_in (List.mem_of_getElem? (i := 663) (by decide +kernel)) (by decide +kernel), tbg_in (List.mem_of_getElem? (i := 665) (by decide +kernel)) (by decide +kernel), tbg_in (List.mem_of_getElem? (i := 34) (by decide +kernel)) (by decide +kernel), inX6, cdX6_spawns, ⟨by decide, by decide, by decide +kernel⟩, by decide⟩
theorem mlX6_133 : VLK RX6 133 mX6_puts 2 := ⟨tbg_in (List.mem_of_getElem? (i := 667) (by decide +kernel)) (by decide +kernel), tbg_in (List.mem_of_getElem? (i := 669) (by decide +kernel)) (by decide +kernel), tbg_in (List.mem_of_getElem? (i := 35) (by decide +kernel)) (by decide +kernel), inX6, cdX6_puts, ⟨by decide, by decide, by decide +kernel⟩, by decide⟩
theorem mlX6_96 : VLK RX6 96 mX6_works 3 := ⟨tbg_in (List.mem_of_getElem? (i := 671) (by decide +kernel)) (by decide +kernel), tbg_in (List.mem_of_getElem? (i := 673) (by decide +kernel)) (by decide +kernel), tbg_in (List.mem_of_getElem? (i := 36) (by decide +kernel)) (by decide +kernel), inX6, cdX6_works, ⟨by decide, by decide, by decide +kernel⟩, by decide⟩
theorem mlL_58 : VLK RL 58 mX6_cell 2 := ⟨tbg_in (List.mem_of_getElem? (i := 675) (by decide +kernel)) (by decide +kernel), tbg_in (List.mem_of_getElem? (i := 676) (by decide +kernel)) (by decide +kernel), tbg_in (List.mem_of_getElem? (i := 677) (by decide +kernel)) (by decide +kernel), inX6, cdX6_cell, ⟨by decide, by decide, by decide +kernel⟩, by decide⟩
theorem mlL_62 : VLK RL 62 mX6_slot 2 := ⟨tbg_in (List.mem_of_getElem? (i := 679) (by decide +kernel)) (by decide +kernel), tbg_in (List.mem_of_getElem? (i := 680) (by decide +kernel)) (by decide +kernel), tbg_in (List.mem_of_getElem? (i := 681) (by decide +kernel)) (by decide +kernel), inX6, cdX6_slot, ⟨by decide, by decide, by decide +kernel⟩, by decide⟩
theorem mlL_66 : VLK RL 66 mX6_label 2 := ⟨tbg_in (List.mem_of_getElem? (i := 683) (by decide +kernel)) (by decide +kernel), tbg_in (List.mem_of_getElem? (i := 684) (by decide +kernel)) (by decide +kernel), tbg_in (List.mem_of_getElem? (i := 685) (by decide +kernel)) (by decide +kernel), inX6, cdX6_label, ⟨by decide, by decide, by decide +kernel⟩, by decide⟩
theorem mlL_70 : VLK RL 70 mX6_output 2 := ⟨tbg_in (List.mem_of_getElem? (i := 687) (by decide +kernel)) (by decide +kernel), tbg_in (List.mem_of_getElem? (i := 688) (by decide +kernel)) (by decide +kernel), tbg_in (List.mem_of_getElem? (i := 689) (by decide +kernel)) (by decide +kernel), inX6, cdX6_output, ⟨by decide, by decide, by decide +kernel⟩, by decide⟩
theorem mlX6_164 : VLK RX6 164 mX6_isOutput 2 := ⟨tbg_in (List.mem_of_getElem? (i := 691) (by decide +kernel)) (by decide +kernel), tbg_in (List.mem_of_getElem? (i := 693) (by decide +kernel)) (by decide +kernel), tbg_in (List.mem_of_getElem? (i := 37) (by decide +kernel)) (by decide +kernel), inX6, cdX6_isOutput, ⟨by decide, by decide, by decide +kernel⟩, by decide⟩
theorem mlL_74 : VLK RL 74 mX6_outputTags 2 := ⟨tbg_in (List.mem_of_getElem? (i := 695) (by decide +kernel)) (by decide +kernel), tbg_in (List.mem_of_getElem? (i := 696) (by decide +kernel)) (by decide +kernel), tbg_in (List.mem_of_getElem? (i := 697) (by decide +kernel)) (by decide +kernel), inX6, cdX6_outputTags, ⟨by decide, by decide, by decide +kernel⟩, by decide⟩
theorem mlL_78 : VLK RL 78 mX6_content 2 := ⟨tbg_in (List.mem_of_getElem? (i := 699) (by decide +kernel)) (by decide +kernel), tbg_in (List.mem_of_getElem? (i := 700) (by decide +kernel)) (by decide +kernel), tbg_in (List.mem_of_getElem? (i := 701) (by decide +kernel)) (by decide +kernel), inX6, cdX6_content, ⟨by decide, by decide, by decide +kernel⟩, by decide⟩
theorem mlL_82 : VLK RL 82 mX6_fileTags 1 := ⟨tbg_in (List.mem_of_getElem? (i := 703) (by decide +kernel)) (by decide +kernel), tbg_in (List.mem_of_getElem? (i := 704) (by decide +kernel)) (by decide +kernel), tbg_in (List.mem_of_getElem? (i := 705) (by decide +kernel)) (by decide +kernel), inX6, cdX6_fileTags, ⟨by decide, by decide, by decide +kernel⟩, by decide⟩
theorem mlL_87 : VLK RL 87 mX6_mayFlow 2 := ⟨tbg_in (List.mem_of_getElem? (i := 707) (by decide +kernel)) (by decide +kernel), tbg_in (List.mem_of_getElem? (i := 708) (by decide +kernel)) (by decide +kernel), tbg_in (List.mem_of_getElem? (i := 709) (by decide +kernel)) (by decide +kernel), inX6, cdX6_mayFlow, ⟨by decide, by decide, by decide +kernel⟩, by decide⟩
theorem lcX6_28 : Cond.constant RX6 28 35072 ∈ tbg := tbg_in (List.mem_of_getElem? (i := 472) (by decide +kernel)) (by decide +kernel)
theorem lcX6_100 : Cond.constant RX6 100 34816 ∈ tbg := tbg_in (List.mem_of_getElem? (i := 626) (by decide +kernel)) (by decide +kernel)
end
section
/-! contracts that tell answer and state -/
def CF (K : EK) (cm : MT) (d : Nat) (av : List AV) (D : DT) (r : Option AV) (D' : DT) : Prop := CT K cm d av D (fun r0 D0 => r0 = r ∧ D0 = D')
section CFR
variable {K : EK} {mt : MT} {d pc : Nat} {ls : List (Option AV)} {st : List AV} {D D' : DT} {Q : Option AV → DT → Prop} {a : AD} {cm : MT}
theorem CF.of {av : List AV} {r : Option AV} (ls : List (Option AV)) (hy : plainName mt.1.cls = true) (hl : av.length ≤ mt.2.2.1) (he : av.map some ++ List.replicate (mt.2.2.1 - av.length) none = ls)
    (h : RD K mt d 0 ls [] D (fun r0 D0 => r0 = r ∧ D0 = D')) : CF K mt d av D r D' := CT.of hy hl (by rw [he]; exact h)
theorem CF.to {av : List AV} {r r2 : Option AV} {D2 : DT} (h : CF K mt d av D r D') (h1 : r = r2) (h2 : D' = D2) : CF K mt d av D r2 D2 := by subst h1; subst h2; exact h
theorem CT.to {av : List AV} (ls : List (Option AV)) (hy : plainName mt.1.cls = true) (hl : av.length ≤ mt.2.2.1) (he : av.map some ++ List.replicate (mt.2.2.1 - av.length) none = ls)
    (h : RD K mt d 0 ls [] D Q) : CT K mt d av D Q := CT.of hy hl (by rw [he]; exact h)
theorem RD.cV0 {idx ci : Nat} {fs : List (Option AV)} {T : u_T} {N : Nat} {v : AV} (hd : decode mt.2.1 pc = .ok (.invokevirtual idx, 3)) (hL : VLK mt.1.cls idx cm 0) (hci : cls7[ci]? = some (cm.1.cls, T, N)) (ha : okA a) (hs : sk a = .inl (ci, fs)) (hct : CF K cm d [rR a] D (some v) D') (hst : st.length ≤ 8)
    (kk : RD K mt (d + 1) (pc + 3) ls (v :: st) D' Q) : RD K mt (d + 1) pc ls (rR a :: st) D Q := RD.callV0 hd hL hci ha hs hct hst (fun r D2 h => by obtain ⟨h1, h2⟩ := h; subst h1; subst h2; exact kk)
theorem RD.cV0v {idx ci : Nat} {fs : List (Option AV)} {T : u_T} {N : Nat}  (hd : decode mt.2.1 pc = .ok (.invokevirtual idx, 3)) (hL : VLK mt.1.cls idx cm 0) (hci : cls7[ci]? = some (cm.1.cls, T, N)) (ha : okA a) (hs : sk a = .inl (ci, fs)) (hct : CF K cm d [rR a] D none D') (hst : st.length ≤ 8)
    (kk : RD K mt (d + 1) (pc + 3) ls st D' Q) : RD K mt (d + 1) pc ls (rR a :: st) D Q := RD.callV0 hd hL hci ha hs hct hst (fun r D2 h => by obtain ⟨h1, h2⟩ := h; subst h1; subst h2; exact kk)
theorem RD.cV1 {idx ci : Nat} {fs : List (Option AV)} {T : u_T} {N : Nat} {v : AV} {x1 : AV} (hd : decode mt.2.1 pc = .ok (.invokevirtual idx, 3)) (hL : VLK mt.1.cls idx cm 1) (hci : cls7[ci]? = some (cm.1.cls, T, N)) (ha : okA a) (hs : sk a = .inl (ci, fs)) (hct : CF K cm d [rR a, x1] D (some v) D') (hst : st.length ≤ 8)
    (kk : RD K mt (d + 1) (pc + 3) ls (v :: st) D' Q) : RD K mt (d + 1) pc ls (x1 :: rR a :: st) D Q := RD.callV1 hd hL hci ha hs hct hst (fun r D2 h => by obtain ⟨h1, h2⟩ := h; subst h1; subst h2; exact kk)
theorem RD.cV1v {idx ci : Nat} {fs : List (Option AV)} {T : u_T} {N : Nat}  {x1 : AV} (hd : decode mt.2.1 pc = .ok (.invokevirtual idx, 3)) (hL : VLK mt.1.cls idx cm 1) (hci : cls7[ci]? = some (cm.1.cls, T, N)) (ha : okA a) (hs : sk a = .inl (ci, fs)) (hct : CF K cm d [rR a, x1] D none D') (hst : st.length ≤ 8)
    (kk : RD K mt (d + 1) (pc + 3) ls st D' Q) : RD K mt (d + 1) pc ls (x1 :: rR a :: st) D Q := RD.callV1 hd hL hci ha hs hct hst (fun r D2 h => by obtain ⟨h1, h2⟩ := h; subst h1; subst h2; exact kk)
theorem RD.cV2 {idx ci : Nat} {fs : List (Option AV)} {T : u_T} {N : Nat} {v : AV} {x1 x2 : AV} (hd : decode mt.2.1 pc = .ok (.invokevirtual idx, 3)) (hL : VLK mt.1.cls idx cm 2) (hci : cls7[ci]? = some (cm.1.cls, T, N)) (ha : okA a) (hs : sk a = .inl (ci, fs)) (hct : CF K cm d [rR a, x1, x2] D (some v) D') (hst : st.length ≤ 8)
    (kk : RD K mt (d + 1) (pc + 3) ls (v :: st) D' Q) : RD K mt (d + 1) pc ls (x2 :: x1 :: rR a :: st) D Q := RD.callV2 hd hL hci ha hs hct hst (fun r D2 h => by obtain ⟨h1, h2⟩ := h; subst h1; subst h2; exact kk)
theorem RD.cV2v {idx ci : Nat} {fs : List (Option AV)} {T : u_T} {N : Nat}  {x1 x2 : AV} (hd : decode mt.2.1 pc = .ok (.invokevirtual idx, 3)) (hL : VLK mt.1.cls idx cm 2) (hci : cls7[ci]? = some (cm.1.cls, T, N)) (ha : okA a) (hs : sk a = .inl (ci, fs)) (hct : CF K cm d [rR a, x1, x2] D none D') (hst : st.length ≤ 8)
    (kk : RD K mt (d + 1) (pc + 3) ls st D' Q) : RD K mt (d + 1) pc ls (x2 :: x1 :: rR a :: st) D Q := RD.callV2 hd hL hci ha hs hct hst (fun r D2 h => by obtain ⟨h1, h2⟩ := h; subst h1; subst h2; exact kk)
theorem RD.cV3 {idx ci : Nat} {fs : List (Option AV)} {T : u_T} {N : Nat} {v : AV} {x1 x2 x3 : AV} (hd : decode mt.2.1 pc = .ok (.invokevirtual idx, 3)) (hL : VLK mt.1.cls idx cm 3) (hci : cls7[ci]? = some (cm.1.cls, T, N)) (ha : okA a) (hs : sk a = .inl (ci, fs)) (hct : CF K cm d [rR a, x1, x2, x3] D (some v) D') (hst : st.length ≤ 8)
    (kk : RD K mt (d + 1) (pc + 3) ls (v :: st) D' Q) : RD K mt (d + 1) pc ls (x3 :: x2 :: x1 :: rR a :: st) D Q := RD.callV3 hd hL hci ha hs hct hst (fun r D2 h => by obtain ⟨h1, h2⟩ := h; subst h1; subst h2; exact kk)
theorem RD.cV3v {idx ci : Nat} {fs : List (Option AV)} {T : u_T} {N : Nat}  {x1 x2 x3 : AV} (hd : decode mt.2.1 pc = .ok (.invokevirtual idx, 3)) (hL : VLK mt.1.cls idx cm 3) (hci : cls7[ci]? = some (cm.1.cls, T, N)) (ha : okA a) (hs : sk a = .inl (ci, fs)) (hct : CF K cm d [rR a, x1, x2, x3] D none D') (hst : st.length ≤ 8)
    (kk : RD K mt (d + 1) (pc + 3) ls st D' Q) : RD K mt (d + 1) pc ls (x3 :: x2 :: x1 :: rR a :: st) D Q := RD.callV3 hd hL hci ha hs hct hst (fun r D2 h => by obtain ⟨h1, h2⟩ := h; subst h1; subst h2; exact kk)
theorem RD.cV4 {idx ci : Nat} {fs : List (Option AV)} {T : u_T} {N : Nat} {v : AV} {x1 x2 x3 x4 : AV} (hd : decode mt.2.1 pc = .ok (.invokevirtual idx, 3)) (hL : VLK mt.1.cls idx cm 4) (hci : cls7[ci]? = some (cm.1.cls, T, N)) (ha : okA a) (hs : sk a = .inl (ci, fs)) (hct : CF K cm d [rR a, x1, x2, x3, x4] D (some v) D') (hst : st.length ≤ 8)
    (kk : RD K mt (d + 1) (pc + 3) ls (v :: st) D' Q) : RD K mt (d + 1) pc ls (x4 :: x3 :: x2 :: x1 :: rR a :: st) D Q := RD.callV4 hd hL hci ha hs hct hst (fun r D2 h => by obtain ⟨h1, h2⟩ := h; subst h1; subst h2; exact kk)
theorem RD.cV4v {idx ci : Nat} {fs : List (Option AV)} {T : u_T} {N : Nat}  {x1 x2 x3 x4 : AV} (hd : decode mt.2.1 pc = .ok (.invokevirtual idx, 3)) (hL : VLK mt.1.cls idx cm 4) (hci : cls7[ci]? = some (cm.1.cls, T, N)) (ha : okA a) (hs : sk a = .inl (ci, fs)) (hct : CF K cm d [rR a, x1, x2, x3, x4] D none D') (hst : st.length ≤ 8)
    (kk : RD K mt (d + 1) (pc + 3) ls st D' Q) : RD K mt (d + 1) pc ls (x4 :: x3 :: x2 :: x1 :: rR a :: st) D Q := RD.callV4 hd hL hci ha hs hct hst (fun r D2 h => by obtain ⟨h1, h2⟩ := h; subst h1; subst h2; exact kk)
theorem RD.cV5 {idx ci : Nat} {fs : List (Option AV)} {T : u_T} {N : Nat} {v : AV} {x1 x2 x3 x4 x5 : AV} (hd : decode mt.2.1 pc = .ok (.invokevirtual idx, 3)) (hL : VLK mt.1.cls idx cm 5) (hci : cls7[ci]? = some (cm.1.cls, T, N)) (ha : okA a) (hs : sk a = .inl (ci, fs)) (hct : CF K cm d [rR a, x1, x2, x3, x4, x5] D (some v) D') (hst : st.length ≤ 8)
    (kk : RD K mt (d + 1) (pc + 3) ls (v :: st) D' Q) : RD K mt (d + 1) pc ls (x5 :: x4 :: x3 :: x2 :: x1 :: rR a :: st) D Q := RD.callV5 hd hL hci ha hs hct hst (fun r D2 h => by obtain ⟨h1, h2⟩ := h; subst h1; subst h2; exact kk)
theorem RD.cV5v {idx ci : Nat} {fs : List (Option AV)} {T : u_T} {N : Nat}  {x1 x2 x3 x4 x5 : AV} (hd : decode mt.2.1 pc = .ok (.invokevirtual idx, 3)) (hL : VLK mt.1.cls idx cm 5) (hci : cls7[ci]? = some (cm.1.cls, T, N)) (ha : okA a) (hs : sk a = .inl (ci, fs)) (hct : CF K cm d [rR a, x1, x2, x3, x4, x5] D none D') (hst : st.length ≤ 8)
    (kk : RD K mt (d + 1) (pc + 3) ls st D' Q) : RD K mt (d + 1) pc ls (x5 :: x4 :: x3 :: x2 :: x1 :: rR a :: st) D Q := RD.callV5 hd hL hci ha hs hct hst (fun r D2 h => by obtain ⟨h1, h2⟩ := h; subst h1; subst h2; exact kk)
theorem RD.cS1 {idx : Nat} {v : AV} {x1 : AV} (hd : decode mt.2.1 pc = .ok (.invokestatic idx, 3)) (hL : SLK mt.1.cls idx cm 1) (hct : CF K cm d [x1] D (some v) D') (hst : st.length ≤ 8)
    (kk : RD K mt (d + 1) (pc + 3) ls (v :: st) D' Q) : RD K mt (d + 1) pc ls (x1 :: st) D Q := RD.callS1 hd hL hct hst (fun r D2 h => by obtain ⟨h1, h2⟩ := h; subst h1; subst h2; exact kk)
theorem RD.cS1v {idx : Nat}  {x1 : AV} (hd : decode mt.2.1 pc = .ok (.invokestatic idx, 3)) (hL : SLK mt.1.cls idx cm 1) (hct : CF K cm d [x1] D none D') (hst : st.length ≤ 8)
    (kk : RD K mt (d + 1) (pc + 3) ls st D' Q) : RD K mt (d + 1) pc ls (x1 :: st) D Q := RD.callS1 hd hL hct hst (fun r D2 h => by obtain ⟨h1, h2⟩ := h; subst h1; subst h2; exact kk)
theorem RD.cS2 {idx : Nat} {v : AV} {x1 x2 : AV} (hd : decode mt.2.1 pc = .ok (.invokestatic idx, 3)) (hL : SLK mt.1.cls idx cm 2) (hct : CF K cm d [x1, x2] D (some v) D') (hst : st.length ≤ 8)
    (kk : RD K mt (d + 1) (pc + 3) ls (v :: st) D' Q) : RD K mt (d + 1) pc ls (x2 :: x1 :: st) D Q := RD.callS2 hd hL hct hst (fun r D2 h => by obtain ⟨h1, h2⟩ := h; subst h1; subst h2; exact kk)
theorem RD.cS2v {idx : Nat}  {x1 x2 : AV} (hd : decode mt.2.1 pc = .ok (.invokestatic idx, 3)) (hL : SLK mt.1.cls idx cm 2) (hct : CF K cm d [x1, x2] D none D') (hst : st.length ≤ 8)
    (kk : RD K mt (d + 1) (pc + 3) ls st D' Q) : RD K mt (d + 1) pc ls (x2 :: x1 :: st) D Q := RD.callS2 hd hL hct hst (fun r D2 h => by obtain ⟨h1, h2⟩ := h; subst h1; subst h2; exact kk)
theorem RD.cS3 {idx : Nat} {v : AV} {x1 x2 x3 : AV} (hd : decode mt.2.1 pc = .ok (.invokestatic idx, 3)) (hL : SLK mt.1.cls idx cm 3) (hct : CF K cm d [x1, x2, x3] D (some v) D') (hst : st.length ≤ 8)
    (kk : RD K mt (d + 1) (pc + 3) ls (v :: st) D' Q) : RD K mt (d + 1) pc ls (x3 :: x2 :: x1 :: st) D Q := RD.callS3 hd hL hct hst (fun r D2 h => by obtain ⟨h1, h2⟩ := h; subst h1; subst h2; exact kk)
theorem RD.cS3v {idx : Nat}  {x1 x2 x3 : AV} (hd : decode mt.2.1 pc = .ok (.invokestatic idx, 3)) (hL : SLK mt.1.cls idx cm 3) (hct : CF K cm d [x1, x2, x3] D none D') (hst : st.length ≤ 8)
    (kk : RD K mt (d + 1) (pc + 3) ls st D' Q) : RD K mt (d + 1) pc ls (x3 :: x2 :: x1 :: st) D Q := RD.callS3 hd hL hct hst (fun r D2 h => by obtain ⟨h1, h2⟩ := h; subst h1; subst h2; exact kk)
end CFR
/-! which addresses there are -/
theorem ok0 : okA (0, 0, 0) := by unfold okA; decide +kernel
theorem ok1 : okA (1, 0, 0) := by unfold okA; decide +kernel
theorem ok2 : ∀ {i : Nat}, i < 8 → okA (2, i, 0) := by
  have h : ∀ i, i < 8 → allA[lay (2, i, 0)]? = some (2, i, 0) := by decide +kernel
  exact fun {i} hi => h i hi
theorem ok3 : ∀ {i : Nat}, i < 8 → okA (3, i, 0) := by
  have h : ∀ i, i < 8 → allA[lay (3, i, 0)]? = some (3, i, 0) := by decide +kernel
  exact fun {i} hi => h i hi
theorem ok4 : ∀ {i j : Nat}, i < 8 → j < 19 → okA (4, i, j) := by
  have h : ∀ i, i < 8 → ∀ j, j < 19 → allA[lay (4, i, j)]? = some (4, i, j) := by decide +kernel
  exact fun {i j} hi hj => h i hi j hj
theorem ok4L : okA (4, 8, 0) := by unfold okA; decide +kernel
theorem ok6 : ∀ {i : Nat}, i < 8 → okA (6, i, 0) := by
  have h : ∀ i, i < 8 → allA[lay (6, i, 0)]? = some (6, i, 0) := by decide +kernel
  exact fun {i} hi => h i hi
theorem ok7 : ∀ {i : Nat}, i < 8 → okA (7, i, 0) := by
  have h : ∀ i, i < 8 → allA[lay (7, i, 0)]? = some (7, i, 0) := by decide +kernel
  exact fun {i} hi => h i hi
theorem ok8 : ∀ {i j : Nat}, i < 8 → j < 8 → okA (8, i, j) := by
  have h : ∀ i, i < 8 → ∀ j, j < 8 → allA[lay (8, i, j)]? = some (8, i, j) := by decide +kernel
  exact fun {i j} hi hj => h i hi j hj
theorem ok9 : ∀ {i : Nat}, i < 8 → okA (9, i, 0) := by
  have h : ∀ i, i < 8 → allA[lay (9, i, 0)]? = some (9, i, 0) := by decide +kernel
  exact fun {i} hi => h i hi
theorem ok10 : ∀ {i : Nat}, i < 8 → okA (10, i, 0) := by
  have h : ∀ i, i < 8 → allA[lay (10, i, 0)]? = some (10, i, 0) := by decide +kernel
  exact fun {i} hi => h i hi
theorem ok11 : ∀ {i : Nat}, i < 8 → okA (11, i, 0) := by
  have h : ∀ i, i < 8 → allA[lay (11, i, 0)]? = some (11, i, 0) := by decide +kernel
  exact fun {i} hi => h i hi
theorem ok12 : ∀ {i j : Nat}, i < 8 → j < 8 → okA (12, i, j) := by
  have h : ∀ i, i < 8 → ∀ j, j < 8 → allA[lay (12, i, j)]? = some (12, i, j) := by decide +kernel
  exact fun {i j} hi hj => h i hi j hj
theorem ok13 : ∀ {i j : Nat}, i < 8 → j < 8 → okA (13, i, j) := by
  have h : ∀ i, i < 8 → ∀ j, j < 8 → allA[lay (13, i, j)]? = some (13, i, j) := by decide +kernel
  exact fun {i j} hi hj => h i hi j hj
theorem ok14 : okA (14, 0, 0) := by unfold okA; decide +kernel
theorem ok15 : ∀ {j : Nat}, j < 17 → okA (15, j, 0) := by
  have h : ∀ j, j < 17 → allA[lay (15, j, 0)]? = some (15, j, 0) := by decide +kernel
  exact fun {j} hj => h j hj
theorem ok45 {i j : Nat} (h : okA (4, i, j)) : okA (5, i, j) := by
  have key : ∀ k, k < 574 → (match allA[k]? with | some (4, i, j) => allA[lay (5, i, j)]? == some (5, i, j) | _ => true) = true := by decide +kernel
  have hl : lay (4, i, j) < 574 := by rw [← allA_len]; exact (List.getElem?_eq_some_iff.mp h).1
  have := key _ hl
  rw [show allA[lay (4, i, j)]? = some (4, i, j) from h] at this
  exact eq_of_beq this
/-! what a state holds, after it was changed -/
theorem up_s {D : DT} {a : AD} {k : Nat} {x : Int32} : up D a k x a k = x := by simp [up, upd]
theorem up_n {D : DT} {a a' : AD} {k : Nat} {x : Int32} (h : a' ≠ a) : up D a k x a' = D a' := by simp [up, h]
theorem up_k {D : DT} {a : AD} {k k' : Nat} {x : Int32} (h : k' ≠ k) : up D a k x a k' = D a k' := by simp [up, upd, h]
theorem up_at {D : DT} {a a' : AD} {k k' : Nat} {x : Int32} : up D a k x a' k' = if a' = a ∧ k' = k then x else D a' k' := by
  by_cases h : a' = a
  · subst h
    by_cases h2 : k' = k
    · subst h2; simp [up, upd]
    · simp [up, upd, h2]
  · simp [up, h]
def bI (b : Bool) : Int32 := if b then 1 else 0
theorem nar_bI (b : Bool) : narrow .boolean (.int (bI b)) = .int (bI b) := by cases b <;> rfl
theorem bI_0 {b : Bool} (h : bI b = 0) : b = false := by cases b <;> simp_all [bI]
theorem bI_1 {b : Bool} (h : ¬ bI b = 0) : b = true := by cases b <;> simp_all [bI]
theorem leb {a b : Nat} (h : Nat.ble a b = true) : a ≤ b := Nat.le_of_ble_eq_true h
section RDV
variable {K : EK} {mt : MT} {d pc : Nat} {ls : List (Option AV)} {st : List AV} {D : DT} {Q : Option AV → DT → Prop} {a : AD}
theorem RD.gI {idx ci k : Nat} {fs : List (Option AV)} {v : Int32} (hv : D a k = v) (hd : decode mt.2.1 pc = .ok (.getfield idx, 3)) (hF : FLK mt.1.cls idx ci k) (ha : okA a) (hs : sk a = .inl (ci, fs)) (ho : fs[k]? = some none) (kk : RD K mt d (pc + 3) ls (rI v :: st) D Q) : RD K mt d pc ls (rR a :: st) D Q := by
  subst hv; exact RD.getI hd hF ha hs ho kk
theorem RD.iL {n : Nat} {i v : Int32} (j : Nat) (hv : D a j = v) (hd : decode mt.2.1 pc = .ok (.iaload, 1)) (ha : okA a) (hs : sk a = .inr (.inl (0, n))) (hi : i = nI j) (hj : j < n) (hn : n < 2 ^ 31) (kk : RD K mt d (pc + 1) ls (rI v :: st) D Q) : RD K mt d pc ls (rI i :: rR a :: st) D Q := by
  subst hv; exact RD.iald j hd ha hs hi hj hn kk
theorem RD.zL {n : Nat} {i v : Int32} (j : Nat) (hv : D a j = v) (hd : decode mt.2.1 pc = .ok (.baload, 1)) (ha : okA a) (hs : sk a = .inr (.inl (1, n))) (hi : i = nI j) (hj : j < n) (hn : n < 2 ^ 31) (kk : RD K mt d (pc + 1) ls (rI v :: st) D Q) : RD K mt d pc ls (rI i :: rR a :: st) D Q := by
  subst hv; exact RD.zald j hd ha hs hi hj hn kk
theorem RD.eqI {x y : Int32} (h : x = y) (k : RD K mt d pc ls (rI y :: st) D Q) : RD K mt d pc ls (rI x :: st) D Q := by rw [h]; exact k
theorem RD.eqD {D' : DT} (h : D = D') (k : RD K mt d pc ls st D' Q) : RD K mt d pc ls st D Q := by rw [h]; exact k
theorem RD.eqL {ls' : List (Option AV)} (h : ls = ls') (k : RD K mt d pc ls' st D Q) : RD K mt d pc ls st D Q := by rw [h]; exact k
end RDV
theorem up_N {D : DT} {a a' : AD} {k k' : Nat} {x v : Int32} (h : a' ≠ a) (hv : D a' k' = v) : up D a k x a' k' = v := by rw [up_n h]; exact hv
theorem up_K {D : DT} {a : AD} {k k' : Nat} {x v : Int32} (h : k' ≠ k) (hv : D a k' = v) : up D a k x a k' = v := by rw [up_k h]; exact hv
theorem RD.forget {K : EK} {mt : MT} {d pc : Nat} {ls : List (Option AV)} {st : List AV} {D : DT} {Q : Option AV → DT → Prop} (k : Nat) {ls' : List (Option AV)} (he : ls.set k none = ls') (h : RD K mt d pc ls' st D Q) : RD K mt d pc ls st D Q := by
  subst he
  intro p e R s m args below meth c H locs cells slots la Z hC hH hS hl hf
  refine h p e R s m args below meth c H locs cells slots la Z hC hH hS ⟨hl.1, hl.2.1, fun i v hi => hl.2.2 i v ?_⟩ hf
  by_cases hik : i = k
  · subst hik
    have hlen : i < ls.length := by simpa using (List.getElem?_eq_some_iff.mp hi).1
    rw [List.getElem?_set_self hlen] at hi
    cases hi
  · rwa [List.getElem?_set_ne (Ne.symm hik)] at hi
end
section
/-! numbers in a range; tags as bits of eight words -/
def inR (t : Int32) (N : Nat) : Bool := decide (0 ≤ t) && decide (t < nI N)
theorem i32_nlt {x y : Int32} (h : ¬ x < y) : y ≤ x := Int32.not_lt.mp h
theorem i32_nle {x y : Int32} (h : ¬ x ≤ y) : y < x := Int32.not_le.mp h
theorem inR_neg {t : Int32} {N : Nat} (h : t < 0) : inR t N = false := by
  have : ¬ 0 ≤ t := fun h2 => absurd h (Int32.not_lt.mpr h2)
  simp [inR, this]
theorem inR_big {t : Int32} {N : Nat} (h : nI N ≤ t) : inR t N = false := by
  have : ¬ t < nI N := Int32.not_lt.mpr h
  simp [inR, this]
theorem inR_in {t : Int32} {N : Nat} (h1 : ¬ t < 0) (h2 : ¬ nI N ≤ t) : inR t N = true := by
  simp [inR, i32_nlt h1, i32_nle h2]
theorem inR_t {t : Int32} {N : Nat} (hN : N < 2 ^ 31) (h : inR t N = true) : ∃ n, n < N ∧ t = nI n := by
  simp [inR] at h
  obtain ⟨n, hn, rfl⟩ := nI_of (x := t) (Int32.not_lt.mpr h.1)
  exact ⟨n, (nI_ltI hn hN).mp h.2, rfl⟩
theorem inR_n {t : Int32} {N : Nat} (h1 : ¬ t < 0) (h2 : ¬ nI N ≤ t) (hN : N < 2 ^ 31) : ∃ n, n < N ∧ t = nI n := inR_t hN (inR_in h1 h2)
theorem inR_nI {n N : Nat} (hN : N < 2 ^ 31) (h : n < N) : inR (nI n) N = true := by
  simp [inR, nI_pos' (n := n) (by omega), nI_lt h hN]
theorem inR_nIb {n N : Nat} (hN : N < 2 ^ 31) (hn : n < 2 ^ 31) : inR (nI n) N = decide (n < N) := by
  by_cases h : n < N
  · simp [inR_nI hN h, h]
  · rw [inR_big (nI_le (by omega) hn)]; simp [h]
theorem bI_ne {b : Bool} : bI b = 0 ↔ b = false := by cases b <;> simp [bI]
theorem bI_t : bI true = 1 := rfl
theorem bI_f : bI false = 0 := rfl
def tg (f : Nat → Int32) (n : Nat) : Bool := (f (n / 32)).toBitVec.getLsbD (n % 32)
theorem smod_k : ∀ k, k < 32 → ((nI k).toBitVec.smod 32).toNat = k := by decide
theorem and31 {n : Nat} (hn : n < 2 ^ 31) : nI n &&& 31 = nI (n % 32) := pk_andN (by omega) 5 (by decide)
theorem and31t {n : Nat} (hn : n < 2 ^ 31) : (nI n &&& 31) &&& 31 = nI (n % 32) := by
  rw [and31 hn, and31 (by omega), Nat.mod_mod]
theorem shr5 {n : Nat} (hn : n < 2 ^ 31) : nI n >>> ((5 : Int32) &&& 31) = nI (n / 32) := pk_shrN hn _ 5 (by decide)
theorem msk_bv {k : Nat} (hk : k < 32) : ((1 : Int32) <<< nI k).toBitVec = BitVec.twoPow 32 k := by
  apply BitVec.eq_of_toNat_eq
  rw [pk_shl 1 (nI k) k (smod_k k hk), BitVec.toNat_twoPow, show (1 : Int32).toBitVec.toNat = 1 from by decide, Nat.one_mul]
theorem bit_and {x : Int32} {k : Nat} (hk : k < 32) : x &&& ((1 : Int32) <<< nI k) = 0 ↔ x.toBitVec.getLsbD k = false := by
  rw [← Int32.toBitVec_inj, Int32.toBitVec_and, msk_bv hk, BitVec.and_twoPow]
  have h0 : (0 : Int32).toBitVec = 0#32 := by decide
  rw [h0]
  by_cases h : x.toBitVec.getLsbD k = true
  · simp only [h, if_true]
    constructor
    · intro h2
      have := congrArg (fun b => b.getLsbD k) h2
      simp [BitVec.getLsbD_twoPow, hk] at this
    · intro h2; cases h2
  · simp [h]
theorem bit_or {x : Int32} {k m : Nat} (hk : k < 32) (hm : m < 32) : (x ||| ((1 : Int32) <<< nI k)).toBitVec.getLsbD m = (x.toBitVec.getLsbD m || decide (m = k)) := by
  rw [Int32.toBitVec_or, msk_bv hk, BitVec.getLsbD_or, BitVec.getLsbD_twoPow]
  by_cases h : m = k
  · subst h; simp [hm]
  · have : ¬ k = m := fun e => h e.symm
    simp [h, this]
theorem bit_clr {x : Int32} {k m : Nat} (hk : k < 32) (hm : m < 32) : (x &&& (((1 : Int32) <<< nI k) ^^^ (-1))).toBitVec.getLsbD m = (x.toBitVec.getLsbD m && !decide (m = k)) := by
  rw [Int32.toBitVec_and, Int32.toBitVec_xor, msk_bv hk, BitVec.getLsbD_and, BitVec.getLsbD_xor, BitVec.getLsbD_twoPow]
  have h1 : (-1 : Int32).toBitVec = BitVec.allOnes 32 := by decide
  rw [h1, BitVec.getLsbD_allOnes]
  by_cases h : m = k
  · subst h; simp [hm]
  · have : ¬ k = m := fun e => h e.symm
    simp [h, this, hm]
theorem bit_sub {x y z : Int32} : x &&& ((y ||| z) ^^^ (-1)) = 0 ↔ ∀ m, m < 32 → x.toBitVec.getLsbD m = true → (y.toBitVec.getLsbD m || z.toBitVec.getLsbD m) = true := by
  have h1 : (-1 : Int32).toBitVec = BitVec.allOnes 32 := by decide
  have h0 : (0 : Int32).toBitVec = 0#32 := by decide
  rw [← Int32.toBitVec_inj, Int32.toBitVec_and, Int32.toBitVec_xor, Int32.toBitVec_or, h1, h0]
  have hE : ∀ m, m < 32 → (BitVec.allOnes 32).getLsbD m = true := by
    intro m hm
    rw [BitVec.getLsbD_allOnes]
    exact decide_eq_true hm
  generalize BitVec.allOnes 32 = E at hE ⊢
  generalize x.toBitVec = X
  generalize y.toBitVec = Y
  generalize z.toBitVec = Z
  have key : ∀ m, m < 32 → (X &&& ((Y ||| Z) ^^^ E)).getLsbD m = (X.getLsbD m && !(Y.getLsbD m || Z.getLsbD m)) := by
    intro m hm
    rw [BitVec.getLsbD_and, BitVec.getLsbD_xor, BitVec.getLsbD_or, hE m hm, Bool.xor_true]
  constructor
  · intro h m hm hx
    have h2 := key m hm
    rw [h, hx, BitVec.getLsbD_zero] at h2
    cases hq : (Y.getLsbD m || Z.getLsbD m) with
    | true => rfl
    | false => rw [hq] at h2; cases h2
  · intro h
    apply BitVec.eq_of_getLsbD_eq
    intro m hm
    rw [key m hm, BitVec.getLsbD_zero]
    cases hx : X.getLsbD m with
    | false => rfl
    | true => rw [h m hm hx]; rfl
def hasF (f : Nat → Int32) (t : Int32) : Bool := inR t 256 && tg f t.toNatClampNeg
theorem hasF_nI {f : Nat → Int32} {n : Nat} (hn : n < 256) : hasF f (nI n) = tg f n := by
  rw [hasF, inR_nI (by decide) hn, nI_clamp (by omega), Bool.true_and]
theorem hasF_out {f : Nat → Int32} {t : Int32} (h : inR t 256 = false) : hasF f t = false := by rw [hasF, h, Bool.false_and]
end
section
set_option maxRecDepth 20000 in
set_option maxHeartbeats 1000000 in
theorem c_isSlot (K : EK) (d : Nat) (D : DT) (t : Int32) : CF K mX5_isSlot d [rI t] D (some (rI (bI (inR t 8)))) D := by
  refine CF.of [some (rI t)] (by decide) (leb rfl) rfl ?_
  refine RD.iload_n (pc := 0) dX5_isSlot_0 rfl ?_
  refine RD.if_lt (pc := 1) 14 dX5_isSlot_1 (by decide) (fun c1 => ?_) (fun c1 => ?_)
  · refine RD.iconst (pc := 14) (v := 0) dX5_isSlot_14 (by decide) ?_
    refine RD.ireturn (pc := 15) dX5_isSlot_15 rfl rfl ?_
    exact ⟨by rw [inR_neg (N := 8) c1]; rfl, rfl⟩
  · refine RD.iload_n (pc := 4) dX5_isSlot_4 rfl ?_
    refine RD.bipush (pc := 5) (v := 8) dX5_isSlot_5 (by decide) ?_
    refine RD.icmp_ge (pc := 7) 14 dX5_isSlot_7 (by decide) (fun c7 => ?_) (fun c7 => ?_)
    · refine RD.iconst (pc := 14) (v := 0) dX5_isSlot_14 (by decide) ?_
      refine RD.ireturn (pc := 15) dX5_isSlot_15 rfl rfl ?_
      exact ⟨by rw [inR_big (N := 8) c7]; rfl, rfl⟩
    · refine RD.iconst (pc := 10) (v := 1) dX5_isSlot_10 (by decide) ?_
      refine RD.goto (pc := 11) 15 dX5_isSlot_11 (by decide) ?_
      refine RD.ireturn (pc := 15) dX5_isSlot_15 rfl rfl ?_
      exact ⟨by rw [inR_in (N := 8) c1 c7]; rfl, rfl⟩

set_option maxRecDepth 20000 in
set_option maxHeartbeats 1000000 in
theorem c_isPlace (K : EK) (d : Nat) (D : DT) (t : Int32) : CF K mX5_isPlace d [rI t] D (some (rI (bI (inR t 128)))) D := by
  refine CF.of [some (rI t)] (by decide) (leb rfl) rfl ?_
  refine RD.iload_n (pc := 0) dX5_isPlace_0 rfl ?_
  refine RD.if_lt (pc := 1) 15 dX5_isPlace_1 (by decide) (fun c1 => ?_) (fun c1 => ?_)
  · refine RD.iconst (pc := 15) (v := 0) dX5_isPlace_15 (by decide) ?_
    refine RD.ireturn (pc := 16) dX5_isPlace_16 rfl rfl ?_
    exact ⟨by rw [inR_neg (N := 128) c1]; rfl, rfl⟩
  · refine RD.iload_n (pc := 4) dX5_isPlace_4 rfl ?_
    refine RD.sipush (pc := 5) (v := 128) dX5_isPlace_5 (by decide) ?_
    refine RD.icmp_ge (pc := 8) 15 dX5_isPlace_8 (by decide) (fun c8 => ?_) (fun c8 => ?_)
    · refine RD.iconst (pc := 15) (v := 0) dX5_isPlace_15 (by decide) ?_
      refine RD.ireturn (pc := 16) dX5_isPlace_16 rfl rfl ?_
      exact ⟨by rw [inR_big (N := 128) c8]; rfl, rfl⟩
    · refine RD.iconst (pc := 11) (v := 1) dX5_isPlace_11 (by decide) ?_
      refine RD.goto (pc := 12) 16 dX5_isPlace_12 (by decide) ?_
      refine RD.ireturn (pc := 16) dX5_isPlace_16 rfl rfl ?_
      exact ⟨by rw [inR_in (N := 128) c1 c8]; rfl, rfl⟩

set_option maxRecDepth 20000 in
set_option maxHeartbeats 1000000 in
theorem c_isTag (K : EK) (d : Nat) (D : DT) (t : Int32) : CF K mX5_isTag d [rI t] D (some (rI (bI (inR t 256)))) D := by
  refine CF.of [some (rI t)] (by decide) (leb rfl) rfl ?_
  refine RD.iload_n (pc := 0) dX5_isTag_0 rfl ?_
  refine RD.if_lt (pc := 1) 15 dX5_isTag_1 (by decide) (fun c1 => ?_) (fun c1 => ?_)
  · refine RD.iconst (pc := 15) (v := 0) dX5_isTag_15 (by decide) ?_
    refine RD.ireturn (pc := 16) dX5_isTag_16 rfl rfl ?_
    exact ⟨by rw [inR_neg (N := 256) c1]; rfl, rfl⟩
  · refine RD.iload_n (pc := 4) dX5_isTag_4 rfl ?_
    refine RD.sipush (pc := 5) (v := 256) dX5_isTag_5 (by decide) ?_
    refine RD.icmp_ge (pc := 8) 15 dX5_isTag_8 (by decide) (fun c8 => ?_) (fun c8 => ?_)
    · refine RD.iconst (pc := 15) (v := 0) dX5_isTag_15 (by decide) ?_
      refine RD.ireturn (pc := 16) dX5_isTag_16 rfl rfl ?_
      exact ⟨by rw [inR_big (N := 256) c8]; rfl, rfl⟩
    · refine RD.iconst (pc := 11) (v := 1) dX5_isTag_11 (by decide) ?_
      refine RD.goto (pc := 12) 16 dX5_isTag_12 (by decide) ?_
      refine RD.ireturn (pc := 16) dX5_isTag_16 rfl rfl ?_
      exact ⟨by rw [inR_in (N := 256) c1 c8]; rfl, rfl⟩

set_option maxRecDepth 20000 in
set_option maxHeartbeats 1000000 in
theorem c_isFile (K : EK) (d : Nat) (D : DT) (t : Int32) : CF K mX5_isFile d [rI t] D (some (rI (bI (inR t 64)))) D := by
  refine CF.of [some (rI t)] (by decide) (leb rfl) rfl ?_
  refine RD.iload_n (pc := 0) dX5_isFile_0 rfl ?_
  refine RD.if_lt (pc := 1) 14 dX5_isFile_1 (by decide) (fun c1 => ?_) (fun c1 => ?_)
  · refine RD.iconst (pc := 14) (v := 0) dX5_isFile_14 (by decide) ?_
    refine RD.ireturn (pc := 15) dX5_isFile_15 rfl rfl ?_
    exact ⟨by rw [inR_neg (N := 64) c1]; rfl, rfl⟩
  · refine RD.iload_n (pc := 4) dX5_isFile_4 rfl ?_
    refine RD.bipush (pc := 5) (v := 64) dX5_isFile_5 (by decide) ?_
    refine RD.icmp_ge (pc := 7) 14 dX5_isFile_7 (by decide) (fun c7 => ?_) (fun c7 => ?_)
    · refine RD.iconst (pc := 14) (v := 0) dX5_isFile_14 (by decide) ?_
      refine RD.ireturn (pc := 15) dX5_isFile_15 rfl rfl ?_
      exact ⟨by rw [inR_big (N := 64) c7]; rfl, rfl⟩
    · refine RD.iconst (pc := 10) (v := 1) dX5_isFile_10 (by decide) ?_
      refine RD.goto (pc := 11) 15 dX5_isFile_11 (by decide) ?_
      refine RD.ireturn (pc := 15) dX5_isFile_15 rfl rfl ?_
      exact ⟨by rw [inR_in (N := 64) c1 c7]; rfl, rfl⟩

set_option maxRecDepth 20000 in
set_option maxHeartbeats 1000000 in
theorem c_has (K : EK) (d : Nat) {i j : Nat} (hok : okA (4, i, j)) (D : DT) (t : Int32) : CF K mX4_has d [rR (4, i, j), rI t] D (some (rI (bI (hasF (D (5, i, j)) t)))) D := by
  refine CF.of [some (rR (4, i, j)), some (rI t)] (by decide) (leb rfl) rfl ?_
  refine RD.iload_n (pc := 0) dX4_has_0 rfl ?_
  refine RD.if_lt (pc := 1) 33 dX4_has_1 (by decide) (fun c1 => ?_) (fun c1 => ?_)
  · refine RD.iconst (pc := 33) (v := 0) dX4_has_33 (by decide) ?_
    refine RD.ireturn (pc := 34) dX4_has_34 rfl rfl ?_
    exact ⟨by rw [hasF_out (inR_neg c1)]; rfl, rfl⟩
  · refine RD.iload_n (pc := 4) dX4_has_4 rfl ?_
    refine RD.sipush (pc := 5) (v := 256) dX4_has_5 (by decide) ?_
    refine RD.icmp_ge (pc := 8) 33 dX4_has_8 (by decide) (fun c8 => ?_) (fun c8 => ?_)
    · refine RD.iconst (pc := 33) (v := 0) dX4_has_33 (by decide) ?_
      refine RD.ireturn (pc := 34) dX4_has_34 rfl rfl ?_
      exact ⟨by rw [hasF_out (inR_big (N := 256) c8)]; rfl, rfl⟩
    · obtain ⟨n, hn, rfl⟩ := inR_n (N := 256) c1 c8 (by decide)
      refine RD.aload_n (pc := 11) dX4_has_11 rfl ?_
      refine RD.getR (pc := 12) dX4_has_12 flX4_9 hok rfl rfl ?_
      refine RD.iload_n (pc := 15) dX4_has_15 rfl ?_
      refine RD.iconst (pc := 16) (v := 5) dX4_has_16 (by decide) ?_
      refine RD.ishr (pc := 17) dX4_has_17 ?_
      refine RD.iL (pc := 18) (n / 32) (v := D (5, i, j) (n / 32)) rfl dX4_has_18 (ok45 hok) rfl (shr5 (by omega)) (by omega) (by decide) ?_
      refine RD.iconst (pc := 19) (v := 1) dX4_has_19 (by decide) ?_
      refine RD.iload_n (pc := 20) dX4_has_20 rfl ?_
      refine RD.bipush (pc := 21) (v := 31) dX4_has_21 (by decide) ?_
      refine RD.iand (pc := 23) dX4_has_23 ?_
      refine RD.ishl (pc := 24) dX4_has_24 ?_
      refine RD.iand (pc := 25) dX4_has_25 ?_
      refine RD.if_eq (pc := 26) 33 dX4_has_26 (by decide) (fun c26 => ?_) (fun c26 => ?_)
      · refine RD.iconst (pc := 33) (v := 0) dX4_has_33 (by decide) ?_
        refine RD.ireturn (pc := 34) dX4_has_34 rfl rfl ?_
        rw [and31t (by omega)] at c26
        exact ⟨by rw [hasF_nI hn, tg, (bit_and (by omega)).mp c26]; rfl, rfl⟩
      · refine RD.iconst (pc := 29) (v := 1) dX4_has_29 (by decide) ?_
        refine RD.goto (pc := 30) 34 dX4_has_30 (by decide) ?_
        refine RD.ireturn (pc := 34) dX4_has_34 rfl rfl ?_
        rw [and31t (by omega)] at c26
        exact ⟨by rw [hasF_nI hn, tg, eq_true_of_ne_false (fun e => c26 ((bit_and (by omega)).mpr e))]; rfl, rfl⟩


def addD (D : DT) (i j n : Nat) : DT := up (up D (5, i, j) (n / 32) (D (5, i, j) (n / 32) ||| (1 <<< nI (n % 32)))) (4, i, j) 1 (D (4, i, j) 1 + 1)
def addF (D : DT) (i j : Nat) (t : Int32) : DT := if inR t 256 = true ∧ hasF (D (5, i, j)) t = false then addD D i j t.toNatClampNeg else D
def remD (D : DT) (i j n : Nat) : DT := up (up D (5, i, j) (n / 32) (D (5, i, j) (n / 32) &&& ((1 <<< nI (n % 32)) ^^^ (-1)))) (4, i, j) 1 (D (4, i, j) 1 - 1)
def remF (D : DT) (i j : Nat) (t : Int32) : DT := if hasF (D (5, i, j)) t = true then remD D i j t.toNatClampNeg else D
theorem hasF_in {f : Nat → Int32} {t : Int32} (h : hasF f t = true) : inR t 256 = true := by
  cases hq : inR t 256 with
  | true => rfl
  | false => rw [hasF_out hq] at h; cases h
theorem addF_out {D : DT} {i j : Nat} {t : Int32} (h : inR t 256 = false) : addF D i j t = D := by simp [addF, h]
theorem addF_had {D : DT} {i j : Nat} {t : Int32} (h : hasF (D (5, i, j)) t = true) : addF D i j t = D := by simp [addF, h]
theorem addF_new {D : DT} {i j n : Nat} (hn : n < 256) (h : hasF (D (5, i, j)) (nI n) = false) : addF D i j (nI n) = addD D i j n := by
  simp [addF, h, inR_nI (by decide) hn, nI_clamp (n := n) (by omega)]
theorem remF_not {D : DT} {i j : Nat} {t : Int32} (h : hasF (D (5, i, j)) t = false) : remF D i j t = D := by simp [remF, h]
theorem remF_had {D : DT} {i j n : Nat} (hn : n < 256) (h : hasF (D (5, i, j)) (nI n) = true) : remF D i j (nI n) = remD D i j n := by
  simp [remF, h, nI_clamp (n := n) (by omega)]

set_option maxRecDepth 20000 in
set_option maxHeartbeats 1000000 in
theorem c_add (K : EK) (d : Nat) {i j : Nat} (hok : okA (4, i, j)) (D : DT) (t : Int32) : CF K mX4_add (d + 1) [rR (4, i, j), rI t] D (none) (addF D i j t) := by
  refine CF.of [some (rR (4, i, j)), some (rI t)] (by decide) (leb rfl) rfl ?_
  refine RD.iload_n (pc := 0) dX4_add_0 rfl ?_
  refine RD.cS1 (pc := 1) dX4_add_1 mlX4_19 (c_isTag K _ D t) (leb rfl) ?_
  refine RD.if_eq (pc := 4) 42 dX4_add_4 (by decide) (fun c4 => ?_) (fun c4 => ?_)
  · refine RD.ret (pc := 42) ⟨rfl, dX4_add_42⟩ ?_
    exact ⟨rfl, (addF_out (bI_0 c4)).symm⟩
  · refine RD.aload_n (pc := 7) dX4_add_7 rfl ?_
    refine RD.iload_n (pc := 8) dX4_add_8 rfl ?_
    refine RD.cV1 (pc := 9) dX4_add_9 mlX4_23 rfl hok rfl (c_has K _ hok D t) (leb rfl) ?_
    refine RD.if_ne (pc := 12) 42 dX4_add_12 (by decide) (fun c12 => ?_) (fun c12 => ?_)
    · refine RD.ret (pc := 42) ⟨rfl, dX4_add_42⟩ ?_
      exact ⟨rfl, (addF_had (bI_1 c12)).symm⟩
    · obtain ⟨n, hn, rfl⟩ := inR_t (N := 256) (by decide) (bI_1 c4)
      rw [bI_ne] at c12
      refine RD.aload_n (pc := 15) dX4_add_15 rfl ?_
      refine RD.getR (pc := 16) dX4_add_16 flX4_9 hok rfl rfl ?_
      refine RD.iload_n (pc := 19) dX4_add_19 rfl ?_
      refine RD.iconst (pc := 20) (v := 5) dX4_add_20 (by decide) ?_
      refine RD.ishr (pc := 21) dX4_add_21 ?_
      refine RD.dup2 (pc := 22) dX4_add_22 ?_
      refine RD.iL (pc := 23) (n / 32) (v := D (5, i, j) (n / 32)) rfl dX4_add_23 (ok45 hok) rfl (shr5 (by omega)) (by omega) (by decide) ?_
      refine RD.iconst (pc := 24) (v := 1) dX4_add_24 (by decide) ?_
      refine RD.iload_n (pc := 25) dX4_add_25 rfl ?_
      refine RD.bipush (pc := 26) (v := 31) dX4_add_26 (by decide) ?_
      refine RD.iand (pc := 28) dX4_add_28 ?_
      refine RD.ishl (pc := 29) dX4_add_29 ?_
      refine RD.ior (pc := 30) dX4_add_30 ?_
      refine RD.iast (pc := 31) (n / 32) dX4_add_31 (ok45 hok) rfl (shr5 (by omega)) (by omega) (by decide) ?_
      refine RD.aload_n (pc := 32) dX4_add_32 rfl ?_
      refine RD.dup (pc := 33) dX4_add_33 ?_
      refine RD.gI (pc := 34) (v := D (4, i, j) 1) (up_N (by simp) rfl) dX4_add_34 flX4_15 hok rfl rfl ?_
      refine RD.iconst (pc := 37) (v := 1) dX4_add_37 (by decide) ?_
      refine RD.iadd (pc := 38) dX4_add_38 ?_
      refine RD.putf (pc := 39) dX4_add_39 fpX4_15 hok rfl rfl rfl rfl ?_
      refine RD.ret (pc := 42) ⟨rfl, dX4_add_42⟩ ?_
      exact ⟨rfl, by rw [addF_new hn c12, and31t (by omega)]; rfl⟩

set_option maxRecDepth 20000 in
set_option maxHeartbeats 1000000 in
theorem c_remove (K : EK) (d : Nat) {i j : Nat} (hok : okA (4, i, j)) (D : DT) (t : Int32) : CF K mX4_remove (d + 1) [rR (4, i, j), rI t] D (none) (remF D i j t) := by
  refine CF.of [some (rR (4, i, j)), some (rI t)] (by decide) (leb rfl) rfl ?_
  refine RD.aload_n (pc := 0) dX4_remove_0 rfl ?_
  refine RD.iload_n (pc := 1) dX4_remove_1 rfl ?_
  refine RD.cV1 (pc := 2) dX4_remove_2 mlX4_23 rfl hok rfl (c_has K _ hok D t) (leb rfl) ?_
  refine RD.if_eq (pc := 5) 37 dX4_remove_5 (by decide) (fun c5 => ?_) (fun c5 => ?_)
  · refine RD.ret (pc := 37) ⟨rfl, dX4_remove_37⟩ ?_
    exact ⟨rfl, (remF_not (bI_0 c5)).symm⟩
  · obtain ⟨n, hn, rfl⟩ := inR_t (N := 256) (by decide) (hasF_in (bI_1 c5))
    refine RD.aload_n (pc := 8) dX4_remove_8 rfl ?_
    refine RD.getR (pc := 9) dX4_remove_9 flX4_9 hok rfl rfl ?_
    refine RD.iload_n (pc := 12) dX4_remove_12 rfl ?_
    refine RD.iconst (pc := 13) (v := 5) dX4_remove_13 (by decide) ?_
    refine RD.ishr (pc := 14) dX4_remove_14 ?_
    refine RD.dup2 (pc := 15) dX4_remove_15 ?_
    refine RD.iL (pc := 16) (n / 32) (v := D (5, i, j) (n / 32)) rfl dX4_remove_16 (ok45 hok) rfl (shr5 (by omega)) (by omega) (by decide) ?_
    refine RD.iconst (pc := 17) (v := 1) dX4_remove_17 (by decide) ?_
    refine RD.iload_n (pc := 18) dX4_remove_18 rfl ?_
    refine RD.bipush (pc := 19) (v := 31) dX4_remove_19 (by decide) ?_
    refine RD.iand (pc := 21) dX4_remove_21 ?_
    refine RD.ishl (pc := 22) dX4_remove_22 ?_
    refine RD.iconst (pc := 23) (v := (-1)) dX4_remove_23 (by decide) ?_
    refine RD.ixor (pc := 24) dX4_remove_24 ?_
    refine RD.iand (pc := 25) dX4_remove_25 ?_
    refine RD.iast (pc := 26) (n / 32) dX4_remove_26 (ok45 hok) rfl (shr5 (by omega)) (by omega) (by decide) ?_
    refine RD.aload_n (pc := 27) dX4_remove_27 rfl ?_
    refine RD.dup (pc := 28) dX4_remove_28 ?_
    refine RD.gI (pc := 29) (v := D (4, i, j) 1) (up_N (by simp) rfl) dX4_remove_29 flX4_15 hok rfl rfl ?_
    refine RD.iconst (pc := 32) (v := 1) dX4_remove_32 (by decide) ?_
    refine RD.isub (pc := 33) dX4_remove_33 ?_
    refine RD.putf (pc := 34) dX4_remove_34 fpX4_15 hok rfl rfl rfl rfl ?_
    refine RD.ret (pc := 37) ⟨rfl, dX4_remove_37⟩ ?_
    exact ⟨rfl, by rw [remF_had hn (bI_1 c5), and31t (by omega)]; rfl⟩


/-- change: the state behind it, and the answer -/
def chgD (D : DT) (i j : Nat) (t b m : Int32) : DT := if b = 0 then remF D i j t else if hasF (D (5, i, j)) t = true then D else if D (4, i, j) 1 < m then addF D i j t else D
def chgR (D : DT) (i j : Nat) (t b m : Int32) : Int32 := if b = 0 then remF D i j t (4, i, j) 1 else if hasF (D (5, i, j)) t = true then D (4, i, j) 1 else if D (4, i, j) 1 < m then addF D i j t (4, i, j) 1 else -1

set_option maxRecDepth 20000 in
set_option maxHeartbeats 1000000 in
theorem c_change (K : EK) (d : Nat) {i j : Nat} (hok : okA (4, i, j)) (D : DT) (t b m : Int32) : CF K mX4_change (d + 2) [rR (4, i, j), rI t, rI b, rI m] D (some (rI (chgR D i j t b m))) (chgD D i j t b m) := by
  refine CF.of [some (rR (4, i, j)), some (rI t), some (rI b), some (rI m)] (by decide) (leb rfl) rfl ?_
  refine RD.iload_n (pc := 0) dX4_change_0 rfl ?_
  refine RD.if_ne (pc := 1) 12 dX4_change_1 (by decide) (fun c1 => ?_) (fun c1 => ?_)
  · refine RD.aload_n (pc := 12) dX4_change_12 rfl ?_
    refine RD.iload_n (pc := 13) dX4_change_13 rfl ?_
    refine RD.cV1 (pc := 14) dX4_change_14 mlX4_23 rfl hok rfl (c_has K _ hok D t) (leb rfl) ?_
    refine RD.if_ne (pc := 17) 35 dX4_change_17 (by decide) (fun c17 => ?_) (fun c17 => ?_)
    · refine RD.aload_n (pc := 35) dX4_change_35 rfl ?_
      refine RD.gI (pc := 36) (v := D (4, i, j) 1) rfl dX4_change_36 flX4_15 hok rfl rfl ?_
      refine RD.ireturn (pc := 39) dX4_change_39 rfl rfl ?_
      exact ⟨by simp [chgR, c1, bI_1 c17], by simp [chgD, c1, bI_1 c17]⟩
    · refine RD.aload_n (pc := 20) dX4_change_20 rfl ?_
      refine RD.gI (pc := 21) (v := D (4, i, j) 1) rfl dX4_change_21 flX4_15 hok rfl rfl ?_
      refine RD.iload_n (pc := 24) dX4_change_24 rfl ?_
      refine RD.icmp_lt (pc := 25) 30 dX4_change_25 (by decide) (fun c25 => ?_) (fun c25 => ?_)
      · refine RD.aload_n (pc := 30) dX4_change_30 rfl ?_
        refine RD.iload_n (pc := 31) dX4_change_31 rfl ?_
        refine RD.cV1v (pc := 32) dX4_change_32 mlX4_30 rfl hok rfl (c_add K _ hok D t) (leb rfl) ?_
        refine RD.aload_n (pc := 35) dX4_change_35 rfl ?_
        refine RD.gI (pc := 36) (v := (addF D i j t) (4, i, j) 1) rfl dX4_change_36 flX4_15 hok rfl rfl ?_
        refine RD.ireturn (pc := 39) dX4_change_39 rfl rfl ?_
        rw [bI_ne] at c17
        exact ⟨by simp [chgR, c1, c17, c25], by simp [chgD, c1, c17, c25]⟩
      · refine RD.iconst (pc := 28) (v := (-1)) dX4_change_28 (by decide) ?_
        refine RD.ireturn (pc := 29) dX4_change_29 rfl rfl ?_
        rw [bI_ne] at c17
        exact ⟨by simp [chgR, c1, c17, c25], by simp [chgD, c1, c17, c25]⟩
  · refine RD.aload_n (pc := 4) dX4_change_4 rfl ?_
    refine RD.iload_n (pc := 5) dX4_change_5 rfl ?_
    refine RD.cV1v (pc := 6) dX4_change_6 mlX4_26 rfl hok rfl (c_remove K _ hok D t) (leb rfl) ?_
    refine RD.goto (pc := 9) 35 dX4_change_9 (by decide) ?_
    refine RD.aload_n (pc := 35) dX4_change_35 rfl ?_
    refine RD.gI (pc := 36) (v := (remF D i j t) (4, i, j) 1) rfl dX4_change_36 flX4_15 hok rfl rfl ?_
    refine RD.ireturn (pc := 39) dX4_change_39 rfl rfl ?_
    exact ⟨by simp [chgR, c1], by simp [chgD, c1]⟩


/-- the first n words of a are nought -/
def clrW (D : DT) (a : AD) (n : Nat) : DT := fun x => if x = a then (fun k => if k < n then 0 else D a k) else D x
theorem clrW_0 (D : DT) (a : AD) : clrW D a 0 = D := by
  funext x
  by_cases h : x = a
  · subst h; simp [clrW]
  · simp [clrW, h]
theorem clrW_s (D : DT) (a : AD) (n : Nat) : up (clrW D a n) a n 0 = clrW D a (n + 1) := by
  funext x k
  rw [up_at]
  by_cases h : x = a
  · subst h
    by_cases h2 : k = n
    · subst h2; simp [clrW]
    · simp only [clrW, h2, and_false, if_false, if_true]
      by_cases h3 : k < n
      · simp [h3, show k < n + 1 by omega]
      · simp [h3, show ¬ k < n + 1 by omega]
  · simp [clrW, h]
/-- the first n words of a are those of b -/
def cpyW (D : DT) (a b : AD) (n : Nat) : DT := fun x => if x = a then (fun k => if k < n then D b k else D a k) else D x
theorem cpyW_0 (D : DT) (a b : AD) : cpyW D a b 0 = D := by
  funext x
  by_cases h : x = a
  · subst h; simp [cpyW]
  · simp [cpyW, h]
theorem cpyW_r (D : DT) (a b : AD) (n : Nat) : cpyW D a b n b n = D b n := by
  by_cases h : b = a
  · subst h; simp [cpyW]
  · simp [cpyW, h]
theorem cpyW_s (D : DT) (a b : AD) (n : Nat) : up (cpyW D a b n) a n (D b n) = cpyW D a b (n + 1) := by
  funext x k
  rw [up_at]
  by_cases h : x = a
  · subst h
    by_cases h2 : k = n
    · subst h2; simp [cpyW]
    · simp only [cpyW, h2, and_false, if_false, if_true]
      by_cases h3 : k < n
      · simp [h3, show k < n + 1 by omega]
      · simp [h3, show ¬ k < n + 1 by omega]
  · simp [cpyW, h]
def clrF (D : DT) (i j : Nat) : DT := up (clrW D (5, i, j) 8) (4, i, j) 1 0
def cpyF (D : DT) (i j i2 j2 : Nat) : DT := up (cpyW D (5, i, j) (5, i2, j2) 8) (4, i, j) 1 (D (4, i2, j2) 1)

set_option maxRecDepth 20000 in
set_option maxHeartbeats 2000000 in
theorem l_clear (K : EK) (d : Nat) {i j : Nat} (hok : okA (4, i, j)) (D : DT) : ∀ n k, k ≤ 8 → 9 ≤ k + n → RD K mX4_clear d 2 [some (rR (4, i, j)), some (rI (nI k))] [] (clrW D (5, i, j) k) (fun r0 D0 => r0 = none ∧ D0 = clrF D i j) := by
  intro n
  induction n with
  | zero =>
    intro k hk9 hn
    omega
  | succ n ih =>
    intro k hk9 hn
    refine RD.iload_n (pc := 2) dX4_clear_2 rfl ?_
    refine RD.bipush (pc := 3) (v := 8) dX4_clear_3 (by decide) ?_
    refine RD.icmp_ge (pc := 5) 21 dX4_clear_5 (by decide) (fun c5 => ?_) (fun c5 => ?_)
    · have hk8 : k = 8 := by
        have := (nI_leI (a := 8) (b := k) (by decide) (by omega)).mp c5
        omega
      subst hk8
      refine RD.aload_n (pc := 21) dX4_clear_21 rfl ?_
      refine RD.iconst (pc := 22) (v := 0) dX4_clear_22 (by decide) ?_
      refine RD.putf (pc := 23) dX4_clear_23 fpX4_15 hok rfl rfl rfl rfl ?_
      refine RD.ret (pc := 26) ⟨rfl, dX4_clear_26⟩ ?_
      exact ⟨rfl, rfl⟩
    · have hk : k < 8 := Nat.lt_of_not_le (fun h => c5 (nI_le h (by omega)))
      refine RD.aload_n (pc := 8) dX4_clear_8 rfl ?_
      refine RD.getR (pc := 9) dX4_clear_9 flX4_9 hok rfl rfl ?_
      refine RD.iload_n (pc := 12) dX4_clear_12 rfl ?_
      refine RD.iconst (pc := 13) (v := 0) dX4_clear_13 (by decide) ?_
      refine RD.iast (pc := 14) k dX4_clear_14 (ok45 hok) rfl rfl hk (by decide) ?_
      refine RD.iinc (pc := 15) (ls' := [some (rR (4, i, j)), some (rI (nI (k + 1)))]) dX4_clear_15 rfl (nI_1 k) (by decide) rfl ?_
      refine RD.goto (pc := 18) 2 dX4_clear_18 (by decide) ?_
      rw [clrW_s]
      exact ih (k + 1) (by omega) (by omega)

set_option maxRecDepth 20000 in
set_option maxHeartbeats 2000000 in
theorem c_clear (K : EK) (d : Nat) {i j : Nat} (hok : okA (4, i, j)) (D : DT) : CF K mX4_clear d [rR (4, i, j)] D (none) (clrF D i j) := by
  refine CF.of [some (rR (4, i, j)), none] (by decide) (leb rfl) rfl ?_
  refine RD.iconst (pc := 0) (v := 0) dX4_clear_0 (by decide) ?_
  refine RD.istore_n (pc := 1) (ls' := [some (rR (4, i, j)), some (rI 0)]) dX4_clear_1 (by decide) rfl ?_
  have h := l_clear K d hok D 9 0 (by omega) (by omega)
  rw [clrW_0] at h
  exact h

set_option maxRecDepth 20000 in
set_option maxHeartbeats 2000000 in
theorem l_copy (K : EK) (d : Nat) {i j i2 j2 : Nat} (hok : okA (4, i, j)) (hok2 : okA (4, i2, j2)) (D : DT) : ∀ n k, k ≤ 8 → 9 ≤ k + n → RD K mX4_copy d 2 [some (rR (4, i, j)), some (rR (4, i2, j2)), some (rI (nI k))] [] (cpyW D (5, i, j) (5, i2, j2) k) (fun r0 D0 => r0 = none ∧ D0 = cpyF D i j i2 j2) := by
  intro n
  induction n with
  | zero =>
    intro k hk9 hn
    omega
  | succ n ih =>
    intro k hk9 hn
    refine RD.iload_n (pc := 2) dX4_copy_2 rfl ?_
    refine RD.bipush (pc := 3) (v := 8) dX4_copy_3 (by decide) ?_
    refine RD.icmp_ge (pc := 5) 26 dX4_copy_5 (by decide) (fun c5 => ?_) (fun c5 => ?_)
    · have hk8 : k = 8 := by
        have := (nI_leI (a := 8) (b := k) (by decide) (by omega)).mp c5
        omega
      subst hk8
      refine RD.aload_n (pc := 26) dX4_copy_26 rfl ?_
      refine RD.aload_n (pc := 27) dX4_copy_27 rfl ?_
      refine RD.gI (pc := 28) (v := D (4, i2, j2) 1) (by simp [cpyW]) dX4_copy_28 flX4_15 hok2 rfl rfl ?_
      refine RD.putf (pc := 31) dX4_copy_31 fpX4_15 hok rfl rfl rfl rfl ?_
      refine RD.ret (pc := 34) ⟨rfl, dX4_copy_34⟩ ?_
      exact ⟨rfl, rfl⟩
    · have hk : k < 8 := Nat.lt_of_not_le (fun h => c5 (nI_le h (by omega)))
      refine RD.aload_n (pc := 8) dX4_copy_8 rfl ?_
      refine RD.getR (pc := 9) dX4_copy_9 flX4_9 hok rfl rfl ?_
      refine RD.iload_n (pc := 12) dX4_copy_12 rfl ?_
      refine RD.aload_n (pc := 13) dX4_copy_13 rfl ?_
      refine RD.getR (pc := 14) dX4_copy_14 flX4_9 hok2 rfl rfl ?_
      refine RD.iload_n (pc := 17) dX4_copy_17 rfl ?_
      refine RD.iL (pc := 18) k (v := D (5, i2, j2) k) (cpyW_r D (5, i, j) (5, i2, j2) k) dX4_copy_18 (ok45 hok2) rfl rfl hk (by decide) ?_
      refine RD.iast (pc := 19) k dX4_copy_19 (ok45 hok) rfl rfl hk (by decide) ?_
      refine RD.iinc (pc := 20) (ls' := [some (rR (4, i, j)), some (rR (4, i2, j2)), some (rI (nI (k + 1)))]) dX4_copy_20 rfl (nI_1 k) (by decide) rfl ?_
      refine RD.goto (pc := 23) 2 dX4_copy_23 (by decide) ?_
      rw [cpyW_s]
      exact ih (k + 1) (by omega) (by omega)

set_option maxRecDepth 20000 in
set_option maxHeartbeats 2000000 in
theorem c_copy (K : EK) (d : Nat) {i j i2 j2 : Nat} (hok : okA (4, i, j)) (hok2 : okA (4, i2, j2)) (D : DT) : CF K mX4_copy d [rR (4, i, j), rR (4, i2, j2)] D (none) (cpyF D i j i2 j2) := by
  refine CF.of [some (rR (4, i, j)), some (rR (4, i2, j2)), none] (by decide) (leb rfl) rfl ?_
  refine RD.iconst (pc := 0) (v := 0) dX4_copy_0 (by decide) ?_
  refine RD.istore_n (pc := 1) (ls' := [some (rR (4, i, j)), some (rR (4, i2, j2)), some (rI 0)]) dX4_copy_1 (by decide) rfl ?_
  have h := l_copy K d hok hok2 D 9 0 (by omega) (by omega)
  rw [cpyW_0] at h
  exact h


def subE (f g h : Nat → Int32) : Bool := (List.range 8).all (fun k => decide (f k &&& ((g k ||| h k) ^^^ (-1)) = 0))
theorem subE_t {f g h : Nat → Int32} (H : ∀ k, k < 8 → f k &&& ((g k ||| h k) ^^^ (-1)) = 0) : subE f g h = true := by
  simp only [subE, List.all_eq_true, List.mem_range, decide_eq_true_eq]
  exact H
theorem subE_f {f g h : Nat → Int32} {k : Nat} (hk : k < 8) (H : ¬ f k &&& ((g k ||| h k) ^^^ (-1)) = 0) : subE f g h = false := by
  cases hq : subE f g h with
  | false => rfl
  | true =>
    simp only [subE, List.all_eq_true, List.mem_range, decide_eq_true_eq] at hq
    exact absurd (hq k hk) H

set_option maxRecDepth 20000 in
set_option maxHeartbeats 2000000 in
theorem l_isInEither (K : EK) (d : Nat) {i j i2 j2 i3 j3 : Nat} (hok : okA (4, i, j)) (hok2 : okA (4, i2, j2)) (hok3 : okA (4, i3, j3)) (D : DT) : ∀ n k, k ≤ 8 → 9 ≤ k + n → (∀ m, m < k → D (5, i, j) m &&& ((D (5, i2, j2) m ||| D (5, i3, j3) m) ^^^ (-1)) = 0) → RD K mX4_isInEither d 2 [some (rR (4, i, j)), some (rR (4, i2, j2)), some (rR (4, i3, j3)), some (rI (nI k))] [] D (fun r0 D0 => r0 = some (rI (bI (subE (D (5, i, j)) (D (5, i2, j2)) (D (5, i3, j3))))) ∧ D0 = D) := by
  intro n
  induction n with
  | zero =>
    intro k hk9 hn hi
    omega
  | succ n ih =>
    intro k hk9 hn hi
    refine RD.iload_n (pc := 2) dX4_isInEither_2 rfl ?_
    refine RD.bipush (pc := 3) (v := 8) dX4_isInEither_3 (by decide) ?_
    refine RD.icmp_ge (pc := 5) 41 dX4_isInEither_5 (by decide) (fun c5 => ?_) (fun c5 => ?_)
    · have hk8 : k = 8 := by
        have := (nI_leI (a := 8) (b := k) (by decide) (by omega)).mp c5
        omega
      subst hk8
      refine RD.iconst (pc := 41) (v := 1) dX4_isInEither_41 (by decide) ?_
      refine RD.ireturn (pc := 42) dX4_isInEither_42 rfl rfl ?_
      exact ⟨by rw [subE_t hi]; rfl, rfl⟩
    · have hk : k < 8 := Nat.lt_of_not_le (fun h => c5 (nI_le h (by omega)))
      refine RD.aload_n (pc := 8) dX4_isInEither_8 rfl ?_
      refine RD.getR (pc := 9) dX4_isInEither_9 flX4_9 hok rfl rfl ?_
      refine RD.iload_n (pc := 12) dX4_isInEither_12 rfl ?_
      refine RD.iL (pc := 13) k (v := D (5, i, j) k) rfl dX4_isInEither_13 (ok45 hok) rfl rfl hk (by decide) ?_
      refine RD.aload_n (pc := 14) dX4_isInEither_14 rfl ?_
      refine RD.getR (pc := 15) dX4_isInEither_15 flX4_9 hok2 rfl rfl ?_
      refine RD.iload_n (pc := 18) dX4_isInEither_18 rfl ?_
      refine RD.iL (pc := 19) k (v := D (5, i2, j2) k) rfl dX4_isInEither_19 (ok45 hok2) rfl rfl hk (by decide) ?_
      refine RD.aload_n (pc := 20) dX4_isInEither_20 rfl ?_
      refine RD.getR (pc := 21) dX4_isInEither_21 flX4_9 hok3 rfl rfl ?_
      refine RD.iload_n (pc := 24) dX4_isInEither_24 rfl ?_
      refine RD.iL (pc := 25) k (v := D (5, i3, j3) k) rfl dX4_isInEither_25 (ok45 hok3) rfl rfl hk (by decide) ?_
      refine RD.ior (pc := 26) dX4_isInEither_26 ?_
      refine RD.iconst (pc := 27) (v := (-1)) dX4_isInEither_27 (by decide) ?_
      refine RD.ixor (pc := 28) dX4_isInEither_28 ?_
      refine RD.iand (pc := 29) dX4_isInEither_29 ?_
      refine RD.if_eq (pc := 30) 35 dX4_isInEither_30 (by decide) (fun c30 => ?_) (fun c30 => ?_)
      · refine RD.iinc (pc := 35) (ls' := [some (rR (4, i, j)), some (rR (4, i2, j2)), some (rR (4, i3, j3)), some (rI (nI (k + 1)))]) dX4_isInEither_35 rfl (nI_1 k) (by decide) rfl ?_
        refine RD.goto (pc := 38) 2 dX4_isInEither_38 (by decide) ?_
        exact ih (k + 1) (by omega) (by omega) (lt_s hi c30)
      · refine RD.iconst (pc := 33) (v := 0) dX4_isInEither_33 (by decide) ?_
        refine RD.ireturn (pc := 34) dX4_isInEither_34 rfl rfl ?_
        exact ⟨by rw [subE_f hk c30]; rfl, rfl⟩

set_option maxRecDepth 20000 in
set_option maxHeartbeats 2000000 in
theorem c_isInEither (K : EK) (d : Nat) {i j i2 j2 i3 j3 : Nat} (hok : okA (4, i, j)) (hok2 : okA (4, i2, j2)) (hok3 : okA (4, i3, j3)) (D : DT) : CF K mX4_isInEither d [rR (4, i, j), rR (4, i2, j2), rR (4, i3, j3)] D (some (rI (bI (subE (D (5, i, j)) (D (5, i2, j2)) (D (5, i3, j3)))))) D := by
  refine CF.of [some (rR (4, i, j)), some (rR (4, i2, j2)), some (rR (4, i3, j3)), none] (by decide) (leb rfl) rfl ?_
  refine RD.iconst (pc := 0) (v := 0) dX4_isInEither_0 (by decide) ?_
  refine RD.istore_n (pc := 1) (ls' := [some (rR (4, i, j)), some (rR (4, i2, j2)), some (rR (4, i3, j3)), some (rI 0)]) dX4_isInEither_1 (by decide) rfl ?_
  exact l_isInEither K d hok hok2 hok3 D 9 0 (by omega) (by omega) (fun m hm => absurd hm (Nat.not_lt_zero m))


def subB (f g : Nat → Int32) : Bool := subE f g g

set_option maxRecDepth 20000 in
set_option maxHeartbeats 1000000 in
theorem c_isIn (K : EK) (d : Nat) {i j i2 j2 : Nat} (hok : okA (4, i, j)) (hok2 : okA (4, i2, j2)) (D : DT) : CF K mX4_isIn (d + 1) [rR (4, i, j), rR (4, i2, j2)] D (some (rI (bI (subB (D (5, i, j)) (D (5, i2, j2)))))) D := by
  refine CF.of [some (rR (4, i, j)), some (rR (4, i2, j2))] (by decide) (leb rfl) rfl ?_
  refine RD.aload_n (pc := 0) dX4_isIn_0 rfl ?_
  refine RD.aload_n (pc := 1) dX4_isIn_1 rfl ?_
  refine RD.aload_n (pc := 2) dX4_isIn_2 rfl ?_
  refine RD.cV2 (pc := 3) dX4_isIn_3 mlX4_33 rfl hok rfl (c_isInEither K _ hok hok2 hok2 D) (leb rfl) ?_
  refine RD.ireturn (pc := 6) dX4_isIn_6 rfl (nar_bI _) ?_
  exact ⟨rfl, rfl⟩


/-- the i-th tag from k on, c being counted so far -/
def nthL (f : Nat → Int32) : Nat → Nat → Int32 → Int32 → Int32
  | 0, _, _, _ => -1
  | n + 1, k, c, x => if tg f k = true then (if c = x then nI k else nthL f n (k + 1) (c + 1) x) else nthL f n (k + 1) c x
def tagAtF (D : DT) (i j : Nat) (x : Int32) : Int32 := if x < 0 then -1 else if x < D (4, i, j) 1 then nthL (D (5, i, j)) 256 0 0 x else -1

set_option maxRecDepth 20000 in
set_option maxHeartbeats 2000000 in
theorem l_tagAt (K : EK) (d : Nat) {i j : Nat} (hok : okA (4, i, j)) (D : DT) (x : Int32) : ∀ n (k : Nat) (c : Int32), k + n = 256 → RD K mX4_tagAt (d + 1) 18 [some (rR (4, i, j)), some (rI x), some (rI c), some (rI (nI k))] [] D (fun r0 D0 => r0 = some (rI (nthL (D (5, i, j)) n k c x)) ∧ D0 = D) := by
  intro n
  induction n with
  | zero =>
    intro k c hk
    refine RD.iload_n (pc := 18) dX4_tagAt_18 rfl ?_
    refine RD.sipush (pc := 19) (v := 256) dX4_tagAt_19 (by decide) ?_
    refine RD.icmp_ge (pc := 22) 49 dX4_tagAt_22 (by decide) (fun c22 => ?_) (fun c22 => absurd (nI_le (a := 256) (b := k) (by omega) (by omega)) c22)
    refine RD.iconst (pc := 49) (v := (-1)) dX4_tagAt_49 (by decide) ?_
    refine RD.ireturn (pc := 50) dX4_tagAt_50 rfl rfl ?_
    exact ⟨rfl, rfl⟩
  | succ n ih =>
    intro k c hk
    refine RD.iload_n (pc := 18) dX4_tagAt_18 rfl ?_
    refine RD.sipush (pc := 19) (v := 256) dX4_tagAt_19 (by decide) ?_
    refine RD.icmp_ge (pc := 22) 49 dX4_tagAt_22 (by decide) (fun c22 => absurd c22 (nI_ge (a := k) (b := 256) (by omega) (by decide))) (fun c22 => ?_)
    refine RD.aload_n (pc := 25) dX4_tagAt_25 rfl ?_
    refine RD.iload_n (pc := 26) dX4_tagAt_26 rfl ?_
    refine RD.cV1 (pc := 27) dX4_tagAt_27 mlX4_23 rfl hok rfl (c_has K _ hok D (nI k)) (leb rfl) ?_
    rw [hasF_nI (by omega)]
    refine RD.if_eq (pc := 30) 43 dX4_tagAt_30 (by decide) (fun c30 => ?_) (fun c30 => ?_)
    · rw [show nthL (D (5, i, j)) (n + 1) k c x = nthL (D (5, i, j)) n (k + 1) c x by simp [nthL, bI_0 c30]]
      refine RD.iinc (pc := 43) (ls' := [some (rR (4, i, j)), some (rI x), some (rI c), some (rI (nI (k + 1)))]) dX4_tagAt_43 rfl (nI_1 k) (by decide) rfl ?_
      refine RD.goto (pc := 46) 18 dX4_tagAt_46 (by decide) ?_
      exact ih (k + 1) c (by omega)
    · refine RD.iload_n (pc := 33) dX4_tagAt_33 rfl ?_
      refine RD.iload_n (pc := 34) dX4_tagAt_34 rfl ?_
      refine RD.icmp_ne (pc := 35) 40 dX4_tagAt_35 (by decide) (fun c35 => ?_) (fun c35 => ?_)
      · refine RD.iinc (pc := 40) (ls' := [some (rR (4, i, j)), some (rI x), some (rI (c + 1)), some (rI (nI k))]) dX4_tagAt_40 rfl rfl (by decide) rfl ?_
        rw [show nthL (D (5, i, j)) (n + 1) k c x = nthL (D (5, i, j)) n (k + 1) (c + 1) x by simp [nthL, bI_1 c30, c35]]
        refine RD.iinc (pc := 43) (ls' := [some (rR (4, i, j)), some (rI x), some (rI (c + 1)), some (rI (nI (k + 1)))]) dX4_tagAt_43 rfl (nI_1 k) (by decide) rfl ?_
        refine RD.goto (pc := 46) 18 dX4_tagAt_46 (by decide) ?_
        exact ih (k + 1) (c + 1) (by omega)
      · refine RD.iload_n (pc := 38) dX4_tagAt_38 rfl ?_
        refine RD.ireturn (pc := 39) dX4_tagAt_39 rfl rfl ?_
        exact ⟨by simp [nthL, bI_1 c30, c35], rfl⟩

set_option maxRecDepth 20000 in
set_option maxHeartbeats 1000000 in
theorem c_tagAt (K : EK) (d : Nat) {i j : Nat} (hok : okA (4, i, j)) (D : DT) (x : Int32) : CF K mX4_tagAt (d + 1) [rR (4, i, j), rI x] D (some (rI (tagAtF D i j x))) D := by
  refine CF.of [some (rR (4, i, j)), some (rI x), none, none] (by decide) (leb rfl) rfl ?_
  refine RD.iload_n (pc := 0) dX4_tagAt_0 rfl ?_
  refine RD.if_lt (pc := 1) 12 dX4_tagAt_1 (by decide) (fun c1 => ?_) (fun c1 => ?_)
  · refine RD.iconst (pc := 12) (v := (-1)) dX4_tagAt_12 (by decide) ?_
    refine RD.ireturn (pc := 13) dX4_tagAt_13 rfl rfl ?_
    exact ⟨by simp [tagAtF, c1], rfl⟩
  · refine RD.iload_n (pc := 4) dX4_tagAt_4 rfl ?_
    refine RD.aload_n (pc := 5) dX4_tagAt_5 rfl ?_
    refine RD.gI (pc := 6) (v := D (4, i, j) 1) rfl dX4_tagAt_6 flX4_15 hok rfl rfl ?_
    refine RD.icmp_lt (pc := 9) 14 dX4_tagAt_9 (by decide) (fun c9 => ?_) (fun c9 => ?_)
    · refine RD.iconst (pc := 14) (v := 0) dX4_tagAt_14 (by decide) ?_
      refine RD.istore_n (pc := 15) (ls' := [some (rR (4, i, j)), some (rI x), some (rI 0), none]) dX4_tagAt_15 (by decide) rfl ?_
      refine RD.iconst (pc := 16) (v := 0) dX4_tagAt_16 (by decide) ?_
      refine RD.istore_n (pc := 17) (ls' := [some (rR (4, i, j)), some (rI x), some (rI 0), some (rI 0)]) dX4_tagAt_17 (by decide) rfl ?_
      have h := l_tagAt K d hok D x 256 0 0 rfl
      rw [show nthL (D (5, i, j)) 256 0 0 x = tagAtF D i j x by simp [tagAtF, c1, c9]] at h
      exact h
    · refine RD.iconst (pc := 12) (v := (-1)) dX4_tagAt_12 (by decide) ?_
      refine RD.ireturn (pc := 13) dX4_tagAt_13 rfl rfl ?_
      exact ⟨by simp [tagAtF, c1, c9], rfl⟩
end
section
theorem ad_ne {a b : AD} (h : a.1 ≠ b.1) : a ≠ b := fun e => h (by rw [e])
theorem cpyF_o {D : DT} {i j i2 j2 : Nat} {a : AD} (h4 : a.1 ≠ 4) (h5 : a.1 ≠ 5) : cpyF D i j i2 j2 a = D a := by
  rw [cpyF, up_n (ad_ne h4), cpyW, if_neg (ad_ne h5)]
theorem clrF_o {D : DT} {i j : Nat} {a : AD} (h4 : a.1 ≠ 4) (h5 : a.1 ≠ 5) : clrF D i j a = D a := by
  rw [clrF, up_n (ad_ne h4), clrW, if_neg (ad_ne h5)]
theorem addD_o {D : DT} {i j n : Nat} {a : AD} (h4 : a.1 ≠ 4) (h5 : a.1 ≠ 5) : addD D i j n a = D a := by
  rw [addD, up_n (ad_ne h4), up_n (ad_ne h5)]
theorem remD_o {D : DT} {i j n : Nat} {a : AD} (h4 : a.1 ≠ 4) (h5 : a.1 ≠ 5) : remD D i j n a = D a := by
  rw [remD, up_n (ad_ne h4), up_n (ad_ne h5)]
theorem addF_o {D : DT} {i j : Nat} {t : Int32} {a : AD} (h4 : a.1 ≠ 4) (h5 : a.1 ≠ 5) : addF D i j t a = D a := by
  unfold addF
  split
  · exact addD_o h4 h5
  · rfl
theorem remF_o {D : DT} {i j : Nat} {t : Int32} {a : AD} (h4 : a.1 ≠ 4) (h5 : a.1 ≠ 5) : remF D i j t a = D a := by
  unfold remF
  split
  · exact remD_o h4 h5
  · rfl
theorem chgD_o {D : DT} {i j : Nat} {t b m : Int32} {a : AD} (h4 : a.1 ≠ 4) (h5 : a.1 ≠ 5) : chgD D i j t b m a = D a := by
  unfold chgD
  split
  · exact remF_o h4 h5
  · split
    · rfl
    · split
      · exact addF_o h4 h5
      · rfl
theorem bIin {n N : Nat} (hN : N < 2 ^ 31) (h : n < N) : ¬ bI (inR (nI n) N) = 0 := by rw [inR_nI hN h]; decide
theorem bIout {t : Int32} {N : Nat} (h : inR t N = false) : bI (inR t N) = 0 := by rw [h]; rfl
theorem mod8 {p z : Nat} (h : p + z < 2 ^ 31) : nI p + nI z - (nI p + nI z) / 8 * 8 = nI ((p + z) % 8) := by
  rw [nI_add]; exact pk_rem (d := 8) h (by decide) (by decide)
theorem mod81 {p : Nat} (h : p < 8) : nI p + 1 - (nI p + 1) / 8 * 8 = nI ((p + 1) % 8) := by
  rw [nI_1]; exact pk_rem (d := 8) (by omega) (by decide) (by decide)
/-- a message at the queue's end -/
def putF (D : DT) (i s : Nat) (v kd : Int32) (p z : Nat) : DT := up (up (up (up (cpyF D i (3 + (p + z) % 8) s 0) (8, i, (p + z) % 8) 1 (nI s)) (8, i, (p + z) % 8) 2 v) (8, i, (p + z) % 8) 3 kd) (6, i, 0) 2 (nI z + 1)

set_option maxRecDepth 20000 in
set_option maxHeartbeats 1000000 in
theorem c_put (K : EK) (d : Nat) {i s : Nat} (hi : i < 8) (hs : s < 8) (D : DT) (v kd : Int32) {p z : Nat} (hp : p < 8) (hf : D (6, i, 0) 1 = nI p) (hz : D (6, i, 0) 2 = nI z) (hz8 : z < 8) : CF K mX1_put (d + 1) [rR (6, i, 0), rR (2, s, 0), rI v, rI kd] D (some (rI 1)) (putF D i s v kd p z) := by
  refine CF.of [some (rR (6, i, 0)), some (rR (2, s, 0)), some (rI v), some (rI kd), none] (by decide) (leb rfl) rfl ?_
  refine RD.aload_n (pc := 0) dX1_put_0 rfl ?_
  refine RD.gI (pc := 1) (v := nI z) hz dX1_put_1 flX1_21 (ok6 hi) rfl rfl ?_
  refine RD.bipush (pc := 4) (v := 8) dX1_put_4 (by decide) ?_
  refine RD.icmp_lt (pc := 6) 11 dX1_put_6 (by decide) (fun c6 => ?_) (fun c6 => absurd (nI_lt (b := 8) hz8 (by decide)) c6)
  refine RD.aload_n (pc := 11) dX1_put_11 rfl ?_
  refine RD.getR (pc := 12) dX1_put_12 flX1_11 (ok6 hi) rfl rfl ?_
  refine RD.aload_n (pc := 15) dX1_put_15 rfl ?_
  refine RD.gI (pc := 16) (v := nI p) hf dX1_put_16 flX1_17 (ok6 hi) rfl rfl ?_
  refine RD.aload_n (pc := 19) dX1_put_19 rfl ?_
  refine RD.gI (pc := 20) (v := nI z) hz dX1_put_20 flX1_21 (ok6 hi) rfl rfl ?_
  refine RD.iadd (pc := 23) dX1_put_23 ?_
  refine RD.bipush (pc := 24) (v := 8) dX1_put_24 (by decide) ?_
  refine RD.irem (pc := 26) dX1_put_26 (by decide) ?_
  refine RD.aald (pc := 27) ((p + z) % 8) dX1_put_27 (ok7 hi) rfl rfl (mod8 (by omega)) (by omega) (by decide) ?_
  refine RD.astore (pc := 28) (ls' := [some (rR (6, i, 0)), some (rR (2, s, 0)), some (rI v), some (rI kd), some (rR (8, i, (p + z) % 8))]) dX1_put_28 (by decide) rfl ?_
  refine RD.aload (pc := 30) dX1_put_30 rfl ?_
  refine RD.getR (pc := 32) dX1_put_32 flX1_25 (ok8 hi (by omega)) rfl rfl ?_
  refine RD.aload_n (pc := 35) dX1_put_35 rfl ?_
  refine RD.getR (pc := 36) dX1_put_36 flX1_29 (ok2 hs) rfl rfl ?_
  refine RD.cV1v (pc := 39) dX1_put_39 mlX1_32 rfl (ok4 hi (by omega)) rfl (c_copy K _ (ok4 hi (by omega)) (ok4 hs (by decide)) D) (leb rfl) ?_
  refine RD.aload (pc := 42) dX1_put_42 rfl ?_
  refine RD.aload_n (pc := 44) dX1_put_44 rfl ?_
  refine RD.getR (pc := 45) dX1_put_45 flX1_38 (ok2 hs) rfl rfl ?_
  refine RD.putf (pc := 48) dX1_put_48 fpX1_41 (ok8 hi (by omega)) rfl rfl rfl rfl ?_
  refine RD.aload (pc := 51) dX1_put_51 rfl ?_
  refine RD.iload_n (pc := 53) dX1_put_53 rfl ?_
  refine RD.putf (pc := 54) dX1_put_54 fpX1_44 (ok8 hi (by omega)) rfl rfl rfl rfl ?_
  refine RD.aload (pc := 57) dX1_put_57 rfl ?_
  refine RD.iload_n (pc := 59) dX1_put_59 rfl ?_
  refine RD.putf (pc := 60) dX1_put_60 fpX1_47 (ok8 hi (by omega)) rfl rfl rfl rfl ?_
  refine RD.aload_n (pc := 63) dX1_put_63 rfl ?_
  refine RD.dup (pc := 64) dX1_put_64 ?_
  refine RD.gI (pc := 65) (v := nI z) (up_N (by simp) (up_N (by simp) (up_N (by simp) ((congrFun (cpyF_o (by simp) (by simp)) _).trans hz)))) dX1_put_65 flX1_21 (ok6 hi) rfl rfl ?_
  refine RD.iconst (pc := 68) (v := 1) dX1_put_68 (by decide) ?_
  refine RD.iadd (pc := 69) dX1_put_69 ?_
  refine RD.putf (pc := 70) dX1_put_70 fpX1_21 (ok6 hi) rfl rfl rfl rfl ?_
  refine RD.iconst (pc := 73) (v := 1) dX1_put_73 (by decide) ?_
  refine RD.ireturn (pc := 74) dX1_put_74 rfl rfl ?_
  exact ⟨rfl, rfl⟩

set_option maxRecDepth 20000 in
set_option maxHeartbeats 1000000 in
theorem c_putFull (K : EK) (d : Nat) {i s : Nat} (hi : i < 8) (hs : s < 8) (D : DT) (v kd : Int32) {p z : Nat} (hp : p < 8) (hf : D (6, i, 0) 1 = nI p) (hz : D (6, i, 0) 2 = nI z) (hz8 : z = 8) : CF K mX1_put (d + 1) [rR (6, i, 0), rR (2, s, 0), rI v, rI kd] D (some (rI 0)) D := by
  refine CF.of [some (rR (6, i, 0)), some (rR (2, s, 0)), some (rI v), some (rI kd), none] (by decide) (leb rfl) rfl ?_
  refine RD.aload_n (pc := 0) dX1_put_0 rfl ?_
  refine RD.gI (pc := 1) (v := nI z) hz dX1_put_1 flX1_21 (ok6 hi) rfl rfl ?_
  refine RD.bipush (pc := 4) (v := 8) dX1_put_4 (by decide) ?_
  refine RD.icmp_lt (pc := 6) 11 dX1_put_6 (by decide) (fun c6 => absurd c6 (by rw [hz8]; decide)) (fun c6 => ?_)
  refine RD.iconst (pc := 9) (v := 0) dX1_put_9 (by decide) ?_
  refine RD.ireturn (pc := 10) dX1_put_10 rfl rfl ?_
  exact ⟨rfl, rfl⟩


/-- the queue's first place and size -/
def qst (D : DT) (i p z : Nat) : DT := up (up D (6, i, 0) 1 (nI p)) (6, i, 0) 2 (nI z)
theorem qst_1 {D : DT} {i p z : Nat} : qst D i p z (6, i, 0) 1 = nI p := by simp [qst, up_at]
theorem qst_2 {D : DT} {i p z : Nat} : qst D i p z (6, i, 0) 2 = nI z := by simp [qst, up_at]
theorem qst_o {D : DT} {i p z : Nat} {a : AD} (h : a.1 ≠ 6) : qst D i p z a = D a := by rw [qst, up_n (ad_ne h), up_n (ad_ne h)]
theorem qst_s {D : DT} {i p z p2 z2 : Nat} : up (up (qst D i p z) (6, i, 0) 1 (nI p2)) (6, i, 0) 2 (nI z2) = qst D i p2 z2 := by
  funext a k
  simp only [qst, up_at]
  by_cases h : a = (6, i, 0)
  · subst h
    by_cases h2 : k = 2
    · simp [h2]
    · by_cases h1 : k = 1
      · simp [h1]
      · simp [h1, h2]
  · simp [h]
theorem qst_id {D : DT} {i p z : Nat} (hf : D (6, i, 0) 1 = nI p) (hz : D (6, i, 0) 2 = nI z) : qst D i p z = D := by
  funext a k
  simp only [qst, up_at]
  by_cases h : a = (6, i, 0)
  · subst h
    by_cases h2 : k = 2
    · simp [h2, hz]
    · by_cases h1 : k = 1
      · simp [h1, hf]
      · simp [h1, h2]
  · simp [h]
/-- which message is taken, and what first and size are then -/
def tk (c : Nat → Bool) : Nat → Nat → Option Nat × Nat × Nat
  | p, 0 => (none, p, 0)
  | p, z + 1 => if c p = true then (some p, (p + 1) % 8, z) else tk c ((p + 1) % 8) z
theorem tk_lt (c : Nat → Bool) : ∀ (z p : Nat), p < 8 → (tk c p z).2.1 < 8 ∧ (tk c p z).2.2 ≤ z ∧ ∀ q, (tk c p z).1 = some q → q < 8
  | 0, p, h => ⟨h, Nat.le_refl _, fun q hq => by cases hq⟩
  | z + 1, p, h => by
    unfold tk
    split
    · exact ⟨Nat.mod_lt _ (by decide), Nat.le_succ z, fun q hq => by cases hq; exact h⟩
    · obtain ⟨h1, h2, h3⟩ := tk_lt c z ((p + 1) % 8) (Nat.mod_lt _ (by decide))
      exact ⟨h1, Nat.le_succ_of_le h2, h3⟩
def orf (i : Nat) : Option Nat → AV
  | none => rN
  | some q => rR (8, i, q)
abbrev tkc (D : DT) (i i2 j2 : Nat) : Nat → Bool := fun q => subB (D (5, i, 3 + q)) (D (5, i2, j2))

set_option maxRecDepth 20000 in
set_option maxHeartbeats 2000000 in
theorem l_take (K : EK) (d : Nat) {i i2 j2 : Nat} (hi : i < 8) (hok2 : okA (4, i2, j2)) (D : DT) : ∀ z p, p < 8 → z ≤ 8 → RD K mX1_take (d + 2) 5 [some (rR (6, i, 0)), some (rR (4, i2, j2)), some (rI (nI z)), none] [] (qst D i p z) (fun r0 D0 => r0 = some (orf i (tk (tkc D i i2 j2) p z).1) ∧ D0 = qst D i (tk (tkc D i i2 j2) p z).2.1 (tk (tkc D i i2 j2) p z).2.2) := by
  intro z
  induction z with
  | zero =>
    intro p hp hz
    refine RD.iload_n (pc := 5) dX1_take_5 rfl ?_
    refine RD.if_le (pc := 6) 61 dX1_take_6 (by decide) (fun _ => ?_) (fun c6 => absurd (by decide) c6)
    refine RD.null (pc := 61) dX1_take_61 ?_
    refine RD.areturn (pc := 62) dX1_take_62 rfl ?_
    exact ⟨rfl, rfl⟩
  | succ z ih =>
    intro p hp hz8
    refine RD.iload_n (pc := 5) dX1_take_5 rfl ?_
    refine RD.if_le (pc := 6) 61 dX1_take_6 (by decide) (fun c6 => absurd c6 (nI_nle (by omega) (by omega))) (fun c6 => ?_)
    refine RD.aload_n (pc := 9) dX1_take_9 rfl ?_
    refine RD.getR (pc := 10) dX1_take_10 flX1_11 (ok6 hi) rfl rfl ?_
    refine RD.aload_n (pc := 13) dX1_take_13 rfl ?_
    refine RD.gI (pc := 14) (v := nI p) qst_1 dX1_take_14 flX1_17 (ok6 hi) rfl rfl ?_
    refine RD.aald (pc := 17) p dX1_take_17 (ok7 hi) rfl rfl rfl hp (by decide) ?_
    refine RD.astore_n (pc := 18) (ls' := [some (rR (6, i, 0)), some (rR (4, i2, j2)), some (rI (nI (z + 1))), some (rR (8, i, p))]) dX1_take_18 (by decide) rfl ?_
    refine RD.aload_n (pc := 19) dX1_take_19 rfl ?_
    refine RD.aload_n (pc := 20) dX1_take_20 rfl ?_
    refine RD.gI (pc := 21) (v := nI p) qst_1 dX1_take_21 flX1_17 (ok6 hi) rfl rfl ?_
    refine RD.iconst (pc := 24) (v := 1) dX1_take_24 (by decide) ?_
    refine RD.iadd (pc := 25) dX1_take_25 ?_
    refine RD.bipush (pc := 26) (v := 8) dX1_take_26 (by decide) ?_
    refine RD.irem (pc := 28) dX1_take_28 (by decide) ?_
    refine RD.putf (pc := 29) dX1_take_29 fpX1_17 (ok6 hi) rfl rfl rfl rfl ?_
    refine RD.aload_n (pc := 32) dX1_take_32 rfl ?_
    refine RD.dup (pc := 33) dX1_take_33 ?_
    refine RD.gI (pc := 34) (v := nI (z + 1)) (up_K (by decide) qst_2) dX1_take_34 flX1_21 (ok6 hi) rfl rfl ?_
    refine RD.iconst (pc := 37) (v := 1) dX1_take_37 (by decide) ?_
    refine RD.isub (pc := 38) dX1_take_38 ?_
    refine RD.putf (pc := 39) dX1_take_39 fpX1_21 (ok6 hi) rfl rfl rfl rfl ?_
    refine RD.eqD (D' := qst D i ((p + 1) % 8) z) (by rw [mod81 hp, nI_pred]; exact qst_s) ?_
    refine RD.aload_n (pc := 42) dX1_take_42 rfl ?_
    refine RD.getR (pc := 43) dX1_take_43 flX1_25 (ok8 hi hp) rfl rfl ?_
    refine RD.aload_n (pc := 46) dX1_take_46 rfl ?_
    refine RD.cV1 (pc := 47) dX1_take_47 mlX1_50 rfl (ok4 hi (by omega)) rfl (c_isIn K _ (ok4 hi (by omega)) hok2 (qst D i ((p + 1) % 8) z)) (leb rfl) ?_
    refine RD.eqI (show _ = bI (tkc D i i2 j2 p) by rw [qst_o (by simp), qst_o (by simp)]) ?_
    refine RD.if_eq (pc := 50) 55 dX1_take_50 (by decide) (fun c50 => ?_) (fun c50 => ?_)
    · rw [show tk (tkc D i i2 j2) p (z + 1) = tk (tkc D i i2 j2) ((p + 1) % 8) z by rw [tk, bI_0 c50]; rfl]
      refine RD.iinc (pc := 55) (ls' := [some (rR (6, i, 0)), some (rR (4, i2, j2)), some (rI ((nI (z + 1)) + (-1))), some (rR (8, i, p))]) dX1_take_55 rfl rfl (by decide) rfl ?_
      refine RD.goto (pc := 58) 5 dX1_take_58 (by decide) ?_
      refine RD.forget 3 (ls' := [some (rR (6, i, 0)), some (rR (4, i2, j2)), some (rI (nI (z + 1) + (-1))), none]) rfl ?_
      rw [pk_m1]
      exact ih ((p + 1) % 8) (Nat.mod_lt _ (by decide)) (by omega)
    · refine RD.aload_n (pc := 53) dX1_take_53 rfl ?_
      refine RD.areturn (pc := 54) dX1_take_54 rfl ?_
      exact ⟨by rw [tk, bI_1 c50]; rfl, by rw [tk, bI_1 c50]; rfl⟩

set_option maxRecDepth 20000 in
set_option maxHeartbeats 2000000 in
theorem c_take (K : EK) (d : Nat) {i i2 j2 : Nat} (hi : i < 8) (hok2 : okA (4, i2, j2)) (D : DT) {p z : Nat} (hp : p < 8) (hz8 : z ≤ 8) (hf : D (6, i, 0) 1 = nI p) (hz : D (6, i, 0) 2 = nI z) : CF K mX1_take (d + 2) [rR (6, i, 0), rR (4, i2, j2)] D (some (orf i (tk (tkc D i i2 j2) p z).1)) (qst D i (tk (tkc D i i2 j2) p z).2.1 (tk (tkc D i i2 j2) p z).2.2) := by
  refine CF.of [some (rR (6, i, 0)), some (rR (4, i2, j2)), none, none] (by decide) (leb rfl) rfl ?_
  refine RD.aload_n (pc := 0) dX1_take_0 rfl ?_
  refine RD.gI (pc := 1) (v := nI z) hz dX1_take_1 flX1_21 (ok6 hi) rfl rfl ?_
  refine RD.istore_n (pc := 4) (ls' := [some (rR (6, i, 0)), some (rR (4, i2, j2)), some (rI (nI z)), none]) dX1_take_4 (by decide) rfl ?_
  have h := l_take K d hi hok2 D z p hp hz8
  rw [qst_id hf hz] at h
  exact h

def stopF (D : DT) (i : Nat) (n : Int32) : DT := up (up D (2, i, 0) 4 3) (2, i, 0) 5 n

set_option maxRecDepth 20000 in
set_option maxHeartbeats 1000000 in
theorem c_stopBy (K : EK) (d : Nat) {i : Nat} (hi : i < 8) (D : DT) (n : Int32) : CF K mX2_stopBy d [rR (2, i, 0), rI n] D (none) (stopF D i n) := by
  refine CF.of [some (rR (2, i, 0)), some (rI n)] (by decide) (leb rfl) rfl ?_
  refine RD.aload_n (pc := 0) dX2_stopBy_0 rfl ?_
  refine RD.iconst (pc := 1) (v := 3) dX2_stopBy_1 (by decide) ?_
  refine RD.putf (pc := 2) dX2_stopBy_2 fpX2_22 (ok2 hi) rfl rfl rfl rfl ?_
  refine RD.aload_n (pc := 5) dX2_stopBy_5 rfl ?_
  refine RD.iload_n (pc := 6) dX2_stopBy_6 rfl ?_
  refine RD.putf (pc := 7) dX2_stopBy_7 fpX2_25 (ok2 hi) rfl rfl rfl rfl ?_
  refine RD.ret (pc := 10) ⟨rfl, dX2_stopBy_10⟩ ?_
  exact ⟨rfl, rfl⟩

set_option maxRecDepth 20000 in
set_option maxHeartbeats 1000000 in
theorem c_cap0 (K : EK) (d : Nat) {i : Nat} (hi : i < 8) (D : DT) : CF K mX2_capabilities d [rR (2, i, 0), rI 0] D (some (rR (4, i, 1))) D := by
  refine CF.of [some (rR (2, i, 0)), some (rI 0)] (by decide) (leb rfl) rfl ?_
  refine RD.iload_n (pc := 0) dX2_capabilities_0 rfl ?_
  refine RD.if_ne (pc := 1) 11 dX2_capabilities_1 (by decide) (fun c1 => absurd rfl c1) (fun c1 => ?_)
  refine RD.aload_n (pc := 4) dX2_capabilities_4 rfl ?_
  refine RD.getR (pc := 5) dX2_capabilities_5 flX2_38 (ok2 hi) rfl rfl ?_
  refine RD.goto (pc := 8) 15 dX2_capabilities_8 (by decide) ?_
  refine RD.areturn (pc := 15) dX2_capabilities_15 rfl ?_
  exact ⟨rfl, rfl⟩

set_option maxRecDepth 20000 in
set_option maxHeartbeats 1000000 in
theorem c_cap1 (K : EK) (d : Nat) {i : Nat} (hi : i < 8) (D : DT) {k : Int32} (hk : ¬ k = 0) : CF K mX2_capabilities d [rR (2, i, 0), rI k] D (some (rR (4, i, 2))) D := by
  refine CF.of [some (rR (2, i, 0)), some (rI k)] (by decide) (leb rfl) rfl ?_
  refine RD.iload_n (pc := 0) dX2_capabilities_0 rfl ?_
  refine RD.if_ne (pc := 1) 11 dX2_capabilities_1 (by decide) (fun c1 => ?_) (fun c1 => absurd c1 hk)
  refine RD.aload_n (pc := 11) dX2_capabilities_11 rfl ?_
  refine RD.getR (pc := 12) dX2_capabilities_12 flX2_41 (ok2 hi) rfl rfl ?_
  refine RD.areturn (pc := 15) dX2_capabilities_15 rfl ?_
  exact ⟨rfl, rfl⟩

set_option maxRecDepth 20000 in
set_option maxHeartbeats 1000000 in
theorem c_kindOf0 (K : EK) (d : Nat) (D : DT) : CF K mX5_kindOf d [rI 0] D (some (rI 0)) D := by
  refine CF.of [some (rI 0)] (by decide) (leb rfl) rfl ?_
  refine RD.iload_n (pc := 0) dX5_kindOf_0 rfl ?_
  refine RD.if_ne (pc := 1) 8 dX5_kindOf_1 (by decide) (fun c1 => absurd rfl c1) (fun c1 => ?_)
  refine RD.iconst (pc := 4) (v := 0) dX5_kindOf_4 (by decide) ?_
  refine RD.goto (pc := 5) 9 dX5_kindOf_5 (by decide) ?_
  refine RD.ireturn (pc := 9) dX5_kindOf_9 rfl rfl ?_
  exact ⟨rfl, rfl⟩

set_option maxRecDepth 20000 in
set_option maxHeartbeats 1000000 in
theorem c_kindOf1 (K : EK) (d : Nat) (D : DT) {k : Int32} (hk : ¬ k = 0) : CF K mX5_kindOf d [rI k] D (some (rI 1)) D := by
  refine CF.of [some (rI k)] (by decide) (leb rfl) rfl ?_
  refine RD.iload_n (pc := 0) dX5_kindOf_0 rfl ?_
  refine RD.if_ne (pc := 1) 8 dX5_kindOf_1 (by decide) (fun c1 => ?_) (fun c1 => absurd c1 hk)
  refine RD.iconst (pc := 8) (v := 1) dX5_kindOf_8 (by decide) ?_
  refine RD.ireturn (pc := 9) dX5_kindOf_9 rfl rfl ?_
  exact ⟨rfl, rfl⟩
end
section
/-- how many files are there, from k on -/
def cfL (D : DT) (i : Nat) : Nat → Nat → Int32 → Int32
  | 0, _, c => c
  | n + 1, k, c => cfL D i n (k + 1) (if D (12, i, k) 2 = 0 then c else c + 1)

set_option maxRecDepth 20000 in
set_option maxHeartbeats 2000000 in
theorem l_countFiles (K : EK) (d : Nat) {i : Nat} (hi : i < 8) (D : DT) : ∀ n (k : Nat) (c : Int32), k + n = 8 → RD K mX2_countFiles d 4 [some (rR (2, i, 0)), some (rI c), some (rI (nI k))] [] D (fun r0 D0 => r0 = some (rI (cfL D i n k c)) ∧ D0 = D) := by
  intro n
  induction n with
  | zero =>
    intro k c hk
    refine RD.iload_n (pc := 4) dX2_countFiles_4 rfl ?_
    refine RD.bipush (pc := 5) (v := 8) dX2_countFiles_5 (by decide) ?_
    refine RD.icmp_ge (pc := 7) 31 dX2_countFiles_7 (by decide) (fun c7 => ?_) (fun c7 => absurd (nI_le (a := 8) (b := k) (by omega) (by omega)) c7)
    refine RD.iload_n (pc := 31) dX2_countFiles_31 rfl ?_
    refine RD.ireturn (pc := 32) dX2_countFiles_32 rfl rfl ?_
    exact ⟨rfl, rfl⟩
  | succ n ih =>
    intro k c hk
    refine RD.iload_n (pc := 4) dX2_countFiles_4 rfl ?_
    refine RD.bipush (pc := 5) (v := 8) dX2_countFiles_5 (by decide) ?_
    refine RD.icmp_ge (pc := 7) 31 dX2_countFiles_7 (by decide) (fun c7 => absurd c7 (nI_ge (a := k) (b := 8) (by omega) (by decide))) (fun c7 => ?_)
    have hk8 : k < 8 := by omega
    refine RD.aload_n (pc := 10) dX2_countFiles_10 rfl ?_
    refine RD.getR (pc := 11) dX2_countFiles_11 flX2_53 (ok2 hi) rfl rfl ?_
    refine RD.iload_n (pc := 14) dX2_countFiles_14 rfl ?_
    refine RD.aald (pc := 15) k dX2_countFiles_15 (ok9 hi) rfl rfl rfl hk8 (by decide) ?_
    refine RD.gI (pc := 16) (v := D (12, i, k) 2) rfl dX2_countFiles_16 flX2_70 (ok12 hi hk8) rfl rfl ?_
    refine RD.if_eq (pc := 19) 25 dX2_countFiles_19 (by decide) (fun c19 => ?_) (fun c19 => ?_)
    · rw [show cfL D i (n + 1) k c = cfL D i n (k + 1) c by simp [cfL, c19]]
      refine RD.iinc (pc := 25) (ls' := [some (rR (2, i, 0)), some (rI c), some (rI (nI (k + 1)))]) dX2_countFiles_25 rfl (nI_1 k) (by decide) rfl ?_
      refine RD.goto (pc := 28) 4 dX2_countFiles_28 (by decide) ?_
      exact ih (k + 1) c (by omega)
    · refine RD.iinc (pc := 22) (ls' := [some (rR (2, i, 0)), some (rI (c + 1)), some (rI (nI k))]) dX2_countFiles_22 rfl rfl (by decide) rfl ?_
      rw [show cfL D i (n + 1) k c = cfL D i n (k + 1) (c + 1) by simp [cfL, c19]]
      refine RD.iinc (pc := 25) (ls' := [some (rR (2, i, 0)), some (rI (c + 1)), some (rI (nI (k + 1)))]) dX2_countFiles_25 rfl (nI_1 k) (by decide) rfl ?_
      refine RD.goto (pc := 28) 4 dX2_countFiles_28 (by decide) ?_
      exact ih (k + 1) (c + 1) (by omega)

set_option maxRecDepth 20000 in
set_option maxHeartbeats 2000000 in
theorem c_countFiles (K : EK) (d : Nat) {i : Nat} (hi : i < 8) (D : DT) : CF K mX2_countFiles d [rR (2, i, 0)] D (some (rI (cfL D i 8 0 0))) D := by
  refine CF.of [some (rR (2, i, 0)), none, none] (by decide) (leb rfl) rfl ?_
  refine RD.iconst (pc := 0) (v := 0) dX2_countFiles_0 (by decide) ?_
  refine RD.istore_n (pc := 1) (ls' := [some (rR (2, i, 0)), some (rI 0), none]) dX2_countFiles_1 (by decide) rfl ?_
  refine RD.iconst (pc := 2) (v := 0) dX2_countFiles_2 (by decide) ?_
  refine RD.istore_n (pc := 3) (ls' := [some (rR (2, i, 0)), some (rI 0), some (rI 0)]) dX2_countFiles_3 (by decide) rfl ?_
  exact l_countFiles K d hi D 8 0 0 rfl


def ntF (D : DT) (i : Nat) : DT := addF (addF (up D (2, i, 0) 6 (D (2, i, 0) 6 + 1)) i 1 (32 * nI i + D (2, i, 0) 6)) i 2 (32 * nI i + D (2, i, 0) 6)

set_option maxRecDepth 20000 in
set_option maxHeartbeats 1000000 in
theorem c_newTag (K : EK) (d : Nat) {i : Nat} (hi : i < 8) (D : DT) (h1 : ¬ 32 ≤ D (2, i, 0) 6) (h2 : ¬ 40 ≤ D (4, i, 1) 1) (h3 : ¬ 40 ≤ D (4, i, 2) 1) : CF K mX2_newTag (d + 2) [rR (2, i, 0)] D (some (rI (32 * nI i + D (2, i, 0) 6))) (ntF D i) := by
  refine CF.of [some (rR (2, i, 0)), none] (by decide) (leb rfl) rfl ?_
  refine RD.aload_n (pc := 0) dX2_newTag_0 rfl ?_
  refine RD.gI (pc := 1) (v := D (2, i, 0) 6) rfl dX2_newTag_1 flX2_28 (ok2 hi) rfl rfl ?_
  refine RD.bipush (pc := 4) (v := 32) dX2_newTag_4 (by decide) ?_
  refine RD.icmp_ge (pc := 6) 33 dX2_newTag_6 (by decide) (fun c6 => absurd c6 h1) (fun c6 => ?_)
  refine RD.aload_n (pc := 9) dX2_newTag_9 rfl ?_
  refine RD.getR (pc := 10) dX2_newTag_10 flX2_38 (ok2 hi) rfl rfl ?_
  refine RD.gI (pc := 13) (v := D (4, i, 1) 1) rfl dX2_newTag_13 flX2_74 (ok4 hi (by decide)) rfl rfl ?_
  refine RD.bipush (pc := 16) (v := 40) dX2_newTag_16 (by decide) ?_
  refine RD.icmp_ge (pc := 18) 33 dX2_newTag_18 (by decide) (fun c18 => absurd c18 h2) (fun c18 => ?_)
  refine RD.aload_n (pc := 21) dX2_newTag_21 rfl ?_
  refine RD.getR (pc := 22) dX2_newTag_22 flX2_41 (ok2 hi) rfl rfl ?_
  refine RD.gI (pc := 25) (v := D (4, i, 2) 1) rfl dX2_newTag_25 flX2_74 (ok4 hi (by decide)) rfl rfl ?_
  refine RD.bipush (pc := 28) (v := 40) dX2_newTag_28 (by decide) ?_
  refine RD.icmp_lt (pc := 30) 35 dX2_newTag_30 (by decide) (fun c30 => ?_) (fun c30 => absurd (i32_nle h3) c30)
  refine RD.bipush (pc := 35) (v := 32) dX2_newTag_35 (by decide) ?_
  refine RD.aload_n (pc := 37) dX2_newTag_37 rfl ?_
  refine RD.getR (pc := 38) dX2_newTag_38 flX2_66 (ok2 hi) rfl rfl ?_
  refine RD.imul (pc := 41) dX2_newTag_41 ?_
  refine RD.aload_n (pc := 42) dX2_newTag_42 rfl ?_
  refine RD.gI (pc := 43) (v := D (2, i, 0) 6) rfl dX2_newTag_43 flX2_28 (ok2 hi) rfl rfl ?_
  refine RD.iadd (pc := 46) dX2_newTag_46 ?_
  refine RD.istore_n (pc := 47) (ls' := [some (rR (2, i, 0)), some (rI ((32 * (nI i)) + (D (2, i, 0) 6)))]) dX2_newTag_47 (by decide) rfl ?_
  refine RD.aload_n (pc := 48) dX2_newTag_48 rfl ?_
  refine RD.dup (pc := 49) dX2_newTag_49 ?_
  refine RD.gI (pc := 50) (v := D (2, i, 0) 6) rfl dX2_newTag_50 flX2_28 (ok2 hi) rfl rfl ?_
  refine RD.iconst (pc := 53) (v := 1) dX2_newTag_53 (by decide) ?_
  refine RD.iadd (pc := 54) dX2_newTag_54 ?_
  refine RD.putf (pc := 55) dX2_newTag_55 fpX2_28 (ok2 hi) rfl rfl rfl rfl ?_
  refine RD.aload_n (pc := 58) dX2_newTag_58 rfl ?_
  refine RD.getR (pc := 59) dX2_newTag_59 flX2_38 (ok2 hi) rfl rfl ?_
  refine RD.iload_n (pc := 62) dX2_newTag_62 rfl ?_
  refine RD.cV1v (pc := 63) dX2_newTag_63 mlX2_77 rfl (ok4 hi (by decide)) rfl (c_add K _ (ok4 hi (by decide)) (up D (2, i, 0) 6 ((D (2, i, 0) 6) + 1)) ((32 * (nI i)) + (D (2, i, 0) 6))) (leb rfl) ?_
  refine RD.aload_n (pc := 66) dX2_newTag_66 rfl ?_
  refine RD.getR (pc := 67) dX2_newTag_67 flX2_41 (ok2 hi) rfl rfl ?_
  refine RD.iload_n (pc := 70) dX2_newTag_70 rfl ?_
  refine RD.cV1v (pc := 71) dX2_newTag_71 mlX2_77 rfl (ok4 hi (by decide)) rfl (c_add K _ (ok4 hi (by decide)) (addF (up D (2, i, 0) 6 ((D (2, i, 0) 6) + 1)) i 1 ((32 * (nI i)) + (D (2, i, 0) 6))) ((32 * (nI i)) + (D (2, i, 0) 6))) (leb rfl) ?_
  refine RD.iload_n (pc := 74) dX2_newTag_74 rfl ?_
  refine RD.ireturn (pc := 75) dX2_newTag_75 rfl rfl ?_
  exact ⟨rfl, rfl⟩

set_option maxRecDepth 20000 in
set_option maxHeartbeats 1000000 in
theorem c_newTagN (K : EK) (d : Nat) {i : Nat} (hi : i < 8) (D : DT) (h : 32 ≤ D (2, i, 0) 6 ∨ 40 ≤ D (4, i, 1) 1 ∨ 40 ≤ D (4, i, 2) 1) : CF K mX2_newTag (d + 2) [rR (2, i, 0)] D (some (rI (-1))) D := by
  refine CF.of [some (rR (2, i, 0)), none] (by decide) (leb rfl) rfl ?_
  refine RD.aload_n (pc := 0) dX2_newTag_0 rfl ?_
  refine RD.gI (pc := 1) (v := D (2, i, 0) 6) rfl dX2_newTag_1 flX2_28 (ok2 hi) rfl rfl ?_
  refine RD.bipush (pc := 4) (v := 32) dX2_newTag_4 (by decide) ?_
  refine RD.icmp_ge (pc := 6) 33 dX2_newTag_6 (by decide) (fun c6 => ?_) (fun c6 => ?_)
  · refine RD.iconst (pc := 33) (v := (-1)) dX2_newTag_33 (by decide) ?_
    refine RD.ireturn (pc := 34) dX2_newTag_34 rfl rfl ?_
    exact ⟨rfl, rfl⟩
  · refine RD.aload_n (pc := 9) dX2_newTag_9 rfl ?_
    refine RD.getR (pc := 10) dX2_newTag_10 flX2_38 (ok2 hi) rfl rfl ?_
    refine RD.gI (pc := 13) (v := D (4, i, 1) 1) rfl dX2_newTag_13 flX2_74 (ok4 hi (by decide)) rfl rfl ?_
    refine RD.bipush (pc := 16) (v := 40) dX2_newTag_16 (by decide) ?_
    refine RD.icmp_ge (pc := 18) 33 dX2_newTag_18 (by decide) (fun c18 => ?_) (fun c18 => ?_)
    · refine RD.iconst (pc := 33) (v := (-1)) dX2_newTag_33 (by decide) ?_
      refine RD.ireturn (pc := 34) dX2_newTag_34 rfl rfl ?_
      exact ⟨rfl, rfl⟩
    · refine RD.aload_n (pc := 21) dX2_newTag_21 rfl ?_
      refine RD.getR (pc := 22) dX2_newTag_22 flX2_41 (ok2 hi) rfl rfl ?_
      refine RD.gI (pc := 25) (v := D (4, i, 2) 1) rfl dX2_newTag_25 flX2_74 (ok4 hi (by decide)) rfl rfl ?_
      refine RD.bipush (pc := 28) (v := 40) dX2_newTag_28 (by decide) ?_
      refine RD.icmp_lt (pc := 30) 35 dX2_newTag_30 (by decide) (fun c30 => ?_) (fun c30 => ?_)
      · exfalso
        rcases h with h | h | h
        · exact c6 h
        · exact c18 h
        · exact Int32.not_le.mpr c30 h
      · refine RD.iconst (pc := 33) (v := (-1)) dX2_newTag_33 (by decide) ?_
        refine RD.ireturn (pc := 34) dX2_newTag_34 rfl rfl ?_
        exact ⟨rfl, rfl⟩


def relC (D : DT) (i i2 j2 : Nat) : Bool := subE (D (5, i2, j2)) (D (5, i, 0)) (D (5, i, 1)) && subE (D (5, i, 0)) (D (5, i2, j2)) (D (5, i, 2))

set_option maxRecDepth 20000 in
set_option maxHeartbeats 1000000 in
theorem c_relabel (K : EK) (d : Nat) {i i2 j2 : Nat} (hi : i < 8) (hok2 : okA (4, i2, j2)) (D : DT) : CF K mX2_relabel (d + 1) [rR (2, i, 0), rR (4, i2, j2)] D (some (rI (bI (relC D i i2 j2)))) (if relC D i i2 j2 = true then cpyF D i 0 i2 j2 else D) := by
  refine CF.of [some (rR (2, i, 0)), some (rR (4, i2, j2))] (by decide) (leb rfl) rfl ?_
  refine RD.aload_n (pc := 0) dX2_relabel_0 rfl ?_
  refine RD.aload_n (pc := 1) dX2_relabel_1 rfl ?_
  refine RD.getR (pc := 2) dX2_relabel_2 flX2_34 (ok2 hi) rfl rfl ?_
  refine RD.aload_n (pc := 5) dX2_relabel_5 rfl ?_
  refine RD.getR (pc := 6) dX2_relabel_6 flX2_38 (ok2 hi) rfl rfl ?_
  refine RD.cV2 (pc := 9) dX2_relabel_9 mlX2_81 rfl hok2 rfl (c_isInEither K _ hok2 (ok4 hi (by decide)) (ok4 hi (by decide)) D) (leb rfl) ?_
  refine RD.if_eq (pc := 12) 30 dX2_relabel_12 (by decide) (fun c12 => ?_) (fun c12 => ?_)
  · refine RD.iconst (pc := 30) (v := 0) dX2_relabel_30 (by decide) ?_
    refine RD.ireturn (pc := 31) dX2_relabel_31 rfl rfl ?_
    exact ⟨by simp [relC, bI_0 c12, bI], by simp [relC, bI_0 c12]⟩
  · refine RD.aload_n (pc := 15) dX2_relabel_15 rfl ?_
    refine RD.getR (pc := 16) dX2_relabel_16 flX2_34 (ok2 hi) rfl rfl ?_
    refine RD.aload_n (pc := 19) dX2_relabel_19 rfl ?_
    refine RD.aload_n (pc := 20) dX2_relabel_20 rfl ?_
    refine RD.getR (pc := 21) dX2_relabel_21 flX2_41 (ok2 hi) rfl rfl ?_
    refine RD.cV2 (pc := 24) dX2_relabel_24 mlX2_81 rfl (ok4 hi (by decide)) rfl (c_isInEither K _ (ok4 hi (by decide)) hok2 (ok4 hi (by decide)) D) (leb rfl) ?_
    refine RD.if_ne (pc := 27) 32 dX2_relabel_27 (by decide) (fun c27 => ?_) (fun c27 => ?_)
    · refine RD.aload_n (pc := 32) dX2_relabel_32 rfl ?_
      refine RD.getR (pc := 33) dX2_relabel_33 flX2_34 (ok2 hi) rfl rfl ?_
      refine RD.aload_n (pc := 36) dX2_relabel_36 rfl ?_
      refine RD.cV1v (pc := 37) dX2_relabel_37 mlX2_85 rfl (ok4 hi (by decide)) rfl (c_copy K _ (ok4 hi (by decide)) hok2 D) (leb rfl) ?_
      refine RD.iconst (pc := 40) (v := 1) dX2_relabel_40 (by decide) ?_
      refine RD.ireturn (pc := 41) dX2_relabel_41 rfl rfl ?_
      exact ⟨by simp [relC, bI_1 c12, bI_1 c27, bI], by simp [relC, bI_1 c12, bI_1 c27]⟩
    · refine RD.iconst (pc := 30) (v := 0) dX2_relabel_30 (by decide) ?_
      refine RD.ireturn (pc := 31) dX2_relabel_31 rfl rfl ?_
      exact ⟨by simp [relC, bI_1 c12, bI_0 c27, bI], by simp [relC, bI_1 c12, bI_0 c27]⟩

set_option maxRecDepth 20000 in
set_option maxHeartbeats 1000000 in
theorem c_drop0 (K : EK) (d : Nat) {i : Nat} (hi : i < 8) (D : DT) (t : Int32) : CF K mX2_dropCapability (d + 2) [rR (2, i, 0), rI 0, rI t] D (some (rI (bI (hasF (D (5, i, 1)) t)))) (remF D i 1 t) := by
  refine CF.of [some (rR (2, i, 0)), some (rI 0), some (rI t), none] (by decide) (leb rfl) rfl ?_
  refine RD.aload_n (pc := 0) dX2_dropCapability_0 rfl ?_
  refine RD.iload_n (pc := 1) dX2_dropCapability_1 rfl ?_
  refine RD.cS1 (pc := 2) dX2_dropCapability_2 mlX2_89 (c_kindOf0 K _ D) (leb rfl) ?_
  refine RD.cV1 (pc := 5) dX2_dropCapability_5 mlX2_93 rfl (ok2 hi) rfl (c_cap0 K _ hi D) (leb rfl) ?_
  refine RD.astore_n (pc := 8) (ls' := [some (rR (2, i, 0)), some (rI 0), some (rI t), some (rR (4, i, 1))]) dX2_dropCapability_8 (by decide) rfl ?_
  refine RD.aload_n (pc := 9) dX2_dropCapability_9 rfl ?_
  refine RD.iload_n (pc := 10) dX2_dropCapability_10 rfl ?_
  refine RD.cV1 (pc := 11) dX2_dropCapability_11 mlX2_97 rfl (ok4 hi (by decide)) rfl (c_has K _ (ok4 hi (by decide)) D t) (leb rfl) ?_
  refine RD.if_ne (pc := 14) 19 dX2_dropCapability_14 (by decide) (fun c14 => ?_) (fun c14 => ?_)
  · refine RD.aload_n (pc := 19) dX2_dropCapability_19 rfl ?_
    refine RD.iload_n (pc := 20) dX2_dropCapability_20 rfl ?_
    refine RD.cV1v (pc := 21) dX2_dropCapability_21 mlX2_101 rfl (ok4 hi (by decide)) rfl (c_remove K _ (ok4 hi (by decide)) D t) (leb rfl) ?_
    refine RD.iconst (pc := 24) (v := 1) dX2_dropCapability_24 (by decide) ?_
    refine RD.ireturn (pc := 25) dX2_dropCapability_25 rfl rfl ?_
    exact ⟨by rw [bI_1 c14]; rfl, rfl⟩
  · refine RD.iconst (pc := 17) (v := 0) dX2_dropCapability_17 (by decide) ?_
    refine RD.ireturn (pc := 18) dX2_dropCapability_18 rfl rfl ?_
    exact ⟨by rw [c14], (remF_not (bI_0 c14)).symm⟩

set_option maxRecDepth 20000 in
set_option maxHeartbeats 1000000 in
theorem c_drop1 (K : EK) (d : Nat) {i : Nat} (hi : i < 8) (D : DT) {b : Int32} (hb : ¬ b = 0) (t : Int32) : CF K mX2_dropCapability (d + 2) [rR (2, i, 0), rI b, rI t] D (some (rI (bI (hasF (D (5, i, 2)) t)))) (remF D i 2 t) := by
  refine CF.of [some (rR (2, i, 0)), some (rI b), some (rI t), none] (by decide) (leb rfl) rfl ?_
  refine RD.aload_n (pc := 0) dX2_dropCapability_0 rfl ?_
  refine RD.iload_n (pc := 1) dX2_dropCapability_1 rfl ?_
  refine RD.cS1 (pc := 2) dX2_dropCapability_2 mlX2_89 (c_kindOf1 K _ D hb) (leb rfl) ?_
  refine RD.cV1 (pc := 5) dX2_dropCapability_5 mlX2_93 rfl (ok2 hi) rfl (c_cap1 K _ hi D (by decide)) (leb rfl) ?_
  refine RD.astore_n (pc := 8) (ls' := [some (rR (2, i, 0)), some (rI b), some (rI t), some (rR (4, i, 2))]) dX2_dropCapability_8 (by decide) rfl ?_
  refine RD.aload_n (pc := 9) dX2_dropCapability_9 rfl ?_
  refine RD.iload_n (pc := 10) dX2_dropCapability_10 rfl ?_
  refine RD.cV1 (pc := 11) dX2_dropCapability_11 mlX2_97 rfl (ok4 hi (by decide)) rfl (c_has K _ (ok4 hi (by decide)) D t) (leb rfl) ?_
  refine RD.if_ne (pc := 14) 19 dX2_dropCapability_14 (by decide) (fun c14 => ?_) (fun c14 => ?_)
  · refine RD.aload_n (pc := 19) dX2_dropCapability_19 rfl ?_
    refine RD.iload_n (pc := 20) dX2_dropCapability_20 rfl ?_
    refine RD.cV1v (pc := 21) dX2_dropCapability_21 mlX2_101 rfl (ok4 hi (by decide)) rfl (c_remove K _ (ok4 hi (by decide)) D t) (leb rfl) ?_
    refine RD.iconst (pc := 24) (v := 1) dX2_dropCapability_24 (by decide) ?_
    refine RD.ireturn (pc := 25) dX2_dropCapability_25 rfl rfl ?_
    exact ⟨by rw [bI_1 c14]; rfl, rfl⟩
  · refine RD.iconst (pc := 17) (v := 0) dX2_dropCapability_17 (by decide) ?_
    refine RD.ireturn (pc := 18) dX2_dropCapability_18 rfl rfl ?_
    exact ⟨by rw [c14], (remF_not (bI_0 c14)).symm⟩


def lfr (D : DT) (i : Nat) : Nat → Nat → Option Nat
  | 0, _ => none
  | n + 1, k => if D (12, i, k) 2 = 0 then some k else lfr D i n (k + 1)
theorem lfr_lt {D : DT} {i : Nat} : ∀ {n k q : Nat}, lfr D i n k = some q → k ≤ q ∧ q < k + n
  | 0, k, q, h => by cases h
  | n + 1, k, q, h => by
    unfold lfr at h
    split at h
    · cases h; omega
    · have := lfr_lt h; omega
def crR (i : Nat) : Option Nat → Int32
  | none => -1
  | some k => 8 * nI i + nI k
def crD (D : DT) (i i2 j2 : Nat) : Option Nat → DT
  | none => D
  | some k => cpyF (up D (12, i, k) 2 1) i (11 + k) i2 j2

set_option maxRecDepth 20000 in
set_option maxHeartbeats 2000000 in
theorem l_createFile (K : EK) (d : Nat) {i i2 j2 : Nat} (hi : i < 8) (hok2 : okA (4, i2, j2)) (D : DT) : ∀ n (k : Nat), k + n = 8 → RD K mX2_createFile (d + 2) 15 [some (rR (2, i, 0)), some (rR (4, i2, j2)), some (rI (nI k))] [] D (fun r0 D0 => r0 = some (rI (crR i (lfr D i n k))) ∧ D0 = crD D i i2 j2 (lfr D i n k)) := by
  intro n
  induction n with
  | zero =>
    intro k hk
    refine RD.iload_n (pc := 15) dX2_createFile_15 rfl ?_
    refine RD.bipush (pc := 16) (v := 8) dX2_createFile_16 (by decide) ?_
    refine RD.icmp_ge (pc := 18) 72 dX2_createFile_18 (by decide) (fun c7 => ?_) (fun c7 => absurd (nI_le (a := 8) (b := k) (by omega) (by omega)) c7)
    refine RD.iconst (pc := 72) (v := (-1)) dX2_createFile_72 (by decide) ?_
    refine RD.ireturn (pc := 73) dX2_createFile_73 rfl rfl ?_
    exact ⟨rfl, rfl⟩
  | succ n ih =>
    intro k hk
    refine RD.iload_n (pc := 15) dX2_createFile_15 rfl ?_
    refine RD.bipush (pc := 16) (v := 8) dX2_createFile_16 (by decide) ?_
    refine RD.icmp_ge (pc := 18) 72 dX2_createFile_18 (by decide) (fun c18 => absurd c18 (nI_ge (a := k) (b := 8) (by omega) (by decide))) (fun c18 => ?_)
    have hk8 : k < 8 := by omega
    refine RD.aload_n (pc := 21) dX2_createFile_21 rfl ?_
    refine RD.getR (pc := 22) dX2_createFile_22 flX2_53 (ok2 hi) rfl rfl ?_
    refine RD.iload_n (pc := 25) dX2_createFile_25 rfl ?_
    refine RD.aald (pc := 26) k dX2_createFile_26 (ok9 hi) rfl rfl rfl hk8 (by decide) ?_
    refine RD.gI (pc := 27) (v := D (12, i, k) 2) rfl dX2_createFile_27 flX2_70 (ok12 hi hk8) rfl rfl ?_
    refine RD.if_ne (pc := 30) 66 dX2_createFile_30 (by decide) (fun c30 => ?_) (fun c30 => ?_)
    · rw [show lfr D i (n + 1) k = lfr D i n (k + 1) by simp [lfr, c30]]
      refine RD.iinc (pc := 66) (ls' := [some (rR (2, i, 0)), some (rR (4, i2, j2)), some (rI (nI (k + 1)))]) dX2_createFile_66 rfl (nI_1 k) (by decide) rfl ?_
      refine RD.goto (pc := 69) 15 dX2_createFile_69 (by decide) ?_
      exact ih (k + 1) (by omega)
    · rw [show lfr D i (n + 1) k = some k by simp [lfr, c30]]
      refine RD.aload_n (pc := 33) dX2_createFile_33 rfl ?_
      refine RD.getR (pc := 34) dX2_createFile_34 flX2_53 (ok2 hi) rfl rfl ?_
      refine RD.iload_n (pc := 37) dX2_createFile_37 rfl ?_
      refine RD.aald (pc := 38) k dX2_createFile_38 (ok9 hi) rfl rfl rfl hk8 (by decide) ?_
      refine RD.iconst (pc := 39) (v := 1) dX2_createFile_39 (by decide) ?_
      refine RD.putf (pc := 40) dX2_createFile_40 fpX2_70 (ok12 hi hk8) rfl rfl rfl rfl ?_
      refine RD.aload_n (pc := 43) dX2_createFile_43 rfl ?_
      refine RD.getR (pc := 44) dX2_createFile_44 flX2_53 (ok2 hi) rfl rfl ?_
      refine RD.iload_n (pc := 47) dX2_createFile_47 rfl ?_
      refine RD.aald (pc := 48) k dX2_createFile_48 (ok9 hi) rfl rfl rfl hk8 (by decide) ?_
      refine RD.getR (pc := 49) dX2_createFile_49 flX2_127 (ok12 hi hk8) rfl rfl ?_
      refine RD.aload_n (pc := 52) dX2_createFile_52 rfl ?_
      refine RD.cV1v (pc := 53) dX2_createFile_53 mlX2_85 rfl (ok4 hi (by omega)) rfl (c_copy K _ (ok4 hi (by omega)) hok2 (up D (12, i, k) 2 1)) (leb rfl) ?_
      refine RD.bipush (pc := 56) (v := 8) dX2_createFile_56 (by decide) ?_
      refine RD.aload_n (pc := 58) dX2_createFile_58 rfl ?_
      refine RD.getR (pc := 59) dX2_createFile_59 flX2_66 (ok2 hi) rfl rfl ?_
      refine RD.imul (pc := 62) dX2_createFile_62 ?_
      refine RD.iload_n (pc := 63) dX2_createFile_63 rfl ?_
      refine RD.iadd (pc := 64) dX2_createFile_64 ?_
      refine RD.ireturn (pc := 65) dX2_createFile_65 rfl rfl ?_
      exact ⟨rfl, rfl⟩

set_option maxRecDepth 20000 in
set_option maxHeartbeats 1000000 in
theorem c_createFileN (K : EK) (d : Nat) {i i2 j2 : Nat} (hi : i < 8) (hok2 : okA (4, i2, j2)) (D : DT) (h : subB (D (5, i, 0)) (D (5, i2, j2)) = false) : CF K mX2_createFile (d + 2) [rR (2, i, 0), rR (4, i2, j2)] D (some (rI (-1))) D := by
  refine CF.of [some (rR (2, i, 0)), some (rR (4, i2, j2)), none] (by decide) (leb rfl) rfl ?_
  refine RD.aload_n (pc := 0) dX2_createFile_0 rfl ?_
  refine RD.getR (pc := 1) dX2_createFile_1 flX2_34 (ok2 hi) rfl rfl ?_
  refine RD.aload_n (pc := 4) dX2_createFile_4 rfl ?_
  refine RD.cV1 (pc := 5) dX2_createFile_5 mlX2_123 rfl (ok4 hi (by decide)) rfl (c_isIn K _ (ok4 hi (by decide)) hok2 D) (leb rfl) ?_
  refine RD.if_ne (pc := 8) 13 dX2_createFile_8 (by decide) (fun c8 => absurd (by rw [h]; rfl) c8) (fun c8 => ?_)
  refine RD.iconst (pc := 11) (v := (-1)) dX2_createFile_11 (by decide) ?_
  refine RD.ireturn (pc := 12) dX2_createFile_12 rfl rfl ?_
  exact ⟨rfl, rfl⟩

set_option maxRecDepth 20000 in
set_option maxHeartbeats 1000000 in
theorem c_createFile (K : EK) (d : Nat) {i i2 j2 : Nat} (hi : i < 8) (hok2 : okA (4, i2, j2)) (D : DT) (h : subB (D (5, i, 0)) (D (5, i2, j2)) = true) : CF K mX2_createFile (d + 2) [rR (2, i, 0), rR (4, i2, j2)] D (some (rI (crR i (lfr D i 8 0)))) (crD D i i2 j2 (lfr D i 8 0)) := by
  refine CF.of [some (rR (2, i, 0)), some (rR (4, i2, j2)), none] (by decide) (leb rfl) rfl ?_
  refine RD.aload_n (pc := 0) dX2_createFile_0 rfl ?_
  refine RD.getR (pc := 1) dX2_createFile_1 flX2_34 (ok2 hi) rfl rfl ?_
  refine RD.aload_n (pc := 4) dX2_createFile_4 rfl ?_
  refine RD.cV1 (pc := 5) dX2_createFile_5 mlX2_123 rfl (ok4 hi (by decide)) rfl (c_isIn K _ (ok4 hi (by decide)) hok2 D) (leb rfl) ?_
  refine RD.if_ne (pc := 8) 13 dX2_createFile_8 (by decide) (fun c8 => ?_) (fun c8 => absurd c8 (by rw [h]; decide))
  refine RD.iconst (pc := 13) (v := 0) dX2_createFile_13 (by decide) ?_
  refine RD.istore_n (pc := 14) (ls' := [some (rR (2, i, 0)), some (rR (4, i2, j2)), some (rI 0)]) dX2_createFile_14 (by decide) rfl ?_
  exact l_createFile K d hi hok2 D 8 0 rfl


def outF (D : DT) (i w : Nat) (v : Int32) : DT := up (up (up D (10, i, 0) w v) (11, i, 0) w (D (4, i, 0) 1)) (2, i, 0) 14 (nI w + 1)

set_option maxRecDepth 20000 in
set_option maxHeartbeats 1000000 in
theorem c_addOutput (K : EK) (d : Nat) {i : Nat} (hi : i < 8) (D : DT) (v : Int32) {w : Nat} (hw : D (2, i, 0) 14 = nI w) (hw64 : w < 64) : CF K mX2_addOutput d [rR (2, i, 0), rI v] D (some (rI 1)) (outF D i w v) := by
  refine CF.of [some (rR (2, i, 0)), some (rI v)] (by decide) (leb rfl) rfl ?_
  refine RD.aload_n (pc := 0) dX2_addOutput_0 rfl ?_
  refine RD.gI (pc := 1) (v := nI w) hw dX2_addOutput_1 flX2_63 (ok2 hi) rfl rfl ?_
  refine RD.bipush (pc := 4) (v := 64) dX2_addOutput_4 (by decide) ?_
  refine RD.icmp_ge (pc := 6) 45 dX2_addOutput_6 (by decide) (fun c6 => absurd c6 (nI_ge (a := w) (b := 64) hw64 (by decide))) (fun c6 => ?_)
  refine RD.aload_n (pc := 9) dX2_addOutput_9 rfl ?_
  refine RD.getR (pc := 10) dX2_addOutput_10 flX2_57 (ok2 hi) rfl rfl ?_
  refine RD.aload_n (pc := 13) dX2_addOutput_13 rfl ?_
  refine RD.gI (pc := 14) (v := nI w) hw dX2_addOutput_14 flX2_63 (ok2 hi) rfl rfl ?_
  refine RD.iload_n (pc := 17) dX2_addOutput_17 rfl ?_
  refine RD.iast (pc := 18) w dX2_addOutput_18 (ok10 hi) rfl rfl hw64 (by decide) ?_
  refine RD.aload_n (pc := 19) dX2_addOutput_19 rfl ?_
  refine RD.getR (pc := 20) dX2_addOutput_20 flX2_60 (ok2 hi) rfl rfl ?_
  refine RD.aload_n (pc := 23) dX2_addOutput_23 rfl ?_
  refine RD.gI (pc := 24) (v := nI w) (up_N (by simp) hw) dX2_addOutput_24 flX2_63 (ok2 hi) rfl rfl ?_
  refine RD.aload_n (pc := 27) dX2_addOutput_27 rfl ?_
  refine RD.getR (pc := 28) dX2_addOutput_28 flX2_34 (ok2 hi) rfl rfl ?_
  refine RD.gI (pc := 31) (v := D (4, i, 0) 1) (up_N (by simp) rfl) dX2_addOutput_31 flX2_74 (ok4 hi (by decide)) rfl rfl ?_
  refine RD.iast (pc := 34) w dX2_addOutput_34 (ok11 hi) rfl rfl hw64 (by decide) ?_
  refine RD.aload_n (pc := 35) dX2_addOutput_35 rfl ?_
  refine RD.dup (pc := 36) dX2_addOutput_36 ?_
  refine RD.gI (pc := 37) (v := nI w) (up_N (by simp) (up_N (by simp) hw)) dX2_addOutput_37 flX2_63 (ok2 hi) rfl rfl ?_
  refine RD.iconst (pc := 40) (v := 1) dX2_addOutput_40 (by decide) ?_
  refine RD.iadd (pc := 41) dX2_addOutput_41 ?_
  refine RD.putf (pc := 42) dX2_addOutput_42 fpX2_63 (ok2 hi) rfl rfl rfl rfl ?_
  refine RD.iconst (pc := 45) (v := 1) dX2_addOutput_45 (by decide) ?_
  refine RD.ireturn (pc := 46) dX2_addOutput_46 rfl rfl ?_
  exact ⟨rfl, rfl⟩

set_option maxRecDepth 20000 in
set_option maxHeartbeats 1000000 in
theorem c_addOutputN (K : EK) (d : Nat) {i : Nat} (hi : i < 8) (D : DT) (v : Int32) {w : Nat} (hw : D (2, i, 0) 14 = nI w) (hw64 : w = 64) : CF K mX2_addOutput d [rR (2, i, 0), rI v] D (some (rI 1)) D := by
  refine CF.of [some (rR (2, i, 0)), some (rI v)] (by decide) (leb rfl) rfl ?_
  refine RD.aload_n (pc := 0) dX2_addOutput_0 rfl ?_
  refine RD.gI (pc := 1) (v := nI w) hw dX2_addOutput_1 flX2_63 (ok2 hi) rfl rfl ?_
  refine RD.bipush (pc := 4) (v := 64) dX2_addOutput_4 (by decide) ?_
  refine RD.icmp_ge (pc := 6) 45 dX2_addOutput_6 (by decide) (fun c6 => ?_) (fun c6 => absurd (by rw [hw64]; decide) c6)
  refine RD.iconst (pc := 45) (v := 1) dX2_addOutput_45 (by decide) ?_
  refine RD.ireturn (pc := 46) dX2_addOutput_46 rfl rfl ?_
  exact ⟨rfl, rfl⟩


def rcv1 (D : DT) (i q p z : Nat) : DT := up (up (qst D i p z) (3, i, 0) 120 (D (8, i, q) 2)) (3, i, 0) 121 (D (8, i, q) 1)

set_option maxRecDepth 20000 in
set_option maxHeartbeats 1000000 in
theorem c_receive0 (K : EK) (d : Nat) {i : Nat} (hi : i < 8) (D : DT) {p z : Nat} (hp : p < 8) (hz8 : z ≤ 8) (hf : D (6, i, 0) 1 = nI p) (hz : D (6, i, 0) 2 = nI z) (ht : (tk (tkc D i i 0) p z).1 = none) : CF K mX2_receive (d + 3) [rR (2, i, 0)] D (some (rI 0)) (qst D i (tk (tkc D i i 0) p z).2.1 (tk (tkc D i i 0) p z).2.2) := by
  refine CF.of [some (rR (2, i, 0)), none] (by decide) (leb rfl) rfl ?_
  refine RD.aload_n (pc := 0) dX2_receive_0 rfl ?_
  refine RD.getR (pc := 1) dX2_receive_1 flX2_47 (ok2 hi) rfl rfl ?_
  refine RD.aload_n (pc := 4) dX2_receive_4 rfl ?_
  refine RD.getR (pc := 5) dX2_receive_5 flX2_34 (ok2 hi) rfl rfl ?_
  refine RD.cV1 (pc := 8) dX2_receive_8 mlX2_104 rfl (ok6 hi) rfl ((c_take K _ hi (ok4 hi (by decide)) D hp hz8 hf hz).to (show _ = some rN by rw [ht]; rfl) rfl) (leb rfl) ?_
  refine RD.astore_n (pc := 11) (ls' := [some (rR (2, i, 0)), some (rN)]) dX2_receive_11 (by decide) rfl ?_
  refine RD.aload_n (pc := 12) dX2_receive_12 rfl ?_
  refine RD.ifnonnull (pc := 13) 18 dX2_receive_13 (by decide) (fun _ c13 => nomatch c13) (fun _ => ?_)
  refine RD.iconst (pc := 16) (v := 0) dX2_receive_16 (by decide) ?_
  refine RD.ireturn (pc := 17) dX2_receive_17 rfl rfl ?_
  exact ⟨rfl, rfl⟩

set_option maxRecDepth 20000 in
set_option maxHeartbeats 1000000 in
theorem c_receive1 (K : EK) (d : Nat) {i : Nat} (hi : i < 8) (D : DT) {p z : Nat} (hp : p < 8) (hz8 : z ≤ 8) (hf : D (6, i, 0) 1 = nI p) (hz : D (6, i, 0) 2 = nI z) {q : Nat} (ht : (tk (tkc D i i 0) p z).1 = some q) (hk : D (8, i, q) 3 = (-1)) : CF K mX2_receive (d + 3) [rR (2, i, 0)] D (some (rI 1)) (rcv1 D i q (tk (tkc D i i 0) p z).2.1 (tk (tkc D i i 0) p z).2.2) := by
  refine CF.of [some (rR (2, i, 0)), none] (by decide) (leb rfl) rfl ?_
  have hq : q < 8 := (tk_lt (tkc D i i 0) z p hp).2.2 q ht
  refine RD.aload_n (pc := 0) dX2_receive_0 rfl ?_
  refine RD.getR (pc := 1) dX2_receive_1 flX2_47 (ok2 hi) rfl rfl ?_
  refine RD.aload_n (pc := 4) dX2_receive_4 rfl ?_
  refine RD.getR (pc := 5) dX2_receive_5 flX2_34 (ok2 hi) rfl rfl ?_
  refine RD.cV1 (pc := 8) dX2_receive_8 mlX2_104 rfl (ok6 hi) rfl ((c_take K _ hi (ok4 hi (by decide)) D hp hz8 hf hz).to (show _ = some (rR (8, i, q)) by rw [ht]; rfl) rfl) (leb rfl) ?_
  refine RD.astore_n (pc := 11) (ls' := [some (rR (2, i, 0)), some (rR (8, i, q))]) dX2_receive_11 (by decide) rfl ?_
  refine RD.aload_n (pc := 12) dX2_receive_12 rfl ?_
  refine RD.ifnonnull (pc := 13) 18 dX2_receive_13 (by decide) (fun _ _ => ?_) (fun c13 => nomatch c13)
  refine RD.aload_n (pc := 18) dX2_receive_18 rfl ?_
  refine RD.getR (pc := 19) dX2_receive_19 flX2_9 (ok2 hi) rfl rfl ?_
  refine RD.bipush (pc := 22) (v := 120) dX2_receive_22 (by decide) ?_
  refine RD.aload_n (pc := 24) dX2_receive_24 rfl ?_
  refine RD.gI (pc := 25) (v := D (8, i, q) 2) ((congrFun (qst_o (by simp)) _).trans rfl) dX2_receive_25 flX2_108 (ok8 hi hq) rfl rfl ?_
  refine RD.iast (pc := 28) 120 dX2_receive_28 (ok3 hi) rfl rfl (by decide) (by decide) ?_
  refine RD.aload_n (pc := 29) dX2_receive_29 rfl ?_
  refine RD.getR (pc := 30) dX2_receive_30 flX2_9 (ok2 hi) rfl rfl ?_
  refine RD.bipush (pc := 33) (v := 121) dX2_receive_33 (by decide) ?_
  refine RD.aload_n (pc := 35) dX2_receive_35 rfl ?_
  refine RD.gI (pc := 36) (v := D (8, i, q) 1) (up_N (by simp) ((congrFun (qst_o (by simp)) _).trans rfl)) dX2_receive_36 flX2_113 (ok8 hi hq) rfl rfl ?_
  refine RD.iast (pc := 39) 121 dX2_receive_39 (ok3 hi) rfl rfl (by decide) (by decide) ?_
  refine RD.aload_n (pc := 40) dX2_receive_40 rfl ?_
  refine RD.gI (pc := 41) (v := D (8, i, q) 3) (up_N (by simp) (up_N (by simp) ((congrFun (qst_o (by simp)) _).trans rfl))) dX2_receive_41 flX2_116 (ok8 hi hq) rfl rfl ?_
  refine RD.iconst (pc := 44) (v := (-1)) dX2_receive_44 (by decide) ?_
  refine RD.icmp_ne (pc := 45) 50 dX2_receive_45 (by decide) (fun c45 => absurd hk c45) (fun c45 => ?_)
  refine RD.iconst (pc := 48) (v := 1) dX2_receive_48 (by decide) ?_
  refine RD.ireturn (pc := 49) dX2_receive_49 rfl rfl ?_
  exact ⟨rfl, rfl⟩

set_option maxRecDepth 20000 in
set_option maxHeartbeats 1000000 in
theorem c_receive2 (K : EK) (d : Nat) {i : Nat} (hi : i < 8) (D : DT) {p z : Nat} (hp : p < 8) (hz8 : z ≤ 8) (hf : D (6, i, 0) 1 = nI p) (hz : D (6, i, 0) 2 = nI z) {q : Nat} (ht : (tk (tkc D i i 0) p z).1 = some q) (hk : D (8, i, q) 3 = 0) : CF K mX2_receive (d + 3) [rR (2, i, 0)] D (some (rI 2)) (chgD (rcv1 D i q (tk (tkc D i i 0) p z).2.1 (tk (tkc D i i 0) p z).2.2) i 1 (D (8, i, q) 2) 1 40) := by
  refine CF.of [some (rR (2, i, 0)), none] (by decide) (leb rfl) rfl ?_
  have hq : q < 8 := (tk_lt (tkc D i i 0) z p hp).2.2 q ht
  refine RD.aload_n (pc := 0) dX2_receive_0 rfl ?_
  refine RD.getR (pc := 1) dX2_receive_1 flX2_47 (ok2 hi) rfl rfl ?_
  refine RD.aload_n (pc := 4) dX2_receive_4 rfl ?_
  refine RD.getR (pc := 5) dX2_receive_5 flX2_34 (ok2 hi) rfl rfl ?_
  refine RD.cV1 (pc := 8) dX2_receive_8 mlX2_104 rfl (ok6 hi) rfl ((c_take K _ hi (ok4 hi (by decide)) D hp hz8 hf hz).to (show _ = some (rR (8, i, q)) by rw [ht]; rfl) rfl) (leb rfl) ?_
  refine RD.astore_n (pc := 11) (ls' := [some (rR (2, i, 0)), some (rR (8, i, q))]) dX2_receive_11 (by decide) rfl ?_
  refine RD.aload_n (pc := 12) dX2_receive_12 rfl ?_
  refine RD.ifnonnull (pc := 13) 18 dX2_receive_13 (by decide) (fun _ _ => ?_) (fun c13 => nomatch c13)
  refine RD.aload_n (pc := 18) dX2_receive_18 rfl ?_
  refine RD.getR (pc := 19) dX2_receive_19 flX2_9 (ok2 hi) rfl rfl ?_
  refine RD.bipush (pc := 22) (v := 120) dX2_receive_22 (by decide) ?_
  refine RD.aload_n (pc := 24) dX2_receive_24 rfl ?_
  refine RD.gI (pc := 25) (v := D (8, i, q) 2) ((congrFun (qst_o (by simp)) _).trans rfl) dX2_receive_25 flX2_108 (ok8 hi hq) rfl rfl ?_
  refine RD.iast (pc := 28) 120 dX2_receive_28 (ok3 hi) rfl rfl (by decide) (by decide) ?_
  refine RD.aload_n (pc := 29) dX2_receive_29 rfl ?_
  refine RD.getR (pc := 30) dX2_receive_30 flX2_9 (ok2 hi) rfl rfl ?_
  refine RD.bipush (pc := 33) (v := 121) dX2_receive_33 (by decide) ?_
  refine RD.aload_n (pc := 35) dX2_receive_35 rfl ?_
  refine RD.gI (pc := 36) (v := D (8, i, q) 1) (up_N (by simp) ((congrFun (qst_o (by simp)) _).trans rfl)) dX2_receive_36 flX2_113 (ok8 hi hq) rfl rfl ?_
  refine RD.iast (pc := 39) 121 dX2_receive_39 (ok3 hi) rfl rfl (by decide) (by decide) ?_
  refine RD.aload_n (pc := 40) dX2_receive_40 rfl ?_
  refine RD.gI (pc := 41) (v := D (8, i, q) 3) (up_N (by simp) (up_N (by simp) ((congrFun (qst_o (by simp)) _).trans rfl))) dX2_receive_41 flX2_116 (ok8 hi hq) rfl rfl ?_
  refine RD.iconst (pc := 44) (v := (-1)) dX2_receive_44 (by decide) ?_
  refine RD.icmp_ne (pc := 45) 50 dX2_receive_45 (by decide) (fun c45 => ?_) (fun c45 => absurd c45 (by rw [hk]; decide))
  refine RD.aload_n (pc := 50) dX2_receive_50 rfl ?_
  refine RD.aload_n (pc := 51) dX2_receive_51 rfl ?_
  refine RD.gI (pc := 52) (v := D (8, i, q) 3) (up_N (by simp) (up_N (by simp) ((congrFun (qst_o (by simp)) _).trans rfl))) dX2_receive_52 flX2_116 (ok8 hi hq) rfl rfl ?_
  refine RD.cV1 (pc := 55) dX2_receive_55 mlX2_93 rfl (ok2 hi) rfl (by rw [hk]; exact c_cap0 K _ hi _) (leb rfl) ?_
  refine RD.aload_n (pc := 58) dX2_receive_58 rfl ?_
  refine RD.gI (pc := 59) (v := D (8, i, q) 2) (up_N (by simp) (up_N (by simp) ((congrFun (qst_o (by simp)) _).trans rfl))) dX2_receive_59 flX2_108 (ok8 hi hq) rfl rfl ?_
  refine RD.iconst (pc := 62) (v := 1) dX2_receive_62 (by decide) ?_
  refine RD.bipush (pc := 63) (v := 40) dX2_receive_63 (by decide) ?_
  refine RD.cV3 (pc := 65) dX2_receive_65 mlX2_119 rfl (ok4 hi (by decide)) rfl (c_change K _ (ok4 hi (by decide)) (up (up (qst D i (tk (tkc D i i 0) p z).2.1 (tk (tkc D i i 0) p z).2.2) (3, i, 0) 120 (D (8, i, q) 2)) (3, i, 0) 121 (D (8, i, q) 1)) (D (8, i, q) 2) 1 40) (leb rfl) ?_
  refine RD.pop (pc := 68) dX2_receive_68 ?_
  refine RD.iconst (pc := 69) (v := 2) dX2_receive_69 (by decide) ?_
  refine RD.ireturn (pc := 70) dX2_receive_70 rfl rfl ?_
  exact ⟨rfl, rfl⟩

set_option maxRecDepth 20000 in
set_option maxHeartbeats 1000000 in
theorem c_receive3 (K : EK) (d : Nat) {i : Nat} (hi : i < 8) (D : DT) {p z : Nat} (hp : p < 8) (hz8 : z ≤ 8) (hf : D (6, i, 0) 1 = nI p) (hz : D (6, i, 0) 2 = nI z) {q : Nat} (ht : (tk (tkc D i i 0) p z).1 = some q) (hk : ¬ D (8, i, q) 3 = (-1)) (hk0 : ¬ D (8, i, q) 3 = 0) : CF K mX2_receive (d + 3) [rR (2, i, 0)] D (some (rI 2)) (chgD (rcv1 D i q (tk (tkc D i i 0) p z).2.1 (tk (tkc D i i 0) p z).2.2) i 2 (D (8, i, q) 2) 1 40) := by
  refine CF.of [some (rR (2, i, 0)), none] (by decide) (leb rfl) rfl ?_
  have hq : q < 8 := (tk_lt (tkc D i i 0) z p hp).2.2 q ht
  refine RD.aload_n (pc := 0) dX2_receive_0 rfl ?_
  refine RD.getR (pc := 1) dX2_receive_1 flX2_47 (ok2 hi) rfl rfl ?_
  refine RD.aload_n (pc := 4) dX2_receive_4 rfl ?_
  refine RD.getR (pc := 5) dX2_receive_5 flX2_34 (ok2 hi) rfl rfl ?_
  refine RD.cV1 (pc := 8) dX2_receive_8 mlX2_104 rfl (ok6 hi) rfl ((c_take K _ hi (ok4 hi (by decide)) D hp hz8 hf hz).to (show _ = some (rR (8, i, q)) by rw [ht]; rfl) rfl) (leb rfl) ?_
  refine RD.astore_n (pc := 11) (ls' := [some (rR (2, i, 0)), some (rR (8, i, q))]) dX2_receive_11 (by decide) rfl ?_
  refine RD.aload_n (pc := 12) dX2_receive_12 rfl ?_
  refine RD.ifnonnull (pc := 13) 18 dX2_receive_13 (by decide) (fun _ _ => ?_) (fun c13 => nomatch c13)
  refine RD.aload_n (pc := 18) dX2_receive_18 rfl ?_
  refine RD.getR (pc := 19) dX2_receive_19 flX2_9 (ok2 hi) rfl rfl ?_
  refine RD.bipush (pc := 22) (v := 120) dX2_receive_22 (by decide) ?_
  refine RD.aload_n (pc := 24) dX2_receive_24 rfl ?_
  refine RD.gI (pc := 25) (v := D (8, i, q) 2) ((congrFun (qst_o (by simp)) _).trans rfl) dX2_receive_25 flX2_108 (ok8 hi hq) rfl rfl ?_
  refine RD.iast (pc := 28) 120 dX2_receive_28 (ok3 hi) rfl rfl (by decide) (by decide) ?_
  refine RD.aload_n (pc := 29) dX2_receive_29 rfl ?_
  refine RD.getR (pc := 30) dX2_receive_30 flX2_9 (ok2 hi) rfl rfl ?_
  refine RD.bipush (pc := 33) (v := 121) dX2_receive_33 (by decide) ?_
  refine RD.aload_n (pc := 35) dX2_receive_35 rfl ?_
  refine RD.gI (pc := 36) (v := D (8, i, q) 1) (up_N (by simp) ((congrFun (qst_o (by simp)) _).trans rfl)) dX2_receive_36 flX2_113 (ok8 hi hq) rfl rfl ?_
  refine RD.iast (pc := 39) 121 dX2_receive_39 (ok3 hi) rfl rfl (by decide) (by decide) ?_
  refine RD.aload_n (pc := 40) dX2_receive_40 rfl ?_
  refine RD.gI (pc := 41) (v := D (8, i, q) 3) (up_N (by simp) (up_N (by simp) ((congrFun (qst_o (by simp)) _).trans rfl))) dX2_receive_41 flX2_116 (ok8 hi hq) rfl rfl ?_
  refine RD.iconst (pc := 44) (v := (-1)) dX2_receive_44 (by decide) ?_
  refine RD.icmp_ne (pc := 45) 50 dX2_receive_45 (by decide) (fun c45 => ?_) (fun c45 => absurd c45 hk)
  refine RD.aload_n (pc := 50) dX2_receive_50 rfl ?_
  refine RD.aload_n (pc := 51) dX2_receive_51 rfl ?_
  refine RD.gI (pc := 52) (v := D (8, i, q) 3) (up_N (by simp) (up_N (by simp) ((congrFun (qst_o (by simp)) _).trans rfl))) dX2_receive_52 flX2_116 (ok8 hi hq) rfl rfl ?_
  refine RD.cV1 (pc := 55) dX2_receive_55 mlX2_93 rfl (ok2 hi) rfl (c_cap1 K _ hi _ hk0) (leb rfl) ?_
  refine RD.aload_n (pc := 58) dX2_receive_58 rfl ?_
  refine RD.gI (pc := 59) (v := D (8, i, q) 2) (up_N (by simp) (up_N (by simp) ((congrFun (qst_o (by simp)) _).trans rfl))) dX2_receive_59 flX2_108 (ok8 hi hq) rfl rfl ?_
  refine RD.iconst (pc := 62) (v := 1) dX2_receive_62 (by decide) ?_
  refine RD.bipush (pc := 63) (v := 40) dX2_receive_63 (by decide) ?_
  refine RD.cV3 (pc := 65) dX2_receive_65 mlX2_119 rfl (ok4 hi (by decide)) rfl (c_change K _ (ok4 hi (by decide)) (up (up (qst D i (tk (tkc D i i 0) p z).2.1 (tk (tkc D i i 0) p z).2.2) (3, i, 0) 120 (D (8, i, q) 2)) (3, i, 0) 121 (D (8, i, q) 1)) (D (8, i, q) 2) 1 40) (leb rfl) ?_
  refine RD.pop (pc := 68) dX2_receive_68 ?_
  refine RD.iconst (pc := 69) (v := 2) dX2_receive_69 (by decide) ?_
  refine RD.ireturn (pc := 70) dX2_receive_70 rfl rfl ?_
  exact ⟨rfl, rfl⟩
end
section
theorem div32 {n : Nat} (h : n < 2 ^ 31) : nI n / 32 = nI (n / 32) := pk_div (d := 32) h (by decide) (by decide)
theorem rem32 {n : Nat} (h : n < 2 ^ 31) : nI n - nI n / 32 * 32 = nI (n % 32) := pk_rem (d := 32) h (by decide) (by decide)
theorem div8 {n : Nat} (h : n < 2 ^ 31) : nI n / 8 = nI (n / 8) := pk_div (d := 8) h (by decide) (by decide)
theorem rem8 {n : Nat} (h : n < 2 ^ 31) : nI n - nI n / 8 * 8 = nI (n % 8) := pk_rem (d := 8) h (by decide) (by decide)
/-- the tag is THERE -/
def thB (D : DT) (t : Int32) : Bool := inR t 256 && decide (nI (t.toNatClampNeg % 32) < D (2, t.toNatClampNeg / 32, 0) 6)
theorem thB_nI {D : DT} {n : Nat} (hn : n < 256) : thB D (nI n) = decide (nI (n % 32) < D (2, n / 32, 0) 6) := by
  rw [thB, inR_nI (by decide) hn, nI_clamp (by omega), Bool.true_and]
theorem thB_in {D : DT} {t : Int32} (h : thB D t = true) : inR t 256 = true := by
  cases hq : inR t 256 with
  | true => rfl
  | false => simp [thB, hq] at h

set_option maxRecDepth 20000 in
set_option maxHeartbeats 1000000 in
theorem c_isThere (K : EK) (d : Nat) (D : DT) (t : Int32) : CF K mX5_isThere (d + 1) [rR (0, 0, 0), rI t] D (some (rI (bI (thB D t)))) D := by
  refine CF.of [some (rR (0, 0, 0)), some (rI t)] (by decide) (leb rfl) rfl ?_
  refine RD.iload_n (pc := 0) dX5_isThere_0 rfl ?_
  refine RD.cS1 (pc := 1) dX5_isThere_1 mlX5_144 (c_isTag K _ D t) (leb rfl) ?_
  refine RD.if_eq (pc := 4) 30 dX5_isThere_4 (by decide) (fun c4 => ?_) (fun c4 => ?_)
  · refine RD.iconst (pc := 30) (v := 0) dX5_isThere_30 (by decide) ?_
    refine RD.ireturn (pc := 31) dX5_isThere_31 rfl rfl ?_
    exact ⟨by rw [thB, bI_0 c4]; rfl, rfl⟩
  · obtain ⟨n, hn, rfl⟩ := inR_t (N := 256) (by decide) (bI_1 c4)
    refine RD.iload_n (pc := 7) dX5_isThere_7 rfl ?_
    refine RD.bipush (pc := 8) (v := 32) dX5_isThere_8 (by decide) ?_
    refine RD.irem (pc := 10) dX5_isThere_10 (by decide) ?_
    refine RD.aload_n (pc := 11) dX5_isThere_11 rfl ?_
    refine RD.getR (pc := 12) dX5_isThere_12 flX5_11 ok0 rfl rfl ?_
    refine RD.iload_n (pc := 15) dX5_isThere_15 rfl ?_
    refine RD.bipush (pc := 16) (v := 32) dX5_isThere_16 (by decide) ?_
    refine RD.idiv (pc := 18) dX5_isThere_18 (by decide) ?_
    refine RD.aald (pc := 19) (n / 32) dX5_isThere_19 ok1 rfl rfl (div32 (by omega)) (by omega) (by decide) ?_
    refine RD.gI (pc := 20) (v := D (2, n / 32, 0) 6) rfl dX5_isThere_20 flX5_40 (ok2 (by omega)) rfl rfl ?_
    refine RD.icmp_ge (pc := 23) 30 dX5_isThere_23 (by decide) (fun c23 => ?_) (fun c23 => ?_)
    · refine RD.iconst (pc := 30) (v := 0) dX5_isThere_30 (by decide) ?_
      refine RD.ireturn (pc := 31) dX5_isThere_31 rfl rfl ?_
      rw [rem32 (by omega)] at c23
      exact ⟨by rw [thB_nI hn, decide_eq_false (Int32.not_lt.mpr c23)]; rfl, rfl⟩
    · refine RD.iconst (pc := 26) (v := 1) dX5_isThere_26 (by decide) ?_
      refine RD.goto (pc := 27) 31 dX5_isThere_27 (by decide) ?_
      refine RD.ireturn (pc := 31) dX5_isThere_31 rfl rfl ?_
      rw [rem32 (by omega)] at c23
      exact ⟨by rw [thB_nI hn, decide_eq_true (i32_nle c23)]; rfl, rfl⟩

set_option maxRecDepth 20000 in
set_option maxHeartbeats 1000000 in
theorem c_fileAt (K : EK) (d : Nat) (D : DT) {n : Nat} (hn : n < 64) : CF K mX5_fileAt d [rR (0, 0, 0), rI (nI n)] D (some (rR (12, n / 8, n % 8))) D := by
  refine CF.of [some (rR (0, 0, 0)), some (rI (nI n))] (by decide) (leb rfl) rfl ?_
  refine RD.aload_n (pc := 0) dX5_fileAt_0 rfl ?_
  refine RD.getR (pc := 1) dX5_fileAt_1 flX5_11 ok0 rfl rfl ?_
  refine RD.iload_n (pc := 4) dX5_fileAt_4 rfl ?_
  refine RD.bipush (pc := 5) (v := 8) dX5_fileAt_5 (by decide) ?_
  refine RD.idiv (pc := 7) dX5_fileAt_7 (by decide) ?_
  refine RD.aald (pc := 8) (n / 8) dX5_fileAt_8 ok1 rfl rfl (div8 (by omega)) (by omega) (by decide) ?_
  refine RD.getR (pc := 9) dX5_fileAt_9 flX5_147 (ok2 (by omega)) rfl rfl ?_
  refine RD.iload_n (pc := 12) dX5_fileAt_12 rfl ?_
  refine RD.bipush (pc := 13) (v := 8) dX5_fileAt_13 (by decide) ?_
  refine RD.irem (pc := 15) dX5_fileAt_15 (by decide) ?_
  refine RD.aald (pc := 16) (n % 8) dX5_fileAt_16 (ok9 (by omega)) rfl rfl (rem8 (by omega)) (by omega) (by decide) ?_
  refine RD.areturn (pc := 17) dX5_fileAt_17 rfl ?_
  exact ⟨rfl, rfl⟩


/-- the file is there -/
def thr (D : DT) (n : Nat) : Bool := !decide (D (12, n / 8, n % 8) 2 = 0)
/-- there is such a cell of such a file -/
def fcB (D : DT) (k i : Int32) : Bool := inR k 64 && (inR i 8 && thr D k.toNatClampNeg)
theorem fcB_k {D : DT} {k i : Int32} (h : inR k 64 = false) : fcB D k i = false := by rw [fcB, h, Bool.false_and]
theorem fcB_i {D : DT} {k i : Int32} (h : inR i 8 = false) : fcB D k i = false := by rw [fcB, h, Bool.false_and, Bool.and_false]
theorem fcB_nI {D : DT} {n e : Nat} (hn : n < 64) (he : e < 8) : fcB D (nI n) (nI e) = thr D n := by
  rw [fcB, inR_nI (by decide) hn, inR_nI (by decide) he, nI_clamp (by omega), Bool.true_and, Bool.true_and]
theorem fcB_t {D : DT} {k i : Int32} (h : fcB D k i = true) : ∃ n e, n < 64 ∧ e < 8 ∧ k = nI n ∧ i = nI e ∧ thr D n = true := by
  simp only [fcB, Bool.and_eq_true] at h
  obtain ⟨h1, h2, h3⟩ := h
  obtain ⟨n, hn, rfl⟩ := inR_t (by decide) h1
  obtain ⟨e, he, rfl⟩ := inR_t (by decide) h2
  rw [nI_clamp (by omega)] at h3
  exact ⟨n, e, hn, he, rfl, rfl, h3⟩

set_option maxRecDepth 20000 in
set_option maxHeartbeats 1000000 in
theorem c_isFileCell (K : EK) (d : Nat) (D : DT) (k i : Int32) : CF K mX5_isFileCell (d + 1) [rR (0, 0, 0), rI k, rI i] D (some (rI (bI (fcB D k i)))) D := by
  refine CF.of [some (rR (0, 0, 0)), some (rI k), some (rI i)] (by decide) (leb rfl) rfl ?_
  refine RD.iload_n (pc := 0) dX5_isFileCell_0 rfl ?_
  refine RD.cS1 (pc := 1) dX5_isFileCell_1 mlX5_57 (c_isFile K _ D k) (leb rfl) ?_
  refine RD.if_eq (pc := 4) 32 dX5_isFileCell_4 (by decide) (fun c4 => ?_) (fun c4 => ?_)
  · refine RD.iconst (pc := 32) (v := 0) dX5_isFileCell_32 (by decide) ?_
    refine RD.ireturn (pc := 33) dX5_isFileCell_33 rfl rfl ?_
    exact ⟨by rw [fcB_k (bI_0 c4)]; rfl, rfl⟩
  · refine RD.iload_n (pc := 7) dX5_isFileCell_7 rfl ?_
    refine RD.if_lt (pc := 8) 32 dX5_isFileCell_8 (by decide) (fun c8 => ?_) (fun c8 => ?_)
    · refine RD.iconst (pc := 32) (v := 0) dX5_isFileCell_32 (by decide) ?_
      refine RD.ireturn (pc := 33) dX5_isFileCell_33 rfl rfl ?_
      exact ⟨by rw [fcB_i (inR_neg c8)]; rfl, rfl⟩
    · refine RD.iload_n (pc := 11) dX5_isFileCell_11 rfl ?_
      refine RD.bipush (pc := 12) (v := 8) dX5_isFileCell_12 (by decide) ?_
      refine RD.icmp_ge (pc := 14) 32 dX5_isFileCell_14 (by decide) (fun c14 => ?_) (fun c14 => ?_)
      · refine RD.iconst (pc := 32) (v := 0) dX5_isFileCell_32 (by decide) ?_
        refine RD.ireturn (pc := 33) dX5_isFileCell_33 rfl rfl ?_
        exact ⟨by rw [fcB_i (inR_big (N := 8) c14)]; rfl, rfl⟩
      · obtain ⟨n, hn, rfl⟩ := inR_t (N := 64) (by decide) (bI_1 c4)
        obtain ⟨e, he, rfl⟩ := inR_n (N := 8) c8 c14 (by decide)
        refine RD.aload_n (pc := 17) dX5_isFileCell_17 rfl ?_
        refine RD.iload_n (pc := 18) dX5_isFileCell_18 rfl ?_
        refine RD.cV1 (pc := 19) dX5_isFileCell_19 mlX5_60 rfl ok0 rfl (c_fileAt K _ D hn) (leb rfl) ?_
        refine RD.gI (pc := 22) (v := D (12, n / 8, n % 8) 2) rfl dX5_isFileCell_22 flX5_64 (ok12 (by omega) (by omega)) rfl rfl ?_
        refine RD.if_eq (pc := 25) 32 dX5_isFileCell_25 (by decide) (fun c25 => ?_) (fun c25 => ?_)
        · refine RD.iconst (pc := 32) (v := 0) dX5_isFileCell_32 (by decide) ?_
          refine RD.ireturn (pc := 33) dX5_isFileCell_33 rfl rfl ?_
          exact ⟨by rw [fcB_nI hn he, thr, decide_eq_true c25]; rfl, rfl⟩
        · refine RD.iconst (pc := 28) (v := 1) dX5_isFileCell_28 (by decide) ?_
          refine RD.goto (pc := 29) 33 dX5_isFileCell_29 (by decide) ?_
          refine RD.ireturn (pc := 33) dX5_isFileCell_33 rfl rfl ?_
          exact ⟨by rw [fcB_nI hn he, thr, decide_eq_false c25]; rfl, rfl⟩

set_option maxRecDepth 20000 in
set_option maxHeartbeats 1000000 in
theorem c_poke (K : EK) (d : Nat) (D : DT) {s n : Nat} (hs : s < 8) (hn : n < 126) (u v w : Int32) : CF K mX5_poke (d + 1) [rR (0, 0, 0), rI (nI s), rI (nI n), rI u, rI v, rI w] D (some (rI 1)) (up (up (up D (3, s, 0) n u) (3, s, 0) (n + 1) v) (3, s, 0) (n + 2) w) := by
  refine CF.of [some (rR (0, 0, 0)), some (rI (nI s)), some (rI (nI n)), some (rI u), some (rI v), some (rI w), none] (by decide) (leb rfl) rfl ?_
  refine RD.iload_n (pc := 0) dX5_poke_0 rfl ?_
  refine RD.cS1 (pc := 1) dX5_poke_1 mlX5_29 (c_isSlot K _ D (nI s)) (leb rfl) ?_
  refine RD.if_eq (pc := 4) 17 dX5_poke_4 (by decide) (fun c4 => absurd c4 (bIin (by decide) hs)) (fun c4 => ?_)
  refine RD.iload_n (pc := 7) dX5_poke_7 rfl ?_
  refine RD.if_lt (pc := 8) 17 dX5_poke_8 (by decide) (fun c8 => absurd c8 (nI_pos (by omega))) (fun c8 => ?_)
  refine RD.iload_n (pc := 11) dX5_poke_11 rfl ?_
  refine RD.bipush (pc := 12) (v := 125) dX5_poke_12 (by decide) ?_
  refine RD.icmp_le (pc := 14) 19 dX5_poke_14 (by decide) (fun c14 => ?_) (fun c14 => absurd (nI_le (a := n) (b := 125) (by omega) (by decide)) c14)
  refine RD.aload_n (pc := 19) dX5_poke_19 rfl ?_
  refine RD.getR (pc := 20) dX5_poke_20 flX5_11 ok0 rfl rfl ?_
  refine RD.iload_n (pc := 23) dX5_poke_23 rfl ?_
  refine RD.aald (pc := 24) s dX5_poke_24 ok1 rfl rfl rfl hs (by decide) ?_
  refine RD.getR (pc := 25) dX5_poke_25 flX5_33 (ok2 hs) rfl rfl ?_
  refine RD.astore (pc := 28) (ls' := [some (rR (0, 0, 0)), some (rI (nI s)), some (rI (nI n)), some (rI u), some (rI v), some (rI w), some (rR (3, s, 0))]) dX5_poke_28 (by decide) rfl ?_
  refine RD.aload (pc := 30) dX5_poke_30 rfl ?_
  refine RD.iload_n (pc := 32) dX5_poke_32 rfl ?_
  refine RD.iload_n (pc := 33) dX5_poke_33 rfl ?_
  refine RD.iast (pc := 34) n dX5_poke_34 (ok3 hs) rfl rfl (by omega) (by decide) ?_
  refine RD.aload (pc := 35) dX5_poke_35 rfl ?_
  refine RD.iload_n (pc := 37) dX5_poke_37 rfl ?_
  refine RD.iconst (pc := 38) (v := 1) dX5_poke_38 (by decide) ?_
  refine RD.iadd (pc := 39) dX5_poke_39 ?_
  refine RD.iload (pc := 40) dX5_poke_40 rfl ?_
  refine RD.iast (pc := 42) (n + 1) dX5_poke_42 (ok3 hs) rfl (nI_1 n) (by omega) (by decide) ?_
  refine RD.aload (pc := 43) dX5_poke_43 rfl ?_
  refine RD.iload_n (pc := 45) dX5_poke_45 rfl ?_
  refine RD.iconst (pc := 46) (v := 2) dX5_poke_46 (by decide) ?_
  refine RD.iadd (pc := 47) dX5_poke_47 ?_
  refine RD.iload (pc := 48) dX5_poke_48 rfl ?_
  refine RD.iast (pc := 50) (n + 2) dX5_poke_50 (ok3 hs) rfl (nI_add n 2) (by omega) (by decide) ?_
  refine RD.iconst (pc := 51) (v := 1) dX5_poke_51 (by decide) ?_
  refine RD.ireturn (pc := 52) dX5_poke_52 rfl rfl ?_
  exact ⟨rfl, rfl⟩


theorem le_in {x : Int32} {n : Nat} (hn : n < 2 ^ 30) (h : ¬ x < 0) (h2 : x ≤ nI n) : inR x (n + 1) = true := by
  obtain ⟨j, hj, rfl⟩ := nI_of2 (nI_toInt (by omega)) h h2
  exact inR_nI (by omega) (by omega)
theorem nle_in {x : Int32} {n : Nat} (hn : n < 2 ^ 30) (h2 : ¬ x ≤ nI n) : inR x (n + 1) = false := by
  cases hq : inR x (n + 1) with
  | false => rfl
  | true =>
    obtain ⟨j, hj, rfl⟩ := inR_t (by omega) hq
    exact absurd (nI_le (by omega) (by omega)) h2

set_option maxRecDepth 20000 in
set_option maxHeartbeats 1000000 in
theorem c_pokeN (K : EK) (d : Nat) (D : DT) (a b u v w : Int32) (h : ¬ (inR a 8 = true ∧ inR b 126 = true)) : CF K mX5_poke (d + 1) [rR (0, 0, 0), rI a, rI b, rI u, rI v, rI w] D (some (rI (-1))) D := by
  refine CF.of [some (rR (0, 0, 0)), some (rI a), some (rI b), some (rI u), some (rI v), some (rI w), none] (by decide) (leb rfl) rfl ?_
  refine RD.iload_n (pc := 0) dX5_poke_0 rfl ?_
  refine RD.cS1 (pc := 1) dX5_poke_1 mlX5_29 (c_isSlot K _ D a) (leb rfl) ?_
  refine RD.if_eq (pc := 4) 17 dX5_poke_4 (by decide) (fun c4 => ?_) (fun c4 => ?_)
  · refine RD.iconst (pc := 17) (v := (-1)) dX5_poke_17 (by decide) ?_
    refine RD.ireturn (pc := 18) dX5_poke_18 rfl rfl ?_
    exact ⟨rfl, rfl⟩
  · refine RD.iload_n (pc := 7) dX5_poke_7 rfl ?_
    refine RD.if_lt (pc := 8) 17 dX5_poke_8 (by decide) (fun c8 => ?_) (fun c8 => ?_)
    · refine RD.iconst (pc := 17) (v := (-1)) dX5_poke_17 (by decide) ?_
      refine RD.ireturn (pc := 18) dX5_poke_18 rfl rfl ?_
      exact ⟨rfl, rfl⟩
    · refine RD.iload_n (pc := 11) dX5_poke_11 rfl ?_
      refine RD.bipush (pc := 12) (v := 125) dX5_poke_12 (by decide) ?_
      refine RD.icmp_le (pc := 14) 19 dX5_poke_14 (by decide) (fun c14 => ?_) (fun c14 => ?_)
      · exact absurd ⟨bI_1 c4, le_in (n := 125) (by decide) c8 c14⟩ h
      · refine RD.iconst (pc := 17) (v := (-1)) dX5_poke_17 (by decide) ?_
        refine RD.ireturn (pc := 18) dX5_poke_18 rfl rfl ?_
        exact ⟨rfl, rfl⟩

set_option maxRecDepth 20000 in
set_option maxHeartbeats 1000000 in
theorem c_start (K : EK) (d : Nat) (D : DT) {s : Nat} (hs : s < 8) (h : D (2, s, 0) 4 = 0) : CF K mX5_start (d + 1) [rR (0, 0, 0), rI (nI s)] D (some (rI 1)) (up D (2, s, 0) 4 1) := by
  refine CF.of [some (rR (0, 0, 0)), some (rI (nI s))] (by decide) (leb rfl) rfl ?_
  refine RD.iload_n (pc := 0) dX5_start_0 rfl ?_
  refine RD.cS1 (pc := 1) dX5_start_1 mlX5_29 (c_isSlot K _ D (nI s)) (leb rfl) ?_
  refine RD.if_eq (pc := 4) 19 dX5_start_4 (by decide) (fun c4 => absurd c4 (bIin (by decide) hs)) (fun c4 => ?_)
  refine RD.aload_n (pc := 7) dX5_start_7 rfl ?_
  refine RD.getR (pc := 8) dX5_start_8 flX5_11 ok0 rfl rfl ?_
  refine RD.iload_n (pc := 11) dX5_start_11 rfl ?_
  refine RD.aald (pc := 12) s dX5_start_12 ok1 rfl rfl rfl hs (by decide) ?_
  refine RD.gI (pc := 13) (v := D (2, s, 0) 4) rfl dX5_start_13 flX5_37 (ok2 hs) rfl rfl ?_
  refine RD.if_eq (pc := 16) 21 dX5_start_16 (by decide) (fun c16 => ?_) (fun c16 => absurd h c16)
  refine RD.aload_n (pc := 21) dX5_start_21 rfl ?_
  refine RD.getR (pc := 22) dX5_start_22 flX5_11 ok0 rfl rfl ?_
  refine RD.iload_n (pc := 25) dX5_start_25 rfl ?_
  refine RD.aald (pc := 26) s dX5_start_26 ok1 rfl rfl rfl hs (by decide) ?_
  refine RD.iconst (pc := 27) (v := 1) dX5_start_27 (by decide) ?_
  refine RD.putf (pc := 28) dX5_start_28 fpX5_37 (ok2 hs) rfl rfl rfl rfl ?_
  refine RD.iconst (pc := 31) (v := 1) dX5_start_31 (by decide) ?_
  refine RD.ireturn (pc := 32) dX5_start_32 rfl rfl ?_
  exact ⟨rfl, rfl⟩

set_option maxRecDepth 20000 in
set_option maxHeartbeats 1000000 in
theorem c_startN (K : EK) (d : Nat) (D : DT) (a : Int32) (h : ∀ s, s < 8 → a = nI s → ¬ D (2, s, 0) 4 = 0) : CF K mX5_start (d + 1) [rR (0, 0, 0), rI a] D (some (rI (-1))) D := by
  refine CF.of [some (rR (0, 0, 0)), some (rI a)] (by decide) (leb rfl) rfl ?_
  refine RD.iload_n (pc := 0) dX5_start_0 rfl ?_
  refine RD.cS1 (pc := 1) dX5_start_1 mlX5_29 (c_isSlot K _ D a) (leb rfl) ?_
  refine RD.if_eq (pc := 4) 19 dX5_start_4 (by decide) (fun c4 => ?_) (fun c4 => ?_)
  · refine RD.iconst (pc := 19) (v := (-1)) dX5_start_19 (by decide) ?_
    refine RD.ireturn (pc := 20) dX5_start_20 rfl rfl ?_
    exact ⟨rfl, rfl⟩
  · obtain ⟨s, hs, rfl⟩ := inR_t (N := 8) (by decide) (bI_1 c4)
    refine RD.aload_n (pc := 7) dX5_start_7 rfl ?_
    refine RD.getR (pc := 8) dX5_start_8 flX5_11 ok0 rfl rfl ?_
    refine RD.iload_n (pc := 11) dX5_start_11 rfl ?_
    refine RD.aald (pc := 12) s dX5_start_12 ok1 rfl rfl rfl hs (by decide) ?_
    refine RD.gI (pc := 13) (v := D (2, s, 0) 4) rfl dX5_start_13 flX5_37 (ok2 hs) rfl rfl ?_
    refine RD.if_eq (pc := 16) 21 dX5_start_16 (by decide) (fun c16 => ?_) (fun c16 => ?_)
    · exact absurd c16 (h s hs rfl)
    · refine RD.iconst (pc := 19) (v := (-1)) dX5_start_19 (by decide) ?_
      refine RD.ireturn (pc := 20) dX5_start_20 rfl rfl ?_
      exact ⟨rfl, rfl⟩

set_option maxRecDepth 20000 in
set_option maxHeartbeats 1000000 in
theorem c_counterN (K : EK) (d : Nat) (D : DT) (a b : Int32) (h : ¬ (inR a 8 = true ∧ inR b 33 = true)) : CF K mX5_counter (d + 1) [rR (0, 0, 0), rI a, rI b] D (some (rI (-1))) D := by
  refine CF.of [some (rR (0, 0, 0)), some (rI a), some (rI b), none] (by decide) (leb rfl) rfl ?_
  refine RD.iload_n (pc := 0) dX5_counter_0 rfl ?_
  refine RD.cS1 (pc := 1) dX5_counter_1 mlX5_29 (c_isSlot K _ D a) (leb rfl) ?_
  refine RD.if_eq (pc := 4) 17 dX5_counter_4 (by decide) (fun c4 => ?_) (fun c4 => ?_)
  · refine RD.iconst (pc := 17) (v := (-1)) dX5_counter_17 (by decide) ?_
    refine RD.ireturn (pc := 18) dX5_counter_18 rfl rfl ?_
    exact ⟨rfl, rfl⟩
  · refine RD.iload_n (pc := 7) dX5_counter_7 rfl ?_
    refine RD.if_lt (pc := 8) 17 dX5_counter_8 (by decide) (fun c8 => ?_) (fun c8 => ?_)
    · refine RD.iconst (pc := 17) (v := (-1)) dX5_counter_17 (by decide) ?_
      refine RD.ireturn (pc := 18) dX5_counter_18 rfl rfl ?_
      exact ⟨rfl, rfl⟩
    · refine RD.iload_n (pc := 11) dX5_counter_11 rfl ?_
      refine RD.bipush (pc := 12) (v := 32) dX5_counter_12 (by decide) ?_
      refine RD.icmp_le (pc := 14) 19 dX5_counter_14 (by decide) (fun c14 => ?_) (fun c14 => ?_)
      · exact absurd ⟨bI_1 c4, le_in (n := 32) (by decide) c8 c14⟩ h
      · refine RD.iconst (pc := 17) (v := (-1)) dX5_counter_17 (by decide) ?_
        refine RD.ireturn (pc := 18) dX5_counter_18 rfl rfl ?_
        exact ⟨rfl, rfl⟩

set_option maxRecDepth 20000 in
set_option maxHeartbeats 1000000 in
theorem c_counter2 (K : EK) (d : Nat) (D : DT) {s n : Nat} (hs : s < 8) (hn : n < 33) (h : nI n < D (2, s, 0) 6) : CF K mX5_counter (d + 1) [rR (0, 0, 0), rI (nI s), rI (nI n)] D (some (rI (-2))) D := by
  refine CF.of [some (rR (0, 0, 0)), some (rI (nI s)), some (rI (nI n)), none] (by decide) (leb rfl) rfl ?_
  refine RD.iload_n (pc := 0) dX5_counter_0 rfl ?_
  refine RD.cS1 (pc := 1) dX5_counter_1 mlX5_29 (c_isSlot K _ D (nI s)) (leb rfl) ?_
  refine RD.if_eq (pc := 4) 17 dX5_counter_4 (by decide) (fun c4 => absurd c4 (bIin (by decide) hs)) (fun c4 => ?_)
  refine RD.iload_n (pc := 7) dX5_counter_7 rfl ?_
  refine RD.if_lt (pc := 8) 17 dX5_counter_8 (by decide) (fun c8 => absurd c8 (nI_pos (by omega))) (fun c8 => ?_)
  refine RD.iload_n (pc := 11) dX5_counter_11 rfl ?_
  refine RD.bipush (pc := 12) (v := 32) dX5_counter_12 (by decide) ?_
  refine RD.icmp_le (pc := 14) 19 dX5_counter_14 (by decide) (fun c14 => ?_) (fun c14 => absurd (nI_le (a := n) (b := 32) (by omega) (by decide)) c14)
  refine RD.aload_n (pc := 19) dX5_counter_19 rfl ?_
  refine RD.getR (pc := 20) dX5_counter_20 flX5_11 ok0 rfl rfl ?_
  refine RD.iload_n (pc := 23) dX5_counter_23 rfl ?_
  refine RD.aald (pc := 24) s dX5_counter_24 ok1 rfl rfl rfl hs (by decide) ?_
  refine RD.gI (pc := 25) (v := D (2, s, 0) 6) rfl dX5_counter_25 flX5_40 (ok2 hs) rfl rfl ?_
  refine RD.istore_n (pc := 28) (ls' := [some (rR (0, 0, 0)), some (rI (nI s)), some (rI (nI n)), some (rI (D (2, s, 0) 6))]) dX5_counter_28 (by decide) rfl ?_
  refine RD.iload_n (pc := 29) dX5_counter_29 rfl ?_
  refine RD.iload_n (pc := 30) dX5_counter_30 rfl ?_
  refine RD.icmp_ge (pc := 31) 37 dX5_counter_31 (by decide) (fun c31 => absurd c31 (Int32.not_le.mpr h)) (fun c31 => ?_)
  refine RD.bipush (pc := 34) (v := (-2)) dX5_counter_34 (by decide) ?_
  refine RD.ireturn (pc := 36) dX5_counter_36 rfl rfl ?_
  exact ⟨rfl, rfl⟩

set_option maxRecDepth 20000 in
set_option maxHeartbeats 1000000 in
theorem c_counter (K : EK) (d : Nat) (D : DT) {s n : Nat} (hs : s < 8) (hn : n < 33) (h : ¬ nI n < D (2, s, 0) 6) : CF K mX5_counter (d + 1) [rR (0, 0, 0), rI (nI s), rI (nI n)] D (some (rI (D (2, s, 0) 6))) (up D (2, s, 0) 6 (nI n)) := by
  refine CF.of [some (rR (0, 0, 0)), some (rI (nI s)), some (rI (nI n)), none] (by decide) (leb rfl) rfl ?_
  refine RD.iload_n (pc := 0) dX5_counter_0 rfl ?_
  refine RD.cS1 (pc := 1) dX5_counter_1 mlX5_29 (c_isSlot K _ D (nI s)) (leb rfl) ?_
  refine RD.if_eq (pc := 4) 17 dX5_counter_4 (by decide) (fun c4 => absurd c4 (bIin (by decide) hs)) (fun c4 => ?_)
  refine RD.iload_n (pc := 7) dX5_counter_7 rfl ?_
  refine RD.if_lt (pc := 8) 17 dX5_counter_8 (by decide) (fun c8 => absurd c8 (nI_pos (by omega))) (fun c8 => ?_)
  refine RD.iload_n (pc := 11) dX5_counter_11 rfl ?_
  refine RD.bipush (pc := 12) (v := 32) dX5_counter_12 (by decide) ?_
  refine RD.icmp_le (pc := 14) 19 dX5_counter_14 (by decide) (fun c14 => ?_) (fun c14 => absurd (nI_le (a := n) (b := 32) (by omega) (by decide)) c14)
  refine RD.aload_n (pc := 19) dX5_counter_19 rfl ?_
  refine RD.getR (pc := 20) dX5_counter_20 flX5_11 ok0 rfl rfl ?_
  refine RD.iload_n (pc := 23) dX5_counter_23 rfl ?_
  refine RD.aald (pc := 24) s dX5_counter_24 ok1 rfl rfl rfl hs (by decide) ?_
  refine RD.gI (pc := 25) (v := D (2, s, 0) 6) rfl dX5_counter_25 flX5_40 (ok2 hs) rfl rfl ?_
  refine RD.istore_n (pc := 28) (ls' := [some (rR (0, 0, 0)), some (rI (nI s)), some (rI (nI n)), some (rI (D (2, s, 0) 6))]) dX5_counter_28 (by decide) rfl ?_
  refine RD.iload_n (pc := 29) dX5_counter_29 rfl ?_
  refine RD.iload_n (pc := 30) dX5_counter_30 rfl ?_
  refine RD.icmp_ge (pc := 31) 37 dX5_counter_31 (by decide) (fun c31 => ?_) (fun c31 => absurd (i32_nlt h) c31)
  refine RD.aload_n (pc := 37) dX5_counter_37 rfl ?_
  refine RD.getR (pc := 38) dX5_counter_38 flX5_11 ok0 rfl rfl ?_
  refine RD.iload_n (pc := 41) dX5_counter_41 rfl ?_
  refine RD.aald (pc := 42) s dX5_counter_42 ok1 rfl rfl rfl hs (by decide) ?_
  refine RD.iload_n (pc := 43) dX5_counter_43 rfl ?_
  refine RD.putf (pc := 44) dX5_counter_44 fpX5_40 (ok2 hs) rfl rfl rfl rfl ?_
  refine RD.iload_n (pc := 47) dX5_counter_47 rfl ?_
  refine RD.ireturn (pc := 48) dX5_counter_48 rfl rfl ?_
  exact ⟨rfl, rfl⟩

set_option maxRecDepth 20000 in
set_option maxHeartbeats 1000000 in
theorem c_tagN (K : EK) (d : Nat) (D : DT) (a t b : Int32) (h : ¬ (inR a 8 = true ∧ thB D t = true)) : CF K mX5_tag (d + 3) [rR (0, 0, 0), rI a, rI t, rI b] D (some (rI (-1))) D := by
  refine CF.of [some (rR (0, 0, 0)), some (rI a), some (rI t), some (rI b)] (by decide) (leb rfl) rfl ?_
  refine RD.iload_n (pc := 0) dX5_tag_0 rfl ?_
  refine RD.cS1 (pc := 1) dX5_tag_1 mlX5_29 (c_isSlot K _ D a) (leb rfl) ?_
  refine RD.if_eq (pc := 4) 15 dX5_tag_4 (by decide) (fun c4 => ?_) (fun c4 => ?_)
  · refine RD.iconst (pc := 15) (v := (-1)) dX5_tag_15 (by decide) ?_
    refine RD.ireturn (pc := 16) dX5_tag_16 rfl rfl ?_
    exact ⟨rfl, rfl⟩
  · refine RD.aload_n (pc := 7) dX5_tag_7 rfl ?_
    refine RD.iload_n (pc := 8) dX5_tag_8 rfl ?_
    refine RD.cV1 (pc := 9) dX5_tag_9 mlX5_43 rfl ok0 rfl (c_isThere K _ D t) (leb rfl) ?_
    refine RD.if_ne (pc := 12) 17 dX5_tag_12 (by decide) (fun c12 => ?_) (fun c12 => ?_)
    · exact absurd ⟨bI_1 c4, bI_1 c12⟩ h
    · refine RD.iconst (pc := 15) (v := (-1)) dX5_tag_15 (by decide) ?_
      refine RD.ireturn (pc := 16) dX5_tag_16 rfl rfl ?_
      exact ⟨rfl, rfl⟩

set_option maxRecDepth 20000 in
set_option maxHeartbeats 1000000 in
theorem c_tag (K : EK) (d : Nat) (D : DT) {s : Nat} (hs : s < 8) (t b : Int32) (h : thB D t = true) : CF K mX5_tag (d + 3) [rR (0, 0, 0), rI (nI s), rI t, rI b] D (some (rI (chgR D s 0 t b 16))) (chgD D s 0 t b 16) := by
  refine CF.of [some (rR (0, 0, 0)), some (rI (nI s)), some (rI t), some (rI b)] (by decide) (leb rfl) rfl ?_
  refine RD.iload_n (pc := 0) dX5_tag_0 rfl ?_
  refine RD.cS1 (pc := 1) dX5_tag_1 mlX5_29 (c_isSlot K _ D (nI s)) (leb rfl) ?_
  refine RD.if_eq (pc := 4) 15 dX5_tag_4 (by decide) (fun c4 => absurd c4 (bIin (by decide) hs)) (fun c4 => ?_)
  refine RD.aload_n (pc := 7) dX5_tag_7 rfl ?_
  refine RD.iload_n (pc := 8) dX5_tag_8 rfl ?_
  refine RD.cV1 (pc := 9) dX5_tag_9 mlX5_43 rfl ok0 rfl (c_isThere K _ D t) (leb rfl) ?_
  refine RD.if_ne (pc := 12) 17 dX5_tag_12 (by decide) (fun c12 => ?_) (fun c12 => absurd c12 (by rw [h]; decide))
  refine RD.aload_n (pc := 17) dX5_tag_17 rfl ?_
  refine RD.getR (pc := 18) dX5_tag_18 flX5_11 ok0 rfl rfl ?_
  refine RD.iload_n (pc := 21) dX5_tag_21 rfl ?_
  refine RD.aald (pc := 22) s dX5_tag_22 ok1 rfl rfl rfl hs (by decide) ?_
  refine RD.getR (pc := 23) dX5_tag_23 flX5_46 (ok2 hs) rfl rfl ?_
  refine RD.iload_n (pc := 26) dX5_tag_26 rfl ?_
  refine RD.iload_n (pc := 27) dX5_tag_27 rfl ?_
  refine RD.bipush (pc := 28) (v := 16) dX5_tag_28 (by decide) ?_
  refine RD.cV3 (pc := 30) dX5_tag_30 mlX5_49 rfl (ok4 hs (by decide)) rfl (c_change K _ (ok4 hs (by decide)) D t b 16) (leb rfl) ?_
  refine RD.ireturn (pc := 33) dX5_tag_33 rfl rfl ?_
  exact ⟨rfl, rfl⟩

set_option maxRecDepth 20000 in
set_option maxHeartbeats 1000000 in
theorem c_capabilityN (K : EK) (d : Nat) (D : DT) (a k t b : Int32) (h : ¬ (inR a 8 = true ∧ (k = 0 ∨ k = 1) ∧ thB D t = true)) : CF K mX5_capability (d + 3) [rR (0, 0, 0), rI a, rI k, rI t, rI b] D (some (rI (-1))) D := by
  refine CF.of [some (rR (0, 0, 0)), some (rI a), some (rI k), some (rI t), some (rI b)] (by decide) (leb rfl) rfl ?_
  refine RD.iload_n (pc := 0) dX5_capability_0 rfl ?_
  refine RD.cS1 (pc := 1) dX5_capability_1 mlX5_29 (c_isSlot K _ D a) (leb rfl) ?_
  refine RD.if_eq (pc := 4) 24 dX5_capability_4 (by decide) (fun c4 => ?_) (fun c4 => ?_)
  · refine RD.iconst (pc := 24) (v := (-1)) dX5_capability_24 (by decide) ?_
    refine RD.ireturn (pc := 25) dX5_capability_25 rfl rfl ?_
    exact ⟨rfl, rfl⟩
  · refine RD.iload_n (pc := 7) dX5_capability_7 rfl ?_
    refine RD.if_eq (pc := 8) 16 dX5_capability_8 (by decide) (fun c8 => ?_) (fun c8 => ?_)
    · refine RD.aload_n (pc := 16) dX5_capability_16 rfl ?_
      refine RD.iload_n (pc := 17) dX5_capability_17 rfl ?_
      refine RD.cV1 (pc := 18) dX5_capability_18 mlX5_43 rfl ok0 rfl (c_isThere K _ D t) (leb rfl) ?_
      refine RD.if_ne (pc := 21) 26 dX5_capability_21 (by decide) (fun c21 => ?_) (fun c21 => ?_)
      · exact absurd ⟨bI_1 c4, Or.inl c8, bI_1 c21⟩ h
      · refine RD.iconst (pc := 24) (v := (-1)) dX5_capability_24 (by decide) ?_
        refine RD.ireturn (pc := 25) dX5_capability_25 rfl rfl ?_
        exact ⟨rfl, rfl⟩
    · refine RD.iload_n (pc := 11) dX5_capability_11 rfl ?_
      refine RD.iconst (pc := 12) (v := 1) dX5_capability_12 (by decide) ?_
      refine RD.icmp_ne (pc := 13) 24 dX5_capability_13 (by decide) (fun c13 => ?_) (fun c13 => ?_)
      · refine RD.iconst (pc := 24) (v := (-1)) dX5_capability_24 (by decide) ?_
        refine RD.ireturn (pc := 25) dX5_capability_25 rfl rfl ?_
        exact ⟨rfl, rfl⟩
      · refine RD.aload_n (pc := 16) dX5_capability_16 rfl ?_
        refine RD.iload_n (pc := 17) dX5_capability_17 rfl ?_
        refine RD.cV1 (pc := 18) dX5_capability_18 mlX5_43 rfl ok0 rfl (c_isThere K _ D t) (leb rfl) ?_
        refine RD.if_ne (pc := 21) 26 dX5_capability_21 (by decide) (fun c21 => ?_) (fun c21 => ?_)
        · exact absurd ⟨bI_1 c4, Or.inr c13, bI_1 c21⟩ h
        · refine RD.iconst (pc := 24) (v := (-1)) dX5_capability_24 (by decide) ?_
          refine RD.ireturn (pc := 25) dX5_capability_25 rfl rfl ?_
          exact ⟨rfl, rfl⟩

set_option maxRecDepth 20000 in
set_option maxHeartbeats 1000000 in
theorem c_capability0 (K : EK) (d : Nat) (D : DT) {s : Nat} (hs : s < 8) (t b : Int32) (h : thB D t = true) : CF K mX5_capability (d + 3) [rR (0, 0, 0), rI (nI s), rI 0, rI t, rI b] D (some (rI (chgR D s 1 t b 40))) (chgD D s 1 t b 40) := by
  refine CF.of [some (rR (0, 0, 0)), some (rI (nI s)), some (rI 0), some (rI t), some (rI b)] (by decide) (leb rfl) rfl ?_
  refine RD.iload_n (pc := 0) dX5_capability_0 rfl ?_
  refine RD.cS1 (pc := 1) dX5_capability_1 mlX5_29 (c_isSlot K _ D (nI s)) (leb rfl) ?_
  refine RD.if_eq (pc := 4) 24 dX5_capability_4 (by decide) (fun c4 => absurd c4 (bIin (by decide) hs)) (fun c4 => ?_)
  refine RD.iload_n (pc := 7) dX5_capability_7 rfl ?_
  refine RD.if_eq (pc := 8) 16 dX5_capability_8 (by decide) (fun c8 => ?_) (fun c8 => absurd rfl c8)
  refine RD.aload_n (pc := 16) dX5_capability_16 rfl ?_
  refine RD.iload_n (pc := 17) dX5_capability_17 rfl ?_
  refine RD.cV1 (pc := 18) dX5_capability_18 mlX5_43 rfl ok0 rfl (c_isThere K _ D t) (leb rfl) ?_
  refine RD.if_ne (pc := 21) 26 dX5_capability_21 (by decide) (fun c21 => ?_) (fun c21 => absurd c21 (by rw [h]; decide))
  refine RD.aload_n (pc := 26) dX5_capability_26 rfl ?_
  refine RD.getR (pc := 27) dX5_capability_27 flX5_11 ok0 rfl rfl ?_
  refine RD.iload_n (pc := 30) dX5_capability_30 rfl ?_
  refine RD.aald (pc := 31) s dX5_capability_31 ok1 rfl rfl rfl hs (by decide) ?_
  refine RD.iload_n (pc := 32) dX5_capability_32 rfl ?_
  refine RD.cV1 (pc := 33) dX5_capability_33 mlX5_53 rfl (ok2 hs) rfl (c_cap0 K _ hs D) (leb rfl) ?_
  refine RD.iload_n (pc := 36) dX5_capability_36 rfl ?_
  refine RD.iload (pc := 37) dX5_capability_37 rfl ?_
  refine RD.bipush (pc := 39) (v := 40) dX5_capability_39 (by decide) ?_
  refine RD.cV3 (pc := 41) dX5_capability_41 mlX5_49 rfl (ok4 hs (by decide)) rfl (c_change K _ (ok4 hs (by decide)) D t b 40) (leb rfl) ?_
  refine RD.ireturn (pc := 44) dX5_capability_44 rfl rfl ?_
  exact ⟨rfl, rfl⟩

set_option maxRecDepth 20000 in
set_option maxHeartbeats 1000000 in
theorem c_capability1 (K : EK) (d : Nat) (D : DT) {s : Nat} (hs : s < 8) (t b : Int32) (h : thB D t = true) : CF K mX5_capability (d + 3) [rR (0, 0, 0), rI (nI s), rI 1, rI t, rI b] D (some (rI (chgR D s 2 t b 40))) (chgD D s 2 t b 40) := by
  refine CF.of [some (rR (0, 0, 0)), some (rI (nI s)), some (rI 1), some (rI t), some (rI b)] (by decide) (leb rfl) rfl ?_
  refine RD.iload_n (pc := 0) dX5_capability_0 rfl ?_
  refine RD.cS1 (pc := 1) dX5_capability_1 mlX5_29 (c_isSlot K _ D (nI s)) (leb rfl) ?_
  refine RD.if_eq (pc := 4) 24 dX5_capability_4 (by decide) (fun c4 => absurd c4 (bIin (by decide) hs)) (fun c4 => ?_)
  refine RD.iload_n (pc := 7) dX5_capability_7 rfl ?_
  refine RD.if_eq (pc := 8) 16 dX5_capability_8 (by decide) (fun c8 => absurd c8 (by decide)) (fun c8 => ?_)
  refine RD.iload_n (pc := 11) dX5_capability_11 rfl ?_
  refine RD.iconst (pc := 12) (v := 1) dX5_capability_12 (by decide) ?_
  refine RD.icmp_ne (pc := 13) 24 dX5_capability_13 (by decide) (fun c13 => absurd rfl c13) (fun c13 => ?_)
  refine RD.aload_n (pc := 16) dX5_capability_16 rfl ?_
  refine RD.iload_n (pc := 17) dX5_capability_17 rfl ?_
  refine RD.cV1 (pc := 18) dX5_capability_18 mlX5_43 rfl ok0 rfl (c_isThere K _ D t) (leb rfl) ?_
  refine RD.if_ne (pc := 21) 26 dX5_capability_21 (by decide) (fun c21 => ?_) (fun c21 => absurd c21 (by rw [h]; decide))
  refine RD.aload_n (pc := 26) dX5_capability_26 rfl ?_
  refine RD.getR (pc := 27) dX5_capability_27 flX5_11 ok0 rfl rfl ?_
  refine RD.iload_n (pc := 30) dX5_capability_30 rfl ?_
  refine RD.aald (pc := 31) s dX5_capability_31 ok1 rfl rfl rfl hs (by decide) ?_
  refine RD.iload_n (pc := 32) dX5_capability_32 rfl ?_
  refine RD.cV1 (pc := 33) dX5_capability_33 mlX5_53 rfl (ok2 hs) rfl (c_cap1 K _ hs D (by decide)) (leb rfl) ?_
  refine RD.iload_n (pc := 36) dX5_capability_36 rfl ?_
  refine RD.iload (pc := 37) dX5_capability_37 rfl ?_
  refine RD.bipush (pc := 39) (v := 40) dX5_capability_39 (by decide) ?_
  refine RD.cV3 (pc := 41) dX5_capability_41 mlX5_49 rfl (ok4 hs (by decide)) rfl (c_change K _ (ok4 hs (by decide)) D t b 40) (leb rfl) ?_
  refine RD.ireturn (pc := 44) dX5_capability_44 rfl rfl ?_
  exact ⟨rfl, rfl⟩

set_option maxRecDepth 20000 in
set_option maxHeartbeats 1000000 in
theorem c_fileN (K : EK) (d : Nat) (D : DT) (k t : Int32) (h : ¬ (inR k 64 = true ∧ (t < 0 ∨ thB D t = true))) : CF K mX5_file (d + 3) [rR (0, 0, 0), rI k, rI t] D (some (rI (-1))) D := by
  refine CF.of [some (rR (0, 0, 0)), some (rI k), some (rI t), none] (by decide) (leb rfl) rfl ?_
  refine RD.iload_n (pc := 0) dX5_file_0 rfl ?_
  refine RD.cS1 (pc := 1) dX5_file_1 mlX5_57 (c_isFile K _ D k) (leb rfl) ?_
  refine RD.if_eq (pc := 4) 19 dX5_file_4 (by decide) (fun c4 => ?_) (fun c4 => ?_)
  · refine RD.iconst (pc := 19) (v := (-1)) dX5_file_19 (by decide) ?_
    refine RD.ireturn (pc := 20) dX5_file_20 rfl rfl ?_
    exact ⟨rfl, rfl⟩
  · refine RD.iload_n (pc := 7) dX5_file_7 rfl ?_
    refine RD.if_lt (pc := 8) 21 dX5_file_8 (by decide) (fun c8 => ?_) (fun c8 => ?_)
    · exact absurd ⟨bI_1 c4, Or.inl c8⟩ h
    · refine RD.aload_n (pc := 11) dX5_file_11 rfl ?_
      refine RD.iload_n (pc := 12) dX5_file_12 rfl ?_
      refine RD.cV1 (pc := 13) dX5_file_13 mlX5_43 rfl ok0 rfl (c_isThere K _ D t) (leb rfl) ?_
      refine RD.if_ne (pc := 16) 21 dX5_file_16 (by decide) (fun c16 => ?_) (fun c16 => ?_)
      · exact absurd ⟨bI_1 c4, Or.inr (bI_1 c16)⟩ h
      · refine RD.iconst (pc := 19) (v := (-1)) dX5_file_19 (by decide) ?_
        refine RD.ireturn (pc := 20) dX5_file_20 rfl rfl ?_
        exact ⟨rfl, rfl⟩

set_option maxRecDepth 20000 in
set_option maxHeartbeats 1000000 in
theorem c_file1 (K : EK) (d : Nat) (D : DT) {n : Nat} (hn : n < 64) (t : Int32) (ht : t < 0) : CF K mX5_file (d + 3) [rR (0, 0, 0), rI (nI n), rI t] D (some (rI (D (4, n / 8, 11 + n % 8) 1))) (up D (12, n / 8, n % 8) 2 1) := by
  refine CF.of [some (rR (0, 0, 0)), some (rI (nI n)), some (rI t), none] (by decide) (leb rfl) rfl ?_
  refine RD.iload_n (pc := 0) dX5_file_0 rfl ?_
  refine RD.cS1 (pc := 1) dX5_file_1 mlX5_57 (c_isFile K _ D (nI n)) (leb rfl) ?_
  refine RD.if_eq (pc := 4) 19 dX5_file_4 (by decide) (fun c4 => absurd c4 (bIin (by decide) hn)) (fun c4 => ?_)
  refine RD.iload_n (pc := 7) dX5_file_7 rfl ?_
  refine RD.if_lt (pc := 8) 21 dX5_file_8 (by decide) (fun c8 => ?_) (fun c8 => absurd ht c8)
  refine RD.aload_n (pc := 21) dX5_file_21 rfl ?_
  refine RD.iload_n (pc := 22) dX5_file_22 rfl ?_
  refine RD.cV1 (pc := 23) dX5_file_23 mlX5_60 rfl ok0 rfl (c_fileAt K _ D hn) (leb rfl) ?_
  refine RD.astore_n (pc := 26) (ls' := [some (rR (0, 0, 0)), some (rI (nI n)), some (rI t), some (rR (12, n / 8, n % 8))]) dX5_file_26 (by decide) rfl ?_
  refine RD.aload_n (pc := 27) dX5_file_27 rfl ?_
  refine RD.iconst (pc := 28) (v := 1) dX5_file_28 (by decide) ?_
  refine RD.putf (pc := 29) dX5_file_29 fpX5_64 (ok12 (by omega) (by omega)) rfl rfl rfl rfl ?_
  refine RD.iload_n (pc := 32) dX5_file_32 rfl ?_
  refine RD.if_ge (pc := 33) 44 dX5_file_33 (by decide) (fun c33 => absurd c33 (Int32.not_le.mpr ht)) (fun c33 => ?_)
  refine RD.aload_n (pc := 36) dX5_file_36 rfl ?_
  refine RD.getR (pc := 37) dX5_file_37 flX5_70 (ok12 (by omega) (by omega)) rfl rfl ?_
  refine RD.gI (pc := 40) (v := D (4, n / 8, 11 + n % 8) 1) (up_N (by simp) rfl) dX5_file_40 flX5_71 (ok4 (by omega) (by omega)) rfl rfl ?_
  refine RD.ireturn (pc := 43) dX5_file_43 rfl rfl ?_
  exact ⟨rfl, rfl⟩

set_option maxRecDepth 20000 in
set_option maxHeartbeats 1000000 in
theorem c_file2 (K : EK) (d : Nat) (D : DT) {n : Nat} (hn : n < 64) (t : Int32) (ht : ¬ t < 0) (h : thB D t = true) : CF K mX5_file (d + 3) [rR (0, 0, 0), rI (nI n), rI t] D (some (rI (chgR (up D (12, n / 8, n % 8) 2 1) (n / 8) (11 + n % 8) t 1 16))) (chgD (up D (12, n / 8, n % 8) 2 1) (n / 8) (11 + n % 8) t 1 16) := by
  refine CF.of [some (rR (0, 0, 0)), some (rI (nI n)), some (rI t), none] (by decide) (leb rfl) rfl ?_
  refine RD.iload_n (pc := 0) dX5_file_0 rfl ?_
  refine RD.cS1 (pc := 1) dX5_file_1 mlX5_57 (c_isFile K _ D (nI n)) (leb rfl) ?_
  refine RD.if_eq (pc := 4) 19 dX5_file_4 (by decide) (fun c4 => absurd c4 (bIin (by decide) hn)) (fun c4 => ?_)
  refine RD.iload_n (pc := 7) dX5_file_7 rfl ?_
  refine RD.if_lt (pc := 8) 21 dX5_file_8 (by decide) (fun c8 => absurd c8 ht) (fun c8 => ?_)
  refine RD.aload_n (pc := 11) dX5_file_11 rfl ?_
  refine RD.iload_n (pc := 12) dX5_file_12 rfl ?_
  refine RD.cV1 (pc := 13) dX5_file_13 mlX5_43 rfl ok0 rfl (c_isThere K _ D t) (leb rfl) ?_
  refine RD.if_ne (pc := 16) 21 dX5_file_16 (by decide) (fun c16 => ?_) (fun c16 => absurd c16 (by rw [h]; decide))
  refine RD.aload_n (pc := 21) dX5_file_21 rfl ?_
  refine RD.iload_n (pc := 22) dX5_file_22 rfl ?_
  refine RD.cV1 (pc := 23) dX5_file_23 mlX5_60 rfl ok0 rfl (c_fileAt K _ D hn) (leb rfl) ?_
  refine RD.astore_n (pc := 26) (ls' := [some (rR (0, 0, 0)), some (rI (nI n)), some (rI t), some (rR (12, n / 8, n % 8))]) dX5_file_26 (by decide) rfl ?_
  refine RD.aload_n (pc := 27) dX5_file_27 rfl ?_
  refine RD.iconst (pc := 28) (v := 1) dX5_file_28 (by decide) ?_
  refine RD.putf (pc := 29) dX5_file_29 fpX5_64 (ok12 (by omega) (by omega)) rfl rfl rfl rfl ?_
  refine RD.iload_n (pc := 32) dX5_file_32 rfl ?_
  refine RD.if_ge (pc := 33) 44 dX5_file_33 (by decide) (fun c33 => ?_) (fun c33 => absurd (i32_nlt ht) c33)
  refine RD.aload_n (pc := 44) dX5_file_44 rfl ?_
  refine RD.getR (pc := 45) dX5_file_45 flX5_70 (ok12 (by omega) (by omega)) rfl rfl ?_
  refine RD.iload_n (pc := 48) dX5_file_48 rfl ?_
  refine RD.iconst (pc := 49) (v := 1) dX5_file_49 (by decide) ?_
  refine RD.bipush (pc := 50) (v := 16) dX5_file_50 (by decide) ?_
  refine RD.cV3 (pc := 52) dX5_file_52 mlX5_49 rfl (ok4 (by omega) (by omega)) rfl (c_change K _ (ok4 (by omega) (by omega)) (up D (12, n / 8, n % 8) 2 1) t 1 16) (leb rfl) ?_
  refine RD.ireturn (pc := 55) dX5_file_55 rfl rfl ?_
  exact ⟨rfl, rfl⟩

set_option maxRecDepth 20000 in
set_option maxHeartbeats 1000000 in
theorem c_fillN (K : EK) (d : Nat) (D : DT) (k i v : Int32) (h : fcB D k i = false) : CF K mX5_fill (d + 2) [rR (0, 0, 0), rI k, rI i, rI v] D (some (rI 0)) D := by
  refine CF.of [some (rR (0, 0, 0)), some (rI k), some (rI i), some (rI v), none, none] (by decide) (leb rfl) rfl ?_
  refine RD.aload_n (pc := 0) dX5_fill_0 rfl ?_
  refine RD.iload_n (pc := 1) dX5_fill_1 rfl ?_
  refine RD.iload_n (pc := 2) dX5_fill_2 rfl ?_
  refine RD.cV2 (pc := 3) dX5_fill_3 mlX5_74 rfl ok0 rfl (c_isFileCell K _ D k i) (leb rfl) ?_
  refine RD.if_ne (pc := 6) 11 dX5_fill_6 (by decide) (fun c6 => absurd (by rw [h]; rfl) c6) (fun c6 => ?_)
  refine RD.iconst (pc := 9) (v := 0) dX5_fill_9 (by decide) ?_
  refine RD.ireturn (pc := 10) dX5_fill_10 rfl rfl ?_
  exact ⟨rfl, rfl⟩

set_option maxRecDepth 20000 in
set_option maxHeartbeats 1000000 in
theorem c_fill (K : EK) (d : Nat) (D : DT) {n e : Nat} (hn : n < 64) (he : e < 8) (v : Int32) (h : thr D n = true) : CF K mX5_fill (d + 2) [rR (0, 0, 0), rI (nI n), rI (nI e), rI v] D (some (rI (D (13, n / 8, n % 8) e))) (up D (13, n / 8, n % 8) e v) := by
  refine CF.of [some (rR (0, 0, 0)), some (rI (nI n)), some (rI (nI e)), some (rI v), none, none] (by decide) (leb rfl) rfl ?_
  refine RD.aload_n (pc := 0) dX5_fill_0 rfl ?_
  refine RD.iload_n (pc := 1) dX5_fill_1 rfl ?_
  refine RD.iload_n (pc := 2) dX5_fill_2 rfl ?_
  refine RD.cV2 (pc := 3) dX5_fill_3 mlX5_74 rfl ok0 rfl (c_isFileCell K _ D (nI n) (nI e)) (leb rfl) ?_
  refine RD.if_ne (pc := 6) 11 dX5_fill_6 (by decide) (fun c6 => ?_) (fun c6 => absurd c6 (by rw [fcB_nI hn he, h]; decide))
  refine RD.aload_n (pc := 11) dX5_fill_11 rfl ?_
  refine RD.iload_n (pc := 12) dX5_fill_12 rfl ?_
  refine RD.cV1 (pc := 13) dX5_fill_13 mlX5_60 rfl ok0 rfl (c_fileAt K _ D hn) (leb rfl) ?_
  refine RD.getR (pc := 16) dX5_fill_16 flX5_78 (ok12 (by omega) (by omega)) rfl rfl ?_
  refine RD.astore (pc := 19) (ls' := [some (rR (0, 0, 0)), some (rI (nI n)), some (rI (nI e)), some (rI v), some (rR (13, n / 8, n % 8)), none]) dX5_fill_19 (by decide) rfl ?_
  refine RD.aload (pc := 21) dX5_fill_21 rfl ?_
  refine RD.iload_n (pc := 23) dX5_fill_23 rfl ?_
  refine RD.iL (pc := 24) e (v := D (13, n / 8, n % 8) e) rfl dX5_fill_24 (ok13 (by omega) (by omega)) rfl rfl he (by decide) ?_
  refine RD.istore (pc := 25) (ls' := [some (rR (0, 0, 0)), some (rI (nI n)), some (rI (nI e)), some (rI v), some (rR (13, n / 8, n % 8)), some (rI (D (13, n / 8, n % 8) e))]) dX5_fill_25 (by decide) rfl ?_
  refine RD.aload (pc := 27) dX5_fill_27 rfl ?_
  refine RD.iload_n (pc := 29) dX5_fill_29 rfl ?_
  refine RD.iload_n (pc := 30) dX5_fill_30 rfl ?_
  refine RD.iast (pc := 31) e dX5_fill_31 (ok13 (by omega) (by omega)) rfl rfl he (by decide) ?_
  refine RD.iload (pc := 32) dX5_fill_32 rfl ?_
  refine RD.ireturn (pc := 34) dX5_fill_34 rfl rfl ?_
  exact ⟨rfl, rfl⟩

set_option maxRecDepth 20000 in
set_option maxHeartbeats 1000000 in
theorem c_contentN (K : EK) (d : Nat) (D : DT) (k i : Int32) (h : fcB D k i = false) : CF K mX5_content (d + 2) [rR (0, 0, 0), rI k, rI i] D (some (rI 0)) D := by
  refine CF.of [some (rR (0, 0, 0)), some (rI k), some (rI i)] (by decide) (leb rfl) rfl ?_
  refine RD.aload_n (pc := 0) dX5_content_0 rfl ?_
  refine RD.iload_n (pc := 1) dX5_content_1 rfl ?_
  refine RD.iload_n (pc := 2) dX5_content_2 rfl ?_
  refine RD.cV2 (pc := 3) dX5_content_3 mlX5_74 rfl ok0 rfl (c_isFileCell K _ D k i) (leb rfl) ?_
  refine RD.if_eq (pc := 6) 22 dX5_content_6 (by decide) (fun c6 => ?_) (fun c6 => absurd (by rw [h]; rfl) c6)
  refine RD.iconst (pc := 22) (v := 0) dX5_content_22 (by decide) ?_
  refine RD.ireturn (pc := 23) dX5_content_23 rfl rfl ?_
  exact ⟨rfl, rfl⟩

set_option maxRecDepth 20000 in
set_option maxHeartbeats 1000000 in
theorem c_content (K : EK) (d : Nat) (D : DT) {n e : Nat} (hn : n < 64) (he : e < 8) (h : thr D n = true) : CF K mX5_content (d + 2) [rR (0, 0, 0), rI (nI n), rI (nI e)] D (some (rI (D (13, n / 8, n % 8) e))) D := by
  refine CF.of [some (rR (0, 0, 0)), some (rI (nI n)), some (rI (nI e))] (by decide) (leb rfl) rfl ?_
  refine RD.aload_n (pc := 0) dX5_content_0 rfl ?_
  refine RD.iload_n (pc := 1) dX5_content_1 rfl ?_
  refine RD.iload_n (pc := 2) dX5_content_2 rfl ?_
  refine RD.cV2 (pc := 3) dX5_content_3 mlX5_74 rfl ok0 rfl (c_isFileCell K _ D (nI n) (nI e)) (leb rfl) ?_
  refine RD.if_eq (pc := 6) 22 dX5_content_6 (by decide) (fun c6 => absurd c6 (by rw [fcB_nI hn he, h]; decide)) (fun c6 => ?_)
  refine RD.aload_n (pc := 9) dX5_content_9 rfl ?_
  refine RD.iload_n (pc := 10) dX5_content_10 rfl ?_
  refine RD.cV1 (pc := 11) dX5_content_11 mlX5_60 rfl ok0 rfl (c_fileAt K _ D hn) (leb rfl) ?_
  refine RD.getR (pc := 14) dX5_content_14 flX5_78 (ok12 (by omega) (by omega)) rfl rfl ?_
  refine RD.iload_n (pc := 17) dX5_content_17 rfl ?_
  refine RD.iL (pc := 18) e (v := D (13, n / 8, n % 8) e) rfl dX5_content_18 (ok13 (by omega) (by omega)) rfl rfl he (by decide) ?_
  refine RD.goto (pc := 19) 23 dX5_content_19 (by decide) ?_
  refine RD.ireturn (pc := 23) dX5_content_23 rfl rfl ?_
  exact ⟨rfl, rfl⟩

set_option maxRecDepth 20000 in
set_option maxHeartbeats 1000000 in
theorem c_fileTagsO (K : EK) (d : Nat) (D : DT) (k : Int32) (h : inR k 64 = false) : CF K mX5_fileTags (d + 2) [rR (0, 0, 0), rI k] D (some (rI (-1))) D := by
  refine CF.of [some (rR (0, 0, 0)), some (rI k)] (by decide) (leb rfl) rfl ?_
  refine RD.iload_n (pc := 0) dX5_fileTags_0 rfl ?_
  refine RD.cS1 (pc := 1) dX5_fileTags_1 mlX5_57 (c_isFile K _ D k) (leb rfl) ?_
  refine RD.if_eq (pc := 4) 32 dX5_fileTags_4 (by decide) (fun c4 => ?_) (fun c4 => absurd (bIout h) c4)
  refine RD.iconst (pc := 32) (v := (-1)) dX5_fileTags_32 (by decide) ?_
  refine RD.ireturn (pc := 33) dX5_fileTags_33 rfl rfl ?_
  exact ⟨rfl, rfl⟩

set_option maxRecDepth 20000 in
set_option maxHeartbeats 1000000 in
theorem c_fileTagsN (K : EK) (d : Nat) (D : DT) {n : Nat} (hn : n < 64) (h : thr D n = false) : CF K mX5_fileTags (d + 2) [rR (0, 0, 0), rI (nI n)] D (some (rI (-1))) D := by
  refine CF.of [some (rR (0, 0, 0)), some (rI (nI n))] (by decide) (leb rfl) rfl ?_
  refine RD.iload_n (pc := 0) dX5_fileTags_0 rfl ?_
  refine RD.cS1 (pc := 1) dX5_fileTags_1 mlX5_57 (c_isFile K _ D (nI n)) (leb rfl) ?_
  refine RD.if_eq (pc := 4) 32 dX5_fileTags_4 (by decide) (fun c4 => absurd c4 (bIin (by decide) hn)) (fun c4 => ?_)
  refine RD.aload_n (pc := 7) dX5_fileTags_7 rfl ?_
  refine RD.iload_n (pc := 8) dX5_fileTags_8 rfl ?_
  refine RD.cV1 (pc := 9) dX5_fileTags_9 mlX5_60 rfl ok0 rfl (c_fileAt K _ D hn) (leb rfl) ?_
  refine RD.gI (pc := 12) (v := D (12, n / 8, n % 8) 2) rfl dX5_fileTags_12 flX5_64 (ok12 (by omega) (by omega)) rfl rfl ?_
  refine RD.if_eq (pc := 15) 32 dX5_fileTags_15 (by decide) (fun c15 => ?_) (fun c15 => absurd (by simpa [thr] using h) c15)
  refine RD.iconst (pc := 32) (v := (-1)) dX5_fileTags_32 (by decide) ?_
  refine RD.ireturn (pc := 33) dX5_fileTags_33 rfl rfl ?_
  exact ⟨rfl, rfl⟩

set_option maxRecDepth 20000 in
set_option maxHeartbeats 1000000 in
theorem c_fileTags (K : EK) (d : Nat) (D : DT) {n : Nat} (hn : n < 64) (h : thr D n = true) : CF K mX5_fileTags (d + 2) [rR (0, 0, 0), rI (nI n)] D (some (rI (D (4, n / 8, 11 + n % 8) 1))) D := by
  refine CF.of [some (rR (0, 0, 0)), some (rI (nI n))] (by decide) (leb rfl) rfl ?_
  refine RD.iload_n (pc := 0) dX5_fileTags_0 rfl ?_
  refine RD.cS1 (pc := 1) dX5_fileTags_1 mlX5_57 (c_isFile K _ D (nI n)) (leb rfl) ?_
  refine RD.if_eq (pc := 4) 32 dX5_fileTags_4 (by decide) (fun c4 => absurd c4 (bIin (by decide) hn)) (fun c4 => ?_)
  refine RD.aload_n (pc := 7) dX5_fileTags_7 rfl ?_
  refine RD.iload_n (pc := 8) dX5_fileTags_8 rfl ?_
  refine RD.cV1 (pc := 9) dX5_fileTags_9 mlX5_60 rfl ok0 rfl (c_fileAt K _ D hn) (leb rfl) ?_
  refine RD.gI (pc := 12) (v := D (12, n / 8, n % 8) 2) rfl dX5_fileTags_12 flX5_64 (ok12 (by omega) (by omega)) rfl rfl ?_
  refine RD.if_eq (pc := 15) 32 dX5_fileTags_15 (by decide) (fun c15 => absurd c15 (by simpa [thr] using h)) (fun c15 => ?_)
  refine RD.aload_n (pc := 18) dX5_fileTags_18 rfl ?_
  refine RD.iload_n (pc := 19) dX5_fileTags_19 rfl ?_
  refine RD.cV1 (pc := 20) dX5_fileTags_20 mlX5_60 rfl ok0 rfl (c_fileAt K _ D hn) (leb rfl) ?_
  refine RD.getR (pc := 23) dX5_fileTags_23 flX5_70 (ok12 (by omega) (by omega)) rfl rfl ?_
  refine RD.gI (pc := 26) (v := D (4, n / 8, 11 + n % 8) 1) rfl dX5_fileTags_26 flX5_71 (ok4 (by omega) (by omega)) rfl rfl ?_
  refine RD.goto (pc := 29) 33 dX5_fileTags_29 (by decide) ?_
  refine RD.ireturn (pc := 33) dX5_fileTags_33 rfl rfl ?_
  exact ⟨rfl, rfl⟩

theorem putF_z {D : DT} {i s : Nat} {v kd : Int32} {p z : Nat} : putF D i s v kd p z (6, i, 0) 2 = nI z + 1 := by rw [putF, up_s]

set_option maxRecDepth 20000 in
set_option maxHeartbeats 1000000 in
theorem c_post (K : EK) (d : Nat) (D : DT) {f t : Nat} (hf8 : f < 8) (ht8 : t < 8) (v : Int32) {p z : Nat} (hp : p < 8) (hf : D (6, t, 0) 1 = nI p) (hz : D (6, t, 0) 2 = nI z) (hz8 : z < 8) : CF K mX5_post (d + 2) [rR (0, 0, 0), rI (nI f), rI (nI t), rI v] D (some (rI (nI z + 1))) (putF D t f v (-1) p z) := by
  refine CF.of [some (rR (0, 0, 0)), some (rI (nI f)), some (rI (nI t)), some (rI v), none] (by decide) (leb rfl) rfl ?_
  refine RD.iload_n (pc := 0) dX5_post_0 rfl ?_
  refine RD.cS1 (pc := 1) dX5_post_1 mlX5_29 (c_isSlot K _ D (nI f)) (leb rfl) ?_
  refine RD.if_eq (pc := 4) 14 dX5_post_4 (by decide) (fun c4 => absurd c4 (bIin (by decide) hf8)) (fun c4 => ?_)
  refine RD.iload_n (pc := 7) dX5_post_7 rfl ?_
  refine RD.cS1 (pc := 8) dX5_post_8 mlX5_29 (c_isSlot K _ D (nI t)) (leb rfl) ?_
  refine RD.if_ne (pc := 11) 16 dX5_post_11 (by decide) (fun c11 => ?_) (fun c11 => absurd c11 (bIin (by decide) ht8))
  refine RD.aload_n (pc := 16) dX5_post_16 rfl ?_
  refine RD.getR (pc := 17) dX5_post_17 flX5_11 ok0 rfl rfl ?_
  refine RD.iload_n (pc := 20) dX5_post_20 rfl ?_
  refine RD.aald (pc := 21) t dX5_post_21 ok1 rfl rfl rfl ht8 (by decide) ?_
  refine RD.getR (pc := 22) dX5_post_22 flX5_81 (ok2 ht8) rfl rfl ?_
  refine RD.astore (pc := 25) (ls' := [some (rR (0, 0, 0)), some (rI (nI f)), some (rI (nI t)), some (rI v), some (rR (6, t, 0))]) dX5_post_25 (by decide) rfl ?_
  refine RD.aload (pc := 27) dX5_post_27 rfl ?_
  refine RD.aload_n (pc := 29) dX5_post_29 rfl ?_
  refine RD.getR (pc := 30) dX5_post_30 flX5_11 ok0 rfl rfl ?_
  refine RD.iload_n (pc := 33) dX5_post_33 rfl ?_
  refine RD.aald (pc := 34) f dX5_post_34 ok1 rfl rfl rfl hf8 (by decide) ?_
  refine RD.iload_n (pc := 35) dX5_post_35 rfl ?_
  refine RD.iconst (pc := 36) (v := (-1)) dX5_post_36 (by decide) ?_
  refine RD.cV3 (pc := 37) dX5_post_37 mlX5_85 rfl (ok6 ht8) rfl (c_put K _ ht8 hf8 D v (-1) hp hf hz hz8) (leb rfl) ?_
  refine RD.if_ne (pc := 40) 45 dX5_post_40 (by decide) (fun c40 => ?_) (fun c40 => absurd c40 (by decide))
  refine RD.aload (pc := 45) dX5_post_45 rfl ?_
  refine RD.gI (pc := 47) (v := nI z + 1) putF_z dX5_post_47 flX5_91 (ok6 ht8) rfl rfl ?_
  refine RD.ireturn (pc := 50) dX5_post_50 rfl rfl ?_
  exact ⟨rfl, rfl⟩

set_option maxRecDepth 20000 in
set_option maxHeartbeats 1000000 in
theorem c_postFull (K : EK) (d : Nat) (D : DT) {f t : Nat} (hf8 : f < 8) (ht8 : t < 8) (v : Int32) {p z : Nat} (hp : p < 8) (hf : D (6, t, 0) 1 = nI p) (hz : D (6, t, 0) 2 = nI z) (hz8 : z = 8) : CF K mX5_post (d + 2) [rR (0, 0, 0), rI (nI f), rI (nI t), rI v] D (some (rI (-1))) D := by
  refine CF.of [some (rR (0, 0, 0)), some (rI (nI f)), some (rI (nI t)), some (rI v), none] (by decide) (leb rfl) rfl ?_
  refine RD.iload_n (pc := 0) dX5_post_0 rfl ?_
  refine RD.cS1 (pc := 1) dX5_post_1 mlX5_29 (c_isSlot K _ D (nI f)) (leb rfl) ?_
  refine RD.if_eq (pc := 4) 14 dX5_post_4 (by decide) (fun c4 => absurd c4 (bIin (by decide) hf8)) (fun c4 => ?_)
  refine RD.iload_n (pc := 7) dX5_post_7 rfl ?_
  refine RD.cS1 (pc := 8) dX5_post_8 mlX5_29 (c_isSlot K _ D (nI t)) (leb rfl) ?_
  refine RD.if_ne (pc := 11) 16 dX5_post_11 (by decide) (fun c11 => ?_) (fun c11 => absurd c11 (bIin (by decide) ht8))
  refine RD.aload_n (pc := 16) dX5_post_16 rfl ?_
  refine RD.getR (pc := 17) dX5_post_17 flX5_11 ok0 rfl rfl ?_
  refine RD.iload_n (pc := 20) dX5_post_20 rfl ?_
  refine RD.aald (pc := 21) t dX5_post_21 ok1 rfl rfl rfl ht8 (by decide) ?_
  refine RD.getR (pc := 22) dX5_post_22 flX5_81 (ok2 ht8) rfl rfl ?_
  refine RD.astore (pc := 25) (ls' := [some (rR (0, 0, 0)), some (rI (nI f)), some (rI (nI t)), some (rI v), some (rR (6, t, 0))]) dX5_post_25 (by decide) rfl ?_
  refine RD.aload (pc := 27) dX5_post_27 rfl ?_
  refine RD.aload_n (pc := 29) dX5_post_29 rfl ?_
  refine RD.getR (pc := 30) dX5_post_30 flX5_11 ok0 rfl rfl ?_
  refine RD.iload_n (pc := 33) dX5_post_33 rfl ?_
  refine RD.aald (pc := 34) f dX5_post_34 ok1 rfl rfl rfl hf8 (by decide) ?_
  refine RD.iload_n (pc := 35) dX5_post_35 rfl ?_
  refine RD.iconst (pc := 36) (v := (-1)) dX5_post_36 (by decide) ?_
  refine RD.cV3 (pc := 37) dX5_post_37 mlX5_85 rfl (ok6 ht8) rfl (c_putFull K _ ht8 hf8 D v (-1) hp hf hz hz8) (leb rfl) ?_
  refine RD.if_ne (pc := 40) 45 dX5_post_40 (by decide) (fun c40 => absurd rfl c40) (fun c40 => ?_)
  refine RD.iconst (pc := 43) (v := (-1)) dX5_post_43 (by decide) ?_
  refine RD.ireturn (pc := 44) dX5_post_44 rfl rfl ?_
  exact ⟨rfl, rfl⟩

set_option maxRecDepth 20000 in
set_option maxHeartbeats 1000000 in
theorem c_postN (K : EK) (d : Nat) (D : DT) (a b v : Int32) (h : ¬ (inR a 8 = true ∧ inR b 8 = true)) : CF K mX5_post (d + 2) [rR (0, 0, 0), rI a, rI b, rI v] D (some (rI (-1))) D := by
  refine CF.of [some (rR (0, 0, 0)), some (rI a), some (rI b), some (rI v), none] (by decide) (leb rfl) rfl ?_
  refine RD.iload_n (pc := 0) dX5_post_0 rfl ?_
  refine RD.cS1 (pc := 1) dX5_post_1 mlX5_29 (c_isSlot K _ D a) (leb rfl) ?_
  refine RD.if_eq (pc := 4) 14 dX5_post_4 (by decide) (fun c4 => ?_) (fun c4 => ?_)
  · refine RD.iconst (pc := 14) (v := (-1)) dX5_post_14 (by decide) ?_
    refine RD.ireturn (pc := 15) dX5_post_15 rfl rfl ?_
    exact ⟨rfl, rfl⟩
  · refine RD.iload_n (pc := 7) dX5_post_7 rfl ?_
    refine RD.cS1 (pc := 8) dX5_post_8 mlX5_29 (c_isSlot K _ D b) (leb rfl) ?_
    refine RD.if_ne (pc := 11) 16 dX5_post_11 (by decide) (fun c11 => ?_) (fun c11 => ?_)
    · exact absurd ⟨bI_1 c4, bI_1 c11⟩ h
    · refine RD.iconst (pc := 14) (v := (-1)) dX5_post_14 (by decide) ?_
      refine RD.ireturn (pc := 15) dX5_post_15 rfl rfl ?_
      exact ⟨rfl, rfl⟩

set_option maxRecDepth 20000 in
set_option maxHeartbeats 1000000 in
theorem c_cell (K : EK) (d : Nat) (D : DT) {s n : Nat} (hs : s < 8) (hn : n < 128) : CF K mX5_cell (d + 1) [rR (0, 0, 0), rI (nI s), rI (nI n)] D (some (rI (D (3, s, 0) n))) D := by
  refine CF.of [some (rR (0, 0, 0)), some (rI (nI s)), some (rI (nI n))] (by decide) (leb rfl) rfl ?_
  refine RD.iload_n (pc := 0) dX5_cell_0 rfl ?_
  refine RD.cS1 (pc := 1) dX5_cell_1 mlX5_29 (c_isSlot K _ D (nI s)) (leb rfl) ?_
  refine RD.if_eq (pc := 4) 28 dX5_cell_4 (by decide) (fun c4 => absurd c4 (bIin (by decide) hs)) (fun c4 => ?_)
  refine RD.iload_n (pc := 7) dX5_cell_7 rfl ?_
  refine RD.cS1 (pc := 8) dX5_cell_8 mlX5_102 (c_isPlace K _ D (nI n)) (leb rfl) ?_
  refine RD.if_eq (pc := 11) 28 dX5_cell_11 (by decide) (fun c11 => absurd c11 (bIin (by decide) hn)) (fun c11 => ?_)
  refine RD.aload_n (pc := 14) dX5_cell_14 rfl ?_
  refine RD.getR (pc := 15) dX5_cell_15 flX5_11 ok0 rfl rfl ?_
  refine RD.iload_n (pc := 18) dX5_cell_18 rfl ?_
  refine RD.aald (pc := 19) s dX5_cell_19 ok1 rfl rfl rfl hs (by decide) ?_
  refine RD.getR (pc := 20) dX5_cell_20 flX5_33 (ok2 hs) rfl rfl ?_
  refine RD.iload_n (pc := 23) dX5_cell_23 rfl ?_
  refine RD.iL (pc := 24) n (v := D (3, s, 0) n) rfl dX5_cell_24 (ok3 hs) rfl rfl hn (by decide) ?_
  refine RD.goto (pc := 25) 29 dX5_cell_25 (by decide) ?_
  refine RD.ireturn (pc := 29) dX5_cell_29 rfl rfl ?_
  exact ⟨rfl, rfl⟩

set_option maxRecDepth 20000 in
set_option maxHeartbeats 1000000 in
theorem c_cellN (K : EK) (d : Nat) (D : DT) (a b : Int32) (h : ¬ (inR a 8 = true ∧ inR b 128 = true)) : CF K mX5_cell (d + 1) [rR (0, 0, 0), rI a, rI b] D (some (rI 0)) D := by
  refine CF.of [some (rR (0, 0, 0)), some (rI a), some (rI b)] (by decide) (leb rfl) rfl ?_
  refine RD.iload_n (pc := 0) dX5_cell_0 rfl ?_
  refine RD.cS1 (pc := 1) dX5_cell_1 mlX5_29 (c_isSlot K _ D a) (leb rfl) ?_
  refine RD.if_eq (pc := 4) 28 dX5_cell_4 (by decide) (fun c4 => ?_) (fun c4 => ?_)
  · refine RD.iconst (pc := 28) (v := 0) dX5_cell_28 (by decide) ?_
    refine RD.ireturn (pc := 29) dX5_cell_29 rfl rfl ?_
    exact ⟨rfl, rfl⟩
  · refine RD.iload_n (pc := 7) dX5_cell_7 rfl ?_
    refine RD.cS1 (pc := 8) dX5_cell_8 mlX5_102 (c_isPlace K _ D b) (leb rfl) ?_
    refine RD.if_eq (pc := 11) 28 dX5_cell_11 (by decide) (fun c11 => ?_) (fun c11 => ?_)
    · refine RD.iconst (pc := 28) (v := 0) dX5_cell_28 (by decide) ?_
      refine RD.ireturn (pc := 29) dX5_cell_29 rfl rfl ?_
      exact ⟨rfl, rfl⟩
    · exact absurd ⟨bI_1 c4, bI_1 c11⟩ h

set_option maxRecDepth 20000 in
set_option maxHeartbeats 1000000 in
theorem c_label (K : EK) (d : Nat) (D : DT) {s : Nat} (hs : s < 8) (x : Int32) : CF K mX5_label (d + 2) [rR (0, 0, 0), rI (nI s), rI x] D (some (rI (tagAtF D s 0 x))) D := by
  refine CF.of [some (rR (0, 0, 0)), some (rI (nI s)), some (rI x)] (by decide) (leb rfl) rfl ?_
  refine RD.iload_n (pc := 0) dX5_label_0 rfl ?_
  refine RD.cS1 (pc := 1) dX5_label_1 mlX5_29 (c_isSlot K _ D (nI s)) (leb rfl) ?_
  refine RD.if_eq (pc := 4) 23 dX5_label_4 (by decide) (fun c4 => absurd c4 (bIin (by decide) hs)) (fun c4 => ?_)
  refine RD.aload_n (pc := 7) dX5_label_7 rfl ?_
  refine RD.getR (pc := 8) dX5_label_8 flX5_11 ok0 rfl rfl ?_
  refine RD.iload_n (pc := 11) dX5_label_11 rfl ?_
  refine RD.aald (pc := 12) s dX5_label_12 ok1 rfl rfl rfl hs (by decide) ?_
  refine RD.getR (pc := 13) dX5_label_13 flX5_46 (ok2 hs) rfl rfl ?_
  refine RD.iload_n (pc := 16) dX5_label_16 rfl ?_
  refine RD.cV1 (pc := 17) dX5_label_17 mlX5_127 rfl (ok4 hs (by decide)) rfl (c_tagAt K _ (ok4 hs (by decide)) D x) (leb rfl) ?_
  refine RD.goto (pc := 20) 24 dX5_label_20 (by decide) ?_
  refine RD.ireturn (pc := 24) dX5_label_24 rfl rfl ?_
  exact ⟨rfl, rfl⟩

set_option maxRecDepth 20000 in
set_option maxHeartbeats 1000000 in
theorem c_labelN (K : EK) (d : Nat) (D : DT) (a x : Int32) (h : inR a 8 = false) : CF K mX5_label (d + 2) [rR (0, 0, 0), rI a, rI x] D (some (rI (-1))) D := by
  refine CF.of [some (rR (0, 0, 0)), some (rI a), some (rI x)] (by decide) (leb rfl) rfl ?_
  refine RD.iload_n (pc := 0) dX5_label_0 rfl ?_
  refine RD.cS1 (pc := 1) dX5_label_1 mlX5_29 (c_isSlot K _ D a) (leb rfl) ?_
  refine RD.if_eq (pc := 4) 23 dX5_label_4 (by decide) (fun c4 => ?_) (fun c4 => absurd (bIout h) c4)
  refine RD.iconst (pc := 23) (v := (-1)) dX5_label_23 (by decide) ?_
  refine RD.ireturn (pc := 24) dX5_label_24 rfl rfl ?_
  exact ⟨rfl, rfl⟩

set_option maxRecDepth 20000 in
set_option maxHeartbeats 1000000 in
theorem c_isOut1 (K : EK) (d : Nat) (D : DT) {s e w : Nat} (hs : s < 8) (hw : D (2, s, 0) 14 = nI w) (he : e < w) (hw64 : w ≤ 64) : CF K mX5_isOutput (d + 1) [rR (0, 0, 0), rI (nI s), rI (nI e)] D (some (rI 1)) D := by
  refine CF.of [some (rR (0, 0, 0)), some (rI (nI s)), some (rI (nI e))] (by decide) (leb rfl) rfl ?_
  refine RD.iload_n (pc := 0) dX5_isOutput_0 rfl ?_
  refine RD.cS1 (pc := 1) dX5_isOutput_1 mlX5_29 (c_isSlot K _ D (nI s)) (leb rfl) ?_
  refine RD.if_eq (pc := 4) 28 dX5_isOutput_4 (by decide) (fun c4 => absurd c4 (bIin (by decide) hs)) (fun c4 => ?_)
  refine RD.iload_n (pc := 7) dX5_isOutput_7 rfl ?_
  refine RD.if_lt (pc := 8) 28 dX5_isOutput_8 (by decide) (fun c8 => absurd c8 (nI_pos (by omega))) (fun c8 => ?_)
  refine RD.iload_n (pc := 11) dX5_isOutput_11 rfl ?_
  refine RD.aload_n (pc := 12) dX5_isOutput_12 rfl ?_
  refine RD.getR (pc := 13) dX5_isOutput_13 flX5_11 ok0 rfl rfl ?_
  refine RD.iload_n (pc := 16) dX5_isOutput_16 rfl ?_
  refine RD.aald (pc := 17) s dX5_isOutput_17 ok1 rfl rfl rfl hs (by decide) ?_
  refine RD.gI (pc := 18) (v := nI w) hw dX5_isOutput_18 flX5_124 (ok2 hs) rfl rfl ?_
  refine RD.icmp_ge (pc := 21) 28 dX5_isOutput_21 (by decide) (fun c21 => absurd c21 (nI_ge he (by omega))) (fun c21 => ?_)
  refine RD.iconst (pc := 24) (v := 1) dX5_isOutput_24 (by decide) ?_
  refine RD.goto (pc := 25) 29 dX5_isOutput_25 (by decide) ?_
  refine RD.ireturn (pc := 29) dX5_isOutput_29 rfl rfl ?_
  exact ⟨rfl, rfl⟩

set_option maxRecDepth 20000 in
set_option maxHeartbeats 1000000 in
theorem c_isOut0 (K : EK) (d : Nat) (D : DT) (a x : Int32) (h : ∀ s, s < 8 → a = nI s → x < 0 ∨ D (2, s, 0) 14 ≤ x) : CF K mX5_isOutput (d + 1) [rR (0, 0, 0), rI a, rI x] D (some (rI 0)) D := by
  refine CF.of [some (rR (0, 0, 0)), some (rI a), some (rI x)] (by decide) (leb rfl) rfl ?_
  refine RD.iload_n (pc := 0) dX5_isOutput_0 rfl ?_
  refine RD.cS1 (pc := 1) dX5_isOutput_1 mlX5_29 (c_isSlot K _ D a) (leb rfl) ?_
  refine RD.if_eq (pc := 4) 28 dX5_isOutput_4 (by decide) (fun c4 => ?_) (fun c4 => ?_)
  · refine RD.iconst (pc := 28) (v := 0) dX5_isOutput_28 (by decide) ?_
    refine RD.ireturn (pc := 29) dX5_isOutput_29 rfl rfl ?_
    exact ⟨rfl, rfl⟩
  · obtain ⟨s, hs, rfl⟩ := inR_t (N := 8) (by decide) (bI_1 c4)
    refine RD.iload_n (pc := 7) dX5_isOutput_7 rfl ?_
    refine RD.if_lt (pc := 8) 28 dX5_isOutput_8 (by decide) (fun c8 => ?_) (fun c8 => ?_)
    · refine RD.iconst (pc := 28) (v := 0) dX5_isOutput_28 (by decide) ?_
      refine RD.ireturn (pc := 29) dX5_isOutput_29 rfl rfl ?_
      exact ⟨rfl, rfl⟩
    · refine RD.iload_n (pc := 11) dX5_isOutput_11 rfl ?_
      refine RD.aload_n (pc := 12) dX5_isOutput_12 rfl ?_
      refine RD.getR (pc := 13) dX5_isOutput_13 flX5_11 ok0 rfl rfl ?_
      refine RD.iload_n (pc := 16) dX5_isOutput_16 rfl ?_
      refine RD.aald (pc := 17) s dX5_isOutput_17 ok1 rfl rfl rfl hs (by decide) ?_
      refine RD.gI (pc := 18) (v := D (2, s, 0) 14) rfl dX5_isOutput_18 flX5_124 (ok2 hs) rfl rfl ?_
      refine RD.icmp_ge (pc := 21) 28 dX5_isOutput_21 (by decide) (fun c21 => ?_) (fun c21 => ?_)
      · refine RD.iconst (pc := 28) (v := 0) dX5_isOutput_28 (by decide) ?_
        refine RD.ireturn (pc := 29) dX5_isOutput_29 rfl rfl ?_
        exact ⟨rfl, rfl⟩
      · exfalso
        rcases h s hs rfl with h | h
        · exact c8 h
        · exact c21 h

set_option maxRecDepth 20000 in
set_option maxHeartbeats 1000000 in
theorem c_output (K : EK) (d : Nat) (D : DT) {s e w : Nat} (hs : s < 8) (hw : D (2, s, 0) 14 = nI w) (he : e < w) (hw64 : w ≤ 64) : CF K mX5_output (d + 2) [rR (0, 0, 0), rI (nI s), rI (nI e)] D (some (rI (D (10, s, 0) e))) D := by
  refine CF.of [some (rR (0, 0, 0)), some (rI (nI s)), some (rI (nI e))] (by decide) (leb rfl) rfl ?_
  refine RD.aload_n (pc := 0) dX5_output_0 rfl ?_
  refine RD.iload_n (pc := 1) dX5_output_1 rfl ?_
  refine RD.iload_n (pc := 2) dX5_output_2 rfl ?_
  refine RD.cV2 (pc := 3) dX5_output_3 mlX5_131 rfl ok0 rfl (c_isOut1 K _ D hs hw he hw64) (leb rfl) ?_
  refine RD.if_eq (pc := 6) 23 dX5_output_6 (by decide) (fun c6 => absurd c6 (by decide)) (fun c6 => ?_)
  refine RD.aload_n (pc := 9) dX5_output_9 rfl ?_
  refine RD.getR (pc := 10) dX5_output_10 flX5_11 ok0 rfl rfl ?_
  refine RD.iload_n (pc := 13) dX5_output_13 rfl ?_
  refine RD.aald (pc := 14) s dX5_output_14 ok1 rfl rfl rfl hs (by decide) ?_
  refine RD.getR (pc := 15) dX5_output_15 flX5_134 (ok2 hs) rfl rfl ?_
  refine RD.iload_n (pc := 18) dX5_output_18 rfl ?_
  refine RD.iL (pc := 19) e (v := D (10, s, 0) e) rfl dX5_output_19 (ok10 hs) rfl rfl (by omega) (by decide) ?_
  refine RD.goto (pc := 20) 24 dX5_output_20 (by decide) ?_
  refine RD.ireturn (pc := 24) dX5_output_24 rfl rfl ?_
  exact ⟨rfl, rfl⟩

set_option maxRecDepth 20000 in
set_option maxHeartbeats 1000000 in
theorem c_outputN (K : EK) (d : Nat) (D : DT) (a x : Int32) (h : ∀ s, s < 8 → a = nI s → x < 0 ∨ D (2, s, 0) 14 ≤ x) : CF K mX5_output (d + 2) [rR (0, 0, 0), rI a, rI x] D (some (rI 0)) D := by
  refine CF.of [some (rR (0, 0, 0)), some (rI a), some (rI x)] (by decide) (leb rfl) rfl ?_
  refine RD.aload_n (pc := 0) dX5_output_0 rfl ?_
  refine RD.iload_n (pc := 1) dX5_output_1 rfl ?_
  refine RD.iload_n (pc := 2) dX5_output_2 rfl ?_
  refine RD.cV2 (pc := 3) dX5_output_3 mlX5_131 rfl ok0 rfl (c_isOut0 K _ D a x h) (leb rfl) ?_
  refine RD.if_eq (pc := 6) 23 dX5_output_6 (by decide) (fun c6 => ?_) (fun c6 => absurd rfl c6)
  refine RD.iconst (pc := 23) (v := 0) dX5_output_23 (by decide) ?_
  refine RD.ireturn (pc := 24) dX5_output_24 rfl rfl ?_
  exact ⟨rfl, rfl⟩

set_option maxRecDepth 20000 in
set_option maxHeartbeats 1000000 in
theorem c_outputTags (K : EK) (d : Nat) (D : DT) {s e w : Nat} (hs : s < 8) (hw : D (2, s, 0) 14 = nI w) (he : e < w) (hw64 : w ≤ 64) : CF K mX5_outputTags (d + 2) [rR (0, 0, 0), rI (nI s), rI (nI e)] D (some (rI (D (11, s, 0) e))) D := by
  refine CF.of [some (rR (0, 0, 0)), some (rI (nI s)), some (rI (nI e))] (by decide) (leb rfl) rfl ?_
  refine RD.aload_n (pc := 0) dX5_outputTags_0 rfl ?_
  refine RD.iload_n (pc := 1) dX5_outputTags_1 rfl ?_
  refine RD.iload_n (pc := 2) dX5_outputTags_2 rfl ?_
  refine RD.cV2 (pc := 3) dX5_outputTags_3 mlX5_131 rfl ok0 rfl (c_isOut1 K _ D hs hw he hw64) (leb rfl) ?_
  refine RD.if_eq (pc := 6) 23 dX5_outputTags_6 (by decide) (fun c6 => absurd c6 (by decide)) (fun c6 => ?_)
  refine RD.aload_n (pc := 9) dX5_outputTags_9 rfl ?_
  refine RD.getR (pc := 10) dX5_outputTags_10 flX5_11 ok0 rfl rfl ?_
  refine RD.iload_n (pc := 13) dX5_outputTags_13 rfl ?_
  refine RD.aald (pc := 14) s dX5_outputTags_14 ok1 rfl rfl rfl hs (by decide) ?_
  refine RD.getR (pc := 15) dX5_outputTags_15 flX5_137 (ok2 hs) rfl rfl ?_
  refine RD.iload_n (pc := 18) dX5_outputTags_18 rfl ?_
  refine RD.iL (pc := 19) e (v := D (11, s, 0) e) rfl dX5_outputTags_19 (ok11 hs) rfl rfl (by omega) (by decide) ?_
  refine RD.goto (pc := 20) 24 dX5_outputTags_20 (by decide) ?_
  refine RD.ireturn (pc := 24) dX5_outputTags_24 rfl rfl ?_
  exact ⟨rfl, rfl⟩

set_option maxRecDepth 20000 in
set_option maxHeartbeats 1000000 in
theorem c_outputTagsN (K : EK) (d : Nat) (D : DT) (a x : Int32) (h : ∀ s, s < 8 → a = nI s → x < 0 ∨ D (2, s, 0) 14 ≤ x) : CF K mX5_outputTags (d + 2) [rR (0, 0, 0), rI a, rI x] D (some (rI (-1))) D := by
  refine CF.of [some (rR (0, 0, 0)), some (rI a), some (rI x)] (by decide) (leb rfl) rfl ?_
  refine RD.aload_n (pc := 0) dX5_outputTags_0 rfl ?_
  refine RD.iload_n (pc := 1) dX5_outputTags_1 rfl ?_
  refine RD.iload_n (pc := 2) dX5_outputTags_2 rfl ?_
  refine RD.cV2 (pc := 3) dX5_outputTags_3 mlX5_131 rfl ok0 rfl (c_isOut0 K _ D a x h) (leb rfl) ?_
  refine RD.if_eq (pc := 6) 23 dX5_outputTags_6 (by decide) (fun c6 => ?_) (fun c6 => absurd rfl c6)
  refine RD.iconst (pc := 23) (v := (-1)) dX5_outputTags_23 (by decide) ?_
  refine RD.ireturn (pc := 24) dX5_outputTags_24 rfl rfl ?_
  exact ⟨rfl, rfl⟩

set_option maxRecDepth 20000 in
set_option maxHeartbeats 1000000 in
theorem c_mayFlow (K : EK) (d : Nat) (D : DT) {f t : Nat} (hf8 : f < 8) (ht8 : t < 8) : CF K mX5_mayFlow (d + 2) [rR (0, 0, 0), rI (nI f), rI (nI t)] D (some (rI (bI (subB (D (5, f, 0)) (D (5, t, 0)))))) D := by
  refine CF.of [some (rR (0, 0, 0)), some (rI (nI f)), some (rI (nI t))] (by decide) (leb rfl) rfl ?_
  refine RD.iload_n (pc := 0) dX5_mayFlow_0 rfl ?_
  refine RD.cS1 (pc := 1) dX5_mayFlow_1 mlX5_29 (c_isSlot K _ D (nI f)) (leb rfl) ?_
  refine RD.if_eq (pc := 4) 42 dX5_mayFlow_4 (by decide) (fun c4 => absurd c4 (bIin (by decide) hf8)) (fun c4 => ?_)
  refine RD.iload_n (pc := 7) dX5_mayFlow_7 rfl ?_
  refine RD.cS1 (pc := 8) dX5_mayFlow_8 mlX5_29 (c_isSlot K _ D (nI t)) (leb rfl) ?_
  refine RD.if_eq (pc := 11) 42 dX5_mayFlow_11 (by decide) (fun c11 => absurd c11 (bIin (by decide) ht8)) (fun c11 => ?_)
  refine RD.aload_n (pc := 14) dX5_mayFlow_14 rfl ?_
  refine RD.getR (pc := 15) dX5_mayFlow_15 flX5_11 ok0 rfl rfl ?_
  refine RD.iload_n (pc := 18) dX5_mayFlow_18 rfl ?_
  refine RD.aald (pc := 19) f dX5_mayFlow_19 ok1 rfl rfl rfl hf8 (by decide) ?_
  refine RD.getR (pc := 20) dX5_mayFlow_20 flX5_46 (ok2 hf8) rfl rfl ?_
  refine RD.aload_n (pc := 23) dX5_mayFlow_23 rfl ?_
  refine RD.getR (pc := 24) dX5_mayFlow_24 flX5_11 ok0 rfl rfl ?_
  refine RD.iload_n (pc := 27) dX5_mayFlow_27 rfl ?_
  refine RD.aald (pc := 28) t dX5_mayFlow_28 ok1 rfl rfl rfl ht8 (by decide) ?_
  refine RD.getR (pc := 29) dX5_mayFlow_29 flX5_46 (ok2 ht8) rfl rfl ?_
  refine RD.cV1 (pc := 32) dX5_mayFlow_32 mlX5_140 rfl (ok4 hf8 (by decide)) rfl (c_isIn K _ (ok4 hf8 (by decide)) (ok4 ht8 (by decide)) D) (leb rfl) ?_
  refine RD.if_eq (pc := 35) 42 dX5_mayFlow_35 (by decide) (fun c35 => ?_) (fun c35 => ?_)
  · refine RD.iconst (pc := 42) (v := 0) dX5_mayFlow_42 (by decide) ?_
    refine RD.ireturn (pc := 43) dX5_mayFlow_43 rfl rfl ?_
    exact ⟨by rw [bI_0 c35]; rfl, rfl⟩
  · refine RD.iconst (pc := 38) (v := 1) dX5_mayFlow_38 (by decide) ?_
    refine RD.goto (pc := 39) 43 dX5_mayFlow_39 (by decide) ?_
    refine RD.ireturn (pc := 43) dX5_mayFlow_43 rfl rfl ?_
    exact ⟨by rw [bI_1 c35]; rfl, rfl⟩

set_option maxRecDepth 20000 in
set_option maxHeartbeats 1000000 in
theorem c_mayFlowN (K : EK) (d : Nat) (D : DT) (a b : Int32) (h : ¬ (inR a 8 = true ∧ inR b 8 = true)) : CF K mX5_mayFlow (d + 2) [rR (0, 0, 0), rI a, rI b] D (some (rI 0)) D := by
  refine CF.of [some (rR (0, 0, 0)), some (rI a), some (rI b)] (by decide) (leb rfl) rfl ?_
  refine RD.iload_n (pc := 0) dX5_mayFlow_0 rfl ?_
  refine RD.cS1 (pc := 1) dX5_mayFlow_1 mlX5_29 (c_isSlot K _ D a) (leb rfl) ?_
  refine RD.if_eq (pc := 4) 42 dX5_mayFlow_4 (by decide) (fun c4 => ?_) (fun c4 => ?_)
  · refine RD.iconst (pc := 42) (v := 0) dX5_mayFlow_42 (by decide) ?_
    refine RD.ireturn (pc := 43) dX5_mayFlow_43 rfl rfl ?_
    exact ⟨rfl, rfl⟩
  · refine RD.iload_n (pc := 7) dX5_mayFlow_7 rfl ?_
    refine RD.cS1 (pc := 8) dX5_mayFlow_8 mlX5_29 (c_isSlot K _ D b) (leb rfl) ?_
    refine RD.if_eq (pc := 11) 42 dX5_mayFlow_11 (by decide) (fun c11 => ?_) (fun c11 => ?_)
    · refine RD.iconst (pc := 42) (v := 0) dX5_mayFlow_42 (by decide) ?_
      refine RD.ireturn (pc := 43) dX5_mayFlow_43 rfl rfl ?_
      exact ⟨rfl, rfl⟩
    · exact absurd ⟨bI_1 c4, bI_1 c11⟩ h

set_option maxRecDepth 20000 in
set_option maxHeartbeats 1000000 in
theorem c_slot0 (K : EK) (d : Nat) (D : DT) {s : Nat} (hs : s < 8) : CF K mX5_slot (d + 1) [rR (0, 0, 0), rI (nI s), rI 0] D (some (rI (D (2, s, 0) 4))) D := by
  refine CF.of [some (rR (0, 0, 0)), some (rI (nI s)), some (rI 0), none] (by decide) (leb rfl) rfl ?_
  refine RD.iload_n (pc := 0) dX5_slot_0 rfl ?_
  refine RD.cS1 (pc := 1) dX5_slot_1 mlX5_29 (c_isSlot K _ D (nI s)) (leb rfl) ?_
  refine RD.if_ne (pc := 4) 9 dX5_slot_4 (by decide) (fun c4 => ?_) (fun c4 => absurd c4 (bIin (by decide) hs))
  refine RD.aload_n (pc := 9) dX5_slot_9 rfl ?_
  refine RD.getR (pc := 10) dX5_slot_10 flX5_11 ok0 rfl rfl ?_
  refine RD.iload_n (pc := 13) dX5_slot_13 rfl ?_
  refine RD.aald (pc := 14) s dX5_slot_14 ok1 rfl rfl rfl hs (by decide) ?_
  refine RD.astore_n (pc := 15) (ls' := [some (rR (0, 0, 0)), some (rI (nI s)), some (rI 0), some (rR (2, s, 0))]) dX5_slot_15 (by decide) rfl ?_
  refine RD.iload_n (pc := 16) dX5_slot_16 rfl ?_
  refine RD.tableIn (pc := 17) 76 dX5_slot_17 (by decide) (by decide) rfl (by decide) ?_
  refine RD.aload_n (pc := 76) dX5_slot_76 rfl ?_
  refine RD.gI (pc := 77) (v := D (2, s, 0) 4) rfl dX5_slot_77 flX5_37 (ok2 hs) rfl rfl ?_
  refine RD.ireturn (pc := 80) dX5_slot_80 rfl rfl ?_
  exact ⟨rfl, rfl⟩

set_option maxRecDepth 20000 in
set_option maxHeartbeats 1000000 in
theorem c_slot1 (K : EK) (d : Nat) (D : DT) {s : Nat} (hs : s < 8) : CF K mX5_slot (d + 1) [rR (0, 0, 0), rI (nI s), rI 1] D (some (rI (D (2, s, 0) 5))) D := by
  refine CF.of [some (rR (0, 0, 0)), some (rI (nI s)), some (rI 1), none] (by decide) (leb rfl) rfl ?_
  refine RD.iload_n (pc := 0) dX5_slot_0 rfl ?_
  refine RD.cS1 (pc := 1) dX5_slot_1 mlX5_29 (c_isSlot K _ D (nI s)) (leb rfl) ?_
  refine RD.if_ne (pc := 4) 9 dX5_slot_4 (by decide) (fun c4 => ?_) (fun c4 => absurd c4 (bIin (by decide) hs))
  refine RD.aload_n (pc := 9) dX5_slot_9 rfl ?_
  refine RD.getR (pc := 10) dX5_slot_10 flX5_11 ok0 rfl rfl ?_
  refine RD.iload_n (pc := 13) dX5_slot_13 rfl ?_
  refine RD.aald (pc := 14) s dX5_slot_14 ok1 rfl rfl rfl hs (by decide) ?_
  refine RD.astore_n (pc := 15) (ls' := [some (rR (0, 0, 0)), some (rI (nI s)), some (rI 1), some (rR (2, s, 0))]) dX5_slot_15 (by decide) rfl ?_
  refine RD.iload_n (pc := 16) dX5_slot_16 rfl ?_
  refine RD.tableIn (pc := 17) 81 dX5_slot_17 (by decide) (by decide) rfl (by decide) ?_
  refine RD.aload_n (pc := 81) dX5_slot_81 rfl ?_
  refine RD.gI (pc := 82) (v := D (2, s, 0) 5) rfl dX5_slot_82 flX5_105 (ok2 hs) rfl rfl ?_
  refine RD.ireturn (pc := 85) dX5_slot_85 rfl rfl ?_
  exact ⟨rfl, rfl⟩

set_option maxRecDepth 20000 in
set_option maxHeartbeats 1000000 in
theorem c_slot2 (K : EK) (d : Nat) (D : DT) {s : Nat} (hs : s < 8) : CF K mX5_slot (d + 1) [rR (0, 0, 0), rI (nI s), rI 2] D (some (rI (D (2, s, 0) 2))) D := by
  refine CF.of [some (rR (0, 0, 0)), some (rI (nI s)), some (rI 2), none] (by decide) (leb rfl) rfl ?_
  refine RD.iload_n (pc := 0) dX5_slot_0 rfl ?_
  refine RD.cS1 (pc := 1) dX5_slot_1 mlX5_29 (c_isSlot K _ D (nI s)) (leb rfl) ?_
  refine RD.if_ne (pc := 4) 9 dX5_slot_4 (by decide) (fun c4 => ?_) (fun c4 => absurd c4 (bIin (by decide) hs))
  refine RD.aload_n (pc := 9) dX5_slot_9 rfl ?_
  refine RD.getR (pc := 10) dX5_slot_10 flX5_11 ok0 rfl rfl ?_
  refine RD.iload_n (pc := 13) dX5_slot_13 rfl ?_
  refine RD.aald (pc := 14) s dX5_slot_14 ok1 rfl rfl rfl hs (by decide) ?_
  refine RD.astore_n (pc := 15) (ls' := [some (rR (0, 0, 0)), some (rI (nI s)), some (rI 2), some (rR (2, s, 0))]) dX5_slot_15 (by decide) rfl ?_
  refine RD.iload_n (pc := 16) dX5_slot_16 rfl ?_
  refine RD.tableIn (pc := 17) 86 dX5_slot_17 (by decide) (by decide) rfl (by decide) ?_
  refine RD.aload_n (pc := 86) dX5_slot_86 rfl ?_
  refine RD.gI (pc := 87) (v := D (2, s, 0) 2) rfl dX5_slot_87 flX5_108 (ok2 hs) rfl rfl ?_
  refine RD.ireturn (pc := 90) dX5_slot_90 rfl rfl ?_
  exact ⟨rfl, rfl⟩

set_option maxRecDepth 20000 in
set_option maxHeartbeats 1000000 in
theorem c_slot3 (K : EK) (d : Nat) (D : DT) {s : Nat} (hs : s < 8) : CF K mX5_slot (d + 1) [rR (0, 0, 0), rI (nI s), rI 3] D (some (rI (D (2, s, 0) 3))) D := by
  refine CF.of [some (rR (0, 0, 0)), some (rI (nI s)), some (rI 3), none] (by decide) (leb rfl) rfl ?_
  refine RD.iload_n (pc := 0) dX5_slot_0 rfl ?_
  refine RD.cS1 (pc := 1) dX5_slot_1 mlX5_29 (c_isSlot K _ D (nI s)) (leb rfl) ?_
  refine RD.if_ne (pc := 4) 9 dX5_slot_4 (by decide) (fun c4 => ?_) (fun c4 => absurd c4 (bIin (by decide) hs))
  refine RD.aload_n (pc := 9) dX5_slot_9 rfl ?_
  refine RD.getR (pc := 10) dX5_slot_10 flX5_11 ok0 rfl rfl ?_
  refine RD.iload_n (pc := 13) dX5_slot_13 rfl ?_
  refine RD.aald (pc := 14) s dX5_slot_14 ok1 rfl rfl rfl hs (by decide) ?_
  refine RD.astore_n (pc := 15) (ls' := [some (rR (0, 0, 0)), some (rI (nI s)), some (rI 3), some (rR (2, s, 0))]) dX5_slot_15 (by decide) rfl ?_
  refine RD.iload_n (pc := 16) dX5_slot_16 rfl ?_
  refine RD.tableIn (pc := 17) 91 dX5_slot_17 (by decide) (by decide) rfl (by decide) ?_
  refine RD.aload_n (pc := 91) dX5_slot_91 rfl ?_
  refine RD.gI (pc := 92) (v := D (2, s, 0) 3) rfl dX5_slot_92 flX5_111 (ok2 hs) rfl rfl ?_
  refine RD.ireturn (pc := 95) dX5_slot_95 rfl rfl ?_
  exact ⟨rfl, rfl⟩

set_option maxRecDepth 20000 in
set_option maxHeartbeats 1000000 in
theorem c_slot4 (K : EK) (d : Nat) (D : DT) {s : Nat} (hs : s < 8) : CF K mX5_slot (d + 1) [rR (0, 0, 0), rI (nI s), rI 4] D (some (rI (D (4, s, 0) 1))) D := by
  refine CF.of [some (rR (0, 0, 0)), some (rI (nI s)), some (rI 4), none] (by decide) (leb rfl) rfl ?_
  refine RD.iload_n (pc := 0) dX5_slot_0 rfl ?_
  refine RD.cS1 (pc := 1) dX5_slot_1 mlX5_29 (c_isSlot K _ D (nI s)) (leb rfl) ?_
  refine RD.if_ne (pc := 4) 9 dX5_slot_4 (by decide) (fun c4 => ?_) (fun c4 => absurd c4 (bIin (by decide) hs))
  refine RD.aload_n (pc := 9) dX5_slot_9 rfl ?_
  refine RD.getR (pc := 10) dX5_slot_10 flX5_11 ok0 rfl rfl ?_
  refine RD.iload_n (pc := 13) dX5_slot_13 rfl ?_
  refine RD.aald (pc := 14) s dX5_slot_14 ok1 rfl rfl rfl hs (by decide) ?_
  refine RD.astore_n (pc := 15) (ls' := [some (rR (0, 0, 0)), some (rI (nI s)), some (rI 4), some (rR (2, s, 0))]) dX5_slot_15 (by decide) rfl ?_
  refine RD.iload_n (pc := 16) dX5_slot_16 rfl ?_
  refine RD.tableIn (pc := 17) 96 dX5_slot_17 (by decide) (by decide) rfl (by decide) ?_
  refine RD.aload_n (pc := 96) dX5_slot_96 rfl ?_
  refine RD.getR (pc := 97) dX5_slot_97 flX5_46 (ok2 hs) rfl rfl ?_
  refine RD.gI (pc := 100) (v := D (4, s, 0) 1) rfl dX5_slot_100 flX5_71 (ok4 hs (by decide)) rfl rfl ?_
  refine RD.ireturn (pc := 103) dX5_slot_103 rfl rfl ?_
  exact ⟨rfl, rfl⟩

set_option maxRecDepth 20000 in
set_option maxHeartbeats 1000000 in
theorem c_slot5 (K : EK) (d : Nat) (D : DT) {s : Nat} (hs : s < 8) : CF K mX5_slot (d + 1) [rR (0, 0, 0), rI (nI s), rI 5] D (some (rI (D (2, s, 0) 6))) D := by
  refine CF.of [some (rR (0, 0, 0)), some (rI (nI s)), some (rI 5), none] (by decide) (leb rfl) rfl ?_
  refine RD.iload_n (pc := 0) dX5_slot_0 rfl ?_
  refine RD.cS1 (pc := 1) dX5_slot_1 mlX5_29 (c_isSlot K _ D (nI s)) (leb rfl) ?_
  refine RD.if_ne (pc := 4) 9 dX5_slot_4 (by decide) (fun c4 => ?_) (fun c4 => absurd c4 (bIin (by decide) hs))
  refine RD.aload_n (pc := 9) dX5_slot_9 rfl ?_
  refine RD.getR (pc := 10) dX5_slot_10 flX5_11 ok0 rfl rfl ?_
  refine RD.iload_n (pc := 13) dX5_slot_13 rfl ?_
  refine RD.aald (pc := 14) s dX5_slot_14 ok1 rfl rfl rfl hs (by decide) ?_
  refine RD.astore_n (pc := 15) (ls' := [some (rR (0, 0, 0)), some (rI (nI s)), some (rI 5), some (rR (2, s, 0))]) dX5_slot_15 (by decide) rfl ?_
  refine RD.iload_n (pc := 16) dX5_slot_16 rfl ?_
  refine RD.tableIn (pc := 17) 104 dX5_slot_17 (by decide) (by decide) rfl (by decide) ?_
  refine RD.aload_n (pc := 104) dX5_slot_104 rfl ?_
  refine RD.gI (pc := 105) (v := D (2, s, 0) 6) rfl dX5_slot_105 flX5_40 (ok2 hs) rfl rfl ?_
  refine RD.ireturn (pc := 108) dX5_slot_108 rfl rfl ?_
  exact ⟨rfl, rfl⟩

set_option maxRecDepth 20000 in
set_option maxHeartbeats 1000000 in
theorem c_slot6 (K : EK) (d : Nat) (D : DT) {s : Nat} (hs : s < 8) : CF K mX5_slot (d + 1) [rR (0, 0, 0), rI (nI s), rI 6] D (some (rI (D (4, s, 1) 1))) D := by
  refine CF.of [some (rR (0, 0, 0)), some (rI (nI s)), some (rI 6), none] (by decide) (leb rfl) rfl ?_
  refine RD.iload_n (pc := 0) dX5_slot_0 rfl ?_
  refine RD.cS1 (pc := 1) dX5_slot_1 mlX5_29 (c_isSlot K _ D (nI s)) (leb rfl) ?_
  refine RD.if_ne (pc := 4) 9 dX5_slot_4 (by decide) (fun c4 => ?_) (fun c4 => absurd c4 (bIin (by decide) hs))
  refine RD.aload_n (pc := 9) dX5_slot_9 rfl ?_
  refine RD.getR (pc := 10) dX5_slot_10 flX5_11 ok0 rfl rfl ?_
  refine RD.iload_n (pc := 13) dX5_slot_13 rfl ?_
  refine RD.aald (pc := 14) s dX5_slot_14 ok1 rfl rfl rfl hs (by decide) ?_
  refine RD.astore_n (pc := 15) (ls' := [some (rR (0, 0, 0)), some (rI (nI s)), some (rI 6), some (rR (2, s, 0))]) dX5_slot_15 (by decide) rfl ?_
  refine RD.iload_n (pc := 16) dX5_slot_16 rfl ?_
  refine RD.tableIn (pc := 17) 109 dX5_slot_17 (by decide) (by decide) rfl (by decide) ?_
  refine RD.aload_n (pc := 109) dX5_slot_109 rfl ?_
  refine RD.getR (pc := 110) dX5_slot_110 flX5_114 (ok2 hs) rfl rfl ?_
  refine RD.gI (pc := 113) (v := D (4, s, 1) 1) rfl dX5_slot_113 flX5_71 (ok4 hs (by decide)) rfl rfl ?_
  refine RD.ireturn (pc := 116) dX5_slot_116 rfl rfl ?_
  exact ⟨rfl, rfl⟩

set_option maxRecDepth 20000 in
set_option maxHeartbeats 1000000 in
theorem c_slot7 (K : EK) (d : Nat) (D : DT) {s : Nat} (hs : s < 8) : CF K mX5_slot (d + 1) [rR (0, 0, 0), rI (nI s), rI 7] D (some (rI (D (4, s, 2) 1))) D := by
  refine CF.of [some (rR (0, 0, 0)), some (rI (nI s)), some (rI 7), none] (by decide) (leb rfl) rfl ?_
  refine RD.iload_n (pc := 0) dX5_slot_0 rfl ?_
  refine RD.cS1 (pc := 1) dX5_slot_1 mlX5_29 (c_isSlot K _ D (nI s)) (leb rfl) ?_
  refine RD.if_ne (pc := 4) 9 dX5_slot_4 (by decide) (fun c4 => ?_) (fun c4 => absurd c4 (bIin (by decide) hs))
  refine RD.aload_n (pc := 9) dX5_slot_9 rfl ?_
  refine RD.getR (pc := 10) dX5_slot_10 flX5_11 ok0 rfl rfl ?_
  refine RD.iload_n (pc := 13) dX5_slot_13 rfl ?_
  refine RD.aald (pc := 14) s dX5_slot_14 ok1 rfl rfl rfl hs (by decide) ?_
  refine RD.astore_n (pc := 15) (ls' := [some (rR (0, 0, 0)), some (rI (nI s)), some (rI 7), some (rR (2, s, 0))]) dX5_slot_15 (by decide) rfl ?_
  refine RD.iload_n (pc := 16) dX5_slot_16 rfl ?_
  refine RD.tableIn (pc := 17) 117 dX5_slot_17 (by decide) (by decide) rfl (by decide) ?_
  refine RD.aload_n (pc := 117) dX5_slot_117 rfl ?_
  refine RD.getR (pc := 118) dX5_slot_118 flX5_117 (ok2 hs) rfl rfl ?_
  refine RD.gI (pc := 121) (v := D (4, s, 2) 1) rfl dX5_slot_121 flX5_71 (ok4 hs (by decide)) rfl rfl ?_
  refine RD.ireturn (pc := 124) dX5_slot_124 rfl rfl ?_
  exact ⟨rfl, rfl⟩

set_option maxRecDepth 20000 in
set_option maxHeartbeats 1000000 in
theorem c_slot8 (K : EK) (d : Nat) (D : DT) {s : Nat} (hs : s < 8) : CF K mX5_slot (d + 1) [rR (0, 0, 0), rI (nI s), rI 8] D (some (rI (D (6, s, 0) 2))) D := by
  refine CF.of [some (rR (0, 0, 0)), some (rI (nI s)), some (rI 8), none] (by decide) (leb rfl) rfl ?_
  refine RD.iload_n (pc := 0) dX5_slot_0 rfl ?_
  refine RD.cS1 (pc := 1) dX5_slot_1 mlX5_29 (c_isSlot K _ D (nI s)) (leb rfl) ?_
  refine RD.if_ne (pc := 4) 9 dX5_slot_4 (by decide) (fun c4 => ?_) (fun c4 => absurd c4 (bIin (by decide) hs))
  refine RD.aload_n (pc := 9) dX5_slot_9 rfl ?_
  refine RD.getR (pc := 10) dX5_slot_10 flX5_11 ok0 rfl rfl ?_
  refine RD.iload_n (pc := 13) dX5_slot_13 rfl ?_
  refine RD.aald (pc := 14) s dX5_slot_14 ok1 rfl rfl rfl hs (by decide) ?_
  refine RD.astore_n (pc := 15) (ls' := [some (rR (0, 0, 0)), some (rI (nI s)), some (rI 8), some (rR (2, s, 0))]) dX5_slot_15 (by decide) rfl ?_
  refine RD.iload_n (pc := 16) dX5_slot_16 rfl ?_
  refine RD.tableIn (pc := 17) 125 dX5_slot_17 (by decide) (by decide) rfl (by decide) ?_
  refine RD.aload_n (pc := 125) dX5_slot_125 rfl ?_
  refine RD.getR (pc := 126) dX5_slot_126 flX5_81 (ok2 hs) rfl rfl ?_
  refine RD.gI (pc := 129) (v := D (6, s, 0) 2) rfl dX5_slot_129 flX5_91 (ok6 hs) rfl rfl ?_
  refine RD.ireturn (pc := 132) dX5_slot_132 rfl rfl ?_
  exact ⟨rfl, rfl⟩

set_option maxRecDepth 20000 in
set_option maxHeartbeats 1000000 in
theorem c_slot9 (K : EK) (d : Nat) (D : DT) {s : Nat} (hs : s < 8) : CF K mX5_slot (d + 1) [rR (0, 0, 0), rI (nI s), rI 9] D (some (rI (cfL D s 8 0 0))) D := by
  refine CF.of [some (rR (0, 0, 0)), some (rI (nI s)), some (rI 9), none] (by decide) (leb rfl) rfl ?_
  refine RD.iload_n (pc := 0) dX5_slot_0 rfl ?_
  refine RD.cS1 (pc := 1) dX5_slot_1 mlX5_29 (c_isSlot K _ D (nI s)) (leb rfl) ?_
  refine RD.if_ne (pc := 4) 9 dX5_slot_4 (by decide) (fun c4 => ?_) (fun c4 => absurd c4 (bIin (by decide) hs))
  refine RD.aload_n (pc := 9) dX5_slot_9 rfl ?_
  refine RD.getR (pc := 10) dX5_slot_10 flX5_11 ok0 rfl rfl ?_
  refine RD.iload_n (pc := 13) dX5_slot_13 rfl ?_
  refine RD.aald (pc := 14) s dX5_slot_14 ok1 rfl rfl rfl hs (by decide) ?_
  refine RD.astore_n (pc := 15) (ls' := [some (rR (0, 0, 0)), some (rI (nI s)), some (rI 9), some (rR (2, s, 0))]) dX5_slot_15 (by decide) rfl ?_
  refine RD.iload_n (pc := 16) dX5_slot_16 rfl ?_
  refine RD.tableIn (pc := 17) 133 dX5_slot_17 (by decide) (by decide) rfl (by decide) ?_
  refine RD.aload_n (pc := 133) dX5_slot_133 rfl ?_
  refine RD.cV0 (pc := 134) dX5_slot_134 mlX5_120 rfl (ok2 hs) rfl (c_countFiles K _ hs D) (leb rfl) ?_
  refine RD.ireturn (pc := 137) dX5_slot_137 rfl rfl ?_
  exact ⟨rfl, rfl⟩

set_option maxRecDepth 20000 in
set_option maxHeartbeats 1000000 in
theorem c_slot10 (K : EK) (d : Nat) (D : DT) {s : Nat} (hs : s < 8) : CF K mX5_slot (d + 1) [rR (0, 0, 0), rI (nI s), rI 10] D (some (rI (D (2, s, 0) 14))) D := by
  refine CF.of [some (rR (0, 0, 0)), some (rI (nI s)), some (rI 10), none] (by decide) (leb rfl) rfl ?_
  refine RD.iload_n (pc := 0) dX5_slot_0 rfl ?_
  refine RD.cS1 (pc := 1) dX5_slot_1 mlX5_29 (c_isSlot K _ D (nI s)) (leb rfl) ?_
  refine RD.if_ne (pc := 4) 9 dX5_slot_4 (by decide) (fun c4 => ?_) (fun c4 => absurd c4 (bIin (by decide) hs))
  refine RD.aload_n (pc := 9) dX5_slot_9 rfl ?_
  refine RD.getR (pc := 10) dX5_slot_10 flX5_11 ok0 rfl rfl ?_
  refine RD.iload_n (pc := 13) dX5_slot_13 rfl ?_
  refine RD.aald (pc := 14) s dX5_slot_14 ok1 rfl rfl rfl hs (by decide) ?_
  refine RD.astore_n (pc := 15) (ls' := [some (rR (0, 0, 0)), some (rI (nI s)), some (rI 10), some (rR (2, s, 0))]) dX5_slot_15 (by decide) rfl ?_
  refine RD.iload_n (pc := 16) dX5_slot_16 rfl ?_
  refine RD.tableIn (pc := 17) 138 dX5_slot_17 (by decide) (by decide) rfl (by decide) ?_
  refine RD.aload_n (pc := 138) dX5_slot_138 rfl ?_
  refine RD.gI (pc := 139) (v := D (2, s, 0) 14) rfl dX5_slot_139 flX5_124 (ok2 hs) rfl rfl ?_
  refine RD.ireturn (pc := 142) dX5_slot_142 rfl rfl ?_
  exact ⟨rfl, rfl⟩

set_option maxRecDepth 20000 in
set_option maxHeartbeats 1000000 in
theorem c_slotX (K : EK) (d : Nat) (D : DT) {s : Nat} (hs : s < 8) (x : Int32) (h : x.toInt < 0 ∨ 10 < x.toInt) : CF K mX5_slot (d + 1) [rR (0, 0, 0), rI (nI s), rI x] D (some (rI (-1))) D := by
  refine CF.of [some (rR (0, 0, 0)), some (rI (nI s)), some (rI x), none] (by decide) (leb rfl) rfl ?_
  refine RD.iload_n (pc := 0) dX5_slot_0 rfl ?_
  refine RD.cS1 (pc := 1) dX5_slot_1 mlX5_29 (c_isSlot K _ D (nI s)) (leb rfl) ?_
  refine RD.if_ne (pc := 4) 9 dX5_slot_4 (by decide) (fun c4 => ?_) (fun c4 => absurd c4 (bIin (by decide) hs))
  refine RD.aload_n (pc := 9) dX5_slot_9 rfl ?_
  refine RD.getR (pc := 10) dX5_slot_10 flX5_11 ok0 rfl rfl ?_
  refine RD.iload_n (pc := 13) dX5_slot_13 rfl ?_
  refine RD.aald (pc := 14) s dX5_slot_14 ok1 rfl rfl rfl hs (by decide) ?_
  refine RD.astore_n (pc := 15) (ls' := [some (rR (0, 0, 0)), some (rI (nI s)), some (rI x), some (rR (2, s, 0))]) dX5_slot_15 (by decide) rfl ?_
  refine RD.iload_n (pc := 16) dX5_slot_16 rfl ?_
  refine RD.tableOut (pc := 17) 143 dX5_slot_17 h (by decide) ?_
  refine RD.iconst (pc := 143) (v := (-1)) dX5_slot_143 (by decide) ?_
  refine RD.ireturn (pc := 144) dX5_slot_144 rfl rfl ?_
  exact ⟨rfl, rfl⟩

set_option maxRecDepth 20000 in
set_option maxHeartbeats 1000000 in
theorem c_slotN (K : EK) (d : Nat) (D : DT) (a x : Int32) (h : inR a 8 = false) : CF K mX5_slot (d + 1) [rR (0, 0, 0), rI a, rI x] D (some (rI (-1))) D := by
  refine CF.of [some (rR (0, 0, 0)), some (rI a), some (rI x), none] (by decide) (leb rfl) rfl ?_
  refine RD.iload_n (pc := 0) dX5_slot_0 rfl ?_
  refine RD.cS1 (pc := 1) dX5_slot_1 mlX5_29 (c_isSlot K _ D a) (leb rfl) ?_
  refine RD.if_ne (pc := 4) 9 dX5_slot_4 (by decide) (fun c4 => absurd (bIout h) c4) (fun c4 => ?_)
  refine RD.iconst (pc := 7) (v := (-1)) dX5_slot_7 (by decide) ?_
  refine RD.ireturn (pc := 8) dX5_slot_8 rfl rfl ?_
  exact ⟨rfl, rfl⟩
end
section
def wcB (x : Int32) : Bool := decide (x = 1) || (decide (x = 2) || (decide (4 ≤ x) && decide (x ≤ 12)))

set_option maxRecDepth 20000 in
set_option maxHeartbeats 1000000 in
theorem c_wantsCell (K : EK) (d : Nat) (D : DT) (x : Int32) : CF K mX5_wantsCell d [rI x] D (some (rI (bI (wcB x)))) D := by
  refine CF.of [some (rI x)] (by decide) (leb rfl) rfl ?_
  refine RD.iload_n (pc := 0) dX5_wantsCell_0 rfl ?_
  refine RD.iconst (pc := 1) (v := 1) dX5_wantsCell_1 (by decide) ?_
  refine RD.icmp_eq (pc := 2) 21 dX5_wantsCell_2 (by decide) (fun c2 => ?_) (fun c2 => ?_)
  · refine RD.iconst (pc := 21) (v := 1) dX5_wantsCell_21 (by decide) ?_
    refine RD.goto (pc := 22) 26 dX5_wantsCell_22 (by decide) ?_
    refine RD.ireturn (pc := 26) dX5_wantsCell_26 rfl rfl ?_
    exact ⟨by simp [wcB, c2, bI], rfl⟩
  · refine RD.iload_n (pc := 5) dX5_wantsCell_5 rfl ?_
    refine RD.iconst (pc := 6) (v := 2) dX5_wantsCell_6 (by decide) ?_
    refine RD.icmp_eq (pc := 7) 21 dX5_wantsCell_7 (by decide) (fun c7 => ?_) (fun c7 => ?_)
    · refine RD.iconst (pc := 21) (v := 1) dX5_wantsCell_21 (by decide) ?_
      refine RD.goto (pc := 22) 26 dX5_wantsCell_22 (by decide) ?_
      refine RD.ireturn (pc := 26) dX5_wantsCell_26 rfl rfl ?_
      exact ⟨by simp [wcB, c7, bI], rfl⟩
    · refine RD.iload_n (pc := 10) dX5_wantsCell_10 rfl ?_
      refine RD.iconst (pc := 11) (v := 4) dX5_wantsCell_11 (by decide) ?_
      refine RD.icmp_lt (pc := 12) 25 dX5_wantsCell_12 (by decide) (fun c12 => ?_) (fun c12 => ?_)
      · refine RD.iconst (pc := 25) (v := 0) dX5_wantsCell_25 (by decide) ?_
        refine RD.ireturn (pc := 26) dX5_wantsCell_26 rfl rfl ?_
        exact ⟨by simp [wcB, c2, c7, Int32.not_le.mpr c12, bI], rfl⟩
      · refine RD.iload_n (pc := 15) dX5_wantsCell_15 rfl ?_
        refine RD.bipush (pc := 16) (v := 12) dX5_wantsCell_16 (by decide) ?_
        refine RD.icmp_gt (pc := 18) 25 dX5_wantsCell_18 (by decide) (fun c18 => ?_) (fun c18 => ?_)
        · refine RD.iconst (pc := 25) (v := 0) dX5_wantsCell_25 (by decide) ?_
          refine RD.ireturn (pc := 26) dX5_wantsCell_26 rfl rfl ?_
          exact ⟨by simp [wcB, c2, c7, Int32.not_le.mpr c18, bI], rfl⟩
        · refine RD.iconst (pc := 21) (v := 1) dX5_wantsCell_21 (by decide) ?_
          refine RD.goto (pc := 22) 26 dX5_wantsCell_22 (by decide) ?_
          refine RD.ireturn (pc := 26) dX5_wantsCell_26 rfl rfl ?_
          exact ⟨by simp [wcB, i32_nlt c12, i32_nlt c18, bI], rfl⟩

set_option maxRecDepth 20000 in
set_option maxHeartbeats 1000000 in
theorem c_plain0 (K : EK) (d : Nat) {i : Nat} (hi : i < 8) (D : DT) (x : Int32) : CF K mX5_plainInstruction (d + 1) [rR (2, i, 0), rI 0, rI x] D (none) (up D (2, i, 0) 4 2) := by
  refine CF.of [some (rR (2, i, 0)), some (rI 0), some (rI x)] (by decide) (leb rfl) rfl ?_
  refine RD.iload_n (pc := 0) dX5_plainInstruction_0 rfl ?_
  refine RD.lookup (pc := 1) (off := 51) 52 dX5_plainInstruction_1 (by decide) rfl (by decide) ?_
  refine RD.aload_n (pc := 52) dX5_plainInstruction_52 rfl ?_
  refine RD.iconst (pc := 53) (v := 2) dX5_plainInstruction_53 (by decide) ?_
  refine RD.putf (pc := 54) dX5_plainInstruction_54 fpX5_37 (ok2 hi) rfl rfl rfl rfl ?_
  refine RD.goto (pc := 57) 111 dX5_plainInstruction_57 (by decide) ?_
  refine RD.ret (pc := 111) ⟨rfl, dX5_plainInstruction_111⟩ ?_
  exact ⟨rfl, rfl⟩

set_option maxRecDepth 20000 in
set_option maxHeartbeats 1000000 in
theorem c_plain3 (K : EK) (d : Nat) {i : Nat} (hi : i < 8) (D : DT) (x : Int32) : CF K mX5_plainInstruction (d + 1) [rR (2, i, 0), rI 3, rI x] D (none) (up D (2, i, 0) 2 x) := by
  refine CF.of [some (rR (2, i, 0)), some (rI 3), some (rI x)] (by decide) (leb rfl) rfl ?_
  refine RD.iload_n (pc := 0) dX5_plainInstruction_0 rfl ?_
  refine RD.lookup (pc := 1) (off := 59) 60 dX5_plainInstruction_1 (by decide) rfl (by decide) ?_
  refine RD.aload_n (pc := 60) dX5_plainInstruction_60 rfl ?_
  refine RD.iload_n (pc := 61) dX5_plainInstruction_61 rfl ?_
  refine RD.putf (pc := 62) dX5_plainInstruction_62 fpX5_108 (ok2 hi) rfl rfl rfl rfl ?_
  refine RD.goto (pc := 65) 111 dX5_plainInstruction_65 (by decide) ?_
  refine RD.ret (pc := 111) ⟨rfl, dX5_plainInstruction_111⟩ ?_
  exact ⟨rfl, rfl⟩

set_option maxRecDepth 20000 in
set_option maxHeartbeats 1000000 in
theorem c_plain13 (K : EK) (d : Nat) {i : Nat} (hi : i < 8) (D : DT) (x : Int32) : CF K mX5_plainInstruction (d + 1) [rR (2, i, 0), rI 13, rI x] D (none) (up D (2, i, 0) 3 x) := by
  refine CF.of [some (rR (2, i, 0)), some (rI 13), some (rI x)] (by decide) (leb rfl) rfl ?_
  refine RD.iload_n (pc := 0) dX5_plainInstruction_0 rfl ?_
  refine RD.lookup (pc := 1) (off := 67) 68 dX5_plainInstruction_1 (by decide) rfl (by decide) ?_
  refine RD.aload_n (pc := 68) dX5_plainInstruction_68 rfl ?_
  refine RD.iload_n (pc := 69) dX5_plainInstruction_69 rfl ?_
  refine RD.putf (pc := 70) dX5_plainInstruction_70 fpX5_111 (ok2 hi) rfl rfl rfl rfl ?_
  refine RD.goto (pc := 73) 111 dX5_plainInstruction_73 (by decide) ?_
  refine RD.ret (pc := 111) ⟨rfl, dX5_plainInstruction_111⟩ ?_
  exact ⟨rfl, rfl⟩

set_option maxRecDepth 20000 in
set_option maxHeartbeats 1000000 in
theorem c_plain14 (K : EK) (d : Nat) {i : Nat} (hi : i < 8) (D : DT) (x : Int32) : CF K mX5_plainInstruction (d + 1) [rR (2, i, 0), rI 14, rI x] D (none) (if D (2, i, 0) 2 = 0 then up D (2, i, 0) 3 x else D) := by
  refine CF.of [some (rR (2, i, 0)), some (rI 14), some (rI x)] (by decide) (leb rfl) rfl ?_
  refine RD.iload_n (pc := 0) dX5_plainInstruction_0 rfl ?_
  refine RD.lookup (pc := 1) (off := 75) 76 dX5_plainInstruction_1 (by decide) rfl (by decide) ?_
  refine RD.aload_n (pc := 76) dX5_plainInstruction_76 rfl ?_
  refine RD.gI (pc := 77) (v := D (2, i, 0) 2) rfl dX5_plainInstruction_77 flX5_108 (ok2 hi) rfl rfl ?_
  refine RD.if_ne (pc := 80) 111 dX5_plainInstruction_80 (by decide) (fun c80 => ?_) (fun c80 => ?_)
  · refine RD.ret (pc := 111) ⟨rfl, dX5_plainInstruction_111⟩ ?_
    exact ⟨rfl, by simp [c80]⟩
  · refine RD.aload_n (pc := 83) dX5_plainInstruction_83 rfl ?_
    refine RD.iload_n (pc := 84) dX5_plainInstruction_84 rfl ?_
    refine RD.putf (pc := 85) dX5_plainInstruction_85 fpX5_111 (ok2 hi) rfl rfl rfl rfl ?_
    refine RD.goto (pc := 88) 111 dX5_plainInstruction_88 (by decide) ?_
    refine RD.ret (pc := 111) ⟨rfl, dX5_plainInstruction_111⟩ ?_
    exact ⟨rfl, by simp [c80]⟩

set_option maxRecDepth 20000 in
set_option maxHeartbeats 1000000 in
theorem c_plain15 (K : EK) (d : Nat) {i : Nat} (hi : i < 8) (D : DT) (x : Int32) : CF K mX5_plainInstruction (d + 1) [rR (2, i, 0), rI 15, rI x] D (none) (if D (2, i, 0) 2 < 0 then up D (2, i, 0) 3 x else D) := by
  refine CF.of [some (rR (2, i, 0)), some (rI 15), some (rI x)] (by decide) (leb rfl) rfl ?_
  refine RD.iload_n (pc := 0) dX5_plainInstruction_0 rfl ?_
  refine RD.lookup (pc := 1) (off := 90) 91 dX5_plainInstruction_1 (by decide) rfl (by decide) ?_
  refine RD.aload_n (pc := 91) dX5_plainInstruction_91 rfl ?_
  refine RD.gI (pc := 92) (v := D (2, i, 0) 2) rfl dX5_plainInstruction_92 flX5_108 (ok2 hi) rfl rfl ?_
  refine RD.if_ge (pc := 95) 111 dX5_plainInstruction_95 (by decide) (fun c95 => ?_) (fun c95 => ?_)
  · refine RD.ret (pc := 111) ⟨rfl, dX5_plainInstruction_111⟩ ?_
    exact ⟨rfl, by simp [Int32.not_lt.mpr c95]⟩
  · refine RD.aload_n (pc := 98) dX5_plainInstruction_98 rfl ?_
    refine RD.iload_n (pc := 99) dX5_plainInstruction_99 rfl ?_
    refine RD.putf (pc := 100) dX5_plainInstruction_100 fpX5_111 (ok2 hi) rfl rfl rfl rfl ?_
    refine RD.goto (pc := 103) 111 dX5_plainInstruction_103 (by decide) ?_
    refine RD.ret (pc := 111) ⟨rfl, dX5_plainInstruction_111⟩ ?_
    exact ⟨rfl, by simp [i32_nle c95]⟩

set_option maxRecDepth 20000 in
set_option maxHeartbeats 1000000 in
theorem c_plainX (K : EK) (d : Nat) {i : Nat} (hi : i < 8) (D : DT) (op x : Int32) (h0 : ¬ op = 0) (h3 : ¬ op = 3) (h13 : ¬ op = 13) (h14 : ¬ op = 14) (h15 : ¬ op = 15) : CF K mX5_plainInstruction (d + 1) [rR (2, i, 0), rI op, rI x] D (none) (stopF D i 1) := by
  refine CF.of [some (rR (2, i, 0)), some (rI op), some (rI x)] (by decide) (leb rfl) rfl ?_
  refine RD.iload_n (pc := 0) dX5_plainInstruction_0 rfl ?_
  refine RD.lookup (pc := 1) (off := 105) 106 dX5_plainInstruction_1 (by decide) (by rw [lv_osw h0 (by decide), lv_osw h3 (by decide), lv_osw h13 (by decide), lv_osw h14 (by decide), lv_osw h15 (by decide)]; rfl) (by decide) ?_
  refine RD.aload_n (pc := 106) dX5_plainInstruction_106 rfl ?_
  refine RD.iconst (pc := 107) (v := 1) dX5_plainInstruction_107 (by decide) ?_
  refine RD.cV1v (pc := 108) dX5_plainInstruction_108 mlX5_151 rfl (ok2 hi) rfl (c_stopBy K _ hi D 1) (leb rfl) ?_
  refine RD.ret (pc := 111) ⟨rfl, dX5_plainInstruction_111⟩ ?_
  exact ⟨rfl, rfl⟩

set_option maxRecDepth 20000 in
set_option maxHeartbeats 1000000 in
theorem c_indirectN (K : EK) (d : Nat) {i : Nat} (hi : i < 8) (D : DT) (op m : Int32) (h : inR m 128 = false) : CF K mX5_indirectInstruction (d + 1) [rR (2, i, 0), rI op, rI m] D (none) (stopF D i 2) := by
  refine CF.of [some (rR (2, i, 0)), some (rI op), some (rI m)] (by decide) (leb rfl) rfl ?_
  refine RD.iload_n (pc := 0) dX5_indirectInstruction_0 rfl ?_
  refine RD.cS1 (pc := 1) dX5_indirectInstruction_1 mlX5_102 (c_isPlace K _ D m) (leb rfl) ?_
  refine RD.if_ne (pc := 4) 15 dX5_indirectInstruction_4 (by decide) (fun c4 => absurd (bIout h) c4) (fun c4 => ?_)
  refine RD.aload_n (pc := 7) dX5_indirectInstruction_7 rfl ?_
  refine RD.iconst (pc := 8) (v := 2) dX5_indirectInstruction_8 (by decide) ?_
  refine RD.cV1v (pc := 9) dX5_indirectInstruction_9 mlX5_151 rfl (ok2 hi) rfl (c_stopBy K _ hi D 2) (leb rfl) ?_
  refine RD.goto (pc := 12) 43 dX5_indirectInstruction_12 (by decide) ?_
  refine RD.ret (pc := 43) ⟨rfl, dX5_indirectInstruction_43⟩ ?_
  exact ⟨rfl, rfl⟩

set_option maxRecDepth 20000 in
set_option maxHeartbeats 1000000 in
theorem c_indirect4 (K : EK) (d : Nat) {i : Nat} (hi : i < 8) (D : DT) {e : Nat} (he : e < 128) : CF K mX5_indirectInstruction (d + 1) [rR (2, i, 0), rI 4, rI (nI e)] D (none) (up D (2, i, 0) 2 (D (3, i, 0) e)) := by
  refine CF.of [some (rR (2, i, 0)), some (rI 4), some (rI (nI e))] (by decide) (leb rfl) rfl ?_
  refine RD.iload_n (pc := 0) dX5_indirectInstruction_0 rfl ?_
  refine RD.cS1 (pc := 1) dX5_indirectInstruction_1 mlX5_102 (c_isPlace K _ D (nI e)) (leb rfl) ?_
  refine RD.if_ne (pc := 4) 15 dX5_indirectInstruction_4 (by decide) (fun c4 => ?_) (fun c4 => absurd c4 (bIin (by decide) he))
  refine RD.iload_n (pc := 15) dX5_indirectInstruction_15 rfl ?_
  refine RD.iconst (pc := 16) (v := 4) dX5_indirectInstruction_16 (by decide) ?_
  refine RD.icmp_ne (pc := 17) 33 dX5_indirectInstruction_17 (by decide) (fun c17 => absurd rfl c17) (fun c17 => ?_)
  refine RD.aload_n (pc := 20) dX5_indirectInstruction_20 rfl ?_
  refine RD.aload_n (pc := 21) dX5_indirectInstruction_21 rfl ?_
  refine RD.getR (pc := 22) dX5_indirectInstruction_22 flX5_33 (ok2 hi) rfl rfl ?_
  refine RD.iload_n (pc := 25) dX5_indirectInstruction_25 rfl ?_
  refine RD.iL (pc := 26) e (v := D (3, i, 0) e) rfl dX5_indirectInstruction_26 (ok3 hi) rfl rfl he (by decide) ?_
  refine RD.putf (pc := 27) dX5_indirectInstruction_27 fpX5_108 (ok2 hi) rfl rfl rfl rfl ?_
  refine RD.goto (pc := 30) 43 dX5_indirectInstruction_30 (by decide) ?_
  refine RD.ret (pc := 43) ⟨rfl, dX5_indirectInstruction_43⟩ ?_
  exact ⟨rfl, rfl⟩

set_option maxRecDepth 20000 in
set_option maxHeartbeats 1000000 in
theorem c_indirect5 (K : EK) (d : Nat) {i : Nat} (hi : i < 8) (D : DT) {e : Nat} (he : e < 128) : CF K mX5_indirectInstruction (d + 1) [rR (2, i, 0), rI 5, rI (nI e)] D (none) (up D (3, i, 0) e (D (2, i, 0) 2)) := by
  refine CF.of [some (rR (2, i, 0)), some (rI 5), some (rI (nI e))] (by decide) (leb rfl) rfl ?_
  refine RD.iload_n (pc := 0) dX5_indirectInstruction_0 rfl ?_
  refine RD.cS1 (pc := 1) dX5_indirectInstruction_1 mlX5_102 (c_isPlace K _ D (nI e)) (leb rfl) ?_
  refine RD.if_ne (pc := 4) 15 dX5_indirectInstruction_4 (by decide) (fun c4 => ?_) (fun c4 => absurd c4 (bIin (by decide) he))
  refine RD.iload_n (pc := 15) dX5_indirectInstruction_15 rfl ?_
  refine RD.iconst (pc := 16) (v := 4) dX5_indirectInstruction_16 (by decide) ?_
  refine RD.icmp_ne (pc := 17) 33 dX5_indirectInstruction_17 (by decide) (fun c17 => ?_) (fun c17 => absurd c17 (by decide))
  refine RD.aload_n (pc := 33) dX5_indirectInstruction_33 rfl ?_
  refine RD.getR (pc := 34) dX5_indirectInstruction_34 flX5_33 (ok2 hi) rfl rfl ?_
  refine RD.iload_n (pc := 37) dX5_indirectInstruction_37 rfl ?_
  refine RD.aload_n (pc := 38) dX5_indirectInstruction_38 rfl ?_
  refine RD.gI (pc := 39) (v := D (2, i, 0) 2) rfl dX5_indirectInstruction_39 flX5_108 (ok2 hi) rfl rfl ?_
  refine RD.iast (pc := 42) e dX5_indirectInstruction_42 (ok3 hi) rfl rfl he (by decide) ?_
  refine RD.ret (pc := 43) ⟨rfl, dX5_indirectInstruction_43⟩ ?_
  exact ⟨rfl, rfl⟩

set_option maxRecDepth 20000 in
set_option maxHeartbeats 1000000 in
theorem c_divideN (K : EK) (d : Nat) {i : Nat} (hi : i < 8) (D : DT) (op : Int32) : CF K mX5_divideInstruction (d + 1) [rR (2, i, 0), rI op, rI 0] D (none) (stopF D i 3) := by
  refine CF.of [some (rR (2, i, 0)), some (rI op), some (rI 0)] (by decide) (leb rfl) rfl ?_
  refine RD.iload_n (pc := 0) dX5_divideInstruction_0 rfl ?_
  refine RD.if_ne (pc := 1) 12 dX5_divideInstruction_1 (by decide) (fun c1 => absurd rfl c1) (fun c1 => ?_)
  refine RD.aload_n (pc := 4) dX5_divideInstruction_4 rfl ?_
  refine RD.iconst (pc := 5) (v := 3) dX5_divideInstruction_5 (by decide) ?_
  refine RD.cV1v (pc := 6) dX5_divideInstruction_6 mlX5_151 rfl (ok2 hi) rfl (c_stopBy K _ hi D 3) (leb rfl) ?_
  refine RD.goto (pc := 9) 41 dX5_divideInstruction_9 (by decide) ?_
  refine RD.ret (pc := 41) ⟨rfl, dX5_divideInstruction_41⟩ ?_
  exact ⟨rfl, rfl⟩

set_option maxRecDepth 20000 in
set_option maxHeartbeats 1000000 in
theorem c_divide9 (K : EK) (d : Nat) {i : Nat} (hi : i < 8) (D : DT) (m : Int32) (h : ¬ m = 0) : CF K mX5_divideInstruction (d + 1) [rR (2, i, 0), rI 9, rI m] D (none) (up D (2, i, 0) 2 (D (2, i, 0) 2 / m)) := by
  refine CF.of [some (rR (2, i, 0)), some (rI 9), some (rI m)] (by decide) (leb rfl) rfl ?_
  refine RD.iload_n (pc := 0) dX5_divideInstruction_0 rfl ?_
  refine RD.if_ne (pc := 1) 12 dX5_divideInstruction_1 (by decide) (fun c1 => ?_) (fun c1 => absurd c1 h)
  refine RD.iload_n (pc := 12) dX5_divideInstruction_12 rfl ?_
  refine RD.bipush (pc := 13) (v := 9) dX5_divideInstruction_13 (by decide) ?_
  refine RD.icmp_ne (pc := 15) 31 dX5_divideInstruction_15 (by decide) (fun c15 => absurd rfl c15) (fun c15 => ?_)
  refine RD.aload_n (pc := 18) dX5_divideInstruction_18 rfl ?_
  refine RD.aload_n (pc := 19) dX5_divideInstruction_19 rfl ?_
  refine RD.gI (pc := 20) (v := D (2, i, 0) 2) rfl dX5_divideInstruction_20 flX5_108 (ok2 hi) rfl rfl ?_
  refine RD.iload_n (pc := 23) dX5_divideInstruction_23 rfl ?_
  refine RD.idiv (pc := 24) dX5_divideInstruction_24 h ?_
  refine RD.putf (pc := 25) dX5_divideInstruction_25 fpX5_108 (ok2 hi) rfl rfl rfl rfl ?_
  refine RD.goto (pc := 28) 41 dX5_divideInstruction_28 (by decide) ?_
  refine RD.ret (pc := 41) ⟨rfl, dX5_divideInstruction_41⟩ ?_
  exact ⟨rfl, rfl⟩

set_option maxRecDepth 20000 in
set_option maxHeartbeats 1000000 in
theorem c_divide10 (K : EK) (d : Nat) {i : Nat} (hi : i < 8) (D : DT) (m : Int32) (h : ¬ m = 0) : CF K mX5_divideInstruction (d + 1) [rR (2, i, 0), rI 10, rI m] D (none) (up D (2, i, 0) 2 (D (2, i, 0) 2 - D (2, i, 0) 2 / m * m)) := by
  refine CF.of [some (rR (2, i, 0)), some (rI 10), some (rI m)] (by decide) (leb rfl) rfl ?_
  refine RD.iload_n (pc := 0) dX5_divideInstruction_0 rfl ?_
  refine RD.if_ne (pc := 1) 12 dX5_divideInstruction_1 (by decide) (fun c1 => ?_) (fun c1 => absurd c1 h)
  refine RD.iload_n (pc := 12) dX5_divideInstruction_12 rfl ?_
  refine RD.bipush (pc := 13) (v := 9) dX5_divideInstruction_13 (by decide) ?_
  refine RD.icmp_ne (pc := 15) 31 dX5_divideInstruction_15 (by decide) (fun c15 => ?_) (fun c15 => absurd c15 (by decide))
  refine RD.aload_n (pc := 31) dX5_divideInstruction_31 rfl ?_
  refine RD.aload_n (pc := 32) dX5_divideInstruction_32 rfl ?_
  refine RD.gI (pc := 33) (v := D (2, i, 0) 2) rfl dX5_divideInstruction_33 flX5_108 (ok2 hi) rfl rfl ?_
  refine RD.iload_n (pc := 36) dX5_divideInstruction_36 rfl ?_
  refine RD.irem (pc := 37) dX5_divideInstruction_37 h ?_
  refine RD.putf (pc := 38) dX5_divideInstruction_38 fpX5_108 (ok2 hi) rfl rfl rfl rfl ?_
  refine RD.ret (pc := 41) ⟨rfl, dX5_divideInstruction_41⟩ ?_
  exact ⟨rfl, rfl⟩

set_option maxRecDepth 20000 in
set_option maxHeartbeats 1000000 in
theorem c_cell1 (K : EK) (d : Nat) {i : Nat} (hi : i < 8) (D : DT) {q : Nat} (hq : q < 128) : CF K mX5_cellInstruction (d + 2) [rR (2, i, 0), rI 1, rI (nI q)] D (none) (up D (2, i, 0) 2 (D (3, i, 0) q)) := by
  refine CF.of [some (rR (2, i, 0)), some (rI 1), some (rI (nI q)), none] (by decide) (leb rfl) rfl ?_
  refine RD.aload_n (pc := 0) dX5_cellInstruction_0 rfl ?_
  refine RD.getR (pc := 1) dX5_cellInstruction_1 flX5_33 (ok2 hi) rfl rfl ?_
  refine RD.iload_n (pc := 4) dX5_cellInstruction_4 rfl ?_
  refine RD.iL (pc := 5) q (v := D (3, i, 0) q) rfl dX5_cellInstruction_5 (ok3 hi) rfl rfl hq (by decide) ?_
  refine RD.istore_n (pc := 6) (ls' := [some (rR (2, i, 0)), some (rI 1), some (rI (nI q)), some (rI (D (3, i, 0) q))]) dX5_cellInstruction_6 (by decide) rfl ?_
  refine RD.iload_n (pc := 7) dX5_cellInstruction_7 rfl ?_
  refine RD.tableIn (pc := 8) 72 dX5_cellInstruction_8 (by decide) (by decide) rfl (by decide) ?_
  refine RD.aload_n (pc := 72) dX5_cellInstruction_72 rfl ?_
  refine RD.iload_n (pc := 73) dX5_cellInstruction_73 rfl ?_
  refine RD.putf (pc := 74) dX5_cellInstruction_74 fpX5_108 (ok2 hi) rfl rfl rfl rfl ?_
  refine RD.goto (pc := 77) 181 dX5_cellInstruction_77 (by decide) ?_
  refine RD.ret (pc := 181) ⟨rfl, dX5_cellInstruction_181⟩ ?_
  exact ⟨rfl, rfl⟩

set_option maxRecDepth 20000 in
set_option maxHeartbeats 1000000 in
theorem c_cell2 (K : EK) (d : Nat) {i : Nat} (hi : i < 8) (D : DT) {q : Nat} (hq : q < 128) : CF K mX5_cellInstruction (d + 2) [rR (2, i, 0), rI 2, rI (nI q)] D (none) (up D (3, i, 0) q (D (2, i, 0) 2)) := by
  refine CF.of [some (rR (2, i, 0)), some (rI 2), some (rI (nI q)), none] (by decide) (leb rfl) rfl ?_
  refine RD.aload_n (pc := 0) dX5_cellInstruction_0 rfl ?_
  refine RD.getR (pc := 1) dX5_cellInstruction_1 flX5_33 (ok2 hi) rfl rfl ?_
  refine RD.iload_n (pc := 4) dX5_cellInstruction_4 rfl ?_
  refine RD.iL (pc := 5) q (v := D (3, i, 0) q) rfl dX5_cellInstruction_5 (ok3 hi) rfl rfl hq (by decide) ?_
  refine RD.istore_n (pc := 6) (ls' := [some (rR (2, i, 0)), some (rI 2), some (rI (nI q)), some (rI (D (3, i, 0) q))]) dX5_cellInstruction_6 (by decide) rfl ?_
  refine RD.iload_n (pc := 7) dX5_cellInstruction_7 rfl ?_
  refine RD.tableIn (pc := 8) 80 dX5_cellInstruction_8 (by decide) (by decide) rfl (by decide) ?_
  refine RD.aload_n (pc := 80) dX5_cellInstruction_80 rfl ?_
  refine RD.getR (pc := 81) dX5_cellInstruction_81 flX5_33 (ok2 hi) rfl rfl ?_
  refine RD.iload_n (pc := 84) dX5_cellInstruction_84 rfl ?_
  refine RD.aload_n (pc := 85) dX5_cellInstruction_85 rfl ?_
  refine RD.gI (pc := 86) (v := D (2, i, 0) 2) rfl dX5_cellInstruction_86 flX5_108 (ok2 hi) rfl rfl ?_
  refine RD.iast (pc := 89) q dX5_cellInstruction_89 (ok3 hi) rfl rfl hq (by decide) ?_
  refine RD.goto (pc := 90) 181 dX5_cellInstruction_90 (by decide) ?_
  refine RD.ret (pc := 181) ⟨rfl, dX5_cellInstruction_181⟩ ?_
  exact ⟨rfl, rfl⟩

set_option maxRecDepth 20000 in
set_option maxHeartbeats 1000000 in
theorem c_cell6 (K : EK) (d : Nat) {i : Nat} (hi : i < 8) (D : DT) {q : Nat} (hq : q < 128) : CF K mX5_cellInstruction (d + 2) [rR (2, i, 0), rI 6, rI (nI q)] D (none) (up D (2, i, 0) 2 (D (2, i, 0) 2 + D (3, i, 0) q)) := by
  refine CF.of [some (rR (2, i, 0)), some (rI 6), some (rI (nI q)), none] (by decide) (leb rfl) rfl ?_
  refine RD.aload_n (pc := 0) dX5_cellInstruction_0 rfl ?_
  refine RD.getR (pc := 1) dX5_cellInstruction_1 flX5_33 (ok2 hi) rfl rfl ?_
  refine RD.iload_n (pc := 4) dX5_cellInstruction_4 rfl ?_
  refine RD.iL (pc := 5) q (v := D (3, i, 0) q) rfl dX5_cellInstruction_5 (ok3 hi) rfl rfl hq (by decide) ?_
  refine RD.istore_n (pc := 6) (ls' := [some (rR (2, i, 0)), some (rI 6), some (rI (nI q)), some (rI (D (3, i, 0) q))]) dX5_cellInstruction_6 (by decide) rfl ?_
  refine RD.iload_n (pc := 7) dX5_cellInstruction_7 rfl ?_
  refine RD.tableIn (pc := 8) 102 dX5_cellInstruction_8 (by decide) (by decide) rfl (by decide) ?_
  refine RD.aload_n (pc := 102) dX5_cellInstruction_102 rfl ?_
  refine RD.aload_n (pc := 103) dX5_cellInstruction_103 rfl ?_
  refine RD.gI (pc := 104) (v := D (2, i, 0) 2) rfl dX5_cellInstruction_104 flX5_108 (ok2 hi) rfl rfl ?_
  refine RD.iload_n (pc := 107) dX5_cellInstruction_107 rfl ?_
  refine RD.iadd (pc := 108) dX5_cellInstruction_108 ?_
  refine RD.putf (pc := 109) dX5_cellInstruction_109 fpX5_108 (ok2 hi) rfl rfl rfl rfl ?_
  refine RD.goto (pc := 112) 181 dX5_cellInstruction_112 (by decide) ?_
  refine RD.ret (pc := 181) ⟨rfl, dX5_cellInstruction_181⟩ ?_
  exact ⟨rfl, rfl⟩

set_option maxRecDepth 20000 in
set_option maxHeartbeats 1000000 in
theorem c_cell7 (K : EK) (d : Nat) {i : Nat} (hi : i < 8) (D : DT) {q : Nat} (hq : q < 128) : CF K mX5_cellInstruction (d + 2) [rR (2, i, 0), rI 7, rI (nI q)] D (none) (up D (2, i, 0) 2 (D (2, i, 0) 2 - D (3, i, 0) q)) := by
  refine CF.of [some (rR (2, i, 0)), some (rI 7), some (rI (nI q)), none] (by decide) (leb rfl) rfl ?_
  refine RD.aload_n (pc := 0) dX5_cellInstruction_0 rfl ?_
  refine RD.getR (pc := 1) dX5_cellInstruction_1 flX5_33 (ok2 hi) rfl rfl ?_
  refine RD.iload_n (pc := 4) dX5_cellInstruction_4 rfl ?_
  refine RD.iL (pc := 5) q (v := D (3, i, 0) q) rfl dX5_cellInstruction_5 (ok3 hi) rfl rfl hq (by decide) ?_
  refine RD.istore_n (pc := 6) (ls' := [some (rR (2, i, 0)), some (rI 7), some (rI (nI q)), some (rI (D (3, i, 0) q))]) dX5_cellInstruction_6 (by decide) rfl ?_
  refine RD.iload_n (pc := 7) dX5_cellInstruction_7 rfl ?_
  refine RD.tableIn (pc := 8) 115 dX5_cellInstruction_8 (by decide) (by decide) rfl (by decide) ?_
  refine RD.aload_n (pc := 115) dX5_cellInstruction_115 rfl ?_
  refine RD.aload_n (pc := 116) dX5_cellInstruction_116 rfl ?_
  refine RD.gI (pc := 117) (v := D (2, i, 0) 2) rfl dX5_cellInstruction_117 flX5_108 (ok2 hi) rfl rfl ?_
  refine RD.iload_n (pc := 120) dX5_cellInstruction_120 rfl ?_
  refine RD.isub (pc := 121) dX5_cellInstruction_121 ?_
  refine RD.putf (pc := 122) dX5_cellInstruction_122 fpX5_108 (ok2 hi) rfl rfl rfl rfl ?_
  refine RD.goto (pc := 125) 181 dX5_cellInstruction_125 (by decide) ?_
  refine RD.ret (pc := 181) ⟨rfl, dX5_cellInstruction_181⟩ ?_
  exact ⟨rfl, rfl⟩

set_option maxRecDepth 20000 in
set_option maxHeartbeats 1000000 in
theorem c_cell8 (K : EK) (d : Nat) {i : Nat} (hi : i < 8) (D : DT) {q : Nat} (hq : q < 128) : CF K mX5_cellInstruction (d + 2) [rR (2, i, 0), rI 8, rI (nI q)] D (none) (up D (2, i, 0) 2 (D (2, i, 0) 2 * D (3, i, 0) q)) := by
  refine CF.of [some (rR (2, i, 0)), some (rI 8), some (rI (nI q)), none] (by decide) (leb rfl) rfl ?_
  refine RD.aload_n (pc := 0) dX5_cellInstruction_0 rfl ?_
  refine RD.getR (pc := 1) dX5_cellInstruction_1 flX5_33 (ok2 hi) rfl rfl ?_
  refine RD.iload_n (pc := 4) dX5_cellInstruction_4 rfl ?_
  refine RD.iL (pc := 5) q (v := D (3, i, 0) q) rfl dX5_cellInstruction_5 (ok3 hi) rfl rfl hq (by decide) ?_
  refine RD.istore_n (pc := 6) (ls' := [some (rR (2, i, 0)), some (rI 8), some (rI (nI q)), some (rI (D (3, i, 0) q))]) dX5_cellInstruction_6 (by decide) rfl ?_
  refine RD.iload_n (pc := 7) dX5_cellInstruction_7 rfl ?_
  refine RD.tableIn (pc := 8) 128 dX5_cellInstruction_8 (by decide) (by decide) rfl (by decide) ?_
  refine RD.aload_n (pc := 128) dX5_cellInstruction_128 rfl ?_
  refine RD.aload_n (pc := 129) dX5_cellInstruction_129 rfl ?_
  refine RD.gI (pc := 130) (v := D (2, i, 0) 2) rfl dX5_cellInstruction_130 flX5_108 (ok2 hi) rfl rfl ?_
  refine RD.iload_n (pc := 133) dX5_cellInstruction_133 rfl ?_
  refine RD.imul (pc := 134) dX5_cellInstruction_134 ?_
  refine RD.putf (pc := 135) dX5_cellInstruction_135 fpX5_108 (ok2 hi) rfl rfl rfl rfl ?_
  refine RD.goto (pc := 138) 181 dX5_cellInstruction_138 (by decide) ?_
  refine RD.ret (pc := 181) ⟨rfl, dX5_cellInstruction_181⟩ ?_
  exact ⟨rfl, rfl⟩

set_option maxRecDepth 20000 in
set_option maxHeartbeats 1000000 in
theorem c_cell11 (K : EK) (d : Nat) {i : Nat} (hi : i < 8) (D : DT) {q : Nat} (hq : q < 128) : CF K mX5_cellInstruction (d + 2) [rR (2, i, 0), rI 11, rI (nI q)] D (none) (up D (2, i, 0) 2 (D (2, i, 0) 2 &&& D (3, i, 0) q)) := by
  refine CF.of [some (rR (2, i, 0)), some (rI 11), some (rI (nI q)), none] (by decide) (leb rfl) rfl ?_
  refine RD.aload_n (pc := 0) dX5_cellInstruction_0 rfl ?_
  refine RD.getR (pc := 1) dX5_cellInstruction_1 flX5_33 (ok2 hi) rfl rfl ?_
  refine RD.iload_n (pc := 4) dX5_cellInstruction_4 rfl ?_
  refine RD.iL (pc := 5) q (v := D (3, i, 0) q) rfl dX5_cellInstruction_5 (ok3 hi) rfl rfl hq (by decide) ?_
  refine RD.istore_n (pc := 6) (ls' := [some (rR (2, i, 0)), some (rI 11), some (rI (nI q)), some (rI (D (3, i, 0) q))]) dX5_cellInstruction_6 (by decide) rfl ?_
  refine RD.iload_n (pc := 7) dX5_cellInstruction_7 rfl ?_
  refine RD.tableIn (pc := 8) 150 dX5_cellInstruction_8 (by decide) (by decide) rfl (by decide) ?_
  refine RD.aload_n (pc := 150) dX5_cellInstruction_150 rfl ?_
  refine RD.aload_n (pc := 151) dX5_cellInstruction_151 rfl ?_
  refine RD.gI (pc := 152) (v := D (2, i, 0) 2) rfl dX5_cellInstruction_152 flX5_108 (ok2 hi) rfl rfl ?_
  refine RD.iload_n (pc := 155) dX5_cellInstruction_155 rfl ?_
  refine RD.iand (pc := 156) dX5_cellInstruction_156 ?_
  refine RD.putf (pc := 157) dX5_cellInstruction_157 fpX5_108 (ok2 hi) rfl rfl rfl rfl ?_
  refine RD.goto (pc := 160) 181 dX5_cellInstruction_160 (by decide) ?_
  refine RD.ret (pc := 181) ⟨rfl, dX5_cellInstruction_181⟩ ?_
  exact ⟨rfl, rfl⟩

set_option maxRecDepth 20000 in
set_option maxHeartbeats 1000000 in
theorem c_cell12 (K : EK) (d : Nat) {i : Nat} (hi : i < 8) (D : DT) {q : Nat} (hq : q < 128) : CF K mX5_cellInstruction (d + 2) [rR (2, i, 0), rI 12, rI (nI q)] D (none) (up D (2, i, 0) 2 (D (2, i, 0) 2 ^^^ D (3, i, 0) q)) := by
  refine CF.of [some (rR (2, i, 0)), some (rI 12), some (rI (nI q)), none] (by decide) (leb rfl) rfl ?_
  refine RD.aload_n (pc := 0) dX5_cellInstruction_0 rfl ?_
  refine RD.getR (pc := 1) dX5_cellInstruction_1 flX5_33 (ok2 hi) rfl rfl ?_
  refine RD.iload_n (pc := 4) dX5_cellInstruction_4 rfl ?_
  refine RD.iL (pc := 5) q (v := D (3, i, 0) q) rfl dX5_cellInstruction_5 (ok3 hi) rfl rfl hq (by decide) ?_
  refine RD.istore_n (pc := 6) (ls' := [some (rR (2, i, 0)), some (rI 12), some (rI (nI q)), some (rI (D (3, i, 0) q))]) dX5_cellInstruction_6 (by decide) rfl ?_
  refine RD.iload_n (pc := 7) dX5_cellInstruction_7 rfl ?_
  refine RD.tableIn (pc := 8) 163 dX5_cellInstruction_8 (by decide) (by decide) rfl (by decide) ?_
  refine RD.aload_n (pc := 163) dX5_cellInstruction_163 rfl ?_
  refine RD.aload_n (pc := 164) dX5_cellInstruction_164 rfl ?_
  refine RD.gI (pc := 165) (v := D (2, i, 0) 2) rfl dX5_cellInstruction_165 flX5_108 (ok2 hi) rfl rfl ?_
  refine RD.iload_n (pc := 168) dX5_cellInstruction_168 rfl ?_
  refine RD.ixor (pc := 169) dX5_cellInstruction_169 ?_
  refine RD.putf (pc := 170) dX5_cellInstruction_170 fpX5_108 (ok2 hi) rfl rfl rfl rfl ?_
  refine RD.goto (pc := 173) 181 dX5_cellInstruction_173 (by decide) ?_
  refine RD.ret (pc := 181) ⟨rfl, dX5_cellInstruction_181⟩ ?_
  exact ⟨rfl, rfl⟩

set_option maxRecDepth 20000 in
set_option maxHeartbeats 1000000 in
theorem c_cell4N (K : EK) (d : Nat) {i : Nat} (hi : i < 8) (D : DT) {q : Nat} (hq : q < 128) (h : inR (D (3, i, 0) q) 128 = false) : CF K mX5_cellInstruction (d + 2) [rR (2, i, 0), rI 4, rI (nI q)] D (none) (stopF D i 2) := by
  refine CF.of [some (rR (2, i, 0)), some (rI 4), some (rI (nI q)), none] (by decide) (leb rfl) rfl ?_
  refine RD.aload_n (pc := 0) dX5_cellInstruction_0 rfl ?_
  refine RD.getR (pc := 1) dX5_cellInstruction_1 flX5_33 (ok2 hi) rfl rfl ?_
  refine RD.iload_n (pc := 4) dX5_cellInstruction_4 rfl ?_
  refine RD.iL (pc := 5) q (v := D (3, i, 0) q) rfl dX5_cellInstruction_5 (ok3 hi) rfl rfl hq (by decide) ?_
  refine RD.istore_n (pc := 6) (ls' := [some (rR (2, i, 0)), some (rI 4), some (rI (nI q)), some (rI (D (3, i, 0) q))]) dX5_cellInstruction_6 (by decide) rfl ?_
  refine RD.iload_n (pc := 7) dX5_cellInstruction_7 rfl ?_
  refine RD.tableIn (pc := 8) 93 dX5_cellInstruction_8 (by decide) (by decide) rfl (by decide) ?_
  refine RD.aload_n (pc := 93) dX5_cellInstruction_93 rfl ?_
  refine RD.iload_n (pc := 94) dX5_cellInstruction_94 rfl ?_
  refine RD.iload_n (pc := 95) dX5_cellInstruction_95 rfl ?_
  refine RD.cS3v (pc := 96) dX5_cellInstruction_96 mlX5_168 (c_indirectN K _ hi D 4 _ h) (leb rfl) ?_
  refine RD.goto (pc := 99) 181 dX5_cellInstruction_99 (by decide) ?_
  refine RD.ret (pc := 181) ⟨rfl, dX5_cellInstruction_181⟩ ?_
  exact ⟨rfl, rfl⟩

set_option maxRecDepth 20000 in
set_option maxHeartbeats 1000000 in
theorem c_cell4 (K : EK) (d : Nat) {i : Nat} (hi : i < 8) (D : DT) {q : Nat} (hq : q < 128) {e : Nat} (he : e < 128) (h : D (3, i, 0) q = nI e) : CF K mX5_cellInstruction (d + 2) [rR (2, i, 0), rI 4, rI (nI q)] D (none) (up D (2, i, 0) 2 (D (3, i, 0) e)) := by
  refine CF.of [some (rR (2, i, 0)), some (rI 4), some (rI (nI q)), none] (by decide) (leb rfl) rfl ?_
  refine RD.aload_n (pc := 0) dX5_cellInstruction_0 rfl ?_
  refine RD.getR (pc := 1) dX5_cellInstruction_1 flX5_33 (ok2 hi) rfl rfl ?_
  refine RD.iload_n (pc := 4) dX5_cellInstruction_4 rfl ?_
  refine RD.iL (pc := 5) q (v := D (3, i, 0) q) rfl dX5_cellInstruction_5 (ok3 hi) rfl rfl hq (by decide) ?_
  refine RD.istore_n (pc := 6) (ls' := [some (rR (2, i, 0)), some (rI 4), some (rI (nI q)), some (rI (D (3, i, 0) q))]) dX5_cellInstruction_6 (by decide) rfl ?_
  refine RD.iload_n (pc := 7) dX5_cellInstruction_7 rfl ?_
  refine RD.tableIn (pc := 8) 93 dX5_cellInstruction_8 (by decide) (by decide) rfl (by decide) ?_
  refine RD.aload_n (pc := 93) dX5_cellInstruction_93 rfl ?_
  refine RD.iload_n (pc := 94) dX5_cellInstruction_94 rfl ?_
  refine RD.iload_n (pc := 95) dX5_cellInstruction_95 rfl ?_
  refine RD.cS3v (pc := 96) dX5_cellInstruction_96 mlX5_168 (by rw [h]; exact c_indirect4 K _ hi D he) (leb rfl) ?_
  refine RD.goto (pc := 99) 181 dX5_cellInstruction_99 (by decide) ?_
  refine RD.ret (pc := 181) ⟨rfl, dX5_cellInstruction_181⟩ ?_
  exact ⟨rfl, rfl⟩

set_option maxRecDepth 20000 in
set_option maxHeartbeats 1000000 in
theorem c_cell5N (K : EK) (d : Nat) {i : Nat} (hi : i < 8) (D : DT) {q : Nat} (hq : q < 128) (h : inR (D (3, i, 0) q) 128 = false) : CF K mX5_cellInstruction (d + 2) [rR (2, i, 0), rI 5, rI (nI q)] D (none) (stopF D i 2) := by
  refine CF.of [some (rR (2, i, 0)), some (rI 5), some (rI (nI q)), none] (by decide) (leb rfl) rfl ?_
  refine RD.aload_n (pc := 0) dX5_cellInstruction_0 rfl ?_
  refine RD.getR (pc := 1) dX5_cellInstruction_1 flX5_33 (ok2 hi) rfl rfl ?_
  refine RD.iload_n (pc := 4) dX5_cellInstruction_4 rfl ?_
  refine RD.iL (pc := 5) q (v := D (3, i, 0) q) rfl dX5_cellInstruction_5 (ok3 hi) rfl rfl hq (by decide) ?_
  refine RD.istore_n (pc := 6) (ls' := [some (rR (2, i, 0)), some (rI 5), some (rI (nI q)), some (rI (D (3, i, 0) q))]) dX5_cellInstruction_6 (by decide) rfl ?_
  refine RD.iload_n (pc := 7) dX5_cellInstruction_7 rfl ?_
  refine RD.tableIn (pc := 8) 93 dX5_cellInstruction_8 (by decide) (by decide) rfl (by decide) ?_
  refine RD.aload_n (pc := 93) dX5_cellInstruction_93 rfl ?_
  refine RD.iload_n (pc := 94) dX5_cellInstruction_94 rfl ?_
  refine RD.iload_n (pc := 95) dX5_cellInstruction_95 rfl ?_
  refine RD.cS3v (pc := 96) dX5_cellInstruction_96 mlX5_168 (c_indirectN K _ hi D 5 _ h) (leb rfl) ?_
  refine RD.goto (pc := 99) 181 dX5_cellInstruction_99 (by decide) ?_
  refine RD.ret (pc := 181) ⟨rfl, dX5_cellInstruction_181⟩ ?_
  exact ⟨rfl, rfl⟩

set_option maxRecDepth 20000 in
set_option maxHeartbeats 1000000 in
theorem c_cell5 (K : EK) (d : Nat) {i : Nat} (hi : i < 8) (D : DT) {q : Nat} (hq : q < 128) {e : Nat} (he : e < 128) (h : D (3, i, 0) q = nI e) : CF K mX5_cellInstruction (d + 2) [rR (2, i, 0), rI 5, rI (nI q)] D (none) (up D (3, i, 0) e (D (2, i, 0) 2)) := by
  refine CF.of [some (rR (2, i, 0)), some (rI 5), some (rI (nI q)), none] (by decide) (leb rfl) rfl ?_
  refine RD.aload_n (pc := 0) dX5_cellInstruction_0 rfl ?_
  refine RD.getR (pc := 1) dX5_cellInstruction_1 flX5_33 (ok2 hi) rfl rfl ?_
  refine RD.iload_n (pc := 4) dX5_cellInstruction_4 rfl ?_
  refine RD.iL (pc := 5) q (v := D (3, i, 0) q) rfl dX5_cellInstruction_5 (ok3 hi) rfl rfl hq (by decide) ?_
  refine RD.istore_n (pc := 6) (ls' := [some (rR (2, i, 0)), some (rI 5), some (rI (nI q)), some (rI (D (3, i, 0) q))]) dX5_cellInstruction_6 (by decide) rfl ?_
  refine RD.iload_n (pc := 7) dX5_cellInstruction_7 rfl ?_
  refine RD.tableIn (pc := 8) 93 dX5_cellInstruction_8 (by decide) (by decide) rfl (by decide) ?_
  refine RD.aload_n (pc := 93) dX5_cellInstruction_93 rfl ?_
  refine RD.iload_n (pc := 94) dX5_cellInstruction_94 rfl ?_
  refine RD.iload_n (pc := 95) dX5_cellInstruction_95 rfl ?_
  refine RD.cS3v (pc := 96) dX5_cellInstruction_96 mlX5_168 (by rw [h]; exact c_indirect5 K _ hi D he) (leb rfl) ?_
  refine RD.goto (pc := 99) 181 dX5_cellInstruction_99 (by decide) ?_
  refine RD.ret (pc := 181) ⟨rfl, dX5_cellInstruction_181⟩ ?_
  exact ⟨rfl, rfl⟩

set_option maxRecDepth 20000 in
set_option maxHeartbeats 1000000 in
theorem c_cell9N (K : EK) (d : Nat) {i : Nat} (hi : i < 8) (D : DT) {q : Nat} (hq : q < 128) (h : D (3, i, 0) q = 0) : CF K mX5_cellInstruction (d + 2) [rR (2, i, 0), rI 9, rI (nI q)] D (none) (stopF D i 3) := by
  refine CF.of [some (rR (2, i, 0)), some (rI 9), some (rI (nI q)), none] (by decide) (leb rfl) rfl ?_
  refine RD.aload_n (pc := 0) dX5_cellInstruction_0 rfl ?_
  refine RD.getR (pc := 1) dX5_cellInstruction_1 flX5_33 (ok2 hi) rfl rfl ?_
  refine RD.iload_n (pc := 4) dX5_cellInstruction_4 rfl ?_
  refine RD.iL (pc := 5) q (v := D (3, i, 0) q) rfl dX5_cellInstruction_5 (ok3 hi) rfl rfl hq (by decide) ?_
  refine RD.istore_n (pc := 6) (ls' := [some (rR (2, i, 0)), some (rI 9), some (rI (nI q)), some (rI (D (3, i, 0) q))]) dX5_cellInstruction_6 (by decide) rfl ?_
  refine RD.iload_n (pc := 7) dX5_cellInstruction_7 rfl ?_
  refine RD.tableIn (pc := 8) 141 dX5_cellInstruction_8 (by decide) (by decide) rfl (by decide) ?_
  refine RD.aload_n (pc := 141) dX5_cellInstruction_141 rfl ?_
  refine RD.iload_n (pc := 142) dX5_cellInstruction_142 rfl ?_
  refine RD.iload_n (pc := 143) dX5_cellInstruction_143 rfl ?_
  refine RD.cS3v (pc := 144) dX5_cellInstruction_144 mlX5_171 (by rw [h]; exact c_divideN K _ hi D 9) (leb rfl) ?_
  refine RD.goto (pc := 147) 181 dX5_cellInstruction_147 (by decide) ?_
  refine RD.ret (pc := 181) ⟨rfl, dX5_cellInstruction_181⟩ ?_
  exact ⟨rfl, rfl⟩

set_option maxRecDepth 20000 in
set_option maxHeartbeats 1000000 in
theorem c_cell9 (K : EK) (d : Nat) {i : Nat} (hi : i < 8) (D : DT) {q : Nat} (hq : q < 128) (h : ¬ D (3, i, 0) q = 0) : CF K mX5_cellInstruction (d + 2) [rR (2, i, 0), rI 9, rI (nI q)] D (none) (up D (2, i, 0) 2 (D (2, i, 0) 2 / D (3, i, 0) q)) := by
  refine CF.of [some (rR (2, i, 0)), some (rI 9), some (rI (nI q)), none] (by decide) (leb rfl) rfl ?_
  refine RD.aload_n (pc := 0) dX5_cellInstruction_0 rfl ?_
  refine RD.getR (pc := 1) dX5_cellInstruction_1 flX5_33 (ok2 hi) rfl rfl ?_
  refine RD.iload_n (pc := 4) dX5_cellInstruction_4 rfl ?_
  refine RD.iL (pc := 5) q (v := D (3, i, 0) q) rfl dX5_cellInstruction_5 (ok3 hi) rfl rfl hq (by decide) ?_
  refine RD.istore_n (pc := 6) (ls' := [some (rR (2, i, 0)), some (rI 9), some (rI (nI q)), some (rI (D (3, i, 0) q))]) dX5_cellInstruction_6 (by decide) rfl ?_
  refine RD.iload_n (pc := 7) dX5_cellInstruction_7 rfl ?_
  refine RD.tableIn (pc := 8) 141 dX5_cellInstruction_8 (by decide) (by decide) rfl (by decide) ?_
  refine RD.aload_n (pc := 141) dX5_cellInstruction_141 rfl ?_
  refine RD.iload_n (pc := 142) dX5_cellInstruction_142 rfl ?_
  refine RD.iload_n (pc := 143) dX5_cellInstruction_143 rfl ?_
  refine RD.cS3v (pc := 144) dX5_cellInstruction_144 mlX5_171 (c_divide9 K _ hi D _ h) (leb rfl) ?_
  refine RD.goto (pc := 147) 181 dX5_cellInstruction_147 (by decide) ?_
  refine RD.ret (pc := 181) ⟨rfl, dX5_cellInstruction_181⟩ ?_
  exact ⟨rfl, rfl⟩

set_option maxRecDepth 20000 in
set_option maxHeartbeats 1000000 in
theorem c_cell10N (K : EK) (d : Nat) {i : Nat} (hi : i < 8) (D : DT) {q : Nat} (hq : q < 128) (h : D (3, i, 0) q = 0) : CF K mX5_cellInstruction (d + 2) [rR (2, i, 0), rI 10, rI (nI q)] D (none) (stopF D i 3) := by
  refine CF.of [some (rR (2, i, 0)), some (rI 10), some (rI (nI q)), none] (by decide) (leb rfl) rfl ?_
  refine RD.aload_n (pc := 0) dX5_cellInstruction_0 rfl ?_
  refine RD.getR (pc := 1) dX5_cellInstruction_1 flX5_33 (ok2 hi) rfl rfl ?_
  refine RD.iload_n (pc := 4) dX5_cellInstruction_4 rfl ?_
  refine RD.iL (pc := 5) q (v := D (3, i, 0) q) rfl dX5_cellInstruction_5 (ok3 hi) rfl rfl hq (by decide) ?_
  refine RD.istore_n (pc := 6) (ls' := [some (rR (2, i, 0)), some (rI 10), some (rI (nI q)), some (rI (D (3, i, 0) q))]) dX5_cellInstruction_6 (by decide) rfl ?_
  refine RD.iload_n (pc := 7) dX5_cellInstruction_7 rfl ?_
  refine RD.tableIn (pc := 8) 141 dX5_cellInstruction_8 (by decide) (by decide) rfl (by decide) ?_
  refine RD.aload_n (pc := 141) dX5_cellInstruction_141 rfl ?_
  refine RD.iload_n (pc := 142) dX5_cellInstruction_142 rfl ?_
  refine RD.iload_n (pc := 143) dX5_cellInstruction_143 rfl ?_
  refine RD.cS3v (pc := 144) dX5_cellInstruction_144 mlX5_171 (by rw [h]; exact c_divideN K _ hi D 10) (leb rfl) ?_
  refine RD.goto (pc := 147) 181 dX5_cellInstruction_147 (by decide) ?_
  refine RD.ret (pc := 181) ⟨rfl, dX5_cellInstruction_181⟩ ?_
  exact ⟨rfl, rfl⟩

set_option maxRecDepth 20000 in
set_option maxHeartbeats 1000000 in
theorem c_cell10 (K : EK) (d : Nat) {i : Nat} (hi : i < 8) (D : DT) {q : Nat} (hq : q < 128) (h : ¬ D (3, i, 0) q = 0) : CF K mX5_cellInstruction (d + 2) [rR (2, i, 0), rI 10, rI (nI q)] D (none) (up D (2, i, 0) 2 (D (2, i, 0) 2 - D (2, i, 0) 2 / D (3, i, 0) q * D (3, i, 0) q)) := by
  refine CF.of [some (rR (2, i, 0)), some (rI 10), some (rI (nI q)), none] (by decide) (leb rfl) rfl ?_
  refine RD.aload_n (pc := 0) dX5_cellInstruction_0 rfl ?_
  refine RD.getR (pc := 1) dX5_cellInstruction_1 flX5_33 (ok2 hi) rfl rfl ?_
  refine RD.iload_n (pc := 4) dX5_cellInstruction_4 rfl ?_
  refine RD.iL (pc := 5) q (v := D (3, i, 0) q) rfl dX5_cellInstruction_5 (ok3 hi) rfl rfl hq (by decide) ?_
  refine RD.istore_n (pc := 6) (ls' := [some (rR (2, i, 0)), some (rI 10), some (rI (nI q)), some (rI (D (3, i, 0) q))]) dX5_cellInstruction_6 (by decide) rfl ?_
  refine RD.iload_n (pc := 7) dX5_cellInstruction_7 rfl ?_
  refine RD.tableIn (pc := 8) 141 dX5_cellInstruction_8 (by decide) (by decide) rfl (by decide) ?_
  refine RD.aload_n (pc := 141) dX5_cellInstruction_141 rfl ?_
  refine RD.iload_n (pc := 142) dX5_cellInstruction_142 rfl ?_
  refine RD.iload_n (pc := 143) dX5_cellInstruction_143 rfl ?_
  refine RD.cS3v (pc := 144) dX5_cellInstruction_144 mlX5_171 (c_divide10 K _ hi D _ h) (leb rfl) ?_
  refine RD.goto (pc := 147) 181 dX5_cellInstruction_147 (by decide) ?_
  refine RD.ret (pc := 181) ⟨rfl, dX5_cellInstruction_181⟩ ?_
  exact ⟨rfl, rfl⟩


/-- a LIST stands there -/
def rlOK (D : DT) (i : Nat) (a : Int32) : Prop := ∃ q w, q < 128 ∧ a = nI q ∧ D (3, i, 0) q = nI w ∧ w ≤ 16 ∧ q + w < 128
def rlN (D : DT) (i q : Nat) : Nat → DT
  | 0 => clrF D 8 0
  | k + 1 => addF (rlN D i q k) 8 0 (D (3, i, 0) (q + (k + 1)))
theorem rlN_o {D : DT} {i q k : Nat} {a : AD} (h4 : a.1 ≠ 4) (h5 : a.1 ≠ 5) : rlN D i q k a = D a := by
  induction k with
  | zero => exact clrF_o h4 h5
  | succ k ih => rw [rlN, addF_o h4 h5, ih]

set_option maxRecDepth 20000 in
set_option maxHeartbeats 2000000 in
theorem l_readList (K : EK) (d : Nat) {i : Nat} (hi : i < 8) (D : DT) {q w : Nat} (hq : q < 128) (hw : w ≤ 16) (hqw : q + w < 128) : ∀ n k, k ≤ w → w + 1 ≤ k + n → RD K mX5_readList (d + 2) 47 [some (rR (0, 0, 0)), some (rR (2, i, 0)), some (rI (nI q)), some (rI (nI w)), some (rI (nI (k + 1)))] [] (rlN D i q k) (fun r0 D0 => r0 = some (rI 1) ∧ D0 = rlN D i q w) := by
  intro n
  induction n with
  | zero => intro k h1 h2; omega
  | succ n ih =>
    intro k hk hn
    refine RD.iload (pc := 47) dX5_readList_47 rfl ?_
    refine RD.iload_n (pc := 49) dX5_readList_49 rfl ?_
    refine RD.icmp_gt (pc := 50) 75 dX5_readList_50 (by decide) (fun c50 => ?_) (fun c50 => ?_)
    · have hkw : k = w := by
        have := (not_congr (nI_leI (a := k + 1) (b := w) (by omega) (by omega))).mp (Int32.not_le.mpr c50)
        omega
      subst hkw
      refine RD.iconst (pc := 75) (v := 1) dX5_readList_75 (by decide) ?_
      refine RD.ireturn (pc := 76) dX5_readList_76 rfl rfl ?_
      exact ⟨rfl, rfl⟩
    · have hkw : k < w := Nat.lt_of_not_le (fun h => c50 (nI_lt (a := w) (b := k + 1) (by omega) (by omega)))
      refine RD.aload_n (pc := 53) dX5_readList_53 rfl ?_
      refine RD.getR (pc := 54) dX5_readList_54 flX5_21 ok0 rfl rfl ?_
      refine RD.aload_n (pc := 57) dX5_readList_57 rfl ?_
      refine RD.getR (pc := 58) dX5_readList_58 flX5_33 (ok2 hi) rfl rfl ?_
      refine RD.iload_n (pc := 61) dX5_readList_61 rfl ?_
      refine RD.iload (pc := 62) dX5_readList_62 rfl ?_
      refine RD.iadd (pc := 64) dX5_readList_64 ?_
      refine RD.iL (pc := 65) (q + (k + 1)) (v := D (3, i, 0) (q + (k + 1))) (congrFun (rlN_o (by simp) (by simp)) _) dX5_readList_65 (ok3 hi) rfl (nI_add q (k + 1)) (by omega) (by decide) ?_
      refine RD.cV1v (pc := 66) dX5_readList_66 mlX5_217 rfl ok4L rfl (c_add K _ ok4L (rlN D i q k) (D (3, i, 0) (q + (k + 1)))) (leb rfl) ?_
      refine RD.iinc (pc := 69) (ls' := [some (rR (0, 0, 0)), some (rR (2, i, 0)), some (rI (nI q)), some (rI (nI w)), some (rI ((nI (k + 1)) + 1))]) dX5_readList_69 rfl rfl (by decide) rfl ?_
      refine RD.goto (pc := 72) 47 dX5_readList_72 (by decide) ?_
      rw [nI_1]
      exact ih (k + 1) (by omega) (by omega)

set_option maxRecDepth 20000 in
set_option maxHeartbeats 1000000 in
theorem c_readList (K : EK) (d : Nat) {i : Nat} (hi : i < 8) (D : DT) {q w : Nat} (hq : q < 128) (hw : w ≤ 16) (hqw : q + w < 128) (hv : D (3, i, 0) q = nI w) : CF K mX5_readList (d + 2) [rR (0, 0, 0), rR (2, i, 0), rI (nI q)] D (some (rI 1)) (rlN D i q w) := by
  refine CF.of [some (rR (0, 0, 0)), some (rR (2, i, 0)), some (rI (nI q)), none, none] (by decide) (leb rfl) rfl ?_
  refine RD.iload_n (pc := 0) dX5_readList_0 rfl ?_
  refine RD.cS1 (pc := 1) dX5_readList_1 mlX5_102 (c_isPlace K _ D (nI q)) (leb rfl) ?_
  refine RD.if_ne (pc := 4) 9 dX5_readList_4 (by decide) (fun c4 => ?_) (fun c4 => absurd c4 (bIin (by decide) hq))
  refine RD.aload_n (pc := 9) dX5_readList_9 rfl ?_
  refine RD.getR (pc := 10) dX5_readList_10 flX5_33 (ok2 hi) rfl rfl ?_
  refine RD.iload_n (pc := 13) dX5_readList_13 rfl ?_
  refine RD.iL (pc := 14) q (v := nI w) hv dX5_readList_14 (ok3 hi) rfl rfl hq (by decide) ?_
  refine RD.istore_n (pc := 15) (ls' := [some (rR (0, 0, 0)), some (rR (2, i, 0)), some (rI (nI q)), some (rI (nI w)), none]) dX5_readList_15 (by decide) rfl ?_
  refine RD.iload_n (pc := 16) dX5_readList_16 rfl ?_
  refine RD.if_lt (pc := 17) 35 dX5_readList_17 (by decide) (fun c17 => absurd c17 (nI_pos (by omega))) (fun c17 => ?_)
  refine RD.iload_n (pc := 20) dX5_readList_20 rfl ?_
  refine RD.bipush (pc := 21) (v := 16) dX5_readList_21 (by decide) ?_
  refine RD.icmp_gt (pc := 23) 35 dX5_readList_23 (by decide) (fun c23 => absurd c23 (nI_nlt (a := 16) (b := w) hw (by decide))) (fun c23 => ?_)
  refine RD.iload_n (pc := 26) dX5_readList_26 rfl ?_
  refine RD.iload_n (pc := 27) dX5_readList_27 rfl ?_
  refine RD.iadd (pc := 28) dX5_readList_28 ?_
  refine RD.sipush (pc := 29) (v := 128) dX5_readList_29 (by decide) ?_
  refine RD.icmp_lt (pc := 32) 37 dX5_readList_32 (by decide) (fun c32 => ?_) (fun c32 => absurd (by rw [nI_add]; exact nI_lt (b := 128) hqw (by decide)) c32)
  refine RD.aload_n (pc := 37) dX5_readList_37 rfl ?_
  refine RD.getR (pc := 38) dX5_readList_38 flX5_21 ok0 rfl rfl ?_
  refine RD.cV0v (pc := 41) dX5_readList_41 mlX5_214 rfl ok4L rfl (c_clear K _ ok4L D) (leb rfl) ?_
  refine RD.iconst (pc := 44) (v := 1) dX5_readList_44 (by decide) ?_
  refine RD.istore (pc := 45) (ls' := [some (rR (0, 0, 0)), some (rR (2, i, 0)), some (rI (nI q)), some (rI (nI w)), some (rI 1)]) dX5_readList_45 (by decide) rfl ?_
  exact l_readList K d hi D hq hw hqw (w + 1) 0 (by omega) (by omega)

set_option maxRecDepth 20000 in
set_option maxHeartbeats 1000000 in
theorem c_readListN (K : EK) (d : Nat) {i : Nat} (hi : i < 8) (D : DT) (a : Int32) (h : ¬ rlOK D i a) : CF K mX5_readList (d + 2) [rR (0, 0, 0), rR (2, i, 0), rI a] D (some (rI 0)) D := by
  refine CF.of [some (rR (0, 0, 0)), some (rR (2, i, 0)), some (rI a), none, none] (by decide) (leb rfl) rfl ?_
  refine RD.iload_n (pc := 0) dX5_readList_0 rfl ?_
  refine RD.cS1 (pc := 1) dX5_readList_1 mlX5_102 (c_isPlace K _ D a) (leb rfl) ?_
  refine RD.if_ne (pc := 4) 9 dX5_readList_4 (by decide) (fun c4 => ?_) (fun c4 => ?_)
  · obtain ⟨q, hq, rfl⟩ := inR_t (N := 128) (by decide) (bI_1 c4)
    refine RD.aload_n (pc := 9) dX5_readList_9 rfl ?_
    refine RD.getR (pc := 10) dX5_readList_10 flX5_33 (ok2 hi) rfl rfl ?_
    refine RD.iload_n (pc := 13) dX5_readList_13 rfl ?_
    refine RD.iL (pc := 14) q (v := D (3, i, 0) q) rfl dX5_readList_14 (ok3 hi) rfl rfl hq (by decide) ?_
    refine RD.istore_n (pc := 15) (ls' := [some (rR (0, 0, 0)), some (rR (2, i, 0)), some (rI (nI q)), some (rI (D (3, i, 0) q)), none]) dX5_readList_15 (by decide) rfl ?_
    refine RD.iload_n (pc := 16) dX5_readList_16 rfl ?_
    refine RD.if_lt (pc := 17) 35 dX5_readList_17 (by decide) (fun c17 => ?_) (fun c17 => ?_)
    · refine RD.iconst (pc := 35) (v := 0) dX5_readList_35 (by decide) ?_
      refine RD.ireturn (pc := 36) dX5_readList_36 rfl rfl ?_
      exact ⟨rfl, rfl⟩
    · refine RD.iload_n (pc := 20) dX5_readList_20 rfl ?_
      refine RD.bipush (pc := 21) (v := 16) dX5_readList_21 (by decide) ?_
      refine RD.icmp_gt (pc := 23) 35 dX5_readList_23 (by decide) (fun c23 => ?_) (fun c23 => ?_)
      · refine RD.iconst (pc := 35) (v := 0) dX5_readList_35 (by decide) ?_
        refine RD.ireturn (pc := 36) dX5_readList_36 rfl rfl ?_
        exact ⟨rfl, rfl⟩
      · refine RD.iload_n (pc := 26) dX5_readList_26 rfl ?_
        refine RD.iload_n (pc := 27) dX5_readList_27 rfl ?_
        refine RD.iadd (pc := 28) dX5_readList_28 ?_
        refine RD.sipush (pc := 29) (v := 128) dX5_readList_29 (by decide) ?_
        refine RD.icmp_lt (pc := 32) 37 dX5_readList_32 (by decide) (fun c32 => ?_) (fun c32 => ?_)
        · exfalso
          obtain ⟨w, hw, hv⟩ := nI_of2 (nI_toInt (n := 16) (by decide)) c17 (i32_nlt c23)
          refine h ⟨q, w, hq, rfl, hv, hw, ?_⟩
          rw [hv, nI_add] at c32
          exact (nI_ltI (b := 128) (by omega) (by decide)).mp c32
        · refine RD.iconst (pc := 35) (v := 0) dX5_readList_35 (by decide) ?_
          refine RD.ireturn (pc := 36) dX5_readList_36 rfl rfl ?_
          exact ⟨rfl, rfl⟩
  · refine RD.iconst (pc := 7) (v := 0) dX5_readList_7 (by decide) ?_
    refine RD.ireturn (pc := 8) dX5_readList_8 rfl rfl ?_
    exact ⟨rfl, rfl⟩

set_option maxRecDepth 20000 in
set_option maxHeartbeats 1000000 in
theorem c_send0 (K : EK) (d : Nat) {i : Nat} (hi : i < 8) (D : DT) (v kd : Int32) (t : Int32) (h : inR t 8 = false) : CF K mX5_send (d + 2) [rR (0, 0, 0), rR (2, i, 0), rI t, rI v, rI kd] D (some (rI 1)) D := by
  refine CF.of [some (rR (0, 0, 0)), some (rR (2, i, 0)), some (rI t), some (rI v), some (rI kd)] (by decide) (leb rfl) rfl ?_
  refine RD.iload_n (pc := 0) dX5_send_0 rfl ?_
  refine RD.cS1 (pc := 1) dX5_send_1 mlX5_29 (c_isSlot K _ D t) (leb rfl) ?_
  refine RD.if_eq (pc := 4) 43 dX5_send_4 (by decide) (fun c4 => ?_) (fun c4 => absurd (bIout h) c4)
  refine RD.iconst (pc := 43) (v := 1) dX5_send_43 (by decide) ?_
  refine RD.ireturn (pc := 44) dX5_send_44 rfl rfl ?_
  exact ⟨rfl, rfl⟩

set_option maxRecDepth 20000 in
set_option maxHeartbeats 1000000 in
theorem c_send1 (K : EK) (d : Nat) {i : Nat} (hi : i < 8) (D : DT) (v kd : Int32) {t : Nat} (ht : t < 8) (h : subB (D (5, i, 0)) (D (5, t, 0)) = false) : CF K mX5_send (d + 2) [rR (0, 0, 0), rR (2, i, 0), rI (nI t), rI v, rI kd] D (some (rI 1)) D := by
  refine CF.of [some (rR (0, 0, 0)), some (rR (2, i, 0)), some (rI (nI t)), some (rI v), some (rI kd)] (by decide) (leb rfl) rfl ?_
  refine RD.iload_n (pc := 0) dX5_send_0 rfl ?_
  refine RD.cS1 (pc := 1) dX5_send_1 mlX5_29 (c_isSlot K _ D (nI t)) (leb rfl) ?_
  refine RD.if_eq (pc := 4) 43 dX5_send_4 (by decide) (fun c4 => absurd c4 (bIin (by decide) ht)) (fun c4 => ?_)
  refine RD.aload_n (pc := 7) dX5_send_7 rfl ?_
  refine RD.getR (pc := 8) dX5_send_8 flX5_46 (ok2 hi) rfl rfl ?_
  refine RD.aload_n (pc := 11) dX5_send_11 rfl ?_
  refine RD.getR (pc := 12) dX5_send_12 flX5_11 ok0 rfl rfl ?_
  refine RD.iload_n (pc := 15) dX5_send_15 rfl ?_
  refine RD.aald (pc := 16) t dX5_send_16 ok1 rfl rfl rfl ht (by decide) ?_
  refine RD.getR (pc := 17) dX5_send_17 flX5_46 (ok2 ht) rfl rfl ?_
  refine RD.cV1 (pc := 20) dX5_send_20 mlX5_140 rfl (ok4 hi (by decide)) rfl (c_isIn K _ (ok4 hi (by decide)) (ok4 ht (by decide)) D) (leb rfl) ?_
  refine RD.if_eq (pc := 23) 43 dX5_send_23 (by decide) (fun c23 => ?_) (fun c23 => absurd (by rw [h]; rfl) c23)
  refine RD.iconst (pc := 43) (v := 1) dX5_send_43 (by decide) ?_
  refine RD.ireturn (pc := 44) dX5_send_44 rfl rfl ?_
  exact ⟨rfl, rfl⟩

set_option maxRecDepth 20000 in
set_option maxHeartbeats 1000000 in
theorem c_send2 (K : EK) (d : Nat) {i : Nat} (hi : i < 8) (D : DT) (v kd : Int32) {t : Nat} (ht : t < 8) (h : subB (D (5, i, 0)) (D (5, t, 0)) = true) {p z : Nat} (hp : p < 8) (hf : D (6, t, 0) 1 = nI p) (hz : D (6, t, 0) 2 = nI z) (hz8 : z = 8) : CF K mX5_send (d + 2) [rR (0, 0, 0), rR (2, i, 0), rI (nI t), rI v, rI kd] D (some (rI 1)) D := by
  refine CF.of [some (rR (0, 0, 0)), some (rR (2, i, 0)), some (rI (nI t)), some (rI v), some (rI kd)] (by decide) (leb rfl) rfl ?_
  refine RD.iload_n (pc := 0) dX5_send_0 rfl ?_
  refine RD.cS1 (pc := 1) dX5_send_1 mlX5_29 (c_isSlot K _ D (nI t)) (leb rfl) ?_
  refine RD.if_eq (pc := 4) 43 dX5_send_4 (by decide) (fun c4 => absurd c4 (bIin (by decide) ht)) (fun c4 => ?_)
  refine RD.aload_n (pc := 7) dX5_send_7 rfl ?_
  refine RD.getR (pc := 8) dX5_send_8 flX5_46 (ok2 hi) rfl rfl ?_
  refine RD.aload_n (pc := 11) dX5_send_11 rfl ?_
  refine RD.getR (pc := 12) dX5_send_12 flX5_11 ok0 rfl rfl ?_
  refine RD.iload_n (pc := 15) dX5_send_15 rfl ?_
  refine RD.aald (pc := 16) t dX5_send_16 ok1 rfl rfl rfl ht (by decide) ?_
  refine RD.getR (pc := 17) dX5_send_17 flX5_46 (ok2 ht) rfl rfl ?_
  refine RD.cV1 (pc := 20) dX5_send_20 mlX5_140 rfl (ok4 hi (by decide)) rfl (c_isIn K _ (ok4 hi (by decide)) (ok4 ht (by decide)) D) (leb rfl) ?_
  refine RD.if_eq (pc := 23) 43 dX5_send_23 (by decide) (fun c23 => absurd c23 (by rw [h]; decide)) (fun c23 => ?_)
  refine RD.aload_n (pc := 26) dX5_send_26 rfl ?_
  refine RD.getR (pc := 27) dX5_send_27 flX5_11 ok0 rfl rfl ?_
  refine RD.iload_n (pc := 30) dX5_send_30 rfl ?_
  refine RD.aald (pc := 31) t dX5_send_31 ok1 rfl rfl rfl ht (by decide) ?_
  refine RD.getR (pc := 32) dX5_send_32 flX5_81 (ok2 ht) rfl rfl ?_
  refine RD.aload_n (pc := 35) dX5_send_35 rfl ?_
  refine RD.iload_n (pc := 36) dX5_send_36 rfl ?_
  refine RD.iload (pc := 37) dX5_send_37 rfl ?_
  refine RD.cV3 (pc := 39) dX5_send_39 mlX5_85 rfl (ok6 ht) rfl (c_putFull K _ ht hi D v kd hp hf hz hz8) (leb rfl) ?_
  refine RD.pop (pc := 42) dX5_send_42 ?_
  refine RD.iconst (pc := 43) (v := 1) dX5_send_43 (by decide) ?_
  refine RD.ireturn (pc := 44) dX5_send_44 rfl rfl ?_
  exact ⟨rfl, rfl⟩

set_option maxRecDepth 20000 in
set_option maxHeartbeats 1000000 in
theorem c_send3 (K : EK) (d : Nat) {i : Nat} (hi : i < 8) (D : DT) (v kd : Int32) {t : Nat} (ht : t < 8) (h : subB (D (5, i, 0)) (D (5, t, 0)) = true) {p z : Nat} (hp : p < 8) (hf : D (6, t, 0) 1 = nI p) (hz : D (6, t, 0) 2 = nI z) (hz8 : z < 8) : CF K mX5_send (d + 2) [rR (0, 0, 0), rR (2, i, 0), rI (nI t), rI v, rI kd] D (some (rI 1)) (putF D t i v kd p z) := by
  refine CF.of [some (rR (0, 0, 0)), some (rR (2, i, 0)), some (rI (nI t)), some (rI v), some (rI kd)] (by decide) (leb rfl) rfl ?_
  refine RD.iload_n (pc := 0) dX5_send_0 rfl ?_
  refine RD.cS1 (pc := 1) dX5_send_1 mlX5_29 (c_isSlot K _ D (nI t)) (leb rfl) ?_
  refine RD.if_eq (pc := 4) 43 dX5_send_4 (by decide) (fun c4 => absurd c4 (bIin (by decide) ht)) (fun c4 => ?_)
  refine RD.aload_n (pc := 7) dX5_send_7 rfl ?_
  refine RD.getR (pc := 8) dX5_send_8 flX5_46 (ok2 hi) rfl rfl ?_
  refine RD.aload_n (pc := 11) dX5_send_11 rfl ?_
  refine RD.getR (pc := 12) dX5_send_12 flX5_11 ok0 rfl rfl ?_
  refine RD.iload_n (pc := 15) dX5_send_15 rfl ?_
  refine RD.aald (pc := 16) t dX5_send_16 ok1 rfl rfl rfl ht (by decide) ?_
  refine RD.getR (pc := 17) dX5_send_17 flX5_46 (ok2 ht) rfl rfl ?_
  refine RD.cV1 (pc := 20) dX5_send_20 mlX5_140 rfl (ok4 hi (by decide)) rfl (c_isIn K _ (ok4 hi (by decide)) (ok4 ht (by decide)) D) (leb rfl) ?_
  refine RD.if_eq (pc := 23) 43 dX5_send_23 (by decide) (fun c23 => absurd c23 (by rw [h]; decide)) (fun c23 => ?_)
  refine RD.aload_n (pc := 26) dX5_send_26 rfl ?_
  refine RD.getR (pc := 27) dX5_send_27 flX5_11 ok0 rfl rfl ?_
  refine RD.iload_n (pc := 30) dX5_send_30 rfl ?_
  refine RD.aald (pc := 31) t dX5_send_31 ok1 rfl rfl rfl ht (by decide) ?_
  refine RD.getR (pc := 32) dX5_send_32 flX5_81 (ok2 ht) rfl rfl ?_
  refine RD.aload_n (pc := 35) dX5_send_35 rfl ?_
  refine RD.iload_n (pc := 36) dX5_send_36 rfl ?_
  refine RD.iload (pc := 37) dX5_send_37 rfl ?_
  refine RD.cV3 (pc := 39) dX5_send_39 mlX5_85 rfl (ok6 ht) rfl (c_put K _ ht hi D v kd hp hf hz hz8) (leb rfl) ?_
  refine RD.pop (pc := 42) dX5_send_42 ?_
  refine RD.iconst (pc := 43) (v := 1) dX5_send_43 (by decide) ?_
  refine RD.ireturn (pc := 44) dX5_send_44 rfl rfl ?_
  exact ⟨rfl, rfl⟩

set_option maxRecDepth 20000 in
set_option maxHeartbeats 1000000 in
theorem c_passN0 (K : EK) (d : Nat) {i : Nat} (hi : i < 8) (D : DT) (to t : Int32) (h : hasF (D (5, i, 1)) t = false) : CF K mX5_pass (d + 3) [rR (0, 0, 0), rR (2, i, 0), rI to, rI t, rI 0] D (some (rI 0)) D := by
  refine CF.of [some (rR (0, 0, 0)), some (rR (2, i, 0)), some (rI to), some (rI t), some (rI 0), none] (by decide) (leb rfl) rfl ?_
  refine RD.iload (pc := 0) dX5_pass_0 rfl ?_
  refine RD.cS1 (pc := 2) dX5_pass_2 mlX5_220 (c_kindOf0 K _ D) (leb rfl) ?_
  refine RD.istore (pc := 5) (ls' := [some (rR (0, 0, 0)), some (rR (2, i, 0)), some (rI to), some (rI t), some (rI 0), some (rI 0)]) dX5_pass_5 (by decide) rfl ?_
  refine RD.aload_n (pc := 7) dX5_pass_7 rfl ?_
  refine RD.iload (pc := 8) dX5_pass_8 rfl ?_
  refine RD.cV1 (pc := 10) dX5_pass_10 mlX5_53 rfl (ok2 hi) rfl (c_cap0 K _ hi D) (leb rfl) ?_
  refine RD.iload_n (pc := 13) dX5_pass_13 rfl ?_
  refine RD.cV1 (pc := 14) dX5_pass_14 mlX5_223 rfl (ok4 hi (by decide)) rfl (c_has K _ (ok4 hi (by decide)) D t) (leb rfl) ?_
  refine RD.if_ne (pc := 17) 22 dX5_pass_17 (by decide) (fun c17 => absurd (by rw [h]; rfl) c17) (fun c17 => ?_)
  refine RD.iconst (pc := 20) (v := 0) dX5_pass_20 (by decide) ?_
  refine RD.ireturn (pc := 21) dX5_pass_21 rfl rfl ?_
  exact ⟨rfl, rfl⟩

set_option maxRecDepth 20000 in
set_option maxHeartbeats 1000000 in
theorem c_pass0 (K : EK) (d : Nat) {i : Nat} (hi : i < 8) (D : DT) (to t : Int32) (h : hasF (D (5, i, 1)) t = true) {D2 : DT} (hs : CF K mX5_send (d + 2) [rR (0, 0, 0), rR (2, i, 0), rI to, rI t, rI 0] D (some (rI 1)) D2) : CF K mX5_pass (d + 3) [rR (0, 0, 0), rR (2, i, 0), rI to, rI t, rI 0] D (some (rI 1)) D2 := by
  refine CF.of [some (rR (0, 0, 0)), some (rR (2, i, 0)), some (rI to), some (rI t), some (rI 0), none] (by decide) (leb rfl) rfl ?_
  refine RD.iload (pc := 0) dX5_pass_0 rfl ?_
  refine RD.cS1 (pc := 2) dX5_pass_2 mlX5_220 (c_kindOf0 K _ D) (leb rfl) ?_
  refine RD.istore (pc := 5) (ls' := [some (rR (0, 0, 0)), some (rR (2, i, 0)), some (rI to), some (rI t), some (rI 0), some (rI 0)]) dX5_pass_5 (by decide) rfl ?_
  refine RD.aload_n (pc := 7) dX5_pass_7 rfl ?_
  refine RD.iload (pc := 8) dX5_pass_8 rfl ?_
  refine RD.cV1 (pc := 10) dX5_pass_10 mlX5_53 rfl (ok2 hi) rfl (c_cap0 K _ hi D) (leb rfl) ?_
  refine RD.iload_n (pc := 13) dX5_pass_13 rfl ?_
  refine RD.cV1 (pc := 14) dX5_pass_14 mlX5_223 rfl (ok4 hi (by decide)) rfl (c_has K _ (ok4 hi (by decide)) D t) (leb rfl) ?_
  refine RD.if_ne (pc := 17) 22 dX5_pass_17 (by decide) (fun c17 => ?_) (fun c17 => absurd c17 (by rw [h]; decide))
  refine RD.aload_n (pc := 22) dX5_pass_22 rfl ?_
  refine RD.aload_n (pc := 23) dX5_pass_23 rfl ?_
  refine RD.iload_n (pc := 24) dX5_pass_24 rfl ?_
  refine RD.iload_n (pc := 25) dX5_pass_25 rfl ?_
  refine RD.iload (pc := 26) dX5_pass_26 rfl ?_
  refine RD.cV4 (pc := 28) dX5_pass_28 mlX5_188 rfl ok0 rfl hs (leb rfl) ?_
  refine RD.ireturn (pc := 31) dX5_pass_31 rfl rfl ?_
  exact ⟨rfl, rfl⟩

set_option maxRecDepth 20000 in
set_option maxHeartbeats 1000000 in
theorem c_passN1 (K : EK) (d : Nat) {i : Nat} (hi : i < 8) (D : DT) {c : Int32} (hc0 : ¬ c = 0) (to t : Int32) (h : hasF (D (5, i, 2)) t = false) : CF K mX5_pass (d + 3) [rR (0, 0, 0), rR (2, i, 0), rI to, rI t, rI c] D (some (rI 0)) D := by
  refine CF.of [some (rR (0, 0, 0)), some (rR (2, i, 0)), some (rI to), some (rI t), some (rI c), none] (by decide) (leb rfl) rfl ?_
  refine RD.iload (pc := 0) dX5_pass_0 rfl ?_
  refine RD.cS1 (pc := 2) dX5_pass_2 mlX5_220 (c_kindOf1 K _ D hc0) (leb rfl) ?_
  refine RD.istore (pc := 5) (ls' := [some (rR (0, 0, 0)), some (rR (2, i, 0)), some (rI to), some (rI t), some (rI c), some (rI 1)]) dX5_pass_5 (by decide) rfl ?_
  refine RD.aload_n (pc := 7) dX5_pass_7 rfl ?_
  refine RD.iload (pc := 8) dX5_pass_8 rfl ?_
  refine RD.cV1 (pc := 10) dX5_pass_10 mlX5_53 rfl (ok2 hi) rfl (c_cap1 K _ hi D (by decide)) (leb rfl) ?_
  refine RD.iload_n (pc := 13) dX5_pass_13 rfl ?_
  refine RD.cV1 (pc := 14) dX5_pass_14 mlX5_223 rfl (ok4 hi (by decide)) rfl (c_has K _ (ok4 hi (by decide)) D t) (leb rfl) ?_
  refine RD.if_ne (pc := 17) 22 dX5_pass_17 (by decide) (fun c17 => absurd (by rw [h]; rfl) c17) (fun c17 => ?_)
  refine RD.iconst (pc := 20) (v := 0) dX5_pass_20 (by decide) ?_
  refine RD.ireturn (pc := 21) dX5_pass_21 rfl rfl ?_
  exact ⟨rfl, rfl⟩

set_option maxRecDepth 20000 in
set_option maxHeartbeats 1000000 in
theorem c_pass1 (K : EK) (d : Nat) {i : Nat} (hi : i < 8) (D : DT) {c : Int32} (hc0 : ¬ c = 0) (to t : Int32) (h : hasF (D (5, i, 2)) t = true) {D2 : DT} (hs : CF K mX5_send (d + 2) [rR (0, 0, 0), rR (2, i, 0), rI to, rI t, rI 1] D (some (rI 1)) D2) : CF K mX5_pass (d + 3) [rR (0, 0, 0), rR (2, i, 0), rI to, rI t, rI c] D (some (rI 1)) D2 := by
  refine CF.of [some (rR (0, 0, 0)), some (rR (2, i, 0)), some (rI to), some (rI t), some (rI c), none] (by decide) (leb rfl) rfl ?_
  refine RD.iload (pc := 0) dX5_pass_0 rfl ?_
  refine RD.cS1 (pc := 2) dX5_pass_2 mlX5_220 (c_kindOf1 K _ D hc0) (leb rfl) ?_
  refine RD.istore (pc := 5) (ls' := [some (rR (0, 0, 0)), some (rR (2, i, 0)), some (rI to), some (rI t), some (rI c), some (rI 1)]) dX5_pass_5 (by decide) rfl ?_
  refine RD.aload_n (pc := 7) dX5_pass_7 rfl ?_
  refine RD.iload (pc := 8) dX5_pass_8 rfl ?_
  refine RD.cV1 (pc := 10) dX5_pass_10 mlX5_53 rfl (ok2 hi) rfl (c_cap1 K _ hi D (by decide)) (leb rfl) ?_
  refine RD.iload_n (pc := 13) dX5_pass_13 rfl ?_
  refine RD.cV1 (pc := 14) dX5_pass_14 mlX5_223 rfl (ok4 hi (by decide)) rfl (c_has K _ (ok4 hi (by decide)) D t) (leb rfl) ?_
  refine RD.if_ne (pc := 17) 22 dX5_pass_17 (by decide) (fun c17 => ?_) (fun c17 => absurd c17 (by rw [h]; decide))
  refine RD.aload_n (pc := 22) dX5_pass_22 rfl ?_
  refine RD.aload_n (pc := 23) dX5_pass_23 rfl ?_
  refine RD.iload_n (pc := 24) dX5_pass_24 rfl ?_
  refine RD.iload_n (pc := 25) dX5_pass_25 rfl ?_
  refine RD.iload (pc := 26) dX5_pass_26 rfl ?_
  refine RD.cV4 (pc := 28) dX5_pass_28 mlX5_188 rfl ok0 rfl hs (leb rfl) ?_
  refine RD.ireturn (pc := 31) dX5_pass_31 rfl rfl ?_
  exact ⟨rfl, rfl⟩

set_option maxRecDepth 20000 in
set_option maxHeartbeats 1000000 in
theorem c_readN (K : EK) (d : Nat) {i : Nat} (hi : i < 8) (D : DT) (k e : Int32) (h : fcB D k e = false) : CF K mX5_read (d + 2) [rR (0, 0, 0), rR (2, i, 0), rI k, rI e] D (some (rI 0)) D := by
  refine CF.of [some (rR (0, 0, 0)), some (rR (2, i, 0)), some (rI k), some (rI e)] (by decide) (leb rfl) rfl ?_
  refine RD.aload_n (pc := 0) dX5_read_0 rfl ?_
  refine RD.iload_n (pc := 1) dX5_read_1 rfl ?_
  refine RD.iload_n (pc := 2) dX5_read_2 rfl ?_
  refine RD.cV2 (pc := 3) dX5_read_3 mlX5_74 rfl ok0 rfl (c_isFileCell K _ D k e) (leb rfl) ?_
  refine RD.if_eq (pc := 6) 27 dX5_read_6 (by decide) (fun c6 => ?_) (fun c6 => absurd (by rw [h]; rfl) c6)
  refine RD.iconst (pc := 27) (v := 0) dX5_read_27 (by decide) ?_
  refine RD.ireturn (pc := 28) dX5_read_28 rfl rfl ?_
  exact ⟨rfl, rfl⟩

set_option maxRecDepth 20000 in
set_option maxHeartbeats 1000000 in
theorem c_read0 (K : EK) (d : Nat) {i : Nat} (hi : i < 8) (D : DT) {n e : Nat} (hn : n < 64) (he : e < 8) (h : thr D n = true) (h2 : subB (D (5, n / 8, 11 + n % 8)) (D (5, i, 0)) = false) : CF K mX5_read (d + 2) [rR (0, 0, 0), rR (2, i, 0), rI (nI n), rI (nI e)] D (some (rI 0)) D := by
  refine CF.of [some (rR (0, 0, 0)), some (rR (2, i, 0)), some (rI (nI n)), some (rI (nI e))] (by decide) (leb rfl) rfl ?_
  refine RD.aload_n (pc := 0) dX5_read_0 rfl ?_
  refine RD.iload_n (pc := 1) dX5_read_1 rfl ?_
  refine RD.iload_n (pc := 2) dX5_read_2 rfl ?_
  refine RD.cV2 (pc := 3) dX5_read_3 mlX5_74 rfl ok0 rfl (c_isFileCell K _ D (nI n) (nI e)) (leb rfl) ?_
  refine RD.if_eq (pc := 6) 27 dX5_read_6 (by decide) (fun c6 => absurd c6 (by rw [fcB_nI hn he, h]; decide)) (fun c6 => ?_)
  refine RD.aload_n (pc := 9) dX5_read_9 rfl ?_
  refine RD.iload_n (pc := 10) dX5_read_10 rfl ?_
  refine RD.cV1 (pc := 11) dX5_read_11 mlX5_60 rfl ok0 rfl (c_fileAt K _ D hn) (leb rfl) ?_
  refine RD.getR (pc := 14) dX5_read_14 flX5_70 (ok12 (by omega) (by omega)) rfl rfl ?_
  refine RD.aload_n (pc := 17) dX5_read_17 rfl ?_
  refine RD.getR (pc := 18) dX5_read_18 flX5_46 (ok2 hi) rfl rfl ?_
  refine RD.cV1 (pc := 21) dX5_read_21 mlX5_140 rfl (ok4 (by omega) (by omega)) rfl (c_isIn K _ (ok4 (by omega) (by omega)) (ok4 hi (by decide)) D) (leb rfl) ?_
  refine RD.if_ne (pc := 24) 29 dX5_read_24 (by decide) (fun c24 => absurd (by rw [h2]; rfl) c24) (fun c24 => ?_)
  refine RD.iconst (pc := 27) (v := 0) dX5_read_27 (by decide) ?_
  refine RD.ireturn (pc := 28) dX5_read_28 rfl rfl ?_
  exact ⟨rfl, rfl⟩

set_option maxRecDepth 20000 in
set_option maxHeartbeats 1000000 in
theorem c_read1 (K : EK) (d : Nat) {i : Nat} (hi : i < 8) (D : DT) {n e : Nat} (hn : n < 64) (he : e < 8) (h : thr D n = true) (h2 : subB (D (5, n / 8, 11 + n % 8)) (D (5, i, 0)) = true) : CF K mX5_read (d + 2) [rR (0, 0, 0), rR (2, i, 0), rI (nI n), rI (nI e)] D (some (rI 1)) (up D (3, i, 0) 120 (D (13, n / 8, n % 8) e)) := by
  refine CF.of [some (rR (0, 0, 0)), some (rR (2, i, 0)), some (rI (nI n)), some (rI (nI e))] (by decide) (leb rfl) rfl ?_
  refine RD.aload_n (pc := 0) dX5_read_0 rfl ?_
  refine RD.iload_n (pc := 1) dX5_read_1 rfl ?_
  refine RD.iload_n (pc := 2) dX5_read_2 rfl ?_
  refine RD.cV2 (pc := 3) dX5_read_3 mlX5_74 rfl ok0 rfl (c_isFileCell K _ D (nI n) (nI e)) (leb rfl) ?_
  refine RD.if_eq (pc := 6) 27 dX5_read_6 (by decide) (fun c6 => absurd c6 (by rw [fcB_nI hn he, h]; decide)) (fun c6 => ?_)
  refine RD.aload_n (pc := 9) dX5_read_9 rfl ?_
  refine RD.iload_n (pc := 10) dX5_read_10 rfl ?_
  refine RD.cV1 (pc := 11) dX5_read_11 mlX5_60 rfl ok0 rfl (c_fileAt K _ D hn) (leb rfl) ?_
  refine RD.getR (pc := 14) dX5_read_14 flX5_70 (ok12 (by omega) (by omega)) rfl rfl ?_
  refine RD.aload_n (pc := 17) dX5_read_17 rfl ?_
  refine RD.getR (pc := 18) dX5_read_18 flX5_46 (ok2 hi) rfl rfl ?_
  refine RD.cV1 (pc := 21) dX5_read_21 mlX5_140 rfl (ok4 (by omega) (by omega)) rfl (c_isIn K _ (ok4 (by omega) (by omega)) (ok4 hi (by decide)) D) (leb rfl) ?_
  refine RD.if_ne (pc := 24) 29 dX5_read_24 (by decide) (fun c24 => ?_) (fun c24 => absurd c24 (by rw [h2]; decide))
  refine RD.aload_n (pc := 29) dX5_read_29 rfl ?_
  refine RD.getR (pc := 30) dX5_read_30 flX5_33 (ok2 hi) rfl rfl ?_
  refine RD.bipush (pc := 33) (v := 120) dX5_read_33 (by decide) ?_
  refine RD.aload_n (pc := 35) dX5_read_35 rfl ?_
  refine RD.iload_n (pc := 36) dX5_read_36 rfl ?_
  refine RD.cV1 (pc := 37) dX5_read_37 mlX5_60 rfl ok0 rfl (c_fileAt K _ D hn) (leb rfl) ?_
  refine RD.getR (pc := 40) dX5_read_40 flX5_78 (ok12 (by omega) (by omega)) rfl rfl ?_
  refine RD.iload_n (pc := 43) dX5_read_43 rfl ?_
  refine RD.iL (pc := 44) e (v := D (13, n / 8, n % 8) e) rfl dX5_read_44 (ok13 (by omega) (by omega)) rfl rfl he (by decide) ?_
  refine RD.iast (pc := 45) 120 dX5_read_45 (ok3 hi) rfl rfl (by decide) (by decide) ?_
  refine RD.iconst (pc := 46) (v := 1) dX5_read_46 (by decide) ?_
  refine RD.ireturn (pc := 47) dX5_read_47 rfl rfl ?_
  exact ⟨rfl, rfl⟩

set_option maxRecDepth 20000 in
set_option maxHeartbeats 1000000 in
theorem c_writeN (K : EK) (d : Nat) {i : Nat} (hi : i < 8) (D : DT) (k e v : Int32) (h : fcB D k e = false) : CF K mX5_write (d + 2) [rR (0, 0, 0), rR (2, i, 0), rI k, rI e, rI v] D (some (rI 1)) D := by
  refine CF.of [some (rR (0, 0, 0)), some (rR (2, i, 0)), some (rI k), some (rI e), some (rI v)] (by decide) (leb rfl) rfl ?_
  refine RD.aload_n (pc := 0) dX5_write_0 rfl ?_
  refine RD.iload_n (pc := 1) dX5_write_1 rfl ?_
  refine RD.iload_n (pc := 2) dX5_write_2 rfl ?_
  refine RD.cV2 (pc := 3) dX5_write_3 mlX5_74 rfl ok0 rfl (c_isFileCell K _ D k e) (leb rfl) ?_
  refine RD.if_eq (pc := 6) 39 dX5_write_6 (by decide) (fun c6 => ?_) (fun c6 => absurd (by rw [h]; rfl) c6)
  refine RD.iconst (pc := 39) (v := 1) dX5_write_39 (by decide) ?_
  refine RD.ireturn (pc := 40) dX5_write_40 rfl rfl ?_
  exact ⟨rfl, rfl⟩

set_option maxRecDepth 20000 in
set_option maxHeartbeats 1000000 in
theorem c_write0 (K : EK) (d : Nat) {i : Nat} (hi : i < 8) (D : DT) {n e : Nat} (hn : n < 64) (he : e < 8) (h : thr D n = true) (v : Int32) (h2 : subB (D (5, i, 0)) (D (5, n / 8, 11 + n % 8)) = false) : CF K mX5_write (d + 2) [rR (0, 0, 0), rR (2, i, 0), rI (nI n), rI (nI e), rI v] D (some (rI 1)) D := by
  refine CF.of [some (rR (0, 0, 0)), some (rR (2, i, 0)), some (rI (nI n)), some (rI (nI e)), some (rI v)] (by decide) (leb rfl) rfl ?_
  refine RD.aload_n (pc := 0) dX5_write_0 rfl ?_
  refine RD.iload_n (pc := 1) dX5_write_1 rfl ?_
  refine RD.iload_n (pc := 2) dX5_write_2 rfl ?_
  refine RD.cV2 (pc := 3) dX5_write_3 mlX5_74 rfl ok0 rfl (c_isFileCell K _ D (nI n) (nI e)) (leb rfl) ?_
  refine RD.if_eq (pc := 6) 39 dX5_write_6 (by decide) (fun c6 => absurd c6 (by rw [fcB_nI hn he, h]; decide)) (fun c6 => ?_)
  refine RD.aload_n (pc := 9) dX5_write_9 rfl ?_
  refine RD.getR (pc := 10) dX5_write_10 flX5_46 (ok2 hi) rfl rfl ?_
  refine RD.aload_n (pc := 13) dX5_write_13 rfl ?_
  refine RD.iload_n (pc := 14) dX5_write_14 rfl ?_
  refine RD.cV1 (pc := 15) dX5_write_15 mlX5_60 rfl ok0 rfl (c_fileAt K _ D hn) (leb rfl) ?_
  refine RD.getR (pc := 18) dX5_write_18 flX5_70 (ok12 (by omega) (by omega)) rfl rfl ?_
  refine RD.cV1 (pc := 21) dX5_write_21 mlX5_140 rfl (ok4 hi (by decide)) rfl (c_isIn K _ (ok4 hi (by decide)) (ok4 (by omega) (by omega)) D) (leb rfl) ?_
  refine RD.if_eq (pc := 24) 39 dX5_write_24 (by decide) (fun c24 => ?_) (fun c24 => absurd (by rw [h2]; rfl) c24)
  refine RD.iconst (pc := 39) (v := 1) dX5_write_39 (by decide) ?_
  refine RD.ireturn (pc := 40) dX5_write_40 rfl rfl ?_
  exact ⟨rfl, rfl⟩

set_option maxRecDepth 20000 in
set_option maxHeartbeats 1000000 in
theorem c_write1 (K : EK) (d : Nat) {i : Nat} (hi : i < 8) (D : DT) {n e : Nat} (hn : n < 64) (he : e < 8) (h : thr D n = true) (v : Int32) (h2 : subB (D (5, i, 0)) (D (5, n / 8, 11 + n % 8)) = true) : CF K mX5_write (d + 2) [rR (0, 0, 0), rR (2, i, 0), rI (nI n), rI (nI e), rI v] D (some (rI 1)) (up D (13, n / 8, n % 8) e v) := by
  refine CF.of [some (rR (0, 0, 0)), some (rR (2, i, 0)), some (rI (nI n)), some (rI (nI e)), some (rI v)] (by decide) (leb rfl) rfl ?_
  refine RD.aload_n (pc := 0) dX5_write_0 rfl ?_
  refine RD.iload_n (pc := 1) dX5_write_1 rfl ?_
  refine RD.iload_n (pc := 2) dX5_write_2 rfl ?_
  refine RD.cV2 (pc := 3) dX5_write_3 mlX5_74 rfl ok0 rfl (c_isFileCell K _ D (nI n) (nI e)) (leb rfl) ?_
  refine RD.if_eq (pc := 6) 39 dX5_write_6 (by decide) (fun c6 => absurd c6 (by rw [fcB_nI hn he, h]; decide)) (fun c6 => ?_)
  refine RD.aload_n (pc := 9) dX5_write_9 rfl ?_
  refine RD.getR (pc := 10) dX5_write_10 flX5_46 (ok2 hi) rfl rfl ?_
  refine RD.aload_n (pc := 13) dX5_write_13 rfl ?_
  refine RD.iload_n (pc := 14) dX5_write_14 rfl ?_
  refine RD.cV1 (pc := 15) dX5_write_15 mlX5_60 rfl ok0 rfl (c_fileAt K _ D hn) (leb rfl) ?_
  refine RD.getR (pc := 18) dX5_write_18 flX5_70 (ok12 (by omega) (by omega)) rfl rfl ?_
  refine RD.cV1 (pc := 21) dX5_write_21 mlX5_140 rfl (ok4 hi (by decide)) rfl (c_isIn K _ (ok4 hi (by decide)) (ok4 (by omega) (by omega)) D) (leb rfl) ?_
  refine RD.if_eq (pc := 24) 39 dX5_write_24 (by decide) (fun c24 => absurd c24 (by rw [h2]; decide)) (fun c24 => ?_)
  refine RD.aload_n (pc := 27) dX5_write_27 rfl ?_
  refine RD.iload_n (pc := 28) dX5_write_28 rfl ?_
  refine RD.cV1 (pc := 29) dX5_write_29 mlX5_60 rfl ok0 rfl (c_fileAt K _ D hn) (leb rfl) ?_
  refine RD.getR (pc := 32) dX5_write_32 flX5_78 (ok12 (by omega) (by omega)) rfl rfl ?_
  refine RD.iload_n (pc := 35) dX5_write_35 rfl ?_
  refine RD.iload (pc := 36) dX5_write_36 rfl ?_
  refine RD.iast (pc := 38) e dX5_write_38 (ok13 (by omega) (by omega)) rfl rfl he (by decide) ?_
  refine RD.iconst (pc := 39) (v := 1) dX5_write_39 (by decide) ?_
  refine RD.ireturn (pc := 40) dX5_write_40 rfl rfl ?_
  exact ⟨rfl, rfl⟩
end
section
theorem CT.ofF {K : EK} {mt : MT} {d : Nat} {av : List AV} {D : DT} {Q : Option AV → DT → Prop} (hy : plainFor mt.1 = true) (hl : av.length ≤ mt.2.2.1)
    (h : RD K mt d 0 (av.map some ++ List.replicate (mt.2.2.1 - av.length) none) [] D Q) : CT K mt d av D Q := by
  refine va_MetF (cc := mt.2.1) (maxL := mt.2.2.1) (ret := mt.2.2.2) hy rfl ?_
  intro p e s m args below meth c s₁ B hml hv
  obtain ⟨rfl, hH, hK, hN, hX, hb, ho⟩ := hv
  have hts : ∀ w ∈ mws mt, w.before (av.map (tv K)).toArray s = true := atoms_spec (ws := mws mt) B.pre
  have hcat : ∀ (q : List AV), lg_sl (q.map (tv K)) = q.map (fun v => Slot.val (tv K v)) := by
    intro q
    induction q with
    | nil => rfl
    | cons v q ih =>
      rcases v with x | _ | a <;> simp [lg_sl, tv, Value.category] at ih ⊢ <;> exact ih
  have hlen : (lg_sl (av.map (tv K))).length ≤ mt.2.2.1 := by rw [hcat]; simpa using hl
  rw [lg_entry_eq]
  have hent := lv_entry (av.map (tv K)) (n := mt.2.2.1) hlen
  refine h p e (headSpec (mws mt) (rmd d)).room s m _ below meth c s.heap [] 0 0 _ _ ⟨B.exec, B.bytes, hml, findClass_of_methodNamed B.named, fun w hw => hts w (List.mem_cons_of_mem _ hw), hN, hK, hX, hb, ho, Nat.le_refl d, Nat.le_refl (26 * d), Nat.le_refl _, Nat.le_refl _⟩ hH va_S.rf ⟨hent.1, hent.2.1, fun i v hi => ?_⟩ ?_
  · by_cases hi2 : i < av.length
    · rw [List.getElem?_append_left (by simpa using hi2), List.getElem?_map] at hi
      have h1 : av[i]? = some v := by
        cases hq : av[i]? with
        | none => rw [hq] at hi; cases hi
        | some w => rw [hq] at hi; cases hi; rfl
      rw [List.getElem?_toArray, hcat, List.getElem?_append_left (by simpa using hi2), List.getElem?_map, h1]
      rfl
    · rw [List.getElem?_append_right (by simpa using hi2)] at hi
      simp [List.getElem?_replicate] at hi
  · intro r D' H' locs' pc' la' hH' hS' hq hr
    have hq' : ∀ t : State, t.heap = H' → s.WarmedH t.vm → QH K Q (av.map (tv K)).toArray s (.returned (r.map (tv K))) t := fun t ht _ => ⟨⟨r, D', rfl, hq, by rw [ht]; exact hH'⟩, hS'.F ht⟩
    rcases r with _ | v | o
    · exact W.vret B.exec B.bytes (B.returns.trans hr.1) hq' hS'.2.2 hr.2 B.notSynchronized
    · obtain ⟨⟨ty, h1, h2⟩, h3⟩ := hr
      exact W.zret B.exec B.bytes (B.returns.trans h1) h2 hq' hS'.2.2 h3 B.notSynchronized
    · obtain ⟨⟨n, h1⟩, h3⟩ := hr
      refine W.aret (v := tv K (.inr o)) B.exec B.bytes (B.returns.trans h1) (Or.inl ⟨n, rfl⟩) ?_ hq' hS'.2.2 h3 B.notSynchronized
      cases o with
      | none => exact Or.inl rfl
      | some a => exact Or.inr ⟨_, rfl⟩

/-- the first n cells of slot t's memory are those of slot i's from b on -/
def mcp (D : DT) (t i b n : Nat) : DT := fun a => if a = (3, t, 0) then (fun k => if k < n then D (3, i, 0) (b + k) else D (3, t, 0) k) else D a
theorem mcp_0 (D : DT) (t i b : Nat) : mcp D t i b 0 = D := by
  funext x
  by_cases h : x = (3, t, 0)
  · subst h; simp [mcp]
  · simp [mcp, h]
theorem mcp_s (D : DT) (t i b n : Nat) : up (mcp D t i b n) (3, t, 0) n (D (3, i, 0) (b + n)) = mcp D t i b (n + 1) := by
  funext x k
  rw [up_at]
  by_cases h : x = (3, t, 0)
  · subst h
    by_cases h2 : k = n
    · subst h2; simp [mcp]
    · simp only [mcp, h2, and_false, if_false, if_true]
      by_cases h3 : k < n
      · simp [h3, show k < n + 1 by omega]
      · simp [h3, show ¬ k < n + 1 by omega]
  · simp [mcp, h]
theorem mcp_o {D : DT} {t i b n : Nat} {a : AD} (h : a ≠ (3, t, 0)) : mcp D t i b n a = D a := by rw [mcp, if_neg h]
def spOK (D : DT) (i : Nat) (a b n : Int32) : Prop := ∃ t w e, 1 ≤ t ∧ t < 8 ∧ (t - 1) / 2 = i ∧ a = nI t ∧ n = nI w ∧ 1 ≤ w ∧ w ≤ 128 ∧ b = nI e ∧ e + w ≤ 128 ∧ D (2, t, 0) 4 = 0 ∧ subB (D (5, t, 0)) (D (5, i, 0)) = true
theorem half {t : Nat} (h1 : 1 ≤ t) (h : t < 8) : (nI t - 1) / 2 = nI ((t - 1) / 2) := by
  obtain ⟨q, rfl⟩ : ∃ q, t = q + 1 := ⟨t - 1, by omega⟩
  rw [nI_pred, Nat.add_sub_cancel]
  exact pk_div (d := 2) (by omega) (by decide) (by decide)
def spF (D : DT) (i t e w : Nat) : DT := up (cpyF (mcp D t i e w) t 0 i 0) (2, t, 0) 4 1

set_option maxRecDepth 20000 in
set_option maxHeartbeats 2000000 in
theorem l_spawn (K : EK) (d : Nat) {i : Nat} (hi : i < 8) (D : DT) {t w e : Nat} (ht : t < 8) (hti : t ≠ i) (hw : w ≤ 128) (hew : e + w ≤ 128) : ∀ n k, k ≤ w → w + 1 ≤ k + n → RD K mX5_spawn (d + 2) 91 [some (rR (0, 0, 0)), some (rR (2, i, 0)), some (rI (nI t)), some (rI (nI e)), some (rI (nI w)), some (rR (2, t, 0)), some (rI (nI k))] [] (mcp D t i e k) (fun r0 D0 => r0 = some (rI 1) ∧ D0 = spF D i t e w) := by
  intro n
  induction n with
  | zero => intro k h1 h2; omega
  | succ n ih =>
    intro k hkw hn
    refine RD.iload (pc := 91) dX5_spawn_91 rfl ?_
    refine RD.iload (pc := 93) dX5_spawn_93 rfl ?_
    refine RD.icmp_ge (pc := 95) 121 dX5_spawn_95 (by decide) (fun c95 => ?_) (fun c95 => ?_)
    · have hkw8 : k = w := by
        have := (nI_leI (a := w) (b := k) (by omega) (by omega)).mp c95
        omega
      subst hkw8
      refine RD.aload (pc := 121) dX5_spawn_121 rfl ?_
      refine RD.getR (pc := 123) dX5_spawn_123 flX5_46 (ok2 ht) rfl rfl ?_
      refine RD.aload_n (pc := 126) dX5_spawn_126 rfl ?_
      refine RD.getR (pc := 127) dX5_spawn_127 flX5_46 (ok2 hi) rfl rfl ?_
      refine RD.cV1v (pc := 130) dX5_spawn_130 mlX5_229 rfl (ok4 ht (by decide)) rfl (c_copy K _ (ok4 ht (by decide)) (ok4 hi (by decide)) (mcp D t i e k)) (leb rfl) ?_
      refine RD.aload (pc := 133) dX5_spawn_133 rfl ?_
      refine RD.iconst (pc := 135) (v := 1) dX5_spawn_135 (by decide) ?_
      refine RD.putf (pc := 136) dX5_spawn_136 fpX5_37 (ok2 ht) rfl rfl rfl rfl ?_
      refine RD.iconst (pc := 139) (v := 1) dX5_spawn_139 (by decide) ?_
      refine RD.ireturn (pc := 140) dX5_spawn_140 rfl rfl ?_
      exact ⟨rfl, rfl⟩
    · have hkw8 : k < w := Nat.lt_of_not_le (fun h => c95 (nI_le h (by omega)))
      refine RD.aload (pc := 98) dX5_spawn_98 rfl ?_
      refine RD.getR (pc := 100) dX5_spawn_100 flX5_33 (ok2 ht) rfl rfl ?_
      refine RD.iload (pc := 103) dX5_spawn_103 rfl ?_
      refine RD.aload_n (pc := 105) dX5_spawn_105 rfl ?_
      refine RD.getR (pc := 106) dX5_spawn_106 flX5_33 (ok2 hi) rfl rfl ?_
      refine RD.iload_n (pc := 109) dX5_spawn_109 rfl ?_
      refine RD.iload (pc := 110) dX5_spawn_110 rfl ?_
      refine RD.iadd (pc := 112) dX5_spawn_112 ?_
      refine RD.iL (pc := 113) (e + k) (v := D (3, i, 0) (e + k)) (congrFun (mcp_o (by simp [Ne.symm hti])) _) dX5_spawn_113 (ok3 hi) rfl (nI_add e k) (by omega) (by decide) ?_
      refine RD.iast (pc := 114) k dX5_spawn_114 (ok3 ht) rfl rfl (by omega) (by decide) ?_
      refine RD.iinc (pc := 115) (ls' := [some (rR (0, 0, 0)), some (rR (2, i, 0)), some (rI (nI t)), some (rI (nI e)), some (rI (nI w)), some (rR (2, t, 0)), some (rI (nI (k + 1)))]) dX5_spawn_115 rfl (nI_1 k) (by decide) rfl ?_
      refine RD.goto (pc := 118) 91 dX5_spawn_118 (by decide) ?_
      rw [mcp_s]
      exact ih (k + 1) (by omega) (by omega)

set_option maxRecDepth 20000 in
set_option maxHeartbeats 1000000 in
theorem c_spawn1 (K : EK) (d : Nat) {i : Nat} (hi : i < 8) (D : DT) {t w e : Nat} (ht : t < 8) (hti : t ≠ i) (hw : w ≤ 128) (hew : e + w ≤ 128) (h1t : 1 ≤ t) (hpar : (t - 1) / 2 = i) (h1w : 1 ≤ w) (hst : D (2, t, 0) 4 = 0) (hsub : subB (D (5, t, 0)) (D (5, i, 0)) = true) : CF K mX5_spawn (d + 2) [rR (0, 0, 0), rR (2, i, 0), rI (nI t), rI (nI e), rI (nI w)] D (some (rI 1)) (spF D i t e w) := by
  refine CF.of [some (rR (0, 0, 0)), some (rR (2, i, 0)), some (rI (nI t)), some (rI (nI e)), some (rI (nI w)), none, none] (by decide) (leb rfl) rfl ?_
  refine RD.iload_n (pc := 0) dX5_spawn_0 rfl ?_
  refine RD.cS1 (pc := 1) dX5_spawn_1 mlX5_29 (c_isSlot K _ D (nI t)) (leb rfl) ?_
  refine RD.if_eq (pc := 4) 23 dX5_spawn_4 (by decide) (fun c4 => absurd c4 (bIin (by decide) ht)) (fun c4 => ?_)
  refine RD.iload_n (pc := 7) dX5_spawn_7 rfl ?_
  refine RD.if_eq (pc := 8) 23 dX5_spawn_8 (by decide) (fun c8 => absurd c8 (nI_ne0 (by omega) (by omega))) (fun c8 => ?_)
  refine RD.iload_n (pc := 11) dX5_spawn_11 rfl ?_
  refine RD.iconst (pc := 12) (v := 1) dX5_spawn_12 (by decide) ?_
  refine RD.isub (pc := 13) dX5_spawn_13 ?_
  refine RD.iconst (pc := 14) (v := 2) dX5_spawn_14 (by decide) ?_
  refine RD.idiv (pc := 15) dX5_spawn_15 (by decide) ?_
  refine RD.aload_n (pc := 16) dX5_spawn_16 rfl ?_
  refine RD.getR (pc := 17) dX5_spawn_17 flX5_226 (ok2 hi) rfl rfl ?_
  refine RD.icmp_eq (pc := 20) 25 dX5_spawn_20 (by decide) (fun c20 => ?_) (fun c20 => absurd (by rw [half h1t ht, hpar]) c20)
  refine RD.iload (pc := 25) dX5_spawn_25 rfl ?_
  refine RD.iconst (pc := 27) (v := 1) dX5_spawn_27 (by decide) ?_
  refine RD.icmp_lt (pc := 28) 53 dX5_spawn_28 (by decide) (fun c28 => absurd c28 (nI_nlt (a := w) (b := 1) h1w (by omega))) (fun c28 => ?_)
  refine RD.iload (pc := 31) dX5_spawn_31 rfl ?_
  refine RD.sipush (pc := 33) (v := 128) dX5_spawn_33 (by decide) ?_
  refine RD.icmp_gt (pc := 36) 53 dX5_spawn_36 (by decide) (fun c36 => absurd c36 (nI_nlt (a := 128) (b := w) hw (by decide))) (fun c36 => ?_)
  refine RD.iload_n (pc := 39) dX5_spawn_39 rfl ?_
  refine RD.if_lt (pc := 40) 53 dX5_spawn_40 (by decide) (fun c40 => absurd c40 (nI_pos (by omega))) (fun c40 => ?_)
  refine RD.iload_n (pc := 43) dX5_spawn_43 rfl ?_
  refine RD.sipush (pc := 44) (v := 128) dX5_spawn_44 (by decide) ?_
  refine RD.iload (pc := 47) dX5_spawn_47 rfl ?_
  refine RD.isub (pc := 49) dX5_spawn_49 ?_
  refine RD.icmp_le (pc := 50) 55 dX5_spawn_50 (by decide) (fun c50 => ?_) (fun c50 => absurd (by rw [show (128 : Int32) = nI 128 from rfl, pk_sub hw]; exact nI_le (by omega) (by omega)) c50)
  refine RD.aload_n (pc := 55) dX5_spawn_55 rfl ?_
  refine RD.getR (pc := 56) dX5_spawn_56 flX5_11 ok0 rfl rfl ?_
  refine RD.iload_n (pc := 59) dX5_spawn_59 rfl ?_
  refine RD.aald (pc := 60) t dX5_spawn_60 ok1 rfl rfl rfl ht (by decide) ?_
  refine RD.astore (pc := 61) (ls' := [some (rR (0, 0, 0)), some (rR (2, i, 0)), some (rI (nI t)), some (rI (nI e)), some (rI (nI w)), some (rR (2, t, 0)), none]) dX5_spawn_61 (by decide) rfl ?_
  refine RD.aload (pc := 63) dX5_spawn_63 rfl ?_
  refine RD.gI (pc := 65) (v := D (2, t, 0) 4) rfl dX5_spawn_65 flX5_37 (ok2 ht) rfl rfl ?_
  refine RD.if_ne (pc := 68) 86 dX5_spawn_68 (by decide) (fun c68 => absurd hst c68) (fun c68 => ?_)
  refine RD.aload (pc := 71) dX5_spawn_71 rfl ?_
  refine RD.getR (pc := 73) dX5_spawn_73 flX5_46 (ok2 ht) rfl rfl ?_
  refine RD.aload_n (pc := 76) dX5_spawn_76 rfl ?_
  refine RD.getR (pc := 77) dX5_spawn_77 flX5_46 (ok2 hi) rfl rfl ?_
  refine RD.cV1 (pc := 80) dX5_spawn_80 mlX5_140 rfl (ok4 ht (by decide)) rfl (c_isIn K _ (ok4 ht (by decide)) (ok4 hi (by decide)) D) (leb rfl) ?_
  refine RD.if_ne (pc := 83) 88 dX5_spawn_83 (by decide) (fun c83 => ?_) (fun c83 => absurd c83 (by rw [hsub]; decide))
  refine RD.iconst (pc := 88) (v := 0) dX5_spawn_88 (by decide) ?_
  refine RD.istore (pc := 89) (ls' := [some (rR (0, 0, 0)), some (rR (2, i, 0)), some (rI (nI t)), some (rI (nI e)), some (rI (nI w)), some (rR (2, t, 0)), some (rI 0)]) dX5_spawn_89 (by decide) rfl ?_
  have h := l_spawn K d hi D ht hti hw hew (w + 1) 0 (by omega) (by omega)
  rw [mcp_0] at h
  exact h

set_option maxRecDepth 20000 in
set_option maxHeartbeats 1000000 in
theorem c_spawn0 (K : EK) (d : Nat) {i : Nat} (hi : i < 8) (D : DT) (a b n : Int32) (h : ¬ spOK D i a b n) : CF K mX5_spawn (d + 2) [rR (0, 0, 0), rR (2, i, 0), rI a, rI b, rI n] D (some (rI 0)) D := by
  refine CF.of [some (rR (0, 0, 0)), some (rR (2, i, 0)), some (rI a), some (rI b), some (rI n), none, none] (by decide) (leb rfl) rfl ?_
  refine RD.iload_n (pc := 0) dX5_spawn_0 rfl ?_
  refine RD.cS1 (pc := 1) dX5_spawn_1 mlX5_29 (c_isSlot K _ D a) (leb rfl) ?_
  refine RD.if_eq (pc := 4) 23 dX5_spawn_4 (by decide) (fun c4 => ?_) (fun c4 => ?_)
  · refine RD.iconst (pc := 23) (v := 0) dX5_spawn_23 (by decide) ?_
    refine RD.ireturn (pc := 24) dX5_spawn_24 rfl rfl ?_
    exact ⟨rfl, rfl⟩
  · refine RD.iload_n (pc := 7) dX5_spawn_7 rfl ?_
    refine RD.if_eq (pc := 8) 23 dX5_spawn_8 (by decide) (fun c8 => ?_) (fun c8 => ?_)
    · refine RD.iconst (pc := 23) (v := 0) dX5_spawn_23 (by decide) ?_
      refine RD.ireturn (pc := 24) dX5_spawn_24 rfl rfl ?_
      exact ⟨rfl, rfl⟩
    · refine RD.iload_n (pc := 11) dX5_spawn_11 rfl ?_
      refine RD.iconst (pc := 12) (v := 1) dX5_spawn_12 (by decide) ?_
      refine RD.isub (pc := 13) dX5_spawn_13 ?_
      refine RD.iconst (pc := 14) (v := 2) dX5_spawn_14 (by decide) ?_
      refine RD.idiv (pc := 15) dX5_spawn_15 (by decide) ?_
      refine RD.aload_n (pc := 16) dX5_spawn_16 rfl ?_
      refine RD.getR (pc := 17) dX5_spawn_17 flX5_226 (ok2 hi) rfl rfl ?_
      refine RD.icmp_eq (pc := 20) 25 dX5_spawn_20 (by decide) (fun c20 => ?_) (fun c20 => ?_)
      · refine RD.iload (pc := 25) dX5_spawn_25 rfl ?_
        refine RD.iconst (pc := 27) (v := 1) dX5_spawn_27 (by decide) ?_
        refine RD.icmp_lt (pc := 28) 53 dX5_spawn_28 (by decide) (fun c28 => ?_) (fun c28 => ?_)
        · refine RD.iconst (pc := 53) (v := 0) dX5_spawn_53 (by decide) ?_
          refine RD.ireturn (pc := 54) dX5_spawn_54 rfl rfl ?_
          exact ⟨rfl, rfl⟩
        · refine RD.iload (pc := 31) dX5_spawn_31 rfl ?_
          refine RD.sipush (pc := 33) (v := 128) dX5_spawn_33 (by decide) ?_
          refine RD.icmp_gt (pc := 36) 53 dX5_spawn_36 (by decide) (fun c36 => ?_) (fun c36 => ?_)
          · refine RD.iconst (pc := 53) (v := 0) dX5_spawn_53 (by decide) ?_
            refine RD.ireturn (pc := 54) dX5_spawn_54 rfl rfl ?_
            exact ⟨rfl, rfl⟩
          · refine RD.iload_n (pc := 39) dX5_spawn_39 rfl ?_
            refine RD.if_lt (pc := 40) 53 dX5_spawn_40 (by decide) (fun c40 => ?_) (fun c40 => ?_)
            · refine RD.iconst (pc := 53) (v := 0) dX5_spawn_53 (by decide) ?_
              refine RD.ireturn (pc := 54) dX5_spawn_54 rfl rfl ?_
              exact ⟨rfl, rfl⟩
            · refine RD.iload_n (pc := 43) dX5_spawn_43 rfl ?_
              refine RD.sipush (pc := 44) (v := 128) dX5_spawn_44 (by decide) ?_
              refine RD.iload (pc := 47) dX5_spawn_47 rfl ?_
              refine RD.isub (pc := 49) dX5_spawn_49 ?_
              refine RD.icmp_le (pc := 50) 55 dX5_spawn_50 (by decide) (fun c50 => ?_) (fun c50 => ?_)
              · obtain ⟨t, ht, rfl⟩ := inR_t (N := 8) (by decide) (bI_1 c4)
                refine RD.aload_n (pc := 55) dX5_spawn_55 rfl ?_
                refine RD.getR (pc := 56) dX5_spawn_56 flX5_11 ok0 rfl rfl ?_
                refine RD.iload_n (pc := 59) dX5_spawn_59 rfl ?_
                refine RD.aald (pc := 60) t dX5_spawn_60 ok1 rfl rfl rfl ht (by decide) ?_
                refine RD.astore (pc := 61) (ls' := [some (rR (0, 0, 0)), some (rR (2, i, 0)), some (rI (nI t)), some (rI b), some (rI n), some (rR (2, t, 0)), none]) dX5_spawn_61 (by decide) rfl ?_
                refine RD.aload (pc := 63) dX5_spawn_63 rfl ?_
                refine RD.gI (pc := 65) (v := D (2, t, 0) 4) rfl dX5_spawn_65 flX5_37 (ok2 ht) rfl rfl ?_
                refine RD.if_ne (pc := 68) 86 dX5_spawn_68 (by decide) (fun c68 => ?_) (fun c68 => ?_)
                · refine RD.iconst (pc := 86) (v := 0) dX5_spawn_86 (by decide) ?_
                  refine RD.ireturn (pc := 87) dX5_spawn_87 rfl rfl ?_
                  exact ⟨rfl, rfl⟩
                · refine RD.aload (pc := 71) dX5_spawn_71 rfl ?_
                  refine RD.getR (pc := 73) dX5_spawn_73 flX5_46 (ok2 ht) rfl rfl ?_
                  refine RD.aload_n (pc := 76) dX5_spawn_76 rfl ?_
                  refine RD.getR (pc := 77) dX5_spawn_77 flX5_46 (ok2 hi) rfl rfl ?_
                  refine RD.cV1 (pc := 80) dX5_spawn_80 mlX5_140 rfl (ok4 ht (by decide)) rfl (c_isIn K _ (ok4 ht (by decide)) (ok4 hi (by decide)) D) (leb rfl) ?_
                  refine RD.if_ne (pc := 83) 88 dX5_spawn_83 (by decide) (fun c83 => ?_) (fun c83 => ?_)
                  · exfalso
                    have h1t : 1 ≤ t := Nat.pos_of_ne_zero (fun e => c8 (by rw [e]; rfl))
                    rw [half h1t ht] at c20
                    have hpar : (t - 1) / 2 = i := (nI_eq (by omega) (by omega)).mp c20
                    obtain ⟨w, hw, rfl⟩ := nI_of2 (nI_toInt (n := 128) (by decide)) (fun hn => c28 (Int32.lt_trans hn (by decide))) (i32_nlt c36)
                    have h1w : 1 ≤ w := by
                      rcases Nat.eq_zero_or_pos w with e | e
                      · exact absurd (by rw [e]; decide) c28
                      · exact e
                    obtain ⟨e, he, rfl⟩ := nI_of (x := b) c40
                    rw [show (128 : Int32) = nI 128 from rfl, pk_sub hw] at c50
                    have hew := (nI_leI he (by omega)).mp c50
                    exact h ⟨t, w, e, h1t, ht, hpar, rfl, rfl, h1w, hw, rfl, by omega, c68, bI_1 c83⟩
                  · refine RD.iconst (pc := 86) (v := 0) dX5_spawn_86 (by decide) ?_
                    refine RD.ireturn (pc := 87) dX5_spawn_87 rfl rfl ?_
                    exact ⟨rfl, rfl⟩
              · refine RD.iconst (pc := 53) (v := 0) dX5_spawn_53 (by decide) ?_
                refine RD.ireturn (pc := 54) dX5_spawn_54 rfl rfl ?_
                exact ⟨rfl, rfl⟩
      · refine RD.iconst (pc := 23) (v := 0) dX5_spawn_23 (by decide) ?_
        refine RD.ireturn (pc := 24) dX5_spawn_24 rfl rfl ?_
        exact ⟨rfl, rfl⟩

set_option maxRecDepth 20000 in
set_option maxHeartbeats 1000000 in
theorem c_sys0 (K : EK) (d : Nat) {i : Nat} (hi : i < 8) (D : DT) {r : Int32} {D2 : DT} (hc : CF K mX2_newTag d [rR (2, i, 0)] D (some (rI r)) D2) : CF K mX5_systemCall (d + 1) [rR (0, 0, 0), rR (2, i, 0), rI 0] D (none) (up D2 (2, i, 0) 2 r) := by
  refine CF.of [some (rR (0, 0, 0)), some (rR (2, i, 0)), some (rI 0), none, none, none] (by decide) (leb rfl) rfl ?_
  refine RD.aload_n (pc := 0) dX5_systemCall_0 rfl ?_
  refine RD.getR (pc := 1) dX5_systemCall_1 flX5_33 (ok2 hi) rfl rfl ?_
  refine RD.bipush (pc := 4) (v := 120) dX5_systemCall_4 (by decide) ?_
  refine RD.iL (pc := 6) 120 (v := D (3, i, 0) 120) rfl dX5_systemCall_6 (ok3 hi) rfl rfl (by decide) (by decide) ?_
  refine RD.istore_n (pc := 7) (ls' := [some (rR (0, 0, 0)), some (rR (2, i, 0)), some (rI 0), some (rI (D (3, i, 0) 120)), none, none]) dX5_systemCall_7 (by decide) rfl ?_
  refine RD.aload_n (pc := 8) dX5_systemCall_8 rfl ?_
  refine RD.getR (pc := 9) dX5_systemCall_9 flX5_33 (ok2 hi) rfl rfl ?_
  refine RD.bipush (pc := 12) (v := 121) dX5_systemCall_12 (by decide) ?_
  refine RD.iL (pc := 14) 121 (v := D (3, i, 0) 121) rfl dX5_systemCall_14 (ok3 hi) rfl rfl (by decide) (by decide) ?_
  refine RD.istore (pc := 15) (ls' := [some (rR (0, 0, 0)), some (rR (2, i, 0)), some (rI 0), some (rI (D (3, i, 0) 120)), some (rI (D (3, i, 0) 121)), none]) dX5_systemCall_15 (by decide) rfl ?_
  refine RD.aload_n (pc := 17) dX5_systemCall_17 rfl ?_
  refine RD.getR (pc := 18) dX5_systemCall_18 flX5_33 (ok2 hi) rfl rfl ?_
  refine RD.bipush (pc := 21) (v := 122) dX5_systemCall_21 (by decide) ?_
  refine RD.iL (pc := 23) 122 (v := D (3, i, 0) 122) rfl dX5_systemCall_23 (ok3 hi) rfl rfl (by decide) (by decide) ?_
  refine RD.istore (pc := 24) (ls' := [some (rR (0, 0, 0)), some (rR (2, i, 0)), some (rI 0), some (rI (D (3, i, 0) 120)), some (rI (D (3, i, 0) 121)), some (rI (D (3, i, 0) 122))]) dX5_systemCall_24 (by decide) rfl ?_
  refine RD.iload_n (pc := 26) dX5_systemCall_26 rfl ?_
  refine RD.iconst (pc := 27) (v := 1) dX5_systemCall_27 (by decide) ?_
  refine RD.icmp_eq (pc := 28) 37 dX5_systemCall_28 (by decide) (fun c28 => absurd c28 (by decide)) (fun c28 => ?_)
  refine RD.iload_n (pc := 31) dX5_systemCall_31 rfl ?_
  refine RD.bipush (pc := 32) (v := 6) dX5_systemCall_32 (by decide) ?_
  refine RD.icmp_ne (pc := 34) 52 dX5_systemCall_34 (by decide) (fun c34 => ?_) (fun c34 => absurd c34 (by decide))
  refine RD.iload_n (pc := 52) dX5_systemCall_52 rfl ?_
  refine RD.tableIn (pc := 53) 116 dX5_systemCall_53 (by decide) (by decide) rfl (by decide) ?_
  refine RD.aload_n (pc := 116) dX5_systemCall_116 rfl ?_
  refine RD.aload_n (pc := 117) dX5_systemCall_117 rfl ?_
  refine RD.cV0 (pc := 118) dX5_systemCall_118 mlX5_178 rfl (ok2 hi) rfl hc (leb rfl) ?_
  refine RD.putf (pc := 121) dX5_systemCall_121 fpX5_108 (ok2 hi) rfl rfl rfl rfl ?_
  refine RD.goto (pc := 124) 295 dX5_systemCall_124 (by decide) ?_
  refine RD.ret (pc := 295) ⟨rfl, dX5_systemCall_295⟩ ?_
  exact ⟨rfl, rfl⟩

set_option maxRecDepth 20000 in
set_option maxHeartbeats 1000000 in
theorem c_sys2 (K : EK) (d : Nat) {i : Nat} (hi : i < 8) (D : DT) {r : Int32} {D2 : DT} (hc : CF K mX2_dropCapability d [rR (2, i, 0), rI (D (3, i, 0) 121), rI (D (3, i, 0) 120)] D (some (rI r)) D2) : CF K mX5_systemCall (d + 1) [rR (0, 0, 0), rR (2, i, 0), rI 2] D (none) (up D2 (2, i, 0) 2 r) := by
  refine CF.of [some (rR (0, 0, 0)), some (rR (2, i, 0)), some (rI 2), none, none, none] (by decide) (leb rfl) rfl ?_
  refine RD.aload_n (pc := 0) dX5_systemCall_0 rfl ?_
  refine RD.getR (pc := 1) dX5_systemCall_1 flX5_33 (ok2 hi) rfl rfl ?_
  refine RD.bipush (pc := 4) (v := 120) dX5_systemCall_4 (by decide) ?_
  refine RD.iL (pc := 6) 120 (v := D (3, i, 0) 120) rfl dX5_systemCall_6 (ok3 hi) rfl rfl (by decide) (by decide) ?_
  refine RD.istore_n (pc := 7) (ls' := [some (rR (0, 0, 0)), some (rR (2, i, 0)), some (rI 2), some (rI (D (3, i, 0) 120)), none, none]) dX5_systemCall_7 (by decide) rfl ?_
  refine RD.aload_n (pc := 8) dX5_systemCall_8 rfl ?_
  refine RD.getR (pc := 9) dX5_systemCall_9 flX5_33 (ok2 hi) rfl rfl ?_
  refine RD.bipush (pc := 12) (v := 121) dX5_systemCall_12 (by decide) ?_
  refine RD.iL (pc := 14) 121 (v := D (3, i, 0) 121) rfl dX5_systemCall_14 (ok3 hi) rfl rfl (by decide) (by decide) ?_
  refine RD.istore (pc := 15) (ls' := [some (rR (0, 0, 0)), some (rR (2, i, 0)), some (rI 2), some (rI (D (3, i, 0) 120)), some (rI (D (3, i, 0) 121)), none]) dX5_systemCall_15 (by decide) rfl ?_
  refine RD.aload_n (pc := 17) dX5_systemCall_17 rfl ?_
  refine RD.getR (pc := 18) dX5_systemCall_18 flX5_33 (ok2 hi) rfl rfl ?_
  refine RD.bipush (pc := 21) (v := 122) dX5_systemCall_21 (by decide) ?_
  refine RD.iL (pc := 23) 122 (v := D (3, i, 0) 122) rfl dX5_systemCall_23 (ok3 hi) rfl rfl (by decide) (by decide) ?_
  refine RD.istore (pc := 24) (ls' := [some (rR (0, 0, 0)), some (rR (2, i, 0)), some (rI 2), some (rI (D (3, i, 0) 120)), some (rI (D (3, i, 0) 121)), some (rI (D (3, i, 0) 122))]) dX5_systemCall_24 (by decide) rfl ?_
  refine RD.iload_n (pc := 26) dX5_systemCall_26 rfl ?_
  refine RD.iconst (pc := 27) (v := 1) dX5_systemCall_27 (by decide) ?_
  refine RD.icmp_eq (pc := 28) 37 dX5_systemCall_28 (by decide) (fun c28 => absurd c28 (by decide)) (fun c28 => ?_)
  refine RD.iload_n (pc := 31) dX5_systemCall_31 rfl ?_
  refine RD.bipush (pc := 32) (v := 6) dX5_systemCall_32 (by decide) ?_
  refine RD.icmp_ne (pc := 34) 52 dX5_systemCall_34 (by decide) (fun c34 => ?_) (fun c34 => absurd c34 (by decide))
  refine RD.iload_n (pc := 52) dX5_systemCall_52 rfl ?_
  refine RD.tableIn (pc := 53) 142 dX5_systemCall_53 (by decide) (by decide) rfl (by decide) ?_
  refine RD.aload_n (pc := 142) dX5_systemCall_142 rfl ?_
  refine RD.aload_n (pc := 143) dX5_systemCall_143 rfl ?_
  refine RD.iload (pc := 144) dX5_systemCall_144 rfl ?_
  refine RD.iload_n (pc := 146) dX5_systemCall_146 rfl ?_
  refine RD.cV2 (pc := 147) dX5_systemCall_147 mlX5_185 rfl (ok2 hi) rfl hc (leb rfl) ?_
  refine RD.putf (pc := 150) dX5_systemCall_150 fpX5_108 (ok2 hi) rfl rfl rfl rfl ?_
  refine RD.goto (pc := 153) 295 dX5_systemCall_153 (by decide) ?_
  refine RD.ret (pc := 295) ⟨rfl, dX5_systemCall_295⟩ ?_
  exact ⟨rfl, rfl⟩

set_option maxRecDepth 20000 in
set_option maxHeartbeats 1000000 in
theorem c_sys3 (K : EK) (d : Nat) {i : Nat} (hi : i < 8) (D : DT) {r : Int32} {D2 : DT} (hc : CF K mX5_send d [rR (0, 0, 0), rR (2, i, 0), rI (D (3, i, 0) 120), rI (D (3, i, 0) 121), rI (-1)] D (some (rI r)) D2) : CF K mX5_systemCall (d + 1) [rR (0, 0, 0), rR (2, i, 0), rI 3] D (none) (up D2 (2, i, 0) 2 r) := by
  refine CF.of [some (rR (0, 0, 0)), some (rR (2, i, 0)), some (rI 3), none, none, none] (by decide) (leb rfl) rfl ?_
  refine RD.aload_n (pc := 0) dX5_systemCall_0 rfl ?_
  refine RD.getR (pc := 1) dX5_systemCall_1 flX5_33 (ok2 hi) rfl rfl ?_
  refine RD.bipush (pc := 4) (v := 120) dX5_systemCall_4 (by decide) ?_
  refine RD.iL (pc := 6) 120 (v := D (3, i, 0) 120) rfl dX5_systemCall_6 (ok3 hi) rfl rfl (by decide) (by decide) ?_
  refine RD.istore_n (pc := 7) (ls' := [some (rR (0, 0, 0)), some (rR (2, i, 0)), some (rI 3), some (rI (D (3, i, 0) 120)), none, none]) dX5_systemCall_7 (by decide) rfl ?_
  refine RD.aload_n (pc := 8) dX5_systemCall_8 rfl ?_
  refine RD.getR (pc := 9) dX5_systemCall_9 flX5_33 (ok2 hi) rfl rfl ?_
  refine RD.bipush (pc := 12) (v := 121) dX5_systemCall_12 (by decide) ?_
  refine RD.iL (pc := 14) 121 (v := D (3, i, 0) 121) rfl dX5_systemCall_14 (ok3 hi) rfl rfl (by decide) (by decide) ?_
  refine RD.istore (pc := 15) (ls' := [some (rR (0, 0, 0)), some (rR (2, i, 0)), some (rI 3), some (rI (D (3, i, 0) 120)), some (rI (D (3, i, 0) 121)), none]) dX5_systemCall_15 (by decide) rfl ?_
  refine RD.aload_n (pc := 17) dX5_systemCall_17 rfl ?_
  refine RD.getR (pc := 18) dX5_systemCall_18 flX5_33 (ok2 hi) rfl rfl ?_
  refine RD.bipush (pc := 21) (v := 122) dX5_systemCall_21 (by decide) ?_
  refine RD.iL (pc := 23) 122 (v := D (3, i, 0) 122) rfl dX5_systemCall_23 (ok3 hi) rfl rfl (by decide) (by decide) ?_
  refine RD.istore (pc := 24) (ls' := [some (rR (0, 0, 0)), some (rR (2, i, 0)), some (rI 3), some (rI (D (3, i, 0) 120)), some (rI (D (3, i, 0) 121)), some (rI (D (3, i, 0) 122))]) dX5_systemCall_24 (by decide) rfl ?_
  refine RD.iload_n (pc := 26) dX5_systemCall_26 rfl ?_
  refine RD.iconst (pc := 27) (v := 1) dX5_systemCall_27 (by decide) ?_
  refine RD.icmp_eq (pc := 28) 37 dX5_systemCall_28 (by decide) (fun c28 => absurd c28 (by decide)) (fun c28 => ?_)
  refine RD.iload_n (pc := 31) dX5_systemCall_31 rfl ?_
  refine RD.bipush (pc := 32) (v := 6) dX5_systemCall_32 (by decide) ?_
  refine RD.icmp_ne (pc := 34) 52 dX5_systemCall_34 (by decide) (fun c34 => ?_) (fun c34 => absurd c34 (by decide))
  refine RD.iload_n (pc := 52) dX5_systemCall_52 rfl ?_
  refine RD.tableIn (pc := 53) 156 dX5_systemCall_53 (by decide) (by decide) rfl (by decide) ?_
  refine RD.aload_n (pc := 156) dX5_systemCall_156 rfl ?_
  refine RD.aload_n (pc := 157) dX5_systemCall_157 rfl ?_
  refine RD.aload_n (pc := 158) dX5_systemCall_158 rfl ?_
  refine RD.iload_n (pc := 159) dX5_systemCall_159 rfl ?_
  refine RD.iload (pc := 160) dX5_systemCall_160 rfl ?_
  refine RD.iconst (pc := 162) (v := (-1)) dX5_systemCall_162 (by decide) ?_
  refine RD.cV4 (pc := 163) dX5_systemCall_163 mlX5_188 rfl ok0 rfl hc (leb rfl) ?_
  refine RD.putf (pc := 166) dX5_systemCall_166 fpX5_108 (ok2 hi) rfl rfl rfl rfl ?_
  refine RD.goto (pc := 169) 295 dX5_systemCall_169 (by decide) ?_
  refine RD.ret (pc := 295) ⟨rfl, dX5_systemCall_295⟩ ?_
  exact ⟨rfl, rfl⟩

set_option maxRecDepth 20000 in
set_option maxHeartbeats 1000000 in
theorem c_sys4 (K : EK) (d : Nat) {i : Nat} (hi : i < 8) (D : DT) {r : Int32} {D2 : DT} (hc : CF K mX5_pass d [rR (0, 0, 0), rR (2, i, 0), rI (D (3, i, 0) 120), rI (D (3, i, 0) 121), rI (D (3, i, 0) 122)] D (some (rI r)) D2) : CF K mX5_systemCall (d + 1) [rR (0, 0, 0), rR (2, i, 0), rI 4] D (none) (up D2 (2, i, 0) 2 r) := by
  refine CF.of [some (rR (0, 0, 0)), some (rR (2, i, 0)), some (rI 4), none, none, none] (by decide) (leb rfl) rfl ?_
  refine RD.aload_n (pc := 0) dX5_systemCall_0 rfl ?_
  refine RD.getR (pc := 1) dX5_systemCall_1 flX5_33 (ok2 hi) rfl rfl ?_
  refine RD.bipush (pc := 4) (v := 120) dX5_systemCall_4 (by decide) ?_
  refine RD.iL (pc := 6) 120 (v := D (3, i, 0) 120) rfl dX5_systemCall_6 (ok3 hi) rfl rfl (by decide) (by decide) ?_
  refine RD.istore_n (pc := 7) (ls' := [some (rR (0, 0, 0)), some (rR (2, i, 0)), some (rI 4), some (rI (D (3, i, 0) 120)), none, none]) dX5_systemCall_7 (by decide) rfl ?_
  refine RD.aload_n (pc := 8) dX5_systemCall_8 rfl ?_
  refine RD.getR (pc := 9) dX5_systemCall_9 flX5_33 (ok2 hi) rfl rfl ?_
  refine RD.bipush (pc := 12) (v := 121) dX5_systemCall_12 (by decide) ?_
  refine RD.iL (pc := 14) 121 (v := D (3, i, 0) 121) rfl dX5_systemCall_14 (ok3 hi) rfl rfl (by decide) (by decide) ?_
  refine RD.istore (pc := 15) (ls' := [some (rR (0, 0, 0)), some (rR (2, i, 0)), some (rI 4), some (rI (D (3, i, 0) 120)), some (rI (D (3, i, 0) 121)), none]) dX5_systemCall_15 (by decide) rfl ?_
  refine RD.aload_n (pc := 17) dX5_systemCall_17 rfl ?_
  refine RD.getR (pc := 18) dX5_systemCall_18 flX5_33 (ok2 hi) rfl rfl ?_
  refine RD.bipush (pc := 21) (v := 122) dX5_systemCall_21 (by decide) ?_
  refine RD.iL (pc := 23) 122 (v := D (3, i, 0) 122) rfl dX5_systemCall_23 (ok3 hi) rfl rfl (by decide) (by decide) ?_
  refine RD.istore (pc := 24) (ls' := [some (rR (0, 0, 0)), some (rR (2, i, 0)), some (rI 4), some (rI (D (3, i, 0) 120)), some (rI (D (3, i, 0) 121)), some (rI (D (3, i, 0) 122))]) dX5_systemCall_24 (by decide) rfl ?_
  refine RD.iload_n (pc := 26) dX5_systemCall_26 rfl ?_
  refine RD.iconst (pc := 27) (v := 1) dX5_systemCall_27 (by decide) ?_
  refine RD.icmp_eq (pc := 28) 37 dX5_systemCall_28 (by decide) (fun c28 => absurd c28 (by decide)) (fun c28 => ?_)
  refine RD.iload_n (pc := 31) dX5_systemCall_31 rfl ?_
  refine RD.bipush (pc := 32) (v := 6) dX5_systemCall_32 (by decide) ?_
  refine RD.icmp_ne (pc := 34) 52 dX5_systemCall_34 (by decide) (fun c34 => ?_) (fun c34 => absurd c34 (by decide))
  refine RD.iload_n (pc := 52) dX5_systemCall_52 rfl ?_
  refine RD.tableIn (pc := 53) 172 dX5_systemCall_53 (by decide) (by decide) rfl (by decide) ?_
  refine RD.aload_n (pc := 172) dX5_systemCall_172 rfl ?_
  refine RD.aload_n (pc := 173) dX5_systemCall_173 rfl ?_
  refine RD.aload_n (pc := 174) dX5_systemCall_174 rfl ?_
  refine RD.iload_n (pc := 175) dX5_systemCall_175 rfl ?_
  refine RD.iload (pc := 176) dX5_systemCall_176 rfl ?_
  refine RD.iload (pc := 178) dX5_systemCall_178 rfl ?_
  refine RD.cV4 (pc := 180) dX5_systemCall_180 mlX5_192 rfl ok0 rfl hc (leb rfl) ?_
  refine RD.putf (pc := 183) dX5_systemCall_183 fpX5_108 (ok2 hi) rfl rfl rfl rfl ?_
  refine RD.goto (pc := 186) 295 dX5_systemCall_186 (by decide) ?_
  refine RD.ret (pc := 295) ⟨rfl, dX5_systemCall_295⟩ ?_
  exact ⟨rfl, rfl⟩

set_option maxRecDepth 20000 in
set_option maxHeartbeats 1000000 in
theorem c_sys5 (K : EK) (d : Nat) {i : Nat} (hi : i < 8) (D : DT) {r : Int32} {D2 : DT} (hc : CF K mX2_receive d [rR (2, i, 0)] D (some (rI r)) D2) : CF K mX5_systemCall (d + 1) [rR (0, 0, 0), rR (2, i, 0), rI 5] D (none) (up D2 (2, i, 0) 2 r) := by
  refine CF.of [some (rR (0, 0, 0)), some (rR (2, i, 0)), some (rI 5), none, none, none] (by decide) (leb rfl) rfl ?_
  refine RD.aload_n (pc := 0) dX5_systemCall_0 rfl ?_
  refine RD.getR (pc := 1) dX5_systemCall_1 flX5_33 (ok2 hi) rfl rfl ?_
  refine RD.bipush (pc := 4) (v := 120) dX5_systemCall_4 (by decide) ?_
  refine RD.iL (pc := 6) 120 (v := D (3, i, 0) 120) rfl dX5_systemCall_6 (ok3 hi) rfl rfl (by decide) (by decide) ?_
  refine RD.istore_n (pc := 7) (ls' := [some (rR (0, 0, 0)), some (rR (2, i, 0)), some (rI 5), some (rI (D (3, i, 0) 120)), none, none]) dX5_systemCall_7 (by decide) rfl ?_
  refine RD.aload_n (pc := 8) dX5_systemCall_8 rfl ?_
  refine RD.getR (pc := 9) dX5_systemCall_9 flX5_33 (ok2 hi) rfl rfl ?_
  refine RD.bipush (pc := 12) (v := 121) dX5_systemCall_12 (by decide) ?_
  refine RD.iL (pc := 14) 121 (v := D (3, i, 0) 121) rfl dX5_systemCall_14 (ok3 hi) rfl rfl (by decide) (by decide) ?_
  refine RD.istore (pc := 15) (ls' := [some (rR (0, 0, 0)), some (rR (2, i, 0)), some (rI 5), some (rI (D (3, i, 0) 120)), some (rI (D (3, i, 0) 121)), none]) dX5_systemCall_15 (by decide) rfl ?_
  refine RD.aload_n (pc := 17) dX5_systemCall_17 rfl ?_
  refine RD.getR (pc := 18) dX5_systemCall_18 flX5_33 (ok2 hi) rfl rfl ?_
  refine RD.bipush (pc := 21) (v := 122) dX5_systemCall_21 (by decide) ?_
  refine RD.iL (pc := 23) 122 (v := D (3, i, 0) 122) rfl dX5_systemCall_23 (ok3 hi) rfl rfl (by decide) (by decide) ?_
  refine RD.istore (pc := 24) (ls' := [some (rR (0, 0, 0)), some (rR (2, i, 0)), some (rI 5), some (rI (D (3, i, 0) 120)), some (rI (D (3, i, 0) 121)), some (rI (D (3, i, 0) 122))]) dX5_systemCall_24 (by decide) rfl ?_
  refine RD.iload_n (pc := 26) dX5_systemCall_26 rfl ?_
  refine RD.iconst (pc := 27) (v := 1) dX5_systemCall_27 (by decide) ?_
  refine RD.icmp_eq (pc := 28) 37 dX5_systemCall_28 (by decide) (fun c28 => absurd c28 (by decide)) (fun c28 => ?_)
  refine RD.iload_n (pc := 31) dX5_systemCall_31 rfl ?_
  refine RD.bipush (pc := 32) (v := 6) dX5_systemCall_32 (by decide) ?_
  refine RD.icmp_ne (pc := 34) 52 dX5_systemCall_34 (by decide) (fun c34 => ?_) (fun c34 => absurd c34 (by decide))
  refine RD.iload_n (pc := 52) dX5_systemCall_52 rfl ?_
  refine RD.tableIn (pc := 53) 189 dX5_systemCall_53 (by decide) (by decide) rfl (by decide) ?_
  refine RD.aload_n (pc := 189) dX5_systemCall_189 rfl ?_
  refine RD.aload_n (pc := 190) dX5_systemCall_190 rfl ?_
  refine RD.cV0 (pc := 191) dX5_systemCall_191 mlX5_195 rfl (ok2 hi) rfl hc (leb rfl) ?_
  refine RD.putf (pc := 194) dX5_systemCall_194 fpX5_108 (ok2 hi) rfl rfl rfl rfl ?_
  refine RD.goto (pc := 197) 295 dX5_systemCall_197 (by decide) ?_
  refine RD.ret (pc := 295) ⟨rfl, dX5_systemCall_295⟩ ?_
  exact ⟨rfl, rfl⟩

set_option maxRecDepth 20000 in
set_option maxHeartbeats 1000000 in
theorem c_sys7 (K : EK) (d : Nat) {i : Nat} (hi : i < 8) (D : DT) {r : Int32} {D2 : DT} (hc : CF K mX5_read d [rR (0, 0, 0), rR (2, i, 0), rI (D (3, i, 0) 120), rI (D (3, i, 0) 121)] D (some (rI r)) D2) : CF K mX5_systemCall (d + 1) [rR (0, 0, 0), rR (2, i, 0), rI 7] D (none) (up D2 (2, i, 0) 2 r) := by
  refine CF.of [some (rR (0, 0, 0)), some (rR (2, i, 0)), some (rI 7), none, none, none] (by decide) (leb rfl) rfl ?_
  refine RD.aload_n (pc := 0) dX5_systemCall_0 rfl ?_
  refine RD.getR (pc := 1) dX5_systemCall_1 flX5_33 (ok2 hi) rfl rfl ?_
  refine RD.bipush (pc := 4) (v := 120) dX5_systemCall_4 (by decide) ?_
  refine RD.iL (pc := 6) 120 (v := D (3, i, 0) 120) rfl dX5_systemCall_6 (ok3 hi) rfl rfl (by decide) (by decide) ?_
  refine RD.istore_n (pc := 7) (ls' := [some (rR (0, 0, 0)), some (rR (2, i, 0)), some (rI 7), some (rI (D (3, i, 0) 120)), none, none]) dX5_systemCall_7 (by decide) rfl ?_
  refine RD.aload_n (pc := 8) dX5_systemCall_8 rfl ?_
  refine RD.getR (pc := 9) dX5_systemCall_9 flX5_33 (ok2 hi) rfl rfl ?_
  refine RD.bipush (pc := 12) (v := 121) dX5_systemCall_12 (by decide) ?_
  refine RD.iL (pc := 14) 121 (v := D (3, i, 0) 121) rfl dX5_systemCall_14 (ok3 hi) rfl rfl (by decide) (by decide) ?_
  refine RD.istore (pc := 15) (ls' := [some (rR (0, 0, 0)), some (rR (2, i, 0)), some (rI 7), some (rI (D (3, i, 0) 120)), some (rI (D (3, i, 0) 121)), none]) dX5_systemCall_15 (by decide) rfl ?_
  refine RD.aload_n (pc := 17) dX5_systemCall_17 rfl ?_
  refine RD.getR (pc := 18) dX5_systemCall_18 flX5_33 (ok2 hi) rfl rfl ?_
  refine RD.bipush (pc := 21) (v := 122) dX5_systemCall_21 (by decide) ?_
  refine RD.iL (pc := 23) 122 (v := D (3, i, 0) 122) rfl dX5_systemCall_23 (ok3 hi) rfl rfl (by decide) (by decide) ?_
  refine RD.istore (pc := 24) (ls' := [some (rR (0, 0, 0)), some (rR (2, i, 0)), some (rI 7), some (rI (D (3, i, 0) 120)), some (rI (D (3, i, 0) 121)), some (rI (D (3, i, 0) 122))]) dX5_systemCall_24 (by decide) rfl ?_
  refine RD.iload_n (pc := 26) dX5_systemCall_26 rfl ?_
  refine RD.iconst (pc := 27) (v := 1) dX5_systemCall_27 (by decide) ?_
  refine RD.icmp_eq (pc := 28) 37 dX5_systemCall_28 (by decide) (fun c28 => absurd c28 (by decide)) (fun c28 => ?_)
  refine RD.iload_n (pc := 31) dX5_systemCall_31 rfl ?_
  refine RD.bipush (pc := 32) (v := 6) dX5_systemCall_32 (by decide) ?_
  refine RD.icmp_ne (pc := 34) 52 dX5_systemCall_34 (by decide) (fun c34 => ?_) (fun c34 => absurd c34 (by decide))
  refine RD.iload_n (pc := 52) dX5_systemCall_52 rfl ?_
  refine RD.tableIn (pc := 53) 215 dX5_systemCall_53 (by decide) (by decide) rfl (by decide) ?_
  refine RD.aload_n (pc := 215) dX5_systemCall_215 rfl ?_
  refine RD.aload_n (pc := 216) dX5_systemCall_216 rfl ?_
  refine RD.aload_n (pc := 217) dX5_systemCall_217 rfl ?_
  refine RD.iload_n (pc := 218) dX5_systemCall_218 rfl ?_
  refine RD.iload (pc := 219) dX5_systemCall_219 rfl ?_
  refine RD.cV3 (pc := 221) dX5_systemCall_221 mlX5_201 rfl ok0 rfl hc (leb rfl) ?_
  refine RD.putf (pc := 224) dX5_systemCall_224 fpX5_108 (ok2 hi) rfl rfl rfl rfl ?_
  refine RD.goto (pc := 227) 295 dX5_systemCall_227 (by decide) ?_
  refine RD.ret (pc := 295) ⟨rfl, dX5_systemCall_295⟩ ?_
  exact ⟨rfl, rfl⟩

set_option maxRecDepth 20000 in
set_option maxHeartbeats 1000000 in
theorem c_sys8 (K : EK) (d : Nat) {i : Nat} (hi : i < 8) (D : DT) {r : Int32} {D2 : DT} (hc : CF K mX5_write d [rR (0, 0, 0), rR (2, i, 0), rI (D (3, i, 0) 120), rI (D (3, i, 0) 121), rI (D (3, i, 0) 122)] D (some (rI r)) D2) : CF K mX5_systemCall (d + 1) [rR (0, 0, 0), rR (2, i, 0), rI 8] D (none) (up D2 (2, i, 0) 2 r) := by
  refine CF.of [some (rR (0, 0, 0)), some (rR (2, i, 0)), some (rI 8), none, none, none] (by decide) (leb rfl) rfl ?_
  refine RD.aload_n (pc := 0) dX5_systemCall_0 rfl ?_
  refine RD.getR (pc := 1) dX5_systemCall_1 flX5_33 (ok2 hi) rfl rfl ?_
  refine RD.bipush (pc := 4) (v := 120) dX5_systemCall_4 (by decide) ?_
  refine RD.iL (pc := 6) 120 (v := D (3, i, 0) 120) rfl dX5_systemCall_6 (ok3 hi) rfl rfl (by decide) (by decide) ?_
  refine RD.istore_n (pc := 7) (ls' := [some (rR (0, 0, 0)), some (rR (2, i, 0)), some (rI 8), some (rI (D (3, i, 0) 120)), none, none]) dX5_systemCall_7 (by decide) rfl ?_
  refine RD.aload_n (pc := 8) dX5_systemCall_8 rfl ?_
  refine RD.getR (pc := 9) dX5_systemCall_9 flX5_33 (ok2 hi) rfl rfl ?_
  refine RD.bipush (pc := 12) (v := 121) dX5_systemCall_12 (by decide) ?_
  refine RD.iL (pc := 14) 121 (v := D (3, i, 0) 121) rfl dX5_systemCall_14 (ok3 hi) rfl rfl (by decide) (by decide) ?_
  refine RD.istore (pc := 15) (ls' := [some (rR (0, 0, 0)), some (rR (2, i, 0)), some (rI 8), some (rI (D (3, i, 0) 120)), some (rI (D (3, i, 0) 121)), none]) dX5_systemCall_15 (by decide) rfl ?_
  refine RD.aload_n (pc := 17) dX5_systemCall_17 rfl ?_
  refine RD.getR (pc := 18) dX5_systemCall_18 flX5_33 (ok2 hi) rfl rfl ?_
  refine RD.bipush (pc := 21) (v := 122) dX5_systemCall_21 (by decide) ?_
  refine RD.iL (pc := 23) 122 (v := D (3, i, 0) 122) rfl dX5_systemCall_23 (ok3 hi) rfl rfl (by decide) (by decide) ?_
  refine RD.istore (pc := 24) (ls' := [some (rR (0, 0, 0)), some (rR (2, i, 0)), some (rI 8), some (rI (D (3, i, 0) 120)), some (rI (D (3, i, 0) 121)), some (rI (D (3, i, 0) 122))]) dX5_systemCall_24 (by decide) rfl ?_
  refine RD.iload_n (pc := 26) dX5_systemCall_26 rfl ?_
  refine RD.iconst (pc := 27) (v := 1) dX5_systemCall_27 (by decide) ?_
  refine RD.icmp_eq (pc := 28) 37 dX5_systemCall_28 (by decide) (fun c28 => absurd c28 (by decide)) (fun c28 => ?_)
  refine RD.iload_n (pc := 31) dX5_systemCall_31 rfl ?_
  refine RD.bipush (pc := 32) (v := 6) dX5_systemCall_32 (by decide) ?_
  refine RD.icmp_ne (pc := 34) 52 dX5_systemCall_34 (by decide) (fun c34 => ?_) (fun c34 => absurd c34 (by decide))
  refine RD.iload_n (pc := 52) dX5_systemCall_52 rfl ?_
  refine RD.tableIn (pc := 53) 230 dX5_systemCall_53 (by decide) (by decide) rfl (by decide) ?_
  refine RD.aload_n (pc := 230) dX5_systemCall_230 rfl ?_
  refine RD.aload_n (pc := 231) dX5_systemCall_231 rfl ?_
  refine RD.aload_n (pc := 232) dX5_systemCall_232 rfl ?_
  refine RD.iload_n (pc := 233) dX5_systemCall_233 rfl ?_
  refine RD.iload (pc := 234) dX5_systemCall_234 rfl ?_
  refine RD.iload (pc := 236) dX5_systemCall_236 rfl ?_
  refine RD.cV4 (pc := 238) dX5_systemCall_238 mlX5_205 rfl ok0 rfl hc (leb rfl) ?_
  refine RD.putf (pc := 241) dX5_systemCall_241 fpX5_108 (ok2 hi) rfl rfl rfl rfl ?_
  refine RD.goto (pc := 244) 295 dX5_systemCall_244 (by decide) ?_
  refine RD.ret (pc := 295) ⟨rfl, dX5_systemCall_295⟩ ?_
  exact ⟨rfl, rfl⟩

set_option maxRecDepth 20000 in
set_option maxHeartbeats 1000000 in
theorem c_sys9 (K : EK) (d : Nat) {i : Nat} (hi : i < 8) (D : DT) {r : Int32} {D2 : DT} (hc : CF K mX5_spawn d [rR (0, 0, 0), rR (2, i, 0), rI (D (3, i, 0) 120), rI (D (3, i, 0) 121), rI (D (3, i, 0) 122)] D (some (rI r)) D2) : CF K mX5_systemCall (d + 1) [rR (0, 0, 0), rR (2, i, 0), rI 9] D (none) (up D2 (2, i, 0) 2 r) := by
  refine CF.of [some (rR (0, 0, 0)), some (rR (2, i, 0)), some (rI 9), none, none, none] (by decide) (leb rfl) rfl ?_
  refine RD.aload_n (pc := 0) dX5_systemCall_0 rfl ?_
  refine RD.getR (pc := 1) dX5_systemCall_1 flX5_33 (ok2 hi) rfl rfl ?_
  refine RD.bipush (pc := 4) (v := 120) dX5_systemCall_4 (by decide) ?_
  refine RD.iL (pc := 6) 120 (v := D (3, i, 0) 120) rfl dX5_systemCall_6 (ok3 hi) rfl rfl (by decide) (by decide) ?_
  refine RD.istore_n (pc := 7) (ls' := [some (rR (0, 0, 0)), some (rR (2, i, 0)), some (rI 9), some (rI (D (3, i, 0) 120)), none, none]) dX5_systemCall_7 (by decide) rfl ?_
  refine RD.aload_n (pc := 8) dX5_systemCall_8 rfl ?_
  refine RD.getR (pc := 9) dX5_systemCall_9 flX5_33 (ok2 hi) rfl rfl ?_
  refine RD.bipush (pc := 12) (v := 121) dX5_systemCall_12 (by decide) ?_
  refine RD.iL (pc := 14) 121 (v := D (3, i, 0) 121) rfl dX5_systemCall_14 (ok3 hi) rfl rfl (by decide) (by decide) ?_
  refine RD.istore (pc := 15) (ls' := [some (rR (0, 0, 0)), some (rR (2, i, 0)), some (rI 9), some (rI (D (3, i, 0) 120)), some (rI (D (3, i, 0) 121)), none]) dX5_systemCall_15 (by decide) rfl ?_
  refine RD.aload_n (pc := 17) dX5_systemCall_17 rfl ?_
  refine RD.getR (pc := 18) dX5_systemCall_18 flX5_33 (ok2 hi) rfl rfl ?_
  refine RD.bipush (pc := 21) (v := 122) dX5_systemCall_21 (by decide) ?_
  refine RD.iL (pc := 23) 122 (v := D (3, i, 0) 122) rfl dX5_systemCall_23 (ok3 hi) rfl rfl (by decide) (by decide) ?_
  refine RD.istore (pc := 24) (ls' := [some (rR (0, 0, 0)), some (rR (2, i, 0)), some (rI 9), some (rI (D (3, i, 0) 120)), some (rI (D (3, i, 0) 121)), some (rI (D (3, i, 0) 122))]) dX5_systemCall_24 (by decide) rfl ?_
  refine RD.iload_n (pc := 26) dX5_systemCall_26 rfl ?_
  refine RD.iconst (pc := 27) (v := 1) dX5_systemCall_27 (by decide) ?_
  refine RD.icmp_eq (pc := 28) 37 dX5_systemCall_28 (by decide) (fun c28 => absurd c28 (by decide)) (fun c28 => ?_)
  refine RD.iload_n (pc := 31) dX5_systemCall_31 rfl ?_
  refine RD.bipush (pc := 32) (v := 6) dX5_systemCall_32 (by decide) ?_
  refine RD.icmp_ne (pc := 34) 52 dX5_systemCall_34 (by decide) (fun c34 => ?_) (fun c34 => absurd c34 (by decide))
  refine RD.iload_n (pc := 52) dX5_systemCall_52 rfl ?_
  refine RD.tableIn (pc := 53) 247 dX5_systemCall_53 (by decide) (by decide) rfl (by decide) ?_
  refine RD.aload_n (pc := 247) dX5_systemCall_247 rfl ?_
  refine RD.aload_n (pc := 248) dX5_systemCall_248 rfl ?_
  refine RD.aload_n (pc := 249) dX5_systemCall_249 rfl ?_
  refine RD.iload_n (pc := 250) dX5_systemCall_250 rfl ?_
  refine RD.iload (pc := 251) dX5_systemCall_251 rfl ?_
  refine RD.iload (pc := 253) dX5_systemCall_253 rfl ?_
  refine RD.cV4 (pc := 255) dX5_systemCall_255 mlX5_208 rfl ok0 rfl hc (leb rfl) ?_
  refine RD.putf (pc := 258) dX5_systemCall_258 fpX5_108 (ok2 hi) rfl rfl rfl rfl ?_
  refine RD.goto (pc := 261) 295 dX5_systemCall_261 (by decide) ?_
  refine RD.ret (pc := 295) ⟨rfl, dX5_systemCall_295⟩ ?_
  exact ⟨rfl, rfl⟩

set_option maxRecDepth 20000 in
set_option maxHeartbeats 1000000 in
theorem c_sys10 (K : EK) (d : Nat) {i : Nat} (hi : i < 8) (D : DT) {r : Int32} {D2 : DT} (hc : CF K mX2_addOutput d [rR (2, i, 0), rI (D (3, i, 0) 120)] D (some (rI r)) D2) : CF K mX5_systemCall (d + 1) [rR (0, 0, 0), rR (2, i, 0), rI 10] D (none) (up D2 (2, i, 0) 2 r) := by
  refine CF.of [some (rR (0, 0, 0)), some (rR (2, i, 0)), some (rI 10), none, none, none] (by decide) (leb rfl) rfl ?_
  refine RD.aload_n (pc := 0) dX5_systemCall_0 rfl ?_
  refine RD.getR (pc := 1) dX5_systemCall_1 flX5_33 (ok2 hi) rfl rfl ?_
  refine RD.bipush (pc := 4) (v := 120) dX5_systemCall_4 (by decide) ?_
  refine RD.iL (pc := 6) 120 (v := D (3, i, 0) 120) rfl dX5_systemCall_6 (ok3 hi) rfl rfl (by decide) (by decide) ?_
  refine RD.istore_n (pc := 7) (ls' := [some (rR (0, 0, 0)), some (rR (2, i, 0)), some (rI 10), some (rI (D (3, i, 0) 120)), none, none]) dX5_systemCall_7 (by decide) rfl ?_
  refine RD.aload_n (pc := 8) dX5_systemCall_8 rfl ?_
  refine RD.getR (pc := 9) dX5_systemCall_9 flX5_33 (ok2 hi) rfl rfl ?_
  refine RD.bipush (pc := 12) (v := 121) dX5_systemCall_12 (by decide) ?_
  refine RD.iL (pc := 14) 121 (v := D (3, i, 0) 121) rfl dX5_systemCall_14 (ok3 hi) rfl rfl (by decide) (by decide) ?_
  refine RD.istore (pc := 15) (ls' := [some (rR (0, 0, 0)), some (rR (2, i, 0)), some (rI 10), some (rI (D (3, i, 0) 120)), some (rI (D (3, i, 0) 121)), none]) dX5_systemCall_15 (by decide) rfl ?_
  refine RD.aload_n (pc := 17) dX5_systemCall_17 rfl ?_
  refine RD.getR (pc := 18) dX5_systemCall_18 flX5_33 (ok2 hi) rfl rfl ?_
  refine RD.bipush (pc := 21) (v := 122) dX5_systemCall_21 (by decide) ?_
  refine RD.iL (pc := 23) 122 (v := D (3, i, 0) 122) rfl dX5_systemCall_23 (ok3 hi) rfl rfl (by decide) (by decide) ?_
  refine RD.istore (pc := 24) (ls' := [some (rR (0, 0, 0)), some (rR (2, i, 0)), some (rI 10), some (rI (D (3, i, 0) 120)), some (rI (D (3, i, 0) 121)), some (rI (D (3, i, 0) 122))]) dX5_systemCall_24 (by decide) rfl ?_
  refine RD.iload_n (pc := 26) dX5_systemCall_26 rfl ?_
  refine RD.iconst (pc := 27) (v := 1) dX5_systemCall_27 (by decide) ?_
  refine RD.icmp_eq (pc := 28) 37 dX5_systemCall_28 (by decide) (fun c28 => absurd c28 (by decide)) (fun c28 => ?_)
  refine RD.iload_n (pc := 31) dX5_systemCall_31 rfl ?_
  refine RD.bipush (pc := 32) (v := 6) dX5_systemCall_32 (by decide) ?_
  refine RD.icmp_ne (pc := 34) 52 dX5_systemCall_34 (by decide) (fun c34 => ?_) (fun c34 => absurd c34 (by decide))
  refine RD.iload_n (pc := 52) dX5_systemCall_52 rfl ?_
  refine RD.tableIn (pc := 53) 264 dX5_systemCall_53 (by decide) (by decide) rfl (by decide) ?_
  refine RD.aload_n (pc := 264) dX5_systemCall_264 rfl ?_
  refine RD.aload_n (pc := 265) dX5_systemCall_265 rfl ?_
  refine RD.iload_n (pc := 266) dX5_systemCall_266 rfl ?_
  refine RD.cV1 (pc := 267) dX5_systemCall_267 mlX5_211 rfl (ok2 hi) rfl hc (leb rfl) ?_
  refine RD.putf (pc := 270) dX5_systemCall_270 fpX5_108 (ok2 hi) rfl rfl rfl rfl ?_
  refine RD.goto (pc := 273) 295 dX5_systemCall_273 (by decide) ?_
  refine RD.ret (pc := 295) ⟨rfl, dX5_systemCall_295⟩ ?_
  exact ⟨rfl, rfl⟩

set_option maxRecDepth 20000 in
set_option maxHeartbeats 1000000 in
theorem c_sys11 (K : EK) (d : Nat) {i : Nat} (hi : i < 8) (D : DT) : CF K mX5_systemCall (d + 1) [rR (0, 0, 0), rR (2, i, 0), rI 11] D (none) (up D (2, i, 0) 2 (D (4, i, 0) 1)) := by
  refine CF.of [some (rR (0, 0, 0)), some (rR (2, i, 0)), some (rI 11), none, none, none] (by decide) (leb rfl) rfl ?_
  refine RD.aload_n (pc := 0) dX5_systemCall_0 rfl ?_
  refine RD.getR (pc := 1) dX5_systemCall_1 flX5_33 (ok2 hi) rfl rfl ?_
  refine RD.bipush (pc := 4) (v := 120) dX5_systemCall_4 (by decide) ?_
  refine RD.iL (pc := 6) 120 (v := D (3, i, 0) 120) rfl dX5_systemCall_6 (ok3 hi) rfl rfl (by decide) (by decide) ?_
  refine RD.istore_n (pc := 7) (ls' := [some (rR (0, 0, 0)), some (rR (2, i, 0)), some (rI 11), some (rI (D (3, i, 0) 120)), none, none]) dX5_systemCall_7 (by decide) rfl ?_
  refine RD.aload_n (pc := 8) dX5_systemCall_8 rfl ?_
  refine RD.getR (pc := 9) dX5_systemCall_9 flX5_33 (ok2 hi) rfl rfl ?_
  refine RD.bipush (pc := 12) (v := 121) dX5_systemCall_12 (by decide) ?_
  refine RD.iL (pc := 14) 121 (v := D (3, i, 0) 121) rfl dX5_systemCall_14 (ok3 hi) rfl rfl (by decide) (by decide) ?_
  refine RD.istore (pc := 15) (ls' := [some (rR (0, 0, 0)), some (rR (2, i, 0)), some (rI 11), some (rI (D (3, i, 0) 120)), some (rI (D (3, i, 0) 121)), none]) dX5_systemCall_15 (by decide) rfl ?_
  refine RD.aload_n (pc := 17) dX5_systemCall_17 rfl ?_
  refine RD.getR (pc := 18) dX5_systemCall_18 flX5_33 (ok2 hi) rfl rfl ?_
  refine RD.bipush (pc := 21) (v := 122) dX5_systemCall_21 (by decide) ?_
  refine RD.iL (pc := 23) 122 (v := D (3, i, 0) 122) rfl dX5_systemCall_23 (ok3 hi) rfl rfl (by decide) (by decide) ?_
  refine RD.istore (pc := 24) (ls' := [some (rR (0, 0, 0)), some (rR (2, i, 0)), some (rI 11), some (rI (D (3, i, 0) 120)), some (rI (D (3, i, 0) 121)), some (rI (D (3, i, 0) 122))]) dX5_systemCall_24 (by decide) rfl ?_
  refine RD.iload_n (pc := 26) dX5_systemCall_26 rfl ?_
  refine RD.iconst (pc := 27) (v := 1) dX5_systemCall_27 (by decide) ?_
  refine RD.icmp_eq (pc := 28) 37 dX5_systemCall_28 (by decide) (fun c28 => absurd c28 (by decide)) (fun c28 => ?_)
  refine RD.iload_n (pc := 31) dX5_systemCall_31 rfl ?_
  refine RD.bipush (pc := 32) (v := 6) dX5_systemCall_32 (by decide) ?_
  refine RD.icmp_ne (pc := 34) 52 dX5_systemCall_34 (by decide) (fun c34 => ?_) (fun c34 => absurd c34 (by decide))
  refine RD.iload_n (pc := 52) dX5_systemCall_52 rfl ?_
  refine RD.tableIn (pc := 53) 276 dX5_systemCall_53 (by decide) (by decide) rfl (by decide) ?_
  refine RD.aload_n (pc := 276) dX5_systemCall_276 rfl ?_
  refine RD.aload_n (pc := 277) dX5_systemCall_277 rfl ?_
  refine RD.getR (pc := 278) dX5_systemCall_278 flX5_46 (ok2 hi) rfl rfl ?_
  refine RD.gI (pc := 281) (v := D (4, i, 0) 1) rfl dX5_systemCall_281 flX5_71 (ok4 hi (by decide)) rfl rfl ?_
  refine RD.putf (pc := 284) dX5_systemCall_284 fpX5_108 (ok2 hi) rfl rfl rfl rfl ?_
  refine RD.goto (pc := 287) 295 dX5_systemCall_287 (by decide) ?_
  refine RD.ret (pc := 295) ⟨rfl, dX5_systemCall_295⟩ ?_
  exact ⟨rfl, rfl⟩

set_option maxRecDepth 20000 in
set_option maxHeartbeats 1000000 in
theorem c_sys1 (K : EK) (d : Nat) {i : Nat} (hi : i < 8) (D : DT) {r : Int32} {D2 D3 : DT} (hl : CF K mX5_readList d [rR (0, 0, 0), rR (2, i, 0), rI (D (3, i, 0) 120)] D (some (rI 1)) D2) (hc : CF K mX2_relabel d [rR (2, i, 0), rR (4, 8, 0)] D2 (some (rI r)) D3) : CF K mX5_systemCall (d + 1) [rR (0, 0, 0), rR (2, i, 0), rI 1] D (none) (up D3 (2, i, 0) 2 r) := by
  refine CF.of [some (rR (0, 0, 0)), some (rR (2, i, 0)), some (rI 1), none, none, none] (by decide) (leb rfl) rfl ?_
  refine RD.aload_n (pc := 0) dX5_systemCall_0 rfl ?_
  refine RD.getR (pc := 1) dX5_systemCall_1 flX5_33 (ok2 hi) rfl rfl ?_
  refine RD.bipush (pc := 4) (v := 120) dX5_systemCall_4 (by decide) ?_
  refine RD.iL (pc := 6) 120 (v := D (3, i, 0) 120) rfl dX5_systemCall_6 (ok3 hi) rfl rfl (by decide) (by decide) ?_
  refine RD.istore_n (pc := 7) (ls' := [some (rR (0, 0, 0)), some (rR (2, i, 0)), some (rI 1), some (rI (D (3, i, 0) 120)), none, none]) dX5_systemCall_7 (by decide) rfl ?_
  refine RD.aload_n (pc := 8) dX5_systemCall_8 rfl ?_
  refine RD.getR (pc := 9) dX5_systemCall_9 flX5_33 (ok2 hi) rfl rfl ?_
  refine RD.bipush (pc := 12) (v := 121) dX5_systemCall_12 (by decide) ?_
  refine RD.iL (pc := 14) 121 (v := D (3, i, 0) 121) rfl dX5_systemCall_14 (ok3 hi) rfl rfl (by decide) (by decide) ?_
  refine RD.istore (pc := 15) (ls' := [some (rR (0, 0, 0)), some (rR (2, i, 0)), some (rI 1), some (rI (D (3, i, 0) 120)), some (rI (D (3, i, 0) 121)), none]) dX5_systemCall_15 (by decide) rfl ?_
  refine RD.aload_n (pc := 17) dX5_systemCall_17 rfl ?_
  refine RD.getR (pc := 18) dX5_systemCall_18 flX5_33 (ok2 hi) rfl rfl ?_
  refine RD.bipush (pc := 21) (v := 122) dX5_systemCall_21 (by decide) ?_
  refine RD.iL (pc := 23) 122 (v := D (3, i, 0) 122) rfl dX5_systemCall_23 (ok3 hi) rfl rfl (by decide) (by decide) ?_
  refine RD.istore (pc := 24) (ls' := [some (rR (0, 0, 0)), some (rR (2, i, 0)), some (rI 1), some (rI (D (3, i, 0) 120)), some (rI (D (3, i, 0) 121)), some (rI (D (3, i, 0) 122))]) dX5_systemCall_24 (by decide) rfl ?_
  refine RD.iload_n (pc := 26) dX5_systemCall_26 rfl ?_
  refine RD.iconst (pc := 27) (v := 1) dX5_systemCall_27 (by decide) ?_
  refine RD.icmp_eq (pc := 28) 37 dX5_systemCall_28 (by decide) (fun c28 => ?_) (fun c28 => absurd (by decide) c28)
  refine RD.aload_n (pc := 37) dX5_systemCall_37 rfl ?_
  refine RD.aload_n (pc := 38) dX5_systemCall_38 rfl ?_
  refine RD.iload_n (pc := 39) dX5_systemCall_39 rfl ?_
  refine RD.cV2 (pc := 40) dX5_systemCall_40 mlX5_174 rfl ok0 rfl hl (leb rfl) ?_
  refine RD.if_ne (pc := 43) 52 dX5_systemCall_43 (by decide) (fun c43 => ?_) (fun c43 => absurd c43 (by decide))
  refine RD.iload_n (pc := 52) dX5_systemCall_52 rfl ?_
  refine RD.tableIn (pc := 53) 127 dX5_systemCall_53 (by decide) (by decide) rfl (by decide) ?_
  refine RD.aload_n (pc := 127) dX5_systemCall_127 rfl ?_
  refine RD.aload_n (pc := 128) dX5_systemCall_128 rfl ?_
  refine RD.aload_n (pc := 129) dX5_systemCall_129 rfl ?_
  refine RD.getR (pc := 130) dX5_systemCall_130 flX5_21 ok0 rfl rfl ?_
  refine RD.cV1 (pc := 133) dX5_systemCall_133 mlX5_181 rfl (ok2 hi) rfl hc (leb rfl) ?_
  refine RD.putf (pc := 136) dX5_systemCall_136 fpX5_108 (ok2 hi) rfl rfl rfl rfl ?_
  refine RD.goto (pc := 139) 295 dX5_systemCall_139 (by decide) ?_
  refine RD.ret (pc := 295) ⟨rfl, dX5_systemCall_295⟩ ?_
  exact ⟨rfl, rfl⟩

set_option maxRecDepth 20000 in
set_option maxHeartbeats 1000000 in
theorem c_sys1N (K : EK) (d : Nat) {i : Nat} (hi : i < 8) (D : DT) (hl : CF K mX5_readList d [rR (0, 0, 0), rR (2, i, 0), rI (D (3, i, 0) 120)] D (some (rI 0)) D) : CF K mX5_systemCall (d + 1) [rR (0, 0, 0), rR (2, i, 0), rI 1] D (none) (stopF D i 2) := by
  refine CF.of [some (rR (0, 0, 0)), some (rR (2, i, 0)), some (rI 1), none, none, none] (by decide) (leb rfl) rfl ?_
  refine RD.aload_n (pc := 0) dX5_systemCall_0 rfl ?_
  refine RD.getR (pc := 1) dX5_systemCall_1 flX5_33 (ok2 hi) rfl rfl ?_
  refine RD.bipush (pc := 4) (v := 120) dX5_systemCall_4 (by decide) ?_
  refine RD.iL (pc := 6) 120 (v := D (3, i, 0) 120) rfl dX5_systemCall_6 (ok3 hi) rfl rfl (by decide) (by decide) ?_
  refine RD.istore_n (pc := 7) (ls' := [some (rR (0, 0, 0)), some (rR (2, i, 0)), some (rI 1), some (rI (D (3, i, 0) 120)), none, none]) dX5_systemCall_7 (by decide) rfl ?_
  refine RD.aload_n (pc := 8) dX5_systemCall_8 rfl ?_
  refine RD.getR (pc := 9) dX5_systemCall_9 flX5_33 (ok2 hi) rfl rfl ?_
  refine RD.bipush (pc := 12) (v := 121) dX5_systemCall_12 (by decide) ?_
  refine RD.iL (pc := 14) 121 (v := D (3, i, 0) 121) rfl dX5_systemCall_14 (ok3 hi) rfl rfl (by decide) (by decide) ?_
  refine RD.istore (pc := 15) (ls' := [some (rR (0, 0, 0)), some (rR (2, i, 0)), some (rI 1), some (rI (D (3, i, 0) 120)), some (rI (D (3, i, 0) 121)), none]) dX5_systemCall_15 (by decide) rfl ?_
  refine RD.aload_n (pc := 17) dX5_systemCall_17 rfl ?_
  refine RD.getR (pc := 18) dX5_systemCall_18 flX5_33 (ok2 hi) rfl rfl ?_
  refine RD.bipush (pc := 21) (v := 122) dX5_systemCall_21 (by decide) ?_
  refine RD.iL (pc := 23) 122 (v := D (3, i, 0) 122) rfl dX5_systemCall_23 (ok3 hi) rfl rfl (by decide) (by decide) ?_
  refine RD.istore (pc := 24) (ls' := [some (rR (0, 0, 0)), some (rR (2, i, 0)), some (rI 1), some (rI (D (3, i, 0) 120)), some (rI (D (3, i, 0) 121)), some (rI (D (3, i, 0) 122))]) dX5_systemCall_24 (by decide) rfl ?_
  refine RD.iload_n (pc := 26) dX5_systemCall_26 rfl ?_
  refine RD.iconst (pc := 27) (v := 1) dX5_systemCall_27 (by decide) ?_
  refine RD.icmp_eq (pc := 28) 37 dX5_systemCall_28 (by decide) (fun c28 => ?_) (fun c28 => absurd (by decide) c28)
  refine RD.aload_n (pc := 37) dX5_systemCall_37 rfl ?_
  refine RD.aload_n (pc := 38) dX5_systemCall_38 rfl ?_
  refine RD.iload_n (pc := 39) dX5_systemCall_39 rfl ?_
  refine RD.cV2 (pc := 40) dX5_systemCall_40 mlX5_174 rfl ok0 rfl hl (leb rfl) ?_
  refine RD.if_ne (pc := 43) 52 dX5_systemCall_43 (by decide) (fun c43 => absurd rfl c43) (fun c43 => ?_)
  refine RD.aload_n (pc := 46) dX5_systemCall_46 rfl ?_
  refine RD.iconst (pc := 47) (v := 2) dX5_systemCall_47 (by decide) ?_
  refine RD.cV1v (pc := 48) dX5_systemCall_48 mlX5_151 rfl (ok2 hi) rfl (c_stopBy K _ hi D 2) (leb rfl) ?_
  refine RD.ret (pc := 51) ⟨rfl, dX5_systemCall_51⟩ ?_
  exact ⟨rfl, rfl⟩

set_option maxRecDepth 20000 in
set_option maxHeartbeats 1000000 in
theorem c_sys6 (K : EK) (d : Nat) {i : Nat} (hi : i < 8) (D : DT) {r : Int32} {D2 D3 : DT} (hl : CF K mX5_readList d [rR (0, 0, 0), rR (2, i, 0), rI (D (3, i, 0) 120)] D (some (rI 1)) D2) (hc : CF K mX2_createFile d [rR (2, i, 0), rR (4, 8, 0)] D2 (some (rI r)) D3) : CF K mX5_systemCall (d + 1) [rR (0, 0, 0), rR (2, i, 0), rI 6] D (none) (up D3 (2, i, 0) 2 r) := by
  refine CF.of [some (rR (0, 0, 0)), some (rR (2, i, 0)), some (rI 6), none, none, none] (by decide) (leb rfl) rfl ?_
  refine RD.aload_n (pc := 0) dX5_systemCall_0 rfl ?_
  refine RD.getR (pc := 1) dX5_systemCall_1 flX5_33 (ok2 hi) rfl rfl ?_
  refine RD.bipush (pc := 4) (v := 120) dX5_systemCall_4 (by decide) ?_
  refine RD.iL (pc := 6) 120 (v := D (3, i, 0) 120) rfl dX5_systemCall_6 (ok3 hi) rfl rfl (by decide) (by decide) ?_
  refine RD.istore_n (pc := 7) (ls' := [some (rR (0, 0, 0)), some (rR (2, i, 0)), some (rI 6), some (rI (D (3, i, 0) 120)), none, none]) dX5_systemCall_7 (by decide) rfl ?_
  refine RD.aload_n (pc := 8) dX5_systemCall_8 rfl ?_
  refine RD.getR (pc := 9) dX5_systemCall_9 flX5_33 (ok2 hi) rfl rfl ?_
  refine RD.bipush (pc := 12) (v := 121) dX5_systemCall_12 (by decide) ?_
  refine RD.iL (pc := 14) 121 (v := D (3, i, 0) 121) rfl dX5_systemCall_14 (ok3 hi) rfl rfl (by decide) (by decide) ?_
  refine RD.istore (pc := 15) (ls' := [some (rR (0, 0, 0)), some (rR (2, i, 0)), some (rI 6), some (rI (D (3, i, 0) 120)), some (rI (D (3, i, 0) 121)), none]) dX5_systemCall_15 (by decide) rfl ?_
  refine RD.aload_n (pc := 17) dX5_systemCall_17 rfl ?_
  refine RD.getR (pc := 18) dX5_systemCall_18 flX5_33 (ok2 hi) rfl rfl ?_
  refine RD.bipush (pc := 21) (v := 122) dX5_systemCall_21 (by decide) ?_
  refine RD.iL (pc := 23) 122 (v := D (3, i, 0) 122) rfl dX5_systemCall_23 (ok3 hi) rfl rfl (by decide) (by decide) ?_
  refine RD.istore (pc := 24) (ls' := [some (rR (0, 0, 0)), some (rR (2, i, 0)), some (rI 6), some (rI (D (3, i, 0) 120)), some (rI (D (3, i, 0) 121)), some (rI (D (3, i, 0) 122))]) dX5_systemCall_24 (by decide) rfl ?_
  refine RD.iload_n (pc := 26) dX5_systemCall_26 rfl ?_
  refine RD.iconst (pc := 27) (v := 1) dX5_systemCall_27 (by decide) ?_
  refine RD.icmp_eq (pc := 28) 37 dX5_systemCall_28 (by decide) (fun c28 => absurd c28 (by decide)) (fun c28 => ?_)
  refine RD.iload_n (pc := 31) dX5_systemCall_31 rfl ?_
  refine RD.bipush (pc := 32) (v := 6) dX5_systemCall_32 (by decide) ?_
  refine RD.icmp_ne (pc := 34) 52 dX5_systemCall_34 (by decide) (fun c34 => absurd (by decide) c34) (fun c34 => ?_)
  refine RD.aload_n (pc := 37) dX5_systemCall_37 rfl ?_
  refine RD.aload_n (pc := 38) dX5_systemCall_38 rfl ?_
  refine RD.iload_n (pc := 39) dX5_systemCall_39 rfl ?_
  refine RD.cV2 (pc := 40) dX5_systemCall_40 mlX5_174 rfl ok0 rfl hl (leb rfl) ?_
  refine RD.if_ne (pc := 43) 52 dX5_systemCall_43 (by decide) (fun c43 => ?_) (fun c43 => absurd c43 (by decide))
  refine RD.iload_n (pc := 52) dX5_systemCall_52 rfl ?_
  refine RD.tableIn (pc := 53) 200 dX5_systemCall_53 (by decide) (by decide) rfl (by decide) ?_
  refine RD.aload_n (pc := 200) dX5_systemCall_200 rfl ?_
  refine RD.aload_n (pc := 201) dX5_systemCall_201 rfl ?_
  refine RD.aload_n (pc := 202) dX5_systemCall_202 rfl ?_
  refine RD.getR (pc := 203) dX5_systemCall_203 flX5_21 ok0 rfl rfl ?_
  refine RD.cV1 (pc := 206) dX5_systemCall_206 mlX5_198 rfl (ok2 hi) rfl hc (leb rfl) ?_
  refine RD.putf (pc := 209) dX5_systemCall_209 fpX5_108 (ok2 hi) rfl rfl rfl rfl ?_
  refine RD.goto (pc := 212) 295 dX5_systemCall_212 (by decide) ?_
  refine RD.ret (pc := 295) ⟨rfl, dX5_systemCall_295⟩ ?_
  exact ⟨rfl, rfl⟩

set_option maxRecDepth 20000 in
set_option maxHeartbeats 1000000 in
theorem c_sys6N (K : EK) (d : Nat) {i : Nat} (hi : i < 8) (D : DT) (hl : CF K mX5_readList d [rR (0, 0, 0), rR (2, i, 0), rI (D (3, i, 0) 120)] D (some (rI 0)) D) : CF K mX5_systemCall (d + 1) [rR (0, 0, 0), rR (2, i, 0), rI 6] D (none) (stopF D i 2) := by
  refine CF.of [some (rR (0, 0, 0)), some (rR (2, i, 0)), some (rI 6), none, none, none] (by decide) (leb rfl) rfl ?_
  refine RD.aload_n (pc := 0) dX5_systemCall_0 rfl ?_
  refine RD.getR (pc := 1) dX5_systemCall_1 flX5_33 (ok2 hi) rfl rfl ?_
  refine RD.bipush (pc := 4) (v := 120) dX5_systemCall_4 (by decide) ?_
  refine RD.iL (pc := 6) 120 (v := D (3, i, 0) 120) rfl dX5_systemCall_6 (ok3 hi) rfl rfl (by decide) (by decide) ?_
  refine RD.istore_n (pc := 7) (ls' := [some (rR (0, 0, 0)), some (rR (2, i, 0)), some (rI 6), some (rI (D (3, i, 0) 120)), none, none]) dX5_systemCall_7 (by decide) rfl ?_
  refine RD.aload_n (pc := 8) dX5_systemCall_8 rfl ?_
  refine RD.getR (pc := 9) dX5_systemCall_9 flX5_33 (ok2 hi) rfl rfl ?_
  refine RD.bipush (pc := 12) (v := 121) dX5_systemCall_12 (by decide) ?_
  refine RD.iL (pc := 14) 121 (v := D (3, i, 0) 121) rfl dX5_systemCall_14 (ok3 hi) rfl rfl (by decide) (by decide) ?_
  refine RD.istore (pc := 15) (ls' := [some (rR (0, 0, 0)), some (rR (2, i, 0)), some (rI 6), some (rI (D (3, i, 0) 120)), some (rI (D (3, i, 0) 121)), none]) dX5_systemCall_15 (by decide) rfl ?_
  refine RD.aload_n (pc := 17) dX5_systemCall_17 rfl ?_
  refine RD.getR (pc := 18) dX5_systemCall_18 flX5_33 (ok2 hi) rfl rfl ?_
  refine RD.bipush (pc := 21) (v := 122) dX5_systemCall_21 (by decide) ?_
  refine RD.iL (pc := 23) 122 (v := D (3, i, 0) 122) rfl dX5_systemCall_23 (ok3 hi) rfl rfl (by decide) (by decide) ?_
  refine RD.istore (pc := 24) (ls' := [some (rR (0, 0, 0)), some (rR (2, i, 0)), some (rI 6), some (rI (D (3, i, 0) 120)), some (rI (D (3, i, 0) 121)), some (rI (D (3, i, 0) 122))]) dX5_systemCall_24 (by decide) rfl ?_
  refine RD.iload_n (pc := 26) dX5_systemCall_26 rfl ?_
  refine RD.iconst (pc := 27) (v := 1) dX5_systemCall_27 (by decide) ?_
  refine RD.icmp_eq (pc := 28) 37 dX5_systemCall_28 (by decide) (fun c28 => absurd c28 (by decide)) (fun c28 => ?_)
  refine RD.iload_n (pc := 31) dX5_systemCall_31 rfl ?_
  refine RD.bipush (pc := 32) (v := 6) dX5_systemCall_32 (by decide) ?_
  refine RD.icmp_ne (pc := 34) 52 dX5_systemCall_34 (by decide) (fun c34 => absurd (by decide) c34) (fun c34 => ?_)
  refine RD.aload_n (pc := 37) dX5_systemCall_37 rfl ?_
  refine RD.aload_n (pc := 38) dX5_systemCall_38 rfl ?_
  refine RD.iload_n (pc := 39) dX5_systemCall_39 rfl ?_
  refine RD.cV2 (pc := 40) dX5_systemCall_40 mlX5_174 rfl ok0 rfl hl (leb rfl) ?_
  refine RD.if_ne (pc := 43) 52 dX5_systemCall_43 (by decide) (fun c43 => absurd rfl c43) (fun c43 => ?_)
  refine RD.aload_n (pc := 46) dX5_systemCall_46 rfl ?_
  refine RD.iconst (pc := 47) (v := 2) dX5_systemCall_47 (by decide) ?_
  refine RD.cV1v (pc := 48) dX5_systemCall_48 mlX5_151 rfl (ok2 hi) rfl (c_stopBy K _ hi D 2) (leb rfl) ?_
  refine RD.ret (pc := 51) ⟨rfl, dX5_systemCall_51⟩ ?_
  exact ⟨rfl, rfl⟩

set_option maxRecDepth 20000 in
set_option maxHeartbeats 1000000 in
theorem c_sysX (K : EK) (d : Nat) {i : Nat} (hi : i < 8) (D : DT) (x : Int32) (h : x.toInt < 0 ∨ 11 < x.toInt) : CF K mX5_systemCall (d + 1) [rR (0, 0, 0), rR (2, i, 0), rI x] D (none) (stopF D i 1) := by
  refine CF.of [some (rR (0, 0, 0)), some (rR (2, i, 0)), some (rI x), none, none, none] (by decide) (leb rfl) rfl ?_
  refine RD.aload_n (pc := 0) dX5_systemCall_0 rfl ?_
  refine RD.getR (pc := 1) dX5_systemCall_1 flX5_33 (ok2 hi) rfl rfl ?_
  refine RD.bipush (pc := 4) (v := 120) dX5_systemCall_4 (by decide) ?_
  refine RD.iL (pc := 6) 120 (v := D (3, i, 0) 120) rfl dX5_systemCall_6 (ok3 hi) rfl rfl (by decide) (by decide) ?_
  refine RD.istore_n (pc := 7) (ls' := [some (rR (0, 0, 0)), some (rR (2, i, 0)), some (rI x), some (rI (D (3, i, 0) 120)), none, none]) dX5_systemCall_7 (by decide) rfl ?_
  refine RD.aload_n (pc := 8) dX5_systemCall_8 rfl ?_
  refine RD.getR (pc := 9) dX5_systemCall_9 flX5_33 (ok2 hi) rfl rfl ?_
  refine RD.bipush (pc := 12) (v := 121) dX5_systemCall_12 (by decide) ?_
  refine RD.iL (pc := 14) 121 (v := D (3, i, 0) 121) rfl dX5_systemCall_14 (ok3 hi) rfl rfl (by decide) (by decide) ?_
  refine RD.istore (pc := 15) (ls' := [some (rR (0, 0, 0)), some (rR (2, i, 0)), some (rI x), some (rI (D (3, i, 0) 120)), some (rI (D (3, i, 0) 121)), none]) dX5_systemCall_15 (by decide) rfl ?_
  refine RD.aload_n (pc := 17) dX5_systemCall_17 rfl ?_
  refine RD.getR (pc := 18) dX5_systemCall_18 flX5_33 (ok2 hi) rfl rfl ?_
  refine RD.bipush (pc := 21) (v := 122) dX5_systemCall_21 (by decide) ?_
  refine RD.iL (pc := 23) 122 (v := D (3, i, 0) 122) rfl dX5_systemCall_23 (ok3 hi) rfl rfl (by decide) (by decide) ?_
  refine RD.istore (pc := 24) (ls' := [some (rR (0, 0, 0)), some (rR (2, i, 0)), some (rI x), some (rI (D (3, i, 0) 120)), some (rI (D (3, i, 0) 121)), some (rI (D (3, i, 0) 122))]) dX5_systemCall_24 (by decide) rfl ?_
  refine RD.iload_n (pc := 26) dX5_systemCall_26 rfl ?_
  refine RD.iconst (pc := 27) (v := 1) dX5_systemCall_27 (by decide) ?_
  refine RD.icmp_eq (pc := 28) 37 dX5_systemCall_28 (by decide) (fun c28 => absurd c28 (fun e => by rw [e] at h; revert h; decide)) (fun c28 => ?_)
  refine RD.iload_n (pc := 31) dX5_systemCall_31 rfl ?_
  refine RD.bipush (pc := 32) (v := 6) dX5_systemCall_32 (by decide) ?_
  refine RD.icmp_ne (pc := 34) 52 dX5_systemCall_34 (by decide) (fun c34 => ?_) (fun c34 => absurd c34 (fun e => by rw [e] at h; revert h; decide))
  refine RD.iload_n (pc := 52) dX5_systemCall_52 rfl ?_
  refine RD.tableOut (pc := 53) 290 dX5_systemCall_53 h (by decide) ?_
  refine RD.aload_n (pc := 290) dX5_systemCall_290 rfl ?_
  refine RD.iconst (pc := 291) (v := 1) dX5_systemCall_291 (by decide) ?_
  refine RD.cV1v (pc := 292) dX5_systemCall_292 mlX5_151 rfl (ok2 hi) rfl (c_stopBy K _ hi D 1) (leb rfl) ?_
  refine RD.ret (pc := 295) ⟨rfl, dX5_systemCall_295⟩ ?_
  exact ⟨rfl, rfl⟩

set_option maxRecDepth 20000 in
set_option maxHeartbeats 1000000 in
theorem c_stepN (K : EK) (d : Nat) {i : Nat} (hi : i < 8) (D : DT) (h : inR (D (2, i, 0) 3) 128 = false) : CF K mX5_step (d + 1) [rR (0, 0, 0), rR (2, i, 0)] D (none) (stopF D i 2) := by
  refine CF.of [some (rR (0, 0, 0)), some (rR (2, i, 0)), none, none, none] (by decide) (leb rfl) rfl ?_
  refine RD.aload_n (pc := 0) dX5_step_0 rfl ?_
  refine RD.gI (pc := 1) (v := D (2, i, 0) 3) rfl dX5_step_1 flX5_111 (ok2 hi) rfl rfl ?_
  refine RD.cS1 (pc := 4) dX5_step_4 mlX5_102 (c_isPlace K _ D (D (2, i, 0) 3)) (leb rfl) ?_
  refine RD.if_ne (pc := 7) 16 dX5_step_7 (by decide) (fun c7 => absurd (bIout h) c7) (fun c7 => ?_)
  refine RD.aload_n (pc := 10) dX5_step_10 rfl ?_
  refine RD.iconst (pc := 11) (v := 2) dX5_step_11 (by decide) ?_
  refine RD.cV1v (pc := 12) dX5_step_12 mlX5_151 rfl (ok2 hi) rfl (c_stopBy K _ hi D 2) (leb rfl) ?_
  refine RD.ret (pc := 15) ⟨rfl, dX5_step_15⟩ ?_
  exact ⟨rfl, rfl⟩

set_option maxRecDepth 20000 in
set_option maxHeartbeats 1000000 in
theorem c_step16 (K : EK) (d : Nat) {i : Nat} (hi : i < 8) (D : DT) {q : Nat} {op x : Int32} (hq : q < 128) (hpl : D (2, i, 0) 3 = nI q) (hop : D (3, i, 0) q &&& 31 = op) (hx : D (3, i, 0) q >>> ((5 : Int32) &&& 31) = x) {D2 : DT} (h16 : op = 16) (hc : CF K mX5_systemCall d [rR (0, 0, 0), rR (2, i, 0), rI x] (up D (2, i, 0) 3 (nI q + 1)) none D2) : CF K mX5_step (d + 1) [rR (0, 0, 0), rR (2, i, 0)] D (none) D2 := by
  refine CF.of [some (rR (0, 0, 0)), some (rR (2, i, 0)), none, none, none] (by decide) (leb rfl) rfl ?_
  refine RD.aload_n (pc := 0) dX5_step_0 rfl ?_
  refine RD.gI (pc := 1) (v := nI q) hpl dX5_step_1 flX5_111 (ok2 hi) rfl rfl ?_
  refine RD.cS1 (pc := 4) dX5_step_4 mlX5_102 (c_isPlace K _ D (nI q)) (leb rfl) ?_
  refine RD.if_ne (pc := 7) 16 dX5_step_7 (by decide) (fun c7 => ?_) (fun c7 => absurd c7 (bIin (by decide) hq))
  refine RD.aload_n (pc := 16) dX5_step_16 rfl ?_
  refine RD.getR (pc := 17) dX5_step_17 flX5_33 (ok2 hi) rfl rfl ?_
  refine RD.aload_n (pc := 20) dX5_step_20 rfl ?_
  refine RD.gI (pc := 21) (v := nI q) hpl dX5_step_21 flX5_111 (ok2 hi) rfl rfl ?_
  refine RD.iL (pc := 24) q (v := D (3, i, 0) q) rfl dX5_step_24 (ok3 hi) rfl rfl hq (by decide) ?_
  refine RD.istore_n (pc := 25) (ls' := [some (rR (0, 0, 0)), some (rR (2, i, 0)), some (rI (D (3, i, 0) q)), none, none]) dX5_step_25 (by decide) rfl ?_
  refine RD.iload_n (pc := 26) dX5_step_26 rfl ?_
  refine RD.bipush (pc := 27) (v := 31) dX5_step_27 (by decide) ?_
  refine RD.iand (pc := 29) dX5_step_29 ?_
  refine RD.eqI hop ?_
  refine RD.istore_n (pc := 30) (ls' := [some (rR (0, 0, 0)), some (rR (2, i, 0)), some (rI (D (3, i, 0) q)), some (rI op), none]) dX5_step_30 (by decide) rfl ?_
  refine RD.iload_n (pc := 31) dX5_step_31 rfl ?_
  refine RD.iconst (pc := 32) (v := 5) dX5_step_32 (by decide) ?_
  refine RD.ishr (pc := 33) dX5_step_33 ?_
  refine RD.eqI hx ?_
  refine RD.istore (pc := 34) (ls' := [some (rR (0, 0, 0)), some (rR (2, i, 0)), some (rI (D (3, i, 0) q)), some (rI op), some (rI x)]) dX5_step_34 (by decide) rfl ?_
  refine RD.aload_n (pc := 36) dX5_step_36 rfl ?_
  refine RD.dup (pc := 37) dX5_step_37 ?_
  refine RD.gI (pc := 38) (v := nI q) hpl dX5_step_38 flX5_111 (ok2 hi) rfl rfl ?_
  refine RD.iconst (pc := 41) (v := 1) dX5_step_41 (by decide) ?_
  refine RD.iadd (pc := 42) dX5_step_42 ?_
  refine RD.putf (pc := 43) dX5_step_43 fpX5_111 (ok2 hi) rfl rfl rfl rfl ?_
  refine RD.iload_n (pc := 46) dX5_step_46 rfl ?_
  refine RD.bipush (pc := 47) (v := 16) dX5_step_47 (by decide) ?_
  refine RD.icmp_ne (pc := 49) 62 dX5_step_49 (by decide) (fun c49 => absurd h16 c49) (fun c49 => ?_)
  refine RD.aload_n (pc := 52) dX5_step_52 rfl ?_
  refine RD.aload_n (pc := 53) dX5_step_53 rfl ?_
  refine RD.iload (pc := 54) dX5_step_54 rfl ?_
  refine RD.cV2v (pc := 56) dX5_step_56 mlX5_154 rfl ok0 rfl hc (leb rfl) ?_
  refine RD.goto (pc := 59) 102 dX5_step_59 (by decide) ?_
  refine RD.ret (pc := 102) ⟨rfl, dX5_step_102⟩ ?_
  exact ⟨rfl, rfl⟩

set_option maxRecDepth 20000 in
set_option maxHeartbeats 1000000 in
theorem c_stepP (K : EK) (d : Nat) {i : Nat} (hi : i < 8) (D : DT) {q : Nat} {op x : Int32} (hq : q < 128) (hpl : D (2, i, 0) 3 = nI q) (hop : D (3, i, 0) q &&& 31 = op) (hx : D (3, i, 0) q >>> ((5 : Int32) &&& 31) = x) {D2 : DT} (h16 : ¬ op = 16) (hwc : wcB op = false) (hc : CF K mX5_plainInstruction d [rR (2, i, 0), rI op, rI x] (up D (2, i, 0) 3 (nI q + 1)) none D2) : CF K mX5_step (d + 1) [rR (0, 0, 0), rR (2, i, 0)] D (none) D2 := by
  refine CF.of [some (rR (0, 0, 0)), some (rR (2, i, 0)), none, none, none] (by decide) (leb rfl) rfl ?_
  refine RD.aload_n (pc := 0) dX5_step_0 rfl ?_
  refine RD.gI (pc := 1) (v := nI q) hpl dX5_step_1 flX5_111 (ok2 hi) rfl rfl ?_
  refine RD.cS1 (pc := 4) dX5_step_4 mlX5_102 (c_isPlace K _ D (nI q)) (leb rfl) ?_
  refine RD.if_ne (pc := 7) 16 dX5_step_7 (by decide) (fun c7 => ?_) (fun c7 => absurd c7 (bIin (by decide) hq))
  refine RD.aload_n (pc := 16) dX5_step_16 rfl ?_
  refine RD.getR (pc := 17) dX5_step_17 flX5_33 (ok2 hi) rfl rfl ?_
  refine RD.aload_n (pc := 20) dX5_step_20 rfl ?_
  refine RD.gI (pc := 21) (v := nI q) hpl dX5_step_21 flX5_111 (ok2 hi) rfl rfl ?_
  refine RD.iL (pc := 24) q (v := D (3, i, 0) q) rfl dX5_step_24 (ok3 hi) rfl rfl hq (by decide) ?_
  refine RD.istore_n (pc := 25) (ls' := [some (rR (0, 0, 0)), some (rR (2, i, 0)), some (rI (D (3, i, 0) q)), none, none]) dX5_step_25 (by decide) rfl ?_
  refine RD.iload_n (pc := 26) dX5_step_26 rfl ?_
  refine RD.bipush (pc := 27) (v := 31) dX5_step_27 (by decide) ?_
  refine RD.iand (pc := 29) dX5_step_29 ?_
  refine RD.eqI hop ?_
  refine RD.istore_n (pc := 30) (ls' := [some (rR (0, 0, 0)), some (rR (2, i, 0)), some (rI (D (3, i, 0) q)), some (rI op), none]) dX5_step_30 (by decide) rfl ?_
  refine RD.iload_n (pc := 31) dX5_step_31 rfl ?_
  refine RD.iconst (pc := 32) (v := 5) dX5_step_32 (by decide) ?_
  refine RD.ishr (pc := 33) dX5_step_33 ?_
  refine RD.eqI hx ?_
  refine RD.istore (pc := 34) (ls' := [some (rR (0, 0, 0)), some (rR (2, i, 0)), some (rI (D (3, i, 0) q)), some (rI op), some (rI x)]) dX5_step_34 (by decide) rfl ?_
  refine RD.aload_n (pc := 36) dX5_step_36 rfl ?_
  refine RD.dup (pc := 37) dX5_step_37 ?_
  refine RD.gI (pc := 38) (v := nI q) hpl dX5_step_38 flX5_111 (ok2 hi) rfl rfl ?_
  refine RD.iconst (pc := 41) (v := 1) dX5_step_41 (by decide) ?_
  refine RD.iadd (pc := 42) dX5_step_42 ?_
  refine RD.putf (pc := 43) dX5_step_43 fpX5_111 (ok2 hi) rfl rfl rfl rfl ?_
  refine RD.iload_n (pc := 46) dX5_step_46 rfl ?_
  refine RD.bipush (pc := 47) (v := 16) dX5_step_47 (by decide) ?_
  refine RD.icmp_ne (pc := 49) 62 dX5_step_49 (by decide) (fun c49 => ?_) (fun c49 => absurd c49 h16)
  refine RD.iload_n (pc := 62) dX5_step_62 rfl ?_
  refine RD.cS1 (pc := 63) dX5_step_63 mlX5_158 (c_wantsCell K _ (up D (2, i, 0) 3 ((nI q) + 1)) op) (leb rfl) ?_
  refine RD.if_ne (pc := 66) 79 dX5_step_66 (by decide) (fun c66 => absurd (by rw [hwc]; rfl) c66) (fun c66 => ?_)
  refine RD.aload_n (pc := 69) dX5_step_69 rfl ?_
  refine RD.iload_n (pc := 70) dX5_step_70 rfl ?_
  refine RD.iload (pc := 71) dX5_step_71 rfl ?_
  refine RD.cS3v (pc := 73) dX5_step_73 mlX5_161 hc (leb rfl) ?_
  refine RD.goto (pc := 76) 102 dX5_step_76 (by decide) ?_
  refine RD.ret (pc := 102) ⟨rfl, dX5_step_102⟩ ?_
  exact ⟨rfl, rfl⟩

set_option maxRecDepth 20000 in
set_option maxHeartbeats 1000000 in
theorem c_stepC (K : EK) (d : Nat) {i : Nat} (hi : i < 8) (D : DT) {q : Nat} {op x : Int32} (hq : q < 128) (hpl : D (2, i, 0) 3 = nI q) (hop : D (3, i, 0) q &&& 31 = op) (hx : D (3, i, 0) q >>> ((5 : Int32) &&& 31) = x) {D2 : DT} (h16 : ¬ op = 16) (hwc : wcB op = true) (hxp : inR x 128 = true) (hc : CF K mX5_cellInstruction d [rR (2, i, 0), rI op, rI x] (up D (2, i, 0) 3 (nI q + 1)) none D2) : CF K mX5_step (d + 1) [rR (0, 0, 0), rR (2, i, 0)] D (none) D2 := by
  refine CF.of [some (rR (0, 0, 0)), some (rR (2, i, 0)), none, none, none] (by decide) (leb rfl) rfl ?_
  refine RD.aload_n (pc := 0) dX5_step_0 rfl ?_
  refine RD.gI (pc := 1) (v := nI q) hpl dX5_step_1 flX5_111 (ok2 hi) rfl rfl ?_
  refine RD.cS1 (pc := 4) dX5_step_4 mlX5_102 (c_isPlace K _ D (nI q)) (leb rfl) ?_
  refine RD.if_ne (pc := 7) 16 dX5_step_7 (by decide) (fun c7 => ?_) (fun c7 => absurd c7 (bIin (by decide) hq))
  refine RD.aload_n (pc := 16) dX5_step_16 rfl ?_
  refine RD.getR (pc := 17) dX5_step_17 flX5_33 (ok2 hi) rfl rfl ?_
  refine RD.aload_n (pc := 20) dX5_step_20 rfl ?_
  refine RD.gI (pc := 21) (v := nI q) hpl dX5_step_21 flX5_111 (ok2 hi) rfl rfl ?_
  refine RD.iL (pc := 24) q (v := D (3, i, 0) q) rfl dX5_step_24 (ok3 hi) rfl rfl hq (by decide) ?_
  refine RD.istore_n (pc := 25) (ls' := [some (rR (0, 0, 0)), some (rR (2, i, 0)), some (rI (D (3, i, 0) q)), none, none]) dX5_step_25 (by decide) rfl ?_
  refine RD.iload_n (pc := 26) dX5_step_26 rfl ?_
  refine RD.bipush (pc := 27) (v := 31) dX5_step_27 (by decide) ?_
  refine RD.iand (pc := 29) dX5_step_29 ?_
  refine RD.eqI hop ?_
  refine RD.istore_n (pc := 30) (ls' := [some (rR (0, 0, 0)), some (rR (2, i, 0)), some (rI (D (3, i, 0) q)), some (rI op), none]) dX5_step_30 (by decide) rfl ?_
  refine RD.iload_n (pc := 31) dX5_step_31 rfl ?_
  refine RD.iconst (pc := 32) (v := 5) dX5_step_32 (by decide) ?_
  refine RD.ishr (pc := 33) dX5_step_33 ?_
  refine RD.eqI hx ?_
  refine RD.istore (pc := 34) (ls' := [some (rR (0, 0, 0)), some (rR (2, i, 0)), some (rI (D (3, i, 0) q)), some (rI op), some (rI x)]) dX5_step_34 (by decide) rfl ?_
  refine RD.aload_n (pc := 36) dX5_step_36 rfl ?_
  refine RD.dup (pc := 37) dX5_step_37 ?_
  refine RD.gI (pc := 38) (v := nI q) hpl dX5_step_38 flX5_111 (ok2 hi) rfl rfl ?_
  refine RD.iconst (pc := 41) (v := 1) dX5_step_41 (by decide) ?_
  refine RD.iadd (pc := 42) dX5_step_42 ?_
  refine RD.putf (pc := 43) dX5_step_43 fpX5_111 (ok2 hi) rfl rfl rfl rfl ?_
  refine RD.iload_n (pc := 46) dX5_step_46 rfl ?_
  refine RD.bipush (pc := 47) (v := 16) dX5_step_47 (by decide) ?_
  refine RD.icmp_ne (pc := 49) 62 dX5_step_49 (by decide) (fun c49 => ?_) (fun c49 => absurd c49 h16)
  refine RD.iload_n (pc := 62) dX5_step_62 rfl ?_
  refine RD.cS1 (pc := 63) dX5_step_63 mlX5_158 (c_wantsCell K _ (up D (2, i, 0) 3 ((nI q) + 1)) op) (leb rfl) ?_
  refine RD.if_ne (pc := 66) 79 dX5_step_66 (by decide) (fun c66 => ?_) (fun c66 => absurd c66 (by rw [hwc]; decide))
  refine RD.iload (pc := 79) dX5_step_79 rfl ?_
  refine RD.cS1 (pc := 81) dX5_step_81 mlX5_102 (c_isPlace K _ (up D (2, i, 0) 3 ((nI q) + 1)) x) (leb rfl) ?_
  refine RD.if_eq (pc := 84) 97 dX5_step_84 (by decide) (fun c84 => absurd c84 (by rw [hxp]; decide)) (fun c84 => ?_)
  refine RD.aload_n (pc := 87) dX5_step_87 rfl ?_
  refine RD.iload_n (pc := 88) dX5_step_88 rfl ?_
  refine RD.iload (pc := 89) dX5_step_89 rfl ?_
  refine RD.cS3v (pc := 91) dX5_step_91 mlX5_165 hc (leb rfl) ?_
  refine RD.goto (pc := 94) 102 dX5_step_94 (by decide) ?_
  refine RD.ret (pc := 102) ⟨rfl, dX5_step_102⟩ ?_
  exact ⟨rfl, rfl⟩

set_option maxRecDepth 20000 in
set_option maxHeartbeats 1000000 in
theorem c_stepT (K : EK) (d : Nat) {i : Nat} (hi : i < 8) (D : DT) {q : Nat} {op x : Int32} (hq : q < 128) (hpl : D (2, i, 0) 3 = nI q) (hop : D (3, i, 0) q &&& 31 = op) (hx : D (3, i, 0) q >>> ((5 : Int32) &&& 31) = x) (h16 : ¬ op = 16) (hwc : wcB op = true) (hxp : inR x 128 = false) : CF K mX5_step (d + 1) [rR (0, 0, 0), rR (2, i, 0)] D (none) (stopF (up D (2, i, 0) 3 (nI q + 1)) i 2) := by
  refine CF.of [some (rR (0, 0, 0)), some (rR (2, i, 0)), none, none, none] (by decide) (leb rfl) rfl ?_
  refine RD.aload_n (pc := 0) dX5_step_0 rfl ?_
  refine RD.gI (pc := 1) (v := nI q) hpl dX5_step_1 flX5_111 (ok2 hi) rfl rfl ?_
  refine RD.cS1 (pc := 4) dX5_step_4 mlX5_102 (c_isPlace K _ D (nI q)) (leb rfl) ?_
  refine RD.if_ne (pc := 7) 16 dX5_step_7 (by decide) (fun c7 => ?_) (fun c7 => absurd c7 (bIin (by decide) hq))
  refine RD.aload_n (pc := 16) dX5_step_16 rfl ?_
  refine RD.getR (pc := 17) dX5_step_17 flX5_33 (ok2 hi) rfl rfl ?_
  refine RD.aload_n (pc := 20) dX5_step_20 rfl ?_
  refine RD.gI (pc := 21) (v := nI q) hpl dX5_step_21 flX5_111 (ok2 hi) rfl rfl ?_
  refine RD.iL (pc := 24) q (v := D (3, i, 0) q) rfl dX5_step_24 (ok3 hi) rfl rfl hq (by decide) ?_
  refine RD.istore_n (pc := 25) (ls' := [some (rR (0, 0, 0)), some (rR (2, i, 0)), some (rI (D (3, i, 0) q)), none, none]) dX5_step_25 (by decide) rfl ?_
  refine RD.iload_n (pc := 26) dX5_step_26 rfl ?_
  refine RD.bipush (pc := 27) (v := 31) dX5_step_27 (by decide) ?_
  refine RD.iand (pc := 29) dX5_step_29 ?_
  refine RD.eqI hop ?_
  refine RD.istore_n (pc := 30) (ls' := [some (rR (0, 0, 0)), some (rR (2, i, 0)), some (rI (D (3, i, 0) q)), some (rI op), none]) dX5_step_30 (by decide) rfl ?_
  refine RD.iload_n (pc := 31) dX5_step_31 rfl ?_
  refine RD.iconst (pc := 32) (v := 5) dX5_step_32 (by decide) ?_
  refine RD.ishr (pc := 33) dX5_step_33 ?_
  refine RD.eqI hx ?_
  refine RD.istore (pc := 34) (ls' := [some (rR (0, 0, 0)), some (rR (2, i, 0)), some (rI (D (3, i, 0) q)), some (rI op), some (rI x)]) dX5_step_34 (by decide) rfl ?_
  refine RD.aload_n (pc := 36) dX5_step_36 rfl ?_
  refine RD.dup (pc := 37) dX5_step_37 ?_
  refine RD.gI (pc := 38) (v := nI q) hpl dX5_step_38 flX5_111 (ok2 hi) rfl rfl ?_
  refine RD.iconst (pc := 41) (v := 1) dX5_step_41 (by decide) ?_
  refine RD.iadd (pc := 42) dX5_step_42 ?_
  refine RD.putf (pc := 43) dX5_step_43 fpX5_111 (ok2 hi) rfl rfl rfl rfl ?_
  refine RD.iload_n (pc := 46) dX5_step_46 rfl ?_
  refine RD.bipush (pc := 47) (v := 16) dX5_step_47 (by decide) ?_
  refine RD.icmp_ne (pc := 49) 62 dX5_step_49 (by decide) (fun c49 => ?_) (fun c49 => absurd c49 h16)
  refine RD.iload_n (pc := 62) dX5_step_62 rfl ?_
  refine RD.cS1 (pc := 63) dX5_step_63 mlX5_158 (c_wantsCell K _ (up D (2, i, 0) 3 ((nI q) + 1)) op) (leb rfl) ?_
  refine RD.if_ne (pc := 66) 79 dX5_step_66 (by decide) (fun c66 => ?_) (fun c66 => absurd c66 (by rw [hwc]; decide))
  refine RD.iload (pc := 79) dX5_step_79 rfl ?_
  refine RD.cS1 (pc := 81) dX5_step_81 mlX5_102 (c_isPlace K _ (up D (2, i, 0) 3 ((nI q) + 1)) x) (leb rfl) ?_
  refine RD.if_eq (pc := 84) 97 dX5_step_84 (by decide) (fun c84 => ?_) (fun c84 => absurd (bIout hxp) c84)
  refine RD.aload_n (pc := 97) dX5_step_97 rfl ?_
  refine RD.iconst (pc := 98) (v := 2) dX5_step_98 (by decide) ?_
  refine RD.cV1v (pc := 99) dX5_step_99 mlX5_151 rfl (ok2 hi) rfl (c_stopBy K _ hi (up D (2, i, 0) 3 ((nI q) + 1)) 2) (leb rfl) ?_
  refine RD.ret (pc := 102) ⟨rfl, dX5_step_102⟩ ?_
  exact ⟨rfl, rfl⟩


theorem i32_msb {x : Int32} : 0 ≤ x ↔ x.toBitVec.msb = false := by
  rw [Int32.le_iff_toInt_le, BitVec.msb_eq_toInt]
  show (0 : Int32).toInt ≤ x.toInt ↔ _
  rw [show (0 : Int32).toInt = 0 by decide, show x.toBitVec.toInt = x.toInt from rfl]
  simp
theorem xor_pos {x y : Int32} (hx : 0 ≤ x) (hy : 0 ≤ y) : 0 ≤ x ^^^ y := by
  rw [i32_msb] at *
  rw [Int32.toBitVec_xor, BitVec.msb_xor, hx, hy]
  rfl

set_option maxRecDepth 20000 in
set_option maxHeartbeats 1000000 in
theorem c_floorMod (K : EK) (d : Nat) (D : DT) {n : Nat} (hn : n < 2 ^ 31) : CF K mJ9_floorMod_7cf53 d [rI (nI n), rI 8] D (some (rI (nI (n % 8)))) D := by
  refine CT.ofF (by decide +kernel) (leb rfl) ?_
  show RD K mJ9_floorMod_7cf53 d 0 [some (rI (nI n)), some (rI 8), none] [] D _
  refine RD.iload_n (pc := 0) dJ9_floorMod_7cf53_0 rfl ?_
  refine RD.iload_n (pc := 1) dJ9_floorMod_7cf53_1 rfl ?_
  refine RD.irem (pc := 2) dJ9_floorMod_7cf53_2 (by decide) ?_
  refine RD.istore_n (pc := 3) (ls' := [some (rI (nI n)), some (rI 8), some (rI ((nI n) - (nI n) / 8 * 8))]) dJ9_floorMod_7cf53_3 (by decide) rfl ?_
  refine RD.iload_n (pc := 4) dJ9_floorMod_7cf53_4 rfl ?_
  refine RD.iload_n (pc := 5) dJ9_floorMod_7cf53_5 rfl ?_
  refine RD.ixor (pc := 6) dJ9_floorMod_7cf53_6 ?_
  refine RD.if_ge (pc := 7) 18 dJ9_floorMod_7cf53_7 (by decide) (fun c7 => ?_) (fun c7 => absurd (xor_pos (nI_pos' hn) (by decide)) c7)
  refine RD.iload_n (pc := 18) dJ9_floorMod_7cf53_18 rfl ?_
  refine RD.ireturn (pc := 19) dJ9_floorMod_7cf53_19 rfl rfl ?_
  exact ⟨by rw [rem8 hn], rfl⟩
end
