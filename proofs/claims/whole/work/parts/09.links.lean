theorem uwX0 : ∀ w ∈ u_ws RX0 TX0 4, w ∈ tbg := by decide +kernel
theorem uwX1 : ∀ w ∈ u_ws RX1 TX1 3, w ∈ tbg := by decide +kernel
theorem uwX2 : ∀ w ∈ u_ws RX2 TX2 15, w ∈ tbg := by decide +kernel
theorem uwX3 : ∀ w ∈ u_ws RX3 TX3 3, w ∈ tbg := by decide +kernel
theorem uwX4 : ∀ w ∈ u_ws RX4 TX4 2, w ∈ tbg := by decide +kernel
theorem uwX5 : ∀ w ∈ u_ws RX5 TX5 3, w ∈ tbg := by decide +kernel
theorem uwX6 : ∀ w ∈ u_ws RX6 TX6 18, w ∈ tbg := by decide +kernel
abbrev mX0_init : MT := (yX0_init, cX0_init, 1, none)
theorem cdX0_init : Cond.code mX0_init.1 mX0_init.2.1 mX0_init.2.2.1 mX0_init.2.2.2 ∈ tbg := tbg_in (List.mem_of_getElem? (i := 89) (by decide +kernel)) (by decide +kernel)
abbrev mX1_init : MT := (yX1_init, cX1_init, 2, none)
theorem cdX1_init : Cond.code mX1_init.1 mX1_init.2.1 mX1_init.2.2.1 mX1_init.2.2.2 ∈ tbg := tbg_in (List.mem_of_getElem? (i := 82) (by decide +kernel)) (by decide +kernel)
abbrev mX1_put : MT := (yX1_put, cX1_put, 5, some .boolean)
theorem cdX1_put : Cond.code mX1_put.1 mX1_put.2.1 mX1_put.2.2.1 mX1_put.2.2.2 ∈ tbg := tbg_in (List.mem_of_getElem? (i := 300) (by decide +kernel)) (by decide +kernel)
abbrev mX1_take : MT := (yX1_take, cX1_take, 4, some (.object "FlowKernel$Message"))
theorem cdX1_take : Cond.code mX1_take.1 mX1_take.2.1 mX1_take.2.2.1 mX1_take.2.2.2 ∈ tbg := tbg_in (List.mem_of_getElem? (i := 382) (by decide +kernel)) (by decide +kernel)
abbrev mX2_init : MT := (yX2_init, cX2_init, 3, none)
theorem cdX2_init : Cond.code mX2_init.1 mX2_init.2.1 mX2_init.2.2.1 mX2_init.2.2.2 ∈ tbg := tbg_in (List.mem_of_getElem? (i := 60) (by decide +kernel)) (by decide +kernel)
abbrev mX2_stopBy : MT := (yX2_stopBy, cX2_stopBy, 2, none)
theorem cdX2_stopBy : Cond.code mX2_stopBy.1 mX2_stopBy.2.1 mX2_stopBy.2.2.1 mX2_stopBy.2.2.2 ∈ tbg := tbg_in (List.mem_of_getElem? (i := 322) (by decide +kernel)) (by decide +kernel)
abbrev mX2_capabilities : MT := (yX2_capabilities, cX2_capabilities, 2, some (.object "FlowKernel$TagSet"))
theorem cdX2_capabilities : Cond.code mX2_capabilities.1 mX2_capabilities.2.1 mX2_capabilities.2.2.1 mX2_capabilities.2.2.2 ∈ tbg := tbg_in (List.mem_of_getElem? (i := 273) (by decide +kernel)) (by decide +kernel)
abbrev mX2_countFiles : MT := (yX2_countFiles, cX2_countFiles, 3, some .int)
theorem cdX2_countFiles : Cond.code mX2_countFiles.1 mX2_countFiles.2.1 mX2_countFiles.2.2.1 mX2_countFiles.2.2.2 ∈ tbg := tbg_in (List.mem_of_getElem? (i := 433) (by decide +kernel)) (by decide +kernel)
abbrev mX2_newTag : MT := (yX2_newTag, cX2_newTag, 2, some .int)
theorem cdX2_newTag : Cond.code mX2_newTag.1 mX2_newTag.2.1 mX2_newTag.2.2.1 mX2_newTag.2.2.2 ∈ tbg := tbg_in (List.mem_of_getElem? (i := 339) (by decide +kernel)) (by decide +kernel)
abbrev mX2_relabel : MT := (yX2_relabel, cX2_relabel, 2, some .int)
theorem cdX2_relabel : Cond.code mX2_relabel.1 mX2_relabel.2.1 mX2_relabel.2.2.1 mX2_relabel.2.2.2 ∈ tbg := tbg_in (List.mem_of_getElem? (i := 344) (by decide +kernel)) (by decide +kernel)
abbrev mX2_dropCapability : MT := (yX2_dropCapability, cX2_dropCapability, 4, some .int)
theorem cdX2_dropCapability : Cond.code mX2_dropCapability.1 mX2_dropCapability.2.1 mX2_dropCapability.2.2.1 mX2_dropCapability.2.2.2 ∈ tbg := tbg_in (List.mem_of_getElem? (i := 353) (by decide +kernel)) (by decide +kernel)
abbrev mX2_receive : MT := (yX2_receive, cX2_receive, 2, some .int)
theorem cdX2_receive : Cond.code mX2_receive.1 mX2_receive.2.1 mX2_receive.2.2.1 mX2_receive.2.2.2 ∈ tbg := tbg_in (List.mem_of_getElem? (i := 378) (by decide +kernel)) (by decide +kernel)
abbrev mX2_createFile : MT := (yX2_createFile, cX2_createFile, 3, some .int)
theorem cdX2_createFile : Cond.code mX2_createFile.1 mX2_createFile.2.1 mX2_createFile.2.2.1 mX2_createFile.2.2.2 ∈ tbg := tbg_in (List.mem_of_getElem? (i := 388) (by decide +kernel)) (by decide +kernel)
abbrev mX2_addOutput : MT := (yX2_addOutput, cX2_addOutput, 2, some .int)
theorem cdX2_addOutput : Cond.code mX2_addOutput.1 mX2_addOutput.2.1 mX2_addOutput.2.2.1 mX2_addOutput.2.2.2 ∈ tbg := tbg_in (List.mem_of_getElem? (i := 406) (by decide +kernel)) (by decide +kernel)
abbrev mX3_init : MT := (yX3_init, cX3_init, 1, none)
theorem cdX3_init : Cond.code mX3_init.1 mX3_init.2.1 mX3_init.2.2.1 mX3_init.2.2.2 ∈ tbg := tbg_in (List.mem_of_getElem? (i := 129) (by decide +kernel)) (by decide +kernel)
abbrev mX4_init : MT := (yX4_init, cX4_init, 1, none)
theorem cdX4_init : Cond.code mX4_init.1 mX4_init.2.1 mX4_init.2.2.1 mX4_init.2.2.2 ∈ tbg := tbg_in (List.mem_of_getElem? (i := 66) (by decide +kernel)) (by decide +kernel)
abbrev mX4_has : MT := (yX4_has, cX4_has, 2, some .boolean)
theorem cdX4_has : Cond.code mX4_has.1 mX4_has.2.1 mX4_has.2.2.1 mX4_has.2.2.2 ∈ tbg := tbg_in (List.mem_of_getElem? (i := 260) (by decide +kernel)) (by decide +kernel)
abbrev mX4_add : MT := (yX4_add, cX4_add, 2, none)
theorem cdX4_add : Cond.code mX4_add.1 mX4_add.2.1 mX4_add.2.2.1 mX4_add.2.2.2 ∈ tbg := tbg_in (List.mem_of_getElem? (i := 264) (by decide +kernel)) (by decide +kernel)
abbrev mX4_remove : MT := (yX4_remove, cX4_remove, 2, none)
theorem cdX4_remove : Cond.code mX4_remove.1 mX4_remove.2.1 mX4_remove.2.2.1 mX4_remove.2.2.2 ∈ tbg := tbg_in (List.mem_of_getElem? (i := 256) (by decide +kernel)) (by decide +kernel)
abbrev mX4_change : MT := (yX4_change, cX4_change, 4, some .int)
theorem cdX4_change : Cond.code mX4_change.1 mX4_change.2.1 mX4_change.2.2.1 mX4_change.2.2.2 ∈ tbg := tbg_in (List.mem_of_getElem? (i := 252) (by decide +kernel)) (by decide +kernel)
abbrev mX4_clear : MT := (yX4_clear, cX4_clear, 2, none)
theorem cdX4_clear : Cond.code mX4_clear.1 mX4_clear.2.1 mX4_clear.2.2.1 mX4_clear.2.2.2 ∈ tbg := tbg_in (List.mem_of_getElem? (i := 334) (by decide +kernel)) (by decide +kernel)
abbrev mX4_copy : MT := (yX4_copy, cX4_copy, 3, none)
theorem cdX4_copy : Cond.code mX4_copy.1 mX4_copy.2.1 mX4_copy.2.2.1 mX4_copy.2.2.2 ∈ tbg := tbg_in (List.mem_of_getElem? (i := 304) (by decide +kernel)) (by decide +kernel)
abbrev mX4_isIn : MT := (yX4_isIn, cX4_isIn, 2, some .boolean)
theorem cdX4_isIn : Cond.code mX4_isIn.1 mX4_isIn.2.1 mX4_isIn.2.2.1 mX4_isIn.2.2.2 ∈ tbg := tbg_in (List.mem_of_getElem? (i := 367) (by decide +kernel)) (by decide +kernel)
abbrev mX4_isInEither : MT := (yX4_isInEither, cX4_isInEither, 4, some .boolean)
theorem cdX4_isInEither : Cond.code mX4_isInEither.1 mX4_isInEither.2.1 mX4_isInEither.2.2.1 mX4_isInEither.2.2.2 ∈ tbg := tbg_in (List.mem_of_getElem? (i := 348) (by decide +kernel)) (by decide +kernel)
abbrev mX4_tagAt : MT := (yX4_tagAt, cX4_tagAt, 4, some .int)
theorem cdX4_tagAt : Cond.code mX4_tagAt.1 mX4_tagAt.2.1 mX4_tagAt.2.2.1 mX4_tagAt.2.2.2 ∈ tbg := tbg_in (List.mem_of_getElem? (i := 441) (by decide +kernel)) (by decide +kernel)
abbrev mX5_init : MT := (yX5_init, cX5_init, 2, none)
theorem cdX5_init : Cond.code mX5_init.1 mX5_init.2.1 mX5_init.2.2.1 mX5_init.2.2.2 ∈ tbg := tbg_in (List.mem_of_getElem? (i := 51) (by decide +kernel)) (by decide +kernel)
abbrev mX5_poke : MT := (yX5_poke, cX5_poke, 7, some .int)
theorem cdX5_poke : Cond.code mX5_poke.1 mX5_poke.2.1 mX5_poke.2.2.1 mX5_poke.2.2.2 ∈ tbg := tbg_in (List.mem_of_getElem? (i := 226) (by decide +kernel)) (by decide +kernel)
abbrev mX5_start : MT := (yX5_start, cX5_start, 2, some .int)
theorem cdX5_start : Cond.code mX5_start.1 mX5_start.2.1 mX5_start.2.2.1 mX5_start.2.2.2 ∈ tbg := tbg_in (List.mem_of_getElem? (i := 233) (by decide +kernel)) (by decide +kernel)
abbrev mX5_counter : MT := (yX5_counter, cX5_counter, 4, some .int)
theorem cdX5_counter : Cond.code mX5_counter.1 mX5_counter.2.1 mX5_counter.2.2.1 mX5_counter.2.2.2 ∈ tbg := tbg_in (List.mem_of_getElem? (i := 237) (by decide +kernel)) (by decide +kernel)
abbrev mX5_tag : MT := (yX5_tag, cX5_tag, 4, some .int)
theorem cdX5_tag : Cond.code mX5_tag.1 mX5_tag.2.1 mX5_tag.2.2.1 mX5_tag.2.2.2 ∈ tbg := tbg_in (List.mem_of_getElem? (i := 241) (by decide +kernel)) (by decide +kernel)
abbrev mX5_capability : MT := (yX5_capability, cX5_capability, 5, some .int)
theorem cdX5_capability : Cond.code mX5_capability.1 mX5_capability.2.1 mX5_capability.2.2.1 mX5_capability.2.2.2 ∈ tbg := tbg_in (List.mem_of_getElem? (i := 269) (by decide +kernel)) (by decide +kernel)
abbrev mX5_file : MT := (yX5_file, cX5_file, 4, some .int)
theorem cdX5_file : Cond.code mX5_file.1 mX5_file.2.1 mX5_file.2.2.1 mX5_file.2.2.2 ∈ tbg := tbg_in (List.mem_of_getElem? (i := 277) (by decide +kernel)) (by decide +kernel)
abbrev mX5_fill : MT := (yX5_fill, cX5_fill, 6, some .int)
theorem cdX5_fill : Cond.code mX5_fill.1 mX5_fill.2.1 mX5_fill.2.2.1 mX5_fill.2.2.2 ∈ tbg := tbg_in (List.mem_of_getElem? (i := 288) (by decide +kernel)) (by decide +kernel)
abbrev mX5_post : MT := (yX5_post, cX5_post, 5, some .int)
theorem cdX5_post : Cond.code mX5_post.1 mX5_post.2.1 mX5_post.2.2.1 mX5_post.2.2.2 ∈ tbg := tbg_in (List.mem_of_getElem? (i := 296) (by decide +kernel)) (by decide +kernel)
abbrev mX5_run : MT := (yX5_run, cX5_run, 4, some .int)
theorem cdX5_run : Cond.code mX5_run.1 mX5_run.2.1 mX5_run.2.2.1 mX5_run.2.2.2 ∈ tbg := tbg_in (List.mem_of_getElem? (i := 308) (by decide +kernel)) (by decide +kernel)
abbrev mX5_cell : MT := (yX5_cell, cX5_cell, 3, some .int)
theorem cdX5_cell : Cond.code mX5_cell.1 mX5_cell.2.1 mX5_cell.2.2.1 mX5_cell.2.2.2 ∈ tbg := tbg_in (List.mem_of_getElem? (i := 425) (by decide +kernel)) (by decide +kernel)
abbrev mX5_slot : MT := (yX5_slot, cX5_slot, 4, some .int)
theorem cdX5_slot : Cond.code mX5_slot.1 mX5_slot.2.1 mX5_slot.2.2.1 mX5_slot.2.2.2 ∈ tbg := tbg_in (List.mem_of_getElem? (i := 429) (by decide +kernel)) (by decide +kernel)
abbrev mX5_label : MT := (yX5_label, cX5_label, 3, some .int)
theorem cdX5_label : Cond.code mX5_label.1 mX5_label.2.1 mX5_label.2.2.1 mX5_label.2.2.2 ∈ tbg := tbg_in (List.mem_of_getElem? (i := 437) (by decide +kernel)) (by decide +kernel)
abbrev mX5_output : MT := (yX5_output, cX5_output, 3, some .int)
theorem cdX5_output : Cond.code mX5_output.1 mX5_output.2.1 mX5_output.2.2.1 mX5_output.2.2.2 ∈ tbg := tbg_in (List.mem_of_getElem? (i := 445) (by decide +kernel)) (by decide +kernel)
abbrev mX5_outputTags : MT := (yX5_outputTags, cX5_outputTags, 3, some .int)
theorem cdX5_outputTags : Cond.code mX5_outputTags.1 mX5_outputTags.2.1 mX5_outputTags.2.2.1 mX5_outputTags.2.2.2 ∈ tbg := tbg_in (List.mem_of_getElem? (i := 453) (by decide +kernel)) (by decide +kernel)
abbrev mX5_content : MT := (yX5_content, cX5_content, 3, some .int)
theorem cdX5_content : Cond.code mX5_content.1 mX5_content.2.1 mX5_content.2.2.1 mX5_content.2.2.2 ∈ tbg := tbg_in (List.mem_of_getElem? (i := 457) (by decide +kernel)) (by decide +kernel)
abbrev mX5_fileTags : MT := (yX5_fileTags, cX5_fileTags, 2, some .int)
theorem cdX5_fileTags : Cond.code mX5_fileTags.1 mX5_fileTags.2.1 mX5_fileTags.2.2.1 mX5_fileTags.2.2.2 ∈ tbg := tbg_in (List.mem_of_getElem? (i := 461) (by decide +kernel)) (by decide +kernel)
abbrev mX5_mayFlow : MT := (yX5_mayFlow, cX5_mayFlow, 3, some .boolean)
theorem cdX5_mayFlow : Cond.code mX5_mayFlow.1 mX5_mayFlow.2.1 mX5_mayFlow.2.2.1 mX5_mayFlow.2.2.2 ∈ tbg := tbg_in (List.mem_of_getElem? (i := 465) (by decide +kernel)) (by decide +kernel)
abbrev mX5_isSlot : MT := (yX5_isSlot, cX5_isSlot, 1, some .boolean)
theorem cdX5_isSlot : Cond.code mX5_isSlot.1 mX5_isSlot.2.1 mX5_isSlot.2.2.1 mX5_isSlot.2.2.2 ∈ tbg := tbg_in (List.mem_of_getElem? (i := 229) (by decide +kernel)) (by decide +kernel)
abbrev mX5_isPlace : MT := (yX5_isPlace, cX5_isPlace, 1, some .boolean)
theorem cdX5_isPlace : Cond.code mX5_isPlace.1 mX5_isPlace.2.1 mX5_isPlace.2.2.1 mX5_isPlace.2.2.2 ∈ tbg := tbg_in (List.mem_of_getElem? (i := 318) (by decide +kernel)) (by decide +kernel)
abbrev mX5_isTag : MT := (yX5_isTag, cX5_isTag, 1, some .boolean)
theorem cdX5_isTag : Cond.code mX5_isTag.1 mX5_isTag.2.1 mX5_isTag.2.2.1 mX5_isTag.2.2.2 ∈ tbg := tbg_in (List.mem_of_getElem? (i := 248) (by decide +kernel)) (by decide +kernel)
abbrev mX5_isFile : MT := (yX5_isFile, cX5_isFile, 1, some .boolean)
theorem cdX5_isFile : Cond.code mX5_isFile.1 mX5_isFile.2.1 mX5_isFile.2.2.1 mX5_isFile.2.2.2 ∈ tbg := tbg_in (List.mem_of_getElem? (i := 280) (by decide +kernel)) (by decide +kernel)
abbrev mX5_isThere : MT := (yX5_isThere, cX5_isThere, 2, some .boolean)
theorem cdX5_isThere : Cond.code mX5_isThere.1 mX5_isThere.2.1 mX5_isThere.2.2.1 mX5_isThere.2.2.2 ∈ tbg := tbg_in (List.mem_of_getElem? (i := 245) (by decide +kernel)) (by decide +kernel)
abbrev mX5_fileAt : MT := (yX5_fileAt, cX5_fileAt, 2, some (.object "FlowKernel$StoredFile"))
theorem cdX5_fileAt : Cond.code mX5_fileAt.1 mX5_fileAt.2.1 mX5_fileAt.2.2.1 mX5_fileAt.2.2.2 ∈ tbg := tbg_in (List.mem_of_getElem? (i := 284) (by decide +kernel)) (by decide +kernel)
abbrev mX5_isFileCell : MT := (yX5_isFileCell, cX5_isFileCell, 3, some .boolean)
theorem cdX5_isFileCell : Cond.code mX5_isFileCell.1 mX5_isFileCell.2.1 mX5_isFileCell.2.2.1 mX5_isFileCell.2.2.2 ∈ tbg := tbg_in (List.mem_of_getElem? (i := 292) (by decide +kernel)) (by decide +kernel)
abbrev mX5_isOutput : MT := (yX5_isOutput, cX5_isOutput, 3, some .boolean)
theorem cdX5_isOutput : Cond.code mX5_isOutput.1 mX5_isOutput.2.1 mX5_isOutput.2.2.1 mX5_isOutput.2.2.2 ∈ tbg := tbg_in (List.mem_of_getElem? (i := 449) (by decide +kernel)) (by decide +kernel)
abbrev mX5_step : MT := (yX5_step, cX5_step, 5, none)
theorem cdX5_step : Cond.code mX5_step.1 mX5_step.2.1 mX5_step.2.2.1 mX5_step.2.2.2 ∈ tbg := tbg_in (List.mem_of_getElem? (i := 315) (by decide +kernel)) (by decide +kernel)
abbrev mX5_wantsCell : MT := (yX5_wantsCell, cX5_wantsCell, 1, some .boolean)
theorem cdX5_wantsCell : Cond.code mX5_wantsCell.1 mX5_wantsCell.2.1 mX5_wantsCell.2.2.1 mX5_wantsCell.2.2.2 ∈ tbg := tbg_in (List.mem_of_getElem? (i := 409) (by decide +kernel)) (by decide +kernel)
abbrev mX5_plainInstruction : MT := (yX5_plainInstruction, cX5_plainInstruction, 3, none)
theorem cdX5_plainInstruction : Cond.code mX5_plainInstruction.1 mX5_plainInstruction.2.1 mX5_plainInstruction.2.2.1 mX5_plainInstruction.2.2.2 ∈ tbg := tbg_in (List.mem_of_getElem? (i := 412) (by decide +kernel)) (by decide +kernel)
abbrev mX5_cellInstruction : MT := (yX5_cellInstruction, cX5_cellInstruction, 4, none)
theorem cdX5_cellInstruction : Cond.code mX5_cellInstruction.1 mX5_cellInstruction.2.1 mX5_cellInstruction.2.2.1 mX5_cellInstruction.2.2.2 ∈ tbg := tbg_in (List.mem_of_getElem? (i := 415) (by decide +kernel)) (by decide +kernel)
abbrev mX5_indirectInstruction : MT := (yX5_indirectInstruction, cX5_indirectInstruction, 3, none)
theorem cdX5_indirectInstruction : Cond.code mX5_indirectInstruction.1 mX5_indirectInstruction.2.1 mX5_indirectInstruction.2.2.1 mX5_indirectInstruction.2.2.2 ∈ tbg := tbg_in (List.mem_of_getElem? (i := 418) (by decide +kernel)) (by decide +kernel)
abbrev mX5_divideInstruction : MT := (yX5_divideInstruction, cX5_divideInstruction, 3, none)
theorem cdX5_divideInstruction : Cond.code mX5_divideInstruction.1 mX5_divideInstruction.2.1 mX5_divideInstruction.2.2.1 mX5_divideInstruction.2.2.2 ∈ tbg := tbg_in (List.mem_of_getElem? (i := 421) (by decide +kernel)) (by decide +kernel)
abbrev mX5_systemCall : MT := (yX5_systemCall, cX5_systemCall, 6, none)
theorem cdX5_systemCall : Cond.code mX5_systemCall.1 mX5_systemCall.2.1 mX5_systemCall.2.2.1 mX5_systemCall.2.2.2 ∈ tbg := tbg_in (List.mem_of_getElem? (i := 326) (by decide +kernel)) (by decide +kernel)
abbrev mX5_readList : MT := (yX5_readList, cX5_readList, 5, some .boolean)
theorem cdX5_readList : Cond.code mX5_readList.1 mX5_readList.2.1 mX5_readList.2.2.1 mX5_readList.2.2.2 ∈ tbg := tbg_in (List.mem_of_getElem? (i := 330) (by decide +kernel)) (by decide +kernel)
abbrev mX5_send : MT := (yX5_send, cX5_send, 5, some .int)
theorem cdX5_send : Cond.code mX5_send.1 mX5_send.2.1 mX5_send.2.2.1 mX5_send.2.2.2 ∈ tbg := tbg_in (List.mem_of_getElem? (i := 363) (by decide +kernel)) (by decide +kernel)
abbrev mX5_pass : MT := (yX5_pass, cX5_pass, 6, some .int)
theorem cdX5_pass : Cond.code mX5_pass.1 mX5_pass.2.1 mX5_pass.2.2.1 mX5_pass.2.2.2 ∈ tbg := tbg_in (List.mem_of_getElem? (i := 372) (by decide +kernel)) (by decide +kernel)
abbrev mX5_kindOf : MT := (yX5_kindOf, cX5_kindOf, 1, some .int)
theorem cdX5_kindOf : Cond.code mX5_kindOf.1 mX5_kindOf.2.1 mX5_kindOf.2.2.1 mX5_kindOf.2.2.2 ∈ tbg := tbg_in (List.mem_of_getElem? (i := 356) (by decide +kernel)) (by decide +kernel)
abbrev mX5_read : MT := (yX5_read, cX5_read, 4, some .int)
theorem cdX5_read : Cond.code mX5_read.1 mX5_read.2.1 mX5_read.2.2.1 mX5_read.2.2.2 ∈ tbg := tbg_in (List.mem_of_getElem? (i := 393) (by decide +kernel)) (by decide +kernel)
abbrev mX5_write : MT := (yX5_write, cX5_write, 5, some .int)
theorem cdX5_write : Cond.code mX5_write.1 mX5_write.2.1 mX5_write.2.2.1 mX5_write.2.2.2 ∈ tbg := tbg_in (List.mem_of_getElem? (i := 397) (by decide +kernel)) (by decide +kernel)
abbrev mX5_spawn : MT := (yX5_spawn, cX5_spawn, 7, some .int)
theorem cdX5_spawn : Cond.code mX5_spawn.1 mX5_spawn.2.1 mX5_spawn.2.2.1 mX5_spawn.2.2.2 ∈ tbg := tbg_in (List.mem_of_getElem? (i := 401) (by decide +kernel)) (by decide +kernel)
abbrev mX6_init : MT := (yX6_init, cX6_init, 1, none)
theorem cdX6_init : Cond.code mX6_init.1 mX6_init.2.1 mX6_init.2.2.1 mX6_init.2.2.2 ∈ tbg := tbg_in (List.mem_of_getElem? (i := 470) (by decide +kernel)) (by decide +kernel)
abbrev mX6_isIn : MT := (yX6_isIn, cX6_isIn, 3, some .boolean)
theorem cdX6_isIn : Cond.code mX6_isIn.1 mX6_isIn.2.1 mX6_isIn.2.2.1 mX6_isIn.2.2.2 ∈ tbg := tbg_in (List.mem_of_getElem? (i := 538) (by decide +kernel)) (by decide +kernel)
abbrev mX6_isSlot : MT := (yX6_isSlot, cX6_isSlot, 1, some .boolean)
theorem cdX6_isSlot : Cond.code mX6_isSlot.1 mX6_isSlot.2.1 mX6_isSlot.2.2.1 mX6_isSlot.2.2.2 ∈ tbg := tbg_in (List.mem_of_getElem? (i := 535) (by decide +kernel)) (by decide +kernel)
abbrev mX6_isCell : MT := (yX6_isCell, cX6_isCell, 1, some .boolean)
theorem cdX6_isCell : Cond.code mX6_isCell.1 mX6_isCell.2.1 mX6_isCell.2.2.1 mX6_isCell.2.2.2 ∈ tbg := tbg_in (List.mem_of_getElem? (i := 609) (by decide +kernel)) (by decide +kernel)
abbrev mX6_isThere : MT := (yX6_isThere, cX6_isThere, 2, some .boolean)
theorem cdX6_isThere : Cond.code mX6_isThere.1 mX6_isThere.2.1 mX6_isThere.2.2.1 mX6_isThere.2.2.2 ∈ tbg := tbg_in (List.mem_of_getElem? (i := 554) (by decide +kernel)) (by decide +kernel)
abbrev mX6_many : MT := (yX6_many, cX6_many, 4, some .int)
theorem cdX6_many : Cond.code mX6_many.1 mX6_many.2.1 mX6_many.2.2.1 mX6_many.2.2.2 ∈ tbg := tbg_in (List.mem_of_getElem? (i := 562) (by decide +kernel)) (by decide +kernel)
abbrev mX6_isInLabel : MT := (yX6_isInLabel, cX6_isInLabel, 5, some .boolean)
theorem cdX6_isInLabel : Cond.code mX6_isInLabel.1 mX6_isInLabel.2.1 mX6_isInLabel.2.2.1 mX6_isInLabel.2.2.2 ∈ tbg := tbg_in (List.mem_of_getElem? (i := 642) (by decide +kernel)) (by decide +kernel)
abbrev mX6_copyLabel : MT := (yX6_copyLabel, cX6_copyLabel, 4, none)
theorem cdX6_copyLabel : Cond.code mX6_copyLabel.1 mX6_copyLabel.2.1 mX6_copyLabel.2.2.1 mX6_copyLabel.2.2.2 ∈ tbg := tbg_in (List.mem_of_getElem? (i := 598) (by decide +kernel)) (by decide +kernel)
abbrev mX6_at : MT := (yX6_at, cX6_at, 4, some .int)
theorem cdX6_at : Cond.code mX6_at.1 mX6_at.2.1 mX6_at.2.2.1 mX6_at.2.2.2 ∈ tbg := tbg_in (List.mem_of_getElem? (i := 570) (by decide +kernel)) (by decide +kernel)
abbrev mX6_capabilities : MT := (yX6_capabilities, cX6_capabilities, 5, some .int)
theorem cdX6_capabilities : Cond.code mX6_capabilities.1 mX6_capabilities.2.1 mX6_capabilities.2.2.1 mX6_capabilities.2.2.2 ∈ tbg := tbg_in (List.mem_of_getElem? (i := 574) (by decide +kernel)) (by decide +kernel)
abbrev mX6_comes : MT := (yX6_comes, cX6_comes, 6, none)
theorem cdX6_comes : Cond.code mX6_comes.1 mX6_comes.2.1 mX6_comes.2.2.1 mX6_comes.2.2.2 ∈ tbg := tbg_in (List.mem_of_getElem? (i := 594) (by decide +kernel)) (by decide +kernel)
abbrev mX6_sends : MT := (yX6_sends, cX6_sends, 5, none)
theorem cdX6_sends : Cond.code mX6_sends.1 mX6_sends.2.1 mX6_sends.2.2.1 mX6_sends.2.2.2 ∈ tbg := tbg_in (List.mem_of_getElem? (i := 638) (by decide +kernel)) (by decide +kernel)
abbrev mX6_dropFirst : MT := (yX6_dropFirst, cX6_dropFirst, 3, none)
theorem cdX6_dropFirst : Cond.code mX6_dropFirst.1 mX6_dropFirst.2.1 mX6_dropFirst.2.2.1 mX6_dropFirst.2.2.2 ∈ tbg := tbg_in (List.mem_of_getElem? (i := 654) (by decide +kernel)) (by decide +kernel)
abbrev mX6_traps : MT := (yX6_traps, cX6_traps, 3, none)
theorem cdX6_traps : Cond.code mX6_traps.1 mX6_traps.2.1 mX6_traps.2.2.1 mX6_traps.2.2.2 ∈ tbg := tbg_in (List.mem_of_getElem? (i := 613) (by decide +kernel)) (by decide +kernel)
abbrev mX6_turn : MT := (yX6_turn, cX6_turn, 5, none)
theorem cdX6_turn : Cond.code mX6_turn.1 mX6_turn.2.1 mX6_turn.2.2.1 mX6_turn.2.2.2 ∈ tbg := tbg_in (List.mem_of_getElem? (i := 606) (by decide +kernel)) (by decide +kernel)
abbrev mX6_works : MT := (yX6_works, cX6_works, 5, none)
theorem cdX6_works : Cond.code mX6_works.1 mX6_works.2.1 mX6_works.2.2.1 mX6_works.2.2.2 ∈ tbg := tbg_in (List.mem_of_getElem? (i := 674) (by decide +kernel)) (by decide +kernel)
abbrev mX6_lists : MT := (yX6_lists, cX6_lists, 7, some .boolean)
theorem cdX6_lists : Cond.code mX6_lists.1 mX6_lists.2.1 mX6_lists.2.2.1 mX6_lists.2.2.2 ∈ tbg := tbg_in (List.mem_of_getElem? (i := 625) (by decide +kernel)) (by decide +kernel)
abbrev mX6_call : MT := (yX6_call, cX6_call, 6, none)
theorem cdX6_call : Cond.code mX6_call.1 mX6_call.2.1 mX6_call.2.2.1 mX6_call.2.2.2 ∈ tbg := tbg_in (List.mem_of_getElem? (i := 617) (by decide +kernel)) (by decide +kernel)
abbrev mX6_newTag : MT := (yX6_newTag, cX6_newTag, 3, some .int)
theorem cdX6_newTag : Cond.code mX6_newTag.1 mX6_newTag.2.1 mX6_newTag.2.2.1 mX6_newTag.2.2.2 ∈ tbg := tbg_in (List.mem_of_getElem? (i := 621) (by decide +kernel)) (by decide +kernel)
abbrev mX6_changes : MT := (yX6_changes, cX6_changes, 5, some .int)
theorem cdX6_changes : Cond.code mX6_changes.1 mX6_changes.2.1 mX6_changes.2.2.1 mX6_changes.2.2.2 ∈ tbg := tbg_in (List.mem_of_getElem? (i := 630) (by decide +kernel)) (by decide +kernel)
abbrev mX6_drops : MT := (yX6_drops, cX6_drops, 4, some .int)
theorem cdX6_drops : Cond.code mX6_drops.1 mX6_drops.2.1 mX6_drops.2.2.1 mX6_drops.2.2.2 ∈ tbg := tbg_in (List.mem_of_getElem? (i := 634) (by decide +kernel)) (by decide +kernel)
abbrev mX6_passes : MT := (yX6_passes, cX6_passes, 5, some .int)
theorem cdX6_passes : Cond.code mX6_passes.1 mX6_passes.2.1 mX6_passes.2.2.1 mX6_passes.2.2.2 ∈ tbg := tbg_in (List.mem_of_getElem? (i := 646) (by decide +kernel)) (by decide +kernel)
abbrev mX6_receives : MT := (yX6_receives, cX6_receives, 4, some .int)
theorem cdX6_receives : Cond.code mX6_receives.1 mX6_receives.2.1 mX6_receives.2.2.1 mX6_receives.2.2.2 ∈ tbg := tbg_in (List.mem_of_getElem? (i := 650) (by decide +kernel)) (by decide +kernel)
abbrev mX6_creates : MT := (yX6_creates, cX6_creates, 5, some .int)
theorem cdX6_creates : Cond.code mX6_creates.1 mX6_creates.2.1 mX6_creates.2.2.1 mX6_creates.2.2.2 ∈ tbg := tbg_in (List.mem_of_getElem? (i := 658) (by decide +kernel)) (by decide +kernel)
abbrev mX6_reads : MT := (yX6_reads, cX6_reads, 4, some .int)
theorem cdX6_reads : Cond.code mX6_reads.1 mX6_reads.2.1 mX6_reads.2.2.1 mX6_reads.2.2.2 ∈ tbg := tbg_in (List.mem_of_getElem? (i := 662) (by decide +kernel)) (by decide +kernel)
abbrev mX6_spawns : MT := (yX6_spawns, cX6_spawns, 7, some .int)
theorem cdX6_spawns : Cond.code mX6_spawns.1 mX6_spawns.2.1 mX6_spawns.2.2.1 mX6_spawns.2.2.2 ∈ tbg := tbg_in (List.mem_of_getElem? (i := 666) (by decide +kernel)) (by decide +kernel)
abbrev mX6_puts : MT := (yX6_puts, cX6_puts, 3, none)
theorem cdX6_puts : Cond.code mX6_puts.1 mX6_puts.2.1 mX6_puts.2.2.1 mX6_puts.2.2.2 ∈ tbg := tbg_in (List.mem_of_getElem? (i := 670) (by decide +kernel)) (by decide +kernel)
abbrev mX6_poke : MT := (yX6_poke, cX6_poke, 6, some .int)
theorem cdX6_poke : Cond.code mX6_poke.1 mX6_poke.2.1 mX6_poke.2.2.1 mX6_poke.2.2.2 ∈ tbg := tbg_in (List.mem_of_getElem? (i := 532) (by decide +kernel)) (by decide +kernel)
abbrev mX6_start : MT := (yX6_start, cX6_start, 2, some .int)
theorem cdX6_start : Cond.code mX6_start.1 mX6_start.2.1 mX6_start.2.2.1 mX6_start.2.2.2 ∈ tbg := tbg_in (List.mem_of_getElem? (i := 542) (by decide +kernel)) (by decide +kernel)
abbrev mX6_counter : MT := (yX6_counter, cX6_counter, 4, some .int)
theorem cdX6_counter : Cond.code mX6_counter.1 mX6_counter.2.1 mX6_counter.2.2.1 mX6_counter.2.2.2 ∈ tbg := tbg_in (List.mem_of_getElem? (i := 546) (by decide +kernel)) (by decide +kernel)
abbrev mX6_setTag : MT := (yX6_setTag, cX6_setTag, 4, some .int)
theorem cdX6_setTag : Cond.code mX6_setTag.1 mX6_setTag.2.1 mX6_setTag.2.2.1 mX6_setTag.2.2.2 ∈ tbg := tbg_in (List.mem_of_getElem? (i := 558) (by decide +kernel)) (by decide +kernel)
abbrev mX6_tag : MT := (yX6_tag, cX6_tag, 4, some .int)
theorem cdX6_tag : Cond.code mX6_tag.1 mX6_tag.2.1 mX6_tag.2.2.1 mX6_tag.2.2.2 ∈ tbg := tbg_in (List.mem_of_getElem? (i := 550) (by decide +kernel)) (by decide +kernel)
abbrev mX6_capability : MT := (yX6_capability, cX6_capability, 6, some .int)
theorem cdX6_capability : Cond.code mX6_capability.1 mX6_capability.2.1 mX6_capability.2.2.1 mX6_capability.2.2.2 ∈ tbg := tbg_in (List.mem_of_getElem? (i := 566) (by decide +kernel)) (by decide +kernel)
abbrev mX6_file : MT := (yX6_file, cX6_file, 4, some .int)
theorem cdX6_file : Cond.code mX6_file.1 mX6_file.2.1 mX6_file.2.2.1 mX6_file.2.2.2 ∈ tbg := tbg_in (List.mem_of_getElem? (i := 578) (by decide +kernel)) (by decide +kernel)
abbrev mX6_isContent : MT := (yX6_isContent, cX6_isContent, 3, some .boolean)
theorem cdX6_isContent : Cond.code mX6_isContent.1 mX6_isContent.2.1 mX6_isContent.2.2.1 mX6_isContent.2.2.2 ∈ tbg := tbg_in (List.mem_of_getElem? (i := 586) (by decide +kernel)) (by decide +kernel)
abbrev mX6_fill : MT := (yX6_fill, cX6_fill, 5, some .int)
theorem cdX6_fill : Cond.code mX6_fill.1 mX6_fill.2.1 mX6_fill.2.2.1 mX6_fill.2.2.2 ∈ tbg := tbg_in (List.mem_of_getElem? (i := 582) (by decide +kernel)) (by decide +kernel)
abbrev mX6_post : MT := (yX6_post, cX6_post, 4, some .int)
theorem cdX6_post : Cond.code mX6_post.1 mX6_post.2.1 mX6_post.2.2.1 mX6_post.2.2.2 ∈ tbg := tbg_in (List.mem_of_getElem? (i := 590) (by decide +kernel)) (by decide +kernel)
abbrev mX6_run : MT := (yX6_run, cX6_run, 3, some .int)
theorem cdX6_run : Cond.code mX6_run.1 mX6_run.2.1 mX6_run.2.2.1 mX6_run.2.2.2 ∈ tbg := tbg_in (List.mem_of_getElem? (i := 602) (by decide +kernel)) (by decide +kernel)
abbrev mX6_cell : MT := (yX6_cell, cX6_cell, 3, some .int)
theorem cdX6_cell : Cond.code mX6_cell.1 mX6_cell.2.1 mX6_cell.2.2.1 mX6_cell.2.2.2 ∈ tbg := tbg_in (List.mem_of_getElem? (i := 678) (by decide +kernel)) (by decide +kernel)
abbrev mX6_slot : MT := (yX6_slot, cX6_slot, 5, some .int)
theorem cdX6_slot : Cond.code mX6_slot.1 mX6_slot.2.1 mX6_slot.2.2.1 mX6_slot.2.2.2 ∈ tbg := tbg_in (List.mem_of_getElem? (i := 682) (by decide +kernel)) (by decide +kernel)
abbrev mX6_label : MT := (yX6_label, cX6_label, 5, some .int)
theorem cdX6_label : Cond.code mX6_label.1 mX6_label.2.1 mX6_label.2.2.1 mX6_label.2.2.2 ∈ tbg := tbg_in (List.mem_of_getElem? (i := 686) (by decide +kernel)) (by decide +kernel)
abbrev mX6_isOutput : MT := (yX6_isOutput, cX6_isOutput, 3, some .boolean)
theorem cdX6_isOutput : Cond.code mX6_isOutput.1 mX6_isOutput.2.1 mX6_isOutput.2.2.1 mX6_isOutput.2.2.2 ∈ tbg := tbg_in (List.mem_of_getElem? (i := 694) (by decide +kernel)) (by decide +kernel)
abbrev mX6_output : MT := (yX6_output, cX6_output, 3, some .int)
theorem cdX6_output : Cond.code mX6_output.1 mX6_output.2.1 mX6_output.2.2.1 mX6_output.2.2.2 ∈ tbg := tbg_in (List.mem_of_getElem? (i := 690) (by decide +kernel)) (by decide +kernel)
abbrev mX6_outputTags : MT := (yX6_outputTags, cX6_outputTags, 3, some .int)
theorem cdX6_outputTags : Cond.code mX6_outputTags.1 mX6_outputTags.2.1 mX6_outputTags.2.2.1 mX6_outputTags.2.2.2 ∈ tbg := tbg_in (List.mem_of_getElem? (i := 698) (by decide +kernel)) (by decide +kernel)
abbrev mX6_content : MT := (yX6_content, cX6_content, 3, some .int)
theorem cdX6_content : Cond.code mX6_content.1 mX6_content.2.1 mX6_content.2.2.1 mX6_content.2.2.2 ∈ tbg := tbg_in (List.mem_of_getElem? (i := 702) (by decide +kernel)) (by decide +kernel)
abbrev mX6_fileTags : MT := (yX6_fileTags, cX6_fileTags, 2, some .int)
theorem cdX6_fileTags : Cond.code mX6_fileTags.1 mX6_fileTags.2.1 mX6_fileTags.2.2.1 mX6_fileTags.2.2.2 ∈ tbg := tbg_in (List.mem_of_getElem? (i := 706) (by decide +kernel)) (by decide +kernel)
abbrev mX6_mayFlow : MT := (yX6_mayFlow, cX6_mayFlow, 3, some .boolean)
theorem cdX6_mayFlow : Cond.code mX6_mayFlow.1 mX6_mayFlow.2.1 mX6_mayFlow.2.2.1 mX6_mayFlow.2.2.2 ∈ tbg := tbg_in (List.mem_of_getElem? (i := 710) (by decide +kernel)) (by decide +kernel)
abbrev mJ9_floorMod_7cf53 : MT := (yJ9_floorMod_7cf53, cJ9_floorMod_7cf53, 3, some .int)
theorem cdJ9_floorMod_7cf53 : Cond.code mJ9_floorMod_7cf53.1 mJ9_floorMod_7cf53.2.1 mJ9_floorMod_7cf53.2.2.1 mJ9_floorMod_7cf53.2.2.2 ∈ tbg := tbg_in (List.mem_of_getElem? (i := 311) (by decide +kernel)) (by decide +kernel)
abbrev mL_law : MT := (yL_law, cL_law, 4, some .boolean)
theorem inX0 : Cond.initialized RX0 ∈ tbg := tbg_in (List.mem_of_getElem? (i := 43) (by decide +kernel)) (by decide +kernel)
theorem inX1 : Cond.initialized RX1 ∈ tbg := tbg_in (List.mem_of_getElem? (i := 42) (by decide +kernel)) (by decide +kernel)
theorem inX2 : Cond.initialized RX2 ∈ tbg := tbg_in (List.mem_of_getElem? (i := 40) (by decide +kernel)) (by decide +kernel)
theorem inX3 : Cond.initialized RX3 ∈ tbg := tbg_in (List.mem_of_getElem? (i := 44) (by decide +kernel)) (by decide +kernel)
theorem inX4 : Cond.initialized RX4 ∈ tbg := tbg_in (List.mem_of_getElem? (i := 41) (by decide +kernel)) (by decide +kernel)
theorem inX5 : Cond.initialized RX5 ∈ tbg := tbg_in (List.mem_of_getElem? (i := 39) (by decide +kernel)) (by decide +kernel)
theorem inX6 : Cond.initialized RX6 ∈ tbg := tbg_in (List.mem_of_getElem? (i := 45) (by decide +kernel)) (by decide +kernel)
theorem inJ9 : Cond.initialized RJ9 ∈ tbg := tbg_in (List.mem_of_getElem? (i := 46) (by decide +kernel)) (by decide +kernel)
theorem inL : Cond.initialized RL ∈ tbg := tbg_in (List.mem_of_getElem? (i := 38) (by decide +kernel)) (by decide +kernel)
theorem flX4_9 : FLK RX4 9 4 0 := ⟨_, _, _, tyX4, rfl, by decide, uwX4, tyX4_ok, nmX4, Or.inl (tbg_in (List.mem_of_getElem? (i := 68) (by decide +kernel)) (by decide +kernel))⟩
theorem flX4_15 : FLK RX4 15 4 1 := ⟨_, _, _, tyX4, rfl, by decide, uwX4, tyX4_ok, nmX4, Or.inl (tbg_in (List.mem_of_getElem? (i := 69) (by decide +kernel)) (by decide +kernel))⟩
theorem fpX4_15 : FLP RX4 15 4 1 .int := ⟨_, _, _, tyX4, rfl, by decide, uwX4, tyX4_ok, nmX4, rfl, by decide +kernel, Or.inl (tbg_in (List.mem_of_getElem? (i := 69) (by decide +kernel)) (by decide +kernel))⟩
theorem flX2_74 : FLK RX2 74 4 1 := ⟨_, _, _, tyX4, rfl, by decide, uwX4, tyX4_ok, nmX4, Or.inr ⟨"FlowKernel", nst_in (List.mem_of_getElem? (i := 70) (by decide +kernel)) (by decide +kernel)⟩⟩
theorem fpX2_74 : FLP RX2 74 4 1 .int := ⟨_, _, _, tyX4, rfl, by decide, uwX4, tyX4_ok, nmX4, rfl, by decide +kernel, Or.inr ⟨"FlowKernel", nst_in (List.mem_of_getElem? (i := 70) (by decide +kernel)) (by decide +kernel)⟩⟩
theorem flX5_71 : FLK RX5 71 4 1 := ⟨_, _, _, tyX4, rfl, by decide, uwX4, tyX4_ok, nmX4, Or.inr ⟨"FlowKernel", nst_in (List.mem_of_getElem? (i := 71) (by decide +kernel)) (by decide +kernel)⟩⟩
theorem fpX5_71 : FLP RX5 71 4 1 .int := ⟨_, _, _, tyX4, rfl, by decide, uwX4, tyX4_ok, nmX4, rfl, by decide +kernel, Or.inr ⟨"FlowKernel", nst_in (List.mem_of_getElem? (i := 71) (by decide +kernel)) (by decide +kernel)⟩⟩
theorem flX0_12 : FLK RX0 12 0 0 := ⟨_, _, _, tyX0, rfl, by decide, uwX0, tyX0_ok, nmX0, Or.inl (tbg_in (List.mem_of_getElem? (i := 93) (by decide +kernel)) (by decide +kernel))⟩
theorem flX1_25 : FLK RX1 25 0 0 := ⟨_, _, _, tyX0, rfl, by decide, uwX0, tyX0_ok, nmX0, Or.inr ⟨"FlowKernel", nst_in (List.mem_of_getElem? (i := 94) (by decide +kernel)) (by decide +kernel)⟩⟩
theorem flX0_18 : FLK RX0 18 0 1 := ⟨_, _, _, tyX0, rfl, by decide, uwX0, tyX0_ok, nmX0, Or.inl (tbg_in (List.mem_of_getElem? (i := 95) (by decide +kernel)) (by decide +kernel))⟩
theorem fpX0_18 : FLP RX0 18 0 1 .int := ⟨_, _, _, tyX0, rfl, by decide, uwX0, tyX0_ok, nmX0, rfl, by decide +kernel, Or.inl (tbg_in (List.mem_of_getElem? (i := 95) (by decide +kernel)) (by decide +kernel))⟩
theorem flX1_41 : FLK RX1 41 0 1 := ⟨_, _, _, tyX0, rfl, by decide, uwX0, tyX0_ok, nmX0, Or.inr ⟨"FlowKernel", nst_in (List.mem_of_getElem? (i := 96) (by decide +kernel)) (by decide +kernel)⟩⟩
theorem fpX1_41 : FLP RX1 41 0 1 .int := ⟨_, _, _, tyX0, rfl, by decide, uwX0, tyX0_ok, nmX0, rfl, by decide +kernel, Or.inr ⟨"FlowKernel", nst_in (List.mem_of_getElem? (i := 96) (by decide +kernel)) (by decide +kernel)⟩⟩
theorem flX2_113 : FLK RX2 113 0 1 := ⟨_, _, _, tyX0, rfl, by decide, uwX0, tyX0_ok, nmX0, Or.inr ⟨"FlowKernel", nst_in (List.mem_of_getElem? (i := 97) (by decide +kernel)) (by decide +kernel)⟩⟩
theorem fpX2_113 : FLP RX2 113 0 1 .int := ⟨_, _, _, tyX0, rfl, by decide, uwX0, tyX0_ok, nmX0, rfl, by decide +kernel, Or.inr ⟨"FlowKernel", nst_in (List.mem_of_getElem? (i := 97) (by decide +kernel)) (by decide +kernel)⟩⟩
theorem flX0_22 : FLK RX0 22 0 2 := ⟨_, _, _, tyX0, rfl, by decide, uwX0, tyX0_ok, nmX0, Or.inl (tbg_in (List.mem_of_getElem? (i := 98) (by decide +kernel)) (by decide +kernel))⟩
theorem fpX0_22 : FLP RX0 22 0 2 .int := ⟨_, _, _, tyX0, rfl, by decide, uwX0, tyX0_ok, nmX0, rfl, by decide +kernel, Or.inl (tbg_in (List.mem_of_getElem? (i := 98) (by decide +kernel)) (by decide +kernel))⟩
theorem flX1_44 : FLK RX1 44 0 2 := ⟨_, _, _, tyX0, rfl, by decide, uwX0, tyX0_ok, nmX0, Or.inr ⟨"FlowKernel", nst_in (List.mem_of_getElem? (i := 99) (by decide +kernel)) (by decide +kernel)⟩⟩
theorem fpX1_44 : FLP RX1 44 0 2 .int := ⟨_, _, _, tyX0, rfl, by decide, uwX0, tyX0_ok, nmX0, rfl, by decide +kernel, Or.inr ⟨"FlowKernel", nst_in (List.mem_of_getElem? (i := 99) (by decide +kernel)) (by decide +kernel)⟩⟩
theorem flX2_108 : FLK RX2 108 0 2 := ⟨_, _, _, tyX0, rfl, by decide, uwX0, tyX0_ok, nmX0, Or.inr ⟨"FlowKernel", nst_in (List.mem_of_getElem? (i := 100) (by decide +kernel)) (by decide +kernel)⟩⟩
theorem fpX2_108 : FLP RX2 108 0 2 .int := ⟨_, _, _, tyX0, rfl, by decide, uwX0, tyX0_ok, nmX0, rfl, by decide +kernel, Or.inr ⟨"FlowKernel", nst_in (List.mem_of_getElem? (i := 100) (by decide +kernel)) (by decide +kernel)⟩⟩
theorem flX0_25 : FLK RX0 25 0 3 := ⟨_, _, _, tyX0, rfl, by decide, uwX0, tyX0_ok, nmX0, Or.inl (tbg_in (List.mem_of_getElem? (i := 101) (by decide +kernel)) (by decide +kernel))⟩
theorem fpX0_25 : FLP RX0 25 0 3 .int := ⟨_, _, _, tyX0, rfl, by decide, uwX0, tyX0_ok, nmX0, rfl, by decide +kernel, Or.inl (tbg_in (List.mem_of_getElem? (i := 101) (by decide +kernel)) (by decide +kernel))⟩
theorem flX1_47 : FLK RX1 47 0 3 := ⟨_, _, _, tyX0, rfl, by decide, uwX0, tyX0_ok, nmX0, Or.inr ⟨"FlowKernel", nst_in (List.mem_of_getElem? (i := 102) (by decide +kernel)) (by decide +kernel)⟩⟩
theorem fpX1_47 : FLP RX1 47 0 3 .int := ⟨_, _, _, tyX0, rfl, by decide, uwX0, tyX0_ok, nmX0, rfl, by decide +kernel, Or.inr ⟨"FlowKernel", nst_in (List.mem_of_getElem? (i := 102) (by decide +kernel)) (by decide +kernel)⟩⟩
theorem flX2_116 : FLK RX2 116 0 3 := ⟨_, _, _, tyX0, rfl, by decide, uwX0, tyX0_ok, nmX0, Or.inr ⟨"FlowKernel", nst_in (List.mem_of_getElem? (i := 103) (by decide +kernel)) (by decide +kernel)⟩⟩
theorem fpX2_116 : FLP RX2 116 0 3 .int := ⟨_, _, _, tyX0, rfl, by decide, uwX0, tyX0_ok, nmX0, rfl, by decide +kernel, Or.inr ⟨"FlowKernel", nst_in (List.mem_of_getElem? (i := 103) (by decide +kernel)) (by decide +kernel)⟩⟩
theorem flX1_11 : FLK RX1 11 1 0 := ⟨_, _, _, tyX1, rfl, by decide, uwX1, tyX1_ok, nmX1, Or.inl (tbg_in (List.mem_of_getElem? (i := 113) (by decide +kernel)) (by decide +kernel))⟩
theorem flX1_17 : FLK RX1 17 1 1 := ⟨_, _, _, tyX1, rfl, by decide, uwX1, tyX1_ok, nmX1, Or.inl (tbg_in (List.mem_of_getElem? (i := 114) (by decide +kernel)) (by decide +kernel))⟩
theorem fpX1_17 : FLP RX1 17 1 1 .int := ⟨_, _, _, tyX1, rfl, by decide, uwX1, tyX1_ok, nmX1, rfl, by decide +kernel, Or.inl (tbg_in (List.mem_of_getElem? (i := 114) (by decide +kernel)) (by decide +kernel))⟩
theorem flX1_21 : FLK RX1 21 1 2 := ⟨_, _, _, tyX1, rfl, by decide, uwX1, tyX1_ok, nmX1, Or.inl (tbg_in (List.mem_of_getElem? (i := 115) (by decide +kernel)) (by decide +kernel))⟩
theorem fpX1_21 : FLP RX1 21 1 2 .int := ⟨_, _, _, tyX1, rfl, by decide, uwX1, tyX1_ok, nmX1, rfl, by decide +kernel, Or.inl (tbg_in (List.mem_of_getElem? (i := 115) (by decide +kernel)) (by decide +kernel))⟩
theorem flX5_91 : FLK RX5 91 1 2 := ⟨_, _, _, tyX1, rfl, by decide, uwX1, tyX1_ok, nmX1, Or.inr ⟨"FlowKernel", nst_in (List.mem_of_getElem? (i := 116) (by decide +kernel)) (by decide +kernel)⟩⟩
theorem fpX5_91 : FLP RX5 91 1 2 .int := ⟨_, _, _, tyX1, rfl, by decide, uwX1, tyX1_ok, nmX1, rfl, by decide +kernel, Or.inr ⟨"FlowKernel", nst_in (List.mem_of_getElem? (i := 116) (by decide +kernel)) (by decide +kernel)⟩⟩
theorem flX3_12 : FLK RX3 12 3 0 := ⟨_, _, _, tyX3, rfl, by decide, uwX3, tyX3_ok, nmX3, Or.inl (tbg_in (List.mem_of_getElem? (i := 133) (by decide +kernel)) (by decide +kernel))⟩
theorem flX5_70 : FLK RX5 70 3 0 := ⟨_, _, _, tyX3, rfl, by decide, uwX3, tyX3_ok, nmX3, Or.inr ⟨"FlowKernel", nst_in (List.mem_of_getElem? (i := 134) (by decide +kernel)) (by decide +kernel)⟩⟩
theorem flX2_127 : FLK RX2 127 3 0 := ⟨_, _, _, tyX3, rfl, by decide, uwX3, tyX3_ok, nmX3, Or.inr ⟨"FlowKernel", nst_in (List.mem_of_getElem? (i := 135) (by decide +kernel)) (by decide +kernel)⟩⟩
theorem flX3_18 : FLK RX3 18 3 1 := ⟨_, _, _, tyX3, rfl, by decide, uwX3, tyX3_ok, nmX3, Or.inl (tbg_in (List.mem_of_getElem? (i := 136) (by decide +kernel)) (by decide +kernel))⟩
theorem flX5_78 : FLK RX5 78 3 1 := ⟨_, _, _, tyX3, rfl, by decide, uwX3, tyX3_ok, nmX3, Or.inr ⟨"FlowKernel", nst_in (List.mem_of_getElem? (i := 137) (by decide +kernel)) (by decide +kernel)⟩⟩
theorem flX3_22 : FLK RX3 22 3 2 := ⟨_, _, _, tyX3, rfl, by decide, uwX3, tyX3_ok, nmX3, Or.inl (tbg_in (List.mem_of_getElem? (i := 138) (by decide +kernel)) (by decide +kernel))⟩
theorem fpX3_22 : FLP RX3 22 3 2 .boolean := ⟨_, _, _, tyX3, rfl, by decide, uwX3, tyX3_ok, nmX3, rfl, by decide +kernel, Or.inl (tbg_in (List.mem_of_getElem? (i := 138) (by decide +kernel)) (by decide +kernel))⟩
theorem flX2_70 : FLK RX2 70 3 2 := ⟨_, _, _, tyX3, rfl, by decide, uwX3, tyX3_ok, nmX3, Or.inr ⟨"FlowKernel", nst_in (List.mem_of_getElem? (i := 139) (by decide +kernel)) (by decide +kernel)⟩⟩
theorem fpX2_70 : FLP RX2 70 3 2 .boolean := ⟨_, _, _, tyX3, rfl, by decide, uwX3, tyX3_ok, nmX3, rfl, by decide +kernel, Or.inr ⟨"FlowKernel", nst_in (List.mem_of_getElem? (i := 139) (by decide +kernel)) (by decide +kernel)⟩⟩
theorem flX5_64 : FLK RX5 64 3 2 := ⟨_, _, _, tyX3, rfl, by decide, uwX3, tyX3_ok, nmX3, Or.inr ⟨"FlowKernel", nst_in (List.mem_of_getElem? (i := 140) (by decide +kernel)) (by decide +kernel)⟩⟩
theorem fpX5_64 : FLP RX5 64 3 2 .boolean := ⟨_, _, _, tyX3, rfl, by decide, uwX3, tyX3_ok, nmX3, rfl, by decide +kernel, Or.inr ⟨"FlowKernel", nst_in (List.mem_of_getElem? (i := 140) (by decide +kernel)) (by decide +kernel)⟩⟩
theorem flX2_66 : FLK RX2 66 2 0 := ⟨_, _, _, tyX2, rfl, by decide, uwX2, tyX2_ok, nmX2, Or.inl (tbg_in (List.mem_of_getElem? (i := 148) (by decide +kernel)) (by decide +kernel))⟩
theorem flX1_38 : FLK RX1 38 2 0 := ⟨_, _, _, tyX2, rfl, by decide, uwX2, tyX2_ok, nmX2, Or.inr ⟨"FlowKernel", nst_in (List.mem_of_getElem? (i := 149) (by decide +kernel)) (by decide +kernel)⟩⟩
theorem flX5_226 : FLK RX5 226 2 0 := ⟨_, _, _, tyX2, rfl, by decide, uwX2, tyX2_ok, nmX2, Or.inr ⟨"FlowKernel", nst_in (List.mem_of_getElem? (i := 150) (by decide +kernel)) (by decide +kernel)⟩⟩
theorem flX2_9 : FLK RX2 9 2 1 := ⟨_, _, _, tyX2, rfl, by decide, uwX2, tyX2_ok, nmX2, Or.inl (tbg_in (List.mem_of_getElem? (i := 151) (by decide +kernel)) (by decide +kernel))⟩
theorem flX5_33 : FLK RX5 33 2 1 := ⟨_, _, _, tyX2, rfl, by decide, uwX2, tyX2_ok, nmX2, Or.inr ⟨"FlowKernel", nst_in (List.mem_of_getElem? (i := 152) (by decide +kernel)) (by decide +kernel)⟩⟩
theorem flX2_15 : FLK RX2 15 2 2 := ⟨_, _, _, tyX2, rfl, by decide, uwX2, tyX2_ok, nmX2, Or.inl (tbg_in (List.mem_of_getElem? (i := 153) (by decide +kernel)) (by decide +kernel))⟩
theorem fpX2_15 : FLP RX2 15 2 2 .int := ⟨_, _, _, tyX2, rfl, by decide, uwX2, tyX2_ok, nmX2, rfl, by decide +kernel, Or.inl (tbg_in (List.mem_of_getElem? (i := 153) (by decide +kernel)) (by decide +kernel))⟩
theorem flX5_108 : FLK RX5 108 2 2 := ⟨_, _, _, tyX2, rfl, by decide, uwX2, tyX2_ok, nmX2, Or.inr ⟨"FlowKernel", nst_in (List.mem_of_getElem? (i := 154) (by decide +kernel)) (by decide +kernel)⟩⟩
theorem fpX5_108 : FLP RX5 108 2 2 .int := ⟨_, _, _, tyX2, rfl, by decide, uwX2, tyX2_ok, nmX2, rfl, by decide +kernel, Or.inr ⟨"FlowKernel", nst_in (List.mem_of_getElem? (i := 154) (by decide +kernel)) (by decide +kernel)⟩⟩
theorem flX2_19 : FLK RX2 19 2 3 := ⟨_, _, _, tyX2, rfl, by decide, uwX2, tyX2_ok, nmX2, Or.inl (tbg_in (List.mem_of_getElem? (i := 155) (by decide +kernel)) (by decide +kernel))⟩
theorem fpX2_19 : FLP RX2 19 2 3 .int := ⟨_, _, _, tyX2, rfl, by decide, uwX2, tyX2_ok, nmX2, rfl, by decide +kernel, Or.inl (tbg_in (List.mem_of_getElem? (i := 155) (by decide +kernel)) (by decide +kernel))⟩
theorem flX5_111 : FLK RX5 111 2 3 := ⟨_, _, _, tyX2, rfl, by decide, uwX2, tyX2_ok, nmX2, Or.inr ⟨"FlowKernel", nst_in (List.mem_of_getElem? (i := 156) (by decide +kernel)) (by decide +kernel)⟩⟩
theorem fpX5_111 : FLP RX5 111 2 3 .int := ⟨_, _, _, tyX2, rfl, by decide, uwX2, tyX2_ok, nmX2, rfl, by decide +kernel, Or.inr ⟨"FlowKernel", nst_in (List.mem_of_getElem? (i := 156) (by decide +kernel)) (by decide +kernel)⟩⟩
theorem flX2_22 : FLK RX2 22 2 4 := ⟨_, _, _, tyX2, rfl, by decide, uwX2, tyX2_ok, nmX2, Or.inl (tbg_in (List.mem_of_getElem? (i := 157) (by decide +kernel)) (by decide +kernel))⟩
theorem fpX2_22 : FLP RX2 22 2 4 .int := ⟨_, _, _, tyX2, rfl, by decide, uwX2, tyX2_ok, nmX2, rfl, by decide +kernel, Or.inl (tbg_in (List.mem_of_getElem? (i := 157) (by decide +kernel)) (by decide +kernel))⟩
theorem flX5_37 : FLK RX5 37 2 4 := ⟨_, _, _, tyX2, rfl, by decide, uwX2, tyX2_ok, nmX2, Or.inr ⟨"FlowKernel", nst_in (List.mem_of_getElem? (i := 158) (by decide +kernel)) (by decide +kernel)⟩⟩
theorem fpX5_37 : FLP RX5 37 2 4 .int := ⟨_, _, _, tyX2, rfl, by decide, uwX2, tyX2_ok, nmX2, rfl, by decide +kernel, Or.inr ⟨"FlowKernel", nst_in (List.mem_of_getElem? (i := 158) (by decide +kernel)) (by decide +kernel)⟩⟩
theorem flX2_25 : FLK RX2 25 2 5 := ⟨_, _, _, tyX2, rfl, by decide, uwX2, tyX2_ok, nmX2, Or.inl (tbg_in (List.mem_of_getElem? (i := 159) (by decide +kernel)) (by decide +kernel))⟩
theorem fpX2_25 : FLP RX2 25 2 5 .int := ⟨_, _, _, tyX2, rfl, by decide, uwX2, tyX2_ok, nmX2, rfl, by decide +kernel, Or.inl (tbg_in (List.mem_of_getElem? (i := 159) (by decide +kernel)) (by decide +kernel))⟩
theorem flX5_105 : FLK RX5 105 2 5 := ⟨_, _, _, tyX2, rfl, by decide, uwX2, tyX2_ok, nmX2, Or.inr ⟨"FlowKernel", nst_in (List.mem_of_getElem? (i := 160) (by decide +kernel)) (by decide +kernel)⟩⟩
theorem fpX5_105 : FLP RX5 105 2 5 .int := ⟨_, _, _, tyX2, rfl, by decide, uwX2, tyX2_ok, nmX2, rfl, by decide +kernel, Or.inr ⟨"FlowKernel", nst_in (List.mem_of_getElem? (i := 160) (by decide +kernel)) (by decide +kernel)⟩⟩
theorem flX2_28 : FLK RX2 28 2 6 := ⟨_, _, _, tyX2, rfl, by decide, uwX2, tyX2_ok, nmX2, Or.inl (tbg_in (List.mem_of_getElem? (i := 161) (by decide +kernel)) (by decide +kernel))⟩
theorem fpX2_28 : FLP RX2 28 2 6 .int := ⟨_, _, _, tyX2, rfl, by decide, uwX2, tyX2_ok, nmX2, rfl, by decide +kernel, Or.inl (tbg_in (List.mem_of_getElem? (i := 161) (by decide +kernel)) (by decide +kernel))⟩
theorem flX5_40 : FLK RX5 40 2 6 := ⟨_, _, _, tyX2, rfl, by decide, uwX2, tyX2_ok, nmX2, Or.inr ⟨"FlowKernel", nst_in (List.mem_of_getElem? (i := 162) (by decide +kernel)) (by decide +kernel)⟩⟩
theorem fpX5_40 : FLP RX5 40 2 6 .int := ⟨_, _, _, tyX2, rfl, by decide, uwX2, tyX2_ok, nmX2, rfl, by decide +kernel, Or.inr ⟨"FlowKernel", nst_in (List.mem_of_getElem? (i := 162) (by decide +kernel)) (by decide +kernel)⟩⟩
theorem flX2_34 : FLK RX2 34 2 7 := ⟨_, _, _, tyX2, rfl, by decide, uwX2, tyX2_ok, nmX2, Or.inl (tbg_in (List.mem_of_getElem? (i := 163) (by decide +kernel)) (by decide +kernel))⟩
theorem flX1_29 : FLK RX1 29 2 7 := ⟨_, _, _, tyX2, rfl, by decide, uwX2, tyX2_ok, nmX2, Or.inr ⟨"FlowKernel", nst_in (List.mem_of_getElem? (i := 164) (by decide +kernel)) (by decide +kernel)⟩⟩
theorem flX5_46 : FLK RX5 46 2 7 := ⟨_, _, _, tyX2, rfl, by decide, uwX2, tyX2_ok, nmX2, Or.inr ⟨"FlowKernel", nst_in (List.mem_of_getElem? (i := 165) (by decide +kernel)) (by decide +kernel)⟩⟩
theorem flX2_38 : FLK RX2 38 2 8 := ⟨_, _, _, tyX2, rfl, by decide, uwX2, tyX2_ok, nmX2, Or.inl (tbg_in (List.mem_of_getElem? (i := 166) (by decide +kernel)) (by decide +kernel))⟩
theorem flX5_114 : FLK RX5 114 2 8 := ⟨_, _, _, tyX2, rfl, by decide, uwX2, tyX2_ok, nmX2, Or.inr ⟨"FlowKernel", nst_in (List.mem_of_getElem? (i := 167) (by decide +kernel)) (by decide +kernel)⟩⟩
theorem flX2_41 : FLK RX2 41 2 9 := ⟨_, _, _, tyX2, rfl, by decide, uwX2, tyX2_ok, nmX2, Or.inl (tbg_in (List.mem_of_getElem? (i := 168) (by decide +kernel)) (by decide +kernel))⟩
theorem flX5_117 : FLK RX5 117 2 9 := ⟨_, _, _, tyX2, rfl, by decide, uwX2, tyX2_ok, nmX2, Or.inr ⟨"FlowKernel", nst_in (List.mem_of_getElem? (i := 169) (by decide +kernel)) (by decide +kernel)⟩⟩
theorem flX2_47 : FLK RX2 47 2 10 := ⟨_, _, _, tyX2, rfl, by decide, uwX2, tyX2_ok, nmX2, Or.inl (tbg_in (List.mem_of_getElem? (i := 170) (by decide +kernel)) (by decide +kernel))⟩
theorem flX5_81 : FLK RX5 81 2 10 := ⟨_, _, _, tyX2, rfl, by decide, uwX2, tyX2_ok, nmX2, Or.inr ⟨"FlowKernel", nst_in (List.mem_of_getElem? (i := 171) (by decide +kernel)) (by decide +kernel)⟩⟩
theorem flX2_53 : FLK RX2 53 2 11 := ⟨_, _, _, tyX2, rfl, by decide, uwX2, tyX2_ok, nmX2, Or.inl (tbg_in (List.mem_of_getElem? (i := 172) (by decide +kernel)) (by decide +kernel))⟩
theorem flX5_147 : FLK RX5 147 2 11 := ⟨_, _, _, tyX2, rfl, by decide, uwX2, tyX2_ok, nmX2, Or.inr ⟨"FlowKernel", nst_in (List.mem_of_getElem? (i := 173) (by decide +kernel)) (by decide +kernel)⟩⟩
theorem flX2_57 : FLK RX2 57 2 12 := ⟨_, _, _, tyX2, rfl, by decide, uwX2, tyX2_ok, nmX2, Or.inl (tbg_in (List.mem_of_getElem? (i := 174) (by decide +kernel)) (by decide +kernel))⟩
theorem flX5_134 : FLK RX5 134 2 12 := ⟨_, _, _, tyX2, rfl, by decide, uwX2, tyX2_ok, nmX2, Or.inr ⟨"FlowKernel", nst_in (List.mem_of_getElem? (i := 175) (by decide +kernel)) (by decide +kernel)⟩⟩
theorem flX2_60 : FLK RX2 60 2 13 := ⟨_, _, _, tyX2, rfl, by decide, uwX2, tyX2_ok, nmX2, Or.inl (tbg_in (List.mem_of_getElem? (i := 176) (by decide +kernel)) (by decide +kernel))⟩
theorem flX5_137 : FLK RX5 137 2 13 := ⟨_, _, _, tyX2, rfl, by decide, uwX2, tyX2_ok, nmX2, Or.inr ⟨"FlowKernel", nst_in (List.mem_of_getElem? (i := 177) (by decide +kernel)) (by decide +kernel)⟩⟩
theorem flX2_63 : FLK RX2 63 2 14 := ⟨_, _, _, tyX2, rfl, by decide, uwX2, tyX2_ok, nmX2, Or.inl (tbg_in (List.mem_of_getElem? (i := 178) (by decide +kernel)) (by decide +kernel))⟩
theorem fpX2_63 : FLP RX2 63 2 14 .int := ⟨_, _, _, tyX2, rfl, by decide, uwX2, tyX2_ok, nmX2, rfl, by decide +kernel, Or.inl (tbg_in (List.mem_of_getElem? (i := 178) (by decide +kernel)) (by decide +kernel))⟩
theorem flX5_124 : FLK RX5 124 2 14 := ⟨_, _, _, tyX2, rfl, by decide, uwX2, tyX2_ok, nmX2, Or.inr ⟨"FlowKernel", nst_in (List.mem_of_getElem? (i := 179) (by decide +kernel)) (by decide +kernel)⟩⟩
theorem fpX5_124 : FLP RX5 124 2 14 .int := ⟨_, _, _, tyX2, rfl, by decide, uwX2, tyX2_ok, nmX2, rfl, by decide +kernel, Or.inr ⟨"FlowKernel", nst_in (List.mem_of_getElem? (i := 179) (by decide +kernel)) (by decide +kernel)⟩⟩
theorem flX5_11 : FLK RX5 11 5 0 := ⟨_, _, _, tyX5, rfl, by decide, uwX5, tyX5_ok, nmX5, Or.inl (tbg_in (List.mem_of_getElem? (i := 213) (by decide +kernel)) (by decide +kernel))⟩
theorem flX5_21 : FLK RX5 21 5 1 := ⟨_, _, _, tyX5, rfl, by decide, uwX5, tyX5_ok, nmX5, Or.inl (tbg_in (List.mem_of_getElem? (i := 214) (by decide +kernel)) (by decide +kernel))⟩
theorem flX5_25 : FLK RX5 25 5 2 := ⟨_, _, _, tyX5, rfl, by decide, uwX5, tyX5_ok, nmX5, Or.inl (tbg_in (List.mem_of_getElem? (i := 215) (by decide +kernel)) (by decide +kernel))⟩
theorem fpX5_25 : FLP RX5 25 5 2 .int := ⟨_, _, _, tyX5, rfl, by decide, uwX5, tyX5_ok, nmX5, rfl, by decide +kernel, Or.inl (tbg_in (List.mem_of_getElem? (i := 215) (by decide +kernel)) (by decide +kernel))⟩
theorem flX6_9 : FLK RX6 9 6 0 := ⟨_, _, _, tyX6, rfl, by decide, uwX6, tyX6_ok, nmX6, Or.inl (tbg_in (List.mem_of_getElem? (i := 473) (by decide +kernel)) (by decide +kernel))⟩
theorem flX6_13 : FLK RX6 13 6 1 := ⟨_, _, _, tyX6, rfl, by decide, uwX6, tyX6_ok, nmX6, Or.inl (tbg_in (List.mem_of_getElem? (i := 474) (by decide +kernel)) (by decide +kernel))⟩
theorem flX6_16 : FLK RX6 16 6 2 := ⟨_, _, _, tyX6, rfl, by decide, uwX6, tyX6_ok, nmX6, Or.inl (tbg_in (List.mem_of_getElem? (i := 475) (by decide +kernel)) (by decide +kernel))⟩
theorem flX6_19 : FLK RX6 19 6 3 := ⟨_, _, _, tyX6, rfl, by decide, uwX6, tyX6_ok, nmX6, Or.inl (tbg_in (List.mem_of_getElem? (i := 476) (by decide +kernel)) (by decide +kernel))⟩
theorem flX6_22 : FLK RX6 22 6 4 := ⟨_, _, _, tyX6, rfl, by decide, uwX6, tyX6_ok, nmX6, Or.inl (tbg_in (List.mem_of_getElem? (i := 477) (by decide +kernel)) (by decide +kernel))⟩
theorem flX6_25 : FLK RX6 25 6 5 := ⟨_, _, _, tyX6, rfl, by decide, uwX6, tyX6_ok, nmX6, Or.inl (tbg_in (List.mem_of_getElem? (i := 478) (by decide +kernel)) (by decide +kernel))⟩
theorem flX6_29 : FLK RX6 29 6 6 := ⟨_, _, _, tyX6, rfl, by decide, uwX6, tyX6_ok, nmX6, Or.inl (tbg_in (List.mem_of_getElem? (i := 479) (by decide +kernel)) (by decide +kernel))⟩
theorem flX6_33 : FLK RX6 33 6 7 := ⟨_, _, _, tyX6, rfl, by decide, uwX6, tyX6_ok, nmX6, Or.inl (tbg_in (List.mem_of_getElem? (i := 480) (by decide +kernel)) (by decide +kernel))⟩
theorem flX6_36 : FLK RX6 36 6 8 := ⟨_, _, _, tyX6, rfl, by decide, uwX6, tyX6_ok, nmX6, Or.inl (tbg_in (List.mem_of_getElem? (i := 481) (by decide +kernel)) (by decide +kernel))⟩
theorem flX6_39 : FLK RX6 39 6 9 := ⟨_, _, _, tyX6, rfl, by decide, uwX6, tyX6_ok, nmX6, Or.inl (tbg_in (List.mem_of_getElem? (i := 482) (by decide +kernel)) (by decide +kernel))⟩
theorem flX6_42 : FLK RX6 42 6 10 := ⟨_, _, _, tyX6, rfl, by decide, uwX6, tyX6_ok, nmX6, Or.inl (tbg_in (List.mem_of_getElem? (i := 483) (by decide +kernel)) (by decide +kernel))⟩
theorem flX6_45 : FLK RX6 45 6 11 := ⟨_, _, _, tyX6, rfl, by decide, uwX6, tyX6_ok, nmX6, Or.inl (tbg_in (List.mem_of_getElem? (i := 484) (by decide +kernel)) (by decide +kernel))⟩
theorem flX6_48 : FLK RX6 48 6 12 := ⟨_, _, _, tyX6, rfl, by decide, uwX6, tyX6_ok, nmX6, Or.inl (tbg_in (List.mem_of_getElem? (i := 485) (by decide +kernel)) (by decide +kernel))⟩
theorem flX6_51 : FLK RX6 51 6 13 := ⟨_, _, _, tyX6, rfl, by decide, uwX6, tyX6_ok, nmX6, Or.inl (tbg_in (List.mem_of_getElem? (i := 486) (by decide +kernel)) (by decide +kernel))⟩
theorem flX6_54 : FLK RX6 54 6 14 := ⟨_, _, _, tyX6, rfl, by decide, uwX6, tyX6_ok, nmX6, Or.inl (tbg_in (List.mem_of_getElem? (i := 487) (by decide +kernel)) (by decide +kernel))⟩
theorem flX6_57 : FLK RX6 57 6 15 := ⟨_, _, _, tyX6, rfl, by decide, uwX6, tyX6_ok, nmX6, Or.inl (tbg_in (List.mem_of_getElem? (i := 488) (by decide +kernel)) (by decide +kernel))⟩
theorem flX6_60 : FLK RX6 60 6 16 := ⟨_, _, _, tyX6, rfl, by decide, uwX6, tyX6_ok, nmX6, Or.inl (tbg_in (List.mem_of_getElem? (i := 489) (by decide +kernel)) (by decide +kernel))⟩
theorem flX6_157 : FLK RX6 157 6 17 := ⟨_, _, _, tyX6, rfl, by decide, uwX6, tyX6_ok, nmX6, Or.inl (tbg_in (List.mem_of_getElem? (i := 490) (by decide +kernel)) (by decide +kernel))⟩
theorem fpX6_157 : FLP RX6 157 6 17 .int := ⟨_, _, _, tyX6, rfl, by decide, uwX6, tyX6_ok, nmX6, rfl, by decide +kernel, Or.inl (tbg_in (List.mem_of_getElem? (i := 490) (by decide +kernel)) (by decide +kernel))⟩
theorem mlL_13 : VLK RL 13 mX5_poke 5 := ⟨tbg_in (List.mem_of_getElem? (i := 223) (by decide +kernel)) (by decide +kernel), tbg_in (List.mem_of_getElem? (i := 224) (by decide +kernel)) (by decide +kernel), tbg_in (List.mem_of_getElem? (i := 225) (by decide +kernel)) (by decide +kernel), inX5, cdX5_poke, ⟨by decide, by decide, by decide +kernel⟩, by decide⟩
theorem mlX5_29 : SLK RX5 29 mX5_isSlot 1 := ⟨Or.inl (tbg_in (List.mem_of_getElem? (i := 227) (by decide +kernel)) (by decide +kernel)), tbg_in (List.mem_of_getElem? (i := 228) (by decide +kernel)) (by decide +kernel), inX5, cdX5_isSlot, ⟨by decide, by decide, by decide +kernel⟩, by decide⟩
theorem mlL_18 : VLK RL 18 mX5_start 1 := ⟨tbg_in (List.mem_of_getElem? (i := 230) (by decide +kernel)) (by decide +kernel), tbg_in (List.mem_of_getElem? (i := 231) (by decide +kernel)) (by decide +kernel), tbg_in (List.mem_of_getElem? (i := 232) (by decide +kernel)) (by decide +kernel), inX5, cdX5_start, ⟨by decide, by decide, by decide +kernel⟩, by decide⟩
theorem mlL_23 : VLK RL 23 mX5_counter 2 := ⟨tbg_in (List.mem_of_getElem? (i := 234) (by decide +kernel)) (by decide +kernel), tbg_in (List.mem_of_getElem? (i := 235) (by decide +kernel)) (by decide +kernel), tbg_in (List.mem_of_getElem? (i := 236) (by decide +kernel)) (by decide +kernel), inX5, cdX5_counter, ⟨by decide, by decide, by decide +kernel⟩, by decide⟩
theorem mlL_28 : VLK RL 28 mX5_tag 3 := ⟨tbg_in (List.mem_of_getElem? (i := 238) (by decide +kernel)) (by decide +kernel), tbg_in (List.mem_of_getElem? (i := 239) (by decide +kernel)) (by decide +kernel), tbg_in (List.mem_of_getElem? (i := 240) (by decide +kernel)) (by decide +kernel), inX5, cdX5_tag, ⟨by decide, by decide, by decide +kernel⟩, by decide⟩
theorem mlX5_43 : VLK RX5 43 mX5_isThere 1 := ⟨tbg_in (List.mem_of_getElem? (i := 242) (by decide +kernel)) (by decide +kernel), tbg_in (List.mem_of_getElem? (i := 244) (by decide +kernel)) (by decide +kernel), tbg_in (List.mem_of_getElem? (i := 0) (by decide +kernel)) (by decide +kernel), inX5, cdX5_isThere, ⟨by decide, by decide, by decide +kernel⟩, by decide⟩
theorem mlX5_144 : SLK RX5 144 mX5_isTag 1 := ⟨Or.inl (tbg_in (List.mem_of_getElem? (i := 246) (by decide +kernel)) (by decide +kernel)), tbg_in (List.mem_of_getElem? (i := 247) (by decide +kernel)) (by decide +kernel), inX5, cdX5_isTag, ⟨by decide, by decide, by decide +kernel⟩, by decide⟩
theorem mlX5_49 : VLK RX5 49 mX4_change 3 := ⟨tbg_in (List.mem_of_getElem? (i := 249) (by decide +kernel)) (by decide +kernel), tbg_in (List.mem_of_getElem? (i := 250) (by decide +kernel)) (by decide +kernel), tbg_in (List.mem_of_getElem? (i := 251) (by decide +kernel)) (by decide +kernel), inX4, cdX4_change, ⟨by decide, by decide, by decide +kernel⟩, by decide⟩
theorem mlX4_26 : VLK RX4 26 mX4_remove 1 := ⟨tbg_in (List.mem_of_getElem? (i := 253) (by decide +kernel)) (by decide +kernel), tbg_in (List.mem_of_getElem? (i := 254) (by decide +kernel)) (by decide +kernel), tbg_in (List.mem_of_getElem? (i := 255) (by decide +kernel)) (by decide +kernel), inX4, cdX4_remove, ⟨by decide, by decide, by decide +kernel⟩, by decide⟩
theorem mlX4_23 : VLK RX4 23 mX4_has 1 := ⟨tbg_in (List.mem_of_getElem? (i := 257) (by decide +kernel)) (by decide +kernel), tbg_in (List.mem_of_getElem? (i := 258) (by decide +kernel)) (by decide +kernel), tbg_in (List.mem_of_getElem? (i := 259) (by decide +kernel)) (by decide +kernel), inX4, cdX4_has, ⟨by decide, by decide, by decide +kernel⟩, by decide⟩
theorem mlX4_30 : VLK RX4 30 mX4_add 1 := ⟨tbg_in (List.mem_of_getElem? (i := 261) (by decide +kernel)) (by decide +kernel), tbg_in (List.mem_of_getElem? (i := 262) (by decide +kernel)) (by decide +kernel), tbg_in (List.mem_of_getElem? (i := 263) (by decide +kernel)) (by decide +kernel), inX4, cdX4_add, ⟨by decide, by decide, by decide +kernel⟩, by decide⟩
theorem mlX4_19 : SLK RX4 19 mX5_isTag 1 := ⟨Or.inr ⟨"FlowKernel", nst_in (List.mem_of_getElem? (i := 265) (by decide +kernel)) (by decide +kernel)⟩, tbg_in (List.mem_of_getElem? (i := 247) (by decide +kernel)) (by decide +kernel), inX5, cdX5_isTag, ⟨by decide, by decide, by decide +kernel⟩, by decide⟩
theorem mlL_33 : VLK RL 33 mX5_capability 4 := ⟨tbg_in (List.mem_of_getElem? (i := 266) (by decide +kernel)) (by decide +kernel), tbg_in (List.mem_of_getElem? (i := 267) (by decide +kernel)) (by decide +kernel), tbg_in (List.mem_of_getElem? (i := 268) (by decide +kernel)) (by decide +kernel), inX5, cdX5_capability, ⟨by decide, by decide, by decide +kernel⟩, by decide⟩
theorem mlX5_53 : VLK RX5 53 mX2_capabilities 1 := ⟨tbg_in (List.mem_of_getElem? (i := 270) (by decide +kernel)) (by decide +kernel), tbg_in (List.mem_of_getElem? (i := 271) (by decide +kernel)) (by decide +kernel), tbg_in (List.mem_of_getElem? (i := 272) (by decide +kernel)) (by decide +kernel), inX2, cdX2_capabilities, ⟨by decide, by decide, by decide +kernel⟩, by decide⟩
theorem mlL_38 : VLK RL 38 mX5_file 2 := ⟨tbg_in (List.mem_of_getElem? (i := 274) (by decide +kernel)) (by decide +kernel), tbg_in (List.mem_of_getElem? (i := 275) (by decide +kernel)) (by decide +kernel), tbg_in (List.mem_of_getElem? (i := 276) (by decide +kernel)) (by decide +kernel), inX5, cdX5_file, ⟨by decide, by decide, by decide +kernel⟩, by decide⟩
theorem mlX5_57 : SLK RX5 57 mX5_isFile 1 := ⟨Or.inl (tbg_in (List.mem_of_getElem? (i := 278) (by decide +kernel)) (by decide +kernel)), tbg_in (List.mem_of_getElem? (i := 279) (by decide +kernel)) (by decide +kernel), inX5, cdX5_isFile, ⟨by decide, by decide, by decide +kernel⟩, by decide⟩
theorem mlX5_60 : VLK RX5 60 mX5_fileAt 1 := ⟨tbg_in (List.mem_of_getElem? (i := 281) (by decide +kernel)) (by decide +kernel), tbg_in (List.mem_of_getElem? (i := 283) (by decide +kernel)) (by decide +kernel), tbg_in (List.mem_of_getElem? (i := 1) (by decide +kernel)) (by decide +kernel), inX5, cdX5_fileAt, ⟨by decide, by decide, by decide +kernel⟩, by decide⟩
theorem mlL_42 : VLK RL 42 mX5_fill 3 := ⟨tbg_in (List.mem_of_getElem? (i := 285) (by decide +kernel)) (by decide +kernel), tbg_in (List.mem_of_getElem? (i := 286) (by decide +kernel)) (by decide +kernel), tbg_in (List.mem_of_getElem? (i := 287) (by decide +kernel)) (by decide +kernel), inX5, cdX5_fill, ⟨by decide, by decide, by decide +kernel⟩, by decide⟩
theorem mlX5_74 : VLK RX5 74 mX5_isFileCell 2 := ⟨tbg_in (List.mem_of_getElem? (i := 289) (by decide +kernel)) (by decide +kernel), tbg_in (List.mem_of_getElem? (i := 291) (by decide +kernel)) (by decide +kernel), tbg_in (List.mem_of_getElem? (i := 2) (by decide +kernel)) (by decide +kernel), inX5, cdX5_isFileCell, ⟨by decide, by decide, by decide +kernel⟩, by decide⟩
theorem mlL_47 : VLK RL 47 mX5_post 3 := ⟨tbg_in (List.mem_of_getElem? (i := 293) (by decide +kernel)) (by decide +kernel), tbg_in (List.mem_of_getElem? (i := 294) (by decide +kernel)) (by decide +kernel), tbg_in (List.mem_of_getElem? (i := 295) (by decide +kernel)) (by decide +kernel), inX5, cdX5_post, ⟨by decide, by decide, by decide +kernel⟩, by decide⟩
theorem mlX5_85 : VLK RX5 85 mX1_put 3 := ⟨tbg_in (List.mem_of_getElem? (i := 297) (by decide +kernel)) (by decide +kernel), tbg_in (List.mem_of_getElem? (i := 298) (by decide +kernel)) (by decide +kernel), tbg_in (List.mem_of_getElem? (i := 299) (by decide +kernel)) (by decide +kernel), inX1, cdX1_put, ⟨by decide, by decide, by decide +kernel⟩, by decide⟩
theorem mlX1_32 : VLK RX1 32 mX4_copy 1 := ⟨tbg_in (List.mem_of_getElem? (i := 301) (by decide +kernel)) (by decide +kernel), tbg_in (List.mem_of_getElem? (i := 302) (by decide +kernel)) (by decide +kernel), tbg_in (List.mem_of_getElem? (i := 303) (by decide +kernel)) (by decide +kernel), inX4, cdX4_copy, ⟨by decide, by decide, by decide +kernel⟩, by decide⟩
theorem mlL_51 : VLK RL 51 mX5_run 1 := ⟨tbg_in (List.mem_of_getElem? (i := 305) (by decide +kernel)) (by decide +kernel), tbg_in (List.mem_of_getElem? (i := 306) (by decide +kernel)) (by decide +kernel), tbg_in (List.mem_of_getElem? (i := 307) (by decide +kernel)) (by decide +kernel), inX5, cdX5_run, ⟨by decide, by decide, by decide +kernel⟩, by decide⟩
theorem mlX5_92 : SLK RX5 92 mJ9_floorMod_7cf53 2 := ⟨Or.inl (tbg_in (List.mem_of_getElem? (i := 309) (by decide +kernel)) (by decide +kernel)), tbg_in (List.mem_of_getElem? (i := 310) (by decide +kernel)) (by decide +kernel), inJ9, cdJ9_floorMod_7cf53, ⟨by decide, by decide, by decide +kernel⟩, by decide⟩
theorem mlX5_98 : VLK RX5 98 mX5_step 1 := ⟨tbg_in (List.mem_of_getElem? (i := 312) (by decide +kernel)) (by decide +kernel), tbg_in (List.mem_of_getElem? (i := 314) (by decide +kernel)) (by decide +kernel), tbg_in (List.mem_of_getElem? (i := 3) (by decide +kernel)) (by decide +kernel), inX5, cdX5_step, ⟨by decide, by decide, by decide +kernel⟩, by decide⟩
theorem mlX5_102 : SLK RX5 102 mX5_isPlace 1 := ⟨Or.inl (tbg_in (List.mem_of_getElem? (i := 316) (by decide +kernel)) (by decide +kernel)), tbg_in (List.mem_of_getElem? (i := 317) (by decide +kernel)) (by decide +kernel), inX5, cdX5_isPlace, ⟨by decide, by decide, by decide +kernel⟩, by decide⟩
theorem mlX5_151 : VLK RX5 151 mX2_stopBy 1 := ⟨tbg_in (List.mem_of_getElem? (i := 319) (by decide +kernel)) (by decide +kernel), tbg_in (List.mem_of_getElem? (i := 320) (by decide +kernel)) (by decide +kernel), tbg_in (List.mem_of_getElem? (i := 321) (by decide +kernel)) (by decide +kernel), inX2, cdX2_stopBy, ⟨by decide, by decide, by decide +kernel⟩, by decide⟩
theorem mlX5_154 : VLK RX5 154 mX5_systemCall 2 := ⟨tbg_in (List.mem_of_getElem? (i := 323) (by decide +kernel)) (by decide +kernel), tbg_in (List.mem_of_getElem? (i := 325) (by decide +kernel)) (by decide +kernel), tbg_in (List.mem_of_getElem? (i := 4) (by decide +kernel)) (by decide +kernel), inX5, cdX5_systemCall, ⟨by decide, by decide, by decide +kernel⟩, by decide⟩
theorem mlX5_174 : VLK RX5 174 mX5_readList 2 := ⟨tbg_in (List.mem_of_getElem? (i := 327) (by decide +kernel)) (by decide +kernel), tbg_in (List.mem_of_getElem? (i := 329) (by decide +kernel)) (by decide +kernel), tbg_in (List.mem_of_getElem? (i := 5) (by decide +kernel)) (by decide +kernel), inX5, cdX5_readList, ⟨by decide, by decide, by decide +kernel⟩, by decide⟩
theorem mlX5_214 : VLK RX5 214 mX4_clear 0 := ⟨tbg_in (List.mem_of_getElem? (i := 331) (by decide +kernel)) (by decide +kernel), tbg_in (List.mem_of_getElem? (i := 332) (by decide +kernel)) (by decide +kernel), tbg_in (List.mem_of_getElem? (i := 333) (by decide +kernel)) (by decide +kernel), inX4, cdX4_clear, ⟨by decide, by decide, by decide +kernel⟩, by decide⟩
theorem mlX5_217 : VLK RX5 217 mX4_add 1 := ⟨tbg_in (List.mem_of_getElem? (i := 335) (by decide +kernel)) (by decide +kernel), tbg_in (List.mem_of_getElem? (i := 262) (by decide +kernel)) (by decide +kernel), tbg_in (List.mem_of_getElem? (i := 263) (by decide +kernel)) (by decide +kernel), inX4, cdX4_add, ⟨by decide, by decide, by decide +kernel⟩, by decide⟩
theorem mlX5_178 : VLK RX5 178 mX2_newTag 0 := ⟨tbg_in (List.mem_of_getElem? (i := 336) (by decide +kernel)) (by decide +kernel), tbg_in (List.mem_of_getElem? (i := 337) (by decide +kernel)) (by decide +kernel), tbg_in (List.mem_of_getElem? (i := 338) (by decide +kernel)) (by decide +kernel), inX2, cdX2_newTag, ⟨by decide, by decide, by decide +kernel⟩, by decide⟩
theorem mlX2_77 : VLK RX2 77 mX4_add 1 := ⟨tbg_in (List.mem_of_getElem? (i := 340) (by decide +kernel)) (by decide +kernel), tbg_in (List.mem_of_getElem? (i := 262) (by decide +kernel)) (by decide +kernel), tbg_in (List.mem_of_getElem? (i := 263) (by decide +kernel)) (by decide +kernel), inX4, cdX4_add, ⟨by decide, by decide, by decide +kernel⟩, by decide⟩
theorem mlX5_181 : VLK RX5 181 mX2_relabel 1 := ⟨tbg_in (List.mem_of_getElem? (i := 341) (by decide +kernel)) (by decide +kernel), tbg_in (List.mem_of_getElem? (i := 342) (by decide +kernel)) (by decide +kernel), tbg_in (List.mem_of_getElem? (i := 343) (by decide +kernel)) (by decide +kernel), inX2, cdX2_relabel, ⟨by decide, by decide, by decide +kernel⟩, by decide⟩
theorem mlX2_81 : VLK RX2 81 mX4_isInEither 2 := ⟨tbg_in (List.mem_of_getElem? (i := 345) (by decide +kernel)) (by decide +kernel), tbg_in (List.mem_of_getElem? (i := 346) (by decide +kernel)) (by decide +kernel), tbg_in (List.mem_of_getElem? (i := 347) (by decide +kernel)) (by decide +kernel), inX4, cdX4_isInEither, ⟨by decide, by decide, by decide +kernel⟩, by decide⟩
theorem mlX2_85 : VLK RX2 85 mX4_copy 1 := ⟨tbg_in (List.mem_of_getElem? (i := 349) (by decide +kernel)) (by decide +kernel), tbg_in (List.mem_of_getElem? (i := 302) (by decide +kernel)) (by decide +kernel), tbg_in (List.mem_of_getElem? (i := 303) (by decide +kernel)) (by decide +kernel), inX4, cdX4_copy, ⟨by decide, by decide, by decide +kernel⟩, by decide⟩
theorem mlX5_185 : VLK RX5 185 mX2_dropCapability 2 := ⟨tbg_in (List.mem_of_getElem? (i := 350) (by decide +kernel)) (by decide +kernel), tbg_in (List.mem_of_getElem? (i := 351) (by decide +kernel)) (by decide +kernel), tbg_in (List.mem_of_getElem? (i := 352) (by decide +kernel)) (by decide +kernel), inX2, cdX2_dropCapability, ⟨by decide, by decide, by decide +kernel⟩, by decide⟩
theorem mlX2_89 : SLK RX2 89 mX5_kindOf 1 := ⟨Or.inr ⟨"FlowKernel", nst_in (List.mem_of_getElem? (i := 354) (by decide +kernel)) (by decide +kernel)⟩, tbg_in (List.mem_of_getElem? (i := 355) (by decide +kernel)) (by decide +kernel), inX5, cdX5_kindOf, ⟨by decide, by decide, by decide +kernel⟩, by decide⟩
theorem mlX2_93 : VLK RX2 93 mX2_capabilities 1 := ⟨tbg_in (List.mem_of_getElem? (i := 357) (by decide +kernel)) (by decide +kernel), tbg_in (List.mem_of_getElem? (i := 271) (by decide +kernel)) (by decide +kernel), tbg_in (List.mem_of_getElem? (i := 272) (by decide +kernel)) (by decide +kernel), inX2, cdX2_capabilities, ⟨by decide, by decide, by decide +kernel⟩, by decide⟩
theorem mlX2_97 : VLK RX2 97 mX4_has 1 := ⟨tbg_in (List.mem_of_getElem? (i := 358) (by decide +kernel)) (by decide +kernel), tbg_in (List.mem_of_getElem? (i := 258) (by decide +kernel)) (by decide +kernel), tbg_in (List.mem_of_getElem? (i := 259) (by decide +kernel)) (by decide +kernel), inX4, cdX4_has, ⟨by decide, by decide, by decide +kernel⟩, by decide⟩
theorem mlX2_101 : VLK RX2 101 mX4_remove 1 := ⟨tbg_in (List.mem_of_getElem? (i := 359) (by decide +kernel)) (by decide +kernel), tbg_in (List.mem_of_getElem? (i := 254) (by decide +kernel)) (by decide +kernel), tbg_in (List.mem_of_getElem? (i := 255) (by decide +kernel)) (by decide +kernel), inX4, cdX4_remove, ⟨by decide, by decide, by decide +kernel⟩, by decide⟩
theorem mlX5_188 : VLK RX5 188 mX5_send 4 := ⟨tbg_in (List.mem_of_getElem? (i := 360) (by decide +kernel)) (by decide +kernel), tbg_in (List.mem_of_getElem? (i := 362) (by decide +kernel)) (by decide +kernel), tbg_in (List.mem_of_getElem? (i := 6) (by decide +kernel)) (by decide +kernel), inX5, cdX5_send, ⟨by decide, by decide, by decide +kernel⟩, by decide⟩
theorem mlX5_140 : VLK RX5 140 mX4_isIn 1 := ⟨tbg_in (List.mem_of_getElem? (i := 364) (by decide +kernel)) (by decide +kernel), tbg_in (List.mem_of_getElem? (i := 365) (by decide +kernel)) (by decide +kernel), tbg_in (List.mem_of_getElem? (i := 366) (by decide +kernel)) (by decide +kernel), inX4, cdX4_isIn, ⟨by decide, by decide, by decide +kernel⟩, by decide⟩
theorem mlX4_33 : VLK RX4 33 mX4_isInEither 2 := ⟨tbg_in (List.mem_of_getElem? (i := 368) (by decide +kernel)) (by decide +kernel), tbg_in (List.mem_of_getElem? (i := 346) (by decide +kernel)) (by decide +kernel), tbg_in (List.mem_of_getElem? (i := 347) (by decide +kernel)) (by decide +kernel), inX4, cdX4_isInEither, ⟨by decide, by decide, by decide +kernel⟩, by decide⟩
theorem mlX5_192 : VLK RX5 192 mX5_pass 4 := ⟨tbg_in (List.mem_of_getElem? (i := 369) (by decide +kernel)) (by decide +kernel), tbg_in (List.mem_of_getElem? (i := 371) (by decide +kernel)) (by decide +kernel), tbg_in (List.mem_of_getElem? (i := 7) (by decide +kernel)) (by decide +kernel), inX5, cdX5_pass, ⟨by decide, by decide, by decide +kernel⟩, by decide⟩
theorem mlX5_220 : SLK RX5 220 mX5_kindOf 1 := ⟨Or.inl (tbg_in (List.mem_of_getElem? (i := 373) (by decide +kernel)) (by decide +kernel)), tbg_in (List.mem_of_getElem? (i := 355) (by decide +kernel)) (by decide +kernel), inX5, cdX5_kindOf, ⟨by decide, by decide, by decide +kernel⟩, by decide⟩
theorem mlX5_223 : VLK RX5 223 mX4_has 1 := ⟨tbg_in (List.mem_of_getElem? (i := 374) (by decide +kernel)) (by decide +kernel), tbg_in (List.mem_of_getElem? (i := 258) (by decide +kernel)) (by decide +kernel), tbg_in (List.mem_of_getElem? (i := 259) (by decide +kernel)) (by decide +kernel), inX4, cdX4_has, ⟨by decide, by decide, by decide +kernel⟩, by decide⟩
theorem mlX5_195 : VLK RX5 195 mX2_receive 0 := ⟨tbg_in (List.mem_of_getElem? (i := 375) (by decide +kernel)) (by decide +kernel), tbg_in (List.mem_of_getElem? (i := 376) (by decide +kernel)) (by decide +kernel), tbg_in (List.mem_of_getElem? (i := 377) (by decide +kernel)) (by decide +kernel), inX2, cdX2_receive, ⟨by decide, by decide, by decide +kernel⟩, by decide⟩
theorem mlX2_104 : VLK RX2 104 mX1_take 1 := ⟨tbg_in (List.mem_of_getElem? (i := 379) (by decide +kernel)) (by decide +kernel), tbg_in (List.mem_of_getElem? (i := 380) (by decide +kernel)) (by decide +kernel), tbg_in (List.mem_of_getElem? (i := 381) (by decide +kernel)) (by decide +kernel), inX1, cdX1_take, ⟨by decide, by decide, by decide +kernel⟩, by decide⟩
theorem mlX1_50 : VLK RX1 50 mX4_isIn 1 := ⟨tbg_in (List.mem_of_getElem? (i := 383) (by decide +kernel)) (by decide +kernel), tbg_in (List.mem_of_getElem? (i := 365) (by decide +kernel)) (by decide +kernel), tbg_in (List.mem_of_getElem? (i := 366) (by decide +kernel)) (by decide +kernel), inX4, cdX4_isIn, ⟨by decide, by decide, by decide +kernel⟩, by decide⟩
theorem mlX2_119 : VLK RX2 119 mX4_change 3 := ⟨tbg_in (List.mem_of_getElem? (i := 384) (by decide +kernel)) (by decide +kernel), tbg_in (List.mem_of_getElem? (i := 250) (by decide +kernel)) (by decide +kernel), tbg_in (List.mem_of_getElem? (i := 251) (by decide +kernel)) (by decide +kernel), inX4, cdX4_change, ⟨by decide, by decide, by decide +kernel⟩, by decide⟩
theorem mlX5_198 : VLK RX5 198 mX2_createFile 1 := ⟨tbg_in (List.mem_of_getElem? (i := 385) (by decide +kernel)) (by decide +kernel), tbg_in (List.mem_of_getElem? (i := 386) (by decide +kernel)) (by decide +kernel), tbg_in (List.mem_of_getElem? (i := 387) (by decide +kernel)) (by decide +kernel), inX2, cdX2_createFile, ⟨by decide, by decide, by decide +kernel⟩, by decide⟩
theorem mlX2_123 : VLK RX2 123 mX4_isIn 1 := ⟨tbg_in (List.mem_of_getElem? (i := 389) (by decide +kernel)) (by decide +kernel), tbg_in (List.mem_of_getElem? (i := 365) (by decide +kernel)) (by decide +kernel), tbg_in (List.mem_of_getElem? (i := 366) (by decide +kernel)) (by decide +kernel), inX4, cdX4_isIn, ⟨by decide, by decide, by decide +kernel⟩, by decide⟩
theorem mlX5_201 : VLK RX5 201 mX5_read 3 := ⟨tbg_in (List.mem_of_getElem? (i := 390) (by decide +kernel)) (by decide +kernel), tbg_in (List.mem_of_getElem? (i := 392) (by decide +kernel)) (by decide +kernel), tbg_in (List.mem_of_getElem? (i := 8) (by decide +kernel)) (by decide +kernel), inX5, cdX5_read, ⟨by decide, by decide, by decide +kernel⟩, by decide⟩
theorem mlX5_205 : VLK RX5 205 mX5_write 4 := ⟨tbg_in (List.mem_of_getElem? (i := 394) (by decide +kernel)) (by decide +kernel), tbg_in (List.mem_of_getElem? (i := 396) (by decide +kernel)) (by decide +kernel), tbg_in (List.mem_of_getElem? (i := 9) (by decide +kernel)) (by decide +kernel), inX5, cdX5_write, ⟨by decide, by decide, by decide +kernel⟩, by decide⟩
theorem mlX5_208 : VLK RX5 208 mX5_spawn 4 := ⟨tbg_in (List.mem_of_getElem? (i := 398) (by decide +kernel)) (by decide +kernel), tbg_in (List.mem_of_getElem? (i := 400) (by decide +kernel)) (by decide +kernel), tbg_in (List.mem_of_getElem? (i := 10) (by decide +kernel)) (by decide +kernel), inX5, cdX5_spawn, ⟨by decide, by decide, by decide +kernel⟩, by decide⟩
theorem mlX5_229 : VLK RX5 229 mX4_copy 1 := ⟨tbg_in (List.mem_of_getElem? (i := 402) (by decide +kernel)) (by decide +kernel), tbg_in (List.mem_of_getElem? (i := 302) (by decide +kernel)) (by decide +kernel), tbg_in (List.mem_of_getElem? (i := 303) (by decide +kernel)) (by decide +kernel), inX4, cdX4_copy, ⟨by decide, by decide, by decide +kernel⟩, by decide⟩
theorem mlX5_211 : VLK RX5 211 mX2_addOutput 1 := ⟨tbg_in (List.mem_of_getElem? (i := 403) (by decide +kernel)) (by decide +kernel), tbg_in (List.mem_of_getElem? (i := 404) (by decide +kernel)) (by decide +kernel), tbg_in (List.mem_of_getElem? (i := 405) (by decide +kernel)) (by decide +kernel), inX2, cdX2_addOutput, ⟨by decide, by decide, by decide +kernel⟩, by decide⟩
theorem mlX5_158 : SLK RX5 158 mX5_wantsCell 1 := ⟨Or.inl (tbg_in (List.mem_of_getElem? (i := 407) (by decide +kernel)) (by decide +kernel)), tbg_in (List.mem_of_getElem? (i := 408) (by decide +kernel)) (by decide +kernel), inX5, cdX5_wantsCell, ⟨by decide, by decide, by decide +kernel⟩, by decide⟩
theorem mlX5_161 : SLK RX5 161 mX5_plainInstruction 3 := ⟨Or.inl (tbg_in (List.mem_of_getElem? (i := 410) (by decide +kernel)) (by decide +kernel)), tbg_in (List.mem_of_getElem? (i := 411) (by decide +kernel)) (by decide +kernel), inX5, cdX5_plainInstruction, ⟨by decide, by decide, by decide +kernel⟩, by decide⟩
theorem mlX5_165 : SLK RX5 165 mX5_cellInstruction 3 := ⟨Or.inl (tbg_in (List.mem_of_getElem? (i := 413) (by decide +kernel)) (by decide +kernel)), tbg_in (List.mem_of_getElem? (i := 414) (by decide +kernel)) (by decide +kernel), inX5, cdX5_cellInstruction, ⟨by decide, by decide, by decide +kernel⟩, by decide⟩
theorem mlX5_168 : SLK RX5 168 mX5_indirectInstruction 3 := ⟨Or.inl (tbg_in (List.mem_of_getElem? (i := 416) (by decide +kernel)) (by decide +kernel)), tbg_in (List.mem_of_getElem? (i := 417) (by decide +kernel)) (by decide +kernel), inX5, cdX5_indirectInstruction, ⟨by decide, by decide, by decide +kernel⟩, by decide⟩
theorem mlX5_171 : SLK RX5 171 mX5_divideInstruction 3 := ⟨Or.inl (tbg_in (List.mem_of_getElem? (i := 419) (by decide +kernel)) (by decide +kernel)), tbg_in (List.mem_of_getElem? (i := 420) (by decide +kernel)) (by decide +kernel), inX5, cdX5_divideInstruction, ⟨by decide, by decide, by decide +kernel⟩, by decide⟩
theorem mlL_55 : VLK RL 55 mX5_cell 2 := ⟨tbg_in (List.mem_of_getElem? (i := 422) (by decide +kernel)) (by decide +kernel), tbg_in (List.mem_of_getElem? (i := 423) (by decide +kernel)) (by decide +kernel), tbg_in (List.mem_of_getElem? (i := 424) (by decide +kernel)) (by decide +kernel), inX5, cdX5_cell, ⟨by decide, by decide, by decide +kernel⟩, by decide⟩
theorem mlL_59 : VLK RL 59 mX5_slot 2 := ⟨tbg_in (List.mem_of_getElem? (i := 426) (by decide +kernel)) (by decide +kernel), tbg_in (List.mem_of_getElem? (i := 427) (by decide +kernel)) (by decide +kernel), tbg_in (List.mem_of_getElem? (i := 428) (by decide +kernel)) (by decide +kernel), inX5, cdX5_slot, ⟨by decide, by decide, by decide +kernel⟩, by decide⟩
theorem mlX5_120 : VLK RX5 120 mX2_countFiles 0 := ⟨tbg_in (List.mem_of_getElem? (i := 430) (by decide +kernel)) (by decide +kernel), tbg_in (List.mem_of_getElem? (i := 431) (by decide +kernel)) (by decide +kernel), tbg_in (List.mem_of_getElem? (i := 432) (by decide +kernel)) (by decide +kernel), inX2, cdX2_countFiles, ⟨by decide, by decide, by decide +kernel⟩, by decide⟩
theorem mlL_63 : VLK RL 63 mX5_label 2 := ⟨tbg_in (List.mem_of_getElem? (i := 434) (by decide +kernel)) (by decide +kernel), tbg_in (List.mem_of_getElem? (i := 435) (by decide +kernel)) (by decide +kernel), tbg_in (List.mem_of_getElem? (i := 436) (by decide +kernel)) (by decide +kernel), inX5, cdX5_label, ⟨by decide, by decide, by decide +kernel⟩, by decide⟩
theorem mlX5_127 : VLK RX5 127 mX4_tagAt 1 := ⟨tbg_in (List.mem_of_getElem? (i := 438) (by decide +kernel)) (by decide +kernel), tbg_in (List.mem_of_getElem? (i := 439) (by decide +kernel)) (by decide +kernel), tbg_in (List.mem_of_getElem? (i := 440) (by decide +kernel)) (by decide +kernel), inX4, cdX4_tagAt, ⟨by decide, by decide, by decide +kernel⟩, by decide⟩
theorem mlL_67 : VLK RL 67 mX5_output 2 := ⟨tbg_in (List.mem_of_getElem? (i := 442) (by decide +kernel)) (by decide +kernel), tbg_in (List.mem_of_getElem? (i := 443) (by decide +kernel)) (by decide +kernel), tbg_in (List.mem_of_getElem? (i := 444) (by decide +kernel)) (by decide +kernel), inX5, cdX5_output, ⟨by decide, by decide, by decide +kernel⟩, by decide⟩
theorem mlX5_131 : VLK RX5 131 mX5_isOutput 2 := ⟨tbg_in (List.mem_of_getElem? (i := 446) (by decide +kernel)) (by decide +kernel), tbg_in (List.mem_of_getElem? (i := 448) (by decide +kernel)) (by decide +kernel), tbg_in (List.mem_of_getElem? (i := 11) (by decide +kernel)) (by decide +kernel), inX5, cdX5_isOutput, ⟨by decide, by decide, by decide +kernel⟩, by decide⟩
theorem mlL_71 : VLK RL 71 mX5_outputTags 2 := ⟨tbg_in (List.mem_of_getElem? (i := 450) (by decide +kernel)) (by decide +kernel), tbg_in (List.mem_of_getElem? (i := 451) (by decide +kernel)) (by decide +kernel), tbg_in (List.mem_of_getElem? (i := 452) (by decide +kernel)) (by decide +kernel), inX5, cdX5_outputTags, ⟨by decide, by decide, by decide +kernel⟩, by decide⟩
theorem mlL_75 : VLK RL 75 mX5_content 2 := ⟨tbg_in (List.mem_of_getElem? (i := 454) (by decide +kernel)) (by decide +kernel), tbg_in (List.mem_of_getElem? (i := 455) (by decide +kernel)) (by decide +kernel), tbg_in (List.mem_of_getElem? (i := 456) (by decide +kernel)) (by decide +kernel), inX5, cdX5_content, ⟨by decide, by decide, by decide +kernel⟩, by decide⟩
theorem mlL_79 : VLK RL 79 mX5_fileTags 1 := ⟨tbg_in (List.mem_of_getElem? (i := 458) (by decide +kernel)) (by decide +kernel), tbg_in (List.mem_of_getElem? (i := 459) (by decide +kernel)) (by decide +kernel), tbg_in (List.mem_of_getElem? (i := 460) (by decide +kernel)) (by decide +kernel), inX5, cdX5_fileTags, ⟨by decide, by decide, by decide +kernel⟩, by decide⟩
theorem mlL_83 : VLK RL 83 mX5_mayFlow 2 := ⟨tbg_in (List.mem_of_getElem? (i := 462) (by decide +kernel)) (by decide +kernel), tbg_in (List.mem_of_getElem? (i := 463) (by decide +kernel)) (by decide +kernel), tbg_in (List.mem_of_getElem? (i := 464) (by decide +kernel)) (by decide +kernel), inX5, cdX5_mayFlow, ⟨by decide, by decide, by decide +kernel⟩, by decide⟩
theorem mlL_17 : VLK RL 17 mX6_poke 5 := ⟨tbg_in (List.mem_of_getElem? (i := 529) (by decide +kernel)) (by decide +kernel), tbg_in (List.mem_of_getElem? (i := 530) (by decide +kernel)) (by decide +kernel), tbg_in (List.mem_of_getElem? (i := 531) (by decide +kernel)) (by decide +kernel), inX6, cdX6_poke, ⟨by decide, by decide, by decide +kernel⟩, by decide⟩
theorem mlX6_75 : SLK RX6 75 mX6_isSlot 1 := ⟨Or.inl (tbg_in (List.mem_of_getElem? (i := 533) (by decide +kernel)) (by decide +kernel)), tbg_in (List.mem_of_getElem? (i := 534) (by decide +kernel)) (by decide +kernel), inX6, cdX6_isSlot, ⟨by decide, by decide, by decide +kernel⟩, by decide⟩
theorem mlX6_63 : SLK RX6 63 mX6_isIn 3 := ⟨Or.inl (tbg_in (List.mem_of_getElem? (i := 536) (by decide +kernel)) (by decide +kernel)), tbg_in (List.mem_of_getElem? (i := 537) (by decide +kernel)) (by decide +kernel), inX6, cdX6_isIn, ⟨by decide, by decide, by decide +kernel⟩, by decide⟩
theorem mlL_22 : VLK RL 22 mX6_start 1 := ⟨tbg_in (List.mem_of_getElem? (i := 539) (by decide +kernel)) (by decide +kernel), tbg_in (List.mem_of_getElem? (i := 540) (by decide +kernel)) (by decide +kernel), tbg_in (List.mem_of_getElem? (i := 541) (by decide +kernel)) (by decide +kernel), inX6, cdX6_start, ⟨by decide, by decide, by decide +kernel⟩, by decide⟩
theorem mlL_27 : VLK RL 27 mX6_counter 2 := ⟨tbg_in (List.mem_of_getElem? (i := 543) (by decide +kernel)) (by decide +kernel), tbg_in (List.mem_of_getElem? (i := 544) (by decide +kernel)) (by decide +kernel), tbg_in (List.mem_of_getElem? (i := 545) (by decide +kernel)) (by decide +kernel), inX6, cdX6_counter, ⟨by decide, by decide, by decide +kernel⟩, by decide⟩
theorem mlL_32 : VLK RL 32 mX6_tag 3 := ⟨tbg_in (List.mem_of_getElem? (i := 547) (by decide +kernel)) (by decide +kernel), tbg_in (List.mem_of_getElem? (i := 548) (by decide +kernel)) (by decide +kernel), tbg_in (List.mem_of_getElem? (i := 549) (by decide +kernel)) (by decide +kernel), inX6, cdX6_tag, ⟨by decide, by decide, by decide +kernel⟩, by decide⟩
theorem mlX6_147 : VLK RX6 147 mX6_isThere 1 := ⟨tbg_in (List.mem_of_getElem? (i := 551) (by decide +kernel)) (by decide +kernel), tbg_in (List.mem_of_getElem? (i := 553) (by decide +kernel)) (by decide +kernel), tbg_in (List.mem_of_getElem? (i := 12) (by decide +kernel)) (by decide +kernel), inX6, cdX6_isThere, ⟨by decide, by decide, by decide +kernel⟩, by decide⟩
theorem mlX6_150 : VLK RX6 150 mX6_setTag 3 := ⟨tbg_in (List.mem_of_getElem? (i := 555) (by decide +kernel)) (by decide +kernel), tbg_in (List.mem_of_getElem? (i := 557) (by decide +kernel)) (by decide +kernel), tbg_in (List.mem_of_getElem? (i := 13) (by decide +kernel)) (by decide +kernel), inX6, cdX6_setTag, ⟨by decide, by decide, by decide +kernel⟩, by decide⟩
theorem mlX6_136 : VLK RX6 136 mX6_many 1 := ⟨tbg_in (List.mem_of_getElem? (i := 559) (by decide +kernel)) (by decide +kernel), tbg_in (List.mem_of_getElem? (i := 561) (by decide +kernel)) (by decide +kernel), tbg_in (List.mem_of_getElem? (i := 14) (by decide +kernel)) (by decide +kernel), inX6, cdX6_many, ⟨by decide, by decide, by decide +kernel⟩, by decide⟩
theorem mlL_37 : VLK RL 37 mX6_capability 4 := ⟨tbg_in (List.mem_of_getElem? (i := 563) (by decide +kernel)) (by decide +kernel), tbg_in (List.mem_of_getElem? (i := 564) (by decide +kernel)) (by decide +kernel), tbg_in (List.mem_of_getElem? (i := 565) (by decide +kernel)) (by decide +kernel), inX6, cdX6_capability, ⟨by decide, by decide, by decide +kernel⟩, by decide⟩
theorem mlX6_67 : VLK RX6 67 mX6_at 3 := ⟨tbg_in (List.mem_of_getElem? (i := 567) (by decide +kernel)) (by decide +kernel), tbg_in (List.mem_of_getElem? (i := 569) (by decide +kernel)) (by decide +kernel), tbg_in (List.mem_of_getElem? (i := 15) (by decide +kernel)) (by decide +kernel), inX6, cdX6_at, ⟨by decide, by decide, by decide +kernel⟩, by decide⟩
theorem mlX6_139 : VLK RX6 139 mX6_capabilities 2 := ⟨tbg_in (List.mem_of_getElem? (i := 571) (by decide +kernel)) (by decide +kernel), tbg_in (List.mem_of_getElem? (i := 573) (by decide +kernel)) (by decide +kernel), tbg_in (List.mem_of_getElem? (i := 16) (by decide +kernel)) (by decide +kernel), inX6, cdX6_capabilities, ⟨by decide, by decide, by decide +kernel⟩, by decide⟩
theorem mlL_41 : VLK RL 41 mX6_file 2 := ⟨tbg_in (List.mem_of_getElem? (i := 575) (by decide +kernel)) (by decide +kernel), tbg_in (List.mem_of_getElem? (i := 576) (by decide +kernel)) (by decide +kernel), tbg_in (List.mem_of_getElem? (i := 577) (by decide +kernel)) (by decide +kernel), inX6, cdX6_file, ⟨by decide, by decide, by decide +kernel⟩, by decide⟩
theorem mlL_46 : VLK RL 46 mX6_fill 3 := ⟨tbg_in (List.mem_of_getElem? (i := 579) (by decide +kernel)) (by decide +kernel), tbg_in (List.mem_of_getElem? (i := 580) (by decide +kernel)) (by decide +kernel), tbg_in (List.mem_of_getElem? (i := 581) (by decide +kernel)) (by decide +kernel), inX6, cdX6_fill, ⟨by decide, by decide, by decide +kernel⟩, by decide⟩
theorem mlX6_154 : VLK RX6 154 mX6_isContent 2 := ⟨tbg_in (List.mem_of_getElem? (i := 583) (by decide +kernel)) (by decide +kernel), tbg_in (List.mem_of_getElem? (i := 585) (by decide +kernel)) (by decide +kernel), tbg_in (List.mem_of_getElem? (i := 17) (by decide +kernel)) (by decide +kernel), inX6, cdX6_isContent, ⟨by decide, by decide, by decide +kernel⟩, by decide⟩
theorem mlL_50 : VLK RL 50 mX6_post 3 := ⟨tbg_in (List.mem_of_getElem? (i := 587) (by decide +kernel)) (by decide +kernel), tbg_in (List.mem_of_getElem? (i := 588) (by decide +kernel)) (by decide +kernel), tbg_in (List.mem_of_getElem? (i := 589) (by decide +kernel)) (by decide +kernel), inX6, cdX6_post, ⟨by decide, by decide, by decide +kernel⟩, by decide⟩
theorem mlX6_83 : VLK RX6 83 mX6_comes 4 := ⟨tbg_in (List.mem_of_getElem? (i := 591) (by decide +kernel)) (by decide +kernel), tbg_in (List.mem_of_getElem? (i := 593) (by decide +kernel)) (by decide +kernel), tbg_in (List.mem_of_getElem? (i := 18) (by decide +kernel)) (by decide +kernel), inX6, cdX6_comes, ⟨by decide, by decide, by decide +kernel⟩, by decide⟩
theorem mlX6_71 : VLK RX6 71 mX6_copyLabel 2 := ⟨tbg_in (List.mem_of_getElem? (i := 595) (by decide +kernel)) (by decide +kernel), tbg_in (List.mem_of_getElem? (i := 597) (by decide +kernel)) (by decide +kernel), tbg_in (List.mem_of_getElem? (i := 19) (by decide +kernel)) (by decide +kernel), inX6, cdX6_copyLabel, ⟨by decide, by decide, by decide +kernel⟩, by decide⟩
theorem mlL_54 : VLK RL 54 mX6_run 1 := ⟨tbg_in (List.mem_of_getElem? (i := 599) (by decide +kernel)) (by decide +kernel), tbg_in (List.mem_of_getElem? (i := 600) (by decide +kernel)) (by decide +kernel), tbg_in (List.mem_of_getElem? (i := 601) (by decide +kernel)) (by decide +kernel), inX6, cdX6_run, ⟨by decide, by decide, by decide +kernel⟩, by decide⟩
theorem mlX6_161 : VLK RX6 161 mX6_turn 1 := ⟨tbg_in (List.mem_of_getElem? (i := 603) (by decide +kernel)) (by decide +kernel), tbg_in (List.mem_of_getElem? (i := 605) (by decide +kernel)) (by decide +kernel), tbg_in (List.mem_of_getElem? (i := 20) (by decide +kernel)) (by decide +kernel), inX6, cdX6_turn, ⟨by decide, by decide, by decide +kernel⟩, by decide⟩
theorem mlX6_87 : SLK RX6 87 mX6_isCell 1 := ⟨Or.inl (tbg_in (List.mem_of_getElem? (i := 607) (by decide +kernel)) (by decide +kernel)), tbg_in (List.mem_of_getElem? (i := 608) (by decide +kernel)) (by decide +kernel), inX6, cdX6_isCell, ⟨by decide, by decide, by decide +kernel⟩, by decide⟩
theorem mlX6_90 : VLK RX6 90 mX6_traps 2 := ⟨tbg_in (List.mem_of_getElem? (i := 610) (by decide +kernel)) (by decide +kernel), tbg_in (List.mem_of_getElem? (i := 612) (by decide +kernel)) (by decide +kernel), tbg_in (List.mem_of_getElem? (i := 21) (by decide +kernel)) (by decide +kernel), inX6, cdX6_traps, ⟨by decide, by decide, by decide +kernel⟩, by decide⟩
theorem mlX6_93 : VLK RX6 93 mX6_call 2 := ⟨tbg_in (List.mem_of_getElem? (i := 614) (by decide +kernel)) (by decide +kernel), tbg_in (List.mem_of_getElem? (i := 616) (by decide +kernel)) (by decide +kernel), tbg_in (List.mem_of_getElem? (i := 22) (by decide +kernel)) (by decide +kernel), inX6, cdX6_call, ⟨by decide, by decide, by decide +kernel⟩, by decide⟩
theorem mlX6_101 : VLK RX6 101 mX6_newTag 1 := ⟨tbg_in (List.mem_of_getElem? (i := 618) (by decide +kernel)) (by decide +kernel), tbg_in (List.mem_of_getElem? (i := 620) (by decide +kernel)) (by decide +kernel), tbg_in (List.mem_of_getElem? (i := 23) (by decide +kernel)) (by decide +kernel), inX6, cdX6_newTag, ⟨by decide, by decide, by decide +kernel⟩, by decide⟩
theorem mlX6_105 : VLK RX6 105 mX6_lists 2 := ⟨tbg_in (List.mem_of_getElem? (i := 622) (by decide +kernel)) (by decide +kernel), tbg_in (List.mem_of_getElem? (i := 624) (by decide +kernel)) (by decide +kernel), tbg_in (List.mem_of_getElem? (i := 24) (by decide +kernel)) (by decide +kernel), inX6, cdX6_lists, ⟨by decide, by decide, by decide +kernel⟩, by decide⟩
theorem mlX6_108 : VLK RX6 108 mX6_changes 1 := ⟨tbg_in (List.mem_of_getElem? (i := 627) (by decide +kernel)) (by decide +kernel), tbg_in (List.mem_of_getElem? (i := 629) (by decide +kernel)) (by decide +kernel), tbg_in (List.mem_of_getElem? (i := 25) (by decide +kernel)) (by decide +kernel), inX6, cdX6_changes, ⟨by decide, by decide, by decide +kernel⟩, by decide⟩
theorem mlX6_111 : VLK RX6 111 mX6_drops 3 := ⟨tbg_in (List.mem_of_getElem? (i := 631) (by decide +kernel)) (by decide +kernel), tbg_in (List.mem_of_getElem? (i := 633) (by decide +kernel)) (by decide +kernel), tbg_in (List.mem_of_getElem? (i := 26) (by decide +kernel)) (by decide +kernel), inX6, cdX6_drops, ⟨by decide, by decide, by decide +kernel⟩, by decide⟩
theorem mlX6_114 : VLK RX6 114 mX6_sends 4 := ⟨tbg_in (List.mem_of_getElem? (i := 635) (by decide +kernel)) (by decide +kernel), tbg_in (List.mem_of_getElem? (i := 637) (by decide +kernel)) (by decide +kernel), tbg_in (List.mem_of_getElem? (i := 27) (by decide +kernel)) (by decide +kernel), inX6, cdX6_sends, ⟨by decide, by decide, by decide +kernel⟩, by decide⟩
theorem mlX6_79 : VLK RX6 79 mX6_isInLabel 2 := ⟨tbg_in (List.mem_of_getElem? (i := 639) (by decide +kernel)) (by decide +kernel), tbg_in (List.mem_of_getElem? (i := 641) (by decide +kernel)) (by decide +kernel), tbg_in (List.mem_of_getElem? (i := 28) (by decide +kernel)) (by decide +kernel), inX6, cdX6_isInLabel, ⟨by decide, by decide, by decide +kernel⟩, by decide⟩
theorem mlX6_117 : VLK RX6 117 mX6_passes 4 := ⟨tbg_in (List.mem_of_getElem? (i := 643) (by decide +kernel)) (by decide +kernel), tbg_in (List.mem_of_getElem? (i := 645) (by decide +kernel)) (by decide +kernel), tbg_in (List.mem_of_getElem? (i := 29) (by decide +kernel)) (by decide +kernel), inX6, cdX6_passes, ⟨by decide, by decide, by decide +kernel⟩, by decide⟩
theorem mlX6_121 : VLK RX6 121 mX6_receives 1 := ⟨tbg_in (List.mem_of_getElem? (i := 647) (by decide +kernel)) (by decide +kernel), tbg_in (List.mem_of_getElem? (i := 649) (by decide +kernel)) (by decide +kernel), tbg_in (List.mem_of_getElem? (i := 30) (by decide +kernel)) (by decide +kernel), inX6, cdX6_receives, ⟨by decide, by decide, by decide +kernel⟩, by decide⟩
theorem mlX6_143 : VLK RX6 143 mX6_dropFirst 1 := ⟨tbg_in (List.mem_of_getElem? (i := 651) (by decide +kernel)) (by decide +kernel), tbg_in (List.mem_of_getElem? (i := 653) (by decide +kernel)) (by decide +kernel), tbg_in (List.mem_of_getElem? (i := 31) (by decide +kernel)) (by decide +kernel), inX6, cdX6_dropFirst, ⟨by decide, by decide, by decide +kernel⟩, by decide⟩
theorem mlX6_124 : VLK RX6 124 mX6_creates 1 := ⟨tbg_in (List.mem_of_getElem? (i := 655) (by decide +kernel)) (by decide +kernel), tbg_in (List.mem_of_getElem? (i := 657) (by decide +kernel)) (by decide +kernel), tbg_in (List.mem_of_getElem? (i := 32) (by decide +kernel)) (by decide +kernel), inX6, cdX6_creates, ⟨by decide, by decide, by decide +kernel⟩, by decide⟩
theorem mlX6_127 : VLK RX6 127 mX6_reads 3 := ⟨tbg_in (List.mem_of_getElem? (i := 659) (by decide +kernel)) (by decide +kernel), tbg_in (List.mem_of_getElem? (i := 661) (by decide +kernel)) (by decide +kernel), tbg_in (List.mem_of_getElem? (i := 33) (by decide +kernel)) (by decide +kernel), inX6, cdX6_reads, ⟨by decide, by decide, by decide +kernel⟩, by decide⟩
theorem mlX6_130 : VLK RX6 130 mX6_spawns 4 := ⟨tbg_in (List.mem_of_getElem? (i := 663) (by decide +kernel)) (by decide +kernel), tbg_in (List.mem_of_getElem? (i := 665) (by decide +kernel)) (by decide +kernel), tbg_in (List.mem_of_getElem? (i := 34) (by decide +kernel)) (by decide +kernel), inX6, cdX6_spawns, ⟨by decide, by decide, by decide +kernel⟩, by decide⟩
theorem mlX6_133 : VLK RX6 133 mX6_puts 2 := ⟨tbg_in (List.mem_of_getElem? (i := 667) (by decide +kernel)) (by decide +kernel), tbg_in (List.mem_of_getElem? (i := 669) (by decide +kernel)) (by decide +kernel), tbg_in (List.mem_of_getElem? (i := 35) (by decide +kernel)) (by decide +kernel), inX6, cdX6_puts, ⟨by decide, by decide, by decide +kernel⟩, by decide⟩
theorem mlX6_96 : VLK RX6 96 mX6_works 3 := ⟨tbg_in (List.mem_of_getElem? (i := 671) (by decide +kernel)) (by decide +kernel), tbg_in (List.mem_of_getElem? (i := 673) (by decide +kernel)) (by decide +kernel), tbg_in (List.mem_of_getElem? (i := 36) (by decide +kernel)) (by decide +kernel), inX6, cdX6_works, ⟨by decide, by decide, by decide +kernel⟩, by decide⟩
theorem mlL_58 : VLK RL 58 mX6_cell 2 := ⟨tbg_in (List.mem_of_getElem? (i := 675) (by decide +kernel)) (by decide +kernel), tbg_in (List.mem_of_getElem? (i := 676) (by decide +kernel)) (by decide +kernel), tbg_in (List.mem_of_getElem? (i := 677) (by decide +kernel)) (by decide +kernel), inX6, cdX6_cell, ⟨by decide, by decide, by decide +kernel⟩, by decide⟩
theorem mlL_62 : VLK RL 62 mX6_slot 2 := ⟨tbg_in (List.mem_of_getElem? (i := 679) (by decide +kernel)) (by decide +kernel), tbg_in (List.mem_of_getElem? (i := 680) (by decide +kernel)) (by decide +kernel), tbg_in (List.mem_of_getElem? (i := 681) (by decide +kernel)) (by decide +kernel), inX6, cdX6_slot, ⟨by decide, by decide, by decide +kernel⟩, by decide⟩
theorem mlL_66 : VLK RL 66 mX6_label 2 := ⟨tbg_in (List.mem_of_getElem? (i := 683) (by decide +kernel)) (by decide +kernel), tbg_in (List.mem_of_getElem? (i := 684) (by decide +kernel)) (by decide +kernel), tbg_in (List.mem_of_getElem? (i := 685) (by decide +kernel)) (by decide +kernel), inX6, cdX6_label, ⟨by decide, by decide, by decide +kernel⟩, by decide⟩
theorem mlL_70 : VLK RL 70 mX6_output 2 := ⟨tbg_in (List.mem_of_getElem? (i := 687) (by decide +kernel)) (by decide +kernel), tbg_in (List.mem_of_getElem? (i := 688) (by decide +kernel)) (by decide +kernel), tbg_in (List.mem_of_getElem? (i := 689) (by decide +kernel)) (by decide +kernel), inX6, cdX6_output, ⟨by decide, by decide, by decide +kernel⟩, by decide⟩
theorem mlX6_164 : VLK RX6 164 mX6_isOutput 2 := ⟨tbg_in (List.mem_of_getElem? (i := 691) (by decide +kernel)) (by decide +kernel), tbg_in (List.mem_of_getElem? (i := 693) (by decide +kernel)) (by decide +kernel), tbg_in (List.mem_of_getElem? (i := 37) (by decide +kernel)) (by decide +kernel), inX6, cdX6_isOutput, ⟨by decide, by decide, by decide +kernel⟩, by decide⟩
theorem mlL_74 : VLK RL 74 mX6_outputTags 2 := ⟨tbg_in (List.mem_of_getElem? (i := 695) (by decide +kernel)) (by decide +kernel), tbg_in (List.mem_of_getElem? (i := 696) (by decide +kernel)) (by decide +kernel), tbg_in (List.mem_of_getElem? (i := 697) (by decide +kernel)) (by decide +kernel), inX6, cdX6_outputTags, ⟨by decide, by decide, by decide +kernel⟩, by decide⟩
theorem mlL_78 : VLK RL 78 mX6_content 2 := ⟨tbg_in (List.mem_of_getElem? (i := 699) (by decide +kernel)) (by decide +kernel), tbg_in (List.mem_of_getElem? (i := 700) (by decide +kernel)) (by decide +kernel), tbg_in (List.mem_of_getElem? (i := 701) (by decide +kernel)) (by decide +kernel), inX6, cdX6_content, ⟨by decide, by decide, by decide +kernel⟩, by decide⟩
theorem mlL_82 : VLK RL 82 mX6_fileTags 1 := ⟨tbg_in (List.mem_of_getElem? (i := 703) (by decide +kernel)) (by decide +kernel), tbg_in (List.mem_of_getElem? (i := 704) (by decide +kernel)) (by decide +kernel), tbg_in (List.mem_of_getElem? (i := 705) (by decide +kernel)) (by decide +kernel), inX6, cdX6_fileTags, ⟨by decide, by decide, by decide +kernel⟩, by decide⟩
theorem mlL_87 : VLK RL 87 mX6_mayFlow 2 := ⟨tbg_in (List.mem_of_getElem? (i := 707) (by decide +kernel)) (by decide +kernel), tbg_in (List.mem_of_getElem? (i := 708) (by decide +kernel)) (by decide +kernel), tbg_in (List.mem_of_getElem? (i := 709) (by decide +kernel)) (by decide +kernel), inX6, cdX6_mayFlow, ⟨by decide, by decide, by decide +kernel⟩, by decide⟩
theorem lcX6_28 : Cond.constant RX6 28 35072 ∈ tbg := tbg_in (List.mem_of_getElem? (i := 472) (by decide +kernel)) (by decide +kernel)
theorem lcX6_100 : Cond.constant RX6 100 34816 ∈ tbg := tbg_in (List.mem_of_getElem? (i := 626) (by decide +kernel)) (by decide +kernel)
