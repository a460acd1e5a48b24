set_option maxRecDepth 100000 in
theorem ok_X3_outCount : OkV yX3_outCount RX3 cX3_outCount 1 (some .int) 0 := ⟨tb_in (List.mem_of_getElem? (i := 576) rfl) (by decide +kernel), tb_in (List.mem_of_getElem? (i := 27) (by decide +kernel)) (by decide +kernel), ⟨by decide +kernel, by decide +kernel⟩, by decide +kernel, tb_in (List.mem_of_getElem? (i := 574) (by decide +kernel)) (by decide +kernel), tb_in (List.mem_of_getElem? (i := 575) (by decide +kernel)) (by decide +kernel)⟩
theorem ml_X4_25 : Cond.methodLink RX4 25 yX4_requireSegment ∈ tb := tb_in (List.mem_of_getElem? (i := 185) (by decide +kernel)) (by decide +kernel)
theorem ml_X4_29 : Cond.methodLink RX4 29 yX0_lengthOf ∈ tb := tb_in (List.mem_of_getElem? (i := 258) (by decide +kernel)) (by decide +kernel)
theorem ml_X4_40 : Cond.methodLink RX4 40 yX3_forget ∈ tb := tb_in (List.mem_of_getElem? (i := 278) (by decide +kernel)) (by decide +kernel)
theorem ml_X4_43 : Cond.methodLink RX4 43 yX0_append ∈ tb := tb_in (List.mem_of_getElem? (i := 294) (by decide +kernel)) (by decide +kernel)
theorem ml_X4_47 : Cond.methodLink RX4 47 yX0_wipe ∈ tb := tb_in (List.mem_of_getElem? (i := 307) (by decide +kernel)) (by decide +kernel)
theorem ml_X4_50 : Cond.methodLink RX4 50 yX0_proceduresOf ∈ tb := tb_in (List.mem_of_getElem? (i := 318) (by decide +kernel)) (by decide +kernel)
theorem ml_X4_63 : Cond.methodLink RX4 63 yX3_begin ∈ tb := tb_in (List.mem_of_getElem? (i := 351) (by decide +kernel)) (by decide +kernel)
theorem ml_X4_67 : Cond.methodLink RX4 67 yX3_status ∈ tb := tb_in (List.mem_of_getElem? (i := 408) (by decide +kernel)) (by decide +kernel)
theorem ml_X4_75 : Cond.methodLink RX4 75 yX3_doInstruction ∈ tb := tb_in (List.mem_of_getElem? (i := 414) (by decide +kernel)) (by decide +kernel)
theorem ml_X4_80 : Cond.methodLink RX4 80 yX3_fact ∈ tb := tb_in (List.mem_of_getElem? (i := 533) (by decide +kernel)) (by decide +kernel)
theorem ml_X4_83 : Cond.methodLink RX4 83 yX3_stateOf ∈ tb := tb_in (List.mem_of_getElem? (i := 560) (by decide +kernel)) (by decide +kernel)
theorem ml_X4_86 : Cond.methodLink RX4 86 yX3_outCount ∈ tb := tb_in (List.mem_of_getElem? (i := 573) (by decide +kernel)) (by decide +kernel)
theorem ml_X4_91 : Cond.methodLink RX4 91 yX3_outAt ∈ tb := tb_in (List.mem_of_getElem? (i := 578) (by decide +kernel)) (by decide +kernel)
theorem ml_X4_94 : Cond.methodLink RX4 94 yX3_localAt ∈ tb := tb_in (List.mem_of_getElem? (i := 164) (by decide +kernel)) (by decide +kernel)
theorem ml_X4_98 : Cond.methodLink RX4 98 yX4_isSegment ∈ tb := tb_in (List.mem_of_getElem? (i := 188) (by decide +kernel)) (by decide +kernel)
theorem tho_1_57_53 : ThOk 1 57 53 := ⟨by decide +kernel, by decide +kernel, by decide +kernel, tb_in (List.mem_of_getElem? (i := 191) (by decide +kernel)) (by decide +kernel), tb_in (List.mem_of_getElem? (i := 34) (by decide +kernel)) (by decide +kernel), by decide +kernel, by decide +kernel⟩
theorem tho_2_62_58 : ThOk 2 62 58 := ⟨by decide +kernel, by decide +kernel, by decide +kernel, tb_in (List.mem_of_getElem? (i := 335) (by decide +kernel)) (by decide +kernel), tb_in (List.mem_of_getElem? (i := 36) (by decide +kernel)) (by decide +kernel), by decide +kernel, by decide +kernel⟩
theorem tho_3_37_33 : ThOk 3 37 33 := ⟨by decide +kernel, by decide +kernel, by decide +kernel, tb_in (List.mem_of_getElem? (i := 262) (by decide +kernel)) (by decide +kernel), tb_in (List.mem_of_getElem? (i := 35) (by decide +kernel)) (by decide +kernel), by decide +kernel, by decide +kernel⟩
