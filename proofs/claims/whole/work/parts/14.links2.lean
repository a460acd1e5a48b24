set_option maxRecDepth 100000 in
theorem ok_X3_kindAt : OkV yX3_kindAt RX3 cX3_kindAt 5 (some .int) 2 := ⟨tb_in (List.mem_of_getElem? (i := 429) rfl) (by decide +kernel), tb_in (List.mem_of_getElem? (i := 27) (by decide +kernel)) (by decide +kernel), ⟨by decide +kernel, by decide +kernel⟩, by decide +kernel, tb_in (List.mem_of_getElem? (i := 428) (by decide +kernel)) (by decide +kernel), tb_in (List.mem_of_getElem? (i := 4) (by decide +kernel)) (by decide +kernel)⟩
set_option maxRecDepth 100000 in
theorem ok_X3_push : OkV yX3_push RX3 cX3_push 2 (some .boolean) 1 := ⟨tb_in (List.mem_of_getElem? (i := 446) rfl) (by decide +kernel), tb_in (List.mem_of_getElem? (i := 27) (by decide +kernel)) (by decide +kernel), ⟨by decide +kernel, by decide +kernel⟩, by decide +kernel, tb_in (List.mem_of_getElem? (i := 445) (by decide +kernel)) (by decide +kernel), tb_in (List.mem_of_getElem? (i := 6) (by decide +kernel)) (by decide +kernel)⟩
set_option maxRecDepth 100000 in
theorem ok_X3_pushAndMove : OkV yX3_pushAndMove RX3 cX3_pushAndMove 3 none 2 := ⟨tb_in (List.mem_of_getElem? (i := 442) rfl) (by decide +kernel), tb_in (List.mem_of_getElem? (i := 27) (by decide +kernel)) (by decide +kernel), ⟨by decide +kernel, by decide +kernel⟩, by decide +kernel, tb_in (List.mem_of_getElem? (i := 441) (by decide +kernel)) (by decide +kernel), tb_in (List.mem_of_getElem? (i := 5) (by decide +kernel)) (by decide +kernel)⟩
set_option maxRecDepth 100000 in
theorem ok_X3_getLocal : OkV yX3_getLocal RX3 cX3_getLocal 4 none 2 := ⟨tb_in (List.mem_of_getElem? (i := 459) rfl) (by decide +kernel), tb_in (List.mem_of_getElem? (i := 27) (by decide +kernel)) (by decide +kernel), ⟨by decide +kernel, by decide +kernel⟩, by decide +kernel, tb_in (List.mem_of_getElem? (i := 458) (by decide +kernel)) (by decide +kernel), tb_in (List.mem_of_getElem? (i := 7) (by decide +kernel)) (by decide +kernel)⟩
set_option maxRecDepth 100000 in
theorem ok_X3_take : OkV yX3_take RX3 cX3_take 1 (some .int) 0 := ⟨tb_in (List.mem_of_getElem? (i := 472) rfl) (by decide +kernel), tb_in (List.mem_of_getElem? (i := 27) (by decide +kernel)) (by decide +kernel), ⟨by decide +kernel, by decide +kernel⟩, by decide +kernel, tb_in (List.mem_of_getElem? (i := 471) (by decide +kernel)) (by decide +kernel), tb_in (List.mem_of_getElem? (i := 9) (by decide +kernel)) (by decide +kernel)⟩
set_option maxRecDepth 100000 in
theorem ok_X3_setLocal : OkV yX3_setLocal RX3 cX3_setLocal 4 none 2 := ⟨tb_in (List.mem_of_getElem? (i := 468) rfl) (by decide +kernel), tb_in (List.mem_of_getElem? (i := 27) (by decide +kernel)) (by decide +kernel), ⟨by decide +kernel, by decide +kernel⟩, by decide +kernel, tb_in (List.mem_of_getElem? (i := 467) (by decide +kernel)) (by decide +kernel), tb_in (List.mem_of_getElem? (i := 8) (by decide +kernel)) (by decide +kernel)⟩
set_option maxRecDepth 100000 in
theorem ok_X3_callFrom : OkV yX3_callFrom RX3 cX3_callFrom 4 none 3 := ⟨tb_in (List.mem_of_getElem? (i := 489) rfl) (by decide +kernel), tb_in (List.mem_of_getElem? (i := 27) (by decide +kernel)) (by decide +kernel), ⟨by decide +kernel, by decide +kernel⟩, by decide +kernel, tb_in (List.mem_of_getElem? (i := 488) (by decide +kernel)) (by decide +kernel), tb_in (List.mem_of_getElem? (i := 10) (by decide +kernel)) (by decide +kernel)⟩
set_option maxRecDepth 100000 in
theorem ok_X3_giveBack : OkV yX3_giveBack RX3 cX3_giveBack 3 none 0 := ⟨tb_in (List.mem_of_getElem? (i := 497) rfl) (by decide +kernel), tb_in (List.mem_of_getElem? (i := 27) (by decide +kernel)) (by decide +kernel), ⟨by decide +kernel, by decide +kernel⟩, by decide +kernel, tb_in (List.mem_of_getElem? (i := 496) (by decide +kernel)) (by decide +kernel), tb_in (List.mem_of_getElem? (i := 11) (by decide +kernel)) (by decide +kernel)⟩
set_option maxRecDepth 100000 in
theorem ok_X3_putOut : OkV yX3_putOut RX3 cX3_putOut 2 none 1 := ⟨tb_in (List.mem_of_getElem? (i := 517) rfl) (by decide +kernel), tb_in (List.mem_of_getElem? (i := 27) (by decide +kernel)) (by decide +kernel), ⟨by decide +kernel, by decide +kernel⟩, by decide +kernel, tb_in (List.mem_of_getElem? (i := 516) (by decide +kernel)) (by decide +kernel), tb_in (List.mem_of_getElem? (i := 12) (by decide +kernel)) (by decide +kernel)⟩
set_option maxRecDepth 100000 in
theorem ok_X3_valueOf : OkS yX3_valueOf cX3_valueOf 3 (some .int) 3 := ⟨tb_in (List.mem_of_getElem? (i := 524) rfl) (by decide +kernel), tb_in (List.mem_of_getElem? (i := 27) (by decide +kernel)) (by decide +kernel), ⟨by decide +kernel, by decide +kernel⟩, by decide +kernel, tb_in (List.mem_of_getElem? (i := 523) (by decide +kernel)) (by decide +kernel)⟩
set_option maxRecDepth 100000 in
theorem ok_X3_calculate : OkV yX3_calculate RX3 cX3_calculate 5 none 2 := ⟨tb_in (List.mem_of_getElem? (i := 521) rfl) (by decide +kernel), tb_in (List.mem_of_getElem? (i := 27) (by decide +kernel)) (by decide +kernel), ⟨by decide +kernel, by decide +kernel⟩, by decide +kernel, tb_in (List.mem_of_getElem? (i := 520) (by decide +kernel)) (by decide +kernel), tb_in (List.mem_of_getElem? (i := 13) (by decide +kernel)) (by decide +kernel)⟩
theorem ml_X0_20 : Cond.methodLink RX0 20 yX0_lengthOf ∈ tb := tb_in (List.mem_of_getElem? (i := 298) (by decide +kernel)) (by decide +kernel)
theorem ml_X0_28 : Cond.methodLink RX0 28 yX0_byteAt ∈ tb := tb_in (List.mem_of_getElem? (i := 322) (by decide +kernel)) (by decide +kernel)
theorem ml_X0_32 : Cond.methodLink RX0 32 yX0_proceduresOf ∈ tb := tb_in (List.mem_of_getElem? (i := 363) (by decide +kernel)) (by decide +kernel)
theorem ml_X0_35 : Cond.methodLink RX0 35 yX0_beginOf ∈ tb := tb_in (List.mem_of_getElem? (i := 364) (by decide +kernel)) (by decide +kernel)
theorem ml_X1_34 : Cond.methodLink RX1 34 yX1_depth ∈ tb := tb_in (List.mem_of_getElem? (i := 481) (by decide +kernel)) (by decide +kernel)
theorem ml_X1_38 : Cond.methodLink RX1 38 yX1_hasLocal ∈ tb := tb_in (List.mem_of_getElem? (i := 172) (by decide +kernel)) (by decide +kernel)
theorem ml_X2_44 : Cond.methodLink RX2 44 yX2_isResident ∈ tb := tb_in (List.mem_of_getElem? (i := 374) (by decide +kernel)) (by decide +kernel)
theorem ml_X2_47 : Cond.methodLink RX2 47 yX2_hold ∈ tb := tb_in (List.mem_of_getElem? (i := 378) (by decide +kernel)) (by decide +kernel)
theorem ml_X2_51 : Cond.methodLink RX2 51 yX2_isActive ∈ tb := tb_in (List.mem_of_getElem? (i := 506) (by decide +kernel)) (by decide +kernel)
theorem ml_X2_54 : Cond.methodLink RX2 54 yX2_leastLatelyCalled ∈ tb := tb_in (List.mem_of_getElem? (i := 382) (by decide +kernel)) (by decide +kernel)
theorem ml_X2_58 : Cond.methodLink RX2 58 Lib.Math.max.name ∈ tb := tb_in (List.mem_of_getElem? (i := 386) (by decide +kernel)) (by decide +kernel)
theorem ml_X3_107 : Cond.methodLink RX3 107 yX3_pushAndMove ∈ tb := tb_in (List.mem_of_getElem? (i := 439) (by decide +kernel)) (by decide +kernel)
theorem ml_X3_110 : Cond.methodLink RX3 110 yX3_getLocal ∈ tb := tb_in (List.mem_of_getElem? (i := 456) (by decide +kernel)) (by decide +kernel)
theorem ml_X3_113 : Cond.methodLink RX3 113 yX3_setLocal ∈ tb := tb_in (List.mem_of_getElem? (i := 465) (by decide +kernel)) (by decide +kernel)
theorem ml_X3_116 : Cond.methodLink RX3 116 yX3_take ∈ tb := tb_in (List.mem_of_getElem? (i := 469) (by decide +kernel)) (by decide +kernel)
theorem ml_X3_119 : Cond.methodLink RX3 119 yX1_moveTo ∈ tb := tb_in (List.mem_of_getElem? (i := 452) (by decide +kernel)) (by decide +kernel)
