/-! links of the law -/
set_option maxRecDepth 100000 in
theorem oh_code : OkH yL_code cL_code 5 (some .int) [(0, 10, 13, 13), (0, 10, 17, 15)] 4 := ⟨tb_in (List.mem_of_getElem? (i := 178) rfl) (by decide +kernel), tb_in (List.mem_of_getElem? (i := 24) (by decide +kernel)) (by decide +kernel), ⟨by decide +kernel, by decide +kernel⟩, by decide +kernel, tb_in (List.mem_of_getElem? (i := 177) (by decide +kernel)) (by decide +kernel)⟩
set_option maxRecDepth 100000 in
theorem oh_clear : OkH yL_clear cL_clear 3 (some .int) [(0, 5, 8, 13)] 2 := ⟨tb_in (List.mem_of_getElem? (i := 302) rfl) (by decide +kernel), tb_in (List.mem_of_getElem? (i := 24) (by decide +kernel)) (by decide +kernel), ⟨by decide +kernel, by decide +kernel⟩, by decide +kernel, tb_in (List.mem_of_getElem? (i := 301) (by decide +kernel)) (by decide +kernel)⟩
set_option maxRecDepth 100000 in
theorem oh_good : OkH yL_good cL_good 4 (some .int) [(0, 9, 12, 13)] 3 := ⟨tb_in (List.mem_of_getElem? (i := 313) rfl) (by decide +kernel), tb_in (List.mem_of_getElem? (i := 24) (by decide +kernel)) (by decide +kernel), ⟨by decide +kernel, by decide +kernel⟩, by decide +kernel, tb_in (List.mem_of_getElem? (i := 312) (by decide +kernel)) (by decide +kernel)⟩
set_option maxRecDepth 100000 in
theorem oh_start : OkH yL_start cL_start 5 (some .int) [(0, 7, 10, 13), (0, 7, 14, 29)] 4 := ⟨tb_in (List.mem_of_getElem? (i := 328) rfl) (by decide +kernel), tb_in (List.mem_of_getElem? (i := 24) (by decide +kernel)) (by decide +kernel), ⟨by decide +kernel, by decide +kernel⟩, by decide +kernel, tb_in (List.mem_of_getElem? (i := 327) (by decide +kernel)) (by decide +kernel)⟩
set_option maxRecDepth 100000 in
theorem oh_step : OkH yL_step cL_step 4 (some .int) [(0, 9, 12, 29), (0, 9, 15, 13)] 3 := ⟨tb_in (List.mem_of_getElem? (i := 403) rfl) (by decide +kernel), tb_in (List.mem_of_getElem? (i := 24) (by decide +kernel)) (by decide +kernel), ⟨by decide +kernel, by decide +kernel⟩, by decide +kernel, tb_in (List.mem_of_getElem? (i := 402) (by decide +kernel)) (by decide +kernel)⟩
set_option maxRecDepth 100000 in
theorem oh_look : OkH yL_look cL_look 4 (some .int) [(0, 9, 12, 13)] 3 := ⟨tb_in (List.mem_of_getElem? (i := 527) rfl) (by decide +kernel), tb_in (List.mem_of_getElem? (i := 24) (by decide +kernel)) (by decide +kernel), ⟨by decide +kernel, by decide +kernel⟩, by decide +kernel, tb_in (List.mem_of_getElem? (i := 526) (by decide +kernel)) (by decide +kernel)⟩
set_option maxRecDepth 100000 in
theorem oh_state : OkH yL_state cL_state 4 (some .int) [(0, 9, 12, 13)] 3 := ⟨tb_in (List.mem_of_getElem? (i := 555) rfl) (by decide +kernel), tb_in (List.mem_of_getElem? (i := 24) (by decide +kernel)) (by decide +kernel), ⟨by decide +kernel, by decide +kernel⟩, by decide +kernel, tb_in (List.mem_of_getElem? (i := 554) (by decide +kernel)) (by decide +kernel)⟩
set_option maxRecDepth 100000 in
theorem oh_out : OkH yL_out cL_out 4 (some .int) [(0, 9, 12, 15)] 3 := ⟨tb_in (List.mem_of_getElem? (i := 568) rfl) (by decide +kernel), tb_in (List.mem_of_getElem? (i := 24) (by decide +kernel)) (by decide +kernel), ⟨by decide +kernel, by decide +kernel⟩, by decide +kernel, tb_in (List.mem_of_getElem? (i := 567) (by decide +kernel)) (by decide +kernel)⟩
theorem ll_47 : Cond.methodLink RL 47 yL_code ∈ tb := tb_in (List.mem_of_getElem? (i := 176) (by decide +kernel)) (by decide +kernel)
theorem ll_52 : Cond.methodLink RL 52 yX5_code ∈ tb := tb_in (List.mem_of_getElem? (i := 660) (by decide +kernel)) (by decide +kernel)
theorem ll_53 : Cond.methodLink RL 53 yX5_thrown ∈ tb := tb_in (List.mem_of_getElem? (i := 656) (by decide +kernel)) (by decide +kernel)
theorem ll_57 : Cond.methodLink RL 57 yL_clear ∈ tb := tb_in (List.mem_of_getElem? (i := 300) (by decide +kernel)) (by decide +kernel)
theorem ll_60 : Cond.methodLink RL 60 yX5_clear ∈ tb := tb_in (List.mem_of_getElem? (i := 667) (by decide +kernel)) (by decide +kernel)
theorem ll_61 : Cond.methodLink RL 61 yL_good ∈ tb := tb_in (List.mem_of_getElem? (i := 311) (by decide +kernel)) (by decide +kernel)
theorem ll_64 : Cond.methodLink RL 64 yX5_good ∈ tb := tb_in (List.mem_of_getElem? (i := 671) (by decide +kernel)) (by decide +kernel)
theorem ll_65 : Cond.methodLink RL 65 yL_start ∈ tb := tb_in (List.mem_of_getElem? (i := 326) (by decide +kernel)) (by decide +kernel)
theorem ll_68 : Cond.methodLink RL 68 yX5_start ∈ tb := tb_in (List.mem_of_getElem? (i := 679) (by decide +kernel)) (by decide +kernel)
theorem ll_69 : Cond.methodLink RL 69 yL_step ∈ tb := tb_in (List.mem_of_getElem? (i := 401) (by decide +kernel)) (by decide +kernel)
theorem ll_71 : Cond.methodLink RL 71 yX5_step ∈ tb := tb_in (List.mem_of_getElem? (i := 703) (by decide +kernel)) (by decide +kernel)
theorem ll_72 : Cond.methodLink RL 72 yL_look ∈ tb := tb_in (List.mem_of_getElem? (i := 525) (by decide +kernel)) (by decide +kernel)
theorem ll_74 : Cond.methodLink RL 74 yX5_look ∈ tb := tb_in (List.mem_of_getElem? (i := 729) (by decide +kernel)) (by decide +kernel)
theorem ll_75 : Cond.methodLink RL 75 yL_state ∈ tb := tb_in (List.mem_of_getElem? (i := 553) (by decide +kernel)) (by decide +kernel)
theorem ll_77 : Cond.methodLink RL 77 yX5_state ∈ tb := tb_in (List.mem_of_getElem? (i := 733) (by decide +kernel)) (by decide +kernel)
theorem ll_78 : Cond.methodLink RL 78 yL_out ∈ tb := tb_in (List.mem_of_getElem? (i := 566) (by decide +kernel)) (by decide +kernel)
theorem ll_80 : Cond.methodLink RL 80 yX5_out ∈ tb := tb_in (List.mem_of_getElem? (i := 737) (by decide +kernel)) (by decide +kernel)
theorem ll_81 : Cond.methodLink RL 81 yX4_local ∈ tb := tb_in (List.mem_of_getElem? (i := 160) (by decide +kernel)) (by decide +kernel)
theorem ll_85 : Cond.methodLink RL 85 yX5_local ∈ tb := tb_in (List.mem_of_getElem? (i := 741) (by decide +kernel)) (by decide +kernel)
set_option maxRecDepth 100000 in
theorem ok_X5_thrown : OkV yX5_thrown RX5 cX5_thrown 1 (some .int) 0 := ⟨tb_in (List.mem_of_getElem? (i := 659) rfl) (by decide +kernel), tb_in (List.mem_of_getElem? (i := 30) (by decide +kernel)) (by decide +kernel), ⟨by decide +kernel, by decide +kernel⟩, by decide +kernel, tb_in (List.mem_of_getElem? (i := 657) (by decide +kernel)) (by decide +kernel), tb_in (List.mem_of_getElem? (i := 658) (by decide +kernel)) (by decide +kernel)⟩
set_option maxRecDepth 100000 in
theorem ok_X5_code : OkV yX5_code RX5 cX5_code 3 (some .int) 2 := ⟨tb_in (List.mem_of_getElem? (i := 663) rfl) (by decide +kernel), tb_in (List.mem_of_getElem? (i := 30) (by decide +kernel)) (by decide +kernel), ⟨by decide +kernel, by decide +kernel⟩, by decide +kernel, tb_in (List.mem_of_getElem? (i := 661) (by decide +kernel)) (by decide +kernel), tb_in (List.mem_of_getElem? (i := 662) (by decide +kernel)) (by decide +kernel)⟩
set_option maxRecDepth 100000 in
theorem ok_X5_clear : OkV yX5_clear RX5 cX5_clear 2 none 1 := ⟨tb_in (List.mem_of_getElem? (i := 670) rfl) (by decide +kernel), tb_in (List.mem_of_getElem? (i := 30) (by decide +kernel)) (by decide +kernel), ⟨by decide +kernel, by decide +kernel⟩, by decide +kernel, tb_in (List.mem_of_getElem? (i := 668) (by decide +kernel)) (by decide +kernel), tb_in (List.mem_of_getElem? (i := 669) (by decide +kernel)) (by decide +kernel)⟩
set_option maxRecDepth 100000 in
theorem ok_X5_good : OkV yX5_good RX5 cX5_good 2 (some .int) 1 := ⟨tb_in (List.mem_of_getElem? (i := 674) rfl) (by decide +kernel), tb_in (List.mem_of_getElem? (i := 30) (by decide +kernel)) (by decide +kernel), ⟨by decide +kernel, by decide +kernel⟩, by decide +kernel, tb_in (List.mem_of_getElem? (i := 672) (by decide +kernel)) (by decide +kernel), tb_in (List.mem_of_getElem? (i := 673) (by decide +kernel)) (by decide +kernel)⟩
set_option maxRecDepth 100000 in
theorem ok_X5_start : OkV yX5_start RX5 cX5_start 5 none 3 := ⟨tb_in (List.mem_of_getElem? (i := 682) rfl) (by decide +kernel), tb_in (List.mem_of_getElem? (i := 30) (by decide +kernel)) (by decide +kernel), ⟨by decide +kernel, by decide +kernel⟩, by decide +kernel, tb_in (List.mem_of_getElem? (i := 680) (by decide +kernel)) (by decide +kernel), tb_in (List.mem_of_getElem? (i := 681) (by decide +kernel)) (by decide +kernel)⟩
set_option maxRecDepth 100000 in
theorem ok_X5_step : OkV yX5_step RX5 cX5_step 3 (some .int) 1 := ⟨tb_in (List.mem_of_getElem? (i := 706) rfl) (by decide +kernel), tb_in (List.mem_of_getElem? (i := 30) (by decide +kernel)) (by decide +kernel), ⟨by decide +kernel, by decide +kernel⟩, by decide +kernel, tb_in (List.mem_of_getElem? (i := 704) (by decide +kernel)) (by decide +kernel), tb_in (List.mem_of_getElem? (i := 705) (by decide +kernel)) (by decide +kernel)⟩
set_option maxRecDepth 100000 in
theorem ok_X5_look : OkV yX5_look RX5 cX5_look 4 (some .int) 1 := ⟨tb_in (List.mem_of_getElem? (i := 732) rfl) (by decide +kernel), tb_in (List.mem_of_getElem? (i := 30) (by decide +kernel)) (by decide +kernel), ⟨by decide +kernel, by decide +kernel⟩, by decide +kernel, tb_in (List.mem_of_getElem? (i := 730) (by decide +kernel)) (by decide +kernel), tb_in (List.mem_of_getElem? (i := 731) (by decide +kernel)) (by decide +kernel)⟩
set_option maxRecDepth 100000 in
theorem ok_X5_state : OkV yX5_state RX5 cX5_state 2 (some .int) 1 := ⟨tb_in (List.mem_of_getElem? (i := 736) rfl) (by decide +kernel), tb_in (List.mem_of_getElem? (i := 30) (by decide +kernel)) (by decide +kernel), ⟨by decide +kernel, by decide +kernel⟩, by decide +kernel, tb_in (List.mem_of_getElem? (i := 734) (by decide +kernel)) (by decide +kernel), tb_in (List.mem_of_getElem? (i := 735) (by decide +kernel)) (by decide +kernel)⟩
set_option maxRecDepth 100000 in
theorem ok_X5_out : OkV yX5_out RX5 cX5_out 2 (some .int) 1 := ⟨tb_in (List.mem_of_getElem? (i := 740) rfl) (by decide +kernel), tb_in (List.mem_of_getElem? (i := 30) (by decide +kernel)) (by decide +kernel), ⟨by decide +kernel, by decide +kernel⟩, by decide +kernel, tb_in (List.mem_of_getElem? (i := 738) (by decide +kernel)) (by decide +kernel), tb_in (List.mem_of_getElem? (i := 739) (by decide +kernel)) (by decide +kernel)⟩
set_option maxRecDepth 100000 in
theorem ok_X5_local : OkV yX5_local RX5 cX5_local 3 (some .int) 2 := ⟨tb_in (List.mem_of_getElem? (i := 744) rfl) (by decide +kernel), tb_in (List.mem_of_getElem? (i := 30) (by decide +kernel)) (by decide +kernel), ⟨by decide +kernel, by decide +kernel⟩, by decide +kernel, tb_in (List.mem_of_getElem? (i := 742) (by decide +kernel)) (by decide +kernel), tb_in (List.mem_of_getElem? (i := 743) (by decide +kernel)) (by decide +kernel)⟩
