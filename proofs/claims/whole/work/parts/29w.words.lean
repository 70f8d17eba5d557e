theorem tb_439 : (Cond.code yX6_number cX6_number 6 (some .long)) ∈ TB := tb_of (List.mem_of_getElem? (i := 824) (by decide +kernel)) rfl
theorem tb_440 : (Cond.methodLink RX6 186 yX6_number) ∈ TB := tb_of (List.mem_of_getElem? (i := 821) (by decide +kernel)) rfl
theorem tb_441 : (Cond.instanceMethod yX6_number) ∈ TB := tb_of (List.mem_of_getElem? (i := 823) (by decide +kernel)) rfl
theorem tb_442 : (Cond.selects RX6 yX6_number yX6_number) ∈ TB := tb_of (List.mem_of_getElem? (i := 37) (by decide +kernel)) rfl
