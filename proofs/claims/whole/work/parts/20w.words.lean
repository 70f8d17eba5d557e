theorem tb_333 : (Cond.code yX6_drawn cX6_drawn 1 (some .int)) ∈ TB := tb_of (List.mem_of_getElem? (i := 670) (by decide +kernel)) rfl
theorem tb_334 : (Cond.methodLink RX6 81 yX6_drawn) ∈ TB := tb_of (List.mem_of_getElem? (i := 667) (by decide +kernel)) rfl
theorem tb_335 : (Cond.instanceMethod yX6_drawn) ∈ TB := tb_of (List.mem_of_getElem? (i := 669) (by decide +kernel)) rfl
theorem tb_336 : (Cond.selects RX6 yX6_drawn yX6_drawn) ∈ TB := tb_of (List.mem_of_getElem? (i := 17) (by decide +kernel)) rfl
theorem tb_337 : (Cond.fieldLink RX6 22 "FountainRowsModel" "seeds" "[I") ∈ TB := tb_of (List.mem_of_getElem? (i := 564) (by decide +kernel)) rfl
theorem tb_338 : (Cond.constant RX6 80 40503) ∈ TB := tb_of (List.mem_of_getElem? (i := 666) (by decide +kernel)) rfl
theorem tb_339 : (Cond.fieldLink RX6 25 "FountainRowsModel" "tables" "[I") ∈ TB := tb_of (List.mem_of_getElem? (i := 565) (by decide +kernel)) rfl
