theorem tb_417 : (Cond.code yX6_count cX6_count 4 (some .int)) ∈ TB := tb_of (List.mem_of_getElem? (i := 776) (by decide +kernel)) rfl
theorem tb_418 : (Cond.methodLink RX6 162 yX6_count) ∈ TB := tb_of (List.mem_of_getElem? (i := 774) (by decide +kernel)) rfl
theorem tb_419 : (Cond.static yX6_count) ∈ TB := tb_of (List.mem_of_getElem? (i := 775) (by decide +kernel)) rfl
theorem tb_420 : (Cond.code yX6_most cX6_most 12 (some .int)) ∈ TB := tb_of (List.mem_of_getElem? (i := 780) (by decide +kernel)) rfl
theorem tb_421 : (Cond.methodLink RX6 166 yX6_most) ∈ TB := tb_of (List.mem_of_getElem? (i := 777) (by decide +kernel)) rfl
theorem tb_422 : (Cond.instanceMethod yX6_most) ∈ TB := tb_of (List.mem_of_getElem? (i := 779) (by decide +kernel)) rfl
theorem tb_423 : (Cond.selects RX6 yX6_most yX6_most) ∈ TB := tb_of (List.mem_of_getElem? (i := 35) (by decide +kernel)) rfl
theorem tb_424 : (Cond.fieldLink RX6 56 "FountainRowsModel" "states" "[I") ∈ TB := tb_of (List.mem_of_getElem? (i := 583) (by decide +kernel)) rfl
