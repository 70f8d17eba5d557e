theorem tb_437 : (Cond.fieldLink RX6 7 "FountainRowsModel" "weights" "[I") ∈ TB := tb_of (List.mem_of_getElem? (i := 559) (by decide +kernel)) rfl
theorem tb_438 : (Cond.methodLink RX6 1 objectInit) ∈ TB := tb_of (List.mem_of_getElem? (i := 558) (by decide +kernel)) rfl
