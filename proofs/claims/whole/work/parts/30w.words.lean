theorem tb_443 : (Cond.code yX0_init cX0_init 2 none) ∈ TB := tb_of (List.mem_of_getElem? (i := 70) (by decide +kernel)) rfl
theorem tb_444 : (Cond.methodLink RX5 40 yX0_init) ∈ TB := tb_of (List.mem_of_getElem? (i := 68) (by decide +kernel)) rfl
theorem tb_445 : (Cond.instanceMethod yX0_init) ∈ TB := tb_of (List.mem_of_getElem? (i := 69) (by decide +kernel)) rfl
theorem tb_446 : (Cond.methodLink RX5 3 objectInit) ∈ TB := tb_of (List.mem_of_getElem? (i := 54) (by decide +kernel)) rfl
theorem tb_447 : (Cond.fieldLink RX5 13 "FountainRows" "FIRST_WEIGHTS" "[I") ∈ TB := tb_of (List.mem_of_getElem? (i := 57) (by decide +kernel)) rfl
theorem tb_448 : (Cond.methodLink RX5 16 arraycopyName) ∈ TB := tb_of (List.mem_of_getElem? (i := 59) (by decide +kernel)) rfl
theorem tb_449 : (Cond.classLink RX5 38 RX0) ∈ TB := tb_of (List.mem_of_getElem? (i := 66) (by decide +kernel)) rfl
theorem tb_450 : (Cond.instantiable RX0 2) ∈ TB := tb_of (List.mem_of_getElem? (i := 67) (by decide +kernel)) rfl
