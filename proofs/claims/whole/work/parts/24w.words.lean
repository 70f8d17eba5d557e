theorem tb_395 : (Cond.code yX6_output cX6_output 8 (some .long)) ∈ TB := tb_of (List.mem_of_getElem? (i := 708) (by decide +kernel)) rfl
theorem tb_396 : (Cond.methodLink RX6 117 yX6_output) ∈ TB := tb_of (List.mem_of_getElem? (i := 705) (by decide +kernel)) rfl
theorem tb_397 : (Cond.instanceMethod yX6_output) ∈ TB := tb_of (List.mem_of_getElem? (i := 707) (by decide +kernel)) rfl
theorem tb_398 : (Cond.selects RX6 yX6_output yX6_output) ∈ TB := tb_of (List.mem_of_getElem? (i := 23) (by decide +kernel)) rfl
theorem tb_399 : (Cond.code yX6_sign cX6_sign 2 (some .int)) ∈ TB := tb_of (List.mem_of_getElem? (i := 712) (by decide +kernel)) rfl
theorem tb_400 : (Cond.methodLink RX6 120 yX6_sign) ∈ TB := tb_of (List.mem_of_getElem? (i := 709) (by decide +kernel)) rfl
theorem tb_401 : (Cond.instanceMethod yX6_sign) ∈ TB := tb_of (List.mem_of_getElem? (i := 710) (by decide +kernel)) rfl
theorem tb_402 : (Cond.selects RX6 yX6_sign yX6_sign) ∈ TB := tb_of (List.mem_of_getElem? (i := 711) (by decide +kernel)) rfl
theorem tb_403 : (Cond.fieldLink RX6 111 "FountainRowsModel" "frameOf" "I") ∈ TB := tb_of (List.mem_of_getElem? (i := 572) (by decide +kernel)) rfl
theorem tb_404 : (Cond.code yX6_wasTaken cX6_wasTaken 4 (some .boolean)) ∈ TB := tb_of (List.mem_of_getElem? (i := 733) (by decide +kernel)) rfl
theorem tb_405 : (Cond.methodLink RX6 151 yX6_wasTaken) ∈ TB := tb_of (List.mem_of_getElem? (i := 730) (by decide +kernel)) rfl
theorem tb_406 : (Cond.instanceMethod yX6_wasTaken) ∈ TB := tb_of (List.mem_of_getElem? (i := 732) (by decide +kernel)) rfl
theorem tb_407 : (Cond.selects RX6 yX6_wasTaken yX6_wasTaken) ∈ TB := tb_of (List.mem_of_getElem? (i := 25) (by decide +kernel)) rfl
theorem tb_408 : (Cond.code yX6_isContrary cX6_isContrary 5 (some .boolean)) ∈ TB := tb_of (List.mem_of_getElem? (i := 737) (by decide +kernel)) rfl
theorem tb_409 : (Cond.methodLink RX6 154 yX6_isContrary) ∈ TB := tb_of (List.mem_of_getElem? (i := 734) (by decide +kernel)) rfl
theorem tb_410 : (Cond.instanceMethod yX6_isContrary) ∈ TB := tb_of (List.mem_of_getElem? (i := 736) (by decide +kernel)) rfl
theorem tb_411 : (Cond.selects RX6 yX6_isContrary yX6_isContrary) ∈ TB := tb_of (List.mem_of_getElem? (i := 26) (by decide +kernel)) rfl
theorem tb_412 : (Cond.code yX6_keep cX6_keep 5 none) ∈ TB := tb_of (List.mem_of_getElem? (i := 757) (by decide +kernel)) rfl
theorem tb_413 : (Cond.methodLink RX6 158 yX6_keep) ∈ TB := tb_of (List.mem_of_getElem? (i := 754) (by decide +kernel)) rfl
theorem tb_414 : (Cond.instanceMethod yX6_keep) ∈ TB := tb_of (List.mem_of_getElem? (i := 756) (by decide +kernel)) rfl
theorem tb_415 : (Cond.selects RX6 yX6_keep yX6_keep) ∈ TB := tb_of (List.mem_of_getElem? (i := 31) (by decide +kernel)) rfl
theorem tb_416 : (Cond.fieldLink RX6 41 "FountainRowsModel" "wrong" "[I") ∈ TB := tb_of (List.mem_of_getElem? (i := 570) (by decide +kernel)) rfl
