theorem tb_365 : (Cond.fieldLink RX6 127 "FountainRowsModel" "left" "J") ∈ TB := tb_of (List.mem_of_getElem? (i := 581) (by decide +kernel)) rfl
theorem tb_366 : (Cond.fieldLink RX6 131 "FountainRowsModel" "leftOut" "J") ∈ TB := tb_of (List.mem_of_getElem? (i := 582) (by decide +kernel)) rfl
theorem tb_367 : (Cond.fieldLink RX6 50 "FountainRowsModel" "heads" "[J") ∈ TB := tb_of (List.mem_of_getElem? (i := 578) (by decide +kernel)) rfl
theorem tb_368 : (Cond.fieldLink RX6 53 "FountainRowsModel" "values" "[J") ∈ TB := tb_of (List.mem_of_getElem? (i := 579) (by decide +kernel)) rfl
theorem tb_369 : (Cond.code yX6_reduce cX6_reduce 6 none) ∈ TB := tb_of (List.mem_of_getElem? (i := 753) (by decide +kernel)) rfl
theorem tb_370 : (Cond.methodLink RX6 134 yX6_reduce) ∈ TB := tb_of (List.mem_of_getElem? (i := 750) (by decide +kernel)) rfl
theorem tb_371 : (Cond.instanceMethod yX6_reduce) ∈ TB := tb_of (List.mem_of_getElem? (i := 752) (by decide +kernel)) rfl
theorem tb_372 : (Cond.selects RX6 yX6_reduce yX6_reduce) ∈ TB := tb_of (List.mem_of_getElem? (i := 30) (by decide +kernel)) rfl
theorem tb_373 : (Cond.fieldLink RX6 138 "FountainRowsModel" "rank" "I") ∈ TB := tb_of (List.mem_of_getElem? (i := 580) (by decide +kernel)) rfl
theorem tb_374 : (Cond.fieldLink RX6 32 "FountainRowsModel" "xs" "[I") ∈ TB := tb_of (List.mem_of_getElem? (i := 567) (by decide +kernel)) rfl
theorem tb_375 : (Cond.code yX6_rowAt cX6_rowAt 3 (some .long)) ∈ TB := tb_of (List.mem_of_getElem? (i := 745) (by decide +kernel)) rfl
theorem tb_376 : (Cond.methodLink RX6 141 yX6_rowAt) ∈ TB := tb_of (List.mem_of_getElem? (i := 742) (by decide +kernel)) rfl
theorem tb_377 : (Cond.instanceMethod yX6_rowAt) ∈ TB := tb_of (List.mem_of_getElem? (i := 744) (by decide +kernel)) rfl
theorem tb_378 : (Cond.selects RX6 yX6_rowAt yX6_rowAt) ∈ TB := tb_of (List.mem_of_getElem? (i := 28) (by decide +kernel)) rfl
theorem tb_379 : (Cond.code yX6_add cX6_add 6 none) ∈ TB := tb_of (List.mem_of_getElem? (i := 749) (by decide +kernel)) rfl
theorem tb_380 : (Cond.methodLink RX6 144 yX6_add) ∈ TB := tb_of (List.mem_of_getElem? (i := 746) (by decide +kernel)) rfl
theorem tb_381 : (Cond.instanceMethod yX6_add) ∈ TB := tb_of (List.mem_of_getElem? (i := 748) (by decide +kernel)) rfl
theorem tb_382 : (Cond.selects RX6 yX6_add yX6_add) ∈ TB := tb_of (List.mem_of_getElem? (i := 29) (by decide +kernel)) rfl
theorem tb_383 : (Cond.fieldLink RX6 38 "FountainRowsModel" "taken" "[I") ∈ TB := tb_of (List.mem_of_getElem? (i := 569) (by decide +kernel)) rfl
theorem tb_384 : (Cond.fieldLink RX6 35 "FountainRowsModel" "outs" "[J") ∈ TB := tb_of (List.mem_of_getElem? (i := 568) (by decide +kernel)) rfl
theorem tb_385 : (Cond.code yX6_build cX6_build 3 none) ∈ TB := tb_of (List.mem_of_getElem? (i := 741) (by decide +kernel)) rfl
theorem tb_386 : (Cond.methodLink RX6 147 yX6_build) ∈ TB := tb_of (List.mem_of_getElem? (i := 738) (by decide +kernel)) rfl
theorem tb_387 : (Cond.instanceMethod yX6_build) ∈ TB := tb_of (List.mem_of_getElem? (i := 740) (by decide +kernel)) rfl
theorem tb_388 : (Cond.selects RX6 yX6_build yX6_build) ∈ TB := tb_of (List.mem_of_getElem? (i := 27) (by decide +kernel)) rfl
