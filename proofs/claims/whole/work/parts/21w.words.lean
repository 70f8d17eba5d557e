theorem tb_340 : (Cond.code yX6_sumOf cX6_sumOf 6 (some .long)) ∈ TB := tb_of (List.mem_of_getElem? (i := 684) (by decide +kernel)) rfl
theorem tb_341 : (Cond.methodLink RX6 85 yX6_sumOf) ∈ TB := tb_of (List.mem_of_getElem? (i := 681) (by decide +kernel)) rfl
theorem tb_342 : (Cond.instanceMethod yX6_sumOf) ∈ TB := tb_of (List.mem_of_getElem? (i := 683) (by decide +kernel)) rfl
theorem tb_343 : (Cond.selects RX6 yX6_sumOf yX6_sumOf) ∈ TB := tb_of (List.mem_of_getElem? (i := 19) (by decide +kernel)) rfl
theorem tb_344 : (Cond.code yX6_all cX6_all 7 (some .long)) ∈ TB := tb_of (List.mem_of_getElem? (i := 700) (by decide +kernel)) rfl
theorem tb_345 : (Cond.methodLink RX6 89 yX6_all) ∈ TB := tb_of (List.mem_of_getElem? (i := 697) (by decide +kernel)) rfl
theorem tb_346 : (Cond.instanceMethod yX6_all) ∈ TB := tb_of (List.mem_of_getElem? (i := 699) (by decide +kernel)) rfl
theorem tb_347 : (Cond.selects RX6 yX6_all yX6_all) ∈ TB := tb_of (List.mem_of_getElem? (i := 22) (by decide +kernel)) rfl
theorem tb_348 : (Cond.code yX6_rowOf cX6_rowOf 12 (some .long)) ∈ TB := tb_of (List.mem_of_getElem? (i := 665) (by decide +kernel)) rfl
theorem tb_349 : (Cond.methodLink RX6 92 yX6_rowOf) ∈ TB := tb_of (List.mem_of_getElem? (i := 662) (by decide +kernel)) rfl
theorem tb_350 : (Cond.instanceMethod yX6_rowOf) ∈ TB := tb_of (List.mem_of_getElem? (i := 664) (by decide +kernel)) rfl
theorem tb_351 : (Cond.selects RX6 yX6_rowOf yX6_rowOf) ∈ TB := tb_of (List.mem_of_getElem? (i := 16) (by decide +kernel)) rfl
theorem tb_352 : (Cond.constantLong RX6 98 (-2)) ∈ TB := tb_of (List.mem_of_getElem? (i := 661) (by decide +kernel)) rfl
theorem tb_353 : (Cond.constant RX6 97 65535) ∈ TB := tb_of (List.mem_of_getElem? (i := 660) (by decide +kernel)) rfl
theorem tb_354 : (Cond.code yX6_partOf cX6_partOf 3 (some .long)) ∈ TB := tb_of (List.mem_of_getElem? (i := 696) (by decide +kernel)) rfl
theorem tb_355 : (Cond.methodLink RX6 104 yX6_partOf) ∈ TB := tb_of (List.mem_of_getElem? (i := 693) (by decide +kernel)) rfl
theorem tb_356 : (Cond.instanceMethod yX6_partOf) ∈ TB := tb_of (List.mem_of_getElem? (i := 695) (by decide +kernel)) rfl
theorem tb_357 : (Cond.selects RX6 yX6_partOf yX6_partOf) ∈ TB := tb_of (List.mem_of_getElem? (i := 21) (by decide +kernel)) rfl
theorem tb_358 : (Cond.fieldLink RX6 107 "FountainRowsModel" "hasFrame" "Z") ∈ TB := tb_of (List.mem_of_getElem? (i := 571) (by decide +kernel)) rfl
theorem tb_359 : (Cond.fieldLink RX6 114 "FountainRowsModel" "frameSize" "I") ∈ TB := tb_of (List.mem_of_getElem? (i := 574) (by decide +kernel)) rfl
theorem tb_360 : (Cond.fieldLink RX6 44 "FountainRowsModel" "frame" "[I") ∈ TB := tb_of (List.mem_of_getElem? (i := 573) (by decide +kernel)) rfl
theorem tb_361 : (Cond.code yX6_sum cX6_sum 6 (some .int)) ∈ TB := tb_of (List.mem_of_getElem? (i := 716) (by decide +kernel)) rfl
theorem tb_362 : (Cond.methodLink RX6 123 yX6_sum) ∈ TB := tb_of (List.mem_of_getElem? (i := 713) (by decide +kernel)) rfl
theorem tb_363 : (Cond.instanceMethod yX6_sum) ∈ TB := tb_of (List.mem_of_getElem? (i := 715) (by decide +kernel)) rfl
theorem tb_364 : (Cond.selects RX6 yX6_sum yX6_sum) ∈ TB := tb_of (List.mem_of_getElem? (i := 24) (by decide +kernel)) rfl
