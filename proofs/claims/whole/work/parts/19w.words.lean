theorem tb_307 : (Cond.fieldLink RX6 59 "FountainRowsModel" "sources" "I") ∈ TB := tb_of (List.mem_of_getElem? (i := 560) (by decide +kernel)) rfl
theorem tb_308 : (Cond.fieldLink RX6 13 "FountainRowsModel" "ks" "[I") ∈ TB := tb_of (List.mem_of_getElem? (i := 561) (by decide +kernel)) rfl
theorem tb_309 : (Cond.fieldLink RX6 16 "FountainRowsModel" "ps" "[I") ∈ TB := tb_of (List.mem_of_getElem? (i := 562) (by decide +kernel)) rfl
theorem tb_310 : (Cond.fieldLink RX6 19 "FountainRowsModel" "sizes" "[I") ∈ TB := tb_of (List.mem_of_getElem? (i := 563) (by decide +kernel)) rfl
theorem tb_311 : (Cond.fieldLink RX6 75 "FountainRowsModel" "z" "I") ∈ TB := tb_of (List.mem_of_getElem? (i := 577) (by decide +kernel)) rfl
theorem tb_312 : (Cond.constant RX6 78 1664525) ∈ TB := tb_of (List.mem_of_getElem? (i := 671) (by decide +kernel)) rfl
theorem tb_313 : (Cond.constant RX6 79 1013904223) ∈ TB := tb_of (List.mem_of_getElem? (i := 672) (by decide +kernel)) rfl
theorem tb_314 : (Cond.code yX6_isSource cX6_isSource 2 (some .boolean)) ∈ TB := tb_of (List.mem_of_getElem? (i := 650) (by decide +kernel)) rfl
theorem tb_315 : (Cond.methodLink RX6 63 yX6_isSource) ∈ TB := tb_of (List.mem_of_getElem? (i := 647) (by decide +kernel)) rfl
theorem tb_316 : (Cond.instanceMethod yX6_isSource) ∈ TB := tb_of (List.mem_of_getElem? (i := 649) (by decide +kernel)) rfl
theorem tb_317 : (Cond.selects RX6 yX6_isSource yX6_isSource) ∈ TB := tb_of (List.mem_of_getElem? (i := 14) (by decide +kernel)) rfl
theorem tb_318 : (Cond.initialized RX6) ∈ TB := tb_of (List.mem_of_getElem? (i := 43) (by decide +kernel)) rfl
theorem tb_319 : (Cond.constantLong RX6 95 (-1)) ∈ TB := tb_of (List.mem_of_getElem? (i := 659) (by decide +kernel)) rfl
theorem tb_320 : (Cond.code yX6_isPart cX6_isPart 3 (some .boolean)) ∈ TB := tb_of (List.mem_of_getElem? (i := 692) (by decide +kernel)) rfl
theorem tb_321 : (Cond.methodLink RX6 100 yX6_isPart) ∈ TB := tb_of (List.mem_of_getElem? (i := 689) (by decide +kernel)) rfl
theorem tb_322 : (Cond.instanceMethod yX6_isPart) ∈ TB := tb_of (List.mem_of_getElem? (i := 691) (by decide +kernel)) rfl
theorem tb_323 : (Cond.selects RX6 yX6_isPart yX6_isPart) ∈ TB := tb_of (List.mem_of_getElem? (i := 20) (by decide +kernel)) rfl
theorem tb_324 : (Cond.code yX6_parts cX6_parts 2 (some .int)) ∈ TB := tb_of (List.mem_of_getElem? (i := 676) (by decide +kernel)) rfl
theorem tb_325 : (Cond.methodLink RX6 67 yX6_parts) ∈ TB := tb_of (List.mem_of_getElem? (i := 673) (by decide +kernel)) rfl
theorem tb_326 : (Cond.instanceMethod yX6_parts) ∈ TB := tb_of (List.mem_of_getElem? (i := 675) (by decide +kernel)) rfl
theorem tb_327 : (Cond.selects RX6 yX6_parts yX6_parts) ∈ TB := tb_of (List.mem_of_getElem? (i := 18) (by decide +kernel)) rfl
theorem tb_328 : (Cond.code yX6_lowest cX6_lowest 4 (some .long)) ∈ TB := tb_of (List.mem_of_getElem? (i := 654) (by decide +kernel)) rfl
theorem tb_329 : (Cond.methodLink RX6 71 yX6_lowest) ∈ TB := tb_of (List.mem_of_getElem? (i := 651) (by decide +kernel)) rfl
theorem tb_330 : (Cond.instanceMethod yX6_lowest) ∈ TB := tb_of (List.mem_of_getElem? (i := 653) (by decide +kernel)) rfl
theorem tb_331 : (Cond.selects RX6 yX6_lowest yX6_lowest) ∈ TB := tb_of (List.mem_of_getElem? (i := 15) (by decide +kernel)) rfl
theorem tb_332 : (Cond.fieldLink RX6 28 "FountainRowsModel" "symbols" "[J") ∈ TB := tb_of (List.mem_of_getElem? (i := 566) (by decide +kernel)) rfl
