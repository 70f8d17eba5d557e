theorem tb_389 : (Cond.fieldLink RX6 179 "FountainRowsModel" "imageSize" "I") ∈ TB := tb_of (List.mem_of_getElem? (i := 576) (by decide +kernel)) rfl
theorem tb_390 : (Cond.fieldLink RX6 47 "FountainRowsModel" "image" "[I") ∈ TB := tb_of (List.mem_of_getElem? (i := 575) (by decide +kernel)) rfl
theorem tb_391 : (Cond.code yX6_say cX6_say 5 none) ∈ TB := tb_of (List.mem_of_getElem? (i := 804) (by decide +kernel)) rfl
theorem tb_392 : (Cond.methodLink RX6 182 yX6_say) ∈ TB := tb_of (List.mem_of_getElem? (i := 801) (by decide +kernel)) rfl
theorem tb_393 : (Cond.instanceMethod yX6_say) ∈ TB := tb_of (List.mem_of_getElem? (i := 803) (by decide +kernel)) rfl
theorem tb_394 : (Cond.selects RX6 yX6_say yX6_say) ∈ TB := tb_of (List.mem_of_getElem? (i := 36) (by decide +kernel)) rfl
