theorem tb_425 : (Cond.code yX6_peel cX6_peel 10 none) ∈ TB := tb_of (List.mem_of_getElem? (i := 773) (by decide +kernel)) rfl
theorem tb_426 : (Cond.methodLink RX6 170 yX6_peel) ∈ TB := tb_of (List.mem_of_getElem? (i := 770) (by decide +kernel)) rfl
theorem tb_427 : (Cond.instanceMethod yX6_peel) ∈ TB := tb_of (List.mem_of_getElem? (i := 772) (by decide +kernel)) rfl
theorem tb_428 : (Cond.selects RX6 yX6_peel yX6_peel) ∈ TB := tb_of (List.mem_of_getElem? (i := 34) (by decide +kernel)) rfl
theorem tb_429 : (Cond.code yX6_knows cX6_knows 2 (some .boolean)) ∈ TB := tb_of (List.mem_of_getElem? (i := 765) (by decide +kernel)) rfl
theorem tb_430 : (Cond.methodLink RX6 173 yX6_knows) ∈ TB := tb_of (List.mem_of_getElem? (i := 762) (by decide +kernel)) rfl
theorem tb_431 : (Cond.instanceMethod yX6_knows) ∈ TB := tb_of (List.mem_of_getElem? (i := 764) (by decide +kernel)) rfl
theorem tb_432 : (Cond.selects RX6 yX6_knows yX6_knows) ∈ TB := tb_of (List.mem_of_getElem? (i := 32) (by decide +kernel)) rfl
theorem tb_433 : (Cond.code yX6_states cX6_states 5 (some .int)) ∈ TB := tb_of (List.mem_of_getElem? (i := 769) (by decide +kernel)) rfl
theorem tb_434 : (Cond.methodLink RX6 176 yX6_states) ∈ TB := tb_of (List.mem_of_getElem? (i := 766) (by decide +kernel)) rfl
theorem tb_435 : (Cond.instanceMethod yX6_states) ∈ TB := tb_of (List.mem_of_getElem? (i := 768) (by decide +kernel)) rfl
theorem tb_436 : (Cond.selects RX6 yX6_states yX6_states) ∈ TB := tb_of (List.mem_of_getElem? (i := 33) (by decide +kernel)) rfl
