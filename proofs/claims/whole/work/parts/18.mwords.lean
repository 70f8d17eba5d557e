theorem tb_307 : (Cond.fieldLink RX6 59 "FountainRowsModel" "sources" "I") ∈ TB := tb_of (List.mem_of_getElem? (i := 560) (by decide +kernel)) rfl
theorem tb_308 : (Cond.fieldLink RX6 13 "FountainRowsModel" "ks" "[I") ∈ TB := tb_of (List.mem_of_getElem? (i := 561) (by decide +kernel)) rfl
theorem tb_309 : (Cond.fieldLink RX6 16 "FountainRowsModel" "ps" "[I") ∈ TB := tb_of (List.mem_of_getElem? (i := 562) (by decide +kernel)) rfl
theorem tb_310 : (Cond.fieldLink RX6 19 "FountainRowsModel" "sizes" "[I") ∈ TB := tb_of (List.mem_of_getElem? (i := 563) (by decide +kernel)) rfl
theorem tb_311 : (Cond.fieldLink RX6 75 "FountainRowsModel" "z" "I") ∈ TB := tb_of (List.mem_of_getElem? (i := 577) (by decide +kernel)) rfl
theorem tb_312 : (Cond.constant RX6 78 1664525) ∈ TB := tb_of (List.mem_of_getElem? (i := 671) (by decide +kernel)) rfl
theorem tb_313 : (Cond.constant RX6 79 1013904223) ∈ TB := tb_of (List.mem_of_getElem? (i := 672) (by decide +kernel)) rfl
theorem tb_314 : (Cond.code yX6_isSource cX6_isSource 2 (some .boolean)) ∈ TB := tb_of (List.mem_of_getElem? (i := 650) (by decide +kernel)) rfl
theorem tb_315 : (Cond.methodLink RX6 63 yX6_isSource) ∈ TB := tb_of (List.mem_of_getElem? (i := 647) (by decide +kernel)) rfl
theorem tb_316 : (Cond.instanceMethod yX6_isSource) ∈ TB := tb_of (List.mem_of_getElem? (i := 649) (by decide +kernel)) rfl
theorem tb_317 : (Cond.selects RX6 yX6_isSource yX6_isSource) ∈ TB := tb_of (List.mem_of_getElem? (i := 14) (by decide +kernel)) rfl
theorem tb_318 : (Cond.initialized RX6) ∈ TB := tb_of (List.mem_of_getElem? (i := 43) (by decide +kernel)) rfl
theorem tb_319 : (Cond.constantLong RX6 95 (-1)) ∈ TB := tb_of (List.mem_of_getElem? (i := 659) (by decide +kernel)) rfl
theorem tb_320 : (Cond.code yX6_isPart cX6_isPart 3 (some .boolean)) ∈ TB := tb_of (List.mem_of_getElem? (i := 692) (by decide +kernel)) rfl
theorem tb_321 : (Cond.methodLink RX6 100 yX6_isPart) ∈ TB := tb_of (List.mem_of_getElem? (i := 689) (by decide +kernel)) rfl
theorem tb_322 : (Cond.instanceMethod yX6_isPart) ∈ TB := tb_of (List.mem_of_getElem? (i := 691) (by decide +kernel)) rfl
theorem tb_323 : (Cond.selects RX6 yX6_isPart yX6_isPart) ∈ TB := tb_of (List.mem_of_getElem? (i := 20) (by decide +kernel)) rfl
theorem tb_324 : (Cond.code yX6_parts cX6_parts 2 (some .int)) ∈ TB := tb_of (List.mem_of_getElem? (i := 676) (by decide +kernel)) rfl
theorem tb_325 : (Cond.methodLink RX6 67 yX6_parts) ∈ TB := tb_of (List.mem_of_getElem? (i := 673) (by decide +kernel)) rfl
theorem tb_326 : (Cond.instanceMethod yX6_parts) ∈ TB := tb_of (List.mem_of_getElem? (i := 675) (by decide +kernel)) rfl
theorem tb_327 : (Cond.selects RX6 yX6_parts yX6_parts) ∈ TB := tb_of (List.mem_of_getElem? (i := 18) (by decide +kernel)) rfl
theorem tb_328 : (Cond.code yX6_lowest cX6_lowest 4 (some .long)) ∈ TB := tb_of (List.mem_of_getElem? (i := 654) (by decide +kernel)) rfl
theorem tb_329 : (Cond.methodLink RX6 71 yX6_lowest) ∈ TB := tb_of (List.mem_of_getElem? (i := 651) (by decide +kernel)) rfl
theorem tb_330 : (Cond.instanceMethod yX6_lowest) ∈ TB := tb_of (List.mem_of_getElem? (i := 653) (by decide +kernel)) rfl
theorem tb_331 : (Cond.selects RX6 yX6_lowest yX6_lowest) ∈ TB := tb_of (List.mem_of_getElem? (i := 15) (by decide +kernel)) rfl
theorem tb_332 : (Cond.fieldLink RX6 28 "FountainRowsModel" "symbols" "[J") ∈ TB := tb_of (List.mem_of_getElem? (i := 566) (by decide +kernel)) rfl
theorem tb_333 : (Cond.code yX6_drawn cX6_drawn 1 (some .int)) ∈ TB := tb_of (List.mem_of_getElem? (i := 670) (by decide +kernel)) rfl
theorem tb_334 : (Cond.methodLink RX6 81 yX6_drawn) ∈ TB := tb_of (List.mem_of_getElem? (i := 667) (by decide +kernel)) rfl
theorem tb_335 : (Cond.instanceMethod yX6_drawn) ∈ TB := tb_of (List.mem_of_getElem? (i := 669) (by decide +kernel)) rfl
theorem tb_336 : (Cond.selects RX6 yX6_drawn yX6_drawn) ∈ TB := tb_of (List.mem_of_getElem? (i := 17) (by decide +kernel)) rfl
theorem tb_337 : (Cond.fieldLink RX6 22 "FountainRowsModel" "seeds" "[I") ∈ TB := tb_of (List.mem_of_getElem? (i := 564) (by decide +kernel)) rfl
theorem tb_338 : (Cond.constant RX6 80 40503) ∈ TB := tb_of (List.mem_of_getElem? (i := 666) (by decide +kernel)) rfl
theorem tb_339 : (Cond.fieldLink RX6 25 "FountainRowsModel" "tables" "[I") ∈ TB := tb_of (List.mem_of_getElem? (i := 565) (by decide +kernel)) rfl
theorem tb_340 : (Cond.code yX6_sumOf cX6_sumOf 6 (some .long)) ∈ TB := tb_of (List.mem_of_getElem? (i := 684) (by decide +kernel)) rfl
theorem tb_341 : (Cond.methodLink RX6 85 yX6_sumOf) ∈ TB := tb_of (List.mem_of_getElem? (i := 681) (by decide +kernel)) rfl
theorem tb_342 : (Cond.instanceMethod yX6_sumOf) ∈ TB := tb_of (List.mem_of_getElem? (i := 683) (by decide +kernel)) rfl
theorem tb_343 : (Cond.selects RX6 yX6_sumOf yX6_sumOf) ∈ TB := tb_of (List.mem_of_getElem? (i := 19) (by decide +kernel)) rfl
theorem tb_344 : (Cond.code yX6_all cX6_all 7 (some .long)) ∈ TB := tb_of (List.mem_of_getElem? (i := 700) (by decide +kernel)) rfl
theorem tb_345 : (Cond.methodLink RX6 89 yX6_all) ∈ TB := tb_of (List.mem_of_getElem? (i := 697) (by decide +kernel)) rfl
theorem tb_346 : (Cond.instanceMethod yX6_all) ∈ TB := tb_of (List.mem_of_getElem? (i := 699) (by decide +kernel)) rfl
theorem tb_347 : (Cond.selects RX6 yX6_all yX6_all) ∈ TB := tb_of (List.mem_of_getElem? (i := 22) (by decide +kernel)) rfl
theorem tb_348 : (Cond.code yX6_rowOf cX6_rowOf 12 (some .long)) ∈ TB := tb_of (List.mem_of_getElem? (i := 665) (by decide +kernel)) rfl
theorem tb_349 : (Cond.methodLink RX6 92 yX6_rowOf) ∈ TB := tb_of (List.mem_of_getElem? (i := 662) (by decide +kernel)) rfl
theorem tb_350 : (Cond.instanceMethod yX6_rowOf) ∈ TB := tb_of (List.mem_of_getElem? (i := 664) (by decide +kernel)) rfl
theorem tb_351 : (Cond.selects RX6 yX6_rowOf yX6_rowOf) ∈ TB := tb_of (List.mem_of_getElem? (i := 16) (by decide +kernel)) rfl
theorem tb_352 : (Cond.constantLong RX6 98 (-2)) ∈ TB := tb_of (List.mem_of_getElem? (i := 661) (by decide +kernel)) rfl
theorem tb_353 : (Cond.constant RX6 97 65535) ∈ TB := tb_of (List.mem_of_getElem? (i := 660) (by decide +kernel)) rfl
theorem tb_354 : (Cond.code yX6_partOf cX6_partOf 3 (some .long)) ∈ TB := tb_of (List.mem_of_getElem? (i := 696) (by decide +kernel)) rfl
theorem tb_355 : (Cond.methodLink RX6 104 yX6_partOf) ∈ TB := tb_of (List.mem_of_getElem? (i := 693) (by decide +kernel)) rfl
theorem tb_356 : (Cond.instanceMethod yX6_partOf) ∈ TB := tb_of (List.mem_of_getElem? (i := 695) (by decide +kernel)) rfl
theorem tb_357 : (Cond.selects RX6 yX6_partOf yX6_partOf) ∈ TB := tb_of (List.mem_of_getElem? (i := 21) (by decide +kernel)) rfl
theorem tb_358 : (Cond.fieldLink RX6 107 "FountainRowsModel" "hasFrame" "Z") ∈ TB := tb_of (List.mem_of_getElem? (i := 571) (by decide +kernel)) rfl
theorem tb_359 : (Cond.fieldLink RX6 114 "FountainRowsModel" "frameSize" "I") ∈ TB := tb_of (List.mem_of_getElem? (i := 574) (by decide +kernel)) rfl
theorem tb_360 : (Cond.fieldLink RX6 44 "FountainRowsModel" "frame" "[I") ∈ TB := tb_of (List.mem_of_getElem? (i := 573) (by decide +kernel)) rfl
theorem tb_361 : (Cond.code yX6_sum cX6_sum 6 (some .int)) ∈ TB := tb_of (List.mem_of_getElem? (i := 716) (by decide +kernel)) rfl
theorem tb_362 : (Cond.methodLink RX6 123 yX6_sum) ∈ TB := tb_of (List.mem_of_getElem? (i := 713) (by decide +kernel)) rfl
theorem tb_363 : (Cond.instanceMethod yX6_sum) ∈ TB := tb_of (List.mem_of_getElem? (i := 715) (by decide +kernel)) rfl
theorem tb_364 : (Cond.selects RX6 yX6_sum yX6_sum) ∈ TB := tb_of (List.mem_of_getElem? (i := 24) (by decide +kernel)) rfl
theorem tb_365 : (Cond.fieldLink RX6 127 "FountainRowsModel" "left" "J") ∈ TB := tb_of (List.mem_of_getElem? (i := 581) (by decide +kernel)) rfl
theorem tb_366 : (Cond.fieldLink RX6 131 "FountainRowsModel" "leftOut" "J") ∈ TB := tb_of (List.mem_of_getElem? (i := 582) (by decide +kernel)) rfl
theorem tb_367 : (Cond.fieldLink RX6 50 "FountainRowsModel" "heads" "[J") ∈ TB := tb_of (List.mem_of_getElem? (i := 578) (by decide +kernel)) rfl
theorem tb_368 : (Cond.fieldLink RX6 53 "FountainRowsModel" "values" "[J") ∈ TB := tb_of (List.mem_of_getElem? (i := 579) (by decide +kernel)) rfl
theorem tb_369 : (Cond.code yX6_reduce cX6_reduce 6 none) ∈ TB := tb_of (List.mem_of_getElem? (i := 753) (by decide +kernel)) rfl
theorem tb_370 : (Cond.methodLink RX6 134 yX6_reduce) ∈ TB := tb_of (List.mem_of_getElem? (i := 750) (by decide +kernel)) rfl
theorem tb_371 : (Cond.instanceMethod yX6_reduce) ∈ TB := tb_of (List.mem_of_getElem? (i := 752) (by decide +kernel)) rfl
theorem tb_372 : (Cond.selects RX6 yX6_reduce yX6_reduce) ∈ TB := tb_of (List.mem_of_getElem? (i := 30) (by decide +kernel)) rfl
theorem tb_373 : (Cond.fieldLink RX6 138 "FountainRowsModel" "rank" "I") ∈ TB := tb_of (List.mem_of_getElem? (i := 580) (by decide +kernel)) rfl
theorem tb_374 : (Cond.fieldLink RX6 32 "FountainRowsModel" "xs" "[I") ∈ TB := tb_of (List.mem_of_getElem? (i := 567) (by decide +kernel)) rfl
theorem tb_375 : (Cond.code yX6_rowAt cX6_rowAt 3 (some .long)) ∈ TB := tb_of (List.mem_of_getElem? (i := 745) (by decide +kernel)) rfl
theorem tb_376 : (Cond.methodLink RX6 141 yX6_rowAt) ∈ TB := tb_of (List.mem_of_getElem? (i := 742) (by decide +kernel)) rfl
theorem tb_377 : (Cond.instanceMethod yX6_rowAt) ∈ TB := tb_of (List.mem_of_getElem? (i := 744) (by decide +kernel)) rfl
theorem tb_378 : (Cond.selects RX6 yX6_rowAt yX6_rowAt) ∈ TB := tb_of (List.mem_of_getElem? (i := 28) (by decide +kernel)) rfl
theorem tb_379 : (Cond.code yX6_add cX6_add 6 none) ∈ TB := tb_of (List.mem_of_getElem? (i := 749) (by decide +kernel)) rfl
theorem tb_380 : (Cond.methodLink RX6 144 yX6_add) ∈ TB := tb_of (List.mem_of_getElem? (i := 746) (by decide +kernel)) rfl
theorem tb_381 : (Cond.instanceMethod yX6_add) ∈ TB := tb_of (List.mem_of_getElem? (i := 748) (by decide +kernel)) rfl
theorem tb_382 : (Cond.selects RX6 yX6_add yX6_add) ∈ TB := tb_of (List.mem_of_getElem? (i := 29) (by decide +kernel)) rfl
theorem tb_383 : (Cond.fieldLink RX6 38 "FountainRowsModel" "taken" "[I") ∈ TB := tb_of (List.mem_of_getElem? (i := 569) (by decide +kernel)) rfl
theorem tb_384 : (Cond.fieldLink RX6 35 "FountainRowsModel" "outs" "[J") ∈ TB := tb_of (List.mem_of_getElem? (i := 568) (by decide +kernel)) rfl
theorem tb_385 : (Cond.code yX6_build cX6_build 3 none) ∈ TB := tb_of (List.mem_of_getElem? (i := 741) (by decide +kernel)) rfl
theorem tb_386 : (Cond.methodLink RX6 147 yX6_build) ∈ TB := tb_of (List.mem_of_getElem? (i := 738) (by decide +kernel)) rfl
theorem tb_387 : (Cond.instanceMethod yX6_build) ∈ TB := tb_of (List.mem_of_getElem? (i := 740) (by decide +kernel)) rfl
theorem tb_388 : (Cond.selects RX6 yX6_build yX6_build) ∈ TB := tb_of (List.mem_of_getElem? (i := 27) (by decide +kernel)) rfl
theorem tb_389 : (Cond.fieldLink RX6 179 "FountainRowsModel" "imageSize" "I") ∈ TB := tb_of (List.mem_of_getElem? (i := 576) (by decide +kernel)) rfl
theorem tb_390 : (Cond.fieldLink RX6 47 "FountainRowsModel" "image" "[I") ∈ TB := tb_of (List.mem_of_getElem? (i := 575) (by decide +kernel)) rfl
theorem tb_391 : (Cond.code yX6_say cX6_say 5 none) ∈ TB := tb_of (List.mem_of_getElem? (i := 804) (by decide +kernel)) rfl
theorem tb_392 : (Cond.methodLink RX6 182 yX6_say) ∈ TB := tb_of (List.mem_of_getElem? (i := 801) (by decide +kernel)) rfl
theorem tb_393 : (Cond.instanceMethod yX6_say) ∈ TB := tb_of (List.mem_of_getElem? (i := 803) (by decide +kernel)) rfl
theorem tb_394 : (Cond.selects RX6 yX6_say yX6_say) ∈ TB := tb_of (List.mem_of_getElem? (i := 36) (by decide +kernel)) rfl
theorem tb_395 : (Cond.code yX6_output cX6_output 8 (some .long)) ∈ TB := tb_of (List.mem_of_getElem? (i := 708) (by decide +kernel)) rfl
theorem tb_396 : (Cond.methodLink RX6 117 yX6_output) ∈ TB := tb_of (List.mem_of_getElem? (i := 705) (by decide +kernel)) rfl
theorem tb_397 : (Cond.instanceMethod yX6_output) ∈ TB := tb_of (List.mem_of_getElem? (i := 707) (by decide +kernel)) rfl
theorem tb_398 : (Cond.selects RX6 yX6_output yX6_output) ∈ TB := tb_of (List.mem_of_getElem? (i := 23) (by decide +kernel)) rfl
theorem tb_399 : (Cond.code yX6_sign cX6_sign 2 (some .int)) ∈ TB := tb_of (List.mem_of_getElem? (i := 712) (by decide +kernel)) rfl
theorem tb_400 : (Cond.methodLink RX6 120 yX6_sign) ∈ TB := tb_of (List.mem_of_getElem? (i := 709) (by decide +kernel)) rfl
theorem tb_401 : (Cond.instanceMethod yX6_sign) ∈ TB := tb_of (List.mem_of_getElem? (i := 710) (by decide +kernel)) rfl
theorem tb_402 : (Cond.selects RX6 yX6_sign yX6_sign) ∈ TB := tb_of (List.mem_of_getElem? (i := 711) (by decide +kernel)) rfl
theorem tb_403 : (Cond.fieldLink RX6 111 "FountainRowsModel" "frameOf" "I") ∈ TB := tb_of (List.mem_of_getElem? (i := 572) (by decide +kernel)) rfl
theorem tb_404 : (Cond.code yX6_wasTaken cX6_wasTaken 4 (some .boolean)) ∈ TB := tb_of (List.mem_of_getElem? (i := 733) (by decide +kernel)) rfl
theorem tb_405 : (Cond.methodLink RX6 151 yX6_wasTaken) ∈ TB := tb_of (List.mem_of_getElem? (i := 730) (by decide +kernel)) rfl
theorem tb_406 : (Cond.instanceMethod yX6_wasTaken) ∈ TB := tb_of (List.mem_of_getElem? (i := 732) (by decide +kernel)) rfl
theorem tb_407 : (Cond.selects RX6 yX6_wasTaken yX6_wasTaken) ∈ TB := tb_of (List.mem_of_getElem? (i := 25) (by decide +kernel)) rfl
theorem tb_408 : (Cond.code yX6_isContrary cX6_isContrary 5 (some .boolean)) ∈ TB := tb_of (List.mem_of_getElem? (i := 737) (by decide +kernel)) rfl
theorem tb_409 : (Cond.methodLink RX6 154 yX6_isContrary) ∈ TB := tb_of (List.mem_of_getElem? (i := 734) (by decide +kernel)) rfl
theorem tb_410 : (Cond.instanceMethod yX6_isContrary) ∈ TB := tb_of (List.mem_of_getElem? (i := 736) (by decide +kernel)) rfl
theorem tb_411 : (Cond.selects RX6 yX6_isContrary yX6_isContrary) ∈ TB := tb_of (List.mem_of_getElem? (i := 26) (by decide +kernel)) rfl
theorem tb_412 : (Cond.code yX6_keep cX6_keep 5 none) ∈ TB := tb_of (List.mem_of_getElem? (i := 757) (by decide +kernel)) rfl
theorem tb_413 : (Cond.methodLink RX6 158 yX6_keep) ∈ TB := tb_of (List.mem_of_getElem? (i := 754) (by decide +kernel)) rfl
theorem tb_414 : (Cond.instanceMethod yX6_keep) ∈ TB := tb_of (List.mem_of_getElem? (i := 756) (by decide +kernel)) rfl
theorem tb_415 : (Cond.selects RX6 yX6_keep yX6_keep) ∈ TB := tb_of (List.mem_of_getElem? (i := 31) (by decide +kernel)) rfl
theorem tb_416 : (Cond.fieldLink RX6 41 "FountainRowsModel" "wrong" "[I") ∈ TB := tb_of (List.mem_of_getElem? (i := 570) (by decide +kernel)) rfl
