theorem tb_451 : (Cond.code yX5_degree cX5_degree 4 (some .int)) ∈ TB := tb_of (List.mem_of_getElem? (i := 110) (by decide +kernel)) rfl
theorem tb_452 : (Cond.methodLink RL 13 yX5_degree) ∈ TB := tb_of (List.mem_of_getElem? (i := 107) (by decide +kernel)) rfl
theorem tb_453 : (Cond.instanceMethod yX5_degree) ∈ TB := tb_of (List.mem_of_getElem? (i := 108) (by decide +kernel)) rfl
theorem tb_454 : (Cond.selects RX5 yX5_degree yX5_degree) ∈ TB := tb_of (List.mem_of_getElem? (i := 109) (by decide +kernel)) rfl
theorem tb_455 : (Cond.code yX6_degree cX6_degree 4 (some .int)) ∈ TB := tb_of (List.mem_of_getElem? (i := 638) (by decide +kernel)) rfl
theorem tb_456 : (Cond.methodLink RL 17 yX6_degree) ∈ TB := tb_of (List.mem_of_getElem? (i := 635) (by decide +kernel)) rfl
theorem tb_457 : (Cond.instanceMethod yX6_degree) ∈ TB := tb_of (List.mem_of_getElem? (i := 636) (by decide +kernel)) rfl
theorem tb_458 : (Cond.selects RX6 yX6_degree yX6_degree) ∈ TB := tb_of (List.mem_of_getElem? (i := 637) (by decide +kernel)) rfl
theorem tb_459 : (Cond.code yX5_source cX5_source 6 (some .int)) ∈ TB := tb_of (List.mem_of_getElem? (i := 114) (by decide +kernel)) rfl
theorem tb_460 : (Cond.methodLink RL 18 yX5_source) ∈ TB := tb_of (List.mem_of_getElem? (i := 111) (by decide +kernel)) rfl
theorem tb_461 : (Cond.instanceMethod yX5_source) ∈ TB := tb_of (List.mem_of_getElem? (i := 112) (by decide +kernel)) rfl
theorem tb_462 : (Cond.selects RX5 yX5_source yX5_source) ∈ TB := tb_of (List.mem_of_getElem? (i := 113) (by decide +kernel)) rfl
theorem tb_463 : (Cond.code yX6_source cX6_source 8 (some .int)) ∈ TB := tb_of (List.mem_of_getElem? (i := 642) (by decide +kernel)) rfl
theorem tb_464 : (Cond.methodLink RL 22 yX6_source) ∈ TB := tb_of (List.mem_of_getElem? (i := 639) (by decide +kernel)) rfl
theorem tb_465 : (Cond.instanceMethod yX6_source) ∈ TB := tb_of (List.mem_of_getElem? (i := 640) (by decide +kernel)) rfl
theorem tb_466 : (Cond.selects RX6 yX6_source yX6_source) ∈ TB := tb_of (List.mem_of_getElem? (i := 641) (by decide +kernel)) rfl
theorem tb_467 : (Cond.code yX5_symbol cX5_symbol 6 (some .int)) ∈ TB := tb_of (List.mem_of_getElem? (i := 290) (by decide +kernel)) rfl
theorem tb_468 : (Cond.methodLink RL 25 yX5_symbol) ∈ TB := tb_of (List.mem_of_getElem? (i := 287) (by decide +kernel)) rfl
theorem tb_469 : (Cond.instanceMethod yX5_symbol) ∈ TB := tb_of (List.mem_of_getElem? (i := 288) (by decide +kernel)) rfl
theorem tb_470 : (Cond.selects RX5 yX5_symbol yX5_symbol) ∈ TB := tb_of (List.mem_of_getElem? (i := 289) (by decide +kernel)) rfl
theorem tb_471 : (Cond.code yX6_symbol cX6_symbol 5 (some .int)) ∈ TB := tb_of (List.mem_of_getElem? (i := 646) (by decide +kernel)) rfl
theorem tb_472 : (Cond.methodLink RL 29 yX6_symbol) ∈ TB := tb_of (List.mem_of_getElem? (i := 643) (by decide +kernel)) rfl
theorem tb_473 : (Cond.instanceMethod yX6_symbol) ∈ TB := tb_of (List.mem_of_getElem? (i := 644) (by decide +kernel)) rfl
theorem tb_474 : (Cond.selects RX6 yX6_symbol yX6_symbol) ∈ TB := tb_of (List.mem_of_getElem? (i := 645) (by decide +kernel)) rfl
theorem tb_475 : (Cond.constantLong RL 23 4294967295) ∈ TB := tb_of (List.mem_of_getElem? (i := 825) (by decide +kernel)) rfl
theorem tb_476 : (Cond.code yX5_row cX5_row 4 (some .long)) ∈ TB := tb_of (List.mem_of_getElem? (i := 307) (by decide +kernel)) rfl
theorem tb_477 : (Cond.methodLink RL 30 yX5_row) ∈ TB := tb_of (List.mem_of_getElem? (i := 304) (by decide +kernel)) rfl
theorem tb_478 : (Cond.instanceMethod yX5_row) ∈ TB := tb_of (List.mem_of_getElem? (i := 305) (by decide +kernel)) rfl
theorem tb_479 : (Cond.selects RX5 yX5_row yX5_row) ∈ TB := tb_of (List.mem_of_getElem? (i := 306) (by decide +kernel)) rfl
theorem tb_480 : (Cond.code yX6_row cX6_row 3 (some .long)) ∈ TB := tb_of (List.mem_of_getElem? (i := 658) (by decide +kernel)) rfl
theorem tb_481 : (Cond.methodLink RL 34 yX6_row) ∈ TB := tb_of (List.mem_of_getElem? (i := 655) (by decide +kernel)) rfl
theorem tb_482 : (Cond.instanceMethod yX6_row) ∈ TB := tb_of (List.mem_of_getElem? (i := 656) (by decide +kernel)) rfl
theorem tb_483 : (Cond.selects RX6 yX6_row yX6_row) ∈ TB := tb_of (List.mem_of_getElem? (i := 657) (by decide +kernel)) rfl
theorem tb_484 : (Cond.code yX5_sumRow cX5_sumRow 4 (some .long)) ∈ TB := tb_of (List.mem_of_getElem? (i := 335) (by decide +kernel)) rfl
theorem tb_485 : (Cond.methodLink RL 35 yX5_sumRow) ∈ TB := tb_of (List.mem_of_getElem? (i := 332) (by decide +kernel)) rfl
theorem tb_486 : (Cond.instanceMethod yX5_sumRow) ∈ TB := tb_of (List.mem_of_getElem? (i := 333) (by decide +kernel)) rfl
theorem tb_487 : (Cond.selects RX5 yX5_sumRow yX5_sumRow) ∈ TB := tb_of (List.mem_of_getElem? (i := 334) (by decide +kernel)) rfl
theorem tb_488 : (Cond.code yX6_sumRow cX6_sumRow 3 (some .long)) ∈ TB := tb_of (List.mem_of_getElem? (i := 680) (by decide +kernel)) rfl
theorem tb_489 : (Cond.methodLink RL 38 yX6_sumRow) ∈ TB := tb_of (List.mem_of_getElem? (i := 677) (by decide +kernel)) rfl
theorem tb_490 : (Cond.instanceMethod yX6_sumRow) ∈ TB := tb_of (List.mem_of_getElem? (i := 678) (by decide +kernel)) rfl
theorem tb_491 : (Cond.selects RX6 yX6_sumRow yX6_sumRow) ∈ TB := tb_of (List.mem_of_getElem? (i := 679) (by decide +kernel)) rfl
theorem tb_492 : (Cond.code yX5_part cX5_part 4 (some .long)) ∈ TB := tb_of (List.mem_of_getElem? (i := 341) (by decide +kernel)) rfl
theorem tb_493 : (Cond.methodLink RL 39 yX5_part) ∈ TB := tb_of (List.mem_of_getElem? (i := 338) (by decide +kernel)) rfl
theorem tb_494 : (Cond.instanceMethod yX5_part) ∈ TB := tb_of (List.mem_of_getElem? (i := 339) (by decide +kernel)) rfl
theorem tb_495 : (Cond.selects RX5 yX5_part yX5_part) ∈ TB := tb_of (List.mem_of_getElem? (i := 340) (by decide +kernel)) rfl
theorem tb_496 : (Cond.code yX6_part cX6_part 3 (some .long)) ∈ TB := tb_of (List.mem_of_getElem? (i := 688) (by decide +kernel)) rfl
theorem tb_497 : (Cond.methodLink RL 42 yX6_part) ∈ TB := tb_of (List.mem_of_getElem? (i := 685) (by decide +kernel)) rfl
theorem tb_498 : (Cond.instanceMethod yX6_part) ∈ TB := tb_of (List.mem_of_getElem? (i := 686) (by decide +kernel)) rfl
theorem tb_499 : (Cond.selects RX6 yX6_part yX6_part) ∈ TB := tb_of (List.mem_of_getElem? (i := 687) (by decide +kernel)) rfl
theorem tb_500 : (Cond.code yX5_frame cX5_frame 4 (some .int)) ∈ TB := tb_of (List.mem_of_getElem? (i := 358) (by decide +kernel)) rfl
theorem tb_501 : (Cond.methodLink RL 43 yX5_frame) ∈ TB := tb_of (List.mem_of_getElem? (i := 355) (by decide +kernel)) rfl
theorem tb_502 : (Cond.instanceMethod yX5_frame) ∈ TB := tb_of (List.mem_of_getElem? (i := 356) (by decide +kernel)) rfl
theorem tb_503 : (Cond.selects RX5 yX5_frame yX5_frame) ∈ TB := tb_of (List.mem_of_getElem? (i := 357) (by decide +kernel)) rfl
theorem tb_504 : (Cond.code yX6_frame cX6_frame 7 (some .int)) ∈ TB := tb_of (List.mem_of_getElem? (i := 704) (by decide +kernel)) rfl
theorem tb_505 : (Cond.methodLink RL 46 yX6_frame) ∈ TB := tb_of (List.mem_of_getElem? (i := 701) (by decide +kernel)) rfl
theorem tb_506 : (Cond.instanceMethod yX6_frame) ∈ TB := tb_of (List.mem_of_getElem? (i := 702) (by decide +kernel)) rfl
theorem tb_507 : (Cond.selects RX6 yX6_frame yX6_frame) ∈ TB := tb_of (List.mem_of_getElem? (i := 703) (by decide +kernel)) rfl
theorem tb_508 : (Cond.code yX5_told cX5_told 4 (some .int)) ∈ TB := tb_of (List.mem_of_getElem? (i := 443) (by decide +kernel)) rfl
theorem tb_509 : (Cond.methodLink RL 65 yX5_told) ∈ TB := tb_of (List.mem_of_getElem? (i := 440) (by decide +kernel)) rfl
theorem tb_510 : (Cond.instanceMethod yX5_told) ∈ TB := tb_of (List.mem_of_getElem? (i := 441) (by decide +kernel)) rfl
theorem tb_511 : (Cond.selects RX5 yX5_told yX5_told) ∈ TB := tb_of (List.mem_of_getElem? (i := 442) (by decide +kernel)) rfl
theorem tb_512 : (Cond.code yX6_told cX6_told 5 (some .int)) ∈ TB := tb_of (List.mem_of_getElem? (i := 761) (by decide +kernel)) rfl
theorem tb_513 : (Cond.methodLink RL 68 yX6_told) ∈ TB := tb_of (List.mem_of_getElem? (i := 758) (by decide +kernel)) rfl
theorem tb_514 : (Cond.instanceMethod yX6_told) ∈ TB := tb_of (List.mem_of_getElem? (i := 759) (by decide +kernel)) rfl
theorem tb_515 : (Cond.selects RX6 yX6_told yX6_told) ∈ TB := tb_of (List.mem_of_getElem? (i := 760) (by decide +kernel)) rfl
theorem tb_516 : (Cond.code yX5_taken cX5_taken 4 (some .int)) ∈ TB := tb_of (List.mem_of_getElem? (i := 487) (by decide +kernel)) rfl
theorem tb_517 : (Cond.methodLink RL 69 yX5_taken) ∈ TB := tb_of (List.mem_of_getElem? (i := 484) (by decide +kernel)) rfl
theorem tb_518 : (Cond.instanceMethod yX5_taken) ∈ TB := tb_of (List.mem_of_getElem? (i := 485) (by decide +kernel)) rfl
theorem tb_519 : (Cond.selects RX5 yX5_taken yX5_taken) ∈ TB := tb_of (List.mem_of_getElem? (i := 486) (by decide +kernel)) rfl
theorem tb_520 : (Cond.code yX6_taken cX6_taken 3 (some .int)) ∈ TB := tb_of (List.mem_of_getElem? (i := 784) (by decide +kernel)) rfl
theorem tb_521 : (Cond.methodLink RL 72 yX6_taken) ∈ TB := tb_of (List.mem_of_getElem? (i := 781) (by decide +kernel)) rfl
theorem tb_522 : (Cond.instanceMethod yX6_taken) ∈ TB := tb_of (List.mem_of_getElem? (i := 782) (by decide +kernel)) rfl
theorem tb_523 : (Cond.selects RX6 yX6_taken yX6_taken) ∈ TB := tb_of (List.mem_of_getElem? (i := 783) (by decide +kernel)) rfl
theorem tb_524 : (Cond.code yX5_isKnown cX5_isKnown 4 (some .int)) ∈ TB := tb_of (List.mem_of_getElem? (i := 495) (by decide +kernel)) rfl
theorem tb_525 : (Cond.methodLink RL 73 yX5_isKnown) ∈ TB := tb_of (List.mem_of_getElem? (i := 492) (by decide +kernel)) rfl
theorem tb_526 : (Cond.instanceMethod yX5_isKnown) ∈ TB := tb_of (List.mem_of_getElem? (i := 493) (by decide +kernel)) rfl
theorem tb_527 : (Cond.selects RX5 yX5_isKnown yX5_isKnown) ∈ TB := tb_of (List.mem_of_getElem? (i := 494) (by decide +kernel)) rfl
theorem tb_528 : (Cond.code yX6_isKnown cX6_isKnown 3 (some .int)) ∈ TB := tb_of (List.mem_of_getElem? (i := 788) (by decide +kernel)) rfl
theorem tb_529 : (Cond.methodLink RL 76 yX6_isKnown) ∈ TB := tb_of (List.mem_of_getElem? (i := 785) (by decide +kernel)) rfl
theorem tb_530 : (Cond.instanceMethod yX6_isKnown) ∈ TB := tb_of (List.mem_of_getElem? (i := 786) (by decide +kernel)) rfl
theorem tb_531 : (Cond.selects RX6 yX6_isKnown yX6_isKnown) ∈ TB := tb_of (List.mem_of_getElem? (i := 787) (by decide +kernel)) rfl
theorem tb_532 : (Cond.code yX5_known cX5_known 4 (some .long)) ∈ TB := tb_of (List.mem_of_getElem? (i := 500) (by decide +kernel)) rfl
theorem tb_533 : (Cond.methodLink RL 77 yX5_known) ∈ TB := tb_of (List.mem_of_getElem? (i := 497) (by decide +kernel)) rfl
theorem tb_534 : (Cond.instanceMethod yX5_known) ∈ TB := tb_of (List.mem_of_getElem? (i := 498) (by decide +kernel)) rfl
theorem tb_535 : (Cond.selects RX5 yX5_known yX5_known) ∈ TB := tb_of (List.mem_of_getElem? (i := 499) (by decide +kernel)) rfl
theorem tb_536 : (Cond.code yX6_known cX6_known 3 (some .long)) ∈ TB := tb_of (List.mem_of_getElem? (i := 792) (by decide +kernel)) rfl
theorem tb_537 : (Cond.methodLink RL 80 yX6_known) ∈ TB := tb_of (List.mem_of_getElem? (i := 789) (by decide +kernel)) rfl
theorem tb_538 : (Cond.instanceMethod yX6_known) ∈ TB := tb_of (List.mem_of_getElem? (i := 790) (by decide +kernel)) rfl
theorem tb_539 : (Cond.selects RX6 yX6_known yX6_known) ∈ TB := tb_of (List.mem_of_getElem? (i := 791) (by decide +kernel)) rfl
theorem tb_540 : (Cond.code yX5_peeled cX5_peeled 4 (some .int)) ∈ TB := tb_of (List.mem_of_getElem? (i := 504) (by decide +kernel)) rfl
theorem tb_541 : (Cond.methodLink RL 81 yX5_peeled) ∈ TB := tb_of (List.mem_of_getElem? (i := 501) (by decide +kernel)) rfl
theorem tb_542 : (Cond.instanceMethod yX5_peeled) ∈ TB := tb_of (List.mem_of_getElem? (i := 502) (by decide +kernel)) rfl
theorem tb_543 : (Cond.selects RX5 yX5_peeled yX5_peeled) ∈ TB := tb_of (List.mem_of_getElem? (i := 503) (by decide +kernel)) rfl
theorem tb_544 : (Cond.code yX6_peeled cX6_peeled 3 (some .int)) ∈ TB := tb_of (List.mem_of_getElem? (i := 796) (by decide +kernel)) rfl
theorem tb_545 : (Cond.methodLink RL 84 yX6_peeled) ∈ TB := tb_of (List.mem_of_getElem? (i := 793) (by decide +kernel)) rfl
theorem tb_546 : (Cond.instanceMethod yX6_peeled) ∈ TB := tb_of (List.mem_of_getElem? (i := 794) (by decide +kernel)) rfl
theorem tb_547 : (Cond.selects RX6 yX6_peeled yX6_peeled) ∈ TB := tb_of (List.mem_of_getElem? (i := 795) (by decide +kernel)) rfl
theorem tb_548 : (Cond.code yX5_image cX5_image 3 (some .int)) ∈ TB := tb_of (List.mem_of_getElem? (i := 513) (by decide +kernel)) rfl
theorem tb_549 : (Cond.methodLink RL 85 yX5_image) ∈ TB := tb_of (List.mem_of_getElem? (i := 510) (by decide +kernel)) rfl
theorem tb_550 : (Cond.instanceMethod yX5_image) ∈ TB := tb_of (List.mem_of_getElem? (i := 511) (by decide +kernel)) rfl
theorem tb_551 : (Cond.selects RX5 yX5_image yX5_image) ∈ TB := tb_of (List.mem_of_getElem? (i := 512) (by decide +kernel)) rfl
theorem tb_552 : (Cond.code yX6_image cX6_image 3 (some .int)) ∈ TB := tb_of (List.mem_of_getElem? (i := 800) (by decide +kernel)) rfl
theorem tb_553 : (Cond.methodLink RL 88 yX6_image) ∈ TB := tb_of (List.mem_of_getElem? (i := 797) (by decide +kernel)) rfl
theorem tb_554 : (Cond.instanceMethod yX6_image) ∈ TB := tb_of (List.mem_of_getElem? (i := 798) (by decide +kernel)) rfl
theorem tb_555 : (Cond.selects RX6 yX6_image yX6_image) ∈ TB := tb_of (List.mem_of_getElem? (i := 799) (by decide +kernel)) rfl
theorem tb_556 : (Cond.code yX5_resume cX5_resume 4 (some .int)) ∈ TB := tb_of (List.mem_of_getElem? (i := 536) (by decide +kernel)) rfl
theorem tb_557 : (Cond.methodLink RL 101 yX5_resume) ∈ TB := tb_of (List.mem_of_getElem? (i := 533) (by decide +kernel)) rfl
theorem tb_558 : (Cond.instanceMethod yX5_resume) ∈ TB := tb_of (List.mem_of_getElem? (i := 534) (by decide +kernel)) rfl
theorem tb_559 : (Cond.selects RX5 yX5_resume yX5_resume) ∈ TB := tb_of (List.mem_of_getElem? (i := 535) (by decide +kernel)) rfl
theorem tb_560 : (Cond.code yX6_resume cX6_resume 8 (some .int)) ∈ TB := tb_of (List.mem_of_getElem? (i := 820) (by decide +kernel)) rfl
theorem tb_561 : (Cond.methodLink RL 104 yX6_resume) ∈ TB := tb_of (List.mem_of_getElem? (i := 817) (by decide +kernel)) rfl
theorem tb_562 : (Cond.instanceMethod yX6_resume) ∈ TB := tb_of (List.mem_of_getElem? (i := 818) (by decide +kernel)) rfl
theorem tb_563 : (Cond.selects RX6 yX6_resume yX6_resume) ∈ TB := tb_of (List.mem_of_getElem? (i := 819) (by decide +kernel)) rfl
theorem tb_564 : (Cond.code yX5_frameByte cX5_frameByte 2 (some .int)) ∈ TB := tb_of (List.mem_of_getElem? (i := 393) (by decide +kernel)) rfl
theorem tb_565 : (Cond.methodLink RL 47 yX5_frameByte) ∈ TB := tb_of (List.mem_of_getElem? (i := 390) (by decide +kernel)) rfl
theorem tb_566 : (Cond.instanceMethod yX5_frameByte) ∈ TB := tb_of (List.mem_of_getElem? (i := 391) (by decide +kernel)) rfl
theorem tb_567 : (Cond.selects RX5 yX5_frameByte yX5_frameByte) ∈ TB := tb_of (List.mem_of_getElem? (i := 392) (by decide +kernel)) rfl
theorem tb_568 : (Cond.code yX6_frameByte cX6_frameByte 2 (some .int)) ∈ TB := tb_of (List.mem_of_getElem? (i := 720) (by decide +kernel)) rfl
theorem tb_569 : (Cond.methodLink RL 51 yX6_frameByte) ∈ TB := tb_of (List.mem_of_getElem? (i := 717) (by decide +kernel)) rfl
theorem tb_570 : (Cond.instanceMethod yX6_frameByte) ∈ TB := tb_of (List.mem_of_getElem? (i := 718) (by decide +kernel)) rfl
theorem tb_571 : (Cond.selects RX6 yX6_frameByte yX6_frameByte) ∈ TB := tb_of (List.mem_of_getElem? (i := 719) (by decide +kernel)) rfl
theorem tb_572 : (Cond.code yX5_poke cX5_poke 3 (some .int)) ∈ TB := tb_of (List.mem_of_getElem? (i := 399) (by decide +kernel)) rfl
theorem tb_573 : (Cond.methodLink RL 52 yX5_poke) ∈ TB := tb_of (List.mem_of_getElem? (i := 396) (by decide +kernel)) rfl
theorem tb_574 : (Cond.instanceMethod yX5_poke) ∈ TB := tb_of (List.mem_of_getElem? (i := 397) (by decide +kernel)) rfl
theorem tb_575 : (Cond.selects RX5 yX5_poke yX5_poke) ∈ TB := tb_of (List.mem_of_getElem? (i := 398) (by decide +kernel)) rfl
theorem tb_576 : (Cond.code yX6_poke cX6_poke 3 (some .int)) ∈ TB := tb_of (List.mem_of_getElem? (i := 724) (by decide +kernel)) rfl
theorem tb_577 : (Cond.methodLink RL 55 yX6_poke) ∈ TB := tb_of (List.mem_of_getElem? (i := 721) (by decide +kernel)) rfl
theorem tb_578 : (Cond.instanceMethod yX6_poke) ∈ TB := tb_of (List.mem_of_getElem? (i := 722) (by decide +kernel)) rfl
theorem tb_579 : (Cond.selects RX6 yX6_poke yX6_poke) ∈ TB := tb_of (List.mem_of_getElem? (i := 723) (by decide +kernel)) rfl
theorem tb_580 : (Cond.code yX5_sign cX5_sign 3 (some .int)) ∈ TB := tb_of (List.mem_of_getElem? (i := 404) (by decide +kernel)) rfl
theorem tb_581 : (Cond.methodLink RL 56 yX5_sign) ∈ TB := tb_of (List.mem_of_getElem? (i := 401) (by decide +kernel)) rfl
theorem tb_582 : (Cond.instanceMethod yX5_sign) ∈ TB := tb_of (List.mem_of_getElem? (i := 402) (by decide +kernel)) rfl
theorem tb_583 : (Cond.selects RX5 yX5_sign yX5_sign) ∈ TB := tb_of (List.mem_of_getElem? (i := 403) (by decide +kernel)) rfl
theorem tb_584 : (Cond.methodLink RL 60 yX6_sign) ∈ TB := tb_of (List.mem_of_getElem? (i := 725) (by decide +kernel)) rfl
theorem tb_585 : (Cond.code yX5_imageByte cX5_imageByte 2 (some .int)) ∈ TB := tb_of (List.mem_of_getElem? (i := 524) (by decide +kernel)) rfl
theorem tb_586 : (Cond.methodLink RL 89 yX5_imageByte) ∈ TB := tb_of (List.mem_of_getElem? (i := 521) (by decide +kernel)) rfl
theorem tb_587 : (Cond.instanceMethod yX5_imageByte) ∈ TB := tb_of (List.mem_of_getElem? (i := 522) (by decide +kernel)) rfl
theorem tb_588 : (Cond.selects RX5 yX5_imageByte yX5_imageByte) ∈ TB := tb_of (List.mem_of_getElem? (i := 523) (by decide +kernel)) rfl
theorem tb_589 : (Cond.code yX6_imageByte cX6_imageByte 2 (some .int)) ∈ TB := tb_of (List.mem_of_getElem? (i := 808) (by decide +kernel)) rfl
theorem tb_590 : (Cond.methodLink RL 92 yX6_imageByte) ∈ TB := tb_of (List.mem_of_getElem? (i := 805) (by decide +kernel)) rfl
theorem tb_591 : (Cond.instanceMethod yX6_imageByte) ∈ TB := tb_of (List.mem_of_getElem? (i := 806) (by decide +kernel)) rfl
theorem tb_592 : (Cond.selects RX6 yX6_imageByte yX6_imageByte) ∈ TB := tb_of (List.mem_of_getElem? (i := 807) (by decide +kernel)) rfl
theorem tb_593 : (Cond.code yX5_setByte cX5_setByte 4 (some .int)) ∈ TB := tb_of (List.mem_of_getElem? (i := 528) (by decide +kernel)) rfl
theorem tb_594 : (Cond.methodLink RL 93 yX5_setByte) ∈ TB := tb_of (List.mem_of_getElem? (i := 525) (by decide +kernel)) rfl
theorem tb_595 : (Cond.instanceMethod yX5_setByte) ∈ TB := tb_of (List.mem_of_getElem? (i := 526) (by decide +kernel)) rfl
theorem tb_596 : (Cond.selects RX5 yX5_setByte yX5_setByte) ∈ TB := tb_of (List.mem_of_getElem? (i := 527) (by decide +kernel)) rfl
theorem tb_597 : (Cond.code yX6_setByte cX6_setByte 4 (some .int)) ∈ TB := tb_of (List.mem_of_getElem? (i := 812) (by decide +kernel)) rfl
theorem tb_598 : (Cond.methodLink RL 96 yX6_setByte) ∈ TB := tb_of (List.mem_of_getElem? (i := 809) (by decide +kernel)) rfl
theorem tb_599 : (Cond.instanceMethod yX6_setByte) ∈ TB := tb_of (List.mem_of_getElem? (i := 810) (by decide +kernel)) rfl
theorem tb_600 : (Cond.selects RX6 yX6_setByte yX6_setByte) ∈ TB := tb_of (List.mem_of_getElem? (i := 811) (by decide +kernel)) rfl
theorem tb_601 : (Cond.code yX5_take cX5_take 2 (some .int)) ∈ TB := tb_of (List.mem_of_getElem? (i := 408) (by decide +kernel)) rfl
theorem tb_602 : (Cond.methodLink RL 61 yX5_take) ∈ TB := tb_of (List.mem_of_getElem? (i := 405) (by decide +kernel)) rfl
theorem tb_603 : (Cond.instanceMethod yX5_take) ∈ TB := tb_of (List.mem_of_getElem? (i := 406) (by decide +kernel)) rfl
theorem tb_604 : (Cond.selects RX5 yX5_take yX5_take) ∈ TB := tb_of (List.mem_of_getElem? (i := 407) (by decide +kernel)) rfl
theorem tb_605 : (Cond.code yX6_take cX6_take 7 (some .int)) ∈ TB := tb_of (List.mem_of_getElem? (i := 729) (by decide +kernel)) rfl
theorem tb_606 : (Cond.methodLink RL 64 yX6_take) ∈ TB := tb_of (List.mem_of_getElem? (i := 726) (by decide +kernel)) rfl
theorem tb_607 : (Cond.instanceMethod yX6_take) ∈ TB := tb_of (List.mem_of_getElem? (i := 727) (by decide +kernel)) rfl
theorem tb_608 : (Cond.selects RX6 yX6_take yX6_take) ∈ TB := tb_of (List.mem_of_getElem? (i := 728) (by decide +kernel)) rfl
theorem tb_609 : (Cond.code yX5_cut cX5_cut 3 (some .int)) ∈ TB := tb_of (List.mem_of_getElem? (i := 532) (by decide +kernel)) rfl
theorem tb_610 : (Cond.methodLink RL 97 yX5_cut) ∈ TB := tb_of (List.mem_of_getElem? (i := 529) (by decide +kernel)) rfl
theorem tb_611 : (Cond.instanceMethod yX5_cut) ∈ TB := tb_of (List.mem_of_getElem? (i := 530) (by decide +kernel)) rfl
theorem tb_612 : (Cond.selects RX5 yX5_cut yX5_cut) ∈ TB := tb_of (List.mem_of_getElem? (i := 531) (by decide +kernel)) rfl
theorem tb_613 : (Cond.code yX6_cut cX6_cut 3 (some .int)) ∈ TB := tb_of (List.mem_of_getElem? (i := 816) (by decide +kernel)) rfl
theorem tb_614 : (Cond.methodLink RL 100 yX6_cut) ∈ TB := tb_of (List.mem_of_getElem? (i := 813) (by decide +kernel)) rfl
theorem tb_615 : (Cond.instanceMethod yX6_cut) ∈ TB := tb_of (List.mem_of_getElem? (i := 814) (by decide +kernel)) rfl
theorem tb_616 : (Cond.selects RX6 yX6_cut yX6_cut) ∈ TB := tb_of (List.mem_of_getElem? (i := 815) (by decide +kernel)) rfl
theorem tb_617 : (Cond.code yX5_init cX5_init 1 none) ∈ TB := tb_of (List.mem_of_getElem? (i := 53) (by decide +kernel)) rfl
theorem tb_618 : (Cond.methodLink RL 9 yX5_init) ∈ TB := tb_of (List.mem_of_getElem? (i := 51) (by decide +kernel)) rfl
theorem tb_619 : (Cond.instanceMethod yX5_init) ∈ TB := tb_of (List.mem_of_getElem? (i := 52) (by decide +kernel)) rfl
theorem tb_620 : (Cond.code yX6_init cX6_init 1 none) ∈ TB := tb_of (List.mem_of_getElem? (i := 557) (by decide +kernel)) rfl
theorem tb_621 : (Cond.methodLink RL 12 yX6_init) ∈ TB := tb_of (List.mem_of_getElem? (i := 555) (by decide +kernel)) rfl
theorem tb_622 : (Cond.instanceMethod yX6_init) ∈ TB := tb_of (List.mem_of_getElem? (i := 556) (by decide +kernel)) rfl
theorem tb_623 : (Cond.instantiable RX5 7) ∈ TB := tb_of (List.mem_of_getElem? (i := 50) (by decide +kernel)) rfl
theorem tb_624 : (Cond.instantiable RX6 25) ∈ TB := tb_of (List.mem_of_getElem? (i := 554) (by decide +kernel)) rfl
theorem tb_625 : (Cond.classLink RL 7 RX5) ∈ TB := tb_of (List.mem_of_getElem? (i := 49) (by decide +kernel)) rfl
theorem tb_626 : (Cond.classLink RL 10 RX6) ∈ TB := tb_of (List.mem_of_getElem? (i := 553) (by decide +kernel)) rfl
