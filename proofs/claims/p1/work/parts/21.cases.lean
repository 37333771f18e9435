theorem wd_386 : Cond.constantLong RL 19 (4294967295) ∈ WALL := wl_in (by decide +kernel) (by decide +kernel)
theorem wd_387 : Cond.code yX10_feed cX10_feed 7 (some .int) ∈ WALL := wl_in (by decide +kernel) (by decide +kernel)
theorem wd_388 : Cond.methodLink RL 21 yX10_feed ∈ WALL := wl_in (by decide +kernel) (by decide +kernel)
theorem wd_389 : Cond.instanceMethod yX10_feed ∈ WALL := wl_in (by decide +kernel) (by decide +kernel)
theorem wd_390 : Cond.selects RX10 yX10_feed yX10_feed ∈ WALL := wl_in (by decide +kernel) (by decide +kernel)
theorem wd_391 : Cond.code yX11_feed cX11_feed 7 (some .int) ∈ WALL := wl_in (by decide +kernel) (by decide +kernel)
theorem wd_392 : Cond.methodLink RL 25 yX11_feed ∈ WALL := wl_in (by decide +kernel) (by decide +kernel)
theorem wd_393 : Cond.instanceMethod yX11_feed ∈ WALL := wl_in (by decide +kernel) (by decide +kernel)
theorem wd_394 : Cond.selects RX11 yX11_feed yX11_feed ∈ WALL := wl_in (by decide +kernel) (by decide +kernel)
theorem wd_395 : Cond.code yX10_cupboard cX10_cupboard 3 (some .int) ∈ WALL := wl_in (by decide +kernel) (by decide +kernel)
theorem wd_396 : Cond.methodLink RL 26 yX10_cupboard ∈ WALL := wl_in (by decide +kernel) (by decide +kernel)
theorem wd_397 : Cond.instanceMethod yX10_cupboard ∈ WALL := wl_in (by decide +kernel) (by decide +kernel)
theorem wd_398 : Cond.selects RX10 yX10_cupboard yX10_cupboard ∈ WALL := wl_in (by decide +kernel) (by decide +kernel)
theorem wd_399 : Cond.code yX11_cupboard cX11_cupboard 2 (some .int) ∈ WALL := wl_in (by decide +kernel) (by decide +kernel)
theorem wd_400 : Cond.methodLink RL 30 yX11_cupboard ∈ WALL := wl_in (by decide +kernel) (by decide +kernel)
theorem wd_401 : Cond.instanceMethod yX11_cupboard ∈ WALL := wl_in (by decide +kernel) (by decide +kernel)
theorem wd_402 : Cond.selects RX11 yX11_cupboard yX11_cupboard ∈ WALL := wl_in (by decide +kernel) (by decide +kernel)
theorem wd_403 : Cond.code yX10_ware cX10_ware 3 (some .int) ∈ WALL := wl_in (by decide +kernel) (by decide +kernel)
theorem wd_404 : Cond.methodLink RL 31 yX10_ware ∈ WALL := wl_in (by decide +kernel) (by decide +kernel)
theorem wd_405 : Cond.instanceMethod yX10_ware ∈ WALL := wl_in (by decide +kernel) (by decide +kernel)
theorem wd_406 : Cond.selects RX10 yX10_ware yX10_ware ∈ WALL := wl_in (by decide +kernel) (by decide +kernel)
theorem wd_407 : Cond.code yX11_ware cX11_ware 3 (some .int) ∈ WALL := wl_in (by decide +kernel) (by decide +kernel)
theorem wd_408 : Cond.methodLink RL 35 yX11_ware ∈ WALL := wl_in (by decide +kernel) (by decide +kernel)
theorem wd_409 : Cond.instanceMethod yX11_ware ∈ WALL := wl_in (by decide +kernel) (by decide +kernel)
theorem wd_410 : Cond.selects RX11 yX11_ware yX11_ware ∈ WALL := wl_in (by decide +kernel) (by decide +kernel)
theorem wd_411 : Cond.code yX10_shelf cX10_shelf 3 (some .int) ∈ WALL := wl_in (by decide +kernel) (by decide +kernel)
theorem wd_412 : Cond.methodLink RL 36 yX10_shelf ∈ WALL := wl_in (by decide +kernel) (by decide +kernel)
theorem wd_413 : Cond.instanceMethod yX10_shelf ∈ WALL := wl_in (by decide +kernel) (by decide +kernel)
theorem wd_414 : Cond.selects RX10 yX10_shelf yX10_shelf ∈ WALL := wl_in (by decide +kernel) (by decide +kernel)
theorem wd_415 : Cond.code yX11_shelf cX11_shelf 3 (some .int) ∈ WALL := wl_in (by decide +kernel) (by decide +kernel)
theorem wd_416 : Cond.methodLink RL 39 yX11_shelf ∈ WALL := wl_in (by decide +kernel) (by decide +kernel)
theorem wd_417 : Cond.instanceMethod yX11_shelf ∈ WALL := wl_in (by decide +kernel) (by decide +kernel)
theorem wd_418 : Cond.selects RX11 yX11_shelf yX11_shelf ∈ WALL := wl_in (by decide +kernel) (by decide +kernel)
theorem wd_419 : Cond.code yX10_may cX10_may 3 (some .int) ∈ WALL := wl_in (by decide +kernel) (by decide +kernel)
theorem wd_420 : Cond.methodLink RL 40 yX10_may ∈ WALL := wl_in (by decide +kernel) (by decide +kernel)
theorem wd_421 : Cond.instanceMethod yX10_may ∈ WALL := wl_in (by decide +kernel) (by decide +kernel)
theorem wd_422 : Cond.selects RX10 yX10_may yX10_may ∈ WALL := wl_in (by decide +kernel) (by decide +kernel)
theorem wd_423 : Cond.code yX11_may cX11_may 3 (some .int) ∈ WALL := wl_in (by decide +kernel) (by decide +kernel)
theorem wd_424 : Cond.methodLink RL 43 yX11_may ∈ WALL := wl_in (by decide +kernel) (by decide +kernel)
theorem wd_425 : Cond.instanceMethod yX11_may ∈ WALL := wl_in (by decide +kernel) (by decide +kernel)
theorem wd_426 : Cond.selects RX11 yX11_may yX11_may ∈ WALL := wl_in (by decide +kernel) (by decide +kernel)
theorem wd_427 : Cond.code yX10_put cX10_put 7 (some .int) ∈ WALL := wl_in (by decide +kernel) (by decide +kernel)
theorem wd_428 : Cond.methodLink RL 44 yX10_put ∈ WALL := wl_in (by decide +kernel) (by decide +kernel)
theorem wd_429 : Cond.instanceMethod yX10_put ∈ WALL := wl_in (by decide +kernel) (by decide +kernel)
theorem wd_430 : Cond.selects RX10 yX10_put yX10_put ∈ WALL := wl_in (by decide +kernel) (by decide +kernel)
theorem wd_431 : Cond.code yX11_put cX11_put 5 (some .int) ∈ WALL := wl_in (by decide +kernel) (by decide +kernel)
theorem wd_432 : Cond.methodLink RL 48 yX11_put ∈ WALL := wl_in (by decide +kernel) (by decide +kernel)
theorem wd_433 : Cond.instanceMethod yX11_put ∈ WALL := wl_in (by decide +kernel) (by decide +kernel)
theorem wd_434 : Cond.selects RX11 yX11_put yX11_put ∈ WALL := wl_in (by decide +kernel) (by decide +kernel)
theorem wd_435 : Cond.code yX10_draw cX10_draw 5 (some .int) ∈ WALL := wl_in (by decide +kernel) (by decide +kernel)
theorem wd_436 : Cond.methodLink RL 49 yX10_draw ∈ WALL := wl_in (by decide +kernel) (by decide +kernel)
theorem wd_437 : Cond.instanceMethod yX10_draw ∈ WALL := wl_in (by decide +kernel) (by decide +kernel)
theorem wd_438 : Cond.selects RX10 yX10_draw yX10_draw ∈ WALL := wl_in (by decide +kernel) (by decide +kernel)
theorem wd_439 : Cond.code yX11_draw cX11_draw 3 (some .int) ∈ WALL := wl_in (by decide +kernel) (by decide +kernel)
theorem wd_440 : Cond.methodLink RL 53 yX11_draw ∈ WALL := wl_in (by decide +kernel) (by decide +kernel)
theorem wd_441 : Cond.instanceMethod yX11_draw ∈ WALL := wl_in (by decide +kernel) (by decide +kernel)
theorem wd_442 : Cond.selects RX11 yX11_draw yX11_draw ∈ WALL := wl_in (by decide +kernel) (by decide +kernel)
theorem wd_443 : Cond.code yX10_carry cX10_carry 4 (some .int) ∈ WALL := wl_in (by decide +kernel) (by decide +kernel)
theorem wd_444 : Cond.methodLink RL 54 yX10_carry ∈ WALL := wl_in (by decide +kernel) (by decide +kernel)
theorem wd_445 : Cond.instanceMethod yX10_carry ∈ WALL := wl_in (by decide +kernel) (by decide +kernel)
theorem wd_446 : Cond.selects RX10 yX10_carry yX10_carry ∈ WALL := wl_in (by decide +kernel) (by decide +kernel)
theorem wd_447 : Cond.code yX11_carry cX11_carry 5 (some .int) ∈ WALL := wl_in (by decide +kernel) (by decide +kernel)
theorem wd_448 : Cond.methodLink RL 57 yX11_carry ∈ WALL := wl_in (by decide +kernel) (by decide +kernel)
theorem wd_449 : Cond.instanceMethod yX11_carry ∈ WALL := wl_in (by decide +kernel) (by decide +kernel)
theorem wd_450 : Cond.selects RX11 yX11_carry yX11_carry ∈ WALL := wl_in (by decide +kernel) (by decide +kernel)
theorem wd_451 : Cond.code yX10_where cX10_where 4 (some .int) ∈ WALL := wl_in (by decide +kernel) (by decide +kernel)
theorem wd_452 : Cond.methodLink RL 58 yX10_where ∈ WALL := wl_in (by decide +kernel) (by decide +kernel)
theorem wd_453 : Cond.instanceMethod yX10_where ∈ WALL := wl_in (by decide +kernel) (by decide +kernel)
theorem wd_454 : Cond.selects RX10 yX10_where yX10_where ∈ WALL := wl_in (by decide +kernel) (by decide +kernel)
theorem wd_455 : Cond.code yX11_where cX11_where 3 (some .int) ∈ WALL := wl_in (by decide +kernel) (by decide +kernel)
theorem wd_456 : Cond.methodLink RL 61 yX11_where ∈ WALL := wl_in (by decide +kernel) (by decide +kernel)
theorem wd_457 : Cond.instanceMethod yX11_where ∈ WALL := wl_in (by decide +kernel) (by decide +kernel)
theorem wd_458 : Cond.selects RX11 yX11_where yX11_where ∈ WALL := wl_in (by decide +kernel) (by decide +kernel)
theorem wd_459 : Cond.code yX10_at cX10_at 4 (some .int) ∈ WALL := wl_in (by decide +kernel) (by decide +kernel)
theorem wd_460 : Cond.methodLink RL 62 yX10_at ∈ WALL := wl_in (by decide +kernel) (by decide +kernel)
theorem wd_461 : Cond.instanceMethod yX10_at ∈ WALL := wl_in (by decide +kernel) (by decide +kernel)
theorem wd_462 : Cond.selects RX10 yX10_at yX10_at ∈ WALL := wl_in (by decide +kernel) (by decide +kernel)
theorem wd_463 : Cond.code yX11_at cX11_at 4 (some .int) ∈ WALL := wl_in (by decide +kernel) (by decide +kernel)
theorem wd_464 : Cond.methodLink RL 65 yX11_at ∈ WALL := wl_in (by decide +kernel) (by decide +kernel)
theorem wd_465 : Cond.instanceMethod yX11_at ∈ WALL := wl_in (by decide +kernel) (by decide +kernel)
theorem wd_466 : Cond.selects RX11 yX11_at yX11_at ∈ WALL := wl_in (by decide +kernel) (by decide +kernel)
theorem wd_467 : Cond.code yX10_stack cX10_stack 4 (some .int) ∈ WALL := wl_in (by decide +kernel) (by decide +kernel)
theorem wd_468 : Cond.methodLink RL 66 yX10_stack ∈ WALL := wl_in (by decide +kernel) (by decide +kernel)
theorem wd_469 : Cond.instanceMethod yX10_stack ∈ WALL := wl_in (by decide +kernel) (by decide +kernel)
theorem wd_470 : Cond.selects RX10 yX10_stack yX10_stack ∈ WALL := wl_in (by decide +kernel) (by decide +kernel)
theorem wd_471 : Cond.code yX11_stack cX11_stack 6 (some .int) ∈ WALL := wl_in (by decide +kernel) (by decide +kernel)
theorem wd_472 : Cond.methodLink RL 69 yX11_stack ∈ WALL := wl_in (by decide +kernel) (by decide +kernel)
theorem wd_473 : Cond.instanceMethod yX11_stack ∈ WALL := wl_in (by decide +kernel) (by decide +kernel)
theorem wd_474 : Cond.selects RX11 yX11_stack yX11_stack ∈ WALL := wl_in (by decide +kernel) (by decide +kernel)
theorem wd_475 : Cond.code yX10_lift cX10_lift 2 (some .int) ∈ WALL := wl_in (by decide +kernel) (by decide +kernel)
theorem wd_476 : Cond.methodLink RL 70 yX10_lift ∈ WALL := wl_in (by decide +kernel) (by decide +kernel)
theorem wd_477 : Cond.instanceMethod yX10_lift ∈ WALL := wl_in (by decide +kernel) (by decide +kernel)
theorem wd_478 : Cond.selects RX10 yX10_lift yX10_lift ∈ WALL := wl_in (by decide +kernel) (by decide +kernel)
theorem wd_479 : Cond.code yX11_lift cX11_lift 2 (some .int) ∈ WALL := wl_in (by decide +kernel) (by decide +kernel)
theorem wd_480 : Cond.methodLink RL 73 yX11_lift ∈ WALL := wl_in (by decide +kernel) (by decide +kernel)
theorem wd_481 : Cond.instanceMethod yX11_lift ∈ WALL := wl_in (by decide +kernel) (by decide +kernel)
theorem wd_482 : Cond.selects RX11 yX11_lift yX11_lift ∈ WALL := wl_in (by decide +kernel) (by decide +kernel)
theorem wd_483 : Cond.code yX10_cost cX10_cost 1 (some .int) ∈ WALL := wl_in (by decide +kernel) (by decide +kernel)
theorem wd_484 : Cond.methodLink RL 74 yX10_cost ∈ WALL := wl_in (by decide +kernel) (by decide +kernel)
theorem wd_485 : Cond.instanceMethod yX10_cost ∈ WALL := wl_in (by decide +kernel) (by decide +kernel)
theorem wd_486 : Cond.selects RX10 yX10_cost yX10_cost ∈ WALL := wl_in (by decide +kernel) (by decide +kernel)
theorem wd_487 : Cond.code yX11_cost cX11_cost 1 (some .int) ∈ WALL := wl_in (by decide +kernel) (by decide +kernel)
theorem wd_488 : Cond.methodLink RL 77 yX11_cost ∈ WALL := wl_in (by decide +kernel) (by decide +kernel)
theorem wd_489 : Cond.instanceMethod yX11_cost ∈ WALL := wl_in (by decide +kernel) (by decide +kernel)
theorem wd_490 : Cond.selects RX11 yX11_cost yX11_cost ∈ WALL := wl_in (by decide +kernel) (by decide +kernel)
theorem wd_491 : Cond.code yX10_through cX10_through 3 (some .int) ∈ WALL := wl_in (by decide +kernel) (by decide +kernel)
theorem wd_492 : Cond.methodLink RL 78 yX10_through ∈ WALL := wl_in (by decide +kernel) (by decide +kernel)
theorem wd_493 : Cond.instanceMethod yX10_through ∈ WALL := wl_in (by decide +kernel) (by decide +kernel)
theorem wd_494 : Cond.selects RX10 yX10_through yX10_through ∈ WALL := wl_in (by decide +kernel) (by decide +kernel)
theorem wd_495 : Cond.code yX11_through cX11_through 3 (some .int) ∈ WALL := wl_in (by decide +kernel) (by decide +kernel)
theorem wd_496 : Cond.methodLink RL 81 yX11_through ∈ WALL := wl_in (by decide +kernel) (by decide +kernel)
theorem wd_497 : Cond.instanceMethod yX11_through ∈ WALL := wl_in (by decide +kernel) (by decide +kernel)
theorem wd_498 : Cond.selects RX11 yX11_through yX11_through ∈ WALL := wl_in (by decide +kernel) (by decide +kernel)
theorem wd_499 : Cond.code yX10_rows cX10_rows 2 (some .int) ∈ WALL := wl_in (by decide +kernel) (by decide +kernel)
theorem wd_500 : Cond.methodLink RL 82 yX10_rows ∈ WALL := wl_in (by decide +kernel) (by decide +kernel)
theorem wd_501 : Cond.instanceMethod yX10_rows ∈ WALL := wl_in (by decide +kernel) (by decide +kernel)
theorem wd_502 : Cond.selects RX10 yX10_rows yX10_rows ∈ WALL := wl_in (by decide +kernel) (by decide +kernel)
theorem wd_503 : Cond.code yX11_rows cX11_rows 3 (some .int) ∈ WALL := wl_in (by decide +kernel) (by decide +kernel)
theorem wd_504 : Cond.methodLink RL 85 yX11_rows ∈ WALL := wl_in (by decide +kernel) (by decide +kernel)
theorem wd_505 : Cond.instanceMethod yX11_rows ∈ WALL := wl_in (by decide +kernel) (by decide +kernel)
theorem wd_506 : Cond.selects RX11 yX11_rows yX11_rows ∈ WALL := wl_in (by decide +kernel) (by decide +kernel)
theorem wd_507 : Cond.code yX10_rowOf cX10_rowOf 2 (some .int) ∈ WALL := wl_in (by decide +kernel) (by decide +kernel)
theorem wd_508 : Cond.methodLink RL 86 yX10_rowOf ∈ WALL := wl_in (by decide +kernel) (by decide +kernel)
theorem wd_509 : Cond.instanceMethod yX10_rowOf ∈ WALL := wl_in (by decide +kernel) (by decide +kernel)
theorem wd_510 : Cond.selects RX10 yX10_rowOf yX10_rowOf ∈ WALL := wl_in (by decide +kernel) (by decide +kernel)
theorem wd_511 : Cond.code yX11_rowOf cX11_rowOf 2 (some .int) ∈ WALL := wl_in (by decide +kernel) (by decide +kernel)
theorem wd_512 : Cond.methodLink RL 89 yX11_rowOf ∈ WALL := wl_in (by decide +kernel) (by decide +kernel)
theorem wd_513 : Cond.instanceMethod yX11_rowOf ∈ WALL := wl_in (by decide +kernel) (by decide +kernel)
theorem wd_514 : Cond.selects RX11 yX11_rowOf yX11_rowOf ∈ WALL := wl_in (by decide +kernel) (by decide +kernel)
theorem wd_515 : Cond.code yX10_needed cX10_needed 3 (some .int) ∈ WALL := wl_in (by decide +kernel) (by decide +kernel)
theorem wd_516 : Cond.methodLink RL 90 yX10_needed ∈ WALL := wl_in (by decide +kernel) (by decide +kernel)
theorem wd_517 : Cond.instanceMethod yX10_needed ∈ WALL := wl_in (by decide +kernel) (by decide +kernel)
theorem wd_518 : Cond.selects RX10 yX10_needed yX10_needed ∈ WALL := wl_in (by decide +kernel) (by decide +kernel)
theorem wd_519 : Cond.code yX11_needed cX11_needed 8 (some .int) ∈ WALL := wl_in (by decide +kernel) (by decide +kernel)
theorem wd_520 : Cond.methodLink RL 93 yX11_needed ∈ WALL := wl_in (by decide +kernel) (by decide +kernel)
theorem wd_521 : Cond.instanceMethod yX11_needed ∈ WALL := wl_in (by decide +kernel) (by decide +kernel)
theorem wd_522 : Cond.selects RX11 yX11_needed yX11_needed ∈ WALL := wl_in (by decide +kernel) (by decide +kernel)
theorem wd_523 : Cond.code yX10_sorted cX10_sorted 4 (some .int) ∈ WALL := wl_in (by decide +kernel) (by decide +kernel)
theorem wd_524 : Cond.methodLink RL 94 yX10_sorted ∈ WALL := wl_in (by decide +kernel) (by decide +kernel)
theorem wd_525 : Cond.instanceMethod yX10_sorted ∈ WALL := wl_in (by decide +kernel) (by decide +kernel)
theorem wd_526 : Cond.selects RX10 yX10_sorted yX10_sorted ∈ WALL := wl_in (by decide +kernel) (by decide +kernel)
theorem wd_527 : Cond.code yX11_sorted cX11_sorted 9 (some .int) ∈ WALL := wl_in (by decide +kernel) (by decide +kernel)
theorem wd_528 : Cond.methodLink RL 97 yX11_sorted ∈ WALL := wl_in (by decide +kernel) (by decide +kernel)
theorem wd_529 : Cond.instanceMethod yX11_sorted ∈ WALL := wl_in (by decide +kernel) (by decide +kernel)
theorem wd_530 : Cond.selects RX11 yX11_sorted yX11_sorted ∈ WALL := wl_in (by decide +kernel) (by decide +kernel)
theorem wd_531 : Cond.code yX10_goes cX10_goes 4 (some .int) ∈ WALL := wl_in (by decide +kernel) (by decide +kernel)
theorem wd_532 : Cond.methodLink RL 98 yX10_goes ∈ WALL := wl_in (by decide +kernel) (by decide +kernel)
theorem wd_533 : Cond.instanceMethod yX10_goes ∈ WALL := wl_in (by decide +kernel) (by decide +kernel)
theorem wd_534 : Cond.selects RX10 yX10_goes yX10_goes ∈ WALL := wl_in (by decide +kernel) (by decide +kernel)
theorem wd_535 : Cond.code yX11_goes cX11_goes 3 (some .int) ∈ WALL := wl_in (by decide +kernel) (by decide +kernel)
theorem wd_536 : Cond.methodLink RL 101 yX11_goes ∈ WALL := wl_in (by decide +kernel) (by decide +kernel)
theorem wd_537 : Cond.instanceMethod yX11_goes ∈ WALL := wl_in (by decide +kernel) (by decide +kernel)
theorem wd_538 : Cond.selects RX11 yX11_goes yX11_goes ∈ WALL := wl_in (by decide +kernel) (by decide +kernel)
theorem wd_539 : Cond.code yX10_ask cX10_ask 2 (some .int) ∈ WALL := wl_in (by decide +kernel) (by decide +kernel)
theorem wd_540 : Cond.methodLink RL 102 yX10_ask ∈ WALL := wl_in (by decide +kernel) (by decide +kernel)
theorem wd_541 : Cond.instanceMethod yX10_ask ∈ WALL := wl_in (by decide +kernel) (by decide +kernel)
theorem wd_542 : Cond.selects RX10 yX10_ask yX10_ask ∈ WALL := wl_in (by decide +kernel) (by decide +kernel)
theorem wd_543 : Cond.code yX11_ask cX11_ask 2 (some .int) ∈ WALL := wl_in (by decide +kernel) (by decide +kernel)
theorem wd_544 : Cond.methodLink RL 105 yX11_ask ∈ WALL := wl_in (by decide +kernel) (by decide +kernel)
theorem wd_545 : Cond.instanceMethod yX11_ask ∈ WALL := wl_in (by decide +kernel) (by decide +kernel)
theorem wd_546 : Cond.selects RX11 yX11_ask yX11_ask ∈ WALL := wl_in (by decide +kernel) (by decide +kernel)
theorem wd_547 : Cond.code yX10_clear cX10_clear 1 (some .boolean) ∈ WALL := wl_in (by decide +kernel) (by decide +kernel)
theorem wd_548 : Cond.methodLink RL 106 yX10_clear ∈ WALL := wl_in (by decide +kernel) (by decide +kernel)
theorem wd_549 : Cond.instanceMethod yX10_clear ∈ WALL := wl_in (by decide +kernel) (by decide +kernel)
theorem wd_550 : Cond.selects RX10 yX10_clear yX10_clear ∈ WALL := wl_in (by decide +kernel) (by decide +kernel)
theorem wd_551 : Cond.code yX11_clear cX11_clear 1 (some .boolean) ∈ WALL := wl_in (by decide +kernel) (by decide +kernel)
theorem wd_552 : Cond.methodLink RL 110 yX11_clear ∈ WALL := wl_in (by decide +kernel) (by decide +kernel)
theorem wd_553 : Cond.instanceMethod yX11_clear ∈ WALL := wl_in (by decide +kernel) (by decide +kernel)
theorem wd_554 : Cond.selects RX11 yX11_clear yX11_clear ∈ WALL := wl_in (by decide +kernel) (by decide +kernel)
theorem wd_555 : Cond.code yX10_asked cX10_asked 4 (some .int) ∈ WALL := wl_in (by decide +kernel) (by decide +kernel)
theorem wd_556 : Cond.methodLink RL 111 yX10_asked ∈ WALL := wl_in (by decide +kernel) (by decide +kernel)
theorem wd_557 : Cond.instanceMethod yX10_asked ∈ WALL := wl_in (by decide +kernel) (by decide +kernel)
theorem wd_558 : Cond.selects RX10 yX10_asked yX10_asked ∈ WALL := wl_in (by decide +kernel) (by decide +kernel)
theorem wd_559 : Cond.code yX11_asked cX11_asked 3 (some .int) ∈ WALL := wl_in (by decide +kernel) (by decide +kernel)
theorem wd_560 : Cond.methodLink RL 114 yX11_asked ∈ WALL := wl_in (by decide +kernel) (by decide +kernel)
theorem wd_561 : Cond.instanceMethod yX11_asked ∈ WALL := wl_in (by decide +kernel) (by decide +kernel)
theorem wd_562 : Cond.selects RX11 yX11_asked yX11_asked ∈ WALL := wl_in (by decide +kernel) (by decide +kernel)
theorem wd_563 : Cond.code yX10_best cX10_best 4 (some .int) ∈ WALL := wl_in (by decide +kernel) (by decide +kernel)
theorem wd_564 : Cond.methodLink RL 115 yX10_best ∈ WALL := wl_in (by decide +kernel) (by decide +kernel)
theorem wd_565 : Cond.instanceMethod yX10_best ∈ WALL := wl_in (by decide +kernel) (by decide +kernel)
theorem wd_566 : Cond.selects RX10 yX10_best yX10_best ∈ WALL := wl_in (by decide +kernel) (by decide +kernel)
theorem wd_567 : Cond.code yX11_best cX11_best 5 (some .int) ∈ WALL := wl_in (by decide +kernel) (by decide +kernel)
theorem wd_568 : Cond.methodLink RL 118 yX11_best ∈ WALL := wl_in (by decide +kernel) (by decide +kernel)
theorem wd_569 : Cond.instanceMethod yX11_best ∈ WALL := wl_in (by decide +kernel) (by decide +kernel)
theorem wd_570 : Cond.selects RX11 yX11_best yX11_best ∈ WALL := wl_in (by decide +kernel) (by decide +kernel)
theorem wd_571 : Cond.code yX10_onTop cX10_onTop 4 (some .int) ∈ WALL := wl_in (by decide +kernel) (by decide +kernel)
theorem wd_572 : Cond.methodLink RL 119 yX10_onTop ∈ WALL := wl_in (by decide +kernel) (by decide +kernel)
theorem wd_573 : Cond.instanceMethod yX10_onTop ∈ WALL := wl_in (by decide +kernel) (by decide +kernel)
theorem wd_574 : Cond.selects RX10 yX10_onTop yX10_onTop ∈ WALL := wl_in (by decide +kernel) (by decide +kernel)
theorem wd_575 : Cond.code yX11_onTop cX11_onTop 4 (some .int) ∈ WALL := wl_in (by decide +kernel) (by decide +kernel)
theorem wd_576 : Cond.methodLink RL 122 yX11_onTop ∈ WALL := wl_in (by decide +kernel) (by decide +kernel)
theorem wd_577 : Cond.instanceMethod yX11_onTop ∈ WALL := wl_in (by decide +kernel) (by decide +kernel)
theorem wd_578 : Cond.selects RX11 yX11_onTop yX11_onTop ∈ WALL := wl_in (by decide +kernel) (by decide +kernel)
theorem wd_579 : Cond.code yX10_habit cX10_habit 5 (some .int) ∈ WALL := wl_in (by decide +kernel) (by decide +kernel)
theorem wd_580 : Cond.methodLink RL 123 yX10_habit ∈ WALL := wl_in (by decide +kernel) (by decide +kernel)
theorem wd_581 : Cond.instanceMethod yX10_habit ∈ WALL := wl_in (by decide +kernel) (by decide +kernel)
theorem wd_582 : Cond.selects RX10 yX10_habit yX10_habit ∈ WALL := wl_in (by decide +kernel) (by decide +kernel)
theorem wd_583 : Cond.code yX11_habit cX11_habit 7 (some .int) ∈ WALL := wl_in (by decide +kernel) (by decide +kernel)
theorem wd_584 : Cond.methodLink RL 126 yX11_habit ∈ WALL := wl_in (by decide +kernel) (by decide +kernel)
theorem wd_585 : Cond.instanceMethod yX11_habit ∈ WALL := wl_in (by decide +kernel) (by decide +kernel)
theorem wd_586 : Cond.selects RX11 yX11_habit yX11_habit ∈ WALL := wl_in (by decide +kernel) (by decide +kernel)
theorem wd_587 : Cond.code yX10_mark cX10_mark 3 (some .boolean) ∈ WALL := wl_in (by decide +kernel) (by decide +kernel)
theorem wd_588 : Cond.methodLink RL 136 yX10_mark ∈ WALL := wl_in (by decide +kernel) (by decide +kernel)
theorem wd_589 : Cond.instanceMethod yX10_mark ∈ WALL := wl_in (by decide +kernel) (by decide +kernel)
theorem wd_590 : Cond.selects RX10 yX10_mark yX10_mark ∈ WALL := wl_in (by decide +kernel) (by decide +kernel)
theorem wd_591 : Cond.code yX11_mark cX11_mark 3 (some .boolean) ∈ WALL := wl_in (by decide +kernel) (by decide +kernel)
theorem wd_592 : Cond.methodLink RL 140 yX11_mark ∈ WALL := wl_in (by decide +kernel) (by decide +kernel)
theorem wd_593 : Cond.instanceMethod yX11_mark ∈ WALL := wl_in (by decide +kernel) (by decide +kernel)
theorem wd_594 : Cond.selects RX11 yX11_mark yX11_mark ∈ WALL := wl_in (by decide +kernel) (by decide +kernel)
theorem wd_595 : Cond.code yX10_count cX10_count 2 (some .int) ∈ WALL := wl_in (by decide +kernel) (by decide +kernel)
theorem wd_596 : Cond.methodLink RL 141 yX10_count ∈ WALL := wl_in (by decide +kernel) (by decide +kernel)
theorem wd_597 : Cond.instanceMethod yX10_count ∈ WALL := wl_in (by decide +kernel) (by decide +kernel)
theorem wd_598 : Cond.selects RX10 yX10_count yX10_count ∈ WALL := wl_in (by decide +kernel) (by decide +kernel)
theorem wd_599 : Cond.code yX11_count cX11_count 4 (some .int) ∈ WALL := wl_in (by decide +kernel) (by decide +kernel)
theorem wd_600 : Cond.methodLink RL 144 yX11_count ∈ WALL := wl_in (by decide +kernel) (by decide +kernel)
theorem wd_601 : Cond.instanceMethod yX11_count ∈ WALL := wl_in (by decide +kernel) (by decide +kernel)
theorem wd_602 : Cond.selects RX11 yX11_count yX11_count ∈ WALL := wl_in (by decide +kernel) (by decide +kernel)
theorem dL_law_168 : decode cL_law 168 = .ok (.aload_n 1, 1) := by decide +kernel
theorem dL_law_169 : decode cL_law 169 = .ok (.aload_n 0, 1) := by decide +kernel
theorem dL_law_170 : decode cL_law 170 = .ok (.iload 4, 2) := by decide +kernel
theorem dL_law_172 : decode cL_law 172 = .ok (.iconst 1, 1) := by decide +kernel
theorem dL_law_173 : decode cL_law 173 = .ok (.iadd, 1) := by decide +kernel
theorem dL_law_174 : decode cL_law 174 = .ok (.iaload, 1) := by decide +kernel
theorem dL_law_175 : decode cL_law 175 = .ok (.i2l, 1) := by decide +kernel
theorem dL_law_176 : decode cL_law 176 = .ok (.bipush 32, 2) := by decide +kernel
theorem dL_law_178 : decode cL_law 178 = .ok (.lshl, 1) := by decide +kernel
theorem dL_law_179 : decode cL_law 179 = .ok (.aload_n 0, 1) := by decide +kernel
theorem dL_law_180 : decode cL_law 180 = .ok (.iload 4, 2) := by decide +kernel
theorem dL_law_182 : decode cL_law 182 = .ok (.iconst 2, 1) := by decide +kernel
theorem dL_law_183 : decode cL_law 183 = .ok (.iadd, 1) := by decide +kernel
theorem dL_law_184 : decode cL_law 184 = .ok (.iaload, 1) := by decide +kernel
theorem dL_law_185 : decode cL_law 185 = .ok (.i2l, 1) := by decide +kernel
theorem dL_law_186 : decode cL_law 186 = .ok (.ldc2_w 19, 3) := by decide +kernel
theorem dL_law_189 : decode cL_law 189 = .ok (.land, 1) := by decide +kernel
theorem dL_law_190 : decode cL_law 190 = .ok (.lor, 1) := by decide +kernel
theorem dL_law_191 : decode cL_law 191 = .ok (.aload_n 0, 1) := by decide +kernel
theorem dL_law_192 : decode cL_law 192 = .ok (.iload 4, 2) := by decide +kernel
theorem dL_law_194 : decode cL_law 194 = .ok (.iconst 3, 1) := by decide +kernel
theorem dL_law_195 : decode cL_law 195 = .ok (.iadd, 1) := by decide +kernel
theorem dL_law_196 : decode cL_law 196 = .ok (.iaload, 1) := by decide +kernel
theorem dL_law_197 : decode cL_law 197 = .ok (.i2l, 1) := by decide +kernel
theorem dL_law_198 : decode cL_law 198 = .ok (.bipush 32, 2) := by decide +kernel
theorem dL_law_200 : decode cL_law 200 = .ok (.lshl, 1) := by decide +kernel
theorem dL_law_201 : decode cL_law 201 = .ok (.aload_n 0, 1) := by decide +kernel
theorem dL_law_202 : decode cL_law 202 = .ok (.iload 4, 2) := by decide +kernel
theorem dL_law_204 : decode cL_law 204 = .ok (.iconst 4, 1) := by decide +kernel
theorem dL_law_205 : decode cL_law 205 = .ok (.iadd, 1) := by decide +kernel
theorem dL_law_206 : decode cL_law 206 = .ok (.iaload, 1) := by decide +kernel
theorem dL_law_207 : decode cL_law 207 = .ok (.i2l, 1) := by decide +kernel
theorem dL_law_208 : decode cL_law 208 = .ok (.ldc2_w 19, 3) := by decide +kernel
theorem dL_law_211 : decode cL_law 211 = .ok (.land, 1) := by decide +kernel
theorem dL_law_212 : decode cL_law 212 = .ok (.lor, 1) := by decide +kernel
theorem dL_law_213 : decode cL_law 213 = .ok (.aload_n 0, 1) := by decide +kernel
theorem dL_law_214 : decode cL_law 214 = .ok (.iload 4, 2) := by decide +kernel
theorem dL_law_216 : decode cL_law 216 = .ok (.iconst 5, 1) := by decide +kernel
theorem dL_law_217 : decode cL_law 217 = .ok (.iadd, 1) := by decide +kernel
theorem dL_law_218 : decode cL_law 218 = .ok (.iaload, 1) := by decide +kernel
theorem dL_law_219 : decode cL_law 219 = .ok (.i2l, 1) := by decide +kernel
theorem dL_law_220 : decode cL_law 220 = .ok (.bipush 32, 2) := by decide +kernel
theorem dL_law_222 : decode cL_law 222 = .ok (.lshl, 1) := by decide +kernel
theorem dL_law_223 : decode cL_law 223 = .ok (.aload_n 0, 1) := by decide +kernel
theorem dL_law_224 : decode cL_law 224 = .ok (.iload 4, 2) := by decide +kernel
theorem dL_law_226 : decode cL_law 226 = .ok (.bipush 6, 2) := by decide +kernel
theorem dL_law_228 : decode cL_law 228 = .ok (.iadd, 1) := by decide +kernel
theorem dL_law_229 : decode cL_law 229 = .ok (.iaload, 1) := by decide +kernel
theorem dL_law_230 : decode cL_law 230 = .ok (.i2l, 1) := by decide +kernel
theorem dL_law_231 : decode cL_law 231 = .ok (.ldc2_w 19, 3) := by decide +kernel
theorem dL_law_234 : decode cL_law 234 = .ok (.land, 1) := by decide +kernel
theorem dL_law_235 : decode cL_law 235 = .ok (.lor, 1) := by decide +kernel
theorem dL_law_236 : decode cL_law 236 = .ok (.invokevirtual 21, 3) := by decide +kernel
theorem dL_law_239 : decode cL_law 239 = .ok (.aload_n 2, 1) := by decide +kernel
theorem dL_law_240 : decode cL_law 240 = .ok (.aload_n 0, 1) := by decide +kernel
theorem dL_law_241 : decode cL_law 241 = .ok (.iload 4, 2) := by decide +kernel
theorem dL_law_243 : decode cL_law 243 = .ok (.iconst 1, 1) := by decide +kernel
theorem dL_law_244 : decode cL_law 244 = .ok (.iadd, 1) := by decide +kernel
theorem dL_law_245 : decode cL_law 245 = .ok (.iaload, 1) := by decide +kernel
theorem dL_law_246 : decode cL_law 246 = .ok (.i2l, 1) := by decide +kernel
theorem dL_law_247 : decode cL_law 247 = .ok (.bipush 32, 2) := by decide +kernel
theorem dL_law_249 : decode cL_law 249 = .ok (.lshl, 1) := by decide +kernel
theorem dL_law_250 : decode cL_law 250 = .ok (.aload_n 0, 1) := by decide +kernel
theorem dL_law_251 : decode cL_law 251 = .ok (.iload 4, 2) := by decide +kernel
theorem dL_law_253 : decode cL_law 253 = .ok (.iconst 2, 1) := by decide +kernel
theorem dL_law_254 : decode cL_law 254 = .ok (.iadd, 1) := by decide +kernel
theorem dL_law_255 : decode cL_law 255 = .ok (.iaload, 1) := by decide +kernel
theorem dL_law_256 : decode cL_law 256 = .ok (.i2l, 1) := by decide +kernel
theorem dL_law_257 : decode cL_law 257 = .ok (.ldc2_w 19, 3) := by decide +kernel
theorem dL_law_260 : decode cL_law 260 = .ok (.land, 1) := by decide +kernel
theorem dL_law_261 : decode cL_law 261 = .ok (.lor, 1) := by decide +kernel
theorem dL_law_262 : decode cL_law 262 = .ok (.aload_n 0, 1) := by decide +kernel
theorem dL_law_263 : decode cL_law 263 = .ok (.iload 4, 2) := by decide +kernel
theorem dL_law_265 : decode cL_law 265 = .ok (.iconst 3, 1) := by decide +kernel
theorem dL_law_266 : decode cL_law 266 = .ok (.iadd, 1) := by decide +kernel
theorem dL_law_267 : decode cL_law 267 = .ok (.iaload, 1) := by decide +kernel
theorem dL_law_268 : decode cL_law 268 = .ok (.i2l, 1) := by decide +kernel
theorem dL_law_269 : decode cL_law 269 = .ok (.bipush 32, 2) := by decide +kernel
theorem dL_law_271 : decode cL_law 271 = .ok (.lshl, 1) := by decide +kernel
theorem dL_law_272 : decode cL_law 272 = .ok (.aload_n 0, 1) := by decide +kernel
theorem dL_law_273 : decode cL_law 273 = .ok (.iload 4, 2) := by decide +kernel
theorem dL_law_275 : decode cL_law 275 = .ok (.iconst 4, 1) := by decide +kernel
theorem dL_law_276 : decode cL_law 276 = .ok (.iadd, 1) := by decide +kernel
theorem dL_law_277 : decode cL_law 277 = .ok (.iaload, 1) := by decide +kernel
theorem dL_law_278 : decode cL_law 278 = .ok (.i2l, 1) := by decide +kernel
theorem dL_law_279 : decode cL_law 279 = .ok (.ldc2_w 19, 3) := by decide +kernel
theorem dL_law_282 : decode cL_law 282 = .ok (.land, 1) := by decide +kernel
theorem dL_law_283 : decode cL_law 283 = .ok (.lor, 1) := by decide +kernel
theorem dL_law_284 : decode cL_law 284 = .ok (.aload_n 0, 1) := by decide +kernel
theorem dL_law_285 : decode cL_law 285 = .ok (.iload 4, 2) := by decide +kernel
theorem dL_law_287 : decode cL_law 287 = .ok (.iconst 5, 1) := by decide +kernel
theorem dL_law_288 : decode cL_law 288 = .ok (.iadd, 1) := by decide +kernel
theorem dL_law_289 : decode cL_law 289 = .ok (.iaload, 1) := by decide +kernel
theorem dL_law_290 : decode cL_law 290 = .ok (.i2l, 1) := by decide +kernel
theorem dL_law_291 : decode cL_law 291 = .ok (.bipush 32, 2) := by decide +kernel
theorem dL_law_293 : decode cL_law 293 = .ok (.lshl, 1) := by decide +kernel
theorem dL_law_294 : decode cL_law 294 = .ok (.aload_n 0, 1) := by decide +kernel
theorem dL_law_295 : decode cL_law 295 = .ok (.iload 4, 2) := by decide +kernel
theorem dL_law_297 : decode cL_law 297 = .ok (.bipush 6, 2) := by decide +kernel
theorem dL_law_299 : decode cL_law 299 = .ok (.iadd, 1) := by decide +kernel
theorem dL_law_300 : decode cL_law 300 = .ok (.iaload, 1) := by decide +kernel
theorem dL_law_301 : decode cL_law 301 = .ok (.i2l, 1) := by decide +kernel
theorem dL_law_302 : decode cL_law 302 = .ok (.ldc2_w 19, 3) := by decide +kernel
theorem dL_law_305 : decode cL_law 305 = .ok (.land, 1) := by decide +kernel
theorem dL_law_306 : decode cL_law 306 = .ok (.lor, 1) := by decide +kernel
theorem dL_law_307 : decode cL_law 307 = .ok (.invokevirtual 25, 3) := by decide +kernel
theorem dL_law_310 : decode cL_law 310 = .ok (.if_icmp .eq 906, 3) := by decide +kernel
theorem dL_law_315 : decode cL_law 315 = .ok (.aload_n 1, 1) := by decide +kernel
theorem dL_law_316 : decode cL_law 316 = .ok (.invokevirtual 26, 3) := by decide +kernel
theorem dL_law_319 : decode cL_law 319 = .ok (.aload_n 2, 1) := by decide +kernel
theorem dL_law_320 : decode cL_law 320 = .ok (.invokevirtual 30, 3) := by decide +kernel
theorem dL_law_323 : decode cL_law 323 = .ok (.if_icmp .eq 893, 3) := by decide +kernel
theorem dL_law_328 : decode cL_law 328 = .ok (.aload_n 1, 1) := by decide +kernel
theorem dL_law_329 : decode cL_law 329 = .ok (.aload_n 0, 1) := by decide +kernel
theorem dL_law_330 : decode cL_law 330 = .ok (.iload 4, 2) := by decide +kernel
theorem dL_law_332 : decode cL_law 332 = .ok (.iconst 1, 1) := by decide +kernel
theorem dL_law_333 : decode cL_law 333 = .ok (.iadd, 1) := by decide +kernel
theorem dL_law_334 : decode cL_law 334 = .ok (.iaload, 1) := by decide +kernel
theorem dL_law_335 : decode cL_law 335 = .ok (.aload_n 0, 1) := by decide +kernel
theorem dL_law_336 : decode cL_law 336 = .ok (.iload 4, 2) := by decide +kernel
theorem dL_law_338 : decode cL_law 338 = .ok (.iconst 2, 1) := by decide +kernel
theorem dL_law_339 : decode cL_law 339 = .ok (.iadd, 1) := by decide +kernel
theorem dL_law_340 : decode cL_law 340 = .ok (.iaload, 1) := by decide +kernel
theorem dL_law_341 : decode cL_law 341 = .ok (.invokevirtual 31, 3) := by decide +kernel
theorem dL_law_344 : decode cL_law 344 = .ok (.aload_n 2, 1) := by decide +kernel
theorem dL_law_345 : decode cL_law 345 = .ok (.aload_n 0, 1) := by decide +kernel
theorem dL_law_346 : decode cL_law 346 = .ok (.iload 4, 2) := by decide +kernel
theorem dL_law_348 : decode cL_law 348 = .ok (.iconst 1, 1) := by decide +kernel
theorem dL_law_349 : decode cL_law 349 = .ok (.iadd, 1) := by decide +kernel
theorem dL_law_350 : decode cL_law 350 = .ok (.iaload, 1) := by decide +kernel
theorem dL_law_351 : decode cL_law 351 = .ok (.aload_n 0, 1) := by decide +kernel
theorem dL_law_352 : decode cL_law 352 = .ok (.iload 4, 2) := by decide +kernel
theorem dL_law_354 : decode cL_law 354 = .ok (.iconst 2, 1) := by decide +kernel
theorem dL_law_355 : decode cL_law 355 = .ok (.iadd, 1) := by decide +kernel
theorem dL_law_356 : decode cL_law 356 = .ok (.iaload, 1) := by decide +kernel
theorem dL_law_357 : decode cL_law 357 = .ok (.invokevirtual 35, 3) := by decide +kernel
theorem dL_law_360 : decode cL_law 360 = .ok (.if_icmp .eq 856, 3) := by decide +kernel
theorem dL_law_365 : decode cL_law 365 = .ok (.aload_n 1, 1) := by decide +kernel
theorem dL_law_366 : decode cL_law 366 = .ok (.aload_n 0, 1) := by decide +kernel
theorem dL_law_367 : decode cL_law 367 = .ok (.iload 4, 2) := by decide +kernel
theorem dL_law_369 : decode cL_law 369 = .ok (.iconst 1, 1) := by decide +kernel
theorem dL_law_370 : decode cL_law 370 = .ok (.iadd, 1) := by decide +kernel
theorem dL_law_371 : decode cL_law 371 = .ok (.iaload, 1) := by decide +kernel
theorem dL_law_372 : decode cL_law 372 = .ok (.aload_n 0, 1) := by decide +kernel
theorem dL_law_373 : decode cL_law 373 = .ok (.iload 4, 2) := by decide +kernel
theorem dL_law_375 : decode cL_law 375 = .ok (.iconst 2, 1) := by decide +kernel
theorem dL_law_376 : decode cL_law 376 = .ok (.iadd, 1) := by decide +kernel
theorem dL_law_377 : decode cL_law 377 = .ok (.iaload, 1) := by decide +kernel
theorem dL_law_378 : decode cL_law 378 = .ok (.invokevirtual 36, 3) := by decide +kernel
theorem dL_law_381 : decode cL_law 381 = .ok (.aload_n 2, 1) := by decide +kernel
theorem dL_law_382 : decode cL_law 382 = .ok (.aload_n 0, 1) := by decide +kernel
theorem dL_law_383 : decode cL_law 383 = .ok (.iload 4, 2) := by decide +kernel
theorem dL_law_385 : decode cL_law 385 = .ok (.iconst 1, 1) := by decide +kernel
theorem dL_law_386 : decode cL_law 386 = .ok (.iadd, 1) := by decide +kernel
theorem dL_law_387 : decode cL_law 387 = .ok (.iaload, 1) := by decide +kernel
theorem dL_law_388 : decode cL_law 388 = .ok (.aload_n 0, 1) := by decide +kernel
theorem dL_law_389 : decode cL_law 389 = .ok (.iload 4, 2) := by decide +kernel
theorem dL_law_391 : decode cL_law 391 = .ok (.iconst 2, 1) := by decide +kernel
theorem dL_law_392 : decode cL_law 392 = .ok (.iadd, 1) := by decide +kernel
theorem dL_law_393 : decode cL_law 393 = .ok (.iaload, 1) := by decide +kernel
theorem dL_law_394 : decode cL_law 394 = .ok (.invokevirtual 39, 3) := by decide +kernel
theorem dL_law_397 : decode cL_law 397 = .ok (.if_icmp .eq 819, 3) := by decide +kernel
theorem dL_law_402 : decode cL_law 402 = .ok (.aload_n 1, 1) := by decide +kernel
theorem dL_law_403 : decode cL_law 403 = .ok (.aload_n 0, 1) := by decide +kernel
theorem dL_law_404 : decode cL_law 404 = .ok (.iload 4, 2) := by decide +kernel
theorem dL_law_406 : decode cL_law 406 = .ok (.iconst 1, 1) := by decide +kernel
theorem dL_law_407 : decode cL_law 407 = .ok (.iadd, 1) := by decide +kernel
theorem dL_law_408 : decode cL_law 408 = .ok (.iaload, 1) := by decide +kernel
theorem dL_law_409 : decode cL_law 409 = .ok (.aload_n 0, 1) := by decide +kernel
theorem dL_law_410 : decode cL_law 410 = .ok (.iload 4, 2) := by decide +kernel
theorem dL_law_412 : decode cL_law 412 = .ok (.iconst 2, 1) := by decide +kernel
theorem dL_law_413 : decode cL_law 413 = .ok (.iadd, 1) := by decide +kernel
theorem dL_law_414 : decode cL_law 414 = .ok (.iaload, 1) := by decide +kernel
theorem dL_law_415 : decode cL_law 415 = .ok (.invokevirtual 40, 3) := by decide +kernel
theorem dL_law_418 : decode cL_law 418 = .ok (.aload_n 2, 1) := by decide +kernel
theorem dL_law_419 : decode cL_law 419 = .ok (.aload_n 0, 1) := by decide +kernel
theorem dL_law_420 : decode cL_law 420 = .ok (.iload 4, 2) := by decide +kernel
theorem dL_law_422 : decode cL_law 422 = .ok (.iconst 1, 1) := by decide +kernel
theorem dL_law_423 : decode cL_law 423 = .ok (.iadd, 1) := by decide +kernel
theorem dL_law_424 : decode cL_law 424 = .ok (.iaload, 1) := by decide +kernel
theorem dL_law_425 : decode cL_law 425 = .ok (.aload_n 0, 1) := by decide +kernel
theorem dL_law_426 : decode cL_law 426 = .ok (.iload 4, 2) := by decide +kernel
theorem dL_law_428 : decode cL_law 428 = .ok (.iconst 2, 1) := by decide +kernel
theorem dL_law_429 : decode cL_law 429 = .ok (.iadd, 1) := by decide +kernel
theorem dL_law_430 : decode cL_law 430 = .ok (.iaload, 1) := by decide +kernel
theorem dL_law_431 : decode cL_law 431 = .ok (.invokevirtual 43, 3) := by decide +kernel
theorem dL_law_434 : decode cL_law 434 = .ok (.if_icmp .eq 782, 3) := by decide +kernel
theorem dL_law_439 : decode cL_law 439 = .ok (.aload_n 1, 1) := by decide +kernel
theorem dL_law_440 : decode cL_law 440 = .ok (.aload_n 0, 1) := by decide +kernel
theorem dL_law_441 : decode cL_law 441 = .ok (.iload 4, 2) := by decide +kernel
theorem dL_law_443 : decode cL_law 443 = .ok (.iconst 1, 1) := by decide +kernel
theorem dL_law_444 : decode cL_law 444 = .ok (.iadd, 1) := by decide +kernel
theorem dL_law_445 : decode cL_law 445 = .ok (.iaload, 1) := by decide +kernel
theorem dL_law_446 : decode cL_law 446 = .ok (.aload_n 0, 1) := by decide +kernel
theorem dL_law_447 : decode cL_law 447 = .ok (.iload 4, 2) := by decide +kernel
theorem dL_law_449 : decode cL_law 449 = .ok (.iconst 2, 1) := by decide +kernel
theorem dL_law_450 : decode cL_law 450 = .ok (.iadd, 1) := by decide +kernel
theorem dL_law_451 : decode cL_law 451 = .ok (.iaload, 1) := by decide +kernel
theorem dL_law_452 : decode cL_law 452 = .ok (.aload_n 0, 1) := by decide +kernel
theorem dL_law_453 : decode cL_law 453 = .ok (.iload 4, 2) := by decide +kernel
theorem dL_law_455 : decode cL_law 455 = .ok (.iconst 3, 1) := by decide +kernel
theorem dL_law_456 : decode cL_law 456 = .ok (.iadd, 1) := by decide +kernel
theorem dL_law_457 : decode cL_law 457 = .ok (.iaload, 1) := by decide +kernel
theorem dL_law_458 : decode cL_law 458 = .ok (.invokevirtual 44, 3) := by decide +kernel
theorem dL_law_461 : decode cL_law 461 = .ok (.aload_n 2, 1) := by decide +kernel
theorem dL_law_462 : decode cL_law 462 = .ok (.aload_n 0, 1) := by decide +kernel
theorem dL_law_463 : decode cL_law 463 = .ok (.iload 4, 2) := by decide +kernel
theorem dL_law_465 : decode cL_law 465 = .ok (.iconst 1, 1) := by decide +kernel
theorem dL_law_466 : decode cL_law 466 = .ok (.iadd, 1) := by decide +kernel
theorem dL_law_467 : decode cL_law 467 = .ok (.iaload, 1) := by decide +kernel
theorem dL_law_468 : decode cL_law 468 = .ok (.aload_n 0, 1) := by decide +kernel
theorem dL_law_469 : decode cL_law 469 = .ok (.iload 4, 2) := by decide +kernel
theorem dL_law_471 : decode cL_law 471 = .ok (.iconst 2, 1) := by decide +kernel
theorem dL_law_472 : decode cL_law 472 = .ok (.iadd, 1) := by decide +kernel
theorem dL_law_473 : decode cL_law 473 = .ok (.iaload, 1) := by decide +kernel
theorem dL_law_474 : decode cL_law 474 = .ok (.aload_n 0, 1) := by decide +kernel
theorem dL_law_475 : decode cL_law 475 = .ok (.iload 4, 2) := by decide +kernel
theorem dL_law_477 : decode cL_law 477 = .ok (.iconst 3, 1) := by decide +kernel
theorem dL_law_478 : decode cL_law 478 = .ok (.iadd, 1) := by decide +kernel
theorem dL_law_479 : decode cL_law 479 = .ok (.iaload, 1) := by decide +kernel
theorem dL_law_480 : decode cL_law 480 = .ok (.invokevirtual 48, 3) := by decide +kernel
theorem dL_law_483 : decode cL_law 483 = .ok (.if_icmp .eq 733, 3) := by decide +kernel
theorem dL_law_488 : decode cL_law 488 = .ok (.aload_n 1, 1) := by decide +kernel
theorem dL_law_489 : decode cL_law 489 = .ok (.aload_n 0, 1) := by decide +kernel
theorem dL_law_490 : decode cL_law 490 = .ok (.iload 4, 2) := by decide +kernel
theorem dL_law_492 : decode cL_law 492 = .ok (.iconst 1, 1) := by decide +kernel
theorem dL_law_493 : decode cL_law 493 = .ok (.iadd, 1) := by decide +kernel
theorem dL_law_494 : decode cL_law 494 = .ok (.iaload, 1) := by decide +kernel
theorem dL_law_495 : decode cL_law 495 = .ok (.invokevirtual 49, 3) := by decide +kernel
theorem dL_law_498 : decode cL_law 498 = .ok (.aload_n 2, 1) := by decide +kernel
theorem dL_law_499 : decode cL_law 499 = .ok (.aload_n 0, 1) := by decide +kernel
theorem dL_law_500 : decode cL_law 500 = .ok (.iload 4, 2) := by decide +kernel
theorem dL_law_502 : decode cL_law 502 = .ok (.iconst 1, 1) := by decide +kernel
theorem dL_law_503 : decode cL_law 503 = .ok (.iadd, 1) := by decide +kernel
theorem dL_law_504 : decode cL_law 504 = .ok (.iaload, 1) := by decide +kernel
theorem dL_law_505 : decode cL_law 505 = .ok (.invokevirtual 53, 3) := by decide +kernel
theorem dL_law_508 : decode cL_law 508 = .ok (.if_icmp .eq 708, 3) := by decide +kernel
theorem dL_law_513 : decode cL_law 513 = .ok (.aload_n 1, 1) := by decide +kernel
theorem dL_law_514 : decode cL_law 514 = .ok (.aload_n 0, 1) := by decide +kernel
theorem dL_law_515 : decode cL_law 515 = .ok (.iload 4, 2) := by decide +kernel
theorem dL_law_517 : decode cL_law 517 = .ok (.iconst 1, 1) := by decide +kernel
theorem dL_law_518 : decode cL_law 518 = .ok (.iadd, 1) := by decide +kernel
theorem dL_law_519 : decode cL_law 519 = .ok (.iaload, 1) := by decide +kernel
theorem dL_law_520 : decode cL_law 520 = .ok (.aload_n 0, 1) := by decide +kernel
theorem dL_law_521 : decode cL_law 521 = .ok (.iload 4, 2) := by decide +kernel
theorem dL_law_523 : decode cL_law 523 = .ok (.iconst 2, 1) := by decide +kernel
theorem dL_law_524 : decode cL_law 524 = .ok (.iadd, 1) := by decide +kernel
theorem dL_law_525 : decode cL_law 525 = .ok (.iaload, 1) := by decide +kernel
theorem dL_law_526 : decode cL_law 526 = .ok (.aload_n 0, 1) := by decide +kernel
theorem dL_law_527 : decode cL_law 527 = .ok (.iload 4, 2) := by decide +kernel
theorem dL_law_529 : decode cL_law 529 = .ok (.iconst 3, 1) := by decide +kernel
theorem dL_law_530 : decode cL_law 530 = .ok (.iadd, 1) := by decide +kernel
theorem dL_law_531 : decode cL_law 531 = .ok (.iaload, 1) := by decide +kernel
theorem dL_law_532 : decode cL_law 532 = .ok (.invokevirtual 54, 3) := by decide +kernel
theorem dL_law_535 : decode cL_law 535 = .ok (.aload_n 2, 1) := by decide +kernel
theorem dL_law_536 : decode cL_law 536 = .ok (.aload_n 0, 1) := by decide +kernel
theorem dL_law_537 : decode cL_law 537 = .ok (.iload 4, 2) := by decide +kernel
theorem dL_law_539 : decode cL_law 539 = .ok (.iconst 1, 1) := by decide +kernel
theorem dL_law_540 : decode cL_law 540 = .ok (.iadd, 1) := by decide +kernel
theorem dL_law_541 : decode cL_law 541 = .ok (.iaload, 1) := by decide +kernel
theorem dL_law_542 : decode cL_law 542 = .ok (.aload_n 0, 1) := by decide +kernel
theorem dL_law_543 : decode cL_law 543 = .ok (.iload 4, 2) := by decide +kernel
theorem dL_law_545 : decode cL_law 545 = .ok (.iconst 2, 1) := by decide +kernel
theorem dL_law_546 : decode cL_law 546 = .ok (.iadd, 1) := by decide +kernel
theorem dL_law_547 : decode cL_law 547 = .ok (.iaload, 1) := by decide +kernel
theorem dL_law_548 : decode cL_law 548 = .ok (.aload_n 0, 1) := by decide +kernel
theorem dL_law_549 : decode cL_law 549 = .ok (.iload 4, 2) := by decide +kernel
theorem dL_law_551 : decode cL_law 551 = .ok (.iconst 3, 1) := by decide +kernel
theorem dL_law_552 : decode cL_law 552 = .ok (.iadd, 1) := by decide +kernel
theorem dL_law_553 : decode cL_law 553 = .ok (.iaload, 1) := by decide +kernel
theorem dL_law_554 : decode cL_law 554 = .ok (.invokevirtual 57, 3) := by decide +kernel
theorem dL_law_557 : decode cL_law 557 = .ok (.if_icmp .eq 659, 3) := by decide +kernel
theorem dL_law_562 : decode cL_law 562 = .ok (.aload_n 1, 1) := by decide +kernel
theorem dL_law_563 : decode cL_law 563 = .ok (.aload_n 0, 1) := by decide +kernel
theorem dL_law_564 : decode cL_law 564 = .ok (.iload 4, 2) := by decide +kernel
theorem dL_law_566 : decode cL_law 566 = .ok (.iconst 1, 1) := by decide +kernel
theorem dL_law_567 : decode cL_law 567 = .ok (.iadd, 1) := by decide +kernel
theorem dL_law_568 : decode cL_law 568 = .ok (.iaload, 1) := by decide +kernel
theorem dL_law_569 : decode cL_law 569 = .ok (.aload_n 0, 1) := by decide +kernel
theorem dL_law_570 : decode cL_law 570 = .ok (.iload 4, 2) := by decide +kernel
theorem dL_law_572 : decode cL_law 572 = .ok (.iconst 2, 1) := by decide +kernel
theorem dL_law_573 : decode cL_law 573 = .ok (.iadd, 1) := by decide +kernel
theorem dL_law_574 : decode cL_law 574 = .ok (.iaload, 1) := by decide +kernel
theorem dL_law_575 : decode cL_law 575 = .ok (.invokevirtual 58, 3) := by decide +kernel
theorem dL_law_578 : decode cL_law 578 = .ok (.aload_n 2, 1) := by decide +kernel
theorem dL_law_579 : decode cL_law 579 = .ok (.aload_n 0, 1) := by decide +kernel
theorem dL_law_580 : decode cL_law 580 = .ok (.iload 4, 2) := by decide +kernel
theorem dL_law_582 : decode cL_law 582 = .ok (.iconst 1, 1) := by decide +kernel
theorem dL_law_583 : decode cL_law 583 = .ok (.iadd, 1) := by decide +kernel
theorem dL_law_584 : decode cL_law 584 = .ok (.iaload, 1) := by decide +kernel
theorem dL_law_585 : decode cL_law 585 = .ok (.aload_n 0, 1) := by decide +kernel
theorem dL_law_586 : decode cL_law 586 = .ok (.iload 4, 2) := by decide +kernel
theorem dL_law_588 : decode cL_law 588 = .ok (.iconst 2, 1) := by decide +kernel
theorem dL_law_589 : decode cL_law 589 = .ok (.iadd, 1) := by decide +kernel
theorem dL_law_590 : decode cL_law 590 = .ok (.iaload, 1) := by decide +kernel
theorem dL_law_591 : decode cL_law 591 = .ok (.invokevirtual 61, 3) := by decide +kernel
theorem dL_law_594 : decode cL_law 594 = .ok (.if_icmp .eq 622, 3) := by decide +kernel
theorem dL_law_599 : decode cL_law 599 = .ok (.aload_n 1, 1) := by decide +kernel
theorem dL_law_600 : decode cL_law 600 = .ok (.aload_n 0, 1) := by decide +kernel
theorem dL_law_601 : decode cL_law 601 = .ok (.iload 4, 2) := by decide +kernel
theorem dL_law_603 : decode cL_law 603 = .ok (.iconst 1, 1) := by decide +kernel
theorem dL_law_604 : decode cL_law 604 = .ok (.iadd, 1) := by decide +kernel
theorem dL_law_605 : decode cL_law 605 = .ok (.iaload, 1) := by decide +kernel
theorem dL_law_606 : decode cL_law 606 = .ok (.aload_n 0, 1) := by decide +kernel
theorem dL_law_607 : decode cL_law 607 = .ok (.iload 4, 2) := by decide +kernel
theorem dL_law_609 : decode cL_law 609 = .ok (.iconst 2, 1) := by decide +kernel
theorem dL_law_610 : decode cL_law 610 = .ok (.iadd, 1) := by decide +kernel
theorem dL_law_611 : decode cL_law 611 = .ok (.iaload, 1) := by decide +kernel
theorem dL_law_612 : decode cL_law 612 = .ok (.aload_n 0, 1) := by decide +kernel
theorem dL_law_613 : decode cL_law 613 = .ok (.iload 4, 2) := by decide +kernel
theorem dL_law_615 : decode cL_law 615 = .ok (.iconst 3, 1) := by decide +kernel
theorem dL_law_616 : decode cL_law 616 = .ok (.iadd, 1) := by decide +kernel
theorem dL_law_617 : decode cL_law 617 = .ok (.iaload, 1) := by decide +kernel
theorem dL_law_618 : decode cL_law 618 = .ok (.invokevirtual 62, 3) := by decide +kernel
theorem dL_law_621 : decode cL_law 621 = .ok (.aload_n 2, 1) := by decide +kernel
theorem dL_law_622 : decode cL_law 622 = .ok (.aload_n 0, 1) := by decide +kernel
theorem dL_law_623 : decode cL_law 623 = .ok (.iload 4, 2) := by decide +kernel
theorem dL_law_625 : decode cL_law 625 = .ok (.iconst 1, 1) := by decide +kernel
theorem dL_law_626 : decode cL_law 626 = .ok (.iadd, 1) := by decide +kernel
theorem dL_law_627 : decode cL_law 627 = .ok (.iaload, 1) := by decide +kernel
theorem dL_law_628 : decode cL_law 628 = .ok (.aload_n 0, 1) := by decide +kernel
theorem dL_law_629 : decode cL_law 629 = .ok (.iload 4, 2) := by decide +kernel
theorem dL_law_631 : decode cL_law 631 = .ok (.iconst 2, 1) := by decide +kernel
theorem dL_law_632 : decode cL_law 632 = .ok (.iadd, 1) := by decide +kernel
theorem dL_law_633 : decode cL_law 633 = .ok (.iaload, 1) := by decide +kernel
theorem dL_law_634 : decode cL_law 634 = .ok (.aload_n 0, 1) := by decide +kernel
theorem dL_law_635 : decode cL_law 635 = .ok (.iload 4, 2) := by decide +kernel
theorem dL_law_637 : decode cL_law 637 = .ok (.iconst 3, 1) := by decide +kernel
theorem dL_law_638 : decode cL_law 638 = .ok (.iadd, 1) := by decide +kernel
theorem dL_law_639 : decode cL_law 639 = .ok (.iaload, 1) := by decide +kernel
theorem dL_law_640 : decode cL_law 640 = .ok (.invokevirtual 65, 3) := by decide +kernel
theorem dL_law_643 : decode cL_law 643 = .ok (.if_icmp .eq 573, 3) := by decide +kernel
theorem dL_law_648 : decode cL_law 648 = .ok (.aload_n 1, 1) := by decide +kernel
theorem dL_law_649 : decode cL_law 649 = .ok (.aload_n 0, 1) := by decide +kernel
theorem dL_law_650 : decode cL_law 650 = .ok (.iload 4, 2) := by decide +kernel
theorem dL_law_652 : decode cL_law 652 = .ok (.iconst 1, 1) := by decide +kernel
theorem dL_law_653 : decode cL_law 653 = .ok (.iadd, 1) := by decide +kernel
theorem dL_law_654 : decode cL_law 654 = .ok (.iaload, 1) := by decide +kernel
theorem dL_law_655 : decode cL_law 655 = .ok (.aload_n 0, 1) := by decide +kernel
theorem dL_law_656 : decode cL_law 656 = .ok (.iload 4, 2) := by decide +kernel
theorem dL_law_658 : decode cL_law 658 = .ok (.iconst 2, 1) := by decide +kernel
theorem dL_law_659 : decode cL_law 659 = .ok (.iadd, 1) := by decide +kernel
theorem dL_law_660 : decode cL_law 660 = .ok (.iaload, 1) := by decide +kernel
theorem dL_law_661 : decode cL_law 661 = .ok (.aload_n 0, 1) := by decide +kernel
theorem dL_law_662 : decode cL_law 662 = .ok (.iload 4, 2) := by decide +kernel
theorem dL_law_664 : decode cL_law 664 = .ok (.iconst 3, 1) := by decide +kernel
theorem dL_law_665 : decode cL_law 665 = .ok (.iadd, 1) := by decide +kernel
theorem dL_law_666 : decode cL_law 666 = .ok (.iaload, 1) := by decide +kernel
theorem dL_law_667 : decode cL_law 667 = .ok (.invokevirtual 66, 3) := by decide +kernel
theorem dL_law_670 : decode cL_law 670 = .ok (.aload_n 2, 1) := by decide +kernel
theorem dL_law_671 : decode cL_law 671 = .ok (.aload_n 0, 1) := by decide +kernel
theorem dL_law_672 : decode cL_law 672 = .ok (.iload 4, 2) := by decide +kernel
theorem dL_law_674 : decode cL_law 674 = .ok (.iconst 1, 1) := by decide +kernel
theorem dL_law_675 : decode cL_law 675 = .ok (.iadd, 1) := by decide +kernel
theorem dL_law_676 : decode cL_law 676 = .ok (.iaload, 1) := by decide +kernel
theorem dL_law_677 : decode cL_law 677 = .ok (.aload_n 0, 1) := by decide +kernel
theorem dL_law_678 : decode cL_law 678 = .ok (.iload 4, 2) := by decide +kernel
theorem dL_law_680 : decode cL_law 680 = .ok (.iconst 2, 1) := by decide +kernel
theorem dL_law_681 : decode cL_law 681 = .ok (.iadd, 1) := by decide +kernel
theorem dL_law_682 : decode cL_law 682 = .ok (.iaload, 1) := by decide +kernel
theorem dL_law_683 : decode cL_law 683 = .ok (.aload_n 0, 1) := by decide +kernel
theorem dL_law_684 : decode cL_law 684 = .ok (.iload 4, 2) := by decide +kernel
theorem dL_law_686 : decode cL_law 686 = .ok (.iconst 3, 1) := by decide +kernel
theorem dL_law_687 : decode cL_law 687 = .ok (.iadd, 1) := by decide +kernel
theorem dL_law_688 : decode cL_law 688 = .ok (.iaload, 1) := by decide +kernel
theorem dL_law_689 : decode cL_law 689 = .ok (.invokevirtual 69, 3) := by decide +kernel
theorem dL_law_692 : decode cL_law 692 = .ok (.if_icmp .eq 524, 3) := by decide +kernel
theorem dL_law_697 : decode cL_law 697 = .ok (.aload_n 1, 1) := by decide +kernel
theorem dL_law_698 : decode cL_law 698 = .ok (.aload_n 0, 1) := by decide +kernel
theorem dL_law_699 : decode cL_law 699 = .ok (.iload 4, 2) := by decide +kernel
theorem dL_law_701 : decode cL_law 701 = .ok (.iconst 1, 1) := by decide +kernel
theorem dL_law_702 : decode cL_law 702 = .ok (.iadd, 1) := by decide +kernel
theorem dL_law_703 : decode cL_law 703 = .ok (.iaload, 1) := by decide +kernel
theorem dL_law_704 : decode cL_law 704 = .ok (.invokevirtual 70, 3) := by decide +kernel
theorem dL_law_707 : decode cL_law 707 = .ok (.aload_n 2, 1) := by decide +kernel
theorem dL_law_708 : decode cL_law 708 = .ok (.aload_n 0, 1) := by decide +kernel
theorem dL_law_709 : decode cL_law 709 = .ok (.iload 4, 2) := by decide +kernel
theorem dL_law_711 : decode cL_law 711 = .ok (.iconst 1, 1) := by decide +kernel
theorem dL_law_712 : decode cL_law 712 = .ok (.iadd, 1) := by decide +kernel
theorem dL_law_713 : decode cL_law 713 = .ok (.iaload, 1) := by decide +kernel
theorem dL_law_714 : decode cL_law 714 = .ok (.invokevirtual 73, 3) := by decide +kernel
theorem dL_law_717 : decode cL_law 717 = .ok (.if_icmp .eq 499, 3) := by decide +kernel
theorem dL_law_722 : decode cL_law 722 = .ok (.aload_n 1, 1) := by decide +kernel
theorem dL_law_723 : decode cL_law 723 = .ok (.invokevirtual 74, 3) := by decide +kernel
theorem dL_law_726 : decode cL_law 726 = .ok (.aload_n 2, 1) := by decide +kernel
theorem dL_law_727 : decode cL_law 727 = .ok (.invokevirtual 77, 3) := by decide +kernel
theorem dL_law_730 : decode cL_law 730 = .ok (.if_icmp .eq 486, 3) := by decide +kernel
theorem dL_law_735 : decode cL_law 735 = .ok (.aload_n 1, 1) := by decide +kernel
theorem dL_law_736 : decode cL_law 736 = .ok (.aload_n 0, 1) := by decide +kernel
theorem dL_law_737 : decode cL_law 737 = .ok (.iload 4, 2) := by decide +kernel
theorem dL_law_739 : decode cL_law 739 = .ok (.iconst 1, 1) := by decide +kernel
theorem dL_law_740 : decode cL_law 740 = .ok (.iadd, 1) := by decide +kernel
theorem dL_law_741 : decode cL_law 741 = .ok (.iaload, 1) := by decide +kernel
theorem dL_law_742 : decode cL_law 742 = .ok (.aload_n 0, 1) := by decide +kernel
theorem dL_law_743 : decode cL_law 743 = .ok (.iload 4, 2) := by decide +kernel
theorem dL_law_745 : decode cL_law 745 = .ok (.iconst 2, 1) := by decide +kernel
theorem dL_law_746 : decode cL_law 746 = .ok (.iadd, 1) := by decide +kernel
theorem dL_law_747 : decode cL_law 747 = .ok (.iaload, 1) := by decide +kernel
theorem dL_law_748 : decode cL_law 748 = .ok (.invokevirtual 78, 3) := by decide +kernel
theorem dL_law_751 : decode cL_law 751 = .ok (.aload_n 2, 1) := by decide +kernel
theorem dL_law_752 : decode cL_law 752 = .ok (.aload_n 0, 1) := by decide +kernel
theorem dL_law_753 : decode cL_law 753 = .ok (.iload 4, 2) := by decide +kernel
theorem dL_law_755 : decode cL_law 755 = .ok (.iconst 1, 1) := by decide +kernel
theorem dL_law_756 : decode cL_law 756 = .ok (.iadd, 1) := by decide +kernel
theorem dL_law_757 : decode cL_law 757 = .ok (.iaload, 1) := by decide +kernel
theorem dL_law_758 : decode cL_law 758 = .ok (.aload_n 0, 1) := by decide +kernel
theorem dL_law_759 : decode cL_law 759 = .ok (.iload 4, 2) := by decide +kernel
theorem dL_law_761 : decode cL_law 761 = .ok (.iconst 2, 1) := by decide +kernel
theorem dL_law_762 : decode cL_law 762 = .ok (.iadd, 1) := by decide +kernel
theorem dL_law_763 : decode cL_law 763 = .ok (.iaload, 1) := by decide +kernel
theorem dL_law_764 : decode cL_law 764 = .ok (.invokevirtual 81, 3) := by decide +kernel
theorem dL_law_767 : decode cL_law 767 = .ok (.if_icmp .eq 449, 3) := by decide +kernel
theorem dL_law_772 : decode cL_law 772 = .ok (.aload_n 1, 1) := by decide +kernel
theorem dL_law_773 : decode cL_law 773 = .ok (.aload_n 0, 1) := by decide +kernel
theorem dL_law_774 : decode cL_law 774 = .ok (.iload 4, 2) := by decide +kernel
theorem dL_law_776 : decode cL_law 776 = .ok (.iconst 1, 1) := by decide +kernel
theorem dL_law_777 : decode cL_law 777 = .ok (.iadd, 1) := by decide +kernel
theorem dL_law_778 : decode cL_law 778 = .ok (.iaload, 1) := by decide +kernel
theorem dL_law_779 : decode cL_law 779 = .ok (.invokevirtual 82, 3) := by decide +kernel
theorem dL_law_782 : decode cL_law 782 = .ok (.aload_n 2, 1) := by decide +kernel
theorem dL_law_783 : decode cL_law 783 = .ok (.aload_n 0, 1) := by decide +kernel
theorem dL_law_784 : decode cL_law 784 = .ok (.iload 4, 2) := by decide +kernel
theorem dL_law_786 : decode cL_law 786 = .ok (.iconst 1, 1) := by decide +kernel
theorem dL_law_787 : decode cL_law 787 = .ok (.iadd, 1) := by decide +kernel
theorem dL_law_788 : decode cL_law 788 = .ok (.iaload, 1) := by decide +kernel
theorem dL_law_789 : decode cL_law 789 = .ok (.invokevirtual 85, 3) := by decide +kernel
theorem dL_law_792 : decode cL_law 792 = .ok (.if_icmp .eq 424, 3) := by decide +kernel
theorem dL_law_797 : decode cL_law 797 = .ok (.aload_n 1, 1) := by decide +kernel
theorem dL_law_798 : decode cL_law 798 = .ok (.aload_n 0, 1) := by decide +kernel
theorem dL_law_799 : decode cL_law 799 = .ok (.iload 4, 2) := by decide +kernel
theorem dL_law_801 : decode cL_law 801 = .ok (.iconst 1, 1) := by decide +kernel
theorem dL_law_802 : decode cL_law 802 = .ok (.iadd, 1) := by decide +kernel
theorem dL_law_803 : decode cL_law 803 = .ok (.iaload, 1) := by decide +kernel
theorem dL_law_804 : decode cL_law 804 = .ok (.invokevirtual 86, 3) := by decide +kernel
theorem dL_law_807 : decode cL_law 807 = .ok (.aload_n 2, 1) := by decide +kernel
theorem dL_law_808 : decode cL_law 808 = .ok (.aload_n 0, 1) := by decide +kernel
theorem dL_law_809 : decode cL_law 809 = .ok (.iload 4, 2) := by decide +kernel
theorem dL_law_811 : decode cL_law 811 = .ok (.iconst 1, 1) := by decide +kernel
theorem dL_law_812 : decode cL_law 812 = .ok (.iadd, 1) := by decide +kernel
theorem dL_law_813 : decode cL_law 813 = .ok (.iaload, 1) := by decide +kernel
theorem dL_law_814 : decode cL_law 814 = .ok (.invokevirtual 89, 3) := by decide +kernel
theorem dL_law_817 : decode cL_law 817 = .ok (.if_icmp .eq 399, 3) := by decide +kernel
theorem dL_law_822 : decode cL_law 822 = .ok (.aload_n 1, 1) := by decide +kernel
theorem dL_law_823 : decode cL_law 823 = .ok (.aload_n 0, 1) := by decide +kernel
theorem dL_law_824 : decode cL_law 824 = .ok (.iload 4, 2) := by decide +kernel
theorem dL_law_826 : decode cL_law 826 = .ok (.iconst 1, 1) := by decide +kernel
theorem dL_law_827 : decode cL_law 827 = .ok (.iadd, 1) := by decide +kernel
theorem dL_law_828 : decode cL_law 828 = .ok (.iaload, 1) := by decide +kernel
theorem dL_law_829 : decode cL_law 829 = .ok (.invokevirtual 90, 3) := by decide +kernel
theorem dL_law_832 : decode cL_law 832 = .ok (.aload_n 2, 1) := by decide +kernel
theorem dL_law_833 : decode cL_law 833 = .ok (.aload_n 0, 1) := by decide +kernel
theorem dL_law_834 : decode cL_law 834 = .ok (.iload 4, 2) := by decide +kernel
theorem dL_law_836 : decode cL_law 836 = .ok (.iconst 1, 1) := by decide +kernel
theorem dL_law_837 : decode cL_law 837 = .ok (.iadd, 1) := by decide +kernel
theorem dL_law_838 : decode cL_law 838 = .ok (.iaload, 1) := by decide +kernel
theorem dL_law_839 : decode cL_law 839 = .ok (.invokevirtual 93, 3) := by decide +kernel
theorem dL_law_842 : decode cL_law 842 = .ok (.if_icmp .eq 374, 3) := by decide +kernel
theorem dL_law_847 : decode cL_law 847 = .ok (.aload_n 1, 1) := by decide +kernel
theorem dL_law_848 : decode cL_law 848 = .ok (.aload_n 0, 1) := by decide +kernel
theorem dL_law_849 : decode cL_law 849 = .ok (.iload 4, 2) := by decide +kernel
theorem dL_law_851 : decode cL_law 851 = .ok (.iconst 1, 1) := by decide +kernel
theorem dL_law_852 : decode cL_law 852 = .ok (.iadd, 1) := by decide +kernel
theorem dL_law_853 : decode cL_law 853 = .ok (.iaload, 1) := by decide +kernel
theorem dL_law_854 : decode cL_law 854 = .ok (.aload_n 0, 1) := by decide +kernel
theorem dL_law_855 : decode cL_law 855 = .ok (.iload 4, 2) := by decide +kernel
theorem dL_law_857 : decode cL_law 857 = .ok (.iconst 2, 1) := by decide +kernel
theorem dL_law_858 : decode cL_law 858 = .ok (.iadd, 1) := by decide +kernel
theorem dL_law_859 : decode cL_law 859 = .ok (.iaload, 1) := by decide +kernel
theorem dL_law_860 : decode cL_law 860 = .ok (.aload_n 0, 1) := by decide +kernel
theorem dL_law_861 : decode cL_law 861 = .ok (.iload 4, 2) := by decide +kernel
theorem dL_law_863 : decode cL_law 863 = .ok (.iconst 3, 1) := by decide +kernel
theorem dL_law_864 : decode cL_law 864 = .ok (.iadd, 1) := by decide +kernel
theorem dL_law_865 : decode cL_law 865 = .ok (.iaload, 1) := by decide +kernel
theorem dL_law_866 : decode cL_law 866 = .ok (.invokevirtual 94, 3) := by decide +kernel
theorem dL_law_869 : decode cL_law 869 = .ok (.aload_n 2, 1) := by decide +kernel
theorem dL_law_870 : decode cL_law 870 = .ok (.aload_n 0, 1) := by decide +kernel
theorem dL_law_871 : decode cL_law 871 = .ok (.iload 4, 2) := by decide +kernel
theorem dL_law_873 : decode cL_law 873 = .ok (.iconst 1, 1) := by decide +kernel
theorem dL_law_874 : decode cL_law 874 = .ok (.iadd, 1) := by decide +kernel
theorem dL_law_875 : decode cL_law 875 = .ok (.iaload, 1) := by decide +kernel
theorem dL_law_876 : decode cL_law 876 = .ok (.aload_n 0, 1) := by decide +kernel
theorem dL_law_877 : decode cL_law 877 = .ok (.iload 4, 2) := by decide +kernel
theorem dL_law_879 : decode cL_law 879 = .ok (.iconst 2, 1) := by decide +kernel
theorem dL_law_880 : decode cL_law 880 = .ok (.iadd, 1) := by decide +kernel
theorem dL_law_881 : decode cL_law 881 = .ok (.iaload, 1) := by decide +kernel
theorem dL_law_882 : decode cL_law 882 = .ok (.aload_n 0, 1) := by decide +kernel
theorem dL_law_883 : decode cL_law 883 = .ok (.iload 4, 2) := by decide +kernel
theorem dL_law_885 : decode cL_law 885 = .ok (.iconst 3, 1) := by decide +kernel
theorem dL_law_886 : decode cL_law 886 = .ok (.iadd, 1) := by decide +kernel
theorem dL_law_887 : decode cL_law 887 = .ok (.iaload, 1) := by decide +kernel
theorem dL_law_888 : decode cL_law 888 = .ok (.invokevirtual 97, 3) := by decide +kernel
theorem dL_law_891 : decode cL_law 891 = .ok (.if_icmp .eq 325, 3) := by decide +kernel
theorem dL_law_896 : decode cL_law 896 = .ok (.aload_n 1, 1) := by decide +kernel
theorem dL_law_897 : decode cL_law 897 = .ok (.aload_n 0, 1) := by decide +kernel
theorem dL_law_898 : decode cL_law 898 = .ok (.iload 4, 2) := by decide +kernel
theorem dL_law_900 : decode cL_law 900 = .ok (.iconst 1, 1) := by decide +kernel
theorem dL_law_901 : decode cL_law 901 = .ok (.iadd, 1) := by decide +kernel
theorem dL_law_902 : decode cL_law 902 = .ok (.iaload, 1) := by decide +kernel
theorem dL_law_903 : decode cL_law 903 = .ok (.aload_n 0, 1) := by decide +kernel
theorem dL_law_904 : decode cL_law 904 = .ok (.iload 4, 2) := by decide +kernel
theorem dL_law_906 : decode cL_law 906 = .ok (.iconst 2, 1) := by decide +kernel
theorem dL_law_907 : decode cL_law 907 = .ok (.iadd, 1) := by decide +kernel
theorem dL_law_908 : decode cL_law 908 = .ok (.iaload, 1) := by decide +kernel
theorem dL_law_909 : decode cL_law 909 = .ok (.invokevirtual 98, 3) := by decide +kernel
theorem dL_law_912 : decode cL_law 912 = .ok (.aload_n 2, 1) := by decide +kernel
theorem dL_law_913 : decode cL_law 913 = .ok (.aload_n 0, 1) := by decide +kernel
theorem dL_law_914 : decode cL_law 914 = .ok (.iload 4, 2) := by decide +kernel
theorem dL_law_916 : decode cL_law 916 = .ok (.iconst 1, 1) := by decide +kernel
theorem dL_law_917 : decode cL_law 917 = .ok (.iadd, 1) := by decide +kernel
theorem dL_law_918 : decode cL_law 918 = .ok (.iaload, 1) := by decide +kernel
theorem dL_law_919 : decode cL_law 919 = .ok (.aload_n 0, 1) := by decide +kernel
theorem dL_law_920 : decode cL_law 920 = .ok (.iload 4, 2) := by decide +kernel
theorem dL_law_922 : decode cL_law 922 = .ok (.iconst 2, 1) := by decide +kernel
theorem dL_law_923 : decode cL_law 923 = .ok (.iadd, 1) := by decide +kernel
theorem dL_law_924 : decode cL_law 924 = .ok (.iaload, 1) := by decide +kernel
theorem dL_law_925 : decode cL_law 925 = .ok (.invokevirtual 101, 3) := by decide +kernel
theorem dL_law_928 : decode cL_law 928 = .ok (.if_icmp .eq 288, 3) := by decide +kernel
theorem dL_law_933 : decode cL_law 933 = .ok (.aload_n 1, 1) := by decide +kernel
theorem dL_law_934 : decode cL_law 934 = .ok (.aload_n 0, 1) := by decide +kernel
theorem dL_law_935 : decode cL_law 935 = .ok (.iload 4, 2) := by decide +kernel
theorem dL_law_937 : decode cL_law 937 = .ok (.iconst 1, 1) := by decide +kernel
theorem dL_law_938 : decode cL_law 938 = .ok (.iadd, 1) := by decide +kernel
theorem dL_law_939 : decode cL_law 939 = .ok (.iaload, 1) := by decide +kernel
theorem dL_law_940 : decode cL_law 940 = .ok (.invokevirtual 102, 3) := by decide +kernel
theorem dL_law_943 : decode cL_law 943 = .ok (.aload_n 2, 1) := by decide +kernel
theorem dL_law_944 : decode cL_law 944 = .ok (.aload_n 0, 1) := by decide +kernel
theorem dL_law_945 : decode cL_law 945 = .ok (.iload 4, 2) := by decide +kernel
theorem dL_law_947 : decode cL_law 947 = .ok (.iconst 1, 1) := by decide +kernel
theorem dL_law_948 : decode cL_law 948 = .ok (.iadd, 1) := by decide +kernel
theorem dL_law_949 : decode cL_law 949 = .ok (.iaload, 1) := by decide +kernel
theorem dL_law_950 : decode cL_law 950 = .ok (.invokevirtual 105, 3) := by decide +kernel
theorem dL_law_953 : decode cL_law 953 = .ok (.if_icmp .eq 263, 3) := by decide +kernel
theorem dL_law_958 : decode cL_law 958 = .ok (.aload_n 1, 1) := by decide +kernel
theorem dL_law_959 : decode cL_law 959 = .ok (.invokevirtual 106, 3) := by decide +kernel
theorem dL_law_962 : decode cL_law 962 = .ok (.aload_n 2, 1) := by decide +kernel
theorem dL_law_963 : decode cL_law 963 = .ok (.invokevirtual 110, 3) := by decide +kernel
theorem dL_law_966 : decode cL_law 966 = .ok (.if_icmp .eq 250, 3) := by decide +kernel
theorem dL_law_971 : decode cL_law 971 = .ok (.aload_n 1, 1) := by decide +kernel
theorem dL_law_972 : decode cL_law 972 = .ok (.invokevirtual 111, 3) := by decide +kernel
theorem dL_law_975 : decode cL_law 975 = .ok (.aload_n 2, 1) := by decide +kernel
theorem dL_law_976 : decode cL_law 976 = .ok (.invokevirtual 114, 3) := by decide +kernel
theorem dL_law_979 : decode cL_law 979 = .ok (.if_icmp .eq 237, 3) := by decide +kernel
theorem dL_law_984 : decode cL_law 984 = .ok (.aload_n 1, 1) := by decide +kernel
theorem dL_law_985 : decode cL_law 985 = .ok (.aload_n 0, 1) := by decide +kernel
theorem dL_law_986 : decode cL_law 986 = .ok (.iload 4, 2) := by decide +kernel
theorem dL_law_988 : decode cL_law 988 = .ok (.iconst 1, 1) := by decide +kernel
theorem dL_law_989 : decode cL_law 989 = .ok (.iadd, 1) := by decide +kernel
theorem dL_law_990 : decode cL_law 990 = .ok (.iaload, 1) := by decide +kernel
theorem dL_law_991 : decode cL_law 991 = .ok (.aload_n 0, 1) := by decide +kernel
theorem dL_law_992 : decode cL_law 992 = .ok (.iload 4, 2) := by decide +kernel
theorem dL_law_994 : decode cL_law 994 = .ok (.iconst 2, 1) := by decide +kernel
theorem dL_law_995 : decode cL_law 995 = .ok (.iadd, 1) := by decide +kernel
theorem dL_law_996 : decode cL_law 996 = .ok (.iaload, 1) := by decide +kernel
theorem dL_law_997 : decode cL_law 997 = .ok (.aload_n 0, 1) := by decide +kernel
theorem dL_law_998 : decode cL_law 998 = .ok (.iload 4, 2) := by decide +kernel
theorem dL_law_1000 : decode cL_law 1000 = .ok (.iconst 3, 1) := by decide +kernel
theorem dL_law_1001 : decode cL_law 1001 = .ok (.iadd, 1) := by decide +kernel
theorem dL_law_1002 : decode cL_law 1002 = .ok (.iaload, 1) := by decide +kernel
theorem dL_law_1003 : decode cL_law 1003 = .ok (.invokevirtual 115, 3) := by decide +kernel
theorem dL_law_1006 : decode cL_law 1006 = .ok (.aload_n 2, 1) := by decide +kernel
theorem dL_law_1007 : decode cL_law 1007 = .ok (.aload_n 0, 1) := by decide +kernel
theorem dL_law_1008 : decode cL_law 1008 = .ok (.iload 4, 2) := by decide +kernel
theorem dL_law_1010 : decode cL_law 1010 = .ok (.iconst 1, 1) := by decide +kernel
theorem dL_law_1011 : decode cL_law 1011 = .ok (.iadd, 1) := by decide +kernel
theorem dL_law_1012 : decode cL_law 1012 = .ok (.iaload, 1) := by decide +kernel
theorem dL_law_1013 : decode cL_law 1013 = .ok (.aload_n 0, 1) := by decide +kernel
theorem dL_law_1014 : decode cL_law 1014 = .ok (.iload 4, 2) := by decide +kernel
theorem dL_law_1016 : decode cL_law 1016 = .ok (.iconst 2, 1) := by decide +kernel
theorem dL_law_1017 : decode cL_law 1017 = .ok (.iadd, 1) := by decide +kernel
theorem dL_law_1018 : decode cL_law 1018 = .ok (.iaload, 1) := by decide +kernel
theorem dL_law_1019 : decode cL_law 1019 = .ok (.aload_n 0, 1) := by decide +kernel
theorem dL_law_1020 : decode cL_law 1020 = .ok (.iload 4, 2) := by decide +kernel
theorem dL_law_1022 : decode cL_law 1022 = .ok (.iconst 3, 1) := by decide +kernel
theorem dL_law_1023 : decode cL_law 1023 = .ok (.iadd, 1) := by decide +kernel
theorem dL_law_1024 : decode cL_law 1024 = .ok (.iaload, 1) := by decide +kernel
theorem dL_law_1025 : decode cL_law 1025 = .ok (.invokevirtual 118, 3) := by decide +kernel
theorem dL_law_1028 : decode cL_law 1028 = .ok (.if_icmp .eq 188, 3) := by decide +kernel
theorem dL_law_1033 : decode cL_law 1033 = .ok (.aload_n 1, 1) := by decide +kernel
theorem dL_law_1034 : decode cL_law 1034 = .ok (.invokevirtual 119, 3) := by decide +kernel
theorem dL_law_1037 : decode cL_law 1037 = .ok (.aload_n 2, 1) := by decide +kernel
theorem dL_law_1038 : decode cL_law 1038 = .ok (.invokevirtual 122, 3) := by decide +kernel
theorem dL_law_1041 : decode cL_law 1041 = .ok (.if_icmp .eq 175, 3) := by decide +kernel
theorem dL_law_1046 : decode cL_law 1046 = .ok (.aload_n 1, 1) := by decide +kernel
theorem dL_law_1047 : decode cL_law 1047 = .ok (.aload_n 0, 1) := by decide +kernel
theorem dL_law_1048 : decode cL_law 1048 = .ok (.iload 4, 2) := by decide +kernel
theorem dL_law_1050 : decode cL_law 1050 = .ok (.iconst 1, 1) := by decide +kernel
theorem dL_law_1051 : decode cL_law 1051 = .ok (.iadd, 1) := by decide +kernel
theorem dL_law_1052 : decode cL_law 1052 = .ok (.iaload, 1) := by decide +kernel
theorem dL_law_1053 : decode cL_law 1053 = .ok (.invokevirtual 123, 3) := by decide +kernel
theorem dL_law_1056 : decode cL_law 1056 = .ok (.aload_n 2, 1) := by decide +kernel
theorem dL_law_1057 : decode cL_law 1057 = .ok (.aload_n 0, 1) := by decide +kernel
theorem dL_law_1058 : decode cL_law 1058 = .ok (.iload 4, 2) := by decide +kernel
theorem dL_law_1060 : decode cL_law 1060 = .ok (.iconst 1, 1) := by decide +kernel
theorem dL_law_1061 : decode cL_law 1061 = .ok (.iadd, 1) := by decide +kernel
theorem dL_law_1062 : decode cL_law 1062 = .ok (.iaload, 1) := by decide +kernel
theorem dL_law_1063 : decode cL_law 1063 = .ok (.invokevirtual 126, 3) := by decide +kernel
theorem dL_law_1066 : decode cL_law 1066 = .ok (.if_icmp .eq 150, 3) := by decide +kernel
theorem dL_law_1138 : decode cL_law 1138 = .ok (.aload_n 1, 1) := by decide +kernel
theorem dL_law_1139 : decode cL_law 1139 = .ok (.aload_n 0, 1) := by decide +kernel
theorem dL_law_1140 : decode cL_law 1140 = .ok (.iload 4, 2) := by decide +kernel
theorem dL_law_1142 : decode cL_law 1142 = .ok (.iconst 1, 1) := by decide +kernel
theorem dL_law_1143 : decode cL_law 1143 = .ok (.iadd, 1) := by decide +kernel
theorem dL_law_1144 : decode cL_law 1144 = .ok (.iaload, 1) := by decide +kernel
theorem dL_law_1145 : decode cL_law 1145 = .ok (.aload_n 0, 1) := by decide +kernel
theorem dL_law_1146 : decode cL_law 1146 = .ok (.iload 4, 2) := by decide +kernel
theorem dL_law_1148 : decode cL_law 1148 = .ok (.iconst 2, 1) := by decide +kernel
theorem dL_law_1149 : decode cL_law 1149 = .ok (.iadd, 1) := by decide +kernel
theorem dL_law_1150 : decode cL_law 1150 = .ok (.iaload, 1) := by decide +kernel
theorem dL_law_1151 : decode cL_law 1151 = .ok (.ifCond .eq 7, 3) := by decide +kernel
theorem dL_law_1154 : decode cL_law 1154 = .ok (.iconst 1, 1) := by decide +kernel
theorem dL_law_1155 : decode cL_law 1155 = .ok (.goto 4, 3) := by decide +kernel
theorem dL_law_1158 : decode cL_law 1158 = .ok (.iconst 0, 1) := by decide +kernel
theorem dL_law_1159 : decode cL_law 1159 = .ok (.invokevirtual 136, 3) := by decide +kernel
theorem dL_law_1162 : decode cL_law 1162 = .ok (.aload_n 2, 1) := by decide +kernel
theorem dL_law_1163 : decode cL_law 1163 = .ok (.aload_n 0, 1) := by decide +kernel
theorem dL_law_1164 : decode cL_law 1164 = .ok (.iload 4, 2) := by decide +kernel
theorem dL_law_1166 : decode cL_law 1166 = .ok (.iconst 1, 1) := by decide +kernel
theorem dL_law_1167 : decode cL_law 1167 = .ok (.iadd, 1) := by decide +kernel
theorem dL_law_1168 : decode cL_law 1168 = .ok (.iaload, 1) := by decide +kernel
theorem dL_law_1169 : decode cL_law 1169 = .ok (.aload_n 0, 1) := by decide +kernel
theorem dL_law_1170 : decode cL_law 1170 = .ok (.iload 4, 2) := by decide +kernel
theorem dL_law_1172 : decode cL_law 1172 = .ok (.iconst 2, 1) := by decide +kernel
theorem dL_law_1173 : decode cL_law 1173 = .ok (.iadd, 1) := by decide +kernel
theorem dL_law_1174 : decode cL_law 1174 = .ok (.iaload, 1) := by decide +kernel
theorem dL_law_1175 : decode cL_law 1175 = .ok (.ifCond .eq 7, 3) := by decide +kernel
theorem dL_law_1178 : decode cL_law 1178 = .ok (.iconst 1, 1) := by decide +kernel
theorem dL_law_1179 : decode cL_law 1179 = .ok (.goto 4, 3) := by decide +kernel
theorem dL_law_1182 : decode cL_law 1182 = .ok (.iconst 0, 1) := by decide +kernel
theorem dL_law_1183 : decode cL_law 1183 = .ok (.invokevirtual 140, 3) := by decide +kernel
theorem dL_law_1186 : decode cL_law 1186 = .ok (.if_icmp .eq 30, 3) := by decide +kernel
theorem dL_law_1191 : decode cL_law 1191 = .ok (.aload_n 1, 1) := by decide +kernel
theorem dL_law_1192 : decode cL_law 1192 = .ok (.aload_n 0, 1) := by decide +kernel
theorem dL_law_1193 : decode cL_law 1193 = .ok (.iload 4, 2) := by decide +kernel
theorem dL_law_1195 : decode cL_law 1195 = .ok (.iconst 1, 1) := by decide +kernel
theorem dL_law_1196 : decode cL_law 1196 = .ok (.iadd, 1) := by decide +kernel
theorem dL_law_1197 : decode cL_law 1197 = .ok (.iaload, 1) := by decide +kernel
theorem dL_law_1198 : decode cL_law 1198 = .ok (.invokevirtual 141, 3) := by decide +kernel
theorem dL_law_1201 : decode cL_law 1201 = .ok (.aload_n 2, 1) := by decide +kernel
theorem dL_law_1202 : decode cL_law 1202 = .ok (.aload_n 0, 1) := by decide +kernel
theorem dL_law_1203 : decode cL_law 1203 = .ok (.iload 4, 2) := by decide +kernel
theorem dL_law_1205 : decode cL_law 1205 = .ok (.iconst 1, 1) := by decide +kernel
theorem dL_law_1206 : decode cL_law 1206 = .ok (.iadd, 1) := by decide +kernel
theorem dL_law_1207 : decode cL_law 1207 = .ok (.iaload, 1) := by decide +kernel
theorem dL_law_1208 : decode cL_law 1208 = .ok (.invokevirtual 144, 3) := by decide +kernel
theorem dL_law_1211 : decode cL_law 1211 = .ok (.if_icmp .eq 5, 3) := by decide +kernel
set_option maxHeartbeats 4000000 in
set_option maxRecDepth 100000 in
theorem law_0 {p : Program} {l : Launch} {e : Env} {s : State} {m : MethodId} {below : List Frame} {meth : Method} {c : Code} {b : Nat} {xs : Nat → Int32} {D : va_G} {cyC cyI cyJ cyZ cyO : ClassId} (o0 g0 t0 t1 t21 t32 t37 t42 t43 t45 t50 t54 t58 t2 t4 t8 t9 t10 t3 g1 g2 g3 g4 g5 g6 g7 g8 g9 g10 g11 g12 g13 g14 g15 g16 g17 g18 g19 g20 g21 g22 g23 g24 g25 : Nat) (X : LX p s m meth c b 7 xs D cyC cyI cyJ cyZ cyO) : J p l e room_1 s m #[Value.ref b] below meth c D (fun q : Nat => s.heap.size ≤ q) 8 107 73154 (lw_Z below #[Value.ref b] s) [(t0, .inr (10, [.ref t1, .ref t21, .ref t32, .ref t37, .ref t42, .ref t43, .ref t45, .ref t50, .ref t54, .ref t58])), (t1, .inr (5, [.ref t2, .ref t4, .ref t8, .ref t9, .ref t10, .int 0, .int 0])), (t2, .inr (8, [.ref t3, .int 0, .int 0, .int 0, .int 0, .int 0])), (t3, .inl (cyC, 1000, .inl (fun _ => 0))), (g0, .inr (11, [.int 0, .ref g1, .int 0, .int 0, .ref g2, .ref g3, .ref g4, .int 0, .int 0, .ref g5, .ref g6, .ref g7, .ref g8, .int 0, .ref g9, .ref g10, .int 1, .ref g11, .ref g12, .ref g13, .ref g14, .ref g15, .int 0, .int 0, .int 0, .ref g16, .int 0, .ref g17, .ref g18, .ref g19, .ref g20, .ref g21, .ref g22, .int 0, .int 0, .int 0, .ref g23, .ref g24, .int 0, .int 0, .int 0, .int 0, .ref g25])), (g1, .inl (cyI, 1000, .inl (fun _ => 0)))] 168 [(4, .int 0), (3, .ref o0), (2, .ref g0), (1, .ref t0), (0, .ref b)] [] := by
  have C := X.1
  have hX := X.2.1
  have hbl := X.2.2.1
  have hbA : ¬ (fun q : Nat => s.heap.size ≤ q) b := Nat.not_le.mpr hbl
  refine j_aload_n (pc := 168) C dL_law_168 rfl 3 rfl ?_
  refine j_aload_n (pc := 169) C dL_law_169 rfl 4 rfl ?_
  refine j_iload (pc := 170) C dL_law_170 0 rfl ?_
  refine j_iconst (pc := 172) (v := 1) C dL_law_172 (by decide) ?_
  refine j_iadd (pc := 173) (v := 1) C dL_law_173 (by decide) ?_
  refine j_sld (pc := 174) (k := 1) C hX hbl hbA (by decide) (by decide) (by decide) dL_law_174 ?_
  refine j_i2l (pc := 175) C dL_law_175 rfl ?_
  refine j_bipush (pc := 176) (v := 32) C dL_law_176 (by decide) ?_
  refine j_lshl (pc := 178) C dL_law_178 rfl ?_
  refine j_aload_n (pc := 179) C dL_law_179 rfl 4 rfl ?_
  refine j_iload (pc := 180) C dL_law_180 0 rfl ?_
  refine j_iconst (pc := 182) (v := 2) C dL_law_182 (by decide) ?_
  refine j_iadd (pc := 183) (v := 2) C dL_law_183 (by decide) ?_
  refine j_sld (pc := 184) (k := 2) C hX hbl hbA (by decide) (by decide) (by decide) dL_law_184 ?_
  refine j_i2l (pc := 185) C dL_law_185 rfl ?_
  refine j_ldc2 (pc := 186) C wd_386 dL_law_186 ?_
  refine j_land (pc := 189) C dL_law_189 rfl ?_
  refine j_lor (pc := 190) C dL_law_190 rfl ?_
  refine j_aload_n (pc := 191) C dL_law_191 rfl 4 rfl ?_
  refine j_iload (pc := 192) C dL_law_192 0 rfl ?_
  refine j_iconst (pc := 194) (v := 3) C dL_law_194 (by decide) ?_
  refine j_iadd (pc := 195) (v := 3) C dL_law_195 (by decide) ?_
  refine j_sld (pc := 196) (k := 3) C hX hbl hbA (by decide) (by decide) (by decide) dL_law_196 ?_
  refine j_i2l (pc := 197) C dL_law_197 rfl ?_
  refine j_bipush (pc := 198) (v := 32) C dL_law_198 (by decide) ?_
  refine j_lshl (pc := 200) C dL_law_200 rfl ?_
  refine j_aload_n (pc := 201) C dL_law_201 rfl 4 rfl ?_
  refine j_iload (pc := 202) C dL_law_202 0 rfl ?_
  refine j_iconst (pc := 204) (v := 4) C dL_law_204 (by decide) ?_
  refine j_iadd (pc := 205) (v := 4) C dL_law_205 (by decide) ?_
  refine j_sld (pc := 206) (k := 4) C hX hbl hbA (by decide) (by decide) (by decide) dL_law_206 ?_
  refine j_i2l (pc := 207) C dL_law_207 rfl ?_
  refine j_ldc2 (pc := 208) C wd_386 dL_law_208 ?_
  refine j_land (pc := 211) C dL_law_211 rfl ?_
  refine j_lor (pc := 212) C dL_law_212 rfl ?_
  refine j_aload_n (pc := 213) C dL_law_213 rfl 4 rfl ?_
  refine j_iload (pc := 214) C dL_law_214 0 rfl ?_
  refine j_iconst (pc := 216) (v := 5) C dL_law_216 (by decide) ?_
  refine j_iadd (pc := 217) (v := 5) C dL_law_217 (by decide) ?_
  refine j_sld (pc := 218) (k := 5) C hX hbl hbA (by decide) (by decide) (by decide) dL_law_218 ?_
  refine j_i2l (pc := 219) C dL_law_219 rfl ?_
  refine j_bipush (pc := 220) (v := 32) C dL_law_220 (by decide) ?_
  refine j_lshl (pc := 222) C dL_law_222 rfl ?_
  refine j_aload_n (pc := 223) C dL_law_223 rfl 4 rfl ?_
  refine j_iload (pc := 224) C dL_law_224 0 rfl ?_
  refine j_bipush (pc := 226) (v := 6) C dL_law_226 (by decide) ?_
  refine j_iadd (pc := 228) (v := 6) C dL_law_228 (by decide) ?_
  refine j_sld (pc := 229) (k := 6) C hX hbl hbA (by decide) (by decide) (by decide) dL_law_229 ?_
  refine j_i2l (pc := 230) C dL_law_230 rfl ?_
  refine j_ldc2 (pc := 231) C wd_386 dL_law_231 ?_
  refine j_land (pc := 234) C dL_law_234 rfl ?_
  refine j_lor (pc := 235) C dL_law_235 rfl ?_
  refine j_callV (pc := 236) (As := [.long ((((xs 1)).toInt64 <<< ((32 : Int32).toInt64 &&& 63)) ||| (((xs 2)).toInt64 &&& 4294967295)), .long ((((xs 3)).toInt64 <<< ((32 : Int32).toInt64 &&& 63)) ||| (((xs 4)).toInt64 &&& 4294967295)), .long ((((xs 5)).toInt64 <<< ((32 : Int32).toInt64 &&& 63)) ||| (((xs 6)).toInt64 &&& 4294967295))]) (rest := []) (wr := [(g0, .inr (11, [.int 0, .ref g1, .int 0, .int 0, .ref g2, .ref g3, .ref g4, .int 0, .int 0, .ref g5, .ref g6, .ref g7, .ref g8, .int 0, .ref g9, .ref g10, .int 1, .ref g11, .ref g12, .ref g13, .ref g14, .ref g15, .int 0, .int 0, .int 0, .ref g16, .int 0, .ref g17, .ref g18, .ref g19, .ref g20, .ref g21, .ref g22, .int 0, .int 0, .int 0, .ref g23, .ref g24, .int 0, .int 0, .int 0, .int 0, .ref g25])), (g1, .inl (cyI, 1000, .inl (fun _ => 0)))]) C (c_X10_feed l D cyC cyI cyJ cyZ cyO ((((xs 1)).toInt64 <<< ((32 : Int32).toInt64 &&& 63)) ||| (((xs 2)).toInt64 &&& 4294967295)) ((((xs 3)).toInt64 <<< ((32 : Int32).toInt64 &&& 63)) ||| (((xs 4)).toInt64 &&& 4294967295)) ((((xs 5)).toInt64 <<< ((32 : Int32).toInt64 &&& 63)) ||| (((xs 6)).toInt64 &&& 4294967295)) t0 t1 t21 t32 t37 t42 t43 t45 t50 t54 t58 t2 t4 t8 t9 t10 t3) wd_387 wd_180 wd_388 wd_389 wd_390 ⟨by decide, by decide, rfl⟩ rfl ⟨rfl, rfl, by decide, by decide⟩ ⟨by decide, by decide⟩ [0, 1, 2, 3] [4, 5] rfl rfl ⟨by decide, by decide, by decide⟩ 0 rfl rfl rfl (Nat.le_of_ble_eq_true rfl) dL_law_236 (fun u_1 hw_2 => ?_)
  refine j_eq (ws2 := [(g0, .inr (11, [.int 0, .ref g1, .int 0, .int 0, .ref g2, .ref g3, .ref g4, .int 0, .int 0, .ref g5, .ref g6, .ref g7, .ref g8, .int 0, .ref g9, .ref g10, .int 1, .ref g11, .ref g12, .ref g13, .ref g14, .ref g15, .int 0, .int 0, .int 0, .ref g16, .int 0, .ref g17, .ref g18, .ref g19, .ref g20, .ref g21, .ref g22, .int 0, .int 0, .int 0, .ref g23, .ref g24, .int 0, .int 0, .int 0, .int 0, .ref g25])), (g1, .inl (cyI, 1000, .inl (fun _ => 0)))]) (pc2 := 239) (lv2 := [(4, .int 0), (3, .ref o0), (2, .ref g0), (1, .ref t0), (0, .ref b)]) (st2 := [.int (u_1.2.1 0)]) rfl rfl rfl rfl ?_
  refine j_aload_n (pc := 239) C dL_law_239 rfl 2 rfl ?_
  refine j_aload_n (pc := 240) C dL_law_240 rfl 4 rfl ?_
  refine j_iload (pc := 241) C dL_law_241 0 rfl ?_
  refine j_iconst (pc := 243) (v := 1) C dL_law_243 (by decide) ?_
  refine j_iadd (pc := 244) (v := 1) C dL_law_244 (by decide) ?_
  refine j_sld (pc := 245) (k := 1) C hX hbl hbA (by decide) (by decide) (by decide) dL_law_245 ?_
  refine j_i2l (pc := 246) C dL_law_246 rfl ?_
  refine j_bipush (pc := 247) (v := 32) C dL_law_247 (by decide) ?_
  refine j_lshl (pc := 249) C dL_law_249 rfl ?_
  refine j_aload_n (pc := 250) C dL_law_250 rfl 4 rfl ?_
  refine j_iload (pc := 251) C dL_law_251 0 rfl ?_
  refine j_iconst (pc := 253) (v := 2) C dL_law_253 (by decide) ?_
  refine j_iadd (pc := 254) (v := 2) C dL_law_254 (by decide) ?_
  refine j_sld (pc := 255) (k := 2) C hX hbl hbA (by decide) (by decide) (by decide) dL_law_255 ?_
  refine j_i2l (pc := 256) C dL_law_256 rfl ?_
  refine j_ldc2 (pc := 257) C wd_386 dL_law_257 ?_
  refine j_land (pc := 260) C dL_law_260 rfl ?_
  refine j_lor (pc := 261) C dL_law_261 rfl ?_
  refine j_aload_n (pc := 262) C dL_law_262 rfl 4 rfl ?_
  refine j_iload (pc := 263) C dL_law_263 0 rfl ?_
  refine j_iconst (pc := 265) (v := 3) C dL_law_265 (by decide) ?_
  refine j_iadd (pc := 266) (v := 3) C dL_law_266 (by decide) ?_
  refine j_sld (pc := 267) (k := 3) C hX hbl hbA (by decide) (by decide) (by decide) dL_law_267 ?_
  refine j_i2l (pc := 268) C dL_law_268 rfl ?_
  refine j_bipush (pc := 269) (v := 32) C dL_law_269 (by decide) ?_
  refine j_lshl (pc := 271) C dL_law_271 rfl ?_
  refine j_aload_n (pc := 272) C dL_law_272 rfl 4 rfl ?_
  refine j_iload (pc := 273) C dL_law_273 0 rfl ?_
  refine j_iconst (pc := 275) (v := 4) C dL_law_275 (by decide) ?_
  refine j_iadd (pc := 276) (v := 4) C dL_law_276 (by decide) ?_
  refine j_sld (pc := 277) (k := 4) C hX hbl hbA (by decide) (by decide) (by decide) dL_law_277 ?_
  refine j_i2l (pc := 278) C dL_law_278 rfl ?_
  refine j_ldc2 (pc := 279) C wd_386 dL_law_279 ?_
  refine j_land (pc := 282) C dL_law_282 rfl ?_
  refine j_lor (pc := 283) C dL_law_283 rfl ?_
  refine j_aload_n (pc := 284) C dL_law_284 rfl 4 rfl ?_
  refine j_iload (pc := 285) C dL_law_285 0 rfl ?_
  refine j_iconst (pc := 287) (v := 5) C dL_law_287 (by decide) ?_
  refine j_iadd (pc := 288) (v := 5) C dL_law_288 (by decide) ?_
  refine j_sld (pc := 289) (k := 5) C hX hbl hbA (by decide) (by decide) (by decide) dL_law_289 ?_
  refine j_i2l (pc := 290) C dL_law_290 rfl ?_
  refine j_bipush (pc := 291) (v := 32) C dL_law_291 (by decide) ?_
  refine j_lshl (pc := 293) C dL_law_293 rfl ?_
  refine j_aload_n (pc := 294) C dL_law_294 rfl 4 rfl ?_
  refine j_iload (pc := 295) C dL_law_295 0 rfl ?_
  refine j_bipush (pc := 297) (v := 6) C dL_law_297 (by decide) ?_
  refine j_iadd (pc := 299) (v := 6) C dL_law_299 (by decide) ?_
  refine j_sld (pc := 300) (k := 6) C hX hbl hbA (by decide) (by decide) (by decide) dL_law_300 ?_
  refine j_i2l (pc := 301) C dL_law_301 rfl ?_
  refine j_ldc2 (pc := 302) C wd_386 dL_law_302 ?_
  refine j_land (pc := 305) C dL_law_305 rfl ?_
  refine j_lor (pc := 306) C dL_law_306 rfl ?_
  refine j_callV (pc := 307) (As := [.long ((((xs 1)).toInt64 <<< ((32 : Int32).toInt64 &&& 63)) ||| (((xs 2)).toInt64 &&& 4294967295)), .long ((((xs 3)).toInt64 <<< ((32 : Int32).toInt64 &&& 63)) ||| (((xs 4)).toInt64 &&& 4294967295)), .long ((((xs 5)).toInt64 <<< ((32 : Int32).toInt64 &&& 63)) ||| (((xs 6)).toInt64 &&& 4294967295))]) (rest := [.int (u_1.2.1 0)]) (wr := []) C (c_X11_feed l D cyC cyI cyJ cyZ cyO ((((xs 1)).toInt64 <<< ((32 : Int32).toInt64 &&& 63)) ||| (((xs 2)).toInt64 &&& 4294967295)) ((((xs 3)).toInt64 <<< ((32 : Int32).toInt64 &&& 63)) ||| (((xs 4)).toInt64 &&& 4294967295)) ((((xs 5)).toInt64 <<< ((32 : Int32).toInt64 &&& 63)) ||| (((xs 6)).toInt64 &&& 4294967295)) g0 g1 g2 g3 g4 g5 g6 g7 g8 g9 g10 g11 g12 g13 g14 g15 g16 g17 g18 g19 g20 g21 g22 g23 g24 g25) wd_391 wd_313 wd_392 wd_393 wd_394 ⟨by decide, by decide, rfl⟩ rfl ⟨rfl, rfl, by decide, by decide⟩ ⟨by decide, by decide⟩ [0, 1] [] rfl rfl ⟨by decide, by decide, by decide⟩ 0 rfl rfl rfl (Nat.le_of_ble_eq_true rfl) dL_law_307 (fun u_3 hw_4 => ?_)
  refine j_eq (ws2 := []) (pc2 := 310) (lv2 := [(4, .int 0), (3, .ref o0), (2, .ref g0), (1, .ref t0), (0, .ref b)]) (st2 := [.int (u_3.2.1 0), .int (u_1.2.1 0)]) rfl rfl rfl rfl ?_
  refine j_icmp_eq_t (pc := 310) (tgt := 1216) C dL_law_310 (by decide) (hw_2.trans hw_4.symm) ?_
  exact j_lv [0, 1, 2, 3, 4] rfl (law_tail X (by decide) (by decide))
set_option maxHeartbeats 4000000 in
set_option maxRecDepth 100000 in
theorem law_1 {p : Program} {l : Launch} {e : Env} {s : State} {m : MethodId} {below : List Frame} {meth : Method} {c : Code} {b : Nat} {xs : Nat → Int32} {D : va_G} {cyC cyI cyJ cyZ cyO : ClassId} (o0 g0 t0 t1 t21 t32 t37 t42 t43 t45 t50 t54 t58 t2 t4 t8 t9 t10 t3 t5 t6 t7 t11 t12 t13 t14 t15 t16 t17 t18 t19 t20 t33 t34 t35 t36 t60 t65 t70 t75 t46 t47 t48 t49 t51 t52 t53 t61 t62 t63 t64 t66 t67 t68 t69 t71 t72 t73 t74 t76 t77 t78 t79 g1 g2 g3 g4 g5 g6 g7 g8 g9 g10 g11 g12 g13 g14 g15 g16 g17 g18 g19 g20 g21 g22 g23 g24 g25 : Nat) (X : LX p s m meth c b 7 xs D cyC cyI cyJ cyZ cyO) : J p l e room_1 s m #[Value.ref b] below meth c D (fun q : Nat => s.heap.size ≤ q) 8 107 73154 (lw_Z below #[Value.ref b] s) [(t0, .inr (10, [.ref t1, .ref t21, .ref t32, .ref t37, .ref t42, .ref t43, .ref t45, .ref t50, .ref t54, .ref t58])), (t1, .inr (5, [.ref t2, .ref t4, .ref t8, .ref t9, .ref t10, .int 0, .int 0])), (t2, .inr (8, [.ref t3, .int 0, .int 0, .int 0, .int 0, .int 0])), (t4, .inr (1, [.int 0, .int 0, .ref t5, .ref t6, .ref t7])), (t10, .inr (9, [.int 0, .int 0, .int 0, .ref t11, .ref t12, .ref t13, .ref t14, .ref t15, .ref t16, .int 0, .int 0, .ref t17, .ref t18, .ref t19, .ref t20])), (t16, .inl (cyI, 12, .inl (fun _ => 0))), (t17, .inl (cyI, 12, .inl (fun _ => 0))), (t32, .inr (7, [.ref t33, .ref t34, .ref t35, .ref t36, .int 0, .int 0, .int 0])), (t33, .inl (cyI, 12, .inl (fun _ => (-1)))), (t42, .inl (cyO, 4, .inr (.inr (.inr (.inr (va_up (va_up (va_up (va_up (fun _ => none) 0 (some t60)) 1 (some t65)) 2 (some t70)) 3 (some t75))))))), (t45, .inr (3, [.int 0, .ref t46, .ref t47, .int 0, .int 0, .int 0, .ref t48, .ref t49])), (t46, .inl (cyI, 12, .inl (fun _ => 0))), (t50, .inr (0, [.int 0, .int 0, .ref t51, .ref t52, .ref t53])), (t60, .inr (7, [.ref t61, .ref t62, .ref t63, .ref t64, .int 0, .int 0, .int 0])), (t65, .inr (7, [.ref t66, .ref t67, .ref t68, .ref t69, .int 0, .int 0, .int 0])), (t70, .inr (7, [.ref t71, .ref t72, .ref t73, .ref t74, .int 0, .int 0, .int 0])), (t75, .inr (7, [.ref t76, .ref t77, .ref t78, .ref t79, .int 0, .int 0, .int 0])), (g0, .inr (11, [.int 0, .ref g1, .int 0, .int 0, .ref g2, .ref g3, .ref g4, .int 0, .int 0, .ref g5, .ref g6, .ref g7, .ref g8, .int 0, .ref g9, .ref g10, .int 1, .ref g11, .ref g12, .ref g13, .ref g14, .ref g15, .int 0, .int 0, .int 0, .ref g16, .int 0, .ref g17, .ref g18, .ref g19, .ref g20, .ref g21, .ref g22, .int 0, .int 0, .int 0, .ref g23, .ref g24, .int 0, .int 0, .int 0, .int 0, .ref g25])), (g2, .inl (cyI, 1002, .inl (fun _ => 0))), (g3, .inl (cyI, 1002, .inl (fun _ => 0))), (g6, .inl (cyI, 240, .inl (fun _ => 0))), (g7, .inl (cyI, 2200, .inl (fun _ => 0))), (g8, .inl (cyI, 2200, .inl (fun _ => 0))), (g10, .inl (cyZ, 12, .inl (fun _ => 0))), (g14, .inl (cyI, 2760, .inl (fun _ => 0))), (g15, .inl (cyZ, 4, .inl (fun _ => 0)))] 315 [(4, .int 0), (3, .ref o0), (2, .ref g0), (1, .ref t0), (0, .ref b)] [] := by
  have C := X.1
  have hX := X.2.1
  have hbl := X.2.2.1
  have hbA : ¬ (fun q : Nat => s.heap.size ≤ q) b := Nat.not_le.mpr hbl
  refine j_aload_n (pc := 315) C dL_law_315 rfl 3 rfl ?_
  refine j_callV (pc := 316) (As := []) (rest := []) (wr := [(g0, .inr (11, [.int 0, .ref g1, .int 0, .int 0, .ref g2, .ref g3, .ref g4, .int 0, .int 0, .ref g5, .ref g6, .ref g7, .ref g8, .int 0, .ref g9, .ref g10, .int 1, .ref g11, .ref g12, .ref g13, .ref g14, .ref g15, .int 0, .int 0, .int 0, .ref g16, .int 0, .ref g17, .ref g18, .ref g19, .ref g20, .ref g21, .ref g22, .int 0, .int 0, .int 0, .ref g23, .ref g24, .int 0, .int 0, .int 0, .int 0, .ref g25])), (g2, .inl (cyI, 1002, .inl (fun _ => 0))), (g3, .inl (cyI, 1002, .inl (fun _ => 0))), (g6, .inl (cyI, 240, .inl (fun _ => 0))), (g7, .inl (cyI, 2200, .inl (fun _ => 0))), (g8, .inl (cyI, 2200, .inl (fun _ => 0))), (g10, .inl (cyZ, 12, .inl (fun _ => 0))), (g14, .inl (cyI, 2760, .inl (fun _ => 0))), (g15, .inl (cyZ, 4, .inl (fun _ => 0)))]) C (c_X10_cupboard l D cyC cyI cyJ cyZ cyO t0 t1 t21 t32 t37 t42 t43 t45 t50 t54 t58 t2 t4 t8 t9 t10 t3 t5 t6 t7 t11 t12 t13 t14 t15 t16 t17 t18 t19 t20 t33 t34 t35 t36 t60 t65 t70 t75 t46 t47 t48 t49 t51 t52 t53 t61 t62 t63 t64 t66 t67 t68 t69 t71 t72 t73 t74 t76 t77 t78 t79) wd_395 wd_180 wd_396 wd_397 wd_398 ⟨by decide, by decide, rfl⟩ rfl ⟨rfl, rfl, by decide, by decide⟩ ⟨by decide, by decide⟩ [0, 1, 2, 3, 4, 5, 6, 7, 8, 9, 10, 11, 12, 13, 14, 15, 16] [17, 18, 19, 20, 21, 22, 23, 24, 25] rfl rfl ⟨by decide, by decide, by decide⟩ 0 rfl rfl rfl (Nat.le_of_ble_eq_true rfl) dL_law_316 (fun u_1 hw_2 => ?_)
  refine j_eq (ws2 := [(g0, .inr (11, [.int 0, .ref g1, .int 0, .int 0, .ref g2, .ref g3, .ref g4, .int 0, .int 0, .ref g5, .ref g6, .ref g7, .ref g8, .int 0, .ref g9, .ref g10, .int 1, .ref g11, .ref g12, .ref g13, .ref g14, .ref g15, .int 0, .int 0, .int 0, .ref g16, .int 0, .ref g17, .ref g18, .ref g19, .ref g20, .ref g21, .ref g22, .int 0, .int 0, .int 0, .ref g23, .ref g24, .int 0, .int 0, .int 0, .int 0, .ref g25])), (g2, .inl (cyI, 1002, .inl (fun _ => 0))), (g3, .inl (cyI, 1002, .inl (fun _ => 0))), (g6, .inl (cyI, 240, .inl (fun _ => 0))), (g7, .inl (cyI, 2200, .inl (fun _ => 0))), (g8, .inl (cyI, 2200, .inl (fun _ => 0))), (g10, .inl (cyZ, 12, .inl (fun _ => 0))), (g14, .inl (cyI, 2760, .inl (fun _ => 0))), (g15, .inl (cyZ, 4, .inl (fun _ => 0)))]) (pc2 := 319) (lv2 := [(4, .int 0), (3, .ref o0), (2, .ref g0), (1, .ref t0), (0, .ref b)]) (st2 := [.int 0]) rfl rfl rfl rfl ?_
  refine j_aload_n (pc := 319) C dL_law_319 rfl 2 rfl ?_
  refine j_callV (pc := 320) (As := []) (rest := [.int 0]) (wr := []) C (c_X11_cupboard l D cyC cyI cyJ cyZ cyO g0 g1 g2 g3 g4 g5 g6 g7 g8 g9 g10 g11 g12 g13 g14 g15 g16 g17 g18 g19 g20 g21 g22 g23 g24 g25) wd_399 wd_313 wd_400 wd_401 wd_402 ⟨by decide, by decide, rfl⟩ rfl ⟨rfl, rfl, by decide, by decide⟩ ⟨by decide, by decide⟩ [0, 1, 2, 3, 4, 5, 6, 7, 8] [] rfl rfl ⟨by decide, by decide, by decide⟩ 0 rfl rfl rfl (Nat.le_of_ble_eq_true rfl) dL_law_320 (fun u_3 hw_4 => ?_)
  refine j_eq (ws2 := []) (pc2 := 323) (lv2 := [(4, .int 0), (3, .ref o0), (2, .ref g0), (1, .ref t0), (0, .ref b)]) (st2 := [.int 0, .int 0]) rfl rfl rfl rfl ?_
  refine j_icmp_eq_t (pc := 323) (tgt := 1216) C dL_law_323 (by decide) (by decide) ?_
  exact j_lv [0, 1, 2, 3, 4] rfl (law_tail X (by decide) (by decide))
set_option maxHeartbeats 4000000 in
set_option maxRecDepth 100000 in
theorem law_2 {p : Program} {l : Launch} {e : Env} {s : State} {m : MethodId} {below : List Frame} {meth : Method} {c : Code} {b : Nat} {xs : Nat → Int32} {D : va_G} {cyC cyI cyJ cyZ cyO : ClassId} (o0 g0 t0 t1 t21 t32 t37 t42 t43 t45 t50 t54 t58 t22 t23 t24 t25 t26 t27 t28 t29 t30 t31 g1 g2 g3 g4 g5 g6 g7 g8 g9 g10 g11 g12 g13 g14 g15 g16 g17 g18 g19 g20 g21 g22 g23 g24 g25 : Nat) (X : LX p s m meth c b 7 xs D cyC cyI cyJ cyZ cyO) : J p l e room_1 s m #[Value.ref b] below meth c D (fun q : Nat => s.heap.size ≤ q) 8 107 73154 (lw_Z below #[Value.ref b] s) [(t0, .inr (10, [.ref t1, .ref t21, .ref t32, .ref t37, .ref t42, .ref t43, .ref t45, .ref t50, .ref t54, .ref t58])), (t21, .inr (9, [.int 0, .int 0, .int 0, .ref t22, .ref t23, .ref t24, .ref t25, .ref t26, .ref t27, .int 0, .int 0, .ref t28, .ref t29, .ref t30, .ref t31])), (g0, .inr (11, [.int 0, .ref g1, .int 0, .int 0, .ref g2, .ref g3, .ref g4, .int 0, .int 0, .ref g5, .ref g6, .ref g7, .ref g8, .int 0, .ref g9, .ref g10, .int 1, .ref g11, .ref g12, .ref g13, .ref g14, .ref g15, .int 0, .int 0, .int 0, .ref g16, .int 0, .ref g17, .ref g18, .ref g19, .ref g20, .ref g21, .ref g22, .int 0, .int 0, .int 0, .ref g23, .ref g24, .int 0, .int 0, .int 0, .int 0, .ref g25])), (g6, .inl (cyI, 240, .inl (fun _ => 0)))] 328 [(4, .int 0), (3, .ref o0), (2, .ref g0), (1, .ref t0), (0, .ref b)] [] := by
  have C := X.1
  have hX := X.2.1
  have hbl := X.2.2.1
  have hbA : ¬ (fun q : Nat => s.heap.size ≤ q) b := Nat.not_le.mpr hbl
  refine j_aload_n (pc := 328) C dL_law_328 rfl 3 rfl ?_
  refine j_aload_n (pc := 329) C dL_law_329 rfl 4 rfl ?_
  refine j_iload (pc := 330) C dL_law_330 0 rfl ?_
  refine j_iconst (pc := 332) (v := 1) C dL_law_332 (by decide) ?_
  refine j_iadd (pc := 333) (v := 1) C dL_law_333 (by decide) ?_
  refine j_sld (pc := 334) (k := 1) C hX hbl hbA (by decide) (by decide) (by decide) dL_law_334 ?_
  refine j_aload_n (pc := 335) C dL_law_335 rfl 4 rfl ?_
  refine j_iload (pc := 336) C dL_law_336 0 rfl ?_
  refine j_iconst (pc := 338) (v := 2) C dL_law_338 (by decide) ?_
  refine j_iadd (pc := 339) (v := 2) C dL_law_339 (by decide) ?_
  refine j_sld (pc := 340) (k := 2) C hX hbl hbA (by decide) (by decide) (by decide) dL_law_340 ?_
  refine j_callV (pc := 341) (As := [.int (xs 1), .int (xs 2)]) (rest := []) (wr := [(g0, .inr (11, [.int 0, .ref g1, .int 0, .int 0, .ref g2, .ref g3, .ref g4, .int 0, .int 0, .ref g5, .ref g6, .ref g7, .ref g8, .int 0, .ref g9, .ref g10, .int 1, .ref g11, .ref g12, .ref g13, .ref g14, .ref g15, .int 0, .int 0, .int 0, .ref g16, .int 0, .ref g17, .ref g18, .ref g19, .ref g20, .ref g21, .ref g22, .int 0, .int 0, .int 0, .ref g23, .ref g24, .int 0, .int 0, .int 0, .int 0, .ref g25])), (g6, .inl (cyI, 240, .inl (fun _ => 0)))]) C (c_X10_ware l D cyC cyI cyJ cyZ cyO (xs 1) (xs 2) t0 t1 t21 t32 t37 t42 t43 t45 t50 t54 t58 t22 t23 t24 t25 t26 t27 t28 t29 t30 t31) wd_403 wd_180 wd_404 wd_405 wd_406 ⟨by decide, by decide, rfl⟩ rfl ⟨rfl, rfl, by decide, by decide⟩ ⟨by decide, by decide⟩ [0, 1] [2, 3] rfl rfl ⟨by decide, by decide, by decide⟩ 0 rfl rfl rfl (Nat.le_of_ble_eq_true rfl) dL_law_341 (fun u_1 hw_2 => ?_)
  refine j_eq (ws2 := [(g0, .inr (11, [.int 0, .ref g1, .int 0, .int 0, .ref g2, .ref g3, .ref g4, .int 0, .int 0, .ref g5, .ref g6, .ref g7, .ref g8, .int 0, .ref g9, .ref g10, .int 1, .ref g11, .ref g12, .ref g13, .ref g14, .ref g15, .int 0, .int 0, .int 0, .ref g16, .int 0, .ref g17, .ref g18, .ref g19, .ref g20, .ref g21, .ref g22, .int 0, .int 0, .int 0, .ref g23, .ref g24, .int 0, .int 0, .int 0, .int 0, .ref g25])), (g6, .inl (cyI, 240, .inl (fun _ => 0)))]) (pc2 := 344) (lv2 := [(4, .int 0), (3, .ref o0), (2, .ref g0), (1, .ref t0), (0, .ref b)]) (st2 := [.int (-1)]) rfl rfl rfl rfl ?_
  refine j_aload_n (pc := 344) C dL_law_344 rfl 2 rfl ?_
  refine j_aload_n (pc := 345) C dL_law_345 rfl 4 rfl ?_
  refine j_iload (pc := 346) C dL_law_346 0 rfl ?_
  refine j_iconst (pc := 348) (v := 1) C dL_law_348 (by decide) ?_
  refine j_iadd (pc := 349) (v := 1) C dL_law_349 (by decide) ?_
  refine j_sld (pc := 350) (k := 1) C hX hbl hbA (by decide) (by decide) (by decide) dL_law_350 ?_
  refine j_aload_n (pc := 351) C dL_law_351 rfl 4 rfl ?_
  refine j_iload (pc := 352) C dL_law_352 0 rfl ?_
  refine j_iconst (pc := 354) (v := 2) C dL_law_354 (by decide) ?_
  refine j_iadd (pc := 355) (v := 2) C dL_law_355 (by decide) ?_
  refine j_sld (pc := 356) (k := 2) C hX hbl hbA (by decide) (by decide) (by decide) dL_law_356 ?_
  refine j_callV (pc := 357) (As := [.int (xs 1), .int (xs 2)]) (rest := [.int (-1)]) (wr := []) C (c_X11_ware l D cyC cyI cyJ cyZ cyO (xs 1) (xs 2) g0 g1 g2 g3 g4 g5 g6 g7 g8 g9 g10 g11 g12 g13 g14 g15 g16 g17 g18 g19 g20 g21 g22 g23 g24 g25) wd_407 wd_313 wd_408 wd_409 wd_410 ⟨by decide, by decide, rfl⟩ rfl ⟨rfl, rfl, by decide, by decide⟩ ⟨by decide, by decide⟩ [0, 1] [] rfl rfl ⟨by decide, by decide, by decide⟩ 0 rfl rfl rfl (Nat.le_of_ble_eq_true rfl) dL_law_357 (fun u_3 hw_4 => ?_)
  refine j_eq (ws2 := []) (pc2 := 360) (lv2 := [(4, .int 0), (3, .ref o0), (2, .ref g0), (1, .ref t0), (0, .ref b)]) (st2 := [.int (-1), .int (-1)]) rfl rfl rfl rfl ?_
  refine j_icmp_eq_t (pc := 360) (tgt := 1216) C dL_law_360 (by decide) (by decide) ?_
  exact j_lv [0, 1, 2, 3, 4] rfl (law_tail X (by decide) (by decide))
set_option maxHeartbeats 4000000 in
set_option maxRecDepth 100000 in
theorem law_3 {p : Program} {l : Launch} {e : Env} {s : State} {m : MethodId} {below : List Frame} {meth : Method} {c : Code} {b : Nat} {xs : Nat → Int32} {D : va_G} {cyC cyI cyJ cyZ cyO : ClassId} (o0 g0 t0 t1 t21 t32 t37 t42 t43 t45 t50 t54 t58 t22 t23 t24 t25 t26 t27 t28 t29 t30 t31 g1 g2 g3 g4 g5 g6 g7 g8 g9 g10 g11 g12 g13 g14 g15 g16 g17 g18 g19 g20 g21 g22 g23 g24 g25 : Nat) (X : LX p s m meth c b 7 xs D cyC cyI cyJ cyZ cyO) : J p l e room_1 s m #[Value.ref b] below meth c D (fun q : Nat => s.heap.size ≤ q) 8 107 73154 (lw_Z below #[Value.ref b] s) [(t0, .inr (10, [.ref t1, .ref t21, .ref t32, .ref t37, .ref t42, .ref t43, .ref t45, .ref t50, .ref t54, .ref t58])), (t21, .inr (9, [.int 0, .int 0, .int 0, .ref t22, .ref t23, .ref t24, .ref t25, .ref t26, .ref t27, .int 0, .int 0, .ref t28, .ref t29, .ref t30, .ref t31])), (g0, .inr (11, [.int 0, .ref g1, .int 0, .int 0, .ref g2, .ref g3, .ref g4, .int 0, .int 0, .ref g5, .ref g6, .ref g7, .ref g8, .int 0, .ref g9, .ref g10, .int 1, .ref g11, .ref g12, .ref g13, .ref g14, .ref g15, .int 0, .int 0, .int 0, .ref g16, .int 0, .ref g17, .ref g18, .ref g19, .ref g20, .ref g21, .ref g22, .int 0, .int 0, .int 0, .ref g23, .ref g24, .int 0, .int 0, .int 0, .int 0, .ref g25])), (g6, .inl (cyI, 240, .inl (fun _ => 0)))] 365 [(4, .int 0), (3, .ref o0), (2, .ref g0), (1, .ref t0), (0, .ref b)] [] := by
  have C := X.1
  have hX := X.2.1
  have hbl := X.2.2.1
  have hbA : ¬ (fun q : Nat => s.heap.size ≤ q) b := Nat.not_le.mpr hbl
  refine j_aload_n (pc := 365) C dL_law_365 rfl 3 rfl ?_
  refine j_aload_n (pc := 366) C dL_law_366 rfl 4 rfl ?_
  refine j_iload (pc := 367) C dL_law_367 0 rfl ?_
  refine j_iconst (pc := 369) (v := 1) C dL_law_369 (by decide) ?_
  refine j_iadd (pc := 370) (v := 1) C dL_law_370 (by decide) ?_
  refine j_sld (pc := 371) (k := 1) C hX hbl hbA (by decide) (by decide) (by decide) dL_law_371 ?_
  refine j_aload_n (pc := 372) C dL_law_372 rfl 4 rfl ?_
  refine j_iload (pc := 373) C dL_law_373 0 rfl ?_
  refine j_iconst (pc := 375) (v := 2) C dL_law_375 (by decide) ?_
  refine j_iadd (pc := 376) (v := 2) C dL_law_376 (by decide) ?_
  refine j_sld (pc := 377) (k := 2) C hX hbl hbA (by decide) (by decide) (by decide) dL_law_377 ?_
  refine j_callV (pc := 378) (As := [.int (xs 1), .int (xs 2)]) (rest := []) (wr := [(g0, .inr (11, [.int 0, .ref g1, .int 0, .int 0, .ref g2, .ref g3, .ref g4, .int 0, .int 0, .ref g5, .ref g6, .ref g7, .ref g8, .int 0, .ref g9, .ref g10, .int 1, .ref g11, .ref g12, .ref g13, .ref g14, .ref g15, .int 0, .int 0, .int 0, .ref g16, .int 0, .ref g17, .ref g18, .ref g19, .ref g20, .ref g21, .ref g22, .int 0, .int 0, .int 0, .ref g23, .ref g24, .int 0, .int 0, .int 0, .int 0, .ref g25])), (g6, .inl (cyI, 240, .inl (fun _ => 0)))]) C (c_X10_shelf l D cyC cyI cyJ cyZ cyO (xs 1) (xs 2) t0 t1 t21 t32 t37 t42 t43 t45 t50 t54 t58 t22 t23 t24 t25 t26 t27 t28 t29 t30 t31) wd_411 wd_180 wd_412 wd_413 wd_414 ⟨by decide, by decide, rfl⟩ rfl ⟨rfl, rfl, by decide, by decide⟩ ⟨by decide, by decide⟩ [0, 1] [2, 3] rfl rfl ⟨by decide, by decide, by decide⟩ 0 rfl rfl rfl (Nat.le_of_ble_eq_true rfl) dL_law_378 (fun u_1 hw_2 => ?_)
  refine j_eq (ws2 := [(g0, .inr (11, [.int 0, .ref g1, .int 0, .int 0, .ref g2, .ref g3, .ref g4, .int 0, .int 0, .ref g5, .ref g6, .ref g7, .ref g8, .int 0, .ref g9, .ref g10, .int 1, .ref g11, .ref g12, .ref g13, .ref g14, .ref g15, .int 0, .int 0, .int 0, .ref g16, .int 0, .ref g17, .ref g18, .ref g19, .ref g20, .ref g21, .ref g22, .int 0, .int 0, .int 0, .ref g23, .ref g24, .int 0, .int 0, .int 0, .int 0, .ref g25])), (g6, .inl (cyI, 240, .inl (fun _ => 0)))]) (pc2 := 381) (lv2 := [(4, .int 0), (3, .ref o0), (2, .ref g0), (1, .ref t0), (0, .ref b)]) (st2 := [.int (-1)]) rfl rfl rfl rfl ?_
  refine j_aload_n (pc := 381) C dL_law_381 rfl 2 rfl ?_
  refine j_aload_n (pc := 382) C dL_law_382 rfl 4 rfl ?_
  refine j_iload (pc := 383) C dL_law_383 0 rfl ?_
  refine j_iconst (pc := 385) (v := 1) C dL_law_385 (by decide) ?_
  refine j_iadd (pc := 386) (v := 1) C dL_law_386 (by decide) ?_
  refine j_sld (pc := 387) (k := 1) C hX hbl hbA (by decide) (by decide) (by decide) dL_law_387 ?_
  refine j_aload_n (pc := 388) C dL_law_388 rfl 4 rfl ?_
  refine j_iload (pc := 389) C dL_law_389 0 rfl ?_
  refine j_iconst (pc := 391) (v := 2) C dL_law_391 (by decide) ?_
  refine j_iadd (pc := 392) (v := 2) C dL_law_392 (by decide) ?_
  refine j_sld (pc := 393) (k := 2) C hX hbl hbA (by decide) (by decide) (by decide) dL_law_393 ?_
  refine j_callV (pc := 394) (As := [.int (xs 1), .int (xs 2)]) (rest := [.int (-1)]) (wr := []) C (c_X11_shelf l D cyC cyI cyJ cyZ cyO (xs 1) (xs 2) g0 g1 g2 g3 g4 g5 g6 g7 g8 g9 g10 g11 g12 g13 g14 g15 g16 g17 g18 g19 g20 g21 g22 g23 g24 g25) wd_415 wd_313 wd_416 wd_417 wd_418 ⟨by decide, by decide, rfl⟩ rfl ⟨rfl, rfl, by decide, by decide⟩ ⟨by decide, by decide⟩ [0, 1] [] rfl rfl ⟨by decide, by decide, by decide⟩ 0 rfl rfl rfl (Nat.le_of_ble_eq_true rfl) dL_law_394 (fun u_3 hw_4 => ?_)
  refine j_eq (ws2 := []) (pc2 := 397) (lv2 := [(4, .int 0), (3, .ref o0), (2, .ref g0), (1, .ref t0), (0, .ref b)]) (st2 := [.int (-1), .int (-1)]) rfl rfl rfl rfl ?_
  refine j_icmp_eq_t (pc := 397) (tgt := 1216) C dL_law_397 (by decide) (by decide) ?_
  exact j_lv [0, 1, 2, 3, 4] rfl (law_tail X (by decide) (by decide))
set_option maxHeartbeats 4000000 in
set_option maxRecDepth 100000 in
theorem law_4 {p : Program} {l : Launch} {e : Env} {s : State} {m : MethodId} {below : List Frame} {meth : Method} {c : Code} {b : Nat} {xs : Nat → Int32} {D : va_G} {cyC cyI cyJ cyZ cyO : ClassId} (o0 g0 t0 t1 t21 t32 t37 t42 t43 t45 t50 t54 t58 t22 t23 t24 t25 t26 t27 t28 t29 t30 t31 g1 g2 g3 g4 g5 g6 g7 g8 g9 g10 g11 g12 g13 g14 g15 g16 g17 g18 g19 g20 g21 g22 g23 g24 g25 : Nat) (X : LX p s m meth c b 7 xs D cyC cyI cyJ cyZ cyO) : J p l e room_1 s m #[Value.ref b] below meth c D (fun q : Nat => s.heap.size ≤ q) 8 107 73154 (lw_Z below #[Value.ref b] s) [(t0, .inr (10, [.ref t1, .ref t21, .ref t32, .ref t37, .ref t42, .ref t43, .ref t45, .ref t50, .ref t54, .ref t58])), (t21, .inr (9, [.int 0, .int 0, .int 0, .ref t22, .ref t23, .ref t24, .ref t25, .ref t26, .ref t27, .int 0, .int 0, .ref t28, .ref t29, .ref t30, .ref t31])), (g0, .inr (11, [.int 0, .ref g1, .int 0, .int 0, .ref g2, .ref g3, .ref g4, .int 0, .int 0, .ref g5, .ref g6, .ref g7, .ref g8, .int 0, .ref g9, .ref g10, .int 1, .ref g11, .ref g12, .ref g13, .ref g14, .ref g15, .int 0, .int 0, .int 0, .ref g16, .int 0, .ref g17, .ref g18, .ref g19, .ref g20, .ref g21, .ref g22, .int 0, .int 0, .int 0, .ref g23, .ref g24, .int 0, .int 0, .int 0, .int 0, .ref g25])), (g6, .inl (cyI, 240, .inl (fun _ => 0)))] 402 [(4, .int 0), (3, .ref o0), (2, .ref g0), (1, .ref t0), (0, .ref b)] [] := by
  have C := X.1
  have hX := X.2.1
  have hbl := X.2.2.1
  have hbA : ¬ (fun q : Nat => s.heap.size ≤ q) b := Nat.not_le.mpr hbl
  refine j_aload_n (pc := 402) C dL_law_402 rfl 3 rfl ?_
  refine j_aload_n (pc := 403) C dL_law_403 rfl 4 rfl ?_
  refine j_iload (pc := 404) C dL_law_404 0 rfl ?_
  refine j_iconst (pc := 406) (v := 1) C dL_law_406 (by decide) ?_
  refine j_iadd (pc := 407) (v := 1) C dL_law_407 (by decide) ?_
  refine j_sld (pc := 408) (k := 1) C hX hbl hbA (by decide) (by decide) (by decide) dL_law_408 ?_
  refine j_aload_n (pc := 409) C dL_law_409 rfl 4 rfl ?_
  refine j_iload (pc := 410) C dL_law_410 0 rfl ?_
  refine j_iconst (pc := 412) (v := 2) C dL_law_412 (by decide) ?_
  refine j_iadd (pc := 413) (v := 2) C dL_law_413 (by decide) ?_
  refine j_sld (pc := 414) (k := 2) C hX hbl hbA (by decide) (by decide) (by decide) dL_law_414 ?_
  refine j_callV (pc := 415) (As := [.int (xs 1), .int (xs 2)]) (rest := []) (wr := [(g0, .inr (11, [.int 0, .ref g1, .int 0, .int 0, .ref g2, .ref g3, .ref g4, .int 0, .int 0, .ref g5, .ref g6, .ref g7, .ref g8, .int 0, .ref g9, .ref g10, .int 1, .ref g11, .ref g12, .ref g13, .ref g14, .ref g15, .int 0, .int 0, .int 0, .ref g16, .int 0, .ref g17, .ref g18, .ref g19, .ref g20, .ref g21, .ref g22, .int 0, .int 0, .int 0, .ref g23, .ref g24, .int 0, .int 0, .int 0, .int 0, .ref g25])), (g6, .inl (cyI, 240, .inl (fun _ => 0)))]) C (c_X10_may l D cyC cyI cyJ cyZ cyO (xs 1) (xs 2) t0 t1 t21 t32 t37 t42 t43 t45 t50 t54 t58 t22 t23 t24 t25 t26 t27 t28 t29 t30 t31) wd_419 wd_180 wd_420 wd_421 wd_422 ⟨by decide, by decide, rfl⟩ rfl ⟨rfl, rfl, by decide, by decide⟩ ⟨by decide, by decide⟩ [0, 1] [2, 3] rfl rfl ⟨by decide, by decide, by decide⟩ 0 rfl rfl rfl (Nat.le_of_ble_eq_true rfl) dL_law_415 (fun u_1 hw_2 => ?_)
  refine j_eq (ws2 := [(g0, .inr (11, [.int 0, .ref g1, .int 0, .int 0, .ref g2, .ref g3, .ref g4, .int 0, .int 0, .ref g5, .ref g6, .ref g7, .ref g8, .int 0, .ref g9, .ref g10, .int 1, .ref g11, .ref g12, .ref g13, .ref g14, .ref g15, .int 0, .int 0, .int 0, .ref g16, .int 0, .ref g17, .ref g18, .ref g19, .ref g20, .ref g21, .ref g22, .int 0, .int 0, .int 0, .ref g23, .ref g24, .int 0, .int 0, .int 0, .int 0, .ref g25])), (g6, .inl (cyI, 240, .inl (fun _ => 0)))]) (pc2 := 418) (lv2 := [(4, .int 0), (3, .ref o0), (2, .ref g0), (1, .ref t0), (0, .ref b)]) (st2 := [.int (-1)]) rfl rfl rfl rfl ?_
  refine j_aload_n (pc := 418) C dL_law_418 rfl 2 rfl ?_
  refine j_aload_n (pc := 419) C dL_law_419 rfl 4 rfl ?_
  refine j_iload (pc := 420) C dL_law_420 0 rfl ?_
  refine j_iconst (pc := 422) (v := 1) C dL_law_422 (by decide) ?_
  refine j_iadd (pc := 423) (v := 1) C dL_law_423 (by decide) ?_
  refine j_sld (pc := 424) (k := 1) C hX hbl hbA (by decide) (by decide) (by decide) dL_law_424 ?_
  refine j_aload_n (pc := 425) C dL_law_425 rfl 4 rfl ?_
  refine j_iload (pc := 426) C dL_law_426 0 rfl ?_
  refine j_iconst (pc := 428) (v := 2) C dL_law_428 (by decide) ?_
  refine j_iadd (pc := 429) (v := 2) C dL_law_429 (by decide) ?_
  refine j_sld (pc := 430) (k := 2) C hX hbl hbA (by decide) (by decide) (by decide) dL_law_430 ?_
  refine j_callV (pc := 431) (As := [.int (xs 1), .int (xs 2)]) (rest := [.int (-1)]) (wr := []) C (c_X11_may l D cyC cyI cyJ cyZ cyO (xs 1) (xs 2) g0 g1 g2 g3 g4 g5 g6 g7 g8 g9 g10 g11 g12 g13 g14 g15 g16 g17 g18 g19 g20 g21 g22 g23 g24 g25) wd_423 wd_313 wd_424 wd_425 wd_426 ⟨by decide, by decide, rfl⟩ rfl ⟨rfl, rfl, by decide, by decide⟩ ⟨by decide, by decide⟩ [0, 1] [] rfl rfl ⟨by decide, by decide, by decide⟩ 0 rfl rfl rfl (Nat.le_of_ble_eq_true rfl) dL_law_431 (fun u_3 hw_4 => ?_)
  refine j_eq (ws2 := []) (pc2 := 434) (lv2 := [(4, .int 0), (3, .ref o0), (2, .ref g0), (1, .ref t0), (0, .ref b)]) (st2 := [.int (-1), .int (-1)]) rfl rfl rfl rfl ?_
  refine j_icmp_eq_t (pc := 434) (tgt := 1216) C dL_law_434 (by decide) (by decide) ?_
  exact j_lv [0, 1, 2, 3, 4] rfl (law_tail X (by decide) (by decide))
set_option maxHeartbeats 4000000 in
set_option maxRecDepth 100000 in
theorem law_5 {p : Program} {l : Launch} {e : Env} {s : State} {m : MethodId} {below : List Frame} {meth : Method} {c : Code} {b : Nat} {xs : Nat → Int32} {D : va_G} {cyC cyI cyJ cyZ cyO : ClassId} (o0 g0 t0 t1 t21 t32 t37 t42 t43 t45 t50 t54 t58 t22 t23 t24 t25 t26 t27 t28 t29 t30 t31 g1 g2 g3 g4 g5 g6 g7 g8 g9 g10 g11 g12 g13 g14 g15 g16 g17 g18 g19 g20 g21 g22 g23 g24 g25 : Nat) (X : LX p s m meth c b 7 xs D cyC cyI cyJ cyZ cyO) : J p l e room_1 s m #[Value.ref b] below meth c D (fun q : Nat => s.heap.size ≤ q) 8 107 73154 (lw_Z below #[Value.ref b] s) [(t0, .inr (10, [.ref t1, .ref t21, .ref t32, .ref t37, .ref t42, .ref t43, .ref t45, .ref t50, .ref t54, .ref t58])), (t21, .inr (9, [.int 0, .int 0, .int 0, .ref t22, .ref t23, .ref t24, .ref t25, .ref t26, .ref t27, .int 0, .int 0, .ref t28, .ref t29, .ref t30, .ref t31])), (g0, .inr (11, [.int 0, .ref g1, .int 0, .int 0, .ref g2, .ref g3, .ref g4, .int 0, .int 0, .ref g5, .ref g6, .ref g7, .ref g8, .int 0, .ref g9, .ref g10, .int 1, .ref g11, .ref g12, .ref g13, .ref g14, .ref g15, .int 0, .int 0, .int 0, .ref g16, .int 0, .ref g17, .ref g18, .ref g19, .ref g20, .ref g21, .ref g22, .int 0, .int 0, .int 0, .ref g23, .ref g24, .int 0, .int 0, .int 0, .int 0, .ref g25])), (g6, .inl (cyI, 240, .inl (fun _ => 0)))] 439 [(4, .int 0), (3, .ref o0), (2, .ref g0), (1, .ref t0), (0, .ref b)] [] := by
  have C := X.1
  have hX := X.2.1
  have hbl := X.2.2.1
  have hbA : ¬ (fun q : Nat => s.heap.size ≤ q) b := Nat.not_le.mpr hbl
  refine j_aload_n (pc := 439) C dL_law_439 rfl 3 rfl ?_
  refine j_aload_n (pc := 440) C dL_law_440 rfl 4 rfl ?_
  refine j_iload (pc := 441) C dL_law_441 0 rfl ?_
  refine j_iconst (pc := 443) (v := 1) C dL_law_443 (by decide) ?_
  refine j_iadd (pc := 444) (v := 1) C dL_law_444 (by decide) ?_
  refine j_sld (pc := 445) (k := 1) C hX hbl hbA (by decide) (by decide) (by decide) dL_law_445 ?_
  refine j_aload_n (pc := 446) C dL_law_446 rfl 4 rfl ?_
  refine j_iload (pc := 447) C dL_law_447 0 rfl ?_
  refine j_iconst (pc := 449) (v := 2) C dL_law_449 (by decide) ?_
  refine j_iadd (pc := 450) (v := 2) C dL_law_450 (by decide) ?_
  refine j_sld (pc := 451) (k := 2) C hX hbl hbA (by decide) (by decide) (by decide) dL_law_451 ?_
  refine j_aload_n (pc := 452) C dL_law_452 rfl 4 rfl ?_
  refine j_iload (pc := 453) C dL_law_453 0 rfl ?_
  refine j_iconst (pc := 455) (v := 3) C dL_law_455 (by decide) ?_
  refine j_iadd (pc := 456) (v := 3) C dL_law_456 (by decide) ?_
  refine j_sld (pc := 457) (k := 3) C hX hbl hbA (by decide) (by decide) (by decide) dL_law_457 ?_
  refine j_callV (pc := 458) (As := [.int (xs 1), .int (xs 2), .int (xs 3)]) (rest := []) (wr := [(g0, .inr (11, [.int 0, .ref g1, .int 0, .int 0, .ref g2, .ref g3, .ref g4, .int 0, .int 0, .ref g5, .ref g6, .ref g7, .ref g8, .int 0, .ref g9, .ref g10, .int 1, .ref g11, .ref g12, .ref g13, .ref g14, .ref g15, .int 0, .int 0, .int 0, .ref g16, .int 0, .ref g17, .ref g18, .ref g19, .ref g20, .ref g21, .ref g22, .int 0, .int 0, .int 0, .ref g23, .ref g24, .int 0, .int 0, .int 0, .int 0, .ref g25])), (g6, .inl (cyI, 240, .inl (fun _ => 0)))]) C (c_X10_put l D cyC cyI cyJ cyZ cyO (xs 1) (xs 2) (xs 3) t0 t1 t21 t32 t37 t42 t43 t45 t50 t54 t58 t22 t23 t24 t25 t26 t27 t28 t29 t30 t31) wd_427 wd_180 wd_428 wd_429 wd_430 ⟨by decide, by decide, rfl⟩ rfl ⟨rfl, rfl, by decide, by decide⟩ ⟨by decide, by decide⟩ [0, 1] [2, 3] rfl rfl ⟨by decide, by decide, by decide⟩ 0 rfl rfl rfl (Nat.le_of_ble_eq_true rfl) dL_law_458 (fun u_1 hw_2 => ?_)
  refine j_eq (ws2 := [(g0, .inr (11, [.int 0, .ref g1, .int 0, .int 0, .ref g2, .ref g3, .ref g4, .int 0, .int 0, .ref g5, .ref g6, .ref g7, .ref g8, .int 0, .ref g9, .ref g10, .int 1, .ref g11, .ref g12, .ref g13, .ref g14, .ref g15, .int 0, .int 0, .int 0, .ref g16, .int 0, .ref g17, .ref g18, .ref g19, .ref g20, .ref g21, .ref g22, .int 0, .int 0, .int 0, .ref g23, .ref g24, .int 0, .int 0, .int 0, .int 0, .ref g25])), (g6, .inl (cyI, 240, .inl (fun _ => 0)))]) (pc2 := 461) (lv2 := [(4, .int 0), (3, .ref o0), (2, .ref g0), (1, .ref t0), (0, .ref b)]) (st2 := [.int 1]) rfl rfl rfl rfl ?_
  refine j_aload_n (pc := 461) C dL_law_461 rfl 2 rfl ?_
  refine j_aload_n (pc := 462) C dL_law_462 rfl 4 rfl ?_
  refine j_iload (pc := 463) C dL_law_463 0 rfl ?_
  refine j_iconst (pc := 465) (v := 1) C dL_law_465 (by decide) ?_
  refine j_iadd (pc := 466) (v := 1) C dL_law_466 (by decide) ?_
  refine j_sld (pc := 467) (k := 1) C hX hbl hbA (by decide) (by decide) (by decide) dL_law_467 ?_
  refine j_aload_n (pc := 468) C dL_law_468 rfl 4 rfl ?_
  refine j_iload (pc := 469) C dL_law_469 0 rfl ?_
  refine j_iconst (pc := 471) (v := 2) C dL_law_471 (by decide) ?_
  refine j_iadd (pc := 472) (v := 2) C dL_law_472 (by decide) ?_
  refine j_sld (pc := 473) (k := 2) C hX hbl hbA (by decide) (by decide) (by decide) dL_law_473 ?_
  refine j_aload_n (pc := 474) C dL_law_474 rfl 4 rfl ?_
  refine j_iload (pc := 475) C dL_law_475 0 rfl ?_
  refine j_iconst (pc := 477) (v := 3) C dL_law_477 (by decide) ?_
  refine j_iadd (pc := 478) (v := 3) C dL_law_478 (by decide) ?_
  refine j_sld (pc := 479) (k := 3) C hX hbl hbA (by decide) (by decide) (by decide) dL_law_479 ?_
  refine j_callV (pc := 480) (As := [.int (xs 1), .int (xs 2), .int (xs 3)]) (rest := [.int 1]) (wr := []) C (c_X11_put l D cyC cyI cyJ cyZ cyO (xs 1) (xs 2) (xs 3) g0 g1 g2 g3 g4 g5 g6 g7 g8 g9 g10 g11 g12 g13 g14 g15 g16 g17 g18 g19 g20 g21 g22 g23 g24 g25) wd_431 wd_313 wd_432 wd_433 wd_434 ⟨by decide, by decide, rfl⟩ rfl ⟨rfl, rfl, by decide, by decide⟩ ⟨by decide, by decide⟩ [0, 1] [] rfl rfl ⟨by decide, by decide, by decide⟩ 0 rfl rfl rfl (Nat.le_of_ble_eq_true rfl) dL_law_480 (fun u_3 hw_4 => ?_)
  refine j_eq (ws2 := []) (pc2 := 483) (lv2 := [(4, .int 0), (3, .ref o0), (2, .ref g0), (1, .ref t0), (0, .ref b)]) (st2 := [.int 1, .int 1]) rfl rfl rfl rfl ?_
  refine j_icmp_eq_t (pc := 483) (tgt := 1216) C dL_law_483 (by decide) (by decide) ?_
  exact j_lv [0, 1, 2, 3, 4] rfl (law_tail X (by decide) (by decide))
set_option maxHeartbeats 4000000 in
set_option maxRecDepth 100000 in
theorem law_6 {p : Program} {l : Launch} {e : Env} {s : State} {m : MethodId} {below : List Frame} {meth : Method} {c : Code} {b : Nat} {xs : Nat → Int32} {D : va_G} {cyC cyI cyJ cyZ cyO : ClassId} (o0 g0 t0 t1 t21 t32 t37 t42 t43 t45 t50 t54 t58 t22 t23 t24 t25 t26 t27 t28 t29 t30 t31 g1 g2 g3 g4 g5 g6 g7 g8 g9 g10 g11 g12 g13 g14 g15 g16 g17 g18 g19 g20 g21 g22 g23 g24 g25 : Nat) (X : LX p s m meth c b 7 xs D cyC cyI cyJ cyZ cyO) : J p l e room_1 s m #[Value.ref b] below meth c D (fun q : Nat => s.heap.size ≤ q) 8 107 73154 (lw_Z below #[Value.ref b] s) [(t0, .inr (10, [.ref t1, .ref t21, .ref t32, .ref t37, .ref t42, .ref t43, .ref t45, .ref t50, .ref t54, .ref t58])), (t21, .inr (9, [.int 0, .int 0, .int 0, .ref t22, .ref t23, .ref t24, .ref t25, .ref t26, .ref t27, .int 0, .int 0, .ref t28, .ref t29, .ref t30, .ref t31])), (g0, .inr (11, [.int 0, .ref g1, .int 0, .int 0, .ref g2, .ref g3, .ref g4, .int 0, .int 0, .ref g5, .ref g6, .ref g7, .ref g8, .int 0, .ref g9, .ref g10, .int 1, .ref g11, .ref g12, .ref g13, .ref g14, .ref g15, .int 0, .int 0, .int 0, .ref g16, .int 0, .ref g17, .ref g18, .ref g19, .ref g20, .ref g21, .ref g22, .int 0, .int 0, .int 0, .ref g23, .ref g24, .int 0, .int 0, .int 0, .int 0, .ref g25])), (g6, .inl (cyI, 240, .inl (fun _ => 0)))] 488 [(4, .int 0), (3, .ref o0), (2, .ref g0), (1, .ref t0), (0, .ref b)] [] := by
  have C := X.1
  have hX := X.2.1
  have hbl := X.2.2.1
  have hbA : ¬ (fun q : Nat => s.heap.size ≤ q) b := Nat.not_le.mpr hbl
  refine j_aload_n (pc := 488) C dL_law_488 rfl 3 rfl ?_
  refine j_aload_n (pc := 489) C dL_law_489 rfl 4 rfl ?_
  refine j_iload (pc := 490) C dL_law_490 0 rfl ?_
  refine j_iconst (pc := 492) (v := 1) C dL_law_492 (by decide) ?_
  refine j_iadd (pc := 493) (v := 1) C dL_law_493 (by decide) ?_
  refine j_sld (pc := 494) (k := 1) C hX hbl hbA (by decide) (by decide) (by decide) dL_law_494 ?_
  refine j_callV (pc := 495) (As := [.int (xs 1)]) (rest := []) (wr := [(g0, .inr (11, [.int 0, .ref g1, .int 0, .int 0, .ref g2, .ref g3, .ref g4, .int 0, .int 0, .ref g5, .ref g6, .ref g7, .ref g8, .int 0, .ref g9, .ref g10, .int 1, .ref g11, .ref g12, .ref g13, .ref g14, .ref g15, .int 0, .int 0, .int 0, .ref g16, .int 0, .ref g17, .ref g18, .ref g19, .ref g20, .ref g21, .ref g22, .int 0, .int 0, .int 0, .ref g23, .ref g24, .int 0, .int 0, .int 0, .int 0, .ref g25])), (g6, .inl (cyI, 240, .inl (fun _ => 0)))]) C (c_X10_draw l D cyC cyI cyJ cyZ cyO (xs 1) t0 t1 t21 t32 t37 t42 t43 t45 t50 t54 t58 t22 t23 t24 t25 t26 t27 t28 t29 t30 t31) wd_435 wd_180 wd_436 wd_437 wd_438 ⟨by decide, by decide, rfl⟩ rfl ⟨rfl, rfl, by decide, by decide⟩ ⟨by decide, by decide⟩ [0, 1] [2, 3] rfl rfl ⟨by decide, by decide, by decide⟩ 0 rfl rfl rfl (Nat.le_of_ble_eq_true rfl) dL_law_495 (fun u_1 hw_2 => ?_)
  refine j_eq (ws2 := [(g0, .inr (11, [.int 0, .ref g1, .int 0, .int 0, .ref g2, .ref g3, .ref g4, .int 0, .int 0, .ref g5, .ref g6, .ref g7, .ref g8, .int 0, .ref g9, .ref g10, .int 1, .ref g11, .ref g12, .ref g13, .ref g14, .ref g15, .int 0, .int 0, .int 0, .ref g16, .int 0, .ref g17, .ref g18, .ref g19, .ref g20, .ref g21, .ref g22, .int 0, .int 0, .int 0, .ref g23, .ref g24, .int 0, .int 0, .int 0, .int 0, .ref g25])), (g6, .inl (cyI, 240, .inl (fun _ => 0)))]) (pc2 := 498) (lv2 := [(4, .int 0), (3, .ref o0), (2, .ref g0), (1, .ref t0), (0, .ref b)]) (st2 := [.int 1]) rfl rfl rfl rfl ?_
  refine j_aload_n (pc := 498) C dL_law_498 rfl 2 rfl ?_
  refine j_aload_n (pc := 499) C dL_law_499 rfl 4 rfl ?_
  refine j_iload (pc := 500) C dL_law_500 0 rfl ?_
  refine j_iconst (pc := 502) (v := 1) C dL_law_502 (by decide) ?_
  refine j_iadd (pc := 503) (v := 1) C dL_law_503 (by decide) ?_
  refine j_sld (pc := 504) (k := 1) C hX hbl hbA (by decide) (by decide) (by decide) dL_law_504 ?_
  refine j_callV (pc := 505) (As := [.int (xs 1)]) (rest := [.int 1]) (wr := []) C (c_X11_draw l D cyC cyI cyJ cyZ cyO (xs 1) g0 g1 g2 g3 g4 g5 g6 g7 g8 g9 g10 g11 g12 g13 g14 g15 g16 g17 g18 g19 g20 g21 g22 g23 g24 g25) wd_439 wd_313 wd_440 wd_441 wd_442 ⟨by decide, by decide, rfl⟩ rfl ⟨rfl, rfl, by decide, by decide⟩ ⟨by decide, by decide⟩ [0, 1] [] rfl rfl ⟨by decide, by decide, by decide⟩ 0 rfl rfl rfl (Nat.le_of_ble_eq_true rfl) dL_law_505 (fun u_3 hw_4 => ?_)
  refine j_eq (ws2 := []) (pc2 := 508) (lv2 := [(4, .int 0), (3, .ref o0), (2, .ref g0), (1, .ref t0), (0, .ref b)]) (st2 := [.int 1, .int 1]) rfl rfl rfl rfl ?_
  refine j_icmp_eq_t (pc := 508) (tgt := 1216) C dL_law_508 (by decide) (by decide) ?_
  exact j_lv [0, 1, 2, 3, 4] rfl (law_tail X (by decide) (by decide))
set_option maxHeartbeats 4000000 in
set_option maxRecDepth 100000 in
theorem law_7 {p : Program} {l : Launch} {e : Env} {s : State} {m : MethodId} {below : List Frame} {meth : Method} {c : Code} {b : Nat} {xs : Nat → Int32} {D : va_G} {cyC cyI cyJ cyZ cyO : ClassId} (o0 g0 t0 t1 t21 t32 t37 t42 t43 t45 t50 t54 t58 t22 t23 t24 t25 t26 t27 t28 t29 t30 t31 g1 g2 g3 g4 g5 g6 g7 g8 g9 g10 g11 g12 g13 g14 g15 g16 g17 g18 g19 g20 g21 g22 g23 g24 g25 : Nat) (X : LX p s m meth c b 7 xs D cyC cyI cyJ cyZ cyO) : J p l e room_1 s m #[Value.ref b] below meth c D (fun q : Nat => s.heap.size ≤ q) 8 107 73154 (lw_Z below #[Value.ref b] s) [(t0, .inr (10, [.ref t1, .ref t21, .ref t32, .ref t37, .ref t42, .ref t43, .ref t45, .ref t50, .ref t54, .ref t58])), (t21, .inr (9, [.int 0, .int 0, .int 0, .ref t22, .ref t23, .ref t24, .ref t25, .ref t26, .ref t27, .int 0, .int 0, .ref t28, .ref t29, .ref t30, .ref t31])), (g0, .inr (11, [.int 0, .ref g1, .int 0, .int 0, .ref g2, .ref g3, .ref g4, .int 0, .int 0, .ref g5, .ref g6, .ref g7, .ref g8, .int 0, .ref g9, .ref g10, .int 1, .ref g11, .ref g12, .ref g13, .ref g14, .ref g15, .int 0, .int 0, .int 0, .ref g16, .int 0, .ref g17, .ref g18, .ref g19, .ref g20, .ref g21, .ref g22, .int 0, .int 0, .int 0, .ref g23, .ref g24, .int 0, .int 0, .int 0, .int 0, .ref g25])), (g6, .inl (cyI, 240, .inl (fun _ => 0)))] 513 [(4, .int 0), (3, .ref o0), (2, .ref g0), (1, .ref t0), (0, .ref b)] [] := by
  have C := X.1
  have hX := X.2.1
  have hbl := X.2.2.1
  have hbA : ¬ (fun q : Nat => s.heap.size ≤ q) b := Nat.not_le.mpr hbl
  refine j_aload_n (pc := 513) C dL_law_513 rfl 3 rfl ?_
  refine j_aload_n (pc := 514) C dL_law_514 rfl 4 rfl ?_
  refine j_iload (pc := 515) C dL_law_515 0 rfl ?_
  refine j_iconst (pc := 517) (v := 1) C dL_law_517 (by decide) ?_
  refine j_iadd (pc := 518) (v := 1) C dL_law_518 (by decide) ?_
  refine j_sld (pc := 519) (k := 1) C hX hbl hbA (by decide) (by decide) (by decide) dL_law_519 ?_
  refine j_aload_n (pc := 520) C dL_law_520 rfl 4 rfl ?_
  refine j_iload (pc := 521) C dL_law_521 0 rfl ?_
  refine j_iconst (pc := 523) (v := 2) C dL_law_523 (by decide) ?_
  refine j_iadd (pc := 524) (v := 2) C dL_law_524 (by decide) ?_
  refine j_sld (pc := 525) (k := 2) C hX hbl hbA (by decide) (by decide) (by decide) dL_law_525 ?_
  refine j_aload_n (pc := 526) C dL_law_526 rfl 4 rfl ?_
  refine j_iload (pc := 527) C dL_law_527 0 rfl ?_
  refine j_iconst (pc := 529) (v := 3) C dL_law_529 (by decide) ?_
  refine j_iadd (pc := 530) (v := 3) C dL_law_530 (by decide) ?_
  refine j_sld (pc := 531) (k := 3) C hX hbl hbA (by decide) (by decide) (by decide) dL_law_531 ?_
  refine j_callV (pc := 532) (As := [.int (xs 1), .int (xs 2), .int (xs 3)]) (rest := []) (wr := [(g0, .inr (11, [.int 0, .ref g1, .int 0, .int 0, .ref g2, .ref g3, .ref g4, .int 0, .int 0, .ref g5, .ref g6, .ref g7, .ref g8, .int 0, .ref g9, .ref g10, .int 1, .ref g11, .ref g12, .ref g13, .ref g14, .ref g15, .int 0, .int 0, .int 0, .ref g16, .int 0, .ref g17, .ref g18, .ref g19, .ref g20, .ref g21, .ref g22, .int 0, .int 0, .int 0, .ref g23, .ref g24, .int 0, .int 0, .int 0, .int 0, .ref g25])), (g6, .inl (cyI, 240, .inl (fun _ => 0)))]) C (c_X10_carry l D cyC cyI cyJ cyZ cyO (xs 1) (xs 2) (xs 3) t0 t1 t21 t32 t37 t42 t43 t45 t50 t54 t58 t22 t23 t24 t25 t26 t27 t28 t29 t30 t31) wd_443 wd_180 wd_444 wd_445 wd_446 ⟨by decide, by decide, rfl⟩ rfl ⟨rfl, rfl, by decide, by decide⟩ ⟨by decide, by decide⟩ [0, 1] [2, 3] rfl rfl ⟨by decide, by decide, by decide⟩ 0 rfl rfl rfl (Nat.le_of_ble_eq_true rfl) dL_law_532 (fun u_1 hw_2 => ?_)
  refine j_eq (ws2 := [(g0, .inr (11, [.int 0, .ref g1, .int 0, .int 0, .ref g2, .ref g3, .ref g4, .int 0, .int 0, .ref g5, .ref g6, .ref g7, .ref g8, .int 0, .ref g9, .ref g10, .int 1, .ref g11, .ref g12, .ref g13, .ref g14, .ref g15, .int 0, .int 0, .int 0, .ref g16, .int 0, .ref g17, .ref g18, .ref g19, .ref g20, .ref g21, .ref g22, .int 0, .int 0, .int 0, .ref g23, .ref g24, .int 0, .int 0, .int 0, .int 0, .ref g25])), (g6, .inl (cyI, 240, .inl (fun _ => 0)))]) (pc2 := 535) (lv2 := [(4, .int 0), (3, .ref o0), (2, .ref g0), (1, .ref t0), (0, .ref b)]) (st2 := [.int 1]) rfl rfl rfl rfl ?_
  refine j_aload_n (pc := 535) C dL_law_535 rfl 2 rfl ?_
  refine j_aload_n (pc := 536) C dL_law_536 rfl 4 rfl ?_
  refine j_iload (pc := 537) C dL_law_537 0 rfl ?_
  refine j_iconst (pc := 539) (v := 1) C dL_law_539 (by decide) ?_
  refine j_iadd (pc := 540) (v := 1) C dL_law_540 (by decide) ?_
  refine j_sld (pc := 541) (k := 1) C hX hbl hbA (by decide) (by decide) (by decide) dL_law_541 ?_
  refine j_aload_n (pc := 542) C dL_law_542 rfl 4 rfl ?_
  refine j_iload (pc := 543) C dL_law_543 0 rfl ?_
  refine j_iconst (pc := 545) (v := 2) C dL_law_545 (by decide) ?_
  refine j_iadd (pc := 546) (v := 2) C dL_law_546 (by decide) ?_
  refine j_sld (pc := 547) (k := 2) C hX hbl hbA (by decide) (by decide) (by decide) dL_law_547 ?_
  refine j_aload_n (pc := 548) C dL_law_548 rfl 4 rfl ?_
  refine j_iload (pc := 549) C dL_law_549 0 rfl ?_
  refine j_iconst (pc := 551) (v := 3) C dL_law_551 (by decide) ?_
  refine j_iadd (pc := 552) (v := 3) C dL_law_552 (by decide) ?_
  refine j_sld (pc := 553) (k := 3) C hX hbl hbA (by decide) (by decide) (by decide) dL_law_553 ?_
  refine j_callV (pc := 554) (As := [.int (xs 1), .int (xs 2), .int (xs 3)]) (rest := [.int 1]) (wr := []) C (c_X11_carry l D cyC cyI cyJ cyZ cyO (xs 1) (xs 2) (xs 3) g0 g1 g2 g3 g4 g5 g6 g7 g8 g9 g10 g11 g12 g13 g14 g15 g16 g17 g18 g19 g20 g21 g22 g23 g24 g25) wd_447 wd_313 wd_448 wd_449 wd_450 ⟨by decide, by decide, rfl⟩ rfl ⟨rfl, rfl, by decide, by decide⟩ ⟨by decide, by decide⟩ [0, 1] [] rfl rfl ⟨by decide, by decide, by decide⟩ 0 rfl rfl rfl (Nat.le_of_ble_eq_true rfl) dL_law_554 (fun u_3 hw_4 => ?_)
  refine j_eq (ws2 := []) (pc2 := 557) (lv2 := [(4, .int 0), (3, .ref o0), (2, .ref g0), (1, .ref t0), (0, .ref b)]) (st2 := [.int 1, .int 1]) rfl rfl rfl rfl ?_
  refine j_icmp_eq_t (pc := 557) (tgt := 1216) C dL_law_557 (by decide) (by decide) ?_
  exact j_lv [0, 1, 2, 3, 4] rfl (law_tail X (by decide) (by decide))
set_option maxHeartbeats 4000000 in
set_option maxRecDepth 100000 in
theorem law_8 {p : Program} {l : Launch} {e : Env} {s : State} {m : MethodId} {below : List Frame} {meth : Method} {c : Code} {b : Nat} {xs : Nat → Int32} {D : va_G} {cyC cyI cyJ cyZ cyO : ClassId} (o0 g0 t0 t1 t21 t32 t37 t42 t43 t45 t50 t54 t58 t22 t23 t24 t25 t26 t27 t28 t29 t30 t31 g1 g2 g3 g4 g5 g6 g7 g8 g9 g10 g11 g12 g13 g14 g15 g16 g17 g18 g19 g20 g21 g22 g23 g24 g25 : Nat) (X : LX p s m meth c b 7 xs D cyC cyI cyJ cyZ cyO) : J p l e room_1 s m #[Value.ref b] below meth c D (fun q : Nat => s.heap.size ≤ q) 8 107 73154 (lw_Z below #[Value.ref b] s) [(t0, .inr (10, [.ref t1, .ref t21, .ref t32, .ref t37, .ref t42, .ref t43, .ref t45, .ref t50, .ref t54, .ref t58])), (t21, .inr (9, [.int 0, .int 0, .int 0, .ref t22, .ref t23, .ref t24, .ref t25, .ref t26, .ref t27, .int 0, .int 0, .ref t28, .ref t29, .ref t30, .ref t31])), (g0, .inr (11, [.int 0, .ref g1, .int 0, .int 0, .ref g2, .ref g3, .ref g4, .int 0, .int 0, .ref g5, .ref g6, .ref g7, .ref g8, .int 0, .ref g9, .ref g10, .int 1, .ref g11, .ref g12, .ref g13, .ref g14, .ref g15, .int 0, .int 0, .int 0, .ref g16, .int 0, .ref g17, .ref g18, .ref g19, .ref g20, .ref g21, .ref g22, .int 0, .int 0, .int 0, .ref g23, .ref g24, .int 0, .int 0, .int 0, .int 0, .ref g25])), (g6, .inl (cyI, 240, .inl (fun _ => 0)))] 562 [(4, .int 0), (3, .ref o0), (2, .ref g0), (1, .ref t0), (0, .ref b)] [] := by
  have C := X.1
  have hX := X.2.1
  have hbl := X.2.2.1
  have hbA : ¬ (fun q : Nat => s.heap.size ≤ q) b := Nat.not_le.mpr hbl
  refine j_aload_n (pc := 562) C dL_law_562 rfl 3 rfl ?_
  refine j_aload_n (pc := 563) C dL_law_563 rfl 4 rfl ?_
  refine j_iload (pc := 564) C dL_law_564 0 rfl ?_
  refine j_iconst (pc := 566) (v := 1) C dL_law_566 (by decide) ?_
  refine j_iadd (pc := 567) (v := 1) C dL_law_567 (by decide) ?_
  refine j_sld (pc := 568) (k := 1) C hX hbl hbA (by decide) (by decide) (by decide) dL_law_568 ?_
  refine j_aload_n (pc := 569) C dL_law_569 rfl 4 rfl ?_
  refine j_iload (pc := 570) C dL_law_570 0 rfl ?_
  refine j_iconst (pc := 572) (v := 2) C dL_law_572 (by decide) ?_
  refine j_iadd (pc := 573) (v := 2) C dL_law_573 (by decide) ?_
  refine j_sld (pc := 574) (k := 2) C hX hbl hbA (by decide) (by decide) (by decide) dL_law_574 ?_
  refine j_callV (pc := 575) (As := [.int (xs 1), .int (xs 2)]) (rest := []) (wr := [(g0, .inr (11, [.int 0, .ref g1, .int 0, .int 0, .ref g2, .ref g3, .ref g4, .int 0, .int 0, .ref g5, .ref g6, .ref g7, .ref g8, .int 0, .ref g9, .ref g10, .int 1, .ref g11, .ref g12, .ref g13, .ref g14, .ref g15, .int 0, .int 0, .int 0, .ref g16, .int 0, .ref g17, .ref g18, .ref g19, .ref g20, .ref g21, .ref g22, .int 0, .int 0, .int 0, .ref g23, .ref g24, .int 0, .int 0, .int 0, .int 0, .ref g25])), (g6, .inl (cyI, 240, .inl (fun _ => 0)))]) C (c_X10_where l D cyC cyI cyJ cyZ cyO (xs 1) (xs 2) t0 t1 t21 t32 t37 t42 t43 t45 t50 t54 t58 t22 t23 t24 t25 t26 t27 t28 t29 t30 t31) wd_451 wd_180 wd_452 wd_453 wd_454 ⟨by decide, by decide, rfl⟩ rfl ⟨rfl, rfl, by decide, by decide⟩ ⟨by decide, by decide⟩ [0, 1] [2, 3] rfl rfl ⟨by decide, by decide, by decide⟩ 0 rfl rfl rfl (Nat.le_of_ble_eq_true rfl) dL_law_575 (fun u_1 hw_2 => ?_)
  refine j_eq (ws2 := [(g0, .inr (11, [.int 0, .ref g1, .int 0, .int 0, .ref g2, .ref g3, .ref g4, .int 0, .int 0, .ref g5, .ref g6, .ref g7, .ref g8, .int 0, .ref g9, .ref g10, .int 1, .ref g11, .ref g12, .ref g13, .ref g14, .ref g15, .int 0, .int 0, .int 0, .ref g16, .int 0, .ref g17, .ref g18, .ref g19, .ref g20, .ref g21, .ref g22, .int 0, .int 0, .int 0, .ref g23, .ref g24, .int 0, .int 0, .int 0, .int 0, .ref g25])), (g6, .inl (cyI, 240, .inl (fun _ => 0)))]) (pc2 := 578) (lv2 := [(4, .int 0), (3, .ref o0), (2, .ref g0), (1, .ref t0), (0, .ref b)]) (st2 := [.int (-1)]) rfl rfl rfl rfl ?_
  refine j_aload_n (pc := 578) C dL_law_578 rfl 2 rfl ?_
  refine j_aload_n (pc := 579) C dL_law_579 rfl 4 rfl ?_
  refine j_iload (pc := 580) C dL_law_580 0 rfl ?_
  refine j_iconst (pc := 582) (v := 1) C dL_law_582 (by decide) ?_
  refine j_iadd (pc := 583) (v := 1) C dL_law_583 (by decide) ?_
  refine j_sld (pc := 584) (k := 1) C hX hbl hbA (by decide) (by decide) (by decide) dL_law_584 ?_
  refine j_aload_n (pc := 585) C dL_law_585 rfl 4 rfl ?_
  refine j_iload (pc := 586) C dL_law_586 0 rfl ?_
  refine j_iconst (pc := 588) (v := 2) C dL_law_588 (by decide) ?_
  refine j_iadd (pc := 589) (v := 2) C dL_law_589 (by decide) ?_
  refine j_sld (pc := 590) (k := 2) C hX hbl hbA (by decide) (by decide) (by decide) dL_law_590 ?_
  refine j_callV (pc := 591) (As := [.int (xs 1), .int (xs 2)]) (rest := [.int (-1)]) (wr := []) C (c_X11_where l D cyC cyI cyJ cyZ cyO (xs 1) (xs 2) g0 g1 g2 g3 g4 g5 g6 g7 g8 g9 g10 g11 g12 g13 g14 g15 g16 g17 g18 g19 g20 g21 g22 g23 g24 g25) wd_455 wd_313 wd_456 wd_457 wd_458 ⟨by decide, by decide, rfl⟩ rfl ⟨rfl, rfl, by decide, by decide⟩ ⟨by decide, by decide⟩ [0, 1] [] rfl rfl ⟨by decide, by decide, by decide⟩ 0 rfl rfl rfl (Nat.le_of_ble_eq_true rfl) dL_law_591 (fun u_3 hw_4 => ?_)
  refine j_eq (ws2 := []) (pc2 := 594) (lv2 := [(4, .int 0), (3, .ref o0), (2, .ref g0), (1, .ref t0), (0, .ref b)]) (st2 := [.int (-1), .int (-1)]) rfl rfl rfl rfl ?_
  refine j_icmp_eq_t (pc := 594) (tgt := 1216) C dL_law_594 (by decide) (by decide) ?_
  exact j_lv [0, 1, 2, 3, 4] rfl (law_tail X (by decide) (by decide))
set_option maxHeartbeats 4000000 in
set_option maxRecDepth 100000 in
theorem law_9 {p : Program} {l : Launch} {e : Env} {s : State} {m : MethodId} {below : List Frame} {meth : Method} {c : Code} {b : Nat} {xs : Nat → Int32} {D : va_G} {cyC cyI cyJ cyZ cyO : ClassId} (o0 g0 t0 t1 t21 t32 t37 t42 t43 t45 t50 t54 t58 t22 t23 t24 t25 t26 t27 t28 t29 t30 t31 g1 g2 g3 g4 g5 g6 g7 g8 g9 g10 g11 g12 g13 g14 g15 g16 g17 g18 g19 g20 g21 g22 g23 g24 g25 : Nat) (X : LX p s m meth c b 7 xs D cyC cyI cyJ cyZ cyO) : J p l e room_1 s m #[Value.ref b] below meth c D (fun q : Nat => s.heap.size ≤ q) 8 107 73154 (lw_Z below #[Value.ref b] s) [(t0, .inr (10, [.ref t1, .ref t21, .ref t32, .ref t37, .ref t42, .ref t43, .ref t45, .ref t50, .ref t54, .ref t58])), (t21, .inr (9, [.int 0, .int 0, .int 0, .ref t22, .ref t23, .ref t24, .ref t25, .ref t26, .ref t27, .int 0, .int 0, .ref t28, .ref t29, .ref t30, .ref t31])), (g0, .inr (11, [.int 0, .ref g1, .int 0, .int 0, .ref g2, .ref g3, .ref g4, .int 0, .int 0, .ref g5, .ref g6, .ref g7, .ref g8, .int 0, .ref g9, .ref g10, .int 1, .ref g11, .ref g12, .ref g13, .ref g14, .ref g15, .int 0, .int 0, .int 0, .ref g16, .int 0, .ref g17, .ref g18, .ref g19, .ref g20, .ref g21, .ref g22, .int 0, .int 0, .int 0, .ref g23, .ref g24, .int 0, .int 0, .int 0, .int 0, .ref g25])), (g6, .inl (cyI, 240, .inl (fun _ => 0)))] 599 [(4, .int 0), (3, .ref o0), (2, .ref g0), (1, .ref t0), (0, .ref b)] [] := by
  have C := X.1
  have hX := X.2.1
  have hbl := X.2.2.1
  have hbA : ¬ (fun q : Nat => s.heap.size ≤ q) b := Nat.not_le.mpr hbl
  refine j_aload_n (pc := 599) C dL_law_599 rfl 3 rfl ?_
  refine j_aload_n (pc := 600) C dL_law_600 rfl 4 rfl ?_
  refine j_iload (pc := 601) C dL_law_601 0 rfl ?_
  refine j_iconst (pc := 603) (v := 1) C dL_law_603 (by decide) ?_
  refine j_iadd (pc := 604) (v := 1) C dL_law_604 (by decide) ?_
  refine j_sld (pc := 605) (k := 1) C hX hbl hbA (by decide) (by decide) (by decide) dL_law_605 ?_
  refine j_aload_n (pc := 606) C dL_law_606 rfl 4 rfl ?_
  refine j_iload (pc := 607) C dL_law_607 0 rfl ?_
  refine j_iconst (pc := 609) (v := 2) C dL_law_609 (by decide) ?_
  refine j_iadd (pc := 610) (v := 2) C dL_law_610 (by decide) ?_
  refine j_sld (pc := 611) (k := 2) C hX hbl hbA (by decide) (by decide) (by decide) dL_law_611 ?_
  refine j_aload_n (pc := 612) C dL_law_612 rfl 4 rfl ?_
  refine j_iload (pc := 613) C dL_law_613 0 rfl ?_
  refine j_iconst (pc := 615) (v := 3) C dL_law_615 (by decide) ?_
  refine j_iadd (pc := 616) (v := 3) C dL_law_616 (by decide) ?_
  refine j_sld (pc := 617) (k := 3) C hX hbl hbA (by decide) (by decide) (by decide) dL_law_617 ?_
  refine j_callV (pc := 618) (As := [.int (xs 1), .int (xs 2), .int (xs 3)]) (rest := []) (wr := [(g0, .inr (11, [.int 0, .ref g1, .int 0, .int 0, .ref g2, .ref g3, .ref g4, .int 0, .int 0, .ref g5, .ref g6, .ref g7, .ref g8, .int 0, .ref g9, .ref g10, .int 1, .ref g11, .ref g12, .ref g13, .ref g14, .ref g15, .int 0, .int 0, .int 0, .ref g16, .int 0, .ref g17, .ref g18, .ref g19, .ref g20, .ref g21, .ref g22, .int 0, .int 0, .int 0, .ref g23, .ref g24, .int 0, .int 0, .int 0, .int 0, .ref g25])), (g6, .inl (cyI, 240, .inl (fun _ => 0)))]) C (c_X10_at l D cyC cyI cyJ cyZ cyO (xs 1) (xs 2) (xs 3) t0 t1 t21 t32 t37 t42 t43 t45 t50 t54 t58 t22 t23 t24 t25 t26 t27 t28 t29 t30 t31) wd_459 wd_180 wd_460 wd_461 wd_462 ⟨by decide, by decide, rfl⟩ rfl ⟨rfl, rfl, by decide, by decide⟩ ⟨by decide, by decide⟩ [0, 1] [2, 3] rfl rfl ⟨by decide, by decide, by decide⟩ 0 rfl rfl rfl (Nat.le_of_ble_eq_true rfl) dL_law_618 (fun u_1 hw_2 => ?_)
  refine j_eq (ws2 := [(g0, .inr (11, [.int 0, .ref g1, .int 0, .int 0, .ref g2, .ref g3, .ref g4, .int 0, .int 0, .ref g5, .ref g6, .ref g7, .ref g8, .int 0, .ref g9, .ref g10, .int 1, .ref g11, .ref g12, .ref g13, .ref g14, .ref g15, .int 0, .int 0, .int 0, .ref g16, .int 0, .ref g17, .ref g18, .ref g19, .ref g20, .ref g21, .ref g22, .int 0, .int 0, .int 0, .ref g23, .ref g24, .int 0, .int 0, .int 0, .int 0, .ref g25])), (g6, .inl (cyI, 240, .inl (fun _ => 0)))]) (pc2 := 621) (lv2 := [(4, .int 0), (3, .ref o0), (2, .ref g0), (1, .ref t0), (0, .ref b)]) (st2 := [.int (-1)]) rfl rfl rfl rfl ?_
  refine j_aload_n (pc := 621) C dL_law_621 rfl 2 rfl ?_
  refine j_aload_n (pc := 622) C dL_law_622 rfl 4 rfl ?_
  refine j_iload (pc := 623) C dL_law_623 0 rfl ?_
  refine j_iconst (pc := 625) (v := 1) C dL_law_625 (by decide) ?_
  refine j_iadd (pc := 626) (v := 1) C dL_law_626 (by decide) ?_
  refine j_sld (pc := 627) (k := 1) C hX hbl hbA (by decide) (by decide) (by decide) dL_law_627 ?_
  refine j_aload_n (pc := 628) C dL_law_628 rfl 4 rfl ?_
  refine j_iload (pc := 629) C dL_law_629 0 rfl ?_
  refine j_iconst (pc := 631) (v := 2) C dL_law_631 (by decide) ?_
  refine j_iadd (pc := 632) (v := 2) C dL_law_632 (by decide) ?_
  refine j_sld (pc := 633) (k := 2) C hX hbl hbA (by decide) (by decide) (by decide) dL_law_633 ?_
  refine j_aload_n (pc := 634) C dL_law_634 rfl 4 rfl ?_
  refine j_iload (pc := 635) C dL_law_635 0 rfl ?_
  refine j_iconst (pc := 637) (v := 3) C dL_law_637 (by decide) ?_
  refine j_iadd (pc := 638) (v := 3) C dL_law_638 (by decide) ?_
  refine j_sld (pc := 639) (k := 3) C hX hbl hbA (by decide) (by decide) (by decide) dL_law_639 ?_
  refine j_callV (pc := 640) (As := [.int (xs 1), .int (xs 2), .int (xs 3)]) (rest := [.int (-1)]) (wr := []) C (c_X11_at l D cyC cyI cyJ cyZ cyO (xs 1) (xs 2) (xs 3) g0 g1 g2 g3 g4 g5 g6 g7 g8 g9 g10 g11 g12 g13 g14 g15 g16 g17 g18 g19 g20 g21 g22 g23 g24 g25) wd_463 wd_313 wd_464 wd_465 wd_466 ⟨by decide, by decide, rfl⟩ rfl ⟨rfl, rfl, by decide, by decide⟩ ⟨by decide, by decide⟩ [0, 1] [] rfl rfl ⟨by decide, by decide, by decide⟩ 0 rfl rfl rfl (Nat.le_of_ble_eq_true rfl) dL_law_640 (fun u_3 hw_4 => ?_)
  refine j_eq (ws2 := []) (pc2 := 643) (lv2 := [(4, .int 0), (3, .ref o0), (2, .ref g0), (1, .ref t0), (0, .ref b)]) (st2 := [.int (-1), .int (-1)]) rfl rfl rfl rfl ?_
  refine j_icmp_eq_t (pc := 643) (tgt := 1216) C dL_law_643 (by decide) (by decide) ?_
  exact j_lv [0, 1, 2, 3, 4] rfl (law_tail X (by decide) (by decide))
set_option maxHeartbeats 4000000 in
set_option maxRecDepth 100000 in
theorem law_10 {p : Program} {l : Launch} {e : Env} {s : State} {m : MethodId} {below : List Frame} {meth : Method} {c : Code} {b : Nat} {xs : Nat → Int32} {D : va_G} {cyC cyI cyJ cyZ cyO : ClassId} (o0 g0 t0 t1 t21 t32 t37 t42 t43 t45 t50 t54 t58 t22 t23 t24 t25 t26 t27 t28 t29 t30 t31 g1 g2 g3 g4 g5 g6 g7 g8 g9 g10 g11 g12 g13 g14 g15 g16 g17 g18 g19 g20 g21 g22 g23 g24 g25 : Nat) (X : LX p s m meth c b 7 xs D cyC cyI cyJ cyZ cyO) : J p l e room_1 s m #[Value.ref b] below meth c D (fun q : Nat => s.heap.size ≤ q) 8 107 73154 (lw_Z below #[Value.ref b] s) [(t0, .inr (10, [.ref t1, .ref t21, .ref t32, .ref t37, .ref t42, .ref t43, .ref t45, .ref t50, .ref t54, .ref t58])), (t21, .inr (9, [.int 0, .int 0, .int 0, .ref t22, .ref t23, .ref t24, .ref t25, .ref t26, .ref t27, .int 0, .int 0, .ref t28, .ref t29, .ref t30, .ref t31])), (g0, .inr (11, [.int 0, .ref g1, .int 0, .int 0, .ref g2, .ref g3, .ref g4, .int 0, .int 0, .ref g5, .ref g6, .ref g7, .ref g8, .int 0, .ref g9, .ref g10, .int 1, .ref g11, .ref g12, .ref g13, .ref g14, .ref g15, .int 0, .int 0, .int 0, .ref g16, .int 0, .ref g17, .ref g18, .ref g19, .ref g20, .ref g21, .ref g22, .int 0, .int 0, .int 0, .ref g23, .ref g24, .int 0, .int 0, .int 0, .int 0, .ref g25])), (g6, .inl (cyI, 240, .inl (fun _ => 0)))] 648 [(4, .int 0), (3, .ref o0), (2, .ref g0), (1, .ref t0), (0, .ref b)] [] := by
  have C := X.1
  have hX := X.2.1
  have hbl := X.2.2.1
  have hbA : ¬ (fun q : Nat => s.heap.size ≤ q) b := Nat.not_le.mpr hbl
  refine j_aload_n (pc := 648) C dL_law_648 rfl 3 rfl ?_
  refine j_aload_n (pc := 649) C dL_law_649 rfl 4 rfl ?_
  refine j_iload (pc := 650) C dL_law_650 0 rfl ?_
  refine j_iconst (pc := 652) (v := 1) C dL_law_652 (by decide) ?_
  refine j_iadd (pc := 653) (v := 1) C dL_law_653 (by decide) ?_
  refine j_sld (pc := 654) (k := 1) C hX hbl hbA (by decide) (by decide) (by decide) dL_law_654 ?_
  refine j_aload_n (pc := 655) C dL_law_655 rfl 4 rfl ?_
  refine j_iload (pc := 656) C dL_law_656 0 rfl ?_
  refine j_iconst (pc := 658) (v := 2) C dL_law_658 (by decide) ?_
  refine j_iadd (pc := 659) (v := 2) C dL_law_659 (by decide) ?_
  refine j_sld (pc := 660) (k := 2) C hX hbl hbA (by decide) (by decide) (by decide) dL_law_660 ?_
  refine j_aload_n (pc := 661) C dL_law_661 rfl 4 rfl ?_
  refine j_iload (pc := 662) C dL_law_662 0 rfl ?_
  refine j_iconst (pc := 664) (v := 3) C dL_law_664 (by decide) ?_
  refine j_iadd (pc := 665) (v := 3) C dL_law_665 (by decide) ?_
  refine j_sld (pc := 666) (k := 3) C hX hbl hbA (by decide) (by decide) (by decide) dL_law_666 ?_
  refine j_callV (pc := 667) (As := [.int (xs 1), .int (xs 2), .int (xs 3)]) (rest := []) (wr := [(g0, .inr (11, [.int 0, .ref g1, .int 0, .int 0, .ref g2, .ref g3, .ref g4, .int 0, .int 0, .ref g5, .ref g6, .ref g7, .ref g8, .int 0, .ref g9, .ref g10, .int 1, .ref g11, .ref g12, .ref g13, .ref g14, .ref g15, .int 0, .int 0, .int 0, .ref g16, .int 0, .ref g17, .ref g18, .ref g19, .ref g20, .ref g21, .ref g22, .int 0, .int 0, .int 0, .ref g23, .ref g24, .int 0, .int 0, .int 0, .int 0, .ref g25])), (g6, .inl (cyI, 240, .inl (fun _ => 0)))]) C (c_X10_stack l D cyC cyI cyJ cyZ cyO (xs 1) (xs 2) (xs 3) t0 t1 t21 t32 t37 t42 t43 t45 t50 t54 t58 t22 t23 t24 t25 t26 t27 t28 t29 t30 t31) wd_467 wd_180 wd_468 wd_469 wd_470 ⟨by decide, by decide, rfl⟩ rfl ⟨rfl, rfl, by decide, by decide⟩ ⟨by decide, by decide⟩ [0, 1] [2, 3] rfl rfl ⟨by decide, by decide, by decide⟩ 0 rfl rfl rfl (Nat.le_of_ble_eq_true rfl) dL_law_667 (fun u_1 hw_2 => ?_)
  refine j_eq (ws2 := [(g0, .inr (11, [.int 0, .ref g1, .int 0, .int 0, .ref g2, .ref g3, .ref g4, .int 0, .int 0, .ref g5, .ref g6, .ref g7, .ref g8, .int 0, .ref g9, .ref g10, .int 1, .ref g11, .ref g12, .ref g13, .ref g14, .ref g15, .int 0, .int 0, .int 0, .ref g16, .int 0, .ref g17, .ref g18, .ref g19, .ref g20, .ref g21, .ref g22, .int 0, .int 0, .int 0, .ref g23, .ref g24, .int 0, .int 0, .int 0, .int 0, .ref g25])), (g6, .inl (cyI, 240, .inl (fun _ => 0)))]) (pc2 := 670) (lv2 := [(4, .int 0), (3, .ref o0), (2, .ref g0), (1, .ref t0), (0, .ref b)]) (st2 := [.int (-1)]) rfl rfl rfl rfl ?_
  refine j_aload_n (pc := 670) C dL_law_670 rfl 2 rfl ?_
  refine j_aload_n (pc := 671) C dL_law_671 rfl 4 rfl ?_
  refine j_iload (pc := 672) C dL_law_672 0 rfl ?_
  refine j_iconst (pc := 674) (v := 1) C dL_law_674 (by decide) ?_
  refine j_iadd (pc := 675) (v := 1) C dL_law_675 (by decide) ?_
  refine j_sld (pc := 676) (k := 1) C hX hbl hbA (by decide) (by decide) (by decide) dL_law_676 ?_
  refine j_aload_n (pc := 677) C dL_law_677 rfl 4 rfl ?_
  refine j_iload (pc := 678) C dL_law_678 0 rfl ?_
  refine j_iconst (pc := 680) (v := 2) C dL_law_680 (by decide) ?_
  refine j_iadd (pc := 681) (v := 2) C dL_law_681 (by decide) ?_
  refine j_sld (pc := 682) (k := 2) C hX hbl hbA (by decide) (by decide) (by decide) dL_law_682 ?_
  refine j_aload_n (pc := 683) C dL_law_683 rfl 4 rfl ?_
  refine j_iload (pc := 684) C dL_law_684 0 rfl ?_
  refine j_iconst (pc := 686) (v := 3) C dL_law_686 (by decide) ?_
  refine j_iadd (pc := 687) (v := 3) C dL_law_687 (by decide) ?_
  refine j_sld (pc := 688) (k := 3) C hX hbl hbA (by decide) (by decide) (by decide) dL_law_688 ?_
  refine j_callV (pc := 689) (As := [.int (xs 1), .int (xs 2), .int (xs 3)]) (rest := [.int (-1)]) (wr := []) C (c_X11_stack l D cyC cyI cyJ cyZ cyO (xs 1) (xs 2) (xs 3) g0 g1 g2 g3 g4 g5 g6 g7 g8 g9 g10 g11 g12 g13 g14 g15 g16 g17 g18 g19 g20 g21 g22 g23 g24 g25) wd_471 wd_313 wd_472 wd_473 wd_474 ⟨by decide, by decide, rfl⟩ rfl ⟨rfl, rfl, by decide, by decide⟩ ⟨by decide, by decide⟩ [0, 1] [] rfl rfl ⟨by decide, by decide, by decide⟩ 0 rfl rfl rfl (Nat.le_of_ble_eq_true rfl) dL_law_689 (fun u_3 hw_4 => ?_)
  refine j_eq (ws2 := []) (pc2 := 692) (lv2 := [(4, .int 0), (3, .ref o0), (2, .ref g0), (1, .ref t0), (0, .ref b)]) (st2 := [.int (-1), .int (-1)]) rfl rfl rfl rfl ?_
  refine j_icmp_eq_t (pc := 692) (tgt := 1216) C dL_law_692 (by decide) (by decide) ?_
  exact j_lv [0, 1, 2, 3, 4] rfl (law_tail X (by decide) (by decide))
set_option maxHeartbeats 4000000 in
set_option maxRecDepth 100000 in
theorem law_11 {p : Program} {l : Launch} {e : Env} {s : State} {m : MethodId} {below : List Frame} {meth : Method} {c : Code} {b : Nat} {xs : Nat → Int32} {D : va_G} {cyC cyI cyJ cyZ cyO : ClassId} (o0 g0 t0 t1 t21 t32 t37 t42 t43 t45 t50 t54 t58 t22 t23 t24 t25 t26 t27 t28 t29 t30 t31 g1 g2 g3 g4 g5 g6 g7 g8 g9 g10 g11 g12 g13 g14 g15 g16 g17 g18 g19 g20 g21 g22 g23 g24 g25 : Nat) (X : LX p s m meth c b 7 xs D cyC cyI cyJ cyZ cyO) : J p l e room_1 s m #[Value.ref b] below meth c D (fun q : Nat => s.heap.size ≤ q) 8 107 73154 (lw_Z below #[Value.ref b] s) [(t0, .inr (10, [.ref t1, .ref t21, .ref t32, .ref t37, .ref t42, .ref t43, .ref t45, .ref t50, .ref t54, .ref t58])), (t21, .inr (9, [.int 0, .int 0, .int 0, .ref t22, .ref t23, .ref t24, .ref t25, .ref t26, .ref t27, .int 0, .int 0, .ref t28, .ref t29, .ref t30, .ref t31])), (g0, .inr (11, [.int 0, .ref g1, .int 0, .int 0, .ref g2, .ref g3, .ref g4, .int 0, .int 0, .ref g5, .ref g6, .ref g7, .ref g8, .int 0, .ref g9, .ref g10, .int 1, .ref g11, .ref g12, .ref g13, .ref g14, .ref g15, .int 0, .int 0, .int 0, .ref g16, .int 0, .ref g17, .ref g18, .ref g19, .ref g20, .ref g21, .ref g22, .int 0, .int 0, .int 0, .ref g23, .ref g24, .int 0, .int 0, .int 0, .int 0, .ref g25])), (g6, .inl (cyI, 240, .inl (fun _ => 0)))] 697 [(4, .int 0), (3, .ref o0), (2, .ref g0), (1, .ref t0), (0, .ref b)] [] := by
  have C := X.1
  have hX := X.2.1
  have hbl := X.2.2.1
  have hbA : ¬ (fun q : Nat => s.heap.size ≤ q) b := Nat.not_le.mpr hbl
  refine j_aload_n (pc := 697) C dL_law_697 rfl 3 rfl ?_
  refine j_aload_n (pc := 698) C dL_law_698 rfl 4 rfl ?_
  refine j_iload (pc := 699) C dL_law_699 0 rfl ?_
  refine j_iconst (pc := 701) (v := 1) C dL_law_701 (by decide) ?_
  refine j_iadd (pc := 702) (v := 1) C dL_law_702 (by decide) ?_
  refine j_sld (pc := 703) (k := 1) C hX hbl hbA (by decide) (by decide) (by decide) dL_law_703 ?_
  refine j_callV (pc := 704) (As := [.int (xs 1)]) (rest := []) (wr := [(g0, .inr (11, [.int 0, .ref g1, .int 0, .int 0, .ref g2, .ref g3, .ref g4, .int 0, .int 0, .ref g5, .ref g6, .ref g7, .ref g8, .int 0, .ref g9, .ref g10, .int 1, .ref g11, .ref g12, .ref g13, .ref g14, .ref g15, .int 0, .int 0, .int 0, .ref g16, .int 0, .ref g17, .ref g18, .ref g19, .ref g20, .ref g21, .ref g22, .int 0, .int 0, .int 0, .ref g23, .ref g24, .int 0, .int 0, .int 0, .int 0, .ref g25])), (g6, .inl (cyI, 240, .inl (fun _ => 0)))]) C (c_X10_lift l D cyC cyI cyJ cyZ cyO (xs 1) t0 t1 t21 t32 t37 t42 t43 t45 t50 t54 t58 t22 t23 t24 t25 t26 t27 t28 t29 t30 t31) wd_475 wd_180 wd_476 wd_477 wd_478 ⟨by decide, by decide, rfl⟩ rfl ⟨rfl, rfl, by decide, by decide⟩ ⟨by decide, by decide⟩ [0, 1] [2, 3] rfl rfl ⟨by decide, by decide, by decide⟩ 0 rfl rfl rfl (Nat.le_of_ble_eq_true rfl) dL_law_704 (fun u_1 hw_2 => ?_)
  refine j_eq (ws2 := [(g0, .inr (11, [.int 0, .ref g1, .int 0, .int 0, .ref g2, .ref g3, .ref g4, .int 0, .int 0, .ref g5, .ref g6, .ref g7, .ref g8, .int 0, .ref g9, .ref g10, .int 1, .ref g11, .ref g12, .ref g13, .ref g14, .ref g15, .int 0, .int 0, .int 0, .ref g16, .int 0, .ref g17, .ref g18, .ref g19, .ref g20, .ref g21, .ref g22, .int 0, .int 0, .int 0, .ref g23, .ref g24, .int 0, .int 0, .int 0, .int 0, .ref g25])), (g6, .inl (cyI, 240, .inl (fun _ => 0)))]) (pc2 := 707) (lv2 := [(4, .int 0), (3, .ref o0), (2, .ref g0), (1, .ref t0), (0, .ref b)]) (st2 := [.int (-1)]) rfl rfl rfl rfl ?_
  refine j_aload_n (pc := 707) C dL_law_707 rfl 2 rfl ?_
  refine j_aload_n (pc := 708) C dL_law_708 rfl 4 rfl ?_
  refine j_iload (pc := 709) C dL_law_709 0 rfl ?_
  refine j_iconst (pc := 711) (v := 1) C dL_law_711 (by decide) ?_
  refine j_iadd (pc := 712) (v := 1) C dL_law_712 (by decide) ?_
  refine j_sld (pc := 713) (k := 1) C hX hbl hbA (by decide) (by decide) (by decide) dL_law_713 ?_
  refine j_callV (pc := 714) (As := [.int (xs 1)]) (rest := [.int (-1)]) (wr := []) C (c_X11_lift l D cyC cyI cyJ cyZ cyO (xs 1) g0 g1 g2 g3 g4 g5 g6 g7 g8 g9 g10 g11 g12 g13 g14 g15 g16 g17 g18 g19 g20 g21 g22 g23 g24 g25) wd_479 wd_313 wd_480 wd_481 wd_482 ⟨by decide, by decide, rfl⟩ rfl ⟨rfl, rfl, by decide, by decide⟩ ⟨by decide, by decide⟩ [0, 1] [] rfl rfl ⟨by decide, by decide, by decide⟩ 0 rfl rfl rfl (Nat.le_of_ble_eq_true rfl) dL_law_714 (fun u_3 hw_4 => ?_)
  refine j_eq (ws2 := []) (pc2 := 717) (lv2 := [(4, .int 0), (3, .ref o0), (2, .ref g0), (1, .ref t0), (0, .ref b)]) (st2 := [.int (-1), .int (-1)]) rfl rfl rfl rfl ?_
  refine j_icmp_eq_t (pc := 717) (tgt := 1216) C dL_law_717 (by decide) (by decide) ?_
  exact j_lv [0, 1, 2, 3, 4] rfl (law_tail X (by decide) (by decide))
set_option maxHeartbeats 4000000 in
set_option maxRecDepth 100000 in
theorem law_12 {p : Program} {l : Launch} {e : Env} {s : State} {m : MethodId} {below : List Frame} {meth : Method} {c : Code} {b : Nat} {xs : Nat → Int32} {D : va_G} {cyC cyI cyJ cyZ cyO : ClassId} (o0 g0 t0 t1 t21 t32 t37 t42 t43 t45 t50 t54 t58 t33 t34 t35 t36 g1 g2 g3 g4 g5 g6 g7 g8 g9 g10 g11 g12 g13 g14 g15 g16 g17 g18 g19 g20 g21 g22 g23 g24 g25 : Nat) (X : LX p s m meth c b 7 xs D cyC cyI cyJ cyZ cyO) : J p l e room_1 s m #[Value.ref b] below meth c D (fun q : Nat => s.heap.size ≤ q) 8 107 73154 (lw_Z below #[Value.ref b] s) [(t0, .inr (10, [.ref t1, .ref t21, .ref t32, .ref t37, .ref t42, .ref t43, .ref t45, .ref t50, .ref t54, .ref t58])), (t32, .inr (7, [.ref t33, .ref t34, .ref t35, .ref t36, .int 0, .int 0, .int 0])), (g0, .inr (11, [.int 0, .ref g1, .int 0, .int 0, .ref g2, .ref g3, .ref g4, .int 0, .int 0, .ref g5, .ref g6, .ref g7, .ref g8, .int 0, .ref g9, .ref g10, .int 1, .ref g11, .ref g12, .ref g13, .ref g14, .ref g15, .int 0, .int 0, .int 0, .ref g16, .int 0, .ref g17, .ref g18, .ref g19, .ref g20, .ref g21, .ref g22, .int 0, .int 0, .int 0, .ref g23, .ref g24, .int 0, .int 0, .int 0, .int 0, .ref g25])), (g14, .inl (cyI, 2760, .inl (fun _ => 0)))] 722 [(4, .int 0), (3, .ref o0), (2, .ref g0), (1, .ref t0), (0, .ref b)] [] := by
  have C := X.1
  have hX := X.2.1
  have hbl := X.2.2.1
  have hbA : ¬ (fun q : Nat => s.heap.size ≤ q) b := Nat.not_le.mpr hbl
  refine j_aload_n (pc := 722) C dL_law_722 rfl 3 rfl ?_
  refine j_callV (pc := 723) (As := []) (rest := []) (wr := [(g0, .inr (11, [.int 0, .ref g1, .int 0, .int 0, .ref g2, .ref g3, .ref g4, .int 0, .int 0, .ref g5, .ref g6, .ref g7, .ref g8, .int 0, .ref g9, .ref g10, .int 1, .ref g11, .ref g12, .ref g13, .ref g14, .ref g15, .int 0, .int 0, .int 0, .ref g16, .int 0, .ref g17, .ref g18, .ref g19, .ref g20, .ref g21, .ref g22, .int 0, .int 0, .int 0, .ref g23, .ref g24, .int 0, .int 0, .int 0, .int 0, .ref g25])), (g14, .inl (cyI, 2760, .inl (fun _ => 0)))]) C (c_X10_cost l D cyC cyI cyJ cyZ cyO t0 t1 t21 t32 t37 t42 t43 t45 t50 t54 t58 t33 t34 t35 t36) wd_483 wd_180 wd_484 wd_485 wd_486 ⟨by decide, by decide, rfl⟩ rfl ⟨rfl, rfl, by decide, by decide⟩ ⟨by decide, by decide⟩ [0, 1] [2, 3] rfl rfl ⟨by decide, by decide, by decide⟩ 0 rfl rfl rfl (Nat.le_of_ble_eq_true rfl) dL_law_723 (fun u_1 hw_2 => ?_)
  refine j_eq (ws2 := [(g0, .inr (11, [.int 0, .ref g1, .int 0, .int 0, .ref g2, .ref g3, .ref g4, .int 0, .int 0, .ref g5, .ref g6, .ref g7, .ref g8, .int 0, .ref g9, .ref g10, .int 1, .ref g11, .ref g12, .ref g13, .ref g14, .ref g15, .int 0, .int 0, .int 0, .ref g16, .int 0, .ref g17, .ref g18, .ref g19, .ref g20, .ref g21, .ref g22, .int 0, .int 0, .int 0, .ref g23, .ref g24, .int 0, .int 0, .int 0, .int 0, .ref g25])), (g14, .inl (cyI, 2760, .inl (fun _ => 0)))]) (pc2 := 726) (lv2 := [(4, .int 0), (3, .ref o0), (2, .ref g0), (1, .ref t0), (0, .ref b)]) (st2 := [.int 0]) rfl rfl rfl rfl ?_
  refine j_aload_n (pc := 726) C dL_law_726 rfl 2 rfl ?_
  refine j_callV (pc := 727) (As := []) (rest := [.int 0]) (wr := []) C (c_X11_cost l D cyC cyI cyJ cyZ cyO g0 g1 g2 g3 g4 g5 g6 g7 g8 g9 g10 g11 g12 g13 g14 g15 g16 g17 g18 g19 g20 g21 g22 g23 g24 g25) wd_487 wd_313 wd_488 wd_489 wd_490 ⟨by decide, by decide, rfl⟩ rfl ⟨rfl, rfl, by decide, by decide⟩ ⟨by decide, by decide⟩ [0, 1] [] rfl rfl ⟨by decide, by decide, by decide⟩ 0 rfl rfl rfl (Nat.le_of_ble_eq_true rfl) dL_law_727 (fun u_3 hw_4 => ?_)
  refine j_eq (ws2 := []) (pc2 := 730) (lv2 := [(4, .int 0), (3, .ref o0), (2, .ref g0), (1, .ref t0), (0, .ref b)]) (st2 := [.int 0, .int 0]) rfl rfl rfl rfl ?_
  refine j_icmp_eq_t (pc := 730) (tgt := 1216) C dL_law_730 (by decide) (by decide) ?_
  exact j_lv [0, 1, 2, 3, 4] rfl (law_tail X (by decide) (by decide))
set_option maxHeartbeats 4000000 in
set_option maxRecDepth 100000 in
theorem law_13 {p : Program} {l : Launch} {e : Env} {s : State} {m : MethodId} {below : List Frame} {meth : Method} {c : Code} {b : Nat} {xs : Nat → Int32} {D : va_G} {cyC cyI cyJ cyZ cyO : ClassId} (o0 g0 t0 t1 t21 t32 t37 t42 t43 t45 t50 t54 t58 t22 t23 t24 t25 t26 t27 t28 t29 t30 t31 g1 g2 g3 g4 g5 g6 g7 g8 g9 g10 g11 g12 g13 g14 g15 g16 g17 g18 g19 g20 g21 g22 g23 g24 g25 : Nat) (X : LX p s m meth c b 7 xs D cyC cyI cyJ cyZ cyO) : J p l e room_1 s m #[Value.ref b] below meth c D (fun q : Nat => s.heap.size ≤ q) 8 107 73154 (lw_Z below #[Value.ref b] s) [(t0, .inr (10, [.ref t1, .ref t21, .ref t32, .ref t37, .ref t42, .ref t43, .ref t45, .ref t50, .ref t54, .ref t58])), (t21, .inr (9, [.int 0, .int 0, .int 0, .ref t22, .ref t23, .ref t24, .ref t25, .ref t26, .ref t27, .int 0, .int 0, .ref t28, .ref t29, .ref t30, .ref t31])), (g0, .inr (11, [.int 0, .ref g1, .int 0, .int 0, .ref g2, .ref g3, .ref g4, .int 0, .int 0, .ref g5, .ref g6, .ref g7, .ref g8, .int 0, .ref g9, .ref g10, .int 1, .ref g11, .ref g12, .ref g13, .ref g14, .ref g15, .int 0, .int 0, .int 0, .ref g16, .int 0, .ref g17, .ref g18, .ref g19, .ref g20, .ref g21, .ref g22, .int 0, .int 0, .int 0, .ref g23, .ref g24, .int 0, .int 0, .int 0, .int 0, .ref g25])), (g6, .inl (cyI, 240, .inl (fun _ => 0)))] 735 [(4, .int 0), (3, .ref o0), (2, .ref g0), (1, .ref t0), (0, .ref b)] [] := by
  have C := X.1
  have hX := X.2.1
  have hbl := X.2.2.1
  have hbA : ¬ (fun q : Nat => s.heap.size ≤ q) b := Nat.not_le.mpr hbl
  refine j_aload_n (pc := 735) C dL_law_735 rfl 3 rfl ?_
  refine j_aload_n (pc := 736) C dL_law_736 rfl 4 rfl ?_
  refine j_iload (pc := 737) C dL_law_737 0 rfl ?_
  refine j_iconst (pc := 739) (v := 1) C dL_law_739 (by decide) ?_
  refine j_iadd (pc := 740) (v := 1) C dL_law_740 (by decide) ?_
  refine j_sld (pc := 741) (k := 1) C hX hbl hbA (by decide) (by decide) (by decide) dL_law_741 ?_
  refine j_aload_n (pc := 742) C dL_law_742 rfl 4 rfl ?_
  refine j_iload (pc := 743) C dL_law_743 0 rfl ?_
  refine j_iconst (pc := 745) (v := 2) C dL_law_745 (by decide) ?_
  refine j_iadd (pc := 746) (v := 2) C dL_law_746 (by decide) ?_
  refine j_sld (pc := 747) (k := 2) C hX hbl hbA (by decide) (by decide) (by decide) dL_law_747 ?_
  refine j_callV (pc := 748) (As := [.int (xs 1), .int (xs 2)]) (rest := []) (wr := [(g0, .inr (11, [.int 0, .ref g1, .int 0, .int 0, .ref g2, .ref g3, .ref g4, .int 0, .int 0, .ref g5, .ref g6, .ref g7, .ref g8, .int 0, .ref g9, .ref g10, .int 1, .ref g11, .ref g12, .ref g13, .ref g14, .ref g15, .int 0, .int 0, .int 0, .ref g16, .int 0, .ref g17, .ref g18, .ref g19, .ref g20, .ref g21, .ref g22, .int 0, .int 0, .int 0, .ref g23, .ref g24, .int 0, .int 0, .int 0, .int 0, .ref g25])), (g6, .inl (cyI, 240, .inl (fun _ => 0)))]) C (c_X10_through l D cyC cyI cyJ cyZ cyO (xs 1) (xs 2) t0 t1 t21 t32 t37 t42 t43 t45 t50 t54 t58 t22 t23 t24 t25 t26 t27 t28 t29 t30 t31) wd_491 wd_180 wd_492 wd_493 wd_494 ⟨by decide, by decide, rfl⟩ rfl ⟨rfl, rfl, by decide, by decide⟩ ⟨by decide, by decide⟩ [0, 1] [2, 3] rfl rfl ⟨by decide, by decide, by decide⟩ 0 rfl rfl rfl (Nat.le_of_ble_eq_true rfl) dL_law_748 (fun u_1 hw_2 => ?_)
  refine j_eq (ws2 := [(g0, .inr (11, [.int 0, .ref g1, .int 0, .int 0, .ref g2, .ref g3, .ref g4, .int 0, .int 0, .ref g5, .ref g6, .ref g7, .ref g8, .int 0, .ref g9, .ref g10, .int 1, .ref g11, .ref g12, .ref g13, .ref g14, .ref g15, .int 0, .int 0, .int 0, .ref g16, .int 0, .ref g17, .ref g18, .ref g19, .ref g20, .ref g21, .ref g22, .int 0, .int 0, .int 0, .ref g23, .ref g24, .int 0, .int 0, .int 0, .int 0, .ref g25])), (g6, .inl (cyI, 240, .inl (fun _ => 0)))]) (pc2 := 751) (lv2 := [(4, .int 0), (3, .ref o0), (2, .ref g0), (1, .ref t0), (0, .ref b)]) (st2 := [.int (-1)]) rfl rfl rfl rfl ?_
  refine j_aload_n (pc := 751) C dL_law_751 rfl 2 rfl ?_
  refine j_aload_n (pc := 752) C dL_law_752 rfl 4 rfl ?_
  refine j_iload (pc := 753) C dL_law_753 0 rfl ?_
  refine j_iconst (pc := 755) (v := 1) C dL_law_755 (by decide) ?_
  refine j_iadd (pc := 756) (v := 1) C dL_law_756 (by decide) ?_
  refine j_sld (pc := 757) (k := 1) C hX hbl hbA (by decide) (by decide) (by decide) dL_law_757 ?_
  refine j_aload_n (pc := 758) C dL_law_758 rfl 4 rfl ?_
  refine j_iload (pc := 759) C dL_law_759 0 rfl ?_
  refine j_iconst (pc := 761) (v := 2) C dL_law_761 (by decide) ?_
  refine j_iadd (pc := 762) (v := 2) C dL_law_762 (by decide) ?_
  refine j_sld (pc := 763) (k := 2) C hX hbl hbA (by decide) (by decide) (by decide) dL_law_763 ?_
  refine j_callV (pc := 764) (As := [.int (xs 1), .int (xs 2)]) (rest := [.int (-1)]) (wr := []) C (c_X11_through l D cyC cyI cyJ cyZ cyO (xs 1) (xs 2) g0 g1 g2 g3 g4 g5 g6 g7 g8 g9 g10 g11 g12 g13 g14 g15 g16 g17 g18 g19 g20 g21 g22 g23 g24 g25) wd_495 wd_313 wd_496 wd_497 wd_498 ⟨by decide, by decide, rfl⟩ rfl ⟨rfl, rfl, by decide, by decide⟩ ⟨by decide, by decide⟩ [0, 1] [] rfl rfl ⟨by decide, by decide, by decide⟩ 0 rfl rfl rfl (Nat.le_of_ble_eq_true rfl) dL_law_764 (fun u_3 hw_4 => ?_)
  refine j_eq (ws2 := []) (pc2 := 767) (lv2 := [(4, .int 0), (3, .ref o0), (2, .ref g0), (1, .ref t0), (0, .ref b)]) (st2 := [.int (-1), .int (-1)]) rfl rfl rfl rfl ?_
  refine j_icmp_eq_t (pc := 767) (tgt := 1216) C dL_law_767 (by decide) (by decide) ?_
  exact j_lv [0, 1, 2, 3, 4] rfl (law_tail X (by decide) (by decide))
set_option maxHeartbeats 4000000 in
set_option maxRecDepth 100000 in
theorem law_14 {p : Program} {l : Launch} {e : Env} {s : State} {m : MethodId} {below : List Frame} {meth : Method} {c : Code} {b : Nat} {xs : Nat → Int32} {D : va_G} {cyC cyI cyJ cyZ cyO : ClassId} (o0 g0 t0 t1 t21 t32 t37 t42 t43 t45 t50 t54 t58 t46 t47 t48 t49 g1 g2 g3 g4 g5 g6 g7 g8 g9 g10 g11 g12 g13 g14 g15 g16 g17 g18 g19 g20 g21 g22 g23 g24 g25 : Nat) (X : LX p s m meth c b 7 xs D cyC cyI cyJ cyZ cyO) : J p l e room_1 s m #[Value.ref b] below meth c D (fun q : Nat => s.heap.size ≤ q) 8 107 73154 (lw_Z below #[Value.ref b] s) [(t0, .inr (10, [.ref t1, .ref t21, .ref t32, .ref t37, .ref t42, .ref t43, .ref t45, .ref t50, .ref t54, .ref t58])), (t45, .inr (3, [.int 0, .ref t46, .ref t47, .int 0, .int 0, .int 0, .ref t48, .ref t49])), (t46, .inl (cyI, 12, .inl (fun _ => 0))), (t47, .inl (cyI, 12, .inl (fun _ => 0))), (t49, .inl (cyI, 12, .inl (fun _ => 0))), (g0, .inr (11, [.int 0, .ref g1, .int 0, .int 0, .ref g2, .ref g3, .ref g4, .int 0, .int 0, .ref g5, .ref g6, .ref g7, .ref g8, .int 0, .ref g9, .ref g10, .int 1, .ref g11, .ref g12, .ref g13, .ref g14, .ref g15, .int 0, .int 0, .int 0, .ref g16, .int 0, .ref g17, .ref g18, .ref g19, .ref g20, .ref g21, .ref g22, .int 0, .int 0, .int 0, .ref g23, .ref g24, .int 0, .int 0, .int 0, .int 0, .ref g25])), (g6, .inl (cyI, 240, .inl (fun _ => 0))), (g20, .inl (cyI, 4096, .inl (fun _ => 0)))] 772 [(4, .int 0), (3, .ref o0), (2, .ref g0), (1, .ref t0), (0, .ref b)] [] := by
  have C := X.1
  have hX := X.2.1
  have hbl := X.2.2.1
  have hbA : ¬ (fun q : Nat => s.heap.size ≤ q) b := Nat.not_le.mpr hbl
  refine j_aload_n (pc := 772) C dL_law_772 rfl 3 rfl ?_
  refine j_aload_n (pc := 773) C dL_law_773 rfl 4 rfl ?_
  refine j_iload (pc := 774) C dL_law_774 0 rfl ?_
  refine j_iconst (pc := 776) (v := 1) C dL_law_776 (by decide) ?_
  refine j_iadd (pc := 777) (v := 1) C dL_law_777 (by decide) ?_
  refine j_sld (pc := 778) (k := 1) C hX hbl hbA (by decide) (by decide) (by decide) dL_law_778 ?_
  refine j_callV (pc := 779) (As := [.int (xs 1)]) (rest := []) (wr := [(g0, .inr (11, [.int 0, .ref g1, .int 0, .int 0, .ref g2, .ref g3, .ref g4, .int 0, .int 0, .ref g5, .ref g6, .ref g7, .ref g8, .int 0, .ref g9, .ref g10, .int 1, .ref g11, .ref g12, .ref g13, .ref g14, .ref g15, .int 0, .int 0, .int 0, .ref g16, .int 0, .ref g17, .ref g18, .ref g19, .ref g20, .ref g21, .ref g22, .int 0, .int 0, .int 0, .ref g23, .ref g24, .int 0, .int 0, .int 0, .int 0, .ref g25])), (g6, .inl (cyI, 240, .inl (fun _ => 0))), (g20, .inl (cyI, 4096, .inl (fun _ => 0)))]) C (c_X10_rows l D cyC cyI cyJ cyZ cyO (xs 1) t0 t1 t21 t32 t37 t42 t43 t45 t50 t54 t58 t46 t47 t48 t49) wd_499 wd_180 wd_500 wd_501 wd_502 ⟨by decide, by decide, rfl⟩ rfl ⟨rfl, rfl, by decide, by decide⟩ ⟨by decide, by decide⟩ [0, 1, 2, 3, 4] [5, 6, 7] rfl rfl ⟨by decide, by decide, by decide⟩ 0 rfl rfl rfl (Nat.le_of_ble_eq_true rfl) dL_law_779 (fun u_1 hw_2 => ?_)
  refine j_eq (ws2 := [(g0, .inr (11, [.int 0, .ref g1, .int 0, .int 0, .ref g2, .ref g3, .ref g4, .int 0, .int 0, .ref g5, .ref g6, .ref g7, .ref g8, .int 0, .ref g9, .ref g10, .int 1, .ref g11, .ref g12, .ref g13, .ref g14, .ref g15, .int 0, .int 0, .int 0, .ref g16, .int 0, .ref g17, .ref g18, .ref g19, .ref g20, .ref g21, .ref g22, .int 0, .int 0, .int 0, .ref g23, .ref g24, .int 0, .int 0, .int 0, .int 0, .ref g25])), (g6, .inl (cyI, 240, .inl (fun _ => 0))), (g20, .inl (cyI, 4096, .inl (fun _ => 0)))]) (pc2 := 782) (lv2 := [(4, .int 0), (3, .ref o0), (2, .ref g0), (1, .ref t0), (0, .ref b)]) (st2 := [.int (u_1.2.1 0)]) rfl rfl rfl rfl ?_
  refine j_aload_n (pc := 782) C dL_law_782 rfl 2 rfl ?_
  refine j_aload_n (pc := 783) C dL_law_783 rfl 4 rfl ?_
  refine j_iload (pc := 784) C dL_law_784 0 rfl ?_
  refine j_iconst (pc := 786) (v := 1) C dL_law_786 (by decide) ?_
  refine j_iadd (pc := 787) (v := 1) C dL_law_787 (by decide) ?_
  refine j_sld (pc := 788) (k := 1) C hX hbl hbA (by decide) (by decide) (by decide) dL_law_788 ?_
  refine j_callV (pc := 789) (As := [.int (xs 1)]) (rest := [.int (u_1.2.1 0)]) (wr := []) C (c_X11_rows l D cyC cyI cyJ cyZ cyO (xs 1) g0 g1 g2 g3 g4 g5 g6 g7 g8 g9 g10 g11 g12 g13 g14 g15 g16 g17 g18 g19 g20 g21 g22 g23 g24 g25) wd_503 wd_313 wd_504 wd_505 wd_506 ⟨by decide, by decide, rfl⟩ rfl ⟨rfl, rfl, by decide, by decide⟩ ⟨by decide, by decide⟩ [0, 1, 2] [] rfl rfl ⟨by decide, by decide, by decide⟩ 0 rfl rfl rfl (Nat.le_of_ble_eq_true rfl) dL_law_789 (fun u_3 hw_4 => ?_)
  refine j_eq (ws2 := []) (pc2 := 792) (lv2 := [(4, .int 0), (3, .ref o0), (2, .ref g0), (1, .ref t0), (0, .ref b)]) (st2 := [.int (u_3.2.1 0), .int (u_1.2.1 0)]) rfl rfl rfl rfl ?_
  refine j_icmp_eq_t (pc := 792) (tgt := 1216) C dL_law_792 (by decide) (hw_2.trans hw_4.symm) ?_
  exact j_lv [0, 1, 2, 3, 4] rfl (law_tail X (by decide) (by decide))
set_option maxHeartbeats 4000000 in
set_option maxRecDepth 100000 in
theorem law_15 {p : Program} {l : Launch} {e : Env} {s : State} {m : MethodId} {below : List Frame} {meth : Method} {c : Code} {b : Nat} {xs : Nat → Int32} {D : va_G} {cyC cyI cyJ cyZ cyO : ClassId} (o0 g0 t0 t1 t21 t32 t37 t42 t43 t45 t50 t54 t58 t22 t23 t24 t25 t26 t27 t28 t29 t30 t31 g1 g2 g3 g4 g5 g6 g7 g8 g9 g10 g11 g12 g13 g14 g15 g16 g17 g18 g19 g20 g21 g22 g23 g24 g25 : Nat) (X : LX p s m meth c b 7 xs D cyC cyI cyJ cyZ cyO) : J p l e room_1 s m #[Value.ref b] below meth c D (fun q : Nat => s.heap.size ≤ q) 8 107 73154 (lw_Z below #[Value.ref b] s) [(t0, .inr (10, [.ref t1, .ref t21, .ref t32, .ref t37, .ref t42, .ref t43, .ref t45, .ref t50, .ref t54, .ref t58])), (t21, .inr (9, [.int 0, .int 0, .int 0, .ref t22, .ref t23, .ref t24, .ref t25, .ref t26, .ref t27, .int 0, .int 0, .ref t28, .ref t29, .ref t30, .ref t31])), (g0, .inr (11, [.int 0, .ref g1, .int 0, .int 0, .ref g2, .ref g3, .ref g4, .int 0, .int 0, .ref g5, .ref g6, .ref g7, .ref g8, .int 0, .ref g9, .ref g10, .int 1, .ref g11, .ref g12, .ref g13, .ref g14, .ref g15, .int 0, .int 0, .int 0, .ref g16, .int 0, .ref g17, .ref g18, .ref g19, .ref g20, .ref g21, .ref g22, .int 0, .int 0, .int 0, .ref g23, .ref g24, .int 0, .int 0, .int 0, .int 0, .ref g25])), (g6, .inl (cyI, 240, .inl (fun _ => 0)))] 797 [(4, .int 0), (3, .ref o0), (2, .ref g0), (1, .ref t0), (0, .ref b)] [] := by
  have C := X.1
  have hX := X.2.1
  have hbl := X.2.2.1
  have hbA : ¬ (fun q : Nat => s.heap.size ≤ q) b := Nat.not_le.mpr hbl
  refine j_aload_n (pc := 797) C dL_law_797 rfl 3 rfl ?_
  refine j_aload_n (pc := 798) C dL_law_798 rfl 4 rfl ?_
  refine j_iload (pc := 799) C dL_law_799 0 rfl ?_
  refine j_iconst (pc := 801) (v := 1) C dL_law_801 (by decide) ?_
  refine j_iadd (pc := 802) (v := 1) C dL_law_802 (by decide) ?_
  refine j_sld (pc := 803) (k := 1) C hX hbl hbA (by decide) (by decide) (by decide) dL_law_803 ?_
  refine j_callV (pc := 804) (As := [.int (xs 1)]) (rest := []) (wr := [(g0, .inr (11, [.int 0, .ref g1, .int 0, .int 0, .ref g2, .ref g3, .ref g4, .int 0, .int 0, .ref g5, .ref g6, .ref g7, .ref g8, .int 0, .ref g9, .ref g10, .int 1, .ref g11, .ref g12, .ref g13, .ref g14, .ref g15, .int 0, .int 0, .int 0, .ref g16, .int 0, .ref g17, .ref g18, .ref g19, .ref g20, .ref g21, .ref g22, .int 0, .int 0, .int 0, .ref g23, .ref g24, .int 0, .int 0, .int 0, .int 0, .ref g25])), (g6, .inl (cyI, 240, .inl (fun _ => 0)))]) C (c_X10_rowOf l D cyC cyI cyJ cyZ cyO (xs 1) t0 t1 t21 t32 t37 t42 t43 t45 t50 t54 t58 t22 t23 t24 t25 t26 t27 t28 t29 t30 t31) wd_507 wd_180 wd_508 wd_509 wd_510 ⟨by decide, by decide, rfl⟩ rfl ⟨rfl, rfl, by decide, by decide⟩ ⟨by decide, by decide⟩ [0, 1] [2, 3] rfl rfl ⟨by decide, by decide, by decide⟩ 0 rfl rfl rfl (Nat.le_of_ble_eq_true rfl) dL_law_804 (fun u_1 hw_2 => ?_)
  refine j_eq (ws2 := [(g0, .inr (11, [.int 0, .ref g1, .int 0, .int 0, .ref g2, .ref g3, .ref g4, .int 0, .int 0, .ref g5, .ref g6, .ref g7, .ref g8, .int 0, .ref g9, .ref g10, .int 1, .ref g11, .ref g12, .ref g13, .ref g14, .ref g15, .int 0, .int 0, .int 0, .ref g16, .int 0, .ref g17, .ref g18, .ref g19, .ref g20, .ref g21, .ref g22, .int 0, .int 0, .int 0, .ref g23, .ref g24, .int 0, .int 0, .int 0, .int 0, .ref g25])), (g6, .inl (cyI, 240, .inl (fun _ => 0)))]) (pc2 := 807) (lv2 := [(4, .int 0), (3, .ref o0), (2, .ref g0), (1, .ref t0), (0, .ref b)]) (st2 := [.int (-1)]) rfl rfl rfl rfl ?_
  refine j_aload_n (pc := 807) C dL_law_807 rfl 2 rfl ?_
  refine j_aload_n (pc := 808) C dL_law_808 rfl 4 rfl ?_
  refine j_iload (pc := 809) C dL_law_809 0 rfl ?_
  refine j_iconst (pc := 811) (v := 1) C dL_law_811 (by decide) ?_
  refine j_iadd (pc := 812) (v := 1) C dL_law_812 (by decide) ?_
  refine j_sld (pc := 813) (k := 1) C hX hbl hbA (by decide) (by decide) (by decide) dL_law_813 ?_
  refine j_callV (pc := 814) (As := [.int (xs 1)]) (rest := [.int (-1)]) (wr := []) C (c_X11_rowOf l D cyC cyI cyJ cyZ cyO (xs 1) g0 g1 g2 g3 g4 g5 g6 g7 g8 g9 g10 g11 g12 g13 g14 g15 g16 g17 g18 g19 g20 g21 g22 g23 g24 g25) wd_511 wd_313 wd_512 wd_513 wd_514 ⟨by decide, by decide, rfl⟩ rfl ⟨rfl, rfl, by decide, by decide⟩ ⟨by decide, by decide⟩ [0, 1] [] rfl rfl ⟨by decide, by decide, by decide⟩ 0 rfl rfl rfl (Nat.le_of_ble_eq_true rfl) dL_law_814 (fun u_3 hw_4 => ?_)
  refine j_eq (ws2 := []) (pc2 := 817) (lv2 := [(4, .int 0), (3, .ref o0), (2, .ref g0), (1, .ref t0), (0, .ref b)]) (st2 := [.int (-1), .int (-1)]) rfl rfl rfl rfl ?_
  refine j_icmp_eq_t (pc := 817) (tgt := 1216) C dL_law_817 (by decide) (by decide) ?_
  exact j_lv [0, 1, 2, 3, 4] rfl (law_tail X (by decide) (by decide))
set_option maxHeartbeats 4000000 in
set_option maxRecDepth 100000 in
theorem law_16 {p : Program} {l : Launch} {e : Env} {s : State} {m : MethodId} {below : List Frame} {meth : Method} {c : Code} {b : Nat} {xs : Nat → Int32} {D : va_G} {cyC cyI cyJ cyZ cyO : ClassId} (o0 g0 t0 t1 t21 t32 t37 t42 t43 t45 t50 t54 t58 t22 t23 t24 t25 t26 t27 t28 t29 t30 t31 t51 t52 t53 g1 g2 g3 g4 g5 g6 g7 g8 g9 g10 g11 g12 g13 g14 g15 g16 g17 g18 g19 g20 g21 g22 g23 g24 g25 : Nat) (X : LX p s m meth c b 7 xs D cyC cyI cyJ cyZ cyO) : J p l e room_1 s m #[Value.ref b] below meth c D (fun q : Nat => s.heap.size ≤ q) 8 107 73154 (lw_Z below #[Value.ref b] s) [(t0, .inr (10, [.ref t1, .ref t21, .ref t32, .ref t37, .ref t42, .ref t43, .ref t45, .ref t50, .ref t54, .ref t58])), (t21, .inr (9, [.int 0, .int 0, .int 0, .ref t22, .ref t23, .ref t24, .ref t25, .ref t26, .ref t27, .int 0, .int 0, .ref t28, .ref t29, .ref t30, .ref t31])), (t50, .inr (0, [.int 0, .int 0, .ref t51, .ref t52, .ref t53])), (t52, .inl (cyI, 0, .inl (fun _ => 0))), (g0, .inr (11, [.int 0, .ref g1, .int 0, .int 0, .ref g2, .ref g3, .ref g4, .int 0, .int 0, .ref g5, .ref g6, .ref g7, .ref g8, .int 0, .ref g9, .ref g10, .int 1, .ref g11, .ref g12, .ref g13, .ref g14, .ref g15, .int 0, .int 0, .int 0, .ref g16, .int 0, .ref g17, .ref g18, .ref g19, .ref g20, .ref g21, .ref g22, .int 0, .int 0, .int 0, .ref g23, .ref g24, .int 0, .int 0, .int 0, .int 0, .ref g25])), (g6, .inl (cyI, 240, .inl (fun _ => 0))), (g20, .inl (cyI, 4096, .inl (fun _ => 0))), (g22, .inl (cyI, 4096, .inl (fun _ => 0)))] 822 [(4, .int 0), (3, .ref o0), (2, .ref g0), (1, .ref t0), (0, .ref b)] [] := by
  have C := X.1
  have hX := X.2.1
  have hbl := X.2.2.1
  have hbA : ¬ (fun q : Nat => s.heap.size ≤ q) b := Nat.not_le.mpr hbl
  refine j_aload_n (pc := 822) C dL_law_822 rfl 3 rfl ?_
  refine j_aload_n (pc := 823) C dL_law_823 rfl 4 rfl ?_
  refine j_iload (pc := 824) C dL_law_824 0 rfl ?_
  refine j_iconst (pc := 826) (v := 1) C dL_law_826 (by decide) ?_
  refine j_iadd (pc := 827) (v := 1) C dL_law_827 (by decide) ?_
  refine j_sld (pc := 828) (k := 1) C hX hbl hbA (by decide) (by decide) (by decide) dL_law_828 ?_
  refine j_callV (pc := 829) (As := [.int (xs 1)]) (rest := []) (wr := [(g0, .inr (11, [.int 0, .ref g1, .int 0, .int 0, .ref g2, .ref g3, .ref g4, .int 0, .int 0, .ref g5, .ref g6, .ref g7, .ref g8, .int 0, .ref g9, .ref g10, .int 1, .ref g11, .ref g12, .ref g13, .ref g14, .ref g15, .int 0, .int 0, .int 0, .ref g16, .int 0, .ref g17, .ref g18, .ref g19, .ref g20, .ref g21, .ref g22, .int 0, .int 0, .int 0, .ref g23, .ref g24, .int 0, .int 0, .int 0, .int 0, .ref g25])), (g6, .inl (cyI, 240, .inl (fun _ => 0))), (g20, .inl (cyI, 4096, .inl (fun _ => 0))), (g22, .inl (cyI, 4096, .inl (fun _ => 0)))]) C (c_X10_needed l D cyC cyI cyJ cyZ cyO (xs 1) t0 t1 t21 t32 t37 t42 t43 t45 t50 t54 t58 t22 t23 t24 t25 t26 t27 t28 t29 t30 t31 t51 t52 t53) wd_515 wd_180 wd_516 wd_517 wd_518 ⟨by decide, by decide, rfl⟩ rfl ⟨rfl, rfl, by decide, by decide⟩ ⟨by decide, by decide⟩ [0, 1, 2, 3] [4, 5, 6, 7] rfl rfl ⟨by decide, by decide, by decide⟩ 0 rfl rfl rfl (Nat.le_of_ble_eq_true rfl) dL_law_829 (fun u_1 hw_2 => ?_)
  refine j_eq (ws2 := [(g0, .inr (11, [.int 0, .ref g1, .int 0, .int 0, .ref g2, .ref g3, .ref g4, .int 0, .int 0, .ref g5, .ref g6, .ref g7, .ref g8, .int 0, .ref g9, .ref g10, .int 1, .ref g11, .ref g12, .ref g13, .ref g14, .ref g15, .int 0, .int 0, .int 0, .ref g16, .int 0, .ref g17, .ref g18, .ref g19, .ref g20, .ref g21, .ref g22, .int 0, .int 0, .int 0, .ref g23, .ref g24, .int 0, .int 0, .int 0, .int 0, .ref g25])), (g6, .inl (cyI, 240, .inl (fun _ => 0))), (g20, .inl (cyI, 4096, .inl (fun _ => 0))), (g22, .inl (cyI, 4096, .inl (fun _ => 0)))]) (pc2 := 832) (lv2 := [(4, .int 0), (3, .ref o0), (2, .ref g0), (1, .ref t0), (0, .ref b)]) (st2 := [.int (u_1.2.1 0)]) rfl rfl rfl rfl ?_
  refine j_widen (k := 110) (n := 73156) (by decide) (by decide) ?_
  refine j_aload_n (pc := 832) C dL_law_832 rfl 2 rfl ?_
  refine j_aload_n (pc := 833) C dL_law_833 rfl 4 rfl ?_
  refine j_iload (pc := 834) C dL_law_834 0 rfl ?_
  refine j_iconst (pc := 836) (v := 1) C dL_law_836 (by decide) ?_
  refine j_iadd (pc := 837) (v := 1) C dL_law_837 (by decide) ?_
  refine j_sld (pc := 838) (k := 1) C hX hbl hbA (by decide) (by decide) (by decide) dL_law_838 ?_
  refine j_callV (pc := 839) (As := [.int (xs 1)]) (rest := [.int (u_1.2.1 0)]) (wr := []) C (c_X11_needed l D cyC cyI cyJ cyZ cyO (xs 1) g0 g1 g2 g3 g4 g5 g6 g7 g8 g9 g10 g11 g12 g13 g14 g15 g16 g17 g18 g19 g20 g21 g22 g23 g24 g25) wd_519 wd_313 wd_520 wd_521 wd_522 ⟨by decide, by decide, rfl⟩ rfl ⟨rfl, rfl, by decide, by decide⟩ ⟨by decide, by decide⟩ [0, 1, 2, 3] [] rfl rfl ⟨by decide, by decide, by decide⟩ 0 rfl rfl rfl (Nat.le_of_ble_eq_true rfl) dL_law_839 (fun u_3 hw_4 => ?_)
  refine j_eq (ws2 := []) (pc2 := 842) (lv2 := [(4, .int 0), (3, .ref o0), (2, .ref g0), (1, .ref t0), (0, .ref b)]) (st2 := [.int (u_3.2.1 0), .int (u_1.2.1 0)]) rfl rfl rfl rfl ?_
  refine j_icmp_eq_t (pc := 842) (tgt := 1216) C dL_law_842 (by decide) (hw_2.trans hw_4.symm) ?_
  exact j_lv [0, 1, 2, 3, 4] rfl (law_tail X (by decide) (by decide))
set_option maxHeartbeats 4000000 in
set_option maxRecDepth 100000 in
theorem law_17 {p : Program} {l : Launch} {e : Env} {s : State} {m : MethodId} {below : List Frame} {meth : Method} {c : Code} {b : Nat} {xs : Nat → Int32} {D : va_G} {cyC cyI cyJ cyZ cyO : ClassId} (o0 g0 t0 t1 t21 t32 t37 t42 t43 t45 t50 t54 t58 t22 t23 t24 t25 t26 t27 t28 t29 t30 t31 g1 g2 g3 g4 g5 g6 g7 g8 g9 g10 g11 g12 g13 g14 g15 g16 g17 g18 g19 g20 g21 g22 g23 g24 g25 : Nat) (X : LX p s m meth c b 7 xs D cyC cyI cyJ cyZ cyO) : J p l e room_1 s m #[Value.ref b] below meth c D (fun q : Nat => s.heap.size ≤ q) 8 107 73154 (lw_Z below #[Value.ref b] s) [(t0, .inr (10, [.ref t1, .ref t21, .ref t32, .ref t37, .ref t42, .ref t43, .ref t45, .ref t50, .ref t54, .ref t58])), (t21, .inr (9, [.int 0, .int 0, .int 0, .ref t22, .ref t23, .ref t24, .ref t25, .ref t26, .ref t27, .int 0, .int 0, .ref t28, .ref t29, .ref t30, .ref t31])), (g0, .inr (11, [.int 0, .ref g1, .int 0, .int 0, .ref g2, .ref g3, .ref g4, .int 0, .int 0, .ref g5, .ref g6, .ref g7, .ref g8, .int 0, .ref g9, .ref g10, .int 1, .ref g11, .ref g12, .ref g13, .ref g14, .ref g15, .int 0, .int 0, .int 0, .ref g16, .int 0, .ref g17, .ref g18, .ref g19, .ref g20, .ref g21, .ref g22, .int 0, .int 0, .int 0, .ref g23, .ref g24, .int 0, .int 0, .int 0, .int 0, .ref g25])), (g6, .inl (cyI, 240, .inl (fun _ => 0))), (g20, .inl (cyI, 4096, .inl (fun _ => 0)))] 847 [(4, .int 0), (3, .ref o0), (2, .ref g0), (1, .ref t0), (0, .ref b)] [] := by
  have C := X.1
  have hX := X.2.1
  have hbl := X.2.2.1
  have hbA : ¬ (fun q : Nat => s.heap.size ≤ q) b := Nat.not_le.mpr hbl
  refine j_aload_n (pc := 847) C dL_law_847 rfl 3 rfl ?_
  refine j_aload_n (pc := 848) C dL_law_848 rfl 4 rfl ?_
  refine j_iload (pc := 849) C dL_law_849 0 rfl ?_
  refine j_iconst (pc := 851) (v := 1) C dL_law_851 (by decide) ?_
  refine j_iadd (pc := 852) (v := 1) C dL_law_852 (by decide) ?_
  refine j_sld (pc := 853) (k := 1) C hX hbl hbA (by decide) (by decide) (by decide) dL_law_853 ?_
  refine j_aload_n (pc := 854) C dL_law_854 rfl 4 rfl ?_
  refine j_iload (pc := 855) C dL_law_855 0 rfl ?_
  refine j_iconst (pc := 857) (v := 2) C dL_law_857 (by decide) ?_
  refine j_iadd (pc := 858) (v := 2) C dL_law_858 (by decide) ?_
  refine j_sld (pc := 859) (k := 2) C hX hbl hbA (by decide) (by decide) (by decide) dL_law_859 ?_
  refine j_aload_n (pc := 860) C dL_law_860 rfl 4 rfl ?_
  refine j_iload (pc := 861) C dL_law_861 0 rfl ?_
  refine j_iconst (pc := 863) (v := 3) C dL_law_863 (by decide) ?_
  refine j_iadd (pc := 864) (v := 3) C dL_law_864 (by decide) ?_
  refine j_sld (pc := 865) (k := 3) C hX hbl hbA (by decide) (by decide) (by decide) dL_law_865 ?_
  refine j_callV (pc := 866) (As := [.int (xs 1), .int (xs 2), .int (xs 3)]) (rest := []) (wr := [(g0, .inr (11, [.int 0, .ref g1, .int 0, .int 0, .ref g2, .ref g3, .ref g4, .int 0, .int 0, .ref g5, .ref g6, .ref g7, .ref g8, .int 0, .ref g9, .ref g10, .int 1, .ref g11, .ref g12, .ref g13, .ref g14, .ref g15, .int 0, .int 0, .int 0, .ref g16, .int 0, .ref g17, .ref g18, .ref g19, .ref g20, .ref g21, .ref g22, .int 0, .int 0, .int 0, .ref g23, .ref g24, .int 0, .int 0, .int 0, .int 0, .ref g25])), (g6, .inl (cyI, 240, .inl (fun _ => 0))), (g20, .inl (cyI, 4096, .inl (fun _ => 0)))]) C (c_X10_sorted l D cyC cyI cyJ cyZ cyO (xs 1) (xs 2) (xs 3) t0 t1 t21 t32 t37 t42 t43 t45 t50 t54 t58 t22 t23 t24 t25 t26 t27 t28 t29 t30 t31) wd_523 wd_180 wd_524 wd_525 wd_526 ⟨by decide, by decide, rfl⟩ rfl ⟨rfl, rfl, by decide, by decide⟩ ⟨by decide, by decide⟩ [0, 1] [2, 3, 4] rfl rfl ⟨by decide, by decide, by decide⟩ 0 rfl rfl rfl (Nat.le_of_ble_eq_true rfl) dL_law_866 (fun u_1 hw_2 => ?_)
  refine j_eq (ws2 := [(g0, .inr (11, [.int 0, .ref g1, .int 0, .int 0, .ref g2, .ref g3, .ref g4, .int 0, .int 0, .ref g5, .ref g6, .ref g7, .ref g8, .int 0, .ref g9, .ref g10, .int 1, .ref g11, .ref g12, .ref g13, .ref g14, .ref g15, .int 0, .int 0, .int 0, .ref g16, .int 0, .ref g17, .ref g18, .ref g19, .ref g20, .ref g21, .ref g22, .int 0, .int 0, .int 0, .ref g23, .ref g24, .int 0, .int 0, .int 0, .int 0, .ref g25])), (g6, .inl (cyI, 240, .inl (fun _ => 0))), (g20, .inl (cyI, 4096, .inl (fun _ => 0)))]) (pc2 := 869) (lv2 := [(4, .int 0), (3, .ref o0), (2, .ref g0), (1, .ref t0), (0, .ref b)]) (st2 := [.int (-1)]) rfl rfl rfl rfl ?_
  refine j_aload_n (pc := 869) C dL_law_869 rfl 2 rfl ?_
  refine j_aload_n (pc := 870) C dL_law_870 rfl 4 rfl ?_
  refine j_iload (pc := 871) C dL_law_871 0 rfl ?_
  refine j_iconst (pc := 873) (v := 1) C dL_law_873 (by decide) ?_
  refine j_iadd (pc := 874) (v := 1) C dL_law_874 (by decide) ?_
  refine j_sld (pc := 875) (k := 1) C hX hbl hbA (by decide) (by decide) (by decide) dL_law_875 ?_
  refine j_aload_n (pc := 876) C dL_law_876 rfl 4 rfl ?_
  refine j_iload (pc := 877) C dL_law_877 0 rfl ?_
  refine j_iconst (pc := 879) (v := 2) C dL_law_879 (by decide) ?_
  refine j_iadd (pc := 880) (v := 2) C dL_law_880 (by decide) ?_
  refine j_sld (pc := 881) (k := 2) C hX hbl hbA (by decide) (by decide) (by decide) dL_law_881 ?_
  refine j_aload_n (pc := 882) C dL_law_882 rfl 4 rfl ?_
  refine j_iload (pc := 883) C dL_law_883 0 rfl ?_
  refine j_iconst (pc := 885) (v := 3) C dL_law_885 (by decide) ?_
  refine j_iadd (pc := 886) (v := 3) C dL_law_886 (by decide) ?_
  refine j_sld (pc := 887) (k := 3) C hX hbl hbA (by decide) (by decide) (by decide) dL_law_887 ?_
  refine j_callV (pc := 888) (As := [.int (xs 1), .int (xs 2), .int (xs 3)]) (rest := [.int (-1)]) (wr := []) C (c_X11_sorted l D cyC cyI cyJ cyZ cyO (xs 1) (xs 2) (xs 3) g0 g1 g2 g3 g4 g5 g6 g7 g8 g9 g10 g11 g12 g13 g14 g15 g16 g17 g18 g19 g20 g21 g22 g23 g24 g25) wd_527 wd_313 wd_528 wd_529 wd_530 ⟨by decide, by decide, rfl⟩ rfl ⟨rfl, rfl, by decide, by decide⟩ ⟨by decide, by decide⟩ [0, 1, 2] [] rfl rfl ⟨by decide, by decide, by decide⟩ 0 rfl rfl rfl (Nat.le_of_ble_eq_true rfl) dL_law_888 (fun u_3 hw_4 => ?_)
  refine j_eq (ws2 := []) (pc2 := 891) (lv2 := [(4, .int 0), (3, .ref o0), (2, .ref g0), (1, .ref t0), (0, .ref b)]) (st2 := [.int (-1), .int (-1)]) rfl rfl rfl rfl ?_
  refine j_icmp_eq_t (pc := 891) (tgt := 1216) C dL_law_891 (by decide) (by decide) ?_
  exact j_lv [0, 1, 2, 3, 4] rfl (law_tail X (by decide) (by decide))
set_option maxHeartbeats 4000000 in
set_option maxRecDepth 100000 in
theorem law_18 {p : Program} {l : Launch} {e : Env} {s : State} {m : MethodId} {below : List Frame} {meth : Method} {c : Code} {b : Nat} {xs : Nat → Int32} {D : va_G} {cyC cyI cyJ cyZ cyO : ClassId} (o0 g0 t0 t1 t21 t32 t37 t42 t43 t45 t50 t54 t58 t22 t23 t24 t25 t26 t27 t28 t29 t30 t31 g1 g2 g3 g4 g5 g6 g7 g8 g9 g10 g11 g12 g13 g14 g15 g16 g17 g18 g19 g20 g21 g22 g23 g24 g25 : Nat) (X : LX p s m meth c b 7 xs D cyC cyI cyJ cyZ cyO) : J p l e room_1 s m #[Value.ref b] below meth c D (fun q : Nat => s.heap.size ≤ q) 8 107 73154 (lw_Z below #[Value.ref b] s) [(t0, .inr (10, [.ref t1, .ref t21, .ref t32, .ref t37, .ref t42, .ref t43, .ref t45, .ref t50, .ref t54, .ref t58])), (t21, .inr (9, [.int 0, .int 0, .int 0, .ref t22, .ref t23, .ref t24, .ref t25, .ref t26, .ref t27, .int 0, .int 0, .ref t28, .ref t29, .ref t30, .ref t31])), (g0, .inr (11, [.int 0, .ref g1, .int 0, .int 0, .ref g2, .ref g3, .ref g4, .int 0, .int 0, .ref g5, .ref g6, .ref g7, .ref g8, .int 0, .ref g9, .ref g10, .int 1, .ref g11, .ref g12, .ref g13, .ref g14, .ref g15, .int 0, .int 0, .int 0, .ref g16, .int 0, .ref g17, .ref g18, .ref g19, .ref g20, .ref g21, .ref g22, .int 0, .int 0, .int 0, .ref g23, .ref g24, .int 0, .int 0, .int 0, .int 0, .ref g25])), (g6, .inl (cyI, 240, .inl (fun _ => 0)))] 896 [(4, .int 0), (3, .ref o0), (2, .ref g0), (1, .ref t0), (0, .ref b)] [] := by
  have C := X.1
  have hX := X.2.1
  have hbl := X.2.2.1
  have hbA : ¬ (fun q : Nat => s.heap.size ≤ q) b := Nat.not_le.mpr hbl
  refine j_aload_n (pc := 896) C dL_law_896 rfl 3 rfl ?_
  refine j_aload_n (pc := 897) C dL_law_897 rfl 4 rfl ?_
  refine j_iload (pc := 898) C dL_law_898 0 rfl ?_
  refine j_iconst (pc := 900) (v := 1) C dL_law_900 (by decide) ?_
  refine j_iadd (pc := 901) (v := 1) C dL_law_901 (by decide) ?_
  refine j_sld (pc := 902) (k := 1) C hX hbl hbA (by decide) (by decide) (by decide) dL_law_902 ?_
  refine j_aload_n (pc := 903) C dL_law_903 rfl 4 rfl ?_
  refine j_iload (pc := 904) C dL_law_904 0 rfl ?_
  refine j_iconst (pc := 906) (v := 2) C dL_law_906 (by decide) ?_
  refine j_iadd (pc := 907) (v := 2) C dL_law_907 (by decide) ?_
  refine j_sld (pc := 908) (k := 2) C hX hbl hbA (by decide) (by decide) (by decide) dL_law_908 ?_
  refine j_callV (pc := 909) (As := [.int (xs 1), .int (xs 2)]) (rest := []) (wr := [(g0, .inr (11, [.int 0, .ref g1, .int 0, .int 0, .ref g2, .ref g3, .ref g4, .int 0, .int 0, .ref g5, .ref g6, .ref g7, .ref g8, .int 0, .ref g9, .ref g10, .int 1, .ref g11, .ref g12, .ref g13, .ref g14, .ref g15, .int 0, .int 0, .int 0, .ref g16, .int 0, .ref g17, .ref g18, .ref g19, .ref g20, .ref g21, .ref g22, .int 0, .int 0, .int 0, .ref g23, .ref g24, .int 0, .int 0, .int 0, .int 0, .ref g25])), (g6, .inl (cyI, 240, .inl (fun _ => 0)))]) C (c_X10_goes l D cyC cyI cyJ cyZ cyO (xs 1) (xs 2) t0 t1 t21 t32 t37 t42 t43 t45 t50 t54 t58 t22 t23 t24 t25 t26 t27 t28 t29 t30 t31) wd_531 wd_180 wd_532 wd_533 wd_534 ⟨by decide, by decide, rfl⟩ rfl ⟨rfl, rfl, by decide, by decide⟩ ⟨by decide, by decide⟩ [0, 1] [2, 3] rfl rfl ⟨by decide, by decide, by decide⟩ 0 rfl rfl rfl (Nat.le_of_ble_eq_true rfl) dL_law_909 (fun u_1 hw_2 => ?_)
  refine j_eq (ws2 := [(g0, .inr (11, [.int 0, .ref g1, .int 0, .int 0, .ref g2, .ref g3, .ref g4, .int 0, .int 0, .ref g5, .ref g6, .ref g7, .ref g8, .int 0, .ref g9, .ref g10, .int 1, .ref g11, .ref g12, .ref g13, .ref g14, .ref g15, .int 0, .int 0, .int 0, .ref g16, .int 0, .ref g17, .ref g18, .ref g19, .ref g20, .ref g21, .ref g22, .int 0, .int 0, .int 0, .ref g23, .ref g24, .int 0, .int 0, .int 0, .int 0, .ref g25])), (g6, .inl (cyI, 240, .inl (fun _ => 0)))]) (pc2 := 912) (lv2 := [(4, .int 0), (3, .ref o0), (2, .ref g0), (1, .ref t0), (0, .ref b)]) (st2 := [.int (-1)]) rfl rfl rfl rfl ?_
  refine j_aload_n (pc := 912) C dL_law_912 rfl 2 rfl ?_
  refine j_aload_n (pc := 913) C dL_law_913 rfl 4 rfl ?_
  refine j_iload (pc := 914) C dL_law_914 0 rfl ?_
  refine j_iconst (pc := 916) (v := 1) C dL_law_916 (by decide) ?_
  refine j_iadd (pc := 917) (v := 1) C dL_law_917 (by decide) ?_
  refine j_sld (pc := 918) (k := 1) C hX hbl hbA (by decide) (by decide) (by decide) dL_law_918 ?_
  refine j_aload_n (pc := 919) C dL_law_919 rfl 4 rfl ?_
  refine j_iload (pc := 920) C dL_law_920 0 rfl ?_
  refine j_iconst (pc := 922) (v := 2) C dL_law_922 (by decide) ?_
  refine j_iadd (pc := 923) (v := 2) C dL_law_923 (by decide) ?_
  refine j_sld (pc := 924) (k := 2) C hX hbl hbA (by decide) (by decide) (by decide) dL_law_924 ?_
  refine j_callV (pc := 925) (As := [.int (xs 1), .int (xs 2)]) (rest := [.int (-1)]) (wr := []) C (c_X11_goes l D cyC cyI cyJ cyZ cyO (xs 1) (xs 2) g0 g1 g2 g3 g4 g5 g6 g7 g8 g9 g10 g11 g12 g13 g14 g15 g16 g17 g18 g19 g20 g21 g22 g23 g24 g25) wd_535 wd_313 wd_536 wd_537 wd_538 ⟨by decide, by decide, rfl⟩ rfl ⟨rfl, rfl, by decide, by decide⟩ ⟨by decide, by decide⟩ [0, 1] [] rfl rfl ⟨by decide, by decide, by decide⟩ 0 rfl rfl rfl (Nat.le_of_ble_eq_true rfl) dL_law_925 (fun u_3 hw_4 => ?_)
  refine j_eq (ws2 := []) (pc2 := 928) (lv2 := [(4, .int 0), (3, .ref o0), (2, .ref g0), (1, .ref t0), (0, .ref b)]) (st2 := [.int (-1), .int (-1)]) rfl rfl rfl rfl ?_
  refine j_icmp_eq_t (pc := 928) (tgt := 1216) C dL_law_928 (by decide) (by decide) ?_
  exact j_lv [0, 1, 2, 3, 4] rfl (law_tail X (by decide) (by decide))
set_option maxHeartbeats 4000000 in
set_option maxRecDepth 100000 in
theorem law_19 {p : Program} {l : Launch} {e : Env} {s : State} {m : MethodId} {below : List Frame} {meth : Method} {c : Code} {b : Nat} {xs : Nat → Int32} {D : va_G} {cyC cyI cyJ cyZ cyO : ClassId} (o0 g0 t0 t1 t21 t32 t37 t42 t43 t45 t50 t54 t58 t22 t23 t24 t25 t26 t27 t28 t29 t30 t31 g1 g2 g3 g4 g5 g6 g7 g8 g9 g10 g11 g12 g13 g14 g15 g16 g17 g18 g19 g20 g21 g22 g23 g24 g25 : Nat) (X : LX p s m meth c b 7 xs D cyC cyI cyJ cyZ cyO) : J p l e room_1 s m #[Value.ref b] below meth c D (fun q : Nat => s.heap.size ≤ q) 8 107 73154 (lw_Z below #[Value.ref b] s) [(t0, .inr (10, [.ref t1, .ref t21, .ref t32, .ref t37, .ref t42, .ref t43, .ref t45, .ref t50, .ref t54, .ref t58])), (t21, .inr (9, [.int 0, .int 0, .int 0, .ref t22, .ref t23, .ref t24, .ref t25, .ref t26, .ref t27, .int 0, .int 0, .ref t28, .ref t29, .ref t30, .ref t31])), (g0, .inr (11, [.int 0, .ref g1, .int 0, .int 0, .ref g2, .ref g3, .ref g4, .int 0, .int 0, .ref g5, .ref g6, .ref g7, .ref g8, .int 0, .ref g9, .ref g10, .int 1, .ref g11, .ref g12, .ref g13, .ref g14, .ref g15, .int 0, .int 0, .int 0, .ref g16, .int 0, .ref g17, .ref g18, .ref g19, .ref g20, .ref g21, .ref g22, .int 0, .int 0, .int 0, .ref g23, .ref g24, .int 0, .int 0, .int 0, .int 0, .ref g25])), (g6, .inl (cyI, 240, .inl (fun _ => 0)))] 933 [(4, .int 0), (3, .ref o0), (2, .ref g0), (1, .ref t0), (0, .ref b)] [] := by
  have C := X.1
  have hX := X.2.1
  have hbl := X.2.2.1
  have hbA : ¬ (fun q : Nat => s.heap.size ≤ q) b := Nat.not_le.mpr hbl
  refine j_aload_n (pc := 933) C dL_law_933 rfl 3 rfl ?_
  refine j_aload_n (pc := 934) C dL_law_934 rfl 4 rfl ?_
  refine j_iload (pc := 935) C dL_law_935 0 rfl ?_
  refine j_iconst (pc := 937) (v := 1) C dL_law_937 (by decide) ?_
  refine j_iadd (pc := 938) (v := 1) C dL_law_938 (by decide) ?_
  refine j_sld (pc := 939) (k := 1) C hX hbl hbA (by decide) (by decide) (by decide) dL_law_939 ?_
  refine j_callV (pc := 940) (As := [.int (xs 1)]) (rest := []) (wr := [(g0, .inr (11, [.int 0, .ref g1, .int 0, .int 0, .ref g2, .ref g3, .ref g4, .int 0, .int 0, .ref g5, .ref g6, .ref g7, .ref g8, .int 0, .ref g9, .ref g10, .int 1, .ref g11, .ref g12, .ref g13, .ref g14, .ref g15, .int 0, .int 0, .int 0, .ref g16, .int 0, .ref g17, .ref g18, .ref g19, .ref g20, .ref g21, .ref g22, .int 0, .int 0, .int 0, .ref g23, .ref g24, .int 0, .int 0, .int 0, .int 0, .ref g25])), (g6, .inl (cyI, 240, .inl (fun _ => 0)))]) C (c_X10_ask l D cyC cyI cyJ cyZ cyO (xs 1) t0 t1 t21 t32 t37 t42 t43 t45 t50 t54 t58 t22 t23 t24 t25 t26 t27 t28 t29 t30 t31) wd_539 wd_180 wd_540 wd_541 wd_542 ⟨by decide, by decide, rfl⟩ rfl ⟨rfl, rfl, by decide, by decide⟩ ⟨by decide, by decide⟩ [0, 1] [2, 3] rfl rfl ⟨by decide, by decide, by decide⟩ 0 rfl rfl rfl (Nat.le_of_ble_eq_true rfl) dL_law_940 (fun u_1 hw_2 => ?_)
  refine j_eq (ws2 := [(g0, .inr (11, [.int 0, .ref g1, .int 0, .int 0, .ref g2, .ref g3, .ref g4, .int 0, .int 0, .ref g5, .ref g6, .ref g7, .ref g8, .int 0, .ref g9, .ref g10, .int 1, .ref g11, .ref g12, .ref g13, .ref g14, .ref g15, .int 0, .int 0, .int 0, .ref g16, .int 0, .ref g17, .ref g18, .ref g19, .ref g20, .ref g21, .ref g22, .int 0, .int 0, .int 0, .ref g23, .ref g24, .int 0, .int 0, .int 0, .int 0, .ref g25])), (g6, .inl (cyI, 240, .inl (fun _ => 0)))]) (pc2 := 943) (lv2 := [(4, .int 0), (3, .ref o0), (2, .ref g0), (1, .ref t0), (0, .ref b)]) (st2 := [.int (-1)]) rfl rfl rfl rfl ?_
  refine j_aload_n (pc := 943) C dL_law_943 rfl 2 rfl ?_
  refine j_aload_n (pc := 944) C dL_law_944 rfl 4 rfl ?_
  refine j_iload (pc := 945) C dL_law_945 0 rfl ?_
  refine j_iconst (pc := 947) (v := 1) C dL_law_947 (by decide) ?_
  refine j_iadd (pc := 948) (v := 1) C dL_law_948 (by decide) ?_
  refine j_sld (pc := 949) (k := 1) C hX hbl hbA (by decide) (by decide) (by decide) dL_law_949 ?_
  refine j_callV (pc := 950) (As := [.int (xs 1)]) (rest := [.int (-1)]) (wr := []) C (c_X11_ask l D cyC cyI cyJ cyZ cyO (xs 1) g0 g1 g2 g3 g4 g5 g6 g7 g8 g9 g10 g11 g12 g13 g14 g15 g16 g17 g18 g19 g20 g21 g22 g23 g24 g25) wd_543 wd_313 wd_544 wd_545 wd_546 ⟨by decide, by decide, rfl⟩ rfl ⟨rfl, rfl, by decide, by decide⟩ ⟨by decide, by decide⟩ [0, 1] [] rfl rfl ⟨by decide, by decide, by decide⟩ 0 rfl rfl rfl (Nat.le_of_ble_eq_true rfl) dL_law_950 (fun u_3 hw_4 => ?_)
  refine j_eq (ws2 := []) (pc2 := 953) (lv2 := [(4, .int 0), (3, .ref o0), (2, .ref g0), (1, .ref t0), (0, .ref b)]) (st2 := [.int (-1), .int (-1)]) rfl rfl rfl rfl ?_
  refine j_icmp_eq_t (pc := 953) (tgt := 1216) C dL_law_953 (by decide) (by decide) ?_
  exact j_lv [0, 1, 2, 3, 4] rfl (law_tail X (by decide) (by decide))
set_option maxHeartbeats 4000000 in
set_option maxRecDepth 100000 in
theorem law_20 {p : Program} {l : Launch} {e : Env} {s : State} {m : MethodId} {below : List Frame} {meth : Method} {c : Code} {b : Nat} {xs : Nat → Int32} {D : va_G} {cyC cyI cyJ cyZ cyO : ClassId} (o0 g0 t0 t1 t21 t32 t37 t42 t43 t45 t50 t54 t58 t33 t34 t35 t36 g1 g2 g3 g4 g5 g6 g7 g8 g9 g10 g11 g12 g13 g14 g15 g16 g17 g18 g19 g20 g21 g22 g23 g24 g25 : Nat) (X : LX p s m meth c b 7 xs D cyC cyI cyJ cyZ cyO) : J p l e room_1 s m #[Value.ref b] below meth c D (fun q : Nat => s.heap.size ≤ q) 8 107 73154 (lw_Z below #[Value.ref b] s) [(t0, .inr (10, [.ref t1, .ref t21, .ref t32, .ref t37, .ref t42, .ref t43, .ref t45, .ref t50, .ref t54, .ref t58])), (t32, .inr (7, [.ref t33, .ref t34, .ref t35, .ref t36, .int 0, .int 0, .int 0])), (g0, .inr (11, [.int 0, .ref g1, .int 0, .int 0, .ref g2, .ref g3, .ref g4, .int 0, .int 0, .ref g5, .ref g6, .ref g7, .ref g8, .int 0, .ref g9, .ref g10, .int 1, .ref g11, .ref g12, .ref g13, .ref g14, .ref g15, .int 0, .int 0, .int 0, .ref g16, .int 0, .ref g17, .ref g18, .ref g19, .ref g20, .ref g21, .ref g22, .int 0, .int 0, .int 0, .ref g23, .ref g24, .int 0, .int 0, .int 0, .int 0, .ref g25])), (g14, .inl (cyI, 2760, .inl (fun _ => 0)))] 958 [(4, .int 0), (3, .ref o0), (2, .ref g0), (1, .ref t0), (0, .ref b)] [] := by
  have C := X.1
  have hX := X.2.1
  have hbl := X.2.2.1
  have hbA : ¬ (fun q : Nat => s.heap.size ≤ q) b := Nat.not_le.mpr hbl
  refine j_aload_n (pc := 958) C dL_law_958 rfl 3 rfl ?_
  refine j_callV (pc := 959) (As := []) (rest := []) (wr := [(g0, .inr (11, [.int 0, .ref g1, .int 0, .int 0, .ref g2, .ref g3, .ref g4, .int 0, .int 0, .ref g5, .ref g6, .ref g7, .ref g8, .int 0, .ref g9, .ref g10, .int 1, .ref g11, .ref g12, .ref g13, .ref g14, .ref g15, .int 0, .int 0, .int 0, .ref g16, .int 0, .ref g17, .ref g18, .ref g19, .ref g20, .ref g21, .ref g22, .int 0, .int 0, .int 0, .ref g23, .ref g24, .int 0, .int 0, .int 0, .int 0, .ref g25])), (g14, .inl (cyI, 2760, .inl (fun _ => 0)))]) C (c_X10_clear l D cyC cyI cyJ cyZ cyO t0 t1 t21 t32 t37 t42 t43 t45 t50 t54 t58 t33 t34 t35 t36) wd_547 wd_180 wd_548 wd_549 wd_550 ⟨by decide, by decide, rfl⟩ rfl ⟨rfl, rfl, by decide, by decide⟩ ⟨by decide, by decide⟩ [0, 1] [2, 3] rfl rfl ⟨by decide, by decide, by decide⟩ 0 rfl rfl rfl (Nat.le_of_ble_eq_true rfl) dL_law_959 (fun u_1 hw_2 => ?_)
  refine j_eq (ws2 := [(g0, .inr (11, [.int 0, .ref g1, .int 0, .int 0, .ref g2, .ref g3, .ref g4, .int 0, .int 0, .ref g5, .ref g6, .ref g7, .ref g8, .int 0, .ref g9, .ref g10, .int 1, .ref g11, .ref g12, .ref g13, .ref g14, .ref g15, .int 0, .int 0, .int 0, .ref g16, .int 0, .ref g17, .ref g18, .ref g19, .ref g20, .ref g21, .ref g22, .int 0, .int 0, .int 0, .ref g23, .ref g24, .int 0, .int 0, .int 0, .int 0, .ref g25])), (g14, .inl (cyI, 2760, .inl (fun _ => 0)))]) (pc2 := 962) (lv2 := [(4, .int 0), (3, .ref o0), (2, .ref g0), (1, .ref t0), (0, .ref b)]) (st2 := [.int 1]) rfl rfl rfl rfl ?_
  refine j_aload_n (pc := 962) C dL_law_962 rfl 2 rfl ?_
  refine j_callV (pc := 963) (As := []) (rest := [.int 1]) (wr := []) C (c_X11_clear l D cyC cyI cyJ cyZ cyO g0 g1 g2 g3 g4 g5 g6 g7 g8 g9 g10 g11 g12 g13 g14 g15 g16 g17 g18 g19 g20 g21 g22 g23 g24 g25) wd_551 wd_313 wd_552 wd_553 wd_554 ⟨by decide, by decide, rfl⟩ rfl ⟨rfl, rfl, by decide, by decide⟩ ⟨by decide, by decide⟩ [0, 1] [] rfl rfl ⟨by decide, by decide, by decide⟩ 0 rfl rfl rfl (Nat.le_of_ble_eq_true rfl) dL_law_963 (fun u_3 hw_4 => ?_)
  refine j_eq (ws2 := []) (pc2 := 966) (lv2 := [(4, .int 0), (3, .ref o0), (2, .ref g0), (1, .ref t0), (0, .ref b)]) (st2 := [.int 1, .int 1]) rfl rfl rfl rfl ?_
  refine j_icmp_eq_t (pc := 966) (tgt := 1216) C dL_law_966 (by decide) (by decide) ?_
  exact j_lv [0, 1, 2, 3, 4] rfl (law_tail X (by decide) (by decide))
set_option maxHeartbeats 4000000 in
set_option maxRecDepth 100000 in
theorem law_21 {p : Program} {l : Launch} {e : Env} {s : State} {m : MethodId} {below : List Frame} {meth : Method} {c : Code} {b : Nat} {xs : Nat → Int32} {D : va_G} {cyC cyI cyJ cyZ cyO : ClassId} (o0 g0 t0 t1 t21 t32 t37 t42 t43 t45 t50 t54 t58 t33 t34 t35 t36 g1 g2 g3 g4 g5 g6 g7 g8 g9 g10 g11 g12 g13 g14 g15 g16 g17 g18 g19 g20 g21 g22 g23 g24 g25 : Nat) (X : LX p s m meth c b 7 xs D cyC cyI cyJ cyZ cyO) : J p l e room_1 s m #[Value.ref b] below meth c D (fun q : Nat => s.heap.size ≤ q) 8 107 73154 (lw_Z below #[Value.ref b] s) [(t0, .inr (10, [.ref t1, .ref t21, .ref t32, .ref t37, .ref t42, .ref t43, .ref t45, .ref t50, .ref t54, .ref t58])), (t32, .inr (7, [.ref t33, .ref t34, .ref t35, .ref t36, .int 0, .int 0, .int 0])), (g0, .inr (11, [.int 0, .ref g1, .int 0, .int 0, .ref g2, .ref g3, .ref g4, .int 0, .int 0, .ref g5, .ref g6, .ref g7, .ref g8, .int 0, .ref g9, .ref g10, .int 1, .ref g11, .ref g12, .ref g13, .ref g14, .ref g15, .int 0, .int 0, .int 0, .ref g16, .int 0, .ref g17, .ref g18, .ref g19, .ref g20, .ref g21, .ref g22, .int 0, .int 0, .int 0, .ref g23, .ref g24, .int 0, .int 0, .int 0, .int 0, .ref g25])), (g14, .inl (cyI, 2760, .inl (fun _ => 0)))] 971 [(4, .int 0), (3, .ref o0), (2, .ref g0), (1, .ref t0), (0, .ref b)] [] := by
  have C := X.1
  have hX := X.2.1
  have hbl := X.2.2.1
  have hbA : ¬ (fun q : Nat => s.heap.size ≤ q) b := Nat.not_le.mpr hbl
  refine j_aload_n (pc := 971) C dL_law_971 rfl 3 rfl ?_
  refine j_callV (pc := 972) (As := []) (rest := []) (wr := [(g0, .inr (11, [.int 0, .ref g1, .int 0, .int 0, .ref g2, .ref g3, .ref g4, .int 0, .int 0, .ref g5, .ref g6, .ref g7, .ref g8, .int 0, .ref g9, .ref g10, .int 1, .ref g11, .ref g12, .ref g13, .ref g14, .ref g15, .int 0, .int 0, .int 0, .ref g16, .int 0, .ref g17, .ref g18, .ref g19, .ref g20, .ref g21, .ref g22, .int 0, .int 0, .int 0, .ref g23, .ref g24, .int 0, .int 0, .int 0, .int 0, .ref g25])), (g14, .inl (cyI, 2760, .inl (fun _ => 0)))]) C (c_X10_asked l D cyC cyI cyJ cyZ cyO t0 t1 t21 t32 t37 t42 t43 t45 t50 t54 t58 t33 t34 t35 t36) wd_555 wd_180 wd_556 wd_557 wd_558 ⟨by decide, by decide, rfl⟩ rfl ⟨rfl, rfl, by decide, by decide⟩ ⟨by decide, by decide⟩ [0, 1] [2, 3] rfl rfl ⟨by decide, by decide, by decide⟩ 0 rfl rfl rfl (Nat.le_of_ble_eq_true rfl) dL_law_972 (fun u_1 hw_2 => ?_)
  refine j_eq (ws2 := [(g0, .inr (11, [.int 0, .ref g1, .int 0, .int 0, .ref g2, .ref g3, .ref g4, .int 0, .int 0, .ref g5, .ref g6, .ref g7, .ref g8, .int 0, .ref g9, .ref g10, .int 1, .ref g11, .ref g12, .ref g13, .ref g14, .ref g15, .int 0, .int 0, .int 0, .ref g16, .int 0, .ref g17, .ref g18, .ref g19, .ref g20, .ref g21, .ref g22, .int 0, .int 0, .int 0, .ref g23, .ref g24, .int 0, .int 0, .int 0, .int 0, .ref g25])), (g14, .inl (cyI, 2760, .inl (fun _ => 0)))]) (pc2 := 975) (lv2 := [(4, .int 0), (3, .ref o0), (2, .ref g0), (1, .ref t0), (0, .ref b)]) (st2 := [.int 0]) rfl rfl rfl rfl ?_
  refine j_aload_n (pc := 975) C dL_law_975 rfl 2 rfl ?_
  refine j_callV (pc := 976) (As := []) (rest := [.int 0]) (wr := []) C (c_X11_asked l D cyC cyI cyJ cyZ cyO g0 g1 g2 g3 g4 g5 g6 g7 g8 g9 g10 g11 g12 g13 g14 g15 g16 g17 g18 g19 g20 g21 g22 g23 g24 g25) wd_559 wd_313 wd_560 wd_561 wd_562 ⟨by decide, by decide, rfl⟩ rfl ⟨rfl, rfl, by decide, by decide⟩ ⟨by decide, by decide⟩ [0, 1] [] rfl rfl ⟨by decide, by decide, by decide⟩ 0 rfl rfl rfl (Nat.le_of_ble_eq_true rfl) dL_law_976 (fun u_3 hw_4 => ?_)
  refine j_eq (ws2 := []) (pc2 := 979) (lv2 := [(4, .int 0), (3, .ref o0), (2, .ref g0), (1, .ref t0), (0, .ref b)]) (st2 := [.int 0, .int 0]) rfl rfl rfl rfl ?_
  refine j_icmp_eq_t (pc := 979) (tgt := 1216) C dL_law_979 (by decide) (by decide) ?_
  exact j_lv [0, 1, 2, 3, 4] rfl (law_tail X (by decide) (by decide))
set_option maxHeartbeats 4000000 in
set_option maxRecDepth 100000 in
theorem law_22 {p : Program} {l : Launch} {e : Env} {s : State} {m : MethodId} {below : List Frame} {meth : Method} {c : Code} {b : Nat} {xs : Nat → Int32} {D : va_G} {cyC cyI cyJ cyZ cyO : ClassId} (o0 g0 t0 t1 t21 t32 t37 t42 t43 t45 t50 t54 t58 t22 t23 t24 t25 t26 t27 t28 t29 t30 t31 g1 g2 g3 g4 g5 g6 g7 g8 g9 g10 g11 g12 g13 g14 g15 g16 g17 g18 g19 g20 g21 g22 g23 g24 g25 : Nat) (X : LX p s m meth c b 7 xs D cyC cyI cyJ cyZ cyO) : J p l e room_1 s m #[Value.ref b] below meth c D (fun q : Nat => s.heap.size ≤ q) 8 107 73154 (lw_Z below #[Value.ref b] s) [(t0, .inr (10, [.ref t1, .ref t21, .ref t32, .ref t37, .ref t42, .ref t43, .ref t45, .ref t50, .ref t54, .ref t58])), (t21, .inr (9, [.int 0, .int 0, .int 0, .ref t22, .ref t23, .ref t24, .ref t25, .ref t26, .ref t27, .int 0, .int 0, .ref t28, .ref t29, .ref t30, .ref t31])), (g0, .inr (11, [.int 0, .ref g1, .int 0, .int 0, .ref g2, .ref g3, .ref g4, .int 0, .int 0, .ref g5, .ref g6, .ref g7, .ref g8, .int 0, .ref g9, .ref g10, .int 1, .ref g11, .ref g12, .ref g13, .ref g14, .ref g15, .int 0, .int 0, .int 0, .ref g16, .int 0, .ref g17, .ref g18, .ref g19, .ref g20, .ref g21, .ref g22, .int 0, .int 0, .int 0, .ref g23, .ref g24, .int 0, .int 0, .int 0, .int 0, .ref g25])), (g6, .inl (cyI, 240, .inl (fun _ => 0)))] 984 [(4, .int 0), (3, .ref o0), (2, .ref g0), (1, .ref t0), (0, .ref b)] [] := by
  have C := X.1
  have hX := X.2.1
  have hbl := X.2.2.1
  have hbA : ¬ (fun q : Nat => s.heap.size ≤ q) b := Nat.not_le.mpr hbl
  refine j_aload_n (pc := 984) C dL_law_984 rfl 3 rfl ?_
  refine j_aload_n (pc := 985) C dL_law_985 rfl 4 rfl ?_
  refine j_iload (pc := 986) C dL_law_986 0 rfl ?_
  refine j_iconst (pc := 988) (v := 1) C dL_law_988 (by decide) ?_
  refine j_iadd (pc := 989) (v := 1) C dL_law_989 (by decide) ?_
  refine j_sld (pc := 990) (k := 1) C hX hbl hbA (by decide) (by decide) (by decide) dL_law_990 ?_
  refine j_aload_n (pc := 991) C dL_law_991 rfl 4 rfl ?_
  refine j_iload (pc := 992) C dL_law_992 0 rfl ?_
  refine j_iconst (pc := 994) (v := 2) C dL_law_994 (by decide) ?_
  refine j_iadd (pc := 995) (v := 2) C dL_law_995 (by decide) ?_
  refine j_sld (pc := 996) (k := 2) C hX hbl hbA (by decide) (by decide) (by decide) dL_law_996 ?_
  refine j_aload_n (pc := 997) C dL_law_997 rfl 4 rfl ?_
  refine j_iload (pc := 998) C dL_law_998 0 rfl ?_
  refine j_iconst (pc := 1000) (v := 3) C dL_law_1000 (by decide) ?_
  refine j_iadd (pc := 1001) (v := 3) C dL_law_1001 (by decide) ?_
  refine j_sld (pc := 1002) (k := 3) C hX hbl hbA (by decide) (by decide) (by decide) dL_law_1002 ?_
  refine j_callV (pc := 1003) (As := [.int (xs 1), .int (xs 2), .int (xs 3)]) (rest := []) (wr := [(g0, .inr (11, [.int 0, .ref g1, .int 0, .int 0, .ref g2, .ref g3, .ref g4, .int 0, .int 0, .ref g5, .ref g6, .ref g7, .ref g8, .int 0, .ref g9, .ref g10, .int 1, .ref g11, .ref g12, .ref g13, .ref g14, .ref g15, .int 0, .int 0, .int 0, .ref g16, .int 0, .ref g17, .ref g18, .ref g19, .ref g20, .ref g21, .ref g22, .int 0, .int 0, .int 0, .ref g23, .ref g24, .int 0, .int 0, .int 0, .int 0, .ref g25])), (g6, .inl (cyI, 240, .inl (fun _ => 0)))]) C (c_X10_best l D cyC cyI cyJ cyZ cyO (xs 1) (xs 2) (xs 3) t0 t1 t21 t32 t37 t42 t43 t45 t50 t54 t58 t22 t23 t24 t25 t26 t27 t28 t29 t30 t31) wd_563 wd_180 wd_564 wd_565 wd_566 ⟨by decide, by decide, rfl⟩ rfl ⟨rfl, rfl, by decide, by decide⟩ ⟨by decide, by decide⟩ [0, 1] [2, 3] rfl rfl ⟨by decide, by decide, by decide⟩ 0 rfl rfl rfl (Nat.le_of_ble_eq_true rfl) dL_law_1003 (fun u_1 hw_2 => ?_)
  refine j_eq (ws2 := [(g0, .inr (11, [.int 0, .ref g1, .int 0, .int 0, .ref g2, .ref g3, .ref g4, .int 0, .int 0, .ref g5, .ref g6, .ref g7, .ref g8, .int 0, .ref g9, .ref g10, .int 1, .ref g11, .ref g12, .ref g13, .ref g14, .ref g15, .int 0, .int 0, .int 0, .ref g16, .int 0, .ref g17, .ref g18, .ref g19, .ref g20, .ref g21, .ref g22, .int 0, .int 0, .int 0, .ref g23, .ref g24, .int 0, .int 0, .int 0, .int 0, .ref g25])), (g6, .inl (cyI, 240, .inl (fun _ => 0)))]) (pc2 := 1006) (lv2 := [(4, .int 0), (3, .ref o0), (2, .ref g0), (1, .ref t0), (0, .ref b)]) (st2 := [.int (-1)]) rfl rfl rfl rfl ?_
  refine j_aload_n (pc := 1006) C dL_law_1006 rfl 2 rfl ?_
  refine j_aload_n (pc := 1007) C dL_law_1007 rfl 4 rfl ?_
  refine j_iload (pc := 1008) C dL_law_1008 0 rfl ?_
  refine j_iconst (pc := 1010) (v := 1) C dL_law_1010 (by decide) ?_
  refine j_iadd (pc := 1011) (v := 1) C dL_law_1011 (by decide) ?_
  refine j_sld (pc := 1012) (k := 1) C hX hbl hbA (by decide) (by decide) (by decide) dL_law_1012 ?_
  refine j_aload_n (pc := 1013) C dL_law_1013 rfl 4 rfl ?_
  refine j_iload (pc := 1014) C dL_law_1014 0 rfl ?_
  refine j_iconst (pc := 1016) (v := 2) C dL_law_1016 (by decide) ?_
  refine j_iadd (pc := 1017) (v := 2) C dL_law_1017 (by decide) ?_
  refine j_sld (pc := 1018) (k := 2) C hX hbl hbA (by decide) (by decide) (by decide) dL_law_1018 ?_
  refine j_aload_n (pc := 1019) C dL_law_1019 rfl 4 rfl ?_
  refine j_iload (pc := 1020) C dL_law_1020 0 rfl ?_
  refine j_iconst (pc := 1022) (v := 3) C dL_law_1022 (by decide) ?_
  refine j_iadd (pc := 1023) (v := 3) C dL_law_1023 (by decide) ?_
  refine j_sld (pc := 1024) (k := 3) C hX hbl hbA (by decide) (by decide) (by decide) dL_law_1024 ?_
  refine j_callV (pc := 1025) (As := [.int (xs 1), .int (xs 2), .int (xs 3)]) (rest := [.int (-1)]) (wr := []) C (c_X11_best l D cyC cyI cyJ cyZ cyO (xs 1) (xs 2) (xs 3) g0 g1 g2 g3 g4 g5 g6 g7 g8 g9 g10 g11 g12 g13 g14 g15 g16 g17 g18 g19 g20 g21 g22 g23 g24 g25) wd_567 wd_313 wd_568 wd_569 wd_570 ⟨by decide, by decide, rfl⟩ rfl ⟨rfl, rfl, by decide, by decide⟩ ⟨by decide, by decide⟩ [0, 1] [] rfl rfl ⟨by decide, by decide, by decide⟩ 0 rfl rfl rfl (Nat.le_of_ble_eq_true rfl) dL_law_1025 (fun u_3 hw_4 => ?_)
  refine j_eq (ws2 := []) (pc2 := 1028) (lv2 := [(4, .int 0), (3, .ref o0), (2, .ref g0), (1, .ref t0), (0, .ref b)]) (st2 := [.int (-1), .int (-1)]) rfl rfl rfl rfl ?_
  refine j_icmp_eq_t (pc := 1028) (tgt := 1216) C dL_law_1028 (by decide) (by decide) ?_
  exact j_lv [0, 1, 2, 3, 4] rfl (law_tail X (by decide) (by decide))
set_option maxHeartbeats 4000000 in
set_option maxRecDepth 100000 in
theorem law_23 {p : Program} {l : Launch} {e : Env} {s : State} {m : MethodId} {below : List Frame} {meth : Method} {c : Code} {b : Nat} {xs : Nat → Int32} {D : va_G} {cyC cyI cyJ cyZ cyO : ClassId} (o0 g0 t0 t1 t21 t32 t37 t42 t43 t45 t50 t54 t58 t33 t34 t35 t36 t38 t39 t40 t41 g1 g2 g3 g4 g5 g6 g7 g8 g9 g10 g11 g12 g13 g14 g15 g16 g17 g18 g19 g20 g21 g22 g23 g24 g25 : Nat) (X : LX p s m meth c b 7 xs D cyC cyI cyJ cyZ cyO) : J p l e room_1 s m #[Value.ref b] below meth c D (fun q : Nat => s.heap.size ≤ q) 8 107 73154 (lw_Z below #[Value.ref b] s) [(t0, .inr (10, [.ref t1, .ref t21, .ref t32, .ref t37, .ref t42, .ref t43, .ref t45, .ref t50, .ref t54, .ref t58])), (t32, .inr (7, [.ref t33, .ref t34, .ref t35, .ref t36, .int 0, .int 0, .int 0])), (t33, .inl (cyI, 12, .inl (fun _ => (-1)))), (t34, .inl (cyI, 12, .inl (fun _ => 0))), (t35, .inl (cyI, 12, .inl (fun _ => 0))), (t36, .inl (cyI, 30, .inl (fun _ => 0))), (t37, .inr (7, [.ref t38, .ref t39, .ref t40, .ref t41, .int 0, .int 0, .int 0])), (t38, .inl (cyI, 12, .inl (fun _ => (-1)))), (t39, .inl (cyI, 12, .inl (fun _ => 0))), (t40, .inl (cyI, 12, .inl (fun _ => 0))), (t41, .inl (cyI, 30, .inl (fun _ => 0))), (g0, .inr (11, [.int 0, .ref g1, .int 0, .int 0, .ref g2, .ref g3, .ref g4, .int 0, .int 0, .ref g5, .ref g6, .ref g7, .ref g8, .int 0, .ref g9, .ref g10, .int 1, .ref g11, .ref g12, .ref g13, .ref g14, .ref g15, .int 0, .int 0, .int 0, .ref g16, .int 0, .ref g17, .ref g18, .ref g19, .ref g20, .ref g21, .ref g22, .int 0, .int 0, .int 0, .ref g23, .ref g24, .int 0, .int 0, .int 0, .int 0, .ref g25])), (g14, .inl (cyI, 2760, .inl (fun _ => 0)))] 1033 [(4, .int 0), (3, .ref o0), (2, .ref g0), (1, .ref t0), (0, .ref b)] [] := by
  have C := X.1
  have hX := X.2.1
  have hbl := X.2.2.1
  have hbA : ¬ (fun q : Nat => s.heap.size ≤ q) b := Nat.not_le.mpr hbl
  refine j_aload_n (pc := 1033) C dL_law_1033 rfl 3 rfl ?_
  refine j_callV (pc := 1034) (As := []) (rest := []) (wr := [(g0, .inr (11, [.int 0, .ref g1, .int 0, .int 0, .ref g2, .ref g3, .ref g4, .int 0, .int 0, .ref g5, .ref g6, .ref g7, .ref g8, .int 0, .ref g9, .ref g10, .int 1, .ref g11, .ref g12, .ref g13, .ref g14, .ref g15, .int 0, .int 0, .int 0, .ref g16, .int 0, .ref g17, .ref g18, .ref g19, .ref g20, .ref g21, .ref g22, .int 0, .int 0, .int 0, .ref g23, .ref g24, .int 0, .int 0, .int 0, .int 0, .ref g25])), (g14, .inl (cyI, 2760, .inl (fun _ => 0)))]) C (c_X10_onTop l D cyC cyI cyJ cyZ cyO t0 t1 t21 t32 t37 t42 t43 t45 t50 t54 t58 t33 t34 t35 t36 t38 t39 t40 t41) wd_571 wd_180 wd_572 wd_573 wd_574 ⟨by decide, by decide, rfl⟩ rfl ⟨rfl, rfl, by decide, by decide⟩ ⟨by decide, by decide⟩ [0, 1, 2, 3, 4, 5, 6, 7, 8, 9, 10] [11, 12] rfl rfl ⟨by decide, by decide, by decide⟩ 0 rfl rfl rfl (Nat.le_of_ble_eq_true rfl) dL_law_1034 (fun u_1 hw_2 => ?_)
  refine j_eq (ws2 := [(g0, .inr (11, [.int 0, .ref g1, .int 0, .int 0, .ref g2, .ref g3, .ref g4, .int 0, .int 0, .ref g5, .ref g6, .ref g7, .ref g8, .int 0, .ref g9, .ref g10, .int 1, .ref g11, .ref g12, .ref g13, .ref g14, .ref g15, .int 0, .int 0, .int 0, .ref g16, .int 0, .ref g17, .ref g18, .ref g19, .ref g20, .ref g21, .ref g22, .int 0, .int 0, .int 0, .ref g23, .ref g24, .int 0, .int 0, .int 0, .int 0, .ref g25])), (g14, .inl (cyI, 2760, .inl (fun _ => 0)))]) (pc2 := 1037) (lv2 := [(4, .int 0), (3, .ref o0), (2, .ref g0), (1, .ref t0), (0, .ref b)]) (st2 := [.int 0]) rfl rfl rfl rfl ?_
  refine j_aload_n (pc := 1037) C dL_law_1037 rfl 2 rfl ?_
  refine j_callV (pc := 1038) (As := []) (rest := [.int 0]) (wr := []) C (c_X11_onTop l D cyC cyI cyJ cyZ cyO g0 g1 g2 g3 g4 g5 g6 g7 g8 g9 g10 g11 g12 g13 g14 g15 g16 g17 g18 g19 g20 g21 g22 g23 g24 g25) wd_575 wd_313 wd_576 wd_577 wd_578 ⟨by decide, by decide, rfl⟩ rfl ⟨rfl, rfl, by decide, by decide⟩ ⟨by decide, by decide⟩ [0, 1] [] rfl rfl ⟨by decide, by decide, by decide⟩ 0 rfl rfl rfl (Nat.le_of_ble_eq_true rfl) dL_law_1038 (fun u_3 hw_4 => ?_)
  refine j_eq (ws2 := []) (pc2 := 1041) (lv2 := [(4, .int 0), (3, .ref o0), (2, .ref g0), (1, .ref t0), (0, .ref b)]) (st2 := [.int 0, .int 0]) rfl rfl rfl rfl ?_
  refine j_icmp_eq_t (pc := 1041) (tgt := 1216) C dL_law_1041 (by decide) (by decide) ?_
  exact j_lv [0, 1, 2, 3, 4] rfl (law_tail X (by decide) (by decide))
set_option maxHeartbeats 4000000 in
set_option maxRecDepth 100000 in
theorem law_24 {p : Program} {l : Launch} {e : Env} {s : State} {m : MethodId} {below : List Frame} {meth : Method} {c : Code} {b : Nat} {xs : Nat → Int32} {D : va_G} {cyC cyI cyJ cyZ cyO : ClassId} (o0 g0 t0 t1 t21 t32 t37 t42 t43 t45 t50 t54 t58 t22 t23 t24 t25 t26 t27 t28 t29 t30 t31 g1 g2 g3 g4 g5 g6 g7 g8 g9 g10 g11 g12 g13 g14 g15 g16 g17 g18 g19 g20 g21 g22 g23 g24 g25 : Nat) (X : LX p s m meth c b 7 xs D cyC cyI cyJ cyZ cyO) : J p l e room_1 s m #[Value.ref b] below meth c D (fun q : Nat => s.heap.size ≤ q) 8 107 73154 (lw_Z below #[Value.ref b] s) [(t0, .inr (10, [.ref t1, .ref t21, .ref t32, .ref t37, .ref t42, .ref t43, .ref t45, .ref t50, .ref t54, .ref t58])), (t21, .inr (9, [.int 0, .int 0, .int 0, .ref t22, .ref t23, .ref t24, .ref t25, .ref t26, .ref t27, .int 0, .int 0, .ref t28, .ref t29, .ref t30, .ref t31])), (g0, .inr (11, [.int 0, .ref g1, .int 0, .int 0, .ref g2, .ref g3, .ref g4, .int 0, .int 0, .ref g5, .ref g6, .ref g7, .ref g8, .int 0, .ref g9, .ref g10, .int 1, .ref g11, .ref g12, .ref g13, .ref g14, .ref g15, .int 0, .int 0, .int 0, .ref g16, .int 0, .ref g17, .ref g18, .ref g19, .ref g20, .ref g21, .ref g22, .int 0, .int 0, .int 0, .ref g23, .ref g24, .int 0, .int 0, .int 0, .int 0, .ref g25])), (g6, .inl (cyI, 240, .inl (fun _ => 0)))] 1046 [(4, .int 0), (3, .ref o0), (2, .ref g0), (1, .ref t0), (0, .ref b)] [] := by
  have C := X.1
  have hX := X.2.1
  have hbl := X.2.2.1
  have hbA : ¬ (fun q : Nat => s.heap.size ≤ q) b := Nat.not_le.mpr hbl
  refine j_aload_n (pc := 1046) C dL_law_1046 rfl 3 rfl ?_
  refine j_aload_n (pc := 1047) C dL_law_1047 rfl 4 rfl ?_
  refine j_iload (pc := 1048) C dL_law_1048 0 rfl ?_
  refine j_iconst (pc := 1050) (v := 1) C dL_law_1050 (by decide) ?_
  refine j_iadd (pc := 1051) (v := 1) C dL_law_1051 (by decide) ?_
  refine j_sld (pc := 1052) (k := 1) C hX hbl hbA (by decide) (by decide) (by decide) dL_law_1052 ?_
  refine j_callV (pc := 1053) (As := [.int (xs 1)]) (rest := []) (wr := [(g0, .inr (11, [.int 0, .ref g1, .int 0, .int 0, .ref g2, .ref g3, .ref g4, .int 0, .int 0, .ref g5, .ref g6, .ref g7, .ref g8, .int 0, .ref g9, .ref g10, .int 1, .ref g11, .ref g12, .ref g13, .ref g14, .ref g15, .int 0, .int 0, .int 0, .ref g16, .int 0, .ref g17, .ref g18, .ref g19, .ref g20, .ref g21, .ref g22, .int 0, .int 0, .int 0, .ref g23, .ref g24, .int 0, .int 0, .int 0, .int 0, .ref g25])), (g6, .inl (cyI, 240, .inl (fun _ => 0)))]) C (c_X10_habit l D cyC cyI cyJ cyZ cyO (xs 1) t0 t1 t21 t32 t37 t42 t43 t45 t50 t54 t58 t22 t23 t24 t25 t26 t27 t28 t29 t30 t31) wd_579 wd_180 wd_580 wd_581 wd_582 ⟨by decide, by decide, rfl⟩ rfl ⟨rfl, rfl, by decide, by decide⟩ ⟨by decide, by decide⟩ [0, 1] [2, 3] rfl rfl ⟨by decide, by decide, by decide⟩ 0 rfl rfl rfl (Nat.le_of_ble_eq_true rfl) dL_law_1053 (fun u_1 hw_2 => ?_)
  refine j_eq (ws2 := [(g0, .inr (11, [.int 0, .ref g1, .int 0, .int 0, .ref g2, .ref g3, .ref g4, .int 0, .int 0, .ref g5, .ref g6, .ref g7, .ref g8, .int 0, .ref g9, .ref g10, .int 1, .ref g11, .ref g12, .ref g13, .ref g14, .ref g15, .int 0, .int 0, .int 0, .ref g16, .int 0, .ref g17, .ref g18, .ref g19, .ref g20, .ref g21, .ref g22, .int 0, .int 0, .int 0, .ref g23, .ref g24, .int 0, .int 0, .int 0, .int 0, .ref g25])), (g6, .inl (cyI, 240, .inl (fun _ => 0)))]) (pc2 := 1056) (lv2 := [(4, .int 0), (3, .ref o0), (2, .ref g0), (1, .ref t0), (0, .ref b)]) (st2 := [.int (-1)]) rfl rfl rfl rfl ?_
  refine j_aload_n (pc := 1056) C dL_law_1056 rfl 2 rfl ?_
  refine j_aload_n (pc := 1057) C dL_law_1057 rfl 4 rfl ?_
  refine j_iload (pc := 1058) C dL_law_1058 0 rfl ?_
  refine j_iconst (pc := 1060) (v := 1) C dL_law_1060 (by decide) ?_
  refine j_iadd (pc := 1061) (v := 1) C dL_law_1061 (by decide) ?_
  refine j_sld (pc := 1062) (k := 1) C hX hbl hbA (by decide) (by decide) (by decide) dL_law_1062 ?_
  refine j_callV (pc := 1063) (As := [.int (xs 1)]) (rest := [.int (-1)]) (wr := []) C (c_X11_habit l D cyC cyI cyJ cyZ cyO (xs 1) g0 g1 g2 g3 g4 g5 g6 g7 g8 g9 g10 g11 g12 g13 g14 g15 g16 g17 g18 g19 g20 g21 g22 g23 g24 g25) wd_583 wd_313 wd_584 wd_585 wd_586 ⟨by decide, by decide, rfl⟩ rfl ⟨rfl, rfl, by decide, by decide⟩ ⟨by decide, by decide⟩ [0, 1] [] rfl rfl ⟨by decide, by decide, by decide⟩ 0 rfl rfl rfl (Nat.le_of_ble_eq_true rfl) dL_law_1063 (fun u_3 hw_4 => ?_)
  refine j_eq (ws2 := []) (pc2 := 1066) (lv2 := [(4, .int 0), (3, .ref o0), (2, .ref g0), (1, .ref t0), (0, .ref b)]) (st2 := [.int (-1), .int (-1)]) rfl rfl rfl rfl ?_
  refine j_icmp_eq_t (pc := 1066) (tgt := 1216) C dL_law_1066 (by decide) (by decide) ?_
  exact j_lv [0, 1, 2, 3, 4] rfl (law_tail X (by decide) (by decide))
set_option maxHeartbeats 4000000 in
set_option maxRecDepth 100000 in
theorem law_26 {p : Program} {l : Launch} {e : Env} {s : State} {m : MethodId} {below : List Frame} {meth : Method} {c : Code} {b : Nat} {xs : Nat → Int32} {D : va_G} {cyC cyI cyJ cyZ cyO : ClassId} (o0 g0 t0 t1 t21 t32 t37 t42 t43 t45 t50 t54 t58 t33 t34 t35 t36 t60 t65 t70 t75 t61 t62 t63 t64 t66 t67 t68 t69 t71 t72 t73 t74 t76 t77 t78 t79 g1 g2 g3 g4 g5 g6 g7 g8 g9 g10 g11 g12 g13 g14 g15 g16 g17 g18 g19 g20 g21 g22 g23 g24 g25 : Nat) (X : LX p s m meth c b 7 xs D cyC cyI cyJ cyZ cyO) : J p l e room_1 s m #[Value.ref b] below meth c D (fun q : Nat => s.heap.size ≤ q) 8 107 73154 (lw_Z below #[Value.ref b] s) [(t0, .inr (10, [.ref t1, .ref t21, .ref t32, .ref t37, .ref t42, .ref t43, .ref t45, .ref t50, .ref t54, .ref t58])), (t32, .inr (7, [.ref t33, .ref t34, .ref t35, .ref t36, .int 0, .int 0, .int 0])), (t33, .inl (cyI, 12, .inl (fun _ => (-1)))), (t34, .inl (cyI, 12, .inl (fun _ => 0))), (t35, .inl (cyI, 12, .inl (fun _ => 0))), (t36, .inl (cyI, 30, .inl (fun _ => 0))), (t42, .inl (cyO, 4, .inr (.inr (.inr (.inr (va_up (va_up (va_up (va_up (fun _ => none) 0 (some t60)) 1 (some t65)) 2 (some t70)) 3 (some t75))))))), (t60, .inr (7, [.ref t61, .ref t62, .ref t63, .ref t64, .int 0, .int 0, .int 0])), (t61, .inl (cyI, 12, .inl (fun _ => (-1)))), (t62, .inl (cyI, 12, .inl (fun _ => 0))), (t63, .inl (cyI, 12, .inl (fun _ => 0))), (t64, .inl (cyI, 30, .inl (fun _ => 0))), (t65, .inr (7, [.ref t66, .ref t67, .ref t68, .ref t69, .int 0, .int 0, .int 0])), (t66, .inl (cyI, 12, .inl (fun _ => (-1)))), (t67, .inl (cyI, 12, .inl (fun _ => 0))), (t68, .inl (cyI, 12, .inl (fun _ => 0))), (t69, .inl (cyI, 30, .inl (fun _ => 0))), (t70, .inr (7, [.ref t71, .ref t72, .ref t73, .ref t74, .int 0, .int 0, .int 0])), (t71, .inl (cyI, 12, .inl (fun _ => (-1)))), (t72, .inl (cyI, 12, .inl (fun _ => 0))), (t73, .inl (cyI, 12, .inl (fun _ => 0))), (t74, .inl (cyI, 30, .inl (fun _ => 0))), (t75, .inr (7, [.ref t76, .ref t77, .ref t78, .ref t79, .int 0, .int 0, .int 0])), (t76, .inl (cyI, 12, .inl (fun _ => (-1)))), (t77, .inl (cyI, 12, .inl (fun _ => 0))), (t78, .inl (cyI, 12, .inl (fun _ => 0))), (t79, .inl (cyI, 30, .inl (fun _ => 0))), (g0, .inr (11, [.int 0, .ref g1, .int 0, .int 0, .ref g2, .ref g3, .ref g4, .int 0, .int 0, .ref g5, .ref g6, .ref g7, .ref g8, .int 0, .ref g9, .ref g10, .int 1, .ref g11, .ref g12, .ref g13, .ref g14, .ref g15, .int 0, .int 0, .int 0, .ref g16, .int 0, .ref g17, .ref g18, .ref g19, .ref g20, .ref g21, .ref g22, .int 0, .int 0, .int 0, .ref g23, .ref g24, .int 0, .int 0, .int 0, .int 0, .ref g25])), (g14, .inl (cyI, 2760, .inl (fun _ => 0))), (g15, .inl (cyZ, 4, .inl (fun _ => 0)))] 1138 [(4, .int 0), (3, .ref o0), (2, .ref g0), (1, .ref t0), (0, .ref b)] [] := by
  have C := X.1
  have hX := X.2.1
  have hbl := X.2.2.1
  have hbA : ¬ (fun q : Nat => s.heap.size ≤ q) b := Nat.not_le.mpr hbl
  refine j_aload_n (pc := 1138) C dL_law_1138 rfl 3 rfl ?_
  refine j_aload_n (pc := 1139) C dL_law_1139 rfl 4 rfl ?_
  refine j_iload (pc := 1140) C dL_law_1140 0 rfl ?_
  refine j_iconst (pc := 1142) (v := 1) C dL_law_1142 (by decide) ?_
  refine j_iadd (pc := 1143) (v := 1) C dL_law_1143 (by decide) ?_
  refine j_sld (pc := 1144) (k := 1) C hX hbl hbA (by decide) (by decide) (by decide) dL_law_1144 ?_
  refine j_aload_n (pc := 1145) C dL_law_1145 rfl 4 rfl ?_
  refine j_iload (pc := 1146) C dL_law_1146 0 rfl ?_
  refine j_iconst (pc := 1148) (v := 2) C dL_law_1148 (by decide) ?_
  refine j_iadd (pc := 1149) (v := 2) C dL_law_1149 (by decide) ?_
  refine j_sld (pc := 1150) (k := 2) C hX hbl hbA (by decide) (by decide) (by decide) dL_law_1150 ?_
  refine j_if_eq (pc := 1151) (tgt := 1158) C dL_law_1151 (by decide) (fun c_1 => ?_) (fun c_1 => ?_)
  · skip
    refine j_iconst (pc := 1158) (v := 0) C dL_law_1158 (by decide) ?_
    refine j_callV (pc := 1159) (As := [.int (xs 1), .int 0]) (rest := []) (wr := [(g0, .inr (11, [.int 0, .ref g1, .int 0, .int 0, .ref g2, .ref g3, .ref g4, .int 0, .int 0, .ref g5, .ref g6, .ref g7, .ref g8, .int 0, .ref g9, .ref g10, .int 1, .ref g11, .ref g12, .ref g13, .ref g14, .ref g15, .int 0, .int 0, .int 0, .ref g16, .int 0, .ref g17, .ref g18, .ref g19, .ref g20, .ref g21, .ref g22, .int 0, .int 0, .int 0, .ref g23, .ref g24, .int 0, .int 0, .int 0, .int 0, .ref g25])), (g14, .inl (cyI, 2760, .inl (fun _ => 0))), (g15, .inl (cyZ, 4, .inl (fun _ => 0)))]) C (c_X10_mark l D cyC cyI cyJ cyZ cyO (xs 1) 0 t0 t1 t21 t32 t37 t42 t43 t45 t50 t54 t58 t33 t34 t35 t36 t60 t65 t70 t75 t61 t62 t63 t64 t66 t67 t68 t69 t71 t72 t73 t74 t76 t77 t78 t79) wd_587 wd_180 wd_588 wd_589 wd_590 ⟨by decide, by decide, rfl⟩ rfl ⟨rfl, rfl, by decide, by decide⟩ ⟨by decide, by decide⟩ [0, 1, 2, 3, 4, 5, 6, 7, 8, 9, 10, 11, 12, 13, 14, 15, 16, 17, 18, 19, 20, 21, 22, 23, 24, 25, 26] [27, 28, 29] rfl rfl ⟨by decide, by decide, by decide⟩ 0 rfl rfl rfl (Nat.le_of_ble_eq_true rfl) dL_law_1159 (fun u_2 hw_3 => ?_)
    refine j_eq (ws2 := [(g0, .inr (11, [.int 0, .ref g1, .int 0, .int 0, .ref g2, .ref g3, .ref g4, .int 0, .int 0, .ref g5, .ref g6, .ref g7, .ref g8, .int 0, .ref g9, .ref g10, .int 1, .ref g11, .ref g12, .ref g13, .ref g14, .ref g15, .int 0, .int 0, .int 0, .ref g16, .int 0, .ref g17, .ref g18, .ref g19, .ref g20, .ref g21, .ref g22, .int 0, .int 0, .int 0, .ref g23, .ref g24, .int 0, .int 0, .int 0, .int 0, .ref g25])), (g14, .inl (cyI, 2760, .inl (fun _ => 0))), (g15, .inl (cyZ, 4, .inl (fun _ => 0)))]) (pc2 := 1162) (lv2 := [(4, .int 0), (3, .ref o0), (2, .ref g0), (1, .ref t0), (0, .ref b)]) (st2 := [.int (u_2.2.1 0)]) rfl rfl rfl rfl ?_
    refine j_aload_n (pc := 1162) C dL_law_1162 rfl 2 rfl ?_
    refine j_aload_n (pc := 1163) C dL_law_1163 rfl 4 rfl ?_
    refine j_iload (pc := 1164) C dL_law_1164 0 rfl ?_
    refine j_iconst (pc := 1166) (v := 1) C dL_law_1166 (by decide) ?_
    refine j_iadd (pc := 1167) (v := 1) C dL_law_1167 (by decide) ?_
    refine j_sld (pc := 1168) (k := 1) C hX hbl hbA (by decide) (by decide) (by decide) dL_law_1168 ?_
    refine j_aload_n (pc := 1169) C dL_law_1169 rfl 4 rfl ?_
    refine j_iload (pc := 1170) C dL_law_1170 0 rfl ?_
    refine j_iconst (pc := 1172) (v := 2) C dL_law_1172 (by decide) ?_
    refine j_iadd (pc := 1173) (v := 2) C dL_law_1173 (by decide) ?_
    refine j_sld (pc := 1174) (k := 2) C hX hbl hbA (by decide) (by decide) (by decide) dL_law_1174 ?_
    refine j_if_eq_t (pc := 1175) (tgt := 1182) C dL_law_1175 (by decide) (br_eqt_eq c_1) ?_
    refine j_iconst (pc := 1182) (v := 0) C dL_law_1182 (by decide) ?_
    refine j_callV (pc := 1183) (As := [.int (xs 1), .int 0]) (rest := [.int (u_2.2.1 0)]) (wr := []) C (c_X11_mark l D cyC cyI cyJ cyZ cyO (xs 1) 0 g0 g1 g2 g3 g4 g5 g6 g7 g8 g9 g10 g11 g12 g13 g14 g15 g16 g17 g18 g19 g20 g21 g22 g23 g24 g25) wd_591 wd_313 wd_592 wd_593 wd_594 ⟨by decide, by decide, rfl⟩ rfl ⟨rfl, rfl, by decide, by decide⟩ ⟨by decide, by decide⟩ [0, 1, 2] [] rfl rfl ⟨by decide, by decide, by decide⟩ 0 rfl rfl rfl (Nat.le_of_ble_eq_true rfl) dL_law_1183 (fun u_4 hw_5 => ?_)
    refine j_eq (ws2 := []) (pc2 := 1186) (lv2 := [(4, .int 0), (3, .ref o0), (2, .ref g0), (1, .ref t0), (0, .ref b)]) (st2 := [.int (u_4.2.1 0), .int (u_2.2.1 0)]) rfl rfl rfl rfl ?_
    refine j_icmp_eq_t (pc := 1186) (tgt := 1216) C dL_law_1186 (by decide) (hw_3.trans hw_5.symm) ?_
    exact j_lv [0, 1, 2, 3, 4] rfl (law_tail X (by decide) (by decide))
  · skip
    refine j_iconst (pc := 1154) (v := 1) C dL_law_1154 (by decide) ?_
    refine j_goto (pc := 1155) (tgt := 1159) C dL_law_1155 (by decide) ?_
    refine j_callV (pc := 1159) (As := [.int (xs 1), .int 1]) (rest := []) (wr := [(g0, .inr (11, [.int 0, .ref g1, .int 0, .int 0, .ref g2, .ref g3, .ref g4, .int 0, .int 0, .ref g5, .ref g6, .ref g7, .ref g8, .int 0, .ref g9, .ref g10, .int 1, .ref g11, .ref g12, .ref g13, .ref g14, .ref g15, .int 0, .int 0, .int 0, .ref g16, .int 0, .ref g17, .ref g18, .ref g19, .ref g20, .ref g21, .ref g22, .int 0, .int 0, .int 0, .ref g23, .ref g24, .int 0, .int 0, .int 0, .int 0, .ref g25])), (g14, .inl (cyI, 2760, .inl (fun _ => 0))), (g15, .inl (cyZ, 4, .inl (fun _ => 0)))]) C (c_X10_mark l D cyC cyI cyJ cyZ cyO (xs 1) 1 t0 t1 t21 t32 t37 t42 t43 t45 t50 t54 t58 t33 t34 t35 t36 t60 t65 t70 t75 t61 t62 t63 t64 t66 t67 t68 t69 t71 t72 t73 t74 t76 t77 t78 t79) wd_587 wd_180 wd_588 wd_589 wd_590 ⟨by decide, by decide, rfl⟩ rfl ⟨rfl, rfl, by decide, by decide⟩ ⟨by decide, by decide⟩ [0, 1, 2, 3, 4, 5, 6, 7, 8, 9, 10, 11, 12, 13, 14, 15, 16, 17, 18, 19, 20, 21, 22, 23, 24, 25, 26] [27, 28, 29] rfl rfl ⟨by decide, by decide, by decide⟩ 0 rfl rfl rfl (Nat.le_of_ble_eq_true rfl) dL_law_1159 (fun u_6 hw_7 => ?_)
    refine j_eq (ws2 := [(g0, .inr (11, [.int 0, .ref g1, .int 0, .int 0, .ref g2, .ref g3, .ref g4, .int 0, .int 0, .ref g5, .ref g6, .ref g7, .ref g8, .int 0, .ref g9, .ref g10, .int 1, .ref g11, .ref g12, .ref g13, .ref g14, .ref g15, .int 0, .int 0, .int 0, .ref g16, .int 0, .ref g17, .ref g18, .ref g19, .ref g20, .ref g21, .ref g22, .int 0, .int 0, .int 0, .ref g23, .ref g24, .int 0, .int 0, .int 0, .int 0, .ref g25])), (g14, .inl (cyI, 2760, .inl (fun _ => 0))), (g15, .inl (cyZ, 4, .inl (fun _ => 0)))]) (pc2 := 1162) (lv2 := [(4, .int 0), (3, .ref o0), (2, .ref g0), (1, .ref t0), (0, .ref b)]) (st2 := [.int (u_6.2.1 0)]) rfl rfl rfl rfl ?_
    refine j_aload_n (pc := 1162) C dL_law_1162 rfl 2 rfl ?_
    refine j_aload_n (pc := 1163) C dL_law_1163 rfl 4 rfl ?_
    refine j_iload (pc := 1164) C dL_law_1164 0 rfl ?_
    refine j_iconst (pc := 1166) (v := 1) C dL_law_1166 (by decide) ?_
    refine j_iadd (pc := 1167) (v := 1) C dL_law_1167 (by decide) ?_
    refine j_sld (pc := 1168) (k := 1) C hX hbl hbA (by decide) (by decide) (by decide) dL_law_1168 ?_
    refine j_aload_n (pc := 1169) C dL_law_1169 rfl 4 rfl ?_
    refine j_iload (pc := 1170) C dL_law_1170 0 rfl ?_
    refine j_iconst (pc := 1172) (v := 2) C dL_law_1172 (by decide) ?_
    refine j_iadd (pc := 1173) (v := 2) C dL_law_1173 (by decide) ?_
    refine j_sld (pc := 1174) (k := 2) C hX hbl hbA (by decide) (by decide) (by decide) dL_law_1174 ?_
    refine j_if_eq_f (pc := 1175) (tgt := 1182) C dL_law_1175 (by decide) (br_eqf_eq c_1) ?_
    refine j_iconst (pc := 1178) (v := 1) C dL_law_1178 (by decide) ?_
    refine j_goto (pc := 1179) (tgt := 1183) C dL_law_1179 (by decide) ?_
    refine j_callV (pc := 1183) (As := [.int (xs 1), .int 1]) (rest := [.int (u_6.2.1 0)]) (wr := []) C (c_X11_mark l D cyC cyI cyJ cyZ cyO (xs 1) 1 g0 g1 g2 g3 g4 g5 g6 g7 g8 g9 g10 g11 g12 g13 g14 g15 g16 g17 g18 g19 g20 g21 g22 g23 g24 g25) wd_591 wd_313 wd_592 wd_593 wd_594 ⟨by decide, by decide, rfl⟩ rfl ⟨rfl, rfl, by decide, by decide⟩ ⟨by decide, by decide⟩ [0, 1, 2] [] rfl rfl ⟨by decide, by decide, by decide⟩ 0 rfl rfl rfl (Nat.le_of_ble_eq_true rfl) dL_law_1183 (fun u_8 hw_9 => ?_)
    refine j_eq (ws2 := []) (pc2 := 1186) (lv2 := [(4, .int 0), (3, .ref o0), (2, .ref g0), (1, .ref t0), (0, .ref b)]) (st2 := [.int (u_8.2.1 0), .int (u_6.2.1 0)]) rfl rfl rfl rfl ?_
    refine j_icmp_eq_t (pc := 1186) (tgt := 1216) C dL_law_1186 (by decide) (hw_7.trans hw_9.symm) ?_
    exact j_lv [0, 1, 2, 3, 4] rfl (law_tail X (by decide) (by decide))
set_option maxHeartbeats 4000000 in
set_option maxRecDepth 100000 in
theorem law_27 {p : Program} {l : Launch} {e : Env} {s : State} {m : MethodId} {below : List Frame} {meth : Method} {c : Code} {b : Nat} {xs : Nat → Int32} {D : va_G} {cyC cyI cyJ cyZ cyO : ClassId} (o0 g0 t0 t1 t21 t32 t37 t42 t43 t45 t50 t54 t58 t2 t4 t8 t9 t10 t3 t22 t23 t24 t25 t26 t27 t28 t29 t30 t31 t33 t34 t35 t36 g1 g2 g3 g4 g5 g6 g7 g8 g9 g10 g11 g12 g13 g14 g15 g16 g17 g18 g19 g20 g21 g22 g23 g24 g25 : Nat) (X : LX p s m meth c b 7 xs D cyC cyI cyJ cyZ cyO) : J p l e room_1 s m #[Value.ref b] below meth c D (fun q : Nat => s.heap.size ≤ q) 8 107 73154 (lw_Z below #[Value.ref b] s) [(t0, .inr (10, [.ref t1, .ref t21, .ref t32, .ref t37, .ref t42, .ref t43, .ref t45, .ref t50, .ref t54, .ref t58])), (t1, .inr (5, [.ref t2, .ref t4, .ref t8, .ref t9, .ref t10, .int 0, .int 0])), (t2, .inr (8, [.ref t3, .int 0, .int 0, .int 0, .int 0, .int 0])), (t21, .inr (9, [.int 0, .int 0, .int 0, .ref t22, .ref t23, .ref t24, .ref t25, .ref t26, .ref t27, .int 0, .int 0, .ref t28, .ref t29, .ref t30, .ref t31])), (t32, .inr (7, [.ref t33, .ref t34, .ref t35, .ref t36, .int 0, .int 0, .int 0])), (g0, .inr (11, [.int 0, .ref g1, .int 0, .int 0, .ref g2, .ref g3, .ref g4, .int 0, .int 0, .ref g5, .ref g6, .ref g7, .ref g8, .int 0, .ref g9, .ref g10, .int 1, .ref g11, .ref g12, .ref g13, .ref g14, .ref g15, .int 0, .int 0, .int 0, .ref g16, .int 0, .ref g17, .ref g18, .ref g19, .ref g20, .ref g21, .ref g22, .int 0, .int 0, .int 0, .ref g23, .ref g24, .int 0, .int 0, .int 0, .int 0, .ref g25])), (g6, .inl (cyI, 240, .inl (fun _ => 0))), (g14, .inl (cyI, 2760, .inl (fun _ => 0)))] 1191 [(4, .int 0), (3, .ref o0), (2, .ref g0), (1, .ref t0), (0, .ref b)] [] := by
  have C := X.1
  have hX := X.2.1
  have hbl := X.2.2.1
  have hbA : ¬ (fun q : Nat => s.heap.size ≤ q) b := Nat.not_le.mpr hbl
  refine j_aload_n (pc := 1191) C dL_law_1191 rfl 3 rfl ?_
  refine j_aload_n (pc := 1192) C dL_law_1192 rfl 4 rfl ?_
  refine j_iload (pc := 1193) C dL_law_1193 0 rfl ?_
  refine j_iconst (pc := 1195) (v := 1) C dL_law_1195 (by decide) ?_
  refine j_iadd (pc := 1196) (v := 1) C dL_law_1196 (by decide) ?_
  refine j_sld (pc := 1197) (k := 1) C hX hbl hbA (by decide) (by decide) (by decide) dL_law_1197 ?_
  refine j_callV (pc := 1198) (As := [.int (xs 1)]) (rest := []) (wr := [(g0, .inr (11, [.int 0, .ref g1, .int 0, .int 0, .ref g2, .ref g3, .ref g4, .int 0, .int 0, .ref g5, .ref g6, .ref g7, .ref g8, .int 0, .ref g9, .ref g10, .int 1, .ref g11, .ref g12, .ref g13, .ref g14, .ref g15, .int 0, .int 0, .int 0, .ref g16, .int 0, .ref g17, .ref g18, .ref g19, .ref g20, .ref g21, .ref g22, .int 0, .int 0, .int 0, .ref g23, .ref g24, .int 0, .int 0, .int 0, .int 0, .ref g25])), (g6, .inl (cyI, 240, .inl (fun _ => 0))), (g14, .inl (cyI, 2760, .inl (fun _ => 0)))]) C (c_X10_count l D cyC cyI cyJ cyZ cyO (xs 1) t0 t1 t21 t32 t37 t42 t43 t45 t50 t54 t58 t2 t4 t8 t9 t10 t3 t22 t23 t24 t25 t26 t27 t28 t29 t30 t31 t33 t34 t35 t36) wd_595 wd_180 wd_596 wd_597 wd_598 ⟨by decide, by decide, rfl⟩ rfl ⟨rfl, rfl, by decide, by decide⟩ ⟨by decide, by decide⟩ [0, 1, 2, 3, 4] [5, 6, 7] rfl rfl ⟨by decide, by decide, by decide⟩ 0 rfl rfl rfl (Nat.le_of_ble_eq_true rfl) dL_law_1198 (fun u_1 hw_2 => ?_)
  refine j_eq (ws2 := [(g0, .inr (11, [.int 0, .ref g1, .int 0, .int 0, .ref g2, .ref g3, .ref g4, .int 0, .int 0, .ref g5, .ref g6, .ref g7, .ref g8, .int 0, .ref g9, .ref g10, .int 1, .ref g11, .ref g12, .ref g13, .ref g14, .ref g15, .int 0, .int 0, .int 0, .ref g16, .int 0, .ref g17, .ref g18, .ref g19, .ref g20, .ref g21, .ref g22, .int 0, .int 0, .int 0, .ref g23, .ref g24, .int 0, .int 0, .int 0, .int 0, .ref g25])), (g6, .inl (cyI, 240, .inl (fun _ => 0))), (g14, .inl (cyI, 2760, .inl (fun _ => 0)))]) (pc2 := 1201) (lv2 := [(4, .int 0), (3, .ref o0), (2, .ref g0), (1, .ref t0), (0, .ref b)]) (st2 := [.int (u_1.2.1 0)]) rfl rfl rfl rfl ?_
  refine j_aload_n (pc := 1201) C dL_law_1201 rfl 2 rfl ?_
  refine j_aload_n (pc := 1202) C dL_law_1202 rfl 4 rfl ?_
  refine j_iload (pc := 1203) C dL_law_1203 0 rfl ?_
  refine j_iconst (pc := 1205) (v := 1) C dL_law_1205 (by decide) ?_
  refine j_iadd (pc := 1206) (v := 1) C dL_law_1206 (by decide) ?_
  refine j_sld (pc := 1207) (k := 1) C hX hbl hbA (by decide) (by decide) (by decide) dL_law_1207 ?_
  refine j_callV (pc := 1208) (As := [.int (xs 1)]) (rest := [.int (u_1.2.1 0)]) (wr := []) C (c_X11_count l D cyC cyI cyJ cyZ cyO (xs 1) g0 g1 g2 g3 g4 g5 g6 g7 g8 g9 g10 g11 g12 g13 g14 g15 g16 g17 g18 g19 g20 g21 g22 g23 g24 g25) wd_599 wd_313 wd_600 wd_601 wd_602 ⟨by decide, by decide, rfl⟩ rfl ⟨rfl, rfl, by decide, by decide⟩ ⟨by decide, by decide⟩ [0, 1, 2] [] rfl rfl ⟨by decide, by decide, by decide⟩ 0 rfl rfl rfl (Nat.le_of_ble_eq_true rfl) dL_law_1208 (fun u_3 hw_4 => ?_)
  refine j_eq (ws2 := []) (pc2 := 1211) (lv2 := [(4, .int 0), (3, .ref o0), (2, .ref g0), (1, .ref t0), (0, .ref b)]) (st2 := [.int (u_3.2.1 0), .int (u_1.2.1 0)]) rfl rfl rfl rfl ?_
  refine j_icmp_eq_t (pc := 1211) (tgt := 1216) C dL_law_1211 (by decide) (hw_2.trans hw_4.symm) ?_
  exact j_lv [0, 1, 2, 3, 4] rfl (law_tail X (by decide) (by decide))
