set_option maxRecDepth 100000 in
theorem mw_400 : (.selects RX8 yX8_corners yX8_corners : Cond) ∈ wsL_law := by decide +kernel
set_option maxRecDepth 100000 in
theorem mw_401 : (.code yX8_corners cX8_corners 4 none : Cond) ∈ wsL_law := by decide +kernel
set_option maxRecDepth 100000 in
theorem mw_402 : (.methodLink RX8 229 yX8_climb : Cond) ∈ wsL_law := by decide +kernel
set_option maxRecDepth 100000 in
theorem mw_403 : (.instanceMethod yX8_climb : Cond) ∈ wsL_law := by decide +kernel
set_option maxRecDepth 100000 in
theorem mw_404 : (.selects RX8 yX8_climb yX8_climb : Cond) ∈ wsL_law := by decide +kernel
set_option maxRecDepth 100000 in
theorem mw_405 : (.code yX8_climb cX8_climb 12 (some .int) : Cond) ∈ wsL_law := by decide +kernel
set_option maxRecDepth 100000 in
theorem mw_406 : (.methodLink RX8 204 yX8_seen : Cond) ∈ wsL_law := by decide +kernel
set_option maxRecDepth 100000 in
theorem mw_407 : (.instanceMethod yX8_seen : Cond) ∈ wsL_law := by decide +kernel
set_option maxRecDepth 100000 in
theorem mw_408 : (.selects RX8 yX8_seen yX8_seen : Cond) ∈ wsL_law := by decide +kernel
set_option maxRecDepth 100000 in
theorem mw_409 : (.code yX8_seen cX8_seen 7 (some .int) : Cond) ∈ wsL_law := by decide +kernel
set_option maxRecDepth 100000 in
theorem mw_410 : (.methodLink RX8 225 yX8_lengthOf : Cond) ∈ wsL_law := by decide +kernel
set_option maxRecDepth 100000 in
theorem mw_411 : (.static yX8_lengthOf : Cond) ∈ wsL_law := by decide +kernel
set_option maxRecDepth 100000 in
theorem mw_412 : (.code yX8_lengthOf cX8_lengthOf 12 (some .int) : Cond) ∈ wsL_law := by decide +kernel
set_option maxRecDepth 100000 in
theorem mw_413 : (.fieldLink RX8 53 "GroundKeeperModel" "far" "[I" : Cond) ∈ wsL_law := by decide +kernel
set_option maxRecDepth 100000 in
theorem mw_414 : (.fieldLink RX8 56 "GroundKeeperModel" "by" "[I" : Cond) ∈ wsL_law := by decide +kernel
set_option maxRecDepth 100000 in
theorem mw_415 : (.fieldLink RX8 59 "GroundKeeperModel" "settled" "[Z" : Cond) ∈ wsL_law := by decide +kernel
set_option maxRecDepth 100000 in
theorem mw_416 : (.fieldLink RX8 62 "GroundKeeperModel" "way" "[I" : Cond) ∈ wsL_law := by decide +kernel
set_option maxRecDepth 100000 in
theorem mw_417 : (.fieldLink RX8 237 "GroundKeeperModel" "wayLong" "I" : Cond) ∈ wsL_law := by decide +kernel
set_option maxRecDepth 100000 in
theorem mw_418 : (.methodLink RX8 233 yX8_step : Cond) ∈ wsL_law := by decide +kernel
set_option maxRecDepth 100000 in
theorem mw_419 : (.instanceMethod yX8_step : Cond) ∈ wsL_law := by decide +kernel
set_option maxRecDepth 100000 in
theorem mw_420 : (.selects RX8 yX8_step yX8_step : Cond) ∈ wsL_law := by decide +kernel
set_option maxRecDepth 100000 in
theorem mw_421 : (.code yX8_step cX8_step 3 (some .int) : Cond) ∈ wsL_law := by decide +kernel
set_option maxRecDepth 100000 in
theorem mw_422 : (.fieldLink RX8 74 "GroundKeeperModel" "wl" "[I" : Cond) ∈ wsL_law := by decide +kernel
set_option maxRecDepth 100000 in
theorem mw_423 : (.fieldLink RX8 77 "GroundKeeperModel" "wx" "[I" : Cond) ∈ wsL_law := by decide +kernel
set_option maxRecDepth 100000 in
theorem mw_424 : (.fieldLink RX8 80 "GroundKeeperModel" "wy" "[I" : Cond) ∈ wsL_law := by decide +kernel
set_option maxRecDepth 100000 in
theorem mw_425 : (.fieldLink RX8 129 "GroundKeeperModel" "walkers" "I" : Cond) ∈ wsL_law := by decide +kernel
set_option maxRecDepth 100000 in
theorem mw_426 : (.fieldLink RX8 83 "GroundKeeperModel" "ahead" "[I" : Cond) ∈ wsL_law := by decide +kernel
set_option maxRecDepth 100000 in
theorem mw_427 : (.fieldLink RX8 86 "GroundKeeperModel" "rowLevel" "[I" : Cond) ∈ wsL_law := by decide +kernel
set_option maxRecDepth 100000 in
theorem mw_428 : (.fieldLink RX8 89 "GroundKeeperModel" "rowX" "[I" : Cond) ∈ wsL_law := by decide +kernel
set_option maxRecDepth 100000 in
theorem mw_429 : (.fieldLink RX8 92 "GroundKeeperModel" "rowY" "[I" : Cond) ∈ wsL_law := by decide +kernel
set_option maxRecDepth 100000 in
theorem mw_430 : (.fieldLink RX8 98 "GroundKeeperModel" "isStuck" "[Z" : Cond) ∈ wsL_law := by decide +kernel
set_option maxRecDepth 100000 in
theorem mw_431 : (.fieldLink RX8 107 "GroundKeeperModel" "looked" "[I" : Cond) ∈ wsL_law := by decide +kernel
set_option maxRecDepth 100000 in
theorem mw_432 : (.fieldLink RX8 95 "GroundKeeperModel" "waited" "[I" : Cond) ∈ wsL_law := by decide +kernel
set_option maxRecDepth 100000 in
theorem mw_433 : (.fieldLink RX8 101 "GroundKeeperModel" "steps" "[I" : Cond) ∈ wsL_law := by decide +kernel
set_option maxRecDepth 100000 in
theorem mw_434 : (.fieldLink RX8 104 "GroundKeeperModel" "went" "[I" : Cond) ∈ wsL_law := by decide +kernel
set_option maxRecDepth 100000 in
theorem mw_435 : (.methodLink RX8 247 yX8_readBack : Cond) ∈ wsL_law := by decide +kernel
set_option maxRecDepth 100000 in
theorem mw_436 : (.instanceMethod yX8_readBack : Cond) ∈ wsL_law := by decide +kernel
set_option maxRecDepth 100000 in
theorem mw_437 : (.selects RX8 yX8_readBack yX8_readBack : Cond) ∈ wsL_law := by decide +kernel
set_option maxRecDepth 100000 in
theorem mw_438 : (.code yX8_readBack cX8_readBack 3 none : Cond) ∈ wsL_law := by decide +kernel
set_option maxRecDepth 100000 in
theorem mw_439 : (.methodLink RX8 253 yX8_isTaken : Cond) ∈ wsL_law := by decide +kernel
set_option maxRecDepth 100000 in
theorem mw_440 : (.instanceMethod yX8_isTaken : Cond) ∈ wsL_law := by decide +kernel
set_option maxRecDepth 100000 in
theorem mw_441 : (.selects RX8 yX8_isTaken yX8_isTaken : Cond) ∈ wsL_law := by decide +kernel
set_option maxRecDepth 100000 in
theorem mw_442 : (.code yX8_isTaken cX8_isTaken 6 (some .boolean) : Cond) ∈ wsL_law := by decide +kernel
set_option maxRecDepth 100000 in
theorem mw_443 : (.methodLink RX8 244 yX8_settles : Cond) ∈ wsL_law := by decide +kernel
set_option maxRecDepth 100000 in
theorem mw_444 : (.instanceMethod yX8_settles : Cond) ∈ wsL_law := by decide +kernel
set_option maxRecDepth 100000 in
theorem mw_445 : (.selects RX8 yX8_settles yX8_settles : Cond) ∈ wsL_law := by decide +kernel
set_option maxRecDepth 100000 in
theorem mw_446 : (.code yX8_settles cX8_settles 5 none : Cond) ∈ wsL_law := by decide +kernel
set_option maxRecDepth 100000 in
theorem mw_447 : (.methodLink RX8 259 yX8_follows : Cond) ∈ wsL_law := by decide +kernel
set_option maxRecDepth 100000 in
theorem mw_448 : (.instanceMethod yX8_follows : Cond) ∈ wsL_law := by decide +kernel
set_option maxRecDepth 100000 in
theorem mw_449 : (.selects RX8 yX8_follows yX8_follows : Cond) ∈ wsL_law := by decide +kernel
set_option maxRecDepth 100000 in
theorem mw_450 : (.code yX8_follows cX8_follows 3 none : Cond) ∈ wsL_law := by decide +kernel
set_option maxRecDepth 100000 in
theorem mw_451 : (.methodLink RX8 240 yX8_findNodes : Cond) ∈ wsL_law := by decide +kernel
set_option maxRecDepth 100000 in
theorem mw_452 : (.instanceMethod yX8_findNodes : Cond) ∈ wsL_law := by decide +kernel
set_option maxRecDepth 100000 in
theorem mw_453 : (.selects RX8 yX8_findNodes yX8_findNodes : Cond) ∈ wsL_law := by decide +kernel
set_option maxRecDepth 100000 in
theorem mw_454 : (.code yX8_findNodes cX8_findNodes 8 none : Cond) ∈ wsL_law := by decide +kernel
set_option maxRecDepth 100000 in
theorem mw_455 : (.methodLink RX8 263 yX8_looksAnew : Cond) ∈ wsL_law := by decide +kernel
set_option maxRecDepth 100000 in
theorem mw_456 : (.instanceMethod yX8_looksAnew : Cond) ∈ wsL_law := by decide +kernel
set_option maxRecDepth 100000 in
theorem mw_457 : (.selects RX8 yX8_looksAnew yX8_looksAnew : Cond) ∈ wsL_law := by decide +kernel
set_option maxRecDepth 100000 in
theorem mw_458 : (.code yX8_looksAnew cX8_looksAnew 8 none : Cond) ∈ wsL_law := by decide +kernel
set_option maxRecDepth 100000 in
theorem mw_459 : (.fieldLink RX8 266 "GroundKeeperModel" "ticks" "I" : Cond) ∈ wsL_law := by decide +kernel
set_option maxRecDepth 100000 in
theorem mw_460 : (.fieldLink RX8 65 "GroundKeeperModel" "bendX" "[I" : Cond) ∈ wsL_law := by decide +kernel
set_option maxRecDepth 100000 in
theorem mw_461 : (.fieldLink RX8 68 "GroundKeeperModel" "bendY" "[I" : Cond) ∈ wsL_law := by decide +kernel
set_option maxRecDepth 100000 in
theorem mw_462 : (.fieldLink RX8 71 "GroundKeeperModel" "bendLevel" "[I" : Cond) ∈ wsL_law := by decide +kernel
set_option maxRecDepth 100000 in
theorem mw_463 : (.fieldLink RX8 250 "GroundKeeperModel" "bends" "I" : Cond) ∈ wsL_law := by decide +kernel
set_option maxRecDepth 100000 in
theorem mw_464 : (.constantLong RX8 277 31 : Cond) ∈ wsL_law := by decide +kernel
set_option maxRecDepth 100000 in
theorem mw_465 : (.constantLong RX8 275 89 : Cond) ∈ wsL_law := by decide +kernel
set_option maxRecDepth 100000 in
theorem mw_466 : (.constant RX8 145 1000000 : Cond) ∈ wsL_law := by decide +kernel
set_option maxRecDepth 100000 in
theorem mw_467 : (.methodLink RX8 269 yX8_turn : Cond) ∈ wsL_law := by decide +kernel
set_option maxRecDepth 100000 in
theorem mw_468 : (.instanceMethod yX8_turn : Cond) ∈ wsL_law := by decide +kernel
set_option maxRecDepth 100000 in
theorem mw_469 : (.selects RX8 yX8_turn yX8_turn : Cond) ∈ wsL_law := by decide +kernel
set_option maxRecDepth 100000 in
theorem mw_470 : (.code yX8_turn cX8_turn 8 none : Cond) ∈ wsL_law := by decide +kernel
set_option maxRecDepth 100000 in
theorem mw_471 : (.methodLink RX8 256 yX8_isWalker : Cond) ∈ wsL_law := by decide +kernel
set_option maxRecDepth 100000 in
theorem mw_472 : (.instanceMethod yX8_isWalker : Cond) ∈ wsL_law := by decide +kernel
set_option maxRecDepth 100000 in
theorem mw_473 : (.selects RX8 yX8_isWalker yX8_isWalker : Cond) ∈ wsL_law := by decide +kernel
set_option maxRecDepth 100000 in
theorem mw_474 : (.code yX8_isWalker cX8_isWalker 2 (some .boolean) : Cond) ∈ wsL_law := by decide +kernel
set_option maxRecDepth 100000 in
theorem mw_475 : (.methodLink RX8 272 yX8_aboutOf : Cond) ∈ wsL_law := by decide +kernel
set_option maxRecDepth 100000 in
theorem mw_476 : (.instanceMethod yX8_aboutOf : Cond) ∈ wsL_law := by decide +kernel
set_option maxRecDepth 100000 in
theorem mw_477 : (.selects RX8 yX8_aboutOf yX8_aboutOf : Cond) ∈ wsL_law := by decide +kernel
set_option maxRecDepth 100000 in
theorem mw_478 : (.code yX8_aboutOf cX8_aboutOf 3 (some .int) : Cond) ∈ wsL_law := by decide +kernel
set_option maxRecDepth 100000 in
theorem mw_479 : (.methodLink RX8 279 yX8_count : Cond) ∈ wsL_law := by decide +kernel
set_option maxRecDepth 100000 in
theorem mw_480 : (.instanceMethod yX8_count : Cond) ∈ wsL_law := by decide +kernel
set_option maxRecDepth 100000 in
theorem mw_481 : (.selects RX8 yX8_count yX8_count : Cond) ∈ wsL_law := by decide +kernel
set_option maxRecDepth 100000 in
theorem mw_482 : (.code yX8_count cX8_count 4 (some .int) : Cond) ∈ wsL_law := by decide +kernel
set_option maxRecDepth 100000 in
theorem mw_483 : (.methodLink RX8 125 yX8_lays : Cond) ∈ wsL_law := by decide +kernel
set_option maxRecDepth 100000 in
theorem mw_484 : (.static yX8_lays : Cond) ∈ wsL_law := by decide +kernel
set_option maxRecDepth 100000 in
theorem mw_485 : (.code yX8_lays cX8_lays 7 none : Cond) ∈ wsL_law := by decide +kernel
set_option maxRecDepth 100000 in
theorem mw_486 : (.methodLink RX8 117 yX8_isField : Cond) ∈ wsL_law := by decide +kernel
set_option maxRecDepth 100000 in
theorem mw_487 : (.static yX8_isField : Cond) ∈ wsL_law := by decide +kernel
set_option maxRecDepth 100000 in
theorem mw_488 : (.code yX8_isField cX8_isField 5 (some .boolean) : Cond) ∈ wsL_law := by decide +kernel
set_option maxRecDepth 100000 in
theorem mw_489 : (.methodLink RX8 132 yX8_isLine : Cond) ∈ wsL_law := by decide +kernel
set_option maxRecDepth 100000 in
theorem mw_490 : (.static yX8_isLine : Cond) ∈ wsL_law := by decide +kernel
set_option maxRecDepth 100000 in
theorem mw_491 : (.code yX8_isLine cX8_isLine 5 (some .boolean) : Cond) ∈ wsL_law := by decide +kernel
set_option maxRecDepth 100000 in
theorem mw_492 : (.methodLink RX0 1 objectInit : Cond) ∈ wsL_law := by decide +kernel
set_option maxRecDepth 100000 in
theorem mw_493 : (.instanceMethod objectInit : Cond) ∈ wsL_law := by decide +kernel
set_option maxRecDepth 100000 in
theorem mw_494 : (.code objectInit ⟨#[0xb1]⟩ 1 none : Cond) ∈ wsL_law := by decide +kernel
set_option maxRecDepth 100000 in
theorem mw_495 : (.methodLink RX4 1 objectInit : Cond) ∈ wsL_law := by decide +kernel
set_option maxRecDepth 100000 in
theorem mw_496 : (.fieldLink RX5 9 "GroundKeeper$Row" "places" "[I" : Cond) ∈ wsL_law := by decide +kernel
set_option maxRecDepth 100000 in
theorem mw_497 : (.methodLink RX5 1 objectInit : Cond) ∈ wsL_law := by decide +kernel
set_option maxRecDepth 100000 in
theorem mw_498 : (.arrayClass .int : Cond) ∈ wsL_law := by decide +kernel
set_option maxRecDepth 100000 in
theorem mw_499 : (.methodLink RX6 1 objectInit : Cond) ∈ wsL_law := by decide +kernel
set_option maxRecDepth 100000 in
theorem mw_500 : (.classLink RX6 7 RX5 : Cond) ∈ wsL_law := by decide +kernel
set_option maxRecDepth 100000 in
theorem mw_501 : (.instantiable RX5 2 : Cond) ∈ wsL_law := by decide +kernel
set_option maxRecDepth 100000 in
theorem mw_502 : (.initialized RX5 : Cond) ∈ wsL_law := by decide +kernel
set_option maxRecDepth 100000 in
theorem mw_503 : (.methodLink RX6 9 yX5_init : Cond) ∈ wsL_law := by decide +kernel
set_option maxRecDepth 100000 in
theorem mw_504 : (.instanceMethod yX5_init : Cond) ∈ wsL_law := by decide +kernel
set_option maxRecDepth 100000 in
theorem mw_505 : (.classLink RX1 9 RX0 : Cond) ∈ wsL_law := by decide +kernel
set_option maxRecDepth 100000 in
theorem mw_506 : (.instantiable RX0 6 : Cond) ∈ wsL_law := by decide +kernel
set_option maxRecDepth 100000 in
theorem mw_507 : (.instanceMethod yX0_init : Cond) ∈ wsL_law := by decide +kernel
set_option maxRecDepth 100000 in
theorem mw_508 : (.methodLink RX1 3 objectInit : Cond) ∈ wsL_law := by decide +kernel
set_option maxRecDepth 100000 in
theorem mw_509 : (.code yX5_init cX5_init 1 none : Cond) ∈ wsL_law := by decide +kernel
set_option maxRecDepth 100000 in
theorem mw_510 : (.code yX0_init cX0_init 1 none : Cond) ∈ wsL_law := by decide +kernel
set_option maxRecDepth 100000 in
theorem mw_511 : (.methodLink RX2 3 objectInit : Cond) ∈ wsL_law := by decide +kernel
set_option maxRecDepth 100000 in
theorem mw_512 : (.arrayClass .boolean : Cond) ∈ wsL_law := by decide +kernel
set_option maxRecDepth 100000 in
theorem mw_513 : (.methodLink RX3 3 objectInit : Cond) ∈ wsL_law := by decide +kernel
set_option maxRecDepth 100000 in
theorem mw_514 : (.classLink RX3 9 RX1 : Cond) ∈ wsL_law := by decide +kernel
set_option maxRecDepth 100000 in
theorem mw_515 : (.instantiable RX1 2 : Cond) ∈ wsL_law := by decide +kernel
set_option maxRecDepth 100000 in
theorem mw_516 : (.methodLink RX3 11 yX1_init : Cond) ∈ wsL_law := by decide +kernel
set_option maxRecDepth 100000 in
theorem mw_517 : (.instanceMethod yX1_init : Cond) ∈ wsL_law := by decide +kernel
set_option maxRecDepth 100000 in
theorem mw_518 : (.classLink RX3 39 RX4 : Cond) ∈ wsL_law := by decide +kernel
set_option maxRecDepth 100000 in
theorem mw_519 : (.instantiable RX4 10 : Cond) ∈ wsL_law := by decide +kernel
set_option maxRecDepth 100000 in
theorem mw_520 : (.instanceMethod yX4_init : Cond) ∈ wsL_law := by decide +kernel
set_option maxRecDepth 100000 in
theorem mw_521 : (.code yX1_init cX1_init 3 none : Cond) ∈ wsL_law := by decide +kernel
set_option maxRecDepth 100000 in
theorem mw_522 : (.code yX4_init cX4_init 1 none : Cond) ∈ wsL_law := by decide +kernel
set_option maxRecDepth 100000 in
theorem mw_523 : (.classLink RX7 32 RX6 : Cond) ∈ wsL_law := by decide +kernel
set_option maxRecDepth 100000 in
theorem mw_524 : (.instantiable RX6 8 : Cond) ∈ wsL_law := by decide +kernel
set_option maxRecDepth 100000 in
theorem mw_525 : (.methodLink RX7 38 yX6_init : Cond) ∈ wsL_law := by decide +kernel
set_option maxRecDepth 100000 in
theorem mw_526 : (.instanceMethod yX6_init : Cond) ∈ wsL_law := by decide +kernel
set_option maxRecDepth 100000 in
theorem mw_527 : (.methodLink RX7 3 objectInit : Cond) ∈ wsL_law := by decide +kernel
set_option maxRecDepth 100000 in
theorem mw_528 : (.classLink RX7 9 RX3 : Cond) ∈ wsL_law := by decide +kernel
set_option maxRecDepth 100000 in
theorem mw_529 : (.instantiable RX3 9 : Cond) ∈ wsL_law := by decide +kernel
set_option maxRecDepth 100000 in
theorem mw_530 : (.methodLink RX7 11 yX3_init : Cond) ∈ wsL_law := by decide +kernel
set_option maxRecDepth 100000 in
theorem mw_531 : (.instanceMethod yX3_init : Cond) ∈ wsL_law := by decide +kernel
set_option maxRecDepth 100000 in
theorem mw_532 : (.classLink RX7 16 RX2 : Cond) ∈ wsL_law := by decide +kernel
set_option maxRecDepth 100000 in
theorem mw_533 : (.instantiable RX2 9 : Cond) ∈ wsL_law := by decide +kernel
set_option maxRecDepth 100000 in
theorem mw_534 : (.methodLink RX7 18 yX2_init : Cond) ∈ wsL_law := by decide +kernel
set_option maxRecDepth 100000 in
theorem mw_535 : (.instanceMethod yX2_init : Cond) ∈ wsL_law := by decide +kernel
set_option maxRecDepth 100000 in
theorem mw_536 : (.classLink RX7 25 RX5 : Cond) ∈ wsL_law := by decide +kernel
set_option maxRecDepth 100000 in
theorem mw_537 : (.methodLink RX7 27 yX5_init : Cond) ∈ wsL_law := by decide +kernel
set_option maxRecDepth 100000 in
theorem mw_538 : (.code yX6_init cX6_init 1 none : Cond) ∈ wsL_law := by decide +kernel
set_option maxRecDepth 100000 in
theorem mw_539 : (.code yX3_init cX3_init 1 none : Cond) ∈ wsL_law := by decide +kernel
set_option maxRecDepth 100000 in
theorem mw_540 : (.code yX2_init cX2_init 2 none : Cond) ∈ wsL_law := by decide +kernel
set_option maxRecDepth 100000 in
theorem mw_541 : (.methodLink RX8 1 objectInit : Cond) ∈ wsL_law := by decide +kernel
set_option maxRecDepth 100000 in
theorem mw_542 : (.methodLink RL 13 yX7_room : Cond) ∈ wsL_law := by decide +kernel
set_option maxRecDepth 100000 in
theorem mw_543 : (.instanceMethod yX7_room : Cond) ∈ wsL_law := by decide +kernel
set_option maxRecDepth 100000 in
theorem mw_544 : (.selects RX7 yX7_room yX7_room : Cond) ∈ wsL_law := by decide +kernel
set_option maxRecDepth 100000 in
theorem mw_545 : (.code yX7_room cX7_room 6 (some .int) : Cond) ∈ wsL_law := by decide +kernel
set_option maxRecDepth 100000 in
theorem mw_546 : (.methodLink RL 17 yX8_room : Cond) ∈ wsL_law := by decide +kernel
set_option maxRecDepth 100000 in
theorem mw_547 : (.instanceMethod yX8_room : Cond) ∈ wsL_law := by decide +kernel
set_option maxRecDepth 100000 in
theorem mw_548 : (.selects RX8 yX8_room yX8_room : Cond) ∈ wsL_law := by decide +kernel
set_option maxRecDepth 100000 in
theorem mw_549 : (.code yX8_room cX8_room 6 (some .int) : Cond) ∈ wsL_law := by decide +kernel
set_option maxRecDepth 100000 in
theorem mw_550 : (.methodLink RL 18 yX7_box : Cond) ∈ wsL_law := by decide +kernel
set_option maxRecDepth 100000 in
theorem mw_551 : (.instanceMethod yX7_box : Cond) ∈ wsL_law := by decide +kernel
set_option maxRecDepth 100000 in
theorem mw_552 : (.selects RX7 yX7_box yX7_box : Cond) ∈ wsL_law := by decide +kernel
set_option maxRecDepth 100000 in
theorem mw_553 : (.code yX7_box cX7_box 9 (some .int) : Cond) ∈ wsL_law := by decide +kernel
set_option maxRecDepth 100000 in
theorem mw_554 : (.methodLink RL 21 yX8_box : Cond) ∈ wsL_law := by decide +kernel
set_option maxRecDepth 100000 in
theorem mw_555 : (.instanceMethod yX8_box : Cond) ∈ wsL_law := by decide +kernel
set_option maxRecDepth 100000 in
theorem mw_556 : (.selects RX8 yX8_box yX8_box : Cond) ∈ wsL_law := by decide +kernel
set_option maxRecDepth 100000 in
theorem mw_557 : (.code yX8_box cX8_box 7 (some .int) : Cond) ∈ wsL_law := by decide +kernel
set_option maxRecDepth 100000 in
theorem mw_558 : (.methodLink RL 22 yX7_take : Cond) ∈ wsL_law := by decide +kernel
set_option maxRecDepth 100000 in
theorem mw_559 : (.instanceMethod yX7_take : Cond) ∈ wsL_law := by decide +kernel
set_option maxRecDepth 100000 in
theorem mw_560 : (.selects RX7 yX7_take yX7_take : Cond) ∈ wsL_law := by decide +kernel
set_option maxRecDepth 100000 in
theorem mw_561 : (.code yX7_take cX7_take 3 (some .int) : Cond) ∈ wsL_law := by decide +kernel
set_option maxRecDepth 100000 in
theorem mw_562 : (.methodLink RL 26 yX8_take : Cond) ∈ wsL_law := by decide +kernel
set_option maxRecDepth 100000 in
theorem mw_563 : (.instanceMethod yX8_take : Cond) ∈ wsL_law := by decide +kernel
set_option maxRecDepth 100000 in
theorem mw_564 : (.selects RX8 yX8_take yX8_take : Cond) ∈ wsL_law := by decide +kernel
set_option maxRecDepth 100000 in
theorem mw_565 : (.code yX8_take cX8_take 2 (some .int) : Cond) ∈ wsL_law := by decide +kernel
set_option maxRecDepth 100000 in
theorem mw_566 : (.methodLink RL 27 yX7_door : Cond) ∈ wsL_law := by decide +kernel
set_option maxRecDepth 100000 in
theorem mw_567 : (.instanceMethod yX7_door : Cond) ∈ wsL_law := by decide +kernel
set_option maxRecDepth 100000 in
theorem mw_568 : (.selects RX7 yX7_door yX7_door : Cond) ∈ wsL_law := by decide +kernel
set_option maxRecDepth 100000 in
theorem mw_569 : (.code yX7_door cX7_door 6 (some .int) : Cond) ∈ wsL_law := by decide +kernel
set_option maxRecDepth 100000 in
theorem mw_570 : (.methodLink RL 30 yX8_door : Cond) ∈ wsL_law := by decide +kernel
set_option maxRecDepth 100000 in
theorem mw_571 : (.instanceMethod yX8_door : Cond) ∈ wsL_law := by decide +kernel
set_option maxRecDepth 100000 in
theorem mw_572 : (.selects RX8 yX8_door yX8_door : Cond) ∈ wsL_law := by decide +kernel
set_option maxRecDepth 100000 in
theorem mw_573 : (.code yX8_door cX8_door 6 (some .int) : Cond) ∈ wsL_law := by decide +kernel
set_option maxRecDepth 100000 in
theorem mw_574 : (.methodLink RL 31 yX7_shut : Cond) ∈ wsL_law := by decide +kernel
set_option maxRecDepth 100000 in
theorem mw_575 : (.instanceMethod yX7_shut : Cond) ∈ wsL_law := by decide +kernel
set_option maxRecDepth 100000 in
theorem mw_576 : (.selects RX7 yX7_shut yX7_shut : Cond) ∈ wsL_law := by decide +kernel
set_option maxRecDepth 100000 in
theorem mw_577 : (.code yX7_shut cX7_shut 4 (some .int) : Cond) ∈ wsL_law := by decide +kernel
set_option maxRecDepth 100000 in
theorem mw_578 : (.methodLink RL 35 yX8_shut : Cond) ∈ wsL_law := by decide +kernel
set_option maxRecDepth 100000 in
theorem mw_579 : (.instanceMethod yX8_shut : Cond) ∈ wsL_law := by decide +kernel
set_option maxRecDepth 100000 in
theorem mw_580 : (.selects RX8 yX8_shut yX8_shut : Cond) ∈ wsL_law := by decide +kernel
set_option maxRecDepth 100000 in
theorem mw_581 : (.code yX8_shut cX8_shut 4 (some .int) : Cond) ∈ wsL_law := by decide +kernel
set_option maxRecDepth 100000 in
theorem mw_582 : (.methodLink RL 36 yX7_ledge : Cond) ∈ wsL_law := by decide +kernel
set_option maxRecDepth 100000 in
theorem mw_583 : (.instanceMethod yX7_ledge : Cond) ∈ wsL_law := by decide +kernel
set_option maxRecDepth 100000 in
theorem mw_584 : (.selects RX7 yX7_ledge yX7_ledge : Cond) ∈ wsL_law := by decide +kernel
set_option maxRecDepth 100000 in
theorem mw_585 : (.code yX7_ledge cX7_ledge 7 (some .int) : Cond) ∈ wsL_law := by decide +kernel
set_option maxRecDepth 100000 in
theorem mw_586 : (.methodLink RL 40 yX8_ledge : Cond) ∈ wsL_law := by decide +kernel
set_option maxRecDepth 100000 in
theorem mw_587 : (.instanceMethod yX8_ledge : Cond) ∈ wsL_law := by decide +kernel
set_option maxRecDepth 100000 in
theorem mw_588 : (.selects RX8 yX8_ledge yX8_ledge : Cond) ∈ wsL_law := by decide +kernel
set_option maxRecDepth 100000 in
theorem mw_589 : (.code yX8_ledge cX8_ledge 7 (some .int) : Cond) ∈ wsL_law := by decide +kernel
set_option maxRecDepth 100000 in
theorem mw_590 : (.methodLink RL 41 yX7_ladder : Cond) ∈ wsL_law := by decide +kernel
set_option maxRecDepth 100000 in
theorem mw_591 : (.instanceMethod yX7_ladder : Cond) ∈ wsL_law := by decide +kernel
set_option maxRecDepth 100000 in
theorem mw_592 : (.selects RX7 yX7_ladder yX7_ladder : Cond) ∈ wsL_law := by decide +kernel
set_option maxRecDepth 100000 in
theorem mw_593 : (.code yX7_ladder cX7_ladder 8 (some .int) : Cond) ∈ wsL_law := by decide +kernel
set_option maxRecDepth 100000 in
theorem mw_594 : (.methodLink RL 45 yX8_ladder : Cond) ∈ wsL_law := by decide +kernel
set_option maxRecDepth 100000 in
theorem mw_595 : (.instanceMethod yX8_ladder : Cond) ∈ wsL_law := by decide +kernel
set_option maxRecDepth 100000 in
theorem mw_596 : (.selects RX8 yX8_ladder yX8_ladder : Cond) ∈ wsL_law := by decide +kernel
set_option maxRecDepth 100000 in
theorem mw_597 : (.code yX8_ladder cX8_ladder 8 (some .int) : Cond) ∈ wsL_law := by decide +kernel
set_option maxRecDepth 100000 in
theorem mw_598 : (.methodLink RL 46 yX7_may : Cond) ∈ wsL_law := by decide +kernel
set_option maxRecDepth 100000 in
theorem mw_599 : (.instanceMethod yX7_may : Cond) ∈ wsL_law := by decide +kernel
set_option maxRecDepth 100000 in
theorem mw_600 : (.selects RX7 yX7_may yX7_may : Cond) ∈ wsL_law := by decide +kernel
set_option maxRecDepth 100000 in
theorem mw_601 : (.code yX7_may cX7_may 4 (some .int) : Cond) ∈ wsL_law := by decide +kernel
set_option maxRecDepth 100000 in
theorem mw_602 : (.methodLink RL 50 yX8_may : Cond) ∈ wsL_law := by decide +kernel
set_option maxRecDepth 100000 in
theorem mw_603 : (.instanceMethod yX8_may : Cond) ∈ wsL_law := by decide +kernel
set_option maxRecDepth 100000 in
theorem mw_604 : (.selects RX8 yX8_may yX8_may : Cond) ∈ wsL_law := by decide +kernel
set_option maxRecDepth 100000 in
theorem mw_605 : (.code yX8_may cX8_may 4 (some .int) : Cond) ∈ wsL_law := by decide +kernel
set_option maxRecDepth 100000 in
theorem mw_606 : (.methodLink RL 51 yX7_see : Cond) ∈ wsL_law := by decide +kernel
set_option maxRecDepth 100000 in
theorem mw_607 : (.instanceMethod yX7_see : Cond) ∈ wsL_law := by decide +kernel
set_option maxRecDepth 100000 in
theorem mw_608 : (.selects RX7 yX7_see yX7_see : Cond) ∈ wsL_law := by decide +kernel
set_option maxRecDepth 100000 in
theorem mw_609 : (.code yX7_see cX7_see 6 (some .int) : Cond) ∈ wsL_law := by decide +kernel
set_option maxRecDepth 100000 in
theorem mw_610 : (.methodLink RL 54 yX8_see : Cond) ∈ wsL_law := by decide +kernel
set_option maxRecDepth 100000 in
theorem mw_611 : (.instanceMethod yX8_see : Cond) ∈ wsL_law := by decide +kernel
set_option maxRecDepth 100000 in
theorem mw_612 : (.selects RX8 yX8_see yX8_see : Cond) ∈ wsL_law := by decide +kernel
set_option maxRecDepth 100000 in
theorem mw_613 : (.code yX8_see cX8_see 6 (some .int) : Cond) ∈ wsL_law := by decide +kernel
set_option maxRecDepth 100000 in
theorem mw_614 : (.methodLink RL 55 yX7_way : Cond) ∈ wsL_law := by decide +kernel
set_option maxRecDepth 100000 in
theorem mw_615 : (.instanceMethod yX7_way : Cond) ∈ wsL_law := by decide +kernel
set_option maxRecDepth 100000 in
theorem mw_616 : (.selects RX7 yX7_way yX7_way : Cond) ∈ wsL_law := by decide +kernel
set_option maxRecDepth 100000 in
theorem mw_617 : (.code yX7_way cX7_way 9 (some .int) : Cond) ∈ wsL_law := by decide +kernel
set_option maxRecDepth 100000 in
theorem mw_618 : (.methodLink RL 59 yX8_way : Cond) ∈ wsL_law := by decide +kernel
set_option maxRecDepth 100000 in
theorem mw_619 : (.instanceMethod yX8_way : Cond) ∈ wsL_law := by decide +kernel
set_option maxRecDepth 100000 in
theorem mw_620 : (.selects RX8 yX8_way yX8_way : Cond) ∈ wsL_law := by decide +kernel
set_option maxRecDepth 100000 in
theorem mw_621 : (.code yX8_way cX8_way 8 (some .int) : Cond) ∈ wsL_law := by decide +kernel
set_option maxRecDepth 100000 in
theorem mw_622 : (.methodLink RL 60 yX7_bend : Cond) ∈ wsL_law := by decide +kernel
set_option maxRecDepth 100000 in
theorem mw_623 : (.instanceMethod yX7_bend : Cond) ∈ wsL_law := by decide +kernel
set_option maxRecDepth 100000 in
theorem mw_624 : (.selects RX7 yX7_bend yX7_bend : Cond) ∈ wsL_law := by decide +kernel
set_option maxRecDepth 100000 in
theorem mw_625 : (.code yX7_bend cX7_bend 3 (some .int) : Cond) ∈ wsL_law := by decide +kernel
set_option maxRecDepth 100000 in
theorem mw_626 : (.methodLink RL 64 yX8_bend : Cond) ∈ wsL_law := by decide +kernel
set_option maxRecDepth 100000 in
theorem mw_627 : (.instanceMethod yX8_bend : Cond) ∈ wsL_law := by decide +kernel
set_option maxRecDepth 100000 in
theorem mw_628 : (.selects RX8 yX8_bend yX8_bend : Cond) ∈ wsL_law := by decide +kernel
set_option maxRecDepth 100000 in
theorem mw_629 : (.code yX8_bend cX8_bend 3 (some .int) : Cond) ∈ wsL_law := by decide +kernel
set_option maxRecDepth 100000 in
theorem mw_630 : (.methodLink RL 65 yX7_reach : Cond) ∈ wsL_law := by decide +kernel
set_option maxRecDepth 100000 in
theorem mw_631 : (.instanceMethod yX7_reach : Cond) ∈ wsL_law := by decide +kernel
set_option maxRecDepth 100000 in
theorem mw_632 : (.selects RX7 yX7_reach yX7_reach : Cond) ∈ wsL_law := by decide +kernel
set_option maxRecDepth 100000 in
theorem mw_633 : (.code yX7_reach cX7_reach 5 (some .int) : Cond) ∈ wsL_law := by decide +kernel
set_option maxRecDepth 100000 in
theorem mw_634 : (.methodLink RL 68 yX8_reach : Cond) ∈ wsL_law := by decide +kernel
set_option maxRecDepth 100000 in
theorem mw_635 : (.instanceMethod yX8_reach : Cond) ∈ wsL_law := by decide +kernel
set_option maxRecDepth 100000 in
theorem mw_636 : (.selects RX8 yX8_reach yX8_reach : Cond) ∈ wsL_law := by decide +kernel
set_option maxRecDepth 100000 in
theorem mw_637 : (.code yX8_reach cX8_reach 6 (some .int) : Cond) ∈ wsL_law := by decide +kernel
set_option maxRecDepth 100000 in
theorem mw_638 : (.methodLink RL 69 yX7_walker : Cond) ∈ wsL_law := by decide +kernel
set_option maxRecDepth 100000 in
theorem mw_639 : (.instanceMethod yX7_walker : Cond) ∈ wsL_law := by decide +kernel
set_option maxRecDepth 100000 in
theorem mw_640 : (.selects RX7 yX7_walker yX7_walker : Cond) ∈ wsL_law := by decide +kernel
set_option maxRecDepth 100000 in
theorem mw_641 : (.code yX7_walker cX7_walker 5 (some .int) : Cond) ∈ wsL_law := by decide +kernel
set_option maxRecDepth 100000 in
theorem mw_642 : (.methodLink RL 72 yX8_walker : Cond) ∈ wsL_law := by decide +kernel
set_option maxRecDepth 100000 in
theorem mw_643 : (.instanceMethod yX8_walker : Cond) ∈ wsL_law := by decide +kernel
set_option maxRecDepth 100000 in
theorem mw_644 : (.selects RX8 yX8_walker yX8_walker : Cond) ∈ wsL_law := by decide +kernel
set_option maxRecDepth 100000 in
theorem mw_645 : (.code yX8_walker cX8_walker 6 (some .int) : Cond) ∈ wsL_law := by decide +kernel
set_option maxRecDepth 100000 in
theorem mw_646 : (.methodLink RL 73 yX7_go : Cond) ∈ wsL_law := by decide +kernel
set_option maxRecDepth 100000 in
theorem mw_647 : (.instanceMethod yX7_go : Cond) ∈ wsL_law := by decide +kernel
set_option maxRecDepth 100000 in
theorem mw_648 : (.selects RX7 yX7_go yX7_go : Cond) ∈ wsL_law := by decide +kernel
set_option maxRecDepth 100000 in
theorem mw_649 : (.code yX7_go cX7_go 7 (some .int) : Cond) ∈ wsL_law := by decide +kernel
set_option maxRecDepth 100000 in
theorem mw_650 : (.methodLink RL 77 yX8_go : Cond) ∈ wsL_law := by decide +kernel
set_option maxRecDepth 100000 in
theorem mw_651 : (.instanceMethod yX8_go : Cond) ∈ wsL_law := by decide +kernel
set_option maxRecDepth 100000 in
theorem mw_652 : (.selects RX8 yX8_go yX8_go : Cond) ∈ wsL_law := by decide +kernel
set_option maxRecDepth 100000 in
theorem mw_653 : (.code yX8_go cX8_go 5 (some .int) : Cond) ∈ wsL_law := by decide +kernel
set_option maxRecDepth 100000 in
theorem mw_654 : (.methodLink RL 78 yX7_tick : Cond) ∈ wsL_law := by decide +kernel
set_option maxRecDepth 100000 in
theorem mw_655 : (.instanceMethod yX7_tick : Cond) ∈ wsL_law := by decide +kernel
set_option maxRecDepth 100000 in
theorem mw_656 : (.selects RX7 yX7_tick yX7_tick : Cond) ∈ wsL_law := by decide +kernel
set_option maxRecDepth 100000 in
theorem mw_657 : (.code yX7_tick cX7_tick 4 (some .int) : Cond) ∈ wsL_law := by decide +kernel
set_option maxRecDepth 100000 in
theorem mw_658 : (.methodLink RL 81 yX8_tick : Cond) ∈ wsL_law := by decide +kernel
set_option maxRecDepth 100000 in
theorem mw_659 : (.instanceMethod yX8_tick : Cond) ∈ wsL_law := by decide +kernel
set_option maxRecDepth 100000 in
theorem mw_660 : (.selects RX8 yX8_tick yX8_tick : Cond) ∈ wsL_law := by decide +kernel
set_option maxRecDepth 100000 in
theorem mw_661 : (.code yX8_tick cX8_tick 4 (some .int) : Cond) ∈ wsL_law := by decide +kernel
set_option maxRecDepth 100000 in
theorem mw_662 : (.methodLink RL 82 yX7_about : Cond) ∈ wsL_law := by decide +kernel
set_option maxRecDepth 100000 in
theorem mw_663 : (.methodLink RL 85 yX8_about : Cond) ∈ wsL_law := by decide +kernel
set_option maxRecDepth 100000 in
theorem mw_664 : (.instanceMethod yX8_about : Cond) ∈ wsL_law := by decide +kernel
set_option maxRecDepth 100000 in
theorem mw_665 : (.selects RX8 yX8_about yX8_about : Cond) ∈ wsL_law := by decide +kernel
set_option maxRecDepth 100000 in
theorem mw_666 : (.code yX8_about cX8_about 3 (some .int) : Cond) ∈ wsL_law := by decide +kernel
set_option maxRecDepth 100000 in
theorem mw_667 : (.methodLink RL 86 yX7_count : Cond) ∈ wsL_law := by decide +kernel
set_option maxRecDepth 100000 in
theorem mw_668 : (.methodLink RL 89 yX8_count : Cond) ∈ wsL_law := by decide +kernel
set_option maxRecDepth 100000 in
theorem mw_669 : (.methodLink RL 90 yX7_digest : Cond) ∈ wsL_law := by decide +kernel
set_option maxRecDepth 100000 in
theorem mw_670 : (.instanceMethod yX7_digest : Cond) ∈ wsL_law := by decide +kernel
set_option maxRecDepth 100000 in
theorem mw_671 : (.selects RX7 yX7_digest yX7_digest : Cond) ∈ wsL_law := by decide +kernel
set_option maxRecDepth 100000 in
theorem mw_672 : (.code yX7_digest cX7_digest 5 (some .long) : Cond) ∈ wsL_law := by decide +kernel
set_option maxRecDepth 100000 in
theorem mw_673 : (.methodLink RL 94 yX8_digest : Cond) ∈ wsL_law := by decide +kernel
set_option maxRecDepth 100000 in
theorem mw_674 : (.instanceMethod yX8_digest : Cond) ∈ wsL_law := by decide +kernel
set_option maxRecDepth 100000 in
theorem mw_675 : (.selects RX8 yX8_digest yX8_digest : Cond) ∈ wsL_law := by decide +kernel
set_option maxRecDepth 100000 in
theorem mw_676 : (.code yX8_digest cX8_digest 5 (some .long) : Cond) ∈ wsL_law := by decide +kernel
set_option maxRecDepth 100000 in
theorem mw_677 : (.code yX7_init cX7_init 3 none : Cond) ∈ wsL_law := by decide +kernel
set_option maxRecDepth 100000 in
theorem mw_678 : (.code yX8_init cX8_init 1 none : Cond) ∈ wsL_law := by decide +kernel
