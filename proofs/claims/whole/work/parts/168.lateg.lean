set_option maxRecDepth 20000 in
theorem gL_law_X7_init : GoodIn lw_tbl (wsX7_init) := goodIn_t win_wsX7_init (by decide +kernel)
set_option maxRecDepth 20000 in
theorem gL_law_X8_init : GoodIn lw_tbl (wsX8_init) := goodIn_t win_wsX8_init (by decide +kernel)
set_option maxRecDepth 20000 in
theorem gL_law_X7_feed : GoodIn lw_tbl (wsV RL 15 RX7 yX7_feed wsX7_feed) := goodIn_app (goodIn_t (fm_c mw_141 (fm_c mw_140 (fm_c mw_139 (fm_c mw_138 ((fun _ h => absurd h List.not_mem_nil)))))) (by decide +kernel)) (goodIn_t win_wsX7_feed (by decide +kernel))
set_option maxRecDepth 20000 in
theorem gL_law_X8_feed : GoodIn lw_tbl (wsV RL 19 RX8 yX8_feed wsX8_feed) := goodIn_app (goodIn_t (fm_c mw_147 (fm_c mw_146 (fm_c mw_145 (fm_c mw_144 ((fun _ h => absurd h List.not_mem_nil)))))) (by decide +kernel)) (goodIn_t win_wsX8_feed (by decide +kernel))
set_option maxRecDepth 20000 in
theorem gL_law_X7_end : GoodIn lw_tbl (wsV RL 20 RX7 yX7_end wsX7_end) := goodIn_app (goodIn_t (fm_c mw_154 (fm_c mw_153 (fm_c mw_152 (fm_c mw_138 ((fun _ h => absurd h List.not_mem_nil)))))) (by decide +kernel)) (goodIn_t win_wsX7_end (by decide +kernel))
set_option maxRecDepth 20000 in
theorem gL_law_X8_end : GoodIn lw_tbl (wsV RL 24 RX8 yX8_end wsX8_end) := goodIn_app (goodIn_t (fm_c mw_161 (fm_c mw_160 (fm_c mw_159 (fm_c mw_144 ((fun _ h => absurd h List.not_mem_nil)))))) (by decide +kernel)) (goodIn_t win_wsX8_end (by decide +kernel))
set_option maxRecDepth 20000 in
theorem gL_law_X7_text : GoodIn lw_tbl (wsV RL 25 RX7 yX7_text wsX7_text) := goodIn_app (goodIn_t (fm_c mw_325 (fm_c mw_324 (fm_c mw_323 (fm_c mw_138 ((fun _ h => absurd h List.not_mem_nil)))))) (by decide +kernel)) (goodIn_t win_wsX7_text (by decide +kernel))
set_option maxRecDepth 20000 in
theorem gL_law_X8_text : GoodIn lw_tbl (wsV RL 29 RX8 yX8_text wsX8_text) := goodIn_app (goodIn_t (fm_c mw_406 (fm_c mw_405 (fm_c mw_404 (fm_c mw_144 ((fun _ h => absurd h List.not_mem_nil)))))) (by decide +kernel)) (goodIn_t win_wsX8_text (by decide +kernel))
set_option maxRecDepth 20000 in
theorem gL_law_X7_fault : GoodIn lw_tbl (wsV RL 30 RX7 yX7_fault wsX7_fault) := goodIn_app (goodIn_t (fm_c mw_410 (fm_c mw_409 (fm_c mw_408 (fm_c mw_138 ((fun _ h => absurd h List.not_mem_nil)))))) (by decide +kernel)) (goodIn_t win_wsX7_fault (by decide +kernel))
set_option maxRecDepth 20000 in
theorem gL_law_X8_fault : GoodIn lw_tbl (wsV RL 33 RX8 yX8_fault wsX8_fault) := goodIn_app (goodIn_t (fm_c mw_414 (fm_c mw_413 (fm_c mw_412 (fm_c mw_144 ((fun _ h => absurd h List.not_mem_nil)))))) (by decide +kernel)) (goodIn_t win_wsX8_fault (by decide +kernel))
set_option maxRecDepth 20000 in
theorem gL_law_X7_rule : GoodIn lw_tbl (wsV RL 34 RX7 yX7_rule wsX7_rule) := goodIn_app (goodIn_t (fm_c mw_431 (fm_c mw_430 (fm_c mw_429 (fm_c mw_138 ((fun _ h => absurd h List.not_mem_nil)))))) (by decide +kernel)) (goodIn_t win_wsX7_rule (by decide +kernel))
set_option maxRecDepth 20000 in
theorem gL_law_X8_rule : GoodIn lw_tbl (wsV RL 37 RX8 yX8_rule wsX8_rule) := goodIn_app (goodIn_t (fm_c mw_439 (fm_c mw_438 (fm_c mw_437 (fm_c mw_144 ((fun _ h => absurd h List.not_mem_nil)))))) (by decide +kernel)) (goodIn_t win_wsX8_rule (by decide +kernel))
set_option maxRecDepth 20000 in
theorem gL_law_X7_door : GoodIn lw_tbl (wsV RL 38 RX7 yX7_door wsX7_door) := goodIn_app (goodIn_t (fm_c mw_453 (fm_c mw_452 (fm_c mw_451 (fm_c mw_138 ((fun _ h => absurd h List.not_mem_nil)))))) (by decide +kernel)) (goodIn_t win_wsX7_door (by decide +kernel))
set_option maxRecDepth 20000 in
theorem gL_law_X8_door : GoodIn lw_tbl (wsV RL 42 RX8 yX8_door wsX8_door) := goodIn_app (goodIn_t (fm_c mw_462 (fm_c mw_461 (fm_c mw_460 (fm_c mw_144 ((fun _ h => absurd h List.not_mem_nil)))))) (by decide +kernel)) (goodIn_t win_wsX8_door (by decide +kernel))
set_option maxRecDepth 20000 in
theorem gL_law_X7_law : GoodIn lw_tbl (wsV RL 43 RX7 yX7_law wsX7_law) := goodIn_app (goodIn_t (fm_c mw_467 (fm_c mw_466 (fm_c mw_465 (fm_c mw_138 ((fun _ h => absurd h List.not_mem_nil)))))) (by decide +kernel)) (goodIn_t win_wsX7_law (by decide +kernel))
set_option maxRecDepth 20000 in
theorem gL_law_X8_law : GoodIn lw_tbl (wsV RL 46 RX8 yX8_law wsX8_law) := goodIn_app (goodIn_t (fm_c mw_471 (fm_c mw_470 (fm_c mw_469 (fm_c mw_144 ((fun _ h => absurd h List.not_mem_nil)))))) (by decide +kernel)) (goodIn_t win_wsX8_law (by decide +kernel))
set_option maxRecDepth 20000 in
theorem gL_law_X7_doors : GoodIn lw_tbl (wsV RL 47 RX7 yX7_doors wsX7_doors) := goodIn_app (goodIn_t (fm_c mw_485 (fm_c mw_484 (fm_c mw_483 (fm_c mw_138 ((fun _ h => absurd h List.not_mem_nil)))))) (by decide +kernel)) (goodIn_t win_wsX7_doors (by decide +kernel))
set_option maxRecDepth 20000 in
theorem gL_law_X8_doors : GoodIn lw_tbl (wsV RL 50 RX8 yX8_doors wsX8_doors) := goodIn_app (goodIn_t (fm_c mw_501 (fm_c mw_500 (fm_c mw_499 (fm_c mw_144 ((fun _ h => absurd h List.not_mem_nil)))))) (by decide +kernel)) (goodIn_t win_wsX8_doors (by decide +kernel))
set_option maxRecDepth 20000 in
theorem gL_law_X7_bar : GoodIn lw_tbl (wsV RL 51 RX7 yX7_bar wsX7_bar) := goodIn_app (goodIn_t (fm_c mw_508 (fm_c mw_507 (fm_c mw_506 (fm_c mw_138 ((fun _ h => absurd h List.not_mem_nil)))))) (by decide +kernel)) (goodIn_t win_wsX7_bar (by decide +kernel))
set_option maxRecDepth 20000 in
theorem gL_law_X8_bar : GoodIn lw_tbl (wsV RL 55 RX8 yX8_bar wsX8_bar) := goodIn_app (goodIn_t (fm_c mw_516 (fm_c mw_515 (fm_c mw_514 (fm_c mw_144 ((fun _ h => absurd h List.not_mem_nil)))))) (by decide +kernel)) (goodIn_t win_wsX8_bar (by decide +kernel))
set_option maxRecDepth 20000 in
theorem gL_law_X7_period : GoodIn lw_tbl (wsV RL 56 RX7 yX7_period wsX7_period) := goodIn_app (goodIn_t (fm_c mw_520 (fm_c mw_519 (fm_c mw_518 (fm_c mw_138 ((fun _ h => absurd h List.not_mem_nil)))))) (by decide +kernel)) (goodIn_t win_wsX7_period (by decide +kernel))
set_option maxRecDepth 20000 in
theorem gL_law_X8_period : GoodIn lw_tbl (wsV RL 59 RX8 yX8_period wsX8_period) := goodIn_app (goodIn_t (fm_c mw_525 (fm_c mw_524 (fm_c mw_523 (fm_c mw_144 ((fun _ h => absurd h List.not_mem_nil)))))) (by decide +kernel)) (goodIn_t win_wsX8_period (by decide +kernel))
set_option maxRecDepth 20000 in
theorem gL_law_X7_put : GoodIn lw_tbl (wsV RL 60 RX7 yX7_put wsX7_put) := goodIn_app (goodIn_t (fm_c mw_529 (fm_c mw_528 (fm_c mw_527 (fm_c mw_138 ((fun _ h => absurd h List.not_mem_nil)))))) (by decide +kernel)) (goodIn_t win_wsX7_put (by decide +kernel))
set_option maxRecDepth 20000 in
theorem gL_law_X8_put : GoodIn lw_tbl (wsV RL 63 RX8 yX8_put wsX8_put) := goodIn_app (goodIn_t (fm_c mw_533 (fm_c mw_532 (fm_c mw_531 (fm_c mw_144 ((fun _ h => absurd h List.not_mem_nil)))))) (by decide +kernel)) (goodIn_t win_wsX8_put (by decide +kernel))
set_option maxRecDepth 20000 in
theorem gL_law_X7_lurk : GoodIn lw_tbl (wsV RL 64 RX7 yX7_lurk wsX7_lurk) := goodIn_app (goodIn_t (fm_c mw_540 (fm_c mw_539 (fm_c mw_538 (fm_c mw_138 ((fun _ h => absurd h List.not_mem_nil)))))) (by decide +kernel)) (goodIn_t win_wsX7_lurk (by decide +kernel))
set_option maxRecDepth 20000 in
theorem gL_law_X8_lurk : GoodIn lw_tbl (wsV RL 67 RX8 yX8_lurk wsX8_lurk) := goodIn_app (goodIn_t (fm_c mw_544 (fm_c mw_543 (fm_c mw_542 (fm_c mw_144 ((fun _ h => absurd h List.not_mem_nil)))))) (by decide +kernel)) (goodIn_t win_wsX8_lurk (by decide +kernel))
set_option maxRecDepth 20000 in
theorem gL_law_X7_bite : GoodIn lw_tbl (wsV RL 68 RX7 yX7_bite wsX7_bite) := goodIn_app (goodIn_t (fm_c mw_549 (fm_c mw_548 (fm_c mw_547 (fm_c mw_138 ((fun _ h => absurd h List.not_mem_nil)))))) (by decide +kernel)) (goodIn_t win_wsX7_bite (by decide +kernel))
set_option maxRecDepth 20000 in
theorem gL_law_X8_bite : GoodIn lw_tbl (wsV RL 71 RX8 yX8_bite wsX8_bite) := goodIn_app (goodIn_t (fm_c mw_553 (fm_c mw_552 (fm_c mw_551 (fm_c mw_144 ((fun _ h => absurd h List.not_mem_nil)))))) (by decide +kernel)) (goodIn_t win_wsX8_bite (by decide +kernel))
set_option maxRecDepth 20000 in
theorem gL_law_X7_go : GoodIn lw_tbl (wsV RL 72 RX7 yX7_go wsX7_go) := goodIn_app (goodIn_t (fm_c mw_602 (fm_c mw_601 (fm_c mw_600 (fm_c mw_138 ((fun _ h => absurd h List.not_mem_nil)))))) (by decide +kernel)) (goodIn_t win_wsX7_go (by decide +kernel))
set_option maxRecDepth 20000 in
theorem gL_law_X8_go : GoodIn lw_tbl (wsV RL 75 RX8 yX8_go wsX8_go) := goodIn_app (goodIn_t (fm_c mw_636 (fm_c mw_635 (fm_c mw_634 (fm_c mw_144 ((fun _ h => absurd h List.not_mem_nil)))))) (by decide +kernel)) (goodIn_t win_wsX8_go (by decide +kernel))
set_option maxRecDepth 20000 in
theorem gL_law_X7_dusk : GoodIn lw_tbl (wsV RL 76 RX7 yX7_dusk wsX7_dusk) := goodIn_app (goodIn_t (fm_c mw_641 (fm_c mw_640 (fm_c mw_639 (fm_c mw_138 ((fun _ h => absurd h List.not_mem_nil)))))) (by decide +kernel)) (goodIn_t win_wsX7_dusk (by decide +kernel))
set_option maxRecDepth 20000 in
theorem gL_law_X8_dusk : GoodIn lw_tbl (wsV RL 80 RX8 yX8_dusk wsX8_dusk) := goodIn_app (goodIn_t (fm_c mw_646 (fm_c mw_645 (fm_c mw_644 (fm_c mw_144 ((fun _ h => absurd h List.not_mem_nil)))))) (by decide +kernel)) (goodIn_t win_wsX8_dusk (by decide +kernel))
set_option maxRecDepth 20000 in
theorem gL_law_X7_again : GoodIn lw_tbl (wsV RL 81 RX7 yX7_again wsX7_again) := goodIn_app (goodIn_t (fm_c mw_654 (fm_c mw_653 (fm_c mw_652 (fm_c mw_138 ((fun _ h => absurd h List.not_mem_nil)))))) (by decide +kernel)) (goodIn_t win_wsX7_again (by decide +kernel))
set_option maxRecDepth 20000 in
theorem gL_law_X8_again : GoodIn lw_tbl (wsV RL 84 RX8 yX8_again wsX8_again) := goodIn_app (goodIn_t (fm_c mw_658 (fm_c mw_657 (fm_c mw_656 (fm_c mw_144 ((fun _ h => absurd h List.not_mem_nil)))))) (by decide +kernel)) (goodIn_t win_wsX8_again (by decide +kernel))
set_option maxRecDepth 20000 in
theorem gL_law_X7_thread : GoodIn lw_tbl (wsV RL 85 RX7 yX7_thread wsX7_thread) := goodIn_app (goodIn_t (fm_c mw_663 (fm_c mw_662 (fm_c mw_661 (fm_c mw_138 ((fun _ h => absurd h List.not_mem_nil)))))) (by decide +kernel)) (goodIn_t win_wsX7_thread (by decide +kernel))
set_option maxRecDepth 20000 in
theorem gL_law_X8_thread : GoodIn lw_tbl (wsV RL 88 RX8 yX8_thread wsX8_thread) := goodIn_app (goodIn_t (fm_c mw_667 (fm_c mw_666 (fm_c mw_665 (fm_c mw_144 ((fun _ h => absurd h List.not_mem_nil)))))) (by decide +kernel)) (goodIn_t win_wsX8_thread (by decide +kernel))
set_option maxRecDepth 20000 in
theorem gL_law_X7_leads : GoodIn lw_tbl (wsV RL 89 RX7 yX7_leads wsX7_leads) := goodIn_app (goodIn_t (fm_c mw_671 (fm_c mw_670 (fm_c mw_669 (fm_c mw_138 ((fun _ h => absurd h List.not_mem_nil)))))) (by decide +kernel)) (goodIn_t win_wsX7_leads (by decide +kernel))
set_option maxRecDepth 20000 in
theorem gL_law_X8_leads : GoodIn lw_tbl (wsV RL 92 RX8 yX8_leads wsX8_leads) := goodIn_app (goodIn_t (fm_c mw_675 (fm_c mw_674 (fm_c mw_673 (fm_c mw_144 ((fun _ h => absurd h List.not_mem_nil)))))) (by decide +kernel)) (goodIn_t win_wsX8_leads (by decide +kernel))
set_option maxRecDepth 20000 in
theorem gL_law_X7_soonest : GoodIn lw_tbl (wsV RL 93 RX7 yX7_soonest wsX7_soonest) := goodIn_app (goodIn_t (fm_c mw_714 (fm_c mw_713 (fm_c mw_712 (fm_c mw_138 ((fun _ h => absurd h List.not_mem_nil)))))) (by decide +kernel)) (goodIn_t win_wsX7_soonest (by decide +kernel))
set_option maxRecDepth 20000 in
theorem gL_law_X8_soonest : GoodIn lw_tbl (wsV RL 96 RX8 yX8_soonest wsX8_soonest) := goodIn_app (goodIn_t (fm_c mw_743 (fm_c mw_742 (fm_c mw_741 (fm_c mw_144 ((fun _ h => absurd h List.not_mem_nil)))))) (by decide +kernel)) (goodIn_t win_wsX8_soonest (by decide +kernel))
