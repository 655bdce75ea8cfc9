set_option maxRecDepth 20000 in
theorem win_wsX8_walk_r3 : ∀ w ∈ wsX8_walk_r3, w ∈ lw_tbl := (fm_c mw_331 (fm_c mw_127 (fm_c mw_631 (fm_c mw_630 (fm_c mw_629 (fm_c mw_628 (fm_c mw_129 ((fun _ h => absurd h List.not_mem_nil)))))))))
set_option maxRecDepth 20000 in
theorem win_wsX8_walk : ∀ w ∈ wsX8_walk, w ∈ lw_tbl := (fm_c mw_911 (al_in (al_in win_wsX8_walk_r1 (al_in win_wsX8_walk_r2 win_wsX8_walk_r3)) wsL_in_wsX80))
set_option maxRecDepth 20000 in
theorem win_wsX7_keep_r1 : ∀ w ∈ wsX7_keep_r1, w ∈ lw_tbl := (fm_c mw_11 (fm_c mw_14 (fm_c mw_10 (fm_c mw_151 (fm_c mw_150 (fm_c mw_138 (fm_c mw_149 (fm_c mw_924 (fm_c mw_923 (fm_c mw_922 (fm_c mw_921 (fm_c mw_418 (fm_c mw_417 (fm_c mw_416 (fm_c mw_322 (fm_c mw_321 (fm_c mw_320 (fm_c mw_15 (fm_c mw_319 (fm_c mw_64 (fm_c mw_318 (fm_c mw_298 (fm_c mw_297 (fm_c mw_296 ((fun _ h => absurd h List.not_mem_nil))))))))))))))))))))))))))
set_option maxRecDepth 20000 in
theorem win_wsX7_keep_r2 : ∀ w ∈ wsX7_keep_r2, w ∈ lw_tbl := (fm_c mw_63 (fm_c mw_57 (fm_c mw_56 (fm_c mw_55 (fm_c mw_54 (fm_c mw_53 (fm_c mw_52 (fm_c mw_51 (fm_c mw_50 ((fun _ h => absurd h List.not_mem_nil)))))))))))
set_option maxRecDepth 20000 in
theorem win_wsX7_keep : ∀ w ∈ wsX7_keep, w ∈ lw_tbl := (fm_c mw_920 (al_in (al_in (al_in win_wsX7_keep_r1 win_wsX7_keep_r2) wsL_in_wsX70) wsL_in_wsX60))
set_option maxRecDepth 20000 in
theorem win_wsX8_keep : ∀ w ∈ wsX8_keep, w ∈ lw_tbl := (fm_c mw_928 (al_in (fm_c mw_114 (fm_c mw_158 (fm_c mw_157 (fm_c mw_144 (fm_c mw_156 (fm_c mw_915 (fm_c mw_914 (fm_c mw_913 (fm_c mw_912 (fm_c mw_130 ((fun _ h => absurd h List.not_mem_nil)))))))))))) wsL_in_wsX80))
set_option maxRecDepth 20000 in
theorem win_wsX7_back_r1 : ∀ w ∈ wsX7_back_r1, w ∈ lw_tbl := (fm_c mw_11 (fm_c mw_14 (fm_c mw_423 (fm_c mw_151 (fm_c mw_150 (fm_c mw_138 (fm_c mw_149 (fm_c mw_924 (fm_c mw_923 (fm_c mw_922 (fm_c mw_921 (fm_c mw_10 (fm_c mw_322 (fm_c mw_321 (fm_c mw_320 (fm_c mw_15 (fm_c mw_319 (fm_c mw_64 (fm_c mw_318 (fm_c mw_298 (fm_c mw_297 (fm_c mw_296 (fm_c mw_63 (fm_c mw_57 ((fun _ h => absurd h List.not_mem_nil))))))))))))))))))))))))))
set_option maxRecDepth 20000 in
theorem win_wsX7_back_r2 : ∀ w ∈ wsX7_back_r2, w ∈ lw_tbl := (fm_c mw_56 (fm_c mw_55 (fm_c mw_54 (fm_c mw_53 (fm_c mw_52 (fm_c mw_51 (fm_c mw_50 ((fun _ h => absurd h List.not_mem_nil)))))))))
set_option maxRecDepth 20000 in
theorem win_wsX7_back : ∀ w ∈ wsX7_back, w ∈ lw_tbl := (fm_c mw_932 (al_in (al_in (al_in win_wsX7_back_r1 win_wsX7_back_r2) wsL_in_wsX70) wsL_in_wsX60))
set_option maxRecDepth 20000 in
theorem win_wsX8_back : ∀ w ∈ wsX8_back, w ∈ lw_tbl := (fm_c mw_936 (al_in (fm_c mw_114 (fm_c mw_130 (fm_c mw_158 (fm_c mw_157 (fm_c mw_144 (fm_c mw_156 (fm_c mw_915 (fm_c mw_914 (fm_c mw_913 (fm_c mw_912 ((fun _ h => absurd h List.not_mem_nil)))))))))))) wsL_in_wsX80))
set_option maxRecDepth 20000 in
theorem win_wsX7_sheet : ∀ w ∈ wsX7_sheet, w ∈ lw_tbl := (fm_c mw_940 (al_in (al_in (fm_c mw_39 (fm_c mw_955 (fm_c mw_954 (fm_c mw_953 (fm_c mw_138 (fm_c mw_952 (fm_c mw_151 (fm_c mw_150 (fm_c mw_149 (fm_c mw_951 (fm_c mw_950 (fm_c mw_949 (fm_c mw_948 (fm_c mw_947 (fm_c mw_946 (fm_c mw_36 (fm_c mw_945 (fm_c mw_98 (fm_c mw_97 (fm_c mw_99 (fm_c mw_944 (fm_c mw_943 (fm_c mw_942 (fm_c mw_941 ((fun _ h => absurd h List.not_mem_nil)))))))))))))))))))))))))) wsL_in_wsX70) wsL_in_wsX50))
set_option maxRecDepth 20000 in
theorem win_wsX8_sheet : ∀ w ∈ wsX8_sheet, w ∈ lw_tbl := (fm_c mw_959 (al_in (fm_c mw_375 (fm_c mw_459 (fm_c mw_113 (fm_c mw_112 (fm_c mw_111 (fm_c mw_158 (fm_c mw_157 (fm_c mw_144 (fm_c mw_156 ((fun _ h => absurd h List.not_mem_nil))))))))))) wsL_in_wsX80))
set_option maxRecDepth 20000 in
theorem win_wsX7_lay : ∀ w ∈ wsX7_lay, w ∈ lw_tbl := (fm_c mw_963 (al_in (al_in (fm_c mw_39 (fm_c mw_972 (fm_c mw_955 (fm_c mw_954 (fm_c mw_953 (fm_c mw_138 (fm_c mw_952 (fm_c mw_151 (fm_c mw_150 (fm_c mw_149 (fm_c mw_971 (fm_c mw_970 (fm_c mw_969 (fm_c mw_36 (fm_c mw_968 (fm_c mw_97 (fm_c mw_98 (fm_c mw_967 (fm_c mw_966 (fm_c mw_965 (fm_c mw_964 (fm_c mw_99 ((fun _ h => absurd h List.not_mem_nil)))))))))))))))))))))))) wsL_in_wsX70) wsL_in_wsX50))
set_option maxRecDepth 20000 in
theorem win_wsX8_lay : ∀ w ∈ wsX8_lay, w ∈ lw_tbl := (fm_c mw_976 (al_in (fm_c mw_375 (fm_c mw_113 (fm_c mw_112 (fm_c mw_111 (fm_c mw_158 (fm_c mw_157 (fm_c mw_144 (fm_c mw_156 ((fun _ h => absurd h List.not_mem_nil)))))))))) wsL_in_wsX80))
set_option maxRecDepth 20000 in
theorem win_wsX7_read_r1 : ∀ w ∈ wsX7_read_r1, w ∈ lw_tbl := (fm_c mw_12 (fm_c mw_14 (fm_c mw_39 (fm_c mw_38 (fm_c mw_981 (fm_c mw_955 (fm_c mw_954 (fm_c mw_953 (fm_c mw_138 (fm_c mw_952 (fm_c mw_151 (fm_c mw_150 (fm_c mw_149 (fm_c mw_951 (fm_c mw_950 (fm_c mw_949 (fm_c mw_322 (fm_c mw_321 (fm_c mw_320 (fm_c mw_15 (fm_c mw_319 (fm_c mw_64 (fm_c mw_318 (fm_c mw_298 ((fun _ h => absurd h List.not_mem_nil))))))))))))))))))))))))))
set_option maxRecDepth 20000 in
theorem win_wsX7_read_r2 : ∀ w ∈ wsX7_read_r2, w ∈ lw_tbl := (fm_c mw_297 (fm_c mw_296 (fm_c mw_63 (fm_c mw_57 (fm_c mw_56 (fm_c mw_55 (fm_c mw_54 (fm_c mw_53 (fm_c mw_52 (fm_c mw_51 (fm_c mw_50 (fm_c mw_971 (fm_c mw_970 (fm_c mw_969 (fm_c mw_36 (fm_c mw_968 (fm_c mw_97 (fm_c mw_98 (fm_c mw_559 (fm_c mw_558 (fm_c mw_557 (fm_c mw_556 (fm_c mw_18 (fm_c mw_419 ((fun _ h => absurd h List.not_mem_nil))))))))))))))))))))))))))
set_option maxRecDepth 20000 in
theorem win_wsX7_read_r3 : ∀ w ∈ wsX7_read_r3, w ∈ lw_tbl := (fm_c mw_422 (fm_c mw_423 (fm_c mw_504 (fm_c mw_308 (fm_c mw_307 (fm_c mw_19 (fm_c mw_306 (fm_c mw_71 (fm_c mw_555 (fm_c mw_475 (fm_c mw_474 (fm_c mw_473 (fm_c mw_62 (fm_c mw_446 (fm_c mw_445 (fm_c mw_444 (fm_c mw_443 (fm_c mw_442 (fm_c mw_441 (fm_c mw_569 (fm_c mw_568 (fm_c mw_567 (fm_c mw_566 (fm_c mw_565 ((fun _ h => absurd h List.not_mem_nil))))))))))))))))))))))))))
set_option maxRecDepth 20000 in
theorem win_wsX7_read_r4 : ∀ w ∈ wsX7_read_r4, w ∈ lw_tbl := (fm_c mw_476 (fm_c mw_564 (fm_c mw_563 (fm_c mw_562 (fm_c mw_561 (fm_c mw_560 (fm_c mw_588 (fm_c mw_587 (fm_c mw_586 (fm_c mw_477 (fm_c mw_585 (fm_c mw_480 (fm_c mw_479 (fm_c mw_478 (fm_c mw_584 (fm_c mw_583 (fm_c mw_582 (fm_c mw_581 (fm_c mw_580 (fm_c mw_579 (fm_c mw_578 (fm_c mw_577 (fm_c mw_576 (fm_c mw_575 ((fun _ h => absurd h List.not_mem_nil))))))))))))))))))))))))))
set_option maxRecDepth 20000 in
theorem win_wsX7_read_r5 : ∀ w ∈ wsX7_read_r5, w ∈ lw_tbl := (fm_c mw_574 (fm_c mw_573 (fm_c mw_572 (fm_c mw_571 (fm_c mw_570 (fm_c mw_599 (fm_c mw_598 (fm_c mw_597 (fm_c mw_596 (fm_c mw_595 (fm_c mw_594 (fm_c mw_593 (fm_c mw_592 (fm_c mw_591 (fm_c mw_590 (fm_c mw_589 (fm_c mw_311 (fm_c mw_310 (fm_c mw_305 (fm_c mw_304 ((fun _ h => absurd h List.not_mem_nil))))))))))))))))))))))
set_option maxRecDepth 20000 in
theorem win_wsX7_read : ∀ w ∈ wsX7_read, w ∈ lw_tbl := (fm_c mw_980 (al_in (al_in (al_in (al_in (al_in win_wsX7_read_r1 (al_in win_wsX7_read_r2 (al_in win_wsX7_read_r3 (al_in win_wsX7_read_r4 win_wsX7_read_r5)))) wsL_in_wsX70) wsL_in_wsX50) wsL_in_wsX60) wsL_in_wsX20))
set_option maxRecDepth 20000 in
theorem win_wsX8_read_r1 : ∀ w ∈ wsX8_read_r1, w ∈ lw_tbl := (fm_c mw_375 (fm_c mw_459 (fm_c mw_987 (fm_c mw_113 (fm_c mw_112 (fm_c mw_111 (fm_c mw_986 (fm_c mw_158 (fm_c mw_157 (fm_c mw_144 (fm_c mw_156 (fm_c mw_915 (fm_c mw_914 (fm_c mw_913 (fm_c mw_912 (fm_c mw_130 (fm_c mw_611 (fm_c mw_610 (fm_c mw_609 (fm_c mw_608 (fm_c mw_458 (fm_c mw_457 (fm_c mw_456 (fm_c mw_455 ((fun _ h => absurd h List.not_mem_nil))))))))))))))))))))))))))
set_option maxRecDepth 20000 in
theorem win_wsX8_read_r2 : ∀ w ∈ wsX8_read_r2, w ∈ lw_tbl := (fm_c mw_334 (fm_c mw_490 (fm_c mw_489 (fm_c mw_488 (fm_c mw_487 (fm_c mw_607 (fm_c mw_606 (fm_c mw_605 (fm_c mw_604 (fm_c mw_128 (fm_c mw_121 (fm_c mw_436 (fm_c mw_435 (fm_c mw_434 (fm_c mw_433 (fm_c mw_627 (fm_c mw_626 (fm_c mw_625 (fm_c mw_624 (fm_c mw_494 (fm_c mw_493 (fm_c mw_492 (fm_c mw_491 (fm_c mw_623 ((fun _ h => absurd h List.not_mem_nil))))))))))))))))))))))))))
set_option maxRecDepth 20000 in
theorem win_wsX8_read_r3 : ∀ w ∈ wsX8_read_r3, w ∈ lw_tbl := (fm_c mw_622 (fm_c mw_621 (fm_c mw_620 (fm_c mw_619 (fm_c mw_618 (fm_c mw_617 (fm_c mw_616 (fm_c mw_615 (fm_c mw_614 (fm_c mw_613 (fm_c mw_612 (fm_c mw_633 (fm_c mw_632 (fm_c mw_331 (fm_c mw_127 (fm_c mw_631 (fm_c mw_630 (fm_c mw_629 (fm_c mw_628 (fm_c mw_129 ((fun _ h => absurd h List.not_mem_nil))))))))))))))))))))))
set_option maxRecDepth 20000 in
theorem win_wsX8_read : ∀ w ∈ wsX8_read, w ∈ lw_tbl := (fm_c mw_985 (al_in (al_in win_wsX8_read_r1 (al_in win_wsX8_read_r2 win_wsX8_read_r3)) wsL_in_wsX80))
set_option maxRecDepth 20000 in
theorem win_wsX7_torn : ∀ w ∈ wsX7_torn, w ∈ lw_tbl := (fm_c mw_991 (al_in (fm_c mw_38 ((fun _ h => absurd h List.not_mem_nil))) wsL_in_wsX70))
set_option maxRecDepth 20000 in
theorem win_wsX8_torn : ∀ w ∈ wsX8_torn, w ∈ lw_tbl := (fm_c mw_995 (al_in (fm_c mw_986 ((fun _ h => absurd h List.not_mem_nil))) wsL_in_wsX80))
set_option maxRecDepth 20000 in
theorem win_wsX7_count : ∀ w ∈ wsX7_count, w ∈ lw_tbl := (fm_c mw_999 (al_in (al_in (al_in (al_in (al_in (fm_c mw_14 (fm_c mw_546 (fm_c mw_2 (fm_c mw_172 (fm_c mw_1 (fm_c mw_10 (fm_c mw_6 (fm_c mw_137 (fm_c mw_39 (fm_c mw_1000 (fm_c mw_505 (fm_c mw_882 (fm_c mw_583 (fm_c mw_582 (fm_c mw_581 (fm_c mw_580 (fm_c mw_579 (fm_c mw_578 ((fun _ h => absurd h List.not_mem_nil)))))))))))))))))))) wsL_in_wsX70) wsL_in_wsX60) wsL_in_wsX00) wsL_in_wsX30) wsL_in_wsX50))
set_option maxRecDepth 20000 in
theorem win_wsX8_count : ∀ w ∈ wsX8_count, w ∈ lw_tbl := (fm_c mw_1004 (al_in (fm_c mw_334 (fm_c mw_130 (fm_c mw_330 (fm_c mw_329 (fm_c mw_114 (fm_c mw_143 (fm_c mw_113 (fm_c mw_112 ((fun _ h => absurd h List.not_mem_nil)))))))))) wsL_in_wsX80))
